def PCZ (D : va_G) (cB : ClassId) (T : List (ClassId × FieldType)) (A : Nat → Prop) (av : List Value) (sz : Nat) (Ph : Heap → Prop) : Array Value → State → Prop := fun a U => PCS D cB T A av Ph a U ∧ U.heap.size = sz
theorem PCZ_blind {D : va_G} {cB : ClassId} {T : List (ClassId × FieldType)} {A : Nat → Prop} {av : List Value} {sz : Nat} {Ph : Heap → Prop} : FrameBlind (PCZ D cB T A av sz Ph) := fun a U g mk q => ⟨PCS_blind a U g mk q.1, q.2⟩
theorem PCZuse {D : va_G} {cB : ClassId} {T : List (ClassId × FieldType)} {A : Nat → Prop} {As : List Value} {Ph : Heap → Prop} {s : State} {H : Heap} (hK : va_K D vwCl T s) (hE : EN A s H) (hEA : EA D cB s) (hPh : Ph H) : ∀ U : State, U.heap = H → s.WarmedH U.vm → PCZ D cB T A As H.size Ph As.toArray U := fun U hU hW => ⟨PCSuse hK hE hEA hPh U hU hW, by rw [hU]⟩
theorem lvq {ls : Array Slot} {N : Nat} {l1 l2 : List (Nat × Value)} (h : lv_has ls N l1) (e : l1 = l2) : lv_has ls N l2 := by rw [← e]; exact h
theorem SP_0 {D : va_G} {cI cZ cJ cB : ClassId} {as : Nat → Nat} {n now n' now' : Nat} {told told' : Int32} {v : Nat → LV} {H H0 : Heap} (hinj : InjS v as) (h0 : SP D cI cZ cJ cB as n now told v H0) (hP : va_P D vwCl [(as 0, .inr (2, [.int (nI now'), .int told', .int (nI n'), .ref (as 1), .ref (as 2), .ref (as 3)]))] H) (hk : ∀ q : Nat, q < H0.size → q ≠ as 0 → H[q]? = H0[q]?) : SP D cI cZ cJ cB as n' now' told' v H := by
  have hne : ∀ u, Us v u → u ≠ 0 → as u ≠ as 0 := fun u hu h0 e => h0 (hinj u 0 hu (Us.lo (by decide)) e)
  refine ⟨fun k q hq => ?_, fun j hj => ⟨(h0.2 j hj).1.kept (hk _ (h0.2 j hj).1.lt (hne _ (Us.row hj) (by omega))), fun i hi => ((h0.2 j hj).2 i hi).kept (hk _ ((h0.2 j hj).2 i hi).lt (hne _ (Us.bt hj hi) (by omega)))⟩⟩
  match k, hq with
  | 0, hq => cases hq; exact hP 0 _ rfl
  | 1, hq => cases hq; exact (h0.1 1 _ rfl).kept (hk _ (h0.1 1 _ rfl).lt (hne 1 (Us.lo (by decide)) (by decide)))
  | 2, hq => cases hq; exact (h0.1 2 _ rfl).kept (hk _ (h0.1 2 _ rfl).lt (hne 2 (Us.lo (by decide)) (by decide)))
  | 3, hq => cases hq; exact (h0.1 3 _ rfl).kept (hk _ (h0.1 3 _ rfl).lt (hne 3 (Us.lo (by decide)) (by decide)))
set_option maxHeartbeats 4000000 in
set_option maxRecDepth 100000 in
/-- row -/
theorem c_X2_row (l : Launch) (D : va_G) (cI cZ cL cJ : ClassId) (cB : ClassId) (as : Nat → Nat) (n now : Nat) (told : Int32) (v : Nat → LV) (hwf : WFX n now v) (j : Nat) (hj : j < 8) (y : Nat) (hy : y ≤ 2 ^ 20) (sz : Nat) : Met l yX2_row wsX2_row ({ frames := 2, cells := 1, slots := y + 1, locals := 49 } : Room) (PCZ D cB (TY cI cZ cL cJ) (fun q => sz ≤ q) [.ref (as 0), .int (nI j), .int (nI y)] sz (fun H => SP D cI cZ cJ cB as n now told v H)) (va_Qr (fun _ : Unit => True) (fun _ z t => sz ≤ z ∧ va_at D vwCl (z, .inl (cZ, y + 1, .inl (fun x => bI (onB (v j) x)))) t.heap) (fun q => sz ≤ q)) 1 (y + 1) (fun _ => False) := by
  refine Met.ofW (cc := cX2_row) (maxL := 6) (ret := (some (.array .boolean))) (by decide) rfl ?_
  intro p e s m args below meth c s₁ B hml hv
  obtain ⟨⟨⟨rfl, hK, hE, hS0, hSL⟩, hEA⟩, hsz⟩ := hv
  subst hsz
  obtain ⟨hn8, hnow, hwl⟩ := hwf
  have hKB := hEA.2
  have hwb : WFb (v j) := (hwl j hj).b
  have hx := B.exec
  have hb := B.bytes
  have hr := B.returns
  have hts := atoms_spec (ws := wsX2_row) B.pre
  have hown : s.vm.findClass RX2 = some m.cls := findClass_of_methodNamed B.named
  have hlocks := B.notSynchronized
  have hNF := hE.2.1.1
  have hin2 : ∀ w ∈ wsX20, w ∈ wsX2_row := by decide +kernel
  have hl := lv_entry ([.ref (as 0), .int (nI j), .int (nI y)]) (n := 6) (Nat.le_of_ble_eq_true rfl)
  rw [lg_entry_eq]
  generalize (lg_sl ([.ref (as 0), .int (nI j), .int (nI y)]) ++ List.replicate (6 - (lg_sl ([.ref (as 0), .int (nI j), .int (nI y)])).length) Slot.unset).toArray = ls at hl ⊢
  have hl : lv_has ls 6 [(0, .ref (as 0)), (1, .int (nI j)), (2, .int (nI y))] := hl
  refine lv_iload_n hx hb dX2_row_0 rfl (lv_at hl 2 rfl) ?_
  refine lv_iconst (v := nI 1) hx hb dX2_row_1 (by decide) ?_
  refine n_iadd (v := nI (y + 1)) hx hb dX2_row_2 (nI_add _ _) ?_
  have hP0 : va_P D vwCl [] s.heap := fun k q h => by cases h
  have hD0 : va_D (fun q => s.heap.size ≤ q) [] := ⟨fun i j q r h => (by cases h), fun k q h => (by cases h)⟩
  refine va_newa (atype := .boolean) (N' := y + 1) (a0 := (y + 1, .inl (fun _ => 0))) hx hb (hts (.arrayClass .boolean) (List.mem_of_getElem? (i := 1) rfl)) rfl hK hP0 hD0 (va_S.rf (A := (fun q => s.heap.size ≤ q)) (H0 := s.heap)) (fun q h => h) (fun _ => rfl) (nn (by omega)) (nI_clamp (by omega)) (by show (y + 1) * 1 ≤ _; omega) (Nat.le_of_ble_eq_true rfl) (by show 0 + (y + 1) ≤ y + 1; omega) dX2_row_3 (fun z cA H hKa hP hD hS => ?_)
  rw [KZ hKa] at hP
  have hzg : s.heap.size ≤ z := hD.2 0 _ rfl
  have hSP : SP D cI cZ cJ cB as n now told v H := SP_keep ⟨hS0, hSL⟩ (fun u hu => Nat.not_le.mpr (SP_lt ⟨hS0, hSL⟩ u hu)) hS.2.1
  refine lv_astore_n (lv' := [(3, .ref z), (0, .ref (as 0)), (1, .int (nI j)), (2, .int (nI y))]) hx hb dX2_row_5 rfl hl (by decide) rfl (fun ls hl => ?_)
  refine lv_aload_n hx hb dX2_row_6 rfl (lv_at hl 1 rfl) ?_
  refine va_get (D := D) (ci := 2) (v := .ref (as 1)) (C := RX2) (T := TX2) (N := 6) hx hb hts hin2 hown hK hSP.1 0 rfl rfl 3 (by decide) (hts (.fieldLink RX2 7 "LanternPrimesLaw$Sim" "begins" "[Z") (List.mem_of_getElem? (i := 2) rfl)) (fun _ h9 => h9) rfl dX2_row_7 ?_
  refine lv_iload_n hx hb dX2_row_10 rfl (lv_at hl 2 rfl) ?_
  refine n_zald (v := bI (lon (v j))) (j := j) hx hb hK hSP.1 1 1 rfl rfl hj (by decide) rfl dX2_row_11 ?_
  refine lv_istore (lv' := [(4, .int (bI (lon (v j)))), (3, .ref z), (0, .ref (as 0)), (1, .int (nI j)), (2, .int (nI y))]) hx hb dX2_row_12 hl (by decide) rfl (fun ls hl => ?_)
  refine lv_iconst (v := nI 0) hx hb dX2_row_14 (by decide) ?_
  refine lv_istore (lv' := [(5, .int (nI 0)), (4, .int (bI (lon (v j)))), (3, .ref z), (0, .ref (as 0)), (1, .int (nI j)), (2, .int (nI y))]) hx hb dX2_row_15 hl (by decide) rfl (fun ls hl => ?_)
  have loop_17 : ∀ (fu : Nat) (t : Nat), y + 2 - t ≤ fu → t ≤ y + 1 → ∀ (H : Heap) (locs : List Loc), va_P D vwCl [(z, .inl (cZ, y + 1, .inl (rwF (v j) t)))] H → va_S (fun q => s.heap.size ≤ q) s.heap H locs → ∀ (ls : Array Slot), lv_has ls 6 [(5, .int (nI t)), (4, .int (bI (onP (v j) t))), (3, .ref z), (2, .int (nI y)), (1, .int (nI j)), (0, .ref (as 0))] → W p l e (headSpec wsX2_row ({ frames := 2, cells := 1, slots := y + 1, locals := 49 } : Room)).room s m [.ref (as 0), .int (nI j), .int (nI y)].toArray below meth c H locs (0 + 1) (0 + (y + 1)) (MQ below (va_Qr (fun _ : Unit => True) (fun _ z t => s.heap.size ≤ z ∧ va_at D vwCl (z, .inl (cZ, y + 1, .inl (fun x => bI (onB (v j) x)))) t.heap) (fun q => s.heap.size ≤ q)) [.ref (as 0), .int (nI j), .int (nI y)].toArray s 1 (y + 1) (fun _ => False)) (F0 m 17 ls []) := by
    intro fu
    induction fu with
    | zero => intro t hn_17 ht; exact absurd hn_17 (by omega)
    | succ fu ih_17 =>
      intro t hn_17 ht H locs hP hS ls hl
      have hD : va_D (fun q => s.heap.size ≤ q) [(z, .inl (cZ, y + 1, .inl (rwF (v j) t)))] := vd1A hzg
      have hSP : SP D cI cZ cJ cB as n now told v H := SP_keep ⟨hS0, hSL⟩ (fun u hu => Nat.not_le.mpr (SP_lt ⟨hS0, hSL⟩ u hu)) hS.2.1
      have hE1 : EN noA s H := (hE.kept hS.2.1).narrow (fun _ h => h.elim)
      refine lv_iload hx hb dX2_row_17 (lv_at hl 0 rfl) ?_
      refine lv_iload_n hx hb dX2_row_19 rfl (lv_at hl 3 rfl) ?_
      refine n_icmp_gt (a := t) (b := y) (tgt := 57) hx hb (by omega) (by omega) dX2_row_20 (by decide) (fun c_20 => ?_) (fun c_20 => ?_)
      · refine lv_aload_n hx hb dX2_row_57 rfl (lv_at hl 2 rfl) ?_
        have e_t : t = y + 1 := by omega
        refine va_forget hS.2.2 ?_
        refine W.widen (k := 1) (n := y + 1) (by omega) (by omega) ?_
        have hz : H[z]? = some (vp_cell cZ (y + 1, .inl (fun x => bI (onB (v j) x)))) := by
          have h1 : H[z]? = some (arrV cZ (y + 1) (fun x => .int (rwF (v j) t x))) := hP 0 _ rfl
          rw [h1]
          show some (arrV cZ (y + 1) (fun x => .int (rwF (v j) t x))) = some (arrV cZ (y + 1) (fun x => .int (bI (onB (v j) x))))
          exact congrArg some (arrV_congr (fun x hx9 => by unfold rwF; rw [if_pos (by omega)]))
        exact W.aret (v := .ref z) hx hb hr (Or.inr ⟨_, rfl⟩) (Or.inr ⟨_, rfl⟩) (fun t9 ht9 hW => ⟨⟨(), z, rfl, trivial, hzg, by rw [ht9]; exact hz⟩, hS.F ht9⟩) (fun q h => by cases h) dX2_row_58
      · have join_45 : ∀ (ls : Array Slot), lv_has ls 6 [(5, .int (nI t)), (4, .int (bI (onB (v j) t))), (3, .ref z), (2, .int (nI y)), (1, .int (nI j)), (0, .ref (as 0))] → W p l e (headSpec wsX2_row ({ frames := 2, cells := 1, slots := y + 1, locals := 49 } : Room)).room s m [.ref (as 0), .int (nI j), .int (nI y)].toArray below meth c H locs (0 + 1) (0 + (y + 1)) (MQ below (va_Qr (fun _ : Unit => True) (fun _ z t => s.heap.size ≤ z ∧ va_at D vwCl (z, .inl (cZ, y + 1, .inl (fun x => bI (onB (v j) x)))) t.heap) (fun q => s.heap.size ≤ q)) [.ref (as 0), .int (nI j), .int (nI y)].toArray s 1 (y + 1) (fun _ => False)) (F0 m 45 ls []) := by
          intro   ls hl
          refine lv_aload_n hx hb dX2_row_45 rfl (lv_at hl 2 rfl) ?_
          refine lv_iload hx hb dX2_row_46 (lv_at hl 0 rfl) ?_
          refine lv_iload hx hb dX2_row_48 (lv_at hl 1 rfl) ?_
          refine n_zast (f' := rwF (v j) (t + 1)) (j := t) hx hb hK hP hD hS 0 1 rfl rfl (by omega) (by omega) (rwF_s _ _) dX2_row_50 (fun H locs hP hD hS => ?_)
          have hP : va_P D vwCl [(z, .inl (cZ, y + 1, .inl (rwF (v j) (t + 1))))] H := hP
          have hD : va_D (fun q => s.heap.size ≤ q) [(z, .inl (cZ, y + 1, .inl (rwF (v j) (t + 1))))] := hD
          refine lv_iinc (v := nI (t + 1)) (lv' := [(5, .int (nI (t + 1))), (4, .int (bI (onB (v j) t))), (3, .ref z), (2, .int (nI y)), (1, .int (nI j)), (0, .ref (as 0))]) hx hb dX2_row_51 hl (k := 0) rfl (nI_inc _) (by decide) rfl (fun ls hl => ?_)
          refine lv_goto (tgt := 17) hx hb dX2_row_54 (by decide) ?_
          exact ih_17 (t + 1) (by omega) (by omega) H locs hP hS ls (lv_sub hl [0, 1, 2, 3, 4, 5] rfl)
        refine lv_aload_n hx hb dX2_row_23 rfl (lv_at hl 5 rfl) ?_
        refine lv_iload_n hx hb dX2_row_24 rfl (lv_at hl 4 rfl) ?_
        refine lv_iload hx hb dX2_row_25 (lv_at hl 0 rfl) ?_
        refine rVs (r := bI (chgB (v j) t)) (As := [.int (nI j), .int (nI t)]) (rest := []) ⟨hx, hb, hml, hown, hts⟩ (c_X2_changes l D cI cZ cL cJ cB as n now told v ⟨hn8, hnow, hwl⟩ j hj t (by omega)) (cwV 2 hts gX2_row_X2_changes rfl rfl rfl (by decide +kernel) ⟨(Nat.le_of_ble_eq_true rfl), (Nat.le_of_ble_eq_true rfl)⟩) hK hEA hE1 hSP (RC_of (q := (RX2, TX2, 6)) (ci := 2) hK rfl (vpa hSP.1 0 rfl)) rfl hl.1 rfl (Nat.le_of_ble_eq_true rfl) dX2_row_27 ⟨(Nat.le_of_ble_eq_true rfl), (by show 0 + (y + 1) ≤ y + 1; omega)⟩ ?_
        refine b_if_eq (b := chgB (v j) t) (tgt := 45) hx hb dX2_row_30 (by decide) (fun c_30 => ?_) (fun c_30 => ?_)
        · have hl := lvq hl (l2 := [(5, .int (nI t)), (4, .int (bI (onB (v j) t))), (3, .ref z), (2, .int (nI y)), (1, .int (nI j)), (0, .ref (as 0))]) (by rw [show bI (onP (v j) t) = bI (onB (v j) t) from (by rw [onP_s hwb t, c_30]; cases onP (v j) t <;> rfl)])
          exact join_45 ls (lv_sub hl [0, 1, 2, 3, 4, 5] rfl)
        · refine lv_iload hx hb dX2_row_33 (lv_at hl 1 rfl) ?_
          refine b_if_ne (b := onP (v j) t) (tgt := 42) hx hb dX2_row_35 (by decide) (fun c_35 => ?_) (fun c_35 => ?_)
          · refine lv_iconst (v := nI 0) hx hb dX2_row_42 (by decide) ?_
            refine lv_istore (lv' := [(4, .int (nI 0)), (5, .int (nI t)), (3, .ref z), (2, .int (nI y)), (1, .int (nI j)), (0, .ref (as 0))]) hx hb dX2_row_43 hl (by decide) rfl (fun ls hl => ?_)
            have hl := lvq hl (l2 := [(4, .int (bI (onB (v j) t))), (5, .int (nI t)), (3, .ref z), (2, .int (nI y)), (1, .int (nI j)), (0, .ref (as 0))]) (by rw [show nI 0 = bI (onB (v j) t) from (by rw [onP_s hwb t, c_30, c_35]; rfl)])
            exact join_45 ls (lv_sub hl [1, 0, 2, 3, 4, 5] rfl)
          · refine lv_iconst (v := nI 1) hx hb dX2_row_38 (by decide) ?_
            refine lv_goto (tgt := 43) hx hb dX2_row_39 (by decide) ?_
            refine lv_istore (lv' := [(4, .int (nI 1)), (5, .int (nI t)), (3, .ref z), (2, .int (nI y)), (1, .int (nI j)), (0, .ref (as 0))]) hx hb dX2_row_43 hl (by decide) rfl (fun ls hl => ?_)
            have hl := lvq hl (l2 := [(4, .int (bI (onB (v j) t))), (5, .int (nI t)), (3, .ref z), (2, .int (nI y)), (1, .int (nI j)), (0, .ref (as 0))]) (by rw [show nI 1 = bI (onB (v j) t) from (by rw [onP_s hwb t, c_30, c_35]; rfl)])
            exact join_45 ls (lv_sub hl [1, 0, 2, 3, 4, 5] rfl)
  exact loop_17 (y + 2) 0 (by omega) (Nat.zero_le _) H [] (by rw [rwF_0]; exact hP) hS ls (lv_sub hl [0, 1, 2, 5, 4, 3] rfl)
set_option maxHeartbeats 4000000 in
set_option maxRecDepth 100000 in
/-- pass -/
theorem c_X2_pass (l : Launch) (D : va_G) (cI cZ cL cJ : ClassId) (cB : ClassId) (as : Nat → Nat) (n now : Nat) (told : Int32) (v : Nat → LV) (hwf : WFX n now v) (hinj : InjS v as) (y : Nat) (hy : y ≤ 500) (hny : now + y ≤ 2 ^ 20) : Met l yX2_pass wsX2_pass ({ frames := 2, cells := 0, slots := 0, locals := 49 } : Room) (PCS D cB (TY cI cZ cL cJ) (fun q => q ∈ [as 0]) [.ref (as 0), .int (nI y)] (fun H => SP D cI cZ cJ cB as n now told v H)) (QW (fun q => q ∈ [as 0]) True (nI (psN v n now y)) (fun H => SP D cI cZ cJ cB as n (now + y) (told + nI (psN v n now y)) v H)) 0 0 (fun q => q ∈ [as 0]) := by
  refine Met.ofW (cc := cX2_pass) (maxL := 5) (ret := (some .int)) (by decide) rfl ?_
  intro p e s m args below meth c s₁ B hml hv
  obtain ⟨⟨rfl, hK, hE, hS0, hSL⟩, hEA⟩ := hv
  obtain ⟨hn8, hnow, hwl⟩ := hwf
  have hKB := hEA.2
  have hx := B.exec
  have hb := B.bytes
  have hr := B.returns
  have hts := atoms_spec (ws := wsX2_pass) B.pre
  have hown : s.vm.findClass RX2 = some m.cls := findClass_of_methodNamed B.named
  have hlocks := B.notSynchronized
  have hNF := hE.2.1.1
  have hin2 : ∀ w ∈ wsX20, w ∈ wsX2_pass := by decide +kernel
  have hl := lv_entry ([.ref (as 0), .int (nI y)]) (n := 5) (Nat.le_of_ble_eq_true rfl)
  rw [lg_entry_eq]
  generalize (lg_sl ([.ref (as 0), .int (nI y)]) ++ List.replicate (5 - (lg_sl ([.ref (as 0), .int (nI y)])).length) Slot.unset).toArray = ls at hl ⊢
  have hl : lv_has ls 5 [(0, .ref (as 0)), (1, .int (nI y))] := hl
  have hP : va_P D vwCl [(as 0, .inr (2, [.int (nI now), .int (told), .int (nI n), .ref (as 1), .ref (as 2), .ref (as 3)]))] s.heap := vp1 (hS0 0 _ rfl)
  have hS : va_S (fun q => q ∈ [as 0]) s.heap s.heap [] := va_S.rf
  refine lv_aload_n hx hb dX2_pass_0 rfl (lv_at hl 0 rfl) ?_
  refine va_get (D := D) (ci := 2) (v := .int told) (C := RX2) (T := TX2) (N := 6) hx hb hts hin2 hown hK hS0 0 rfl rfl 1 (by decide) (hts (.fieldLink RX2 49 "LanternPrimesLaw$Sim" "seen" "I") (List.mem_of_getElem? (i := 1) rfl)) (fun _ h9 => h9) rfl dX2_pass_1 ?_
  refine lv_istore_n (lv' := [(2, .int told), (0, .ref (as 0)), (1, .int (nI y))]) hx hb dX2_pass_4 rfl hl (by decide) rfl (fun ls hl => ?_)
  refine lv_iconst (v := nI 0) hx hb dX2_pass_5 (by decide) ?_
  refine lv_istore_n (lv' := [(3, .int (nI 0)), (2, .int told), (0, .ref (as 0)), (1, .int (nI y))]) hx hb dX2_pass_6 rfl hl (by decide) rfl (fun ls hl => ?_)
  have loop_7 : ∀ (fu : Nat) (r : Nat), y + 1 - r ≤ fu → r ≤ y → ∀ (H : Heap) (locs : List Loc), va_P D vwCl [(as 0, .inr (2, [.int (nI (now + r)), .int (told + nI (psN v n now r)), .int (nI n), .ref (as 1), .ref (as 2), .ref (as 3)]))] H → va_S (fun q => q ∈ [as 0]) s.heap H locs → ∀ (ls : Array Slot), lv_has ls 5 [(3, .int (nI r)), (2, .int told), (1, .int (nI y)), (0, .ref (as 0))] → W p l e (headSpec wsX2_pass ({ frames := 2, cells := 0, slots := 0, locals := 49 } : Room)).room s m [.ref (as 0), .int (nI y)].toArray below meth c H locs 0 0 (MQ below (QW (fun q => q ∈ [as 0]) True (nI (psN v n now y)) (fun H => SP D cI cZ cJ cB as n (now + y) (told + nI (psN v n now y)) v H)) [.ref (as 0), .int (nI y)].toArray s 0 0 (fun q => q ∈ [as 0])) (F0 m 7 ls []) := by
    intro fu
    induction fu with
    | zero => intro r hn_7 hr9; exact absurd hn_7 (by omega)
    | succ fu ih_7 =>
      intro r hn_7 hr9 H locs hP hS ls hl
      have hD : va_D (fun q => q ∈ [as 0]) [(as 0, .inr (2, [.int (nI (now + r)), .int (told + nI (psN v n now r)), .int (nI n), .ref (as 1), .ref (as 2), .ref (as 3)]))] := vd1
      refine lv_iload_n hx hb dX2_pass_7 rfl (lv_at hl 0 rfl) ?_
      refine lv_iload_n hx hb dX2_pass_8 rfl (lv_at hl 2 rfl) ?_
      refine n_icmp_ge (a := r) (b := y) (tgt := 73) hx hb (by omega) (by omega) dX2_pass_9 (by decide) (fun c_9 => ?_) (fun c_9 => ?_)
      · refine lv_aload_n hx hb dX2_pass_73 rfl (lv_at hl 3 rfl) ?_
        refine va_get (D := D) (ci := 2) (v := .int (told + nI (psN v n now r))) (C := RX2) (T := TX2) (N := 6) hx hb hts hin2 hown hK hP 0 rfl rfl 1 (by decide) (hts (.fieldLink RX2 49 "LanternPrimesLaw$Sim" "seen" "I") (List.mem_of_getElem? (i := 1) rfl)) (fun _ h9 => h9) rfl dX2_pass_74 ?_
        refine lv_iload_n hx hb dX2_pass_77 rfl (lv_at hl 1 rfl) ?_
        refine n_isub (v := (told + nI (psN v n now r)) - told) hx hb dX2_pass_78 rfl ?_
        refine n_ti (y := nI (psN v n now y)) (by rw [show r = y by omega, Int32.add_comm, Int32.add_sub_cancel]) ?_
        exact W.iret (v := nI (psN v n now y)) hx hb hr (fun t ht hW => ⟨trivial, rfl, by rw [ht]; rw [← show r = y by omega]; exact SP_0 hinj ⟨hS0, hSL⟩ hP (fun q h1 h2 => hS.2.1 q h1 (fun z => h2 (List.mem_singleton.mp z))), hS.F ht⟩) (fun q hq => hS.2.2 q hq) dX2_pass_79
      · refine lv_aload_n hx hb dX2_pass_12 rfl (lv_at hl 3 rfl) ?_
        refine lv_dup hx hb dX2_pass_13 rfl ?_
        refine va_get (D := D) (ci := 2) (v := .int (nI (now + r))) (C := RX2) (T := TX2) (N := 6) hx hb hts hin2 hown hK hP 0 rfl rfl 0 (by decide) (hts (.fieldLink RX2 35 "LanternPrimesLaw$Sim" "now" "I") (List.mem_of_getElem? (i := 2) rfl)) (fun _ h9 => h9) rfl dX2_pass_14 ?_
        refine lv_iconst (v := nI 1) hx hb dX2_pass_17 (by decide) ?_
        refine n_iadd (v := nI (now + (r + 1))) hx hb dX2_pass_18 (nI_add _ _) ?_
        refine va_put (D := D) (ci := 2) (v := .int (nI (now + (r + 1)))) (ty := .int) (C := RX2) (T := TX2) (N := 6) hx hb hts hin2 tyX2 tyX2_ok nmX2 hown hK hP hD hS 0 rfl rfl 0 (by decide) (hts (.fieldLink RX2 35 "LanternPrimesLaw$Sim" "now" "I") (List.mem_of_getElem? (i := 2) rfl)) (fun _ h9 => h9) rfl (by decide +kernel) rfl rfl (Nat.le_of_ble_eq_true rfl) dX2_pass_19 (fun H locs hP hD hS => ?_)
        have hP : va_P D vwCl [(as 0, .inr (2, [.int (nI (now + (r + 1))), .int (told + nI (psN v n now r)), .int (nI n), .ref (as 1), .ref (as 2), .ref (as 3)]))] H := hP
        have hD : va_D (fun q => q ∈ [as 0]) [(as 0, .inr (2, [.int (nI (now + (r + 1))), .int (told + nI (psN v n now r)), .int (nI n), .ref (as 1), .ref (as 2), .ref (as 3)]))] := hD
        refine lv_iconst (v := nI 0) hx hb dX2_pass_22 (by decide) ?_
        refine lv_istore (lv' := [(4, .int (nI 0)), (3, .int (nI r)), (2, .int told), (1, .int (nI y)), (0, .ref (as 0))]) hx hb dX2_pass_23 hl (by decide) rfl (fun ls hl => ?_)
        have loop_25 : ∀ (fu : Nat) (j : Nat), n + 1 - j ≤ fu → j ≤ n → ∀ (H : Heap) (locs : List Loc), va_P D vwCl [(as 0, .inr (2, [.int (nI (now + (r + 1))), .int (told + nI (psN v n now r) + nI (cnt (fun j => chgB (v j) (now + (r + 1))) j)), .int (nI n), .ref (as 1), .ref (as 2), .ref (as 3)]))] H → va_S (fun q => q ∈ [as 0]) s.heap H locs → ∀ (ls : Array Slot), lv_has ls 5 [(4, .int (nI j)), (3, .int (nI r)), (2, .int told), (1, .int (nI y)), (0, .ref (as 0))] → W p l e (headSpec wsX2_pass ({ frames := 2, cells := 0, slots := 0, locals := 49 } : Room)).room s m [.ref (as 0), .int (nI y)].toArray below meth c H locs 0 0 (MQ below (QW (fun q => q ∈ [as 0]) True (nI (psN v n now y)) (fun H => SP D cI cZ cJ cB as n (now + y) (told + nI (psN v n now y)) v H)) [.ref (as 0), .int (nI y)].toArray s 0 0 (fun q => q ∈ [as 0])) (F0 m 25 ls []) := by
          intro fu
          induction fu with
          | zero => intro j hn_25 hj; exact absurd hn_25 (by omega)
          | succ fu ih_25 =>
            intro j hn_25 hj H locs hP hS ls hl
            have hD : va_D (fun q => q ∈ [as 0]) [(as 0, .inr (2, [.int (nI (now + (r + 1))), .int (told + nI (psN v n now r) + nI (cnt (fun j => chgB (v j) (now + (r + 1))) j)), .int (nI n), .ref (as 1), .ref (as 2), .ref (as 3)]))] := vd1
            have hSP : SP D cI cZ cJ cB as n (now + (r + 1)) (told + nI (psN v n now r) + nI (cnt (fun j => chgB (v j) (now + (r + 1))) j)) v H := SP_0 hinj ⟨hS0, hSL⟩ hP (fun q h1 h2 => hS.2.1 q h1 (fun z => h2 (List.mem_singleton.mp z)))
            have hE1 : EN noA s H := (hE.kept hS.2.1).narrow (fun _ h => h.elim)
            refine lv_iload hx hb dX2_pass_25 (lv_at hl 0 rfl) ?_
            refine lv_aload_n hx hb dX2_pass_27 rfl (lv_at hl 4 rfl) ?_
            refine va_get (D := D) (ci := 2) (v := .int (nI n)) (C := RX2) (T := TX2) (N := 6) hx hb hts hin2 hown hK hP 0 rfl rfl 2 (by decide) (hts (.fieldLink RX2 31 "LanternPrimesLaw$Sim" "lamps" "I") (List.mem_of_getElem? (i := 3) rfl)) (fun _ h9 => h9) rfl dX2_pass_28 ?_
            refine n_icmp_ge (a := j) (b := n) (tgt := 67) hx hb (by omega) (by omega) dX2_pass_31 (by decide) (fun c_31 => ?_) (fun c_31 => ?_)
            · refine lv_iinc (v := nI (r + 1)) (lv' := [(3, .int (nI (r + 1))), (4, .int (nI j)), (2, .int told), (1, .int (nI y)), (0, .ref (as 0))]) hx hb dX2_pass_67 hl (k := 1) rfl (nI_inc _) (by decide) rfl (fun ls hl => ?_)
              refine lv_goto (tgt := 7) hx hb dX2_pass_70 (by decide) ?_
              exact ih_7 (r + 1) (by omega) (by omega) H locs (by rw [show told + nI (psN v n now (r + 1)) = told + nI (psN v n now r) + nI (cnt (fun j => chgB (v j) (now + (r + 1))) j) from by rw [show j = n by omega, Int32.add_assoc, nI_add]; rfl]; exact hP) hS ls (lv_sub hl [0, 2, 3, 4] rfl)
            · have join_57 : ∀ (ls : Array Slot), lv_has ls 5 [(4, .int (nI j)), (3, .int (nI r)), (2, .int told), (1, .int (nI y)), (0, .ref (as 0))] → W p l e (headSpec wsX2_pass ({ frames := 2, cells := 0, slots := 0, locals := 49 } : Room)).room s m [.ref (as 0), .int (nI y)].toArray below meth c H locs 0 0 (MQ below (QW (fun q => q ∈ [as 0]) True (nI (psN v n now y)) (fun H => SP D cI cZ cJ cB as n (now + y) (told + nI (psN v n now y)) v H)) [.ref (as 0), .int (nI y)].toArray s 0 0 (fun q => q ∈ [as 0])) (F0 m 57 ls [.int (nI (if chgB (v j) (now + (r + 1)) = true then 1 else 0)), .int (told + nI (psN v n now r) + nI (cnt (fun j => chgB (v j) (now + (r + 1))) j)), .ref (as 0)]) := by
                intro   ls hl
                refine n_iadd (v := (told + nI (psN v n now r) + nI (cnt (fun j => chgB (v j) (now + (r + 1))) (j + 1)))) hx hb dX2_pass_57 (by rw [Int32.add_assoc, nI_add]; rfl) ?_
                refine va_put (D := D) (ci := 2) (v := .int (told + nI (psN v n now r) + nI (cnt (fun j => chgB (v j) (now + (r + 1))) (j + 1)))) (ty := .int) (C := RX2) (T := TX2) (N := 6) hx hb hts hin2 tyX2 tyX2_ok nmX2 hown hK hP hD hS 0 rfl rfl 1 (by decide) (hts (.fieldLink RX2 49 "LanternPrimesLaw$Sim" "seen" "I") (List.mem_of_getElem? (i := 1) rfl)) (fun _ h9 => h9) rfl (by decide +kernel) rfl rfl (Nat.le_of_ble_eq_true rfl) dX2_pass_58 (fun H locs hP hD hS => ?_)
                have hP : va_P D vwCl [(as 0, .inr (2, [.int (nI (now + (r + 1))), .int (told + nI (psN v n now r) + nI (cnt (fun j => chgB (v j) (now + (r + 1))) (j + 1))), .int (nI n), .ref (as 1), .ref (as 2), .ref (as 3)]))] H := hP
                have hD : va_D (fun q => q ∈ [as 0]) [(as 0, .inr (2, [.int (nI (now + (r + 1))), .int (told + nI (psN v n now r) + nI (cnt (fun j => chgB (v j) (now + (r + 1))) (j + 1))), .int (nI n), .ref (as 1), .ref (as 2), .ref (as 3)]))] := hD
                refine lv_iinc (v := nI (j + 1)) (lv' := [(4, .int (nI (j + 1))), (3, .int (nI r)), (2, .int told), (1, .int (nI y)), (0, .ref (as 0))]) hx hb dX2_pass_61 hl (k := 0) rfl (nI_inc _) (by decide) rfl (fun ls hl => ?_)
                refine lv_goto (tgt := 25) hx hb dX2_pass_64 (by decide) ?_
                exact ih_25 (j + 1) (by omega) (by omega) H locs hP hS ls (lv_sub hl [0, 1, 2, 3, 4] rfl)
              refine lv_aload_n hx hb dX2_pass_34 rfl (lv_at hl 4 rfl) ?_
              refine lv_dup hx hb dX2_pass_35 rfl ?_
              refine va_get (D := D) (ci := 2) (v := .int (told + nI (psN v n now r) + nI (cnt (fun j => chgB (v j) (now + (r + 1))) j))) (C := RX2) (T := TX2) (N := 6) hx hb hts hin2 hown hK hP 0 rfl rfl 1 (by decide) (hts (.fieldLink RX2 49 "LanternPrimesLaw$Sim" "seen" "I") (List.mem_of_getElem? (i := 1) rfl)) (fun _ h9 => h9) rfl dX2_pass_36 ?_
              refine lv_aload_n hx hb dX2_pass_39 rfl (lv_at hl 4 rfl) ?_
              refine lv_iload hx hb dX2_pass_40 (lv_at hl 0 rfl) ?_
              refine lv_aload_n hx hb dX2_pass_42 rfl (lv_at hl 4 rfl) ?_
              refine va_get (D := D) (ci := 2) (v := .int (nI (now + (r + 1)))) (C := RX2) (T := TX2) (N := 6) hx hb hts hin2 hown hK hP 0 rfl rfl 0 (by decide) (hts (.fieldLink RX2 35 "LanternPrimesLaw$Sim" "now" "I") (List.mem_of_getElem? (i := 2) rfl)) (fun _ h9 => h9) rfl dX2_pass_43 ?_
              refine rVs (r := bI (chgB (v j) (now + (r + 1)))) (As := [.int (nI j), .int (nI (now + (r + 1)))]) (rest := [.int (told + nI (psN v n now r) + nI (cnt (fun j => chgB (v j) (now + (r + 1))) j)), .ref (as 0)]) ⟨hx, hb, hml, hown, hts⟩ (c_X2_changes l D cI cZ cL cJ cB as n (now + (r + 1)) (told + nI (psN v n now r) + nI (cnt (fun j => chgB (v j) (now + (r + 1))) j)) v ⟨hn8, by omega, hwl⟩ j (by omega) (now + (r + 1)) (by omega)) (cwV 2 hts gX2_pass_X2_changes rfl rfl rfl (by decide +kernel) ⟨(Nat.le_of_ble_eq_true rfl), (Nat.le_of_ble_eq_true rfl)⟩) hK hEA hE1 hSP (RC_of (q := (RX2, TX2, 6)) (ci := 2) hK rfl (vpa hSP.1 0 rfl)) rfl hl.1 rfl (Nat.le_of_ble_eq_true rfl) dX2_pass_46 ⟨(Nat.le_of_ble_eq_true rfl), (Nat.le_of_ble_eq_true rfl)⟩ ?_
              refine b_if_eq (b := chgB (v j) (now + (r + 1))) (tgt := 56) hx hb dX2_pass_49 (by decide) (fun c_49 => ?_) (fun c_49 => ?_)
              · refine lv_iconst (v := nI 0) hx hb dX2_pass_56 (by decide) ?_
                refine n_ti (y := nI (if chgB (v j) (now + (r + 1)) = true then 1 else 0)) (by rw [c_49]; rfl) ?_
                exact join_57 ls (lv_sub hl [0, 1, 2, 3, 4] rfl)
              · refine lv_iconst (v := nI 1) hx hb dX2_pass_52 (by decide) ?_
                refine lv_goto (tgt := 57) hx hb dX2_pass_53 (by decide) ?_
                refine n_ti (y := nI (if chgB (v j) (now + (r + 1)) = true then 1 else 0)) (by rw [c_49]; rfl) ?_
                exact join_57 ls (lv_sub hl [0, 1, 2, 3, 4] rfl)
        exact loop_25 (n + 1) 0 (by omega) (Nat.zero_le _) H locs (by rw [show told + nI (psN v n now r) + nI (cnt (fun j => chgB (v j) (now + (r + 1))) 0) = told + nI (psN v n now r) from Int32.add_zero _]; exact hP) hS ls (lv_sub hl [0, 1, 2, 3, 4] rfl)
  exact loop_7 (y + 1) 0 (by omega) (Nat.zero_le _) s.heap [] (by rw [show told + nI (psN v n now 0) = told from Int32.add_zero told]; exact hP) hS ls (lv_sub hl [0, 1, 3, 2] rfl)
