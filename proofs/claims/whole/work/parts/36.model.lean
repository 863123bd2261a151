set_option maxHeartbeats 4000000 in
set_option maxRecDepth 100000 in
/-- steady -/
theorem c_X2_steady (l : Launch) (D : va_G) (cI cZ cL cJ : ClassId) (am : Nat → Nat) (th : Int32) (n now : Nat) (told : Int32) (v : Nat → LV) (hwf : WFX n now v) (j : Nat) (hj : j < n) : Met l yX2_steady wsX2_steady ({ frames := 2, cells := 0, slots := 0, locals := 46 } : Room) (PC D (TY cI cZ cL cJ) noA [.ref (am 0), .int (nI j)] (fun H => PM D cI cZ am th n now told v H)) (QcRead (bI (decide (cyc (v j) = 1)))) 0 0 (fun _ => False) := by
  refine Met.ofW (cc := cX2_steady) (maxL := 3) (ret := (some .boolean)) (by decide) rfl ?_
  intro p e s m args below meth c s₁ B hml hv
  obtain ⟨rfl, hK, hE, hP⟩ := hv
  obtain ⟨hn8, hnow, hwl⟩ := hwf
  have hwj := hwl j (by omega)
  have hw4 := hwj.1
  have hpb := prdA_bd hwj
  have hx := B.exec
  have hb := B.bytes
  have hr := B.returns
  have hts := atoms_spec (ws := wsX2_steady) B.pre
  have hown : s.vm.findClass RX2 = some m.cls := findClass_of_methodNamed B.named
  have hlocks := B.notSynchronized
  have hNF := hE.2.1.1
  have hin2 : ∀ w ∈ wsX20, w ∈ wsX2_steady := by decide +kernel
  have hl := lv_entry ([.ref (am 0), .int (nI j)]) (n := 3) (Nat.le_of_ble_eq_true rfl)
  rw [lg_entry_eq]
  generalize (lg_sl ([.ref (am 0), .int (nI j)]) ++ List.replicate (3 - (lg_sl ([.ref (am 0), .int (nI j)])).length) Slot.unset).toArray = ls at hl ⊢
  have hl : lv_has ls 3 [(0, .ref (am 0)), (1, .int (nI j))] := hl
  refine lv_iconst (v := nI 0) hx hb dX2_steady_0 (by decide) ?_
  refine lv_istore_n (lv' := [(2, .int (nI 0)), (0, .ref (am 0)), (1, .int (nI j))]) hx hb dX2_steady_1 rfl hl (by decide) rfl (fun ls hl => ?_)
  have loop_2 : ∀ (fu : Nat) (y : Nat), prdA (v j) + 1 - y ≤ fu → y ≤ prdA (v j) → fnd (chgB (v j)) y (prdA (v j) - y) = fnd (chgB (v j)) 0 (prdA (v j)) → ∀ (ls : Array Slot), lv_has ls 3 [(2, .int (nI y)), (0, .ref (am 0)), (1, .int (nI j))] → W p l e (headSpec wsX2_steady ({ frames := 2, cells := 0, slots := 0, locals := 46 } : Room)).room s m [.ref (am 0), .int (nI j)].toArray below meth c s.heap [] 0 0 (MQ below (QcRead (bI (decide (cyc (v j) = 1)))) [.ref (am 0), .int (nI j)].toArray s 0 0 (fun _ => False)) (F0 m 2 ls []) := by
    intro fu
    induction fu with
    | zero => intro y hn_2 hy hf; exact absurd hn_2 (by omega)
    | succ fu ih_2 =>
      intro y hn_2 hy hf ls hl
      refine lv_iload_n hx hb dX2_steady_2 rfl (lv_at hl 0 rfl) ?_
      refine lv_aload_n hx hb dX2_steady_3 rfl (lv_at hl 1 rfl) ?_
      refine lv_iload_n hx hb dX2_steady_4 rfl (lv_at hl 2 rfl) ?_
      refine rV (r := nI (prdA (v j))) (As := [.int (nI j)]) (rest := [.int (nI y)]) ⟨hx, hb, hml, hown, hts⟩ (c_X2_product l D cI cZ cL cJ am th n now told v ⟨hn8, hnow, hwl⟩ j hj) (cwV 1 hts gX2_steady_X2_product rfl rfl rfl (by decide +kernel) ⟨(Nat.le_of_ble_eq_true rfl), (Nat.le_of_ble_eq_true rfl)⟩) hK hE hP (RC_of (q := (RX2, TX2, 9)) (ci := 2) hK rfl (vpa hP 0 rfl)) rfl hl.1 rfl (Nat.le_of_ble_eq_true rfl) dX2_steady_5 ⟨(Nat.le_of_ble_eq_true rfl), (Nat.le_of_ble_eq_true rfl)⟩ ?_
      refine n_icmp_ge (a := y) (b := prdA (v j)) (tgt := 28) hx hb (by omega) (by omega) dX2_steady_8 (by decide) (fun c_8 => ?_) (fun c_8 => ?_)
      · refine lv_iconst (v := nI 1) hx hb dX2_steady_28 (by decide) ?_
        refine n_ti (y := bI (decide (cyc (v j) = 1))) (by rw [← steady_eq hwj.b hpb.1, ← hf, show prdA (v j) - y = 0 by omega]; rfl) ?_
        exact W.zret (v := bI (decide (cyc (v j) = 1))) hx hb hr (bI_narrow _) (fun t ht hW => ⟨rfl, ht⟩) (fun _ h => by cases h) dX2_steady_29
      · refine lv_aload_n hx hb dX2_steady_11 rfl (lv_at hl 1 rfl) ?_
        refine lv_iload_n hx hb dX2_steady_12 rfl (lv_at hl 2 rfl) ?_
        refine lv_iload_n hx hb dX2_steady_13 rfl (lv_at hl 0 rfl) ?_
        refine rV (r := bI (chgB (v j) y)) (As := [.int (nI j), .int (nI y)]) (rest := []) ⟨hx, hb, hml, hown, hts⟩ (c_X2_changes l D cI cZ cL cJ am th n now told v ⟨hn8, hnow, hwl⟩ j hj (y) (by omega)) (cwV 2 hts gX2_steady_X2_changes rfl rfl rfl (by decide +kernel) ⟨(Nat.le_of_ble_eq_true rfl), (Nat.le_of_ble_eq_true rfl)⟩) hK hE hP (RC_of (q := (RX2, TX2, 9)) (ci := 2) hK rfl (vpa hP 0 rfl)) rfl hl.1 rfl (Nat.le_of_ble_eq_true rfl) dX2_steady_14 ⟨(Nat.le_of_ble_eq_true rfl), (Nat.le_of_ble_eq_true rfl)⟩ ?_
        refine b_if_eq (b := chgB (v j) y) (tgt := 22) hx hb dX2_steady_17 (by decide) (fun c_17 => ?_) (fun c_17 => ?_)
        · refine lv_iinc (v := nI (y + 1)) (lv' := [(2, .int (nI (y + 1))), (0, .ref (am 0)), (1, .int (nI j))]) hx hb dX2_steady_22 hl (k := 0) rfl (nI_inc _) (by decide) rfl (fun ls hl => ?_)
          refine lv_goto (tgt := 2) hx hb dX2_steady_25 (by decide) ?_
          exact ih_2 (y + 1) (by omega) (by omega) (by rw [← hf, fnd_f (f := chgB (v j)) (lo := y) c_17 (by omega), Nat.sub_sub]) ls (lv_sub hl [0, 1, 2] rfl)
        · refine lv_iconst (v := nI 0) hx hb dX2_steady_20 (by decide) ?_
          refine n_ti (y := bI (decide (cyc (v j) = 1))) (by rw [← steady_eq hwj.b hpb.1, ← hf, fnd_t (f := chgB (v j)) (lo := y) c_17 (by omega)]; rfl) ?_
          exact W.zret (v := bI (decide (cyc (v j) = 1))) hx hb hr (bI_narrow _) (fun t ht hW => ⟨rfl, ht⟩) (fun _ h => by cases h) dX2_steady_21
  exact loop_2 (prdA (v j) + 1) 0 (by omega) (Nat.zero_le _) rfl ls (lv_sub hl [0, 1, 2] rfl)
set_option maxHeartbeats 4000000 in
set_option maxRecDepth 100000 in
/-- isCycle -/
theorem c_X2_isCycle (l : Launch) (D : va_G) (cI cZ cL cJ : ClassId) (am : Nat → Nat) (th : Int32) (n now : Nat) (told : Int32) (v : Nat → LV) (hwf : WFX n now v) (j : Nat) (hj : j < n) (y : Nat) (hy : y < 2 ^ 20) : Met l yX2_isCycle wsX2_isCycle ({ frames := 2, cells := 0, slots := 0, locals := 46 } : Room) (PC D (TY cI cZ cL cJ) noA [.ref (am 0), .int (nI j), .int (nI y), .int (nI (prdA (v j)))] (fun H => PM D cI cZ am th n now told v H)) (QcRead (bI (isCyR (v j) y (prdA (v j))))) 0 0 (fun _ => False) := by
  refine Met.ofW (cc := cX2_isCycle) (maxL := 5) (ret := (some .boolean)) (by decide) rfl ?_
  intro p e s m args below meth c s₁ B hml hv
  obtain ⟨rfl, hK, hE, hP⟩ := hv
  obtain ⟨hn8, hnow, hwl⟩ := hwf
  have hwj := hwl j (by omega)
  have hw4 := hwj.1
  have hpb := prdA_bd hwj
  have hx := B.exec
  have hb := B.bytes
  have hr := B.returns
  have hts := atoms_spec (ws := wsX2_isCycle) B.pre
  have hown : s.vm.findClass RX2 = some m.cls := findClass_of_methodNamed B.named
  have hlocks := B.notSynchronized
  have hNF := hE.2.1.1
  have hin2 : ∀ w ∈ wsX20, w ∈ wsX2_isCycle := by decide +kernel
  have hl := lv_entry ([.ref (am 0), .int (nI j), .int (nI y), .int (nI (prdA (v j)))]) (n := 5) (Nat.le_of_ble_eq_true rfl)
  rw [lg_entry_eq]
  generalize (lg_sl ([.ref (am 0), .int (nI j), .int (nI y), .int (nI (prdA (v j)))]) ++ List.replicate (5 - (lg_sl ([.ref (am 0), .int (nI j), .int (nI y), .int (nI (prdA (v j)))])).length) Slot.unset).toArray = ls at hl ⊢
  have hl : lv_has ls 5 [(0, .ref (am 0)), (1, .int (nI j)), (2, .int (nI y)), (3, .int (nI (prdA (v j))))] := hl
  refine lv_aload_n hx hb dX2_isCycle_0 rfl (lv_at hl 0 rfl) ?_
  refine lv_iload_n hx hb dX2_isCycle_1 rfl (lv_at hl 1 rfl) ?_
  refine lv_iconst (v := nI 0) hx hb dX2_isCycle_2 (by decide) ?_
  refine rV (r := bI (onB (v j) 0)) (As := [.int (nI j), .int (nI 0)]) (rest := []) ⟨hx, hb, hml, hown, hts⟩ (c_X2_onAt l D cI cZ cL cJ am th n now told v ⟨hn8, hnow, hwl⟩ j hj (0) (by omega)) (cwV 2 hts gX2_isCycle_X2_onAt rfl rfl rfl (by decide +kernel) ⟨(Nat.le_of_ble_eq_true rfl), (Nat.le_of_ble_eq_true rfl)⟩) hK hE hP (RC_of (q := (RX2, TX2, 9)) (ci := 2) hK rfl (vpa hP 0 rfl)) rfl hl.1 rfl (Nat.le_of_ble_eq_true rfl) dX2_isCycle_3 ⟨(Nat.le_of_ble_eq_true rfl), (Nat.le_of_ble_eq_true rfl)⟩ ?_
  refine lv_aload_n hx hb dX2_isCycle_6 rfl (lv_at hl 0 rfl) ?_
  refine lv_iload_n hx hb dX2_isCycle_7 rfl (lv_at hl 1 rfl) ?_
  refine lv_iload_n hx hb dX2_isCycle_8 rfl (lv_at hl 2 rfl) ?_
  refine rV (r := bI (onB (v j) y)) (As := [.int (nI j), .int (nI y)]) (rest := [.int (bI (onB (v j) 0))]) ⟨hx, hb, hml, hown, hts⟩ (c_X2_onAt l D cI cZ cL cJ am th n now told v ⟨hn8, hnow, hwl⟩ j hj (y) (by omega)) (cwV 2 hts gX2_isCycle_X2_onAt rfl rfl rfl (by decide +kernel) ⟨(Nat.le_of_ble_eq_true rfl), (Nat.le_of_ble_eq_true rfl)⟩) hK hE hP (RC_of (q := (RX2, TX2, 9)) (ci := 2) hK rfl (vpa hP 0 rfl)) rfl hl.1 rfl (Nat.le_of_ble_eq_true rfl) dX2_isCycle_9 ⟨(Nat.le_of_ble_eq_true rfl), (Nat.le_of_ble_eq_true rfl)⟩ ?_
  refine lv_icmp_eq (tgt := 17) hx hb dX2_isCycle_12 (by decide) (fun c_12 => ?_) (fun c_12 => ?_)
  · have hon := bI_inj c_12
    refine lv_iconst (v := nI 1) hx hb dX2_isCycle_17 (by decide) ?_
    refine lv_istore (lv' := [(4, .int (nI 1)), (0, .ref (am 0)), (1, .int (nI j)), (2, .int (nI y)), (3, .int (nI (prdA (v j))))]) hx hb dX2_isCycle_18 hl (by decide) rfl (fun ls hl => ?_)
    have loop_20 : ∀ (fu : Nat) (z : Nat), prdA (v j) + 2 - z ≤ fu → 1 ≤ z → z ≤ prdA (v j) + 1 → fnd (isCyF (v j) y) z (prdA (v j) + 1 - z) = fnd (isCyF (v j) y) 1 (prdA (v j)) → ∀ (ls : Array Slot), lv_has ls 5 [(4, .int (nI z)), (0, .ref (am 0)), (1, .int (nI j)), (2, .int (nI y)), (3, .int (nI (prdA (v j))))] → W p l e (headSpec wsX2_isCycle ({ frames := 2, cells := 0, slots := 0, locals := 46 } : Room)).room s m [.ref (am 0), .int (nI j), .int (nI y), .int (nI (prdA (v j)))].toArray below meth c s.heap [] 0 0 (MQ below (QcRead (bI (isCyR (v j) y (prdA (v j))))) [.ref (am 0), .int (nI j), .int (nI y), .int (nI (prdA (v j)))].toArray s 0 0 (fun _ => False)) (F0 m 20 ls []) := by
      intro fu
      induction fu with
      | zero => intro z hn_20 hz1 hz2 hf; exact absurd hn_20 (by omega)
      | succ fu ih_20 =>
        intro z hn_20 hz1 hz2 hf ls hl
        refine lv_iload hx hb dX2_isCycle_20 (lv_at hl 0 rfl) ?_
        refine lv_iload_n hx hb dX2_isCycle_22 rfl (lv_at hl 4 rfl) ?_
        refine n_icmp_gt (a := z) (b := prdA (v j)) (tgt := 53) hx hb (by omega) (by omega) dX2_isCycle_23 (by decide) (fun c_23 => ?_) (fun c_23 => ?_)
        · refine lv_iconst (v := nI 1) hx hb dX2_isCycle_53 (by decide) ?_
          refine n_ti (y := bI (isCyR (v j) y (prdA (v j)))) (by unfold isCyR; rw [← hf, show prdA (v j) + 1 - z = 0 by omega, hon, beq_self_eq_true]; rfl) ?_
          exact W.zret (v := bI (isCyR (v j) y (prdA (v j)))) hx hb hr (bI_narrow _) (fun t ht hW => ⟨rfl, ht⟩) (fun _ h => by cases h) dX2_isCycle_54
        · refine lv_aload_n hx hb dX2_isCycle_26 rfl (lv_at hl 1 rfl) ?_
          refine lv_iload_n hx hb dX2_isCycle_27 rfl (lv_at hl 2 rfl) ?_
          refine lv_iload hx hb dX2_isCycle_28 (lv_at hl 0 rfl) ?_
          refine rV (r := bI (chgB (v j) z)) (As := [.int (nI j), .int (nI z)]) (rest := []) ⟨hx, hb, hml, hown, hts⟩ (c_X2_changes l D cI cZ cL cJ am th n now told v ⟨hn8, hnow, hwl⟩ j hj (z) (by omega)) (cwV 2 hts gX2_isCycle_X2_changes rfl rfl rfl (by decide +kernel) ⟨(Nat.le_of_ble_eq_true rfl), (Nat.le_of_ble_eq_true rfl)⟩) hK hE hP (RC_of (q := (RX2, TX2, 9)) (ci := 2) hK rfl (vpa hP 0 rfl)) rfl hl.1 rfl (Nat.le_of_ble_eq_true rfl) dX2_isCycle_30 ⟨(Nat.le_of_ble_eq_true rfl), (Nat.le_of_ble_eq_true rfl)⟩ ?_
          refine lv_aload_n hx hb dX2_isCycle_33 rfl (lv_at hl 1 rfl) ?_
          refine lv_iload_n hx hb dX2_isCycle_34 rfl (lv_at hl 2 rfl) ?_
          refine lv_iload hx hb dX2_isCycle_35 (lv_at hl 0 rfl) ?_
          refine lv_iload_n hx hb dX2_isCycle_37 rfl (lv_at hl 3 rfl) ?_
          refine n_iadd (v := nI (z + y)) hx hb dX2_isCycle_38 (nI_add _ _) ?_
          refine rV (r := bI (chgB (v j) (z + y))) (As := [.int (nI j), .int (nI (z + y))]) (rest := [.int (bI (chgB (v j) z))]) ⟨hx, hb, hml, hown, hts⟩ (c_X2_changes l D cI cZ cL cJ am th n now told v ⟨hn8, hnow, hwl⟩ j hj (z + y) (by omega)) (cwV 2 hts gX2_isCycle_X2_changes rfl rfl rfl (by decide +kernel) ⟨(Nat.le_of_ble_eq_true rfl), (Nat.le_of_ble_eq_true rfl)⟩) hK hE hP (RC_of (q := (RX2, TX2, 9)) (ci := 2) hK rfl (vpa hP 0 rfl)) rfl hl.1 rfl (Nat.le_of_ble_eq_true rfl) dX2_isCycle_39 ⟨(Nat.le_of_ble_eq_true rfl), (Nat.le_of_ble_eq_true rfl)⟩ ?_
          refine lv_icmp_eq (tgt := 47) hx hb dX2_isCycle_42 (by decide) (fun c_42 => ?_) (fun c_42 => ?_)
          · have e_1 : isCyF (v j) y z = false := bI_bneF c_42
            refine lv_iinc (v := nI (z + 1)) (lv' := [(4, .int (nI (z + 1))), (0, .ref (am 0)), (1, .int (nI j)), (2, .int (nI y)), (3, .int (nI (prdA (v j))))]) hx hb dX2_isCycle_47 hl (k := 0) rfl (nI_inc _) (by decide) rfl (fun ls hl => ?_)
            refine lv_goto (tgt := 20) hx hb dX2_isCycle_50 (by decide) ?_
            exact ih_20 (z + 1) (by omega) (by omega) (by omega) (by rw [← hf, fnd_f (f := isCyF (v j) y) (lo := z) e_1 (by omega), show prdA (v j) + 1 - z - 1 = prdA (v j) + 1 - (z + 1) by omega]) ls (lv_sub hl [0, 1, 2, 3, 4] rfl)
          · have e_1 : isCyF (v j) y z = true := bI_bneT c_42
            refine lv_iconst (v := nI 0) hx hb dX2_isCycle_45 (by decide) ?_
            refine n_ti (y := bI (isCyR (v j) y (prdA (v j)))) (by unfold isCyR; rw [← hf, fnd_t (f := isCyF (v j) y) (lo := z) e_1 (by omega), decide_eq_false (by simp), Bool.and_false]; rfl) ?_
            exact W.zret (v := bI (isCyR (v j) y (prdA (v j)))) hx hb hr (bI_narrow _) (fun t ht hW => ⟨rfl, ht⟩) (fun _ h => by cases h) dX2_isCycle_46
    exact loop_20 (prdA (v j) + 2) 1 (by omega) (by omega) (by omega) (by rw [Nat.add_sub_cancel]) ls (lv_sub hl [0, 1, 2, 3, 4] rfl)
  · refine lv_iconst (v := nI 0) hx hb dX2_isCycle_15 (by decide) ?_
    refine n_ti (y := bI (isCyR (v j) y (prdA (v j)))) (by unfold isCyR; rw [beq_eq_false_iff_ne.mpr (fun z => c_12 (by rw [z]))]; rfl) ?_
    exact W.zret (v := bI (isCyR (v j) y (prdA (v j)))) hx hb hr (bI_narrow _) (fun t ht hW => ⟨rfl, ht⟩) (fun _ h => by cases h) dX2_isCycle_16
set_option maxHeartbeats 4000000 in
set_option maxRecDepth 100000 in
/-- cycle -/
theorem c_X2_cycle (l : Launch) (D : va_G) (cI cZ cL cJ : ClassId) (am : Nat → Nat) (th : Int32) (n now : Nat) (told : Int32) (v : Nat → LV) (hwf : WFX n now v) (j : Nat) (hj : j < n) : Met l yX2_cycle wsX2_cycle ({ frames := 3, cells := 0, slots := 0, locals := 70 } : Room) (PC D (TY cI cZ cL cJ) noA [.ref (am 0), .int (nI j)] (fun H => PM D cI cZ am th n now told v H)) (QcRead (nI (cyc (v j)))) 0 0 (fun _ => False) := by
  refine Met.ofW (cc := cX2_cycle) (maxL := 4) (ret := (some .int)) (by decide) rfl ?_
  intro p e s m args below meth c s₁ B hml hv
  obtain ⟨rfl, hK, hE, hP⟩ := hv
  obtain ⟨hn8, hnow, hwl⟩ := hwf
  have hwj := hwl j (by omega)
  have hw4 := hwj.1
  have hpb := prdA_bd hwj
  have hx := B.exec
  have hb := B.bytes
  have hr := B.returns
  have hts := atoms_spec (ws := wsX2_cycle) B.pre
  have hown : s.vm.findClass RX2 = some m.cls := findClass_of_methodNamed B.named
  have hlocks := B.notSynchronized
  have hNF := hE.2.1.1
  have hin2 : ∀ w ∈ wsX20, w ∈ wsX2_cycle := by decide +kernel
  have hl := lv_entry ([.ref (am 0), .int (nI j)]) (n := 4) (Nat.le_of_ble_eq_true rfl)
  rw [lg_entry_eq]
  generalize (lg_sl ([.ref (am 0), .int (nI j)]) ++ List.replicate (4 - (lg_sl ([.ref (am 0), .int (nI j)])).length) Slot.unset).toArray = ls at hl ⊢
  have hl : lv_has ls 4 [(0, .ref (am 0)), (1, .int (nI j))] := hl
  refine lv_aload_n hx hb dX2_cycle_0 rfl (lv_at hl 0 rfl) ?_
  refine lv_iload_n hx hb dX2_cycle_1 rfl (lv_at hl 1 rfl) ?_
  refine rV (r := nI (prdA (v j))) (As := [.int (nI j)]) (rest := []) ⟨hx, hb, hml, hown, hts⟩ (c_X2_product l D cI cZ cL cJ am th n now told v ⟨hn8, hnow, hwl⟩ j hj) (cwV 1 hts gX2_cycle_X2_product rfl rfl rfl (by decide +kernel) ⟨(Nat.le_of_ble_eq_true rfl), (Nat.le_of_ble_eq_true rfl)⟩) hK hE hP (RC_of (q := (RX2, TX2, 9)) (ci := 2) hK rfl (vpa hP 0 rfl)) rfl hl.1 rfl (Nat.le_of_ble_eq_true rfl) dX2_cycle_2 ⟨(Nat.le_of_ble_eq_true rfl), (Nat.le_of_ble_eq_true rfl)⟩ ?_
  refine lv_istore_n (lv' := [(2, .int (nI (prdA (v j)))), (0, .ref (am 0)), (1, .int (nI j))]) hx hb dX2_cycle_5 rfl hl (by decide) rfl (fun ls hl => ?_)
  refine lv_iconst (v := nI 1) hx hb dX2_cycle_6 (by decide) ?_
  refine lv_istore_n (lv' := [(3, .int (nI 1)), (2, .int (nI (prdA (v j)))), (0, .ref (am 0)), (1, .int (nI j))]) hx hb dX2_cycle_7 rfl hl (by decide) rfl (fun ls hl => ?_)
  have loop_8 : ∀ (fu : Nat) (y : Nat), 2 * prdA (v j) + 1 - y ≤ fu → 1 ≤ y → y ≤ 2 * prdA (v j) → fnd (cycF (v j)) y (2 * prdA (v j) - y) = fnd (cycF (v j)) 1 (2 * prdA (v j) - 1) → ∀ (ls : Array Slot), lv_has ls 4 [(3, .int (nI y)), (2, .int (nI (prdA (v j)))), (0, .ref (am 0)), (1, .int (nI j))] → W p l e (headSpec wsX2_cycle ({ frames := 3, cells := 0, slots := 0, locals := 70 } : Room)).room s m [.ref (am 0), .int (nI j)].toArray below meth c s.heap [] 0 0 (MQ below (QcRead (nI (cyc (v j)))) [.ref (am 0), .int (nI j)].toArray s 0 0 (fun _ => False)) (F0 m 8 ls []) := by
    intro fu
    induction fu with
    | zero => intro y hn_8 hy1 hy2 hf; exact absurd hn_8 (by omega)
    | succ fu ih_8 =>
      intro y hn_8 hy1 hy2 hf ls hl
      refine lv_iload_n hx hb dX2_cycle_8 rfl (lv_at hl 0 rfl) ?_
      refine lv_iconst (v := nI 2) hx hb dX2_cycle_9 (by decide) ?_
      refine lv_iload_n hx hb dX2_cycle_10 rfl (lv_at hl 1 rfl) ?_
      refine n_imul (v := nI (2 * (prdA (v j)))) hx hb dX2_cycle_11 (pk_mul _ _) ?_
      refine n_icmp_ge (a := y) (b := 2 * (prdA (v j))) (tgt := 41) hx hb (by omega) (by omega) dX2_cycle_12 (by decide) (fun c_12 => ?_) (fun c_12 => ?_)
      · refine lv_iconst (v := nI 2) hx hb dX2_cycle_41 (by decide) ?_
        refine lv_iload_n hx hb dX2_cycle_42 rfl (lv_at hl 1 rfl) ?_
        refine n_imul (v := nI (2 * (prdA (v j)))) hx hb dX2_cycle_43 (pk_mul _ _) ?_
        refine n_ti (y := nI (cyc (v j))) (by rw [← cycR_eq hwj.b hpb.1, cycR_none (by rw [← hf, show 2 * prdA (v j) - y = 0 by omega]; rfl)]) ?_
        exact W.iret (v := nI (cyc (v j))) hx hb hr (fun t ht hW => ⟨rfl, ht⟩) (fun _ h => by cases h) dX2_cycle_44
      · refine lv_iconst (v := nI 2) hx hb dX2_cycle_15 (by decide) ?_
        refine lv_iload_n hx hb dX2_cycle_16 rfl (lv_at hl 1 rfl) ?_
        refine n_imul (v := nI (2 * (prdA (v j)))) hx hb dX2_cycle_17 (pk_mul _ _) ?_
        refine lv_iload_n hx hb dX2_cycle_18 rfl (lv_at hl 0 rfl) ?_
        refine n_irem (a := 2 * (prdA (v j))) (d := y) hx hb dX2_cycle_19 (by omega) (by omega) (by omega) ?_
        refine n_if_ne (a := (2 * (prdA (v j))) % y) (tgt := 35) hx hb (Nat.lt_of_le_of_lt (Nat.mod_le _ _) (by omega)) dX2_cycle_20 (by decide) (fun c_20 => ?_) (fun c_20 => ?_)
        · have e_1 : cycF (v j) y = false := by unfold cycF; rw [decide_eq_false c_20]; rfl
          refine lv_iinc (v := nI (y + 1)) (lv' := [(3, .int (nI (y + 1))), (2, .int (nI (prdA (v j)))), (0, .ref (am 0)), (1, .int (nI j))]) hx hb dX2_cycle_35 hl (k := 0) rfl (nI_inc _) (by decide) rfl (fun ls hl => ?_)
          refine lv_goto (tgt := 8) hx hb dX2_cycle_38 (by decide) ?_
          exact ih_8 (y + 1) (by omega) (by omega) (by omega) (by rw [← hf, fnd_f (f := cycF (v j)) (lo := y) e_1 (by omega), Nat.sub_sub]) ls (lv_sub hl [0, 1, 2, 3] rfl)
        · refine lv_aload_n hx hb dX2_cycle_23 rfl (lv_at hl 2 rfl) ?_
          refine lv_iload_n hx hb dX2_cycle_24 rfl (lv_at hl 3 rfl) ?_
          refine lv_iload_n hx hb dX2_cycle_25 rfl (lv_at hl 0 rfl) ?_
          refine lv_iload_n hx hb dX2_cycle_26 rfl (lv_at hl 1 rfl) ?_
          refine rV (r := bI (isCyR (v j) y (prdA (v j)))) (As := [.int (nI j), .int (nI y), .int (nI (prdA (v j)))]) (rest := []) ⟨hx, hb, hml, hown, hts⟩ (c_X2_isCycle l D cI cZ cL cJ am th n now told v ⟨hn8, hnow, hwl⟩ j hj y (by omega)) (cwV 3 hts gX2_cycle_X2_isCycle rfl rfl rfl (by decide +kernel) ⟨(Nat.le_of_ble_eq_true rfl), (Nat.le_of_ble_eq_true rfl)⟩) hK hE hP (RC_of (q := (RX2, TX2, 9)) (ci := 2) hK rfl (vpa hP 0 rfl)) rfl hl.1 rfl (Nat.le_of_ble_eq_true rfl) dX2_cycle_27 ⟨(Nat.le_of_ble_eq_true rfl), (Nat.le_of_ble_eq_true rfl)⟩ ?_
          refine b_if_eq (b := isCyR (v j) y (prdA (v j))) (tgt := 35) hx hb dX2_cycle_30 (by decide) (fun c_30 => ?_) (fun c_30 => ?_)
          · have e_1 : cycF (v j) y = false := by unfold cycF; rw [c_30, Bool.and_false]
            refine lv_iinc (v := nI (y + 1)) (lv' := [(3, .int (nI (y + 1))), (2, .int (nI (prdA (v j)))), (0, .ref (am 0)), (1, .int (nI j))]) hx hb dX2_cycle_35 hl (k := 0) rfl (nI_inc _) (by decide) rfl (fun ls hl => ?_)
            refine lv_goto (tgt := 8) hx hb dX2_cycle_38 (by decide) ?_
            exact ih_8 (y + 1) (by omega) (by omega) (by omega) (by rw [← hf, fnd_f (f := cycF (v j)) (lo := y) e_1 (by omega), Nat.sub_sub]) ls (lv_sub hl [0, 1, 2, 3] rfl)
          · have e_1 : cycF (v j) y = true := by unfold cycF; rw [c_30, decide_eq_true c_20]; rfl
            refine lv_iload_n hx hb dX2_cycle_33 rfl (lv_at hl 0 rfl) ?_
            refine n_ti (y := nI (cyc (v j))) (by rw [← cycR_eq hwj.b hpb.1, cycR_some (by rw [← hf]; exact fnd_t (f := cycF (v j)) (lo := y) e_1 (by omega))]) ?_
            exact W.iret (v := nI (cyc (v j))) hx hb hr (fun t ht hW => ⟨rfl, ht⟩) (fun _ h => by cases h) dX2_cycle_34
  exact loop_8 (2 * prdA (v j) + 1) 1 (by omega) (by omega) (by omega) rfl ls (lv_sub hl [0, 1, 2, 3] rfl)
set_option maxHeartbeats 4000000 in
set_option maxRecDepth 100000 in
/-- untilChange -/
theorem c_X2_untilChange (l : Launch) (D : va_G) (cI cZ cL cJ : ClassId) (am : Nat → Nat) (th : Int32) (n now : Nat) (told : Int32) (v : Nat → LV) (hwf : WFX n now v) (j : Nat) (hj : j < n) : Met l yX2_untilChange wsX2_untilChange ({ frames := 2, cells := 0, slots := 0, locals := 46 } : Room) (PC D (TY cI cZ cL cJ) noA [.ref (am 0), .int (nI j)] (fun H => PM D cI cZ am th n now told v H)) (QcRead ((untC (v j) now))) 0 0 (fun _ => False) := by
  refine Met.ofW (cc := cX2_untilChange) (maxL := 4) (ret := (some .int)) (by decide) rfl ?_
  intro p e s m args below meth c s₁ B hml hv
  obtain ⟨rfl, hK, hE, hP⟩ := hv
  obtain ⟨hn8, hnow, hwl⟩ := hwf
  have hwj := hwl j (by omega)
  have hw4 := hwj.1
  have hpb := prdA_bd hwj
  have hx := B.exec
  have hb := B.bytes
  have hr := B.returns
  have hts := atoms_spec (ws := wsX2_untilChange) B.pre
  have hown : s.vm.findClass RX2 = some m.cls := findClass_of_methodNamed B.named
  have hlocks := B.notSynchronized
  have hNF := hE.2.1.1
  have hin2 : ∀ w ∈ wsX20, w ∈ wsX2_untilChange := by decide +kernel
  have hl := lv_entry ([.ref (am 0), .int (nI j)]) (n := 4) (Nat.le_of_ble_eq_true rfl)
  rw [lg_entry_eq]
  generalize (lg_sl ([.ref (am 0), .int (nI j)]) ++ List.replicate (4 - (lg_sl ([.ref (am 0), .int (nI j)])).length) Slot.unset).toArray = ls at hl ⊢
  have hl : lv_has ls 4 [(0, .ref (am 0)), (1, .int (nI j))] := hl
  refine lv_aload_n hx hb dX2_untilChange_0 rfl (lv_at hl 0 rfl) ?_
  refine lv_iload_n hx hb dX2_untilChange_1 rfl (lv_at hl 1 rfl) ?_
  refine rV (r := nI (prdA (v j))) (As := [.int (nI j)]) (rest := []) ⟨hx, hb, hml, hown, hts⟩ (c_X2_product l D cI cZ cL cJ am th n now told v ⟨hn8, hnow, hwl⟩ j hj) (cwV 1 hts gX2_untilChange_X2_product rfl rfl rfl (by decide +kernel) ⟨(Nat.le_of_ble_eq_true rfl), (Nat.le_of_ble_eq_true rfl)⟩) hK hE hP (RC_of (q := (RX2, TX2, 9)) (ci := 2) hK rfl (vpa hP 0 rfl)) rfl hl.1 rfl (Nat.le_of_ble_eq_true rfl) dX2_untilChange_2 ⟨(Nat.le_of_ble_eq_true rfl), (Nat.le_of_ble_eq_true rfl)⟩ ?_
  refine lv_istore_n (lv' := [(2, .int (nI (prdA (v j)))), (0, .ref (am 0)), (1, .int (nI j))]) hx hb dX2_untilChange_5 rfl hl (by decide) rfl (fun ls hl => ?_)
  refine lv_iconst (v := nI 1) hx hb dX2_untilChange_6 (by decide) ?_
  refine lv_istore_n (lv' := [(3, .int (nI 1)), (2, .int (nI (prdA (v j)))), (0, .ref (am 0)), (1, .int (nI j))]) hx hb dX2_untilChange_7 rfl hl (by decide) rfl (fun ls hl => ?_)
  have loop_8 : ∀ (fu : Nat) (y : Nat), prdA (v j) + 2 - y ≤ fu → 1 ≤ y → y ≤ prdA (v j) + 1 → fnd (fun q => chgB (v j) (now + q)) y (prdA (v j) + 1 - y) = fnd (fun q => chgB (v j) (now + q)) 1 (prdA (v j)) → ∀ (ls : Array Slot), lv_has ls 4 [(3, .int (nI y)), (2, .int (nI (prdA (v j)))), (0, .ref (am 0)), (1, .int (nI j))] → W p l e (headSpec wsX2_untilChange ({ frames := 2, cells := 0, slots := 0, locals := 46 } : Room)).room s m [.ref (am 0), .int (nI j)].toArray below meth c s.heap [] 0 0 (MQ below (QcRead ((untC (v j) now))) [.ref (am 0), .int (nI j)].toArray s 0 0 (fun _ => False)) (F0 m 8 ls []) := by
    intro fu
    induction fu with
    | zero => intro y hn_8 hy1 hy2 hf; exact absurd hn_8 (by omega)
    | succ fu ih_8 =>
      intro y hn_8 hy1 hy2 hf ls hl
      refine lv_iload_n hx hb dX2_untilChange_8 rfl (lv_at hl 0 rfl) ?_
      refine lv_iload_n hx hb dX2_untilChange_9 rfl (lv_at hl 1 rfl) ?_
      refine n_icmp_gt (a := y) (b := prdA (v j)) (tgt := 35) hx hb (by omega) (by omega) dX2_untilChange_10 (by decide) (fun c_10 => ?_) (fun c_10 => ?_)
      · refine lv_iconst (v := (-1)) hx hb dX2_untilChange_35 (by decide) ?_
        refine n_ti (y := (untC (v j) now)) (by rw [← until_eq hwj.b hpb.1, ← hf, show prdA (v j) + 1 - y = 0 by omega]; rfl) ?_
        exact W.iret (v := (untC (v j) now)) hx hb hr (fun t ht hW => ⟨rfl, ht⟩) (fun _ h => by cases h) dX2_untilChange_36
      · refine lv_aload_n hx hb dX2_untilChange_13 rfl (lv_at hl 2 rfl) ?_
        refine lv_iload_n hx hb dX2_untilChange_14 rfl (lv_at hl 3 rfl) ?_
        refine lv_aload_n hx hb dX2_untilChange_15 rfl (lv_at hl 2 rfl) ?_
        refine va_get (D := D) (ci := 2) (v := .int (nI now)) (C := RX2) (T := TX2) (N := 9) hx hb hts hin2 hown hK hP 0 rfl rfl 1 (by decide) (hts (.fieldLink RX2 59 "LanternPrimesModel" "now" "I") (List.mem_of_getElem? (i := 1) rfl)) (fun _ h9 => h9) rfl dX2_untilChange_16 ?_
        refine lv_iload_n hx hb dX2_untilChange_19 rfl (lv_at hl 0 rfl) ?_
        refine n_iadd (v := nI (now + y)) hx hb dX2_untilChange_20 (nI_add _ _) ?_
        refine rV (r := bI (chgB (v j) (now + y))) (As := [.int (nI j), .int (nI (now + y))]) (rest := []) ⟨hx, hb, hml, hown, hts⟩ (c_X2_changes l D cI cZ cL cJ am th n now told v ⟨hn8, hnow, hwl⟩ j hj (now + y) (by omega)) (cwV 2 hts gX2_untilChange_X2_changes rfl rfl rfl (by decide +kernel) ⟨(Nat.le_of_ble_eq_true rfl), (Nat.le_of_ble_eq_true rfl)⟩) hK hE hP (RC_of (q := (RX2, TX2, 9)) (ci := 2) hK rfl (vpa hP 0 rfl)) rfl hl.1 rfl (Nat.le_of_ble_eq_true rfl) dX2_untilChange_21 ⟨(Nat.le_of_ble_eq_true rfl), (Nat.le_of_ble_eq_true rfl)⟩ ?_
        refine b_if_eq (b := chgB (v j) (now + y)) (tgt := 29) hx hb dX2_untilChange_24 (by decide) (fun c_24 => ?_) (fun c_24 => ?_)
        · refine lv_iinc (v := nI (y + 1)) (lv' := [(3, .int (nI (y + 1))), (2, .int (nI (prdA (v j)))), (0, .ref (am 0)), (1, .int (nI j))]) hx hb dX2_untilChange_29 hl (k := 0) rfl (nI_inc _) (by decide) rfl (fun ls hl => ?_)
          refine lv_goto (tgt := 8) hx hb dX2_untilChange_32 (by decide) ?_
          exact ih_8 (y + 1) (by omega) (by omega) (by omega) (by rw [← hf, fnd_f (f := fun q => chgB (v j) (now + q)) (lo := y) c_24 (by omega), show prdA (v j) + 1 - y - 1 = prdA (v j) + 1 - (y + 1) by omega]) ls (lv_sub hl [0, 1, 2, 3] rfl)
        · refine lv_iload_n hx hb dX2_untilChange_27 rfl (lv_at hl 0 rfl) ?_
          refine n_ti (y := (untC (v j) now)) (by rw [← until_eq hwj.b hpb.1, ← hf, fnd_t (f := fun q => chgB (v j) (now + q)) (lo := y) c_24 (by omega)]; rfl) ?_
          exact W.iret (v := (untC (v j) now)) hx hb hr (fun t ht hW => ⟨rfl, ht⟩) (fun _ h => by cases h) dX2_untilChange_28
  exact loop_8 (prdA (v j) + 2) 1 (by omega) (by omega) (by omega) (by rw [Nat.add_sub_cancel]) ls (lv_sub hl [0, 1, 2, 3] rfl)
set_option maxHeartbeats 4000000 in
set_option maxRecDepth 100000 in
/-- wrongPair -/
theorem c_X2_wrongPair (l : Launch) (D : va_G) (cI cZ cL cJ : ClassId) (am : Nat → Nat) (th : Int32) (n now : Nat) (told : Int32) (v : Nat → LV) (hwf : WFX n now v) (k q : Int32) : Met l yX2_wrongPair wsX2_wrongPair ({ frames := 2, cells := 0, slots := 0, locals := 43 } : Room) (PC D (TY cI cZ cL cJ) noA [.ref (am 0), .int k, .int q] (fun H => PM D cI cZ am th n now told v H)) (QcRead (nI (cd2 (lpOk n k && lpOk n q) (decide (¬ k = q))))) 0 0 (fun _ => False) := by
  refine Met.ofW (cc := cX2_wrongPair) (maxL := 3) (ret := (some .int)) (by decide) rfl ?_
  intro p e s m args below meth c s₁ B hml hv
  obtain ⟨rfl, hK, hE, hP⟩ := hv
  obtain ⟨hn8, hnow, hwl⟩ := hwf
  have hx := B.exec
  have hb := B.bytes
  have hr := B.returns
  have hts := atoms_spec (ws := wsX2_wrongPair) B.pre
  have hown : s.vm.findClass RX2 = some m.cls := findClass_of_methodNamed B.named
  have hlocks := B.notSynchronized
  have hNF := hE.2.1.1
  have hin2 : ∀ w ∈ wsX20, w ∈ wsX2_wrongPair := by decide +kernel
  have hl := lv_entry ([.ref (am 0), .int k, .int q]) (n := 3) (Nat.le_of_ble_eq_true rfl)
  rw [lg_entry_eq]
  generalize (lg_sl ([.ref (am 0), .int k, .int q]) ++ List.replicate (3 - (lg_sl ([.ref (am 0), .int k, .int q])).length) Slot.unset).toArray = ls at hl ⊢
  have hl : lv_has ls 3 [(0, .ref (am 0)), (1, .int k), (2, .int q)] := hl
  refine lv_aload_n hx hb dX2_wrongPair_0 rfl (lv_at hl 0 rfl) ?_
  refine lv_iload_n hx hb dX2_wrongPair_1 rfl (lv_at hl 1 rfl) ?_
  refine rV (r := bI (lpOk n k)) (As := [.int k]) (rest := []) ⟨hx, hb, hml, hown, hts⟩ (c_X2_isLamp l D cI cZ cL cJ am th n now told v ⟨hn8, hnow, hwl⟩ k) (cwV 1 hts gX2_wrongPair_X2_isLamp rfl rfl rfl (by decide +kernel) ⟨(Nat.le_of_ble_eq_true rfl), (Nat.le_of_ble_eq_true rfl)⟩) hK hE hP (RC_of (q := (RX2, TX2, 9)) (ci := 2) hK rfl (vpa hP 0 rfl)) rfl hl.1 rfl (Nat.le_of_ble_eq_true rfl) dX2_wrongPair_2 ⟨(Nat.le_of_ble_eq_true rfl), (Nat.le_of_ble_eq_true rfl)⟩ ?_
  refine b_if_eq (b := lpOk n k) (tgt := 16) hx hb dX2_wrongPair_5 (by decide) (fun c_5 => ?_) (fun c_5 => ?_)
  · refine lv_iconst (v := nI 1) hx hb dX2_wrongPair_16 (by decide) ?_
    refine lv_goto (tgt := 30) hx hb dX2_wrongPair_17 (by decide) ?_
    refine n_ti (y := nI (cd2 (lpOk n k && lpOk n q) (decide (¬ k = q)))) (by first | (rw [c_5]; rfl) | (rw [c_5, c_13]; rfl) | (rw [c_5, c_13, decide_eq_true c_22]; rfl) | (rw [c_5, c_13, decide_eq_false (fun z => z c_22)]; rfl)) ?_
    exact W.iret (v := nI (cd2 (lpOk n k && lpOk n q) (decide (¬ k = q)))) hx hb hr (fun t ht hW => ⟨rfl, ht⟩) (fun _ h => by cases h) dX2_wrongPair_30
  · refine lv_aload_n hx hb dX2_wrongPair_8 rfl (lv_at hl 0 rfl) ?_
    refine lv_iload_n hx hb dX2_wrongPair_9 rfl (lv_at hl 2 rfl) ?_
    refine rV (r := bI (lpOk n q)) (As := [.int q]) (rest := []) ⟨hx, hb, hml, hown, hts⟩ (c_X2_isLamp l D cI cZ cL cJ am th n now told v ⟨hn8, hnow, hwl⟩ q) (cwV 1 hts gX2_wrongPair_X2_isLamp rfl rfl rfl (by decide +kernel) ⟨(Nat.le_of_ble_eq_true rfl), (Nat.le_of_ble_eq_true rfl)⟩) hK hE hP (RC_of (q := (RX2, TX2, 9)) (ci := 2) hK rfl (vpa hP 0 rfl)) rfl hl.1 rfl (Nat.le_of_ble_eq_true rfl) dX2_wrongPair_10 ⟨(Nat.le_of_ble_eq_true rfl), (Nat.le_of_ble_eq_true rfl)⟩ ?_
    refine b_if_ne (b := lpOk n q) (tgt := 20) hx hb dX2_wrongPair_13 (by decide) (fun c_13 => ?_) (fun c_13 => ?_)
    · refine lv_iload_n hx hb dX2_wrongPair_20 rfl (lv_at hl 1 rfl) ?_
      refine lv_iload_n hx hb dX2_wrongPair_21 rfl (lv_at hl 2 rfl) ?_
      refine lv_icmp_ne (tgt := 29) hx hb dX2_wrongPair_22 (by decide) (fun c_22 => ?_) (fun c_22 => ?_)
      · refine lv_iconst (v := nI 0) hx hb dX2_wrongPair_29 (by decide) ?_
        refine n_ti (y := nI (cd2 (lpOk n k && lpOk n q) (decide (¬ k = q)))) (by first | (rw [c_5]; rfl) | (rw [c_5, c_13]; rfl) | (rw [c_5, c_13, decide_eq_true c_22]; rfl) | (rw [c_5, c_13, decide_eq_false (fun z => z c_22)]; rfl)) ?_
        exact W.iret (v := nI (cd2 (lpOk n k && lpOk n q) (decide (¬ k = q)))) hx hb hr (fun t ht hW => ⟨rfl, ht⟩) (fun _ h => by cases h) dX2_wrongPair_30
      · refine lv_iconst (v := nI 2) hx hb dX2_wrongPair_25 (by decide) ?_
        refine lv_goto (tgt := 30) hx hb dX2_wrongPair_26 (by decide) ?_
        refine n_ti (y := nI (cd2 (lpOk n k && lpOk n q) (decide (¬ k = q)))) (by first | (rw [c_5]; rfl) | (rw [c_5, c_13]; rfl) | (rw [c_5, c_13, decide_eq_true c_22]; rfl) | (rw [c_5, c_13, decide_eq_false (fun z => z c_22)]; rfl)) ?_
        exact W.iret (v := nI (cd2 (lpOk n k && lpOk n q) (decide (¬ k = q)))) hx hb hr (fun t ht hW => ⟨rfl, ht⟩) (fun _ h => by cases h) dX2_wrongPair_30
    · refine lv_iconst (v := nI 1) hx hb dX2_wrongPair_16 (by decide) ?_
      refine lv_goto (tgt := 30) hx hb dX2_wrongPair_17 (by decide) ?_
      refine n_ti (y := nI (cd2 (lpOk n k && lpOk n q) (decide (¬ k = q)))) (by first | (rw [c_5]; rfl) | (rw [c_5, c_13]; rfl) | (rw [c_5, c_13, decide_eq_true c_22]; rfl) | (rw [c_5, c_13, decide_eq_false (fun z => z c_22)]; rfl)) ?_
      exact W.iret (v := nI (cd2 (lpOk n k && lpOk n q) (decide (¬ k = q)))) hx hb hr (fun t ht hW => ⟨rfl, ht⟩) (fun _ h => by cases h) dX2_wrongPair_30
set_option maxHeartbeats 4000000 in
set_option maxRecDepth 100000 in
/-- collide -/
theorem c_X2_collide (l : Launch) (D : va_G) (cI cZ cL cJ : ClassId) (am : Nat → Nat) (th : Int32) (n now : Nat) (told : Int32) (v : Nat → LV) (hwf : WFX n now v) (i j t : Nat) (hi : i < n) (hj : j < n) (ht : t < 2 ^ 25) : Met l yX2_collide wsX2_collide ({ frames := 2, cells := 0, slots := 0, locals := 46 } : Room) (PC D (TY cI cZ cL cJ) noA [.ref (am 0), .int (nI i), .int (nI j), .int (nI t)] (fun H => PM D cI cZ am th n now told v H)) (QcRead (bI (colB v i j t))) 0 0 (fun _ => False) := by
  refine Met.ofW (cc := cX2_collide) (maxL := 4) (ret := (some .boolean)) (by decide) rfl ?_
  intro p e s m args below meth c s₁ B hml hv
  obtain ⟨rfl, hK, hE, hP⟩ := hv
  obtain ⟨hn8, hnow, hwl⟩ := hwf
  have hx := B.exec
  have hb := B.bytes
  have hr := B.returns
  have hts := atoms_spec (ws := wsX2_collide) B.pre
  have hown : s.vm.findClass RX2 = some m.cls := findClass_of_methodNamed B.named
  have hlocks := B.notSynchronized
  have hNF := hE.2.1.1
  have hin2 : ∀ w ∈ wsX20, w ∈ wsX2_collide := by decide +kernel
  have hl := lv_entry ([.ref (am 0), .int (nI i), .int (nI j), .int (nI t)]) (n := 4) (Nat.le_of_ble_eq_true rfl)
  rw [lg_entry_eq]
  generalize (lg_sl ([.ref (am 0), .int (nI i), .int (nI j), .int (nI t)]) ++ List.replicate (4 - (lg_sl ([.ref (am 0), .int (nI i), .int (nI j), .int (nI t)])).length) Slot.unset).toArray = ls at hl ⊢
  have hl : lv_has ls 4 [(0, .ref (am 0)), (1, .int (nI i)), (2, .int (nI j)), (3, .int (nI t))] := hl
  refine lv_aload_n hx hb dX2_collide_0 rfl (lv_at hl 0 rfl) ?_
  refine lv_iload_n hx hb dX2_collide_1 rfl (lv_at hl 1 rfl) ?_
  refine lv_iload_n hx hb dX2_collide_2 rfl (lv_at hl 3 rfl) ?_
  refine rV (r := bI (chgB (v i) t)) (As := [.int (nI i), .int (nI t)]) (rest := []) ⟨hx, hb, hml, hown, hts⟩ (c_X2_changes l D cI cZ cL cJ am th n now told v ⟨hn8, hnow, hwl⟩ i hi t ht) (cwV 2 hts gX2_collide_X2_changes rfl rfl rfl (by decide +kernel) ⟨(Nat.le_of_ble_eq_true rfl), (Nat.le_of_ble_eq_true rfl)⟩) hK hE hP (RC_of (q := (RX2, TX2, 9)) (ci := 2) hK rfl (vpa hP 0 rfl)) rfl hl.1 rfl (Nat.le_of_ble_eq_true rfl) dX2_collide_3 ⟨(Nat.le_of_ble_eq_true rfl), (Nat.le_of_ble_eq_true rfl)⟩ ?_
  refine b_if_eq (b := chgB (v i) t) (tgt := 22) hx hb dX2_collide_6 (by decide) (fun c_6 => ?_) (fun c_6 => ?_)
  · refine lv_iconst (v := nI 0) hx hb dX2_collide_22 (by decide) ?_
    refine n_ti (y := bI (colB v i j t)) (by unfold colB; first | (rw [c_6]; rfl) | (rw [c_6, c_15]; rfl)) ?_
    exact W.zret (v := bI (colB v i j t)) hx hb hr (bI_narrow _) (fun t ht hW => ⟨rfl, ht⟩) (fun _ h => by cases h) dX2_collide_23
  · refine lv_aload_n hx hb dX2_collide_9 rfl (lv_at hl 0 rfl) ?_
    refine lv_iload_n hx hb dX2_collide_10 rfl (lv_at hl 2 rfl) ?_
    refine lv_iload_n hx hb dX2_collide_11 rfl (lv_at hl 3 rfl) ?_
    refine rV (r := bI (chgB (v j) t)) (As := [.int (nI j), .int (nI t)]) (rest := []) ⟨hx, hb, hml, hown, hts⟩ (c_X2_changes l D cI cZ cL cJ am th n now told v ⟨hn8, hnow, hwl⟩ j hj t ht) (cwV 2 hts gX2_collide_X2_changes rfl rfl rfl (by decide +kernel) ⟨(Nat.le_of_ble_eq_true rfl), (Nat.le_of_ble_eq_true rfl)⟩) hK hE hP (RC_of (q := (RX2, TX2, 9)) (ci := 2) hK rfl (vpa hP 0 rfl)) rfl hl.1 rfl (Nat.le_of_ble_eq_true rfl) dX2_collide_12 ⟨(Nat.le_of_ble_eq_true rfl), (Nat.le_of_ble_eq_true rfl)⟩ ?_
    refine b_if_eq (b := chgB (v j) t) (tgt := 22) hx hb dX2_collide_15 (by decide) (fun c_15 => ?_) (fun c_15 => ?_)
    · refine lv_iconst (v := nI 0) hx hb dX2_collide_22 (by decide) ?_
      refine n_ti (y := bI (colB v i j t)) (by unfold colB; first | (rw [c_6]; rfl) | (rw [c_6, c_15]; rfl)) ?_
      exact W.zret (v := bI (colB v i j t)) hx hb hr (bI_narrow _) (fun t ht hW => ⟨rfl, ht⟩) (fun _ h => by cases h) dX2_collide_23
    · refine lv_iconst (v := nI 1) hx hb dX2_collide_18 (by decide) ?_
      refine lv_goto (tgt := 23) hx hb dX2_collide_19 (by decide) ?_
      refine n_ti (y := bI (colB v i j t)) (by unfold colB; first | (rw [c_6]; rfl) | (rw [c_6, c_15]; rfl)) ?_
      exact W.zret (v := bI (colB v i j t)) hx hb hr (bI_narrow _) (fun t ht hW => ⟨rfl, ht⟩) (fun _ h => by cases h) dX2_collide_23
set_option maxHeartbeats 4000000 in
set_option maxRecDepth 100000 in
/-- darkWith -/
theorem c_X2_darkWith (l : Launch) (D : va_G) (cI cZ cL cJ : ClassId) (am : Nat → Nat) (th : Int32) (n now : Nat) (told : Int32) (v : Nat → LV) (hwf : WFX n now v) (k : Nat) (hk : k ≤ 500) (x : Int32) : Met l yX2_darkWith wsX2_darkWith ({ frames := 2, cells := 0, slots := 0, locals := 48 } : Room) (PC D (TY cI cZ cL cJ) noA [.ref (am 0), .int (nI k), .int x] (fun H => PM D cI cZ am th n now told v H)) (QcRead (nI (dkN v n now x k))) 0 0 (fun _ => False) := by
  refine Met.ofW (cc := cX2_darkWith) (maxL := 5) (ret := (some .int)) (by decide) rfl ?_
  intro p e s m args below meth c s₁ B hml hv
  obtain ⟨rfl, hK, hE, hP⟩ := hv
  obtain ⟨hn8, hnow, hwl⟩ := hwf
  have hx := B.exec
  have hb := B.bytes
  have hr := B.returns
  have hts := atoms_spec (ws := wsX2_darkWith) B.pre
  have hown : s.vm.findClass RX2 = some m.cls := findClass_of_methodNamed B.named
  have hlocks := B.notSynchronized
  have hNF := hE.2.1.1
  have hin2 : ∀ w ∈ wsX20, w ∈ wsX2_darkWith := by decide +kernel
  have hl := lv_entry ([.ref (am 0), .int (nI k), .int x]) (n := 5) (Nat.le_of_ble_eq_true rfl)
  rw [lg_entry_eq]
  generalize (lg_sl ([.ref (am 0), .int (nI k), .int x]) ++ List.replicate (5 - (lg_sl ([.ref (am 0), .int (nI k), .int x])).length) Slot.unset).toArray = ls at hl ⊢
  have hl : lv_has ls 5 [(0, .ref (am 0)), (1, .int (nI k)), (2, .int x)] := hl
  refine lv_iconst (v := nI 0) hx hb dX2_darkWith_0 (by decide) ?_
  refine lv_istore_n (lv' := [(3, .int (nI 0)), (0, .ref (am 0)), (1, .int (nI k)), (2, .int x)]) hx hb dX2_darkWith_1 rfl hl (by decide) rfl (fun ls hl => ?_)
  refine lv_iconst (v := nI 1) hx hb dX2_darkWith_2 (by decide) ?_
  refine lv_istore (lv' := [(4, .int (nI 1)), (3, .int (nI 0)), (0, .ref (am 0)), (1, .int (nI k)), (2, .int x)]) hx hb dX2_darkWith_3 hl (by decide) rfl (fun ls hl => ?_)
  have loop_5 : ∀ (fu : Nat) (q : Nat), k + 1 - q ≤ fu → q ≤ k → ∀ (ls : Array Slot), lv_has ls 5 [(4, .int (nI (q + 1))), (3, .int (nI (cnt (fun s => dkB v n x (now + (s + 1))) q))), (0, .ref (am 0)), (1, .int (nI k)), (2, .int x)] → W p l e (headSpec wsX2_darkWith ({ frames := 2, cells := 0, slots := 0, locals := 48 } : Room)).room s m [.ref (am 0), .int (nI k), .int x].toArray below meth c s.heap [] 0 0 (MQ below (QcRead (nI (dkN v n now x k))) [.ref (am 0), .int (nI k), .int x].toArray s 0 0 (fun _ => False)) (F0 m 5 ls []) := by
    intro fu
    induction fu with
    | zero => intro q hn_5 hq; exact absurd hn_5 (by omega)
    | succ fu ih_5 =>
      intro q hn_5 hq ls hl
      refine lv_iload hx hb dX2_darkWith_5 (lv_at hl 0 rfl) ?_
      refine lv_iload_n hx hb dX2_darkWith_7 rfl (lv_at hl 3 rfl) ?_
      refine n_icmp_gt (a := q + 1) (b := k) (tgt := 40) hx hb (by omega) (by omega) dX2_darkWith_8 (by decide) (fun c_8 => ?_) (fun c_8 => ?_)
      · refine lv_iload_n hx hb dX2_darkWith_40 rfl (lv_at hl 1 rfl) ?_
        refine n_ti (y := nI (dkN v n now x k)) (by rw [show q = k by omega]; rfl) ?_
        exact W.iret (v := nI (dkN v n now x k)) hx hb hr (fun t ht hW => ⟨rfl, ht⟩) (fun _ h => by cases h) dX2_darkWith_41
      · have join_32 : ∀ (ls : Array Slot), lv_has ls 5 [(4, .int (nI (q + 1))), (3, .int (nI (cnt (fun s => dkB v n x (now + (s + 1))) q))), (0, .ref (am 0)), (1, .int (nI k)), (2, .int x)] → W p l e (headSpec wsX2_darkWith ({ frames := 2, cells := 0, slots := 0, locals := 48 } : Room)).room s m [.ref (am 0), .int (nI k), .int x].toArray below meth c s.heap [] 0 0 (MQ below (QcRead (nI (dkN v n now x k))) [.ref (am 0), .int (nI k), .int x].toArray s 0 0 (fun _ => False)) (F0 m 32 ls [.int (nI (if dkB v n x (now + (q + 1)) = true then 1 else 0)), .int (nI (cnt (fun s => dkB v n x (now + (s + 1))) q))]) := by
          intro   ls hl
          refine n_iadd (v := nI (cnt (fun s => dkB v n x (now + (s + 1))) (q + 1))) hx hb dX2_darkWith_32 (nI_add _ _) ?_
          refine lv_istore_n (lv' := [(3, .int (nI (cnt (fun s => dkB v n x (now + (s + 1))) (q + 1)))), (4, .int (nI (q + 1))), (0, .ref (am 0)), (1, .int (nI k)), (2, .int x)]) hx hb dX2_darkWith_33 rfl hl (by decide) rfl (fun ls hl => ?_)
          refine lv_iinc (v := nI ((q + 1) + 1)) (lv' := [(4, .int (nI ((q + 1) + 1))), (3, .int (nI (cnt (fun s => dkB v n x (now + (s + 1))) (q + 1)))), (0, .ref (am 0)), (1, .int (nI k)), (2, .int x)]) hx hb dX2_darkWith_34 hl (k := 1) rfl (nI_inc _) (by decide) rfl (fun ls hl => ?_)
          refine lv_goto (tgt := 5) hx hb dX2_darkWith_37 (by decide) ?_
          exact ih_5 (q + 1) (by omega) (by omega) ls (lv_sub hl [0, 1, 2, 3, 4] rfl)
        refine lv_iload_n hx hb dX2_darkWith_11 rfl (lv_at hl 1 rfl) ?_
        refine lv_aload_n hx hb dX2_darkWith_12 rfl (lv_at hl 2 rfl) ?_
        refine lv_aload_n hx hb dX2_darkWith_13 rfl (lv_at hl 2 rfl) ?_
        refine va_get (D := D) (ci := 2) (v := .int (nI now)) (C := RX2) (T := TX2) (N := 9) hx hb hts hin2 hown hK hP 0 rfl rfl 1 (by decide) (hts (.fieldLink RX2 59 "LanternPrimesModel" "now" "I") (List.mem_of_getElem? (i := 1) rfl)) (fun _ h9 => h9) rfl dX2_darkWith_14 ?_
        refine lv_iload hx hb dX2_darkWith_17 (lv_at hl 0 rfl) ?_
        refine n_iadd (v := nI (now + (q + 1))) hx hb dX2_darkWith_19 (nI_add _ _) ?_
        refine lv_iload_n hx hb dX2_darkWith_20 rfl (lv_at hl 4 rfl) ?_
        refine rV (r := nI (ltN v n x (now + (q + 1)))) (As := [.int (nI (now + (q + 1))), .int x]) (rest := [.int (nI (cnt (fun s => dkB v n x (now + (s + 1))) q))]) ⟨hx, hb, hml, hown, hts⟩ (c_X2_litAt l D cI cZ cL cJ am th n now told v ⟨hn8, hnow, hwl⟩ (now + (q + 1)) (by omega) x) (cwV 2 hts gX2_darkWith_X2_litAt rfl rfl rfl (by decide +kernel) ⟨(Nat.le_of_ble_eq_true rfl), (Nat.le_of_ble_eq_true rfl)⟩) hK hE hP (RC_of (q := (RX2, TX2, 9)) (ci := 2) hK rfl (vpa hP 0 rfl)) rfl hl.1 rfl (Nat.le_of_ble_eq_true rfl) dX2_darkWith_21 ⟨(Nat.le_of_ble_eq_true rfl), (Nat.le_of_ble_eq_true rfl)⟩ ?_
        refine n_if_ne (a := ltN v n x (now + (q + 1))) (tgt := 31) hx hb (Nat.lt_of_le_of_lt (cnt_le _ _) (by omega)) dX2_darkWith_24 (by decide) (fun c_24 => ?_) (fun c_24 => ?_)
        · refine lv_iconst (v := nI 0) hx hb dX2_darkWith_31 (by decide) ?_
          refine n_ti (y := nI (if dkB v n x (now + (q + 1)) = true then 1 else 0)) (by unfold dkB; first | (rw [decide_eq_true c_24]; rfl) | (rw [decide_eq_false c_24]; rfl)) ?_
          exact join_32 ls (lv_sub hl [0, 1, 2, 3, 4] rfl)
        · refine lv_iconst (v := nI 1) hx hb dX2_darkWith_27 (by decide) ?_
          refine lv_goto (tgt := 32) hx hb dX2_darkWith_28 (by decide) ?_
          refine n_ti (y := nI (if dkB v n x (now + (q + 1)) = true then 1 else 0)) (by unfold dkB; first | (rw [decide_eq_true c_24]; rfl) | (rw [decide_eq_false c_24]; rfl)) ?_
          exact join_32 ls (lv_sub hl [0, 1, 2, 3, 4] rfl)
  exact loop_5 (k + 1) 0 (by omega) (Nat.zero_le _) ls (lv_sub hl [0, 1, 2, 3, 4] rfl)
