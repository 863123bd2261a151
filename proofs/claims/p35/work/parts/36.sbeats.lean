set_option maxHeartbeats 4000000 in
set_option maxRecDepth 100000 in
/-- addBeat -/
theorem c_X2_addBeat (l : Launch) (D : va_G) (cI cZ cL cJ : ClassId) (cB : ClassId) (as : Nat → Nat) (n now : Nat) (told : Int32) (v : Nat → LV) (hwf : WFX n now v) (hinj : InjS v as) (j : Nat) (hj : j < 8) (h4 : lbc (v j) < 4) (num o : Nat) (sz : Nat) : Met l yX2_addBeat wsX2_addBeat ({ frames := 0, cells := 2, slots := 7, locals := 0 } : Room) (PCZ D cB (TY cI cZ cL cJ) (AN (as 3) sz) [.ref (as 0), .int (nI j), .int (nI num), .int (nI o)] sz (fun H => SP D cI cZ cJ cB as n now told v H)) (va_Qv (fun as' : Nat → Nat => InjS (updv v j (addL (v j) num o)) as' ∧ as' 0 = as 0 ∧ ∀ u, Us (updv v j (addL (v j) num o)) u → (∃ w, Us v w ∧ as' u = as w) ∨ sz ≤ as' u) (fun as' t => SP D cI cZ cJ cB as' n now told (updv v j (addL (v j) num o)) t.heap) (AN (as 3) sz)) 2 7 (AN (as 3) sz) := by
  refine Met.ofW (cc := cX2_addBeat) (maxL := 6) (ret := none) (by decide) rfl ?_
  intro p e s m args below meth c s₁ B hml hv
  obtain ⟨⟨⟨rfl, hK, hE, hS0, hSL⟩, hEA⟩, hsz⟩ := hv
  subst hsz
  obtain ⟨hn8, hnow, hwl⟩ := hwf
  have hKB := hEA.2
  have hw4 : ∀ i, i < 8 → lbc (v i) ≤ 4 := fun i hi => (hwl i hi).1
  have hj4 := hw4 j hj
  have hlt := SP_lt ⟨hS0, hSL⟩
  have hx := B.exec
  have hb := B.bytes
  have hr := B.returns
  have hts := atoms_spec (ws := wsX2_addBeat) B.pre
  have hown : s.vm.findClass RX2 = some m.cls := findClass_of_methodNamed B.named
  have hlocks := B.notSynchronized
  have hNF := hE.2.1.1
  have hin2 : ∀ w ∈ wsX20, w ∈ wsX2_addBeat := by decide +kernel
  have hl := lv_entry ([.ref (as 0), .int (nI j), .int (nI num), .int (nI o)]) (n := 6) (Nat.le_of_ble_eq_true rfl)
  rw [lg_entry_eq]
  generalize (lg_sl ([.ref (as 0), .int (nI j), .int (nI num), .int (nI o)]) ++ List.replicate (6 - (lg_sl ([.ref (as 0), .int (nI j), .int (nI num), .int (nI o)])).length) Slot.unset).toArray = ls at hl ⊢
  have hl : lv_has ls 6 [(0, .ref (as 0)), (1, .int (nI j)), (2, .int (nI num)), (3, .int (nI o))] := hl
  refine lv_aload_n hx hb dX2_addBeat_0 rfl (lv_at hl 0 rfl) ?_
  refine va_get (D := D) (ci := 2) (v := .ref (as 3)) (C := RX2) (T := TX2) (N := 6) hx hb hts hin2 hown hK hS0 0 rfl rfl 5 (by decide) (hts (.fieldLink RX2 18 "LanternPrimesLaw$Sim" "beats" "[[[I") (List.mem_of_getElem? (i := 1) rfl)) (fun _ h9 => h9) rfl dX2_addBeat_1 ?_
  refine lv_iload_n hx hb dX2_addBeat_4 rfl (lv_at hl 1 rfl) ?_
  refine n_aaldA (v := as (4 + 5 * j)) (j := j) hx hb hKB hS0 3 0 rfl rfl hj (by decide) rfl dX2_addBeat_5 ?_
  refine va_alen (v := nI (lbc (v j))) hx hb hK (vp1 (hSL j hj).1) 0 3 rfl rfl rfl dX2_addBeat_6 ?_
  refine lv_iconst (v := nI 1) hx hb dX2_addBeat_7 (by decide) ?_
  refine n_iadd (v := nI ((lbc (v j)) + 1)) hx hb dX2_addBeat_8 (nI_add _ _) ?_
  refine n_anewA (N := lbc (v j) + 1) hx hb hown (hts (.classLink RX2 21 "[I") (List.mem_of_getElem? (i := 2) rfl)) hK hEA (by omega) dX2_addBeat_9 (Nat.le_of_ble_eq_true rfl) (by show 0 + (lbc (v j) + 1) ≤ 7; omega) (fun H hz1 hk1 hZ => ?_)
  have hS : va_S (fun q => s.heap.size ≤ q) s.heap H [] := ⟨by omega, fun q h1 _ => hk1 q h1, fun q h => by cases h⟩
  refine lv_astore (lv' := [(4, .ref s.heap.size), (0, .ref (as 0)), (1, .int (nI j)), (2, .int (nI num)), (3, .int (nI o))]) hx hb dX2_addBeat_12 hl (by decide) rfl (fun ls hl => ?_)
  refine lv_iconst (v := nI 0) hx hb dX2_addBeat_14 (by decide) ?_
  refine lv_istore (lv' := [(5, .int (nI 0)), (4, .ref s.heap.size), (0, .ref (as 0)), (1, .int (nI j)), (2, .int (nI num)), (3, .int (nI o))]) hx hb dX2_addBeat_15 hl (by decide) rfl (fun ls hl => ?_)
  have loop_17 : ∀ (fu : Nat) (i : Nat), lbc (v j) + 1 - i ≤ fu → i ≤ lbc (v j) → ∀ (H : Heap) (locs : List Loc), va_P D vwCl [(s.heap.size, .inl (cJ, lbc (v j) + 1, qA (pfx as j i)))] H → va_S (fun q => s.heap.size ≤ q) s.heap H locs → ∀ (ls : Array Slot), lv_has ls 6 [(5, .int (nI i)), (4, .ref s.heap.size), (3, .int (nI o)), (2, .int (nI num)), (1, .int (nI j)), (0, .ref (as 0))] → W p l e (headSpec wsX2_addBeat ({ frames := 0, cells := 2, slots := 7, locals := 0 } : Room)).room s m [.ref (as 0), .int (nI j), .int (nI num), .int (nI o)].toArray below meth c H locs (0 + 1) (0 + (lbc (v j) + 1)) (MQ below (va_Qv (fun as' : Nat → Nat => InjS (updv v j (addL (v j) num o)) as' ∧ as' 0 = as 0 ∧ ∀ u, Us (updv v j (addL (v j) num o)) u → (∃ w, Us v w ∧ as' u = as w) ∨ s.heap.size ≤ as' u) (fun as' t => SP D cI cZ cJ cB as' n now told (updv v j (addL (v j) num o)) t.heap) (AN (as 3) s.heap.size)) [.ref (as 0), .int (nI j), .int (nI num), .int (nI o)].toArray s 2 7 (AN (as 3) s.heap.size)) (F0 m 17 ls []) := by
    intro fu
    induction fu with
    | zero => intro i hn_17 hi; exact absurd hn_17 (by omega)
    | succ fu ih_17 =>
      intro i hn_17 hi H locs hP hS ls hl
      have hD : va_D (fun q => s.heap.size ≤ q) [(s.heap.size, .inl (cJ, lbc (v j) + 1, qA (pfx as j i)))] := vd1A (Nat.le_refl _)
      have hSP : SP D cI cZ cJ cB as n now told v H := SP_keep ⟨hS0, hSL⟩ (fun u hu => Nat.not_le.mpr (SP_lt ⟨hS0, hSL⟩ u hu)) hS.2.1
      refine lv_iload hx hb dX2_addBeat_17 (lv_at hl 0 rfl) ?_
      refine lv_aload_n hx hb dX2_addBeat_19 rfl (lv_at hl 5 rfl) ?_
      refine va_get (D := D) (ci := 2) (v := .ref (as 3)) (C := RX2) (T := TX2) (N := 6) hx hb hts hin2 hown hK hSP.1 0 rfl rfl 5 (by decide) (hts (.fieldLink RX2 18 "LanternPrimesLaw$Sim" "beats" "[[[I") (List.mem_of_getElem? (i := 1) rfl)) (fun _ h9 => h9) rfl dX2_addBeat_20 ?_
      refine lv_iload_n hx hb dX2_addBeat_23 rfl (lv_at hl 4 rfl) ?_
      refine n_aaldA (v := as (4 + 5 * j)) (j := j) hx hb hKB hSP.1 3 0 rfl rfl hj (by decide) rfl dX2_addBeat_24 ?_
      refine va_alen (v := nI (lbc (v j))) hx hb hK (vp1 (hSP.2 j hj).1) 0 3 rfl rfl rfl dX2_addBeat_25 ?_
      refine n_icmp_ge (a := i) (b := lbc (v j)) (tgt := 49) hx hb (by omega) (by omega) dX2_addBeat_26 (by decide) (fun c_26 => ?_) (fun c_26 => ?_)
      · have e_i : i = lbc (v j) := by omega
        subst e_i
        refine lv_aload hx hb dX2_addBeat_49 (lv_at hl 1 rfl) ?_
        refine lv_aload_n hx hb dX2_addBeat_51 rfl (lv_at hl 5 rfl) ?_
        refine va_get (D := D) (ci := 2) (v := .ref (as 3)) (C := RX2) (T := TX2) (N := 6) hx hb hts hin2 hown hK hSP.1 0 rfl rfl 5 (by decide) (hts (.fieldLink RX2 18 "LanternPrimesLaw$Sim" "beats" "[[[I") (List.mem_of_getElem? (i := 1) rfl)) (fun _ h9 => h9) rfl dX2_addBeat_52 ?_
        refine lv_iload_n hx hb dX2_addBeat_55 rfl (lv_at hl 4 rfl) ?_
        refine n_aaldA (v := as (4 + 5 * j)) (j := j) hx hb hKB hSP.1 3 0 rfl rfl hj (by decide) rfl dX2_addBeat_56 ?_
        refine va_alen (v := nI (lbc (v j))) hx hb hK (vp1 (hSP.2 j hj).1) 0 3 rfl rfl rfl dX2_addBeat_57 ?_
        refine lv_iconst (v := nI 2) hx hb dX2_addBeat_58 (by decide) ?_
        refine va_newa (atype := .int) (N' := 2) (a0 := (2, .inl (fun _ => 0))) hx hb (hts (.arrayClass .int) (List.mem_of_getElem? (i := 3) rfl)) rfl hK hP hD hS (fun q h => h) (fun _ => rfl) (by decide) (by decide +kernel) (Nat.le_of_ble_eq_true rfl) (Nat.le_of_ble_eq_true rfl) (by show 0 + (lbc (v j) + 1) + 2 ≤ 7; omega) dX2_addBeat_59 (fun y cA H hKa hP hD hS => ?_)
        rw [KI hKa] at hP hD
        have hyg : s.heap.size ≤ y := hD.2 1 _ rfl
        have hzy : s.heap.size ≠ y := fun e => absurd (hD.1 0 1 _ _ rfl rfl e) (by decide)
        refine lv_dup hx hb dX2_addBeat_61 rfl ?_
        refine lv_iconst (v := nI 0) hx hb dX2_addBeat_62 (by decide) ?_
        refine lv_iload_n hx hb dX2_addBeat_63 rfl (lv_at hl 3 rfl) ?_
        refine n_iast (f' := fun x => if x = 0 then nI num else 0) (j := 0) hx hb hK hP hD hS 1 0 rfl rfl (by decide) (by decide) (by funext x; unfold upd; rfl) dX2_addBeat_64 (fun H locs hP hD hS => ?_)
        have hP : va_P D vwCl [(s.heap.size, .inl (cJ, lbc (v j) + 1, qA (pfx as j (lbc (v j))))), (y, .inl (cI, 2, .inl (fun x => if x = 0 then nI num else 0)))] H := hP
        have hD : va_D (fun q => s.heap.size ≤ q) [(s.heap.size, .inl (cJ, lbc (v j) + 1, qA (pfx as j (lbc (v j))))), (y, .inl (cI, 2, .inl (fun x => if x = 0 then nI num else 0)))] := hD
        refine lv_dup hx hb dX2_addBeat_65 rfl ?_
        refine lv_iconst (v := nI 1) hx hb dX2_addBeat_66 (by decide) ?_
        refine lv_iload_n hx hb dX2_addBeat_67 rfl (lv_at hl 2 rfl) ?_
        refine n_iast (f' := fun x => if x = 1 then nI o else if x = 0 then nI num else 0) (j := 1) hx hb hK hP hD hS 1 0 rfl rfl (by decide) (by decide) (by funext x; unfold upd; rfl) dX2_addBeat_68 (fun H locs hP hD hS => ?_)
        have hP : va_P D vwCl [(s.heap.size, .inl (cJ, lbc (v j) + 1, qA (pfx as j (lbc (v j))))), (y, .inl (cI, 2, .inl (fun x => if x = 1 then nI o else if x = 0 then nI num else 0)))] H := hP
        have hD : va_D (fun q => s.heap.size ≤ q) [(s.heap.size, .inl (cJ, lbc (v j) + 1, qA (pfx as j (lbc (v j))))), (y, .inl (cI, 2, .inl (fun x => if x = 1 then nI o else if x = 0 then nI num else 0)))] := hD
        refine n_aastA (cA := cJ) (cV := cI) (M := 2) (g := (fun x => .int ((fun x => if x = 1 then nI o else if x = 0 then nI num else 0) x))) (j := lbc (v j)) hx hb hP hD hS 0 rfl (EA_J hK hEA) (hP 1 _ rfl) (by omega) (by omega) dX2_addBeat_69 (fun H locs hP hD hS hz2 hk2 => ?_)
        have hP : va_P D vwCl [(s.heap.size, .inl (cJ, lbc (v j) + 1, qA (va_up (pfx as j (lbc (v j))) (lbc (v j)) (some y)))), (y, .inl (cI, 2, .inl (fun x => if x = 1 then nI o else if x = 0 then nI num else 0)))] H := hP
        have hSP : SP D cI cZ cJ cB as n now told v H := SP_keep ⟨hS0, hSL⟩ (fun u hu => Nat.not_le.mpr (SP_lt ⟨hS0, hSL⟩ u hu)) hS.2.1
        refine lv_aload_n hx hb dX2_addBeat_70 rfl (lv_at hl 5 rfl) ?_
        refine va_get (D := D) (ci := 2) (v := .ref (as 3)) (C := RX2) (T := TX2) (N := 6) hx hb hts hin2 hown hK hSP.1 0 rfl rfl 5 (by decide) (hts (.fieldLink RX2 18 "LanternPrimesLaw$Sim" "beats" "[[[I") (List.mem_of_getElem? (i := 1) rfl)) (fun _ h9 => h9) rfl dX2_addBeat_71 ?_
        refine lv_iload_n hx hb dX2_addBeat_74 rfl (lv_at hl 4 rfl) ?_
        refine lv_aload hx hb dX2_addBeat_75 (lv_at hl 1 rfl) ?_
        refine n_aastA (cA := cB) (cV := cJ) (M := lbc (v j) + 1) (g := (fun x => va_rf ((va_up (pfx as j (lbc (v j))) (lbc (v j)) (some y)) x))) (j := j) hx hb (vp1 (hSP.1 3 _ rfl)) (vd1A (A := AN (as 3) s.heap.size) (Or.inl rfl)) (va_S_mono hS (fun q h => Or.inr h)) 0 rfl (EA_B hK hEA) (hP 0 _ rfl) hj (by decide) dX2_addBeat_77 (fun H locs hP3 hD3 hS3 hz2 hk2 => ?_)
        have hSP3 := hSP
        have hW4 : va_P D vwCl [(s.heap.size, .inl (cJ, lbc (v j) + 1, qA (va_up (pfx as j (lbc (v j))) (lbc (v j)) (some y)))), (y, .inl (cI, 2, .inl (fun x => if x = 1 then nI o else if x = 0 then nI num else 0)))] H := hP.kept (fun k q hq => hk2 _ (fun e => by match k, hq with | 0, hq => (cases hq; have := hlt 3 (Us.lo (by decide)); omega) | 1, hq => (cases hq; have := hlt 3 (Us.lo (by decide)); omega)))
        have hrow : va_at D vwCl (asA as j (lbc (v j)) s.heap.size y (4 + 5 * j), .inl (cJ, lbc (addL (v j) num o), qA (fun i => some (asA as j (lbc (v j)) s.heap.size y (5 + 5 * j + i))))) H := by
          have h1 : H[s.heap.size]? = some (arrV cJ (lbc (v j) + 1) (fun x => va_rf ((va_up (pfx as j (lbc (v j))) (lbc (v j)) (some y)) x))) := hW4 0 _ rfl
          show H[asA as j (lbc (v j)) s.heap.size y (4 + 5 * j)]? = some (arrV cJ (lbc (v j) + 1) (fun x => va_rf (some (asA as j (lbc (v j)) s.heap.size y (5 + 5 * j + x)))))
          rw [show asA as j (lbc (v j)) s.heap.size y (4 + 5 * j) = s.heap.size from if_pos rfl, h1]
          refine congrArg some (arrV_congr (fun x hx9 => ?_))
          unfold asA va_up pfx
          by_cases e : x = lbc (v j)
          · rw [if_pos e, if_neg (by omega), if_pos (by omega)]
          · rw [if_neg e, if_pos (by omega), if_neg (by omega), if_neg (by omega)]
        have hbts : ∀ i, i < lbc (addL (v j) num o) → va_at D vwCl (asA as j (lbc (v j)) s.heap.size y (5 + 5 * j + i), .inl (cI, 2, .inl (btF (addL (v j) num o) i))) H := by
          intro i hi
          have hi' : i < lbc (v j) + 1 := hi
          by_cases e : i = lbc (v j)
          · have h1 : H[y]? = some (arrV cI 2 (fun x => .int ((fun x => if x = 1 then nI o else if x = 0 then nI num else 0) x))) := hW4 1 _ rfl
            show H[asA as j (lbc (v j)) s.heap.size y (5 + 5 * j + i)]? = some (arrV cI 2 (fun x => .int (btF (addL (v j) num o) i x)))
            rw [show asA as j (lbc (v j)) s.heap.size y (5 + 5 * j + i) = y from by unfold asA; rw [if_neg (by omega), if_pos (by omega)], h1]
            refine congrArg some (arrV_congr (fun x hx9 => ?_))
            have e1 : lnu (addL (v j) num o) i = num := if_pos e
            have e2 : lof (addL (v j) num o) i = o := if_pos e
            unfold btF
            rw [e1, e2]
            rcases (show x = 0 ∨ x = 1 by omega) with rfl | rfl <;> rfl
          · have h1 := (hSP3.2 j hj).2 i (by omega)
            have e1 : btF (addL (v j) num o) i = btF (v j) i := by
              have e2 : lnu (addL (v j) num o) i = lnu (v j) i := if_neg e
              have e3 : lof (addL (v j) num o) i = lof (v j) i := if_neg e
              unfold btF
              rw [e2, e3]
            rw [e1, show asA as j (lbc (v j)) s.heap.size y (5 + 5 * j + i) = as (5 + 5 * j + i) from by unfold asA; rw [if_neg (by omega), if_neg (by omega)]]
            exact h1.kept (hk2 _ (fun e9 => absurd (hinj _ 3 (Us.bt hj (by omega)) (Us.lo (by decide)) e9) (by omega)))
        refine W.widen (k := 2) (n := 7) (by omega) (by omega) ?_
        exact W.vret hx hb hr (fun t ht hW => ⟨⟨asA as j (lbc (v j)) s.heap.size y, rfl, ⟨asA_inj hinj hlt hj hw4 h4 (Nat.le_refl _) hyg hzy, by unfold asA; rw [if_neg (by omega), if_neg (by omega)], fun u hu => (asA_src hj hw4 h4 (Nat.le_refl s.heap.size) hyg u hu).elim (fun h => Or.inl ⟨u, h.1, h.2⟩) (fun h => h.elim (fun h => Or.inr (by rw [h.2]; exact Nat.le_refl _)) (fun h => Or.inr (by rw [h.2]; exact hyg)))⟩, by show SP D cI cZ cJ cB _ n now told _ t.heap; rw [ht]; exact SP_row hinj hj hw4 rfl rfl (fun u hu => by unfold asA; rw [if_neg (by omega), if_neg (by omega)]) hSP3 hk2 (by rw [show asA as j (lbc (v j)) s.heap.size y (4 + 5 * j) = s.heap.size from if_pos rfl]; exact hP3 0 _ rfl) hrow hbts⟩, hS3.F ht⟩) (fun q hq => hS3.2.2 q hq) dX2_addBeat_78
      · refine lv_aload hx hb dX2_addBeat_29 (lv_at hl 1 rfl) ?_
        refine lv_iload hx hb dX2_addBeat_31 (lv_at hl 0 rfl) ?_
        refine lv_aload_n hx hb dX2_addBeat_33 rfl (lv_at hl 5 rfl) ?_
        refine va_get (D := D) (ci := 2) (v := .ref (as 3)) (C := RX2) (T := TX2) (N := 6) hx hb hts hin2 hown hK hSP.1 0 rfl rfl 5 (by decide) (hts (.fieldLink RX2 18 "LanternPrimesLaw$Sim" "beats" "[[[I") (List.mem_of_getElem? (i := 1) rfl)) (fun _ h9 => h9) rfl dX2_addBeat_34 ?_
        refine lv_iload_n hx hb dX2_addBeat_37 rfl (lv_at hl 4 rfl) ?_
        refine n_aaldA (v := as (4 + 5 * j)) (j := j) hx hb hKB hSP.1 3 0 rfl rfl hj (by decide) rfl dX2_addBeat_38 ?_
        refine lv_iload hx hb dX2_addBeat_39 (lv_at hl 0 rfl) ?_
        refine n_aaldA (v := as (5 + 5 * j + i)) (j := i) hx hb hK (vp1 (hSP.2 j hj).1) 0 3 rfl rfl (by omega) (by omega) rfl dX2_addBeat_41 ?_
        refine n_aastA (cA := cJ) (cV := cI) (M := 2) (g := (fun x => .int (btF (v j) i x))) (j := i) hx hb hP hD hS 0 rfl (EA_J hK hEA) ((hSP.2 j hj).2 i (by omega)) (by omega) (by omega) dX2_addBeat_42 (fun H locs hP hD hS hz2 hk2 => ?_)
        have hP : va_P D vwCl [(s.heap.size, .inl (cJ, lbc (v j) + 1, qA (pfx as j (i + 1))))] H := by rw [← pfx_s]; exact hP
        refine lv_iinc (v := nI (i + 1)) (lv' := [(5, .int (nI (i + 1))), (4, .ref s.heap.size), (3, .int (nI o)), (2, .int (nI num)), (1, .int (nI j)), (0, .ref (as 0))]) hx hb dX2_addBeat_43 hl (k := 0) rfl (nI_inc _) (by decide) rfl (fun ls hl => ?_)
        refine lv_goto (tgt := 17) hx hb dX2_addBeat_46 (by decide) ?_
        exact ih_17 (i + 1) (by omega) (by omega) H locs hP hS ls (lv_sub hl [0, 1, 2, 3, 4, 5] rfl)
  exact loop_17 (lbc (v j) + 1) 0 (by omega) (Nat.zero_le _) H [] (by rw [pfx_0]; exact vp1 hZ) hS ls (lv_sub hl [0, 1, 5, 4, 3, 2] rfl)
set_option maxHeartbeats 4000000 in
set_option maxRecDepth 100000 in
/-- takeBeat -/
theorem c_X2_takeBeat (l : Launch) (D : va_G) (cI cZ cL cJ : ClassId) (cB : ClassId) (as : Nat → Nat) (n now : Nat) (told : Int32) (v : Nat → LV) (hwf : WFX n now v) (hinj : InjS v as) (j : Nat) (hj : j < 8) (b : Nat) (hb4 : b < lbc (v j)) (sz : Nat) : Met l yX2_takeBeat wsX2_takeBeat ({ frames := 0, cells := 2, slots := 7, locals := 0 } : Room) (PCZ D cB (TY cI cZ cL cJ) (AN (as 3) sz) [.ref (as 0), .int (nI j), .int (nI b)] sz (fun H => SP D cI cZ cJ cB as n now told v H)) (va_Qv (fun as' : Nat → Nat => InjS (updv v j (remL (v j) b)) as' ∧ as' 0 = as 0 ∧ ∀ u, Us (updv v j (remL (v j) b)) u → (∃ w, Us v w ∧ as' u = as w) ∨ sz ≤ as' u) (fun as' t => SP D cI cZ cJ cB as' n now told (updv v j (remL (v j) b)) t.heap) (AN (as 3) sz)) 2 7 (AN (as 3) sz) := by
  refine Met.ofW (cc := cX2_takeBeat) (maxL := 5) (ret := none) (by decide) rfl ?_
  intro p e s m args below meth c s₁ B hml hv
  obtain ⟨⟨⟨rfl, hK, hE, hS0, hSL⟩, hEA⟩, hsz⟩ := hv
  subst hsz
  obtain ⟨hn8, hnow, hwl⟩ := hwf
  have hKB := hEA.2
  have hw4 : ∀ i, i < 8 → lbc (v i) ≤ 4 := fun i hi => (hwl i hi).1
  have hj4 := hw4 j hj
  have hlt := SP_lt ⟨hS0, hSL⟩
  have hx := B.exec
  have hb := B.bytes
  have hr := B.returns
  have hts := atoms_spec (ws := wsX2_takeBeat) B.pre
  have hown : s.vm.findClass RX2 = some m.cls := findClass_of_methodNamed B.named
  have hlocks := B.notSynchronized
  have hNF := hE.2.1.1
  have hin2 : ∀ w ∈ wsX20, w ∈ wsX2_takeBeat := by decide +kernel
  have hl := lv_entry ([.ref (as 0), .int (nI j), .int (nI b)]) (n := 5) (Nat.le_of_ble_eq_true rfl)
  rw [lg_entry_eq]
  generalize (lg_sl ([.ref (as 0), .int (nI j), .int (nI b)]) ++ List.replicate (5 - (lg_sl ([.ref (as 0), .int (nI j), .int (nI b)])).length) Slot.unset).toArray = ls at hl ⊢
  have hl : lv_has ls 5 [(0, .ref (as 0)), (1, .int (nI j)), (2, .int (nI b))] := hl
  refine lv_aload_n hx hb dX2_takeBeat_0 rfl (lv_at hl 0 rfl) ?_
  refine va_get (D := D) (ci := 2) (v := .ref (as 3)) (C := RX2) (T := TX2) (N := 6) hx hb hts hin2 hown hK hS0 0 rfl rfl 5 (by decide) (hts (.fieldLink RX2 18 "LanternPrimesLaw$Sim" "beats" "[[[I") (List.mem_of_getElem? (i := 1) rfl)) (fun _ h9 => h9) rfl dX2_takeBeat_1 ?_
  refine lv_iload_n hx hb dX2_takeBeat_4 rfl (lv_at hl 1 rfl) ?_
  refine n_aaldA (v := as (4 + 5 * j)) (j := j) hx hb hKB hS0 3 0 rfl rfl hj (by decide) rfl dX2_takeBeat_5 ?_
  refine va_alen (v := nI (lbc (v j))) hx hb hK (vp1 (hSL j hj).1) 0 3 rfl rfl rfl dX2_takeBeat_6 ?_
  refine lv_iconst (v := nI 1) hx hb dX2_takeBeat_7 (by decide) ?_
  refine n_isub (v := nI ((lbc (v j)) - 1)) hx hb dX2_takeBeat_8 (pk_sub (by omega)) ?_
  refine n_anewA (N := lbc (v j) - 1) hx hb hown (hts (.classLink RX2 21 "[I") (List.mem_of_getElem? (i := 2) rfl)) hK hEA (by omega) dX2_takeBeat_9 (Nat.le_of_ble_eq_true rfl) (by show 0 + (lbc (v j) - 1) ≤ 7; omega) (fun H hz1 hk1 hZ => ?_)
  have hS : va_S (fun q => s.heap.size ≤ q) s.heap H [] := ⟨by omega, fun q h1 _ => hk1 q h1, fun q h => by cases h⟩
  refine lv_astore_n (lv' := [(3, .ref s.heap.size), (0, .ref (as 0)), (1, .int (nI j)), (2, .int (nI b))]) hx hb dX2_takeBeat_12 rfl hl (by decide) rfl (fun ls hl => ?_)
  refine lv_iconst (v := nI 0) hx hb dX2_takeBeat_13 (by decide) ?_
  refine lv_istore (lv' := [(4, .int (nI 0)), (3, .ref s.heap.size), (0, .ref (as 0)), (1, .int (nI j)), (2, .int (nI b))]) hx hb dX2_takeBeat_14 hl (by decide) rfl (fun ls hl => ?_)
  have loop_16 : ∀ (fu : Nat) (i : Nat), lbc (v j) - i ≤ fu → i ≤ lbc (v j) - 1 → ∀ (H : Heap) (locs : List Loc), va_P D vwCl [(s.heap.size, .inl (cJ, lbc (v j) - 1, qA (pfy as j b i)))] H → va_S (fun q => s.heap.size ≤ q) s.heap H locs → ∀ (ls : Array Slot), lv_has ls 5 [(4, .int (nI i)), (3, .ref s.heap.size), (2, .int (nI b)), (1, .int (nI j)), (0, .ref (as 0))] → W p l e (headSpec wsX2_takeBeat ({ frames := 0, cells := 2, slots := 7, locals := 0 } : Room)).room s m [.ref (as 0), .int (nI j), .int (nI b)].toArray below meth c H locs (0 + 1) (0 + (lbc (v j) - 1)) (MQ below (va_Qv (fun as' : Nat → Nat => InjS (updv v j (remL (v j) b)) as' ∧ as' 0 = as 0 ∧ ∀ u, Us (updv v j (remL (v j) b)) u → (∃ w, Us v w ∧ as' u = as w) ∨ s.heap.size ≤ as' u) (fun as' t => SP D cI cZ cJ cB as' n now told (updv v j (remL (v j) b)) t.heap) (AN (as 3) s.heap.size)) [.ref (as 0), .int (nI j), .int (nI b)].toArray s 2 7 (AN (as 3) s.heap.size)) (F0 m 16 ls []) := by
    intro fu
    induction fu with
    | zero => intro i hn_16 hi; exact absurd hn_16 (by omega)
    | succ fu ih_16 =>
      intro i hn_16 hi H locs hP hS ls hl
      have hD : va_D (fun q => s.heap.size ≤ q) [(s.heap.size, .inl (cJ, lbc (v j) - 1, qA (pfy as j b i)))] := vd1A (Nat.le_refl _)
      have hSP : SP D cI cZ cJ cB as n now told v H := SP_keep ⟨hS0, hSL⟩ (fun u hu => Nat.not_le.mpr (SP_lt ⟨hS0, hSL⟩ u hu)) hS.2.1
      refine lv_iload hx hb dX2_takeBeat_16 (lv_at hl 0 rfl) ?_
      refine lv_aload_n hx hb dX2_takeBeat_18 rfl (lv_at hl 1 rfl) ?_
      refine va_alen (v := nI (lbc (v j) - 1)) hx hb hK hP 0 3 rfl rfl rfl dX2_takeBeat_19 ?_
      refine n_icmp_ge (a := i) (b := lbc (v j) - 1) (tgt := 55) hx hb (by omega) (by omega) dX2_takeBeat_20 (by decide) (fun c_20 => ?_) (fun c_20 => ?_)
      · have e_i : i = lbc (v j) - 1 := by omega
        subst e_i
        refine lv_aload_n hx hb dX2_takeBeat_55 rfl (lv_at hl 4 rfl) ?_
        refine va_get (D := D) (ci := 2) (v := .ref (as 3)) (C := RX2) (T := TX2) (N := 6) hx hb hts hin2 hown hK hSP.1 0 rfl rfl 5 (by decide) (hts (.fieldLink RX2 18 "LanternPrimesLaw$Sim" "beats" "[[[I") (List.mem_of_getElem? (i := 1) rfl)) (fun _ h9 => h9) rfl dX2_takeBeat_56 ?_
        refine lv_iload_n hx hb dX2_takeBeat_59 rfl (lv_at hl 3 rfl) ?_
        refine lv_aload_n hx hb dX2_takeBeat_60 rfl (lv_at hl 1 rfl) ?_
        refine n_aastA (cA := cB) (cV := cJ) (M := lbc (v j) - 1) (g := (fun x => va_rf (pfy as j b (lbc (v j) - 1) x))) (j := j) hx hb (vp1 (hSP.1 3 _ rfl)) (vd1A (A := AN (as 3) s.heap.size) (Or.inl rfl)) (va_S_mono hS (fun q h => Or.inr h)) 0 rfl (EA_B hK hEA) (hP 0 _ rfl) hj (by decide) dX2_takeBeat_61 (fun H locs hP3 hD3 hS3 hz2 hk2 => ?_)
        have hSP3 := hSP
        have hW4 : va_P D vwCl [(s.heap.size, .inl (cJ, lbc (v j) - 1, qA (pfy as j b (lbc (v j) - 1))))] H := hP.kept (fun k q hq => hk2 _ (fun e => by match k, hq with | 0, hq => (cases hq; have := hlt 3 (Us.lo (by decide)); omega)))
        have hrow : va_at D vwCl (asT as j b s.heap.size (4 + 5 * j), .inl (cJ, lbc (remL (v j) b), qA (fun i => some (asT as j b s.heap.size (5 + 5 * j + i))))) H := by
          have h1 : H[s.heap.size]? = some (arrV cJ (lbc (v j) - 1) (fun x => va_rf (pfy as j b (lbc (v j) - 1) x))) := hW4 0 _ rfl
          show H[asT as j b s.heap.size (4 + 5 * j)]? = some (arrV cJ (lbc (v j) - 1) (fun x => va_rf (some (asT as j b s.heap.size (5 + 5 * j + x)))))
          rw [show asT as j b s.heap.size (4 + 5 * j) = s.heap.size from if_pos rfl, h1]
          refine congrArg some (arrV_congr (fun x hx9 => ?_))
          have e1 : asT as j b s.heap.size (5 + 5 * j + x) = as (5 + 5 * j + bsk b x) := asT_bt (by omega)
          rw [e1]
          unfold pfy
          rw [if_pos (by omega)]
        have hbts : ∀ i, i < lbc (remL (v j) b) → va_at D vwCl (asT as j b s.heap.size (5 + 5 * j + i), .inl (cI, 2, .inl (btF (remL (v j) b) i))) H := by
          intro i hi
          have hi' : i < lbc (v j) - 1 := hi
          by_cases e : i < b
          · have h1 := (hSP3.2 j hj).2 i (by omega)
            have e1 : btF (remL (v j) b) i = btF (v j) i := by
              have e2 : lnu (remL (v j) b) i = lnu (v j) i := if_neg (by omega)
              have e3 : lof (remL (v j) b) i = lof (v j) i := if_neg (by omega)
              unfold btF
              rw [e2, e3]
            rw [e1, show asT as j b s.heap.size (5 + 5 * j + i) = as (5 + 5 * j + i) from by unfold asT; rw [if_neg (by omega), if_neg (by omega)]]
            exact h1.kept (hk2 _ (fun e9 => absurd (hinj _ 3 (Us.bt hj (by omega)) (Us.lo (by decide)) e9) (by omega)))
          · have h1 := (hSP3.2 j hj).2 (i + 1) (by omega)
            have e1 : btF (remL (v j) b) i = btF (v j) (i + 1) := by
              have e2 : lnu (remL (v j) b) i = lnu (v j) (i + 1) := if_pos (by omega)
              have e3 : lof (remL (v j) b) i = lof (v j) (i + 1) := if_pos (by omega)
              unfold btF
              rw [e2, e3]
            rw [e1, show asT as j b s.heap.size (5 + 5 * j + i) = as (5 + 5 * j + (i + 1)) from by unfold asT; rw [if_neg (by omega), if_pos (by omega), show 5 + 5 * j + (i + 1) = 5 + 5 * j + i + 1 by omega]]
            exact h1.kept (hk2 _ (fun e9 => absurd (hinj _ 3 (Us.bt hj (by omega)) (Us.lo (by decide)) e9) (by omega)))
        refine W.widen (k := 2) (n := 7) (by omega) (by omega) ?_
        exact W.vret hx hb hr (fun t ht hW => ⟨⟨asT as j b s.heap.size, rfl, ⟨asT_inj hinj hlt hj hw4 hb4 (Nat.le_refl _), by unfold asT; rw [if_neg (by omega), if_neg (by omega)], fun u hu => (asT_src hj hw4 hb4 (Nat.le_refl s.heap.size) u hu).elim (fun ⟨w, h1, h2, _⟩ => Or.inl ⟨w, h1, h2⟩) (fun h => Or.inr (by rw [h.2]; exact Nat.le_refl _))⟩, by show SP D cI cZ cJ cB _ n now told _ t.heap; rw [ht]; exact SP_row hinj hj hw4 rfl rfl (fun u hu => by unfold asT; rw [if_neg (by omega), if_neg (by omega)]) hSP3 hk2 (by rw [show asT as j b s.heap.size (4 + 5 * j) = s.heap.size from if_pos rfl]; exact hP3 0 _ rfl) hrow hbts⟩, hS3.F ht⟩) (fun q hq => hS3.2.2 q hq) dX2_takeBeat_62
      · refine lv_aload_n hx hb dX2_takeBeat_23 rfl (lv_at hl 1 rfl) ?_
        refine lv_iload hx hb dX2_takeBeat_24 (lv_at hl 0 rfl) ?_
        refine lv_aload_n hx hb dX2_takeBeat_26 rfl (lv_at hl 4 rfl) ?_
        refine va_get (D := D) (ci := 2) (v := .ref (as 3)) (C := RX2) (T := TX2) (N := 6) hx hb hts hin2 hown hK hSP.1 0 rfl rfl 5 (by decide) (hts (.fieldLink RX2 18 "LanternPrimesLaw$Sim" "beats" "[[[I") (List.mem_of_getElem? (i := 1) rfl)) (fun _ h9 => h9) rfl dX2_takeBeat_27 ?_
        refine lv_iload_n hx hb dX2_takeBeat_30 rfl (lv_at hl 3 rfl) ?_
        refine n_aaldA (v := as (4 + 5 * j)) (j := j) hx hb hKB hSP.1 3 0 rfl rfl hj (by decide) rfl dX2_takeBeat_31 ?_
        have join_47 : ∀ (ls : Array Slot), lv_has ls 5 [(4, .int (nI i)), (3, .ref s.heap.size), (2, .int (nI b)), (1, .int (nI j)), (0, .ref (as 0))] → W p l e (headSpec wsX2_takeBeat ({ frames := 0, cells := 2, slots := 7, locals := 0 } : Room)).room s m [.ref (as 0), .int (nI j), .int (nI b)].toArray below meth c H locs (0 + 1) (0 + (lbc (v j) - 1)) (MQ below (va_Qv (fun as' : Nat → Nat => InjS (updv v j (remL (v j) b)) as' ∧ as' 0 = as 0 ∧ ∀ u, Us (updv v j (remL (v j) b)) u → (∃ w, Us v w ∧ as' u = as w) ∨ s.heap.size ≤ as' u) (fun as' t => SP D cI cZ cJ cB as' n now told (updv v j (remL (v j) b)) t.heap) (AN (as 3) s.heap.size)) [.ref (as 0), .int (nI j), .int (nI b)].toArray s 2 7 (AN (as 3) s.heap.size)) (F0 m 47 ls [.int (nI (bsk b i)), .ref (as (4 + 5 * j)), .int (nI i), .ref s.heap.size]) := by
          intro   ls hl
          refine n_aaldA (v := as (5 + 5 * j + bsk b i)) (j := bsk b i) hx hb hK (vp1 (hSP.2 j hj).1) 0 3 rfl rfl (by unfold bsk; split <;> omega) (by omega) rfl dX2_takeBeat_47 ?_
          refine n_aastA (cA := cJ) (cV := cI) (M := 2) (g := (fun x => .int (btF (v j) (bsk b i) x))) (j := i) hx hb hP hD hS 0 rfl (EA_J hK hEA) ((hSP.2 j hj).2 (bsk b i) (by unfold bsk; split <;> omega)) (by omega) (by omega) dX2_takeBeat_48 (fun H locs hP hD hS hz2 hk2 => ?_)
          have hP : va_P D vwCl [(s.heap.size, .inl (cJ, lbc (v j) - 1, qA (pfy as j b (i + 1))))] H := by rw [← pfy_s]; exact hP
          refine lv_iinc (v := nI (i + 1)) (lv' := [(4, .int (nI (i + 1))), (3, .ref s.heap.size), (2, .int (nI b)), (1, .int (nI j)), (0, .ref (as 0))]) hx hb dX2_takeBeat_49 hl (k := 0) rfl (nI_inc _) (by decide) rfl (fun ls hl => ?_)
          refine lv_goto (tgt := 16) hx hb dX2_takeBeat_52 (by decide) ?_
          exact ih_16 (i + 1) (by omega) (by omega) H locs hP hS ls (lv_sub hl [0, 1, 2, 3, 4] rfl)
        refine lv_iload hx hb dX2_takeBeat_32 (lv_at hl 0 rfl) ?_
        refine lv_iload_n hx hb dX2_takeBeat_34 rfl (lv_at hl 2 rfl) ?_
        refine n_icmp_ge (a := i) (b := b) (tgt := 43) hx hb (by omega) (by omega) dX2_takeBeat_35 (by decide) (fun c_35 => ?_) (fun c_35 => ?_)
        · refine lv_iload hx hb dX2_takeBeat_43 (lv_at hl 0 rfl) ?_
          refine lv_iconst (v := nI 1) hx hb dX2_takeBeat_45 (by decide) ?_
          refine n_iadd (v := nI (i + 1)) hx hb dX2_takeBeat_46 (nI_add _ _) ?_
          refine n_ti (y := nI (bsk b i)) (by unfold bsk; first | rw [if_pos (by omega)] | rw [if_neg (by omega)]) ?_
          exact join_47 ls (lv_sub hl [0, 1, 2, 3, 4] rfl)
        · refine lv_iload hx hb dX2_takeBeat_38 (lv_at hl 0 rfl) ?_
          refine lv_goto (tgt := 47) hx hb dX2_takeBeat_40 (by decide) ?_
          refine n_ti (y := nI (bsk b i)) (by unfold bsk; first | rw [if_pos (by omega)] | rw [if_neg (by omega)]) ?_
          exact join_47 ls (lv_sub hl [0, 1, 2, 3, 4] rfl)
  exact loop_16 (lbc (v j)) 0 (by omega) (Nat.zero_le _) H [] (by rw [pfy_0]; exact vp1 hZ) hS ls (lv_sub hl [0, 1, 4, 3, 2] rfl)
