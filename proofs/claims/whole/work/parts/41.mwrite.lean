set_option maxHeartbeats 4000000 in
set_option maxRecDepth 100000 in
/-- takeBeat -/
theorem c_X2_takeBeat (l : Launch) (D : va_G) (cI cZ cL cJ : ClassId) (am : Nat → Nat) (th : Int32) (n now : Nat) (told : Int32) (v : Nat → LV) (hwf : WFX n now v) (hinj : Inj 6 am) (k b : Int32) : Met l yX2_takeBeat wsX2_takeBeat ({ frames := 3, cells := 0, slots := 0, locals := 65 } : Room) (PC D (TY cI cZ cL cJ) (AM am) [.ref (am 0), .int k, .int b] (fun H => PM D cI cZ am th n now told v H)) (QW (AM am) True ((mrI (cd1 (btOk n v k b)) (nI (lbc (v (ixx k)) - 1)))) (fun H => PM D cI cZ am (nI (cd1 (btOk n v k b))) n (now) (told) ((if cd1 (btOk n v k b) = 0 then updv v (ixx k) (remL (v (ixx k)) (ixx b)) else v)) H)) 0 0 (AM am) := by
  refine Met.ofW (cc := cX2_takeBeat) (maxL := 4) (ret := (some .int)) (by decide) rfl ?_
  intro p e s m args below meth c s₁ B hml hv
  obtain ⟨rfl, hK, hEA, hP⟩ := hv
  obtain ⟨hn8, hnow, hwl⟩ := hwf
  have hE : EN noA s s.heap := hEA.narrow (fun _ h => h.elim)
  have hS : va_S (AM am) s.heap s.heap [] := va_S.rf
  have hD : va_D (AM am) (mW cI cZ am th n now told v) := vd6 hinj
  have hP : va_P D vwCl (mW cI cZ am th n now told v) s.heap := hP
  have hx := B.exec
  have hb := B.bytes
  have hr := B.returns
  have hts := atoms_spec (ws := wsX2_takeBeat) B.pre
  have hown : s.vm.findClass RX2 = some m.cls := findClass_of_methodNamed B.named
  have hlocks := B.notSynchronized
  have hNF := hE.2.1.1
  have hin2 : ∀ w ∈ wsX20, w ∈ wsX2_takeBeat := by decide +kernel
  have hl := lv_entry ([.ref (am 0), .int k, .int b]) (n := 4) (Nat.le_of_ble_eq_true rfl)
  rw [lg_entry_eq]
  generalize (lg_sl ([.ref (am 0), .int k, .int b]) ++ List.replicate (4 - (lg_sl ([.ref (am 0), .int k, .int b])).length) Slot.unset).toArray = ls at hl ⊢
  have hl : lv_has ls 4 [(0, .ref (am 0)), (1, .int k), (2, .int b)] := hl
  refine lv_aload_n hx hb dX2_takeBeat_0 rfl (lv_at hl 0 rfl) ?_
  refine lv_iconst (v := nI 0) hx hb dX2_takeBeat_1 (by decide) ?_
  refine va_put (D := D) (ci := 2) (v := .int (nI 0)) (ty := .int) (C := RX2) (T := TX2) (N := 9) hx hb hts hin2 tyX2 tyX2_ok nmX2 hown hK hP hD hS 0 rfl rfl 0 (by decide) (hts (.fieldLink RX2 26 "LanternPrimesModel" "thrown" "I") (List.mem_of_getElem? (i := 1) rfl)) (fun _ h9 => h9) rfl (by decide +kernel) rfl rfl (Nat.le_of_ble_eq_true rfl) dX2_takeBeat_2 (fun H locs hP hD hS => ?_)
  have hP : va_P D vwCl [(am 0, .inr (2, [.int (nI 0), .int (nI now), .int told, .int (nI n), .ref (am 1), .ref (am 2), .ref (am 3), .ref (am 4), .ref (am 5)])), (am 1, .inl (cZ, 8, .inl (fun j => bI (lon (v j))))), (am 2, .inl (cZ, 8, .inl (fun j => bI (lcv (v j))))), (am 3, .inl (cI, 8, .inl (fun j => nI (lbc (v j))))), (am 4, .inl (cI, 32, .inl (fun z => nI (lnu (v (z / 4)) (z % 4))))), (am 5, .inl (cI, 32, .inl (fun z => nI (lof (v (z / 4)) (z % 4)))))] H := hP
  have hD : va_D (AM am) [(am 0, .inr (2, [.int (nI 0), .int (nI now), .int told, .int (nI n), .ref (am 1), .ref (am 2), .ref (am 3), .ref (am 4), .ref (am 5)])), (am 1, .inl (cZ, 8, .inl (fun j => bI (lon (v j))))), (am 2, .inl (cZ, 8, .inl (fun j => bI (lcv (v j))))), (am 3, .inl (cI, 8, .inl (fun j => nI (lbc (v j))))), (am 4, .inl (cI, 32, .inl (fun z => nI (lnu (v (z / 4)) (z % 4))))), (am 5, .inl (cI, 32, .inl (fun z => nI (lof (v (z / 4)) (z % 4)))))] := hD
  refine lv_aload_n hx hb dX2_takeBeat_5 rfl (lv_at hl 0 rfl) ?_
  refine lv_iload_n hx hb dX2_takeBeat_6 rfl (lv_at hl 1 rfl) ?_
  refine lv_iload_n hx hb dX2_takeBeat_7 rfl (lv_at hl 2 rfl) ?_
  refine rV (r := bI (btOk n v k b)) (As := [.int k, .int b]) (rest := []) ⟨hx, hb, hml, hown, hts⟩ (c_X2_isBeat l D cI cZ cL cJ am (nI 0) n now told v ⟨hn8, hnow, hwl⟩ k b) (cwV 2 hts gX2_takeBeat_X2_isBeat rfl rfl rfl (by decide +kernel) ⟨(Nat.le_of_ble_eq_true rfl), (Nat.le_of_ble_eq_true rfl)⟩) hK ((hEA.kept hS.2.1).narrow (fun _ h => h.elim)) hP (RC_of (q := (RX2, TX2, 9)) (ci := 2) hK rfl (vpa hP 0 rfl)) rfl hl.1 rfl (Nat.le_of_ble_eq_true rfl) dX2_takeBeat_8 ⟨(Nat.le_of_ble_eq_true rfl), (Nat.le_of_ble_eq_true rfl)⟩ ?_
  refine b_if_ne (b := btOk n v k b) (tgt := 20) hx hb dX2_takeBeat_11 (by decide) (fun c_11 => ?_) (fun c_11 => ?_)
  · obtain ⟨j, i, hj, hi, rfl, rfl⟩ := btOk_j hn8 hwl c_11
    have hw4 := (hwl j (by omega)).1
    refine lv_aload_n hx hb dX2_takeBeat_20 rfl (lv_at hl 0 rfl) ?_
    refine va_get (D := D) (ci := 2) (v := .ref (am 3)) (C := RX2) (T := TX2) (N := 9) hx hb hts hin2 hown hK hP 0 rfl rfl 6 (by decide) (hts (.fieldLink RX2 16 "LanternPrimesModel" "beats" "[I") (List.mem_of_getElem? (i := 2) rfl)) (fun _ h9 => h9) rfl dX2_takeBeat_21 ?_
    refine lv_iload_n hx hb dX2_takeBeat_24 rfl (lv_at hl 1 rfl) ?_
    refine lv_dup2_11 hx hb dX2_takeBeat_25 rfl rfl ?_
    refine n_iald (v := nI (lbc (v j))) (j := j) hx hb hK hP 3 0 rfl rfl (by omega) (by decide) rfl dX2_takeBeat_26 ?_
    refine lv_iconst (v := nI 1) hx hb dX2_takeBeat_27 (by decide) ?_
    refine n_isub (v := nI ((lbc (v j)) - 1)) hx hb dX2_takeBeat_28 (pk_sub (by omega)) ?_
    refine n_iast (f' := fun w => nI (if w = j then lbc (v j) - 1 else lbc (v w))) (j := j) hx hb hK hP hD hS 3 0 rfl rfl (by omega) (by decide) (updI _ _ _) dX2_takeBeat_29 (fun H locs hP hD hS => ?_)
    have hP : va_P D vwCl [(am 0, .inr (2, [.int (nI 0), .int (nI now), .int told, .int (nI n), .ref (am 1), .ref (am 2), .ref (am 3), .ref (am 4), .ref (am 5)])), (am 1, .inl (cZ, 8, .inl (fun j => bI (lon (v j))))), (am 2, .inl (cZ, 8, .inl (fun j => bI (lcv (v j))))), (am 3, .inl (cI, 8, .inl (fun w => nI (if w = j then lbc (v j) - 1 else lbc (v w))))), (am 4, .inl (cI, 32, .inl (fun z => nI (lnu (v (z / 4)) (z % 4))))), (am 5, .inl (cI, 32, .inl (fun z => nI (lof (v (z / 4)) (z % 4)))))] H := hP
    have hD : va_D (AM am) [(am 0, .inr (2, [.int (nI 0), .int (nI now), .int told, .int (nI n), .ref (am 1), .ref (am 2), .ref (am 3), .ref (am 4), .ref (am 5)])), (am 1, .inl (cZ, 8, .inl (fun j => bI (lon (v j))))), (am 2, .inl (cZ, 8, .inl (fun j => bI (lcv (v j))))), (am 3, .inl (cI, 8, .inl (fun w => nI (if w = j then lbc (v j) - 1 else lbc (v w))))), (am 4, .inl (cI, 32, .inl (fun z => nI (lnu (v (z / 4)) (z % 4))))), (am 5, .inl (cI, 32, .inl (fun z => nI (lof (v (z / 4)) (z % 4)))))] := hD
    refine lv_iconst (v := nI 4) hx hb dX2_takeBeat_30 (by decide) ?_
    refine lv_iload_n hx hb dX2_takeBeat_31 rfl (lv_at hl 1 rfl) ?_
    refine n_imul (v := nI (4 * j)) hx hb dX2_takeBeat_32 (pk_mul _ _) ?_
    refine lv_iload_n hx hb dX2_takeBeat_33 rfl (lv_at hl 2 rfl) ?_
    refine n_iadd (v := nI ((4 * j) + i)) hx hb dX2_takeBeat_34 (nI_add _ _) ?_
    refine lv_istore_n (lv' := [(3, .int (nI ((4 * j) + i))), (0, .ref (am 0)), (1, .int (nI j)), (2, .int (nI i))]) hx hb dX2_takeBeat_35 rfl hl (by decide) rfl (fun ls hl => ?_)
    have loop_36 : ∀ (fu : Nat) (r : Nat), lbc (v j) - r ≤ fu → i ≤ r → r + 1 ≤ lbc (v j) → ∀ (H : Heap) (locs : List Loc), va_P D vwCl [(am 0, .inr (2, [.int (nI 0), .int (nI now), .int told, .int (nI n), .ref (am 1), .ref (am 2), .ref (am 3), .ref (am 4), .ref (am 5)])), (am 1, .inl (cZ, 8, .inl (fun j => bI (lon (v j))))), (am 2, .inl (cZ, 8, .inl (fun j => bI (lcv (v j))))), (am 3, .inl (cI, 8, .inl (fun w => nI (if w = j then lbc (v j) - 1 else lbc (v w))))), (am 4, .inl (cI, 32, .inl (fun w => nI (lnu (updv v j (shL (v j) i (r + 1)) (w / 4)) (w % 4))))), (am 5, .inl (cI, 32, .inl (fun w => nI (lof (updv v j (shL (v j) i (r + 1)) (w / 4)) (w % 4)))))] H → va_D (AM am) [(am 0, .inr (2, [.int (nI 0), .int (nI now), .int told, .int (nI n), .ref (am 1), .ref (am 2), .ref (am 3), .ref (am 4), .ref (am 5)])), (am 1, .inl (cZ, 8, .inl (fun j => bI (lon (v j))))), (am 2, .inl (cZ, 8, .inl (fun j => bI (lcv (v j))))), (am 3, .inl (cI, 8, .inl (fun w => nI (if w = j then lbc (v j) - 1 else lbc (v w))))), (am 4, .inl (cI, 32, .inl (fun w => nI (lnu (updv v j (shL (v j) i (r + 1)) (w / 4)) (w % 4))))), (am 5, .inl (cI, 32, .inl (fun w => nI (lof (updv v j (shL (v j) i (r + 1)) (w / 4)) (w % 4)))))] → va_S (AM am) s.heap H locs → ∀ (ls : Array Slot), lv_has ls 4 [(3, .int (nI (4 * j + r))), (0, .ref (am 0)), (1, .int (nI j)), (2, .int (nI i))] → W p l e (headSpec wsX2_takeBeat ({ frames := 3, cells := 0, slots := 0, locals := 65 } : Room)).room s m [.ref (am 0), .int (nI j), .int (nI i)].toArray below meth c H locs 0 0 (MQ below (QW (AM am) True ((mrI (cd1 (btOk n v (nI j) (nI i))) (nI (lbc (v (ixx (nI j))) - 1)))) (fun H => PM D cI cZ am (nI (cd1 (btOk n v (nI j) (nI i)))) n (now) (told) ((if cd1 (btOk n v (nI j) (nI i)) = 0 then updv v (ixx (nI j)) (remL (v (ixx (nI j))) (ixx (nI i))) else v)) H)) [.ref (am 0), .int (nI j), .int (nI i)].toArray s 0 0 (AM am)) (F0 m 36 ls []) := by
      intro fu
      induction fu with
      | zero => intro r hn_36 hir hr9; exact absurd hn_36 (by omega)
      | succ fu ih_36 =>
        intro r hn_36 hir hr9 H locs hP hD hS ls hl
        refine lv_iload_n hx hb dX2_takeBeat_36 rfl (lv_at hl 0 rfl) ?_
        refine lv_iconst (v := nI 4) hx hb dX2_takeBeat_37 (by decide) ?_
        refine lv_iload_n hx hb dX2_takeBeat_38 rfl (lv_at hl 2 rfl) ?_
        refine n_imul (v := nI (4 * j)) hx hb dX2_takeBeat_39 (pk_mul _ _) ?_
        refine lv_aload_n hx hb dX2_takeBeat_40 rfl (lv_at hl 1 rfl) ?_
        refine va_get (D := D) (ci := 2) (v := .ref (am 3)) (C := RX2) (T := TX2) (N := 9) hx hb hts hin2 hown hK hP 0 rfl rfl 6 (by decide) (hts (.fieldLink RX2 16 "LanternPrimesModel" "beats" "[I") (List.mem_of_getElem? (i := 2) rfl)) (fun _ h9 => h9) rfl dX2_takeBeat_41 ?_
        refine lv_iload_n hx hb dX2_takeBeat_44 rfl (lv_at hl 2 rfl) ?_
        refine n_iald (v := nI (lbc (v j) - 1)) (j := j) hx hb hK hP 3 0 rfl rfl (by omega) (by decide) (congrArg nI (if_pos rfl)) dX2_takeBeat_45 ?_
        refine n_iadd (v := nI ((4 * j) + (lbc (v j) - 1))) hx hb dX2_takeBeat_46 (nI_add _ _) ?_
        refine n_icmp_ge (a := 4 * j + r) (b := (4 * j) + (lbc (v j) - 1)) (tgt := 84) hx hb (by omega) (by omega) dX2_takeBeat_47 (by decide) (fun c_47 => ?_) (fun c_47 => ?_)
        · refine lv_aload_n hx hb dX2_takeBeat_84 rfl (lv_at hl 1 rfl) ?_
          refine va_get (D := D) (ci := 2) (v := .ref (am 3)) (C := RX2) (T := TX2) (N := 9) hx hb hts hin2 hown hK hP 0 rfl rfl 6 (by decide) (hts (.fieldLink RX2 16 "LanternPrimesModel" "beats" "[I") (List.mem_of_getElem? (i := 2) rfl)) (fun _ h9 => h9) rfl dX2_takeBeat_85 ?_
          refine lv_iload_n hx hb dX2_takeBeat_88 rfl (lv_at hl 2 rfl) ?_
          refine n_iald (v := nI (lbc (v j) - 1)) (j := j) hx hb hK hP 3 0 rfl rfl (by omega) (by decide) (congrArg nI (if_pos rfl)) dX2_takeBeat_89 ?_
          have hcd : cd1 (btOk n v (nI j) (nI i)) = 0 := (cd1_t c_11)
          have hend : PM D cI cZ am (nI (cd1 (btOk n v (nI j) (nI i)))) n (now) (told) ((if cd1 (btOk n v (nI j) (nI i)) = 0 then updv v (ixx (nI j)) (remL (v (ixx (nI j))) (ixx (nI i))) else v)) H := by
            rw [hcd]; rw [ixx_nI (by omega), ixx_nI (by omega)]; have hre : r + 1 = lbc (v j) := by omega
            rw [hre] at hP
            show PM D cI cZ am (nI 0) n now told (updv v j (remL (v j) i)) H
            exact mW_eq (fun w => congrArg bI (updv_s (v := v) (j := j) (L := (remL (v j) i)) lon rfl w)) (fun w => congrArg bI (updv_s (v := v) (j := j) (L := (remL (v j) i)) lcv rfl w)) (fun w => congrArg nI (updv_g lbc v j _ w).symm) (fun w => by rw [updv_g (fun L => lnu L (w % 4)), updv_g (fun L => lnu L (w % 4))]; rfl) (fun w => by rw [updv_g (fun L => lof L (w % 4)), updv_g (fun L => lof L (w % 4))]; rfl) hP
          refine n_ti (y := (mrI (cd1 (btOk n v (nI j) (nI i))) (nI (lbc (v (ixx (nI j))) - 1)))) (by rw [hcd, ixx_nI (by omega)]; rfl) ?_
          exact W.iret (v := (mrI (cd1 (btOk n v (nI j) (nI i))) (nI (lbc (v (ixx (nI j))) - 1)))) hx hb hr (fun t ht hW => ⟨trivial, rfl, by rw [ht]; exact hend, hS.F ht⟩) hS.2.2 dX2_takeBeat_90
        · refine lv_aload_n hx hb dX2_takeBeat_50 rfl (lv_at hl 1 rfl) ?_
          refine va_get (D := D) (ci := 2) (v := .ref (am 4)) (C := RX2) (T := TX2) (N := 9) hx hb hts hin2 hown hK hP 0 rfl rfl 7 (by decide) (hts (.fieldLink RX2 20 "LanternPrimesModel" "number" "[I") (List.mem_of_getElem? (i := 3) rfl)) (fun _ h9 => h9) rfl dX2_takeBeat_51 ?_
          refine lv_iload_n hx hb dX2_takeBeat_54 rfl (lv_at hl 0 rfl) ?_
          refine lv_aload_n hx hb dX2_takeBeat_55 rfl (lv_at hl 1 rfl) ?_
          refine va_get (D := D) (ci := 2) (v := .ref (am 4)) (C := RX2) (T := TX2) (N := 9) hx hb hts hin2 hown hK hP 0 rfl rfl 7 (by decide) (hts (.fieldLink RX2 20 "LanternPrimesModel" "number" "[I") (List.mem_of_getElem? (i := 3) rfl)) (fun _ h9 => h9) rfl dX2_takeBeat_56 ?_
          refine lv_iload_n hx hb dX2_takeBeat_59 rfl (lv_at hl 0 rfl) ?_
          refine lv_iconst (v := nI 1) hx hb dX2_takeBeat_60 (by decide) ?_
          refine n_iadd (v := nI ((4 * j + r) + 1)) hx hb dX2_takeBeat_61 (nI_add _ _) ?_
          refine n_iald (v := nI (lnu (v j) (r + 1))) (j := (4 * j + r) + 1) hx hb hK hP 4 0 rfl rfl (by omega) (by decide) (by show nI (lnu (updv v j (shL (v j) i (r + 1)) ((4 * j + r + 1) / 4)) ((4 * j + r + 1) % 4)) = _; rw [show (4 * j + r + 1) / 4 = j by omega, show (4 * j + r + 1) % 4 = r + 1 by omega, updv_j]; show nI (shf (lnu (v j)) i (r + 1) (r + 1)) = _; rw [shf_i]) dX2_takeBeat_62 ?_
          refine n_iast (f' := fun w => nI (lnu (updv v j (shL (v j) i (r + 1 + 1)) (w / 4)) (w % 4))) (j := 4 * j + r) hx hb hK hP hD hS 4 0 rfl rfl (by omega) (by decide) (by rw [updI]; exact num_shift (v := v) (j := j) hir (by omega) lnu (fun _ => rfl)) dX2_takeBeat_63 (fun H locs hP hD hS => ?_)
          have hP : va_P D vwCl [(am 0, .inr (2, [.int (nI 0), .int (nI now), .int told, .int (nI n), .ref (am 1), .ref (am 2), .ref (am 3), .ref (am 4), .ref (am 5)])), (am 1, .inl (cZ, 8, .inl (fun j => bI (lon (v j))))), (am 2, .inl (cZ, 8, .inl (fun j => bI (lcv (v j))))), (am 3, .inl (cI, 8, .inl (fun w => nI (if w = j then lbc (v j) - 1 else lbc (v w))))), (am 4, .inl (cI, 32, .inl (fun w => nI (lnu (updv v j (shL (v j) i (r + 1 + 1)) (w / 4)) (w % 4))))), (am 5, .inl (cI, 32, .inl (fun w => nI (lof (updv v j (shL (v j) i (r + 1)) (w / 4)) (w % 4)))))] H := hP
          have hD : va_D (AM am) [(am 0, .inr (2, [.int (nI 0), .int (nI now), .int told, .int (nI n), .ref (am 1), .ref (am 2), .ref (am 3), .ref (am 4), .ref (am 5)])), (am 1, .inl (cZ, 8, .inl (fun j => bI (lon (v j))))), (am 2, .inl (cZ, 8, .inl (fun j => bI (lcv (v j))))), (am 3, .inl (cI, 8, .inl (fun w => nI (if w = j then lbc (v j) - 1 else lbc (v w))))), (am 4, .inl (cI, 32, .inl (fun w => nI (lnu (updv v j (shL (v j) i (r + 1 + 1)) (w / 4)) (w % 4))))), (am 5, .inl (cI, 32, .inl (fun w => nI (lof (updv v j (shL (v j) i (r + 1)) (w / 4)) (w % 4)))))] := hD
          refine lv_aload_n hx hb dX2_takeBeat_64 rfl (lv_at hl 1 rfl) ?_
          refine va_get (D := D) (ci := 2) (v := .ref (am 5)) (C := RX2) (T := TX2) (N := 9) hx hb hts hin2 hown hK hP 0 rfl rfl 8 (by decide) (hts (.fieldLink RX2 23 "LanternPrimesModel" "offset" "[I") (List.mem_of_getElem? (i := 4) rfl)) (fun _ h9 => h9) rfl dX2_takeBeat_65 ?_
          refine lv_iload_n hx hb dX2_takeBeat_68 rfl (lv_at hl 0 rfl) ?_
          refine lv_aload_n hx hb dX2_takeBeat_69 rfl (lv_at hl 1 rfl) ?_
          refine va_get (D := D) (ci := 2) (v := .ref (am 5)) (C := RX2) (T := TX2) (N := 9) hx hb hts hin2 hown hK hP 0 rfl rfl 8 (by decide) (hts (.fieldLink RX2 23 "LanternPrimesModel" "offset" "[I") (List.mem_of_getElem? (i := 4) rfl)) (fun _ h9 => h9) rfl dX2_takeBeat_70 ?_
          refine lv_iload_n hx hb dX2_takeBeat_73 rfl (lv_at hl 0 rfl) ?_
          refine lv_iconst (v := nI 1) hx hb dX2_takeBeat_74 (by decide) ?_
          refine n_iadd (v := nI ((4 * j + r) + 1)) hx hb dX2_takeBeat_75 (nI_add _ _) ?_
          refine n_iald (v := nI (lof (v j) (r + 1))) (j := (4 * j + r) + 1) hx hb hK hP 5 0 rfl rfl (by omega) (by decide) (by show nI (lof (updv v j (shL (v j) i (r + 1)) ((4 * j + r + 1) / 4)) ((4 * j + r + 1) % 4)) = _; rw [show (4 * j + r + 1) / 4 = j by omega, show (4 * j + r + 1) % 4 = r + 1 by omega, updv_j]; show nI (shf (lof (v j)) i (r + 1) (r + 1)) = _; rw [shf_i]) dX2_takeBeat_76 ?_
          refine n_iast (f' := fun w => nI (lof (updv v j (shL (v j) i (r + 1 + 1)) (w / 4)) (w % 4))) (j := 4 * j + r) hx hb hK hP hD hS 5 0 rfl rfl (by omega) (by decide) (by rw [updI]; exact num_shift (v := v) (j := j) hir (by omega) lof (fun _ => rfl)) dX2_takeBeat_77 (fun H locs hP hD hS => ?_)
          have hP : va_P D vwCl [(am 0, .inr (2, [.int (nI 0), .int (nI now), .int told, .int (nI n), .ref (am 1), .ref (am 2), .ref (am 3), .ref (am 4), .ref (am 5)])), (am 1, .inl (cZ, 8, .inl (fun j => bI (lon (v j))))), (am 2, .inl (cZ, 8, .inl (fun j => bI (lcv (v j))))), (am 3, .inl (cI, 8, .inl (fun w => nI (if w = j then lbc (v j) - 1 else lbc (v w))))), (am 4, .inl (cI, 32, .inl (fun w => nI (lnu (updv v j (shL (v j) i (r + 1 + 1)) (w / 4)) (w % 4))))), (am 5, .inl (cI, 32, .inl (fun w => nI (lof (updv v j (shL (v j) i (r + 1 + 1)) (w / 4)) (w % 4)))))] H := hP
          have hD : va_D (AM am) [(am 0, .inr (2, [.int (nI 0), .int (nI now), .int told, .int (nI n), .ref (am 1), .ref (am 2), .ref (am 3), .ref (am 4), .ref (am 5)])), (am 1, .inl (cZ, 8, .inl (fun j => bI (lon (v j))))), (am 2, .inl (cZ, 8, .inl (fun j => bI (lcv (v j))))), (am 3, .inl (cI, 8, .inl (fun w => nI (if w = j then lbc (v j) - 1 else lbc (v w))))), (am 4, .inl (cI, 32, .inl (fun w => nI (lnu (updv v j (shL (v j) i (r + 1 + 1)) (w / 4)) (w % 4))))), (am 5, .inl (cI, 32, .inl (fun w => nI (lof (updv v j (shL (v j) i (r + 1 + 1)) (w / 4)) (w % 4)))))] := hD
          refine lv_iinc (v := nI ((4 * j + r) + 1)) (lv' := [(3, .int (nI ((4 * j + r) + 1))), (0, .ref (am 0)), (1, .int (nI j)), (2, .int (nI i))]) hx hb dX2_takeBeat_78 hl (k := 0) rfl (nI_inc _) (by decide) rfl (fun ls hl => ?_)
          refine lv_goto (tgt := 36) hx hb dX2_takeBeat_81 (by decide) ?_
          exact ih_36 (r + 1) (by omega) (by omega) (by omega) _ _ hP hD hS ls (lv_sub hl [0, 1, 2, 3] rfl)
    exact loop_36 (lbc (v j)) i (by omega) (by omega) (by omega) _ _ (by rw [shL_0, updv_id]; exact hP) (vd6 hinj) hS ls (lv_sub hl [0, 1, 2, 3] rfl)
  · refine lv_aload_n hx hb dX2_takeBeat_14 rfl (lv_at hl 0 rfl) ?_
    refine lv_iconst (v := nI 1) hx hb dX2_takeBeat_15 (by decide) ?_
    refine wV (As := [.int (nI 1)]) (rest := []) ⟨hx, hb, hml, hown, hts⟩ (c_X2_no l D cI cZ cL cJ am (nI 0) n now told v ⟨hn8, hnow, hwl⟩ hinj (nI 1)) (cwV 1 hts gX2_takeBeat_X2_no rfl rfl rfl (by decide +kernel) ⟨(Nat.le_of_ble_eq_true rfl), (Nat.le_of_ble_eq_true rfl)⟩) hK (hEA.kept hS.2.1) hP (RC_of (q := (RX2, TX2, 9)) (ci := 2) hK rfl (vpa hP 0 rfl)) rfl hl.1 rfl (Nat.le_of_ble_eq_true rfl) dX2_takeBeat_16 ⟨(Nat.le_of_ble_eq_true rfl), (Nat.le_of_ble_eq_true rfl)⟩ hS (fun q h => h) (fun H locs _ hP _ hk hS => ?_)
    have hP : va_P D vwCl [(am 0, .inr (2, [.int (nI 1), .int (nI now), .int told, .int (nI n), .ref (am 1), .ref (am 2), .ref (am 3), .ref (am 4), .ref (am 5)])), (am 1, .inl (cZ, 8, .inl (fun j => bI (lon (v j))))), (am 2, .inl (cZ, 8, .inl (fun j => bI (lcv (v j))))), (am 3, .inl (cI, 8, .inl (fun j => nI (lbc (v j))))), (am 4, .inl (cI, 32, .inl (fun z => nI (lnu (v (z / 4)) (z % 4))))), (am 5, .inl (cI, 32, .inl (fun z => nI (lof (v (z / 4)) (z % 4)))))] H := hP
    have hD : va_D (AM am) [(am 0, .inr (2, [.int (nI 1), .int (nI now), .int told, .int (nI n), .ref (am 1), .ref (am 2), .ref (am 3), .ref (am 4), .ref (am 5)])), (am 1, .inl (cZ, 8, .inl (fun j => bI (lon (v j))))), (am 2, .inl (cZ, 8, .inl (fun j => bI (lcv (v j))))), (am 3, .inl (cI, 8, .inl (fun j => nI (lbc (v j))))), (am 4, .inl (cI, 32, .inl (fun z => nI (lnu (v (z / 4)) (z % 4))))), (am 5, .inl (cI, 32, .inl (fun z => nI (lof (v (z / 4)) (z % 4)))))] := vd6 hinj
    have hcd : cd1 (btOk n v k b) = 1 := (by rw [c_11]; rfl)
    have hend : PM D cI cZ am (nI (cd1 (btOk n v k b))) n (now) (told) ((if cd1 (btOk n v k b) = 0 then updv v (ixx k) (remL (v (ixx k)) (ixx b)) else v)) H := by
      rw [hcd]; exact hP
    refine n_ti (y := (mrI (cd1 (btOk n v k b)) (nI (lbc (v (ixx k)) - 1)))) (by rw [hcd]; rfl) ?_
    exact W.iret (v := (mrI (cd1 (btOk n v k b)) (nI (lbc (v (ixx k)) - 1)))) hx hb hr (fun t ht hW => ⟨trivial, rfl, by rw [ht]; exact hend, hS.F ht⟩) hS.2.2 dX2_takeBeat_19
set_option maxHeartbeats 4000000 in
set_option maxRecDepth 100000 in
/-- pass -/
theorem c_X2_pass (l : Launch) (D : va_G) (cI cZ cL cJ : ClassId) (am : Nat → Nat) (th : Int32) (n now : Nat) (told : Int32) (v : Nat → LV) (hwf : WFX n now v) (hinj : Inj 6 am) (hn500 : now + 500 ≤ 2 ^ 20) (x : Int32) : Met l yX2_pass wsX2_pass ({ frames := 2, cells := 0, slots := 0, locals := 46 } : Room) (PC D (TY cI cZ cL cJ) (AM am) [.ref (am 0), .int x] (fun H => PM D cI cZ am th n now told v H)) (QW (AM am) True ((mrI (cd1 (inB (nI 1) (nI 500) x)) (nI (psN v n now (ixx x))))) (fun H => PM D cI cZ am (nI (cd1 (inB (nI 1) (nI 500) x))) n ((if cd1 (inB (nI 1) (nI 500) x) = 0 then now + ixx x else now)) ((if cd1 (inB (nI 1) (nI 500) x) = 0 then told + nI (psN v n now (ixx x)) else told)) (v) H)) 0 0 (AM am) := by
  refine Met.ofW (cc := cX2_pass) (maxL := 5) (ret := (some .int)) (by decide) rfl ?_
  intro p e s m args below meth c s₁ B hml hv
  obtain ⟨rfl, hK, hEA, hP⟩ := hv
  obtain ⟨hn8, hnow, hwl⟩ := hwf
  have hE : EN noA s s.heap := hEA.narrow (fun _ h => h.elim)
  have hS : va_S (AM am) s.heap s.heap [] := va_S.rf
  have hD : va_D (AM am) (mW cI cZ am th n now told v) := vd6 hinj
  have hP : va_P D vwCl (mW cI cZ am th n now told v) s.heap := hP
  have hx := B.exec
  have hb := B.bytes
  have hr := B.returns
  have hts := atoms_spec (ws := wsX2_pass) B.pre
  have hown : s.vm.findClass RX2 = some m.cls := findClass_of_methodNamed B.named
  have hlocks := B.notSynchronized
  have hNF := hE.2.1.1
  have hin2 : ∀ w ∈ wsX20, w ∈ wsX2_pass := by decide +kernel
  have hl := lv_entry ([.ref (am 0), .int x]) (n := 5) (Nat.le_of_ble_eq_true rfl)
  rw [lg_entry_eq]
  generalize (lg_sl ([.ref (am 0), .int x]) ++ List.replicate (5 - (lg_sl ([.ref (am 0), .int x])).length) Slot.unset).toArray = ls at hl ⊢
  have hl : lv_has ls 5 [(0, .ref (am 0)), (1, .int x)] := hl
  refine lv_aload_n hx hb dX2_pass_0 rfl (lv_at hl 0 rfl) ?_
  refine lv_iconst (v := nI 0) hx hb dX2_pass_1 (by decide) ?_
  refine va_put (D := D) (ci := 2) (v := .int (nI 0)) (ty := .int) (C := RX2) (T := TX2) (N := 9) hx hb hts hin2 tyX2 tyX2_ok nmX2 hown hK hP hD hS 0 rfl rfl 0 (by decide) (hts (.fieldLink RX2 26 "LanternPrimesModel" "thrown" "I") (List.mem_of_getElem? (i := 1) rfl)) (fun _ h9 => h9) rfl (by decide +kernel) rfl rfl (Nat.le_of_ble_eq_true rfl) dX2_pass_2 (fun H locs hP hD hS => ?_)
  have hP : va_P D vwCl [(am 0, .inr (2, [.int (nI 0), .int (nI now), .int told, .int (nI n), .ref (am 1), .ref (am 2), .ref (am 3), .ref (am 4), .ref (am 5)])), (am 1, .inl (cZ, 8, .inl (fun j => bI (lon (v j))))), (am 2, .inl (cZ, 8, .inl (fun j => bI (lcv (v j))))), (am 3, .inl (cI, 8, .inl (fun j => nI (lbc (v j))))), (am 4, .inl (cI, 32, .inl (fun z => nI (lnu (v (z / 4)) (z % 4))))), (am 5, .inl (cI, 32, .inl (fun z => nI (lof (v (z / 4)) (z % 4)))))] H := hP
  have hD : va_D (AM am) [(am 0, .inr (2, [.int (nI 0), .int (nI now), .int told, .int (nI n), .ref (am 1), .ref (am 2), .ref (am 3), .ref (am 4), .ref (am 5)])), (am 1, .inl (cZ, 8, .inl (fun j => bI (lon (v j))))), (am 2, .inl (cZ, 8, .inl (fun j => bI (lcv (v j))))), (am 3, .inl (cI, 8, .inl (fun j => nI (lbc (v j))))), (am 4, .inl (cI, 32, .inl (fun z => nI (lnu (v (z / 4)) (z % 4))))), (am 5, .inl (cI, 32, .inl (fun z => nI (lof (v (z / 4)) (z % 4)))))] := hD
  refine lv_iload_n hx hb dX2_pass_5 rfl (lv_at hl 1 rfl) ?_
  refine lv_iconst (v := nI 1) hx hb dX2_pass_6 (by decide) ?_
  refine lv_sipush (v := nI 500) hx hb dX2_pass_7 (by decide) ?_
  refine rS (r := bI (inB (nI 1) (nI 500) x)) (As := [.int x, .int (nI 1), .int (nI 500)]) (rest := []) ⟨hx, hb, hml, hown, hts⟩ (c_X2_isIn l D cI cZ cL cJ x (nI 1) (nI 500)) (va_cwS 3 hts gX2_pass_X2_isIn rfl rfl rfl (by decide +kernel) ⟨(Nat.le_of_ble_eq_true rfl), (Nat.le_of_ble_eq_true rfl)⟩) hK ((hEA.kept hS.2.1).narrow (fun _ h => h.elim)) trivial rfl hl.1 rfl (Nat.le_of_ble_eq_true rfl) dX2_pass_10 ⟨(Nat.le_of_ble_eq_true rfl), (Nat.le_of_ble_eq_true rfl)⟩ ?_
  refine b_if_ne (b := inB (nI 1) (nI 500) x) (tgt := 22) hx hb dX2_pass_13 (by decide) (fun c_13 => ?_) (fun c_13 => ?_)
  · obtain ⟨y, hy1, hy2, rfl⟩ := inB_j (by decide) (by decide) c_13
    refine lv_aload_n hx hb dX2_pass_22 rfl (lv_at hl 0 rfl) ?_
    refine va_get (D := D) (ci := 2) (v := .int told) (C := RX2) (T := TX2) (N := 9) hx hb hts hin2 hown hK hP 0 rfl rfl 2 (by decide) (hts (.fieldLink RX2 74 "LanternPrimesModel" "seen" "I") (List.mem_of_getElem? (i := 2) rfl)) (fun _ h9 => h9) rfl dX2_pass_23 ?_
    refine lv_istore_n (lv' := [(2, .int told), (0, .ref (am 0)), (1, .int (nI y))]) hx hb dX2_pass_26 rfl hl (by decide) rfl (fun ls hl => ?_)
    refine lv_iconst (v := nI 0) hx hb dX2_pass_27 (by decide) ?_
    refine lv_istore_n (lv' := [(3, .int (nI 0)), (2, .int told), (0, .ref (am 0)), (1, .int (nI y))]) hx hb dX2_pass_28 rfl hl (by decide) rfl (fun ls hl => ?_)
    have loop_29 : ∀ (fu : Nat) (r : Nat), y + 1 - r ≤ fu → r ≤ y → ∀ (H : Heap) (locs : List Loc), va_P D vwCl [(am 0, .inr (2, [.int (nI 0), .int (nI (now + r)), .int (told + nI (psN v n now r)), .int (nI n), .ref (am 1), .ref (am 2), .ref (am 3), .ref (am 4), .ref (am 5)])), (am 1, .inl (cZ, 8, .inl (fun j => bI (lon (v j))))), (am 2, .inl (cZ, 8, .inl (fun j => bI (lcv (v j))))), (am 3, .inl (cI, 8, .inl (fun j => nI (lbc (v j))))), (am 4, .inl (cI, 32, .inl (fun z => nI (lnu (v (z / 4)) (z % 4))))), (am 5, .inl (cI, 32, .inl (fun z => nI (lof (v (z / 4)) (z % 4)))))] H → va_D (AM am) [(am 0, .inr (2, [.int (nI 0), .int (nI (now + r)), .int (told + nI (psN v n now r)), .int (nI n), .ref (am 1), .ref (am 2), .ref (am 3), .ref (am 4), .ref (am 5)])), (am 1, .inl (cZ, 8, .inl (fun j => bI (lon (v j))))), (am 2, .inl (cZ, 8, .inl (fun j => bI (lcv (v j))))), (am 3, .inl (cI, 8, .inl (fun j => nI (lbc (v j))))), (am 4, .inl (cI, 32, .inl (fun z => nI (lnu (v (z / 4)) (z % 4))))), (am 5, .inl (cI, 32, .inl (fun z => nI (lof (v (z / 4)) (z % 4)))))] → va_S (AM am) s.heap H locs → ∀ (ls : Array Slot), lv_has ls 5 [(3, .int (nI r)), (2, .int told), (0, .ref (am 0)), (1, .int (nI y))] → W p l e (headSpec wsX2_pass ({ frames := 2, cells := 0, slots := 0, locals := 46 } : Room)).room s m [.ref (am 0), .int (nI y)].toArray below meth c H locs 0 0 (MQ below (QW (AM am) True ((mrI (cd1 (inB (nI 1) (nI 500) (nI y))) (nI (psN v n now (ixx (nI y)))))) (fun H => PM D cI cZ am (nI (cd1 (inB (nI 1) (nI 500) (nI y)))) n ((if cd1 (inB (nI 1) (nI 500) (nI y)) = 0 then now + ixx (nI y) else now)) ((if cd1 (inB (nI 1) (nI 500) (nI y)) = 0 then told + nI (psN v n now (ixx (nI y))) else told)) (v) H)) [.ref (am 0), .int (nI y)].toArray s 0 0 (AM am)) (F0 m 29 ls []) := by
      intro fu
      induction fu with
      | zero => intro r hn_29 hr9; exact absurd hn_29 (by omega)
      | succ fu ih_29 =>
        intro r hn_29 hr9 H locs hP hD hS ls hl
        refine lv_iload_n hx hb dX2_pass_29 rfl (lv_at hl 0 rfl) ?_
        refine lv_iload_n hx hb dX2_pass_30 rfl (lv_at hl 3 rfl) ?_
        refine n_icmp_ge (a := r) (b := y) (tgt := 95) hx hb (by omega) (by omega) dX2_pass_31 (by decide) (fun c_31 => ?_) (fun c_31 => ?_)
        · refine lv_aload_n hx hb dX2_pass_95 rfl (lv_at hl 2 rfl) ?_
          refine va_get (D := D) (ci := 2) (v := .int (told + nI (psN v n now r))) (C := RX2) (T := TX2) (N := 9) hx hb hts hin2 hown hK hP 0 rfl rfl 2 (by decide) (hts (.fieldLink RX2 74 "LanternPrimesModel" "seen" "I") (List.mem_of_getElem? (i := 2) rfl)) (fun _ h9 => h9) rfl dX2_pass_96 ?_
          refine lv_iload_n hx hb dX2_pass_99 rfl (lv_at hl 1 rfl) ?_
          refine n_isub (v := nI (psN v n now r)) hx hb dX2_pass_100 (told_sub _ _) ?_
          have hcd : cd1 (inB (nI 1) (nI 500) (nI y)) = 0 := (cd1_t c_13)
          have hend : PM D cI cZ am (nI (cd1 (inB (nI 1) (nI 500) (nI y)))) n ((if cd1 (inB (nI 1) (nI 500) (nI y)) = 0 then now + ixx (nI y) else now)) ((if cd1 (inB (nI 1) (nI 500) (nI y)) = 0 then told + nI (psN v n now (ixx (nI y))) else told)) (v) H := by
            rw [hcd]; rw [ixx_nI (by omega)]; have hry : r = y := by omega
            rw [hry] at hP
            exact hP
          refine n_ti (y := (mrI (cd1 (inB (nI 1) (nI 500) (nI y))) (nI (psN v n now (ixx (nI y)))))) (by rw [hcd, ixx_nI (by omega), show r = y by omega]; rfl) ?_
          exact W.iret (v := (mrI (cd1 (inB (nI 1) (nI 500) (nI y))) (nI (psN v n now (ixx (nI y)))))) hx hb hr (fun t ht hW => ⟨trivial, rfl, by rw [ht]; exact hend, hS.F ht⟩) hS.2.2 dX2_pass_101
        · refine lv_aload_n hx hb dX2_pass_34 rfl (lv_at hl 2 rfl) ?_
          refine lv_dup hx hb dX2_pass_35 rfl ?_
          refine va_get (D := D) (ci := 2) (v := .int (nI (now + r))) (C := RX2) (T := TX2) (N := 9) hx hb hts hin2 hown hK hP 0 rfl rfl 1 (by decide) (hts (.fieldLink RX2 59 "LanternPrimesModel" "now" "I") (List.mem_of_getElem? (i := 3) rfl)) (fun _ h9 => h9) rfl dX2_pass_36 ?_
          refine lv_iconst (v := nI 1) hx hb dX2_pass_39 (by decide) ?_
          refine n_iadd (v := nI (now + (r + 1))) hx hb dX2_pass_40 (by rw [nI_add, Nat.add_assoc]) ?_
          refine va_put (D := D) (ci := 2) (v := .int (nI (now + (r + 1)))) (ty := .int) (C := RX2) (T := TX2) (N := 9) hx hb hts hin2 tyX2 tyX2_ok nmX2 hown hK hP hD hS 0 rfl rfl 1 (by decide) (hts (.fieldLink RX2 59 "LanternPrimesModel" "now" "I") (List.mem_of_getElem? (i := 3) rfl)) (fun _ h9 => h9) rfl (by decide +kernel) rfl rfl (Nat.le_of_ble_eq_true rfl) dX2_pass_41 (fun H locs hP hD hS => ?_)
          have hP : va_P D vwCl [(am 0, .inr (2, [.int (nI 0), .int (nI (now + (r + 1))), .int (told + nI (psN v n now r)), .int (nI n), .ref (am 1), .ref (am 2), .ref (am 3), .ref (am 4), .ref (am 5)])), (am 1, .inl (cZ, 8, .inl (fun j => bI (lon (v j))))), (am 2, .inl (cZ, 8, .inl (fun j => bI (lcv (v j))))), (am 3, .inl (cI, 8, .inl (fun j => nI (lbc (v j))))), (am 4, .inl (cI, 32, .inl (fun z => nI (lnu (v (z / 4)) (z % 4))))), (am 5, .inl (cI, 32, .inl (fun z => nI (lof (v (z / 4)) (z % 4)))))] H := hP
          have hD : va_D (AM am) [(am 0, .inr (2, [.int (nI 0), .int (nI (now + (r + 1))), .int (told + nI (psN v n now r)), .int (nI n), .ref (am 1), .ref (am 2), .ref (am 3), .ref (am 4), .ref (am 5)])), (am 1, .inl (cZ, 8, .inl (fun j => bI (lon (v j))))), (am 2, .inl (cZ, 8, .inl (fun j => bI (lcv (v j))))), (am 3, .inl (cI, 8, .inl (fun j => nI (lbc (v j))))), (am 4, .inl (cI, 32, .inl (fun z => nI (lnu (v (z / 4)) (z % 4))))), (am 5, .inl (cI, 32, .inl (fun z => nI (lof (v (z / 4)) (z % 4)))))] := hD
          refine lv_iconst (v := nI 0) hx hb dX2_pass_44 (by decide) ?_
          refine lv_istore (lv' := [(4, .int (nI 0)), (3, .int (nI r)), (2, .int told), (0, .ref (am 0)), (1, .int (nI y))]) hx hb dX2_pass_45 hl (by decide) rfl (fun ls hl => ?_)
          have loop_47 : ∀ (fu : Nat) (q : Nat), n + 1 - q ≤ fu → q ≤ n → ∀ (H : Heap) (locs : List Loc), va_P D vwCl [(am 0, .inr (2, [.int (nI 0), .int (nI (now + (r + 1))), .int (told + nI (psN v n now r + cnt (fun w => chgB (v w) (now + (r + 1))) q)), .int (nI n), .ref (am 1), .ref (am 2), .ref (am 3), .ref (am 4), .ref (am 5)])), (am 1, .inl (cZ, 8, .inl (fun j => bI (lon (v j))))), (am 2, .inl (cZ, 8, .inl (fun j => bI (lcv (v j))))), (am 3, .inl (cI, 8, .inl (fun j => nI (lbc (v j))))), (am 4, .inl (cI, 32, .inl (fun z => nI (lnu (v (z / 4)) (z % 4))))), (am 5, .inl (cI, 32, .inl (fun z => nI (lof (v (z / 4)) (z % 4)))))] H → va_D (AM am) [(am 0, .inr (2, [.int (nI 0), .int (nI (now + (r + 1))), .int (told + nI (psN v n now r + cnt (fun w => chgB (v w) (now + (r + 1))) q)), .int (nI n), .ref (am 1), .ref (am 2), .ref (am 3), .ref (am 4), .ref (am 5)])), (am 1, .inl (cZ, 8, .inl (fun j => bI (lon (v j))))), (am 2, .inl (cZ, 8, .inl (fun j => bI (lcv (v j))))), (am 3, .inl (cI, 8, .inl (fun j => nI (lbc (v j))))), (am 4, .inl (cI, 32, .inl (fun z => nI (lnu (v (z / 4)) (z % 4))))), (am 5, .inl (cI, 32, .inl (fun z => nI (lof (v (z / 4)) (z % 4)))))] → va_S (AM am) s.heap H locs → ∀ (ls : Array Slot), lv_has ls 5 [(4, .int (nI q)), (3, .int (nI r)), (2, .int told), (0, .ref (am 0)), (1, .int (nI y))] → W p l e (headSpec wsX2_pass ({ frames := 2, cells := 0, slots := 0, locals := 46 } : Room)).room s m [.ref (am 0), .int (nI y)].toArray below meth c H locs 0 0 (MQ below (QW (AM am) True ((mrI (cd1 (inB (nI 1) (nI 500) (nI y))) (nI (psN v n now (ixx (nI y)))))) (fun H => PM D cI cZ am (nI (cd1 (inB (nI 1) (nI 500) (nI y)))) n ((if cd1 (inB (nI 1) (nI 500) (nI y)) = 0 then now + ixx (nI y) else now)) ((if cd1 (inB (nI 1) (nI 500) (nI y)) = 0 then told + nI (psN v n now (ixx (nI y))) else told)) (v) H)) [.ref (am 0), .int (nI y)].toArray s 0 0 (AM am)) (F0 m 47 ls []) := by
            intro fu
            induction fu with
            | zero => intro q hn_47 hq; exact absurd hn_47 (by omega)
            | succ fu ih_47 =>
              intro q hn_47 hq H locs hP hD hS ls hl
              refine lv_iload hx hb dX2_pass_47 (lv_at hl 0 rfl) ?_
              refine lv_aload_n hx hb dX2_pass_49 rfl (lv_at hl 3 rfl) ?_
              refine va_get (D := D) (ci := 2) (v := .int (nI n)) (C := RX2) (T := TX2) (N := 9) hx hb hts hin2 hown hK hP 0 rfl rfl 3 (by decide) (hts (.fieldLink RX2 30 "LanternPrimesModel" "lamps" "I") (List.mem_of_getElem? (i := 4) rfl)) (fun _ h9 => h9) rfl dX2_pass_50 ?_
              refine n_icmp_ge (a := q) (b := n) (tgt := 89) hx hb (by omega) (by omega) dX2_pass_53 (by decide) (fun c_53 => ?_) (fun c_53 => ?_)
              · refine lv_iinc (v := nI (r + 1)) (lv' := [(3, .int (nI (r + 1))), (4, .int (nI q)), (2, .int told), (0, .ref (am 0)), (1, .int (nI y))]) hx hb dX2_pass_89 hl (k := 1) rfl (nI_inc _) (by decide) rfl (fun ls hl => ?_)
                refine lv_goto (tgt := 29) hx hb dX2_pass_92 (by decide) ?_
                exact ih_29 (r + 1) (by omega) (by omega) _ _ (by rw [show q = n by omega] at hP; exact hP) (vd6 hinj) hS ls (lv_sub hl [0, 2, 3, 4] rfl)
              · have join_79 : ∀ (ls : Array Slot), lv_has ls 5 [(4, .int (nI q)), (3, .int (nI r)), (2, .int told), (0, .ref (am 0)), (1, .int (nI y))] → W p l e (headSpec wsX2_pass ({ frames := 2, cells := 0, slots := 0, locals := 46 } : Room)).room s m [.ref (am 0), .int (nI y)].toArray below meth c H locs 0 0 (MQ below (QW (AM am) True ((mrI (cd1 (inB (nI 1) (nI 500) (nI y))) (nI (psN v n now (ixx (nI y)))))) (fun H => PM D cI cZ am (nI (cd1 (inB (nI 1) (nI 500) (nI y)))) n ((if cd1 (inB (nI 1) (nI 500) (nI y)) = 0 then now + ixx (nI y) else now)) ((if cd1 (inB (nI 1) (nI 500) (nI y)) = 0 then told + nI (psN v n now (ixx (nI y))) else told)) (v) H)) [.ref (am 0), .int (nI y)].toArray s 0 0 (AM am)) (F0 m 79 ls [.int (nI (if chgB (v q) (now + (r + 1)) = true then 1 else 0)), .int (told + nI (psN v n now r + cnt (fun w => chgB (v w) (now + (r + 1))) q)), .ref (am 0)]) := by
                  intro   ls hl
                  refine n_iadd (v := (told + nI (psN v n now r + cnt (fun w => chgB (v w) (now + (r + 1))) (q + 1)))) hx hb dX2_pass_79 (by rw [told_add, Nat.add_assoc]; rfl) ?_
                  refine va_put (D := D) (ci := 2) (v := .int (told + nI (psN v n now r + cnt (fun w => chgB (v w) (now + (r + 1))) (q + 1)))) (ty := .int) (C := RX2) (T := TX2) (N := 9) hx hb hts hin2 tyX2 tyX2_ok nmX2 hown hK hP hD hS 0 rfl rfl 2 (by decide) (hts (.fieldLink RX2 74 "LanternPrimesModel" "seen" "I") (List.mem_of_getElem? (i := 2) rfl)) (fun _ h9 => h9) rfl (by decide +kernel) rfl rfl (Nat.le_of_ble_eq_true rfl) dX2_pass_80 (fun H locs hP hD hS => ?_)
                  have hP : va_P D vwCl [(am 0, .inr (2, [.int (nI 0), .int (nI (now + (r + 1))), .int (told + nI (psN v n now r + cnt (fun w => chgB (v w) (now + (r + 1))) (q + 1))), .int (nI n), .ref (am 1), .ref (am 2), .ref (am 3), .ref (am 4), .ref (am 5)])), (am 1, .inl (cZ, 8, .inl (fun j => bI (lon (v j))))), (am 2, .inl (cZ, 8, .inl (fun j => bI (lcv (v j))))), (am 3, .inl (cI, 8, .inl (fun j => nI (lbc (v j))))), (am 4, .inl (cI, 32, .inl (fun z => nI (lnu (v (z / 4)) (z % 4))))), (am 5, .inl (cI, 32, .inl (fun z => nI (lof (v (z / 4)) (z % 4)))))] H := hP
                  have hD : va_D (AM am) [(am 0, .inr (2, [.int (nI 0), .int (nI (now + (r + 1))), .int (told + nI (psN v n now r + cnt (fun w => chgB (v w) (now + (r + 1))) (q + 1))), .int (nI n), .ref (am 1), .ref (am 2), .ref (am 3), .ref (am 4), .ref (am 5)])), (am 1, .inl (cZ, 8, .inl (fun j => bI (lon (v j))))), (am 2, .inl (cZ, 8, .inl (fun j => bI (lcv (v j))))), (am 3, .inl (cI, 8, .inl (fun j => nI (lbc (v j))))), (am 4, .inl (cI, 32, .inl (fun z => nI (lnu (v (z / 4)) (z % 4))))), (am 5, .inl (cI, 32, .inl (fun z => nI (lof (v (z / 4)) (z % 4)))))] := hD
                  refine lv_iinc (v := nI (q + 1)) (lv' := [(4, .int (nI (q + 1))), (3, .int (nI r)), (2, .int told), (0, .ref (am 0)), (1, .int (nI y))]) hx hb dX2_pass_83 hl (k := 0) rfl (nI_inc _) (by decide) rfl (fun ls hl => ?_)
                  refine lv_goto (tgt := 47) hx hb dX2_pass_86 (by decide) ?_
                  exact ih_47 (q + 1) (by omega) (by omega) _ _ hP (vd6 hinj) hS ls (lv_sub hl [0, 1, 2, 3, 4] rfl)
                refine lv_aload_n hx hb dX2_pass_56 rfl (lv_at hl 3 rfl) ?_
                refine lv_dup hx hb dX2_pass_57 rfl ?_
                refine va_get (D := D) (ci := 2) (v := .int (told + nI (psN v n now r + cnt (fun w => chgB (v w) (now + (r + 1))) q))) (C := RX2) (T := TX2) (N := 9) hx hb hts hin2 hown hK hP 0 rfl rfl 2 (by decide) (hts (.fieldLink RX2 74 "LanternPrimesModel" "seen" "I") (List.mem_of_getElem? (i := 2) rfl)) (fun _ h9 => h9) rfl dX2_pass_58 ?_
                refine lv_aload_n hx hb dX2_pass_61 rfl (lv_at hl 3 rfl) ?_
                refine lv_iload hx hb dX2_pass_62 (lv_at hl 0 rfl) ?_
                refine lv_aload_n hx hb dX2_pass_64 rfl (lv_at hl 3 rfl) ?_
                refine va_get (D := D) (ci := 2) (v := .int (nI (now + (r + 1)))) (C := RX2) (T := TX2) (N := 9) hx hb hts hin2 hown hK hP 0 rfl rfl 1 (by decide) (hts (.fieldLink RX2 59 "LanternPrimesModel" "now" "I") (List.mem_of_getElem? (i := 3) rfl)) (fun _ h9 => h9) rfl dX2_pass_65 ?_
                refine rV (r := bI (chgB (v q) (now + (r + 1)))) (As := [.int (nI q), .int (nI (now + (r + 1)))]) (rest := [.int (told + nI (psN v n now r + cnt (fun w => chgB (v w) (now + (r + 1))) q)), .ref (am 0)]) ⟨hx, hb, hml, hown, hts⟩ (c_X2_changes l D cI cZ cL cJ am (nI 0) n (now + (r + 1)) (told + nI (psN v n now r + cnt (fun w => chgB (v w) (now + (r + 1))) q)) v ⟨hn8, by omega, hwl⟩ q c_53 (now + (r + 1)) (by omega)) (cwV 2 hts gX2_pass_X2_changes rfl rfl rfl (by decide +kernel) ⟨(Nat.le_of_ble_eq_true rfl), (Nat.le_of_ble_eq_true rfl)⟩) hK ((hEA.kept hS.2.1).narrow (fun _ h => h.elim)) hP (RC_of (q := (RX2, TX2, 9)) (ci := 2) hK rfl (vpa hP 0 rfl)) rfl hl.1 rfl (Nat.le_of_ble_eq_true rfl) dX2_pass_68 ⟨(Nat.le_of_ble_eq_true rfl), (Nat.le_of_ble_eq_true rfl)⟩ ?_
                refine b_if_eq (b := chgB (v q) (now + (r + 1))) (tgt := 78) hx hb dX2_pass_71 (by decide) (fun c_71 => ?_) (fun c_71 => ?_)
                · refine lv_iconst (v := nI 0) hx hb dX2_pass_78 (by decide) ?_
                  refine n_ti (y := nI (if chgB (v q) (now + (r + 1)) = true then 1 else 0)) (by rw [c_71]; rfl) ?_
                  exact join_79 ls (lv_sub hl [0, 1, 2, 3, 4] rfl)
                · refine lv_iconst (v := nI 1) hx hb dX2_pass_74 (by decide) ?_
                  refine lv_goto (tgt := 79) hx hb dX2_pass_75 (by decide) ?_
                  refine n_ti (y := nI (if chgB (v q) (now + (r + 1)) = true then 1 else 0)) (by rw [c_71]; rfl) ?_
                  exact join_79 ls (lv_sub hl [0, 1, 2, 3, 4] rfl)
          exact loop_47 (n + 1) 0 (by omega) (Nat.zero_le _) _ _ hP (vd6 hinj) hS ls (lv_sub hl [0, 1, 2, 3, 4] rfl)
    exact loop_29 (y + 1) 0 (by omega) (Nat.zero_le _) _ _ (by show va_P D vwCl (mW cI cZ am (nI 0) n (now + 0) (told + nI 0) v) _; rw [told_0]; exact hP) (vd6 hinj) hS ls (lv_sub hl [0, 1, 2, 3] rfl)
  · refine lv_aload_n hx hb dX2_pass_16 rfl (lv_at hl 0 rfl) ?_
    refine lv_iconst (v := nI 1) hx hb dX2_pass_17 (by decide) ?_
    refine wV (As := [.int (nI 1)]) (rest := []) ⟨hx, hb, hml, hown, hts⟩ (c_X2_no l D cI cZ cL cJ am (nI 0) n now told v ⟨hn8, hnow, hwl⟩ hinj (nI 1)) (cwV 1 hts gX2_pass_X2_no rfl rfl rfl (by decide +kernel) ⟨(Nat.le_of_ble_eq_true rfl), (Nat.le_of_ble_eq_true rfl)⟩) hK (hEA.kept hS.2.1) hP (RC_of (q := (RX2, TX2, 9)) (ci := 2) hK rfl (vpa hP 0 rfl)) rfl hl.1 rfl (Nat.le_of_ble_eq_true rfl) dX2_pass_18 ⟨(Nat.le_of_ble_eq_true rfl), (Nat.le_of_ble_eq_true rfl)⟩ hS (fun q h => h) (fun H locs _ hP _ hk hS => ?_)
    have hP : va_P D vwCl [(am 0, .inr (2, [.int (nI 1), .int (nI now), .int told, .int (nI n), .ref (am 1), .ref (am 2), .ref (am 3), .ref (am 4), .ref (am 5)])), (am 1, .inl (cZ, 8, .inl (fun j => bI (lon (v j))))), (am 2, .inl (cZ, 8, .inl (fun j => bI (lcv (v j))))), (am 3, .inl (cI, 8, .inl (fun j => nI (lbc (v j))))), (am 4, .inl (cI, 32, .inl (fun z => nI (lnu (v (z / 4)) (z % 4))))), (am 5, .inl (cI, 32, .inl (fun z => nI (lof (v (z / 4)) (z % 4)))))] H := hP
    have hD : va_D (AM am) [(am 0, .inr (2, [.int (nI 1), .int (nI now), .int told, .int (nI n), .ref (am 1), .ref (am 2), .ref (am 3), .ref (am 4), .ref (am 5)])), (am 1, .inl (cZ, 8, .inl (fun j => bI (lon (v j))))), (am 2, .inl (cZ, 8, .inl (fun j => bI (lcv (v j))))), (am 3, .inl (cI, 8, .inl (fun j => nI (lbc (v j))))), (am 4, .inl (cI, 32, .inl (fun z => nI (lnu (v (z / 4)) (z % 4))))), (am 5, .inl (cI, 32, .inl (fun z => nI (lof (v (z / 4)) (z % 4)))))] := vd6 hinj
    have hcd : cd1 (inB (nI 1) (nI 500) x) = 1 := (by rw [c_13]; rfl)
    have hend : PM D cI cZ am (nI (cd1 (inB (nI 1) (nI 500) x))) n ((if cd1 (inB (nI 1) (nI 500) x) = 0 then now + ixx x else now)) ((if cd1 (inB (nI 1) (nI 500) x) = 0 then told + nI (psN v n now (ixx x)) else told)) (v) H := by
      rw [hcd]; exact hP
    refine n_ti (y := (mrI (cd1 (inB (nI 1) (nI 500) x)) (nI (psN v n now (ixx x))))) (by rw [hcd]; rfl) ?_
    exact W.iret (v := (mrI (cd1 (inB (nI 1) (nI 500) x)) (nI (psN v n now (ixx x))))) hx hb hr (fun t ht hW => ⟨trivial, rfl, by rw [ht]; exact hend, hS.F ht⟩) hS.2.2 dX2_pass_21
set_option maxHeartbeats 4000000 in
set_option maxRecDepth 100000 in
/-- meanBeats -/
theorem c_X2_meanBeats (l : Launch) (D : va_G) (cI cZ cL cJ : ClassId) (am : Nat → Nat) (th : Int32) (n now : Nat) (told : Int32) (v : Nat → LV) (hwf : WFX n now v) (hinj : Inj 6 am)  : Met l yX2_meanBeats wsX2_meanBeats ({ frames := 0, cells := 0, slots := 0, locals := 0 } : Room) (PC D (TY cI cZ cL cJ) (AM am) [.ref (am 0)] (fun H => PM D cI cZ am th n now told v H)) (QWd (AM am) True (meanF (btsN v n) n) (fun H => PM D cI cZ am (nI (0)) n (now) (told) (v) H)) 0 0 (AM am) := by
  refine Met.ofW (cc := cX2_meanBeats) (maxL := 3) (ret := (some .double)) (by decide) rfl ?_
  intro p e s m args below meth c s₁ B hml hv
  obtain ⟨rfl, hK, hEA, hP⟩ := hv
  obtain ⟨hn8, hnow, hwl⟩ := hwf
  have hE : EN noA s s.heap := hEA.narrow (fun _ h => h.elim)
  have hS : va_S (AM am) s.heap s.heap [] := va_S.rf
  have hD : va_D (AM am) (mW cI cZ am th n now told v) := vd6 hinj
  have hP : va_P D vwCl (mW cI cZ am th n now told v) s.heap := hP
  have hx := B.exec
  have hb := B.bytes
  have hr := B.returns
  have hts := atoms_spec (ws := wsX2_meanBeats) B.pre
  have hown : s.vm.findClass RX2 = some m.cls := findClass_of_methodNamed B.named
  have hlocks := B.notSynchronized
  have hNF := hE.2.1.1
  have hin2 : ∀ w ∈ wsX20, w ∈ wsX2_meanBeats := by decide +kernel
  have hl := lv_entry ([.ref (am 0)]) (n := 3) (Nat.le_of_ble_eq_true rfl)
  rw [lg_entry_eq]
  generalize (lg_sl ([.ref (am 0)]) ++ List.replicate (3 - (lg_sl ([.ref (am 0)])).length) Slot.unset).toArray = ls at hl ⊢
  have hl : lv_has ls 3 [(0, .ref (am 0))] := hl
  refine lv_aload_n hx hb dX2_meanBeats_0 rfl (lv_at hl 0 rfl) ?_
  refine lv_iconst (v := nI 0) hx hb dX2_meanBeats_1 (by decide) ?_
  refine va_put (D := D) (ci := 2) (v := .int (nI 0)) (ty := .int) (C := RX2) (T := TX2) (N := 9) hx hb hts hin2 tyX2 tyX2_ok nmX2 hown hK hP hD hS 0 rfl rfl 0 (by decide) (hts (.fieldLink RX2 26 "LanternPrimesModel" "thrown" "I") (List.mem_of_getElem? (i := 1) rfl)) (fun _ h9 => h9) rfl (by decide +kernel) rfl rfl (Nat.le_of_ble_eq_true rfl) dX2_meanBeats_2 (fun H locs hP hD hS => ?_)
  have hP : va_P D vwCl [(am 0, .inr (2, [.int (nI 0), .int (nI now), .int told, .int (nI n), .ref (am 1), .ref (am 2), .ref (am 3), .ref (am 4), .ref (am 5)])), (am 1, .inl (cZ, 8, .inl (fun j => bI (lon (v j))))), (am 2, .inl (cZ, 8, .inl (fun j => bI (lcv (v j))))), (am 3, .inl (cI, 8, .inl (fun j => nI (lbc (v j))))), (am 4, .inl (cI, 32, .inl (fun z => nI (lnu (v (z / 4)) (z % 4))))), (am 5, .inl (cI, 32, .inl (fun z => nI (lof (v (z / 4)) (z % 4)))))] H := hP
  have hD : va_D (AM am) [(am 0, .inr (2, [.int (nI 0), .int (nI now), .int told, .int (nI n), .ref (am 1), .ref (am 2), .ref (am 3), .ref (am 4), .ref (am 5)])), (am 1, .inl (cZ, 8, .inl (fun j => bI (lon (v j))))), (am 2, .inl (cZ, 8, .inl (fun j => bI (lcv (v j))))), (am 3, .inl (cI, 8, .inl (fun j => nI (lbc (v j))))), (am 4, .inl (cI, 32, .inl (fun z => nI (lnu (v (z / 4)) (z % 4))))), (am 5, .inl (cI, 32, .inl (fun z => nI (lof (v (z / 4)) (z % 4)))))] := hD
  refine lv_iconst (v := nI 0) hx hb dX2_meanBeats_5 (by decide) ?_
  refine lv_istore_n (lv' := [(1, .int (nI 0)), (0, .ref (am 0))]) hx hb dX2_meanBeats_6 rfl hl (by decide) rfl (fun ls hl => ?_)
  refine lv_iconst (v := nI 0) hx hb dX2_meanBeats_7 (by decide) ?_
  refine lv_istore_n (lv' := [(2, .int (nI 0)), (1, .int (nI 0)), (0, .ref (am 0))]) hx hb dX2_meanBeats_8 rfl hl (by decide) rfl (fun ls hl => ?_)
  have loop_9 : ∀ (fu : Nat) (j : Nat), n + 1 - j ≤ fu → j ≤ n → ∀ (ls : Array Slot), lv_has ls 3 [(2, .int (nI j)), (1, .int (nI (btsN v j))), (0, .ref (am 0))] → W p l e (headSpec wsX2_meanBeats ({ frames := 0, cells := 0, slots := 0, locals := 0 } : Room)).room s m [.ref (am 0)].toArray below meth c H locs 0 0 (MQ below (QWd (AM am) True (meanF (btsN v n) n) (fun H => PM D cI cZ am (nI (0)) n (now) (told) (v) H)) [.ref (am 0)].toArray s 0 0 (AM am)) (F0 m 9 ls []) := by
    intro fu
    induction fu with
    | zero => intro j hn_9 hj; exact absurd hn_9 (by omega)
    | succ fu ih_9 =>
      intro j hn_9 hj ls hl
      refine lv_iload_n hx hb dX2_meanBeats_9 rfl (lv_at hl 0 rfl) ?_
      refine lv_aload_n hx hb dX2_meanBeats_10 rfl (lv_at hl 2 rfl) ?_
      refine va_get (D := D) (ci := 2) (v := .int (nI n)) (C := RX2) (T := TX2) (N := 9) hx hb hts hin2 hown hK hP 0 rfl rfl 3 (by decide) (hts (.fieldLink RX2 30 "LanternPrimesModel" "lamps" "I") (List.mem_of_getElem? (i := 2) rfl)) (fun _ h9 => h9) rfl dX2_meanBeats_11 ?_
      refine n_icmp_ge (a := j) (b := n) (tgt := 32) hx hb (by omega) (by omega) dX2_meanBeats_14 (by decide) (fun c_14 => ?_) (fun c_14 => ?_)
      · have hjn : j = n := by omega
        refine lv_aload_n hx hb dX2_meanBeats_32 rfl (lv_at hl 2 rfl) ?_
        refine va_get (D := D) (ci := 2) (v := .int (nI n)) (C := RX2) (T := TX2) (N := 9) hx hb hts hin2 hown hK hP 0 rfl rfl 3 (by decide) (hts (.fieldLink RX2 30 "LanternPrimesModel" "lamps" "I") (List.mem_of_getElem? (i := 2) rfl)) (fun _ h9 => h9) rfl dX2_meanBeats_33 ?_
        refine n_if_ne (a := n) (tgt := 43) hx hb (by omega) dX2_meanBeats_36 (by decide) (fun c_36 => ?_) (fun c_36 => ?_)
        · refine lv_iload_n hx hb dX2_meanBeats_43 rfl (lv_at hl 1 rfl) ?_
          refine lv_i2d hx hb dX2_meanBeats_44 ?_
          refine lv_aload_n hx hb dX2_meanBeats_45 rfl (lv_at hl 2 rfl) ?_
          refine va_get (D := D) (ci := 2) (v := .int (nI n)) (C := RX2) (T := TX2) (N := 9) hx hb hts hin2 hown hK hP 0 rfl rfl 3 (by decide) (hts (.fieldLink RX2 30 "LanternPrimesModel" "lamps" "I") (List.mem_of_getElem? (i := 2) rfl)) (fun _ h9 => h9) rfl dX2_meanBeats_46 ?_
          refine lv_i2d hx hb dX2_meanBeats_49 ?_
          refine lv_ddiv hx hb dX2_meanBeats_50 (meanOK (by have := btsN_le hwl j (by omega); omega) (by omega) (by omega)) ?_
          have hcd : 0 = 0 := rfl
          have hend : PM D cI cZ am (nI (0)) n (now) (told) (v) H := by
            exact hP
          have e_9 : FP.ddiv (FP.i2d (nI (btsN v j))) (FP.i2d (nI n)) = meanF (btsN v n) n := (by unfold meanF; first | rw [if_pos c_36] | rw [if_neg c_36, hjn])
          rw [e_9]
          exact W.dret (v := meanF (btsN v n) n) hx hb hr (fun t ht hW => ⟨trivial, rfl, by rw [ht]; exact hend, hS.F ht⟩) hS.2.2 dX2_meanBeats_51
        · refine lv_dconst0 hx hb dX2_meanBeats_39 ?_
          refine lv_goto (tgt := 51) hx hb dX2_meanBeats_40 (by decide) ?_
          have hcd : 0 = 0 := rfl
          have hend : PM D cI cZ am (nI (0)) n (now) (told) (v) H := by
            exact hP
          have e_9 : FP.dconst0 = meanF (btsN v n) n := (by unfold meanF; first | rw [if_pos c_36] | rw [if_neg c_36, hjn])
          rw [e_9]
          exact W.dret (v := meanF (btsN v n) n) hx hb hr (fun t ht hW => ⟨trivial, rfl, by rw [ht]; exact hend, hS.F ht⟩) hS.2.2 dX2_meanBeats_51
      · refine lv_iload_n hx hb dX2_meanBeats_17 rfl (lv_at hl 1 rfl) ?_
        refine lv_aload_n hx hb dX2_meanBeats_18 rfl (lv_at hl 2 rfl) ?_
        refine va_get (D := D) (ci := 2) (v := .ref (am 3)) (C := RX2) (T := TX2) (N := 9) hx hb hts hin2 hown hK hP 0 rfl rfl 6 (by decide) (hts (.fieldLink RX2 16 "LanternPrimesModel" "beats" "[I") (List.mem_of_getElem? (i := 3) rfl)) (fun _ h9 => h9) rfl dX2_meanBeats_19 ?_
        refine lv_iload_n hx hb dX2_meanBeats_22 rfl (lv_at hl 0 rfl) ?_
        refine n_iald (v := nI (lbc (v j))) (j := j) hx hb hK hP 3 0 rfl rfl (by omega) (by decide) rfl dX2_meanBeats_23 ?_
        refine n_iadd (v := nI (btsN v (j + 1))) hx hb dX2_meanBeats_24 (nI_add _ _) ?_
        refine lv_istore_n (lv' := [(1, .int (nI (btsN v (j + 1)))), (2, .int (nI j)), (0, .ref (am 0))]) hx hb dX2_meanBeats_25 rfl hl (by decide) rfl (fun ls hl => ?_)
        refine lv_iinc (v := nI (j + 1)) (lv' := [(2, .int (nI (j + 1))), (1, .int (nI (btsN v (j + 1)))), (0, .ref (am 0))]) hx hb dX2_meanBeats_26 hl (k := 1) rfl (nI_inc _) (by decide) rfl (fun ls hl => ?_)
        refine lv_goto (tgt := 9) hx hb dX2_meanBeats_29 (by decide) ?_
        exact ih_9 (j + 1) (by omega) (by omega) ls (lv_sub hl [0, 1, 2] rfl)
  exact loop_9 (n + 1) 0 (by omega) (Nat.zero_le _) ls (lv_sub hl [0, 1, 2] rfl)
