set_option maxHeartbeats 4000000 in
set_option maxRecDepth 100000 in
/-- addLamp -/
theorem c_X2_addLamp (l : Launch) (D : va_G) (cI cZ cL cJ : ClassId) (am : Nat → Nat) (th : Int32) (n now : Nat) (told : Int32) (v : Nat → LV) (hwf : WFX n now v) (hinj : Inj 6 am) (b : Bool) : Met l yX2_addLamp wsX2_addLamp ({ frames := 1, cells := 0, slots := 0, locals := 21 } : Room) (PC D (TY cI cZ cL cJ) (AM am) [.ref (am 0), .int (bI b)] (fun H => PM D cI cZ am th n now told v H)) (QW (AM am) True ((mrI (cd1 (decide (n < 8))) (nI n))) (fun H => PM D cI cZ am (nI (cd1 (decide (n < 8)))) (if cd1 (decide (n < 8)) = 0 then n + 1 else n) (now) (told) ((if cd1 (decide (n < 8)) = 0 then updv v n (setOn (v n) b) else v)) H)) 0 0 (AM am) := by
  refine Met.ofW (cc := cX2_addLamp) (maxL := 2) (ret := (some .int)) (by decide) rfl ?_
  intro p e s m args below meth c s₁ B hml hv
  obtain ⟨rfl, hK, hEA, hP⟩ := hv
  obtain ⟨hn8, hnow, hwl⟩ := hwf
  have hE : EN noA s s.heap := hEA.narrow (fun _ h => h.elim)
  have hS : va_S (AM am) s.heap s.heap [] := va_S.rf
  have hD : va_D (AM am) (mW cI cZ am th n now told v) := vd6 hinj
  have hP : va_P D vwCl (mW cI cZ am th n now told v) s.heap := hP
  have hx := B.exec
  have hb := B.bytes
  have hr := B.returns
  have hts := atoms_spec (ws := wsX2_addLamp) B.pre
  have hown : s.vm.findClass RX2 = some m.cls := findClass_of_methodNamed B.named
  have hlocks := B.notSynchronized
  have hNF := hE.2.1.1
  have hin2 : ∀ w ∈ wsX20, w ∈ wsX2_addLamp := by decide +kernel
  have hl := lv_entry ([.ref (am 0), .int (bI b)]) (n := 2) (Nat.le_of_ble_eq_true rfl)
  rw [lg_entry_eq]
  generalize (lg_sl ([.ref (am 0), .int (bI b)]) ++ List.replicate (2 - (lg_sl ([.ref (am 0), .int (bI b)])).length) Slot.unset).toArray = ls at hl ⊢
  have hl : lv_has ls 2 [(0, .ref (am 0)), (1, .int (bI b))] := hl
  refine lv_aload_n hx hb dX2_addLamp_0 rfl (lv_at hl 0 rfl) ?_
  refine lv_iconst (v := nI 0) hx hb dX2_addLamp_1 (by decide) ?_
  refine va_put (D := D) (ci := 2) (v := .int (nI 0)) (ty := .int) (C := RX2) (T := TX2) (N := 9) hx hb hts hin2 tyX2 tyX2_ok nmX2 hown hK hP hD hS 0 rfl rfl 0 (by decide) (hts (.fieldLink RX2 26 "LanternPrimesModel" "thrown" "I") (List.mem_of_getElem? (i := 1) rfl)) (fun _ h9 => h9) rfl (by decide +kernel) rfl rfl (Nat.le_of_ble_eq_true rfl) dX2_addLamp_2 (fun H locs hP hD hS => ?_)
  have hP : va_P D vwCl [(am 0, .inr (2, [.int (nI 0), .int (nI now), .int told, .int (nI n), .ref (am 1), .ref (am 2), .ref (am 3), .ref (am 4), .ref (am 5)])), (am 1, .inl (cZ, 8, .inl (fun j => bI (lon (v j))))), (am 2, .inl (cZ, 8, .inl (fun j => bI (lcv (v j))))), (am 3, .inl (cI, 8, .inl (fun j => nI (lbc (v j))))), (am 4, .inl (cI, 32, .inl (fun z => nI (lnu (v (z / 4)) (z % 4))))), (am 5, .inl (cI, 32, .inl (fun z => nI (lof (v (z / 4)) (z % 4)))))] H := hP
  have hD : va_D (AM am) [(am 0, .inr (2, [.int (nI 0), .int (nI now), .int told, .int (nI n), .ref (am 1), .ref (am 2), .ref (am 3), .ref (am 4), .ref (am 5)])), (am 1, .inl (cZ, 8, .inl (fun j => bI (lon (v j))))), (am 2, .inl (cZ, 8, .inl (fun j => bI (lcv (v j))))), (am 3, .inl (cI, 8, .inl (fun j => nI (lbc (v j))))), (am 4, .inl (cI, 32, .inl (fun z => nI (lnu (v (z / 4)) (z % 4))))), (am 5, .inl (cI, 32, .inl (fun z => nI (lof (v (z / 4)) (z % 4)))))] := hD
  refine lv_aload_n hx hb dX2_addLamp_5 rfl (lv_at hl 0 rfl) ?_
  refine va_get (D := D) (ci := 2) (v := .int (nI n)) (C := RX2) (T := TX2) (N := 9) hx hb hts hin2 hown hK hP 0 rfl rfl 3 (by decide) (hts (.fieldLink RX2 30 "LanternPrimesModel" "lamps" "I") (List.mem_of_getElem? (i := 2) rfl)) (fun _ h9 => h9) rfl dX2_addLamp_6 ?_
  refine lv_bipush (v := nI 8) hx hb dX2_addLamp_9 (by decide) ?_
  refine n_icmp_ne (a := n) (b := 8) (tgt := 20) hx hb (by omega) (by omega) dX2_addLamp_11 (by decide) (fun c_11 => ?_) (fun c_11 => ?_)
  · refine lv_aload_n hx hb dX2_addLamp_20 rfl (lv_at hl 0 rfl) ?_
    refine va_get (D := D) (ci := 2) (v := .ref (am 1)) (C := RX2) (T := TX2) (N := 9) hx hb hts hin2 hown hK hP 0 rfl rfl 4 (by decide) (hts (.fieldLink RX2 9 "LanternPrimesModel" "begins" "[Z") (List.mem_of_getElem? (i := 3) rfl)) (fun _ h9 => h9) rfl dX2_addLamp_21 ?_
    refine lv_aload_n hx hb dX2_addLamp_24 rfl (lv_at hl 0 rfl) ?_
    refine va_get (D := D) (ci := 2) (v := .int (nI n)) (C := RX2) (T := TX2) (N := 9) hx hb hts hin2 hown hK hP 0 rfl rfl 3 (by decide) (hts (.fieldLink RX2 30 "LanternPrimesModel" "lamps" "I") (List.mem_of_getElem? (i := 2) rfl)) (fun _ h9 => h9) rfl dX2_addLamp_25 ?_
    refine lv_iload_n hx hb dX2_addLamp_28 rfl (lv_at hl 1 rfl) ?_
    refine n_zast (f' := fun i => bI (if i = n then b else lon (v i))) (j := n) hx hb hK hP hD hS 1 1 rfl rfl (by omega) (by decide) (updB _ _ _) dX2_addLamp_29 (fun H locs hP hD hS => ?_)
    have hP : va_P D vwCl [(am 0, .inr (2, [.int (nI 0), .int (nI now), .int told, .int (nI n), .ref (am 1), .ref (am 2), .ref (am 3), .ref (am 4), .ref (am 5)])), (am 1, .inl (cZ, 8, .inl (fun i => bI (if i = n then b else lon (v i))))), (am 2, .inl (cZ, 8, .inl (fun j => bI (lcv (v j))))), (am 3, .inl (cI, 8, .inl (fun j => nI (lbc (v j))))), (am 4, .inl (cI, 32, .inl (fun z => nI (lnu (v (z / 4)) (z % 4))))), (am 5, .inl (cI, 32, .inl (fun z => nI (lof (v (z / 4)) (z % 4)))))] H := hP
    have hD : va_D (AM am) [(am 0, .inr (2, [.int (nI 0), .int (nI now), .int told, .int (nI n), .ref (am 1), .ref (am 2), .ref (am 3), .ref (am 4), .ref (am 5)])), (am 1, .inl (cZ, 8, .inl (fun i => bI (if i = n then b else lon (v i))))), (am 2, .inl (cZ, 8, .inl (fun j => bI (lcv (v j))))), (am 3, .inl (cI, 8, .inl (fun j => nI (lbc (v j))))), (am 4, .inl (cI, 32, .inl (fun z => nI (lnu (v (z / 4)) (z % 4))))), (am 5, .inl (cI, 32, .inl (fun z => nI (lof (v (z / 4)) (z % 4)))))] := hD
    refine lv_aload_n hx hb dX2_addLamp_30 rfl (lv_at hl 0 rfl) ?_
    refine lv_dup hx hb dX2_addLamp_31 rfl ?_
    refine va_get (D := D) (ci := 2) (v := .int (nI n)) (C := RX2) (T := TX2) (N := 9) hx hb hts hin2 hown hK hP 0 rfl rfl 3 (by decide) (hts (.fieldLink RX2 30 "LanternPrimesModel" "lamps" "I") (List.mem_of_getElem? (i := 2) rfl)) (fun _ h9 => h9) rfl dX2_addLamp_32 ?_
    refine lv_iconst (v := nI 1) hx hb dX2_addLamp_35 (by decide) ?_
    refine n_iadd (v := nI (n + 1)) hx hb dX2_addLamp_36 (nI_add _ _) ?_
    refine va_put (D := D) (ci := 2) (v := .int (nI (n + 1))) (ty := .int) (C := RX2) (T := TX2) (N := 9) hx hb hts hin2 tyX2 tyX2_ok nmX2 hown hK hP hD hS 0 rfl rfl 3 (by decide) (hts (.fieldLink RX2 30 "LanternPrimesModel" "lamps" "I") (List.mem_of_getElem? (i := 2) rfl)) (fun _ h9 => h9) rfl (by decide +kernel) rfl rfl (Nat.le_of_ble_eq_true rfl) dX2_addLamp_37 (fun H locs hP hD hS => ?_)
    have hP : va_P D vwCl [(am 0, .inr (2, [.int (nI 0), .int (nI now), .int told, .int (nI (n + 1)), .ref (am 1), .ref (am 2), .ref (am 3), .ref (am 4), .ref (am 5)])), (am 1, .inl (cZ, 8, .inl (fun i => bI (if i = n then b else lon (v i))))), (am 2, .inl (cZ, 8, .inl (fun j => bI (lcv (v j))))), (am 3, .inl (cI, 8, .inl (fun j => nI (lbc (v j))))), (am 4, .inl (cI, 32, .inl (fun z => nI (lnu (v (z / 4)) (z % 4))))), (am 5, .inl (cI, 32, .inl (fun z => nI (lof (v (z / 4)) (z % 4)))))] H := hP
    have hD : va_D (AM am) [(am 0, .inr (2, [.int (nI 0), .int (nI now), .int told, .int (nI (n + 1)), .ref (am 1), .ref (am 2), .ref (am 3), .ref (am 4), .ref (am 5)])), (am 1, .inl (cZ, 8, .inl (fun i => bI (if i = n then b else lon (v i))))), (am 2, .inl (cZ, 8, .inl (fun j => bI (lcv (v j))))), (am 3, .inl (cI, 8, .inl (fun j => nI (lbc (v j))))), (am 4, .inl (cI, 32, .inl (fun z => nI (lnu (v (z / 4)) (z % 4))))), (am 5, .inl (cI, 32, .inl (fun z => nI (lof (v (z / 4)) (z % 4)))))] := hD
    refine lv_aload_n hx hb dX2_addLamp_40 rfl (lv_at hl 0 rfl) ?_
    refine va_get (D := D) (ci := 2) (v := .int (nI (n + 1))) (C := RX2) (T := TX2) (N := 9) hx hb hts hin2 hown hK hP 0 rfl rfl 3 (by decide) (hts (.fieldLink RX2 30 "LanternPrimesModel" "lamps" "I") (List.mem_of_getElem? (i := 2) rfl)) (fun _ h9 => h9) rfl dX2_addLamp_41 ?_
    refine lv_iconst (v := nI 1) hx hb dX2_addLamp_44 (by decide) ?_
    refine n_isub (v := nI ((n + 1) - 1)) hx hb dX2_addLamp_45 (pk_sub (by omega)) ?_
    have hcd : cd1 (decide (n < 8)) = 0 := (cd1_t (decide_eq_true (by omega)))
    have hend : PM D cI cZ am (nI (cd1 (decide (n < 8)))) (if cd1 (decide (n < 8)) = 0 then n + 1 else n) (now) (told) ((if cd1 (decide (n < 8)) = 0 then updv v n (setOn (v n) b) else v)) H := by
      rw [hcd]; show PM D cI cZ am (nI 0) (n + 1) now told (updv v n (setOn (v n) b)) H; exact mW_eq (fun i => congrArg bI (updv_g lon v n _ i).symm) (fun w => congrArg bI (updv_s (v := v) (j := n) (L := (setOn (v n) b)) lcv rfl w)) (fun w => congrArg nI (updv_s (v := v) (j := n) (L := (setOn (v n) b)) lbc rfl w)) (fun w => congrArg nI (updv_s (v := v) (j := n) (L := (setOn (v n) b)) (fun L => lnu L (w % 4)) rfl (w / 4))) (fun w => congrArg nI (updv_s (v := v) (j := n) (L := (setOn (v n) b)) (fun L => lof L (w % 4)) rfl (w / 4))) hP
    refine n_ti (y := (mrI (cd1 (decide (n < 8))) (nI n))) (by rw [hcd, Nat.add_sub_cancel]; rfl) ?_
    exact W.iret (v := (mrI (cd1 (decide (n < 8))) (nI n))) hx hb hr (fun t ht hW => ⟨trivial, rfl, by rw [ht]; exact hend, hS.F ht⟩) hS.2.2 dX2_addLamp_46
  · refine lv_aload_n hx hb dX2_addLamp_14 rfl (lv_at hl 0 rfl) ?_
    refine lv_iconst (v := nI 1) hx hb dX2_addLamp_15 (by decide) ?_
    refine wV (As := [.int (nI 1)]) (rest := []) ⟨hx, hb, hml, hown, hts⟩ (c_X2_no l D cI cZ cL cJ am (nI 0) n now told v ⟨hn8, hnow, hwl⟩ hinj (nI 1)) (cwV 1 hts gX2_addLamp_X2_no rfl rfl rfl (by decide +kernel) ⟨(Nat.le_of_ble_eq_true rfl), (Nat.le_of_ble_eq_true rfl)⟩) hK (hEA.kept hS.2.1) hP (RC_of (q := (RX2, TX2, 9)) (ci := 2) hK rfl (vpa hP 0 rfl)) rfl hl.1 rfl (Nat.le_of_ble_eq_true rfl) dX2_addLamp_16 ⟨(Nat.le_of_ble_eq_true rfl), (Nat.le_of_ble_eq_true rfl)⟩ hS (fun q h => h) (fun H locs _ hP _ hk hS => ?_)
    have hP : va_P D vwCl [(am 0, .inr (2, [.int (nI 1), .int (nI now), .int told, .int (nI n), .ref (am 1), .ref (am 2), .ref (am 3), .ref (am 4), .ref (am 5)])), (am 1, .inl (cZ, 8, .inl (fun j => bI (lon (v j))))), (am 2, .inl (cZ, 8, .inl (fun j => bI (lcv (v j))))), (am 3, .inl (cI, 8, .inl (fun j => nI (lbc (v j))))), (am 4, .inl (cI, 32, .inl (fun z => nI (lnu (v (z / 4)) (z % 4))))), (am 5, .inl (cI, 32, .inl (fun z => nI (lof (v (z / 4)) (z % 4)))))] H := hP
    have hD : va_D (AM am) [(am 0, .inr (2, [.int (nI 1), .int (nI now), .int told, .int (nI n), .ref (am 1), .ref (am 2), .ref (am 3), .ref (am 4), .ref (am 5)])), (am 1, .inl (cZ, 8, .inl (fun j => bI (lon (v j))))), (am 2, .inl (cZ, 8, .inl (fun j => bI (lcv (v j))))), (am 3, .inl (cI, 8, .inl (fun j => nI (lbc (v j))))), (am 4, .inl (cI, 32, .inl (fun z => nI (lnu (v (z / 4)) (z % 4))))), (am 5, .inl (cI, 32, .inl (fun z => nI (lof (v (z / 4)) (z % 4)))))] := vd6 hinj
    have hcd : cd1 (decide (n < 8)) = 1 := (by rw [decide_eq_false (by omega)]; rfl)
    have hend : PM D cI cZ am (nI (cd1 (decide (n < 8)))) (if cd1 (decide (n < 8)) = 0 then n + 1 else n) (now) (told) ((if cd1 (decide (n < 8)) = 0 then updv v n (setOn (v n) b) else v)) H := by
      rw [hcd]; exact hP
    refine n_ti (y := (mrI (cd1 (decide (n < 8))) (nI n))) (by rw [hcd]; rfl) ?_
    exact W.iret (v := (mrI (cd1 (decide (n < 8))) (nI n))) hx hb hr (fun t ht hW => ⟨trivial, rfl, by rw [ht]; exact hend, hS.F ht⟩) hS.2.2 dX2_addLamp_19
set_option maxHeartbeats 4000000 in
set_option maxRecDepth 100000 in
/-- turnShutter -/
theorem c_X2_turnShutter (l : Launch) (D : va_G) (cI cZ cL cJ : ClassId) (am : Nat → Nat) (th : Int32) (n now : Nat) (told : Int32) (v : Nat → LV) (hwf : WFX n now v) (hinj : Inj 6 am) (k : Int32) : Met l yX2_turnShutter wsX2_turnShutter ({ frames := 2, cells := 0, slots := 0, locals := 43 } : Room) (PC D (TY cI cZ cL cJ) (AM am) [.ref (am 0), .int k] (fun H => PM D cI cZ am th n now told v H)) (QW (AM am) True (bI (mrB (cd1 (lpOk n k)) (!(lcv (v (ixx k)))))) (fun H => PM D cI cZ am (nI (cd1 (lpOk n k))) n (now) (told) ((if cd1 (lpOk n k) = 0 then updv v (ixx k) (setCv (v (ixx k)) (!(lcv (v (ixx k))))) else v)) H)) 0 0 (AM am) := by
  refine Met.ofW (cc := cX2_turnShutter) (maxL := 2) (ret := (some .boolean)) (by decide) rfl ?_
  intro p e s m args below meth c s₁ B hml hv
  obtain ⟨rfl, hK, hEA, hP⟩ := hv
  obtain ⟨hn8, hnow, hwl⟩ := hwf
  have hE : EN noA s s.heap := hEA.narrow (fun _ h => h.elim)
  have hS : va_S (AM am) s.heap s.heap [] := va_S.rf
  have hD : va_D (AM am) (mW cI cZ am th n now told v) := vd6 hinj
  have hP : va_P D vwCl (mW cI cZ am th n now told v) s.heap := hP
  have hx := B.exec
  have hb := B.bytes
  have hr := B.returns
  have hts := atoms_spec (ws := wsX2_turnShutter) B.pre
  have hown : s.vm.findClass RX2 = some m.cls := findClass_of_methodNamed B.named
  have hlocks := B.notSynchronized
  have hNF := hE.2.1.1
  have hin2 : ∀ w ∈ wsX20, w ∈ wsX2_turnShutter := by decide +kernel
  have hl := lv_entry ([.ref (am 0), .int k]) (n := 2) (Nat.le_of_ble_eq_true rfl)
  rw [lg_entry_eq]
  generalize (lg_sl ([.ref (am 0), .int k]) ++ List.replicate (2 - (lg_sl ([.ref (am 0), .int k])).length) Slot.unset).toArray = ls at hl ⊢
  have hl : lv_has ls 2 [(0, .ref (am 0)), (1, .int k)] := hl
  refine lv_aload_n hx hb dX2_turnShutter_0 rfl (lv_at hl 0 rfl) ?_
  refine lv_iconst (v := nI 0) hx hb dX2_turnShutter_1 (by decide) ?_
  refine va_put (D := D) (ci := 2) (v := .int (nI 0)) (ty := .int) (C := RX2) (T := TX2) (N := 9) hx hb hts hin2 tyX2 tyX2_ok nmX2 hown hK hP hD hS 0 rfl rfl 0 (by decide) (hts (.fieldLink RX2 26 "LanternPrimesModel" "thrown" "I") (List.mem_of_getElem? (i := 1) rfl)) (fun _ h9 => h9) rfl (by decide +kernel) rfl rfl (Nat.le_of_ble_eq_true rfl) dX2_turnShutter_2 (fun H locs hP hD hS => ?_)
  have hP : va_P D vwCl [(am 0, .inr (2, [.int (nI 0), .int (nI now), .int told, .int (nI n), .ref (am 1), .ref (am 2), .ref (am 3), .ref (am 4), .ref (am 5)])), (am 1, .inl (cZ, 8, .inl (fun j => bI (lon (v j))))), (am 2, .inl (cZ, 8, .inl (fun j => bI (lcv (v j))))), (am 3, .inl (cI, 8, .inl (fun j => nI (lbc (v j))))), (am 4, .inl (cI, 32, .inl (fun z => nI (lnu (v (z / 4)) (z % 4))))), (am 5, .inl (cI, 32, .inl (fun z => nI (lof (v (z / 4)) (z % 4)))))] H := hP
  have hD : va_D (AM am) [(am 0, .inr (2, [.int (nI 0), .int (nI now), .int told, .int (nI n), .ref (am 1), .ref (am 2), .ref (am 3), .ref (am 4), .ref (am 5)])), (am 1, .inl (cZ, 8, .inl (fun j => bI (lon (v j))))), (am 2, .inl (cZ, 8, .inl (fun j => bI (lcv (v j))))), (am 3, .inl (cI, 8, .inl (fun j => nI (lbc (v j))))), (am 4, .inl (cI, 32, .inl (fun z => nI (lnu (v (z / 4)) (z % 4))))), (am 5, .inl (cI, 32, .inl (fun z => nI (lof (v (z / 4)) (z % 4)))))] := hD
  refine lv_aload_n hx hb dX2_turnShutter_5 rfl (lv_at hl 0 rfl) ?_
  refine lv_iload_n hx hb dX2_turnShutter_6 rfl (lv_at hl 1 rfl) ?_
  refine rV (r := bI (lpOk n k)) (As := [.int k]) (rest := []) ⟨hx, hb, hml, hown, hts⟩ (c_X2_isLamp l D cI cZ cL cJ am (nI 0) n now told v ⟨hn8, hnow, hwl⟩ k) (cwV 1 hts gX2_turnShutter_X2_isLamp rfl rfl rfl (by decide +kernel) ⟨(Nat.le_of_ble_eq_true rfl), (Nat.le_of_ble_eq_true rfl)⟩) hK ((hEA.kept hS.2.1).narrow (fun _ h => h.elim)) hP (RC_of (q := (RX2, TX2, 9)) (ci := 2) hK rfl (vpa hP 0 rfl)) rfl hl.1 rfl (Nat.le_of_ble_eq_true rfl) dX2_turnShutter_7 ⟨(Nat.le_of_ble_eq_true rfl), (Nat.le_of_ble_eq_true rfl)⟩ ?_
  refine b_if_ne (b := lpOk n k) (tgt := 19) hx hb dX2_turnShutter_10 (by decide) (fun c_10 => ?_) (fun c_10 => ?_)
  · obtain ⟨j, hj, rfl⟩ := lpOk_j (by omega) c_10
    have join_38 : ∀ (ls : Array Slot), lv_has ls 2 [(0, .ref (am 0)), (1, .int (nI j))] → W p l e (headSpec wsX2_turnShutter ({ frames := 2, cells := 0, slots := 0, locals := 43 } : Room)).room s m [.ref (am 0), .int (nI j)].toArray below meth c H locs 0 0 (MQ below (QW (AM am) True (bI (mrB (cd1 (lpOk n (nI j))) (!(lcv (v (ixx (nI j))))))) (fun H => PM D cI cZ am (nI (cd1 (lpOk n (nI j)))) n (now) (told) ((if cd1 (lpOk n (nI j)) = 0 then updv v (ixx (nI j)) (setCv (v (ixx (nI j))) (!(lcv (v (ixx (nI j)))))) else v)) H)) [.ref (am 0), .int (nI j)].toArray s 0 0 (AM am)) (F0 m 38 ls [.int (bI (!(lcv (v j)))), .int (nI j), .ref (am 2)]) := by
      intro   ls hl
      refine n_zast (f' := fun i => bI (if i = j then !(lcv (v j)) else lcv (v i))) (j := j) hx hb hK hP hD hS 2 1 rfl rfl (by omega) (by decide) (updB _ _ _) dX2_turnShutter_38 (fun H locs hP hD hS => ?_)
      have hP : va_P D vwCl [(am 0, .inr (2, [.int (nI 0), .int (nI now), .int told, .int (nI n), .ref (am 1), .ref (am 2), .ref (am 3), .ref (am 4), .ref (am 5)])), (am 1, .inl (cZ, 8, .inl (fun j => bI (lon (v j))))), (am 2, .inl (cZ, 8, .inl (fun i => bI (if i = j then !(lcv (v j)) else lcv (v i))))), (am 3, .inl (cI, 8, .inl (fun j => nI (lbc (v j))))), (am 4, .inl (cI, 32, .inl (fun z => nI (lnu (v (z / 4)) (z % 4))))), (am 5, .inl (cI, 32, .inl (fun z => nI (lof (v (z / 4)) (z % 4)))))] H := hP
      have hD : va_D (AM am) [(am 0, .inr (2, [.int (nI 0), .int (nI now), .int told, .int (nI n), .ref (am 1), .ref (am 2), .ref (am 3), .ref (am 4), .ref (am 5)])), (am 1, .inl (cZ, 8, .inl (fun j => bI (lon (v j))))), (am 2, .inl (cZ, 8, .inl (fun i => bI (if i = j then !(lcv (v j)) else lcv (v i))))), (am 3, .inl (cI, 8, .inl (fun j => nI (lbc (v j))))), (am 4, .inl (cI, 32, .inl (fun z => nI (lnu (v (z / 4)) (z % 4))))), (am 5, .inl (cI, 32, .inl (fun z => nI (lof (v (z / 4)) (z % 4)))))] := hD
      refine lv_aload_n hx hb dX2_turnShutter_39 rfl (lv_at hl 0 rfl) ?_
      refine va_get (D := D) (ci := 2) (v := .ref (am 2)) (C := RX2) (T := TX2) (N := 9) hx hb hts hin2 hown hK hP 0 rfl rfl 5 (by decide) (hts (.fieldLink RX2 13 "LanternPrimesModel" "covered" "[Z") (List.mem_of_getElem? (i := 2) rfl)) (fun _ h9 => h9) rfl dX2_turnShutter_40 ?_
      refine lv_iload_n hx hb dX2_turnShutter_43 rfl (lv_at hl 1 rfl) ?_
      refine n_zald (v := bI (!(lcv (v j)))) (j := j) hx hb hK hP 2 1 rfl rfl (by omega) (by decide) (congrArg bI (if_pos rfl)) dX2_turnShutter_44 ?_
      have hcd : cd1 (lpOk n (nI j)) = 0 := (cd1_t c_10)
      have hend : PM D cI cZ am (nI (cd1 (lpOk n (nI j)))) n (now) (told) ((if cd1 (lpOk n (nI j)) = 0 then updv v (ixx (nI j)) (setCv (v (ixx (nI j))) (!(lcv (v (ixx (nI j)))))) else v)) H := by
        rw [hcd]; rw [ixx_nI (by omega)]; show PM D cI cZ am (nI 0) n now told (updv v j (setCv (v j) (!(lcv (v j))))) H; exact mW_eq (fun w => congrArg bI (updv_s (v := v) (j := j) (L := (setCv (v j) (!(lcv (v j))))) lon rfl w)) (fun i => congrArg bI (updv_g lcv v j _ i).symm) (fun w => congrArg nI (updv_s (v := v) (j := j) (L := (setCv (v j) (!(lcv (v j))))) lbc rfl w)) (fun w => congrArg nI (updv_s (v := v) (j := j) (L := (setCv (v j) (!(lcv (v j))))) (fun L => lnu L (w % 4)) rfl (w / 4))) (fun w => congrArg nI (updv_s (v := v) (j := j) (L := (setCv (v j) (!(lcv (v j))))) (fun L => lof L (w % 4)) rfl (w / 4))) hP
      refine n_ti (y := bI (mrB (cd1 (lpOk n (nI j))) (!(lcv (v (ixx (nI j))))))) (by rw [hcd, ixx_nI (by omega)]; exact (congrArg bI (Bool.true_and _)).symm) ?_
      exact W.zret (v := bI (mrB (cd1 (lpOk n (nI j))) (!(lcv (v (ixx (nI j))))))) hx hb hr (bI_narrow _) (fun t ht hW => ⟨trivial, rfl, by rw [ht]; exact hend, hS.F ht⟩) hS.2.2 dX2_turnShutter_45
    refine lv_aload_n hx hb dX2_turnShutter_19 rfl (lv_at hl 0 rfl) ?_
    refine va_get (D := D) (ci := 2) (v := .ref (am 2)) (C := RX2) (T := TX2) (N := 9) hx hb hts hin2 hown hK hP 0 rfl rfl 5 (by decide) (hts (.fieldLink RX2 13 "LanternPrimesModel" "covered" "[Z") (List.mem_of_getElem? (i := 2) rfl)) (fun _ h9 => h9) rfl dX2_turnShutter_20 ?_
    refine lv_iload_n hx hb dX2_turnShutter_23 rfl (lv_at hl 1 rfl) ?_
    refine lv_aload_n hx hb dX2_turnShutter_24 rfl (lv_at hl 0 rfl) ?_
    refine va_get (D := D) (ci := 2) (v := .ref (am 2)) (C := RX2) (T := TX2) (N := 9) hx hb hts hin2 hown hK hP 0 rfl rfl 5 (by decide) (hts (.fieldLink RX2 13 "LanternPrimesModel" "covered" "[Z") (List.mem_of_getElem? (i := 2) rfl)) (fun _ h9 => h9) rfl dX2_turnShutter_25 ?_
    refine lv_iload_n hx hb dX2_turnShutter_28 rfl (lv_at hl 1 rfl) ?_
    refine n_zald (v := bI (lcv (v j))) (j := j) hx hb hK hP 2 1 rfl rfl (by omega) (by decide) rfl dX2_turnShutter_29 ?_
    refine b_if_ne (b := lcv (v j)) (tgt := 37) hx hb dX2_turnShutter_30 (by decide) (fun c_30 => ?_) (fun c_30 => ?_)
    · refine lv_iconst (v := nI 0) hx hb dX2_turnShutter_37 (by decide) ?_
      refine n_ti (y := bI (!(lcv (v j)))) (by rw [c_30]; rfl) ?_
      exact join_38 ls (lv_sub hl [0, 1] rfl)
    · refine lv_iconst (v := nI 1) hx hb dX2_turnShutter_33 (by decide) ?_
      refine lv_goto (tgt := 38) hx hb dX2_turnShutter_34 (by decide) ?_
      refine n_ti (y := bI (!(lcv (v j)))) (by rw [c_30]; rfl) ?_
      exact join_38 ls (lv_sub hl [0, 1] rfl)
  · refine lv_aload_n hx hb dX2_turnShutter_13 rfl (lv_at hl 0 rfl) ?_
    refine lv_iconst (v := nI 1) hx hb dX2_turnShutter_14 (by decide) ?_
    refine wV (As := [.int (nI 1)]) (rest := []) ⟨hx, hb, hml, hown, hts⟩ (c_X2_isNot l D cI cZ cL cJ am (nI 0) n now told v ⟨hn8, hnow, hwl⟩ hinj (nI 1)) (cwV 1 hts gX2_turnShutter_X2_isNot rfl rfl rfl (by decide +kernel) ⟨(Nat.le_of_ble_eq_true rfl), (Nat.le_of_ble_eq_true rfl)⟩) hK (hEA.kept hS.2.1) hP (RC_of (q := (RX2, TX2, 9)) (ci := 2) hK rfl (vpa hP 0 rfl)) rfl hl.1 rfl (Nat.le_of_ble_eq_true rfl) dX2_turnShutter_15 ⟨(Nat.le_of_ble_eq_true rfl), (Nat.le_of_ble_eq_true rfl)⟩ hS (fun q h => h) (fun H locs _ hP _ hk hS => ?_)
    have hP : va_P D vwCl [(am 0, .inr (2, [.int (nI 1), .int (nI now), .int told, .int (nI n), .ref (am 1), .ref (am 2), .ref (am 3), .ref (am 4), .ref (am 5)])), (am 1, .inl (cZ, 8, .inl (fun j => bI (lon (v j))))), (am 2, .inl (cZ, 8, .inl (fun j => bI (lcv (v j))))), (am 3, .inl (cI, 8, .inl (fun j => nI (lbc (v j))))), (am 4, .inl (cI, 32, .inl (fun z => nI (lnu (v (z / 4)) (z % 4))))), (am 5, .inl (cI, 32, .inl (fun z => nI (lof (v (z / 4)) (z % 4)))))] H := hP
    have hD : va_D (AM am) [(am 0, .inr (2, [.int (nI 1), .int (nI now), .int told, .int (nI n), .ref (am 1), .ref (am 2), .ref (am 3), .ref (am 4), .ref (am 5)])), (am 1, .inl (cZ, 8, .inl (fun j => bI (lon (v j))))), (am 2, .inl (cZ, 8, .inl (fun j => bI (lcv (v j))))), (am 3, .inl (cI, 8, .inl (fun j => nI (lbc (v j))))), (am 4, .inl (cI, 32, .inl (fun z => nI (lnu (v (z / 4)) (z % 4))))), (am 5, .inl (cI, 32, .inl (fun z => nI (lof (v (z / 4)) (z % 4)))))] := vd6 hinj
    have hcd : cd1 (lpOk n k) = 1 := (by rw [c_10]; rfl)
    have hend : PM D cI cZ am (nI (cd1 (lpOk n k))) n (now) (told) ((if cd1 (lpOk n k) = 0 then updv v (ixx k) (setCv (v (ixx k)) (!(lcv (v (ixx k))))) else v)) H := by
      rw [hcd]; exact hP
    refine n_ti (y := bI (mrB (cd1 (lpOk n k)) (!(lcv (v (ixx k)))))) (by rw [hcd]; rfl) ?_
    exact W.zret (v := bI (mrB (cd1 (lpOk n k)) (!(lcv (v (ixx k)))))) hx hb hr (bI_narrow _) (fun t ht hW => ⟨trivial, rfl, by rw [ht]; exact hend, hS.F ht⟩) hS.2.2 dX2_turnShutter_18
set_option maxHeartbeats 4000000 in
set_option maxRecDepth 100000 in
/-- addBeat -/
theorem c_X2_addBeat (l : Launch) (D : va_G) (cI cZ cL cJ : ClassId) (am : Nat → Nat) (th : Int32) (n now : Nat) (told : Int32) (v : Nat → LV) (hwf : WFX n now v) (hinj : Inj 6 am) (k x o : Int32) : Met l yX2_addBeat wsX2_addBeat ({ frames := 2, cells := 0, slots := 0, locals := 43 } : Room) (PC D (TY cI cZ cL cJ) (AM am) [.ref (am 0), .int k, .int x, .int o] (fun H => PM D cI cZ am th n now told v H)) (QW (AM am) True ((mrI (cd3 (lpOk n k) (prB x && rgOk o x) (decide (lbc (v (ixx k)) < 4))) (nI (lbc (v (ixx k)))))) (fun H => PM D cI cZ am (nI (cd3 (lpOk n k) (prB x && rgOk o x) (decide (lbc (v (ixx k)) < 4)))) n (now) (told) ((if cd3 (lpOk n k) (prB x && rgOk o x) (decide (lbc (v (ixx k)) < 4)) = 0 then updv v (ixx k) (addL (v (ixx k)) (ixx x) (ixx o)) else v)) H)) 0 0 (AM am) := by
  refine Met.ofW (cc := cX2_addBeat) (maxL := 5) (ret := (some .int)) (by decide) rfl ?_
  intro p e s m args below meth c s₁ B hml hv
  obtain ⟨rfl, hK, hEA, hP⟩ := hv
  obtain ⟨hn8, hnow, hwl⟩ := hwf
  have hE : EN noA s s.heap := hEA.narrow (fun _ h => h.elim)
  have hS : va_S (AM am) s.heap s.heap [] := va_S.rf
  have hD : va_D (AM am) (mW cI cZ am th n now told v) := vd6 hinj
  have hP : va_P D vwCl (mW cI cZ am th n now told v) s.heap := hP
  have hx := B.exec
  have hb := B.bytes
  have hr := B.returns
  have hts := atoms_spec (ws := wsX2_addBeat) B.pre
  have hown : s.vm.findClass RX2 = some m.cls := findClass_of_methodNamed B.named
  have hlocks := B.notSynchronized
  have hNF := hE.2.1.1
  have hin2 : ∀ w ∈ wsX20, w ∈ wsX2_addBeat := by decide +kernel
  have hl := lv_entry ([.ref (am 0), .int k, .int x, .int o]) (n := 5) (Nat.le_of_ble_eq_true rfl)
  rw [lg_entry_eq]
  generalize (lg_sl ([.ref (am 0), .int k, .int x, .int o]) ++ List.replicate (5 - (lg_sl ([.ref (am 0), .int k, .int x, .int o])).length) Slot.unset).toArray = ls at hl ⊢
  have hl : lv_has ls 5 [(0, .ref (am 0)), (1, .int k), (2, .int x), (3, .int o)] := hl
  refine lv_aload_n hx hb dX2_addBeat_0 rfl (lv_at hl 0 rfl) ?_
  refine lv_iconst (v := nI 0) hx hb dX2_addBeat_1 (by decide) ?_
  refine va_put (D := D) (ci := 2) (v := .int (nI 0)) (ty := .int) (C := RX2) (T := TX2) (N := 9) hx hb hts hin2 tyX2 tyX2_ok nmX2 hown hK hP hD hS 0 rfl rfl 0 (by decide) (hts (.fieldLink RX2 26 "LanternPrimesModel" "thrown" "I") (List.mem_of_getElem? (i := 1) rfl)) (fun _ h9 => h9) rfl (by decide +kernel) rfl rfl (Nat.le_of_ble_eq_true rfl) dX2_addBeat_2 (fun H locs hP hD hS => ?_)
  have hP : va_P D vwCl [(am 0, .inr (2, [.int (nI 0), .int (nI now), .int told, .int (nI n), .ref (am 1), .ref (am 2), .ref (am 3), .ref (am 4), .ref (am 5)])), (am 1, .inl (cZ, 8, .inl (fun j => bI (lon (v j))))), (am 2, .inl (cZ, 8, .inl (fun j => bI (lcv (v j))))), (am 3, .inl (cI, 8, .inl (fun j => nI (lbc (v j))))), (am 4, .inl (cI, 32, .inl (fun z => nI (lnu (v (z / 4)) (z % 4))))), (am 5, .inl (cI, 32, .inl (fun z => nI (lof (v (z / 4)) (z % 4)))))] H := hP
  have hD : va_D (AM am) [(am 0, .inr (2, [.int (nI 0), .int (nI now), .int told, .int (nI n), .ref (am 1), .ref (am 2), .ref (am 3), .ref (am 4), .ref (am 5)])), (am 1, .inl (cZ, 8, .inl (fun j => bI (lon (v j))))), (am 2, .inl (cZ, 8, .inl (fun j => bI (lcv (v j))))), (am 3, .inl (cI, 8, .inl (fun j => nI (lbc (v j))))), (am 4, .inl (cI, 32, .inl (fun z => nI (lnu (v (z / 4)) (z % 4))))), (am 5, .inl (cI, 32, .inl (fun z => nI (lof (v (z / 4)) (z % 4)))))] := hD
  refine lv_aload_n hx hb dX2_addBeat_5 rfl (lv_at hl 0 rfl) ?_
  refine lv_iload_n hx hb dX2_addBeat_6 rfl (lv_at hl 1 rfl) ?_
  refine rV (r := bI (lpOk n k)) (As := [.int k]) (rest := []) ⟨hx, hb, hml, hown, hts⟩ (c_X2_isLamp l D cI cZ cL cJ am (nI 0) n now told v ⟨hn8, hnow, hwl⟩ k) (cwV 1 hts gX2_addBeat_X2_isLamp rfl rfl rfl (by decide +kernel) ⟨(Nat.le_of_ble_eq_true rfl), (Nat.le_of_ble_eq_true rfl)⟩) hK ((hEA.kept hS.2.1).narrow (fun _ h => h.elim)) hP (RC_of (q := (RX2, TX2, 9)) (ci := 2) hK rfl (vpa hP 0 rfl)) rfl hl.1 rfl (Nat.le_of_ble_eq_true rfl) dX2_addBeat_7 ⟨(Nat.le_of_ble_eq_true rfl), (Nat.le_of_ble_eq_true rfl)⟩ ?_
  refine b_if_ne (b := lpOk n k) (tgt := 19) hx hb dX2_addBeat_10 (by decide) (fun c_10 => ?_) (fun c_10 => ?_)
  · obtain ⟨j, hj, rfl⟩ := lpOk_j (by omega) c_10
    have hw4 := (hwl j (by omega)).1
    refine lv_iload_n hx hb dX2_addBeat_19 rfl (lv_at hl 2 rfl) ?_
    refine rS (r := bI (prB x)) (As := [.int x]) (rest := []) ⟨hx, hb, hml, hown, hts⟩ (c_X2_isPrime l D cI cZ cL cJ x) (va_cwS 1 hts gX2_addBeat_X2_isPrime rfl rfl rfl (by decide +kernel) ⟨(Nat.le_of_ble_eq_true rfl), (Nat.le_of_ble_eq_true rfl)⟩) hK ((hEA.kept hS.2.1).narrow (fun _ h => h.elim)) trivial rfl hl.1 rfl (Nat.le_of_ble_eq_true rfl) dX2_addBeat_20 ⟨(Nat.le_of_ble_eq_true rfl), (Nat.le_of_ble_eq_true rfl)⟩ ?_
    refine b_if_eq (b := prB x) (tgt := 37) hx hb dX2_addBeat_23 (by decide) (fun c_23 => ?_) (fun c_23 => ?_)
    · refine lv_aload_n hx hb dX2_addBeat_37 rfl (lv_at hl 0 rfl) ?_
      refine lv_iconst (v := nI 2) hx hb dX2_addBeat_38 (by decide) ?_
      refine wV (As := [.int (nI 2)]) (rest := []) ⟨hx, hb, hml, hown, hts⟩ (c_X2_no l D cI cZ cL cJ am (nI 0) n now told v ⟨hn8, hnow, hwl⟩ hinj (nI 2)) (cwV 1 hts gX2_addBeat_X2_no rfl rfl rfl (by decide +kernel) ⟨(Nat.le_of_ble_eq_true rfl), (Nat.le_of_ble_eq_true rfl)⟩) hK (hEA.kept hS.2.1) hP (RC_of (q := (RX2, TX2, 9)) (ci := 2) hK rfl (vpa hP 0 rfl)) rfl hl.1 rfl (Nat.le_of_ble_eq_true rfl) dX2_addBeat_39 ⟨(Nat.le_of_ble_eq_true rfl), (Nat.le_of_ble_eq_true rfl)⟩ hS (fun q h => h) (fun H locs _ hP _ hk hS => ?_)
      have hP : va_P D vwCl [(am 0, .inr (2, [.int (nI 2), .int (nI now), .int told, .int (nI n), .ref (am 1), .ref (am 2), .ref (am 3), .ref (am 4), .ref (am 5)])), (am 1, .inl (cZ, 8, .inl (fun j => bI (lon (v j))))), (am 2, .inl (cZ, 8, .inl (fun j => bI (lcv (v j))))), (am 3, .inl (cI, 8, .inl (fun j => nI (lbc (v j))))), (am 4, .inl (cI, 32, .inl (fun z => nI (lnu (v (z / 4)) (z % 4))))), (am 5, .inl (cI, 32, .inl (fun z => nI (lof (v (z / 4)) (z % 4)))))] H := hP
      have hD : va_D (AM am) [(am 0, .inr (2, [.int (nI 2), .int (nI now), .int told, .int (nI n), .ref (am 1), .ref (am 2), .ref (am 3), .ref (am 4), .ref (am 5)])), (am 1, .inl (cZ, 8, .inl (fun j => bI (lon (v j))))), (am 2, .inl (cZ, 8, .inl (fun j => bI (lcv (v j))))), (am 3, .inl (cI, 8, .inl (fun j => nI (lbc (v j))))), (am 4, .inl (cI, 32, .inl (fun z => nI (lnu (v (z / 4)) (z % 4))))), (am 5, .inl (cI, 32, .inl (fun z => nI (lof (v (z / 4)) (z % 4)))))] := vd6 hinj
      have hcd : cd3 (lpOk n (nI j)) (prB x && rgOk o x) (decide (lbc (v (ixx (nI j))) < 4)) = 2 := (by rw [c_10, c_23]; rfl)
      have hend : PM D cI cZ am (nI (cd3 (lpOk n (nI j)) (prB x && rgOk o x) (decide (lbc (v (ixx (nI j))) < 4)))) n (now) (told) ((if cd3 (lpOk n (nI j)) (prB x && rgOk o x) (decide (lbc (v (ixx (nI j))) < 4)) = 0 then updv v (ixx (nI j)) (addL (v (ixx (nI j))) (ixx x) (ixx o)) else v)) H := by
        rw [hcd]; exact hP
      refine n_ti (y := (mrI (cd3 (lpOk n (nI j)) (prB x && rgOk o x) (decide (lbc (v (ixx (nI j))) < 4))) (nI (lbc (v (ixx (nI j))))))) (by rw [hcd]; rfl) ?_
      exact W.iret (v := (mrI (cd3 (lpOk n (nI j)) (prB x && rgOk o x) (decide (lbc (v (ixx (nI j))) < 4))) (nI (lbc (v (ixx (nI j))))))) hx hb hr (fun t ht hW => ⟨trivial, rfl, by rw [ht]; exact hend, hS.F ht⟩) hS.2.2 dX2_addBeat_42
    · obtain ⟨z, hz, rfl⟩ := prB_t.mp c_23
      have hz13 := isP_le (NUMf_P hz)
      refine lv_iload_n hx hb dX2_addBeat_26 rfl (lv_at hl 3 rfl) ?_
      refine lv_iconst (v := nI 0) hx hb dX2_addBeat_27 (by decide) ?_
      refine lv_iload_n hx hb dX2_addBeat_28 rfl (lv_at hl 2 rfl) ?_
      refine lv_iconst (v := nI 1) hx hb dX2_addBeat_29 (by decide) ?_
      refine n_isub (v := (nI (NUMf z) - nI 1)) hx hb dX2_addBeat_30 rfl ?_
      refine rS (r := bI (inB (nI 0) (nI (NUMf z) - nI 1) o)) (As := [.int o, .int (nI 0), .int (nI (NUMf z) - nI 1)]) (rest := []) ⟨hx, hb, hml, hown, hts⟩ (c_X2_isIn l D cI cZ cL cJ o (nI 0) (nI (NUMf z) - nI 1)) (va_cwS 3 hts gX2_addBeat_X2_isIn rfl rfl rfl (by decide +kernel) ⟨(Nat.le_of_ble_eq_true rfl), (Nat.le_of_ble_eq_true rfl)⟩) hK ((hEA.kept hS.2.1).narrow (fun _ h => h.elim)) trivial rfl hl.1 rfl (Nat.le_of_ble_eq_true rfl) dX2_addBeat_31 ⟨(Nat.le_of_ble_eq_true rfl), (Nat.le_of_ble_eq_true rfl)⟩ ?_
      refine b_if_ne (b := inB (nI 0) (nI (NUMf z) - nI 1) o) (tgt := 43) hx hb dX2_addBeat_34 (by decide) (fun c_34 => ?_) (fun c_34 => ?_)
      · have hok3 : rgOk o (nI (NUMf z)) = true := by rw [← rg_in (by omega)]; exact c_34
        obtain ⟨y, hy, rfl⟩ := rgOk_j (by omega) hok3
        refine lv_aload_n hx hb dX2_addBeat_43 rfl (lv_at hl 0 rfl) ?_
        refine va_get (D := D) (ci := 2) (v := .ref (am 3)) (C := RX2) (T := TX2) (N := 9) hx hb hts hin2 hown hK hP 0 rfl rfl 6 (by decide) (hts (.fieldLink RX2 16 "LanternPrimesModel" "beats" "[I") (List.mem_of_getElem? (i := 2) rfl)) (fun _ h9 => h9) rfl dX2_addBeat_44 ?_
        refine lv_iload_n hx hb dX2_addBeat_47 rfl (lv_at hl 1 rfl) ?_
        refine n_iald (v := nI (lbc (v j))) (j := j) hx hb hK hP 3 0 rfl rfl (by omega) (by decide) rfl dX2_addBeat_48 ?_
        refine lv_iconst (v := nI 4) hx hb dX2_addBeat_49 (by decide) ?_
        refine n_icmp_ne (a := lbc (v j)) (b := 4) (tgt := 59) hx hb (by omega) (by omega) dX2_addBeat_50 (by decide) (fun c_50 => ?_) (fun c_50 => ?_)
        · refine lv_iconst (v := nI 4) hx hb dX2_addBeat_59 (by decide) ?_
          refine lv_iload_n hx hb dX2_addBeat_60 rfl (lv_at hl 1 rfl) ?_
          refine n_imul (v := nI (4 * j)) hx hb dX2_addBeat_61 (pk_mul _ _) ?_
          refine lv_aload_n hx hb dX2_addBeat_62 rfl (lv_at hl 0 rfl) ?_
          refine va_get (D := D) (ci := 2) (v := .ref (am 3)) (C := RX2) (T := TX2) (N := 9) hx hb hts hin2 hown hK hP 0 rfl rfl 6 (by decide) (hts (.fieldLink RX2 16 "LanternPrimesModel" "beats" "[I") (List.mem_of_getElem? (i := 2) rfl)) (fun _ h9 => h9) rfl dX2_addBeat_63 ?_
          refine lv_iload_n hx hb dX2_addBeat_66 rfl (lv_at hl 1 rfl) ?_
          refine n_iald (v := nI (lbc (v j))) (j := j) hx hb hK hP 3 0 rfl rfl (by omega) (by decide) rfl dX2_addBeat_67 ?_
          refine n_iadd (v := nI ((4 * j) + (lbc (v j)))) hx hb dX2_addBeat_68 (nI_add _ _) ?_
          refine lv_istore (lv' := [(4, .int (nI ((4 * j) + (lbc (v j))))), (0, .ref (am 0)), (1, .int (nI j)), (2, .int (nI (NUMf z))), (3, .int (nI y))]) hx hb dX2_addBeat_69 hl (by decide) rfl (fun ls hl => ?_)
          refine lv_aload_n hx hb dX2_addBeat_71 rfl (lv_at hl 1 rfl) ?_
          refine va_get (D := D) (ci := 2) (v := .ref (am 4)) (C := RX2) (T := TX2) (N := 9) hx hb hts hin2 hown hK hP 0 rfl rfl 7 (by decide) (hts (.fieldLink RX2 20 "LanternPrimesModel" "number" "[I") (List.mem_of_getElem? (i := 3) rfl)) (fun _ h9 => h9) rfl dX2_addBeat_72 ?_
          refine lv_iload hx hb dX2_addBeat_75 (lv_at hl 0 rfl) ?_
          refine lv_iload_n hx hb dX2_addBeat_77 rfl (lv_at hl 3 rfl) ?_
          refine n_iast (f' := fun z_ => nI (if z_ = 4 * j + lbc (v j) then NUMf z else lnu (v (z_ / 4)) (z_ % 4))) (j := (4 * j) + (lbc (v j))) hx hb hK hP hD hS 4 0 rfl rfl (by omega) (by decide) (updI _ _ _) dX2_addBeat_78 (fun H locs hP hD hS => ?_)
          have hP : va_P D vwCl [(am 0, .inr (2, [.int (nI 0), .int (nI now), .int told, .int (nI n), .ref (am 1), .ref (am 2), .ref (am 3), .ref (am 4), .ref (am 5)])), (am 1, .inl (cZ, 8, .inl (fun j => bI (lon (v j))))), (am 2, .inl (cZ, 8, .inl (fun j => bI (lcv (v j))))), (am 3, .inl (cI, 8, .inl (fun j => nI (lbc (v j))))), (am 4, .inl (cI, 32, .inl (fun z_ => nI (if z_ = 4 * j + lbc (v j) then NUMf z else lnu (v (z_ / 4)) (z_ % 4))))), (am 5, .inl (cI, 32, .inl (fun z => nI (lof (v (z / 4)) (z % 4)))))] H := hP
          have hD : va_D (AM am) [(am 0, .inr (2, [.int (nI 0), .int (nI now), .int told, .int (nI n), .ref (am 1), .ref (am 2), .ref (am 3), .ref (am 4), .ref (am 5)])), (am 1, .inl (cZ, 8, .inl (fun j => bI (lon (v j))))), (am 2, .inl (cZ, 8, .inl (fun j => bI (lcv (v j))))), (am 3, .inl (cI, 8, .inl (fun j => nI (lbc (v j))))), (am 4, .inl (cI, 32, .inl (fun z_ => nI (if z_ = 4 * j + lbc (v j) then NUMf z else lnu (v (z_ / 4)) (z_ % 4))))), (am 5, .inl (cI, 32, .inl (fun z => nI (lof (v (z / 4)) (z % 4)))))] := hD
          refine lv_aload_n hx hb dX2_addBeat_79 rfl (lv_at hl 1 rfl) ?_
          refine va_get (D := D) (ci := 2) (v := .ref (am 5)) (C := RX2) (T := TX2) (N := 9) hx hb hts hin2 hown hK hP 0 rfl rfl 8 (by decide) (hts (.fieldLink RX2 23 "LanternPrimesModel" "offset" "[I") (List.mem_of_getElem? (i := 4) rfl)) (fun _ h9 => h9) rfl dX2_addBeat_80 ?_
          refine lv_iload hx hb dX2_addBeat_83 (lv_at hl 0 rfl) ?_
          refine lv_iload_n hx hb dX2_addBeat_85 rfl (lv_at hl 4 rfl) ?_
          refine n_iast (f' := fun z_ => nI (if z_ = 4 * j + lbc (v j) then y else lof (v (z_ / 4)) (z_ % 4))) (j := (4 * j) + (lbc (v j))) hx hb hK hP hD hS 5 0 rfl rfl (by omega) (by decide) (updI _ _ _) dX2_addBeat_86 (fun H locs hP hD hS => ?_)
          have hP : va_P D vwCl [(am 0, .inr (2, [.int (nI 0), .int (nI now), .int told, .int (nI n), .ref (am 1), .ref (am 2), .ref (am 3), .ref (am 4), .ref (am 5)])), (am 1, .inl (cZ, 8, .inl (fun j => bI (lon (v j))))), (am 2, .inl (cZ, 8, .inl (fun j => bI (lcv (v j))))), (am 3, .inl (cI, 8, .inl (fun j => nI (lbc (v j))))), (am 4, .inl (cI, 32, .inl (fun z_ => nI (if z_ = 4 * j + lbc (v j) then NUMf z else lnu (v (z_ / 4)) (z_ % 4))))), (am 5, .inl (cI, 32, .inl (fun z_ => nI (if z_ = 4 * j + lbc (v j) then y else lof (v (z_ / 4)) (z_ % 4)))))] H := hP
          have hD : va_D (AM am) [(am 0, .inr (2, [.int (nI 0), .int (nI now), .int told, .int (nI n), .ref (am 1), .ref (am 2), .ref (am 3), .ref (am 4), .ref (am 5)])), (am 1, .inl (cZ, 8, .inl (fun j => bI (lon (v j))))), (am 2, .inl (cZ, 8, .inl (fun j => bI (lcv (v j))))), (am 3, .inl (cI, 8, .inl (fun j => nI (lbc (v j))))), (am 4, .inl (cI, 32, .inl (fun z_ => nI (if z_ = 4 * j + lbc (v j) then NUMf z else lnu (v (z_ / 4)) (z_ % 4))))), (am 5, .inl (cI, 32, .inl (fun z_ => nI (if z_ = 4 * j + lbc (v j) then y else lof (v (z_ / 4)) (z_ % 4)))))] := hD
          refine lv_aload_n hx hb dX2_addBeat_87 rfl (lv_at hl 1 rfl) ?_
          refine va_get (D := D) (ci := 2) (v := .ref (am 3)) (C := RX2) (T := TX2) (N := 9) hx hb hts hin2 hown hK hP 0 rfl rfl 6 (by decide) (hts (.fieldLink RX2 16 "LanternPrimesModel" "beats" "[I") (List.mem_of_getElem? (i := 2) rfl)) (fun _ h9 => h9) rfl dX2_addBeat_88 ?_
          refine lv_iload_n hx hb dX2_addBeat_91 rfl (lv_at hl 2 rfl) ?_
          refine lv_dup2_11 hx hb dX2_addBeat_92 rfl rfl ?_
          refine n_iald (v := nI (lbc (v j))) (j := j) hx hb hK hP 3 0 rfl rfl (by omega) (by decide) rfl dX2_addBeat_93 ?_
          refine lv_iconst (v := nI 1) hx hb dX2_addBeat_94 (by decide) ?_
          refine n_iadd (v := nI ((lbc (v j)) + 1)) hx hb dX2_addBeat_95 (nI_add _ _) ?_
          refine n_iast (f' := fun i => nI (if i = j then lbc (v j) + 1 else lbc (v i))) (j := j) hx hb hK hP hD hS 3 0 rfl rfl (by omega) (by decide) (updI _ _ _) dX2_addBeat_96 (fun H locs hP hD hS => ?_)
          have hP : va_P D vwCl [(am 0, .inr (2, [.int (nI 0), .int (nI now), .int told, .int (nI n), .ref (am 1), .ref (am 2), .ref (am 3), .ref (am 4), .ref (am 5)])), (am 1, .inl (cZ, 8, .inl (fun j => bI (lon (v j))))), (am 2, .inl (cZ, 8, .inl (fun j => bI (lcv (v j))))), (am 3, .inl (cI, 8, .inl (fun i => nI (if i = j then lbc (v j) + 1 else lbc (v i))))), (am 4, .inl (cI, 32, .inl (fun z_ => nI (if z_ = 4 * j + lbc (v j) then NUMf z else lnu (v (z_ / 4)) (z_ % 4))))), (am 5, .inl (cI, 32, .inl (fun z_ => nI (if z_ = 4 * j + lbc (v j) then y else lof (v (z_ / 4)) (z_ % 4)))))] H := hP
          have hD : va_D (AM am) [(am 0, .inr (2, [.int (nI 0), .int (nI now), .int told, .int (nI n), .ref (am 1), .ref (am 2), .ref (am 3), .ref (am 4), .ref (am 5)])), (am 1, .inl (cZ, 8, .inl (fun j => bI (lon (v j))))), (am 2, .inl (cZ, 8, .inl (fun j => bI (lcv (v j))))), (am 3, .inl (cI, 8, .inl (fun i => nI (if i = j then lbc (v j) + 1 else lbc (v i))))), (am 4, .inl (cI, 32, .inl (fun z_ => nI (if z_ = 4 * j + lbc (v j) then NUMf z else lnu (v (z_ / 4)) (z_ % 4))))), (am 5, .inl (cI, 32, .inl (fun z_ => nI (if z_ = 4 * j + lbc (v j) then y else lof (v (z_ / 4)) (z_ % 4)))))] := hD
          refine lv_aload_n hx hb dX2_addBeat_97 rfl (lv_at hl 1 rfl) ?_
          refine va_get (D := D) (ci := 2) (v := .ref (am 3)) (C := RX2) (T := TX2) (N := 9) hx hb hts hin2 hown hK hP 0 rfl rfl 6 (by decide) (hts (.fieldLink RX2 16 "LanternPrimesModel" "beats" "[I") (List.mem_of_getElem? (i := 2) rfl)) (fun _ h9 => h9) rfl dX2_addBeat_98 ?_
          refine lv_iload_n hx hb dX2_addBeat_101 rfl (lv_at hl 2 rfl) ?_
          refine n_iald (v := nI (lbc (v j) + 1)) (j := j) hx hb hK hP 3 0 rfl rfl (by omega) (by decide) (congrArg nI (if_pos rfl)) dX2_addBeat_102 ?_
          refine lv_iconst (v := nI 1) hx hb dX2_addBeat_103 (by decide) ?_
          refine n_isub (v := nI (lbc (v j))) hx hb dX2_addBeat_104 (by rw [pk_sub (by omega), Nat.add_sub_cancel]) ?_
          have hcd : cd3 (lpOk n (nI j)) (prB (nI (NUMf z)) && rgOk (nI y) (nI (NUMf z))) (decide (lbc (v (ixx (nI j))) < 4)) = 0 := (cd3_t c_10 (and_t c_23 hok3) (by rw [ixx_nI (by omega)]; exact decide_eq_true (by omega)))
          have hend : PM D cI cZ am (nI (cd3 (lpOk n (nI j)) (prB (nI (NUMf z)) && rgOk (nI y) (nI (NUMf z))) (decide (lbc (v (ixx (nI j))) < 4)))) n (now) (told) ((if cd3 (lpOk n (nI j)) (prB (nI (NUMf z)) && rgOk (nI y) (nI (NUMf z))) (decide (lbc (v (ixx (nI j))) < 4)) = 0 then updv v (ixx (nI j)) (addL (v (ixx (nI j))) (ixx (nI (NUMf z))) (ixx (nI y))) else v)) H := by
            rw [hcd]; rw [ixx_nI (by omega), ixx_nI (by omega), ixx_nI (by omega)]; show PM D cI cZ am (nI 0) n now told (updv v j (addL (v j) (NUMf z) y)) H; exact mW_eq (fun w => congrArg bI (updv_s (v := v) (j := j) (L := (addL (v j) (NUMf z) y)) lon rfl w)) (fun w => congrArg bI (updv_s (v := v) (j := j) (L := (addL (v j) (NUMf z) y)) lcv rfl w)) (fun i => congrArg nI (updv_g lbc v j _ i).symm) (fun w => congrArg nI (num_set (L := addL (v j) (NUMf z) y) lnu (by omega) (fun _ => rfl) w)) (fun w => congrArg nI (num_set (L := addL (v j) (NUMf z) y) lof (by omega) (fun _ => rfl) w)) hP
          refine n_ti (y := (mrI (cd3 (lpOk n (nI j)) (prB (nI (NUMf z)) && rgOk (nI y) (nI (NUMf z))) (decide (lbc (v (ixx (nI j))) < 4))) (nI (lbc (v (ixx (nI j))))))) (by rw [hcd, ixx_nI (by omega)]; rfl) ?_
          exact W.iret (v := (mrI (cd3 (lpOk n (nI j)) (prB (nI (NUMf z)) && rgOk (nI y) (nI (NUMf z))) (decide (lbc (v (ixx (nI j))) < 4))) (nI (lbc (v (ixx (nI j))))))) hx hb hr (fun t ht hW => ⟨trivial, rfl, by rw [ht]; exact hend, hS.F ht⟩) hS.2.2 dX2_addBeat_105
        · refine lv_aload_n hx hb dX2_addBeat_53 rfl (lv_at hl 0 rfl) ?_
          refine lv_iconst (v := nI 3) hx hb dX2_addBeat_54 (by decide) ?_
          refine wV (As := [.int (nI 3)]) (rest := []) ⟨hx, hb, hml, hown, hts⟩ (c_X2_no l D cI cZ cL cJ am (nI 0) n now told v ⟨hn8, hnow, hwl⟩ hinj (nI 3)) (cwV 1 hts gX2_addBeat_X2_no rfl rfl rfl (by decide +kernel) ⟨(Nat.le_of_ble_eq_true rfl), (Nat.le_of_ble_eq_true rfl)⟩) hK (hEA.kept hS.2.1) hP (RC_of (q := (RX2, TX2, 9)) (ci := 2) hK rfl (vpa hP 0 rfl)) rfl hl.1 rfl (Nat.le_of_ble_eq_true rfl) dX2_addBeat_55 ⟨(Nat.le_of_ble_eq_true rfl), (Nat.le_of_ble_eq_true rfl)⟩ hS (fun q h => h) (fun H locs _ hP _ hk hS => ?_)
          have hP : va_P D vwCl [(am 0, .inr (2, [.int (nI 3), .int (nI now), .int told, .int (nI n), .ref (am 1), .ref (am 2), .ref (am 3), .ref (am 4), .ref (am 5)])), (am 1, .inl (cZ, 8, .inl (fun j => bI (lon (v j))))), (am 2, .inl (cZ, 8, .inl (fun j => bI (lcv (v j))))), (am 3, .inl (cI, 8, .inl (fun j => nI (lbc (v j))))), (am 4, .inl (cI, 32, .inl (fun z => nI (lnu (v (z / 4)) (z % 4))))), (am 5, .inl (cI, 32, .inl (fun z => nI (lof (v (z / 4)) (z % 4)))))] H := hP
          have hD : va_D (AM am) [(am 0, .inr (2, [.int (nI 3), .int (nI now), .int told, .int (nI n), .ref (am 1), .ref (am 2), .ref (am 3), .ref (am 4), .ref (am 5)])), (am 1, .inl (cZ, 8, .inl (fun j => bI (lon (v j))))), (am 2, .inl (cZ, 8, .inl (fun j => bI (lcv (v j))))), (am 3, .inl (cI, 8, .inl (fun j => nI (lbc (v j))))), (am 4, .inl (cI, 32, .inl (fun z => nI (lnu (v (z / 4)) (z % 4))))), (am 5, .inl (cI, 32, .inl (fun z => nI (lof (v (z / 4)) (z % 4)))))] := vd6 hinj
          have hcd : cd3 (lpOk n (nI j)) (prB (nI (NUMf z)) && rgOk (nI y) (nI (NUMf z))) (decide (lbc (v (ixx (nI j))) < 4)) = 3 := (by rw [c_10, and_t c_23 hok3, ixx_nI (by omega), decide_eq_false (by omega)]; rfl)
          have hend : PM D cI cZ am (nI (cd3 (lpOk n (nI j)) (prB (nI (NUMf z)) && rgOk (nI y) (nI (NUMf z))) (decide (lbc (v (ixx (nI j))) < 4)))) n (now) (told) ((if cd3 (lpOk n (nI j)) (prB (nI (NUMf z)) && rgOk (nI y) (nI (NUMf z))) (decide (lbc (v (ixx (nI j))) < 4)) = 0 then updv v (ixx (nI j)) (addL (v (ixx (nI j))) (ixx (nI (NUMf z))) (ixx (nI y))) else v)) H := by
            rw [hcd]; exact hP
          refine n_ti (y := (mrI (cd3 (lpOk n (nI j)) (prB (nI (NUMf z)) && rgOk (nI y) (nI (NUMf z))) (decide (lbc (v (ixx (nI j))) < 4))) (nI (lbc (v (ixx (nI j))))))) (by rw [hcd]; rfl) ?_
          exact W.iret (v := (mrI (cd3 (lpOk n (nI j)) (prB (nI (NUMf z)) && rgOk (nI y) (nI (NUMf z))) (decide (lbc (v (ixx (nI j))) < 4))) (nI (lbc (v (ixx (nI j))))))) hx hb hr (fun t ht hW => ⟨trivial, rfl, by rw [ht]; exact hend, hS.F ht⟩) hS.2.2 dX2_addBeat_58
      · refine lv_aload_n hx hb dX2_addBeat_37 rfl (lv_at hl 0 rfl) ?_
        refine lv_iconst (v := nI 2) hx hb dX2_addBeat_38 (by decide) ?_
        refine wV (As := [.int (nI 2)]) (rest := []) ⟨hx, hb, hml, hown, hts⟩ (c_X2_no l D cI cZ cL cJ am (nI 0) n now told v ⟨hn8, hnow, hwl⟩ hinj (nI 2)) (cwV 1 hts gX2_addBeat_X2_no rfl rfl rfl (by decide +kernel) ⟨(Nat.le_of_ble_eq_true rfl), (Nat.le_of_ble_eq_true rfl)⟩) hK (hEA.kept hS.2.1) hP (RC_of (q := (RX2, TX2, 9)) (ci := 2) hK rfl (vpa hP 0 rfl)) rfl hl.1 rfl (Nat.le_of_ble_eq_true rfl) dX2_addBeat_39 ⟨(Nat.le_of_ble_eq_true rfl), (Nat.le_of_ble_eq_true rfl)⟩ hS (fun q h => h) (fun H locs _ hP _ hk hS => ?_)
        have hP : va_P D vwCl [(am 0, .inr (2, [.int (nI 2), .int (nI now), .int told, .int (nI n), .ref (am 1), .ref (am 2), .ref (am 3), .ref (am 4), .ref (am 5)])), (am 1, .inl (cZ, 8, .inl (fun j => bI (lon (v j))))), (am 2, .inl (cZ, 8, .inl (fun j => bI (lcv (v j))))), (am 3, .inl (cI, 8, .inl (fun j => nI (lbc (v j))))), (am 4, .inl (cI, 32, .inl (fun z => nI (lnu (v (z / 4)) (z % 4))))), (am 5, .inl (cI, 32, .inl (fun z => nI (lof (v (z / 4)) (z % 4)))))] H := hP
        have hD : va_D (AM am) [(am 0, .inr (2, [.int (nI 2), .int (nI now), .int told, .int (nI n), .ref (am 1), .ref (am 2), .ref (am 3), .ref (am 4), .ref (am 5)])), (am 1, .inl (cZ, 8, .inl (fun j => bI (lon (v j))))), (am 2, .inl (cZ, 8, .inl (fun j => bI (lcv (v j))))), (am 3, .inl (cI, 8, .inl (fun j => nI (lbc (v j))))), (am 4, .inl (cI, 32, .inl (fun z => nI (lnu (v (z / 4)) (z % 4))))), (am 5, .inl (cI, 32, .inl (fun z => nI (lof (v (z / 4)) (z % 4)))))] := vd6 hinj
        have hcd : cd3 (lpOk n (nI j)) (prB (nI (NUMf z)) && rgOk o (nI (NUMf z))) (decide (lbc (v (ixx (nI j))) < 4)) = 2 := (by rw [c_10, ← rg_in (by omega), c_34, Bool.and_false]; rfl)
        have hend : PM D cI cZ am (nI (cd3 (lpOk n (nI j)) (prB (nI (NUMf z)) && rgOk o (nI (NUMf z))) (decide (lbc (v (ixx (nI j))) < 4)))) n (now) (told) ((if cd3 (lpOk n (nI j)) (prB (nI (NUMf z)) && rgOk o (nI (NUMf z))) (decide (lbc (v (ixx (nI j))) < 4)) = 0 then updv v (ixx (nI j)) (addL (v (ixx (nI j))) (ixx (nI (NUMf z))) (ixx o)) else v)) H := by
          rw [hcd]; exact hP
        refine n_ti (y := (mrI (cd3 (lpOk n (nI j)) (prB (nI (NUMf z)) && rgOk o (nI (NUMf z))) (decide (lbc (v (ixx (nI j))) < 4))) (nI (lbc (v (ixx (nI j))))))) (by rw [hcd]; rfl) ?_
        exact W.iret (v := (mrI (cd3 (lpOk n (nI j)) (prB (nI (NUMf z)) && rgOk o (nI (NUMf z))) (decide (lbc (v (ixx (nI j))) < 4))) (nI (lbc (v (ixx (nI j))))))) hx hb hr (fun t ht hW => ⟨trivial, rfl, by rw [ht]; exact hend, hS.F ht⟩) hS.2.2 dX2_addBeat_42
  · refine lv_aload_n hx hb dX2_addBeat_13 rfl (lv_at hl 0 rfl) ?_
    refine lv_iconst (v := nI 1) hx hb dX2_addBeat_14 (by decide) ?_
    refine wV (As := [.int (nI 1)]) (rest := []) ⟨hx, hb, hml, hown, hts⟩ (c_X2_no l D cI cZ cL cJ am (nI 0) n now told v ⟨hn8, hnow, hwl⟩ hinj (nI 1)) (cwV 1 hts gX2_addBeat_X2_no rfl rfl rfl (by decide +kernel) ⟨(Nat.le_of_ble_eq_true rfl), (Nat.le_of_ble_eq_true rfl)⟩) hK (hEA.kept hS.2.1) hP (RC_of (q := (RX2, TX2, 9)) (ci := 2) hK rfl (vpa hP 0 rfl)) rfl hl.1 rfl (Nat.le_of_ble_eq_true rfl) dX2_addBeat_15 ⟨(Nat.le_of_ble_eq_true rfl), (Nat.le_of_ble_eq_true rfl)⟩ hS (fun q h => h) (fun H locs _ hP _ hk hS => ?_)
    have hP : va_P D vwCl [(am 0, .inr (2, [.int (nI 1), .int (nI now), .int told, .int (nI n), .ref (am 1), .ref (am 2), .ref (am 3), .ref (am 4), .ref (am 5)])), (am 1, .inl (cZ, 8, .inl (fun j => bI (lon (v j))))), (am 2, .inl (cZ, 8, .inl (fun j => bI (lcv (v j))))), (am 3, .inl (cI, 8, .inl (fun j => nI (lbc (v j))))), (am 4, .inl (cI, 32, .inl (fun z => nI (lnu (v (z / 4)) (z % 4))))), (am 5, .inl (cI, 32, .inl (fun z => nI (lof (v (z / 4)) (z % 4)))))] H := hP
    have hD : va_D (AM am) [(am 0, .inr (2, [.int (nI 1), .int (nI now), .int told, .int (nI n), .ref (am 1), .ref (am 2), .ref (am 3), .ref (am 4), .ref (am 5)])), (am 1, .inl (cZ, 8, .inl (fun j => bI (lon (v j))))), (am 2, .inl (cZ, 8, .inl (fun j => bI (lcv (v j))))), (am 3, .inl (cI, 8, .inl (fun j => nI (lbc (v j))))), (am 4, .inl (cI, 32, .inl (fun z => nI (lnu (v (z / 4)) (z % 4))))), (am 5, .inl (cI, 32, .inl (fun z => nI (lof (v (z / 4)) (z % 4)))))] := vd6 hinj
    have hcd : cd3 (lpOk n k) (prB x && rgOk o x) (decide (lbc (v (ixx k)) < 4)) = 1 := (by rw [c_10]; rfl)
    have hend : PM D cI cZ am (nI (cd3 (lpOk n k) (prB x && rgOk o x) (decide (lbc (v (ixx k)) < 4)))) n (now) (told) ((if cd3 (lpOk n k) (prB x && rgOk o x) (decide (lbc (v (ixx k)) < 4)) = 0 then updv v (ixx k) (addL (v (ixx k)) (ixx x) (ixx o)) else v)) H := by
      rw [hcd]; exact hP
    refine n_ti (y := (mrI (cd3 (lpOk n k) (prB x && rgOk o x) (decide (lbc (v (ixx k)) < 4))) (nI (lbc (v (ixx k)))))) (by rw [hcd]; rfl) ?_
    exact W.iret (v := (mrI (cd3 (lpOk n k) (prB x && rgOk o x) (decide (lbc (v (ixx k)) < 4))) (nI (lbc (v (ixx k)))))) hx hb hr (fun t ht hW => ⟨trivial, rfl, by rw [ht]; exact hend, hS.F ht⟩) hS.2.2 dX2_addBeat_18
set_option maxHeartbeats 4000000 in
set_option maxRecDepth 100000 in
/-- moveBeat -/
theorem c_X2_moveBeat (l : Launch) (D : va_G) (cI cZ cL cJ : ClassId) (am : Nat → Nat) (th : Int32) (n now : Nat) (told : Int32) (v : Nat → LV) (hwf : WFX n now v) (hinj : Inj 6 am) (k b o : Int32) : Met l yX2_moveBeat wsX2_moveBeat ({ frames := 3, cells := 0, slots := 0, locals := 65 } : Room) (PC D (TY cI cZ cL cJ) (AM am) [.ref (am 0), .int k, .int b, .int o] (fun H => PM D cI cZ am th n now told v H)) (QW (AM am) True ((mrI (cd2 (btOk n v k b) (rgOk o (nI (lnu (v (ixx k)) (ixx b))))) (nI (lof (v (ixx k)) (ixx b))))) (fun H => PM D cI cZ am (nI (cd2 (btOk n v k b) (rgOk o (nI (lnu (v (ixx k)) (ixx b)))))) n (now) (told) ((if cd2 (btOk n v k b) (rgOk o (nI (lnu (v (ixx k)) (ixx b)))) = 0 then updv v (ixx k) (setOf (v (ixx k)) (ixx b) (ixx o)) else v)) H)) 0 0 (AM am) := by
  refine Met.ofW (cc := cX2_moveBeat) (maxL := 6) (ret := (some .int)) (by decide) rfl ?_
  intro p e s m args below meth c s₁ B hml hv
  obtain ⟨rfl, hK, hEA, hP⟩ := hv
  obtain ⟨hn8, hnow, hwl⟩ := hwf
  have hE : EN noA s s.heap := hEA.narrow (fun _ h => h.elim)
  have hS : va_S (AM am) s.heap s.heap [] := va_S.rf
  have hD : va_D (AM am) (mW cI cZ am th n now told v) := vd6 hinj
  have hP : va_P D vwCl (mW cI cZ am th n now told v) s.heap := hP
  have hx := B.exec
  have hb := B.bytes
  have hr := B.returns
  have hts := atoms_spec (ws := wsX2_moveBeat) B.pre
  have hown : s.vm.findClass RX2 = some m.cls := findClass_of_methodNamed B.named
  have hlocks := B.notSynchronized
  have hNF := hE.2.1.1
  have hin2 : ∀ w ∈ wsX20, w ∈ wsX2_moveBeat := by decide +kernel
  have hl := lv_entry ([.ref (am 0), .int k, .int b, .int o]) (n := 6) (Nat.le_of_ble_eq_true rfl)
  rw [lg_entry_eq]
  generalize (lg_sl ([.ref (am 0), .int k, .int b, .int o]) ++ List.replicate (6 - (lg_sl ([.ref (am 0), .int k, .int b, .int o])).length) Slot.unset).toArray = ls at hl ⊢
  have hl : lv_has ls 6 [(0, .ref (am 0)), (1, .int k), (2, .int b), (3, .int o)] := hl
  refine lv_aload_n hx hb dX2_moveBeat_0 rfl (lv_at hl 0 rfl) ?_
  refine lv_iconst (v := nI 0) hx hb dX2_moveBeat_1 (by decide) ?_
  refine va_put (D := D) (ci := 2) (v := .int (nI 0)) (ty := .int) (C := RX2) (T := TX2) (N := 9) hx hb hts hin2 tyX2 tyX2_ok nmX2 hown hK hP hD hS 0 rfl rfl 0 (by decide) (hts (.fieldLink RX2 26 "LanternPrimesModel" "thrown" "I") (List.mem_of_getElem? (i := 1) rfl)) (fun _ h9 => h9) rfl (by decide +kernel) rfl rfl (Nat.le_of_ble_eq_true rfl) dX2_moveBeat_2 (fun H locs hP hD hS => ?_)
  have hP : va_P D vwCl [(am 0, .inr (2, [.int (nI 0), .int (nI now), .int told, .int (nI n), .ref (am 1), .ref (am 2), .ref (am 3), .ref (am 4), .ref (am 5)])), (am 1, .inl (cZ, 8, .inl (fun j => bI (lon (v j))))), (am 2, .inl (cZ, 8, .inl (fun j => bI (lcv (v j))))), (am 3, .inl (cI, 8, .inl (fun j => nI (lbc (v j))))), (am 4, .inl (cI, 32, .inl (fun z => nI (lnu (v (z / 4)) (z % 4))))), (am 5, .inl (cI, 32, .inl (fun z => nI (lof (v (z / 4)) (z % 4)))))] H := hP
  have hD : va_D (AM am) [(am 0, .inr (2, [.int (nI 0), .int (nI now), .int told, .int (nI n), .ref (am 1), .ref (am 2), .ref (am 3), .ref (am 4), .ref (am 5)])), (am 1, .inl (cZ, 8, .inl (fun j => bI (lon (v j))))), (am 2, .inl (cZ, 8, .inl (fun j => bI (lcv (v j))))), (am 3, .inl (cI, 8, .inl (fun j => nI (lbc (v j))))), (am 4, .inl (cI, 32, .inl (fun z => nI (lnu (v (z / 4)) (z % 4))))), (am 5, .inl (cI, 32, .inl (fun z => nI (lof (v (z / 4)) (z % 4)))))] := hD
  refine lv_aload_n hx hb dX2_moveBeat_5 rfl (lv_at hl 0 rfl) ?_
  refine lv_iload_n hx hb dX2_moveBeat_6 rfl (lv_at hl 1 rfl) ?_
  refine lv_iload_n hx hb dX2_moveBeat_7 rfl (lv_at hl 2 rfl) ?_
  refine rV (r := bI (btOk n v k b)) (As := [.int k, .int b]) (rest := []) ⟨hx, hb, hml, hown, hts⟩ (c_X2_isBeat l D cI cZ cL cJ am (nI 0) n now told v ⟨hn8, hnow, hwl⟩ k b) (cwV 2 hts gX2_moveBeat_X2_isBeat rfl rfl rfl (by decide +kernel) ⟨(Nat.le_of_ble_eq_true rfl), (Nat.le_of_ble_eq_true rfl)⟩) hK ((hEA.kept hS.2.1).narrow (fun _ h => h.elim)) hP (RC_of (q := (RX2, TX2, 9)) (ci := 2) hK rfl (vpa hP 0 rfl)) rfl hl.1 rfl (Nat.le_of_ble_eq_true rfl) dX2_moveBeat_8 ⟨(Nat.le_of_ble_eq_true rfl), (Nat.le_of_ble_eq_true rfl)⟩ ?_
  refine b_if_ne (b := btOk n v k b) (tgt := 20) hx hb dX2_moveBeat_11 (by decide) (fun c_11 => ?_) (fun c_11 => ?_)
  · obtain ⟨j, i, hj, hi, rfl, rfl⟩ := btOk_j hn8 hwl c_11
    have hw4 := (hwl j (by omega)).1
    have hni := isP_le ((hwl j (by omega)).2 i hi).1
    have e_ix : lnu (v (ixx (nI j))) (ixx (nI i)) = lnu (v j) i := by rw [ixx_nI (by omega), ixx_nI (by omega)]
    refine lv_iconst (v := nI 4) hx hb dX2_moveBeat_20 (by decide) ?_
    refine lv_iload_n hx hb dX2_moveBeat_21 rfl (lv_at hl 1 rfl) ?_
    refine n_imul (v := nI (4 * j)) hx hb dX2_moveBeat_22 (pk_mul _ _) ?_
    refine lv_iload_n hx hb dX2_moveBeat_23 rfl (lv_at hl 2 rfl) ?_
    refine n_iadd (v := nI ((4 * j) + i)) hx hb dX2_moveBeat_24 (nI_add _ _) ?_
    refine lv_istore (lv' := [(4, .int (nI ((4 * j) + i))), (0, .ref (am 0)), (1, .int (nI j)), (2, .int (nI i)), (3, .int o)]) hx hb dX2_moveBeat_25 hl (by decide) rfl (fun ls hl => ?_)
    refine lv_iload_n hx hb dX2_moveBeat_27 rfl (lv_at hl 4 rfl) ?_
    refine lv_iconst (v := nI 0) hx hb dX2_moveBeat_28 (by decide) ?_
    refine lv_aload_n hx hb dX2_moveBeat_29 rfl (lv_at hl 1 rfl) ?_
    refine va_get (D := D) (ci := 2) (v := .ref (am 4)) (C := RX2) (T := TX2) (N := 9) hx hb hts hin2 hown hK hP 0 rfl rfl 7 (by decide) (hts (.fieldLink RX2 20 "LanternPrimesModel" "number" "[I") (List.mem_of_getElem? (i := 2) rfl)) (fun _ h9 => h9) rfl dX2_moveBeat_30 ?_
    refine lv_iload hx hb dX2_moveBeat_33 (lv_at hl 0 rfl) ?_
    refine n_iald (v := nI (lnu (v j) i)) (j := (4 * j) + i) hx hb hK hP 4 0 rfl rfl (by omega) (by decide) (by show nI (lnu (v ((4 * j + i) / 4)) ((4 * j + i) % 4)) = _; rw [(idx4 (by omega)).1, (idx4 (by omega)).2]) dX2_moveBeat_35 ?_
    refine lv_iconst (v := nI 1) hx hb dX2_moveBeat_36 (by decide) ?_
    refine n_isub (v := (nI (lnu (v j) i) - nI 1)) hx hb dX2_moveBeat_37 rfl ?_
    refine rS (r := bI (inB (nI 0) (nI (lnu (v j) i) - nI 1) o)) (As := [.int o, .int (nI 0), .int (nI (lnu (v j) i) - nI 1)]) (rest := []) ⟨hx, hb, hml, hown, hts⟩ (c_X2_isIn l D cI cZ cL cJ o (nI 0) (nI (lnu (v j) i) - nI 1)) (va_cwS 3 hts gX2_moveBeat_X2_isIn rfl rfl rfl (by decide +kernel) ⟨(Nat.le_of_ble_eq_true rfl), (Nat.le_of_ble_eq_true rfl)⟩) hK ((hEA.kept hS.2.1).narrow (fun _ h => h.elim)) trivial rfl hl.1 rfl (Nat.le_of_ble_eq_true rfl) dX2_moveBeat_38 ⟨(Nat.le_of_ble_eq_true rfl), (Nat.le_of_ble_eq_true rfl)⟩ ?_
    refine b_if_ne (b := inB (nI 0) (nI (lnu (v j) i) - nI 1) o) (tgt := 50) hx hb dX2_moveBeat_41 (by decide) (fun c_41 => ?_) (fun c_41 => ?_)
    · have hok3 : rgOk o (nI (lnu (v j) i)) = true := by rw [← rg_in (by omega)]; exact c_41
      obtain ⟨y, hy, rfl⟩ := rgOk_j (by omega) hok3
      refine lv_aload_n hx hb dX2_moveBeat_50 rfl (lv_at hl 1 rfl) ?_
      refine va_get (D := D) (ci := 2) (v := .ref (am 5)) (C := RX2) (T := TX2) (N := 9) hx hb hts hin2 hown hK hP 0 rfl rfl 8 (by decide) (hts (.fieldLink RX2 23 "LanternPrimesModel" "offset" "[I") (List.mem_of_getElem? (i := 3) rfl)) (fun _ h9 => h9) rfl dX2_moveBeat_51 ?_
      refine lv_iload hx hb dX2_moveBeat_54 (lv_at hl 0 rfl) ?_
      refine n_iald (v := nI (lof (v j) i)) (j := (4 * j) + i) hx hb hK hP 5 0 rfl rfl (by omega) (by decide) (by show nI (lof (v ((4 * j + i) / 4)) ((4 * j + i) % 4)) = _; rw [(idx4 (by omega)).1, (idx4 (by omega)).2]) dX2_moveBeat_56 ?_
      refine lv_istore (lv' := [(5, .int (nI (lof (v j) i))), (4, .int (nI ((4 * j) + i))), (0, .ref (am 0)), (1, .int (nI j)), (2, .int (nI i)), (3, .int (nI y))]) hx hb dX2_moveBeat_57 hl (by decide) rfl (fun ls hl => ?_)
      refine lv_aload_n hx hb dX2_moveBeat_59 rfl (lv_at hl 2 rfl) ?_
      refine va_get (D := D) (ci := 2) (v := .ref (am 5)) (C := RX2) (T := TX2) (N := 9) hx hb hts hin2 hown hK hP 0 rfl rfl 8 (by decide) (hts (.fieldLink RX2 23 "LanternPrimesModel" "offset" "[I") (List.mem_of_getElem? (i := 3) rfl)) (fun _ h9 => h9) rfl dX2_moveBeat_60 ?_
      refine lv_iload hx hb dX2_moveBeat_63 (lv_at hl 1 rfl) ?_
      refine lv_iload_n hx hb dX2_moveBeat_65 rfl (lv_at hl 5 rfl) ?_
      refine n_iast (f' := fun z_ => nI (if z_ = 4 * j + i then y else lof (v (z_ / 4)) (z_ % 4))) (j := (4 * j) + i) hx hb hK hP hD hS 5 0 rfl rfl (by omega) (by decide) (updI _ _ _) dX2_moveBeat_66 (fun H locs hP hD hS => ?_)
      have hP : va_P D vwCl [(am 0, .inr (2, [.int (nI 0), .int (nI now), .int told, .int (nI n), .ref (am 1), .ref (am 2), .ref (am 3), .ref (am 4), .ref (am 5)])), (am 1, .inl (cZ, 8, .inl (fun j => bI (lon (v j))))), (am 2, .inl (cZ, 8, .inl (fun j => bI (lcv (v j))))), (am 3, .inl (cI, 8, .inl (fun j => nI (lbc (v j))))), (am 4, .inl (cI, 32, .inl (fun z => nI (lnu (v (z / 4)) (z % 4))))), (am 5, .inl (cI, 32, .inl (fun z_ => nI (if z_ = 4 * j + i then y else lof (v (z_ / 4)) (z_ % 4)))))] H := hP
      have hD : va_D (AM am) [(am 0, .inr (2, [.int (nI 0), .int (nI now), .int told, .int (nI n), .ref (am 1), .ref (am 2), .ref (am 3), .ref (am 4), .ref (am 5)])), (am 1, .inl (cZ, 8, .inl (fun j => bI (lon (v j))))), (am 2, .inl (cZ, 8, .inl (fun j => bI (lcv (v j))))), (am 3, .inl (cI, 8, .inl (fun j => nI (lbc (v j))))), (am 4, .inl (cI, 32, .inl (fun z => nI (lnu (v (z / 4)) (z % 4))))), (am 5, .inl (cI, 32, .inl (fun z_ => nI (if z_ = 4 * j + i then y else lof (v (z_ / 4)) (z_ % 4)))))] := hD
      refine lv_iload hx hb dX2_moveBeat_67 (lv_at hl 0 rfl) ?_
      have hcd : cd2 (btOk n v (nI j) (nI i)) (rgOk (nI y) (nI (lnu (v (ixx (nI j))) (ixx (nI i))))) = 0 := (cd2_t c_11 (by rw [e_ix]; exact hok3))
      have hend : PM D cI cZ am (nI (cd2 (btOk n v (nI j) (nI i)) (rgOk (nI y) (nI (lnu (v (ixx (nI j))) (ixx (nI i))))))) n (now) (told) ((if cd2 (btOk n v (nI j) (nI i)) (rgOk (nI y) (nI (lnu (v (ixx (nI j))) (ixx (nI i))))) = 0 then updv v (ixx (nI j)) (setOf (v (ixx (nI j))) (ixx (nI i)) (ixx (nI y))) else v)) H := by
        rw [hcd]; rw [ixx_nI (by omega), ixx_nI (by omega), ixx_nI (j := y) (by omega)]; show PM D cI cZ am (nI 0) n now told (updv v j (setOf (v j) i y)) H; exact mW_eq (fun w => congrArg bI (updv_s (v := v) (j := j) (L := (setOf (v j) i y)) lon rfl w)) (fun w => congrArg bI (updv_s (v := v) (j := j) (L := (setOf (v j) i y)) lcv rfl w)) (fun w => congrArg nI (updv_s (v := v) (j := j) (L := (setOf (v j) i y)) lbc rfl w)) (fun w => congrArg nI (updv_s (v := v) (j := j) (L := (setOf (v j) i y)) (fun L => lnu L (w % 4)) rfl (w / 4))) (fun w => congrArg nI (num_set (L := setOf (v j) i y) lof (by omega) (fun _ => rfl) w)) hP
      refine n_ti (y := (mrI (cd2 (btOk n v (nI j) (nI i)) (rgOk (nI y) (nI (lnu (v (ixx (nI j))) (ixx (nI i)))))) (nI (lof (v (ixx (nI j))) (ixx (nI i)))))) (by rw [hcd, ixx_nI (by omega), ixx_nI (by omega)]; rfl) ?_
      exact W.iret (v := (mrI (cd2 (btOk n v (nI j) (nI i)) (rgOk (nI y) (nI (lnu (v (ixx (nI j))) (ixx (nI i)))))) (nI (lof (v (ixx (nI j))) (ixx (nI i)))))) hx hb hr (fun t ht hW => ⟨trivial, rfl, by rw [ht]; exact hend, hS.F ht⟩) hS.2.2 dX2_moveBeat_69
    · refine lv_aload_n hx hb dX2_moveBeat_44 rfl (lv_at hl 1 rfl) ?_
      refine lv_iconst (v := nI 2) hx hb dX2_moveBeat_45 (by decide) ?_
      refine wV (As := [.int (nI 2)]) (rest := []) ⟨hx, hb, hml, hown, hts⟩ (c_X2_no l D cI cZ cL cJ am (nI 0) n now told v ⟨hn8, hnow, hwl⟩ hinj (nI 2)) (cwV 1 hts gX2_moveBeat_X2_no rfl rfl rfl (by decide +kernel) ⟨(Nat.le_of_ble_eq_true rfl), (Nat.le_of_ble_eq_true rfl)⟩) hK (hEA.kept hS.2.1) hP (RC_of (q := (RX2, TX2, 9)) (ci := 2) hK rfl (vpa hP 0 rfl)) rfl hl.1 rfl (Nat.le_of_ble_eq_true rfl) dX2_moveBeat_46 ⟨(Nat.le_of_ble_eq_true rfl), (Nat.le_of_ble_eq_true rfl)⟩ hS (fun q h => h) (fun H locs _ hP _ hk hS => ?_)
      have hP : va_P D vwCl [(am 0, .inr (2, [.int (nI 2), .int (nI now), .int told, .int (nI n), .ref (am 1), .ref (am 2), .ref (am 3), .ref (am 4), .ref (am 5)])), (am 1, .inl (cZ, 8, .inl (fun j => bI (lon (v j))))), (am 2, .inl (cZ, 8, .inl (fun j => bI (lcv (v j))))), (am 3, .inl (cI, 8, .inl (fun j => nI (lbc (v j))))), (am 4, .inl (cI, 32, .inl (fun z => nI (lnu (v (z / 4)) (z % 4))))), (am 5, .inl (cI, 32, .inl (fun z => nI (lof (v (z / 4)) (z % 4)))))] H := hP
      have hD : va_D (AM am) [(am 0, .inr (2, [.int (nI 2), .int (nI now), .int told, .int (nI n), .ref (am 1), .ref (am 2), .ref (am 3), .ref (am 4), .ref (am 5)])), (am 1, .inl (cZ, 8, .inl (fun j => bI (lon (v j))))), (am 2, .inl (cZ, 8, .inl (fun j => bI (lcv (v j))))), (am 3, .inl (cI, 8, .inl (fun j => nI (lbc (v j))))), (am 4, .inl (cI, 32, .inl (fun z => nI (lnu (v (z / 4)) (z % 4))))), (am 5, .inl (cI, 32, .inl (fun z => nI (lof (v (z / 4)) (z % 4)))))] := vd6 hinj
      have hcd : cd2 (btOk n v (nI j) (nI i)) (rgOk o (nI (lnu (v (ixx (nI j))) (ixx (nI i))))) = 2 := (by rw [c_11, e_ix, ← rg_in (by omega), c_41]; rfl)
      have hend : PM D cI cZ am (nI (cd2 (btOk n v (nI j) (nI i)) (rgOk o (nI (lnu (v (ixx (nI j))) (ixx (nI i))))))) n (now) (told) ((if cd2 (btOk n v (nI j) (nI i)) (rgOk o (nI (lnu (v (ixx (nI j))) (ixx (nI i))))) = 0 then updv v (ixx (nI j)) (setOf (v (ixx (nI j))) (ixx (nI i)) (ixx o)) else v)) H := by
        rw [hcd]; exact hP
      refine n_ti (y := (mrI (cd2 (btOk n v (nI j) (nI i)) (rgOk o (nI (lnu (v (ixx (nI j))) (ixx (nI i)))))) (nI (lof (v (ixx (nI j))) (ixx (nI i)))))) (by rw [hcd]; rfl) ?_
      exact W.iret (v := (mrI (cd2 (btOk n v (nI j) (nI i)) (rgOk o (nI (lnu (v (ixx (nI j))) (ixx (nI i)))))) (nI (lof (v (ixx (nI j))) (ixx (nI i)))))) hx hb hr (fun t ht hW => ⟨trivial, rfl, by rw [ht]; exact hend, hS.F ht⟩) hS.2.2 dX2_moveBeat_49
  · refine lv_aload_n hx hb dX2_moveBeat_14 rfl (lv_at hl 0 rfl) ?_
    refine lv_iconst (v := nI 1) hx hb dX2_moveBeat_15 (by decide) ?_
    refine wV (As := [.int (nI 1)]) (rest := []) ⟨hx, hb, hml, hown, hts⟩ (c_X2_no l D cI cZ cL cJ am (nI 0) n now told v ⟨hn8, hnow, hwl⟩ hinj (nI 1)) (cwV 1 hts gX2_moveBeat_X2_no rfl rfl rfl (by decide +kernel) ⟨(Nat.le_of_ble_eq_true rfl), (Nat.le_of_ble_eq_true rfl)⟩) hK (hEA.kept hS.2.1) hP (RC_of (q := (RX2, TX2, 9)) (ci := 2) hK rfl (vpa hP 0 rfl)) rfl hl.1 rfl (Nat.le_of_ble_eq_true rfl) dX2_moveBeat_16 ⟨(Nat.le_of_ble_eq_true rfl), (Nat.le_of_ble_eq_true rfl)⟩ hS (fun q h => h) (fun H locs _ hP _ hk hS => ?_)
    have hP : va_P D vwCl [(am 0, .inr (2, [.int (nI 1), .int (nI now), .int told, .int (nI n), .ref (am 1), .ref (am 2), .ref (am 3), .ref (am 4), .ref (am 5)])), (am 1, .inl (cZ, 8, .inl (fun j => bI (lon (v j))))), (am 2, .inl (cZ, 8, .inl (fun j => bI (lcv (v j))))), (am 3, .inl (cI, 8, .inl (fun j => nI (lbc (v j))))), (am 4, .inl (cI, 32, .inl (fun z => nI (lnu (v (z / 4)) (z % 4))))), (am 5, .inl (cI, 32, .inl (fun z => nI (lof (v (z / 4)) (z % 4)))))] H := hP
    have hD : va_D (AM am) [(am 0, .inr (2, [.int (nI 1), .int (nI now), .int told, .int (nI n), .ref (am 1), .ref (am 2), .ref (am 3), .ref (am 4), .ref (am 5)])), (am 1, .inl (cZ, 8, .inl (fun j => bI (lon (v j))))), (am 2, .inl (cZ, 8, .inl (fun j => bI (lcv (v j))))), (am 3, .inl (cI, 8, .inl (fun j => nI (lbc (v j))))), (am 4, .inl (cI, 32, .inl (fun z => nI (lnu (v (z / 4)) (z % 4))))), (am 5, .inl (cI, 32, .inl (fun z => nI (lof (v (z / 4)) (z % 4)))))] := vd6 hinj
    have hcd : cd2 (btOk n v k b) (rgOk o (nI (lnu (v (ixx k)) (ixx b)))) = 1 := (by rw [c_11]; rfl)
    have hend : PM D cI cZ am (nI (cd2 (btOk n v k b) (rgOk o (nI (lnu (v (ixx k)) (ixx b)))))) n (now) (told) ((if cd2 (btOk n v k b) (rgOk o (nI (lnu (v (ixx k)) (ixx b)))) = 0 then updv v (ixx k) (setOf (v (ixx k)) (ixx b) (ixx o)) else v)) H := by
      rw [hcd]; exact hP
    refine n_ti (y := (mrI (cd2 (btOk n v k b) (rgOk o (nI (lnu (v (ixx k)) (ixx b))))) (nI (lof (v (ixx k)) (ixx b))))) (by rw [hcd]; rfl) ?_
    exact W.iret (v := (mrI (cd2 (btOk n v k b) (rgOk o (nI (lnu (v (ixx k)) (ixx b))))) (nI (lof (v (ixx k)) (ixx b))))) hx hb hr (fun t ht hW => ⟨trivial, rfl, by rw [ht]; exact hend, hS.F ht⟩) hS.2.2 dX2_moveBeat_19
