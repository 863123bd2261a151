set_option maxHeartbeats 4000000 in
set_option maxRecDepth 100000 in
/-- thrown -/
theorem c_X2_thrown (l : Launch) (D : va_G) (cI cZ cL cJ : ClassId) (am : Nat → Nat) (th : Int32) (n now : Nat) (told : Int32) (v : Nat → LV) (hwf : WFX n now v) : Met l yX2_thrown wsX2_thrown ({ frames := 0, cells := 0, slots := 0, locals := 0 } : Room) (PC D (TY cI cZ cL cJ) noA [.ref (am 0)] (fun H => PM D cI cZ am th n now told v H)) (QcRead (th)) 0 0 (fun _ => False) := by
  refine Met.ofW (cc := cX2_thrown) (maxL := 1) (ret := (some .int)) (by decide) rfl ?_
  intro p e s m args below meth c s₁ B hml hv
  obtain ⟨rfl, hK, hE, hP⟩ := hv
  obtain ⟨hn8, hnow, hwl⟩ := hwf
  have hx := B.exec
  have hb := B.bytes
  have hr := B.returns
  have hts := atoms_spec (ws := wsX2_thrown) B.pre
  have hown : s.vm.findClass RX2 = some m.cls := findClass_of_methodNamed B.named
  have hlocks := B.notSynchronized
  have hNF := hE.2.1.1
  have hin2 : ∀ w ∈ wsX20, w ∈ wsX2_thrown := by decide +kernel
  have hl := lv_entry ([.ref (am 0)]) (n := 1) (Nat.le_of_ble_eq_true rfl)
  rw [lg_entry_eq]
  generalize (lg_sl ([.ref (am 0)]) ++ List.replicate (1 - (lg_sl ([.ref (am 0)])).length) Slot.unset).toArray = ls at hl ⊢
  have hl : lv_has ls 1 [(0, .ref (am 0))] := hl
  refine lv_aload_n hx hb dX2_thrown_0 rfl (lv_at hl 0 rfl) ?_
  refine va_get (D := D) (ci := 2) (v := .int th) (C := RX2) (T := TX2) (N := 9) hx hb hts hin2 hown hK hP 0 rfl rfl 0 (by decide) (hts (.fieldLink RX2 26 "LanternPrimesModel" "thrown" "I") (List.mem_of_getElem? (i := 1) rfl)) (fun _ h9 => h9) rfl dX2_thrown_1 ?_
  exact W.iret (v := th) hx hb hr (fun t ht hW => ⟨rfl, ht⟩) (fun _ h => by cases h) dX2_thrown_4
set_option maxHeartbeats 4000000 in
set_option maxRecDepth 100000 in
/-- X2_no -/
theorem c_X2_no (l : Launch) (D : va_G) (cI cZ cL cJ : ClassId) (am : Nat → Nat) (th : Int32) (n now : Nat) (told : Int32) (v : Nat → LV) (hwf : WFX n now v) (hinj : Inj 6 am) (x : Int32) : Met l yX2_no wsX2_no ({ frames := 0, cells := 0, slots := 0, locals := 0 } : Room) (PC D (TY cI cZ cL cJ) (AM am) [.ref (am 0), .int x] (fun H => PM D cI cZ am th n now told v H)) (QW (AM am) True (nI 0) (fun H => PM D cI cZ am x n now told v H)) 0 0 (AM am) := by
  refine Met.ofW (cc := cX2_no) (maxL := 2) (ret := (some .int)) (by decide) rfl ?_
  intro p e s m args below meth c s₁ B hml hv
  obtain ⟨rfl, hK, hEA, hP⟩ := hv
  obtain ⟨hn8, hnow, hwl⟩ := hwf
  have hE : EN noA s s.heap := hEA.narrow (fun _ h => h.elim)
  have hS : va_S (AM am) s.heap s.heap [] := va_S.rf
  have hD : va_D (AM am) (mW cI cZ am th n now told v) := vd6 hinj
  have hP : va_P D vwCl (mW cI cZ am th n now told v) s.heap := hP
  have hx := B.exec
  have hb := B.bytes
  have hr := B.returns
  have hts := atoms_spec (ws := wsX2_no) B.pre
  have hown : s.vm.findClass RX2 = some m.cls := findClass_of_methodNamed B.named
  have hlocks := B.notSynchronized
  have hNF := hE.2.1.1
  have hin2 : ∀ w ∈ wsX20, w ∈ wsX2_no := by decide +kernel
  have hl := lv_entry ([.ref (am 0), .int x]) (n := 2) (Nat.le_of_ble_eq_true rfl)
  rw [lg_entry_eq]
  generalize (lg_sl ([.ref (am 0), .int x]) ++ List.replicate (2 - (lg_sl ([.ref (am 0), .int x])).length) Slot.unset).toArray = ls at hl ⊢
  have hl : lv_has ls 2 [(0, .ref (am 0)), (1, .int x)] := hl
  refine lv_aload_n hx hb dX2_no_0 rfl (lv_at hl 0 rfl) ?_
  refine lv_iload_n hx hb dX2_no_1 rfl (lv_at hl 1 rfl) ?_
  refine va_put (D := D) (ci := 2) (v := .int x) (ty := .int) (C := RX2) (T := TX2) (N := 9) hx hb hts hin2 tyX2 tyX2_ok nmX2 hown hK hP hD hS 0 rfl rfl 0 (by decide) (hts (.fieldLink RX2 26 "LanternPrimesModel" "thrown" "I") (List.mem_of_getElem? (i := 1) rfl)) (fun _ h9 => h9) rfl (by decide +kernel) rfl rfl (Nat.le_of_ble_eq_true rfl) dX2_no_2 (fun H locs hP hD hS => ?_)
  have hP : va_P D vwCl [(am 0, .inr (2, [.int x, .int (nI now), .int told, .int (nI n), .ref (am 1), .ref (am 2), .ref (am 3), .ref (am 4), .ref (am 5)])), (am 1, .inl (cZ, 8, .inl (fun j => bI (lon (v j))))), (am 2, .inl (cZ, 8, .inl (fun j => bI (lcv (v j))))), (am 3, .inl (cI, 8, .inl (fun j => nI (lbc (v j))))), (am 4, .inl (cI, 32, .inl (fun z => nI (lnu (v (z / 4)) (z % 4))))), (am 5, .inl (cI, 32, .inl (fun z => nI (lof (v (z / 4)) (z % 4)))))] H := hP
  have hD : va_D (AM am) [(am 0, .inr (2, [.int x, .int (nI now), .int told, .int (nI n), .ref (am 1), .ref (am 2), .ref (am 3), .ref (am 4), .ref (am 5)])), (am 1, .inl (cZ, 8, .inl (fun j => bI (lon (v j))))), (am 2, .inl (cZ, 8, .inl (fun j => bI (lcv (v j))))), (am 3, .inl (cI, 8, .inl (fun j => nI (lbc (v j))))), (am 4, .inl (cI, 32, .inl (fun z => nI (lnu (v (z / 4)) (z % 4))))), (am 5, .inl (cI, 32, .inl (fun z => nI (lof (v (z / 4)) (z % 4)))))] := hD
  refine lv_iconst (v := nI 0) hx hb dX2_no_5 (by decide) ?_
  exact W.iret (v := nI 0) hx hb hr (fun t ht hW => ⟨trivial, rfl, by rw [ht]; exact hP, hS.F ht⟩) hS.2.2 dX2_no_6
set_option maxHeartbeats 4000000 in
set_option maxRecDepth 100000 in
/-- X2_isNot -/
theorem c_X2_isNot (l : Launch) (D : va_G) (cI cZ cL cJ : ClassId) (am : Nat → Nat) (th : Int32) (n now : Nat) (told : Int32) (v : Nat → LV) (hwf : WFX n now v) (hinj : Inj 6 am) (x : Int32) : Met l yX2_isNot wsX2_isNot ({ frames := 0, cells := 0, slots := 0, locals := 0 } : Room) (PC D (TY cI cZ cL cJ) (AM am) [.ref (am 0), .int x] (fun H => PM D cI cZ am th n now told v H)) (QW (AM am) True (nI 0) (fun H => PM D cI cZ am x n now told v H)) 0 0 (AM am) := by
  refine Met.ofW (cc := cX2_isNot) (maxL := 2) (ret := (some .boolean)) (by decide) rfl ?_
  intro p e s m args below meth c s₁ B hml hv
  obtain ⟨rfl, hK, hEA, hP⟩ := hv
  obtain ⟨hn8, hnow, hwl⟩ := hwf
  have hE : EN noA s s.heap := hEA.narrow (fun _ h => h.elim)
  have hS : va_S (AM am) s.heap s.heap [] := va_S.rf
  have hD : va_D (AM am) (mW cI cZ am th n now told v) := vd6 hinj
  have hP : va_P D vwCl (mW cI cZ am th n now told v) s.heap := hP
  have hx := B.exec
  have hb := B.bytes
  have hr := B.returns
  have hts := atoms_spec (ws := wsX2_isNot) B.pre
  have hown : s.vm.findClass RX2 = some m.cls := findClass_of_methodNamed B.named
  have hlocks := B.notSynchronized
  have hNF := hE.2.1.1
  have hin2 : ∀ w ∈ wsX20, w ∈ wsX2_isNot := by decide +kernel
  have hl := lv_entry ([.ref (am 0), .int x]) (n := 2) (Nat.le_of_ble_eq_true rfl)
  rw [lg_entry_eq]
  generalize (lg_sl ([.ref (am 0), .int x]) ++ List.replicate (2 - (lg_sl ([.ref (am 0), .int x])).length) Slot.unset).toArray = ls at hl ⊢
  have hl : lv_has ls 2 [(0, .ref (am 0)), (1, .int x)] := hl
  refine lv_aload_n hx hb dX2_isNot_0 rfl (lv_at hl 0 rfl) ?_
  refine lv_iload_n hx hb dX2_isNot_1 rfl (lv_at hl 1 rfl) ?_
  refine va_put (D := D) (ci := 2) (v := .int x) (ty := .int) (C := RX2) (T := TX2) (N := 9) hx hb hts hin2 tyX2 tyX2_ok nmX2 hown hK hP hD hS 0 rfl rfl 0 (by decide) (hts (.fieldLink RX2 26 "LanternPrimesModel" "thrown" "I") (List.mem_of_getElem? (i := 1) rfl)) (fun _ h9 => h9) rfl (by decide +kernel) rfl rfl (Nat.le_of_ble_eq_true rfl) dX2_isNot_2 (fun H locs hP hD hS => ?_)
  have hP : va_P D vwCl [(am 0, .inr (2, [.int x, .int (nI now), .int told, .int (nI n), .ref (am 1), .ref (am 2), .ref (am 3), .ref (am 4), .ref (am 5)])), (am 1, .inl (cZ, 8, .inl (fun j => bI (lon (v j))))), (am 2, .inl (cZ, 8, .inl (fun j => bI (lcv (v j))))), (am 3, .inl (cI, 8, .inl (fun j => nI (lbc (v j))))), (am 4, .inl (cI, 32, .inl (fun z => nI (lnu (v (z / 4)) (z % 4))))), (am 5, .inl (cI, 32, .inl (fun z => nI (lof (v (z / 4)) (z % 4)))))] H := hP
  have hD : va_D (AM am) [(am 0, .inr (2, [.int x, .int (nI now), .int told, .int (nI n), .ref (am 1), .ref (am 2), .ref (am 3), .ref (am 4), .ref (am 5)])), (am 1, .inl (cZ, 8, .inl (fun j => bI (lon (v j))))), (am 2, .inl (cZ, 8, .inl (fun j => bI (lcv (v j))))), (am 3, .inl (cI, 8, .inl (fun j => nI (lbc (v j))))), (am 4, .inl (cI, 32, .inl (fun z => nI (lnu (v (z / 4)) (z % 4))))), (am 5, .inl (cI, 32, .inl (fun z => nI (lof (v (z / 4)) (z % 4)))))] := hD
  refine lv_iconst (v := nI 0) hx hb dX2_isNot_5 (by decide) ?_
  exact W.zret (v := nI 0) hx hb hr rfl (fun t ht hW => ⟨trivial, rfl, by rw [ht]; exact hP, hS.F ht⟩) hS.2.2 dX2_isNot_6
set_option maxHeartbeats 4000000 in
set_option maxRecDepth 100000 in
/-- beatsOf -/
theorem c_X2_beatsOf (l : Launch) (D : va_G) (cI cZ cL cJ : ClassId) (am : Nat → Nat) (th : Int32) (n now : Nat) (told : Int32) (v : Nat → LV) (hwf : WFX n now v) (hinj : Inj 6 am) (k : Int32) : Met l yX2_beatsOf wsX2_beatsOf ({ frames := 2, cells := 0, slots := 0, locals := 43 } : Room) (PC D (TY cI cZ cL cJ) (AM am) [.ref (am 0), .int k] (fun H => PM D cI cZ am th n now told v H)) (QW (AM am) True ((mrI (cd1 (lpOk n k)) (nI (lbc (v (ixx k)))))) (fun H => PM D cI cZ am (nI (cd1 (lpOk n k))) n (now) (told) (v) H)) 0 0 (AM am) := by
  refine Met.ofW (cc := cX2_beatsOf) (maxL := 2) (ret := (some .int)) (by decide) rfl ?_
  intro p e s m args below meth c s₁ B hml hv
  obtain ⟨rfl, hK, hEA, hP⟩ := hv
  obtain ⟨hn8, hnow, hwl⟩ := hwf
  have hE : EN noA s s.heap := hEA.narrow (fun _ h => h.elim)
  have hS : va_S (AM am) s.heap s.heap [] := va_S.rf
  have hD : va_D (AM am) (mW cI cZ am th n now told v) := vd6 hinj
  have hP : va_P D vwCl (mW cI cZ am th n now told v) s.heap := hP
  have hx := B.exec
  have hb := B.bytes
  have hr := B.returns
  have hts := atoms_spec (ws := wsX2_beatsOf) B.pre
  have hown : s.vm.findClass RX2 = some m.cls := findClass_of_methodNamed B.named
  have hlocks := B.notSynchronized
  have hNF := hE.2.1.1
  have hin2 : ∀ w ∈ wsX20, w ∈ wsX2_beatsOf := by decide +kernel
  have hl := lv_entry ([.ref (am 0), .int k]) (n := 2) (Nat.le_of_ble_eq_true rfl)
  rw [lg_entry_eq]
  generalize (lg_sl ([.ref (am 0), .int k]) ++ List.replicate (2 - (lg_sl ([.ref (am 0), .int k])).length) Slot.unset).toArray = ls at hl ⊢
  have hl : lv_has ls 2 [(0, .ref (am 0)), (1, .int k)] := hl
  refine lv_aload_n hx hb dX2_beatsOf_0 rfl (lv_at hl 0 rfl) ?_
  refine lv_iconst (v := nI 0) hx hb dX2_beatsOf_1 (by decide) ?_
  refine va_put (D := D) (ci := 2) (v := .int (nI 0)) (ty := .int) (C := RX2) (T := TX2) (N := 9) hx hb hts hin2 tyX2 tyX2_ok nmX2 hown hK hP hD hS 0 rfl rfl 0 (by decide) (hts (.fieldLink RX2 26 "LanternPrimesModel" "thrown" "I") (List.mem_of_getElem? (i := 1) rfl)) (fun _ h9 => h9) rfl (by decide +kernel) rfl rfl (Nat.le_of_ble_eq_true rfl) dX2_beatsOf_2 (fun H locs hP hD hS => ?_)
  have hP : va_P D vwCl [(am 0, .inr (2, [.int (nI 0), .int (nI now), .int told, .int (nI n), .ref (am 1), .ref (am 2), .ref (am 3), .ref (am 4), .ref (am 5)])), (am 1, .inl (cZ, 8, .inl (fun j => bI (lon (v j))))), (am 2, .inl (cZ, 8, .inl (fun j => bI (lcv (v j))))), (am 3, .inl (cI, 8, .inl (fun j => nI (lbc (v j))))), (am 4, .inl (cI, 32, .inl (fun z => nI (lnu (v (z / 4)) (z % 4))))), (am 5, .inl (cI, 32, .inl (fun z => nI (lof (v (z / 4)) (z % 4)))))] H := hP
  have hD : va_D (AM am) [(am 0, .inr (2, [.int (nI 0), .int (nI now), .int told, .int (nI n), .ref (am 1), .ref (am 2), .ref (am 3), .ref (am 4), .ref (am 5)])), (am 1, .inl (cZ, 8, .inl (fun j => bI (lon (v j))))), (am 2, .inl (cZ, 8, .inl (fun j => bI (lcv (v j))))), (am 3, .inl (cI, 8, .inl (fun j => nI (lbc (v j))))), (am 4, .inl (cI, 32, .inl (fun z => nI (lnu (v (z / 4)) (z % 4))))), (am 5, .inl (cI, 32, .inl (fun z => nI (lof (v (z / 4)) (z % 4)))))] := hD
  refine lv_aload_n hx hb dX2_beatsOf_5 rfl (lv_at hl 0 rfl) ?_
  refine lv_iload_n hx hb dX2_beatsOf_6 rfl (lv_at hl 1 rfl) ?_
  refine rV (r := bI (lpOk n k)) (As := [.int k]) (rest := []) ⟨hx, hb, hml, hown, hts⟩ (c_X2_isLamp l D cI cZ cL cJ am (nI 0) n now told v ⟨hn8, hnow, hwl⟩ k) (cwV 1 hts gX2_beatsOf_X2_isLamp rfl rfl rfl (by decide +kernel) ⟨(Nat.le_of_ble_eq_true rfl), (Nat.le_of_ble_eq_true rfl)⟩) hK ((hEA.kept hS.2.1).narrow (fun _ h => h.elim)) hP (RC_of (q := (RX2, TX2, 9)) (ci := 2) hK rfl (vpa hP 0 rfl)) rfl hl.1 rfl (Nat.le_of_ble_eq_true rfl) dX2_beatsOf_7 ⟨(Nat.le_of_ble_eq_true rfl), (Nat.le_of_ble_eq_true rfl)⟩ ?_
  refine b_if_eq (b := lpOk n k) (tgt := 22) hx hb dX2_beatsOf_10 (by decide) (fun c_10 => ?_) (fun c_10 => ?_)
  · refine lv_aload_n hx hb dX2_beatsOf_22 rfl (lv_at hl 0 rfl) ?_
    refine lv_iconst (v := nI 1) hx hb dX2_beatsOf_23 (by decide) ?_
    refine wV (As := [.int (nI 1)]) (rest := []) ⟨hx, hb, hml, hown, hts⟩ (c_X2_no l D cI cZ cL cJ am (nI 0) n now told v ⟨hn8, hnow, hwl⟩ hinj (nI 1)) (cwV 1 hts gX2_beatsOf_X2_no rfl rfl rfl (by decide +kernel) ⟨(Nat.le_of_ble_eq_true rfl), (Nat.le_of_ble_eq_true rfl)⟩) hK (hEA.kept hS.2.1) hP (RC_of (q := (RX2, TX2, 9)) (ci := 2) hK rfl (vpa hP 0 rfl)) rfl hl.1 rfl (Nat.le_of_ble_eq_true rfl) dX2_beatsOf_24 ⟨(Nat.le_of_ble_eq_true rfl), (Nat.le_of_ble_eq_true rfl)⟩ hS (fun q h => h) (fun H locs _ hP _ hk hS => ?_)
    have hP : va_P D vwCl [(am 0, .inr (2, [.int (nI 1), .int (nI now), .int told, .int (nI n), .ref (am 1), .ref (am 2), .ref (am 3), .ref (am 4), .ref (am 5)])), (am 1, .inl (cZ, 8, .inl (fun j => bI (lon (v j))))), (am 2, .inl (cZ, 8, .inl (fun j => bI (lcv (v j))))), (am 3, .inl (cI, 8, .inl (fun j => nI (lbc (v j))))), (am 4, .inl (cI, 32, .inl (fun z => nI (lnu (v (z / 4)) (z % 4))))), (am 5, .inl (cI, 32, .inl (fun z => nI (lof (v (z / 4)) (z % 4)))))] H := hP
    have hD : va_D (AM am) [(am 0, .inr (2, [.int (nI 1), .int (nI now), .int told, .int (nI n), .ref (am 1), .ref (am 2), .ref (am 3), .ref (am 4), .ref (am 5)])), (am 1, .inl (cZ, 8, .inl (fun j => bI (lon (v j))))), (am 2, .inl (cZ, 8, .inl (fun j => bI (lcv (v j))))), (am 3, .inl (cI, 8, .inl (fun j => nI (lbc (v j))))), (am 4, .inl (cI, 32, .inl (fun z => nI (lnu (v (z / 4)) (z % 4))))), (am 5, .inl (cI, 32, .inl (fun z => nI (lof (v (z / 4)) (z % 4)))))] := vd6 hinj
    have hcd : cd1 (lpOk n k) = 1 := (by rw [c_10]; rfl)
    have hend : PM D cI cZ am (nI (cd1 (lpOk n k))) n (now) (told) (v) H := by
      rw [hcd]; exact hP
    refine n_ti (y := (mrI (cd1 (lpOk n k)) (nI (lbc (v (ixx k)))))) (by rw [hcd]; rfl) ?_
    exact W.iret (v := (mrI (cd1 (lpOk n k)) (nI (lbc (v (ixx k)))))) hx hb hr (fun t ht hW => ⟨trivial, rfl, by rw [ht]; exact hend, hS.F ht⟩) hS.2.2 dX2_beatsOf_27
  · obtain ⟨j, hj, rfl⟩ := lpOk_j (by omega) c_10
    refine lv_aload_n hx hb dX2_beatsOf_13 rfl (lv_at hl 0 rfl) ?_
    refine va_get (D := D) (ci := 2) (v := .ref (am 3)) (C := RX2) (T := TX2) (N := 9) hx hb hts hin2 hown hK hP 0 rfl rfl 6 (by decide) (hts (.fieldLink RX2 16 "LanternPrimesModel" "beats" "[I") (List.mem_of_getElem? (i := 2) rfl)) (fun _ h9 => h9) rfl dX2_beatsOf_14 ?_
    refine lv_iload_n hx hb dX2_beatsOf_17 rfl (lv_at hl 1 rfl) ?_
    refine n_iald (v := nI (lbc (v j))) (j := j) hx hb hK hP 3 0 rfl rfl (by omega) (by decide) rfl dX2_beatsOf_18 ?_
    refine lv_goto (tgt := 27) hx hb dX2_beatsOf_19 (by decide) ?_
    have hcd : cd1 (lpOk n (nI j)) = 0 := (cd1_t c_10)
    have hend : PM D cI cZ am (nI (cd1 (lpOk n (nI j)))) n (now) (told) (v) H := by
      rw [hcd]; exact hP
    refine n_ti (y := (mrI (cd1 (lpOk n (nI j))) (nI (lbc (v (ixx (nI j))))))) (by rw [hcd, ixx_nI (by omega)]; rfl) ?_
    exact W.iret (v := (mrI (cd1 (lpOk n (nI j))) (nI (lbc (v (ixx (nI j))))))) hx hb hr (fun t ht hW => ⟨trivial, rfl, by rw [ht]; exact hend, hS.F ht⟩) hS.2.2 dX2_beatsOf_27
set_option maxHeartbeats 4000000 in
set_option maxRecDepth 100000 in
/-- isCovered -/
theorem c_X2_isCovered (l : Launch) (D : va_G) (cI cZ cL cJ : ClassId) (am : Nat → Nat) (th : Int32) (n now : Nat) (told : Int32) (v : Nat → LV) (hwf : WFX n now v) (hinj : Inj 6 am) (k : Int32) : Met l yX2_isCovered wsX2_isCovered ({ frames := 2, cells := 0, slots := 0, locals := 43 } : Room) (PC D (TY cI cZ cL cJ) (AM am) [.ref (am 0), .int k] (fun H => PM D cI cZ am th n now told v H)) (QW (AM am) True (bI (mrB (cd1 (lpOk n k)) (lcv (v (ixx k))))) (fun H => PM D cI cZ am (nI (cd1 (lpOk n k))) n (now) (told) (v) H)) 0 0 (AM am) := by
  refine Met.ofW (cc := cX2_isCovered) (maxL := 2) (ret := (some .boolean)) (by decide) rfl ?_
  intro p e s m args below meth c s₁ B hml hv
  obtain ⟨rfl, hK, hEA, hP⟩ := hv
  obtain ⟨hn8, hnow, hwl⟩ := hwf
  have hE : EN noA s s.heap := hEA.narrow (fun _ h => h.elim)
  have hS : va_S (AM am) s.heap s.heap [] := va_S.rf
  have hD : va_D (AM am) (mW cI cZ am th n now told v) := vd6 hinj
  have hP : va_P D vwCl (mW cI cZ am th n now told v) s.heap := hP
  have hx := B.exec
  have hb := B.bytes
  have hr := B.returns
  have hts := atoms_spec (ws := wsX2_isCovered) B.pre
  have hown : s.vm.findClass RX2 = some m.cls := findClass_of_methodNamed B.named
  have hlocks := B.notSynchronized
  have hNF := hE.2.1.1
  have hin2 : ∀ w ∈ wsX20, w ∈ wsX2_isCovered := by decide +kernel
  have hl := lv_entry ([.ref (am 0), .int k]) (n := 2) (Nat.le_of_ble_eq_true rfl)
  rw [lg_entry_eq]
  generalize (lg_sl ([.ref (am 0), .int k]) ++ List.replicate (2 - (lg_sl ([.ref (am 0), .int k])).length) Slot.unset).toArray = ls at hl ⊢
  have hl : lv_has ls 2 [(0, .ref (am 0)), (1, .int k)] := hl
  refine lv_aload_n hx hb dX2_isCovered_0 rfl (lv_at hl 0 rfl) ?_
  refine lv_iconst (v := nI 0) hx hb dX2_isCovered_1 (by decide) ?_
  refine va_put (D := D) (ci := 2) (v := .int (nI 0)) (ty := .int) (C := RX2) (T := TX2) (N := 9) hx hb hts hin2 tyX2 tyX2_ok nmX2 hown hK hP hD hS 0 rfl rfl 0 (by decide) (hts (.fieldLink RX2 26 "LanternPrimesModel" "thrown" "I") (List.mem_of_getElem? (i := 1) rfl)) (fun _ h9 => h9) rfl (by decide +kernel) rfl rfl (Nat.le_of_ble_eq_true rfl) dX2_isCovered_2 (fun H locs hP hD hS => ?_)
  have hP : va_P D vwCl [(am 0, .inr (2, [.int (nI 0), .int (nI now), .int told, .int (nI n), .ref (am 1), .ref (am 2), .ref (am 3), .ref (am 4), .ref (am 5)])), (am 1, .inl (cZ, 8, .inl (fun j => bI (lon (v j))))), (am 2, .inl (cZ, 8, .inl (fun j => bI (lcv (v j))))), (am 3, .inl (cI, 8, .inl (fun j => nI (lbc (v j))))), (am 4, .inl (cI, 32, .inl (fun z => nI (lnu (v (z / 4)) (z % 4))))), (am 5, .inl (cI, 32, .inl (fun z => nI (lof (v (z / 4)) (z % 4)))))] H := hP
  have hD : va_D (AM am) [(am 0, .inr (2, [.int (nI 0), .int (nI now), .int told, .int (nI n), .ref (am 1), .ref (am 2), .ref (am 3), .ref (am 4), .ref (am 5)])), (am 1, .inl (cZ, 8, .inl (fun j => bI (lon (v j))))), (am 2, .inl (cZ, 8, .inl (fun j => bI (lcv (v j))))), (am 3, .inl (cI, 8, .inl (fun j => nI (lbc (v j))))), (am 4, .inl (cI, 32, .inl (fun z => nI (lnu (v (z / 4)) (z % 4))))), (am 5, .inl (cI, 32, .inl (fun z => nI (lof (v (z / 4)) (z % 4)))))] := hD
  refine lv_aload_n hx hb dX2_isCovered_5 rfl (lv_at hl 0 rfl) ?_
  refine lv_iload_n hx hb dX2_isCovered_6 rfl (lv_at hl 1 rfl) ?_
  refine rV (r := bI (lpOk n k)) (As := [.int k]) (rest := []) ⟨hx, hb, hml, hown, hts⟩ (c_X2_isLamp l D cI cZ cL cJ am (nI 0) n now told v ⟨hn8, hnow, hwl⟩ k) (cwV 1 hts gX2_isCovered_X2_isLamp rfl rfl rfl (by decide +kernel) ⟨(Nat.le_of_ble_eq_true rfl), (Nat.le_of_ble_eq_true rfl)⟩) hK ((hEA.kept hS.2.1).narrow (fun _ h => h.elim)) hP (RC_of (q := (RX2, TX2, 9)) (ci := 2) hK rfl (vpa hP 0 rfl)) rfl hl.1 rfl (Nat.le_of_ble_eq_true rfl) dX2_isCovered_7 ⟨(Nat.le_of_ble_eq_true rfl), (Nat.le_of_ble_eq_true rfl)⟩ ?_
  refine b_if_eq (b := lpOk n k) (tgt := 22) hx hb dX2_isCovered_10 (by decide) (fun c_10 => ?_) (fun c_10 => ?_)
  · refine lv_aload_n hx hb dX2_isCovered_22 rfl (lv_at hl 0 rfl) ?_
    refine lv_iconst (v := nI 1) hx hb dX2_isCovered_23 (by decide) ?_
    refine wV (As := [.int (nI 1)]) (rest := []) ⟨hx, hb, hml, hown, hts⟩ (c_X2_isNot l D cI cZ cL cJ am (nI 0) n now told v ⟨hn8, hnow, hwl⟩ hinj (nI 1)) (cwV 1 hts gX2_isCovered_X2_isNot rfl rfl rfl (by decide +kernel) ⟨(Nat.le_of_ble_eq_true rfl), (Nat.le_of_ble_eq_true rfl)⟩) hK (hEA.kept hS.2.1) hP (RC_of (q := (RX2, TX2, 9)) (ci := 2) hK rfl (vpa hP 0 rfl)) rfl hl.1 rfl (Nat.le_of_ble_eq_true rfl) dX2_isCovered_24 ⟨(Nat.le_of_ble_eq_true rfl), (Nat.le_of_ble_eq_true rfl)⟩ hS (fun q h => h) (fun H locs _ hP _ hk hS => ?_)
    have hP : va_P D vwCl [(am 0, .inr (2, [.int (nI 1), .int (nI now), .int told, .int (nI n), .ref (am 1), .ref (am 2), .ref (am 3), .ref (am 4), .ref (am 5)])), (am 1, .inl (cZ, 8, .inl (fun j => bI (lon (v j))))), (am 2, .inl (cZ, 8, .inl (fun j => bI (lcv (v j))))), (am 3, .inl (cI, 8, .inl (fun j => nI (lbc (v j))))), (am 4, .inl (cI, 32, .inl (fun z => nI (lnu (v (z / 4)) (z % 4))))), (am 5, .inl (cI, 32, .inl (fun z => nI (lof (v (z / 4)) (z % 4)))))] H := hP
    have hD : va_D (AM am) [(am 0, .inr (2, [.int (nI 1), .int (nI now), .int told, .int (nI n), .ref (am 1), .ref (am 2), .ref (am 3), .ref (am 4), .ref (am 5)])), (am 1, .inl (cZ, 8, .inl (fun j => bI (lon (v j))))), (am 2, .inl (cZ, 8, .inl (fun j => bI (lcv (v j))))), (am 3, .inl (cI, 8, .inl (fun j => nI (lbc (v j))))), (am 4, .inl (cI, 32, .inl (fun z => nI (lnu (v (z / 4)) (z % 4))))), (am 5, .inl (cI, 32, .inl (fun z => nI (lof (v (z / 4)) (z % 4)))))] := vd6 hinj
    have hcd : cd1 (lpOk n k) = 1 := (by rw [c_10]; rfl)
    have hend : PM D cI cZ am (nI (cd1 (lpOk n k))) n (now) (told) (v) H := by
      rw [hcd]; exact hP
    refine n_ti (y := bI (mrB (cd1 (lpOk n k)) (lcv (v (ixx k))))) (by rw [hcd]; rfl) ?_
    exact W.zret (v := bI (mrB (cd1 (lpOk n k)) (lcv (v (ixx k))))) hx hb hr (bI_narrow _) (fun t ht hW => ⟨trivial, rfl, by rw [ht]; exact hend, hS.F ht⟩) hS.2.2 dX2_isCovered_27
  · obtain ⟨j, hj, rfl⟩ := lpOk_j (by omega) c_10
    refine lv_aload_n hx hb dX2_isCovered_13 rfl (lv_at hl 0 rfl) ?_
    refine va_get (D := D) (ci := 2) (v := .ref (am 2)) (C := RX2) (T := TX2) (N := 9) hx hb hts hin2 hown hK hP 0 rfl rfl 5 (by decide) (hts (.fieldLink RX2 13 "LanternPrimesModel" "covered" "[Z") (List.mem_of_getElem? (i := 2) rfl)) (fun _ h9 => h9) rfl dX2_isCovered_14 ?_
    refine lv_iload_n hx hb dX2_isCovered_17 rfl (lv_at hl 1 rfl) ?_
    refine n_zald (v := bI (lcv (v j))) (j := j) hx hb hK hP 2 1 rfl rfl (by omega) (by decide) rfl dX2_isCovered_18 ?_
    refine lv_goto (tgt := 27) hx hb dX2_isCovered_19 (by decide) ?_
    have hcd : cd1 (lpOk n (nI j)) = 0 := (cd1_t c_10)
    have hend : PM D cI cZ am (nI (cd1 (lpOk n (nI j)))) n (now) (told) (v) H := by
      rw [hcd]; exact hP
    refine n_ti (y := bI (mrB (cd1 (lpOk n (nI j))) (lcv (v (ixx (nI j)))))) (by rw [hcd, ixx_nI (by omega)]; exact (congrArg bI (Bool.true_and _)).symm) ?_
    exact W.zret (v := bI (mrB (cd1 (lpOk n (nI j))) (lcv (v (ixx (nI j)))))) hx hb hr (bI_narrow _) (fun t ht hW => ⟨trivial, rfl, by rw [ht]; exact hend, hS.F ht⟩) hS.2.2 dX2_isCovered_27
set_option maxHeartbeats 4000000 in
set_option maxRecDepth 100000 in
/-- isOn -/
theorem c_X2_isOn (l : Launch) (D : va_G) (cI cZ cL cJ : ClassId) (am : Nat → Nat) (th : Int32) (n now : Nat) (told : Int32) (v : Nat → LV) (hwf : WFX n now v) (hinj : Inj 6 am) (k : Int32) : Met l yX2_isOn wsX2_isOn ({ frames := 2, cells := 0, slots := 0, locals := 43 } : Room) (PC D (TY cI cZ cL cJ) (AM am) [.ref (am 0), .int k] (fun H => PM D cI cZ am th n now told v H)) (QW (AM am) True (bI (mrB (cd1 (lpOk n k)) (onB (v (ixx k)) now))) (fun H => PM D cI cZ am (nI (cd1 (lpOk n k))) n (now) (told) (v) H)) 0 0 (AM am) := by
  refine Met.ofW (cc := cX2_isOn) (maxL := 2) (ret := (some .boolean)) (by decide) rfl ?_
  intro p e s m args below meth c s₁ B hml hv
  obtain ⟨rfl, hK, hEA, hP⟩ := hv
  obtain ⟨hn8, hnow, hwl⟩ := hwf
  have hE : EN noA s s.heap := hEA.narrow (fun _ h => h.elim)
  have hS : va_S (AM am) s.heap s.heap [] := va_S.rf
  have hD : va_D (AM am) (mW cI cZ am th n now told v) := vd6 hinj
  have hP : va_P D vwCl (mW cI cZ am th n now told v) s.heap := hP
  have hx := B.exec
  have hb := B.bytes
  have hr := B.returns
  have hts := atoms_spec (ws := wsX2_isOn) B.pre
  have hown : s.vm.findClass RX2 = some m.cls := findClass_of_methodNamed B.named
  have hlocks := B.notSynchronized
  have hNF := hE.2.1.1
  have hin2 : ∀ w ∈ wsX20, w ∈ wsX2_isOn := by decide +kernel
  have hl := lv_entry ([.ref (am 0), .int k]) (n := 2) (Nat.le_of_ble_eq_true rfl)
  rw [lg_entry_eq]
  generalize (lg_sl ([.ref (am 0), .int k]) ++ List.replicate (2 - (lg_sl ([.ref (am 0), .int k])).length) Slot.unset).toArray = ls at hl ⊢
  have hl : lv_has ls 2 [(0, .ref (am 0)), (1, .int k)] := hl
  refine lv_aload_n hx hb dX2_isOn_0 rfl (lv_at hl 0 rfl) ?_
  refine lv_iconst (v := nI 0) hx hb dX2_isOn_1 (by decide) ?_
  refine va_put (D := D) (ci := 2) (v := .int (nI 0)) (ty := .int) (C := RX2) (T := TX2) (N := 9) hx hb hts hin2 tyX2 tyX2_ok nmX2 hown hK hP hD hS 0 rfl rfl 0 (by decide) (hts (.fieldLink RX2 26 "LanternPrimesModel" "thrown" "I") (List.mem_of_getElem? (i := 1) rfl)) (fun _ h9 => h9) rfl (by decide +kernel) rfl rfl (Nat.le_of_ble_eq_true rfl) dX2_isOn_2 (fun H locs hP hD hS => ?_)
  have hP : va_P D vwCl [(am 0, .inr (2, [.int (nI 0), .int (nI now), .int told, .int (nI n), .ref (am 1), .ref (am 2), .ref (am 3), .ref (am 4), .ref (am 5)])), (am 1, .inl (cZ, 8, .inl (fun j => bI (lon (v j))))), (am 2, .inl (cZ, 8, .inl (fun j => bI (lcv (v j))))), (am 3, .inl (cI, 8, .inl (fun j => nI (lbc (v j))))), (am 4, .inl (cI, 32, .inl (fun z => nI (lnu (v (z / 4)) (z % 4))))), (am 5, .inl (cI, 32, .inl (fun z => nI (lof (v (z / 4)) (z % 4)))))] H := hP
  have hD : va_D (AM am) [(am 0, .inr (2, [.int (nI 0), .int (nI now), .int told, .int (nI n), .ref (am 1), .ref (am 2), .ref (am 3), .ref (am 4), .ref (am 5)])), (am 1, .inl (cZ, 8, .inl (fun j => bI (lon (v j))))), (am 2, .inl (cZ, 8, .inl (fun j => bI (lcv (v j))))), (am 3, .inl (cI, 8, .inl (fun j => nI (lbc (v j))))), (am 4, .inl (cI, 32, .inl (fun z => nI (lnu (v (z / 4)) (z % 4))))), (am 5, .inl (cI, 32, .inl (fun z => nI (lof (v (z / 4)) (z % 4)))))] := hD
  refine lv_aload_n hx hb dX2_isOn_5 rfl (lv_at hl 0 rfl) ?_
  refine lv_iload_n hx hb dX2_isOn_6 rfl (lv_at hl 1 rfl) ?_
  refine rV (r := bI (lpOk n k)) (As := [.int k]) (rest := []) ⟨hx, hb, hml, hown, hts⟩ (c_X2_isLamp l D cI cZ cL cJ am (nI 0) n now told v ⟨hn8, hnow, hwl⟩ k) (cwV 1 hts gX2_isOn_X2_isLamp rfl rfl rfl (by decide +kernel) ⟨(Nat.le_of_ble_eq_true rfl), (Nat.le_of_ble_eq_true rfl)⟩) hK ((hEA.kept hS.2.1).narrow (fun _ h => h.elim)) hP (RC_of (q := (RX2, TX2, 9)) (ci := 2) hK rfl (vpa hP 0 rfl)) rfl hl.1 rfl (Nat.le_of_ble_eq_true rfl) dX2_isOn_7 ⟨(Nat.le_of_ble_eq_true rfl), (Nat.le_of_ble_eq_true rfl)⟩ ?_
  refine b_if_eq (b := lpOk n k) (tgt := 25) hx hb dX2_isOn_10 (by decide) (fun c_10 => ?_) (fun c_10 => ?_)
  · refine lv_aload_n hx hb dX2_isOn_25 rfl (lv_at hl 0 rfl) ?_
    refine lv_iconst (v := nI 1) hx hb dX2_isOn_26 (by decide) ?_
    refine wV (As := [.int (nI 1)]) (rest := []) ⟨hx, hb, hml, hown, hts⟩ (c_X2_isNot l D cI cZ cL cJ am (nI 0) n now told v ⟨hn8, hnow, hwl⟩ hinj (nI 1)) (cwV 1 hts gX2_isOn_X2_isNot rfl rfl rfl (by decide +kernel) ⟨(Nat.le_of_ble_eq_true rfl), (Nat.le_of_ble_eq_true rfl)⟩) hK (hEA.kept hS.2.1) hP (RC_of (q := (RX2, TX2, 9)) (ci := 2) hK rfl (vpa hP 0 rfl)) rfl hl.1 rfl (Nat.le_of_ble_eq_true rfl) dX2_isOn_27 ⟨(Nat.le_of_ble_eq_true rfl), (Nat.le_of_ble_eq_true rfl)⟩ hS (fun q h => h) (fun H locs _ hP _ hk hS => ?_)
    have hP : va_P D vwCl [(am 0, .inr (2, [.int (nI 1), .int (nI now), .int told, .int (nI n), .ref (am 1), .ref (am 2), .ref (am 3), .ref (am 4), .ref (am 5)])), (am 1, .inl (cZ, 8, .inl (fun j => bI (lon (v j))))), (am 2, .inl (cZ, 8, .inl (fun j => bI (lcv (v j))))), (am 3, .inl (cI, 8, .inl (fun j => nI (lbc (v j))))), (am 4, .inl (cI, 32, .inl (fun z => nI (lnu (v (z / 4)) (z % 4))))), (am 5, .inl (cI, 32, .inl (fun z => nI (lof (v (z / 4)) (z % 4)))))] H := hP
    have hD : va_D (AM am) [(am 0, .inr (2, [.int (nI 1), .int (nI now), .int told, .int (nI n), .ref (am 1), .ref (am 2), .ref (am 3), .ref (am 4), .ref (am 5)])), (am 1, .inl (cZ, 8, .inl (fun j => bI (lon (v j))))), (am 2, .inl (cZ, 8, .inl (fun j => bI (lcv (v j))))), (am 3, .inl (cI, 8, .inl (fun j => nI (lbc (v j))))), (am 4, .inl (cI, 32, .inl (fun z => nI (lnu (v (z / 4)) (z % 4))))), (am 5, .inl (cI, 32, .inl (fun z => nI (lof (v (z / 4)) (z % 4)))))] := vd6 hinj
    have hcd : cd1 (lpOk n k) = 1 := (by rw [c_10]; rfl)
    have hend : PM D cI cZ am (nI (cd1 (lpOk n k))) n (now) (told) (v) H := by
      rw [hcd]; exact hP
    refine n_ti (y := bI (mrB (cd1 (lpOk n k)) (onB (v (ixx k)) now))) (by rw [hcd]; rfl) ?_
    exact W.zret (v := bI (mrB (cd1 (lpOk n k)) (onB (v (ixx k)) now))) hx hb hr (bI_narrow _) (fun t ht hW => ⟨trivial, rfl, by rw [ht]; exact hend, hS.F ht⟩) hS.2.2 dX2_isOn_30
  · obtain ⟨j, hj, rfl⟩ := lpOk_j (by omega) c_10
    refine lv_aload_n hx hb dX2_isOn_13 rfl (lv_at hl 0 rfl) ?_
    refine lv_iload_n hx hb dX2_isOn_14 rfl (lv_at hl 1 rfl) ?_
    refine lv_aload_n hx hb dX2_isOn_15 rfl (lv_at hl 0 rfl) ?_
    refine va_get (D := D) (ci := 2) (v := .int (nI now)) (C := RX2) (T := TX2) (N := 9) hx hb hts hin2 hown hK hP 0 rfl rfl 1 (by decide) (hts (.fieldLink RX2 59 "LanternPrimesModel" "now" "I") (List.mem_of_getElem? (i := 2) rfl)) (fun _ h9 => h9) rfl dX2_isOn_16 ?_
    refine rV (r := bI (onB (v j) now)) (As := [.int (nI j), .int (nI now)]) (rest := []) ⟨hx, hb, hml, hown, hts⟩ (c_X2_onAt l D cI cZ cL cJ am (nI 0) n now told v ⟨hn8, hnow, hwl⟩ j hj now (by omega)) (cwV 2 hts gX2_isOn_X2_onAt rfl rfl rfl (by decide +kernel) ⟨(Nat.le_of_ble_eq_true rfl), (Nat.le_of_ble_eq_true rfl)⟩) hK ((hEA.kept hS.2.1).narrow (fun _ h => h.elim)) hP (RC_of (q := (RX2, TX2, 9)) (ci := 2) hK rfl (vpa hP 0 rfl)) rfl hl.1 rfl (Nat.le_of_ble_eq_true rfl) dX2_isOn_19 ⟨(Nat.le_of_ble_eq_true rfl), (Nat.le_of_ble_eq_true rfl)⟩ ?_
    refine lv_goto (tgt := 30) hx hb dX2_isOn_22 (by decide) ?_
    have hcd : cd1 (lpOk n (nI j)) = 0 := (cd1_t c_10)
    have hend : PM D cI cZ am (nI (cd1 (lpOk n (nI j)))) n (now) (told) (v) H := by
      rw [hcd]; exact hP
    refine n_ti (y := bI (mrB (cd1 (lpOk n (nI j))) (onB (v (ixx (nI j))) now))) (by rw [hcd, ixx_nI (by omega)]; exact (congrArg bI (Bool.true_and _)).symm) ?_
    exact W.zret (v := bI (mrB (cd1 (lpOk n (nI j))) (onB (v (ixx (nI j))) now))) hx hb hr (bI_narrow _) (fun t ht hW => ⟨trivial, rfl, by rw [ht]; exact hend, hS.F ht⟩) hS.2.2 dX2_isOn_30
set_option maxHeartbeats 4000000 in
set_option maxRecDepth 100000 in
/-- isLit -/
theorem c_X2_isLit (l : Launch) (D : va_G) (cI cZ cL cJ : ClassId) (am : Nat → Nat) (th : Int32) (n now : Nat) (told : Int32) (v : Nat → LV) (hwf : WFX n now v) (hinj : Inj 6 am) (k : Int32) : Met l yX2_isLit wsX2_isLit ({ frames := 2, cells := 0, slots := 0, locals := 43 } : Room) (PC D (TY cI cZ cL cJ) (AM am) [.ref (am 0), .int k] (fun H => PM D cI cZ am th n now told v H)) (QW (AM am) True (bI (mrB (cd1 (lpOk n k)) (litB (v (ixx k)) now))) (fun H => PM D cI cZ am (nI (cd1 (lpOk n k))) n (now) (told) (v) H)) 0 0 (AM am) := by
  refine Met.ofW (cc := cX2_isLit) (maxL := 2) (ret := (some .boolean)) (by decide) rfl ?_
  intro p e s m args below meth c s₁ B hml hv
  obtain ⟨rfl, hK, hEA, hP⟩ := hv
  obtain ⟨hn8, hnow, hwl⟩ := hwf
  have hE : EN noA s s.heap := hEA.narrow (fun _ h => h.elim)
  have hS : va_S (AM am) s.heap s.heap [] := va_S.rf
  have hD : va_D (AM am) (mW cI cZ am th n now told v) := vd6 hinj
  have hP : va_P D vwCl (mW cI cZ am th n now told v) s.heap := hP
  have hx := B.exec
  have hb := B.bytes
  have hr := B.returns
  have hts := atoms_spec (ws := wsX2_isLit) B.pre
  have hown : s.vm.findClass RX2 = some m.cls := findClass_of_methodNamed B.named
  have hlocks := B.notSynchronized
  have hNF := hE.2.1.1
  have hin2 : ∀ w ∈ wsX20, w ∈ wsX2_isLit := by decide +kernel
  have hl := lv_entry ([.ref (am 0), .int k]) (n := 2) (Nat.le_of_ble_eq_true rfl)
  rw [lg_entry_eq]
  generalize (lg_sl ([.ref (am 0), .int k]) ++ List.replicate (2 - (lg_sl ([.ref (am 0), .int k])).length) Slot.unset).toArray = ls at hl ⊢
  have hl : lv_has ls 2 [(0, .ref (am 0)), (1, .int k)] := hl
  refine lv_aload_n hx hb dX2_isLit_0 rfl (lv_at hl 0 rfl) ?_
  refine lv_iconst (v := nI 0) hx hb dX2_isLit_1 (by decide) ?_
  refine va_put (D := D) (ci := 2) (v := .int (nI 0)) (ty := .int) (C := RX2) (T := TX2) (N := 9) hx hb hts hin2 tyX2 tyX2_ok nmX2 hown hK hP hD hS 0 rfl rfl 0 (by decide) (hts (.fieldLink RX2 26 "LanternPrimesModel" "thrown" "I") (List.mem_of_getElem? (i := 1) rfl)) (fun _ h9 => h9) rfl (by decide +kernel) rfl rfl (Nat.le_of_ble_eq_true rfl) dX2_isLit_2 (fun H locs hP hD hS => ?_)
  have hP : va_P D vwCl [(am 0, .inr (2, [.int (nI 0), .int (nI now), .int told, .int (nI n), .ref (am 1), .ref (am 2), .ref (am 3), .ref (am 4), .ref (am 5)])), (am 1, .inl (cZ, 8, .inl (fun j => bI (lon (v j))))), (am 2, .inl (cZ, 8, .inl (fun j => bI (lcv (v j))))), (am 3, .inl (cI, 8, .inl (fun j => nI (lbc (v j))))), (am 4, .inl (cI, 32, .inl (fun z => nI (lnu (v (z / 4)) (z % 4))))), (am 5, .inl (cI, 32, .inl (fun z => nI (lof (v (z / 4)) (z % 4)))))] H := hP
  have hD : va_D (AM am) [(am 0, .inr (2, [.int (nI 0), .int (nI now), .int told, .int (nI n), .ref (am 1), .ref (am 2), .ref (am 3), .ref (am 4), .ref (am 5)])), (am 1, .inl (cZ, 8, .inl (fun j => bI (lon (v j))))), (am 2, .inl (cZ, 8, .inl (fun j => bI (lcv (v j))))), (am 3, .inl (cI, 8, .inl (fun j => nI (lbc (v j))))), (am 4, .inl (cI, 32, .inl (fun z => nI (lnu (v (z / 4)) (z % 4))))), (am 5, .inl (cI, 32, .inl (fun z => nI (lof (v (z / 4)) (z % 4)))))] := hD
  refine lv_aload_n hx hb dX2_isLit_5 rfl (lv_at hl 0 rfl) ?_
  refine lv_iload_n hx hb dX2_isLit_6 rfl (lv_at hl 1 rfl) ?_
  refine rV (r := bI (lpOk n k)) (As := [.int k]) (rest := []) ⟨hx, hb, hml, hown, hts⟩ (c_X2_isLamp l D cI cZ cL cJ am (nI 0) n now told v ⟨hn8, hnow, hwl⟩ k) (cwV 1 hts gX2_isLit_X2_isLamp rfl rfl rfl (by decide +kernel) ⟨(Nat.le_of_ble_eq_true rfl), (Nat.le_of_ble_eq_true rfl)⟩) hK ((hEA.kept hS.2.1).narrow (fun _ h => h.elim)) hP (RC_of (q := (RX2, TX2, 9)) (ci := 2) hK rfl (vpa hP 0 rfl)) rfl hl.1 rfl (Nat.le_of_ble_eq_true rfl) dX2_isLit_7 ⟨(Nat.le_of_ble_eq_true rfl), (Nat.le_of_ble_eq_true rfl)⟩ ?_
  refine b_if_eq (b := lpOk n k) (tgt := 42) hx hb dX2_isLit_10 (by decide) (fun c_10 => ?_) (fun c_10 => ?_)
  · refine lv_aload_n hx hb dX2_isLit_42 rfl (lv_at hl 0 rfl) ?_
    refine lv_iconst (v := nI 1) hx hb dX2_isLit_43 (by decide) ?_
    refine wV (As := [.int (nI 1)]) (rest := []) ⟨hx, hb, hml, hown, hts⟩ (c_X2_isNot l D cI cZ cL cJ am (nI 0) n now told v ⟨hn8, hnow, hwl⟩ hinj (nI 1)) (cwV 1 hts gX2_isLit_X2_isNot rfl rfl rfl (by decide +kernel) ⟨(Nat.le_of_ble_eq_true rfl), (Nat.le_of_ble_eq_true rfl)⟩) hK (hEA.kept hS.2.1) hP (RC_of (q := (RX2, TX2, 9)) (ci := 2) hK rfl (vpa hP 0 rfl)) rfl hl.1 rfl (Nat.le_of_ble_eq_true rfl) dX2_isLit_44 ⟨(Nat.le_of_ble_eq_true rfl), (Nat.le_of_ble_eq_true rfl)⟩ hS (fun q h => h) (fun H locs _ hP _ hk hS => ?_)
    have hP : va_P D vwCl [(am 0, .inr (2, [.int (nI 1), .int (nI now), .int told, .int (nI n), .ref (am 1), .ref (am 2), .ref (am 3), .ref (am 4), .ref (am 5)])), (am 1, .inl (cZ, 8, .inl (fun j => bI (lon (v j))))), (am 2, .inl (cZ, 8, .inl (fun j => bI (lcv (v j))))), (am 3, .inl (cI, 8, .inl (fun j => nI (lbc (v j))))), (am 4, .inl (cI, 32, .inl (fun z => nI (lnu (v (z / 4)) (z % 4))))), (am 5, .inl (cI, 32, .inl (fun z => nI (lof (v (z / 4)) (z % 4)))))] H := hP
    have hD : va_D (AM am) [(am 0, .inr (2, [.int (nI 1), .int (nI now), .int told, .int (nI n), .ref (am 1), .ref (am 2), .ref (am 3), .ref (am 4), .ref (am 5)])), (am 1, .inl (cZ, 8, .inl (fun j => bI (lon (v j))))), (am 2, .inl (cZ, 8, .inl (fun j => bI (lcv (v j))))), (am 3, .inl (cI, 8, .inl (fun j => nI (lbc (v j))))), (am 4, .inl (cI, 32, .inl (fun z => nI (lnu (v (z / 4)) (z % 4))))), (am 5, .inl (cI, 32, .inl (fun z => nI (lof (v (z / 4)) (z % 4)))))] := vd6 hinj
    have hcd : cd1 (lpOk n k) = 1 := (by rw [c_10]; rfl)
    have hend : PM D cI cZ am (nI (cd1 (lpOk n k))) n (now) (told) (v) H := by
      rw [hcd]; exact hP
    refine n_ti (y := bI (mrB (cd1 (lpOk n k)) (litB (v (ixx k)) now))) (by rw [hcd]; rfl) ?_
    exact W.zret (v := bI (mrB (cd1 (lpOk n k)) (litB (v (ixx k)) now))) hx hb hr (bI_narrow _) (fun t ht hW => ⟨trivial, rfl, by rw [ht]; exact hend, hS.F ht⟩) hS.2.2 dX2_isLit_47
  · obtain ⟨j, hj, rfl⟩ := lpOk_j (by omega) c_10
    refine lv_aload_n hx hb dX2_isLit_13 rfl (lv_at hl 0 rfl) ?_
    refine va_get (D := D) (ci := 2) (v := .ref (am 2)) (C := RX2) (T := TX2) (N := 9) hx hb hts hin2 hown hK hP 0 rfl rfl 5 (by decide) (hts (.fieldLink RX2 13 "LanternPrimesModel" "covered" "[Z") (List.mem_of_getElem? (i := 2) rfl)) (fun _ h9 => h9) rfl dX2_isLit_14 ?_
    refine lv_iload_n hx hb dX2_isLit_17 rfl (lv_at hl 1 rfl) ?_
    refine n_zald (v := bI (lcv (v j))) (j := j) hx hb hK hP 2 1 rfl rfl (by omega) (by decide) rfl dX2_isLit_18 ?_
    refine b_if_ne (b := lcv (v j)) (tgt := 38) hx hb dX2_isLit_19 (by decide) (fun c_19 => ?_) (fun c_19 => ?_)
    · refine lv_iconst (v := nI 0) hx hb dX2_isLit_38 (by decide) ?_
      refine lv_goto (tgt := 47) hx hb dX2_isLit_39 (by decide) ?_
      have hcd : cd1 (lpOk n (nI j)) = 0 := (cd1_t c_10)
      have hend : PM D cI cZ am (nI (cd1 (lpOk n (nI j)))) n (now) (told) (v) H := by
        rw [hcd]; exact hP
      refine n_ti (y := bI (mrB (cd1 (lpOk n (nI j))) (litB (v (ixx (nI j))) now))) (by rw [hcd, ixx_nI (by omega)]; unfold mrB litB; first | (rw [c_19]; rfl) | (rw [c_19, c_31]; rfl)) ?_
      exact W.zret (v := bI (mrB (cd1 (lpOk n (nI j))) (litB (v (ixx (nI j))) now))) hx hb hr (bI_narrow _) (fun t ht hW => ⟨trivial, rfl, by rw [ht]; exact hend, hS.F ht⟩) hS.2.2 dX2_isLit_47
    · refine lv_aload_n hx hb dX2_isLit_22 rfl (lv_at hl 0 rfl) ?_
      refine lv_iload_n hx hb dX2_isLit_23 rfl (lv_at hl 1 rfl) ?_
      refine lv_aload_n hx hb dX2_isLit_24 rfl (lv_at hl 0 rfl) ?_
      refine va_get (D := D) (ci := 2) (v := .int (nI now)) (C := RX2) (T := TX2) (N := 9) hx hb hts hin2 hown hK hP 0 rfl rfl 1 (by decide) (hts (.fieldLink RX2 59 "LanternPrimesModel" "now" "I") (List.mem_of_getElem? (i := 3) rfl)) (fun _ h9 => h9) rfl dX2_isLit_25 ?_
      refine rV (r := bI (onB (v j) now)) (As := [.int (nI j), .int (nI now)]) (rest := []) ⟨hx, hb, hml, hown, hts⟩ (c_X2_onAt l D cI cZ cL cJ am (nI 0) n now told v ⟨hn8, hnow, hwl⟩ j hj now (by omega)) (cwV 2 hts gX2_isLit_X2_onAt rfl rfl rfl (by decide +kernel) ⟨(Nat.le_of_ble_eq_true rfl), (Nat.le_of_ble_eq_true rfl)⟩) hK ((hEA.kept hS.2.1).narrow (fun _ h => h.elim)) hP (RC_of (q := (RX2, TX2, 9)) (ci := 2) hK rfl (vpa hP 0 rfl)) rfl hl.1 rfl (Nat.le_of_ble_eq_true rfl) dX2_isLit_28 ⟨(Nat.le_of_ble_eq_true rfl), (Nat.le_of_ble_eq_true rfl)⟩ ?_
      refine b_if_eq (b := onB (v j) now) (tgt := 38) hx hb dX2_isLit_31 (by decide) (fun c_31 => ?_) (fun c_31 => ?_)
      · refine lv_iconst (v := nI 0) hx hb dX2_isLit_38 (by decide) ?_
        refine lv_goto (tgt := 47) hx hb dX2_isLit_39 (by decide) ?_
        have hcd : cd1 (lpOk n (nI j)) = 0 := (cd1_t c_10)
        have hend : PM D cI cZ am (nI (cd1 (lpOk n (nI j)))) n (now) (told) (v) H := by
          rw [hcd]; exact hP
        refine n_ti (y := bI (mrB (cd1 (lpOk n (nI j))) (litB (v (ixx (nI j))) now))) (by rw [hcd, ixx_nI (by omega)]; unfold mrB litB; first | (rw [c_19]; rfl) | (rw [c_19, c_31]; rfl)) ?_
        exact W.zret (v := bI (mrB (cd1 (lpOk n (nI j))) (litB (v (ixx (nI j))) now))) hx hb hr (bI_narrow _) (fun t ht hW => ⟨trivial, rfl, by rw [ht]; exact hend, hS.F ht⟩) hS.2.2 dX2_isLit_47
      · refine lv_iconst (v := nI 1) hx hb dX2_isLit_34 (by decide) ?_
        refine lv_goto (tgt := 47) hx hb dX2_isLit_35 (by decide) ?_
        have hcd : cd1 (lpOk n (nI j)) = 0 := (cd1_t c_10)
        have hend : PM D cI cZ am (nI (cd1 (lpOk n (nI j)))) n (now) (told) (v) H := by
          rw [hcd]; exact hP
        refine n_ti (y := bI (mrB (cd1 (lpOk n (nI j))) (litB (v (ixx (nI j))) now))) (by rw [hcd, ixx_nI (by omega)]; unfold mrB litB; first | (rw [c_19]; rfl) | (rw [c_19, c_31]; rfl)) ?_
        exact W.zret (v := bI (mrB (cd1 (lpOk n (nI j))) (litB (v (ixx (nI j))) now))) hx hb hr (bI_narrow _) (fun t ht hW => ⟨trivial, rfl, by rw [ht]; exact hend, hS.F ht⟩) hS.2.2 dX2_isLit_47
set_option maxHeartbeats 4000000 in
set_option maxRecDepth 100000 in
/-- isSteady -/
theorem c_X2_isSteady (l : Launch) (D : va_G) (cI cZ cL cJ : ClassId) (am : Nat → Nat) (th : Int32) (n now : Nat) (told : Int32) (v : Nat → LV) (hwf : WFX n now v) (hinj : Inj 6 am) (k : Int32) : Met l yX2_isSteady wsX2_isSteady ({ frames := 3, cells := 0, slots := 0, locals := 68 } : Room) (PC D (TY cI cZ cL cJ) (AM am) [.ref (am 0), .int k] (fun H => PM D cI cZ am th n now told v H)) (QW (AM am) True (bI (mrB (cd1 (lpOk n k)) (decide (cyc (v (ixx k)) = 1)))) (fun H => PM D cI cZ am (nI (cd1 (lpOk n k))) n (now) (told) (v) H)) 0 0 (AM am) := by
  refine Met.ofW (cc := cX2_isSteady) (maxL := 2) (ret := (some .boolean)) (by decide) rfl ?_
  intro p e s m args below meth c s₁ B hml hv
  obtain ⟨rfl, hK, hEA, hP⟩ := hv
  obtain ⟨hn8, hnow, hwl⟩ := hwf
  have hE : EN noA s s.heap := hEA.narrow (fun _ h => h.elim)
  have hS : va_S (AM am) s.heap s.heap [] := va_S.rf
  have hD : va_D (AM am) (mW cI cZ am th n now told v) := vd6 hinj
  have hP : va_P D vwCl (mW cI cZ am th n now told v) s.heap := hP
  have hx := B.exec
  have hb := B.bytes
  have hr := B.returns
  have hts := atoms_spec (ws := wsX2_isSteady) B.pre
  have hown : s.vm.findClass RX2 = some m.cls := findClass_of_methodNamed B.named
  have hlocks := B.notSynchronized
  have hNF := hE.2.1.1
  have hin2 : ∀ w ∈ wsX20, w ∈ wsX2_isSteady := by decide +kernel
  have hl := lv_entry ([.ref (am 0), .int k]) (n := 2) (Nat.le_of_ble_eq_true rfl)
  rw [lg_entry_eq]
  generalize (lg_sl ([.ref (am 0), .int k]) ++ List.replicate (2 - (lg_sl ([.ref (am 0), .int k])).length) Slot.unset).toArray = ls at hl ⊢
  have hl : lv_has ls 2 [(0, .ref (am 0)), (1, .int k)] := hl
  refine lv_aload_n hx hb dX2_isSteady_0 rfl (lv_at hl 0 rfl) ?_
  refine lv_iconst (v := nI 0) hx hb dX2_isSteady_1 (by decide) ?_
  refine va_put (D := D) (ci := 2) (v := .int (nI 0)) (ty := .int) (C := RX2) (T := TX2) (N := 9) hx hb hts hin2 tyX2 tyX2_ok nmX2 hown hK hP hD hS 0 rfl rfl 0 (by decide) (hts (.fieldLink RX2 26 "LanternPrimesModel" "thrown" "I") (List.mem_of_getElem? (i := 1) rfl)) (fun _ h9 => h9) rfl (by decide +kernel) rfl rfl (Nat.le_of_ble_eq_true rfl) dX2_isSteady_2 (fun H locs hP hD hS => ?_)
  have hP : va_P D vwCl [(am 0, .inr (2, [.int (nI 0), .int (nI now), .int told, .int (nI n), .ref (am 1), .ref (am 2), .ref (am 3), .ref (am 4), .ref (am 5)])), (am 1, .inl (cZ, 8, .inl (fun j => bI (lon (v j))))), (am 2, .inl (cZ, 8, .inl (fun j => bI (lcv (v j))))), (am 3, .inl (cI, 8, .inl (fun j => nI (lbc (v j))))), (am 4, .inl (cI, 32, .inl (fun z => nI (lnu (v (z / 4)) (z % 4))))), (am 5, .inl (cI, 32, .inl (fun z => nI (lof (v (z / 4)) (z % 4)))))] H := hP
  have hD : va_D (AM am) [(am 0, .inr (2, [.int (nI 0), .int (nI now), .int told, .int (nI n), .ref (am 1), .ref (am 2), .ref (am 3), .ref (am 4), .ref (am 5)])), (am 1, .inl (cZ, 8, .inl (fun j => bI (lon (v j))))), (am 2, .inl (cZ, 8, .inl (fun j => bI (lcv (v j))))), (am 3, .inl (cI, 8, .inl (fun j => nI (lbc (v j))))), (am 4, .inl (cI, 32, .inl (fun z => nI (lnu (v (z / 4)) (z % 4))))), (am 5, .inl (cI, 32, .inl (fun z => nI (lof (v (z / 4)) (z % 4)))))] := hD
  refine lv_aload_n hx hb dX2_isSteady_5 rfl (lv_at hl 0 rfl) ?_
  refine lv_iload_n hx hb dX2_isSteady_6 rfl (lv_at hl 1 rfl) ?_
  refine rV (r := bI (lpOk n k)) (As := [.int k]) (rest := []) ⟨hx, hb, hml, hown, hts⟩ (c_X2_isLamp l D cI cZ cL cJ am (nI 0) n now told v ⟨hn8, hnow, hwl⟩ k) (cwV 1 hts gX2_isSteady_X2_isLamp rfl rfl rfl (by decide +kernel) ⟨(Nat.le_of_ble_eq_true rfl), (Nat.le_of_ble_eq_true rfl)⟩) hK ((hEA.kept hS.2.1).narrow (fun _ h => h.elim)) hP (RC_of (q := (RX2, TX2, 9)) (ci := 2) hK rfl (vpa hP 0 rfl)) rfl hl.1 rfl (Nat.le_of_ble_eq_true rfl) dX2_isSteady_7 ⟨(Nat.le_of_ble_eq_true rfl), (Nat.le_of_ble_eq_true rfl)⟩ ?_
  refine b_if_eq (b := lpOk n k) (tgt := 21) hx hb dX2_isSteady_10 (by decide) (fun c_10 => ?_) (fun c_10 => ?_)
  · refine lv_aload_n hx hb dX2_isSteady_21 rfl (lv_at hl 0 rfl) ?_
    refine lv_iconst (v := nI 1) hx hb dX2_isSteady_22 (by decide) ?_
    refine wV (As := [.int (nI 1)]) (rest := []) ⟨hx, hb, hml, hown, hts⟩ (c_X2_isNot l D cI cZ cL cJ am (nI 0) n now told v ⟨hn8, hnow, hwl⟩ hinj (nI 1)) (cwV 1 hts gX2_isSteady_X2_isNot rfl rfl rfl (by decide +kernel) ⟨(Nat.le_of_ble_eq_true rfl), (Nat.le_of_ble_eq_true rfl)⟩) hK (hEA.kept hS.2.1) hP (RC_of (q := (RX2, TX2, 9)) (ci := 2) hK rfl (vpa hP 0 rfl)) rfl hl.1 rfl (Nat.le_of_ble_eq_true rfl) dX2_isSteady_23 ⟨(Nat.le_of_ble_eq_true rfl), (Nat.le_of_ble_eq_true rfl)⟩ hS (fun q h => h) (fun H locs _ hP _ hk hS => ?_)
    have hP : va_P D vwCl [(am 0, .inr (2, [.int (nI 1), .int (nI now), .int told, .int (nI n), .ref (am 1), .ref (am 2), .ref (am 3), .ref (am 4), .ref (am 5)])), (am 1, .inl (cZ, 8, .inl (fun j => bI (lon (v j))))), (am 2, .inl (cZ, 8, .inl (fun j => bI (lcv (v j))))), (am 3, .inl (cI, 8, .inl (fun j => nI (lbc (v j))))), (am 4, .inl (cI, 32, .inl (fun z => nI (lnu (v (z / 4)) (z % 4))))), (am 5, .inl (cI, 32, .inl (fun z => nI (lof (v (z / 4)) (z % 4)))))] H := hP
    have hD : va_D (AM am) [(am 0, .inr (2, [.int (nI 1), .int (nI now), .int told, .int (nI n), .ref (am 1), .ref (am 2), .ref (am 3), .ref (am 4), .ref (am 5)])), (am 1, .inl (cZ, 8, .inl (fun j => bI (lon (v j))))), (am 2, .inl (cZ, 8, .inl (fun j => bI (lcv (v j))))), (am 3, .inl (cI, 8, .inl (fun j => nI (lbc (v j))))), (am 4, .inl (cI, 32, .inl (fun z => nI (lnu (v (z / 4)) (z % 4))))), (am 5, .inl (cI, 32, .inl (fun z => nI (lof (v (z / 4)) (z % 4)))))] := vd6 hinj
    have hcd : cd1 (lpOk n k) = 1 := (by rw [c_10]; rfl)
    have hend : PM D cI cZ am (nI (cd1 (lpOk n k))) n (now) (told) (v) H := by
      rw [hcd]; exact hP
    refine n_ti (y := bI (mrB (cd1 (lpOk n k)) (decide (cyc (v (ixx k)) = 1)))) (by rw [hcd]; rfl) ?_
    exact W.zret (v := bI (mrB (cd1 (lpOk n k)) (decide (cyc (v (ixx k)) = 1)))) hx hb hr (bI_narrow _) (fun t ht hW => ⟨trivial, rfl, by rw [ht]; exact hend, hS.F ht⟩) hS.2.2 dX2_isSteady_26
  · obtain ⟨j, hj, rfl⟩ := lpOk_j (by omega) c_10
    refine lv_aload_n hx hb dX2_isSteady_13 rfl (lv_at hl 0 rfl) ?_
    refine lv_iload_n hx hb dX2_isSteady_14 rfl (lv_at hl 1 rfl) ?_
    refine rV (r := bI (decide (cyc (v j) = 1))) (As := [.int (nI j)]) (rest := []) ⟨hx, hb, hml, hown, hts⟩ (c_X2_steady l D cI cZ cL cJ am (nI 0) n now told v ⟨hn8, hnow, hwl⟩ j hj) (cwV 1 hts gX2_isSteady_X2_steady rfl rfl rfl (by decide +kernel) ⟨(Nat.le_of_ble_eq_true rfl), (Nat.le_of_ble_eq_true rfl)⟩) hK ((hEA.kept hS.2.1).narrow (fun _ h => h.elim)) hP (RC_of (q := (RX2, TX2, 9)) (ci := 2) hK rfl (vpa hP 0 rfl)) rfl hl.1 rfl (Nat.le_of_ble_eq_true rfl) dX2_isSteady_15 ⟨(Nat.le_of_ble_eq_true rfl), (Nat.le_of_ble_eq_true rfl)⟩ ?_
    refine lv_goto (tgt := 26) hx hb dX2_isSteady_18 (by decide) ?_
    have hcd : cd1 (lpOk n (nI j)) = 0 := (cd1_t c_10)
    have hend : PM D cI cZ am (nI (cd1 (lpOk n (nI j)))) n (now) (told) (v) H := by
      rw [hcd]; exact hP
    refine n_ti (y := bI (mrB (cd1 (lpOk n (nI j))) (decide (cyc (v (ixx (nI j))) = 1)))) (by rw [hcd, ixx_nI (by omega)]; exact (congrArg bI (Bool.true_and _)).symm) ?_
    exact W.zret (v := bI (mrB (cd1 (lpOk n (nI j))) (decide (cyc (v (ixx (nI j))) = 1)))) hx hb hr (bI_narrow _) (fun t ht hW => ⟨trivial, rfl, by rw [ht]; exact hend, hS.F ht⟩) hS.2.2 dX2_isSteady_26
set_option maxHeartbeats 4000000 in
set_option maxRecDepth 100000 in
/-- cycleOf -/
theorem c_X2_cycleOf (l : Launch) (D : va_G) (cI cZ cL cJ : ClassId) (am : Nat → Nat) (th : Int32) (n now : Nat) (told : Int32) (v : Nat → LV) (hwf : WFX n now v) (hinj : Inj 6 am) (k : Int32) : Met l yX2_cycleOf wsX2_cycleOf ({ frames := 4, cells := 0, slots := 0, locals := 93 } : Room) (PC D (TY cI cZ cL cJ) (AM am) [.ref (am 0), .int k] (fun H => PM D cI cZ am th n now told v H)) (QW (AM am) True ((mrI (cd1 (lpOk n k)) (nI (cyc (v (ixx k)))))) (fun H => PM D cI cZ am (nI (cd1 (lpOk n k))) n (now) (told) (v) H)) 0 0 (AM am) := by
  refine Met.ofW (cc := cX2_cycleOf) (maxL := 2) (ret := (some .int)) (by decide) rfl ?_
  intro p e s m args below meth c s₁ B hml hv
  obtain ⟨rfl, hK, hEA, hP⟩ := hv
  obtain ⟨hn8, hnow, hwl⟩ := hwf
  have hE : EN noA s s.heap := hEA.narrow (fun _ h => h.elim)
  have hS : va_S (AM am) s.heap s.heap [] := va_S.rf
  have hD : va_D (AM am) (mW cI cZ am th n now told v) := vd6 hinj
  have hP : va_P D vwCl (mW cI cZ am th n now told v) s.heap := hP
  have hx := B.exec
  have hb := B.bytes
  have hr := B.returns
  have hts := atoms_spec (ws := wsX2_cycleOf) B.pre
  have hown : s.vm.findClass RX2 = some m.cls := findClass_of_methodNamed B.named
  have hlocks := B.notSynchronized
  have hNF := hE.2.1.1
  have hin2 : ∀ w ∈ wsX20, w ∈ wsX2_cycleOf := by decide +kernel
  have hl := lv_entry ([.ref (am 0), .int k]) (n := 2) (Nat.le_of_ble_eq_true rfl)
  rw [lg_entry_eq]
  generalize (lg_sl ([.ref (am 0), .int k]) ++ List.replicate (2 - (lg_sl ([.ref (am 0), .int k])).length) Slot.unset).toArray = ls at hl ⊢
  have hl : lv_has ls 2 [(0, .ref (am 0)), (1, .int k)] := hl
  refine lv_aload_n hx hb dX2_cycleOf_0 rfl (lv_at hl 0 rfl) ?_
  refine lv_iconst (v := nI 0) hx hb dX2_cycleOf_1 (by decide) ?_
  refine va_put (D := D) (ci := 2) (v := .int (nI 0)) (ty := .int) (C := RX2) (T := TX2) (N := 9) hx hb hts hin2 tyX2 tyX2_ok nmX2 hown hK hP hD hS 0 rfl rfl 0 (by decide) (hts (.fieldLink RX2 26 "LanternPrimesModel" "thrown" "I") (List.mem_of_getElem? (i := 1) rfl)) (fun _ h9 => h9) rfl (by decide +kernel) rfl rfl (Nat.le_of_ble_eq_true rfl) dX2_cycleOf_2 (fun H locs hP hD hS => ?_)
  have hP : va_P D vwCl [(am 0, .inr (2, [.int (nI 0), .int (nI now), .int told, .int (nI n), .ref (am 1), .ref (am 2), .ref (am 3), .ref (am 4), .ref (am 5)])), (am 1, .inl (cZ, 8, .inl (fun j => bI (lon (v j))))), (am 2, .inl (cZ, 8, .inl (fun j => bI (lcv (v j))))), (am 3, .inl (cI, 8, .inl (fun j => nI (lbc (v j))))), (am 4, .inl (cI, 32, .inl (fun z => nI (lnu (v (z / 4)) (z % 4))))), (am 5, .inl (cI, 32, .inl (fun z => nI (lof (v (z / 4)) (z % 4)))))] H := hP
  have hD : va_D (AM am) [(am 0, .inr (2, [.int (nI 0), .int (nI now), .int told, .int (nI n), .ref (am 1), .ref (am 2), .ref (am 3), .ref (am 4), .ref (am 5)])), (am 1, .inl (cZ, 8, .inl (fun j => bI (lon (v j))))), (am 2, .inl (cZ, 8, .inl (fun j => bI (lcv (v j))))), (am 3, .inl (cI, 8, .inl (fun j => nI (lbc (v j))))), (am 4, .inl (cI, 32, .inl (fun z => nI (lnu (v (z / 4)) (z % 4))))), (am 5, .inl (cI, 32, .inl (fun z => nI (lof (v (z / 4)) (z % 4)))))] := hD
  refine lv_aload_n hx hb dX2_cycleOf_5 rfl (lv_at hl 0 rfl) ?_
  refine lv_iload_n hx hb dX2_cycleOf_6 rfl (lv_at hl 1 rfl) ?_
  refine rV (r := bI (lpOk n k)) (As := [.int k]) (rest := []) ⟨hx, hb, hml, hown, hts⟩ (c_X2_isLamp l D cI cZ cL cJ am (nI 0) n now told v ⟨hn8, hnow, hwl⟩ k) (cwV 1 hts gX2_cycleOf_X2_isLamp rfl rfl rfl (by decide +kernel) ⟨(Nat.le_of_ble_eq_true rfl), (Nat.le_of_ble_eq_true rfl)⟩) hK ((hEA.kept hS.2.1).narrow (fun _ h => h.elim)) hP (RC_of (q := (RX2, TX2, 9)) (ci := 2) hK rfl (vpa hP 0 rfl)) rfl hl.1 rfl (Nat.le_of_ble_eq_true rfl) dX2_cycleOf_7 ⟨(Nat.le_of_ble_eq_true rfl), (Nat.le_of_ble_eq_true rfl)⟩ ?_
  refine b_if_eq (b := lpOk n k) (tgt := 21) hx hb dX2_cycleOf_10 (by decide) (fun c_10 => ?_) (fun c_10 => ?_)
  · refine lv_aload_n hx hb dX2_cycleOf_21 rfl (lv_at hl 0 rfl) ?_
    refine lv_iconst (v := nI 1) hx hb dX2_cycleOf_22 (by decide) ?_
    refine wV (As := [.int (nI 1)]) (rest := []) ⟨hx, hb, hml, hown, hts⟩ (c_X2_no l D cI cZ cL cJ am (nI 0) n now told v ⟨hn8, hnow, hwl⟩ hinj (nI 1)) (cwV 1 hts gX2_cycleOf_X2_no rfl rfl rfl (by decide +kernel) ⟨(Nat.le_of_ble_eq_true rfl), (Nat.le_of_ble_eq_true rfl)⟩) hK (hEA.kept hS.2.1) hP (RC_of (q := (RX2, TX2, 9)) (ci := 2) hK rfl (vpa hP 0 rfl)) rfl hl.1 rfl (Nat.le_of_ble_eq_true rfl) dX2_cycleOf_23 ⟨(Nat.le_of_ble_eq_true rfl), (Nat.le_of_ble_eq_true rfl)⟩ hS (fun q h => h) (fun H locs _ hP _ hk hS => ?_)
    have hP : va_P D vwCl [(am 0, .inr (2, [.int (nI 1), .int (nI now), .int told, .int (nI n), .ref (am 1), .ref (am 2), .ref (am 3), .ref (am 4), .ref (am 5)])), (am 1, .inl (cZ, 8, .inl (fun j => bI (lon (v j))))), (am 2, .inl (cZ, 8, .inl (fun j => bI (lcv (v j))))), (am 3, .inl (cI, 8, .inl (fun j => nI (lbc (v j))))), (am 4, .inl (cI, 32, .inl (fun z => nI (lnu (v (z / 4)) (z % 4))))), (am 5, .inl (cI, 32, .inl (fun z => nI (lof (v (z / 4)) (z % 4)))))] H := hP
    have hD : va_D (AM am) [(am 0, .inr (2, [.int (nI 1), .int (nI now), .int told, .int (nI n), .ref (am 1), .ref (am 2), .ref (am 3), .ref (am 4), .ref (am 5)])), (am 1, .inl (cZ, 8, .inl (fun j => bI (lon (v j))))), (am 2, .inl (cZ, 8, .inl (fun j => bI (lcv (v j))))), (am 3, .inl (cI, 8, .inl (fun j => nI (lbc (v j))))), (am 4, .inl (cI, 32, .inl (fun z => nI (lnu (v (z / 4)) (z % 4))))), (am 5, .inl (cI, 32, .inl (fun z => nI (lof (v (z / 4)) (z % 4)))))] := vd6 hinj
    have hcd : cd1 (lpOk n k) = 1 := (by rw [c_10]; rfl)
    have hend : PM D cI cZ am (nI (cd1 (lpOk n k))) n (now) (told) (v) H := by
      rw [hcd]; exact hP
    refine n_ti (y := (mrI (cd1 (lpOk n k)) (nI (cyc (v (ixx k)))))) (by rw [hcd]; rfl) ?_
    exact W.iret (v := (mrI (cd1 (lpOk n k)) (nI (cyc (v (ixx k)))))) hx hb hr (fun t ht hW => ⟨trivial, rfl, by rw [ht]; exact hend, hS.F ht⟩) hS.2.2 dX2_cycleOf_26
  · obtain ⟨j, hj, rfl⟩ := lpOk_j (by omega) c_10
    refine lv_aload_n hx hb dX2_cycleOf_13 rfl (lv_at hl 0 rfl) ?_
    refine lv_iload_n hx hb dX2_cycleOf_14 rfl (lv_at hl 1 rfl) ?_
    refine rV (r := nI (cyc (v j))) (As := [.int (nI j)]) (rest := []) ⟨hx, hb, hml, hown, hts⟩ (c_X2_cycle l D cI cZ cL cJ am (nI 0) n now told v ⟨hn8, hnow, hwl⟩ j hj) (cwV 1 hts gX2_cycleOf_X2_cycle rfl rfl rfl (by decide +kernel) ⟨(Nat.le_of_ble_eq_true rfl), (Nat.le_of_ble_eq_true rfl)⟩) hK ((hEA.kept hS.2.1).narrow (fun _ h => h.elim)) hP (RC_of (q := (RX2, TX2, 9)) (ci := 2) hK rfl (vpa hP 0 rfl)) rfl hl.1 rfl (Nat.le_of_ble_eq_true rfl) dX2_cycleOf_15 ⟨(Nat.le_of_ble_eq_true rfl), (Nat.le_of_ble_eq_true rfl)⟩ ?_
    refine lv_goto (tgt := 26) hx hb dX2_cycleOf_18 (by decide) ?_
    have hcd : cd1 (lpOk n (nI j)) = 0 := (cd1_t c_10)
    have hend : PM D cI cZ am (nI (cd1 (lpOk n (nI j)))) n (now) (told) (v) H := by
      rw [hcd]; exact hP
    refine n_ti (y := (mrI (cd1 (lpOk n (nI j))) (nI (cyc (v (ixx (nI j))))))) (by rw [hcd, ixx_nI (by omega)]; rfl) ?_
    exact W.iret (v := (mrI (cd1 (lpOk n (nI j))) (nI (cyc (v (ixx (nI j))))))) hx hb hr (fun t ht hW => ⟨trivial, rfl, by rw [ht]; exact hend, hS.F ht⟩) hS.2.2 dX2_cycleOf_26
set_option maxHeartbeats 4000000 in
set_option maxRecDepth 100000 in
/-- momentsUntilChange -/
theorem c_X2_momentsUntilChange (l : Launch) (D : va_G) (cI cZ cL cJ : ClassId) (am : Nat → Nat) (th : Int32) (n now : Nat) (told : Int32) (v : Nat → LV) (hwf : WFX n now v) (hinj : Inj 6 am) (k : Int32) : Met l yX2_momentsUntilChange wsX2_momentsUntilChange ({ frames := 3, cells := 0, slots := 0, locals := 69 } : Room) (PC D (TY cI cZ cL cJ) (AM am) [.ref (am 0), .int k] (fun H => PM D cI cZ am th n now told v H)) (QW (AM am) True ((mrI (cd1 (lpOk n k)) (untC (v (ixx k)) now))) (fun H => PM D cI cZ am (nI (cd1 (lpOk n k))) n (now) (told) (v) H)) 0 0 (AM am) := by
  refine Met.ofW (cc := cX2_momentsUntilChange) (maxL := 2) (ret := (some .int)) (by decide) rfl ?_
  intro p e s m args below meth c s₁ B hml hv
  obtain ⟨rfl, hK, hEA, hP⟩ := hv
  obtain ⟨hn8, hnow, hwl⟩ := hwf
  have hE : EN noA s s.heap := hEA.narrow (fun _ h => h.elim)
  have hS : va_S (AM am) s.heap s.heap [] := va_S.rf
  have hD : va_D (AM am) (mW cI cZ am th n now told v) := vd6 hinj
  have hP : va_P D vwCl (mW cI cZ am th n now told v) s.heap := hP
  have hx := B.exec
  have hb := B.bytes
  have hr := B.returns
  have hts := atoms_spec (ws := wsX2_momentsUntilChange) B.pre
  have hown : s.vm.findClass RX2 = some m.cls := findClass_of_methodNamed B.named
  have hlocks := B.notSynchronized
  have hNF := hE.2.1.1
  have hin2 : ∀ w ∈ wsX20, w ∈ wsX2_momentsUntilChange := by decide +kernel
  have hl := lv_entry ([.ref (am 0), .int k]) (n := 2) (Nat.le_of_ble_eq_true rfl)
  rw [lg_entry_eq]
  generalize (lg_sl ([.ref (am 0), .int k]) ++ List.replicate (2 - (lg_sl ([.ref (am 0), .int k])).length) Slot.unset).toArray = ls at hl ⊢
  have hl : lv_has ls 2 [(0, .ref (am 0)), (1, .int k)] := hl
  refine lv_aload_n hx hb dX2_momentsUntilChange_0 rfl (lv_at hl 0 rfl) ?_
  refine lv_iconst (v := nI 0) hx hb dX2_momentsUntilChange_1 (by decide) ?_
  refine va_put (D := D) (ci := 2) (v := .int (nI 0)) (ty := .int) (C := RX2) (T := TX2) (N := 9) hx hb hts hin2 tyX2 tyX2_ok nmX2 hown hK hP hD hS 0 rfl rfl 0 (by decide) (hts (.fieldLink RX2 26 "LanternPrimesModel" "thrown" "I") (List.mem_of_getElem? (i := 1) rfl)) (fun _ h9 => h9) rfl (by decide +kernel) rfl rfl (Nat.le_of_ble_eq_true rfl) dX2_momentsUntilChange_2 (fun H locs hP hD hS => ?_)
  have hP : va_P D vwCl [(am 0, .inr (2, [.int (nI 0), .int (nI now), .int told, .int (nI n), .ref (am 1), .ref (am 2), .ref (am 3), .ref (am 4), .ref (am 5)])), (am 1, .inl (cZ, 8, .inl (fun j => bI (lon (v j))))), (am 2, .inl (cZ, 8, .inl (fun j => bI (lcv (v j))))), (am 3, .inl (cI, 8, .inl (fun j => nI (lbc (v j))))), (am 4, .inl (cI, 32, .inl (fun z => nI (lnu (v (z / 4)) (z % 4))))), (am 5, .inl (cI, 32, .inl (fun z => nI (lof (v (z / 4)) (z % 4)))))] H := hP
  have hD : va_D (AM am) [(am 0, .inr (2, [.int (nI 0), .int (nI now), .int told, .int (nI n), .ref (am 1), .ref (am 2), .ref (am 3), .ref (am 4), .ref (am 5)])), (am 1, .inl (cZ, 8, .inl (fun j => bI (lon (v j))))), (am 2, .inl (cZ, 8, .inl (fun j => bI (lcv (v j))))), (am 3, .inl (cI, 8, .inl (fun j => nI (lbc (v j))))), (am 4, .inl (cI, 32, .inl (fun z => nI (lnu (v (z / 4)) (z % 4))))), (am 5, .inl (cI, 32, .inl (fun z => nI (lof (v (z / 4)) (z % 4)))))] := hD
  refine lv_aload_n hx hb dX2_momentsUntilChange_5 rfl (lv_at hl 0 rfl) ?_
  refine lv_iload_n hx hb dX2_momentsUntilChange_6 rfl (lv_at hl 1 rfl) ?_
  refine rV (r := bI (lpOk n k)) (As := [.int k]) (rest := []) ⟨hx, hb, hml, hown, hts⟩ (c_X2_isLamp l D cI cZ cL cJ am (nI 0) n now told v ⟨hn8, hnow, hwl⟩ k) (cwV 1 hts gX2_momentsUntilChange_X2_isLamp rfl rfl rfl (by decide +kernel) ⟨(Nat.le_of_ble_eq_true rfl), (Nat.le_of_ble_eq_true rfl)⟩) hK ((hEA.kept hS.2.1).narrow (fun _ h => h.elim)) hP (RC_of (q := (RX2, TX2, 9)) (ci := 2) hK rfl (vpa hP 0 rfl)) rfl hl.1 rfl (Nat.le_of_ble_eq_true rfl) dX2_momentsUntilChange_7 ⟨(Nat.le_of_ble_eq_true rfl), (Nat.le_of_ble_eq_true rfl)⟩ ?_
  refine b_if_eq (b := lpOk n k) (tgt := 21) hx hb dX2_momentsUntilChange_10 (by decide) (fun c_10 => ?_) (fun c_10 => ?_)
  · refine lv_aload_n hx hb dX2_momentsUntilChange_21 rfl (lv_at hl 0 rfl) ?_
    refine lv_iconst (v := nI 1) hx hb dX2_momentsUntilChange_22 (by decide) ?_
    refine wV (As := [.int (nI 1)]) (rest := []) ⟨hx, hb, hml, hown, hts⟩ (c_X2_no l D cI cZ cL cJ am (nI 0) n now told v ⟨hn8, hnow, hwl⟩ hinj (nI 1)) (cwV 1 hts gX2_momentsUntilChange_X2_no rfl rfl rfl (by decide +kernel) ⟨(Nat.le_of_ble_eq_true rfl), (Nat.le_of_ble_eq_true rfl)⟩) hK (hEA.kept hS.2.1) hP (RC_of (q := (RX2, TX2, 9)) (ci := 2) hK rfl (vpa hP 0 rfl)) rfl hl.1 rfl (Nat.le_of_ble_eq_true rfl) dX2_momentsUntilChange_23 ⟨(Nat.le_of_ble_eq_true rfl), (Nat.le_of_ble_eq_true rfl)⟩ hS (fun q h => h) (fun H locs _ hP _ hk hS => ?_)
    have hP : va_P D vwCl [(am 0, .inr (2, [.int (nI 1), .int (nI now), .int told, .int (nI n), .ref (am 1), .ref (am 2), .ref (am 3), .ref (am 4), .ref (am 5)])), (am 1, .inl (cZ, 8, .inl (fun j => bI (lon (v j))))), (am 2, .inl (cZ, 8, .inl (fun j => bI (lcv (v j))))), (am 3, .inl (cI, 8, .inl (fun j => nI (lbc (v j))))), (am 4, .inl (cI, 32, .inl (fun z => nI (lnu (v (z / 4)) (z % 4))))), (am 5, .inl (cI, 32, .inl (fun z => nI (lof (v (z / 4)) (z % 4)))))] H := hP
    have hD : va_D (AM am) [(am 0, .inr (2, [.int (nI 1), .int (nI now), .int told, .int (nI n), .ref (am 1), .ref (am 2), .ref (am 3), .ref (am 4), .ref (am 5)])), (am 1, .inl (cZ, 8, .inl (fun j => bI (lon (v j))))), (am 2, .inl (cZ, 8, .inl (fun j => bI (lcv (v j))))), (am 3, .inl (cI, 8, .inl (fun j => nI (lbc (v j))))), (am 4, .inl (cI, 32, .inl (fun z => nI (lnu (v (z / 4)) (z % 4))))), (am 5, .inl (cI, 32, .inl (fun z => nI (lof (v (z / 4)) (z % 4)))))] := vd6 hinj
    have hcd : cd1 (lpOk n k) = 1 := (by rw [c_10]; rfl)
    have hend : PM D cI cZ am (nI (cd1 (lpOk n k))) n (now) (told) (v) H := by
      rw [hcd]; exact hP
    refine n_ti (y := (mrI (cd1 (lpOk n k)) (untC (v (ixx k)) now))) (by rw [hcd]; rfl) ?_
    exact W.iret (v := (mrI (cd1 (lpOk n k)) (untC (v (ixx k)) now))) hx hb hr (fun t ht hW => ⟨trivial, rfl, by rw [ht]; exact hend, hS.F ht⟩) hS.2.2 dX2_momentsUntilChange_26
  · obtain ⟨j, hj, rfl⟩ := lpOk_j (by omega) c_10
    refine lv_aload_n hx hb dX2_momentsUntilChange_13 rfl (lv_at hl 0 rfl) ?_
    refine lv_iload_n hx hb dX2_momentsUntilChange_14 rfl (lv_at hl 1 rfl) ?_
    refine rV (r := (untC (v j) now)) (As := [.int (nI j)]) (rest := []) ⟨hx, hb, hml, hown, hts⟩ (c_X2_untilChange l D cI cZ cL cJ am (nI 0) n now told v ⟨hn8, hnow, hwl⟩ j hj) (cwV 1 hts gX2_momentsUntilChange_X2_untilChange rfl rfl rfl (by decide +kernel) ⟨(Nat.le_of_ble_eq_true rfl), (Nat.le_of_ble_eq_true rfl)⟩) hK ((hEA.kept hS.2.1).narrow (fun _ h => h.elim)) hP (RC_of (q := (RX2, TX2, 9)) (ci := 2) hK rfl (vpa hP 0 rfl)) rfl hl.1 rfl (Nat.le_of_ble_eq_true rfl) dX2_momentsUntilChange_15 ⟨(Nat.le_of_ble_eq_true rfl), (Nat.le_of_ble_eq_true rfl)⟩ ?_
    refine lv_goto (tgt := 26) hx hb dX2_momentsUntilChange_18 (by decide) ?_
    have hcd : cd1 (lpOk n (nI j)) = 0 := (cd1_t c_10)
    have hend : PM D cI cZ am (nI (cd1 (lpOk n (nI j)))) n (now) (told) (v) H := by
      rw [hcd]; exact hP
    refine n_ti (y := (mrI (cd1 (lpOk n (nI j))) (untC (v (ixx (nI j))) now))) (by rw [hcd, ixx_nI (by omega)]; rfl) ?_
    exact W.iret (v := (mrI (cd1 (lpOk n (nI j))) (untC (v (ixx (nI j))) now))) hx hb hr (fun t ht hW => ⟨trivial, rfl, by rw [ht]; exact hend, hS.F ht⟩) hS.2.2 dX2_momentsUntilChange_26
set_option maxHeartbeats 4000000 in
set_option maxRecDepth 100000 in
/-- numberOf -/
theorem c_X2_numberOf (l : Launch) (D : va_G) (cI cZ cL cJ : ClassId) (am : Nat → Nat) (th : Int32) (n now : Nat) (told : Int32) (v : Nat → LV) (hwf : WFX n now v) (hinj : Inj 6 am) (k b : Int32) : Met l yX2_numberOf wsX2_numberOf ({ frames := 3, cells := 0, slots := 0, locals := 65 } : Room) (PC D (TY cI cZ cL cJ) (AM am) [.ref (am 0), .int k, .int b] (fun H => PM D cI cZ am th n now told v H)) (QW (AM am) True ((mrI (cd1 (btOk n v k b)) (nI (lnu (v (ixx k)) (ixx b))))) (fun H => PM D cI cZ am (nI (cd1 (btOk n v k b))) n (now) (told) (v) H)) 0 0 (AM am) := by
  refine Met.ofW (cc := cX2_numberOf) (maxL := 3) (ret := (some .int)) (by decide) rfl ?_
  intro p e s m args below meth c s₁ B hml hv
  obtain ⟨rfl, hK, hEA, hP⟩ := hv
  obtain ⟨hn8, hnow, hwl⟩ := hwf
  have hE : EN noA s s.heap := hEA.narrow (fun _ h => h.elim)
  have hS : va_S (AM am) s.heap s.heap [] := va_S.rf
  have hD : va_D (AM am) (mW cI cZ am th n now told v) := vd6 hinj
  have hP : va_P D vwCl (mW cI cZ am th n now told v) s.heap := hP
  have hx := B.exec
  have hb := B.bytes
  have hr := B.returns
  have hts := atoms_spec (ws := wsX2_numberOf) B.pre
  have hown : s.vm.findClass RX2 = some m.cls := findClass_of_methodNamed B.named
  have hlocks := B.notSynchronized
  have hNF := hE.2.1.1
  have hin2 : ∀ w ∈ wsX20, w ∈ wsX2_numberOf := by decide +kernel
  have hl := lv_entry ([.ref (am 0), .int k, .int b]) (n := 3) (Nat.le_of_ble_eq_true rfl)
  rw [lg_entry_eq]
  generalize (lg_sl ([.ref (am 0), .int k, .int b]) ++ List.replicate (3 - (lg_sl ([.ref (am 0), .int k, .int b])).length) Slot.unset).toArray = ls at hl ⊢
  have hl : lv_has ls 3 [(0, .ref (am 0)), (1, .int k), (2, .int b)] := hl
  refine lv_aload_n hx hb dX2_numberOf_0 rfl (lv_at hl 0 rfl) ?_
  refine lv_iconst (v := nI 0) hx hb dX2_numberOf_1 (by decide) ?_
  refine va_put (D := D) (ci := 2) (v := .int (nI 0)) (ty := .int) (C := RX2) (T := TX2) (N := 9) hx hb hts hin2 tyX2 tyX2_ok nmX2 hown hK hP hD hS 0 rfl rfl 0 (by decide) (hts (.fieldLink RX2 26 "LanternPrimesModel" "thrown" "I") (List.mem_of_getElem? (i := 1) rfl)) (fun _ h9 => h9) rfl (by decide +kernel) rfl rfl (Nat.le_of_ble_eq_true rfl) dX2_numberOf_2 (fun H locs hP hD hS => ?_)
  have hP : va_P D vwCl [(am 0, .inr (2, [.int (nI 0), .int (nI now), .int told, .int (nI n), .ref (am 1), .ref (am 2), .ref (am 3), .ref (am 4), .ref (am 5)])), (am 1, .inl (cZ, 8, .inl (fun j => bI (lon (v j))))), (am 2, .inl (cZ, 8, .inl (fun j => bI (lcv (v j))))), (am 3, .inl (cI, 8, .inl (fun j => nI (lbc (v j))))), (am 4, .inl (cI, 32, .inl (fun z => nI (lnu (v (z / 4)) (z % 4))))), (am 5, .inl (cI, 32, .inl (fun z => nI (lof (v (z / 4)) (z % 4)))))] H := hP
  have hD : va_D (AM am) [(am 0, .inr (2, [.int (nI 0), .int (nI now), .int told, .int (nI n), .ref (am 1), .ref (am 2), .ref (am 3), .ref (am 4), .ref (am 5)])), (am 1, .inl (cZ, 8, .inl (fun j => bI (lon (v j))))), (am 2, .inl (cZ, 8, .inl (fun j => bI (lcv (v j))))), (am 3, .inl (cI, 8, .inl (fun j => nI (lbc (v j))))), (am 4, .inl (cI, 32, .inl (fun z => nI (lnu (v (z / 4)) (z % 4))))), (am 5, .inl (cI, 32, .inl (fun z => nI (lof (v (z / 4)) (z % 4)))))] := hD
  refine lv_aload_n hx hb dX2_numberOf_5 rfl (lv_at hl 0 rfl) ?_
  refine lv_iload_n hx hb dX2_numberOf_6 rfl (lv_at hl 1 rfl) ?_
  refine lv_iload_n hx hb dX2_numberOf_7 rfl (lv_at hl 2 rfl) ?_
  refine rV (r := bI (btOk n v k b)) (As := [.int k, .int b]) (rest := []) ⟨hx, hb, hml, hown, hts⟩ (c_X2_isBeat l D cI cZ cL cJ am (nI 0) n now told v ⟨hn8, hnow, hwl⟩ k b) (cwV 2 hts gX2_numberOf_X2_isBeat rfl rfl rfl (by decide +kernel) ⟨(Nat.le_of_ble_eq_true rfl), (Nat.le_of_ble_eq_true rfl)⟩) hK ((hEA.kept hS.2.1).narrow (fun _ h => h.elim)) hP (RC_of (q := (RX2, TX2, 9)) (ci := 2) hK rfl (vpa hP 0 rfl)) rfl hl.1 rfl (Nat.le_of_ble_eq_true rfl) dX2_numberOf_8 ⟨(Nat.le_of_ble_eq_true rfl), (Nat.le_of_ble_eq_true rfl)⟩ ?_
  refine b_if_eq (b := btOk n v k b) (tgt := 27) hx hb dX2_numberOf_11 (by decide) (fun c_11 => ?_) (fun c_11 => ?_)
  · refine lv_aload_n hx hb dX2_numberOf_27 rfl (lv_at hl 0 rfl) ?_
    refine lv_iconst (v := nI 1) hx hb dX2_numberOf_28 (by decide) ?_
    refine wV (As := [.int (nI 1)]) (rest := []) ⟨hx, hb, hml, hown, hts⟩ (c_X2_no l D cI cZ cL cJ am (nI 0) n now told v ⟨hn8, hnow, hwl⟩ hinj (nI 1)) (cwV 1 hts gX2_numberOf_X2_no rfl rfl rfl (by decide +kernel) ⟨(Nat.le_of_ble_eq_true rfl), (Nat.le_of_ble_eq_true rfl)⟩) hK (hEA.kept hS.2.1) hP (RC_of (q := (RX2, TX2, 9)) (ci := 2) hK rfl (vpa hP 0 rfl)) rfl hl.1 rfl (Nat.le_of_ble_eq_true rfl) dX2_numberOf_29 ⟨(Nat.le_of_ble_eq_true rfl), (Nat.le_of_ble_eq_true rfl)⟩ hS (fun q h => h) (fun H locs _ hP _ hk hS => ?_)
    have hP : va_P D vwCl [(am 0, .inr (2, [.int (nI 1), .int (nI now), .int told, .int (nI n), .ref (am 1), .ref (am 2), .ref (am 3), .ref (am 4), .ref (am 5)])), (am 1, .inl (cZ, 8, .inl (fun j => bI (lon (v j))))), (am 2, .inl (cZ, 8, .inl (fun j => bI (lcv (v j))))), (am 3, .inl (cI, 8, .inl (fun j => nI (lbc (v j))))), (am 4, .inl (cI, 32, .inl (fun z => nI (lnu (v (z / 4)) (z % 4))))), (am 5, .inl (cI, 32, .inl (fun z => nI (lof (v (z / 4)) (z % 4)))))] H := hP
    have hD : va_D (AM am) [(am 0, .inr (2, [.int (nI 1), .int (nI now), .int told, .int (nI n), .ref (am 1), .ref (am 2), .ref (am 3), .ref (am 4), .ref (am 5)])), (am 1, .inl (cZ, 8, .inl (fun j => bI (lon (v j))))), (am 2, .inl (cZ, 8, .inl (fun j => bI (lcv (v j))))), (am 3, .inl (cI, 8, .inl (fun j => nI (lbc (v j))))), (am 4, .inl (cI, 32, .inl (fun z => nI (lnu (v (z / 4)) (z % 4))))), (am 5, .inl (cI, 32, .inl (fun z => nI (lof (v (z / 4)) (z % 4)))))] := vd6 hinj
    have hcd : cd1 (btOk n v k b) = 1 := (by rw [c_11]; rfl)
    have hend : PM D cI cZ am (nI (cd1 (btOk n v k b))) n (now) (told) (v) H := by
      rw [hcd]; exact hP
    refine n_ti (y := (mrI (cd1 (btOk n v k b)) (nI (lnu (v (ixx k)) (ixx b))))) (by rw [hcd]; rfl) ?_
    exact W.iret (v := (mrI (cd1 (btOk n v k b)) (nI (lnu (v (ixx k)) (ixx b))))) hx hb hr (fun t ht hW => ⟨trivial, rfl, by rw [ht]; exact hend, hS.F ht⟩) hS.2.2 dX2_numberOf_32
  · obtain ⟨j, i, hj, hi, rfl, rfl⟩ := btOk_j hn8 hwl c_11
    have hw4 := (hwl j (by omega)).1
    refine lv_aload_n hx hb dX2_numberOf_14 rfl (lv_at hl 0 rfl) ?_
    refine va_get (D := D) (ci := 2) (v := .ref (am 4)) (C := RX2) (T := TX2) (N := 9) hx hb hts hin2 hown hK hP 0 rfl rfl 7 (by decide) (hts (.fieldLink RX2 20 "LanternPrimesModel" "number" "[I") (List.mem_of_getElem? (i := 2) rfl)) (fun _ h9 => h9) rfl dX2_numberOf_15 ?_
    refine lv_iconst (v := nI 4) hx hb dX2_numberOf_18 (by decide) ?_
    refine lv_iload_n hx hb dX2_numberOf_19 rfl (lv_at hl 1 rfl) ?_
    refine n_imul (v := nI (4 * j)) hx hb dX2_numberOf_20 (pk_mul _ _) ?_
    refine lv_iload_n hx hb dX2_numberOf_21 rfl (lv_at hl 2 rfl) ?_
    refine n_iadd (v := nI ((4 * j) + i)) hx hb dX2_numberOf_22 (nI_add _ _) ?_
    refine n_iald (v := nI (lnu (v j) i)) (j := (4 * j) + i) hx hb hK hP 4 0 rfl rfl (by omega) (by decide) (by show nI (lnu (v ((4 * j + i) / 4)) ((4 * j + i) % 4)) = _; rw [(idx4 (by omega)).1, (idx4 (by omega)).2]) dX2_numberOf_23 ?_
    refine lv_goto (tgt := 32) hx hb dX2_numberOf_24 (by decide) ?_
    have hcd : cd1 (btOk n v (nI j) (nI i)) = 0 := (cd1_t c_11)
    have hend : PM D cI cZ am (nI (cd1 (btOk n v (nI j) (nI i)))) n (now) (told) (v) H := by
      rw [hcd]; exact hP
    refine n_ti (y := (mrI (cd1 (btOk n v (nI j) (nI i))) (nI (lnu (v (ixx (nI j))) (ixx (nI i)))))) (by rw [hcd, ixx_nI (by omega), ixx_nI (by omega)]; rfl) ?_
    exact W.iret (v := (mrI (cd1 (btOk n v (nI j) (nI i))) (nI (lnu (v (ixx (nI j))) (ixx (nI i)))))) hx hb hr (fun t ht hW => ⟨trivial, rfl, by rw [ht]; exact hend, hS.F ht⟩) hS.2.2 dX2_numberOf_32
set_option maxHeartbeats 4000000 in
set_option maxRecDepth 100000 in
/-- offsetOf -/
theorem c_X2_offsetOf (l : Launch) (D : va_G) (cI cZ cL cJ : ClassId) (am : Nat → Nat) (th : Int32) (n now : Nat) (told : Int32) (v : Nat → LV) (hwf : WFX n now v) (hinj : Inj 6 am) (k b : Int32) : Met l yX2_offsetOf wsX2_offsetOf ({ frames := 3, cells := 0, slots := 0, locals := 65 } : Room) (PC D (TY cI cZ cL cJ) (AM am) [.ref (am 0), .int k, .int b] (fun H => PM D cI cZ am th n now told v H)) (QW (AM am) True ((mrI (cd1 (btOk n v k b)) (nI (lof (v (ixx k)) (ixx b))))) (fun H => PM D cI cZ am (nI (cd1 (btOk n v k b))) n (now) (told) (v) H)) 0 0 (AM am) := by
  refine Met.ofW (cc := cX2_offsetOf) (maxL := 3) (ret := (some .int)) (by decide) rfl ?_
  intro p e s m args below meth c s₁ B hml hv
  obtain ⟨rfl, hK, hEA, hP⟩ := hv
  obtain ⟨hn8, hnow, hwl⟩ := hwf
  have hE : EN noA s s.heap := hEA.narrow (fun _ h => h.elim)
  have hS : va_S (AM am) s.heap s.heap [] := va_S.rf
  have hD : va_D (AM am) (mW cI cZ am th n now told v) := vd6 hinj
  have hP : va_P D vwCl (mW cI cZ am th n now told v) s.heap := hP
  have hx := B.exec
  have hb := B.bytes
  have hr := B.returns
  have hts := atoms_spec (ws := wsX2_offsetOf) B.pre
  have hown : s.vm.findClass RX2 = some m.cls := findClass_of_methodNamed B.named
  have hlocks := B.notSynchronized
  have hNF := hE.2.1.1
  have hin2 : ∀ w ∈ wsX20, w ∈ wsX2_offsetOf := by decide +kernel
  have hl := lv_entry ([.ref (am 0), .int k, .int b]) (n := 3) (Nat.le_of_ble_eq_true rfl)
  rw [lg_entry_eq]
  generalize (lg_sl ([.ref (am 0), .int k, .int b]) ++ List.replicate (3 - (lg_sl ([.ref (am 0), .int k, .int b])).length) Slot.unset).toArray = ls at hl ⊢
  have hl : lv_has ls 3 [(0, .ref (am 0)), (1, .int k), (2, .int b)] := hl
  refine lv_aload_n hx hb dX2_offsetOf_0 rfl (lv_at hl 0 rfl) ?_
  refine lv_iconst (v := nI 0) hx hb dX2_offsetOf_1 (by decide) ?_
  refine va_put (D := D) (ci := 2) (v := .int (nI 0)) (ty := .int) (C := RX2) (T := TX2) (N := 9) hx hb hts hin2 tyX2 tyX2_ok nmX2 hown hK hP hD hS 0 rfl rfl 0 (by decide) (hts (.fieldLink RX2 26 "LanternPrimesModel" "thrown" "I") (List.mem_of_getElem? (i := 1) rfl)) (fun _ h9 => h9) rfl (by decide +kernel) rfl rfl (Nat.le_of_ble_eq_true rfl) dX2_offsetOf_2 (fun H locs hP hD hS => ?_)
  have hP : va_P D vwCl [(am 0, .inr (2, [.int (nI 0), .int (nI now), .int told, .int (nI n), .ref (am 1), .ref (am 2), .ref (am 3), .ref (am 4), .ref (am 5)])), (am 1, .inl (cZ, 8, .inl (fun j => bI (lon (v j))))), (am 2, .inl (cZ, 8, .inl (fun j => bI (lcv (v j))))), (am 3, .inl (cI, 8, .inl (fun j => nI (lbc (v j))))), (am 4, .inl (cI, 32, .inl (fun z => nI (lnu (v (z / 4)) (z % 4))))), (am 5, .inl (cI, 32, .inl (fun z => nI (lof (v (z / 4)) (z % 4)))))] H := hP
  have hD : va_D (AM am) [(am 0, .inr (2, [.int (nI 0), .int (nI now), .int told, .int (nI n), .ref (am 1), .ref (am 2), .ref (am 3), .ref (am 4), .ref (am 5)])), (am 1, .inl (cZ, 8, .inl (fun j => bI (lon (v j))))), (am 2, .inl (cZ, 8, .inl (fun j => bI (lcv (v j))))), (am 3, .inl (cI, 8, .inl (fun j => nI (lbc (v j))))), (am 4, .inl (cI, 32, .inl (fun z => nI (lnu (v (z / 4)) (z % 4))))), (am 5, .inl (cI, 32, .inl (fun z => nI (lof (v (z / 4)) (z % 4)))))] := hD
  refine lv_aload_n hx hb dX2_offsetOf_5 rfl (lv_at hl 0 rfl) ?_
  refine lv_iload_n hx hb dX2_offsetOf_6 rfl (lv_at hl 1 rfl) ?_
  refine lv_iload_n hx hb dX2_offsetOf_7 rfl (lv_at hl 2 rfl) ?_
  refine rV (r := bI (btOk n v k b)) (As := [.int k, .int b]) (rest := []) ⟨hx, hb, hml, hown, hts⟩ (c_X2_isBeat l D cI cZ cL cJ am (nI 0) n now told v ⟨hn8, hnow, hwl⟩ k b) (cwV 2 hts gX2_offsetOf_X2_isBeat rfl rfl rfl (by decide +kernel) ⟨(Nat.le_of_ble_eq_true rfl), (Nat.le_of_ble_eq_true rfl)⟩) hK ((hEA.kept hS.2.1).narrow (fun _ h => h.elim)) hP (RC_of (q := (RX2, TX2, 9)) (ci := 2) hK rfl (vpa hP 0 rfl)) rfl hl.1 rfl (Nat.le_of_ble_eq_true rfl) dX2_offsetOf_8 ⟨(Nat.le_of_ble_eq_true rfl), (Nat.le_of_ble_eq_true rfl)⟩ ?_
  refine b_if_eq (b := btOk n v k b) (tgt := 27) hx hb dX2_offsetOf_11 (by decide) (fun c_11 => ?_) (fun c_11 => ?_)
  · refine lv_aload_n hx hb dX2_offsetOf_27 rfl (lv_at hl 0 rfl) ?_
    refine lv_iconst (v := nI 1) hx hb dX2_offsetOf_28 (by decide) ?_
    refine wV (As := [.int (nI 1)]) (rest := []) ⟨hx, hb, hml, hown, hts⟩ (c_X2_no l D cI cZ cL cJ am (nI 0) n now told v ⟨hn8, hnow, hwl⟩ hinj (nI 1)) (cwV 1 hts gX2_offsetOf_X2_no rfl rfl rfl (by decide +kernel) ⟨(Nat.le_of_ble_eq_true rfl), (Nat.le_of_ble_eq_true rfl)⟩) hK (hEA.kept hS.2.1) hP (RC_of (q := (RX2, TX2, 9)) (ci := 2) hK rfl (vpa hP 0 rfl)) rfl hl.1 rfl (Nat.le_of_ble_eq_true rfl) dX2_offsetOf_29 ⟨(Nat.le_of_ble_eq_true rfl), (Nat.le_of_ble_eq_true rfl)⟩ hS (fun q h => h) (fun H locs _ hP _ hk hS => ?_)
    have hP : va_P D vwCl [(am 0, .inr (2, [.int (nI 1), .int (nI now), .int told, .int (nI n), .ref (am 1), .ref (am 2), .ref (am 3), .ref (am 4), .ref (am 5)])), (am 1, .inl (cZ, 8, .inl (fun j => bI (lon (v j))))), (am 2, .inl (cZ, 8, .inl (fun j => bI (lcv (v j))))), (am 3, .inl (cI, 8, .inl (fun j => nI (lbc (v j))))), (am 4, .inl (cI, 32, .inl (fun z => nI (lnu (v (z / 4)) (z % 4))))), (am 5, .inl (cI, 32, .inl (fun z => nI (lof (v (z / 4)) (z % 4)))))] H := hP
    have hD : va_D (AM am) [(am 0, .inr (2, [.int (nI 1), .int (nI now), .int told, .int (nI n), .ref (am 1), .ref (am 2), .ref (am 3), .ref (am 4), .ref (am 5)])), (am 1, .inl (cZ, 8, .inl (fun j => bI (lon (v j))))), (am 2, .inl (cZ, 8, .inl (fun j => bI (lcv (v j))))), (am 3, .inl (cI, 8, .inl (fun j => nI (lbc (v j))))), (am 4, .inl (cI, 32, .inl (fun z => nI (lnu (v (z / 4)) (z % 4))))), (am 5, .inl (cI, 32, .inl (fun z => nI (lof (v (z / 4)) (z % 4)))))] := vd6 hinj
    have hcd : cd1 (btOk n v k b) = 1 := (by rw [c_11]; rfl)
    have hend : PM D cI cZ am (nI (cd1 (btOk n v k b))) n (now) (told) (v) H := by
      rw [hcd]; exact hP
    refine n_ti (y := (mrI (cd1 (btOk n v k b)) (nI (lof (v (ixx k)) (ixx b))))) (by rw [hcd]; rfl) ?_
    exact W.iret (v := (mrI (cd1 (btOk n v k b)) (nI (lof (v (ixx k)) (ixx b))))) hx hb hr (fun t ht hW => ⟨trivial, rfl, by rw [ht]; exact hend, hS.F ht⟩) hS.2.2 dX2_offsetOf_32
  · obtain ⟨j, i, hj, hi, rfl, rfl⟩ := btOk_j hn8 hwl c_11
    have hw4 := (hwl j (by omega)).1
    refine lv_aload_n hx hb dX2_offsetOf_14 rfl (lv_at hl 0 rfl) ?_
    refine va_get (D := D) (ci := 2) (v := .ref (am 5)) (C := RX2) (T := TX2) (N := 9) hx hb hts hin2 hown hK hP 0 rfl rfl 8 (by decide) (hts (.fieldLink RX2 23 "LanternPrimesModel" "offset" "[I") (List.mem_of_getElem? (i := 2) rfl)) (fun _ h9 => h9) rfl dX2_offsetOf_15 ?_
    refine lv_iconst (v := nI 4) hx hb dX2_offsetOf_18 (by decide) ?_
    refine lv_iload_n hx hb dX2_offsetOf_19 rfl (lv_at hl 1 rfl) ?_
    refine n_imul (v := nI (4 * j)) hx hb dX2_offsetOf_20 (pk_mul _ _) ?_
    refine lv_iload_n hx hb dX2_offsetOf_21 rfl (lv_at hl 2 rfl) ?_
    refine n_iadd (v := nI ((4 * j) + i)) hx hb dX2_offsetOf_22 (nI_add _ _) ?_
    refine n_iald (v := nI (lof (v j) i)) (j := (4 * j) + i) hx hb hK hP 5 0 rfl rfl (by omega) (by decide) (by show nI (lof (v ((4 * j + i) / 4)) ((4 * j + i) % 4)) = _; rw [(idx4 (by omega)).1, (idx4 (by omega)).2]) dX2_offsetOf_23 ?_
    refine lv_goto (tgt := 32) hx hb dX2_offsetOf_24 (by decide) ?_
    have hcd : cd1 (btOk n v (nI j) (nI i)) = 0 := (cd1_t c_11)
    have hend : PM D cI cZ am (nI (cd1 (btOk n v (nI j) (nI i)))) n (now) (told) (v) H := by
      rw [hcd]; exact hP
    refine n_ti (y := (mrI (cd1 (btOk n v (nI j) (nI i))) (nI (lof (v (ixx (nI j))) (ixx (nI i)))))) (by rw [hcd, ixx_nI (by omega), ixx_nI (by omega)]; rfl) ?_
    exact W.iret (v := (mrI (cd1 (btOk n v (nI j) (nI i))) (nI (lof (v (ixx (nI j))) (ixx (nI i)))))) hx hb hr (fun t ht hW => ⟨trivial, rfl, by rw [ht]; exact hend, hS.F ht⟩) hS.2.2 dX2_offsetOf_32
set_option maxHeartbeats 4000000 in
set_option maxRecDepth 100000 in
/-- isOnAt -/
theorem c_X2_isOnAt (l : Launch) (D : va_G) (cI cZ cL cJ : ClassId) (am : Nat → Nat) (th : Int32) (n now : Nat) (told : Int32) (v : Nat → LV) (hwf : WFX n now v) (hinj : Inj 6 am) (k x : Int32) : Met l yX2_isOnAt wsX2_isOnAt ({ frames := 2, cells := 0, slots := 0, locals := 43 } : Room) (PC D (TY cI cZ cL cJ) (AM am) [.ref (am 0), .int k, .int x] (fun H => PM D cI cZ am th n now told v H)) (QW (AM am) True (bI (mrB (cd2 (lpOk n k) (inB (nI 0) (nI 60000) x)) (onB (v (ixx k)) (ixx x)))) (fun H => PM D cI cZ am (nI (cd2 (lpOk n k) (inB (nI 0) (nI 60000) x))) n (now) (told) (v) H)) 0 0 (AM am) := by
  refine Met.ofW (cc := cX2_isOnAt) (maxL := 3) (ret := (some .boolean)) (by decide) rfl ?_
  intro p e s m args below meth c s₁ B hml hv
  obtain ⟨rfl, hK, hEA, hP⟩ := hv
  obtain ⟨hn8, hnow, hwl⟩ := hwf
  have hE : EN noA s s.heap := hEA.narrow (fun _ h => h.elim)
  have hS : va_S (AM am) s.heap s.heap [] := va_S.rf
  have hD : va_D (AM am) (mW cI cZ am th n now told v) := vd6 hinj
  have hP : va_P D vwCl (mW cI cZ am th n now told v) s.heap := hP
  have hx := B.exec
  have hb := B.bytes
  have hr := B.returns
  have hts := atoms_spec (ws := wsX2_isOnAt) B.pre
  have hown : s.vm.findClass RX2 = some m.cls := findClass_of_methodNamed B.named
  have hlocks := B.notSynchronized
  have hNF := hE.2.1.1
  have hin2 : ∀ w ∈ wsX20, w ∈ wsX2_isOnAt := by decide +kernel
  have hl := lv_entry ([.ref (am 0), .int k, .int x]) (n := 3) (Nat.le_of_ble_eq_true rfl)
  rw [lg_entry_eq]
  generalize (lg_sl ([.ref (am 0), .int k, .int x]) ++ List.replicate (3 - (lg_sl ([.ref (am 0), .int k, .int x])).length) Slot.unset).toArray = ls at hl ⊢
  have hl : lv_has ls 3 [(0, .ref (am 0)), (1, .int k), (2, .int x)] := hl
  refine lv_aload_n hx hb dX2_isOnAt_0 rfl (lv_at hl 0 rfl) ?_
  refine lv_iconst (v := nI 0) hx hb dX2_isOnAt_1 (by decide) ?_
  refine va_put (D := D) (ci := 2) (v := .int (nI 0)) (ty := .int) (C := RX2) (T := TX2) (N := 9) hx hb hts hin2 tyX2 tyX2_ok nmX2 hown hK hP hD hS 0 rfl rfl 0 (by decide) (hts (.fieldLink RX2 26 "LanternPrimesModel" "thrown" "I") (List.mem_of_getElem? (i := 1) rfl)) (fun _ h9 => h9) rfl (by decide +kernel) rfl rfl (Nat.le_of_ble_eq_true rfl) dX2_isOnAt_2 (fun H locs hP hD hS => ?_)
  have hP : va_P D vwCl [(am 0, .inr (2, [.int (nI 0), .int (nI now), .int told, .int (nI n), .ref (am 1), .ref (am 2), .ref (am 3), .ref (am 4), .ref (am 5)])), (am 1, .inl (cZ, 8, .inl (fun j => bI (lon (v j))))), (am 2, .inl (cZ, 8, .inl (fun j => bI (lcv (v j))))), (am 3, .inl (cI, 8, .inl (fun j => nI (lbc (v j))))), (am 4, .inl (cI, 32, .inl (fun z => nI (lnu (v (z / 4)) (z % 4))))), (am 5, .inl (cI, 32, .inl (fun z => nI (lof (v (z / 4)) (z % 4)))))] H := hP
  have hD : va_D (AM am) [(am 0, .inr (2, [.int (nI 0), .int (nI now), .int told, .int (nI n), .ref (am 1), .ref (am 2), .ref (am 3), .ref (am 4), .ref (am 5)])), (am 1, .inl (cZ, 8, .inl (fun j => bI (lon (v j))))), (am 2, .inl (cZ, 8, .inl (fun j => bI (lcv (v j))))), (am 3, .inl (cI, 8, .inl (fun j => nI (lbc (v j))))), (am 4, .inl (cI, 32, .inl (fun z => nI (lnu (v (z / 4)) (z % 4))))), (am 5, .inl (cI, 32, .inl (fun z => nI (lof (v (z / 4)) (z % 4)))))] := hD
  refine lv_aload_n hx hb dX2_isOnAt_5 rfl (lv_at hl 0 rfl) ?_
  refine lv_iload_n hx hb dX2_isOnAt_6 rfl (lv_at hl 1 rfl) ?_
  refine rV (r := bI (lpOk n k)) (As := [.int k]) (rest := []) ⟨hx, hb, hml, hown, hts⟩ (c_X2_isLamp l D cI cZ cL cJ am (nI 0) n now told v ⟨hn8, hnow, hwl⟩ k) (cwV 1 hts gX2_isOnAt_X2_isLamp rfl rfl rfl (by decide +kernel) ⟨(Nat.le_of_ble_eq_true rfl), (Nat.le_of_ble_eq_true rfl)⟩) hK ((hEA.kept hS.2.1).narrow (fun _ h => h.elim)) hP (RC_of (q := (RX2, TX2, 9)) (ci := 2) hK rfl (vpa hP 0 rfl)) rfl hl.1 rfl (Nat.le_of_ble_eq_true rfl) dX2_isOnAt_7 ⟨(Nat.le_of_ble_eq_true rfl), (Nat.le_of_ble_eq_true rfl)⟩ ?_
  refine b_if_ne (b := lpOk n k) (tgt := 19) hx hb dX2_isOnAt_10 (by decide) (fun c_10 => ?_) (fun c_10 => ?_)
  · obtain ⟨j, hj, rfl⟩ := lpOk_j (by omega) c_10
    refine lv_iload_n hx hb dX2_isOnAt_19 rfl (lv_at hl 2 rfl) ?_
    refine lv_iconst (v := nI 0) hx hb dX2_isOnAt_20 (by decide) ?_
    refine lv_ldc (v := nI 60000) hx hb hown (hts (.constant RX2 80 (60000)) (List.mem_of_getElem? (i := 2) rfl)) dX2_isOnAt_21 ?_
    refine rS (r := bI (inB (nI 0) (nI 60000) x)) (As := [.int x, .int (nI 0), .int (nI 60000)]) (rest := []) ⟨hx, hb, hml, hown, hts⟩ (c_X2_isIn l D cI cZ cL cJ x (nI 0) (nI 60000)) (va_cwS 3 hts gX2_isOnAt_X2_isIn rfl rfl rfl (by decide +kernel) ⟨(Nat.le_of_ble_eq_true rfl), (Nat.le_of_ble_eq_true rfl)⟩) hK ((hEA.kept hS.2.1).narrow (fun _ h => h.elim)) trivial rfl hl.1 rfl (Nat.le_of_ble_eq_true rfl) dX2_isOnAt_23 ⟨(Nat.le_of_ble_eq_true rfl), (Nat.le_of_ble_eq_true rfl)⟩ ?_
    refine b_if_eq (b := inB (nI 0) (nI 60000) x) (tgt := 38) hx hb dX2_isOnAt_26 (by decide) (fun c_26 => ?_) (fun c_26 => ?_)
    · refine lv_aload_n hx hb dX2_isOnAt_38 rfl (lv_at hl 0 rfl) ?_
      refine lv_iconst (v := nI 2) hx hb dX2_isOnAt_39 (by decide) ?_
      refine wV (As := [.int (nI 2)]) (rest := []) ⟨hx, hb, hml, hown, hts⟩ (c_X2_isNot l D cI cZ cL cJ am (nI 0) n now told v ⟨hn8, hnow, hwl⟩ hinj (nI 2)) (cwV 1 hts gX2_isOnAt_X2_isNot rfl rfl rfl (by decide +kernel) ⟨(Nat.le_of_ble_eq_true rfl), (Nat.le_of_ble_eq_true rfl)⟩) hK (hEA.kept hS.2.1) hP (RC_of (q := (RX2, TX2, 9)) (ci := 2) hK rfl (vpa hP 0 rfl)) rfl hl.1 rfl (Nat.le_of_ble_eq_true rfl) dX2_isOnAt_40 ⟨(Nat.le_of_ble_eq_true rfl), (Nat.le_of_ble_eq_true rfl)⟩ hS (fun q h => h) (fun H locs _ hP _ hk hS => ?_)
      have hP : va_P D vwCl [(am 0, .inr (2, [.int (nI 2), .int (nI now), .int told, .int (nI n), .ref (am 1), .ref (am 2), .ref (am 3), .ref (am 4), .ref (am 5)])), (am 1, .inl (cZ, 8, .inl (fun j => bI (lon (v j))))), (am 2, .inl (cZ, 8, .inl (fun j => bI (lcv (v j))))), (am 3, .inl (cI, 8, .inl (fun j => nI (lbc (v j))))), (am 4, .inl (cI, 32, .inl (fun z => nI (lnu (v (z / 4)) (z % 4))))), (am 5, .inl (cI, 32, .inl (fun z => nI (lof (v (z / 4)) (z % 4)))))] H := hP
      have hD : va_D (AM am) [(am 0, .inr (2, [.int (nI 2), .int (nI now), .int told, .int (nI n), .ref (am 1), .ref (am 2), .ref (am 3), .ref (am 4), .ref (am 5)])), (am 1, .inl (cZ, 8, .inl (fun j => bI (lon (v j))))), (am 2, .inl (cZ, 8, .inl (fun j => bI (lcv (v j))))), (am 3, .inl (cI, 8, .inl (fun j => nI (lbc (v j))))), (am 4, .inl (cI, 32, .inl (fun z => nI (lnu (v (z / 4)) (z % 4))))), (am 5, .inl (cI, 32, .inl (fun z => nI (lof (v (z / 4)) (z % 4)))))] := vd6 hinj
      have hcd : cd2 (lpOk n (nI j)) (inB (nI 0) (nI 60000) x) = 2 := (by rw [c_10, c_26]; rfl)
      have hend : PM D cI cZ am (nI (cd2 (lpOk n (nI j)) (inB (nI 0) (nI 60000) x))) n (now) (told) (v) H := by
        rw [hcd]; exact hP
      refine n_ti (y := bI (mrB (cd2 (lpOk n (nI j)) (inB (nI 0) (nI 60000) x)) (onB (v (ixx (nI j))) (ixx x)))) (by rw [hcd]; rfl) ?_
      exact W.zret (v := bI (mrB (cd2 (lpOk n (nI j)) (inB (nI 0) (nI 60000) x)) (onB (v (ixx (nI j))) (ixx x)))) hx hb hr (bI_narrow _) (fun t ht hW => ⟨trivial, rfl, by rw [ht]; exact hend, hS.F ht⟩) hS.2.2 dX2_isOnAt_43
    · obtain ⟨y, hy1, hy2, rfl⟩ := inB_j (by decide) (by decide) c_26
      refine lv_aload_n hx hb dX2_isOnAt_29 rfl (lv_at hl 0 rfl) ?_
      refine lv_iload_n hx hb dX2_isOnAt_30 rfl (lv_at hl 1 rfl) ?_
      refine lv_iload_n hx hb dX2_isOnAt_31 rfl (lv_at hl 2 rfl) ?_
      refine rV (r := bI (onB (v j) y)) (As := [.int (nI j), .int (nI y)]) (rest := []) ⟨hx, hb, hml, hown, hts⟩ (c_X2_onAt l D cI cZ cL cJ am (nI 0) n now told v ⟨hn8, hnow, hwl⟩ j hj y (by omega)) (cwV 2 hts gX2_isOnAt_X2_onAt rfl rfl rfl (by decide +kernel) ⟨(Nat.le_of_ble_eq_true rfl), (Nat.le_of_ble_eq_true rfl)⟩) hK ((hEA.kept hS.2.1).narrow (fun _ h => h.elim)) hP (RC_of (q := (RX2, TX2, 9)) (ci := 2) hK rfl (vpa hP 0 rfl)) rfl hl.1 rfl (Nat.le_of_ble_eq_true rfl) dX2_isOnAt_32 ⟨(Nat.le_of_ble_eq_true rfl), (Nat.le_of_ble_eq_true rfl)⟩ ?_
      refine lv_goto (tgt := 43) hx hb dX2_isOnAt_35 (by decide) ?_
      have hcd : cd2 (lpOk n (nI j)) (inB (nI 0) (nI 60000) (nI y)) = 0 := (cd2_t c_10 c_26)
      have hend : PM D cI cZ am (nI (cd2 (lpOk n (nI j)) (inB (nI 0) (nI 60000) (nI y)))) n (now) (told) (v) H := by
        rw [hcd]; exact hP
      refine n_ti (y := bI (mrB (cd2 (lpOk n (nI j)) (inB (nI 0) (nI 60000) (nI y))) (onB (v (ixx (nI j))) (ixx (nI y))))) (by rw [hcd, ixx_nI (by omega), ixx_nI (by omega)]; exact (congrArg bI (Bool.true_and _)).symm) ?_
      exact W.zret (v := bI (mrB (cd2 (lpOk n (nI j)) (inB (nI 0) (nI 60000) (nI y))) (onB (v (ixx (nI j))) (ixx (nI y))))) hx hb hr (bI_narrow _) (fun t ht hW => ⟨trivial, rfl, by rw [ht]; exact hend, hS.F ht⟩) hS.2.2 dX2_isOnAt_43
  · refine lv_aload_n hx hb dX2_isOnAt_13 rfl (lv_at hl 0 rfl) ?_
    refine lv_iconst (v := nI 1) hx hb dX2_isOnAt_14 (by decide) ?_
    refine wV (As := [.int (nI 1)]) (rest := []) ⟨hx, hb, hml, hown, hts⟩ (c_X2_isNot l D cI cZ cL cJ am (nI 0) n now told v ⟨hn8, hnow, hwl⟩ hinj (nI 1)) (cwV 1 hts gX2_isOnAt_X2_isNot rfl rfl rfl (by decide +kernel) ⟨(Nat.le_of_ble_eq_true rfl), (Nat.le_of_ble_eq_true rfl)⟩) hK (hEA.kept hS.2.1) hP (RC_of (q := (RX2, TX2, 9)) (ci := 2) hK rfl (vpa hP 0 rfl)) rfl hl.1 rfl (Nat.le_of_ble_eq_true rfl) dX2_isOnAt_15 ⟨(Nat.le_of_ble_eq_true rfl), (Nat.le_of_ble_eq_true rfl)⟩ hS (fun q h => h) (fun H locs _ hP _ hk hS => ?_)
    have hP : va_P D vwCl [(am 0, .inr (2, [.int (nI 1), .int (nI now), .int told, .int (nI n), .ref (am 1), .ref (am 2), .ref (am 3), .ref (am 4), .ref (am 5)])), (am 1, .inl (cZ, 8, .inl (fun j => bI (lon (v j))))), (am 2, .inl (cZ, 8, .inl (fun j => bI (lcv (v j))))), (am 3, .inl (cI, 8, .inl (fun j => nI (lbc (v j))))), (am 4, .inl (cI, 32, .inl (fun z => nI (lnu (v (z / 4)) (z % 4))))), (am 5, .inl (cI, 32, .inl (fun z => nI (lof (v (z / 4)) (z % 4)))))] H := hP
    have hD : va_D (AM am) [(am 0, .inr (2, [.int (nI 1), .int (nI now), .int told, .int (nI n), .ref (am 1), .ref (am 2), .ref (am 3), .ref (am 4), .ref (am 5)])), (am 1, .inl (cZ, 8, .inl (fun j => bI (lon (v j))))), (am 2, .inl (cZ, 8, .inl (fun j => bI (lcv (v j))))), (am 3, .inl (cI, 8, .inl (fun j => nI (lbc (v j))))), (am 4, .inl (cI, 32, .inl (fun z => nI (lnu (v (z / 4)) (z % 4))))), (am 5, .inl (cI, 32, .inl (fun z => nI (lof (v (z / 4)) (z % 4)))))] := vd6 hinj
    have hcd : cd2 (lpOk n k) (inB (nI 0) (nI 60000) x) = 1 := (by rw [c_10]; rfl)
    have hend : PM D cI cZ am (nI (cd2 (lpOk n k) (inB (nI 0) (nI 60000) x))) n (now) (told) (v) H := by
      rw [hcd]; exact hP
    refine n_ti (y := bI (mrB (cd2 (lpOk n k) (inB (nI 0) (nI 60000) x)) (onB (v (ixx k)) (ixx x)))) (by rw [hcd]; rfl) ?_
    exact W.zret (v := bI (mrB (cd2 (lpOk n k) (inB (nI 0) (nI 60000) x)) (onB (v (ixx k)) (ixx x)))) hx hb hr (bI_narrow _) (fun t ht hW => ⟨trivial, rfl, by rw [ht]; exact hend, hS.F ht⟩) hS.2.2 dX2_isOnAt_18
set_option maxHeartbeats 4000000 in
set_option maxRecDepth 100000 in
/-- strikesAt -/
theorem c_X2_strikesAt (l : Launch) (D : va_G) (cI cZ cL cJ : ClassId) (am : Nat → Nat) (th : Int32) (n now : Nat) (told : Int32) (v : Nat → LV) (hwf : WFX n now v) (hinj : Inj 6 am) (k x : Int32) : Met l yX2_strikesAt wsX2_strikesAt ({ frames := 2, cells := 0, slots := 0, locals := 43 } : Room) (PC D (TY cI cZ cL cJ) (AM am) [.ref (am 0), .int k, .int x] (fun H => PM D cI cZ am th n now told v H)) (QW (AM am) True ((mrI (cd2 (lpOk n k) (inB (nI 0) (nI 60000) x)) (nI (strk (v (ixx k)) (ixx x) (lbc (v (ixx k))))))) (fun H => PM D cI cZ am (nI (cd2 (lpOk n k) (inB (nI 0) (nI 60000) x))) n (now) (told) (v) H)) 0 0 (AM am) := by
  refine Met.ofW (cc := cX2_strikesAt) (maxL := 3) (ret := (some .int)) (by decide) rfl ?_
  intro p e s m args below meth c s₁ B hml hv
  obtain ⟨rfl, hK, hEA, hP⟩ := hv
  obtain ⟨hn8, hnow, hwl⟩ := hwf
  have hE : EN noA s s.heap := hEA.narrow (fun _ h => h.elim)
  have hS : va_S (AM am) s.heap s.heap [] := va_S.rf
  have hD : va_D (AM am) (mW cI cZ am th n now told v) := vd6 hinj
  have hP : va_P D vwCl (mW cI cZ am th n now told v) s.heap := hP
  have hx := B.exec
  have hb := B.bytes
  have hr := B.returns
  have hts := atoms_spec (ws := wsX2_strikesAt) B.pre
  have hown : s.vm.findClass RX2 = some m.cls := findClass_of_methodNamed B.named
  have hlocks := B.notSynchronized
  have hNF := hE.2.1.1
  have hin2 : ∀ w ∈ wsX20, w ∈ wsX2_strikesAt := by decide +kernel
  have hl := lv_entry ([.ref (am 0), .int k, .int x]) (n := 3) (Nat.le_of_ble_eq_true rfl)
  rw [lg_entry_eq]
  generalize (lg_sl ([.ref (am 0), .int k, .int x]) ++ List.replicate (3 - (lg_sl ([.ref (am 0), .int k, .int x])).length) Slot.unset).toArray = ls at hl ⊢
  have hl : lv_has ls 3 [(0, .ref (am 0)), (1, .int k), (2, .int x)] := hl
  refine lv_aload_n hx hb dX2_strikesAt_0 rfl (lv_at hl 0 rfl) ?_
  refine lv_iconst (v := nI 0) hx hb dX2_strikesAt_1 (by decide) ?_
  refine va_put (D := D) (ci := 2) (v := .int (nI 0)) (ty := .int) (C := RX2) (T := TX2) (N := 9) hx hb hts hin2 tyX2 tyX2_ok nmX2 hown hK hP hD hS 0 rfl rfl 0 (by decide) (hts (.fieldLink RX2 26 "LanternPrimesModel" "thrown" "I") (List.mem_of_getElem? (i := 1) rfl)) (fun _ h9 => h9) rfl (by decide +kernel) rfl rfl (Nat.le_of_ble_eq_true rfl) dX2_strikesAt_2 (fun H locs hP hD hS => ?_)
  have hP : va_P D vwCl [(am 0, .inr (2, [.int (nI 0), .int (nI now), .int told, .int (nI n), .ref (am 1), .ref (am 2), .ref (am 3), .ref (am 4), .ref (am 5)])), (am 1, .inl (cZ, 8, .inl (fun j => bI (lon (v j))))), (am 2, .inl (cZ, 8, .inl (fun j => bI (lcv (v j))))), (am 3, .inl (cI, 8, .inl (fun j => nI (lbc (v j))))), (am 4, .inl (cI, 32, .inl (fun z => nI (lnu (v (z / 4)) (z % 4))))), (am 5, .inl (cI, 32, .inl (fun z => nI (lof (v (z / 4)) (z % 4)))))] H := hP
  have hD : va_D (AM am) [(am 0, .inr (2, [.int (nI 0), .int (nI now), .int told, .int (nI n), .ref (am 1), .ref (am 2), .ref (am 3), .ref (am 4), .ref (am 5)])), (am 1, .inl (cZ, 8, .inl (fun j => bI (lon (v j))))), (am 2, .inl (cZ, 8, .inl (fun j => bI (lcv (v j))))), (am 3, .inl (cI, 8, .inl (fun j => nI (lbc (v j))))), (am 4, .inl (cI, 32, .inl (fun z => nI (lnu (v (z / 4)) (z % 4))))), (am 5, .inl (cI, 32, .inl (fun z => nI (lof (v (z / 4)) (z % 4)))))] := hD
  refine lv_aload_n hx hb dX2_strikesAt_5 rfl (lv_at hl 0 rfl) ?_
  refine lv_iload_n hx hb dX2_strikesAt_6 rfl (lv_at hl 1 rfl) ?_
  refine rV (r := bI (lpOk n k)) (As := [.int k]) (rest := []) ⟨hx, hb, hml, hown, hts⟩ (c_X2_isLamp l D cI cZ cL cJ am (nI 0) n now told v ⟨hn8, hnow, hwl⟩ k) (cwV 1 hts gX2_strikesAt_X2_isLamp rfl rfl rfl (by decide +kernel) ⟨(Nat.le_of_ble_eq_true rfl), (Nat.le_of_ble_eq_true rfl)⟩) hK ((hEA.kept hS.2.1).narrow (fun _ h => h.elim)) hP (RC_of (q := (RX2, TX2, 9)) (ci := 2) hK rfl (vpa hP 0 rfl)) rfl hl.1 rfl (Nat.le_of_ble_eq_true rfl) dX2_strikesAt_7 ⟨(Nat.le_of_ble_eq_true rfl), (Nat.le_of_ble_eq_true rfl)⟩ ?_
  refine b_if_ne (b := lpOk n k) (tgt := 19) hx hb dX2_strikesAt_10 (by decide) (fun c_10 => ?_) (fun c_10 => ?_)
  · obtain ⟨j, hj, rfl⟩ := lpOk_j (by omega) c_10
    refine lv_iload_n hx hb dX2_strikesAt_19 rfl (lv_at hl 2 rfl) ?_
    refine lv_iconst (v := nI 0) hx hb dX2_strikesAt_20 (by decide) ?_
    refine lv_ldc (v := nI 60000) hx hb hown (hts (.constant RX2 80 (60000)) (List.mem_of_getElem? (i := 2) rfl)) dX2_strikesAt_21 ?_
    refine rS (r := bI (inB (nI 0) (nI 60000) x)) (As := [.int x, .int (nI 0), .int (nI 60000)]) (rest := []) ⟨hx, hb, hml, hown, hts⟩ (c_X2_isIn l D cI cZ cL cJ x (nI 0) (nI 60000)) (va_cwS 3 hts gX2_strikesAt_X2_isIn rfl rfl rfl (by decide +kernel) ⟨(Nat.le_of_ble_eq_true rfl), (Nat.le_of_ble_eq_true rfl)⟩) hK ((hEA.kept hS.2.1).narrow (fun _ h => h.elim)) trivial rfl hl.1 rfl (Nat.le_of_ble_eq_true rfl) dX2_strikesAt_23 ⟨(Nat.le_of_ble_eq_true rfl), (Nat.le_of_ble_eq_true rfl)⟩ ?_
    refine b_if_eq (b := inB (nI 0) (nI 60000) x) (tgt := 38) hx hb dX2_strikesAt_26 (by decide) (fun c_26 => ?_) (fun c_26 => ?_)
    · refine lv_aload_n hx hb dX2_strikesAt_38 rfl (lv_at hl 0 rfl) ?_
      refine lv_iconst (v := nI 2) hx hb dX2_strikesAt_39 (by decide) ?_
      refine wV (As := [.int (nI 2)]) (rest := []) ⟨hx, hb, hml, hown, hts⟩ (c_X2_no l D cI cZ cL cJ am (nI 0) n now told v ⟨hn8, hnow, hwl⟩ hinj (nI 2)) (cwV 1 hts gX2_strikesAt_X2_no rfl rfl rfl (by decide +kernel) ⟨(Nat.le_of_ble_eq_true rfl), (Nat.le_of_ble_eq_true rfl)⟩) hK (hEA.kept hS.2.1) hP (RC_of (q := (RX2, TX2, 9)) (ci := 2) hK rfl (vpa hP 0 rfl)) rfl hl.1 rfl (Nat.le_of_ble_eq_true rfl) dX2_strikesAt_40 ⟨(Nat.le_of_ble_eq_true rfl), (Nat.le_of_ble_eq_true rfl)⟩ hS (fun q h => h) (fun H locs _ hP _ hk hS => ?_)
      have hP : va_P D vwCl [(am 0, .inr (2, [.int (nI 2), .int (nI now), .int told, .int (nI n), .ref (am 1), .ref (am 2), .ref (am 3), .ref (am 4), .ref (am 5)])), (am 1, .inl (cZ, 8, .inl (fun j => bI (lon (v j))))), (am 2, .inl (cZ, 8, .inl (fun j => bI (lcv (v j))))), (am 3, .inl (cI, 8, .inl (fun j => nI (lbc (v j))))), (am 4, .inl (cI, 32, .inl (fun z => nI (lnu (v (z / 4)) (z % 4))))), (am 5, .inl (cI, 32, .inl (fun z => nI (lof (v (z / 4)) (z % 4)))))] H := hP
      have hD : va_D (AM am) [(am 0, .inr (2, [.int (nI 2), .int (nI now), .int told, .int (nI n), .ref (am 1), .ref (am 2), .ref (am 3), .ref (am 4), .ref (am 5)])), (am 1, .inl (cZ, 8, .inl (fun j => bI (lon (v j))))), (am 2, .inl (cZ, 8, .inl (fun j => bI (lcv (v j))))), (am 3, .inl (cI, 8, .inl (fun j => nI (lbc (v j))))), (am 4, .inl (cI, 32, .inl (fun z => nI (lnu (v (z / 4)) (z % 4))))), (am 5, .inl (cI, 32, .inl (fun z => nI (lof (v (z / 4)) (z % 4)))))] := vd6 hinj
      have hcd : cd2 (lpOk n (nI j)) (inB (nI 0) (nI 60000) x) = 2 := (by rw [c_10, c_26]; rfl)
      have hend : PM D cI cZ am (nI (cd2 (lpOk n (nI j)) (inB (nI 0) (nI 60000) x))) n (now) (told) (v) H := by
        rw [hcd]; exact hP
      refine n_ti (y := (mrI (cd2 (lpOk n (nI j)) (inB (nI 0) (nI 60000) x)) (nI (strk (v (ixx (nI j))) (ixx x) (lbc (v (ixx (nI j)))))))) (by rw [hcd]; rfl) ?_
      exact W.iret (v := (mrI (cd2 (lpOk n (nI j)) (inB (nI 0) (nI 60000) x)) (nI (strk (v (ixx (nI j))) (ixx x) (lbc (v (ixx (nI j)))))))) hx hb hr (fun t ht hW => ⟨trivial, rfl, by rw [ht]; exact hend, hS.F ht⟩) hS.2.2 dX2_strikesAt_43
    · obtain ⟨y, hy1, hy2, rfl⟩ := inB_j (by decide) (by decide) c_26
      refine lv_aload_n hx hb dX2_strikesAt_29 rfl (lv_at hl 0 rfl) ?_
      refine lv_iload_n hx hb dX2_strikesAt_30 rfl (lv_at hl 1 rfl) ?_
      refine lv_iload_n hx hb dX2_strikesAt_31 rfl (lv_at hl 2 rfl) ?_
      refine rV (r := nI (strk (v j) y (lbc (v j)))) (As := [.int (nI j), .int (nI y)]) (rest := []) ⟨hx, hb, hml, hown, hts⟩ (c_X2_strikes l D cI cZ cL cJ am (nI 0) n now told v ⟨hn8, hnow, hwl⟩ j hj y (by omega)) (cwV 2 hts gX2_strikesAt_X2_strikes rfl rfl rfl (by decide +kernel) ⟨(Nat.le_of_ble_eq_true rfl), (Nat.le_of_ble_eq_true rfl)⟩) hK ((hEA.kept hS.2.1).narrow (fun _ h => h.elim)) hP (RC_of (q := (RX2, TX2, 9)) (ci := 2) hK rfl (vpa hP 0 rfl)) rfl hl.1 rfl (Nat.le_of_ble_eq_true rfl) dX2_strikesAt_32 ⟨(Nat.le_of_ble_eq_true rfl), (Nat.le_of_ble_eq_true rfl)⟩ ?_
      refine lv_goto (tgt := 43) hx hb dX2_strikesAt_35 (by decide) ?_
      have hcd : cd2 (lpOk n (nI j)) (inB (nI 0) (nI 60000) (nI y)) = 0 := (cd2_t c_10 c_26)
      have hend : PM D cI cZ am (nI (cd2 (lpOk n (nI j)) (inB (nI 0) (nI 60000) (nI y)))) n (now) (told) (v) H := by
        rw [hcd]; exact hP
      refine n_ti (y := (mrI (cd2 (lpOk n (nI j)) (inB (nI 0) (nI 60000) (nI y))) (nI (strk (v (ixx (nI j))) (ixx (nI y)) (lbc (v (ixx (nI j)))))))) (by rw [hcd, ixx_nI (by omega), ixx_nI (by omega)]; rfl) ?_
      exact W.iret (v := (mrI (cd2 (lpOk n (nI j)) (inB (nI 0) (nI 60000) (nI y))) (nI (strk (v (ixx (nI j))) (ixx (nI y)) (lbc (v (ixx (nI j)))))))) hx hb hr (fun t ht hW => ⟨trivial, rfl, by rw [ht]; exact hend, hS.F ht⟩) hS.2.2 dX2_strikesAt_43
  · refine lv_aload_n hx hb dX2_strikesAt_13 rfl (lv_at hl 0 rfl) ?_
    refine lv_iconst (v := nI 1) hx hb dX2_strikesAt_14 (by decide) ?_
    refine wV (As := [.int (nI 1)]) (rest := []) ⟨hx, hb, hml, hown, hts⟩ (c_X2_no l D cI cZ cL cJ am (nI 0) n now told v ⟨hn8, hnow, hwl⟩ hinj (nI 1)) (cwV 1 hts gX2_strikesAt_X2_no rfl rfl rfl (by decide +kernel) ⟨(Nat.le_of_ble_eq_true rfl), (Nat.le_of_ble_eq_true rfl)⟩) hK (hEA.kept hS.2.1) hP (RC_of (q := (RX2, TX2, 9)) (ci := 2) hK rfl (vpa hP 0 rfl)) rfl hl.1 rfl (Nat.le_of_ble_eq_true rfl) dX2_strikesAt_15 ⟨(Nat.le_of_ble_eq_true rfl), (Nat.le_of_ble_eq_true rfl)⟩ hS (fun q h => h) (fun H locs _ hP _ hk hS => ?_)
    have hP : va_P D vwCl [(am 0, .inr (2, [.int (nI 1), .int (nI now), .int told, .int (nI n), .ref (am 1), .ref (am 2), .ref (am 3), .ref (am 4), .ref (am 5)])), (am 1, .inl (cZ, 8, .inl (fun j => bI (lon (v j))))), (am 2, .inl (cZ, 8, .inl (fun j => bI (lcv (v j))))), (am 3, .inl (cI, 8, .inl (fun j => nI (lbc (v j))))), (am 4, .inl (cI, 32, .inl (fun z => nI (lnu (v (z / 4)) (z % 4))))), (am 5, .inl (cI, 32, .inl (fun z => nI (lof (v (z / 4)) (z % 4)))))] H := hP
    have hD : va_D (AM am) [(am 0, .inr (2, [.int (nI 1), .int (nI now), .int told, .int (nI n), .ref (am 1), .ref (am 2), .ref (am 3), .ref (am 4), .ref (am 5)])), (am 1, .inl (cZ, 8, .inl (fun j => bI (lon (v j))))), (am 2, .inl (cZ, 8, .inl (fun j => bI (lcv (v j))))), (am 3, .inl (cI, 8, .inl (fun j => nI (lbc (v j))))), (am 4, .inl (cI, 32, .inl (fun z => nI (lnu (v (z / 4)) (z % 4))))), (am 5, .inl (cI, 32, .inl (fun z => nI (lof (v (z / 4)) (z % 4)))))] := vd6 hinj
    have hcd : cd2 (lpOk n k) (inB (nI 0) (nI 60000) x) = 1 := (by rw [c_10]; rfl)
    have hend : PM D cI cZ am (nI (cd2 (lpOk n k) (inB (nI 0) (nI 60000) x))) n (now) (told) (v) H := by
      rw [hcd]; exact hP
    refine n_ti (y := (mrI (cd2 (lpOk n k) (inB (nI 0) (nI 60000) x)) (nI (strk (v (ixx k)) (ixx x) (lbc (v (ixx k))))))) (by rw [hcd]; rfl) ?_
    exact W.iret (v := (mrI (cd2 (lpOk n k) (inB (nI 0) (nI 60000) x)) (nI (strk (v (ixx k)) (ixx x) (lbc (v (ixx k))))))) hx hb hr (fun t ht hW => ⟨trivial, rfl, by rw [ht]; exact hend, hS.F ht⟩) hS.2.2 dX2_strikesAt_18
set_option maxHeartbeats 4000000 in
set_option maxRecDepth 100000 in
/-- lamps -/
theorem c_X2_lamps (l : Launch) (D : va_G) (cI cZ cL cJ : ClassId) (am : Nat → Nat) (th : Int32) (n now : Nat) (told : Int32) (v : Nat → LV) (hwf : WFX n now v) (hinj : Inj 6 am)  : Met l yX2_lamps wsX2_lamps ({ frames := 0, cells := 0, slots := 0, locals := 0 } : Room) (PC D (TY cI cZ cL cJ) (AM am) [.ref (am 0)] (fun H => PM D cI cZ am th n now told v H)) (QW (AM am) True (nI n) (fun H => PM D cI cZ am (nI (0)) n (now) (told) (v) H)) 0 0 (AM am) := by
  refine Met.ofW (cc := cX2_lamps) (maxL := 1) (ret := (some .int)) (by decide) rfl ?_
  intro p e s m args below meth c s₁ B hml hv
  obtain ⟨rfl, hK, hEA, hP⟩ := hv
  obtain ⟨hn8, hnow, hwl⟩ := hwf
  have hE : EN noA s s.heap := hEA.narrow (fun _ h => h.elim)
  have hS : va_S (AM am) s.heap s.heap [] := va_S.rf
  have hD : va_D (AM am) (mW cI cZ am th n now told v) := vd6 hinj
  have hP : va_P D vwCl (mW cI cZ am th n now told v) s.heap := hP
  have hx := B.exec
  have hb := B.bytes
  have hr := B.returns
  have hts := atoms_spec (ws := wsX2_lamps) B.pre
  have hown : s.vm.findClass RX2 = some m.cls := findClass_of_methodNamed B.named
  have hlocks := B.notSynchronized
  have hNF := hE.2.1.1
  have hin2 : ∀ w ∈ wsX20, w ∈ wsX2_lamps := by decide +kernel
  have hl := lv_entry ([.ref (am 0)]) (n := 1) (Nat.le_of_ble_eq_true rfl)
  rw [lg_entry_eq]
  generalize (lg_sl ([.ref (am 0)]) ++ List.replicate (1 - (lg_sl ([.ref (am 0)])).length) Slot.unset).toArray = ls at hl ⊢
  have hl : lv_has ls 1 [(0, .ref (am 0))] := hl
  refine lv_aload_n hx hb dX2_lamps_0 rfl (lv_at hl 0 rfl) ?_
  refine lv_iconst (v := nI 0) hx hb dX2_lamps_1 (by decide) ?_
  refine va_put (D := D) (ci := 2) (v := .int (nI 0)) (ty := .int) (C := RX2) (T := TX2) (N := 9) hx hb hts hin2 tyX2 tyX2_ok nmX2 hown hK hP hD hS 0 rfl rfl 0 (by decide) (hts (.fieldLink RX2 26 "LanternPrimesModel" "thrown" "I") (List.mem_of_getElem? (i := 1) rfl)) (fun _ h9 => h9) rfl (by decide +kernel) rfl rfl (Nat.le_of_ble_eq_true rfl) dX2_lamps_2 (fun H locs hP hD hS => ?_)
  have hP : va_P D vwCl [(am 0, .inr (2, [.int (nI 0), .int (nI now), .int told, .int (nI n), .ref (am 1), .ref (am 2), .ref (am 3), .ref (am 4), .ref (am 5)])), (am 1, .inl (cZ, 8, .inl (fun j => bI (lon (v j))))), (am 2, .inl (cZ, 8, .inl (fun j => bI (lcv (v j))))), (am 3, .inl (cI, 8, .inl (fun j => nI (lbc (v j))))), (am 4, .inl (cI, 32, .inl (fun z => nI (lnu (v (z / 4)) (z % 4))))), (am 5, .inl (cI, 32, .inl (fun z => nI (lof (v (z / 4)) (z % 4)))))] H := hP
  have hD : va_D (AM am) [(am 0, .inr (2, [.int (nI 0), .int (nI now), .int told, .int (nI n), .ref (am 1), .ref (am 2), .ref (am 3), .ref (am 4), .ref (am 5)])), (am 1, .inl (cZ, 8, .inl (fun j => bI (lon (v j))))), (am 2, .inl (cZ, 8, .inl (fun j => bI (lcv (v j))))), (am 3, .inl (cI, 8, .inl (fun j => nI (lbc (v j))))), (am 4, .inl (cI, 32, .inl (fun z => nI (lnu (v (z / 4)) (z % 4))))), (am 5, .inl (cI, 32, .inl (fun z => nI (lof (v (z / 4)) (z % 4)))))] := hD
  refine lv_aload_n hx hb dX2_lamps_5 rfl (lv_at hl 0 rfl) ?_
  refine va_get (D := D) (ci := 2) (v := .int (nI n)) (C := RX2) (T := TX2) (N := 9) hx hb hts hin2 hown hK hP 0 rfl rfl 3 (by decide) (hts (.fieldLink RX2 30 "LanternPrimesModel" "lamps" "I") (List.mem_of_getElem? (i := 2) rfl)) (fun _ h9 => h9) rfl dX2_lamps_6 ?_
  have hcd : 0 = 0 := rfl
  have hend : PM D cI cZ am (nI (0)) n (now) (told) (v) H := by
    rw [hcd]; exact hP
  exact W.iret (v := nI n) hx hb hr (fun t ht hW => ⟨trivial, rfl, by rw [ht]; exact hend, hS.F ht⟩) hS.2.2 dX2_lamps_9
set_option maxHeartbeats 4000000 in
set_option maxRecDepth 100000 in
/-- now -/
theorem c_X2_now (l : Launch) (D : va_G) (cI cZ cL cJ : ClassId) (am : Nat → Nat) (th : Int32) (n now : Nat) (told : Int32) (v : Nat → LV) (hwf : WFX n now v) (hinj : Inj 6 am)  : Met l yX2_now wsX2_now ({ frames := 0, cells := 0, slots := 0, locals := 0 } : Room) (PC D (TY cI cZ cL cJ) (AM am) [.ref (am 0)] (fun H => PM D cI cZ am th n now told v H)) (QW (AM am) True (nI now) (fun H => PM D cI cZ am (nI (0)) n (now) (told) (v) H)) 0 0 (AM am) := by
  refine Met.ofW (cc := cX2_now) (maxL := 1) (ret := (some .int)) (by decide) rfl ?_
  intro p e s m args below meth c s₁ B hml hv
  obtain ⟨rfl, hK, hEA, hP⟩ := hv
  obtain ⟨hn8, hnow, hwl⟩ := hwf
  have hE : EN noA s s.heap := hEA.narrow (fun _ h => h.elim)
  have hS : va_S (AM am) s.heap s.heap [] := va_S.rf
  have hD : va_D (AM am) (mW cI cZ am th n now told v) := vd6 hinj
  have hP : va_P D vwCl (mW cI cZ am th n now told v) s.heap := hP
  have hx := B.exec
  have hb := B.bytes
  have hr := B.returns
  have hts := atoms_spec (ws := wsX2_now) B.pre
  have hown : s.vm.findClass RX2 = some m.cls := findClass_of_methodNamed B.named
  have hlocks := B.notSynchronized
  have hNF := hE.2.1.1
  have hin2 : ∀ w ∈ wsX20, w ∈ wsX2_now := by decide +kernel
  have hl := lv_entry ([.ref (am 0)]) (n := 1) (Nat.le_of_ble_eq_true rfl)
  rw [lg_entry_eq]
  generalize (lg_sl ([.ref (am 0)]) ++ List.replicate (1 - (lg_sl ([.ref (am 0)])).length) Slot.unset).toArray = ls at hl ⊢
  have hl : lv_has ls 1 [(0, .ref (am 0))] := hl
  refine lv_aload_n hx hb dX2_now_0 rfl (lv_at hl 0 rfl) ?_
  refine lv_iconst (v := nI 0) hx hb dX2_now_1 (by decide) ?_
  refine va_put (D := D) (ci := 2) (v := .int (nI 0)) (ty := .int) (C := RX2) (T := TX2) (N := 9) hx hb hts hin2 tyX2 tyX2_ok nmX2 hown hK hP hD hS 0 rfl rfl 0 (by decide) (hts (.fieldLink RX2 26 "LanternPrimesModel" "thrown" "I") (List.mem_of_getElem? (i := 1) rfl)) (fun _ h9 => h9) rfl (by decide +kernel) rfl rfl (Nat.le_of_ble_eq_true rfl) dX2_now_2 (fun H locs hP hD hS => ?_)
  have hP : va_P D vwCl [(am 0, .inr (2, [.int (nI 0), .int (nI now), .int told, .int (nI n), .ref (am 1), .ref (am 2), .ref (am 3), .ref (am 4), .ref (am 5)])), (am 1, .inl (cZ, 8, .inl (fun j => bI (lon (v j))))), (am 2, .inl (cZ, 8, .inl (fun j => bI (lcv (v j))))), (am 3, .inl (cI, 8, .inl (fun j => nI (lbc (v j))))), (am 4, .inl (cI, 32, .inl (fun z => nI (lnu (v (z / 4)) (z % 4))))), (am 5, .inl (cI, 32, .inl (fun z => nI (lof (v (z / 4)) (z % 4)))))] H := hP
  have hD : va_D (AM am) [(am 0, .inr (2, [.int (nI 0), .int (nI now), .int told, .int (nI n), .ref (am 1), .ref (am 2), .ref (am 3), .ref (am 4), .ref (am 5)])), (am 1, .inl (cZ, 8, .inl (fun j => bI (lon (v j))))), (am 2, .inl (cZ, 8, .inl (fun j => bI (lcv (v j))))), (am 3, .inl (cI, 8, .inl (fun j => nI (lbc (v j))))), (am 4, .inl (cI, 32, .inl (fun z => nI (lnu (v (z / 4)) (z % 4))))), (am 5, .inl (cI, 32, .inl (fun z => nI (lof (v (z / 4)) (z % 4)))))] := hD
  refine lv_aload_n hx hb dX2_now_5 rfl (lv_at hl 0 rfl) ?_
  refine va_get (D := D) (ci := 2) (v := .int (nI now)) (C := RX2) (T := TX2) (N := 9) hx hb hts hin2 hown hK hP 0 rfl rfl 1 (by decide) (hts (.fieldLink RX2 59 "LanternPrimesModel" "now" "I") (List.mem_of_getElem? (i := 2) rfl)) (fun _ h9 => h9) rfl dX2_now_6 ?_
  have hcd : 0 = 0 := rfl
  have hend : PM D cI cZ am (nI (0)) n (now) (told) (v) H := by
    rw [hcd]; exact hP
  exact W.iret (v := nI now) hx hb hr (fun t ht hW => ⟨trivial, rfl, by rw [ht]; exact hend, hS.F ht⟩) hS.2.2 dX2_now_9
set_option maxHeartbeats 4000000 in
set_option maxRecDepth 100000 in
/-- changesSeen -/
theorem c_X2_changesSeen (l : Launch) (D : va_G) (cI cZ cL cJ : ClassId) (am : Nat → Nat) (th : Int32) (n now : Nat) (told : Int32) (v : Nat → LV) (hwf : WFX n now v) (hinj : Inj 6 am)  : Met l yX2_changesSeen wsX2_changesSeen ({ frames := 0, cells := 0, slots := 0, locals := 0 } : Room) (PC D (TY cI cZ cL cJ) (AM am) [.ref (am 0)] (fun H => PM D cI cZ am th n now told v H)) (QW (AM am) True (told) (fun H => PM D cI cZ am (nI (0)) n (now) (told) (v) H)) 0 0 (AM am) := by
  refine Met.ofW (cc := cX2_changesSeen) (maxL := 1) (ret := (some .int)) (by decide) rfl ?_
  intro p e s m args below meth c s₁ B hml hv
  obtain ⟨rfl, hK, hEA, hP⟩ := hv
  obtain ⟨hn8, hnow, hwl⟩ := hwf
  have hE : EN noA s s.heap := hEA.narrow (fun _ h => h.elim)
  have hS : va_S (AM am) s.heap s.heap [] := va_S.rf
  have hD : va_D (AM am) (mW cI cZ am th n now told v) := vd6 hinj
  have hP : va_P D vwCl (mW cI cZ am th n now told v) s.heap := hP
  have hx := B.exec
  have hb := B.bytes
  have hr := B.returns
  have hts := atoms_spec (ws := wsX2_changesSeen) B.pre
  have hown : s.vm.findClass RX2 = some m.cls := findClass_of_methodNamed B.named
  have hlocks := B.notSynchronized
  have hNF := hE.2.1.1
  have hin2 : ∀ w ∈ wsX20, w ∈ wsX2_changesSeen := by decide +kernel
  have hl := lv_entry ([.ref (am 0)]) (n := 1) (Nat.le_of_ble_eq_true rfl)
  rw [lg_entry_eq]
  generalize (lg_sl ([.ref (am 0)]) ++ List.replicate (1 - (lg_sl ([.ref (am 0)])).length) Slot.unset).toArray = ls at hl ⊢
  have hl : lv_has ls 1 [(0, .ref (am 0))] := hl
  refine lv_aload_n hx hb dX2_changesSeen_0 rfl (lv_at hl 0 rfl) ?_
  refine lv_iconst (v := nI 0) hx hb dX2_changesSeen_1 (by decide) ?_
  refine va_put (D := D) (ci := 2) (v := .int (nI 0)) (ty := .int) (C := RX2) (T := TX2) (N := 9) hx hb hts hin2 tyX2 tyX2_ok nmX2 hown hK hP hD hS 0 rfl rfl 0 (by decide) (hts (.fieldLink RX2 26 "LanternPrimesModel" "thrown" "I") (List.mem_of_getElem? (i := 1) rfl)) (fun _ h9 => h9) rfl (by decide +kernel) rfl rfl (Nat.le_of_ble_eq_true rfl) dX2_changesSeen_2 (fun H locs hP hD hS => ?_)
  have hP : va_P D vwCl [(am 0, .inr (2, [.int (nI 0), .int (nI now), .int told, .int (nI n), .ref (am 1), .ref (am 2), .ref (am 3), .ref (am 4), .ref (am 5)])), (am 1, .inl (cZ, 8, .inl (fun j => bI (lon (v j))))), (am 2, .inl (cZ, 8, .inl (fun j => bI (lcv (v j))))), (am 3, .inl (cI, 8, .inl (fun j => nI (lbc (v j))))), (am 4, .inl (cI, 32, .inl (fun z => nI (lnu (v (z / 4)) (z % 4))))), (am 5, .inl (cI, 32, .inl (fun z => nI (lof (v (z / 4)) (z % 4)))))] H := hP
  have hD : va_D (AM am) [(am 0, .inr (2, [.int (nI 0), .int (nI now), .int told, .int (nI n), .ref (am 1), .ref (am 2), .ref (am 3), .ref (am 4), .ref (am 5)])), (am 1, .inl (cZ, 8, .inl (fun j => bI (lon (v j))))), (am 2, .inl (cZ, 8, .inl (fun j => bI (lcv (v j))))), (am 3, .inl (cI, 8, .inl (fun j => nI (lbc (v j))))), (am 4, .inl (cI, 32, .inl (fun z => nI (lnu (v (z / 4)) (z % 4))))), (am 5, .inl (cI, 32, .inl (fun z => nI (lof (v (z / 4)) (z % 4)))))] := hD
  refine lv_aload_n hx hb dX2_changesSeen_5 rfl (lv_at hl 0 rfl) ?_
  refine va_get (D := D) (ci := 2) (v := .int told) (C := RX2) (T := TX2) (N := 9) hx hb hts hin2 hown hK hP 0 rfl rfl 2 (by decide) (hts (.fieldLink RX2 74 "LanternPrimesModel" "seen" "I") (List.mem_of_getElem? (i := 2) rfl)) (fun _ h9 => h9) rfl dX2_changesSeen_6 ?_
  have hcd : 0 = 0 := rfl
  have hend : PM D cI cZ am (nI (0)) n (now) (told) (v) H := by
    rw [hcd]; exact hP
  exact W.iret (v := told) hx hb hr (fun t ht hW => ⟨trivial, rfl, by rw [ht]; exact hend, hS.F ht⟩) hS.2.2 dX2_changesSeen_9
set_option maxHeartbeats 4000000 in
set_option maxRecDepth 100000 in
/-- litLamps -/
theorem c_X2_litLamps (l : Launch) (D : va_G) (cI cZ cL cJ : ClassId) (am : Nat → Nat) (th : Int32) (n now : Nat) (told : Int32) (v : Nat → LV) (hwf : WFX n now v) (hinj : Inj 6 am)  : Met l yX2_litLamps wsX2_litLamps ({ frames := 2, cells := 0, slots := 0, locals := 48 } : Room) (PC D (TY cI cZ cL cJ) (AM am) [.ref (am 0)] (fun H => PM D cI cZ am th n now told v H)) (QW (AM am) True (nI (litN v n now)) (fun H => PM D cI cZ am (nI (0)) n (now) (told) (v) H)) 0 0 (AM am) := by
  refine Met.ofW (cc := cX2_litLamps) (maxL := 1) (ret := (some .int)) (by decide) rfl ?_
  intro p e s m args below meth c s₁ B hml hv
  obtain ⟨rfl, hK, hEA, hP⟩ := hv
  obtain ⟨hn8, hnow, hwl⟩ := hwf
  have hE : EN noA s s.heap := hEA.narrow (fun _ h => h.elim)
  have hS : va_S (AM am) s.heap s.heap [] := va_S.rf
  have hD : va_D (AM am) (mW cI cZ am th n now told v) := vd6 hinj
  have hP : va_P D vwCl (mW cI cZ am th n now told v) s.heap := hP
  have hx := B.exec
  have hb := B.bytes
  have hr := B.returns
  have hts := atoms_spec (ws := wsX2_litLamps) B.pre
  have hown : s.vm.findClass RX2 = some m.cls := findClass_of_methodNamed B.named
  have hlocks := B.notSynchronized
  have hNF := hE.2.1.1
  have hin2 : ∀ w ∈ wsX20, w ∈ wsX2_litLamps := by decide +kernel
  have hl := lv_entry ([.ref (am 0)]) (n := 1) (Nat.le_of_ble_eq_true rfl)
  rw [lg_entry_eq]
  generalize (lg_sl ([.ref (am 0)]) ++ List.replicate (1 - (lg_sl ([.ref (am 0)])).length) Slot.unset).toArray = ls at hl ⊢
  have hl : lv_has ls 1 [(0, .ref (am 0))] := hl
  refine lv_aload_n hx hb dX2_litLamps_0 rfl (lv_at hl 0 rfl) ?_
  refine lv_iconst (v := nI 0) hx hb dX2_litLamps_1 (by decide) ?_
  refine va_put (D := D) (ci := 2) (v := .int (nI 0)) (ty := .int) (C := RX2) (T := TX2) (N := 9) hx hb hts hin2 tyX2 tyX2_ok nmX2 hown hK hP hD hS 0 rfl rfl 0 (by decide) (hts (.fieldLink RX2 26 "LanternPrimesModel" "thrown" "I") (List.mem_of_getElem? (i := 1) rfl)) (fun _ h9 => h9) rfl (by decide +kernel) rfl rfl (Nat.le_of_ble_eq_true rfl) dX2_litLamps_2 (fun H locs hP hD hS => ?_)
  have hP : va_P D vwCl [(am 0, .inr (2, [.int (nI 0), .int (nI now), .int told, .int (nI n), .ref (am 1), .ref (am 2), .ref (am 3), .ref (am 4), .ref (am 5)])), (am 1, .inl (cZ, 8, .inl (fun j => bI (lon (v j))))), (am 2, .inl (cZ, 8, .inl (fun j => bI (lcv (v j))))), (am 3, .inl (cI, 8, .inl (fun j => nI (lbc (v j))))), (am 4, .inl (cI, 32, .inl (fun z => nI (lnu (v (z / 4)) (z % 4))))), (am 5, .inl (cI, 32, .inl (fun z => nI (lof (v (z / 4)) (z % 4)))))] H := hP
  have hD : va_D (AM am) [(am 0, .inr (2, [.int (nI 0), .int (nI now), .int told, .int (nI n), .ref (am 1), .ref (am 2), .ref (am 3), .ref (am 4), .ref (am 5)])), (am 1, .inl (cZ, 8, .inl (fun j => bI (lon (v j))))), (am 2, .inl (cZ, 8, .inl (fun j => bI (lcv (v j))))), (am 3, .inl (cI, 8, .inl (fun j => nI (lbc (v j))))), (am 4, .inl (cI, 32, .inl (fun z => nI (lnu (v (z / 4)) (z % 4))))), (am 5, .inl (cI, 32, .inl (fun z => nI (lof (v (z / 4)) (z % 4)))))] := hD
  refine lv_aload_n hx hb dX2_litLamps_5 rfl (lv_at hl 0 rfl) ?_
  refine lv_aload_n hx hb dX2_litLamps_6 rfl (lv_at hl 0 rfl) ?_
  refine va_get (D := D) (ci := 2) (v := .int (nI now)) (C := RX2) (T := TX2) (N := 9) hx hb hts hin2 hown hK hP 0 rfl rfl 1 (by decide) (hts (.fieldLink RX2 59 "LanternPrimesModel" "now" "I") (List.mem_of_getElem? (i := 2) rfl)) (fun _ h9 => h9) rfl dX2_litLamps_7 ?_
  refine lv_iconst (v := (-1)) hx hb dX2_litLamps_10 (by decide) ?_
  refine rV (r := nI (ltN v n (-1) now)) (As := [.int (nI now), .int (-1)]) (rest := []) ⟨hx, hb, hml, hown, hts⟩ (c_X2_litAt l D cI cZ cL cJ am (nI 0) n now told v ⟨hn8, hnow, hwl⟩ (now) (by omega) (-1)) (cwV 2 hts gX2_litLamps_X2_litAt rfl rfl rfl (by decide +kernel) ⟨(Nat.le_of_ble_eq_true rfl), (Nat.le_of_ble_eq_true rfl)⟩) hK ((hEA.kept hS.2.1).narrow (fun _ h => h.elim)) hP (RC_of (q := (RX2, TX2, 9)) (ci := 2) hK rfl (vpa hP 0 rfl)) rfl hl.1 rfl (Nat.le_of_ble_eq_true rfl) dX2_litLamps_11 ⟨(Nat.le_of_ble_eq_true rfl), (Nat.le_of_ble_eq_true rfl)⟩ ?_
  have hcd : 0 = 0 := rfl
  have hend : PM D cI cZ am (nI (0)) n (now) (told) (v) H := by
    rw [hcd]; exact hP
  refine n_ti (y := nI (litN v n now)) (by rw [ltN_all hn8]) ?_
  exact W.iret (v := nI (litN v n now)) hx hb hr (fun t ht hW => ⟨trivial, rfl, by rw [ht]; exact hend, hS.F ht⟩) hS.2.2 dX2_litLamps_14
set_option maxHeartbeats 4000000 in
set_option maxRecDepth 100000 in
/-- isDark -/
theorem c_X2_isDark (l : Launch) (D : va_G) (cI cZ cL cJ : ClassId) (am : Nat → Nat) (th : Int32) (n now : Nat) (told : Int32) (v : Nat → LV) (hwf : WFX n now v) (hinj : Inj 6 am)  : Met l yX2_isDark wsX2_isDark ({ frames := 2, cells := 0, slots := 0, locals := 48 } : Room) (PC D (TY cI cZ cL cJ) (AM am) [.ref (am 0)] (fun H => PM D cI cZ am th n now told v H)) (QW (AM am) True (bI (dkB v n (-1) now)) (fun H => PM D cI cZ am (nI (0)) n (now) (told) (v) H)) 0 0 (AM am) := by
  refine Met.ofW (cc := cX2_isDark) (maxL := 1) (ret := (some .boolean)) (by decide) rfl ?_
  intro p e s m args below meth c s₁ B hml hv
  obtain ⟨rfl, hK, hEA, hP⟩ := hv
  obtain ⟨hn8, hnow, hwl⟩ := hwf
  have hE : EN noA s s.heap := hEA.narrow (fun _ h => h.elim)
  have hS : va_S (AM am) s.heap s.heap [] := va_S.rf
  have hD : va_D (AM am) (mW cI cZ am th n now told v) := vd6 hinj
  have hP : va_P D vwCl (mW cI cZ am th n now told v) s.heap := hP
  have hx := B.exec
  have hb := B.bytes
  have hr := B.returns
  have hts := atoms_spec (ws := wsX2_isDark) B.pre
  have hown : s.vm.findClass RX2 = some m.cls := findClass_of_methodNamed B.named
  have hlocks := B.notSynchronized
  have hNF := hE.2.1.1
  have hin2 : ∀ w ∈ wsX20, w ∈ wsX2_isDark := by decide +kernel
  have hl := lv_entry ([.ref (am 0)]) (n := 1) (Nat.le_of_ble_eq_true rfl)
  rw [lg_entry_eq]
  generalize (lg_sl ([.ref (am 0)]) ++ List.replicate (1 - (lg_sl ([.ref (am 0)])).length) Slot.unset).toArray = ls at hl ⊢
  have hl : lv_has ls 1 [(0, .ref (am 0))] := hl
  refine lv_aload_n hx hb dX2_isDark_0 rfl (lv_at hl 0 rfl) ?_
  refine lv_iconst (v := nI 0) hx hb dX2_isDark_1 (by decide) ?_
  refine va_put (D := D) (ci := 2) (v := .int (nI 0)) (ty := .int) (C := RX2) (T := TX2) (N := 9) hx hb hts hin2 tyX2 tyX2_ok nmX2 hown hK hP hD hS 0 rfl rfl 0 (by decide) (hts (.fieldLink RX2 26 "LanternPrimesModel" "thrown" "I") (List.mem_of_getElem? (i := 1) rfl)) (fun _ h9 => h9) rfl (by decide +kernel) rfl rfl (Nat.le_of_ble_eq_true rfl) dX2_isDark_2 (fun H locs hP hD hS => ?_)
  have hP : va_P D vwCl [(am 0, .inr (2, [.int (nI 0), .int (nI now), .int told, .int (nI n), .ref (am 1), .ref (am 2), .ref (am 3), .ref (am 4), .ref (am 5)])), (am 1, .inl (cZ, 8, .inl (fun j => bI (lon (v j))))), (am 2, .inl (cZ, 8, .inl (fun j => bI (lcv (v j))))), (am 3, .inl (cI, 8, .inl (fun j => nI (lbc (v j))))), (am 4, .inl (cI, 32, .inl (fun z => nI (lnu (v (z / 4)) (z % 4))))), (am 5, .inl (cI, 32, .inl (fun z => nI (lof (v (z / 4)) (z % 4)))))] H := hP
  have hD : va_D (AM am) [(am 0, .inr (2, [.int (nI 0), .int (nI now), .int told, .int (nI n), .ref (am 1), .ref (am 2), .ref (am 3), .ref (am 4), .ref (am 5)])), (am 1, .inl (cZ, 8, .inl (fun j => bI (lon (v j))))), (am 2, .inl (cZ, 8, .inl (fun j => bI (lcv (v j))))), (am 3, .inl (cI, 8, .inl (fun j => nI (lbc (v j))))), (am 4, .inl (cI, 32, .inl (fun z => nI (lnu (v (z / 4)) (z % 4))))), (am 5, .inl (cI, 32, .inl (fun z => nI (lof (v (z / 4)) (z % 4)))))] := hD
  refine lv_aload_n hx hb dX2_isDark_5 rfl (lv_at hl 0 rfl) ?_
  refine lv_aload_n hx hb dX2_isDark_6 rfl (lv_at hl 0 rfl) ?_
  refine va_get (D := D) (ci := 2) (v := .int (nI now)) (C := RX2) (T := TX2) (N := 9) hx hb hts hin2 hown hK hP 0 rfl rfl 1 (by decide) (hts (.fieldLink RX2 59 "LanternPrimesModel" "now" "I") (List.mem_of_getElem? (i := 2) rfl)) (fun _ h9 => h9) rfl dX2_isDark_7 ?_
  refine lv_iconst (v := (-1)) hx hb dX2_isDark_10 (by decide) ?_
  refine rV (r := nI (ltN v n (-1) now)) (As := [.int (nI now), .int (-1)]) (rest := []) ⟨hx, hb, hml, hown, hts⟩ (c_X2_litAt l D cI cZ cL cJ am (nI 0) n now told v ⟨hn8, hnow, hwl⟩ (now) (by omega) (-1)) (cwV 2 hts gX2_isDark_X2_litAt rfl rfl rfl (by decide +kernel) ⟨(Nat.le_of_ble_eq_true rfl), (Nat.le_of_ble_eq_true rfl)⟩) hK ((hEA.kept hS.2.1).narrow (fun _ h => h.elim)) hP (RC_of (q := (RX2, TX2, 9)) (ci := 2) hK rfl (vpa hP 0 rfl)) rfl hl.1 rfl (Nat.le_of_ble_eq_true rfl) dX2_isDark_11 ⟨(Nat.le_of_ble_eq_true rfl), (Nat.le_of_ble_eq_true rfl)⟩ ?_
  refine n_if_ne (a := ltN v n (-1) now) (tgt := 21) hx hb (Nat.lt_of_le_of_lt (cnt_le _ _) (by omega)) dX2_isDark_14 (by decide) (fun c_14 => ?_) (fun c_14 => ?_)
  · refine lv_iconst (v := nI 0) hx hb dX2_isDark_21 (by decide) ?_
    have hcd : 0 = 0 := rfl
    have hend : PM D cI cZ am (nI (0)) n (now) (told) (v) H := by
      rw [hcd]; exact hP
    refine n_ti (y := bI (dkB v n (-1) now)) (by unfold dkB; first | (rw [decide_eq_true c_14]; rfl) | (rw [decide_eq_false c_14]; rfl)) ?_
    exact W.zret (v := bI (dkB v n (-1) now)) hx hb hr (bI_narrow _) (fun t ht hW => ⟨trivial, rfl, by rw [ht]; exact hend, hS.F ht⟩) hS.2.2 dX2_isDark_22
  · refine lv_iconst (v := nI 1) hx hb dX2_isDark_17 (by decide) ?_
    refine lv_goto (tgt := 22) hx hb dX2_isDark_18 (by decide) ?_
    have hcd : 0 = 0 := rfl
    have hend : PM D cI cZ am (nI (0)) n (now) (told) (v) H := by
      rw [hcd]; exact hP
    refine n_ti (y := bI (dkB v n (-1) now)) (by unfold dkB; first | (rw [decide_eq_true c_14]; rfl) | (rw [decide_eq_false c_14]; rfl)) ?_
    exact W.zret (v := bI (dkB v n (-1) now)) hx hb hr (bI_narrow _) (fun t ht hW => ⟨trivial, rfl, by rw [ht]; exact hend, hS.F ht⟩) hS.2.2 dX2_isDark_22
