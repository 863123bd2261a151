set_option maxHeartbeats 4000000 in
set_option maxRecDepth 100000 in
/-- addLamp -/
theorem c_X1_addLamp (l : Launch) (D : va_G) (cI cZ cL cJ : ClassId) (hst : l.stackTraces = false) (ad : Nat → Nat) (n now : Nat) (told : Int32) (v : Nat → LV) (hwf : WFX n now v) (hinj : Inj 29 ad) (b : Bool) : vx_Met l yX1_addLamp wsX1_addLamp ({ frames := 6, cells := 1, slots := 6, locals := 90 } : Room) (PC D (TY cI cZ cL cJ) (AX ad) [.ref (ad 0), .int (bI b)] (fun H => PX D cI cL ad n now told v H)) (QW (AX ad) (cd1 (decide (n < 8)) = 0) (nI n) (PX D cI cL ad (n + 1) now told (updv v n (setOn (v n) b)))) (XC1 (fun E => exC [tISE] (cd1 (decide (n < 8))) E)) 1 6 (AX ad) := by
  refine vx_ofW (cc := cX1_addLamp) (maxL := 2) (ret := (some .int)) (by decide) rfl ?_
  intro p e s m args below meth c s₁ B hml hex hv
  obtain ⟨rfl, hK, hEA, hP0, hPL⟩ := hv
  obtain ⟨hn8, hnow, hwl⟩ := hwf
  have hE : EN noA s s.heap := hEA.narrow (fun _ h => h.elim)
  have hx := B.exec
  have hb := B.bytes
  have hr := B.returns
  have hts := atoms_spec (ws := wsX1_addLamp) B.pre
  have hown : s.vm.findClass RX1 = some m.cls := findClass_of_methodNamed B.named
  have hlocks := B.notSynchronized
  have hNF := hE.2.1.1
  have hin0 : ∀ w ∈ wsX00, w ∈ wsX1_addLamp := by decide +kernel
  have hin1 : ∀ w ∈ wsX10, w ∈ wsX1_addLamp := by decide +kernel
  have hl := lv_entry ([.ref (ad 0), .int (bI b)]) (n := 2) (Nat.le_of_ble_eq_true rfl)
  rw [lg_entry_eq]
  generalize (lg_sl ([.ref (ad 0), .int (bI b)]) ++ List.replicate (2 - (lg_sl ([.ref (ad 0), .int (bI b)])).length) Slot.unset).toArray = ls at hl ⊢
  have hl : lv_has ls 2 [(0, .ref (ad 0)), (1, .int (bI b))] := hl
  refine lv_aload_n hx hb dX1_addLamp_0 rfl (lv_at hl 0 rfl) ?_
  refine va_get (D := D) (ci := 1) (v := .int (nI n)) (C := RX1) (T := TX1) (N := 5) hx hb hts hin1 hown hK hP0 0 rfl rfl 2 (by decide) (hts (.fieldLink RX1 20 "LanternPrimes" "lampCount" "I") (List.mem_of_getElem? (i := 3) rfl)) (fun _ h9 => h9) rfl dX1_addLamp_1 ?_
  refine lv_bipush (v := nI 8) hx hb dX1_addLamp_4 (by decide) ?_
  refine n_icmp_lt (a := n) (b := 8) (tgt := 19) hx hb (by omega) (by omega) dX1_addLamp_6 (by decide) (fun c_6 => ?_) (fun c_6 => ?_)
  · refine lv_aload_n hx hb dX1_addLamp_19 rfl (lv_at hl 0 rfl) ?_
    refine va_get (D := D) (ci := 1) (v := .ref (ad 1)) (C := RX1) (T := TX1) (N := 5) hx hb hts hin1 hown hK hP0 0 rfl rfl 0 (by decide) (hts (.fieldLink RX1 11 "LanternPrimes" "row" "[LLanternPrimes$Lamp;") (List.mem_of_getElem? (i := 4) rfl)) (fun _ h9 => h9) rfl dX1_addLamp_20 ?_
    refine lv_aload_n hx hb dX1_addLamp_23 rfl (lv_at hl 0 rfl) ?_
    refine va_get (D := D) (ci := 1) (v := .int (nI n)) (C := RX1) (T := TX1) (N := 5) hx hb hts hin1 hown hK hP0 0 rfl rfl 2 (by decide) (hts (.fieldLink RX1 20 "LanternPrimes" "lampCount" "I") (List.mem_of_getElem? (i := 3) rfl)) (fun _ h9 => h9) rfl dX1_addLamp_24 ?_
    refine n_aald (v := ad (2 + 3 * n)) (j := n) hx hb hK hP0 1 2 rfl rfl (by omega) (by decide) rfl dX1_addLamp_27 ?_
    have hP : va_P D vwCl [(ad 0, .inr (1, [.ref (ad 1), .ref (ad 26), .int (nI n), .int (nI now), .int told])), (ad (2 + 3 * n), .inr (0, [.ref (ad (3 + 3 * n)), .ref (ad (4 + 3 * n)), .int (nI (lbc (v n))), .int (bI (lon (v n))), .int (bI (lcv (v n)))])), (ad (3 + 3 * n), .inl (cI, 8, .inl (fun i => nI (lnu (v n) i)))), (ad (4 + 3 * n), .inl (cI, 8, .inl (fun i => nI (lof (v n) i))))] s.heap := vpc (hP0 0 _ rfl) (hPL n (by omega))
    have hD : va_D (AJ ad n) [(ad 0, .inr (1, [.ref (ad 1), .ref (ad 26), .int (nI n), .int (nI now), .int told])), (ad (2 + 3 * n), .inr (0, [.ref (ad (3 + 3 * n)), .ref (ad (4 + 3 * n)), .int (nI (lbc (v n))), .int (bI (lon (v n))), .int (bI (lcv (v n)))])), (ad (3 + 3 * n), .inl (cI, 8, .inl (fun i => nI (lnu (v n) i)))), (ad (4 + 3 * n), .inl (cI, 8, .inl (fun i => nI (lof (v n) i))))] := vd4 hinj (by omega)
    have hS : va_S (AJ ad n) s.heap s.heap [] := va_S.rf
    refine lv_iload_n hx hb dX1_addLamp_28 rfl (lv_at hl 1 rfl) ?_
    refine va_putN (D := D) (ci := 0) (v := .int (bI b)) (ty := .boolean) (C := RX0) (T := TX0) (N := 5) hx hb hts hin0 tyX0 tyX0_ok nmX0 hown hK hP hD hS 1 rfl rfl 3 (by decide) (va_Nw.use rfl (hNF _ (List.mem_of_getElem? (i := 0) rfl))) (fun _ h9 => h9) rfl (by decide +kernel) (bI_narrow _) (bI_fits _) (Nat.le_of_ble_eq_true rfl) dX1_addLamp_29 (fun H locs hP hD hS => ?_)
    have hP : va_P D vwCl [(ad 0, .inr (1, [.ref (ad 1), .ref (ad 26), .int (nI n), .int (nI now), .int told])), (ad (2 + 3 * n), .inr (0, [.ref (ad (3 + 3 * n)), .ref (ad (4 + 3 * n)), .int (nI (lbc (v n))), .int (bI b), .int (bI (lcv (v n)))])), (ad (3 + 3 * n), .inl (cI, 8, .inl (fun i => nI (lnu (v n) i)))), (ad (4 + 3 * n), .inl (cI, 8, .inl (fun i => nI (lof (v n) i))))] H := hP
    have hD : va_D (AJ ad n) [(ad 0, .inr (1, [.ref (ad 1), .ref (ad 26), .int (nI n), .int (nI now), .int told])), (ad (2 + 3 * n), .inr (0, [.ref (ad (3 + 3 * n)), .ref (ad (4 + 3 * n)), .int (nI (lbc (v n))), .int (bI b), .int (bI (lcv (v n)))])), (ad (3 + 3 * n), .inl (cI, 8, .inl (fun i => nI (lnu (v n) i)))), (ad (4 + 3 * n), .inl (cI, 8, .inl (fun i => nI (lof (v n) i))))] := hD
    refine lv_aload_n hx hb dX1_addLamp_32 rfl (lv_at hl 0 rfl) ?_
    refine lv_dup hx hb dX1_addLamp_33 rfl ?_
    refine va_get (D := D) (ci := 1) (v := .int (nI n)) (C := RX1) (T := TX1) (N := 5) hx hb hts hin1 hown hK hP 0 rfl rfl 2 (by decide) (hts (.fieldLink RX1 20 "LanternPrimes" "lampCount" "I") (List.mem_of_getElem? (i := 3) rfl)) (fun _ h9 => h9) rfl dX1_addLamp_34 ?_
    refine lv_iconst (v := nI 1) hx hb dX1_addLamp_37 (by decide) ?_
    refine n_iadd (v := nI (n + 1)) hx hb dX1_addLamp_38 (nI_add _ _) ?_
    refine va_put (D := D) (ci := 1) (v := .int (nI (n + 1))) (ty := .int) (C := RX1) (T := TX1) (N := 5) hx hb hts hin1 tyX1 tyX1_ok nmX1 hown hK hP hD hS 0 rfl rfl 2 (by decide) (hts (.fieldLink RX1 20 "LanternPrimes" "lampCount" "I") (List.mem_of_getElem? (i := 3) rfl)) (fun _ h9 => h9) rfl (by decide +kernel) rfl rfl (Nat.le_of_ble_eq_true rfl) dX1_addLamp_39 (fun H locs hP hD hS => ?_)
    have hP : va_P D vwCl [(ad 0, .inr (1, [.ref (ad 1), .ref (ad 26), .int (nI (n + 1)), .int (nI now), .int told])), (ad (2 + 3 * n), .inr (0, [.ref (ad (3 + 3 * n)), .ref (ad (4 + 3 * n)), .int (nI (lbc (v n))), .int (bI b), .int (bI (lcv (v n)))])), (ad (3 + 3 * n), .inl (cI, 8, .inl (fun i => nI (lnu (v n) i)))), (ad (4 + 3 * n), .inl (cI, 8, .inl (fun i => nI (lof (v n) i))))] H := hP
    have hD : va_D (AJ ad n) [(ad 0, .inr (1, [.ref (ad 1), .ref (ad 26), .int (nI (n + 1)), .int (nI now), .int told])), (ad (2 + 3 * n), .inr (0, [.ref (ad (3 + 3 * n)), .ref (ad (4 + 3 * n)), .int (nI (lbc (v n))), .int (bI b), .int (bI (lcv (v n)))])), (ad (3 + 3 * n), .inl (cI, 8, .inl (fun i => nI (lnu (v n) i)))), (ad (4 + 3 * n), .inl (cI, 8, .inl (fun i => nI (lof (v n) i))))] := hD
    refine lv_aload_n hx hb dX1_addLamp_42 rfl (lv_at hl 0 rfl) ?_
    refine va_get (D := D) (ci := 1) (v := .int (nI (n + 1))) (C := RX1) (T := TX1) (N := 5) hx hb hts hin1 hown hK hP 0 rfl rfl 2 (by decide) (hts (.fieldLink RX1 20 "LanternPrimes" "lampCount" "I") (List.mem_of_getElem? (i := 3) rfl)) (fun _ h9 => h9) rfl dX1_addLamp_43 ?_
    refine lv_iconst (v := nI 1) hx hb dX1_addLamp_46 (by decide) ?_
    refine n_isub (v := nI ((n + 1) - 1)) hx hb dX1_addLamp_47 (pk_sub (by omega)) ?_
    refine n_ti (y := nI n) (by rw [Nat.add_sub_cancel]) ?_
    refine vx_ret ?_
    refine W.widen (k := 1) (n := 6) (Nat.le_of_ble_eq_true rfl) (Nat.le_of_ble_eq_true rfl) ?_
    exact W.iret (v := nI n) hx hb hr (fun t ht hW => ⟨(cd1_t (decide_eq_true c_6)), rfl, by rw [ht]; exact PX_end hinj (by omega) ⟨hP0, hPL⟩ hP hS, va_F_mono (hS.F ht) (AJ_AX (by omega))⟩) (fun q hq => (AJ_AX (by omega)) q.base (hS.2.2 q hq)) dX1_addLamp_48
  · exact xthrow xISE fISE gISE nISE hx hb hst hown (hts (.classLink RX1 24 "java/lang/IllegalStateException") (List.mem_of_getElem? (i := 1) rfl)) (hts (.initialized "java/lang/IllegalStateException") (List.mem_of_getElem? (i := 2) rfl)) (List.mem_of_getElem? (i := 0) rfl) (fun w h => hts w (List.mem_cons_of_mem _ (List.mem_append_right _ h))) hE (hl.1.trans hml.symm) dX1_addLamp_9 dX1_addLamp_12 dX1_addLamp_13 dX1_addLamp_15 dX1_addLamp_18 hex (Nat.le_of_ble_eq_true rfl) (Nat.le_of_ble_eq_true rfl) (Nat.le_of_ble_eq_true rfl) (Nat.le_of_ble_eq_true rfl) hlocks (ex1 (decide_eq_false (by omega))) (Nat.le_of_ble_eq_true rfl) (Nat.le_of_ble_eq_true rfl)
set_option maxHeartbeats 4000000 in
set_option maxRecDepth 100000 in
/-- addBeat -/
theorem c_X1_addBeat (l : Launch) (D : va_G) (cI cZ cL cJ : ClassId) (hst : l.stackTraces = false) (ad : Nat → Nat) (n now : Nat) (told : Int32) (v : Nat → LV) (hwf : WFX n now v) (hinj : Inj 29 ad) (k x o : Int32) : vx_Met l yX1_addBeat wsX1_addBeat ({ frames := 7, cells := 4, slots := 24, locals := 106 } : Room) (PC D (TY cI cZ cL cJ) (AX ad) [.ref (ad 0), .int k, .int x, .int o] (fun H => PX D cI cL ad n now told v H)) (QW (AX ad) (cd3 (lpOk n k) (prB x && rgOk o x) (decide (lbc (v (ixx k)) < 4)) = 0) (nI (lbc (v (ixx k)))) (PX D cI cL ad n now told (updv v (ixx k) (addL (v (ixx k)) (ixx x) (ixx o))))) (XC1 (fun E => exC [tIOB, tIAE, tISE] (cd3 (lpOk n k) (prB x && rgOk o x) (decide (lbc (v (ixx k)) < 4))) E)) 4 24 (AX ad) := by
  refine vx_ofW (cc := cX1_addBeat) (maxL := 5) (ret := (some .int)) (by decide) rfl ?_
  intro p e s m args below meth c s₁ B hml hex hv
  obtain ⟨rfl, hK, hEA, hP0, hPL⟩ := hv
  obtain ⟨hn8, hnow, hwl⟩ := hwf
  have hE : EN noA s s.heap := hEA.narrow (fun _ h => h.elim)
  have hx := B.exec
  have hb := B.bytes
  have hr := B.returns
  have hts := atoms_spec (ws := wsX1_addBeat) B.pre
  have hown : s.vm.findClass RX1 = some m.cls := findClass_of_methodNamed B.named
  have hlocks := B.notSynchronized
  have hNF := hE.2.1.1
  have hin0 : ∀ w ∈ wsX00, w ∈ wsX1_addBeat := by decide +kernel
  have hin1 : ∀ w ∈ wsX10, w ∈ wsX1_addBeat := by decide +kernel
  have hl := lv_entry ([.ref (ad 0), .int k, .int x, .int o]) (n := 5) (Nat.le_of_ble_eq_true rfl)
  rw [lg_entry_eq]
  generalize (lg_sl ([.ref (ad 0), .int k, .int x, .int o]) ++ List.replicate (5 - (lg_sl ([.ref (ad 0), .int k, .int x, .int o])).length) Slot.unset).toArray = ls at hl ⊢
  have hl : lv_has ls 5 [(0, .ref (ad 0)), (1, .int k), (2, .int x), (3, .int o)] := hl
  refine lv_aload_n hx hb dX1_addBeat_0 rfl (lv_at hl 0 rfl) ?_
  refine lv_iload_n hx hb dX1_addBeat_1 rfl (lv_at hl 1 rfl) ?_
  refine xVp (As := [.int k]) (rest := []) ⟨hx, hb, hml, hown, hts⟩ (c_X1_needLamp l D cI cZ cL cJ hst ad n now told v ⟨hn8, hnow, hwl⟩ k) (cwV 1 hts gX1_addBeat_X1_needLamp rfl rfl rfl (by decide +kernel) ⟨(Nat.le_of_ble_eq_true rfl), (Nat.le_of_ble_eq_true rfl)⟩) hK hE ⟨hP0, hPL⟩ (RC_of (q := (RX1, TX1, 5)) (ci := 1) hK rfl (vpa hP0 0 rfl)) rfl hl.1 rfl (Nat.le_of_ble_eq_true rfl) dX1_addBeat_2 ⟨(Nat.le_of_ble_eq_true rfl), (Nat.le_of_ble_eq_true rfl)⟩ hex hlocks (fun E h => by rw [h.1]; exact ex3a h.2) (Nat.le_of_ble_eq_true rfl) (Nat.le_of_ble_eq_true rfl) (fun hok => ?_)
  obtain ⟨j, hj, rfl⟩ := lpOk_j (by omega) hok
  refine lv_iload_n hx hb dX1_addBeat_5 rfl (lv_at hl 2 rfl) ?_
  refine xSp (As := [.int x]) (rest := []) ⟨hx, hb, hml, hown, hts⟩ (c_X1_needNumber l D cI cZ cL cJ hst x) (va_cwS 1 hts gX1_addBeat_X1_needNumber rfl rfl rfl (by decide +kernel) ⟨(Nat.le_of_ble_eq_true rfl), (Nat.le_of_ble_eq_true rfl)⟩) hK hE trivial rfl hl.1 rfl (Nat.le_of_ble_eq_true rfl) dX1_addBeat_6 ⟨(Nat.le_of_ble_eq_true rfl), (Nat.le_of_ble_eq_true rfl)⟩ hex hlocks (fun E h => by rw [h.1]; exact ex3b hok (and_f1 h.2)) (Nat.le_of_ble_eq_true rfl) (Nat.le_of_ble_eq_true rfl) (fun hok2 => ?_)
  obtain ⟨z, hz, rfl⟩ := prB_t.mp hok2
  have hz13 := isP_le (NUMf_P hz)
  refine lv_iload_n hx hb dX1_addBeat_9 rfl (lv_at hl 3 rfl) ?_
  refine lv_iload_n hx hb dX1_addBeat_10 rfl (lv_at hl 2 rfl) ?_
  refine xSp (As := [.int o, .int (nI (NUMf z))]) (rest := []) ⟨hx, hb, hml, hown, hts⟩ (c_X1_needOffset l D cI cZ cL cJ hst o (nI (NUMf z))) (va_cwS 2 hts gX1_addBeat_X1_needOffset rfl rfl rfl (by decide +kernel) ⟨(Nat.le_of_ble_eq_true rfl), (Nat.le_of_ble_eq_true rfl)⟩) hK hE trivial rfl hl.1 rfl (Nat.le_of_ble_eq_true rfl) dX1_addBeat_11 ⟨(Nat.le_of_ble_eq_true rfl), (Nat.le_of_ble_eq_true rfl)⟩ hex hlocks (fun E h => by rw [h.1]; exact ex3b hok (and_f2 h.2)) (Nat.le_of_ble_eq_true rfl) (Nat.le_of_ble_eq_true rfl) (fun hok3 => ?_)
  obtain ⟨y, hy, rfl⟩ := rgOk_j (by omega) hok3
  refine lv_aload_n hx hb dX1_addBeat_14 rfl (lv_at hl 0 rfl) ?_
  refine va_get (D := D) (ci := 1) (v := .ref (ad 1)) (C := RX1) (T := TX1) (N := 5) hx hb hts hin1 hown hK hP0 0 rfl rfl 0 (by decide) (hts (.fieldLink RX1 11 "LanternPrimes" "row" "[LLanternPrimes$Lamp;") (List.mem_of_getElem? (i := 3) rfl)) (fun _ h9 => h9) rfl dX1_addBeat_15 ?_
  refine lv_iload_n hx hb dX1_addBeat_18 rfl (lv_at hl 1 rfl) ?_
  refine n_aald (v := ad (2 + 3 * j)) (j := j) hx hb hK hP0 1 2 rfl rfl (by omega) (by decide) rfl dX1_addBeat_19 ?_
  have hP : va_P D vwCl [(ad 0, .inr (1, [.ref (ad 1), .ref (ad 26), .int (nI n), .int (nI now), .int told])), (ad (2 + 3 * j), .inr (0, [.ref (ad (3 + 3 * j)), .ref (ad (4 + 3 * j)), .int (nI (lbc (v j))), .int (bI (lon (v j))), .int (bI (lcv (v j)))])), (ad (3 + 3 * j), .inl (cI, 8, .inl (fun i => nI (lnu (v j) i)))), (ad (4 + 3 * j), .inl (cI, 8, .inl (fun i => nI (lof (v j) i))))] s.heap := vpc (hP0 0 _ rfl) (hPL j (by omega))
  have hD : va_D (AJ ad j) [(ad 0, .inr (1, [.ref (ad 1), .ref (ad 26), .int (nI n), .int (nI now), .int told])), (ad (2 + 3 * j), .inr (0, [.ref (ad (3 + 3 * j)), .ref (ad (4 + 3 * j)), .int (nI (lbc (v j))), .int (bI (lon (v j))), .int (bI (lcv (v j)))])), (ad (3 + 3 * j), .inl (cI, 8, .inl (fun i => nI (lnu (v j) i)))), (ad (4 + 3 * j), .inl (cI, 8, .inl (fun i => nI (lof (v j) i))))] := vd4 hinj (by omega)
  have hS : va_S (AJ ad j) s.heap s.heap [] := va_S.rf
  refine lv_astore (lv' := [(4, .ref (ad (2 + 3 * j))), (0, .ref (ad 0)), (1, .int (nI j)), (2, .int (nI (NUMf z))), (3, .int (nI y))]) hx hb dX1_addBeat_20 hl (by decide) rfl (fun ls hl => ?_)
  refine lv_aload hx hb dX1_addBeat_22 (lv_at hl 0 rfl) ?_
  refine va_getN (D := D) (ci := 0) (v := .int (nI (lbc (v j)))) (C := RX0) (T := TX0) (N := 5) hx hb hts hin0 hown hK hP 1 rfl rfl 2 (by decide) (va_Nw.use rfl (hNF _ (List.mem_of_getElem? (i := 1) rfl))) (fun _ h9 => h9) rfl dX1_addBeat_24 ?_
  refine lv_iconst (v := nI 4) hx hb dX1_addBeat_27 (by decide) ?_
  refine n_icmp_lt (a := lbc (v j)) (b := 4) (tgt := 41) hx hb (by have := (hwl j (by omega)).1; omega) (by omega) dX1_addBeat_28 (by decide) (fun c_28 => ?_) (fun c_28 => ?_)
  · refine lv_aload hx hb dX1_addBeat_41 (lv_at hl 0 rfl) ?_
    refine lv_iload_n hx hb dX1_addBeat_43 rfl (lv_at hl 3 rfl) ?_
    refine lv_iload_n hx hb dX1_addBeat_44 rfl (lv_at hl 4 rfl) ?_
    refine wVv (As := [.int (nI (NUMf z)), .int (nI y)]) (rest := []) ⟨hx, hb, hml, hown, hts⟩ (c_X0_append l D cI cZ cL cJ (ad (2 + 3 * j)) (ad (3 + 3 * j)) (ad (4 + 3 * j)) (v j) (lpN3 hinj (by omega)).1 (lpN3 hinj (by omega)).2.1 (lpN3 hinj (by omega)).2.2 (by omega) (NUMf z) y) (cwV 2 hts gX1_addBeat_X0_append rfl rfl rfl (by decide +kernel) ⟨(Nat.le_of_ble_eq_true rfl), (Nat.le_of_ble_eq_true rfl)⟩) hK ((hEA.narrow (AJ_AX (by omega))).narrow AJ_lp) (hPL j (by omega)) (RC_of (q := (RX0, TX0, 5)) (ci := 0) hK rfl (vpa (hPL j (by omega)) 0 rfl)) rfl hl.1 rfl (Nat.le_of_ble_eq_true rfl) dX1_addBeat_45 ⟨(Nat.le_of_ble_eq_true rfl), (Nat.le_of_ble_eq_true rfl)⟩ hS AJ_lp (fun H locs hQ _ hk hS => ?_)
    have hP : va_P D vwCl ((ad 0, .inr (1, [.ref (ad 1), .ref (ad 26), .int (nI n), .int (nI now), .int told])) :: lampW cI (ad (2 + 3 * j)) (ad (3 + 3 * j)) (ad (4 + 3 * j)) (addL (v j) (NUMf z) y)) H := vpc ((hP0 0 _ rfl).kept (hk _ (hP0 0 _ rfl).lt (fun z => by have := hinj.ne (i := 0) (j := 2 + 3 * j) (by omega) (by omega) (by omega); have := hinj.ne (i := 0) (j := 3 + 3 * j) (by omega) (by omega) (by omega); have := hinj.ne (i := 0) (j := 4 + 3 * j) (by omega) (by omega) (by omega); simp_all))) hQ
    refine lv_aload hx hb dX1_addBeat_48 (lv_at hl 0 rfl) ?_
    refine va_getN (D := D) (ci := 0) (v := .int (nI (lbc (addL (v j) (NUMf z) y)))) (C := RX0) (T := TX0) (N := 5) hx hb hts hin0 hown hK hP 1 rfl rfl 2 (by decide) (va_Nw.use rfl (hNF _ (List.mem_of_getElem? (i := 1) rfl))) (fun _ h9 => h9) rfl dX1_addBeat_50 ?_
    refine lv_iconst (v := nI 1) hx hb dX1_addBeat_53 (by decide) ?_
    refine n_isub (v := nI (lbc (v j))) hx hb dX1_addBeat_54 (by show nI (lbc (v j) + 1) - nI 1 = nI (lbc (v j)); rw [pk_sub (by omega), Nat.add_sub_cancel]) ?_
    refine n_ti (y := nI (lbc (v (ixx (nI j))))) (by rw [ixx_nI (by omega)]) ?_
    refine vx_ret ?_
    refine W.widen (k := 4) (n := 24) (Nat.le_of_ble_eq_true rfl) (Nat.le_of_ble_eq_true rfl) ?_
    exact W.iret (v := nI (lbc (v (ixx (nI j))))) hx hb hr (fun t ht hW => ⟨(cd3_t hok (and_t hok2 hok3) (by rw [ixx_nI (by omega)]; exact decide_eq_true c_28)), rfl, by rw [ht]; rw [ixx_nI (by omega), ixx_nI (by omega), ixx_nI (by omega)]; exact PX_end hinj (by omega) ⟨hP0, hPL⟩ hP hS, va_F_mono (hS.F ht) (AJ_AX (by omega))⟩) (fun q hq => (AJ_AX (by omega)) q.base (hS.2.2 q hq)) dX1_addBeat_55
  · exact xthrow xISE fISE gISE nISE hx hb hst hown (hts (.classLink RX1 24 "java/lang/IllegalStateException") (List.mem_of_getElem? (i := 1) rfl)) (hts (.initialized "java/lang/IllegalStateException") (List.mem_of_getElem? (i := 2) rfl)) (List.mem_of_getElem? (i := 1) rfl) (fun w h => hts w (List.mem_cons_of_mem _ (List.mem_append_left _ (List.mem_append_left _ (List.mem_append_right _ h))))) hE (hl.1.trans hml.symm) dX1_addBeat_31 dX1_addBeat_34 dX1_addBeat_35 dX1_addBeat_37 dX1_addBeat_40 hex (Nat.le_of_ble_eq_true rfl) (Nat.le_of_ble_eq_true rfl) (Nat.le_of_ble_eq_true rfl) (Nat.le_of_ble_eq_true rfl) hlocks (ex3c hok (and_t hok2 hok3) (by rw [ixx_nI (by omega)]; exact decide_eq_false (by omega))) (Nat.le_of_ble_eq_true rfl) (Nat.le_of_ble_eq_true rfl)
set_option maxHeartbeats 4000000 in
set_option maxRecDepth 100000 in
/-- moveBeat -/
theorem c_X1_moveBeat (l : Launch) (D : va_G) (cI cZ cL cJ : ClassId) (hst : l.stackTraces = false) (ad : Nat → Nat) (n now : Nat) (told : Int32) (v : Nat → LV) (hwf : WFX n now v) (hinj : Inj 29 ad) (k b o : Int32) : vx_Met l yX1_moveBeat wsX1_moveBeat ({ frames := 8, cells := 3, slots := 18, locals := 125 } : Room) (PC D (TY cI cZ cL cJ) (AX ad) [.ref (ad 0), .int k, .int b, .int o] (fun H => PX D cI cL ad n now told v H)) (QW (AX ad) (cd2 (btOk n v k b) (rgOk o (nI (lnu (v (ixx k)) (ixx b)))) = 0) (nI (lof (v (ixx k)) (ixx b))) (PX D cI cL ad n now told (updv v (ixx k) (setOf (v (ixx k)) (ixx b) (ixx o))))) (XC1 (fun E => exC [tIOB, tIAE] (cd2 (btOk n v k b) (rgOk o (nI (lnu (v (ixx k)) (ixx b))))) E)) 3 18 (AX ad) := by
  refine vx_ofW (cc := cX1_moveBeat) (maxL := 6) (ret := (some .int)) (by decide) rfl ?_
  intro p e s m args below meth c s₁ B hml hex hv
  obtain ⟨rfl, hK, hEA, hP0, hPL⟩ := hv
  obtain ⟨hn8, hnow, hwl⟩ := hwf
  have hE : EN noA s s.heap := hEA.narrow (fun _ h => h.elim)
  have hx := B.exec
  have hb := B.bytes
  have hr := B.returns
  have hts := atoms_spec (ws := wsX1_moveBeat) B.pre
  have hown : s.vm.findClass RX1 = some m.cls := findClass_of_methodNamed B.named
  have hlocks := B.notSynchronized
  have hNF := hE.2.1.1
  have hin0 : ∀ w ∈ wsX00, w ∈ wsX1_moveBeat := by decide +kernel
  have hin1 : ∀ w ∈ wsX10, w ∈ wsX1_moveBeat := by decide +kernel
  have hl := lv_entry ([.ref (ad 0), .int k, .int b, .int o]) (n := 6) (Nat.le_of_ble_eq_true rfl)
  rw [lg_entry_eq]
  generalize (lg_sl ([.ref (ad 0), .int k, .int b, .int o]) ++ List.replicate (6 - (lg_sl ([.ref (ad 0), .int k, .int b, .int o])).length) Slot.unset).toArray = ls at hl ⊢
  have hl : lv_has ls 6 [(0, .ref (ad 0)), (1, .int k), (2, .int b), (3, .int o)] := hl
  refine lv_aload_n hx hb dX1_moveBeat_0 rfl (lv_at hl 0 rfl) ?_
  refine lv_iload_n hx hb dX1_moveBeat_1 rfl (lv_at hl 1 rfl) ?_
  refine lv_iload_n hx hb dX1_moveBeat_2 rfl (lv_at hl 2 rfl) ?_
  refine xVp (As := [.int k, .int b]) (rest := []) ⟨hx, hb, hml, hown, hts⟩ (c_X1_needBeat l D cI cZ cL cJ hst ad n now told v ⟨hn8, hnow, hwl⟩ k b) (cwV 2 hts gX1_moveBeat_X1_needBeat rfl rfl rfl (by decide +kernel) ⟨(Nat.le_of_ble_eq_true rfl), (Nat.le_of_ble_eq_true rfl)⟩) hK hE ⟨hP0, hPL⟩ (RC_of (q := (RX1, TX1, 5)) (ci := 1) hK rfl (vpa hP0 0 rfl)) rfl hl.1 rfl (Nat.le_of_ble_eq_true rfl) dX1_moveBeat_3 ⟨(Nat.le_of_ble_eq_true rfl), (Nat.le_of_ble_eq_true rfl)⟩ hex hlocks (fun E h => by rw [h.1]; exact ex2a h.2) (Nat.le_of_ble_eq_true rfl) (Nat.le_of_ble_eq_true rfl) (fun hok => ?_)
  obtain ⟨j, i, hj, hi, rfl, rfl⟩ := btOk_j hn8 hwl hok
  have hw4 := (hwl j (by omega)).1
  refine lv_aload_n hx hb dX1_moveBeat_6 rfl (lv_at hl 0 rfl) ?_
  refine va_get (D := D) (ci := 1) (v := .ref (ad 1)) (C := RX1) (T := TX1) (N := 5) hx hb hts hin1 hown hK hP0 0 rfl rfl 0 (by decide) (hts (.fieldLink RX1 11 "LanternPrimes" "row" "[LLanternPrimes$Lamp;") (List.mem_of_getElem? (i := 1) rfl)) (fun _ h9 => h9) rfl dX1_moveBeat_7 ?_
  refine lv_iload_n hx hb dX1_moveBeat_10 rfl (lv_at hl 1 rfl) ?_
  refine n_aald (v := ad (2 + 3 * j)) (j := j) hx hb hK hP0 1 2 rfl rfl (by omega) (by decide) rfl dX1_moveBeat_11 ?_
  have hP : va_P D vwCl [(ad 0, .inr (1, [.ref (ad 1), .ref (ad 26), .int (nI n), .int (nI now), .int told])), (ad (2 + 3 * j), .inr (0, [.ref (ad (3 + 3 * j)), .ref (ad (4 + 3 * j)), .int (nI (lbc (v j))), .int (bI (lon (v j))), .int (bI (lcv (v j)))])), (ad (3 + 3 * j), .inl (cI, 8, .inl (fun i => nI (lnu (v j) i)))), (ad (4 + 3 * j), .inl (cI, 8, .inl (fun i => nI (lof (v j) i))))] s.heap := vpc (hP0 0 _ rfl) (hPL j (by omega))
  have hD : va_D (AJ ad j) [(ad 0, .inr (1, [.ref (ad 1), .ref (ad 26), .int (nI n), .int (nI now), .int told])), (ad (2 + 3 * j), .inr (0, [.ref (ad (3 + 3 * j)), .ref (ad (4 + 3 * j)), .int (nI (lbc (v j))), .int (bI (lon (v j))), .int (bI (lcv (v j)))])), (ad (3 + 3 * j), .inl (cI, 8, .inl (fun i => nI (lnu (v j) i)))), (ad (4 + 3 * j), .inl (cI, 8, .inl (fun i => nI (lof (v j) i))))] := vd4 hinj (by omega)
  have hS : va_S (AJ ad j) s.heap s.heap [] := va_S.rf
  have hni := isP_le ((hwl j (by omega)).2 i hi).1
  have e_ix : lnu (v (ixx (nI j))) (ixx (nI i)) = lnu (v j) i := by rw [ixx_nI (by omega), ixx_nI (by omega)]
  refine lv_astore (lv' := [(4, .ref (ad (2 + 3 * j))), (0, .ref (ad 0)), (1, .int (nI j)), (2, .int (nI i)), (3, .int o)]) hx hb dX1_moveBeat_12 hl (by decide) rfl (fun ls hl => ?_)
  refine lv_iload_n hx hb dX1_moveBeat_14 rfl (lv_at hl 4 rfl) ?_
  refine lv_aload hx hb dX1_moveBeat_15 (lv_at hl 0 rfl) ?_
  refine va_getN (D := D) (ci := 0) (v := .ref (ad (3 + 3 * j))) (C := RX0) (T := TX0) (N := 5) hx hb hts hin0 hown hK hP 1 rfl rfl 0 (by decide) (va_Nw.use rfl (hNF _ (List.mem_of_getElem? (i := 2) rfl))) (fun _ h9 => h9) rfl dX1_moveBeat_17 ?_
  refine lv_iload_n hx hb dX1_moveBeat_20 rfl (lv_at hl 3 rfl) ?_
  refine n_iald (v := nI (lnu (v j) i)) (j := i) hx hb hK hP 2 0 rfl rfl (by omega) (by decide) rfl dX1_moveBeat_21 ?_
  refine xSp (As := [.int o, .int (nI (lnu (v j) i))]) (rest := []) ⟨hx, hb, hml, hown, hts⟩ (c_X1_needOffset l D cI cZ cL cJ hst o (nI (lnu (v j) i))) (va_cwS 2 hts gX1_moveBeat_X1_needOffset rfl rfl rfl (by decide +kernel) ⟨(Nat.le_of_ble_eq_true rfl), (Nat.le_of_ble_eq_true rfl)⟩) hK hE trivial rfl hl.1 rfl (Nat.le_of_ble_eq_true rfl) dX1_moveBeat_22 ⟨(Nat.le_of_ble_eq_true rfl), (Nat.le_of_ble_eq_true rfl)⟩ hex hlocks (fun E h => by rw [h.1]; exact ex2b hok (by rw [e_ix]; exact h.2)) (Nat.le_of_ble_eq_true rfl) (Nat.le_of_ble_eq_true rfl) (fun hok3 => ?_)
  obtain ⟨y, hy, rfl⟩ := rgOk_j (by omega) hok3
  refine lv_aload hx hb dX1_moveBeat_25 (lv_at hl 0 rfl) ?_
  refine va_getN (D := D) (ci := 0) (v := .ref (ad (4 + 3 * j))) (C := RX0) (T := TX0) (N := 5) hx hb hts hin0 hown hK hP 1 rfl rfl 1 (by decide) (va_Nw.use rfl (hNF _ (List.mem_of_getElem? (i := 3) rfl))) (fun _ h9 => h9) rfl dX1_moveBeat_27 ?_
  refine lv_iload_n hx hb dX1_moveBeat_30 rfl (lv_at hl 3 rfl) ?_
  refine n_iald (v := nI (lof (v j) i)) (j := i) hx hb hK hP 3 0 rfl rfl (by omega) (by decide) rfl dX1_moveBeat_31 ?_
  refine lv_istore (lv' := [(5, .int (nI (lof (v j) i))), (4, .ref (ad (2 + 3 * j))), (0, .ref (ad 0)), (1, .int (nI j)), (2, .int (nI i)), (3, .int (nI y))]) hx hb dX1_moveBeat_32 hl (by decide) rfl (fun ls hl => ?_)
  refine lv_aload hx hb dX1_moveBeat_34 (lv_at hl 1 rfl) ?_
  refine va_getN (D := D) (ci := 0) (v := .ref (ad (4 + 3 * j))) (C := RX0) (T := TX0) (N := 5) hx hb hts hin0 hown hK hP 1 rfl rfl 1 (by decide) (va_Nw.use rfl (hNF _ (List.mem_of_getElem? (i := 3) rfl))) (fun _ h9 => h9) rfl dX1_moveBeat_36 ?_
  refine lv_iload_n hx hb dX1_moveBeat_39 rfl (lv_at hl 4 rfl) ?_
  refine lv_iload_n hx hb dX1_moveBeat_40 rfl (lv_at hl 5 rfl) ?_
  refine n_iast (f' := fun z => nI (if z = i then y else lof (v j) z)) (j := i) hx hb hK hP hD hS 3 0 rfl rfl (by omega) (by decide) (updI _ _ _) dX1_moveBeat_41 (fun H locs hP hD hS => ?_)
  have hP : va_P D vwCl [(ad 0, .inr (1, [.ref (ad 1), .ref (ad 26), .int (nI n), .int (nI now), .int told])), (ad (2 + 3 * j), .inr (0, [.ref (ad (3 + 3 * j)), .ref (ad (4 + 3 * j)), .int (nI (lbc (v j))), .int (bI (lon (v j))), .int (bI (lcv (v j)))])), (ad (3 + 3 * j), .inl (cI, 8, .inl (fun i => nI (lnu (v j) i)))), (ad (4 + 3 * j), .inl (cI, 8, .inl (fun z => nI (if z = i then y else lof (v j) z))))] H := hP
  have hD : va_D (AJ ad j) [(ad 0, .inr (1, [.ref (ad 1), .ref (ad 26), .int (nI n), .int (nI now), .int told])), (ad (2 + 3 * j), .inr (0, [.ref (ad (3 + 3 * j)), .ref (ad (4 + 3 * j)), .int (nI (lbc (v j))), .int (bI (lon (v j))), .int (bI (lcv (v j)))])), (ad (3 + 3 * j), .inl (cI, 8, .inl (fun i => nI (lnu (v j) i)))), (ad (4 + 3 * j), .inl (cI, 8, .inl (fun z => nI (if z = i then y else lof (v j) z))))] := hD
  refine lv_iload hx hb dX1_moveBeat_42 (lv_at hl 0 rfl) ?_
  refine n_ti (y := nI (lof (v (ixx (nI j))) (ixx (nI i)))) (by rw [ixx_nI (by omega), ixx_nI (by omega)]) ?_
  refine vx_ret ?_
  refine W.widen (k := 3) (n := 18) (Nat.le_of_ble_eq_true rfl) (Nat.le_of_ble_eq_true rfl) ?_
  exact W.iret (v := nI (lof (v (ixx (nI j))) (ixx (nI i)))) hx hb hr (fun t ht hW => ⟨(cd2_t hok (by rw [e_ix]; exact hok3)), rfl, by rw [ht]; rw [ixx_nI (by omega), ixx_nI (by omega), ixx_nI (j := y) (by omega)]; exact PX_end hinj (by omega) ⟨hP0, hPL⟩ hP hS, va_F_mono (hS.F ht) (AJ_AX (by omega))⟩) (fun q hq => (AJ_AX (by omega)) q.base (hS.2.2 q hq)) dX1_moveBeat_44
set_option maxHeartbeats 4000000 in
set_option maxRecDepth 100000 in
/-- takeBeat -/
theorem c_X1_takeBeat (l : Launch) (D : va_G) (cI cZ cL cJ : ClassId) (hst : l.stackTraces = false) (ad : Nat → Nat) (n now : Nat) (told : Int32) (v : Nat → LV) (hwf : WFX n now v) (hinj : Inj 29 ad) (k b : Int32) : vx_Met l yX1_takeBeat wsX1_takeBeat ({ frames := 8, cells := 2, slots := 12, locals := 125 } : Room) (PC D (TY cI cZ cL cJ) (AX ad) [.ref (ad 0), .int k, .int b] (fun H => PX D cI cL ad n now told v H)) (QW (AX ad) (cd1 (btOk n v k b) = 0) (nI (lbc (v (ixx k)) - 1)) (PX D cI cL ad n now told (updv v (ixx k) (remL (v (ixx k)) (ixx b))))) (XC1 (fun E => exC [tIOB] (cd1 (btOk n v k b)) E)) 2 12 (AX ad) := by
  refine vx_ofW (cc := cX1_takeBeat) (maxL := 4) (ret := (some .int)) (by decide) rfl ?_
  intro p e s m args below meth c s₁ B hml hex hv
  obtain ⟨rfl, hK, hEA, hP0, hPL⟩ := hv
  obtain ⟨hn8, hnow, hwl⟩ := hwf
  have hE : EN noA s s.heap := hEA.narrow (fun _ h => h.elim)
  have hx := B.exec
  have hb := B.bytes
  have hr := B.returns
  have hts := atoms_spec (ws := wsX1_takeBeat) B.pre
  have hown : s.vm.findClass RX1 = some m.cls := findClass_of_methodNamed B.named
  have hlocks := B.notSynchronized
  have hNF := hE.2.1.1
  have hin0 : ∀ w ∈ wsX00, w ∈ wsX1_takeBeat := by decide +kernel
  have hin1 : ∀ w ∈ wsX10, w ∈ wsX1_takeBeat := by decide +kernel
  have hl := lv_entry ([.ref (ad 0), .int k, .int b]) (n := 4) (Nat.le_of_ble_eq_true rfl)
  rw [lg_entry_eq]
  generalize (lg_sl ([.ref (ad 0), .int k, .int b]) ++ List.replicate (4 - (lg_sl ([.ref (ad 0), .int k, .int b])).length) Slot.unset).toArray = ls at hl ⊢
  have hl : lv_has ls 4 [(0, .ref (ad 0)), (1, .int k), (2, .int b)] := hl
  refine lv_aload_n hx hb dX1_takeBeat_0 rfl (lv_at hl 0 rfl) ?_
  refine lv_iload_n hx hb dX1_takeBeat_1 rfl (lv_at hl 1 rfl) ?_
  refine lv_iload_n hx hb dX1_takeBeat_2 rfl (lv_at hl 2 rfl) ?_
  refine xVp (As := [.int k, .int b]) (rest := []) ⟨hx, hb, hml, hown, hts⟩ (c_X1_needBeat l D cI cZ cL cJ hst ad n now told v ⟨hn8, hnow, hwl⟩ k b) (cwV 2 hts gX1_takeBeat_X1_needBeat rfl rfl rfl (by decide +kernel) ⟨(Nat.le_of_ble_eq_true rfl), (Nat.le_of_ble_eq_true rfl)⟩) hK hE ⟨hP0, hPL⟩ (RC_of (q := (RX1, TX1, 5)) (ci := 1) hK rfl (vpa hP0 0 rfl)) rfl hl.1 rfl (Nat.le_of_ble_eq_true rfl) dX1_takeBeat_3 ⟨(Nat.le_of_ble_eq_true rfl), (Nat.le_of_ble_eq_true rfl)⟩ hex hlocks (fun E h => by rw [h.1]; exact ex1 h.2) (Nat.le_of_ble_eq_true rfl) (Nat.le_of_ble_eq_true rfl) (fun hok => ?_)
  obtain ⟨j, i, hj, hi, rfl, rfl⟩ := btOk_j hn8 hwl hok
  have hw4 := (hwl j (by omega)).1
  refine lv_aload_n hx hb dX1_takeBeat_6 rfl (lv_at hl 0 rfl) ?_
  refine va_get (D := D) (ci := 1) (v := .ref (ad 1)) (C := RX1) (T := TX1) (N := 5) hx hb hts hin1 hown hK hP0 0 rfl rfl 0 (by decide) (hts (.fieldLink RX1 11 "LanternPrimes" "row" "[LLanternPrimes$Lamp;") (List.mem_of_getElem? (i := 1) rfl)) (fun _ h9 => h9) rfl dX1_takeBeat_7 ?_
  refine lv_iload_n hx hb dX1_takeBeat_10 rfl (lv_at hl 1 rfl) ?_
  refine n_aald (v := ad (2 + 3 * j)) (j := j) hx hb hK hP0 1 2 rfl rfl (by omega) (by decide) rfl dX1_takeBeat_11 ?_
  have hP : va_P D vwCl [(ad 0, .inr (1, [.ref (ad 1), .ref (ad 26), .int (nI n), .int (nI now), .int told])), (ad (2 + 3 * j), .inr (0, [.ref (ad (3 + 3 * j)), .ref (ad (4 + 3 * j)), .int (nI (lbc (v j))), .int (bI (lon (v j))), .int (bI (lcv (v j)))])), (ad (3 + 3 * j), .inl (cI, 8, .inl (fun i => nI (lnu (v j) i)))), (ad (4 + 3 * j), .inl (cI, 8, .inl (fun i => nI (lof (v j) i))))] s.heap := vpc (hP0 0 _ rfl) (hPL j (by omega))
  have hD : va_D (AJ ad j) [(ad 0, .inr (1, [.ref (ad 1), .ref (ad 26), .int (nI n), .int (nI now), .int told])), (ad (2 + 3 * j), .inr (0, [.ref (ad (3 + 3 * j)), .ref (ad (4 + 3 * j)), .int (nI (lbc (v j))), .int (bI (lon (v j))), .int (bI (lcv (v j)))])), (ad (3 + 3 * j), .inl (cI, 8, .inl (fun i => nI (lnu (v j) i)))), (ad (4 + 3 * j), .inl (cI, 8, .inl (fun i => nI (lof (v j) i))))] := vd4 hinj (by omega)
  have hS : va_S (AJ ad j) s.heap s.heap [] := va_S.rf
  refine lv_astore_n (lv' := [(3, .ref (ad (2 + 3 * j))), (0, .ref (ad 0)), (1, .int (nI j)), (2, .int (nI i))]) hx hb dX1_takeBeat_12 rfl hl (by decide) rfl (fun ls hl => ?_)
  refine lv_aload_n hx hb dX1_takeBeat_13 rfl (lv_at hl 0 rfl) ?_
  refine lv_iload_n hx hb dX1_takeBeat_14 rfl (lv_at hl 3 rfl) ?_
  refine wVv (As := [.int (nI i)]) (rest := []) ⟨hx, hb, hml, hown, hts⟩ (c_X0_remove l D cI cZ cL cJ (ad (2 + 3 * j)) (ad (3 + 3 * j)) (ad (4 + 3 * j)) (v j) (lpN3 hinj (by omega)).1 (lpN3 hinj (by omega)).2.1 (lpN3 hinj (by omega)).2.2 (by omega) i hi) (cwV 1 hts gX1_takeBeat_X0_remove rfl rfl rfl (by decide +kernel) ⟨(Nat.le_of_ble_eq_true rfl), (Nat.le_of_ble_eq_true rfl)⟩) hK ((hEA.narrow (AJ_AX (by omega))).narrow AJ_lp) (hPL j (by omega)) (RC_of (q := (RX0, TX0, 5)) (ci := 0) hK rfl (vpa (hPL j (by omega)) 0 rfl)) rfl hl.1 rfl (Nat.le_of_ble_eq_true rfl) dX1_takeBeat_15 ⟨(Nat.le_of_ble_eq_true rfl), (Nat.le_of_ble_eq_true rfl)⟩ hS AJ_lp (fun H locs hQ _ hk hS => ?_)
  have hP : va_P D vwCl ((ad 0, .inr (1, [.ref (ad 1), .ref (ad 26), .int (nI n), .int (nI now), .int told])) :: lampW cI (ad (2 + 3 * j)) (ad (3 + 3 * j)) (ad (4 + 3 * j)) (remL (v j) i)) H := vpc ((hP0 0 _ rfl).kept (hk _ (hP0 0 _ rfl).lt (fun z => by have := hinj.ne (i := 0) (j := 2 + 3 * j) (by omega) (by omega) (by omega); have := hinj.ne (i := 0) (j := 3 + 3 * j) (by omega) (by omega) (by omega); have := hinj.ne (i := 0) (j := 4 + 3 * j) (by omega) (by omega) (by omega); simp_all))) hQ
  refine lv_aload_n hx hb dX1_takeBeat_18 rfl (lv_at hl 0 rfl) ?_
  refine va_getN (D := D) (ci := 0) (v := .int (nI (lbc (remL (v j) i)))) (C := RX0) (T := TX0) (N := 5) hx hb hts hin0 hown hK hP 1 rfl rfl 2 (by decide) (va_Nw.use rfl (hNF _ (List.mem_of_getElem? (i := 1) rfl))) (fun _ h9 => h9) rfl dX1_takeBeat_19 ?_
  refine n_ti (y := nI (lbc (v (ixx (nI j))) - 1)) (by rw [ixx_nI (by omega)]; rfl) ?_
  refine vx_ret ?_
  refine W.widen (k := 2) (n := 12) (Nat.le_of_ble_eq_true rfl) (Nat.le_of_ble_eq_true rfl) ?_
  exact W.iret (v := nI (lbc (v (ixx (nI j))) - 1)) hx hb hr (fun t ht hW => ⟨(cd1_t hok), rfl, by rw [ht]; rw [ixx_nI (by omega), ixx_nI (by omega)]; exact PX_end hinj (by omega) ⟨hP0, hPL⟩ hP hS, va_F_mono (hS.F ht) (AJ_AX (by omega))⟩) (fun q hq => (AJ_AX (by omega)) q.base (hS.2.2 q hq)) dX1_takeBeat_22
set_option maxHeartbeats 4000000 in
set_option maxRecDepth 100000 in
/-- turnShutter -/
theorem c_X1_turnShutter (l : Launch) (D : va_G) (cI cZ cL cJ : ClassId) (hst : l.stackTraces = false) (ad : Nat → Nat) (n now : Nat) (told : Int32) (v : Nat → LV) (hwf : WFX n now v) (hinj : Inj 29 ad) (k : Int32) : vx_Met l yX1_turnShutter wsX1_turnShutter ({ frames := 7, cells := 1, slots := 6, locals := 103 } : Room) (PC D (TY cI cZ cL cJ) (AX ad) [.ref (ad 0), .int k] (fun H => PX D cI cL ad n now told v H)) (QW (AX ad) (cd1 (lpOk n k) = 0) (bI (!(lcv (v (ixx k))))) (PX D cI cL ad n now told (updv v (ixx k) (setCv (v (ixx k)) (!(lcv (v (ixx k)))))))) (XC1 (fun E => exC [tIOB] (cd1 (lpOk n k)) E)) 1 6 (AX ad) := by
  refine vx_ofW (cc := cX1_turnShutter) (maxL := 3) (ret := (some .boolean)) (by decide) rfl ?_
  intro p e s m args below meth c s₁ B hml hex hv
  obtain ⟨rfl, hK, hEA, hP0, hPL⟩ := hv
  obtain ⟨hn8, hnow, hwl⟩ := hwf
  have hE : EN noA s s.heap := hEA.narrow (fun _ h => h.elim)
  have hx := B.exec
  have hb := B.bytes
  have hr := B.returns
  have hts := atoms_spec (ws := wsX1_turnShutter) B.pre
  have hown : s.vm.findClass RX1 = some m.cls := findClass_of_methodNamed B.named
  have hlocks := B.notSynchronized
  have hNF := hE.2.1.1
  have hin0 : ∀ w ∈ wsX00, w ∈ wsX1_turnShutter := by decide +kernel
  have hin1 : ∀ w ∈ wsX10, w ∈ wsX1_turnShutter := by decide +kernel
  have hl := lv_entry ([.ref (ad 0), .int k]) (n := 3) (Nat.le_of_ble_eq_true rfl)
  rw [lg_entry_eq]
  generalize (lg_sl ([.ref (ad 0), .int k]) ++ List.replicate (3 - (lg_sl ([.ref (ad 0), .int k])).length) Slot.unset).toArray = ls at hl ⊢
  have hl : lv_has ls 3 [(0, .ref (ad 0)), (1, .int k)] := hl
  refine lv_aload_n hx hb dX1_turnShutter_0 rfl (lv_at hl 0 rfl) ?_
  refine lv_iload_n hx hb dX1_turnShutter_1 rfl (lv_at hl 1 rfl) ?_
  refine xVp (As := [.int k]) (rest := []) ⟨hx, hb, hml, hown, hts⟩ (c_X1_needLamp l D cI cZ cL cJ hst ad n now told v ⟨hn8, hnow, hwl⟩ k) (cwV 1 hts gX1_turnShutter_X1_needLamp rfl rfl rfl (by decide +kernel) ⟨(Nat.le_of_ble_eq_true rfl), (Nat.le_of_ble_eq_true rfl)⟩) hK hE ⟨hP0, hPL⟩ (RC_of (q := (RX1, TX1, 5)) (ci := 1) hK rfl (vpa hP0 0 rfl)) rfl hl.1 rfl (Nat.le_of_ble_eq_true rfl) dX1_turnShutter_2 ⟨(Nat.le_of_ble_eq_true rfl), (Nat.le_of_ble_eq_true rfl)⟩ hex hlocks (fun E h => by rw [h.1]; exact ex1 h.2) (Nat.le_of_ble_eq_true rfl) (Nat.le_of_ble_eq_true rfl) (fun hok => ?_)
  obtain ⟨j, hj, rfl⟩ := lpOk_j (by omega) hok
  refine lv_aload_n hx hb dX1_turnShutter_5 rfl (lv_at hl 0 rfl) ?_
  refine va_get (D := D) (ci := 1) (v := .ref (ad 1)) (C := RX1) (T := TX1) (N := 5) hx hb hts hin1 hown hK hP0 0 rfl rfl 0 (by decide) (hts (.fieldLink RX1 11 "LanternPrimes" "row" "[LLanternPrimes$Lamp;") (List.mem_of_getElem? (i := 1) rfl)) (fun _ h9 => h9) rfl dX1_turnShutter_6 ?_
  refine lv_iload_n hx hb dX1_turnShutter_9 rfl (lv_at hl 1 rfl) ?_
  refine n_aald (v := ad (2 + 3 * j)) (j := j) hx hb hK hP0 1 2 rfl rfl (by omega) (by decide) rfl dX1_turnShutter_10 ?_
  have hP : va_P D vwCl [(ad 0, .inr (1, [.ref (ad 1), .ref (ad 26), .int (nI n), .int (nI now), .int told])), (ad (2 + 3 * j), .inr (0, [.ref (ad (3 + 3 * j)), .ref (ad (4 + 3 * j)), .int (nI (lbc (v j))), .int (bI (lon (v j))), .int (bI (lcv (v j)))])), (ad (3 + 3 * j), .inl (cI, 8, .inl (fun i => nI (lnu (v j) i)))), (ad (4 + 3 * j), .inl (cI, 8, .inl (fun i => nI (lof (v j) i))))] s.heap := vpc (hP0 0 _ rfl) (hPL j (by omega))
  have hD : va_D (AJ ad j) [(ad 0, .inr (1, [.ref (ad 1), .ref (ad 26), .int (nI n), .int (nI now), .int told])), (ad (2 + 3 * j), .inr (0, [.ref (ad (3 + 3 * j)), .ref (ad (4 + 3 * j)), .int (nI (lbc (v j))), .int (bI (lon (v j))), .int (bI (lcv (v j)))])), (ad (3 + 3 * j), .inl (cI, 8, .inl (fun i => nI (lnu (v j) i)))), (ad (4 + 3 * j), .inl (cI, 8, .inl (fun i => nI (lof (v j) i))))] := vd4 hinj (by omega)
  have hS : va_S (AJ ad j) s.heap s.heap [] := va_S.rf
  refine lv_astore_n (lv' := [(2, .ref (ad (2 + 3 * j))), (0, .ref (ad 0)), (1, .int (nI j))]) hx hb dX1_turnShutter_11 rfl hl (by decide) rfl (fun ls hl => ?_)
  have join_25 : ∀ (ls : Array Slot), lv_has ls 3 [(2, .ref (ad (2 + 3 * j))), (0, .ref (ad 0)), (1, .int (nI j))] → W p l e (headSpec wsX1_turnShutter ({ frames := 7, cells := 1, slots := 6, locals := 103 } : Room)).room s m [.ref (ad 0), .int (nI j)].toArray below meth c s.heap [] (0 + 1) (0 + 6) (vx_MQ below (QW (AX ad) (cd1 (lpOk n (nI j)) = 0) (bI (!(lcv (v (ixx (nI j)))))) (PX D cI cL ad n now told (updv v (ixx (nI j)) (setCv (v (ixx (nI j))) (!(lcv (v (ixx (nI j))))))))) (XC1 (fun E => exC [tIOB] (cd1 (lpOk n (nI j))) E)) [.ref (ad 0), .int (nI j)].toArray s 1 6 (AX ad)) (F0 m 25 ls [.int (bI (!(lcv (v j)))), .ref (ad (2 + 3 * j))]) := by
    intro   ls hl
    refine va_putN (D := D) (ci := 0) (v := .int (bI (!(lcv (v j))))) (ty := .boolean) (C := RX0) (T := TX0) (N := 5) hx hb hts hin0 tyX0 tyX0_ok nmX0 hown hK hP hD hS 1 rfl rfl 4 (by decide) (va_Nw.use rfl (hNF _ (List.mem_of_getElem? (i := 4) rfl))) (fun _ h9 => h9) rfl (by decide +kernel) (bI_narrow _) (bI_fits _) (Nat.le_of_ble_eq_true rfl) dX1_turnShutter_25 (fun H locs hP hD hS => ?_)
    have hP : va_P D vwCl [(ad 0, .inr (1, [.ref (ad 1), .ref (ad 26), .int (nI n), .int (nI now), .int told])), (ad (2 + 3 * j), .inr (0, [.ref (ad (3 + 3 * j)), .ref (ad (4 + 3 * j)), .int (nI (lbc (v j))), .int (bI (lon (v j))), .int (bI (!(lcv (v j))))])), (ad (3 + 3 * j), .inl (cI, 8, .inl (fun i => nI (lnu (v j) i)))), (ad (4 + 3 * j), .inl (cI, 8, .inl (fun i => nI (lof (v j) i))))] H := hP
    have hD : va_D (AJ ad j) [(ad 0, .inr (1, [.ref (ad 1), .ref (ad 26), .int (nI n), .int (nI now), .int told])), (ad (2 + 3 * j), .inr (0, [.ref (ad (3 + 3 * j)), .ref (ad (4 + 3 * j)), .int (nI (lbc (v j))), .int (bI (lon (v j))), .int (bI (!(lcv (v j))))])), (ad (3 + 3 * j), .inl (cI, 8, .inl (fun i => nI (lnu (v j) i)))), (ad (4 + 3 * j), .inl (cI, 8, .inl (fun i => nI (lof (v j) i))))] := hD
    refine lv_aload_n hx hb dX1_turnShutter_28 rfl (lv_at hl 0 rfl) ?_
    refine va_getN (D := D) (ci := 0) (v := .int (bI (!(lcv (v j))))) (C := RX0) (T := TX0) (N := 5) hx hb hts hin0 hown hK hP 1 rfl rfl 4 (by decide) (va_Nw.use rfl (hNF _ (List.mem_of_getElem? (i := 4) rfl))) (fun _ h9 => h9) rfl dX1_turnShutter_29 ?_
    refine n_ti (y := bI (!(lcv (v (ixx (nI j)))))) (by rw [ixx_nI (by omega)]) ?_
    refine vx_ret ?_
    refine W.widen (k := 1) (n := 6) (Nat.le_of_ble_eq_true rfl) (Nat.le_of_ble_eq_true rfl) ?_
    exact W.zret (v := bI (!(lcv (v (ixx (nI j)))))) hx hb hr (bI_narrow _) (fun t ht hW => ⟨(cd1_t hok), rfl, by rw [ht]; rw [ixx_nI (by omega)]; exact PX_end hinj (by omega) ⟨hP0, hPL⟩ hP hS, va_F_mono (hS.F ht) (AJ_AX (by omega))⟩) (fun q hq => (AJ_AX (by omega)) q.base (hS.2.2 q hq)) dX1_turnShutter_32
  refine lv_aload_n hx hb dX1_turnShutter_12 rfl (lv_at hl 0 rfl) ?_
  refine lv_aload_n hx hb dX1_turnShutter_13 rfl (lv_at hl 0 rfl) ?_
  refine va_getN (D := D) (ci := 0) (v := .int (bI (lcv (v j)))) (C := RX0) (T := TX0) (N := 5) hx hb hts hin0 hown hK hP 1 rfl rfl 4 (by decide) (va_Nw.use rfl (hNF _ (List.mem_of_getElem? (i := 4) rfl))) (fun _ h9 => h9) rfl dX1_turnShutter_14 ?_
  refine b_if_ne (b := lcv (v j)) (tgt := 24) hx hb dX1_turnShutter_17 (by decide) (fun c_17 => ?_) (fun c_17 => ?_)
  · refine lv_iconst (v := nI 0) hx hb dX1_turnShutter_24 (by decide) ?_
    refine n_ti (y := bI (!(lcv (v j)))) (by rw [c_17]; rfl) ?_
    exact join_25 ls (lv_sub hl [0, 1, 2] rfl)
  · refine lv_iconst (v := nI 1) hx hb dX1_turnShutter_20 (by decide) ?_
    refine lv_goto (tgt := 25) hx hb dX1_turnShutter_21 (by decide) ?_
    refine n_ti (y := bI (!(lcv (v j)))) (by rw [c_17]; rfl) ?_
    exact join_25 ls (lv_sub hl [0, 1, 2] rfl)
