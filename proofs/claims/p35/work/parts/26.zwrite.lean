set_option maxHeartbeats 4000000 in
set_option maxRecDepth 100000 in
/-- addLamp -/
theorem e_X1_addLamp (l : Launch) (D : va_G) (cI cZ cL cJ : ClassId) (ad : Nat → Nat) (n now : Nat) (told : Int32) (v : Nat → LV) (hwf : WFX n now v) (hinj : Inj 29 ad) (b : Bool) (hn : n < 8) : Met l yX1_addLamp wsX1_addLamp ({ frames := 0, cells := 0, slots := 0, locals := 0 } : Room) (PC D (TY cI cZ cL cJ) (AX ad) [.ref (ad 0), .int (bI b)] (fun H => PX D cI cL ad n now told v H)) (QW (AX ad) True (nI n) (PX D cI cL ad (n + 1) now told (updv v n (setOn (v n) b)))) 0 0 (AX ad) := by
  refine Met.ofW (cc := cX1_addLamp) (maxL := 2) (ret := (some .int)) (by decide) rfl ?_
  intro p e s m args below meth c s₁ B hml hv
  obtain ⟨rfl, hK, hEA, hP0, hPL⟩ := hv
  obtain ⟨hn8, hnow, hwl⟩ := hwf
  have hE : EN noA s s.heap := hEA.narrow (fun _ h => h.elim)
  have hx := B.exec
  have hb := B.bytes
  have hr := B.returns
  have hts := atoms_spec (ws := wsX1_addLamp) B.pre
  have hown : s.vm.findClass RX1 = some m.cls := findClass_of_methodNamed B.named
  have hlocks := B.notSynchronized
  have hNF := hE.2.1.1
  have hin0 : ∀ w ∈ wsX00, w ∈ wsX1_addLamp := by decide +kernel
  have hin1 : ∀ w ∈ wsX10, w ∈ wsX1_addLamp := by decide +kernel
  have hl := lv_entry ([.ref (ad 0), .int (bI b)]) (n := 2) (Nat.le_of_ble_eq_true rfl)
  rw [lg_entry_eq]
  generalize (lg_sl ([.ref (ad 0), .int (bI b)]) ++ List.replicate (2 - (lg_sl ([.ref (ad 0), .int (bI b)])).length) Slot.unset).toArray = ls at hl ⊢
  have hl : lv_has ls 2 [(0, .ref (ad 0)), (1, .int (bI b))] := hl
  refine lv_aload_n hx hb dX1_addLamp_0 rfl (lv_at hl 0 rfl) ?_
  refine va_get (D := D) (ci := 1) (v := .int (nI n)) (C := RX1) (T := TX1) (N := 5) hx hb hts hin1 hown hK hP0 0 rfl rfl 2 (by decide) (hts (.fieldLink RX1 20 "LanternPrimes" "lampCount" "I") (List.mem_of_getElem? (i := 3) rfl)) (fun _ h9 => h9) rfl dX1_addLamp_1 ?_
  refine lv_bipush (v := nI 8) hx hb dX1_addLamp_4 (by decide) ?_
  refine n_icmp_lt (a := n) (b := 8) (tgt := 19) hx hb (by omega) (by omega) dX1_addLamp_6 (by decide) (fun c_6 => ?_) (fun c_6 => ?_)
  · refine lv_aload_n hx hb dX1_addLamp_19 rfl (lv_at hl 0 rfl) ?_
    refine va_get (D := D) (ci := 1) (v := .ref (ad 1)) (C := RX1) (T := TX1) (N := 5) hx hb hts hin1 hown hK hP0 0 rfl rfl 0 (by decide) (hts (.fieldLink RX1 11 "LanternPrimes" "row" "[LLanternPrimes$Lamp;") (List.mem_of_getElem? (i := 4) rfl)) (fun _ h9 => h9) rfl dX1_addLamp_20 ?_
    refine lv_aload_n hx hb dX1_addLamp_23 rfl (lv_at hl 0 rfl) ?_
    refine va_get (D := D) (ci := 1) (v := .int (nI n)) (C := RX1) (T := TX1) (N := 5) hx hb hts hin1 hown hK hP0 0 rfl rfl 2 (by decide) (hts (.fieldLink RX1 20 "LanternPrimes" "lampCount" "I") (List.mem_of_getElem? (i := 3) rfl)) (fun _ h9 => h9) rfl dX1_addLamp_24 ?_
    refine n_aald (v := ad (2 + 3 * n)) (j := n) hx hb hK hP0 1 2 rfl rfl (by omega) (by decide) rfl dX1_addLamp_27 ?_
    have hP : va_P D vwCl [(ad 0, .inr (1, [.ref (ad 1), .ref (ad 26), .int (nI n), .int (nI now), .int told])), (ad (2 + 3 * n), .inr (0, [.ref (ad (3 + 3 * n)), .ref (ad (4 + 3 * n)), .int (nI (lbc (v n))), .int (bI (lon (v n))), .int (bI (lcv (v n)))])), (ad (3 + 3 * n), .inl (cI, 8, .inl (fun i => nI (lnu (v n) i)))), (ad (4 + 3 * n), .inl (cI, 8, .inl (fun i => nI (lof (v n) i))))] s.heap := vpc (hP0 0 _ rfl) (hPL n (by omega))
    have hD : va_D (AJ ad n) [(ad 0, .inr (1, [.ref (ad 1), .ref (ad 26), .int (nI n), .int (nI now), .int told])), (ad (2 + 3 * n), .inr (0, [.ref (ad (3 + 3 * n)), .ref (ad (4 + 3 * n)), .int (nI (lbc (v n))), .int (bI (lon (v n))), .int (bI (lcv (v n)))])), (ad (3 + 3 * n), .inl (cI, 8, .inl (fun i => nI (lnu (v n) i)))), (ad (4 + 3 * n), .inl (cI, 8, .inl (fun i => nI (lof (v n) i))))] := vd4 hinj (by omega)
    have hS : va_S (AJ ad n) s.heap s.heap [] := va_S.rf
    refine lv_iload_n hx hb dX1_addLamp_28 rfl (lv_at hl 1 rfl) ?_
    refine va_putN (D := D) (ci := 0) (v := .int (bI b)) (ty := .boolean) (C := RX0) (T := TX0) (N := 5) hx hb hts hin0 tyX0 tyX0_ok nmX0 hown hK hP hD hS 1 rfl rfl 3 (by decide) (va_Nw.use rfl (hNF _ (List.mem_of_getElem? (i := 0) rfl))) (fun _ h9 => h9) rfl (by decide +kernel) (bI_narrow _) (bI_fits _) (Nat.le_of_ble_eq_true rfl) dX1_addLamp_29 (fun H locs hP hD hS => ?_)
    have hP : va_P D vwCl [(ad 0, .inr (1, [.ref (ad 1), .ref (ad 26), .int (nI n), .int (nI now), .int told])), (ad (2 + 3 * n), .inr (0, [.ref (ad (3 + 3 * n)), .ref (ad (4 + 3 * n)), .int (nI (lbc (v n))), .int (bI b), .int (bI (lcv (v n)))])), (ad (3 + 3 * n), .inl (cI, 8, .inl (fun i => nI (lnu (v n) i)))), (ad (4 + 3 * n), .inl (cI, 8, .inl (fun i => nI (lof (v n) i))))] H := hP
    have hD : va_D (AJ ad n) [(ad 0, .inr (1, [.ref (ad 1), .ref (ad 26), .int (nI n), .int (nI now), .int told])), (ad (2 + 3 * n), .inr (0, [.ref (ad (3 + 3 * n)), .ref (ad (4 + 3 * n)), .int (nI (lbc (v n))), .int (bI b), .int (bI (lcv (v n)))])), (ad (3 + 3 * n), .inl (cI, 8, .inl (fun i => nI (lnu (v n) i)))), (ad (4 + 3 * n), .inl (cI, 8, .inl (fun i => nI (lof (v n) i))))] := hD
    refine lv_aload_n hx hb dX1_addLamp_32 rfl (lv_at hl 0 rfl) ?_
    refine lv_dup hx hb dX1_addLamp_33 rfl ?_
    refine va_get (D := D) (ci := 1) (v := .int (nI n)) (C := RX1) (T := TX1) (N := 5) hx hb hts hin1 hown hK hP 0 rfl rfl 2 (by decide) (hts (.fieldLink RX1 20 "LanternPrimes" "lampCount" "I") (List.mem_of_getElem? (i := 3) rfl)) (fun _ h9 => h9) rfl dX1_addLamp_34 ?_
    refine lv_iconst (v := nI 1) hx hb dX1_addLamp_37 (by decide) ?_
    refine n_iadd (v := nI (n + 1)) hx hb dX1_addLamp_38 (nI_add _ _) ?_
    refine va_put (D := D) (ci := 1) (v := .int (nI (n + 1))) (ty := .int) (C := RX1) (T := TX1) (N := 5) hx hb hts hin1 tyX1 tyX1_ok nmX1 hown hK hP hD hS 0 rfl rfl 2 (by decide) (hts (.fieldLink RX1 20 "LanternPrimes" "lampCount" "I") (List.mem_of_getElem? (i := 3) rfl)) (fun _ h9 => h9) rfl (by decide +kernel) rfl rfl (Nat.le_of_ble_eq_true rfl) dX1_addLamp_39 (fun H locs hP hD hS => ?_)
    have hP : va_P D vwCl [(ad 0, .inr (1, [.ref (ad 1), .ref (ad 26), .int (nI (n + 1)), .int (nI now), .int told])), (ad (2 + 3 * n), .inr (0, [.ref (ad (3 + 3 * n)), .ref (ad (4 + 3 * n)), .int (nI (lbc (v n))), .int (bI b), .int (bI (lcv (v n)))])), (ad (3 + 3 * n), .inl (cI, 8, .inl (fun i => nI (lnu (v n) i)))), (ad (4 + 3 * n), .inl (cI, 8, .inl (fun i => nI (lof (v n) i))))] H := hP
    have hD : va_D (AJ ad n) [(ad 0, .inr (1, [.ref (ad 1), .ref (ad 26), .int (nI (n + 1)), .int (nI now), .int told])), (ad (2 + 3 * n), .inr (0, [.ref (ad (3 + 3 * n)), .ref (ad (4 + 3 * n)), .int (nI (lbc (v n))), .int (bI b), .int (bI (lcv (v n)))])), (ad (3 + 3 * n), .inl (cI, 8, .inl (fun i => nI (lnu (v n) i)))), (ad (4 + 3 * n), .inl (cI, 8, .inl (fun i => nI (lof (v n) i))))] := hD
    refine lv_aload_n hx hb dX1_addLamp_42 rfl (lv_at hl 0 rfl) ?_
    refine va_get (D := D) (ci := 1) (v := .int (nI (n + 1))) (C := RX1) (T := TX1) (N := 5) hx hb hts hin1 hown hK hP 0 rfl rfl 2 (by decide) (hts (.fieldLink RX1 20 "LanternPrimes" "lampCount" "I") (List.mem_of_getElem? (i := 3) rfl)) (fun _ h9 => h9) rfl dX1_addLamp_43 ?_
    refine lv_iconst (v := nI 1) hx hb dX1_addLamp_46 (by decide) ?_
    refine n_isub (v := nI ((n + 1) - 1)) hx hb dX1_addLamp_47 (pk_sub (by omega)) ?_
    refine n_ti (y := nI n) (by rw [Nat.add_sub_cancel]) ?_
    exact W.iret (v := nI n) hx hb hr (fun t ht hW => ⟨trivial, rfl, by rw [ht]; exact PX_end hinj (by omega) ⟨hP0, hPL⟩ hP hS, va_F_mono (hS.F ht) (AJ_AX (by omega))⟩) (fun q hq => (AJ_AX (by omega)) q.base (hS.2.2 q hq)) dX1_addLamp_48
  · exact absurd hn (by omega)
set_option maxHeartbeats 4000000 in
set_option maxRecDepth 100000 in
/-- addBeat -/
theorem e_X1_addBeat (l : Launch) (D : va_G) (cI cZ cL cJ : ClassId) (ad : Nat → Nat) (n now : Nat) (told : Int32) (v : Nat → LV) (hwf : WFX n now v) (hinj : Inj 29 ad) (j : Nat) (hj : j < n) (z o : Nat) (hz : z < 6) (hox : o < NUMf z) (h4 : lbc (v j) < 4) : Met l yX1_addBeat wsX1_addBeat ({ frames := 1, cells := 0, slots := 0, locals := 24 } : Room) (PC D (TY cI cZ cL cJ) (AX ad) [.ref (ad 0), .int (nI j), .int (nI (NUMf z)), .int (nI o)] (fun H => PX D cI cL ad n now told v H)) (QW (AX ad) True (nI (lbc (v j))) (PX D cI cL ad n now told (updv v j (addL (v j) (NUMf z) o)))) 0 0 (AX ad) := by
  refine Met.ofW (cc := cX1_addBeat) (maxL := 5) (ret := (some .int)) (by decide) rfl ?_
  intro p e s m args below meth c s₁ B hml hv
  obtain ⟨rfl, hK, hEA, hP0, hPL⟩ := hv
  obtain ⟨hn8, hnow, hwl⟩ := hwf
  have hE : EN noA s s.heap := hEA.narrow (fun _ h => h.elim)
  have hz13 := isP_le (NUMf_P hz)
  have hx := B.exec
  have hb := B.bytes
  have hr := B.returns
  have hts := atoms_spec (ws := wsX1_addBeat) B.pre
  have hown : s.vm.findClass RX1 = some m.cls := findClass_of_methodNamed B.named
  have hlocks := B.notSynchronized
  have hNF := hE.2.1.1
  have hin0 : ∀ w ∈ wsX00, w ∈ wsX1_addBeat := by decide +kernel
  have hin1 : ∀ w ∈ wsX10, w ∈ wsX1_addBeat := by decide +kernel
  have hl := lv_entry ([.ref (ad 0), .int (nI j), .int (nI (NUMf z)), .int (nI o)]) (n := 5) (Nat.le_of_ble_eq_true rfl)
  rw [lg_entry_eq]
  generalize (lg_sl ([.ref (ad 0), .int (nI j), .int (nI (NUMf z)), .int (nI o)]) ++ List.replicate (5 - (lg_sl ([.ref (ad 0), .int (nI j), .int (nI (NUMf z)), .int (nI o)])).length) Slot.unset).toArray = ls at hl ⊢
  have hl : lv_has ls 5 [(0, .ref (ad 0)), (1, .int (nI j)), (2, .int (nI (NUMf z))), (3, .int (nI o))] := hl
  refine lv_aload_n hx hb dX1_addBeat_0 rfl (lv_at hl 0 rfl) ?_
  refine lv_iload_n hx hb dX1_addBeat_1 rfl (lv_at hl 1 rfl) ?_
  refine rVn (As := [.int (nI j)]) (rest := []) ⟨hx, hb, hml, hown, hts⟩ (e_X1_needLamp l D cI cZ cL cJ ad n now told v ⟨hn8, hnow, hwl⟩ j hj) (cwV 1 hts gX1_addBeat_X1_needLamp rfl rfl rfl (by decide +kernel) ⟨(Nat.le_of_ble_eq_true rfl), (Nat.le_of_ble_eq_true rfl)⟩) hK hE ⟨hP0, hPL⟩ (RC_of (q := (RX1, TX1, 5)) (ci := 1) hK rfl (vpa hP0 0 rfl)) rfl hl.1 rfl (Nat.le_of_ble_eq_true rfl) dX1_addBeat_2 ⟨(Nat.le_of_ble_eq_true rfl), (Nat.le_of_ble_eq_true rfl)⟩ ?_
  refine lv_iload_n hx hb dX1_addBeat_5 rfl (lv_at hl 2 rfl) ?_
  refine rSn (As := [.int (nI (NUMf z))]) (rest := []) ⟨hx, hb, hml, hown, hts⟩ (e_X1_needNumber l D cI cZ cL cJ z hz) (va_cwS 1 hts gX1_addBeat_X1_needNumber rfl rfl rfl (by decide +kernel) ⟨(Nat.le_of_ble_eq_true rfl), (Nat.le_of_ble_eq_true rfl)⟩) hK hE trivial rfl hl.1 rfl (Nat.le_of_ble_eq_true rfl) dX1_addBeat_6 ⟨(Nat.le_of_ble_eq_true rfl), (Nat.le_of_ble_eq_true rfl)⟩ ?_
  refine lv_iload_n hx hb dX1_addBeat_9 rfl (lv_at hl 3 rfl) ?_
  refine lv_iload_n hx hb dX1_addBeat_10 rfl (lv_at hl 2 rfl) ?_
  refine rSn (As := [.int (nI o), .int (nI (NUMf z))]) (rest := []) ⟨hx, hb, hml, hown, hts⟩ (e_X1_needOffset l D cI cZ cL cJ o (NUMf z) (isP_le (NUMf_P hz)).2 hox) (va_cwS 2 hts gX1_addBeat_X1_needOffset rfl rfl rfl (by decide +kernel) ⟨(Nat.le_of_ble_eq_true rfl), (Nat.le_of_ble_eq_true rfl)⟩) hK hE trivial rfl hl.1 rfl (Nat.le_of_ble_eq_true rfl) dX1_addBeat_11 ⟨(Nat.le_of_ble_eq_true rfl), (Nat.le_of_ble_eq_true rfl)⟩ ?_
  refine lv_aload_n hx hb dX1_addBeat_14 rfl (lv_at hl 0 rfl) ?_
  refine va_get (D := D) (ci := 1) (v := .ref (ad 1)) (C := RX1) (T := TX1) (N := 5) hx hb hts hin1 hown hK hP0 0 rfl rfl 0 (by decide) (hts (.fieldLink RX1 11 "LanternPrimes" "row" "[LLanternPrimes$Lamp;") (List.mem_of_getElem? (i := 3) rfl)) (fun _ h9 => h9) rfl dX1_addBeat_15 ?_
  refine lv_iload_n hx hb dX1_addBeat_18 rfl (lv_at hl 1 rfl) ?_
  refine n_aald (v := ad (2 + 3 * j)) (j := j) hx hb hK hP0 1 2 rfl rfl (by omega) (by decide) rfl dX1_addBeat_19 ?_
  have hP : va_P D vwCl [(ad 0, .inr (1, [.ref (ad 1), .ref (ad 26), .int (nI n), .int (nI now), .int told])), (ad (2 + 3 * j), .inr (0, [.ref (ad (3 + 3 * j)), .ref (ad (4 + 3 * j)), .int (nI (lbc (v j))), .int (bI (lon (v j))), .int (bI (lcv (v j)))])), (ad (3 + 3 * j), .inl (cI, 8, .inl (fun i => nI (lnu (v j) i)))), (ad (4 + 3 * j), .inl (cI, 8, .inl (fun i => nI (lof (v j) i))))] s.heap := vpc (hP0 0 _ rfl) (hPL j (by omega))
  have hD : va_D (AJ ad j) [(ad 0, .inr (1, [.ref (ad 1), .ref (ad 26), .int (nI n), .int (nI now), .int told])), (ad (2 + 3 * j), .inr (0, [.ref (ad (3 + 3 * j)), .ref (ad (4 + 3 * j)), .int (nI (lbc (v j))), .int (bI (lon (v j))), .int (bI (lcv (v j)))])), (ad (3 + 3 * j), .inl (cI, 8, .inl (fun i => nI (lnu (v j) i)))), (ad (4 + 3 * j), .inl (cI, 8, .inl (fun i => nI (lof (v j) i))))] := vd4 hinj (by omega)
  have hS : va_S (AJ ad j) s.heap s.heap [] := va_S.rf
  refine lv_astore (lv' := [(4, .ref (ad (2 + 3 * j))), (0, .ref (ad 0)), (1, .int (nI j)), (2, .int (nI (NUMf z))), (3, .int (nI o))]) hx hb dX1_addBeat_20 hl (by decide) rfl (fun ls hl => ?_)
  refine lv_aload hx hb dX1_addBeat_22 (lv_at hl 0 rfl) ?_
  refine va_getN (D := D) (ci := 0) (v := .int (nI (lbc (v j)))) (C := RX0) (T := TX0) (N := 5) hx hb hts hin0 hown hK hP 1 rfl rfl 2 (by decide) (va_Nw.use rfl (hNF _ (List.mem_of_getElem? (i := 1) rfl))) (fun _ h9 => h9) rfl dX1_addBeat_24 ?_
  refine lv_iconst (v := nI 4) hx hb dX1_addBeat_27 (by decide) ?_
  refine n_icmp_lt (a := lbc (v j)) (b := 4) (tgt := 41) hx hb (by omega) (by omega) dX1_addBeat_28 (by decide) (fun c_28 => ?_) (fun c_28 => ?_)
  · refine lv_aload hx hb dX1_addBeat_41 (lv_at hl 0 rfl) ?_
    refine lv_iload_n hx hb dX1_addBeat_43 rfl (lv_at hl 3 rfl) ?_
    refine lv_iload_n hx hb dX1_addBeat_44 rfl (lv_at hl 4 rfl) ?_
    refine wVv (As := [.int (nI (NUMf z)), .int (nI o)]) (rest := []) ⟨hx, hb, hml, hown, hts⟩ (c_X0_append l D cI cZ cL cJ (ad (2 + 3 * j)) (ad (3 + 3 * j)) (ad (4 + 3 * j)) (v j) (lpN3 hinj (by omega)).1 (lpN3 hinj (by omega)).2.1 (lpN3 hinj (by omega)).2.2 (by omega) (NUMf z) o) (cwV 2 hts gX1_addBeat_X0_append rfl rfl rfl (by decide +kernel) ⟨(Nat.le_of_ble_eq_true rfl), (Nat.le_of_ble_eq_true rfl)⟩) hK ((hEA.narrow (AJ_AX (by omega))).narrow AJ_lp) (hPL j (by omega)) (RC_of (q := (RX0, TX0, 5)) (ci := 0) hK rfl (vpa (hPL j (by omega)) 0 rfl)) rfl hl.1 rfl (Nat.le_of_ble_eq_true rfl) dX1_addBeat_45 ⟨(Nat.le_of_ble_eq_true rfl), (Nat.le_of_ble_eq_true rfl)⟩ hS AJ_lp (fun H locs hQ _ hk hS => ?_)
    have hP : va_P D vwCl ((ad 0, .inr (1, [.ref (ad 1), .ref (ad 26), .int (nI n), .int (nI now), .int told])) :: lampW cI (ad (2 + 3 * j)) (ad (3 + 3 * j)) (ad (4 + 3 * j)) (addL (v j) (NUMf z) o)) H := vpc ((hP0 0 _ rfl).kept (hk _ (hP0 0 _ rfl).lt (fun z => by have := hinj.ne (i := 0) (j := 2 + 3 * j) (by omega) (by omega) (by omega); have := hinj.ne (i := 0) (j := 3 + 3 * j) (by omega) (by omega) (by omega); have := hinj.ne (i := 0) (j := 4 + 3 * j) (by omega) (by omega) (by omega); simp_all))) hQ
    refine lv_aload hx hb dX1_addBeat_48 (lv_at hl 0 rfl) ?_
    refine va_getN (D := D) (ci := 0) (v := .int (nI (lbc (addL (v j) (NUMf z) o)))) (C := RX0) (T := TX0) (N := 5) hx hb hts hin0 hown hK hP 1 rfl rfl 2 (by decide) (va_Nw.use rfl (hNF _ (List.mem_of_getElem? (i := 1) rfl))) (fun _ h9 => h9) rfl dX1_addBeat_50 ?_
    refine lv_iconst (v := nI 1) hx hb dX1_addBeat_53 (by decide) ?_
    refine n_isub (v := nI (lbc (v j))) hx hb dX1_addBeat_54 (by show nI (lbc (v j) + 1) - nI 1 = nI (lbc (v j)); rw [pk_sub (by omega), Nat.add_sub_cancel]) ?_
    exact W.iret (v := nI (lbc (v j))) hx hb hr (fun t ht hW => ⟨trivial, rfl, by rw [ht]; exact PX_end hinj (by omega) ⟨hP0, hPL⟩ hP hS, va_F_mono (hS.F ht) (AJ_AX (by omega))⟩) (fun q hq => (AJ_AX (by omega)) q.base (hS.2.2 q hq)) dX1_addBeat_55
  · exact absurd h4 (by omega)
set_option maxHeartbeats 4000000 in
set_option maxRecDepth 100000 in
/-- moveBeat -/
theorem e_X1_moveBeat (l : Launch) (D : va_G) (cI cZ cL cJ : ClassId) (ad : Nat → Nat) (n now : Nat) (told : Int32) (v : Nat → LV) (hwf : WFX n now v) (hinj : Inj 29 ad) (j : Nat) (hj : j < n) (i : Nat) (hi : i < lbc (v j)) (o : Nat) (hox : o < lnu (v j) i) : Met l yX1_moveBeat wsX1_moveBeat ({ frames := 2, cells := 0, slots := 0, locals := 43 } : Room) (PC D (TY cI cZ cL cJ) (AX ad) [.ref (ad 0), .int (nI j), .int (nI i), .int (nI o)] (fun H => PX D cI cL ad n now told v H)) (QW (AX ad) True (nI (lof (v j) i)) (PX D cI cL ad n now told (updv v j (setOf (v j) i o)))) 0 0 (AX ad) := by
  refine Met.ofW (cc := cX1_moveBeat) (maxL := 6) (ret := (some .int)) (by decide) rfl ?_
  intro p e s m args below meth c s₁ B hml hv
  obtain ⟨rfl, hK, hEA, hP0, hPL⟩ := hv
  obtain ⟨hn8, hnow, hwl⟩ := hwf
  have hE : EN noA s s.heap := hEA.narrow (fun _ h => h.elim)
  have hw4 := (hwl j (by omega)).1
  have hni := isP_le ((hwl j (by omega)).2 i hi).1
  have hx := B.exec
  have hb := B.bytes
  have hr := B.returns
  have hts := atoms_spec (ws := wsX1_moveBeat) B.pre
  have hown : s.vm.findClass RX1 = some m.cls := findClass_of_methodNamed B.named
  have hlocks := B.notSynchronized
  have hNF := hE.2.1.1
  have hin0 : ∀ w ∈ wsX00, w ∈ wsX1_moveBeat := by decide +kernel
  have hin1 : ∀ w ∈ wsX10, w ∈ wsX1_moveBeat := by decide +kernel
  have hl := lv_entry ([.ref (ad 0), .int (nI j), .int (nI i), .int (nI o)]) (n := 6) (Nat.le_of_ble_eq_true rfl)
  rw [lg_entry_eq]
  generalize (lg_sl ([.ref (ad 0), .int (nI j), .int (nI i), .int (nI o)]) ++ List.replicate (6 - (lg_sl ([.ref (ad 0), .int (nI j), .int (nI i), .int (nI o)])).length) Slot.unset).toArray = ls at hl ⊢
  have hl : lv_has ls 6 [(0, .ref (ad 0)), (1, .int (nI j)), (2, .int (nI i)), (3, .int (nI o))] := hl
  refine lv_aload_n hx hb dX1_moveBeat_0 rfl (lv_at hl 0 rfl) ?_
  refine lv_iload_n hx hb dX1_moveBeat_1 rfl (lv_at hl 1 rfl) ?_
  refine lv_iload_n hx hb dX1_moveBeat_2 rfl (lv_at hl 2 rfl) ?_
  refine rVn (As := [.int (nI j), .int (nI i)]) (rest := []) ⟨hx, hb, hml, hown, hts⟩ (e_X1_needBeat l D cI cZ cL cJ ad n now told v ⟨hn8, hnow, hwl⟩ j hj i hi) (cwV 2 hts gX1_moveBeat_X1_needBeat rfl rfl rfl (by decide +kernel) ⟨(Nat.le_of_ble_eq_true rfl), (Nat.le_of_ble_eq_true rfl)⟩) hK hE ⟨hP0, hPL⟩ (RC_of (q := (RX1, TX1, 5)) (ci := 1) hK rfl (vpa hP0 0 rfl)) rfl hl.1 rfl (Nat.le_of_ble_eq_true rfl) dX1_moveBeat_3 ⟨(Nat.le_of_ble_eq_true rfl), (Nat.le_of_ble_eq_true rfl)⟩ ?_
  refine lv_aload_n hx hb dX1_moveBeat_6 rfl (lv_at hl 0 rfl) ?_
  refine va_get (D := D) (ci := 1) (v := .ref (ad 1)) (C := RX1) (T := TX1) (N := 5) hx hb hts hin1 hown hK hP0 0 rfl rfl 0 (by decide) (hts (.fieldLink RX1 11 "LanternPrimes" "row" "[LLanternPrimes$Lamp;") (List.mem_of_getElem? (i := 1) rfl)) (fun _ h9 => h9) rfl dX1_moveBeat_7 ?_
  refine lv_iload_n hx hb dX1_moveBeat_10 rfl (lv_at hl 1 rfl) ?_
  refine n_aald (v := ad (2 + 3 * j)) (j := j) hx hb hK hP0 1 2 rfl rfl (by omega) (by decide) rfl dX1_moveBeat_11 ?_
  have hP : va_P D vwCl [(ad 0, .inr (1, [.ref (ad 1), .ref (ad 26), .int (nI n), .int (nI now), .int told])), (ad (2 + 3 * j), .inr (0, [.ref (ad (3 + 3 * j)), .ref (ad (4 + 3 * j)), .int (nI (lbc (v j))), .int (bI (lon (v j))), .int (bI (lcv (v j)))])), (ad (3 + 3 * j), .inl (cI, 8, .inl (fun i => nI (lnu (v j) i)))), (ad (4 + 3 * j), .inl (cI, 8, .inl (fun i => nI (lof (v j) i))))] s.heap := vpc (hP0 0 _ rfl) (hPL j (by omega))
  have hD : va_D (AJ ad j) [(ad 0, .inr (1, [.ref (ad 1), .ref (ad 26), .int (nI n), .int (nI now), .int told])), (ad (2 + 3 * j), .inr (0, [.ref (ad (3 + 3 * j)), .ref (ad (4 + 3 * j)), .int (nI (lbc (v j))), .int (bI (lon (v j))), .int (bI (lcv (v j)))])), (ad (3 + 3 * j), .inl (cI, 8, .inl (fun i => nI (lnu (v j) i)))), (ad (4 + 3 * j), .inl (cI, 8, .inl (fun i => nI (lof (v j) i))))] := vd4 hinj (by omega)
  have hS : va_S (AJ ad j) s.heap s.heap [] := va_S.rf
  refine lv_astore (lv' := [(4, .ref (ad (2 + 3 * j))), (0, .ref (ad 0)), (1, .int (nI j)), (2, .int (nI i)), (3, .int (nI o))]) hx hb dX1_moveBeat_12 hl (by decide) rfl (fun ls hl => ?_)
  refine lv_iload_n hx hb dX1_moveBeat_14 rfl (lv_at hl 4 rfl) ?_
  refine lv_aload hx hb dX1_moveBeat_15 (lv_at hl 0 rfl) ?_
  refine va_getN (D := D) (ci := 0) (v := .ref (ad (3 + 3 * j))) (C := RX0) (T := TX0) (N := 5) hx hb hts hin0 hown hK hP 1 rfl rfl 0 (by decide) (va_Nw.use rfl (hNF _ (List.mem_of_getElem? (i := 2) rfl))) (fun _ h9 => h9) rfl dX1_moveBeat_17 ?_
  refine lv_iload_n hx hb dX1_moveBeat_20 rfl (lv_at hl 3 rfl) ?_
  refine n_iald (v := nI (lnu (v j) i)) (j := i) hx hb hK hP 2 0 rfl rfl (by omega) (by decide) rfl dX1_moveBeat_21 ?_
  refine rSn (As := [.int (nI o), .int (nI (lnu (v j) i))]) (rest := []) ⟨hx, hb, hml, hown, hts⟩ (e_X1_needOffset l D cI cZ cL cJ o (lnu (v j) i) hni.2 hox) (va_cwS 2 hts gX1_moveBeat_X1_needOffset rfl rfl rfl (by decide +kernel) ⟨(Nat.le_of_ble_eq_true rfl), (Nat.le_of_ble_eq_true rfl)⟩) hK hE trivial rfl hl.1 rfl (Nat.le_of_ble_eq_true rfl) dX1_moveBeat_22 ⟨(Nat.le_of_ble_eq_true rfl), (Nat.le_of_ble_eq_true rfl)⟩ ?_
  refine lv_aload hx hb dX1_moveBeat_25 (lv_at hl 0 rfl) ?_
  refine va_getN (D := D) (ci := 0) (v := .ref (ad (4 + 3 * j))) (C := RX0) (T := TX0) (N := 5) hx hb hts hin0 hown hK hP 1 rfl rfl 1 (by decide) (va_Nw.use rfl (hNF _ (List.mem_of_getElem? (i := 3) rfl))) (fun _ h9 => h9) rfl dX1_moveBeat_27 ?_
  refine lv_iload_n hx hb dX1_moveBeat_30 rfl (lv_at hl 3 rfl) ?_
  refine n_iald (v := nI (lof (v j) i)) (j := i) hx hb hK hP 3 0 rfl rfl (by omega) (by decide) rfl dX1_moveBeat_31 ?_
  refine lv_istore (lv' := [(5, .int (nI (lof (v j) i))), (4, .ref (ad (2 + 3 * j))), (0, .ref (ad 0)), (1, .int (nI j)), (2, .int (nI i)), (3, .int (nI o))]) hx hb dX1_moveBeat_32 hl (by decide) rfl (fun ls hl => ?_)
  refine lv_aload hx hb dX1_moveBeat_34 (lv_at hl 1 rfl) ?_
  refine va_getN (D := D) (ci := 0) (v := .ref (ad (4 + 3 * j))) (C := RX0) (T := TX0) (N := 5) hx hb hts hin0 hown hK hP 1 rfl rfl 1 (by decide) (va_Nw.use rfl (hNF _ (List.mem_of_getElem? (i := 3) rfl))) (fun _ h9 => h9) rfl dX1_moveBeat_36 ?_
  refine lv_iload_n hx hb dX1_moveBeat_39 rfl (lv_at hl 4 rfl) ?_
  refine lv_iload_n hx hb dX1_moveBeat_40 rfl (lv_at hl 5 rfl) ?_
  refine n_iast (f' := fun z => nI (if z = i then o else lof (v j) z)) (j := i) hx hb hK hP hD hS 3 0 rfl rfl (by omega) (by decide) (updI _ _ _) dX1_moveBeat_41 (fun H locs hP hD hS => ?_)
  have hP : va_P D vwCl [(ad 0, .inr (1, [.ref (ad 1), .ref (ad 26), .int (nI n), .int (nI now), .int told])), (ad (2 + 3 * j), .inr (0, [.ref (ad (3 + 3 * j)), .ref (ad (4 + 3 * j)), .int (nI (lbc (v j))), .int (bI (lon (v j))), .int (bI (lcv (v j)))])), (ad (3 + 3 * j), .inl (cI, 8, .inl (fun i => nI (lnu (v j) i)))), (ad (4 + 3 * j), .inl (cI, 8, .inl (fun z => nI (if z = i then o else lof (v j) z))))] H := hP
  have hD : va_D (AJ ad j) [(ad 0, .inr (1, [.ref (ad 1), .ref (ad 26), .int (nI n), .int (nI now), .int told])), (ad (2 + 3 * j), .inr (0, [.ref (ad (3 + 3 * j)), .ref (ad (4 + 3 * j)), .int (nI (lbc (v j))), .int (bI (lon (v j))), .int (bI (lcv (v j)))])), (ad (3 + 3 * j), .inl (cI, 8, .inl (fun i => nI (lnu (v j) i)))), (ad (4 + 3 * j), .inl (cI, 8, .inl (fun z => nI (if z = i then o else lof (v j) z))))] := hD
  refine lv_iload hx hb dX1_moveBeat_42 (lv_at hl 0 rfl) ?_
  exact W.iret (v := nI (lof (v j) i)) hx hb hr (fun t ht hW => ⟨trivial, rfl, by rw [ht]; exact PX_end hinj (by omega) ⟨hP0, hPL⟩ hP hS, va_F_mono (hS.F ht) (AJ_AX (by omega))⟩) (fun q hq => (AJ_AX (by omega)) q.base (hS.2.2 q hq)) dX1_moveBeat_44
set_option maxHeartbeats 4000000 in
set_option maxRecDepth 100000 in
/-- takeBeat -/
theorem e_X1_takeBeat (l : Launch) (D : va_G) (cI cZ cL cJ : ClassId) (ad : Nat → Nat) (n now : Nat) (told : Int32) (v : Nat → LV) (hwf : WFX n now v) (hinj : Inj 29 ad) (j : Nat) (hj : j < n) (i : Nat) (hi : i < lbc (v j)) : Met l yX1_takeBeat wsX1_takeBeat ({ frames := 2, cells := 0, slots := 0, locals := 43 } : Room) (PC D (TY cI cZ cL cJ) (AX ad) [.ref (ad 0), .int (nI j), .int (nI i)] (fun H => PX D cI cL ad n now told v H)) (QW (AX ad) True (nI (lbc (v j) - 1)) (PX D cI cL ad n now told (updv v j (remL (v j) i)))) 0 0 (AX ad) := by
  refine Met.ofW (cc := cX1_takeBeat) (maxL := 4) (ret := (some .int)) (by decide) rfl ?_
  intro p e s m args below meth c s₁ B hml hv
  obtain ⟨rfl, hK, hEA, hP0, hPL⟩ := hv
  obtain ⟨hn8, hnow, hwl⟩ := hwf
  have hE : EN noA s s.heap := hEA.narrow (fun _ h => h.elim)
  have hw4 := (hwl j (by omega)).1
  have hx := B.exec
  have hb := B.bytes
  have hr := B.returns
  have hts := atoms_spec (ws := wsX1_takeBeat) B.pre
  have hown : s.vm.findClass RX1 = some m.cls := findClass_of_methodNamed B.named
  have hlocks := B.notSynchronized
  have hNF := hE.2.1.1
  have hin0 : ∀ w ∈ wsX00, w ∈ wsX1_takeBeat := by decide +kernel
  have hin1 : ∀ w ∈ wsX10, w ∈ wsX1_takeBeat := by decide +kernel
  have hl := lv_entry ([.ref (ad 0), .int (nI j), .int (nI i)]) (n := 4) (Nat.le_of_ble_eq_true rfl)
  rw [lg_entry_eq]
  generalize (lg_sl ([.ref (ad 0), .int (nI j), .int (nI i)]) ++ List.replicate (4 - (lg_sl ([.ref (ad 0), .int (nI j), .int (nI i)])).length) Slot.unset).toArray = ls at hl ⊢
  have hl : lv_has ls 4 [(0, .ref (ad 0)), (1, .int (nI j)), (2, .int (nI i))] := hl
  refine lv_aload_n hx hb dX1_takeBeat_0 rfl (lv_at hl 0 rfl) ?_
  refine lv_iload_n hx hb dX1_takeBeat_1 rfl (lv_at hl 1 rfl) ?_
  refine lv_iload_n hx hb dX1_takeBeat_2 rfl (lv_at hl 2 rfl) ?_
  refine rVn (As := [.int (nI j), .int (nI i)]) (rest := []) ⟨hx, hb, hml, hown, hts⟩ (e_X1_needBeat l D cI cZ cL cJ ad n now told v ⟨hn8, hnow, hwl⟩ j hj i hi) (cwV 2 hts gX1_takeBeat_X1_needBeat rfl rfl rfl (by decide +kernel) ⟨(Nat.le_of_ble_eq_true rfl), (Nat.le_of_ble_eq_true rfl)⟩) hK hE ⟨hP0, hPL⟩ (RC_of (q := (RX1, TX1, 5)) (ci := 1) hK rfl (vpa hP0 0 rfl)) rfl hl.1 rfl (Nat.le_of_ble_eq_true rfl) dX1_takeBeat_3 ⟨(Nat.le_of_ble_eq_true rfl), (Nat.le_of_ble_eq_true rfl)⟩ ?_
  refine lv_aload_n hx hb dX1_takeBeat_6 rfl (lv_at hl 0 rfl) ?_
  refine va_get (D := D) (ci := 1) (v := .ref (ad 1)) (C := RX1) (T := TX1) (N := 5) hx hb hts hin1 hown hK hP0 0 rfl rfl 0 (by decide) (hts (.fieldLink RX1 11 "LanternPrimes" "row" "[LLanternPrimes$Lamp;") (List.mem_of_getElem? (i := 1) rfl)) (fun _ h9 => h9) rfl dX1_takeBeat_7 ?_
  refine lv_iload_n hx hb dX1_takeBeat_10 rfl (lv_at hl 1 rfl) ?_
  refine n_aald (v := ad (2 + 3 * j)) (j := j) hx hb hK hP0 1 2 rfl rfl (by omega) (by decide) rfl dX1_takeBeat_11 ?_
  have hP : va_P D vwCl [(ad 0, .inr (1, [.ref (ad 1), .ref (ad 26), .int (nI n), .int (nI now), .int told])), (ad (2 + 3 * j), .inr (0, [.ref (ad (3 + 3 * j)), .ref (ad (4 + 3 * j)), .int (nI (lbc (v j))), .int (bI (lon (v j))), .int (bI (lcv (v j)))])), (ad (3 + 3 * j), .inl (cI, 8, .inl (fun i => nI (lnu (v j) i)))), (ad (4 + 3 * j), .inl (cI, 8, .inl (fun i => nI (lof (v j) i))))] s.heap := vpc (hP0 0 _ rfl) (hPL j (by omega))
  have hD : va_D (AJ ad j) [(ad 0, .inr (1, [.ref (ad 1), .ref (ad 26), .int (nI n), .int (nI now), .int told])), (ad (2 + 3 * j), .inr (0, [.ref (ad (3 + 3 * j)), .ref (ad (4 + 3 * j)), .int (nI (lbc (v j))), .int (bI (lon (v j))), .int (bI (lcv (v j)))])), (ad (3 + 3 * j), .inl (cI, 8, .inl (fun i => nI (lnu (v j) i)))), (ad (4 + 3 * j), .inl (cI, 8, .inl (fun i => nI (lof (v j) i))))] := vd4 hinj (by omega)
  have hS : va_S (AJ ad j) s.heap s.heap [] := va_S.rf
  refine lv_astore_n (lv' := [(3, .ref (ad (2 + 3 * j))), (0, .ref (ad 0)), (1, .int (nI j)), (2, .int (nI i))]) hx hb dX1_takeBeat_12 rfl hl (by decide) rfl (fun ls hl => ?_)
  refine lv_aload_n hx hb dX1_takeBeat_13 rfl (lv_at hl 0 rfl) ?_
  refine lv_iload_n hx hb dX1_takeBeat_14 rfl (lv_at hl 3 rfl) ?_
  refine wVv (As := [.int (nI i)]) (rest := []) ⟨hx, hb, hml, hown, hts⟩ (c_X0_remove l D cI cZ cL cJ (ad (2 + 3 * j)) (ad (3 + 3 * j)) (ad (4 + 3 * j)) (v j) (lpN3 hinj (by omega)).1 (lpN3 hinj (by omega)).2.1 (lpN3 hinj (by omega)).2.2 (by omega) i hi) (cwV 1 hts gX1_takeBeat_X0_remove rfl rfl rfl (by decide +kernel) ⟨(Nat.le_of_ble_eq_true rfl), (Nat.le_of_ble_eq_true rfl)⟩) hK ((hEA.narrow (AJ_AX (by omega))).narrow AJ_lp) (hPL j (by omega)) (RC_of (q := (RX0, TX0, 5)) (ci := 0) hK rfl (vpa (hPL j (by omega)) 0 rfl)) rfl hl.1 rfl (Nat.le_of_ble_eq_true rfl) dX1_takeBeat_15 ⟨(Nat.le_of_ble_eq_true rfl), (Nat.le_of_ble_eq_true rfl)⟩ hS AJ_lp (fun H locs hQ _ hk hS => ?_)
  have hP : va_P D vwCl ((ad 0, .inr (1, [.ref (ad 1), .ref (ad 26), .int (nI n), .int (nI now), .int told])) :: lampW cI (ad (2 + 3 * j)) (ad (3 + 3 * j)) (ad (4 + 3 * j)) (remL (v j) i)) H := vpc ((hP0 0 _ rfl).kept (hk _ (hP0 0 _ rfl).lt (fun z => by have := hinj.ne (i := 0) (j := 2 + 3 * j) (by omega) (by omega) (by omega); have := hinj.ne (i := 0) (j := 3 + 3 * j) (by omega) (by omega) (by omega); have := hinj.ne (i := 0) (j := 4 + 3 * j) (by omega) (by omega) (by omega); simp_all))) hQ
  refine lv_aload_n hx hb dX1_takeBeat_18 rfl (lv_at hl 0 rfl) ?_
  refine va_getN (D := D) (ci := 0) (v := .int (nI (lbc (remL (v j) i)))) (C := RX0) (T := TX0) (N := 5) hx hb hts hin0 hown hK hP 1 rfl rfl 2 (by decide) (va_Nw.use rfl (hNF _ (List.mem_of_getElem? (i := 1) rfl))) (fun _ h9 => h9) rfl dX1_takeBeat_19 ?_
  refine n_ti (y := nI (lbc (v j) - 1)) (by rfl) ?_
  exact W.iret (v := nI (lbc (v j) - 1)) hx hb hr (fun t ht hW => ⟨trivial, rfl, by rw [ht]; exact PX_end hinj (by omega) ⟨hP0, hPL⟩ hP hS, va_F_mono (hS.F ht) (AJ_AX (by omega))⟩) (fun q hq => (AJ_AX (by omega)) q.base (hS.2.2 q hq)) dX1_takeBeat_22
set_option maxHeartbeats 4000000 in
set_option maxRecDepth 100000 in
/-- turnShutter -/
theorem e_X1_turnShutter (l : Launch) (D : va_G) (cI cZ cL cJ : ClassId) (ad : Nat → Nat) (n now : Nat) (told : Int32) (v : Nat → LV) (hwf : WFX n now v) (hinj : Inj 29 ad) (j : Nat) (hj : j < n) : Met l yX1_turnShutter wsX1_turnShutter ({ frames := 1, cells := 0, slots := 0, locals := 21 } : Room) (PC D (TY cI cZ cL cJ) (AX ad) [.ref (ad 0), .int (nI j)] (fun H => PX D cI cL ad n now told v H)) (QW (AX ad) True (bI (!(lcv (v j)))) (PX D cI cL ad n now told (updv v j (setCv (v j) (!(lcv (v j))))))) 0 0 (AX ad) := by
  refine Met.ofW (cc := cX1_turnShutter) (maxL := 3) (ret := (some .boolean)) (by decide) rfl ?_
  intro p e s m args below meth c s₁ B hml hv
  obtain ⟨rfl, hK, hEA, hP0, hPL⟩ := hv
  obtain ⟨hn8, hnow, hwl⟩ := hwf
  have hE : EN noA s s.heap := hEA.narrow (fun _ h => h.elim)
  have hx := B.exec
  have hb := B.bytes
  have hr := B.returns
  have hts := atoms_spec (ws := wsX1_turnShutter) B.pre
  have hown : s.vm.findClass RX1 = some m.cls := findClass_of_methodNamed B.named
  have hlocks := B.notSynchronized
  have hNF := hE.2.1.1
  have hin0 : ∀ w ∈ wsX00, w ∈ wsX1_turnShutter := by decide +kernel
  have hin1 : ∀ w ∈ wsX10, w ∈ wsX1_turnShutter := by decide +kernel
  have hl := lv_entry ([.ref (ad 0), .int (nI j)]) (n := 3) (Nat.le_of_ble_eq_true rfl)
  rw [lg_entry_eq]
  generalize (lg_sl ([.ref (ad 0), .int (nI j)]) ++ List.replicate (3 - (lg_sl ([.ref (ad 0), .int (nI j)])).length) Slot.unset).toArray = ls at hl ⊢
  have hl : lv_has ls 3 [(0, .ref (ad 0)), (1, .int (nI j))] := hl
  refine lv_aload_n hx hb dX1_turnShutter_0 rfl (lv_at hl 0 rfl) ?_
  refine lv_iload_n hx hb dX1_turnShutter_1 rfl (lv_at hl 1 rfl) ?_
  refine rVn (As := [.int (nI j)]) (rest := []) ⟨hx, hb, hml, hown, hts⟩ (e_X1_needLamp l D cI cZ cL cJ ad n now told v ⟨hn8, hnow, hwl⟩ j hj) (cwV 1 hts gX1_turnShutter_X1_needLamp rfl rfl rfl (by decide +kernel) ⟨(Nat.le_of_ble_eq_true rfl), (Nat.le_of_ble_eq_true rfl)⟩) hK hE ⟨hP0, hPL⟩ (RC_of (q := (RX1, TX1, 5)) (ci := 1) hK rfl (vpa hP0 0 rfl)) rfl hl.1 rfl (Nat.le_of_ble_eq_true rfl) dX1_turnShutter_2 ⟨(Nat.le_of_ble_eq_true rfl), (Nat.le_of_ble_eq_true rfl)⟩ ?_
  refine lv_aload_n hx hb dX1_turnShutter_5 rfl (lv_at hl 0 rfl) ?_
  refine va_get (D := D) (ci := 1) (v := .ref (ad 1)) (C := RX1) (T := TX1) (N := 5) hx hb hts hin1 hown hK hP0 0 rfl rfl 0 (by decide) (hts (.fieldLink RX1 11 "LanternPrimes" "row" "[LLanternPrimes$Lamp;") (List.mem_of_getElem? (i := 1) rfl)) (fun _ h9 => h9) rfl dX1_turnShutter_6 ?_
  refine lv_iload_n hx hb dX1_turnShutter_9 rfl (lv_at hl 1 rfl) ?_
  refine n_aald (v := ad (2 + 3 * j)) (j := j) hx hb hK hP0 1 2 rfl rfl (by omega) (by decide) rfl dX1_turnShutter_10 ?_
  have hP : va_P D vwCl [(ad 0, .inr (1, [.ref (ad 1), .ref (ad 26), .int (nI n), .int (nI now), .int told])), (ad (2 + 3 * j), .inr (0, [.ref (ad (3 + 3 * j)), .ref (ad (4 + 3 * j)), .int (nI (lbc (v j))), .int (bI (lon (v j))), .int (bI (lcv (v j)))])), (ad (3 + 3 * j), .inl (cI, 8, .inl (fun i => nI (lnu (v j) i)))), (ad (4 + 3 * j), .inl (cI, 8, .inl (fun i => nI (lof (v j) i))))] s.heap := vpc (hP0 0 _ rfl) (hPL j (by omega))
  have hD : va_D (AJ ad j) [(ad 0, .inr (1, [.ref (ad 1), .ref (ad 26), .int (nI n), .int (nI now), .int told])), (ad (2 + 3 * j), .inr (0, [.ref (ad (3 + 3 * j)), .ref (ad (4 + 3 * j)), .int (nI (lbc (v j))), .int (bI (lon (v j))), .int (bI (lcv (v j)))])), (ad (3 + 3 * j), .inl (cI, 8, .inl (fun i => nI (lnu (v j) i)))), (ad (4 + 3 * j), .inl (cI, 8, .inl (fun i => nI (lof (v j) i))))] := vd4 hinj (by omega)
  have hS : va_S (AJ ad j) s.heap s.heap [] := va_S.rf
  refine lv_astore_n (lv' := [(2, .ref (ad (2 + 3 * j))), (0, .ref (ad 0)), (1, .int (nI j))]) hx hb dX1_turnShutter_11 rfl hl (by decide) rfl (fun ls hl => ?_)
  have join_25 : ∀ (ls : Array Slot), lv_has ls 3 [(2, .ref (ad (2 + 3 * j))), (0, .ref (ad 0)), (1, .int (nI j))] → W p l e (headSpec wsX1_turnShutter ({ frames := 1, cells := 0, slots := 0, locals := 21 } : Room)).room s m [.ref (ad 0), .int (nI j)].toArray below meth c s.heap [] 0 0 (MQ below (QW (AX ad) True (bI (!(lcv (v j)))) (PX D cI cL ad n now told (updv v j (setCv (v j) (!(lcv (v j))))))) [.ref (ad 0), .int (nI j)].toArray s 0 0 (AX ad)) (F0 m 25 ls [.int (bI (!(lcv (v j)))), .ref (ad (2 + 3 * j))]) := by
    intro   ls hl
    refine va_putN (D := D) (ci := 0) (v := .int (bI (!(lcv (v j))))) (ty := .boolean) (C := RX0) (T := TX0) (N := 5) hx hb hts hin0 tyX0 tyX0_ok nmX0 hown hK hP hD hS 1 rfl rfl 4 (by decide) (va_Nw.use rfl (hNF _ (List.mem_of_getElem? (i := 4) rfl))) (fun _ h9 => h9) rfl (by decide +kernel) (bI_narrow _) (bI_fits _) (Nat.le_of_ble_eq_true rfl) dX1_turnShutter_25 (fun H locs hP hD hS => ?_)
    have hP : va_P D vwCl [(ad 0, .inr (1, [.ref (ad 1), .ref (ad 26), .int (nI n), .int (nI now), .int told])), (ad (2 + 3 * j), .inr (0, [.ref (ad (3 + 3 * j)), .ref (ad (4 + 3 * j)), .int (nI (lbc (v j))), .int (bI (lon (v j))), .int (bI (!(lcv (v j))))])), (ad (3 + 3 * j), .inl (cI, 8, .inl (fun i => nI (lnu (v j) i)))), (ad (4 + 3 * j), .inl (cI, 8, .inl (fun i => nI (lof (v j) i))))] H := hP
    have hD : va_D (AJ ad j) [(ad 0, .inr (1, [.ref (ad 1), .ref (ad 26), .int (nI n), .int (nI now), .int told])), (ad (2 + 3 * j), .inr (0, [.ref (ad (3 + 3 * j)), .ref (ad (4 + 3 * j)), .int (nI (lbc (v j))), .int (bI (lon (v j))), .int (bI (!(lcv (v j))))])), (ad (3 + 3 * j), .inl (cI, 8, .inl (fun i => nI (lnu (v j) i)))), (ad (4 + 3 * j), .inl (cI, 8, .inl (fun i => nI (lof (v j) i))))] := hD
    refine lv_aload_n hx hb dX1_turnShutter_28 rfl (lv_at hl 0 rfl) ?_
    refine va_getN (D := D) (ci := 0) (v := .int (bI (!(lcv (v j))))) (C := RX0) (T := TX0) (N := 5) hx hb hts hin0 hown hK hP 1 rfl rfl 4 (by decide) (va_Nw.use rfl (hNF _ (List.mem_of_getElem? (i := 4) rfl))) (fun _ h9 => h9) rfl dX1_turnShutter_29 ?_
    exact W.zret (v := bI (!(lcv (v j)))) hx hb hr (bI_narrow _) (fun t ht hW => ⟨trivial, rfl, by rw [ht]; exact PX_end hinj (by omega) ⟨hP0, hPL⟩ hP hS, va_F_mono (hS.F ht) (AJ_AX (by omega))⟩) (fun q hq => (AJ_AX (by omega)) q.base (hS.2.2 q hq)) dX1_turnShutter_32
  refine lv_aload_n hx hb dX1_turnShutter_12 rfl (lv_at hl 0 rfl) ?_
  refine lv_aload_n hx hb dX1_turnShutter_13 rfl (lv_at hl 0 rfl) ?_
  refine va_getN (D := D) (ci := 0) (v := .int (bI (lcv (v j)))) (C := RX0) (T := TX0) (N := 5) hx hb hts hin0 hown hK hP 1 rfl rfl 4 (by decide) (va_Nw.use rfl (hNF _ (List.mem_of_getElem? (i := 4) rfl))) (fun _ h9 => h9) rfl dX1_turnShutter_14 ?_
  refine b_if_ne (b := lcv (v j)) (tgt := 24) hx hb dX1_turnShutter_17 (by decide) (fun c_17 => ?_) (fun c_17 => ?_)
  · refine lv_iconst (v := nI 0) hx hb dX1_turnShutter_24 (by decide) ?_
    refine n_ti (y := bI (!(lcv (v j)))) (by rw [c_17]; rfl) ?_
    exact join_25 ls (lv_sub hl [0, 1, 2] rfl)
  · refine lv_iconst (v := nI 1) hx hb dX1_turnShutter_20 (by decide) ?_
    refine lv_goto (tgt := 25) hx hb dX1_turnShutter_21 (by decide) ?_
    refine n_ti (y := bI (!(lcv (v j)))) (by rw [c_17]; rfl) ?_
    exact join_25 ls (lv_sub hl [0, 1, 2] rfl)
set_option maxHeartbeats 4000000 in
set_option maxRecDepth 100000 in
/-- pass -/
theorem e_X1_pass (l : Launch) (D : va_G) (cI cZ cL cJ : ClassId) (ad : Nat → Nat) (n now : Nat) (told : Int32) (v : Nat → LV) (hwf : WFX n now v) (hinj : Inj 29 ad) (y : Nat) (hy1 : 1 ≤ y) (hy2 : y ≤ 500) : Met l yX1_pass wsX1_pass ({ frames := 3, cells := 0, slots := 0, locals := 67 } : Room) (PC D (TY cI cZ cL cJ) (AX ad) [.ref (ad 0), .int (nI y)] (fun H => PX D cI cL ad n now told v H)) (QW (AX ad) True (nI (psN v n now y)) (PX D cI cL ad n (now + y) (told + nI (psN v n now y)) v)) 0 0 (AX ad) := by
  refine Met.ofW (cc := cX1_pass) (maxL := 4) (ret := (some .int)) (by decide) rfl ?_
  intro p e s m args below meth c s₁ B hml hv
  obtain ⟨rfl, hK, hEA, hP0, hPL⟩ := hv
  obtain ⟨hn8, hnow, hwl⟩ := hwf
  have hE : EN noA s s.heap := hEA.narrow (fun _ h => h.elim)
  have hx := B.exec
  have hb := B.bytes
  have hr := B.returns
  have hts := atoms_spec (ws := wsX1_pass) B.pre
  have hown : s.vm.findClass RX1 = some m.cls := findClass_of_methodNamed B.named
  have hlocks := B.notSynchronized
  have hNF := hE.2.1.1
  have hin0 : ∀ w ∈ wsX00, w ∈ wsX1_pass := by decide +kernel
  have hin1 : ∀ w ∈ wsX10, w ∈ wsX1_pass := by decide +kernel
  have hl := lv_entry ([.ref (ad 0), .int (nI y)]) (n := 4) (Nat.le_of_ble_eq_true rfl)
  rw [lg_entry_eq]
  generalize (lg_sl ([.ref (ad 0), .int (nI y)]) ++ List.replicate (4 - (lg_sl ([.ref (ad 0), .int (nI y)])).length) Slot.unset).toArray = ls at hl ⊢
  have hl : lv_has ls 4 [(0, .ref (ad 0)), (1, .int (nI y))] := hl
  refine lv_iload_n hx hb dX1_pass_0 rfl (lv_at hl 1 rfl) ?_
  refine lv_sipush (v := nI 500) hx hb dX1_pass_1 (by decide) ?_
  refine rSn (As := [.int (nI y), .int (nI 500)]) (rest := []) ⟨hx, hb, hml, hown, hts⟩ (e_X1_needMoments l D cI cZ cL cJ y 500 hy1 hy2 (by omega)) (va_cwS 2 hts gX1_pass_X1_needMoments rfl rfl rfl (by decide +kernel) ⟨(Nat.le_of_ble_eq_true rfl), (Nat.le_of_ble_eq_true rfl)⟩) hK hE trivial rfl hl.1 rfl (Nat.le_of_ble_eq_true rfl) dX1_pass_4 ⟨(Nat.le_of_ble_eq_true rfl), (Nat.le_of_ble_eq_true rfl)⟩ ?_
  refine lv_iconst (v := nI 0) hx hb dX1_pass_7 (by decide) ?_
  refine lv_istore_n (lv' := [(2, .int (nI 0)), (0, .ref (ad 0)), (1, .int (nI y))]) hx hb dX1_pass_8 rfl hl (by decide) rfl (fun ls hl => ?_)
  refine lv_iconst (v := nI 1) hx hb dX1_pass_9 (by decide) ?_
  refine lv_istore_n (lv' := [(3, .int (nI 1)), (2, .int (nI 0)), (0, .ref (ad 0)), (1, .int (nI y))]) hx hb dX1_pass_10 rfl hl (by decide) rfl (fun ls hl => ?_)
  have loop_11 : ∀ (fu : Nat) (r : Nat), y + 1 - r ≤ fu → r ≤ y → ∀ (ls : Array Slot), lv_has ls 4 [(3, .int (nI (r + 1))), (2, .int (nI (psN v n now r))), (0, .ref (ad 0)), (1, .int (nI y))] → W p l e (headSpec wsX1_pass ({ frames := 3, cells := 0, slots := 0, locals := 67 } : Room)).room s m [.ref (ad 0), .int (nI y)].toArray below meth c s.heap [] 0 0 (MQ below (QW (AX ad) True (nI (psN v n now y)) (PX D cI cL ad n (now + y) (told + nI (psN v n now y)) v)) [.ref (ad 0), .int (nI y)].toArray s 0 0 (AX ad)) (F0 m 11 ls []) := by
    intro fu
    induction fu with
    | zero => intro r hn_11 hr9; exact absurd hn_11 (by omega)
    | succ fu ih_11 =>
      intro r hn_11 hr9 ls hl
      refine lv_iload_n hx hb dX1_pass_11 rfl (lv_at hl 0 rfl) ?_
      refine lv_iload_n hx hb dX1_pass_12 rfl (lv_at hl 3 rfl) ?_
      refine n_icmp_gt (a := r + 1) (b := y) (tgt := 35) hx hb (by omega) (by omega) dX1_pass_13 (by decide) (fun c_13 => ?_) (fun c_13 => ?_)
      · have hP : va_P D vwCl [(ad 0, .inr (1, [.ref (ad 1), .ref (ad 26), .int (nI n), .int (nI now), .int told]))] s.heap := vp1 (hP0 0 _ rfl)
        have hD : va_D (fun q => q ∈ [ad 0]) [(ad 0, .inr (1, [.ref (ad 1), .ref (ad 26), .int (nI n), .int (nI now), .int told]))] := vd1
        have hS : va_S (fun q => q ∈ [ad 0]) s.heap s.heap [] := va_S.rf
        have hry : r = y := by omega
        rw [hry] at hl
        refine lv_aload_n hx hb dX1_pass_35 rfl (lv_at hl 2 rfl) ?_
        refine lv_dup hx hb dX1_pass_36 rfl ?_
        refine va_get (D := D) (ci := 1) (v := .int (nI now)) (C := RX1) (T := TX1) (N := 5) hx hb hts hin1 hown hK hP 0 rfl rfl 3 (by decide) (hts (.fieldLink RX1 73 "LanternPrimes" "present" "I") (List.mem_of_getElem? (i := 1) rfl)) (fun _ h9 => h9) rfl dX1_pass_37 ?_
        refine lv_iload_n hx hb dX1_pass_40 rfl (lv_at hl 3 rfl) ?_
        refine n_iadd (v := nI (now + y)) hx hb dX1_pass_41 (nI_add _ _) ?_
        refine va_put (D := D) (ci := 1) (v := .int (nI (now + y))) (ty := .int) (C := RX1) (T := TX1) (N := 5) hx hb hts hin1 tyX1 tyX1_ok nmX1 hown hK hP hD hS 0 rfl rfl 3 (by decide) (hts (.fieldLink RX1 73 "LanternPrimes" "present" "I") (List.mem_of_getElem? (i := 1) rfl)) (fun _ h9 => h9) rfl (by decide +kernel) rfl rfl (Nat.le_of_ble_eq_true rfl) dX1_pass_42 (fun H locs hP hD hS => ?_)
        have hP : va_P D vwCl [(ad 0, .inr (1, [.ref (ad 1), .ref (ad 26), .int (nI n), .int (nI (now + y)), .int told]))] H := hP
        have hD : va_D (fun q => q ∈ [ad 0]) [(ad 0, .inr (1, [.ref (ad 1), .ref (ad 26), .int (nI n), .int (nI (now + y)), .int told]))] := hD
        refine lv_aload_n hx hb dX1_pass_45 rfl (lv_at hl 2 rfl) ?_
        refine lv_dup hx hb dX1_pass_46 rfl ?_
        refine va_get (D := D) (ci := 1) (v := .int told) (C := RX1) (T := TX1) (N := 5) hx hb hts hin1 hown hK hP 0 rfl rfl 4 (by decide) (hts (.fieldLink RX1 80 "LanternPrimes" "changesTold" "I") (List.mem_of_getElem? (i := 2) rfl)) (fun _ h9 => h9) rfl dX1_pass_47 ?_
        refine lv_iload_n hx hb dX1_pass_50 rfl (lv_at hl 1 rfl) ?_
        refine n_iadd (v := told + (nI (psN v n now y))) hx hb dX1_pass_51 rfl ?_
        refine va_put (D := D) (ci := 1) (v := .int (told + (nI (psN v n now y)))) (ty := .int) (C := RX1) (T := TX1) (N := 5) hx hb hts hin1 tyX1 tyX1_ok nmX1 hown hK hP hD hS 0 rfl rfl 4 (by decide) (hts (.fieldLink RX1 80 "LanternPrimes" "changesTold" "I") (List.mem_of_getElem? (i := 2) rfl)) (fun _ h9 => h9) rfl (by decide +kernel) rfl rfl (Nat.le_of_ble_eq_true rfl) dX1_pass_52 (fun H locs hP hD hS => ?_)
        have hP : va_P D vwCl [(ad 0, .inr (1, [.ref (ad 1), .ref (ad 26), .int (nI n), .int (nI (now + y)), .int (told + (nI (psN v n now y)))]))] H := hP
        have hD : va_D (fun q => q ∈ [ad 0]) [(ad 0, .inr (1, [.ref (ad 1), .ref (ad 26), .int (nI n), .int (nI (now + y)), .int (told + (nI (psN v n now y)))]))] := hD
        refine lv_iload_n hx hb dX1_pass_55 rfl (lv_at hl 1 rfl) ?_
        exact W.iret (v := nI (psN v n now y)) hx hb hr (fun t ht hW => ⟨trivial, rfl, by rw [ht]; exact PX_now hinj ⟨hP0, hPL⟩ hP hS, va_F_mono (hS.F ht) A0_AX⟩) (fun q hq => A0_AX q.base (hS.2.2 q hq)) dX1_pass_56
      · refine lv_iload_n hx hb dX1_pass_16 rfl (lv_at hl 1 rfl) ?_
        refine lv_aload_n hx hb dX1_pass_17 rfl (lv_at hl 2 rfl) ?_
        refine lv_aload_n hx hb dX1_pass_18 rfl (lv_at hl 2 rfl) ?_
        refine va_get (D := D) (ci := 1) (v := .int (nI now)) (C := RX1) (T := TX1) (N := 5) hx hb hts hin1 hown hK hP0 0 rfl rfl 3 (by decide) (hts (.fieldLink RX1 73 "LanternPrimes" "present" "I") (List.mem_of_getElem? (i := 1) rfl)) (fun _ h9 => h9) rfl dX1_pass_19 ?_
        refine lv_iload_n hx hb dX1_pass_22 rfl (lv_at hl 0 rfl) ?_
        refine n_iadd (v := nI (now + (r + 1))) hx hb dX1_pass_23 (nI_add _ _) ?_
        refine rV (r := nI (chgN v n (now + (r + 1)))) (As := [.int (nI (now + (r + 1)))]) (rest := [.int (nI (psN v n now r))]) ⟨hx, hb, hml, hown, hts⟩ (c_X1_changesOfLamps l D cI cZ cL cJ ad n now told v ⟨hn8, hnow, hwl⟩ (now + (r + 1)) (by omega)) (cwV 1 hts gX1_pass_X1_changesOfLamps rfl rfl rfl (by decide +kernel) ⟨(Nat.le_of_ble_eq_true rfl), (Nat.le_of_ble_eq_true rfl)⟩) hK hE ⟨hP0, hPL⟩ (RC_of (q := (RX1, TX1, 5)) (ci := 1) hK rfl (vpa hP0 0 rfl)) rfl hl.1 rfl (Nat.le_of_ble_eq_true rfl) dX1_pass_24 ⟨(Nat.le_of_ble_eq_true rfl), (Nat.le_of_ble_eq_true rfl)⟩ ?_
        refine n_iadd (v := nI (psN v n now (r + 1))) hx hb dX1_pass_27 (nI_add _ _) ?_
        refine lv_istore_n (lv' := [(2, .int (nI (psN v n now (r + 1)))), (3, .int (nI (r + 1))), (0, .ref (ad 0)), (1, .int (nI y))]) hx hb dX1_pass_28 rfl hl (by decide) rfl (fun ls hl => ?_)
        refine lv_iinc (v := nI ((r + 1) + 1)) (lv' := [(3, .int (nI ((r + 1) + 1))), (2, .int (nI (psN v n now (r + 1)))), (0, .ref (ad 0)), (1, .int (nI y))]) hx hb dX1_pass_29 hl (k := 1) rfl (nI_inc _) (by decide) rfl (fun ls hl => ?_)
        refine lv_goto (tgt := 11) hx hb dX1_pass_32 (by decide) ?_
        exact ih_11 (r + 1) (by omega) (by omega) ls (lv_sub hl [0, 1, 2, 3] rfl)
  exact loop_11 (y + 1) 0 (by omega) (Nat.zero_le _) ls (lv_sub hl [0, 1, 2, 3] rfl)
set_option maxHeartbeats 4000000 in
set_option maxRecDepth 100000 in
/-- momentsUntilToldApart -/
theorem e_X1_momentsUntilToldApart (l : Launch) (D : va_G) (cI cZ cL cJ : ClassId) (ad : Nat → Nat) (n now : Nat) (told : Int32) (v : Nat → LV) (hwf : WFX n now v) (hinj : Inj 29 ad) (i j : Nat) (hi : i < n) (hj : j < n) (hij : ¬ i = j) : Met l yX1_momentsUntilToldApart wsX1_momentsUntilToldApart ({ frames := 3, cells := 0, slots := 0, locals := 73 } : Room) (PC D (TY cI cZ cL cJ) (AX ad) [.ref (ad 0), .int (nI i), .int (nI j)] (fun H => PX D cI cL ad n now told v H)) (QW (AX ad) True ((tldI v i j now)) (PX D cI cL ad n now told (updv v 8 (diffL (v 8) (v i) (v j))))) 0 0 (AX ad) := by
  refine Met.ofW (cc := cX1_momentsUntilToldApart) (maxL := 3) (ret := (some .int)) (by decide) rfl ?_
  intro p e s m args below meth c s₁ B hml hv
  obtain ⟨rfl, hK, hEA, hP0, hPL⟩ := hv
  obtain ⟨hn8, hnow, hwl⟩ := hwf
  have hE : EN noA s s.heap := hEA.narrow (fun _ h => h.elim)
  have hx := B.exec
  have hb := B.bytes
  have hr := B.returns
  have hts := atoms_spec (ws := wsX1_momentsUntilToldApart) B.pre
  have hown : s.vm.findClass RX1 = some m.cls := findClass_of_methodNamed B.named
  have hlocks := B.notSynchronized
  have hNF := hE.2.1.1
  have hin0 : ∀ w ∈ wsX00, w ∈ wsX1_momentsUntilToldApart := by decide +kernel
  have hin1 : ∀ w ∈ wsX10, w ∈ wsX1_momentsUntilToldApart := by decide +kernel
  have hl := lv_entry ([.ref (ad 0), .int (nI i), .int (nI j)]) (n := 3) (Nat.le_of_ble_eq_true rfl)
  rw [lg_entry_eq]
  generalize (lg_sl ([.ref (ad 0), .int (nI i), .int (nI j)]) ++ List.replicate (3 - (lg_sl ([.ref (ad 0), .int (nI i), .int (nI j)])).length) Slot.unset).toArray = ls at hl ⊢
  have hl : lv_has ls 3 [(0, .ref (ad 0)), (1, .int (nI i)), (2, .int (nI j))] := hl
  refine lv_aload_n hx hb dX1_momentsUntilToldApart_0 rfl (lv_at hl 0 rfl) ?_
  refine lv_iload_n hx hb dX1_momentsUntilToldApart_1 rfl (lv_at hl 1 rfl) ?_
  refine lv_iload_n hx hb dX1_momentsUntilToldApart_2 rfl (lv_at hl 2 rfl) ?_
  refine rVn (As := [.int (nI i), .int (nI j)]) (rest := []) ⟨hx, hb, hml, hown, hts⟩ (e_X1_needPair l D cI cZ cL cJ ad n now told v ⟨hn8, hnow, hwl⟩ i j hi hj hij) (cwV 2 hts gX1_momentsUntilToldApart_X1_needPair rfl rfl rfl (by decide +kernel) ⟨(Nat.le_of_ble_eq_true rfl), (Nat.le_of_ble_eq_true rfl)⟩) hK hE ⟨hP0, hPL⟩ (RC_of (q := (RX1, TX1, 5)) (ci := 1) hK rfl (vpa hP0 0 rfl)) rfl hl.1 rfl (Nat.le_of_ble_eq_true rfl) dX1_momentsUntilToldApart_3 ⟨(Nat.le_of_ble_eq_true rfl), (Nat.le_of_ble_eq_true rfl)⟩ ?_
  refine lv_aload_n hx hb dX1_momentsUntilToldApart_6 rfl (lv_at hl 0 rfl) ?_
  refine va_get (D := D) (ci := 1) (v := .ref (ad 26)) (C := RX1) (T := TX1) (N := 5) hx hb hts hin1 hown hK hP0 0 rfl rfl 1 (by decide) (hts (.fieldLink RX1 16 "LanternPrimes" "difference" "LLanternPrimes$Lamp;") (List.mem_of_getElem? (i := 1) rfl)) (fun _ h9 => h9) rfl dX1_momentsUntilToldApart_7 ?_
  refine lv_aload_n hx hb dX1_momentsUntilToldApart_10 rfl (lv_at hl 0 rfl) ?_
  refine va_get (D := D) (ci := 1) (v := .ref (ad 1)) (C := RX1) (T := TX1) (N := 5) hx hb hts hin1 hown hK hP0 0 rfl rfl 0 (by decide) (hts (.fieldLink RX1 11 "LanternPrimes" "row" "[LLanternPrimes$Lamp;") (List.mem_of_getElem? (i := 2) rfl)) (fun _ h9 => h9) rfl dX1_momentsUntilToldApart_11 ?_
  refine lv_iload_n hx hb dX1_momentsUntilToldApart_14 rfl (lv_at hl 1 rfl) ?_
  refine n_aald (v := ad (2 + 3 * i)) (j := i) hx hb hK hP0 1 2 rfl rfl (by omega) (by decide) rfl dX1_momentsUntilToldApart_15 ?_
  refine lv_aload_n hx hb dX1_momentsUntilToldApart_16 rfl (lv_at hl 0 rfl) ?_
  refine va_get (D := D) (ci := 1) (v := .ref (ad 1)) (C := RX1) (T := TX1) (N := 5) hx hb hts hin1 hown hK hP0 0 rfl rfl 0 (by decide) (hts (.fieldLink RX1 11 "LanternPrimes" "row" "[LLanternPrimes$Lamp;") (List.mem_of_getElem? (i := 2) rfl)) (fun _ h9 => h9) rfl dX1_momentsUntilToldApart_17 ?_
  refine lv_iload_n hx hb dX1_momentsUntilToldApart_20 rfl (lv_at hl 2 rfl) ?_
  refine n_aald (v := ad (2 + 3 * j)) (j := j) hx hb hK hP0 1 2 rfl rfl (by omega) (by decide) rfl dX1_momentsUntilToldApart_21 ?_
  have hP8 : va_P D vwCl (lampW cI (ad 26) (ad 27) (ad 28) (v 8)) s.heap := hPL 8 (by omega)
  have hS : va_S (AJ ad 8) s.heap s.heap [] := va_S.rf
  have h38 := lpN3 (j := 8) hinj (by omega)
  have hwi4 := (hwl i (by omega)).1
  have hwj4 := (hwl j (by omega)).1
  have hdw : WFL 8 (diffL (v 8) (v i) (v j)) := diffL_wf (hwl i (by omega)) (hwl j (by omega))
  refine wVv (As := [.ref (ad (2 + 3 * i)), .ref (ad (2 + 3 * j))]) (rest := []) ⟨hx, hb, hml, hown, hts⟩ (c_X0_becomeDifference l D cI cZ cL cJ (ad 26) (ad 27) (ad 28) (v 8) (ad (2 + 3 * i)) (ad (3 + 3 * i)) (ad (4 + 3 * i)) (v i) (ad (2 + 3 * j)) (ad (3 + 3 * j)) (ad (4 + 3 * j)) (v j) h38.1 h38.2.1 h38.2.2 (no8 hinj (by omega)) (no8 hinj (by omega)) (by omega)) (cwV 2 hts gX1_momentsUntilToldApart_X0_becomeDifference rfl rfl rfl (by decide +kernel) ⟨(Nat.le_of_ble_eq_true rfl), (Nat.le_of_ble_eq_true rfl)⟩) hK ((hEA.narrow (AJ_AX (j := 8) (by omega))).narrow (AJ_lp (ad := ad) (j := 8))) ⟨hP8, hPL i (by omega), hPL j (by omega)⟩ (RC_of (q := (RX0, TX0, 5)) (ci := 0) hK rfl (vpa hP8 0 rfl)) rfl hl.1 rfl (Nat.le_of_ble_eq_true rfl) dX1_momentsUntilToldApart_22 ⟨(Nat.le_of_ble_eq_true rfl), (Nat.le_of_ble_eq_true rfl)⟩ hS (AJ_lp (ad := ad) (j := 8)) (fun H locs hQ _ hk hS => ?_)
  have hP : va_P D vwCl ((ad 0, .inr (1, [.ref (ad 1), .ref (ad 26), .int (nI n), .int (nI now), .int told])) :: lampW cI (ad (2 + 3 * 8)) (ad (3 + 3 * 8)) (ad (4 + 3 * 8)) (diffL (v 8) (v i) (v j))) H := vpc ((hP0 0 _ rfl).kept (hk _ (hP0 0 _ rfl).lt (fun z => by have := hinj.ne (i := 0) (j := 26) (by omega) (by omega) (by omega); have := hinj.ne (i := 0) (j := 27) (by omega) (by omega) (by omega); have := hinj.ne (i := 0) (j := 28) (by omega) (by omega) (by omega); simp_all))) hQ
  have hE8 : EN noA s H := ((hEA.narrow (AJ_AX (j := 8) (by omega))).kept hS.2.1).narrow (fun _ h => h.elim)
  refine lv_aload_n hx hb dX1_momentsUntilToldApart_25 rfl (lv_at hl 0 rfl) ?_
  refine va_get (D := D) (ci := 1) (v := .ref (ad 26)) (C := RX1) (T := TX1) (N := 5) hx hb hts hin1 hown hK hP 0 rfl rfl 1 (by decide) (hts (.fieldLink RX1 16 "LanternPrimes" "difference" "LLanternPrimes$Lamp;") (List.mem_of_getElem? (i := 1) rfl)) (fun _ h9 => h9) rfl dX1_momentsUntilToldApart_26 ?_
  refine lv_aload_n hx hb dX1_momentsUntilToldApart_29 rfl (lv_at hl 0 rfl) ?_
  refine va_get (D := D) (ci := 1) (v := .int (nI now)) (C := RX1) (T := TX1) (N := 5) hx hb hts hin1 hown hK hP 0 rfl rfl 3 (by decide) (hts (.fieldLink RX1 73 "LanternPrimes" "present" "I") (List.mem_of_getElem? (i := 3) rfl)) (fun _ h9 => h9) rfl dX1_momentsUntilToldApart_30 ?_
  refine rV (r := bI (onB (diffL (v 8) (v i) (v j)) now)) (As := [.int (nI now)]) (rest := []) ⟨hx, hb, hml, hown, hts⟩ (c_X0_onAt l D cI cZ cL cJ (ad 26) (ad 27) (ad 28) (diffL (v 8) (v i) (v j)) now (by omega) hdw) (cwV 1 hts gX1_momentsUntilToldApart_X0_onAt rfl rfl rfl (by decide +kernel) ⟨(Nat.le_of_ble_eq_true rfl), (Nat.le_of_ble_eq_true rfl)⟩) hK hE8 hQ (RC_of (q := (RX0, TX0, 5)) (ci := 0) hK rfl (vpa hQ 0 rfl)) rfl hl.1 rfl (Nat.le_of_ble_eq_true rfl) dX1_momentsUntilToldApart_33 ⟨(Nat.le_of_ble_eq_true rfl), (Nat.le_of_ble_eq_true rfl)⟩ ?_
  refine b_if_eq (b := onB (diffL (v 8) (v i) (v j)) now) (tgt := 41) hx hb dX1_momentsUntilToldApart_36 (by decide) (fun c_36 => ?_) (fun c_36 => ?_)
  · refine lv_aload_n hx hb dX1_momentsUntilToldApart_41 rfl (lv_at hl 0 rfl) ?_
    refine va_get (D := D) (ci := 1) (v := .ref (ad 26)) (C := RX1) (T := TX1) (N := 5) hx hb hts hin1 hown hK hP 0 rfl rfl 1 (by decide) (hts (.fieldLink RX1 16 "LanternPrimes" "difference" "LLanternPrimes$Lamp;") (List.mem_of_getElem? (i := 1) rfl)) (fun _ h9 => h9) rfl dX1_momentsUntilToldApart_42 ?_
    refine lv_aload_n hx hb dX1_momentsUntilToldApart_45 rfl (lv_at hl 0 rfl) ?_
    refine va_get (D := D) (ci := 1) (v := .int (nI now)) (C := RX1) (T := TX1) (N := 5) hx hb hts hin1 hown hK hP 0 rfl rfl 3 (by decide) (hts (.fieldLink RX1 73 "LanternPrimes" "present" "I") (List.mem_of_getElem? (i := 3) rfl)) (fun _ h9 => h9) rfl dX1_momentsUntilToldApart_46 ?_
    refine rV (r := (untC (diffL (v 8) (v i) (v j)) now)) (As := [.int (nI now)]) (rest := []) ⟨hx, hb, hml, hown, hts⟩ (c_X0_untilChange l D cI cZ cL cJ (ad 26) (ad 27) (ad 28) (diffL (v 8) (v i) (v j)) now (by omega) hdw) (cwV 1 hts gX1_momentsUntilToldApart_X0_untilChange rfl rfl rfl (by decide +kernel) ⟨(Nat.le_of_ble_eq_true rfl), (Nat.le_of_ble_eq_true rfl)⟩) hK hE8 hQ (RC_of (q := (RX0, TX0, 5)) (ci := 0) hK rfl (vpa hQ 0 rfl)) rfl hl.1 rfl (Nat.le_of_ble_eq_true rfl) dX1_momentsUntilToldApart_49 ⟨(Nat.le_of_ble_eq_true rfl), (Nat.le_of_ble_eq_true rfl)⟩ ?_
    refine n_ti (y := (tldI v i j now)) (by unfold tldI; first | rw [if_pos c_36] | rw [if_neg (by rw [c_36]; decide)]) ?_
    exact W.iret (v := (tldI v i j now)) hx hb hr (fun t ht hW => ⟨trivial, rfl, by rw [ht]; exact PX_end (j := 8) hinj (by omega) ⟨hP0, hPL⟩ hP hS, va_F_mono (hS.F ht) (AJ_AX (by omega))⟩) (fun q hq => (AJ_AX (by omega)) q.base (hS.2.2 q hq)) dX1_momentsUntilToldApart_52
  · refine lv_iconst (v := nI 0) hx hb dX1_momentsUntilToldApart_39 (by decide) ?_
    refine n_ti (y := (tldI v i j now)) (by unfold tldI; first | rw [if_pos c_36] | rw [if_neg (by rw [c_36]; decide)]) ?_
    exact W.iret (v := (tldI v i j now)) hx hb hr (fun t ht hW => ⟨trivial, rfl, by rw [ht]; exact PX_end (j := 8) hinj (by omega) ⟨hP0, hPL⟩ hP hS, va_F_mono (hS.F ht) (AJ_AX (by omega))⟩) (fun q hq => (AJ_AX (by omega)) q.base (hS.2.2 q hq)) dX1_momentsUntilToldApart_40
