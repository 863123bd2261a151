set_option maxHeartbeats 4000000 in
set_option maxRecDepth 100000 in
/-- pass -/
theorem c_X1_pass (l : Launch) (D : va_G) (cI cZ cL cJ : ClassId) (hst : l.stackTraces = false) (ad : Nat → Nat) (n now : Nat) (told : Int32) (v : Nat → LV) (hwf : WFX n now v) (hinj : Inj 29 ad) (x : Int32) : vx_Met l yX1_pass wsX1_pass ({ frames := 7, cells := 1, slots := 6, locals := 103 } : Room) (PC D (TY cI cZ cL cJ) (AX ad) [.ref (ad 0), .int x] (fun H => PX D cI cL ad n now told v H)) (QW (AX ad) (cd1 (inB (nI 1) (nI 500) x) = 0) (nI (psN v n now (ixx x))) (PX D cI cL ad n (now + ixx x) (told + nI (psN v n now (ixx x))) v)) (XC1 (fun E => exC [tIAE] (cd1 (inB (nI 1) (nI 500) x)) E)) 1 6 (AX ad) := by
  refine vx_ofW (cc := cX1_pass) (maxL := 4) (ret := (some .int)) (by decide) rfl ?_
  intro p e s m args below meth c s₁ B hml hex hv
  obtain ⟨rfl, hK, hEA, hP0, hPL⟩ := hv
  obtain ⟨hn8, hnow, hwl⟩ := hwf
  have hE : EN noA s s.heap := hEA.narrow (fun _ h => h.elim)
  have hx := B.exec
  have hb := B.bytes
  have hr := B.returns
  have hts := atoms_spec (ws := wsX1_pass) B.pre
  have hown : s.vm.findClass RX1 = some m.cls := findClass_of_methodNamed B.named
  have hlocks := B.notSynchronized
  have hNF := hE.2.1.1
  have hin0 : ∀ w ∈ wsX00, w ∈ wsX1_pass := by decide +kernel
  have hin1 : ∀ w ∈ wsX10, w ∈ wsX1_pass := by decide +kernel
  have hl := lv_entry ([.ref (ad 0), .int x]) (n := 4) (Nat.le_of_ble_eq_true rfl)
  rw [lg_entry_eq]
  generalize (lg_sl ([.ref (ad 0), .int x]) ++ List.replicate (4 - (lg_sl ([.ref (ad 0), .int x])).length) Slot.unset).toArray = ls at hl ⊢
  have hl : lv_has ls 4 [(0, .ref (ad 0)), (1, .int x)] := hl
  refine lv_iload_n hx hb dX1_pass_0 rfl (lv_at hl 1 rfl) ?_
  refine lv_sipush (v := nI 500) hx hb dX1_pass_1 (by decide) ?_
  refine xSp (As := [.int x, .int (nI 500)]) (rest := []) ⟨hx, hb, hml, hown, hts⟩ (c_X1_needMoments l D cI cZ cL cJ hst x (nI 500)) (va_cwS 2 hts gX1_pass_X1_needMoments rfl rfl rfl (by decide +kernel) ⟨(Nat.le_of_ble_eq_true rfl), (Nat.le_of_ble_eq_true rfl)⟩) hK hE trivial rfl hl.1 rfl (Nat.le_of_ble_eq_true rfl) dX1_pass_4 ⟨(Nat.le_of_ble_eq_true rfl), (Nat.le_of_ble_eq_true rfl)⟩ hex hlocks (fun E h => by rw [h.1]; exact ex1 h.2) (Nat.le_of_ble_eq_true rfl) (Nat.le_of_ble_eq_true rfl) (fun hok => ?_)
  obtain ⟨y, hy1, hy2, rfl⟩ := inB_j (by decide) (by decide) hok
  refine lv_iconst (v := nI 0) hx hb dX1_pass_7 (by decide) ?_
  refine lv_istore_n (lv' := [(2, .int (nI 0)), (0, .ref (ad 0)), (1, .int (nI y))]) hx hb dX1_pass_8 rfl hl (by decide) rfl (fun ls hl => ?_)
  refine lv_iconst (v := nI 1) hx hb dX1_pass_9 (by decide) ?_
  refine lv_istore_n (lv' := [(3, .int (nI 1)), (2, .int (nI 0)), (0, .ref (ad 0)), (1, .int (nI y))]) hx hb dX1_pass_10 rfl hl (by decide) rfl (fun ls hl => ?_)
  have loop_11 : ∀ (fu : Nat) (r : Nat), y + 1 - r ≤ fu → r ≤ y → ∀ (ls : Array Slot), lv_has ls 4 [(3, .int (nI (r + 1))), (2, .int (nI (psN v n now r))), (0, .ref (ad 0)), (1, .int (nI y))] → W p l e (headSpec wsX1_pass ({ frames := 7, cells := 1, slots := 6, locals := 103 } : Room)).room s m [.ref (ad 0), .int (nI y)].toArray below meth c s.heap [] (0 + 1) (0 + 6) (vx_MQ below (QW (AX ad) (cd1 (inB (nI 1) (nI 500) (nI y)) = 0) (nI (psN v n now (ixx (nI y)))) (PX D cI cL ad n (now + ixx (nI y)) (told + nI (psN v n now (ixx (nI y)))) v)) (XC1 (fun E => exC [tIAE] (cd1 (inB (nI 1) (nI 500) (nI y))) E)) [.ref (ad 0), .int (nI y)].toArray s 1 6 (AX ad)) (F0 m 11 ls []) := by
    intro fu
    induction fu with
    | zero => intro r hn_11 hr9; exact absurd hn_11 (by omega)
    | succ fu ih_11 =>
      intro r hn_11 hr9 ls hl
      refine lv_iload_n hx hb dX1_pass_11 rfl (lv_at hl 0 rfl) ?_
      refine lv_iload_n hx hb dX1_pass_12 rfl (lv_at hl 3 rfl) ?_
      refine n_icmp_gt (a := r + 1) (b := y) (tgt := 35) hx hb (by omega) (by omega) dX1_pass_13 (by decide) (fun c_13 => ?_) (fun c_13 => ?_)
      · have hP : va_P D vwCl [(ad 0, .inr (1, [.ref (ad 1), .ref (ad 26), .int (nI n), .int (nI now), .int told]))] s.heap := vp1 (hP0 0 _ rfl)
        have hD : va_D (fun q => q ∈ [ad 0]) [(ad 0, .inr (1, [.ref (ad 1), .ref (ad 26), .int (nI n), .int (nI now), .int told]))] := vd1
        have hS : va_S (fun q => q ∈ [ad 0]) s.heap s.heap [] := va_S.rf
        have hry : r = y := by omega
        rw [hry] at hl
        refine lv_aload_n hx hb dX1_pass_35 rfl (lv_at hl 2 rfl) ?_
        refine lv_dup hx hb dX1_pass_36 rfl ?_
        refine va_get (D := D) (ci := 1) (v := .int (nI now)) (C := RX1) (T := TX1) (N := 5) hx hb hts hin1 hown hK hP 0 rfl rfl 3 (by decide) (hts (.fieldLink RX1 73 "LanternPrimes" "present" "I") (List.mem_of_getElem? (i := 1) rfl)) (fun _ h9 => h9) rfl dX1_pass_37 ?_
        refine lv_iload_n hx hb dX1_pass_40 rfl (lv_at hl 3 rfl) ?_
        refine n_iadd (v := nI (now + y)) hx hb dX1_pass_41 (nI_add _ _) ?_
        refine va_put (D := D) (ci := 1) (v := .int (nI (now + y))) (ty := .int) (C := RX1) (T := TX1) (N := 5) hx hb hts hin1 tyX1 tyX1_ok nmX1 hown hK hP hD hS 0 rfl rfl 3 (by decide) (hts (.fieldLink RX1 73 "LanternPrimes" "present" "I") (List.mem_of_getElem? (i := 1) rfl)) (fun _ h9 => h9) rfl (by decide +kernel) rfl rfl (Nat.le_of_ble_eq_true rfl) dX1_pass_42 (fun H locs hP hD hS => ?_)
        have hP : va_P D vwCl [(ad 0, .inr (1, [.ref (ad 1), .ref (ad 26), .int (nI n), .int (nI (now + y)), .int told]))] H := hP
        have hD : va_D (fun q => q ∈ [ad 0]) [(ad 0, .inr (1, [.ref (ad 1), .ref (ad 26), .int (nI n), .int (nI (now + y)), .int told]))] := hD
        refine lv_aload_n hx hb dX1_pass_45 rfl (lv_at hl 2 rfl) ?_
        refine lv_dup hx hb dX1_pass_46 rfl ?_
        refine va_get (D := D) (ci := 1) (v := .int told) (C := RX1) (T := TX1) (N := 5) hx hb hts hin1 hown hK hP 0 rfl rfl 4 (by decide) (hts (.fieldLink RX1 80 "LanternPrimes" "changesTold" "I") (List.mem_of_getElem? (i := 2) rfl)) (fun _ h9 => h9) rfl dX1_pass_47 ?_
        refine lv_iload_n hx hb dX1_pass_50 rfl (lv_at hl 1 rfl) ?_
        refine n_iadd (v := told + (nI (psN v n now y))) hx hb dX1_pass_51 rfl ?_
        refine va_put (D := D) (ci := 1) (v := .int (told + (nI (psN v n now y)))) (ty := .int) (C := RX1) (T := TX1) (N := 5) hx hb hts hin1 tyX1 tyX1_ok nmX1 hown hK hP hD hS 0 rfl rfl 4 (by decide) (hts (.fieldLink RX1 80 "LanternPrimes" "changesTold" "I") (List.mem_of_getElem? (i := 2) rfl)) (fun _ h9 => h9) rfl (by decide +kernel) rfl rfl (Nat.le_of_ble_eq_true rfl) dX1_pass_52 (fun H locs hP hD hS => ?_)
        have hP : va_P D vwCl [(ad 0, .inr (1, [.ref (ad 1), .ref (ad 26), .int (nI n), .int (nI (now + y)), .int (told + (nI (psN v n now y)))]))] H := hP
        have hD : va_D (fun q => q ∈ [ad 0]) [(ad 0, .inr (1, [.ref (ad 1), .ref (ad 26), .int (nI n), .int (nI (now + y)), .int (told + (nI (psN v n now y)))]))] := hD
        refine lv_iload_n hx hb dX1_pass_55 rfl (lv_at hl 1 rfl) ?_
        refine n_ti (y := nI (psN v n now (ixx (nI y)))) (by rw [ixx_nI (by omega)]) ?_
        refine vx_ret ?_
        refine W.widen (k := 1) (n := 6) (Nat.le_of_ble_eq_true rfl) (Nat.le_of_ble_eq_true rfl) ?_
        exact W.iret (v := nI (psN v n now (ixx (nI y)))) hx hb hr (fun t ht hW => ⟨(cd1_t hok), rfl, by rw [ht]; rw [ixx_nI (by omega)]; exact PX_now hinj ⟨hP0, hPL⟩ hP hS, va_F_mono (hS.F ht) A0_AX⟩) (fun q hq => A0_AX q.base (hS.2.2 q hq)) dX1_pass_56
      · refine lv_iload_n hx hb dX1_pass_16 rfl (lv_at hl 1 rfl) ?_
        refine lv_aload_n hx hb dX1_pass_17 rfl (lv_at hl 2 rfl) ?_
        refine lv_aload_n hx hb dX1_pass_18 rfl (lv_at hl 2 rfl) ?_
        refine va_get (D := D) (ci := 1) (v := .int (nI now)) (C := RX1) (T := TX1) (N := 5) hx hb hts hin1 hown hK hP0 0 rfl rfl 3 (by decide) (hts (.fieldLink RX1 73 "LanternPrimes" "present" "I") (List.mem_of_getElem? (i := 1) rfl)) (fun _ h9 => h9) rfl dX1_pass_19 ?_
        refine lv_iload_n hx hb dX1_pass_22 rfl (lv_at hl 0 rfl) ?_
        refine n_iadd (v := nI (now + (r + 1))) hx hb dX1_pass_23 (nI_add _ _) ?_
        refine rV (r := nI (chgN v n (now + (r + 1)))) (As := [.int (nI (now + (r + 1)))]) (rest := [.int (nI (psN v n now r))]) ⟨hx, hb, hml, hown, hts⟩ (c_X1_changesOfLamps l D cI cZ cL cJ ad n now told v ⟨hn8, hnow, hwl⟩ (now + (r + 1)) (by omega)) (cwV 1 hts gX1_pass_X1_changesOfLamps rfl rfl rfl (by decide +kernel) ⟨(Nat.le_of_ble_eq_true rfl), (Nat.le_of_ble_eq_true rfl)⟩) hK hE ⟨hP0, hPL⟩ (RC_of (q := (RX1, TX1, 5)) (ci := 1) hK rfl (vpa hP0 0 rfl)) rfl hl.1 rfl (Nat.le_of_ble_eq_true rfl) dX1_pass_24 ⟨(Nat.le_of_ble_eq_true rfl), (Nat.le_of_ble_eq_true rfl)⟩ ?_
        refine n_iadd (v := nI (psN v n now (r + 1))) hx hb dX1_pass_27 (nI_add _ _) ?_
        refine lv_istore_n (lv' := [(2, .int (nI (psN v n now (r + 1)))), (3, .int (nI (r + 1))), (0, .ref (ad 0)), (1, .int (nI y))]) hx hb dX1_pass_28 rfl hl (by decide) rfl (fun ls hl => ?_)
        refine lv_iinc (v := nI ((r + 1) + 1)) (lv' := [(3, .int (nI ((r + 1) + 1))), (2, .int (nI (psN v n now (r + 1)))), (0, .ref (ad 0)), (1, .int (nI y))]) hx hb dX1_pass_29 hl (k := 1) rfl (nI_inc _) (by decide) rfl (fun ls hl => ?_)
        refine lv_goto (tgt := 11) hx hb dX1_pass_32 (by decide) ?_
        exact ih_11 (r + 1) (by omega) (by omega) ls (lv_sub hl [0, 1, 2, 3] rfl)
  exact loop_11 (y + 1) 0 (by omega) (Nat.zero_le _) ls (lv_sub hl [0, 1, 2, 3] rfl)
set_option maxHeartbeats 4000000 in
set_option maxRecDepth 100000 in
/-- momentsUntilToldApart -/
theorem c_X1_momentsUntilToldApart (l : Launch) (D : va_G) (cI cZ cL cJ : ClassId) (hst : l.stackTraces = false) (ad : Nat → Nat) (n now : Nat) (told : Int32) (v : Nat → LV) (hwf : WFX n now v) (hinj : Inj 29 ad) (k q : Int32) : vx_Met l yX1_momentsUntilToldApart wsX1_momentsUntilToldApart ({ frames := 8, cells := 3, slots := 18, locals := 125 } : Room) (PC D (TY cI cZ cL cJ) (AX ad) [.ref (ad 0), .int k, .int q] (fun H => PX D cI cL ad n now told v H)) (QW (AX ad) (cd2 (lpOk n k && lpOk n q) (decide (¬ k = q)) = 0) ((tldI v (ixx k) (ixx q) now)) (PX D cI cL ad n now told (updv v 8 (diffL (v 8) (v (ixx k)) (v (ixx q)))))) (XC1 (fun E => exC [tIOB, tIAE] (cd2 (lpOk n k && lpOk n q) (decide (¬ k = q))) E)) 3 18 (AX ad) := by
  refine vx_ofW (cc := cX1_momentsUntilToldApart) (maxL := 3) (ret := (some .int)) (by decide) rfl ?_
  intro p e s m args below meth c s₁ B hml hex hv
  obtain ⟨rfl, hK, hEA, hP0, hPL⟩ := hv
  obtain ⟨hn8, hnow, hwl⟩ := hwf
  have hE : EN noA s s.heap := hEA.narrow (fun _ h => h.elim)
  have hx := B.exec
  have hb := B.bytes
  have hr := B.returns
  have hts := atoms_spec (ws := wsX1_momentsUntilToldApart) B.pre
  have hown : s.vm.findClass RX1 = some m.cls := findClass_of_methodNamed B.named
  have hlocks := B.notSynchronized
  have hNF := hE.2.1.1
  have hin0 : ∀ w ∈ wsX00, w ∈ wsX1_momentsUntilToldApart := by decide +kernel
  have hin1 : ∀ w ∈ wsX10, w ∈ wsX1_momentsUntilToldApart := by decide +kernel
  have hl := lv_entry ([.ref (ad 0), .int k, .int q]) (n := 3) (Nat.le_of_ble_eq_true rfl)
  rw [lg_entry_eq]
  generalize (lg_sl ([.ref (ad 0), .int k, .int q]) ++ List.replicate (3 - (lg_sl ([.ref (ad 0), .int k, .int q])).length) Slot.unset).toArray = ls at hl ⊢
  have hl : lv_has ls 3 [(0, .ref (ad 0)), (1, .int k), (2, .int q)] := hl
  refine lv_aload_n hx hb dX1_momentsUntilToldApart_0 rfl (lv_at hl 0 rfl) ?_
  refine lv_iload_n hx hb dX1_momentsUntilToldApart_1 rfl (lv_at hl 1 rfl) ?_
  refine lv_iload_n hx hb dX1_momentsUntilToldApart_2 rfl (lv_at hl 2 rfl) ?_
  refine xVp (As := [.int k, .int q]) (rest := []) ⟨hx, hb, hml, hown, hts⟩ (c_X1_needPair l D cI cZ cL cJ hst ad n now told v ⟨hn8, hnow, hwl⟩ k q) (cwV 2 hts gX1_momentsUntilToldApart_X1_needPair rfl rfl rfl (by decide +kernel) ⟨(Nat.le_of_ble_eq_true rfl), (Nat.le_of_ble_eq_true rfl)⟩) hK hE ⟨hP0, hPL⟩ (RC_of (q := (RX1, TX1, 5)) (ci := 1) hK rfl (vpa hP0 0 rfl)) rfl hl.1 rfl (Nat.le_of_ble_eq_true rfl) dX1_momentsUntilToldApart_3 ⟨(Nat.le_of_ble_eq_true rfl), (Nat.le_of_ble_eq_true rfl)⟩ hex hlocks (fun E h => h) (Nat.le_of_ble_eq_true rfl) (Nat.le_of_ble_eq_true rfl) (fun hok => ?_)
  obtain ⟨i, j, hi, hj, hij, rfl, rfl⟩ := pair_j hn8 hok
  refine lv_aload_n hx hb dX1_momentsUntilToldApart_6 rfl (lv_at hl 0 rfl) ?_
  refine va_get (D := D) (ci := 1) (v := .ref (ad 26)) (C := RX1) (T := TX1) (N := 5) hx hb hts hin1 hown hK hP0 0 rfl rfl 1 (by decide) (hts (.fieldLink RX1 16 "LanternPrimes" "difference" "LLanternPrimes$Lamp;") (List.mem_of_getElem? (i := 1) rfl)) (fun _ h9 => h9) rfl dX1_momentsUntilToldApart_7 ?_
  refine lv_aload_n hx hb dX1_momentsUntilToldApart_10 rfl (lv_at hl 0 rfl) ?_
  refine va_get (D := D) (ci := 1) (v := .ref (ad 1)) (C := RX1) (T := TX1) (N := 5) hx hb hts hin1 hown hK hP0 0 rfl rfl 0 (by decide) (hts (.fieldLink RX1 11 "LanternPrimes" "row" "[LLanternPrimes$Lamp;") (List.mem_of_getElem? (i := 2) rfl)) (fun _ h9 => h9) rfl dX1_momentsUntilToldApart_11 ?_
  refine lv_iload_n hx hb dX1_momentsUntilToldApart_14 rfl (lv_at hl 1 rfl) ?_
  refine n_aald (v := ad (2 + 3 * i)) (j := i) hx hb hK hP0 1 2 rfl rfl (by omega) (by decide) rfl dX1_momentsUntilToldApart_15 ?_
  refine lv_aload_n hx hb dX1_momentsUntilToldApart_16 rfl (lv_at hl 0 rfl) ?_
  refine va_get (D := D) (ci := 1) (v := .ref (ad 1)) (C := RX1) (T := TX1) (N := 5) hx hb hts hin1 hown hK hP0 0 rfl rfl 0 (by decide) (hts (.fieldLink RX1 11 "LanternPrimes" "row" "[LLanternPrimes$Lamp;") (List.mem_of_getElem? (i := 2) rfl)) (fun _ h9 => h9) rfl dX1_momentsUntilToldApart_17 ?_
  refine lv_iload_n hx hb dX1_momentsUntilToldApart_20 rfl (lv_at hl 2 rfl) ?_
  refine n_aald (v := ad (2 + 3 * j)) (j := j) hx hb hK hP0 1 2 rfl rfl (by omega) (by decide) rfl dX1_momentsUntilToldApart_21 ?_
  have hP8 : va_P D vwCl (lampW cI (ad 26) (ad 27) (ad 28) (v 8)) s.heap := hPL 8 (by omega)
  have hS : va_S (AJ ad 8) s.heap s.heap [] := va_S.rf
  have h38 := lpN3 (j := 8) hinj (by omega)
  have hwi4 := (hwl i (by omega)).1
  have hwj4 := (hwl j (by omega)).1
  have hdw : WFL 8 (diffL (v 8) (v i) (v j)) := diffL_wf (hwl i (by omega)) (hwl j (by omega))
  refine wVv (As := [.ref (ad (2 + 3 * i)), .ref (ad (2 + 3 * j))]) (rest := []) ⟨hx, hb, hml, hown, hts⟩ (c_X0_becomeDifference l D cI cZ cL cJ (ad 26) (ad 27) (ad 28) (v 8) (ad (2 + 3 * i)) (ad (3 + 3 * i)) (ad (4 + 3 * i)) (v i) (ad (2 + 3 * j)) (ad (3 + 3 * j)) (ad (4 + 3 * j)) (v j) h38.1 h38.2.1 h38.2.2 (no8 hinj (by omega)) (no8 hinj (by omega)) (by omega)) (cwV 2 hts gX1_momentsUntilToldApart_X0_becomeDifference rfl rfl rfl (by decide +kernel) ⟨(Nat.le_of_ble_eq_true rfl), (Nat.le_of_ble_eq_true rfl)⟩) hK ((hEA.narrow (AJ_AX (j := 8) (by omega))).narrow (AJ_lp (ad := ad) (j := 8))) ⟨hP8, hPL i (by omega), hPL j (by omega)⟩ (RC_of (q := (RX0, TX0, 5)) (ci := 0) hK rfl (vpa hP8 0 rfl)) rfl hl.1 rfl (Nat.le_of_ble_eq_true rfl) dX1_momentsUntilToldApart_22 ⟨(Nat.le_of_ble_eq_true rfl), (Nat.le_of_ble_eq_true rfl)⟩ hS (AJ_lp (ad := ad) (j := 8)) (fun H locs hQ _ hk hS => ?_)
  have hP : va_P D vwCl ((ad 0, .inr (1, [.ref (ad 1), .ref (ad 26), .int (nI n), .int (nI now), .int told])) :: lampW cI (ad (2 + 3 * 8)) (ad (3 + 3 * 8)) (ad (4 + 3 * 8)) (diffL (v 8) (v i) (v j))) H := vpc ((hP0 0 _ rfl).kept (hk _ (hP0 0 _ rfl).lt (fun z => by have := hinj.ne (i := 0) (j := 26) (by omega) (by omega) (by omega); have := hinj.ne (i := 0) (j := 27) (by omega) (by omega) (by omega); have := hinj.ne (i := 0) (j := 28) (by omega) (by omega) (by omega); simp_all))) hQ
  have hE8 : EN noA s H := ((hEA.narrow (AJ_AX (j := 8) (by omega))).kept hS.2.1).narrow (fun _ h => h.elim)
  refine lv_aload_n hx hb dX1_momentsUntilToldApart_25 rfl (lv_at hl 0 rfl) ?_
  refine va_get (D := D) (ci := 1) (v := .ref (ad 26)) (C := RX1) (T := TX1) (N := 5) hx hb hts hin1 hown hK hP 0 rfl rfl 1 (by decide) (hts (.fieldLink RX1 16 "LanternPrimes" "difference" "LLanternPrimes$Lamp;") (List.mem_of_getElem? (i := 1) rfl)) (fun _ h9 => h9) rfl dX1_momentsUntilToldApart_26 ?_
  refine lv_aload_n hx hb dX1_momentsUntilToldApart_29 rfl (lv_at hl 0 rfl) ?_
  refine va_get (D := D) (ci := 1) (v := .int (nI now)) (C := RX1) (T := TX1) (N := 5) hx hb hts hin1 hown hK hP 0 rfl rfl 3 (by decide) (hts (.fieldLink RX1 73 "LanternPrimes" "present" "I") (List.mem_of_getElem? (i := 3) rfl)) (fun _ h9 => h9) rfl dX1_momentsUntilToldApart_30 ?_
  refine rV (r := bI (onB (diffL (v 8) (v i) (v j)) now)) (As := [.int (nI now)]) (rest := []) ⟨hx, hb, hml, hown, hts⟩ (c_X0_onAt l D cI cZ cL cJ (ad 26) (ad 27) (ad 28) (diffL (v 8) (v i) (v j)) now (by omega) hdw) (cwV 1 hts gX1_momentsUntilToldApart_X0_onAt rfl rfl rfl (by decide +kernel) ⟨(Nat.le_of_ble_eq_true rfl), (Nat.le_of_ble_eq_true rfl)⟩) hK hE8 hQ (RC_of (q := (RX0, TX0, 5)) (ci := 0) hK rfl (vpa hQ 0 rfl)) rfl hl.1 rfl (Nat.le_of_ble_eq_true rfl) dX1_momentsUntilToldApart_33 ⟨(Nat.le_of_ble_eq_true rfl), (Nat.le_of_ble_eq_true rfl)⟩ ?_
  refine b_if_eq (b := onB (diffL (v 8) (v i) (v j)) now) (tgt := 41) hx hb dX1_momentsUntilToldApart_36 (by decide) (fun c_36 => ?_) (fun c_36 => ?_)
  · refine lv_aload_n hx hb dX1_momentsUntilToldApart_41 rfl (lv_at hl 0 rfl) ?_
    refine va_get (D := D) (ci := 1) (v := .ref (ad 26)) (C := RX1) (T := TX1) (N := 5) hx hb hts hin1 hown hK hP 0 rfl rfl 1 (by decide) (hts (.fieldLink RX1 16 "LanternPrimes" "difference" "LLanternPrimes$Lamp;") (List.mem_of_getElem? (i := 1) rfl)) (fun _ h9 => h9) rfl dX1_momentsUntilToldApart_42 ?_
    refine lv_aload_n hx hb dX1_momentsUntilToldApart_45 rfl (lv_at hl 0 rfl) ?_
    refine va_get (D := D) (ci := 1) (v := .int (nI now)) (C := RX1) (T := TX1) (N := 5) hx hb hts hin1 hown hK hP 0 rfl rfl 3 (by decide) (hts (.fieldLink RX1 73 "LanternPrimes" "present" "I") (List.mem_of_getElem? (i := 3) rfl)) (fun _ h9 => h9) rfl dX1_momentsUntilToldApart_46 ?_
    refine rV (r := (untC (diffL (v 8) (v i) (v j)) now)) (As := [.int (nI now)]) (rest := []) ⟨hx, hb, hml, hown, hts⟩ (c_X0_untilChange l D cI cZ cL cJ (ad 26) (ad 27) (ad 28) (diffL (v 8) (v i) (v j)) now (by omega) hdw) (cwV 1 hts gX1_momentsUntilToldApart_X0_untilChange rfl rfl rfl (by decide +kernel) ⟨(Nat.le_of_ble_eq_true rfl), (Nat.le_of_ble_eq_true rfl)⟩) hK hE8 hQ (RC_of (q := (RX0, TX0, 5)) (ci := 0) hK rfl (vpa hQ 0 rfl)) rfl hl.1 rfl (Nat.le_of_ble_eq_true rfl) dX1_momentsUntilToldApart_49 ⟨(Nat.le_of_ble_eq_true rfl), (Nat.le_of_ble_eq_true rfl)⟩ ?_
    refine n_ti (y := (tldI v (ixx (nI i)) (ixx (nI j)) now)) (by rw [ixx_nI (by omega), ixx_nI (by omega)]; unfold tldI; first | rw [if_pos c_36] | rw [if_neg (by rw [c_36]; decide)]) ?_
    refine vx_ret ?_
    refine W.widen (k := 3) (n := 18) (Nat.le_of_ble_eq_true rfl) (Nat.le_of_ble_eq_true rfl) ?_
    exact W.iret (v := (tldI v (ixx (nI i)) (ixx (nI j)) now)) hx hb hr (fun t ht hW => ⟨hok, rfl, by rw [ht]; rw [ixx_nI (by omega), ixx_nI (by omega)]; exact PX_end (j := 8) hinj (by omega) ⟨hP0, hPL⟩ hP hS, va_F_mono (hS.F ht) (AJ_AX (by omega))⟩) (fun q hq => (AJ_AX (by omega)) q.base (hS.2.2 q hq)) dX1_momentsUntilToldApart_52
  · refine lv_iconst (v := nI 0) hx hb dX1_momentsUntilToldApart_39 (by decide) ?_
    refine n_ti (y := (tldI v (ixx (nI i)) (ixx (nI j)) now)) (by rw [ixx_nI (by omega), ixx_nI (by omega)]; unfold tldI; first | rw [if_pos c_36] | rw [if_neg (by rw [c_36]; decide)]) ?_
    refine vx_ret ?_
    refine W.widen (k := 3) (n := 18) (Nat.le_of_ble_eq_true rfl) (Nat.le_of_ble_eq_true rfl) ?_
    exact W.iret (v := (tldI v (ixx (nI i)) (ixx (nI j)) now)) hx hb hr (fun t ht hW => ⟨hok, rfl, by rw [ht]; rw [ixx_nI (by omega), ixx_nI (by omega)]; exact PX_end (j := 8) hinj (by omega) ⟨hP0, hPL⟩ hP hS, va_F_mono (hS.F ht) (AJ_AX (by omega))⟩) (fun q hq => (AJ_AX (by omega)) q.base (hS.2.2 q hq)) dX1_momentsUntilToldApart_40
