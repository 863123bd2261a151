set_option maxHeartbeats 4000000 in
set_option maxRecDepth 100000 in
/-- needLamp -/
theorem c_X1_needLamp (l : Launch) (D : va_G) (cI cZ cL cJ : ClassId) (hst : l.stackTraces = false) (ad : Nat → Nat) (n now : Nat) (told : Int32) (v : Nat → LV) (hwf : WFX n now v) (k : Int32) : vx_Met l yX1_needLamp wsX1_needLamp ({ frames := 6, cells := 1, slots := 6, locals := 82 } : Room) (PC D (TY cI cZ cL cJ) noA [.ref (ad 0), .int k] (fun H => PX D cI cL ad n now told v H)) (QOkv (lpOk n k = true)) (XC1 (fun E => E = tIOB ∧ lpOk n k = false)) 1 6 (fun _ => False) := by
  refine vx_ofW (cc := cX1_needLamp) (maxL := 2) (ret := none) (by decide) rfl ?_
  intro p e s m args below meth c s₁ B hml hex hv
  obtain ⟨rfl, hK, hE, hP0, hPL⟩ := hv
  obtain ⟨hn8, hnow, hwl⟩ := hwf
  have hx := B.exec
  have hb := B.bytes
  have hr := B.returns
  have hts := atoms_spec (ws := wsX1_needLamp) B.pre
  have hown : s.vm.findClass RX1 = some m.cls := findClass_of_methodNamed B.named
  have hlocks := B.notSynchronized
  have hNF := hE.2.1.1
  have hin1 : ∀ w ∈ wsX10, w ∈ wsX1_needLamp := by decide +kernel
  have hl := lv_entry ([.ref (ad 0), .int k]) (n := 2) (Nat.le_of_ble_eq_true rfl)
  rw [lg_entry_eq]
  generalize (lg_sl ([.ref (ad 0), .int k]) ++ List.replicate (2 - (lg_sl ([.ref (ad 0), .int k])).length) Slot.unset).toArray = ls at hl ⊢
  have hl : lv_has ls 2 [(0, .ref (ad 0)), (1, .int k)] := hl
  refine lv_iload_n hx hb dX1_needLamp_0 rfl (lv_at hl 1 rfl) ?_
  refine lv_if_lt (tgt := 12) hx hb dX1_needLamp_1 (by decide) (fun c_1 => ?_) (fun c_1 => ?_)
  · exact xthrow xIOB fIOB gIOB nIOB hx hb hst hown (hts (.classLink RX1 141 "java/lang/IndexOutOfBoundsException") (List.mem_of_getElem? (i := 1) rfl)) (hts (.initialized "java/lang/IndexOutOfBoundsException") (List.mem_of_getElem? (i := 2) rfl)) (List.mem_of_getElem? (i := 2) rfl) (fun w h => hts w (List.mem_cons_of_mem _ (List.mem_append_right _ h))) hE (hl.1.trans hml.symm) dX1_needLamp_12 dX1_needLamp_15 dX1_needLamp_16 dX1_needLamp_18 dX1_needLamp_21 hex (Nat.le_of_ble_eq_true rfl) (Nat.le_of_ble_eq_true rfl) (Nat.le_of_ble_eq_true rfl) (Nat.le_of_ble_eq_true rfl) hlocks ⟨rfl, by unfold lpOk rgOk; first | (rw [decide_eq_true c_1]; rfl) | (rw [decide_eq_false c_9]; exact Bool.and_false _)⟩ (Nat.le_of_ble_eq_true rfl) (Nat.le_of_ble_eq_true rfl)
  · refine lv_iload_n hx hb dX1_needLamp_4 rfl (lv_at hl 1 rfl) ?_
    refine lv_aload_n hx hb dX1_needLamp_5 rfl (lv_at hl 0 rfl) ?_
    refine va_get (D := D) (ci := 1) (v := .int (nI n)) (C := RX1) (T := TX1) (N := 5) hx hb hts hin1 hown hK hP0 0 rfl rfl 2 (by decide) (hts (.fieldLink RX1 20 "LanternPrimes" "lampCount" "I") (List.mem_of_getElem? (i := 3) rfl)) (fun _ h9 => h9) rfl dX1_needLamp_6 ?_
    refine lv_icmp_lt (tgt := 22) hx hb dX1_needLamp_9 (by decide) (fun c_9 => ?_) (fun c_9 => ?_)
    · refine vx_ret ?_
      refine W.widen (k := 1) (n := 6) (Nat.le_of_ble_eq_true rfl) (Nat.le_of_ble_eq_true rfl) ?_
      exact W.vret hx hb hr (fun t ht hW => ⟨(by unfold lpOk rgOk; rw [decide_eq_false c_1, decide_eq_true c_9]; rfl), rfl, ht⟩) (fun _ h => by cases h) dX1_needLamp_22
    · exact xthrow xIOB fIOB gIOB nIOB hx hb hst hown (hts (.classLink RX1 141 "java/lang/IndexOutOfBoundsException") (List.mem_of_getElem? (i := 1) rfl)) (hts (.initialized "java/lang/IndexOutOfBoundsException") (List.mem_of_getElem? (i := 2) rfl)) (List.mem_of_getElem? (i := 2) rfl) (fun w h => hts w (List.mem_cons_of_mem _ (List.mem_append_right _ h))) hE (hl.1.trans hml.symm) dX1_needLamp_12 dX1_needLamp_15 dX1_needLamp_16 dX1_needLamp_18 dX1_needLamp_21 hex (Nat.le_of_ble_eq_true rfl) (Nat.le_of_ble_eq_true rfl) (Nat.le_of_ble_eq_true rfl) (Nat.le_of_ble_eq_true rfl) hlocks ⟨rfl, by unfold lpOk rgOk; first | (rw [decide_eq_true c_1]; rfl) | (rw [decide_eq_false c_9]; exact Bool.and_false _)⟩ (Nat.le_of_ble_eq_true rfl) (Nat.le_of_ble_eq_true rfl)
set_option maxHeartbeats 4000000 in
set_option maxRecDepth 100000 in
/-- needBeat -/
theorem c_X1_needBeat (l : Launch) (D : va_G) (cI cZ cL cJ : ClassId) (hst : l.stackTraces = false) (ad : Nat → Nat) (n now : Nat) (told : Int32) (v : Nat → LV) (hwf : WFX n now v) (k b : Int32) : vx_Met l yX1_needBeat wsX1_needBeat ({ frames := 7, cells := 2, slots := 12, locals := 103 } : Room) (PC D (TY cI cZ cL cJ) noA [.ref (ad 0), .int k, .int b] (fun H => PX D cI cL ad n now told v H)) (QOkv (btOk n v k b = true)) (XC1 (fun E => E = tIOB ∧ btOk n v k b = false)) 2 12 (fun _ => False) := by
  refine vx_ofW (cc := cX1_needBeat) (maxL := 3) (ret := none) (by decide) rfl ?_
  intro p e s m args below meth c s₁ B hml hex hv
  obtain ⟨rfl, hK, hE, hP0, hPL⟩ := hv
  obtain ⟨hn8, hnow, hwl⟩ := hwf
  have hx := B.exec
  have hb := B.bytes
  have hr := B.returns
  have hts := atoms_spec (ws := wsX1_needBeat) B.pre
  have hown : s.vm.findClass RX1 = some m.cls := findClass_of_methodNamed B.named
  have hlocks := B.notSynchronized
  have hNF := hE.2.1.1
  have hin0 : ∀ w ∈ wsX00, w ∈ wsX1_needBeat := by decide +kernel
  have hin1 : ∀ w ∈ wsX10, w ∈ wsX1_needBeat := by decide +kernel
  have hl := lv_entry ([.ref (ad 0), .int k, .int b]) (n := 3) (Nat.le_of_ble_eq_true rfl)
  rw [lg_entry_eq]
  generalize (lg_sl ([.ref (ad 0), .int k, .int b]) ++ List.replicate (3 - (lg_sl ([.ref (ad 0), .int k, .int b])).length) Slot.unset).toArray = ls at hl ⊢
  have hl : lv_has ls 3 [(0, .ref (ad 0)), (1, .int k), (2, .int b)] := hl
  refine lv_aload_n hx hb dX1_needBeat_0 rfl (lv_at hl 0 rfl) ?_
  refine lv_iload_n hx hb dX1_needBeat_1 rfl (lv_at hl 1 rfl) ?_
  refine xVp (As := [.int k]) (rest := []) ⟨hx, hb, hml, hown, hts⟩ (c_X1_needLamp l D cI cZ cL cJ hst ad n now told v ⟨hn8, hnow, hwl⟩ k) (cwV 1 hts gX1_needBeat_X1_needLamp rfl rfl rfl (by decide +kernel) ⟨(Nat.le_of_ble_eq_true rfl), (Nat.le_of_ble_eq_true rfl)⟩) hK hE ⟨hP0, hPL⟩ (RC_of (q := (RX1, TX1, 5)) (ci := 1) hK rfl (vpa hP0 0 rfl)) rfl hl.1 rfl (Nat.le_of_ble_eq_true rfl) dX1_needBeat_2 ⟨(Nat.le_of_ble_eq_true rfl), (Nat.le_of_ble_eq_true rfl)⟩ hex hlocks (fun E h => ⟨h.1, by unfold btOk; rw [h.2]; rfl⟩) (Nat.le_of_ble_eq_true rfl) (Nat.le_of_ble_eq_true rfl) (fun hok => ?_)
  obtain ⟨j, hj, rfl⟩ := lpOk_j (by omega) hok
  refine lv_iload_n hx hb dX1_needBeat_5 rfl (lv_at hl 2 rfl) ?_
  refine lv_if_lt (tgt := 22) hx hb dX1_needBeat_6 (by decide) (fun c_6 => ?_) (fun c_6 => ?_)
  · exact xthrow xIOB fIOB gIOB nIOB hx hb hst hown (hts (.classLink RX1 141 "java/lang/IndexOutOfBoundsException") (List.mem_of_getElem? (i := 1) rfl)) (hts (.initialized "java/lang/IndexOutOfBoundsException") (List.mem_of_getElem? (i := 2) rfl)) (List.mem_of_getElem? (i := 3) rfl) (fun w h => hts w (List.mem_cons_of_mem _ (List.mem_append_right _ h))) hE (hl.1.trans hml.symm) dX1_needBeat_22 dX1_needBeat_25 dX1_needBeat_26 dX1_needBeat_28 dX1_needBeat_31 hex (Nat.le_of_ble_eq_true rfl) (Nat.le_of_ble_eq_true rfl) (Nat.le_of_ble_eq_true rfl) (Nat.le_of_ble_eq_true rfl) hlocks ⟨rfl, by unfold btOk lpOk rgOk; rw [ixx_nI (by omega)]; first | (rw [decide_eq_true c_6]; exact Bool.and_false _) | (rw [decide_eq_false c_19, Bool.and_false]; exact Bool.and_false _)⟩ (Nat.le_of_ble_eq_true rfl) (Nat.le_of_ble_eq_true rfl)
  · refine lv_iload_n hx hb dX1_needBeat_9 rfl (lv_at hl 2 rfl) ?_
    refine lv_aload_n hx hb dX1_needBeat_10 rfl (lv_at hl 0 rfl) ?_
    refine va_get (D := D) (ci := 1) (v := .ref (ad 1)) (C := RX1) (T := TX1) (N := 5) hx hb hts hin1 hown hK hP0 0 rfl rfl 0 (by decide) (hts (.fieldLink RX1 11 "LanternPrimes" "row" "[LLanternPrimes$Lamp;") (List.mem_of_getElem? (i := 3) rfl)) (fun _ h9 => h9) rfl dX1_needBeat_11 ?_
    refine lv_iload_n hx hb dX1_needBeat_14 rfl (lv_at hl 1 rfl) ?_
    refine n_aald (v := ad (2 + 3 * j)) (j := j) hx hb hK hP0 1 2 rfl rfl (by omega) (by decide) rfl dX1_needBeat_15 ?_
    have hPj := hPL j (by omega)
    refine va_getN (D := D) (ci := 0) (v := .int (nI (lbc (v j)))) (C := RX0) (T := TX0) (N := 5) hx hb hts hin0 hown hK hPj 0 rfl rfl 2 (by decide) (va_Nw.use rfl (hNF _ (List.mem_of_getElem? (i := 1) rfl))) (fun _ h9 => h9) rfl dX1_needBeat_16 ?_
    refine lv_icmp_lt (tgt := 32) hx hb dX1_needBeat_19 (by decide) (fun c_19 => ?_) (fun c_19 => ?_)
    · refine vx_ret ?_
      refine W.widen (k := 2) (n := 12) (Nat.le_of_ble_eq_true rfl) (Nat.le_of_ble_eq_true rfl) ?_
      exact W.vret hx hb hr (fun t ht hW => ⟨(by unfold btOk; rw [hok, ixx_nI (by omega)]; unfold lpOk rgOk; rw [decide_eq_false c_6, decide_eq_true c_19]; rfl), rfl, ht⟩) (fun _ h => by cases h) dX1_needBeat_32
    · exact xthrow xIOB fIOB gIOB nIOB hx hb hst hown (hts (.classLink RX1 141 "java/lang/IndexOutOfBoundsException") (List.mem_of_getElem? (i := 1) rfl)) (hts (.initialized "java/lang/IndexOutOfBoundsException") (List.mem_of_getElem? (i := 2) rfl)) (List.mem_of_getElem? (i := 3) rfl) (fun w h => hts w (List.mem_cons_of_mem _ (List.mem_append_right _ h))) hE (hl.1.trans hml.symm) dX1_needBeat_22 dX1_needBeat_25 dX1_needBeat_26 dX1_needBeat_28 dX1_needBeat_31 hex (Nat.le_of_ble_eq_true rfl) (Nat.le_of_ble_eq_true rfl) (Nat.le_of_ble_eq_true rfl) (Nat.le_of_ble_eq_true rfl) hlocks ⟨rfl, by unfold btOk lpOk rgOk; rw [ixx_nI (by omega)]; first | (rw [decide_eq_true c_6]; exact Bool.and_false _) | (rw [decide_eq_false c_19, Bool.and_false]; exact Bool.and_false _)⟩ (Nat.le_of_ble_eq_true rfl) (Nat.le_of_ble_eq_true rfl)
set_option maxHeartbeats 4000000 in
set_option maxRecDepth 100000 in
/-- needPair -/
theorem c_X1_needPair (l : Launch) (D : va_G) (cI cZ cL cJ : ClassId) (hst : l.stackTraces = false) (ad : Nat → Nat) (n now : Nat) (told : Int32) (v : Nat → LV) (hwf : WFX n now v) (k q : Int32) : vx_Met l yX1_needPair wsX1_needPair ({ frames := 7, cells := 3, slots := 18, locals := 103 } : Room) (PC D (TY cI cZ cL cJ) noA [.ref (ad 0), .int k, .int q] (fun H => PX D cI cL ad n now told v H)) (QOkv (cd2 (lpOk n k && lpOk n q) (decide (¬ k = q)) = 0)) (XC1 (fun E => exC [tIOB, tIAE] (cd2 (lpOk n k && lpOk n q) (decide (¬ k = q))) E)) 3 18 (fun _ => False) := by
  refine vx_ofW (cc := cX1_needPair) (maxL := 3) (ret := none) (by decide) rfl ?_
  intro p e s m args below meth c s₁ B hml hex hv
  obtain ⟨rfl, hK, hE, hP0, hPL⟩ := hv
  obtain ⟨hn8, hnow, hwl⟩ := hwf
  have hx := B.exec
  have hb := B.bytes
  have hr := B.returns
  have hts := atoms_spec (ws := wsX1_needPair) B.pre
  have hown : s.vm.findClass RX1 = some m.cls := findClass_of_methodNamed B.named
  have hlocks := B.notSynchronized
  have hNF := hE.2.1.1
  have hin1 : ∀ w ∈ wsX10, w ∈ wsX1_needPair := by decide +kernel
  have hl := lv_entry ([.ref (ad 0), .int k, .int q]) (n := 3) (Nat.le_of_ble_eq_true rfl)
  rw [lg_entry_eq]
  generalize (lg_sl ([.ref (ad 0), .int k, .int q]) ++ List.replicate (3 - (lg_sl ([.ref (ad 0), .int k, .int q])).length) Slot.unset).toArray = ls at hl ⊢
  have hl : lv_has ls 3 [(0, .ref (ad 0)), (1, .int k), (2, .int q)] := hl
  refine lv_aload_n hx hb dX1_needPair_0 rfl (lv_at hl 0 rfl) ?_
  refine lv_iload_n hx hb dX1_needPair_1 rfl (lv_at hl 1 rfl) ?_
  refine xVp (As := [.int k]) (rest := []) ⟨hx, hb, hml, hown, hts⟩ (c_X1_needLamp l D cI cZ cL cJ hst ad n now told v ⟨hn8, hnow, hwl⟩ k) (cwV 1 hts gX1_needPair_X1_needLamp rfl rfl rfl (by decide +kernel) ⟨(Nat.le_of_ble_eq_true rfl), (Nat.le_of_ble_eq_true rfl)⟩) hK hE ⟨hP0, hPL⟩ (RC_of (q := (RX1, TX1, 5)) (ci := 1) hK rfl (vpa hP0 0 rfl)) rfl hl.1 rfl (Nat.le_of_ble_eq_true rfl) dX1_needPair_2 ⟨(Nat.le_of_ble_eq_true rfl), (Nat.le_of_ble_eq_true rfl)⟩ hex hlocks (fun E h => by rw [h.1]; exact ex2a (and_f1 h.2)) (Nat.le_of_ble_eq_true rfl) (Nat.le_of_ble_eq_true rfl) (fun hok => ?_)
  obtain ⟨j, hj, rfl⟩ := lpOk_j (by omega) hok
  refine lv_aload_n hx hb dX1_needPair_5 rfl (lv_at hl 0 rfl) ?_
  refine lv_iload_n hx hb dX1_needPair_6 rfl (lv_at hl 2 rfl) ?_
  refine xVp (As := [.int q]) (rest := []) ⟨hx, hb, hml, hown, hts⟩ (c_X1_needLamp l D cI cZ cL cJ hst ad n now told v ⟨hn8, hnow, hwl⟩ q) (cwV 1 hts gX1_needPair_X1_needLamp rfl rfl rfl (by decide +kernel) ⟨(Nat.le_of_ble_eq_true rfl), (Nat.le_of_ble_eq_true rfl)⟩) hK hE ⟨hP0, hPL⟩ (RC_of (q := (RX1, TX1, 5)) (ci := 1) hK rfl (vpa hP0 0 rfl)) rfl hl.1 rfl (Nat.le_of_ble_eq_true rfl) dX1_needPair_7 ⟨(Nat.le_of_ble_eq_true rfl), (Nat.le_of_ble_eq_true rfl)⟩ hex hlocks (fun E h => by rw [h.1]; exact ex2a (and_f2 h.2)) (Nat.le_of_ble_eq_true rfl) (Nat.le_of_ble_eq_true rfl) (fun hok2 => ?_)
  obtain ⟨i, hi, rfl⟩ := lpOk_j (by omega) hok2
  refine lv_iload_n hx hb dX1_needPair_10 rfl (lv_at hl 1 rfl) ?_
  refine lv_iload_n hx hb dX1_needPair_11 rfl (lv_at hl 2 rfl) ?_
  refine n_icmp_ne (a := j) (b := i) (tgt := 25) hx hb (by omega) (by omega) dX1_needPair_12 (by decide) (fun c_12 => ?_) (fun c_12 => ?_)
  · refine vx_ret ?_
    refine W.widen (k := 3) (n := 18) (Nat.le_of_ble_eq_true rfl) (Nat.le_of_ble_eq_true rfl) ?_
    exact W.vret hx hb hr (fun t ht hW => ⟨(cd2_t (and_t hok hok2) (decide_eq_true (fun z => c_12 (nI_inj (by omega) (by omega) z)))), rfl, ht⟩) (fun _ h => by cases h) dX1_needPair_25
  · exact xthrow xIAE fIAE gIAE nIAE hx hb hst hown (hts (.classLink RX1 148 "java/lang/IllegalArgumentException") (List.mem_of_getElem? (i := 1) rfl)) (hts (.initialized "java/lang/IllegalArgumentException") (List.mem_of_getElem? (i := 2) rfl)) (List.mem_of_getElem? (i := 4) rfl) (fun w h => hts w (List.mem_cons_of_mem _ (List.mem_append_left _ (List.mem_append_right _ h)))) hE (hl.1.trans hml.symm) dX1_needPair_15 dX1_needPair_18 dX1_needPair_19 dX1_needPair_21 dX1_needPair_24 hex (Nat.le_of_ble_eq_true rfl) (Nat.le_of_ble_eq_true rfl) (Nat.le_of_ble_eq_true rfl) (Nat.le_of_ble_eq_true rfl) hlocks (ex2b (and_t hok hok2) (decide_eq_false (fun z => z (by rw [c_12])))) (Nat.le_of_ble_eq_true rfl) (Nat.le_of_ble_eq_true rfl)
set_option maxHeartbeats 4000000 in
set_option maxRecDepth 100000 in
/-- needNumber -/
theorem c_X1_needNumber (l : Launch) (D : va_G) (cI cZ cL cJ : ClassId) (hst : l.stackTraces = false) (x : Int32) : vx_Met l yX1_needNumber wsX1_needNumber ({ frames := 6, cells := 1, slots := 6, locals := 82 } : Room) (PC D (TY cI cZ cL cJ) noA [.int x] (fun _ => True)) (QOkv (prB x = true)) (XC1 (fun E => E = tIAE ∧ prB x = false)) 1 6 (fun _ => False) := by
  refine vx_ofW (cc := cX1_needNumber) (maxL := 5) (ret := none) (by decide) rfl ?_
  intro p e s m args below meth c s₁ B hml hex hv
  obtain ⟨rfl, hK, hE, -⟩ := hv
  obtain ⟨na, hZ, hT⟩ := hE.2.2.2
  have hx := B.exec
  have hb := B.bytes
  have hr := B.returns
  have hts := atoms_spec (ws := wsX1_needNumber) B.pre
  have hown : s.vm.findClass RX1 = some m.cls := findClass_of_methodNamed B.named
  have hlocks := B.notSynchronized
  have hNF := hE.2.1.1
  have hl := lv_entry ([.int x]) (n := 5) (Nat.le_of_ble_eq_true rfl)
  rw [lg_entry_eq]
  generalize (lg_sl ([.int x]) ++ List.replicate (5 - (lg_sl ([.int x])).length) Slot.unset).toArray = ls at hl ⊢
  have hl : lv_has ls 5 [(0, .int x)] := hl
  refine va_gets (v := .ref na) hx hb hZ va_S.rf hown (hts (.fieldLink RX1 153 "LanternPrimes" "NUMBERS" "[I") (List.mem_of_getElem? (i := 3) rfl)) (fun _ h9 => h9) dX1_needNumber_0 ?_
  refine lv_astore_n (lv' := [(1, .ref na), (0, .int x)]) hx hb dX1_needNumber_3 rfl hl (by decide) rfl (fun ls hl => ?_)
  refine lv_aload_n hx hb dX1_needNumber_4 rfl (lv_at hl 0 rfl) ?_
  refine va_tlen hx hb hT va_S.rf (v := nI 6) rfl dX1_needNumber_5 ?_
  refine lv_istore_n (lv' := [(2, .int (nI 6)), (1, .ref na), (0, .int x)]) hx hb dX1_needNumber_6 rfl hl (by decide) rfl (fun ls hl => ?_)
  refine lv_iconst (v := nI 0) hx hb dX1_needNumber_7 (by decide) ?_
  refine lv_istore_n (lv' := [(3, .int (nI 0)), (2, .int (nI 6)), (1, .ref na), (0, .int x)]) hx hb dX1_needNumber_8 rfl hl (by decide) rfl (fun ls hl => ?_)
  have loop_9 : ∀ (fu : Nat) (k : Nat), 7 - k ≤ fu → k ≤ 6 → (∀ i, i < k → ¬ x = nI (NUMf i)) → ∀ (ls : Array Slot), lv_has ls 5 [(3, .int (nI k)), (2, .int (nI 6)), (1, .ref na), (0, .int x)] → W p l e (headSpec wsX1_needNumber ({ frames := 6, cells := 1, slots := 6, locals := 82 } : Room)).room s m [.int x].toArray below meth c s.heap [] 0 0 (vx_MQ below (QOkv (prB x = true)) (XC1 (fun E => E = tIAE ∧ prB x = false)) [.int x].toArray s 1 6 (fun _ => False)) (F0 m 9 ls []) := by
    intro fu
    induction fu with
    | zero => intro k hn_9 hk hno; exact absurd hn_9 (by omega)
    | succ fu ih_9 =>
      intro k hn_9 hk hno ls hl
      refine lv_iload_n hx hb dX1_needNumber_9 rfl (lv_at hl 0 rfl) ?_
      refine lv_iload_n hx hb dX1_needNumber_10 rfl (lv_at hl 1 rfl) ?_
      refine n_icmp_ge (a := k) (b := 6) (tgt := 32) hx hb (by omega) (by omega) dX1_needNumber_11 (by decide) (fun c_11 => ?_) (fun c_11 => ?_)
      · exact xthrow xIAE fIAE gIAE nIAE hx hb hst hown (hts (.classLink RX1 148 "java/lang/IllegalArgumentException") (List.mem_of_getElem? (i := 1) rfl)) (hts (.initialized "java/lang/IllegalArgumentException") (List.mem_of_getElem? (i := 2) rfl)) (List.mem_of_getElem? (i := 5) rfl) (fun w h => hts w (List.mem_cons_of_mem _ (List.mem_append_right _ h))) hE (hl.1.trans hml.symm) dX1_needNumber_32 dX1_needNumber_35 dX1_needNumber_36 dX1_needNumber_38 dX1_needNumber_41 hex (Nat.le_of_ble_eq_true rfl) (Nat.le_of_ble_eq_true rfl) (Nat.le_of_ble_eq_true rfl) (Nat.le_of_ble_eq_true rfl) hlocks ⟨rfl, by cases hpr : prB x with | false => rfl | true => obtain ⟨i, hi, hxi⟩ := prB_t.mp hpr; exact absurd hxi (hno i (by omega))⟩ (Nat.le_of_ble_eq_true rfl) (Nat.le_of_ble_eq_true rfl)
      · refine lv_aload_n hx hb dX1_needNumber_14 rfl (lv_at hl 2 rfl) ?_
        refine lv_iload_n hx hb dX1_needNumber_15 rfl (lv_at hl 0 rfl) ?_
        refine n_ti6 (j := k) hx hb hT va_S.rf (by omega) dX1_needNumber_16 ?_
        refine lv_istore (lv' := [(4, .int (nI (NUMf k))), (3, .int (nI k)), (2, .int (nI 6)), (1, .ref na), (0, .int x)]) hx hb dX1_needNumber_17 hl (by decide) rfl (fun ls hl => ?_)
        refine lv_iload_n hx hb dX1_needNumber_19 rfl (lv_at hl 4 rfl) ?_
        refine lv_iload hx hb dX1_needNumber_20 (lv_at hl 0 rfl) ?_
        refine lv_icmp_ne (tgt := 26) hx hb dX1_needNumber_22 (by decide) (fun c_22 => ?_) (fun c_22 => ?_)
        · refine lv_iinc (v := nI (k + 1)) (lv' := [(3, .int (nI (k + 1))), (4, .int (nI (NUMf k))), (2, .int (nI 6)), (1, .ref na), (0, .int x)]) hx hb dX1_needNumber_26 hl (k := 1) rfl (nI_inc _) (by decide) rfl (fun ls hl => ?_)
          refine lv_goto (tgt := 9) hx hb dX1_needNumber_29 (by decide) ?_
          exact ih_9 (k + 1) (by omega) (by omega) (fun i hi => if h : i < k then hno i h else by rw [show i = k by omega]; exact c_22) ls (lv_sub hl [0, 2, 3, 4] rfl)
        · refine vx_ret ?_
          refine W.widen (k := 1) (n := 6) (Nat.le_of_ble_eq_true rfl) (Nat.le_of_ble_eq_true rfl) ?_
          exact W.vret hx hb hr (fun t ht hW => ⟨(prB_t.mpr ⟨k, c_11, c_22⟩), rfl, ht⟩) (fun _ h => by cases h) dX1_needNumber_25
  exact loop_9 7 0 (by omega) (Nat.zero_le _) (fun i hi => absurd hi (by omega)) ls (lv_sub hl [0, 1, 2, 3] rfl)
set_option maxHeartbeats 4000000 in
set_option maxRecDepth 100000 in
/-- needOffset -/
theorem c_X1_needOffset (l : Launch) (D : va_G) (cI cZ cL cJ : ClassId) (hst : l.stackTraces = false) (o x : Int32) : vx_Met l yX1_needOffset wsX1_needOffset ({ frames := 6, cells := 1, slots := 6, locals := 82 } : Room) (PC D (TY cI cZ cL cJ) noA [.int o, .int x] (fun _ => True)) (QOkv (rgOk o x = true)) (XC1 (fun E => E = tIAE ∧ rgOk o x = false)) 1 6 (fun _ => False) := by
  refine vx_ofW (cc := cX1_needOffset) (maxL := 2) (ret := none) (by decide) rfl ?_
  intro p e s m args below meth c s₁ B hml hex hv
  obtain ⟨rfl, hK, hE, -⟩ := hv
  have hx := B.exec
  have hb := B.bytes
  have hr := B.returns
  have hts := atoms_spec (ws := wsX1_needOffset) B.pre
  have hown : s.vm.findClass RX1 = some m.cls := findClass_of_methodNamed B.named
  have hlocks := B.notSynchronized
  have hNF := hE.2.1.1
  have hl := lv_entry ([.int o, .int x]) (n := 2) (Nat.le_of_ble_eq_true rfl)
  rw [lg_entry_eq]
  generalize (lg_sl ([.int o, .int x]) ++ List.replicate (2 - (lg_sl ([.int o, .int x])).length) Slot.unset).toArray = ls at hl ⊢
  have hl : lv_has ls 2 [(0, .int o), (1, .int x)] := hl
  refine lv_iload_n hx hb dX1_needOffset_0 rfl (lv_at hl 0 rfl) ?_
  refine lv_if_lt (tgt := 9) hx hb dX1_needOffset_1 (by decide) (fun c_1 => ?_) (fun c_1 => ?_)
  · exact xthrow xIAE fIAE gIAE nIAE hx hb hst hown (hts (.classLink RX1 148 "java/lang/IllegalArgumentException") (List.mem_of_getElem? (i := 1) rfl)) (hts (.initialized "java/lang/IllegalArgumentException") (List.mem_of_getElem? (i := 2) rfl)) (List.mem_of_getElem? (i := 6) rfl) (fun w h => hts w (List.mem_cons_of_mem _ (List.mem_append_right _ h))) hE (hl.1.trans hml.symm) dX1_needOffset_9 dX1_needOffset_12 dX1_needOffset_13 dX1_needOffset_15 dX1_needOffset_18 hex (Nat.le_of_ble_eq_true rfl) (Nat.le_of_ble_eq_true rfl) (Nat.le_of_ble_eq_true rfl) (Nat.le_of_ble_eq_true rfl) hlocks ⟨rfl, by unfold rgOk; first | (rw [decide_eq_true c_1]; rfl) | (rw [decide_eq_false c_6]; exact Bool.and_false _)⟩ (Nat.le_of_ble_eq_true rfl) (Nat.le_of_ble_eq_true rfl)
  · refine lv_iload_n hx hb dX1_needOffset_4 rfl (lv_at hl 0 rfl) ?_
    refine lv_iload_n hx hb dX1_needOffset_5 rfl (lv_at hl 1 rfl) ?_
    refine lv_icmp_lt (tgt := 19) hx hb dX1_needOffset_6 (by decide) (fun c_6 => ?_) (fun c_6 => ?_)
    · refine vx_ret ?_
      refine W.widen (k := 1) (n := 6) (Nat.le_of_ble_eq_true rfl) (Nat.le_of_ble_eq_true rfl) ?_
      exact W.vret hx hb hr (fun t ht hW => ⟨(by unfold rgOk; rw [decide_eq_false c_1, decide_eq_true c_6]; rfl), rfl, ht⟩) (fun _ h => by cases h) dX1_needOffset_19
    · exact xthrow xIAE fIAE gIAE nIAE hx hb hst hown (hts (.classLink RX1 148 "java/lang/IllegalArgumentException") (List.mem_of_getElem? (i := 1) rfl)) (hts (.initialized "java/lang/IllegalArgumentException") (List.mem_of_getElem? (i := 2) rfl)) (List.mem_of_getElem? (i := 6) rfl) (fun w h => hts w (List.mem_cons_of_mem _ (List.mem_append_right _ h))) hE (hl.1.trans hml.symm) dX1_needOffset_9 dX1_needOffset_12 dX1_needOffset_13 dX1_needOffset_15 dX1_needOffset_18 hex (Nat.le_of_ble_eq_true rfl) (Nat.le_of_ble_eq_true rfl) (Nat.le_of_ble_eq_true rfl) (Nat.le_of_ble_eq_true rfl) hlocks ⟨rfl, by unfold rgOk; first | (rw [decide_eq_true c_1]; rfl) | (rw [decide_eq_false c_6]; exact Bool.and_false _)⟩ (Nat.le_of_ble_eq_true rfl) (Nat.le_of_ble_eq_true rfl)
set_option maxHeartbeats 4000000 in
set_option maxRecDepth 100000 in
/-- needMoment -/
theorem c_X1_needMoment (l : Launch) (D : va_G) (cI cZ cL cJ : ClassId) (hst : l.stackTraces = false) (x : Int32) : vx_Met l yX1_needMoment wsX1_needMoment ({ frames := 6, cells := 1, slots := 6, locals := 82 } : Room) (PC D (TY cI cZ cL cJ) noA [.int x] (fun _ => True)) (QOkv (inB (nI 0) (nI 60000) x = true)) (XC1 (fun E => E = tIAE ∧ inB (nI 0) (nI 60000) x = false)) 1 6 (fun _ => False) := by
  refine vx_ofW (cc := cX1_needMoment) (maxL := 1) (ret := none) (by decide) rfl ?_
  intro p e s m args below meth c s₁ B hml hex hv
  obtain ⟨rfl, hK, hE, -⟩ := hv
  have hx := B.exec
  have hb := B.bytes
  have hr := B.returns
  have hts := atoms_spec (ws := wsX1_needMoment) B.pre
  have hown : s.vm.findClass RX1 = some m.cls := findClass_of_methodNamed B.named
  have hlocks := B.notSynchronized
  have hNF := hE.2.1.1
  have hl := lv_entry ([.int x]) (n := 1) (Nat.le_of_ble_eq_true rfl)
  rw [lg_entry_eq]
  generalize (lg_sl ([.int x]) ++ List.replicate (1 - (lg_sl ([.int x])).length) Slot.unset).toArray = ls at hl ⊢
  have hl : lv_has ls 1 [(0, .int x)] := hl
  refine lv_iload_n hx hb dX1_needMoment_0 rfl (lv_at hl 0 rfl) ?_
  refine lv_if_lt (tgt := 10) hx hb dX1_needMoment_1 (by decide) (fun c_1 => ?_) (fun c_1 => ?_)
  · exact xthrow xIAE fIAE gIAE nIAE hx hb hst hown (hts (.classLink RX1 148 "java/lang/IllegalArgumentException") (List.mem_of_getElem? (i := 1) rfl)) (hts (.initialized "java/lang/IllegalArgumentException") (List.mem_of_getElem? (i := 2) rfl)) (List.mem_of_getElem? (i := 7) rfl) (fun w h => hts w (List.mem_cons_of_mem _ (List.mem_append_right _ h))) hE (hl.1.trans hml.symm) dX1_needMoment_10 dX1_needMoment_13 dX1_needMoment_14 dX1_needMoment_16 dX1_needMoment_19 hex (Nat.le_of_ble_eq_true rfl) (Nat.le_of_ble_eq_true rfl) (Nat.le_of_ble_eq_true rfl) (Nat.le_of_ble_eq_true rfl) hlocks ⟨rfl, by unfold inB; first | (rw [decide_eq_true (show x < nI 0 from c_1)]; rfl) | (rw [decide_eq_true (Int32.not_le.mp c_7)]; exact Bool.and_false _)⟩ (Nat.le_of_ble_eq_true rfl) (Nat.le_of_ble_eq_true rfl)
  · refine lv_iload_n hx hb dX1_needMoment_4 rfl (lv_at hl 0 rfl) ?_
    refine lv_ldc (v := nI 60000) hx hb hown (hts (.constant RX1 160 (60000)) (List.mem_of_getElem? (i := 3) rfl)) dX1_needMoment_5 ?_
    refine lv_icmp_le (tgt := 20) hx hb dX1_needMoment_7 (by decide) (fun c_7 => ?_) (fun c_7 => ?_)
    · refine vx_ret ?_
      refine W.widen (k := 1) (n := 6) (Nat.le_of_ble_eq_true rfl) (Nat.le_of_ble_eq_true rfl) ?_
      exact W.vret hx hb hr (fun t ht hW => ⟨(by unfold inB; rw [decide_eq_false (show ¬ x < nI 0 from c_1), decide_eq_false (Int32.not_lt.mpr c_7)]; rfl), rfl, ht⟩) (fun _ h => by cases h) dX1_needMoment_20
    · exact xthrow xIAE fIAE gIAE nIAE hx hb hst hown (hts (.classLink RX1 148 "java/lang/IllegalArgumentException") (List.mem_of_getElem? (i := 1) rfl)) (hts (.initialized "java/lang/IllegalArgumentException") (List.mem_of_getElem? (i := 2) rfl)) (List.mem_of_getElem? (i := 7) rfl) (fun w h => hts w (List.mem_cons_of_mem _ (List.mem_append_right _ h))) hE (hl.1.trans hml.symm) dX1_needMoment_10 dX1_needMoment_13 dX1_needMoment_14 dX1_needMoment_16 dX1_needMoment_19 hex (Nat.le_of_ble_eq_true rfl) (Nat.le_of_ble_eq_true rfl) (Nat.le_of_ble_eq_true rfl) (Nat.le_of_ble_eq_true rfl) hlocks ⟨rfl, by unfold inB; first | (rw [decide_eq_true (show x < nI 0 from c_1)]; rfl) | (rw [decide_eq_true (Int32.not_le.mp c_7)]; exact Bool.and_false _)⟩ (Nat.le_of_ble_eq_true rfl) (Nat.le_of_ble_eq_true rfl)
set_option maxHeartbeats 4000000 in
set_option maxRecDepth 100000 in
/-- needMoments -/
theorem c_X1_needMoments (l : Launch) (D : va_G) (cI cZ cL cJ : ClassId) (hst : l.stackTraces = false) (x mx : Int32) : vx_Met l yX1_needMoments wsX1_needMoments ({ frames := 6, cells := 1, slots := 6, locals := 82 } : Room) (PC D (TY cI cZ cL cJ) noA [.int x, .int mx] (fun _ => True)) (QOkv (inB (nI 1) mx x = true)) (XC1 (fun E => E = tIAE ∧ inB (nI 1) mx x = false)) 1 6 (fun _ => False) := by
  refine vx_ofW (cc := cX1_needMoments) (maxL := 2) (ret := none) (by decide) rfl ?_
  intro p e s m args below meth c s₁ B hml hex hv
  obtain ⟨rfl, hK, hE, -⟩ := hv
  have hx := B.exec
  have hb := B.bytes
  have hr := B.returns
  have hts := atoms_spec (ws := wsX1_needMoments) B.pre
  have hown : s.vm.findClass RX1 = some m.cls := findClass_of_methodNamed B.named
  have hlocks := B.notSynchronized
  have hNF := hE.2.1.1
  have hl := lv_entry ([.int x, .int mx]) (n := 2) (Nat.le_of_ble_eq_true rfl)
  rw [lg_entry_eq]
  generalize (lg_sl ([.int x, .int mx]) ++ List.replicate (2 - (lg_sl ([.int x, .int mx])).length) Slot.unset).toArray = ls at hl ⊢
  have hl : lv_has ls 2 [(0, .int x), (1, .int mx)] := hl
  refine lv_iload_n hx hb dX1_needMoments_0 rfl (lv_at hl 0 rfl) ?_
  refine lv_iconst (v := nI 1) hx hb dX1_needMoments_1 (by decide) ?_
  refine lv_icmp_lt (tgt := 10) hx hb dX1_needMoments_2 (by decide) (fun c_2 => ?_) (fun c_2 => ?_)
  · exact xthrow xIAE fIAE gIAE nIAE hx hb hst hown (hts (.classLink RX1 148 "java/lang/IllegalArgumentException") (List.mem_of_getElem? (i := 1) rfl)) (hts (.initialized "java/lang/IllegalArgumentException") (List.mem_of_getElem? (i := 2) rfl)) (List.mem_of_getElem? (i := 8) rfl) (fun w h => hts w (List.mem_cons_of_mem _ (List.mem_append_right _ h))) hE (hl.1.trans hml.symm) dX1_needMoments_10 dX1_needMoments_13 dX1_needMoments_14 dX1_needMoments_16 dX1_needMoments_19 hex (Nat.le_of_ble_eq_true rfl) (Nat.le_of_ble_eq_true rfl) (Nat.le_of_ble_eq_true rfl) (Nat.le_of_ble_eq_true rfl) hlocks ⟨rfl, by unfold inB; first | (rw [decide_eq_true c_2]; rfl) | (rw [decide_eq_true (Int32.not_le.mp c_7)]; exact Bool.and_false _)⟩ (Nat.le_of_ble_eq_true rfl) (Nat.le_of_ble_eq_true rfl)
  · refine lv_iload_n hx hb dX1_needMoments_5 rfl (lv_at hl 0 rfl) ?_
    refine lv_iload_n hx hb dX1_needMoments_6 rfl (lv_at hl 1 rfl) ?_
    refine lv_icmp_le (tgt := 20) hx hb dX1_needMoments_7 (by decide) (fun c_7 => ?_) (fun c_7 => ?_)
    · refine vx_ret ?_
      refine W.widen (k := 1) (n := 6) (Nat.le_of_ble_eq_true rfl) (Nat.le_of_ble_eq_true rfl) ?_
      exact W.vret hx hb hr (fun t ht hW => ⟨(by unfold inB; rw [decide_eq_false c_2, decide_eq_false (Int32.not_lt.mpr c_7)]; rfl), rfl, ht⟩) (fun _ h => by cases h) dX1_needMoments_20
    · exact xthrow xIAE fIAE gIAE nIAE hx hb hst hown (hts (.classLink RX1 148 "java/lang/IllegalArgumentException") (List.mem_of_getElem? (i := 1) rfl)) (hts (.initialized "java/lang/IllegalArgumentException") (List.mem_of_getElem? (i := 2) rfl)) (List.mem_of_getElem? (i := 8) rfl) (fun w h => hts w (List.mem_cons_of_mem _ (List.mem_append_right _ h))) hE (hl.1.trans hml.symm) dX1_needMoments_10 dX1_needMoments_13 dX1_needMoments_14 dX1_needMoments_16 dX1_needMoments_19 hex (Nat.le_of_ble_eq_true rfl) (Nat.le_of_ble_eq_true rfl) (Nat.le_of_ble_eq_true rfl) (Nat.le_of_ble_eq_true rfl) hlocks ⟨rfl, by unfold inB; first | (rw [decide_eq_true c_2]; rfl) | (rw [decide_eq_true (Int32.not_le.mp c_7)]; exact Bool.and_false _)⟩ (Nat.le_of_ble_eq_true rfl) (Nat.le_of_ble_eq_true rfl)
