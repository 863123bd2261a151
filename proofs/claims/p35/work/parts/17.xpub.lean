set_option maxHeartbeats 4000000 in
set_option maxRecDepth 100000 in
/-- beatsOf -/
theorem c_X1_beatsOf (l : Launch) (D : va_G) (cI cZ cL cJ : ClassId) (hst : l.stackTraces = false) (ad : Nat → Nat) (n now : Nat) (told : Int32) (v : Nat → LV) (hwf : WFX n now v) (k : Int32) : vx_Met l yX1_beatsOf wsX1_beatsOf ({ frames := 7, cells := 1, slots := 6, locals := 103 } : Room) (PC D (TY cI cZ cL cJ) noA [.ref (ad 0), .int k] (fun H => PX D cI cL ad n now told v H)) (QOk (cd1 (lpOk n k) = 0) (nI (lbc (v (ixx k))))) (XC1 (fun E => exC [tIOB] (cd1 (lpOk n k)) E)) 1 6 (fun _ => False) := by
  refine vx_ofW (cc := cX1_beatsOf) (maxL := 2) (ret := (some .int)) (by decide) rfl ?_
  intro p e s m args below meth c s₁ B hml hex hv
  obtain ⟨rfl, hK, hE, hP0, hPL⟩ := hv
  obtain ⟨hn8, hnow, hwl⟩ := hwf
  have hx := B.exec
  have hb := B.bytes
  have hr := B.returns
  have hts := atoms_spec (ws := wsX1_beatsOf) B.pre
  have hown : s.vm.findClass RX1 = some m.cls := findClass_of_methodNamed B.named
  have hlocks := B.notSynchronized
  have hNF := hE.2.1.1
  have hin0 : ∀ w ∈ wsX00, w ∈ wsX1_beatsOf := by decide +kernel
  have hin1 : ∀ w ∈ wsX10, w ∈ wsX1_beatsOf := by decide +kernel
  have hl := lv_entry ([.ref (ad 0), .int k]) (n := 2) (Nat.le_of_ble_eq_true rfl)
  rw [lg_entry_eq]
  generalize (lg_sl ([.ref (ad 0), .int k]) ++ List.replicate (2 - (lg_sl ([.ref (ad 0), .int k])).length) Slot.unset).toArray = ls at hl ⊢
  have hl : lv_has ls 2 [(0, .ref (ad 0)), (1, .int k)] := hl
  refine lv_aload_n hx hb dX1_beatsOf_0 rfl (lv_at hl 0 rfl) ?_
  refine lv_iload_n hx hb dX1_beatsOf_1 rfl (lv_at hl 1 rfl) ?_
  refine xVp (As := [.int k]) (rest := []) ⟨hx, hb, hml, hown, hts⟩ (c_X1_needLamp l D cI cZ cL cJ hst ad n now told v ⟨hn8, hnow, hwl⟩ k) (cwV 1 hts gX1_beatsOf_X1_needLamp rfl rfl rfl (by decide +kernel) ⟨(Nat.le_of_ble_eq_true rfl), (Nat.le_of_ble_eq_true rfl)⟩) hK hE ⟨hP0, hPL⟩ (RC_of (q := (RX1, TX1, 5)) (ci := 1) hK rfl (vpa hP0 0 rfl)) rfl hl.1 rfl (Nat.le_of_ble_eq_true rfl) dX1_beatsOf_2 ⟨(Nat.le_of_ble_eq_true rfl), (Nat.le_of_ble_eq_true rfl)⟩ hex hlocks (fun E h => by rw [h.1]; exact ex1 h.2) (Nat.le_of_ble_eq_true rfl) (Nat.le_of_ble_eq_true rfl) (fun hok => ?_)
  obtain ⟨j, hj, rfl⟩ := lpOk_j (by omega) hok
  refine lv_aload_n hx hb dX1_beatsOf_5 rfl (lv_at hl 0 rfl) ?_
  refine va_get (D := D) (ci := 1) (v := .ref (ad 1)) (C := RX1) (T := TX1) (N := 5) hx hb hts hin1 hown hK hP0 0 rfl rfl 0 (by decide) (hts (.fieldLink RX1 11 "LanternPrimes" "row" "[LLanternPrimes$Lamp;") (List.mem_of_getElem? (i := 1) rfl)) (fun _ h9 => h9) rfl dX1_beatsOf_6 ?_
  refine lv_iload_n hx hb dX1_beatsOf_9 rfl (lv_at hl 1 rfl) ?_
  refine n_aald (v := ad (2 + 3 * j)) (j := j) hx hb hK hP0 1 2 rfl rfl (by omega) (by decide) rfl dX1_beatsOf_10 ?_
  have hPj := hPL j (by omega)
  refine va_getN (D := D) (ci := 0) (v := .int (nI (lbc (v j)))) (C := RX0) (T := TX0) (N := 5) hx hb hts hin0 hown hK hPj 0 rfl rfl 2 (by decide) (va_Nw.use rfl (hNF _ (List.mem_of_getElem? (i := 1) rfl))) (fun _ h9 => h9) rfl dX1_beatsOf_11 ?_
  refine n_ti (y := nI (lbc (v (ixx (nI j))))) (by rw [ixx_nI (by omega)]) ?_
  refine vx_ret ?_
  refine W.widen (k := 1) (n := 6) (Nat.le_of_ble_eq_true rfl) (Nat.le_of_ble_eq_true rfl) ?_
  exact W.iret (v := nI (lbc (v (ixx (nI j))))) hx hb hr (fun t ht hW => ⟨(cd1_t hok), rfl, ht⟩) (fun _ h => by cases h) dX1_beatsOf_14
set_option maxHeartbeats 4000000 in
set_option maxRecDepth 100000 in
/-- numberOf -/
theorem c_X1_numberOf (l : Launch) (D : va_G) (cI cZ cL cJ : ClassId) (hst : l.stackTraces = false) (ad : Nat → Nat) (n now : Nat) (told : Int32) (v : Nat → LV) (hwf : WFX n now v) (k b : Int32) : vx_Met l yX1_numberOf wsX1_numberOf ({ frames := 8, cells := 2, slots := 12, locals := 125 } : Room) (PC D (TY cI cZ cL cJ) noA [.ref (ad 0), .int k, .int b] (fun H => PX D cI cL ad n now told v H)) (QOk (cd1 (btOk n v k b) = 0) (nI (lnu (v (ixx k)) (ixx b)))) (XC1 (fun E => exC [tIOB] (cd1 (btOk n v k b)) E)) 2 12 (fun _ => False) := by
  refine vx_ofW (cc := cX1_numberOf) (maxL := 3) (ret := (some .int)) (by decide) rfl ?_
  intro p e s m args below meth c s₁ B hml hex hv
  obtain ⟨rfl, hK, hE, hP0, hPL⟩ := hv
  obtain ⟨hn8, hnow, hwl⟩ := hwf
  have hx := B.exec
  have hb := B.bytes
  have hr := B.returns
  have hts := atoms_spec (ws := wsX1_numberOf) B.pre
  have hown : s.vm.findClass RX1 = some m.cls := findClass_of_methodNamed B.named
  have hlocks := B.notSynchronized
  have hNF := hE.2.1.1
  have hin0 : ∀ w ∈ wsX00, w ∈ wsX1_numberOf := by decide +kernel
  have hin1 : ∀ w ∈ wsX10, w ∈ wsX1_numberOf := by decide +kernel
  have hl := lv_entry ([.ref (ad 0), .int k, .int b]) (n := 3) (Nat.le_of_ble_eq_true rfl)
  rw [lg_entry_eq]
  generalize (lg_sl ([.ref (ad 0), .int k, .int b]) ++ List.replicate (3 - (lg_sl ([.ref (ad 0), .int k, .int b])).length) Slot.unset).toArray = ls at hl ⊢
  have hl : lv_has ls 3 [(0, .ref (ad 0)), (1, .int k), (2, .int b)] := hl
  refine lv_aload_n hx hb dX1_numberOf_0 rfl (lv_at hl 0 rfl) ?_
  refine lv_iload_n hx hb dX1_numberOf_1 rfl (lv_at hl 1 rfl) ?_
  refine lv_iload_n hx hb dX1_numberOf_2 rfl (lv_at hl 2 rfl) ?_
  refine xVp (As := [.int k, .int b]) (rest := []) ⟨hx, hb, hml, hown, hts⟩ (c_X1_needBeat l D cI cZ cL cJ hst ad n now told v ⟨hn8, hnow, hwl⟩ k b) (cwV 2 hts gX1_numberOf_X1_needBeat rfl rfl rfl (by decide +kernel) ⟨(Nat.le_of_ble_eq_true rfl), (Nat.le_of_ble_eq_true rfl)⟩) hK hE ⟨hP0, hPL⟩ (RC_of (q := (RX1, TX1, 5)) (ci := 1) hK rfl (vpa hP0 0 rfl)) rfl hl.1 rfl (Nat.le_of_ble_eq_true rfl) dX1_numberOf_3 ⟨(Nat.le_of_ble_eq_true rfl), (Nat.le_of_ble_eq_true rfl)⟩ hex hlocks (fun E h => by rw [h.1]; exact ex1 h.2) (Nat.le_of_ble_eq_true rfl) (Nat.le_of_ble_eq_true rfl) (fun hok => ?_)
  obtain ⟨j, i, hj, hi, rfl, rfl⟩ := btOk_j hn8 hwl hok
  have hw4 := (hwl j (by omega)).1
  refine lv_aload_n hx hb dX1_numberOf_6 rfl (lv_at hl 0 rfl) ?_
  refine va_get (D := D) (ci := 1) (v := .ref (ad 1)) (C := RX1) (T := TX1) (N := 5) hx hb hts hin1 hown hK hP0 0 rfl rfl 0 (by decide) (hts (.fieldLink RX1 11 "LanternPrimes" "row" "[LLanternPrimes$Lamp;") (List.mem_of_getElem? (i := 1) rfl)) (fun _ h9 => h9) rfl dX1_numberOf_7 ?_
  refine lv_iload_n hx hb dX1_numberOf_10 rfl (lv_at hl 1 rfl) ?_
  refine n_aald (v := ad (2 + 3 * j)) (j := j) hx hb hK hP0 1 2 rfl rfl (by omega) (by decide) rfl dX1_numberOf_11 ?_
  have hPj := hPL j (by omega)
  refine va_getN (D := D) (ci := 0) (v := .ref (ad (3 + 3 * j))) (C := RX0) (T := TX0) (N := 5) hx hb hts hin0 hown hK hPj 0 rfl rfl 0 (by decide) (va_Nw.use rfl (hNF _ (List.mem_of_getElem? (i := 2) rfl))) (fun _ h9 => h9) rfl dX1_numberOf_12 ?_
  refine lv_iload_n hx hb dX1_numberOf_15 rfl (lv_at hl 2 rfl) ?_
  refine n_iald (v := nI (lnu (v j) i)) (j := i) hx hb hK hPj 1 0 rfl rfl (by omega) (by decide) rfl dX1_numberOf_16 ?_
  refine n_ti (y := nI (lnu (v (ixx (nI j))) (ixx (nI i)))) (by rw [ixx_nI (by omega), ixx_nI (by omega)]) ?_
  refine vx_ret ?_
  refine W.widen (k := 2) (n := 12) (Nat.le_of_ble_eq_true rfl) (Nat.le_of_ble_eq_true rfl) ?_
  exact W.iret (v := nI (lnu (v (ixx (nI j))) (ixx (nI i)))) hx hb hr (fun t ht hW => ⟨(cd1_t hok), rfl, ht⟩) (fun _ h => by cases h) dX1_numberOf_17
set_option maxHeartbeats 4000000 in
set_option maxRecDepth 100000 in
/-- offsetOf -/
theorem c_X1_offsetOf (l : Launch) (D : va_G) (cI cZ cL cJ : ClassId) (hst : l.stackTraces = false) (ad : Nat → Nat) (n now : Nat) (told : Int32) (v : Nat → LV) (hwf : WFX n now v) (k b : Int32) : vx_Met l yX1_offsetOf wsX1_offsetOf ({ frames := 8, cells := 2, slots := 12, locals := 125 } : Room) (PC D (TY cI cZ cL cJ) noA [.ref (ad 0), .int k, .int b] (fun H => PX D cI cL ad n now told v H)) (QOk (cd1 (btOk n v k b) = 0) (nI (lof (v (ixx k)) (ixx b)))) (XC1 (fun E => exC [tIOB] (cd1 (btOk n v k b)) E)) 2 12 (fun _ => False) := by
  refine vx_ofW (cc := cX1_offsetOf) (maxL := 3) (ret := (some .int)) (by decide) rfl ?_
  intro p e s m args below meth c s₁ B hml hex hv
  obtain ⟨rfl, hK, hE, hP0, hPL⟩ := hv
  obtain ⟨hn8, hnow, hwl⟩ := hwf
  have hx := B.exec
  have hb := B.bytes
  have hr := B.returns
  have hts := atoms_spec (ws := wsX1_offsetOf) B.pre
  have hown : s.vm.findClass RX1 = some m.cls := findClass_of_methodNamed B.named
  have hlocks := B.notSynchronized
  have hNF := hE.2.1.1
  have hin0 : ∀ w ∈ wsX00, w ∈ wsX1_offsetOf := by decide +kernel
  have hin1 : ∀ w ∈ wsX10, w ∈ wsX1_offsetOf := by decide +kernel
  have hl := lv_entry ([.ref (ad 0), .int k, .int b]) (n := 3) (Nat.le_of_ble_eq_true rfl)
  rw [lg_entry_eq]
  generalize (lg_sl ([.ref (ad 0), .int k, .int b]) ++ List.replicate (3 - (lg_sl ([.ref (ad 0), .int k, .int b])).length) Slot.unset).toArray = ls at hl ⊢
  have hl : lv_has ls 3 [(0, .ref (ad 0)), (1, .int k), (2, .int b)] := hl
  refine lv_aload_n hx hb dX1_offsetOf_0 rfl (lv_at hl 0 rfl) ?_
  refine lv_iload_n hx hb dX1_offsetOf_1 rfl (lv_at hl 1 rfl) ?_
  refine lv_iload_n hx hb dX1_offsetOf_2 rfl (lv_at hl 2 rfl) ?_
  refine xVp (As := [.int k, .int b]) (rest := []) ⟨hx, hb, hml, hown, hts⟩ (c_X1_needBeat l D cI cZ cL cJ hst ad n now told v ⟨hn8, hnow, hwl⟩ k b) (cwV 2 hts gX1_offsetOf_X1_needBeat rfl rfl rfl (by decide +kernel) ⟨(Nat.le_of_ble_eq_true rfl), (Nat.le_of_ble_eq_true rfl)⟩) hK hE ⟨hP0, hPL⟩ (RC_of (q := (RX1, TX1, 5)) (ci := 1) hK rfl (vpa hP0 0 rfl)) rfl hl.1 rfl (Nat.le_of_ble_eq_true rfl) dX1_offsetOf_3 ⟨(Nat.le_of_ble_eq_true rfl), (Nat.le_of_ble_eq_true rfl)⟩ hex hlocks (fun E h => by rw [h.1]; exact ex1 h.2) (Nat.le_of_ble_eq_true rfl) (Nat.le_of_ble_eq_true rfl) (fun hok => ?_)
  obtain ⟨j, i, hj, hi, rfl, rfl⟩ := btOk_j hn8 hwl hok
  have hw4 := (hwl j (by omega)).1
  refine lv_aload_n hx hb dX1_offsetOf_6 rfl (lv_at hl 0 rfl) ?_
  refine va_get (D := D) (ci := 1) (v := .ref (ad 1)) (C := RX1) (T := TX1) (N := 5) hx hb hts hin1 hown hK hP0 0 rfl rfl 0 (by decide) (hts (.fieldLink RX1 11 "LanternPrimes" "row" "[LLanternPrimes$Lamp;") (List.mem_of_getElem? (i := 1) rfl)) (fun _ h9 => h9) rfl dX1_offsetOf_7 ?_
  refine lv_iload_n hx hb dX1_offsetOf_10 rfl (lv_at hl 1 rfl) ?_
  refine n_aald (v := ad (2 + 3 * j)) (j := j) hx hb hK hP0 1 2 rfl rfl (by omega) (by decide) rfl dX1_offsetOf_11 ?_
  have hPj := hPL j (by omega)
  refine va_getN (D := D) (ci := 0) (v := .ref (ad (4 + 3 * j))) (C := RX0) (T := TX0) (N := 5) hx hb hts hin0 hown hK hPj 0 rfl rfl 1 (by decide) (va_Nw.use rfl (hNF _ (List.mem_of_getElem? (i := 3) rfl))) (fun _ h9 => h9) rfl dX1_offsetOf_12 ?_
  refine lv_iload_n hx hb dX1_offsetOf_15 rfl (lv_at hl 2 rfl) ?_
  refine n_iald (v := nI (lof (v j) i)) (j := i) hx hb hK hPj 2 0 rfl rfl (by omega) (by decide) rfl dX1_offsetOf_16 ?_
  refine n_ti (y := nI (lof (v (ixx (nI j))) (ixx (nI i)))) (by rw [ixx_nI (by omega), ixx_nI (by omega)]) ?_
  refine vx_ret ?_
  refine W.widen (k := 2) (n := 12) (Nat.le_of_ble_eq_true rfl) (Nat.le_of_ble_eq_true rfl) ?_
  exact W.iret (v := nI (lof (v (ixx (nI j))) (ixx (nI i)))) hx hb hr (fun t ht hW => ⟨(cd1_t hok), rfl, ht⟩) (fun _ h => by cases h) dX1_offsetOf_17
set_option maxHeartbeats 4000000 in
set_option maxRecDepth 100000 in
/-- isCovered -/
theorem c_X1_isCovered (l : Launch) (D : va_G) (cI cZ cL cJ : ClassId) (hst : l.stackTraces = false) (ad : Nat → Nat) (n now : Nat) (told : Int32) (v : Nat → LV) (hwf : WFX n now v) (k : Int32) : vx_Met l yX1_isCovered wsX1_isCovered ({ frames := 7, cells := 1, slots := 6, locals := 103 } : Room) (PC D (TY cI cZ cL cJ) noA [.ref (ad 0), .int k] (fun H => PX D cI cL ad n now told v H)) (QOk (cd1 (lpOk n k) = 0) (bI (lcv (v (ixx k))))) (XC1 (fun E => exC [tIOB] (cd1 (lpOk n k)) E)) 1 6 (fun _ => False) := by
  refine vx_ofW (cc := cX1_isCovered) (maxL := 2) (ret := (some .boolean)) (by decide) rfl ?_
  intro p e s m args below meth c s₁ B hml hex hv
  obtain ⟨rfl, hK, hE, hP0, hPL⟩ := hv
  obtain ⟨hn8, hnow, hwl⟩ := hwf
  have hx := B.exec
  have hb := B.bytes
  have hr := B.returns
  have hts := atoms_spec (ws := wsX1_isCovered) B.pre
  have hown : s.vm.findClass RX1 = some m.cls := findClass_of_methodNamed B.named
  have hlocks := B.notSynchronized
  have hNF := hE.2.1.1
  have hin0 : ∀ w ∈ wsX00, w ∈ wsX1_isCovered := by decide +kernel
  have hin1 : ∀ w ∈ wsX10, w ∈ wsX1_isCovered := by decide +kernel
  have hl := lv_entry ([.ref (ad 0), .int k]) (n := 2) (Nat.le_of_ble_eq_true rfl)
  rw [lg_entry_eq]
  generalize (lg_sl ([.ref (ad 0), .int k]) ++ List.replicate (2 - (lg_sl ([.ref (ad 0), .int k])).length) Slot.unset).toArray = ls at hl ⊢
  have hl : lv_has ls 2 [(0, .ref (ad 0)), (1, .int k)] := hl
  refine lv_aload_n hx hb dX1_isCovered_0 rfl (lv_at hl 0 rfl) ?_
  refine lv_iload_n hx hb dX1_isCovered_1 rfl (lv_at hl 1 rfl) ?_
  refine xVp (As := [.int k]) (rest := []) ⟨hx, hb, hml, hown, hts⟩ (c_X1_needLamp l D cI cZ cL cJ hst ad n now told v ⟨hn8, hnow, hwl⟩ k) (cwV 1 hts gX1_isCovered_X1_needLamp rfl rfl rfl (by decide +kernel) ⟨(Nat.le_of_ble_eq_true rfl), (Nat.le_of_ble_eq_true rfl)⟩) hK hE ⟨hP0, hPL⟩ (RC_of (q := (RX1, TX1, 5)) (ci := 1) hK rfl (vpa hP0 0 rfl)) rfl hl.1 rfl (Nat.le_of_ble_eq_true rfl) dX1_isCovered_2 ⟨(Nat.le_of_ble_eq_true rfl), (Nat.le_of_ble_eq_true rfl)⟩ hex hlocks (fun E h => by rw [h.1]; exact ex1 h.2) (Nat.le_of_ble_eq_true rfl) (Nat.le_of_ble_eq_true rfl) (fun hok => ?_)
  obtain ⟨j, hj, rfl⟩ := lpOk_j (by omega) hok
  refine lv_aload_n hx hb dX1_isCovered_5 rfl (lv_at hl 0 rfl) ?_
  refine va_get (D := D) (ci := 1) (v := .ref (ad 1)) (C := RX1) (T := TX1) (N := 5) hx hb hts hin1 hown hK hP0 0 rfl rfl 0 (by decide) (hts (.fieldLink RX1 11 "LanternPrimes" "row" "[LLanternPrimes$Lamp;") (List.mem_of_getElem? (i := 1) rfl)) (fun _ h9 => h9) rfl dX1_isCovered_6 ?_
  refine lv_iload_n hx hb dX1_isCovered_9 rfl (lv_at hl 1 rfl) ?_
  refine n_aald (v := ad (2 + 3 * j)) (j := j) hx hb hK hP0 1 2 rfl rfl (by omega) (by decide) rfl dX1_isCovered_10 ?_
  have hPj := hPL j (by omega)
  refine va_getN (D := D) (ci := 0) (v := .int (bI (lcv (v j)))) (C := RX0) (T := TX0) (N := 5) hx hb hts hin0 hown hK hPj 0 rfl rfl 4 (by decide) (va_Nw.use rfl (hNF _ (List.mem_of_getElem? (i := 4) rfl))) (fun _ h9 => h9) rfl dX1_isCovered_11 ?_
  refine n_ti (y := bI (lcv (v (ixx (nI j))))) (by rw [ixx_nI (by omega)]) ?_
  refine vx_ret ?_
  refine W.widen (k := 1) (n := 6) (Nat.le_of_ble_eq_true rfl) (Nat.le_of_ble_eq_true rfl) ?_
  exact W.zret (v := bI (lcv (v (ixx (nI j))))) hx hb hr (bI_narrow _) (fun t ht hW => ⟨(cd1_t hok), rfl, ht⟩) (fun _ h => by cases h) dX1_isCovered_14
set_option maxHeartbeats 4000000 in
set_option maxRecDepth 100000 in
/-- isOn -/
theorem c_X1_isOn (l : Launch) (D : va_G) (cI cZ cL cJ : ClassId) (hst : l.stackTraces = false) (ad : Nat → Nat) (n now : Nat) (told : Int32) (v : Nat → LV) (hwf : WFX n now v) (k : Int32) : vx_Met l yX1_isOn wsX1_isOn ({ frames := 7, cells := 1, slots := 6, locals := 103 } : Room) (PC D (TY cI cZ cL cJ) noA [.ref (ad 0), .int k] (fun H => PX D cI cL ad n now told v H)) (QOk (cd1 (lpOk n k) = 0) (bI (onB (v (ixx k)) now))) (XC1 (fun E => exC [tIOB] (cd1 (lpOk n k)) E)) 1 6 (fun _ => False) := by
  refine vx_ofW (cc := cX1_isOn) (maxL := 2) (ret := (some .boolean)) (by decide) rfl ?_
  intro p e s m args below meth c s₁ B hml hex hv
  obtain ⟨rfl, hK, hE, hP0, hPL⟩ := hv
  obtain ⟨hn8, hnow, hwl⟩ := hwf
  have hx := B.exec
  have hb := B.bytes
  have hr := B.returns
  have hts := atoms_spec (ws := wsX1_isOn) B.pre
  have hown : s.vm.findClass RX1 = some m.cls := findClass_of_methodNamed B.named
  have hlocks := B.notSynchronized
  have hNF := hE.2.1.1
  have hin0 : ∀ w ∈ wsX00, w ∈ wsX1_isOn := by decide +kernel
  have hin1 : ∀ w ∈ wsX10, w ∈ wsX1_isOn := by decide +kernel
  have hl := lv_entry ([.ref (ad 0), .int k]) (n := 2) (Nat.le_of_ble_eq_true rfl)
  rw [lg_entry_eq]
  generalize (lg_sl ([.ref (ad 0), .int k]) ++ List.replicate (2 - (lg_sl ([.ref (ad 0), .int k])).length) Slot.unset).toArray = ls at hl ⊢
  have hl : lv_has ls 2 [(0, .ref (ad 0)), (1, .int k)] := hl
  refine lv_aload_n hx hb dX1_isOn_0 rfl (lv_at hl 0 rfl) ?_
  refine lv_iload_n hx hb dX1_isOn_1 rfl (lv_at hl 1 rfl) ?_
  refine xVp (As := [.int k]) (rest := []) ⟨hx, hb, hml, hown, hts⟩ (c_X1_needLamp l D cI cZ cL cJ hst ad n now told v ⟨hn8, hnow, hwl⟩ k) (cwV 1 hts gX1_isOn_X1_needLamp rfl rfl rfl (by decide +kernel) ⟨(Nat.le_of_ble_eq_true rfl), (Nat.le_of_ble_eq_true rfl)⟩) hK hE ⟨hP0, hPL⟩ (RC_of (q := (RX1, TX1, 5)) (ci := 1) hK rfl (vpa hP0 0 rfl)) rfl hl.1 rfl (Nat.le_of_ble_eq_true rfl) dX1_isOn_2 ⟨(Nat.le_of_ble_eq_true rfl), (Nat.le_of_ble_eq_true rfl)⟩ hex hlocks (fun E h => by rw [h.1]; exact ex1 h.2) (Nat.le_of_ble_eq_true rfl) (Nat.le_of_ble_eq_true rfl) (fun hok => ?_)
  obtain ⟨j, hj, rfl⟩ := lpOk_j (by omega) hok
  refine lv_aload_n hx hb dX1_isOn_5 rfl (lv_at hl 0 rfl) ?_
  refine va_get (D := D) (ci := 1) (v := .ref (ad 1)) (C := RX1) (T := TX1) (N := 5) hx hb hts hin1 hown hK hP0 0 rfl rfl 0 (by decide) (hts (.fieldLink RX1 11 "LanternPrimes" "row" "[LLanternPrimes$Lamp;") (List.mem_of_getElem? (i := 1) rfl)) (fun _ h9 => h9) rfl dX1_isOn_6 ?_
  refine lv_iload_n hx hb dX1_isOn_9 rfl (lv_at hl 1 rfl) ?_
  refine n_aald (v := ad (2 + 3 * j)) (j := j) hx hb hK hP0 1 2 rfl rfl (by omega) (by decide) rfl dX1_isOn_10 ?_
  have hPj := hPL j (by omega)
  refine lv_aload_n hx hb dX1_isOn_11 rfl (lv_at hl 0 rfl) ?_
  refine va_get (D := D) (ci := 1) (v := .int (nI now)) (C := RX1) (T := TX1) (N := 5) hx hb hts hin1 hown hK hP0 0 rfl rfl 3 (by decide) (hts (.fieldLink RX1 73 "LanternPrimes" "present" "I") (List.mem_of_getElem? (i := 2) rfl)) (fun _ h9 => h9) rfl dX1_isOn_12 ?_
  refine rV (r := bI (onB (v j) now)) (As := [.int (nI now)]) (rest := []) ⟨hx, hb, hml, hown, hts⟩ (c_X0_onAt l D cI cZ cL cJ (ad (2 + 3 * j)) (ad (3 + 3 * j)) (ad (4 + 3 * j)) (v j) now (by omega) (hwl j (by omega)).up) (cwV 1 hts gX1_isOn_X0_onAt rfl rfl rfl (by decide +kernel) ⟨(Nat.le_of_ble_eq_true rfl), (Nat.le_of_ble_eq_true rfl)⟩) hK hE hPj (RC_of (q := (RX0, TX0, 5)) (ci := 0) hK rfl (vpa hPj 0 rfl)) rfl hl.1 rfl (Nat.le_of_ble_eq_true rfl) dX1_isOn_15 ⟨(Nat.le_of_ble_eq_true rfl), (Nat.le_of_ble_eq_true rfl)⟩ ?_
  refine n_ti (y := bI (onB (v (ixx (nI j))) now)) (by rw [ixx_nI (by omega)]) ?_
  refine vx_ret ?_
  refine W.widen (k := 1) (n := 6) (Nat.le_of_ble_eq_true rfl) (Nat.le_of_ble_eq_true rfl) ?_
  exact W.zret (v := bI (onB (v (ixx (nI j))) now)) hx hb hr (bI_narrow _) (fun t ht hW => ⟨(cd1_t hok), rfl, ht⟩) (fun _ h => by cases h) dX1_isOn_18
set_option maxHeartbeats 4000000 in
set_option maxRecDepth 100000 in
/-- isLit -/
theorem c_X1_isLit (l : Launch) (D : va_G) (cI cZ cL cJ : ClassId) (hst : l.stackTraces = false) (ad : Nat → Nat) (n now : Nat) (told : Int32) (v : Nat → LV) (hwf : WFX n now v) (k : Int32) : vx_Met l yX1_isLit wsX1_isLit ({ frames := 7, cells := 1, slots := 6, locals := 103 } : Room) (PC D (TY cI cZ cL cJ) noA [.ref (ad 0), .int k] (fun H => PX D cI cL ad n now told v H)) (QOk (cd1 (lpOk n k) = 0) (bI (litB (v (ixx k)) now))) (XC1 (fun E => exC [tIOB] (cd1 (lpOk n k)) E)) 1 6 (fun _ => False) := by
  refine vx_ofW (cc := cX1_isLit) (maxL := 2) (ret := (some .boolean)) (by decide) rfl ?_
  intro p e s m args below meth c s₁ B hml hex hv
  obtain ⟨rfl, hK, hE, hP0, hPL⟩ := hv
  obtain ⟨hn8, hnow, hwl⟩ := hwf
  have hx := B.exec
  have hb := B.bytes
  have hr := B.returns
  have hts := atoms_spec (ws := wsX1_isLit) B.pre
  have hown : s.vm.findClass RX1 = some m.cls := findClass_of_methodNamed B.named
  have hlocks := B.notSynchronized
  have hNF := hE.2.1.1
  have hin0 : ∀ w ∈ wsX00, w ∈ wsX1_isLit := by decide +kernel
  have hin1 : ∀ w ∈ wsX10, w ∈ wsX1_isLit := by decide +kernel
  have hl := lv_entry ([.ref (ad 0), .int k]) (n := 2) (Nat.le_of_ble_eq_true rfl)
  rw [lg_entry_eq]
  generalize (lg_sl ([.ref (ad 0), .int k]) ++ List.replicate (2 - (lg_sl ([.ref (ad 0), .int k])).length) Slot.unset).toArray = ls at hl ⊢
  have hl : lv_has ls 2 [(0, .ref (ad 0)), (1, .int k)] := hl
  refine lv_aload_n hx hb dX1_isLit_0 rfl (lv_at hl 0 rfl) ?_
  refine lv_iload_n hx hb dX1_isLit_1 rfl (lv_at hl 1 rfl) ?_
  refine xVp (As := [.int k]) (rest := []) ⟨hx, hb, hml, hown, hts⟩ (c_X1_needLamp l D cI cZ cL cJ hst ad n now told v ⟨hn8, hnow, hwl⟩ k) (cwV 1 hts gX1_isLit_X1_needLamp rfl rfl rfl (by decide +kernel) ⟨(Nat.le_of_ble_eq_true rfl), (Nat.le_of_ble_eq_true rfl)⟩) hK hE ⟨hP0, hPL⟩ (RC_of (q := (RX1, TX1, 5)) (ci := 1) hK rfl (vpa hP0 0 rfl)) rfl hl.1 rfl (Nat.le_of_ble_eq_true rfl) dX1_isLit_2 ⟨(Nat.le_of_ble_eq_true rfl), (Nat.le_of_ble_eq_true rfl)⟩ hex hlocks (fun E h => by rw [h.1]; exact ex1 h.2) (Nat.le_of_ble_eq_true rfl) (Nat.le_of_ble_eq_true rfl) (fun hok => ?_)
  obtain ⟨j, hj, rfl⟩ := lpOk_j (by omega) hok
  refine lv_aload_n hx hb dX1_isLit_5 rfl (lv_at hl 0 rfl) ?_
  refine va_get (D := D) (ci := 1) (v := .ref (ad 1)) (C := RX1) (T := TX1) (N := 5) hx hb hts hin1 hown hK hP0 0 rfl rfl 0 (by decide) (hts (.fieldLink RX1 11 "LanternPrimes" "row" "[LLanternPrimes$Lamp;") (List.mem_of_getElem? (i := 1) rfl)) (fun _ h9 => h9) rfl dX1_isLit_6 ?_
  refine lv_iload_n hx hb dX1_isLit_9 rfl (lv_at hl 1 rfl) ?_
  refine n_aald (v := ad (2 + 3 * j)) (j := j) hx hb hK hP0 1 2 rfl rfl (by omega) (by decide) rfl dX1_isLit_10 ?_
  have hPj := hPL j (by omega)
  refine lv_aload_n hx hb dX1_isLit_11 rfl (lv_at hl 0 rfl) ?_
  refine va_get (D := D) (ci := 1) (v := .int (nI now)) (C := RX1) (T := TX1) (N := 5) hx hb hts hin1 hown hK hP0 0 rfl rfl 3 (by decide) (hts (.fieldLink RX1 73 "LanternPrimes" "present" "I") (List.mem_of_getElem? (i := 2) rfl)) (fun _ h9 => h9) rfl dX1_isLit_12 ?_
  refine rV (r := bI (litB (v j) now)) (As := [.int (nI now)]) (rest := []) ⟨hx, hb, hml, hown, hts⟩ (c_X0_litAt l D cI cZ cL cJ (ad (2 + 3 * j)) (ad (3 + 3 * j)) (ad (4 + 3 * j)) (v j) now (by omega) (hwl j (by omega)).up) (cwV 1 hts gX1_isLit_X0_litAt rfl rfl rfl (by decide +kernel) ⟨(Nat.le_of_ble_eq_true rfl), (Nat.le_of_ble_eq_true rfl)⟩) hK hE hPj (RC_of (q := (RX0, TX0, 5)) (ci := 0) hK rfl (vpa hPj 0 rfl)) rfl hl.1 rfl (Nat.le_of_ble_eq_true rfl) dX1_isLit_15 ⟨(Nat.le_of_ble_eq_true rfl), (Nat.le_of_ble_eq_true rfl)⟩ ?_
  refine n_ti (y := bI (litB (v (ixx (nI j))) now)) (by rw [ixx_nI (by omega)]) ?_
  refine vx_ret ?_
  refine W.widen (k := 1) (n := 6) (Nat.le_of_ble_eq_true rfl) (Nat.le_of_ble_eq_true rfl) ?_
  exact W.zret (v := bI (litB (v (ixx (nI j))) now)) hx hb hr (bI_narrow _) (fun t ht hW => ⟨(cd1_t hok), rfl, ht⟩) (fun _ h => by cases h) dX1_isLit_18
set_option maxHeartbeats 4000000 in
set_option maxRecDepth 100000 in
/-- isSteady -/
theorem c_X1_isSteady (l : Launch) (D : va_G) (cI cZ cL cJ : ClassId) (hst : l.stackTraces = false) (ad : Nat → Nat) (n now : Nat) (told : Int32) (v : Nat → LV) (hwf : WFX n now v) (k : Int32) : vx_Met l yX1_isSteady wsX1_isSteady ({ frames := 7, cells := 1, slots := 6, locals := 103 } : Room) (PC D (TY cI cZ cL cJ) noA [.ref (ad 0), .int k] (fun H => PX D cI cL ad n now told v H)) (QOk (cd1 (lpOk n k) = 0) (bI (decide (cyc (v (ixx k)) = 1)))) (XC1 (fun E => exC [tIOB] (cd1 (lpOk n k)) E)) 1 6 (fun _ => False) := by
  refine vx_ofW (cc := cX1_isSteady) (maxL := 2) (ret := (some .boolean)) (by decide) rfl ?_
  intro p e s m args below meth c s₁ B hml hex hv
  obtain ⟨rfl, hK, hE, hP0, hPL⟩ := hv
  obtain ⟨hn8, hnow, hwl⟩ := hwf
  have hx := B.exec
  have hb := B.bytes
  have hr := B.returns
  have hts := atoms_spec (ws := wsX1_isSteady) B.pre
  have hown : s.vm.findClass RX1 = some m.cls := findClass_of_methodNamed B.named
  have hlocks := B.notSynchronized
  have hNF := hE.2.1.1
  have hin0 : ∀ w ∈ wsX00, w ∈ wsX1_isSteady := by decide +kernel
  have hin1 : ∀ w ∈ wsX10, w ∈ wsX1_isSteady := by decide +kernel
  have hl := lv_entry ([.ref (ad 0), .int k]) (n := 2) (Nat.le_of_ble_eq_true rfl)
  rw [lg_entry_eq]
  generalize (lg_sl ([.ref (ad 0), .int k]) ++ List.replicate (2 - (lg_sl ([.ref (ad 0), .int k])).length) Slot.unset).toArray = ls at hl ⊢
  have hl : lv_has ls 2 [(0, .ref (ad 0)), (1, .int k)] := hl
  refine lv_aload_n hx hb dX1_isSteady_0 rfl (lv_at hl 0 rfl) ?_
  refine lv_iload_n hx hb dX1_isSteady_1 rfl (lv_at hl 1 rfl) ?_
  refine xVp (As := [.int k]) (rest := []) ⟨hx, hb, hml, hown, hts⟩ (c_X1_needLamp l D cI cZ cL cJ hst ad n now told v ⟨hn8, hnow, hwl⟩ k) (cwV 1 hts gX1_isSteady_X1_needLamp rfl rfl rfl (by decide +kernel) ⟨(Nat.le_of_ble_eq_true rfl), (Nat.le_of_ble_eq_true rfl)⟩) hK hE ⟨hP0, hPL⟩ (RC_of (q := (RX1, TX1, 5)) (ci := 1) hK rfl (vpa hP0 0 rfl)) rfl hl.1 rfl (Nat.le_of_ble_eq_true rfl) dX1_isSteady_2 ⟨(Nat.le_of_ble_eq_true rfl), (Nat.le_of_ble_eq_true rfl)⟩ hex hlocks (fun E h => by rw [h.1]; exact ex1 h.2) (Nat.le_of_ble_eq_true rfl) (Nat.le_of_ble_eq_true rfl) (fun hok => ?_)
  obtain ⟨j, hj, rfl⟩ := lpOk_j (by omega) hok
  refine lv_aload_n hx hb dX1_isSteady_5 rfl (lv_at hl 0 rfl) ?_
  refine va_get (D := D) (ci := 1) (v := .ref (ad 1)) (C := RX1) (T := TX1) (N := 5) hx hb hts hin1 hown hK hP0 0 rfl rfl 0 (by decide) (hts (.fieldLink RX1 11 "LanternPrimes" "row" "[LLanternPrimes$Lamp;") (List.mem_of_getElem? (i := 1) rfl)) (fun _ h9 => h9) rfl dX1_isSteady_6 ?_
  refine lv_iload_n hx hb dX1_isSteady_9 rfl (lv_at hl 1 rfl) ?_
  refine n_aald (v := ad (2 + 3 * j)) (j := j) hx hb hK hP0 1 2 rfl rfl (by omega) (by decide) rfl dX1_isSteady_10 ?_
  have hPj := hPL j (by omega)
  refine rV (r := bI (decide (cyc (v j) = 1))) (As := []) (rest := []) ⟨hx, hb, hml, hown, hts⟩ (c_X0_neverChanges l D cI cZ cL cJ (ad (2 + 3 * j)) (ad (3 + 3 * j)) (ad (4 + 3 * j)) (v j) (hwl j (by omega)).up) (cwV 0 hts gX1_isSteady_X0_neverChanges rfl rfl rfl (by decide +kernel) ⟨(Nat.le_of_ble_eq_true rfl), (Nat.le_of_ble_eq_true rfl)⟩) hK hE hPj (RC_of (q := (RX0, TX0, 5)) (ci := 0) hK rfl (vpa hPj 0 rfl)) rfl hl.1 rfl (Nat.le_of_ble_eq_true rfl) dX1_isSteady_11 ⟨(Nat.le_of_ble_eq_true rfl), (Nat.le_of_ble_eq_true rfl)⟩ ?_
  refine n_ti (y := bI (decide (cyc (v (ixx (nI j))) = 1))) (by rw [ixx_nI (by omega)]) ?_
  refine vx_ret ?_
  refine W.widen (k := 1) (n := 6) (Nat.le_of_ble_eq_true rfl) (Nat.le_of_ble_eq_true rfl) ?_
  exact W.zret (v := bI (decide (cyc (v (ixx (nI j))) = 1))) hx hb hr (bI_narrow _) (fun t ht hW => ⟨(cd1_t hok), rfl, ht⟩) (fun _ h => by cases h) dX1_isSteady_14
set_option maxHeartbeats 4000000 in
set_option maxRecDepth 100000 in
/-- cycleOf -/
theorem c_X1_cycleOf (l : Launch) (D : va_G) (cI cZ cL cJ : ClassId) (hst : l.stackTraces = false) (ad : Nat → Nat) (n now : Nat) (told : Int32) (v : Nat → LV) (hwf : WFX n now v) (k : Int32) : vx_Met l yX1_cycleOf wsX1_cycleOf ({ frames := 7, cells := 1, slots := 6, locals := 103 } : Room) (PC D (TY cI cZ cL cJ) noA [.ref (ad 0), .int k] (fun H => PX D cI cL ad n now told v H)) (QOk (cd1 (lpOk n k) = 0) (nI (cyc (v (ixx k))))) (XC1 (fun E => exC [tIOB] (cd1 (lpOk n k)) E)) 1 6 (fun _ => False) := by
  refine vx_ofW (cc := cX1_cycleOf) (maxL := 2) (ret := (some .int)) (by decide) rfl ?_
  intro p e s m args below meth c s₁ B hml hex hv
  obtain ⟨rfl, hK, hE, hP0, hPL⟩ := hv
  obtain ⟨hn8, hnow, hwl⟩ := hwf
  have hx := B.exec
  have hb := B.bytes
  have hr := B.returns
  have hts := atoms_spec (ws := wsX1_cycleOf) B.pre
  have hown : s.vm.findClass RX1 = some m.cls := findClass_of_methodNamed B.named
  have hlocks := B.notSynchronized
  have hNF := hE.2.1.1
  have hin0 : ∀ w ∈ wsX00, w ∈ wsX1_cycleOf := by decide +kernel
  have hin1 : ∀ w ∈ wsX10, w ∈ wsX1_cycleOf := by decide +kernel
  have hl := lv_entry ([.ref (ad 0), .int k]) (n := 2) (Nat.le_of_ble_eq_true rfl)
  rw [lg_entry_eq]
  generalize (lg_sl ([.ref (ad 0), .int k]) ++ List.replicate (2 - (lg_sl ([.ref (ad 0), .int k])).length) Slot.unset).toArray = ls at hl ⊢
  have hl : lv_has ls 2 [(0, .ref (ad 0)), (1, .int k)] := hl
  refine lv_aload_n hx hb dX1_cycleOf_0 rfl (lv_at hl 0 rfl) ?_
  refine lv_iload_n hx hb dX1_cycleOf_1 rfl (lv_at hl 1 rfl) ?_
  refine xVp (As := [.int k]) (rest := []) ⟨hx, hb, hml, hown, hts⟩ (c_X1_needLamp l D cI cZ cL cJ hst ad n now told v ⟨hn8, hnow, hwl⟩ k) (cwV 1 hts gX1_cycleOf_X1_needLamp rfl rfl rfl (by decide +kernel) ⟨(Nat.le_of_ble_eq_true rfl), (Nat.le_of_ble_eq_true rfl)⟩) hK hE ⟨hP0, hPL⟩ (RC_of (q := (RX1, TX1, 5)) (ci := 1) hK rfl (vpa hP0 0 rfl)) rfl hl.1 rfl (Nat.le_of_ble_eq_true rfl) dX1_cycleOf_2 ⟨(Nat.le_of_ble_eq_true rfl), (Nat.le_of_ble_eq_true rfl)⟩ hex hlocks (fun E h => by rw [h.1]; exact ex1 h.2) (Nat.le_of_ble_eq_true rfl) (Nat.le_of_ble_eq_true rfl) (fun hok => ?_)
  obtain ⟨j, hj, rfl⟩ := lpOk_j (by omega) hok
  refine lv_aload_n hx hb dX1_cycleOf_5 rfl (lv_at hl 0 rfl) ?_
  refine va_get (D := D) (ci := 1) (v := .ref (ad 1)) (C := RX1) (T := TX1) (N := 5) hx hb hts hin1 hown hK hP0 0 rfl rfl 0 (by decide) (hts (.fieldLink RX1 11 "LanternPrimes" "row" "[LLanternPrimes$Lamp;") (List.mem_of_getElem? (i := 1) rfl)) (fun _ h9 => h9) rfl dX1_cycleOf_6 ?_
  refine lv_iload_n hx hb dX1_cycleOf_9 rfl (lv_at hl 1 rfl) ?_
  refine n_aald (v := ad (2 + 3 * j)) (j := j) hx hb hK hP0 1 2 rfl rfl (by omega) (by decide) rfl dX1_cycleOf_10 ?_
  have hPj := hPL j (by omega)
  refine rV (r := nI (cyc (v j))) (As := []) (rest := []) ⟨hx, hb, hml, hown, hts⟩ (c_X0_cycle l D cI cZ cL cJ (ad (2 + 3 * j)) (ad (3 + 3 * j)) (ad (4 + 3 * j)) (v j) (hwl j (by omega)).up) (cwV 0 hts gX1_cycleOf_X0_cycle rfl rfl rfl (by decide +kernel) ⟨(Nat.le_of_ble_eq_true rfl), (Nat.le_of_ble_eq_true rfl)⟩) hK hE hPj (RC_of (q := (RX0, TX0, 5)) (ci := 0) hK rfl (vpa hPj 0 rfl)) rfl hl.1 rfl (Nat.le_of_ble_eq_true rfl) dX1_cycleOf_11 ⟨(Nat.le_of_ble_eq_true rfl), (Nat.le_of_ble_eq_true rfl)⟩ ?_
  refine n_ti (y := nI (cyc (v (ixx (nI j))))) (by rw [ixx_nI (by omega)]) ?_
  refine vx_ret ?_
  refine W.widen (k := 1) (n := 6) (Nat.le_of_ble_eq_true rfl) (Nat.le_of_ble_eq_true rfl) ?_
  exact W.iret (v := nI (cyc (v (ixx (nI j))))) hx hb hr (fun t ht hW => ⟨(cd1_t hok), rfl, ht⟩) (fun _ h => by cases h) dX1_cycleOf_14
set_option maxHeartbeats 4000000 in
set_option maxRecDepth 100000 in
/-- momentsUntilChange -/
theorem c_X1_momentsUntilChange (l : Launch) (D : va_G) (cI cZ cL cJ : ClassId) (hst : l.stackTraces = false) (ad : Nat → Nat) (n now : Nat) (told : Int32) (v : Nat → LV) (hwf : WFX n now v) (k : Int32) : vx_Met l yX1_momentsUntilChange wsX1_momentsUntilChange ({ frames := 7, cells := 1, slots := 6, locals := 103 } : Room) (PC D (TY cI cZ cL cJ) noA [.ref (ad 0), .int k] (fun H => PX D cI cL ad n now told v H)) (QOk (cd1 (lpOk n k) = 0) ((untC (v (ixx k)) now))) (XC1 (fun E => exC [tIOB] (cd1 (lpOk n k)) E)) 1 6 (fun _ => False) := by
  refine vx_ofW (cc := cX1_momentsUntilChange) (maxL := 2) (ret := (some .int)) (by decide) rfl ?_
  intro p e s m args below meth c s₁ B hml hex hv
  obtain ⟨rfl, hK, hE, hP0, hPL⟩ := hv
  obtain ⟨hn8, hnow, hwl⟩ := hwf
  have hx := B.exec
  have hb := B.bytes
  have hr := B.returns
  have hts := atoms_spec (ws := wsX1_momentsUntilChange) B.pre
  have hown : s.vm.findClass RX1 = some m.cls := findClass_of_methodNamed B.named
  have hlocks := B.notSynchronized
  have hNF := hE.2.1.1
  have hin0 : ∀ w ∈ wsX00, w ∈ wsX1_momentsUntilChange := by decide +kernel
  have hin1 : ∀ w ∈ wsX10, w ∈ wsX1_momentsUntilChange := by decide +kernel
  have hl := lv_entry ([.ref (ad 0), .int k]) (n := 2) (Nat.le_of_ble_eq_true rfl)
  rw [lg_entry_eq]
  generalize (lg_sl ([.ref (ad 0), .int k]) ++ List.replicate (2 - (lg_sl ([.ref (ad 0), .int k])).length) Slot.unset).toArray = ls at hl ⊢
  have hl : lv_has ls 2 [(0, .ref (ad 0)), (1, .int k)] := hl
  refine lv_aload_n hx hb dX1_momentsUntilChange_0 rfl (lv_at hl 0 rfl) ?_
  refine lv_iload_n hx hb dX1_momentsUntilChange_1 rfl (lv_at hl 1 rfl) ?_
  refine xVp (As := [.int k]) (rest := []) ⟨hx, hb, hml, hown, hts⟩ (c_X1_needLamp l D cI cZ cL cJ hst ad n now told v ⟨hn8, hnow, hwl⟩ k) (cwV 1 hts gX1_momentsUntilChange_X1_needLamp rfl rfl rfl (by decide +kernel) ⟨(Nat.le_of_ble_eq_true rfl), (Nat.le_of_ble_eq_true rfl)⟩) hK hE ⟨hP0, hPL⟩ (RC_of (q := (RX1, TX1, 5)) (ci := 1) hK rfl (vpa hP0 0 rfl)) rfl hl.1 rfl (Nat.le_of_ble_eq_true rfl) dX1_momentsUntilChange_2 ⟨(Nat.le_of_ble_eq_true rfl), (Nat.le_of_ble_eq_true rfl)⟩ hex hlocks (fun E h => by rw [h.1]; exact ex1 h.2) (Nat.le_of_ble_eq_true rfl) (Nat.le_of_ble_eq_true rfl) (fun hok => ?_)
  obtain ⟨j, hj, rfl⟩ := lpOk_j (by omega) hok
  refine lv_aload_n hx hb dX1_momentsUntilChange_5 rfl (lv_at hl 0 rfl) ?_
  refine va_get (D := D) (ci := 1) (v := .ref (ad 1)) (C := RX1) (T := TX1) (N := 5) hx hb hts hin1 hown hK hP0 0 rfl rfl 0 (by decide) (hts (.fieldLink RX1 11 "LanternPrimes" "row" "[LLanternPrimes$Lamp;") (List.mem_of_getElem? (i := 1) rfl)) (fun _ h9 => h9) rfl dX1_momentsUntilChange_6 ?_
  refine lv_iload_n hx hb dX1_momentsUntilChange_9 rfl (lv_at hl 1 rfl) ?_
  refine n_aald (v := ad (2 + 3 * j)) (j := j) hx hb hK hP0 1 2 rfl rfl (by omega) (by decide) rfl dX1_momentsUntilChange_10 ?_
  have hPj := hPL j (by omega)
  refine lv_aload_n hx hb dX1_momentsUntilChange_11 rfl (lv_at hl 0 rfl) ?_
  refine va_get (D := D) (ci := 1) (v := .int (nI now)) (C := RX1) (T := TX1) (N := 5) hx hb hts hin1 hown hK hP0 0 rfl rfl 3 (by decide) (hts (.fieldLink RX1 73 "LanternPrimes" "present" "I") (List.mem_of_getElem? (i := 2) rfl)) (fun _ h9 => h9) rfl dX1_momentsUntilChange_12 ?_
  refine rV (r := (untC (v j) now)) (As := [.int (nI now)]) (rest := []) ⟨hx, hb, hml, hown, hts⟩ (c_X0_untilChange l D cI cZ cL cJ (ad (2 + 3 * j)) (ad (3 + 3 * j)) (ad (4 + 3 * j)) (v j) now (by omega) (hwl j (by omega)).up) (cwV 1 hts gX1_momentsUntilChange_X0_untilChange rfl rfl rfl (by decide +kernel) ⟨(Nat.le_of_ble_eq_true rfl), (Nat.le_of_ble_eq_true rfl)⟩) hK hE hPj (RC_of (q := (RX0, TX0, 5)) (ci := 0) hK rfl (vpa hPj 0 rfl)) rfl hl.1 rfl (Nat.le_of_ble_eq_true rfl) dX1_momentsUntilChange_15 ⟨(Nat.le_of_ble_eq_true rfl), (Nat.le_of_ble_eq_true rfl)⟩ ?_
  refine n_ti (y := (untC (v (ixx (nI j))) now)) (by rw [ixx_nI (by omega)]) ?_
  refine vx_ret ?_
  refine W.widen (k := 1) (n := 6) (Nat.le_of_ble_eq_true rfl) (Nat.le_of_ble_eq_true rfl) ?_
  exact W.iret (v := (untC (v (ixx (nI j))) now)) hx hb hr (fun t ht hW => ⟨(cd1_t hok), rfl, ht⟩) (fun _ h => by cases h) dX1_momentsUntilChange_18
set_option maxHeartbeats 4000000 in
set_option maxRecDepth 100000 in
/-- isOnAt -/
theorem c_X1_isOnAt (l : Launch) (D : va_G) (cI cZ cL cJ : ClassId) (hst : l.stackTraces = false) (ad : Nat → Nat) (n now : Nat) (told : Int32) (v : Nat → LV) (hwf : WFX n now v) (k x : Int32) : vx_Met l yX1_isOnAt wsX1_isOnAt ({ frames := 7, cells := 2, slots := 12, locals := 103 } : Room) (PC D (TY cI cZ cL cJ) noA [.ref (ad 0), .int k, .int x] (fun H => PX D cI cL ad n now told v H)) (QOk (cd2 (lpOk n k) (inB (nI 0) (nI 60000) x) = 0) (bI (onB (v (ixx k)) (ixx x)))) (XC1 (fun E => exC [tIOB, tIAE] (cd2 (lpOk n k) (inB (nI 0) (nI 60000) x)) E)) 2 12 (fun _ => False) := by
  refine vx_ofW (cc := cX1_isOnAt) (maxL := 3) (ret := (some .boolean)) (by decide) rfl ?_
  intro p e s m args below meth c s₁ B hml hex hv
  obtain ⟨rfl, hK, hE, hP0, hPL⟩ := hv
  obtain ⟨hn8, hnow, hwl⟩ := hwf
  have hx := B.exec
  have hb := B.bytes
  have hr := B.returns
  have hts := atoms_spec (ws := wsX1_isOnAt) B.pre
  have hown : s.vm.findClass RX1 = some m.cls := findClass_of_methodNamed B.named
  have hlocks := B.notSynchronized
  have hNF := hE.2.1.1
  have hin0 : ∀ w ∈ wsX00, w ∈ wsX1_isOnAt := by decide +kernel
  have hin1 : ∀ w ∈ wsX10, w ∈ wsX1_isOnAt := by decide +kernel
  have hl := lv_entry ([.ref (ad 0), .int k, .int x]) (n := 3) (Nat.le_of_ble_eq_true rfl)
  rw [lg_entry_eq]
  generalize (lg_sl ([.ref (ad 0), .int k, .int x]) ++ List.replicate (3 - (lg_sl ([.ref (ad 0), .int k, .int x])).length) Slot.unset).toArray = ls at hl ⊢
  have hl : lv_has ls 3 [(0, .ref (ad 0)), (1, .int k), (2, .int x)] := hl
  refine lv_aload_n hx hb dX1_isOnAt_0 rfl (lv_at hl 0 rfl) ?_
  refine lv_iload_n hx hb dX1_isOnAt_1 rfl (lv_at hl 1 rfl) ?_
  refine xVp (As := [.int k]) (rest := []) ⟨hx, hb, hml, hown, hts⟩ (c_X1_needLamp l D cI cZ cL cJ hst ad n now told v ⟨hn8, hnow, hwl⟩ k) (cwV 1 hts gX1_isOnAt_X1_needLamp rfl rfl rfl (by decide +kernel) ⟨(Nat.le_of_ble_eq_true rfl), (Nat.le_of_ble_eq_true rfl)⟩) hK hE ⟨hP0, hPL⟩ (RC_of (q := (RX1, TX1, 5)) (ci := 1) hK rfl (vpa hP0 0 rfl)) rfl hl.1 rfl (Nat.le_of_ble_eq_true rfl) dX1_isOnAt_2 ⟨(Nat.le_of_ble_eq_true rfl), (Nat.le_of_ble_eq_true rfl)⟩ hex hlocks (fun E h => by rw [h.1]; exact ex2a h.2) (Nat.le_of_ble_eq_true rfl) (Nat.le_of_ble_eq_true rfl) (fun hok => ?_)
  obtain ⟨j, hj, rfl⟩ := lpOk_j (by omega) hok
  refine lv_iload_n hx hb dX1_isOnAt_5 rfl (lv_at hl 2 rfl) ?_
  refine xSp (As := [.int x]) (rest := []) ⟨hx, hb, hml, hown, hts⟩ (c_X1_needMoment l D cI cZ cL cJ hst x) (va_cwS 1 hts gX1_isOnAt_X1_needMoment rfl rfl rfl (by decide +kernel) ⟨(Nat.le_of_ble_eq_true rfl), (Nat.le_of_ble_eq_true rfl)⟩) hK hE trivial rfl hl.1 rfl (Nat.le_of_ble_eq_true rfl) dX1_isOnAt_6 ⟨(Nat.le_of_ble_eq_true rfl), (Nat.le_of_ble_eq_true rfl)⟩ hex hlocks (fun E h => by rw [h.1]; exact ex2b hok h.2) (Nat.le_of_ble_eq_true rfl) (Nat.le_of_ble_eq_true rfl) (fun hok2 => ?_)
  obtain ⟨y, -, hy2, rfl⟩ := inB_j (by decide) (by decide) hok2
  refine lv_aload_n hx hb dX1_isOnAt_9 rfl (lv_at hl 0 rfl) ?_
  refine va_get (D := D) (ci := 1) (v := .ref (ad 1)) (C := RX1) (T := TX1) (N := 5) hx hb hts hin1 hown hK hP0 0 rfl rfl 0 (by decide) (hts (.fieldLink RX1 11 "LanternPrimes" "row" "[LLanternPrimes$Lamp;") (List.mem_of_getElem? (i := 1) rfl)) (fun _ h9 => h9) rfl dX1_isOnAt_10 ?_
  refine lv_iload_n hx hb dX1_isOnAt_13 rfl (lv_at hl 1 rfl) ?_
  refine n_aald (v := ad (2 + 3 * j)) (j := j) hx hb hK hP0 1 2 rfl rfl (by omega) (by decide) rfl dX1_isOnAt_14 ?_
  have hPj := hPL j (by omega)
  refine lv_iload_n hx hb dX1_isOnAt_15 rfl (lv_at hl 2 rfl) ?_
  refine rV (r := bI (onB (v j) y)) (As := [.int (nI y)]) (rest := []) ⟨hx, hb, hml, hown, hts⟩ (c_X0_onAt l D cI cZ cL cJ (ad (2 + 3 * j)) (ad (3 + 3 * j)) (ad (4 + 3 * j)) (v j) y (by omega) (hwl j (by omega)).up) (cwV 1 hts gX1_isOnAt_X0_onAt rfl rfl rfl (by decide +kernel) ⟨(Nat.le_of_ble_eq_true rfl), (Nat.le_of_ble_eq_true rfl)⟩) hK hE hPj (RC_of (q := (RX0, TX0, 5)) (ci := 0) hK rfl (vpa hPj 0 rfl)) rfl hl.1 rfl (Nat.le_of_ble_eq_true rfl) dX1_isOnAt_16 ⟨(Nat.le_of_ble_eq_true rfl), (Nat.le_of_ble_eq_true rfl)⟩ ?_
  refine n_ti (y := bI (onB (v (ixx (nI j))) (ixx (nI y)))) (by rw [ixx_nI (by omega), ixx_nI (by omega)]) ?_
  refine vx_ret ?_
  refine W.widen (k := 2) (n := 12) (Nat.le_of_ble_eq_true rfl) (Nat.le_of_ble_eq_true rfl) ?_
  exact W.zret (v := bI (onB (v (ixx (nI j))) (ixx (nI y)))) hx hb hr (bI_narrow _) (fun t ht hW => ⟨(cd2_t hok hok2), rfl, ht⟩) (fun _ h => by cases h) dX1_isOnAt_19
set_option maxHeartbeats 4000000 in
set_option maxRecDepth 100000 in
/-- strikesAt -/
theorem c_X1_strikesAt (l : Launch) (D : va_G) (cI cZ cL cJ : ClassId) (hst : l.stackTraces = false) (ad : Nat → Nat) (n now : Nat) (told : Int32) (v : Nat → LV) (hwf : WFX n now v) (k x : Int32) : vx_Met l yX1_strikesAt wsX1_strikesAt ({ frames := 7, cells := 2, slots := 12, locals := 103 } : Room) (PC D (TY cI cZ cL cJ) noA [.ref (ad 0), .int k, .int x] (fun H => PX D cI cL ad n now told v H)) (QOk (cd2 (lpOk n k) (inB (nI 0) (nI 60000) x) = 0) (nI (strk (v (ixx k)) (ixx x) (lbc (v (ixx k)))))) (XC1 (fun E => exC [tIOB, tIAE] (cd2 (lpOk n k) (inB (nI 0) (nI 60000) x)) E)) 2 12 (fun _ => False) := by
  refine vx_ofW (cc := cX1_strikesAt) (maxL := 3) (ret := (some .int)) (by decide) rfl ?_
  intro p e s m args below meth c s₁ B hml hex hv
  obtain ⟨rfl, hK, hE, hP0, hPL⟩ := hv
  obtain ⟨hn8, hnow, hwl⟩ := hwf
  have hx := B.exec
  have hb := B.bytes
  have hr := B.returns
  have hts := atoms_spec (ws := wsX1_strikesAt) B.pre
  have hown : s.vm.findClass RX1 = some m.cls := findClass_of_methodNamed B.named
  have hlocks := B.notSynchronized
  have hNF := hE.2.1.1
  have hin0 : ∀ w ∈ wsX00, w ∈ wsX1_strikesAt := by decide +kernel
  have hin1 : ∀ w ∈ wsX10, w ∈ wsX1_strikesAt := by decide +kernel
  have hl := lv_entry ([.ref (ad 0), .int k, .int x]) (n := 3) (Nat.le_of_ble_eq_true rfl)
  rw [lg_entry_eq]
  generalize (lg_sl ([.ref (ad 0), .int k, .int x]) ++ List.replicate (3 - (lg_sl ([.ref (ad 0), .int k, .int x])).length) Slot.unset).toArray = ls at hl ⊢
  have hl : lv_has ls 3 [(0, .ref (ad 0)), (1, .int k), (2, .int x)] := hl
  refine lv_aload_n hx hb dX1_strikesAt_0 rfl (lv_at hl 0 rfl) ?_
  refine lv_iload_n hx hb dX1_strikesAt_1 rfl (lv_at hl 1 rfl) ?_
  refine xVp (As := [.int k]) (rest := []) ⟨hx, hb, hml, hown, hts⟩ (c_X1_needLamp l D cI cZ cL cJ hst ad n now told v ⟨hn8, hnow, hwl⟩ k) (cwV 1 hts gX1_strikesAt_X1_needLamp rfl rfl rfl (by decide +kernel) ⟨(Nat.le_of_ble_eq_true rfl), (Nat.le_of_ble_eq_true rfl)⟩) hK hE ⟨hP0, hPL⟩ (RC_of (q := (RX1, TX1, 5)) (ci := 1) hK rfl (vpa hP0 0 rfl)) rfl hl.1 rfl (Nat.le_of_ble_eq_true rfl) dX1_strikesAt_2 ⟨(Nat.le_of_ble_eq_true rfl), (Nat.le_of_ble_eq_true rfl)⟩ hex hlocks (fun E h => by rw [h.1]; exact ex2a h.2) (Nat.le_of_ble_eq_true rfl) (Nat.le_of_ble_eq_true rfl) (fun hok => ?_)
  obtain ⟨j, hj, rfl⟩ := lpOk_j (by omega) hok
  refine lv_iload_n hx hb dX1_strikesAt_5 rfl (lv_at hl 2 rfl) ?_
  refine xSp (As := [.int x]) (rest := []) ⟨hx, hb, hml, hown, hts⟩ (c_X1_needMoment l D cI cZ cL cJ hst x) (va_cwS 1 hts gX1_strikesAt_X1_needMoment rfl rfl rfl (by decide +kernel) ⟨(Nat.le_of_ble_eq_true rfl), (Nat.le_of_ble_eq_true rfl)⟩) hK hE trivial rfl hl.1 rfl (Nat.le_of_ble_eq_true rfl) dX1_strikesAt_6 ⟨(Nat.le_of_ble_eq_true rfl), (Nat.le_of_ble_eq_true rfl)⟩ hex hlocks (fun E h => by rw [h.1]; exact ex2b hok h.2) (Nat.le_of_ble_eq_true rfl) (Nat.le_of_ble_eq_true rfl) (fun hok2 => ?_)
  obtain ⟨y, -, hy2, rfl⟩ := inB_j (by decide) (by decide) hok2
  refine lv_aload_n hx hb dX1_strikesAt_9 rfl (lv_at hl 0 rfl) ?_
  refine va_get (D := D) (ci := 1) (v := .ref (ad 1)) (C := RX1) (T := TX1) (N := 5) hx hb hts hin1 hown hK hP0 0 rfl rfl 0 (by decide) (hts (.fieldLink RX1 11 "LanternPrimes" "row" "[LLanternPrimes$Lamp;") (List.mem_of_getElem? (i := 1) rfl)) (fun _ h9 => h9) rfl dX1_strikesAt_10 ?_
  refine lv_iload_n hx hb dX1_strikesAt_13 rfl (lv_at hl 1 rfl) ?_
  refine n_aald (v := ad (2 + 3 * j)) (j := j) hx hb hK hP0 1 2 rfl rfl (by omega) (by decide) rfl dX1_strikesAt_14 ?_
  have hPj := hPL j (by omega)
  refine lv_iload_n hx hb dX1_strikesAt_15 rfl (lv_at hl 2 rfl) ?_
  refine rV (r := nI (strk (v j) y (lbc (v j)))) (As := [.int (nI y)]) (rest := []) ⟨hx, hb, hml, hown, hts⟩ (c_X0_strikes l D cI cZ cL cJ (ad (2 + 3 * j)) (ad (3 + 3 * j)) (ad (4 + 3 * j)) (v j) y (by omega) (hwl j (by omega)).up) (cwV 1 hts gX1_strikesAt_X0_strikes rfl rfl rfl (by decide +kernel) ⟨(Nat.le_of_ble_eq_true rfl), (Nat.le_of_ble_eq_true rfl)⟩) hK hE hPj (RC_of (q := (RX0, TX0, 5)) (ci := 0) hK rfl (vpa hPj 0 rfl)) rfl hl.1 rfl (Nat.le_of_ble_eq_true rfl) dX1_strikesAt_16 ⟨(Nat.le_of_ble_eq_true rfl), (Nat.le_of_ble_eq_true rfl)⟩ ?_
  refine n_ti (y := nI (strk (v (ixx (nI j))) (ixx (nI y)) (lbc (v (ixx (nI j)))))) (by rw [ixx_nI (by omega), ixx_nI (by omega)]) ?_
  refine vx_ret ?_
  refine W.widen (k := 2) (n := 12) (Nat.le_of_ble_eq_true rfl) (Nat.le_of_ble_eq_true rfl) ?_
  exact W.iret (v := nI (strk (v (ixx (nI j))) (ixx (nI y)) (lbc (v (ixx (nI j)))))) hx hb hr (fun t ht hW => ⟨(cd2_t hok hok2), rfl, ht⟩) (fun _ h => by cases h) dX1_strikesAt_19
set_option maxHeartbeats 4000000 in
set_option maxRecDepth 100000 in
/-- shows -/
theorem c_X1_shows (l : Launch) (D : va_G) (cI cZ cL cJ : ClassId) (hst : l.stackTraces = false) (ad : Nat → Nat) (n now : Nat) (told : Int32) (v : Nat → LV) (hwf : WFX n now v) (k x : Int32) : vx_Met l yX1_shows wsX1_shows ({ frames := 7, cells := 2, slots := 12, locals := 103 } : Room) (PC D (TY cI cZ cL cJ) noA [.ref (ad 0), .int k, .int x] (fun H => PX D cI cL ad n now told v H)) (QOk (cd2 (lpOk n k) (inB (nI 1) (nI 30) x) = 0) (nI (shwN (v (ixx k)) now (ixx x)))) (XC1 (fun E => exC [tIOB, tIAE] (cd2 (lpOk n k) (inB (nI 1) (nI 30) x)) E)) 2 12 (fun _ => False) := by
  refine vx_ofW (cc := cX1_shows) (maxL := 5) (ret := (some .int)) (by decide) rfl ?_
  intro p e s m args below meth c s₁ B hml hex hv
  obtain ⟨rfl, hK, hE, hP0, hPL⟩ := hv
  obtain ⟨hn8, hnow, hwl⟩ := hwf
  have hx := B.exec
  have hb := B.bytes
  have hr := B.returns
  have hts := atoms_spec (ws := wsX1_shows) B.pre
  have hown : s.vm.findClass RX1 = some m.cls := findClass_of_methodNamed B.named
  have hlocks := B.notSynchronized
  have hNF := hE.2.1.1
  have hin0 : ∀ w ∈ wsX00, w ∈ wsX1_shows := by decide +kernel
  have hin1 : ∀ w ∈ wsX10, w ∈ wsX1_shows := by decide +kernel
  have hl := lv_entry ([.ref (ad 0), .int k, .int x]) (n := 5) (Nat.le_of_ble_eq_true rfl)
  rw [lg_entry_eq]
  generalize (lg_sl ([.ref (ad 0), .int k, .int x]) ++ List.replicate (5 - (lg_sl ([.ref (ad 0), .int k, .int x])).length) Slot.unset).toArray = ls at hl ⊢
  have hl : lv_has ls 5 [(0, .ref (ad 0)), (1, .int k), (2, .int x)] := hl
  refine lv_aload_n hx hb dX1_shows_0 rfl (lv_at hl 0 rfl) ?_
  refine lv_iload_n hx hb dX1_shows_1 rfl (lv_at hl 1 rfl) ?_
  refine xVp (As := [.int k]) (rest := []) ⟨hx, hb, hml, hown, hts⟩ (c_X1_needLamp l D cI cZ cL cJ hst ad n now told v ⟨hn8, hnow, hwl⟩ k) (cwV 1 hts gX1_shows_X1_needLamp rfl rfl rfl (by decide +kernel) ⟨(Nat.le_of_ble_eq_true rfl), (Nat.le_of_ble_eq_true rfl)⟩) hK hE ⟨hP0, hPL⟩ (RC_of (q := (RX1, TX1, 5)) (ci := 1) hK rfl (vpa hP0 0 rfl)) rfl hl.1 rfl (Nat.le_of_ble_eq_true rfl) dX1_shows_2 ⟨(Nat.le_of_ble_eq_true rfl), (Nat.le_of_ble_eq_true rfl)⟩ hex hlocks (fun E h => by rw [h.1]; exact ex2a h.2) (Nat.le_of_ble_eq_true rfl) (Nat.le_of_ble_eq_true rfl) (fun hok => ?_)
  obtain ⟨j, hj, rfl⟩ := lpOk_j (by omega) hok
  refine lv_iload_n hx hb dX1_shows_5 rfl (lv_at hl 2 rfl) ?_
  refine lv_bipush (v := nI 30) hx hb dX1_shows_6 (by decide) ?_
  refine xSp (As := [.int x, .int (nI 30)]) (rest := []) ⟨hx, hb, hml, hown, hts⟩ (c_X1_needMoments l D cI cZ cL cJ hst x (nI 30)) (va_cwS 2 hts gX1_shows_X1_needMoments rfl rfl rfl (by decide +kernel) ⟨(Nat.le_of_ble_eq_true rfl), (Nat.le_of_ble_eq_true rfl)⟩) hK hE trivial rfl hl.1 rfl (Nat.le_of_ble_eq_true rfl) dX1_shows_8 ⟨(Nat.le_of_ble_eq_true rfl), (Nat.le_of_ble_eq_true rfl)⟩ hex hlocks (fun E h => by rw [h.1]; exact ex2b hok h.2) (Nat.le_of_ble_eq_true rfl) (Nat.le_of_ble_eq_true rfl) (fun hok2 => ?_)
  obtain ⟨y, hy1, hy2, rfl⟩ := inB_j (by decide) (by decide) hok2
  refine lv_iconst (v := nI 0) hx hb dX1_shows_11 (by decide) ?_
  refine lv_istore_n (lv' := [(3, .int (nI 0)), (0, .ref (ad 0)), (1, .int (nI j)), (2, .int (nI y))]) hx hb dX1_shows_12 rfl hl (by decide) rfl (fun ls hl => ?_)
  refine lv_iconst (v := nI 0) hx hb dX1_shows_13 (by decide) ?_
  refine lv_istore (lv' := [(4, .int (nI 0)), (3, .int (nI 0)), (0, .ref (ad 0)), (1, .int (nI j)), (2, .int (nI y))]) hx hb dX1_shows_14 hl (by decide) rfl (fun ls hl => ?_)
  have loop_16 : ∀ (fu : Nat) (q : Nat), y + 1 - q ≤ fu → q ≤ y → ∀ (ls : Array Slot), lv_has ls 5 [(4, .int (nI q)), (3, .int (nI (shwN (v j) now q))), (0, .ref (ad 0)), (1, .int (nI j)), (2, .int (nI y))] → W p l e (headSpec wsX1_shows ({ frames := 7, cells := 2, slots := 12, locals := 103 } : Room)).room s m [.ref (ad 0), .int (nI j), .int (nI y)].toArray below meth c s.heap [] ((0 + 1) + 1) ((0 + 6) + 6) (vx_MQ below (QOk (cd2 (lpOk n (nI j)) (inB (nI 1) (nI 30) (nI y)) = 0) (nI (shwN (v (ixx (nI j))) now (ixx (nI y))))) (XC1 (fun E => exC [tIOB, tIAE] (cd2 (lpOk n (nI j)) (inB (nI 1) (nI 30) (nI y))) E)) [.ref (ad 0), .int (nI j), .int (nI y)].toArray s 2 12 (fun _ => False)) (F0 m 16 ls []) := by
    intro fu
    induction fu with
    | zero => intro q hn_16 hq; exact absurd hn_16 (by omega)
    | succ fu ih_16 =>
      intro q hn_16 hq ls hl
      refine lv_iload hx hb dX1_shows_16 (lv_at hl 0 rfl) ?_
      refine lv_iload_n hx hb dX1_shows_18 rfl (lv_at hl 4 rfl) ?_
      refine n_icmp_ge (a := q) (b := y) (tgt := 57) hx hb (by omega) (by omega) dX1_shows_19 (by decide) (fun c_19 => ?_) (fun c_19 => ?_)
      · refine lv_iload_n hx hb dX1_shows_57 rfl (lv_at hl 1 rfl) ?_
        refine n_ti (y := nI (shwN (v (ixx (nI j))) now (ixx (nI y)))) (by rw [ixx_nI (by omega), ixx_nI (by omega), show q = y by omega]) ?_
        refine vx_ret ?_
        refine W.widen (k := 2) (n := 12) (Nat.le_of_ble_eq_true rfl) (Nat.le_of_ble_eq_true rfl) ?_
        exact W.iret (v := nI (shwN (v (ixx (nI j))) now (ixx (nI y)))) hx hb hr (fun t ht hW => ⟨(cd2_t hok hok2), rfl, ht⟩) (fun _ h => by cases h) dX1_shows_58
      · have join_49 : ∀ (ls : Array Slot), lv_has ls 5 [(4, .int (nI q)), (3, .int (nI (shwN (v j) now q))), (0, .ref (ad 0)), (1, .int (nI j)), (2, .int (nI y))] → W p l e (headSpec wsX1_shows ({ frames := 7, cells := 2, slots := 12, locals := 103 } : Room)).room s m [.ref (ad 0), .int (nI j), .int (nI y)].toArray below meth c s.heap [] ((0 + 1) + 1) ((0 + 6) + 6) (vx_MQ below (QOk (cd2 (lpOk n (nI j)) (inB (nI 1) (nI 30) (nI y)) = 0) (nI (shwN (v (ixx (nI j))) now (ixx (nI y))))) (XC1 (fun E => exC [tIOB, tIAE] (cd2 (lpOk n (nI j)) (inB (nI 1) (nI 30) (nI y))) E)) [.ref (ad 0), .int (nI j), .int (nI y)].toArray s 2 12 (fun _ => False)) (F0 m 49 ls [.int (nI (if onB (v j) (now + q) = true then 1 else 0)), .int (nI (2 * (shwN (v j) now q)))]) := by
          intro   ls hl
          refine n_iadd (v := nI (shwN (v j) now (q + 1))) hx hb dX1_shows_49 (nI_add _ _) ?_
          refine lv_istore_n (lv' := [(3, .int (nI (shwN (v j) now (q + 1)))), (4, .int (nI q)), (0, .ref (ad 0)), (1, .int (nI j)), (2, .int (nI y))]) hx hb dX1_shows_50 rfl hl (by decide) rfl (fun ls hl => ?_)
          refine lv_iinc (v := nI (q + 1)) (lv' := [(4, .int (nI (q + 1))), (3, .int (nI (shwN (v j) now (q + 1)))), (0, .ref (ad 0)), (1, .int (nI j)), (2, .int (nI y))]) hx hb dX1_shows_51 hl (k := 1) rfl (nI_inc _) (by decide) rfl (fun ls hl => ?_)
          refine lv_goto (tgt := 16) hx hb dX1_shows_54 (by decide) ?_
          exact ih_16 (q + 1) (by omega) (by omega) ls (lv_sub hl [0, 1, 2, 3, 4] rfl)
        refine lv_iconst (v := nI 2) hx hb dX1_shows_22 (by decide) ?_
        refine lv_iload_n hx hb dX1_shows_23 rfl (lv_at hl 1 rfl) ?_
        refine n_imul (v := nI (2 * (shwN (v j) now q))) hx hb dX1_shows_24 (pk_mul _ _) ?_
        refine lv_aload_n hx hb dX1_shows_25 rfl (lv_at hl 2 rfl) ?_
        refine va_get (D := D) (ci := 1) (v := .ref (ad 1)) (C := RX1) (T := TX1) (N := 5) hx hb hts hin1 hown hK hP0 0 rfl rfl 0 (by decide) (hts (.fieldLink RX1 11 "LanternPrimes" "row" "[LLanternPrimes$Lamp;") (List.mem_of_getElem? (i := 1) rfl)) (fun _ h9 => h9) rfl dX1_shows_26 ?_
        refine lv_iload_n hx hb dX1_shows_29 rfl (lv_at hl 3 rfl) ?_
        refine n_aald (v := ad (2 + 3 * j)) (j := j) hx hb hK hP0 1 2 rfl rfl (by omega) (by decide) rfl dX1_shows_30 ?_
        have hPj := hPL j (by omega)
        refine lv_aload_n hx hb dX1_shows_31 rfl (lv_at hl 2 rfl) ?_
        refine va_get (D := D) (ci := 1) (v := .int (nI now)) (C := RX1) (T := TX1) (N := 5) hx hb hts hin1 hown hK hP0 0 rfl rfl 3 (by decide) (hts (.fieldLink RX1 73 "LanternPrimes" "present" "I") (List.mem_of_getElem? (i := 2) rfl)) (fun _ h9 => h9) rfl dX1_shows_32 ?_
        refine lv_iload hx hb dX1_shows_35 (lv_at hl 0 rfl) ?_
        refine n_iadd (v := nI (now + q)) hx hb dX1_shows_37 (nI_add _ _) ?_
        refine rV (r := bI (onB (v j) (now + q))) (As := [.int (nI (now + q))]) (rest := [.int (nI (2 * (shwN (v j) now q)))]) ⟨hx, hb, hml, hown, hts⟩ (c_X0_onAt l D cI cZ cL cJ (ad (2 + 3 * j)) (ad (3 + 3 * j)) (ad (4 + 3 * j)) (v j) (now + q) (by omega) (hwl j (by omega)).up) (cwV 1 hts gX1_shows_X0_onAt rfl rfl rfl (by decide +kernel) ⟨(Nat.le_of_ble_eq_true rfl), (Nat.le_of_ble_eq_true rfl)⟩) hK hE hPj (RC_of (q := (RX0, TX0, 5)) (ci := 0) hK rfl (vpa hPj 0 rfl)) rfl hl.1 rfl (Nat.le_of_ble_eq_true rfl) dX1_shows_38 ⟨(Nat.le_of_ble_eq_true rfl), (Nat.le_of_ble_eq_true rfl)⟩ ?_
        refine b_if_eq (b := onB (v j) (now + q)) (tgt := 48) hx hb dX1_shows_41 (by decide) (fun c_41 => ?_) (fun c_41 => ?_)
        · refine lv_iconst (v := nI 0) hx hb dX1_shows_48 (by decide) ?_
          refine n_ti (y := nI (if onB (v j) (now + q) = true then 1 else 0)) (by rw [c_41]; rfl) ?_
          exact join_49 ls (lv_sub hl [0, 1, 2, 3, 4] rfl)
        · refine lv_iconst (v := nI 1) hx hb dX1_shows_44 (by decide) ?_
          refine lv_goto (tgt := 49) hx hb dX1_shows_45 (by decide) ?_
          refine n_ti (y := nI (if onB (v j) (now + q) = true then 1 else 0)) (by rw [c_41]; rfl) ?_
          exact join_49 ls (lv_sub hl [0, 1, 2, 3, 4] rfl)
  exact loop_16 (y + 1) 0 (by omega) (Nat.zero_le _) ls (lv_sub hl [0, 1, 2, 3, 4] rfl)
set_option maxHeartbeats 4000000 in
set_option maxRecDepth 100000 in
/-- momentsUntilCollision -/
theorem c_X1_momentsUntilCollision (l : Launch) (D : va_G) (cI cZ cL cJ : ClassId) (hst : l.stackTraces = false) (ad : Nat → Nat) (n now : Nat) (told : Int32) (v : Nat → LV) (hwf : WFX n now v) (k q : Int32) : vx_Met l yX1_momentsUntilCollision wsX1_momentsUntilCollision ({ frames := 8, cells := 3, slots := 18, locals := 125 } : Room) (PC D (TY cI cZ cL cJ) noA [.ref (ad 0), .int k, .int q] (fun H => PX D cI cL ad n now told v H)) (QOk (cd2 (lpOk n k && lpOk n q) (decide (¬ k = q)) = 0) ((oI (fnd (fun z => colB v (ixx k) (ixx q) (now + z)) 1 1000)))) (XC1 (fun E => exC [tIOB, tIAE] (cd2 (lpOk n k && lpOk n q) (decide (¬ k = q))) E)) 3 18 (fun _ => False) := by
  refine vx_ofW (cc := cX1_momentsUntilCollision) (maxL := 4) (ret := (some .int)) (by decide) rfl ?_
  intro p e s m args below meth c s₁ B hml hex hv
  obtain ⟨rfl, hK, hE, hP0, hPL⟩ := hv
  obtain ⟨hn8, hnow, hwl⟩ := hwf
  have hx := B.exec
  have hb := B.bytes
  have hr := B.returns
  have hts := atoms_spec (ws := wsX1_momentsUntilCollision) B.pre
  have hown : s.vm.findClass RX1 = some m.cls := findClass_of_methodNamed B.named
  have hlocks := B.notSynchronized
  have hNF := hE.2.1.1
  have hin0 : ∀ w ∈ wsX00, w ∈ wsX1_momentsUntilCollision := by decide +kernel
  have hin1 : ∀ w ∈ wsX10, w ∈ wsX1_momentsUntilCollision := by decide +kernel
  have hl := lv_entry ([.ref (ad 0), .int k, .int q]) (n := 4) (Nat.le_of_ble_eq_true rfl)
  rw [lg_entry_eq]
  generalize (lg_sl ([.ref (ad 0), .int k, .int q]) ++ List.replicate (4 - (lg_sl ([.ref (ad 0), .int k, .int q])).length) Slot.unset).toArray = ls at hl ⊢
  have hl : lv_has ls 4 [(0, .ref (ad 0)), (1, .int k), (2, .int q)] := hl
  refine lv_aload_n hx hb dX1_momentsUntilCollision_0 rfl (lv_at hl 0 rfl) ?_
  refine lv_iload_n hx hb dX1_momentsUntilCollision_1 rfl (lv_at hl 1 rfl) ?_
  refine lv_iload_n hx hb dX1_momentsUntilCollision_2 rfl (lv_at hl 2 rfl) ?_
  refine xVp (As := [.int k, .int q]) (rest := []) ⟨hx, hb, hml, hown, hts⟩ (c_X1_needPair l D cI cZ cL cJ hst ad n now told v ⟨hn8, hnow, hwl⟩ k q) (cwV 2 hts gX1_momentsUntilCollision_X1_needPair rfl rfl rfl (by decide +kernel) ⟨(Nat.le_of_ble_eq_true rfl), (Nat.le_of_ble_eq_true rfl)⟩) hK hE ⟨hP0, hPL⟩ (RC_of (q := (RX1, TX1, 5)) (ci := 1) hK rfl (vpa hP0 0 rfl)) rfl hl.1 rfl (Nat.le_of_ble_eq_true rfl) dX1_momentsUntilCollision_3 ⟨(Nat.le_of_ble_eq_true rfl), (Nat.le_of_ble_eq_true rfl)⟩ hex hlocks (fun E h => h) (Nat.le_of_ble_eq_true rfl) (Nat.le_of_ble_eq_true rfl) (fun hok => ?_)
  obtain ⟨i, j, hi, hj, hij, rfl, rfl⟩ := pair_j hn8 hok
  refine lv_iconst (v := nI 1) hx hb dX1_momentsUntilCollision_6 (by decide) ?_
  refine lv_istore_n (lv' := [(3, .int (nI 1)), (0, .ref (ad 0)), (1, .int (nI i)), (2, .int (nI j))]) hx hb dX1_momentsUntilCollision_7 rfl hl (by decide) rfl (fun ls hl => ?_)
  have loop_8 : ∀ (fu : Nat) (y : Nat), 1002 - y ≤ fu → 1 ≤ y → y ≤ 1001 → fnd (fun z => colB v i j (now + z)) y (1001 - y) = fnd (fun z => colB v i j (now + z)) 1 1000 → ∀ (ls : Array Slot), lv_has ls 4 [(3, .int (nI y)), (0, .ref (ad 0)), (1, .int (nI i)), (2, .int (nI j))] → W p l e (headSpec wsX1_momentsUntilCollision ({ frames := 8, cells := 3, slots := 18, locals := 125 } : Room)).room s m [.ref (ad 0), .int (nI i), .int (nI j)].toArray below meth c s.heap [] (0 + 3) (0 + 18) (vx_MQ below (QOk (cd2 (lpOk n (nI i) && lpOk n (nI j)) (decide (¬ (nI i) = (nI j))) = 0) ((oI (fnd (fun z => colB v (ixx (nI i)) (ixx (nI j)) (now + z)) 1 1000)))) (XC1 (fun E => exC [tIOB, tIAE] (cd2 (lpOk n (nI i) && lpOk n (nI j)) (decide (¬ (nI i) = (nI j)))) E)) [.ref (ad 0), .int (nI i), .int (nI j)].toArray s 3 18 (fun _ => False)) (F0 m 8 ls []) := by
    intro fu
    induction fu with
    | zero => intro y hn_8 hy1 hy2 hf; exact absurd hn_8 (by omega)
    | succ fu ih_8 =>
      intro y hn_8 hy1 hy2 hf ls hl
      refine lv_iload_n hx hb dX1_momentsUntilCollision_8 rfl (lv_at hl 0 rfl) ?_
      refine lv_sipush (v := nI 1000) hx hb dX1_momentsUntilCollision_9 (by decide) ?_
      refine n_icmp_gt (a := y) (b := 1000) (tgt := 38) hx hb (by omega) (by omega) dX1_momentsUntilCollision_12 (by decide) (fun c_12 => ?_) (fun c_12 => ?_)
      · refine lv_iconst (v := (-1)) hx hb dX1_momentsUntilCollision_38 (by decide) ?_
        refine n_ti (y := (oI (fnd (fun z => colB v (ixx (nI i)) (ixx (nI j)) (now + z)) 1 1000))) (by rw [ixx_nI (by omega), ixx_nI (by omega), ← hf, show 1001 - y = 0 by omega]; rfl) ?_
        refine vx_ret ?_
        refine W.widen (k := 3) (n := 18) (Nat.le_of_ble_eq_true rfl) (Nat.le_of_ble_eq_true rfl) ?_
        exact W.iret (v := (oI (fnd (fun z => colB v (ixx (nI i)) (ixx (nI j)) (now + z)) 1 1000))) hx hb hr (fun t ht hW => ⟨hok, rfl, ht⟩) (fun _ h => by cases h) dX1_momentsUntilCollision_39
      · refine lv_aload_n hx hb dX1_momentsUntilCollision_15 rfl (lv_at hl 1 rfl) ?_
        refine lv_iload_n hx hb dX1_momentsUntilCollision_16 rfl (lv_at hl 2 rfl) ?_
        refine lv_iload_n hx hb dX1_momentsUntilCollision_17 rfl (lv_at hl 3 rfl) ?_
        refine lv_aload_n hx hb dX1_momentsUntilCollision_18 rfl (lv_at hl 1 rfl) ?_
        refine va_get (D := D) (ci := 1) (v := .int (nI now)) (C := RX1) (T := TX1) (N := 5) hx hb hts hin1 hown hK hP0 0 rfl rfl 3 (by decide) (hts (.fieldLink RX1 73 "LanternPrimes" "present" "I") (List.mem_of_getElem? (i := 1) rfl)) (fun _ h9 => h9) rfl dX1_momentsUntilCollision_19 ?_
        refine lv_iload_n hx hb dX1_momentsUntilCollision_22 rfl (lv_at hl 0 rfl) ?_
        refine n_iadd (v := nI (now + y)) hx hb dX1_momentsUntilCollision_23 (nI_add _ _) ?_
        refine rV (r := bI (colB v i j (now + y))) (As := [.int (nI i), .int (nI j), .int (nI (now + y))]) (rest := []) ⟨hx, hb, hml, hown, hts⟩ (c_X1_collideAt l D cI cZ cL cJ ad n now told v ⟨hn8, hnow, hwl⟩ i j (now + y) hi hj (by omega)) (cwV 3 hts gX1_momentsUntilCollision_X1_collideAt rfl rfl rfl (by decide +kernel) ⟨(Nat.le_of_ble_eq_true rfl), (Nat.le_of_ble_eq_true rfl)⟩) hK hE ⟨hP0, hPL⟩ (RC_of (q := (RX1, TX1, 5)) (ci := 1) hK rfl (vpa hP0 0 rfl)) rfl hl.1 rfl (Nat.le_of_ble_eq_true rfl) dX1_momentsUntilCollision_24 ⟨(Nat.le_of_ble_eq_true rfl), (Nat.le_of_ble_eq_true rfl)⟩ ?_
        refine b_if_eq (b := colB v i j (now + y)) (tgt := 32) hx hb dX1_momentsUntilCollision_27 (by decide) (fun c_27 => ?_) (fun c_27 => ?_)
        · refine lv_iinc (v := nI (y + 1)) (lv' := [(3, .int (nI (y + 1))), (0, .ref (ad 0)), (1, .int (nI i)), (2, .int (nI j))]) hx hb dX1_momentsUntilCollision_32 hl (k := 0) rfl (nI_inc _) (by decide) rfl (fun ls hl => ?_)
          refine lv_goto (tgt := 8) hx hb dX1_momentsUntilCollision_35 (by decide) ?_
          exact ih_8 (y + 1) (by omega) (by omega) (by omega) (by rw [← hf, fnd_f (f := (fun z => colB v i j (now + z))) (lo := y) c_27 (by omega), show 1001 - y - 1 = 1001 - (y + 1) by omega]) ls (lv_sub hl [0, 1, 2, 3] rfl)
        · refine lv_iload_n hx hb dX1_momentsUntilCollision_30 rfl (lv_at hl 0 rfl) ?_
          refine n_ti (y := (oI (fnd (fun z => colB v (ixx (nI i)) (ixx (nI j)) (now + z)) 1 1000))) (by rw [ixx_nI (by omega), ixx_nI (by omega), ← hf, fnd_t (f := (fun z => colB v i j (now + z))) (lo := y) c_27 (by omega)]; rfl) ?_
          refine vx_ret ?_
          refine W.widen (k := 3) (n := 18) (Nat.le_of_ble_eq_true rfl) (Nat.le_of_ble_eq_true rfl) ?_
          exact W.iret (v := (oI (fnd (fun z => colB v (ixx (nI i)) (ixx (nI j)) (now + z)) 1 1000))) hx hb hr (fun t ht hW => ⟨hok, rfl, ht⟩) (fun _ h => by cases h) dX1_momentsUntilCollision_31
  exact loop_8 1002 1 (by omega) (by omega) (by omega) rfl ls (lv_sub hl [0, 1, 2, 3] rfl)
set_option maxHeartbeats 4000000 in
set_option maxRecDepth 100000 in
/-- collisionsWithin -/
theorem c_X1_collisionsWithin (l : Launch) (D : va_G) (cI cZ cL cJ : ClassId) (hst : l.stackTraces = false) (ad : Nat → Nat) (n now : Nat) (told : Int32) (v : Nat → LV) (hwf : WFX n now v) (k q x : Int32) : vx_Met l yX1_collisionsWithin wsX1_collisionsWithin ({ frames := 8, cells := 4, slots := 24, locals := 125 } : Room) (PC D (TY cI cZ cL cJ) noA [.ref (ad 0), .int k, .int q, .int x] (fun H => PX D cI cL ad n now told v H)) (QOk (cd2 (lpOk n k && lpOk n q) (decide (¬ k = q) && inB (nI 1) (nI 500) x) = 0) (nI (cnt (fun s => colB v (ixx k) (ixx q) (now + (s + 1))) (ixx x)))) (XC1 (fun E => exC [tIOB, tIAE] (cd2 (lpOk n k && lpOk n q) (decide (¬ k = q) && inB (nI 1) (nI 500) x)) E)) 4 24 (fun _ => False) := by
  refine vx_ofW (cc := cX1_collisionsWithin) (maxL := 6) (ret := (some .int)) (by decide) rfl ?_
  intro p e s m args below meth c s₁ B hml hex hv
  obtain ⟨rfl, hK, hE, hP0, hPL⟩ := hv
  obtain ⟨hn8, hnow, hwl⟩ := hwf
  have hx := B.exec
  have hb := B.bytes
  have hr := B.returns
  have hts := atoms_spec (ws := wsX1_collisionsWithin) B.pre
  have hown : s.vm.findClass RX1 = some m.cls := findClass_of_methodNamed B.named
  have hlocks := B.notSynchronized
  have hNF := hE.2.1.1
  have hin0 : ∀ w ∈ wsX00, w ∈ wsX1_collisionsWithin := by decide +kernel
  have hin1 : ∀ w ∈ wsX10, w ∈ wsX1_collisionsWithin := by decide +kernel
  have hl := lv_entry ([.ref (ad 0), .int k, .int q, .int x]) (n := 6) (Nat.le_of_ble_eq_true rfl)
  rw [lg_entry_eq]
  generalize (lg_sl ([.ref (ad 0), .int k, .int q, .int x]) ++ List.replicate (6 - (lg_sl ([.ref (ad 0), .int k, .int q, .int x])).length) Slot.unset).toArray = ls at hl ⊢
  have hl : lv_has ls 6 [(0, .ref (ad 0)), (1, .int k), (2, .int q), (3, .int x)] := hl
  refine lv_aload_n hx hb dX1_collisionsWithin_0 rfl (lv_at hl 0 rfl) ?_
  refine lv_iload_n hx hb dX1_collisionsWithin_1 rfl (lv_at hl 1 rfl) ?_
  refine lv_iload_n hx hb dX1_collisionsWithin_2 rfl (lv_at hl 2 rfl) ?_
  refine xVp (As := [.int k, .int q]) (rest := []) ⟨hx, hb, hml, hown, hts⟩ (c_X1_needPair l D cI cZ cL cJ hst ad n now told v ⟨hn8, hnow, hwl⟩ k q) (cwV 2 hts gX1_collisionsWithin_X1_needPair rfl rfl rfl (by decide +kernel) ⟨(Nat.le_of_ble_eq_true rfl), (Nat.le_of_ble_eq_true rfl)⟩) hK hE ⟨hP0, hPL⟩ (RC_of (q := (RX1, TX1, 5)) (ci := 1) hK rfl (vpa hP0 0 rfl)) rfl hl.1 rfl (Nat.le_of_ble_eq_true rfl) dX1_collisionsWithin_3 ⟨(Nat.le_of_ble_eq_true rfl), (Nat.le_of_ble_eq_true rfl)⟩ hex hlocks (fun E h => exP h) (Nat.le_of_ble_eq_true rfl) (Nat.le_of_ble_eq_true rfl) (fun hok => ?_)
  obtain ⟨i, j, hi, hj, hij, rfl, rfl⟩ := pair_j hn8 hok
  refine lv_iload_n hx hb dX1_collisionsWithin_6 rfl (lv_at hl 3 rfl) ?_
  refine lv_sipush (v := nI 500) hx hb dX1_collisionsWithin_7 (by decide) ?_
  refine xSp (As := [.int x, .int (nI 500)]) (rest := []) ⟨hx, hb, hml, hown, hts⟩ (c_X1_needMoments l D cI cZ cL cJ hst x (nI 500)) (va_cwS 2 hts gX1_collisionsWithin_X1_needMoments rfl rfl rfl (by decide +kernel) ⟨(Nat.le_of_ble_eq_true rfl), (Nat.le_of_ble_eq_true rfl)⟩) hK hE trivial rfl hl.1 rfl (Nat.le_of_ble_eq_true rfl) dX1_collisionsWithin_10 ⟨(Nat.le_of_ble_eq_true rfl), (Nat.le_of_ble_eq_true rfl)⟩ hex hlocks (fun E h => by rw [h.1]; exact ex2b (pair_ok hok).1 (and_f2 h.2)) (Nat.le_of_ble_eq_true rfl) (Nat.le_of_ble_eq_true rfl) (fun hok2 => ?_)
  obtain ⟨y, hy1, hy2, rfl⟩ := inB_j (by decide) (by decide) hok2
  refine lv_iconst (v := nI 0) hx hb dX1_collisionsWithin_13 (by decide) ?_
  refine lv_istore (lv' := [(4, .int (nI 0)), (0, .ref (ad 0)), (1, .int (nI i)), (2, .int (nI j)), (3, .int (nI y))]) hx hb dX1_collisionsWithin_14 hl (by decide) rfl (fun ls hl => ?_)
  refine lv_iconst (v := nI 1) hx hb dX1_collisionsWithin_16 (by decide) ?_
  refine lv_istore (lv' := [(5, .int (nI 1)), (4, .int (nI 0)), (0, .ref (ad 0)), (1, .int (nI i)), (2, .int (nI j)), (3, .int (nI y))]) hx hb dX1_collisionsWithin_17 hl (by decide) rfl (fun ls hl => ?_)
  have loop_19 : ∀ (fu : Nat) (r : Nat), y + 1 - r ≤ fu → r ≤ y → ∀ (ls : Array Slot), lv_has ls 6 [(5, .int (nI (r + 1))), (4, .int (nI (cnt (fun s => colB v i j (now + (s + 1))) r))), (0, .ref (ad 0)), (1, .int (nI i)), (2, .int (nI j)), (3, .int (nI y))] → W p l e (headSpec wsX1_collisionsWithin ({ frames := 8, cells := 4, slots := 24, locals := 125 } : Room)).room s m [.ref (ad 0), .int (nI i), .int (nI j), .int (nI y)].toArray below meth c s.heap [] ((0 + 3) + 1) ((0 + 18) + 6) (vx_MQ below (QOk (cd2 (lpOk n (nI i) && lpOk n (nI j)) (decide (¬ (nI i) = (nI j)) && inB (nI 1) (nI 500) (nI y)) = 0) (nI (cnt (fun s => colB v (ixx (nI i)) (ixx (nI j)) (now + (s + 1))) (ixx (nI y))))) (XC1 (fun E => exC [tIOB, tIAE] (cd2 (lpOk n (nI i) && lpOk n (nI j)) (decide (¬ (nI i) = (nI j)) && inB (nI 1) (nI 500) (nI y))) E)) [.ref (ad 0), .int (nI i), .int (nI j), .int (nI y)].toArray s 4 24 (fun _ => False)) (F0 m 19 ls []) := by
    intro fu
    induction fu with
    | zero => intro r hn_19 hr9; exact absurd hn_19 (by omega)
    | succ fu ih_19 =>
      intro r hn_19 hr9 ls hl
      refine lv_iload hx hb dX1_collisionsWithin_19 (lv_at hl 0 rfl) ?_
      refine lv_iload_n hx hb dX1_collisionsWithin_21 rfl (lv_at hl 5 rfl) ?_
      refine n_icmp_gt (a := r + 1) (b := y) (tgt := 50) hx hb (by omega) (by omega) dX1_collisionsWithin_22 (by decide) (fun c_22 => ?_) (fun c_22 => ?_)
      · refine lv_iload hx hb dX1_collisionsWithin_50 (lv_at hl 1 rfl) ?_
        refine n_ti (y := nI (cnt (fun s => colB v (ixx (nI i)) (ixx (nI j)) (now + (s + 1))) (ixx (nI y)))) (by rw [ixx_nI (by omega), ixx_nI (by omega), ixx_nI (by omega), show r = y by omega]) ?_
        refine vx_ret ?_
        refine W.widen (k := 4) (n := 24) (Nat.le_of_ble_eq_true rfl) (Nat.le_of_ble_eq_true rfl) ?_
        exact W.iret (v := nI (cnt (fun s => colB v (ixx (nI i)) (ixx (nI j)) (now + (s + 1))) (ixx (nI y)))) hx hb hr (fun t ht hW => ⟨(cd2_t (pair_ok hok).1 (and_t (pair_ok hok).2 hok2)), rfl, ht⟩) (fun _ h => by cases h) dX1_collisionsWithin_52
      · refine lv_aload_n hx hb dX1_collisionsWithin_25 rfl (lv_at hl 2 rfl) ?_
        refine lv_iload_n hx hb dX1_collisionsWithin_26 rfl (lv_at hl 3 rfl) ?_
        refine lv_iload_n hx hb dX1_collisionsWithin_27 rfl (lv_at hl 4 rfl) ?_
        refine lv_aload_n hx hb dX1_collisionsWithin_28 rfl (lv_at hl 2 rfl) ?_
        refine va_get (D := D) (ci := 1) (v := .int (nI now)) (C := RX1) (T := TX1) (N := 5) hx hb hts hin1 hown hK hP0 0 rfl rfl 3 (by decide) (hts (.fieldLink RX1 73 "LanternPrimes" "present" "I") (List.mem_of_getElem? (i := 1) rfl)) (fun _ h9 => h9) rfl dX1_collisionsWithin_29 ?_
        refine lv_iload hx hb dX1_collisionsWithin_32 (lv_at hl 0 rfl) ?_
        refine n_iadd (v := nI (now + (r + 1))) hx hb dX1_collisionsWithin_34 (nI_add _ _) ?_
        refine rV (r := bI (colB v i j (now + (r + 1)))) (As := [.int (nI i), .int (nI j), .int (nI (now + (r + 1)))]) (rest := []) ⟨hx, hb, hml, hown, hts⟩ (c_X1_collideAt l D cI cZ cL cJ ad n now told v ⟨hn8, hnow, hwl⟩ i j (now + (r + 1)) hi hj (by omega)) (cwV 3 hts gX1_collisionsWithin_X1_collideAt rfl rfl rfl (by decide +kernel) ⟨(Nat.le_of_ble_eq_true rfl), (Nat.le_of_ble_eq_true rfl)⟩) hK hE ⟨hP0, hPL⟩ (RC_of (q := (RX1, TX1, 5)) (ci := 1) hK rfl (vpa hP0 0 rfl)) rfl hl.1 rfl (Nat.le_of_ble_eq_true rfl) dX1_collisionsWithin_35 ⟨(Nat.le_of_ble_eq_true rfl), (Nat.le_of_ble_eq_true rfl)⟩ ?_
        refine b_if_eq (b := colB v i j (now + (r + 1))) (tgt := 44) hx hb dX1_collisionsWithin_38 (by decide) (fun c_38 => ?_) (fun c_38 => ?_)
        · have e_1 : cnt (fun s => colB v i j (now + (s + 1))) (r + 1) = cnt (fun s => colB v i j (now + (s + 1))) r := cnt_f (f := (fun s => colB v i j (now + (s + 1)))) c_38
          rw [← e_1] at hl
          refine lv_iinc (v := nI ((r + 1) + 1)) (lv' := [(5, .int (nI ((r + 1) + 1))), (4, .int (nI (cnt (fun s => colB v i j (now + (s + 1))) (r + 1)))), (0, .ref (ad 0)), (1, .int (nI i)), (2, .int (nI j)), (3, .int (nI y))]) hx hb dX1_collisionsWithin_44 hl (k := 0) rfl (nI_inc _) (by decide) rfl (fun ls hl => ?_)
          refine lv_goto (tgt := 19) hx hb dX1_collisionsWithin_47 (by decide) ?_
          exact ih_19 (r + 1) (by omega) (by omega) ls (lv_sub hl [0, 1, 2, 3, 4, 5] rfl)
        · have e_1 : cnt (fun s => colB v i j (now + (s + 1))) (r + 1) = cnt (fun s => colB v i j (now + (s + 1))) r + 1 := cnt_t (f := (fun s => colB v i j (now + (s + 1)))) c_38
          refine lv_iinc (v := nI (cnt (fun s => colB v i j (now + (s + 1))) (r + 1))) (lv' := [(4, .int (nI (cnt (fun s => colB v i j (now + (s + 1))) (r + 1)))), (5, .int (nI (r + 1))), (0, .ref (ad 0)), (1, .int (nI i)), (2, .int (nI j)), (3, .int (nI y))]) hx hb dX1_collisionsWithin_41 hl (k := 1) rfl (by rw [e_1]; exact nI_inc _) (by decide) rfl (fun ls hl => ?_)
          refine lv_iinc (v := nI ((r + 1) + 1)) (lv' := [(5, .int (nI ((r + 1) + 1))), (4, .int (nI (cnt (fun s => colB v i j (now + (s + 1))) (r + 1)))), (0, .ref (ad 0)), (1, .int (nI i)), (2, .int (nI j)), (3, .int (nI y))]) hx hb dX1_collisionsWithin_44 hl (k := 1) rfl (nI_inc _) (by decide) rfl (fun ls hl => ?_)
          refine lv_goto (tgt := 19) hx hb dX1_collisionsWithin_47 (by decide) ?_
          exact ih_19 (r + 1) (by omega) (by omega) ls (lv_sub hl [0, 1, 2, 3, 4, 5] rfl)
  exact loop_19 (y + 1) 0 (by omega) (Nat.zero_le _) ls (lv_sub hl [0, 1, 2, 3, 4, 5] rfl)
set_option maxHeartbeats 4000000 in
set_option maxRecDepth 100000 in
/-- darkWithin -/
theorem c_X1_darkWithin (l : Launch) (D : va_G) (cI cZ cL cJ : ClassId) (hst : l.stackTraces = false) (ad : Nat → Nat) (n now : Nat) (told : Int32) (v : Nat → LV) (hwf : WFX n now v) (x : Int32) : vx_Met l yX1_darkWithin wsX1_darkWithin ({ frames := 7, cells := 1, slots := 6, locals := 113 } : Room) (PC D (TY cI cZ cL cJ) noA [.ref (ad 0), .int x] (fun H => PX D cI cL ad n now told v H)) (QOk (cd1 (inB (nI 1) (nI 500) x) = 0) (nI (dkN v n now (-1) (ixx x)))) (XC1 (fun E => exC [tIAE] (cd1 (inB (nI 1) (nI 500) x)) E)) 1 6 (fun _ => False) := by
  refine vx_ofW (cc := cX1_darkWithin) (maxL := 2) (ret := (some .int)) (by decide) rfl ?_
  intro p e s m args below meth c s₁ B hml hex hv
  obtain ⟨rfl, hK, hE, hP0, hPL⟩ := hv
  obtain ⟨hn8, hnow, hwl⟩ := hwf
  have hx := B.exec
  have hb := B.bytes
  have hr := B.returns
  have hts := atoms_spec (ws := wsX1_darkWithin) B.pre
  have hown : s.vm.findClass RX1 = some m.cls := findClass_of_methodNamed B.named
  have hlocks := B.notSynchronized
  have hNF := hE.2.1.1
  have hin0 : ∀ w ∈ wsX00, w ∈ wsX1_darkWithin := by decide +kernel
  have hin1 : ∀ w ∈ wsX10, w ∈ wsX1_darkWithin := by decide +kernel
  have hl := lv_entry ([.ref (ad 0), .int x]) (n := 2) (Nat.le_of_ble_eq_true rfl)
  rw [lg_entry_eq]
  generalize (lg_sl ([.ref (ad 0), .int x]) ++ List.replicate (2 - (lg_sl ([.ref (ad 0), .int x])).length) Slot.unset).toArray = ls at hl ⊢
  have hl : lv_has ls 2 [(0, .ref (ad 0)), (1, .int x)] := hl
  refine lv_iload_n hx hb dX1_darkWithin_0 rfl (lv_at hl 1 rfl) ?_
  refine lv_sipush (v := nI 500) hx hb dX1_darkWithin_1 (by decide) ?_
  refine xSp (As := [.int x, .int (nI 500)]) (rest := []) ⟨hx, hb, hml, hown, hts⟩ (c_X1_needMoments l D cI cZ cL cJ hst x (nI 500)) (va_cwS 2 hts gX1_darkWithin_X1_needMoments rfl rfl rfl (by decide +kernel) ⟨(Nat.le_of_ble_eq_true rfl), (Nat.le_of_ble_eq_true rfl)⟩) hK hE trivial rfl hl.1 rfl (Nat.le_of_ble_eq_true rfl) dX1_darkWithin_4 ⟨(Nat.le_of_ble_eq_true rfl), (Nat.le_of_ble_eq_true rfl)⟩ hex hlocks (fun E h => by rw [h.1]; exact ex1 h.2) (Nat.le_of_ble_eq_true rfl) (Nat.le_of_ble_eq_true rfl) (fun hok => ?_)
  obtain ⟨y, hy1, hy2, rfl⟩ := inB_j (by decide) (by decide) hok
  refine lv_aload_n hx hb dX1_darkWithin_7 rfl (lv_at hl 0 rfl) ?_
  refine lv_iload_n hx hb dX1_darkWithin_8 rfl (lv_at hl 1 rfl) ?_
  refine lv_iconst (v := (-1)) hx hb dX1_darkWithin_9 (by decide) ?_
  refine rV (r := nI (dkN v n now (-1) y)) (As := [.int (nI y), .int (-1)]) (rest := []) ⟨hx, hb, hml, hown, hts⟩ (c_X1_darkMoments l D cI cZ cL cJ ad n now told v ⟨hn8, hnow, hwl⟩ y hy2 (-1)) (cwV 2 hts gX1_darkWithin_X1_darkMoments rfl rfl rfl (by decide +kernel) ⟨(Nat.le_of_ble_eq_true rfl), (Nat.le_of_ble_eq_true rfl)⟩) hK hE ⟨hP0, hPL⟩ (RC_of (q := (RX1, TX1, 5)) (ci := 1) hK rfl (vpa hP0 0 rfl)) rfl hl.1 rfl (Nat.le_of_ble_eq_true rfl) dX1_darkWithin_10 ⟨(Nat.le_of_ble_eq_true rfl), (Nat.le_of_ble_eq_true rfl)⟩ ?_
  refine n_ti (y := nI (dkN v n now (-1) (ixx (nI y)))) (by rw [ixx_nI (by omega)]) ?_
  refine vx_ret ?_
  refine W.widen (k := 1) (n := 6) (Nat.le_of_ble_eq_true rfl) (Nat.le_of_ble_eq_true rfl) ?_
  exact W.iret (v := nI (dkN v n now (-1) (ixx (nI y)))) hx hb hr (fun t ht hW => ⟨(cd1_t hok), rfl, ht⟩) (fun _ h => by cases h) dX1_darkWithin_13
