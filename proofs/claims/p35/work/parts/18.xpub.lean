set_option maxHeartbeats 4000000 in
set_option maxRecDepth 100000 in
/-- bestCover -/
theorem c_X1_bestCover (l : Launch) (D : va_G) (cI cZ cL cJ : ClassId) (hst : l.stackTraces = false) (ad : Nat → Nat) (n now : Nat) (told : Int32) (v : Nat → LV) (hwf : WFX n now v) (x : Int32) : vx_Met l yX1_bestCover wsX1_bestCover ({ frames := 7, cells := 1, slots := 6, locals := 113 } : Room) (PC D (TY cI cZ cL cJ) noA [.ref (ad 0), .int x] (fun H => PX D cI cL ad n now told v H)) (QOk (cd1 (inB (nI 1) (nI 200) x) = 0) ((oI1 (bcvN v n now (ixx x) n)))) (XC1 (fun E => exC [tIAE] (cd1 (inB (nI 1) (nI 200) x)) E)) 1 6 (fun _ => False) := by
  refine vx_ofW (cc := cX1_bestCover) (maxL := 6) (ret := (some .int)) (by decide) rfl ?_
  intro p e s m args below meth c s₁ B hml hex hv
  obtain ⟨rfl, hK, hE, hP0, hPL⟩ := hv
  obtain ⟨hn8, hnow, hwl⟩ := hwf
  have hx := B.exec
  have hb := B.bytes
  have hr := B.returns
  have hts := atoms_spec (ws := wsX1_bestCover) B.pre
  have hown : s.vm.findClass RX1 = some m.cls := findClass_of_methodNamed B.named
  have hlocks := B.notSynchronized
  have hNF := hE.2.1.1
  have hin0 : ∀ w ∈ wsX00, w ∈ wsX1_bestCover := by decide +kernel
  have hin1 : ∀ w ∈ wsX10, w ∈ wsX1_bestCover := by decide +kernel
  have hl := lv_entry ([.ref (ad 0), .int x]) (n := 6) (Nat.le_of_ble_eq_true rfl)
  rw [lg_entry_eq]
  generalize (lg_sl ([.ref (ad 0), .int x]) ++ List.replicate (6 - (lg_sl ([.ref (ad 0), .int x])).length) Slot.unset).toArray = ls at hl ⊢
  have hl : lv_has ls 6 [(0, .ref (ad 0)), (1, .int x)] := hl
  refine lv_iload_n hx hb dX1_bestCover_0 rfl (lv_at hl 1 rfl) ?_
  refine lv_sipush (v := nI 200) hx hb dX1_bestCover_1 (by decide) ?_
  refine xSp (As := [.int x, .int (nI 200)]) (rest := []) ⟨hx, hb, hml, hown, hts⟩ (c_X1_needMoments l D cI cZ cL cJ hst x (nI 200)) (va_cwS 2 hts gX1_bestCover_X1_needMoments rfl rfl rfl (by decide +kernel) ⟨(Nat.le_of_ble_eq_true rfl), (Nat.le_of_ble_eq_true rfl)⟩) hK hE trivial rfl hl.1 rfl (Nat.le_of_ble_eq_true rfl) dX1_bestCover_4 ⟨(Nat.le_of_ble_eq_true rfl), (Nat.le_of_ble_eq_true rfl)⟩ hex hlocks (fun E h => by rw [h.1]; exact ex1 h.2) (Nat.le_of_ble_eq_true rfl) (Nat.le_of_ble_eq_true rfl) (fun hok => ?_)
  obtain ⟨y, hy1, hy2, rfl⟩ := inB_j (by decide) (by decide) hok
  refine lv_iconst (v := (-1)) hx hb dX1_bestCover_7 (by decide) ?_
  refine lv_istore_n (lv' := [(2, .int (-1)), (0, .ref (ad 0)), (1, .int (nI y))]) hx hb dX1_bestCover_8 rfl hl (by decide) rfl (fun ls hl => ?_)
  refine lv_iconst (v := (-1)) hx hb dX1_bestCover_9 (by decide) ?_
  refine lv_istore_n (lv' := [(3, .int (-1)), (2, .int (-1)), (0, .ref (ad 0)), (1, .int (nI y))]) hx hb dX1_bestCover_10 rfl hl (by decide) rfl (fun ls hl => ?_)
  refine lv_iconst (v := nI 0) hx hb dX1_bestCover_11 (by decide) ?_
  refine lv_istore (lv' := [(4, .int (nI 0)), (3, .int (-1)), (2, .int (-1)), (0, .ref (ad 0)), (1, .int (nI y))]) hx hb dX1_bestCover_12 hl (by decide) rfl (fun ls hl => ?_)
  have loop_14 : ∀ (fu : Nat) (j : Nat), n + 1 - j ≤ fu → j ≤ n → ∀ (ls : Array Slot), lv_has ls 6 [(4, .int (nI j)), (3, .int (oI2 (bcvN v n now y j))), (2, .int (oI1 (bcvN v n now y j))), (0, .ref (ad 0)), (1, .int (nI y))] → W p l e (headSpec wsX1_bestCover ({ frames := 7, cells := 1, slots := 6, locals := 113 } : Room)).room s m [.ref (ad 0), .int (nI y)].toArray below meth c s.heap [] (0 + 1) (0 + 6) (vx_MQ below (QOk (cd1 (inB (nI 1) (nI 200) (nI y)) = 0) ((oI1 (bcvN v n now (ixx (nI y)) n)))) (XC1 (fun E => exC [tIAE] (cd1 (inB (nI 1) (nI 200) (nI y))) E)) [.ref (ad 0), .int (nI y)].toArray s 1 6 (fun _ => False)) (F0 m 14 ls []) := by
    intro fu
    induction fu with
    | zero => intro j hn_14 hj; exact absurd hn_14 (by omega)
    | succ fu ih_14 =>
      intro j hn_14 hj ls hl
      refine lv_iload hx hb dX1_bestCover_14 (lv_at hl 0 rfl) ?_
      refine lv_aload_n hx hb dX1_bestCover_16 rfl (lv_at hl 3 rfl) ?_
      refine va_get (D := D) (ci := 1) (v := .int (nI n)) (C := RX1) (T := TX1) (N := 5) hx hb hts hin1 hown hK hP0 0 rfl rfl 2 (by decide) (hts (.fieldLink RX1 20 "LanternPrimes" "lampCount" "I") (List.mem_of_getElem? (i := 1) rfl)) (fun _ h9 => h9) rfl dX1_bestCover_17 ?_
      refine n_icmp_ge (a := j) (b := n) (tgt := 63) hx hb (by omega) (by omega) dX1_bestCover_20 (by decide) (fun c_20 => ?_) (fun c_20 => ?_)
      · refine lv_iload_n hx hb dX1_bestCover_63 rfl (lv_at hl 2 rfl) ?_
        refine n_ti (y := (oI1 (bcvN v n now (ixx (nI y)) n))) (by rw [ixx_nI (by omega), show j = n by omega]) ?_
        refine vx_ret ?_
        refine W.widen (k := 1) (n := 6) (Nat.le_of_ble_eq_true rfl) (Nat.le_of_ble_eq_true rfl) ?_
        exact W.iret (v := (oI1 (bcvN v n now (ixx (nI y)) n))) hx hb hr (fun t ht hW => ⟨(cd1_t hok), rfl, ht⟩) (fun _ h => by cases h) dX1_bestCover_64
      · refine lv_aload_n hx hb dX1_bestCover_23 rfl (lv_at hl 3 rfl) ?_
        refine va_get (D := D) (ci := 1) (v := .ref (ad 1)) (C := RX1) (T := TX1) (N := 5) hx hb hts hin1 hown hK hP0 0 rfl rfl 0 (by decide) (hts (.fieldLink RX1 11 "LanternPrimes" "row" "[LLanternPrimes$Lamp;") (List.mem_of_getElem? (i := 2) rfl)) (fun _ h9 => h9) rfl dX1_bestCover_24 ?_
        refine lv_iload hx hb dX1_bestCover_27 (lv_at hl 0 rfl) ?_
        refine n_aald (v := ad (2 + 3 * j)) (j := j) hx hb hK hP0 1 2 rfl rfl (by omega) (by decide) rfl dX1_bestCover_29 ?_
        have hPj := hPL j (by omega)
        refine va_getN (D := D) (ci := 0) (v := .int (bI (lcv (v j)))) (C := RX0) (T := TX0) (N := 5) hx hb hts hin0 hown hK hPj 0 rfl rfl 4 (by decide) (va_Nw.use rfl (hNF _ (List.mem_of_getElem? (i := 4) rfl))) (fun _ h9 => h9) rfl dX1_bestCover_30 ?_
        refine b_if_ne (b := lcv (v j)) (tgt := 57) hx hb dX1_bestCover_33 (by decide) (fun c_33 => ?_) (fun c_33 => ?_)
        · have e_1 : bcvN v n now y (j + 1) = bcvN v n now y j := by simp only [bcvN]; rw [if_pos c_33]
          refine lv_iinc (v := nI (j + 1)) (lv' := [(4, .int (nI (j + 1))), (3, .int (oI2 (bcvN v n now y j))), (2, .int (oI1 (bcvN v n now y j))), (0, .ref (ad 0)), (1, .int (nI y))]) hx hb dX1_bestCover_57 hl (k := 0) rfl (nI_inc _) (by decide) rfl (fun ls hl => ?_)
          refine lv_goto (tgt := 14) hx hb dX1_bestCover_60 (by decide) ?_
          exact ih_14 (j + 1) (by omega) (by omega) ls (by rw [e_1]; exact (lv_sub hl [0, 1, 2, 3, 4] rfl))
        · refine lv_aload_n hx hb dX1_bestCover_36 rfl (lv_at hl 3 rfl) ?_
          refine lv_iload_n hx hb dX1_bestCover_37 rfl (lv_at hl 4 rfl) ?_
          refine lv_iload hx hb dX1_bestCover_38 (lv_at hl 0 rfl) ?_
          refine rV (r := nI (dkN v n now (nI j) y)) (As := [.int (nI y), .int (nI j)]) (rest := []) ⟨hx, hb, hml, hown, hts⟩ (c_X1_darkMoments l D cI cZ cL cJ ad n now told v ⟨hn8, hnow, hwl⟩ y (by omega) (nI j)) (cwV 2 hts gX1_bestCover_X1_darkMoments rfl rfl rfl (by decide +kernel) ⟨(Nat.le_of_ble_eq_true rfl), (Nat.le_of_ble_eq_true rfl)⟩) hK hE ⟨hP0, hPL⟩ (RC_of (q := (RX1, TX1, 5)) (ci := 1) hK rfl (vpa hP0 0 rfl)) rfl hl.1 rfl (Nat.le_of_ble_eq_true rfl) dX1_bestCover_40 ⟨(Nat.le_of_ble_eq_true rfl), (Nat.le_of_ble_eq_true rfl)⟩ ?_
          refine lv_istore (lv' := [(5, .int (nI (dkN v n now (nI j) y))), (4, .int (nI j)), (3, .int (oI2 (bcvN v n now y j))), (2, .int (oI1 (bcvN v n now y j))), (0, .ref (ad 0)), (1, .int (nI y))]) hx hb dX1_bestCover_43 hl (by decide) rfl (fun ls hl => ?_)
          refine lv_iload hx hb dX1_bestCover_45 (lv_at hl 0 rfl) ?_
          refine lv_iload_n hx hb dX1_bestCover_47 rfl (lv_at hl 2 rfl) ?_
          refine lv_icmp_le (tgt := 57) hx hb dX1_bestCover_48 (by decide) (fun c_48 => ?_) (fun c_48 => ?_)
          · have e_1 : bcvN v n now y (j + 1) = bcvN v n now y j := bcv_le (by omega) c_33 c_48
            refine lv_iinc (v := nI (j + 1)) (lv' := [(4, .int (nI (j + 1))), (5, .int (nI (dkN v n now (nI j) y))), (3, .int (oI2 (bcvN v n now y j))), (2, .int (oI1 (bcvN v n now y j))), (0, .ref (ad 0)), (1, .int (nI y))]) hx hb dX1_bestCover_57 hl (k := 1) rfl (nI_inc _) (by decide) rfl (fun ls hl => ?_)
            refine lv_goto (tgt := 14) hx hb dX1_bestCover_60 (by decide) ?_
            exact ih_14 (j + 1) (by omega) (by omega) ls (by rw [e_1]; exact (lv_sub hl [0, 2, 3, 4, 5] rfl))
          · have e_1 : bcvN v n now y (j + 1) = some (j, dkN v n now (nI j) y) := bcv_gt (by omega) c_33 c_48
            refine lv_iload hx hb dX1_bestCover_51 (lv_at hl 0 rfl) ?_
            refine lv_istore_n (lv' := [(3, .int (nI (dkN v n now (nI j) y))), (5, .int (nI (dkN v n now (nI j) y))), (4, .int (nI j)), (2, .int (oI1 (bcvN v n now y j))), (0, .ref (ad 0)), (1, .int (nI y))]) hx hb dX1_bestCover_53 rfl hl (by decide) rfl (fun ls hl => ?_)
            refine lv_iload hx hb dX1_bestCover_54 (lv_at hl 2 rfl) ?_
            refine lv_istore_n (lv' := [(2, .int (nI j)), (3, .int (nI (dkN v n now (nI j) y))), (5, .int (nI (dkN v n now (nI j) y))), (4, .int (nI j)), (0, .ref (ad 0)), (1, .int (nI y))]) hx hb dX1_bestCover_56 rfl hl (by decide) rfl (fun ls hl => ?_)
            refine lv_iinc (v := nI (j + 1)) (lv' := [(4, .int (nI (j + 1))), (2, .int (nI j)), (3, .int (nI (dkN v n now (nI j) y))), (5, .int (nI (dkN v n now (nI j) y))), (0, .ref (ad 0)), (1, .int (nI y))]) hx hb dX1_bestCover_57 hl (k := 3) rfl (nI_inc _) (by decide) rfl (fun ls hl => ?_)
            refine lv_goto (tgt := 14) hx hb dX1_bestCover_60 (by decide) ?_
            exact ih_14 (j + 1) (by omega) (by omega) ls (by rw [e_1]; exact (lv_sub hl [0, 2, 1, 4, 5] rfl))
  exact loop_14 (n + 1) 0 (by omega) (Nat.zero_le _) ls (lv_sub hl [0, 1, 2, 3, 4] rfl)
set_option maxHeartbeats 4000000 in
set_option maxRecDepth 100000 in
/-- meanBeats -/
theorem c_X1_meanBeats (l : Launch) (D : va_G) (cI cZ cL cJ : ClassId) (ad : Nat → Nat) (n now : Nat) (told : Int32) (v : Nat → LV) (hwf : WFX n now v) : Met l yX1_meanBeats wsX1_meanBeats ({ frames := 0, cells := 0, slots := 0, locals := 0 } : Room) (PC D (TY cI cZ cL cJ) noA [.ref (ad 0)] (fun H => PX D cI cL ad n now told v H)) (QDb (meanF (btsN v n) n)) 0 0 (fun _ => False) := by
  refine Met.ofW (cc := cX1_meanBeats) (maxL := 3) (ret := (some .double)) (by decide) rfl ?_
  intro p e s m args below meth c s₁ B hml hv
  obtain ⟨rfl, hK, hE, hP0, hPL⟩ := hv
  obtain ⟨hn8, hnow, hwl⟩ := hwf
  have hx := B.exec
  have hb := B.bytes
  have hr := B.returns
  have hts := atoms_spec (ws := wsX1_meanBeats) B.pre
  have hown : s.vm.findClass RX1 = some m.cls := findClass_of_methodNamed B.named
  have hlocks := B.notSynchronized
  have hNF := hE.2.1.1
  have hin0 : ∀ w ∈ wsX00, w ∈ wsX1_meanBeats := by decide +kernel
  have hin1 : ∀ w ∈ wsX10, w ∈ wsX1_meanBeats := by decide +kernel
  have hl := lv_entry ([.ref (ad 0)]) (n := 3) (Nat.le_of_ble_eq_true rfl)
  rw [lg_entry_eq]
  generalize (lg_sl ([.ref (ad 0)]) ++ List.replicate (3 - (lg_sl ([.ref (ad 0)])).length) Slot.unset).toArray = ls at hl ⊢
  have hl : lv_has ls 3 [(0, .ref (ad 0))] := hl
  refine lv_aload_n hx hb dX1_meanBeats_0 rfl (lv_at hl 0 rfl) ?_
  refine va_get (D := D) (ci := 1) (v := .int (nI n)) (C := RX1) (T := TX1) (N := 5) hx hb hts hin1 hown hK hP0 0 rfl rfl 2 (by decide) (hts (.fieldLink RX1 20 "LanternPrimes" "lampCount" "I") (List.mem_of_getElem? (i := 1) rfl)) (fun _ h9 => h9) rfl dX1_meanBeats_1 ?_
  refine n_if_ne (a := n) (tgt := 9) hx hb (by omega) dX1_meanBeats_4 (by decide) (fun c_4 => ?_) (fun c_4 => ?_)
  · refine lv_iconst (v := nI 0) hx hb dX1_meanBeats_9 (by decide) ?_
    refine lv_istore_n (lv' := [(1, .int (nI 0)), (0, .ref (ad 0))]) hx hb dX1_meanBeats_10 rfl hl (by decide) rfl (fun ls hl => ?_)
    refine lv_iconst (v := nI 0) hx hb dX1_meanBeats_11 (by decide) ?_
    refine lv_istore_n (lv' := [(2, .int (nI 0)), (1, .int (nI 0)), (0, .ref (ad 0))]) hx hb dX1_meanBeats_12 rfl hl (by decide) rfl (fun ls hl => ?_)
    have loop_13 : ∀ (fu : Nat) (j : Nat), n + 1 - j ≤ fu → j ≤ n → ∀ (ls : Array Slot), lv_has ls 3 [(2, .int (nI j)), (1, .int (nI (btsN v j))), (0, .ref (ad 0))] → W p l e (headSpec wsX1_meanBeats ({ frames := 0, cells := 0, slots := 0, locals := 0 } : Room)).room s m [.ref (ad 0)].toArray below meth c s.heap [] 0 0 (MQ below (QDb (meanF (btsN v n) n)) [.ref (ad 0)].toArray s 0 0 (fun _ => False)) (F0 m 13 ls []) := by
      intro fu
      induction fu with
      | zero => intro j hn_13 hj; exact absurd hn_13 (by omega)
      | succ fu ih_13 =>
        intro j hn_13 hj ls hl
        refine lv_iload_n hx hb dX1_meanBeats_13 rfl (lv_at hl 0 rfl) ?_
        refine lv_aload_n hx hb dX1_meanBeats_14 rfl (lv_at hl 2 rfl) ?_
        refine va_get (D := D) (ci := 1) (v := .int (nI n)) (C := RX1) (T := TX1) (N := 5) hx hb hts hin1 hown hK hP0 0 rfl rfl 2 (by decide) (hts (.fieldLink RX1 20 "LanternPrimes" "lampCount" "I") (List.mem_of_getElem? (i := 1) rfl)) (fun _ h9 => h9) rfl dX1_meanBeats_15 ?_
        refine n_icmp_ge (a := j) (b := n) (tgt := 39) hx hb (by omega) (by omega) dX1_meanBeats_18 (by decide) (fun c_18 => ?_) (fun c_18 => ?_)
        · refine lv_iload_n hx hb dX1_meanBeats_39 rfl (lv_at hl 1 rfl) ?_
          refine lv_i2d hx hb dX1_meanBeats_40 ?_
          refine lv_aload_n hx hb dX1_meanBeats_41 rfl (lv_at hl 2 rfl) ?_
          refine va_get (D := D) (ci := 1) (v := .int (nI n)) (C := RX1) (T := TX1) (N := 5) hx hb hts hin1 hown hK hP0 0 rfl rfl 2 (by decide) (hts (.fieldLink RX1 20 "LanternPrimes" "lampCount" "I") (List.mem_of_getElem? (i := 1) rfl)) (fun _ h9 => h9) rfl dX1_meanBeats_42 ?_
          refine lv_i2d hx hb dX1_meanBeats_45 ?_
          refine lv_ddiv hx hb dX1_meanBeats_46 (meanOK (by have := btsN_le hwl j (by omega); omega) (by omega) (by omega)) ?_
          have e_9 : FP.ddiv (FP.i2d (nI (btsN v j))) (FP.i2d (nI n)) = meanF (btsN v n) n := (by unfold meanF; rw [if_neg c_4, show j = n by omega])
          rw [e_9]
          exact W.dret (v := meanF (btsN v n) n) hx hb hr (fun t ht hW => ⟨rfl, ht⟩) (fun _ h => by cases h) dX1_meanBeats_47
        · refine lv_iload_n hx hb dX1_meanBeats_21 rfl (lv_at hl 1 rfl) ?_
          refine lv_aload_n hx hb dX1_meanBeats_22 rfl (lv_at hl 2 rfl) ?_
          refine va_get (D := D) (ci := 1) (v := .ref (ad 1)) (C := RX1) (T := TX1) (N := 5) hx hb hts hin1 hown hK hP0 0 rfl rfl 0 (by decide) (hts (.fieldLink RX1 11 "LanternPrimes" "row" "[LLanternPrimes$Lamp;") (List.mem_of_getElem? (i := 2) rfl)) (fun _ h9 => h9) rfl dX1_meanBeats_23 ?_
          refine lv_iload_n hx hb dX1_meanBeats_26 rfl (lv_at hl 0 rfl) ?_
          refine n_aald (v := ad (2 + 3 * j)) (j := j) hx hb hK hP0 1 2 rfl rfl (by omega) (by decide) rfl dX1_meanBeats_27 ?_
          have hPj := hPL j (by omega)
          refine va_getN (D := D) (ci := 0) (v := .int (nI (lbc (v j)))) (C := RX0) (T := TX0) (N := 5) hx hb hts hin0 hown hK hPj 0 rfl rfl 2 (by decide) (va_Nw.use rfl (hNF _ (List.mem_of_getElem? (i := 1) rfl))) (fun _ h9 => h9) rfl dX1_meanBeats_28 ?_
          refine n_iadd (v := nI (btsN v (j + 1))) hx hb dX1_meanBeats_31 (nI_add _ _) ?_
          refine lv_istore_n (lv' := [(1, .int (nI (btsN v (j + 1)))), (2, .int (nI j)), (0, .ref (ad 0))]) hx hb dX1_meanBeats_32 rfl hl (by decide) rfl (fun ls hl => ?_)
          refine lv_iinc (v := nI (j + 1)) (lv' := [(2, .int (nI (j + 1))), (1, .int (nI (btsN v (j + 1)))), (0, .ref (ad 0))]) hx hb dX1_meanBeats_33 hl (k := 1) rfl (nI_inc _) (by decide) rfl (fun ls hl => ?_)
          refine lv_goto (tgt := 13) hx hb dX1_meanBeats_36 (by decide) ?_
          exact ih_13 (j + 1) (by omega) (by omega) ls (lv_sub hl [0, 1, 2] rfl)
    exact loop_13 (n + 1) 0 (by omega) (Nat.zero_le _) ls (lv_sub hl [0, 1, 2] rfl)
  · refine lv_dconst0 hx hb dX1_meanBeats_7 ?_
    have e_9 : FP.dconst0 = meanF (btsN v n) n := (by unfold meanF; rw [if_pos c_4])
    rw [e_9]
    exact W.dret (v := meanF (btsN v n) n) hx hb hr (fun t ht hW => ⟨rfl, ht⟩) (fun _ h => by cases h) dX1_meanBeats_8
