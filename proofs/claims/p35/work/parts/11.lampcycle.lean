set_option maxHeartbeats 4000000 in
set_option maxRecDepth 100000 in
/-- turningRemainders -/
theorem c_X0_turningRemainders (l : Launch) (D : va_G) (cI cZ cL cJ : ClassId) (a an ao : Nat) (L : LV) (q : Nat) (hq : q < 2 ^ 25) (hwf : WFL 8 L) : Met l yX0_turningRemainders wsX0_turningRemainders ({ frames := 0, cells := 0, slots := 0, locals := 0 } : Room) (PC D (TY cI cZ cL cJ) noA [.ref a, .int (nI q)] (fun H => va_P D vwCl (lampW cI a an ao L) H)) (QcRead (nI (trb L q (lbc L)))) 0 0 (fun _ => False) := by
  refine Met.ofW (cc := cX0_turningRemainders) (maxL := 4) (ret := (some .int)) (by decide) rfl ?_
  intro p e s m args below meth c s₁ B hml hv
  obtain ⟨rfl, hK, hE, hP⟩ := hv
  have hx := B.exec
  have hb := B.bytes
  have hr := B.returns
  have hts := atoms_spec (ws := wsX0_turningRemainders) B.pre
  have hown : s.vm.findClass RX0 = some m.cls := findClass_of_methodNamed B.named
  have hlocks := B.notSynchronized
  have hNF := hE.2.1.1
  have hin0 : ∀ w ∈ wsX00, w ∈ wsX0_turningRemainders := by decide +kernel
  have hl := lv_entry ([.ref a, .int (nI q)]) (n := 4) (Nat.le_of_ble_eq_true rfl)
  rw [lg_entry_eq]
  generalize (lg_sl ([.ref a, .int (nI q)]) ++ List.replicate (4 - (lg_sl ([.ref a, .int (nI q)])).length) Slot.unset).toArray = ls at hl ⊢
  have hl : lv_has ls 4 [(0, .ref a), (1, .int (nI q))] := hl
  refine lv_iconst (v := nI 0) hx hb dX0_turningRemainders_0 (by decide) ?_
  refine lv_istore_n (lv' := [(2, .int (nI 0)), (0, .ref a), (1, .int (nI q))]) hx hb dX0_turningRemainders_1 rfl hl (by decide) rfl (fun ls hl => ?_)
  refine lv_iconst (v := nI 0) hx hb dX0_turningRemainders_2 (by decide) ?_
  refine lv_istore_n (lv' := [(3, .int (nI 0)), (2, .int (nI 0)), (0, .ref a), (1, .int (nI q))]) hx hb dX0_turningRemainders_3 rfl hl (by decide) rfl (fun ls hl => ?_)
  have loop_4 : ∀ (fu : Nat) (i : Nat), lbc L + 1 - i ≤ fu → i ≤ lbc L → ∀ (ls : Array Slot), lv_has ls 4 [(3, .int (nI i)), (2, .int (nI (trb L q i))), (0, .ref a), (1, .int (nI q))] → W p l e (headSpec wsX0_turningRemainders ({ frames := 0, cells := 0, slots := 0, locals := 0 } : Room)).room s m [.ref a, .int (nI q)].toArray below meth c s.heap [] 0 0 (MQ below (QcRead (nI (trb L q (lbc L)))) ([.ref a, .int (nI q)].toArray) s 0 0 (fun _ => False)) (F0 m 4 ls []) := by
    intro fu
    induction fu with
    | zero => intro i hn_4 hi; exact absurd hn_4 (by omega)
    | succ fu ih_4 =>
      intro i hn_4 hi ls hl
      have hwf1 := hwf.1
      refine lv_iload_n hx hb dX0_turningRemainders_4 rfl (lv_at hl 0 rfl) ?_
      refine lv_aload_n hx hb dX0_turningRemainders_5 rfl (lv_at hl 2 rfl) ?_
      refine va_get (D := D) (ci := 0) (v := .int (nI (lbc L))) (C := RX0) (T := TX0) (N := 5) hx hb hts hin0 hown hK hP 0 rfl rfl 2 (by decide) (hts (.fieldLink RX0 18 "LanternPrimes$Lamp" "beatCount" "I") (List.mem_of_getElem? (i := 1) rfl)) (fun _ h9 => h9) rfl dX0_turningRemainders_6 ?_
      refine n_icmp_ge (a := i) (b := lbc L) (tgt := 39) hx hb (by omega) (by omega) dX0_turningRemainders_9 (by decide) (fun c_9 => ?_) (fun c_9 => ?_)
      · refine lv_iload_n hx hb dX0_turningRemainders_39 rfl (lv_at hl 1 rfl) ?_
        refine n_ti (y := nI (trb L q (lbc L))) (by rw [show i = lbc L by omega]) ?_
        exact W.iret (v := nI (trb L q (lbc L))) hx hb hr (fun t ht hW => ⟨rfl, ht⟩) (fun _ h => by cases h) dX0_turningRemainders_40
      · refine lv_aload_n hx hb dX0_turningRemainders_12 rfl (lv_at hl 2 rfl) ?_
        refine va_get (D := D) (ci := 0) (v := .ref an) (C := RX0) (T := TX0) (N := 5) hx hb hts hin0 hown hK hP 0 rfl rfl 0 (by decide) (hts (.fieldLink RX0 9 "LanternPrimes$Lamp" "numbers" "[I") (List.mem_of_getElem? (i := 2) rfl)) (fun _ h9 => h9) rfl dX0_turningRemainders_13 ?_
        refine lv_iload_n hx hb dX0_turningRemainders_16 rfl (lv_at hl 0 rfl) ?_
        refine n_iald (v := nI (lnu L i)) (j := i) hx hb hK hP 1 0 rfl rfl (by omega) (by decide) rfl dX0_turningRemainders_17 ?_
        have hw := isP_le (hwf.2 i c_9).1
        have hw2 := (hwf.2 i c_9).2
        refine lv_iload_n hx hb dX0_turningRemainders_18 rfl (lv_at hl 3 rfl) ?_
        refine n_icmp_ne (a := lnu L i) (b := q) (tgt := 33) hx hb (by omega) (by omega) dX0_turningRemainders_19 (by decide) (fun c_19 => ?_) (fun c_19 => ?_)
        · have e_1 : trb L q (i + 1) = trb L q i := by simp only [trb]; rw [if_neg c_19]
          rw [← e_1] at hl
          refine lv_iinc (v := nI (i + 1)) (lv' := [(3, .int (nI (i + 1))), (2, .int (nI (trb L q (i + 1)))), (0, .ref a), (1, .int (nI q))]) hx hb dX0_turningRemainders_33 hl (k := 0) rfl (nI_inc _) (by decide) rfl (fun ls hl => ?_)
          refine lv_goto (tgt := 4) hx hb dX0_turningRemainders_36 (by decide) ?_
          exact ih_4 (i + 1) (by omega) (by omega) ls (lv_sub hl [0, 1, 2, 3] rfl)
        · have e_1 : trb L q (i + 1) = trb L q i ^^^ 2 ^ lof L i := by simp only [trb]; rw [if_pos c_19]
          refine lv_iload_n hx hb dX0_turningRemainders_22 rfl (lv_at hl 1 rfl) ?_
          refine lv_iconst (v := nI 1) hx hb dX0_turningRemainders_23 (by decide) ?_
          refine lv_aload_n hx hb dX0_turningRemainders_24 rfl (lv_at hl 2 rfl) ?_
          refine va_get (D := D) (ci := 0) (v := .ref ao) (C := RX0) (T := TX0) (N := 5) hx hb hts hin0 hown hK hP 0 rfl rfl 1 (by decide) (hts (.fieldLink RX0 15 "LanternPrimes$Lamp" "offsets" "[I") (List.mem_of_getElem? (i := 3) rfl)) (fun _ h9 => h9) rfl dX0_turningRemainders_25 ?_
          refine lv_iload_n hx hb dX0_turningRemainders_28 rfl (lv_at hl 0 rfl) ?_
          refine n_iald (v := nI (lof L i)) (j := i) hx hb hK hP 2 0 rfl rfl (by omega) (by decide) rfl dX0_turningRemainders_29 ?_
          refine lv_ishl hx hb dX0_turningRemainders_30 ?_
          refine n_ti (y := nI (2 ^ lof L i)) (shl1 (by omega)) ?_
          refine n_ixor (v := nI (trb L q (i + 1))) hx hb dX0_turningRemainders_31 (by rw [e_1]; exact nI_xor _ _) ?_
          refine lv_istore_n (lv' := [(2, .int (nI (trb L q (i + 1)))), (3, .int (nI i)), (0, .ref a), (1, .int (nI q))]) hx hb dX0_turningRemainders_32 rfl hl (by decide) rfl (fun ls hl => ?_)
          refine lv_iinc (v := nI (i + 1)) (lv' := [(3, .int (nI (i + 1))), (2, .int (nI (trb L q (i + 1)))), (0, .ref a), (1, .int (nI q))]) hx hb dX0_turningRemainders_33 hl (k := 1) rfl (nI_inc _) (by decide) rfl (fun ls hl => ?_)
          refine lv_goto (tgt := 4) hx hb dX0_turningRemainders_36 (by decide) ?_
          exact ih_4 (i + 1) (by omega) (by omega) ls (lv_sub hl [0, 1, 2, 3] rfl)
  exact loop_4 (lbc L + 1) 0 (by omega) (Nat.zero_le _) ls (lv_sub hl [0, 1, 2, 3] rfl)
set_option maxHeartbeats 4000000 in
set_option maxRecDepth 100000 in
/-- changeCycle -/
theorem c_X0_changeCycle (l : Launch) (D : va_G) (cI cZ cL cJ : ClassId) (a an ao : Nat) (L : LV) (hwf : WFL 8 L) : Met l yX0_changeCycle wsX0_changeCycle ({ frames := 1, cells := 0, slots := 0, locals := 23 } : Room) (PC D (TY cI cZ cL cJ) noA [.ref a] (fun H => va_P D vwCl (lampW cI a an ao L) H)) (QcRead (nI (ccy L))) 0 0 (fun _ => False) := by
  refine Met.ofW (cc := cX0_changeCycle) (maxL := 8) (ret := (some .int)) (by decide) rfl ?_
  intro p e s m args below meth c s₁ B hml hv
  obtain ⟨rfl, hK, hE, hP⟩ := hv
  obtain ⟨na, hZ, hT⟩ := hE.2.2.2
  have hx := B.exec
  have hb := B.bytes
  have hr := B.returns
  have hts := atoms_spec (ws := wsX0_changeCycle) B.pre
  have hown : s.vm.findClass RX0 = some m.cls := findClass_of_methodNamed B.named
  have hlocks := B.notSynchronized
  have hNF := hE.2.1.1
  have hin0 : ∀ w ∈ wsX00, w ∈ wsX0_changeCycle := by decide +kernel
  have hl := lv_entry ([.ref a]) (n := 8) (Nat.le_of_ble_eq_true rfl)
  rw [lg_entry_eq]
  generalize (lg_sl ([.ref a]) ++ List.replicate (8 - (lg_sl ([.ref a])).length) Slot.unset).toArray = ls at hl ⊢
  have hl : lv_has ls 8 [(0, .ref a)] := hl
  refine lv_iconst (v := nI 1) hx hb dX0_changeCycle_0 (by decide) ?_
  refine lv_istore_n (lv' := [(1, .int (nI 1)), (0, .ref a)]) hx hb dX0_changeCycle_1 rfl hl (by decide) rfl (fun ls hl => ?_)
  refine va_getsN (v := .ref na) hx hb hZ va_S.rf hown (va_Nw.use rfl (hNF _ (List.mem_of_getElem? (i := 5) rfl))) (fun _ h9 => h9) dX0_changeCycle_2 ?_
  refine lv_astore_n (lv' := [(2, .ref na), (1, .int (nI 1)), (0, .ref a)]) hx hb dX0_changeCycle_5 rfl hl (by decide) rfl (fun ls hl => ?_)
  refine lv_aload_n hx hb dX0_changeCycle_6 rfl (lv_at hl 0 rfl) ?_
  refine va_tlen hx hb hT va_S.rf (v := nI 6) rfl dX0_changeCycle_7 ?_
  refine lv_istore_n (lv' := [(3, .int (nI 6)), (2, .ref na), (1, .int (nI 1)), (0, .ref a)]) hx hb dX0_changeCycle_8 rfl hl (by decide) rfl (fun ls hl => ?_)
  refine lv_iconst (v := nI 0) hx hb dX0_changeCycle_9 (by decide) ?_
  refine lv_istore (lv' := [(4, .int (nI 0)), (3, .int (nI 6)), (2, .ref na), (1, .int (nI 1)), (0, .ref a)]) hx hb dX0_changeCycle_10 hl (by decide) rfl (fun ls hl => ?_)
  have loop_12 : ∀ (fu : Nat) (k : Nat), 7 - k ≤ fu → k ≤ 6 → ∀ (ls : Array Slot), lv_has ls 8 [(4, .int (nI k)), (3, .int (nI 6)), (2, .ref na), (1, .int (nI (ccyk L k))), (0, .ref a)] → W p l e (headSpec wsX0_changeCycle ({ frames := 1, cells := 0, slots := 0, locals := 23 } : Room)).room s m [.ref a].toArray below meth c s.heap [] 0 0 (MQ below (QcRead (nI (ccy L))) ([.ref a].toArray) s 0 0 (fun _ => False)) (F0 m 12 ls []) := by
    intro fu
    induction fu with
    | zero => intro k hn_12 hk; exact absurd hn_12 (by omega)
    | succ fu ih_12 =>
      intro k hn_12 hk ls hl
      refine lv_iload hx hb dX0_changeCycle_12 (lv_at hl 0 rfl) ?_
      refine lv_iload_n hx hb dX0_changeCycle_14 rfl (lv_at hl 1 rfl) ?_
      refine n_icmp_ge (a := k) (b := 6) (tgt := 71) hx hb (by omega) (by omega) dX0_changeCycle_15 (by decide) (fun c_15 => ?_) (fun c_15 => ?_)
      · refine lv_iload_n hx hb dX0_changeCycle_71 rfl (lv_at hl 3 rfl) ?_
        refine n_ti (y := nI (ccy L)) (by rw [show k = 6 by omega]; rfl) ?_
        exact W.iret (v := nI (ccy L)) hx hb hr (fun t ht hW => ⟨rfl, ht⟩) (fun _ h => by cases h) dX0_changeCycle_72
      · refine lv_aload_n hx hb dX0_changeCycle_18 rfl (lv_at hl 2 rfl) ?_
        refine lv_iload hx hb dX0_changeCycle_19 (lv_at hl 0 rfl) ?_
        refine n_ti6 (j := k) hx hb hT va_S.rf (by omega) dX0_changeCycle_21 ?_
        have hk6 := isP_le (NUMf_P c_15)
        refine lv_istore (lv' := [(5, .int (nI (NUMf k))), (4, .int (nI k)), (3, .int (nI 6)), (2, .ref na), (1, .int (nI (ccyk L k))), (0, .ref a)]) hx hb dX0_changeCycle_22 hl (by decide) rfl (fun ls hl => ?_)
        refine lv_aload_n hx hb dX0_changeCycle_24 rfl (lv_at hl 5 rfl) ?_
        refine lv_iload hx hb dX0_changeCycle_25 (lv_at hl 0 rfl) ?_
        refine rV (r := nI (trb L (NUMf k) (lbc L))) (As := [.int (nI (NUMf k))]) (rest := []) ⟨hx, hb, hml, hown, hts⟩ (c_X0_turningRemainders l D cI cZ cL cJ a an ao L (NUMf k) (by omega) hwf) (cwV 1 hts gX0_changeCycle_X0_turningRemainders rfl rfl rfl (by decide +kernel) ⟨(Nat.le_of_ble_eq_true rfl), (Nat.le_of_ble_eq_true rfl)⟩) hK hE hP (RC_of (q := (RX0, TX0, 5)) (ci := 0) hK rfl (vpa hP 0 rfl)) rfl hl.1 rfl (Nat.le_of_ble_eq_true rfl) dX0_changeCycle_27 ⟨(Nat.le_of_ble_eq_true rfl), (Nat.le_of_ble_eq_true rfl)⟩ ?_
        refine lv_istore (lv' := [(6, .int (nI (trb L (NUMf k) (lbc L)))), (5, .int (nI (NUMf k))), (4, .int (nI k)), (3, .int (nI 6)), (2, .ref na), (1, .int (nI (ccyk L k))), (0, .ref a)]) hx hb dX0_changeCycle_30 hl (by decide) rfl (fun ls hl => ?_)
        have hb1 : trb L (NUMf k) (lbc L) < 2 ^ 31 := Nat.lt_of_lt_of_le (trb_lt _ (fun i hi => (hwf.2 i hi).2)) (Nat.pow_le_pow_right (by decide) (by omega))
        have hb2 : 2 ^ NUMf k - 1 < 2 ^ 31 := Nat.lt_of_le_of_lt (Nat.sub_le _ _) (Nat.pow_lt_pow_right (by decide) (by omega))
        have join_53 : ∀ (ls : Array Slot), lv_has ls 8 [(6, .int (nI (trb L (NUMf k) (lbc L)))), (5, .int (nI (NUMf k))), (4, .int (nI k)), (3, .int (nI 6)), (2, .ref na), (1, .int (nI (ccyk L k))), (0, .ref a)] → W p l e (headSpec wsX0_changeCycle ({ frames := 1, cells := 0, slots := 0, locals := 23 } : Room)).room s m [.ref a].toArray below meth c s.heap [] 0 0 (MQ below (QcRead (nI (ccy L))) ([.ref a].toArray) s 0 0 (fun _ => False)) (F0 m 53 ls [.int (bI (alike L (NUMf k)))]) := by
          intro   ls hl
          refine lv_istore (lv' := [(7, .int (bI (alike L (NUMf k)))), (6, .int (nI (trb L (NUMf k) (lbc L)))), (5, .int (nI (NUMf k))), (4, .int (nI k)), (3, .int (nI 6)), (2, .ref na), (1, .int (nI (ccyk L k))), (0, .ref a)]) hx hb dX0_changeCycle_53 hl (by decide) rfl (fun ls hl => ?_)
          refine lv_iload hx hb dX0_changeCycle_55 (lv_at hl 0 rfl) ?_
          refine b_if_ne (b := alike L (NUMf k)) (tgt := 65) hx hb dX0_changeCycle_57 (by decide) (fun c_57 => ?_) (fun c_57 => ?_)
          · have e_1 : ccyk L (k + 1) = ccyk L k := by simp only [ccyk]; rw [if_pos c_57]
            rw [← e_1] at hl
            refine lv_iinc (v := nI (k + 1)) (lv' := [(4, .int (nI (k + 1))), (7, .int (bI (alike L (NUMf k)))), (6, .int (nI (trb L (NUMf k) (lbc L)))), (5, .int (nI (NUMf k))), (3, .int (nI 6)), (2, .ref na), (1, .int (nI (ccyk L (k + 1)))), (0, .ref a)]) hx hb dX0_changeCycle_65 hl (k := 3) rfl (nI_inc _) (by decide) rfl (fun ls hl => ?_)
            refine lv_goto (tgt := 12) hx hb dX0_changeCycle_68 (by decide) ?_
            exact ih_12 (k + 1) (by omega) (by omega) ls (lv_sub hl [0, 4, 5, 6, 7] rfl)
          · have e_1 : ccyk L (k + 1) = ccyk L k * NUMf k := by simp only [ccyk]; rw [if_neg (by rw [c_57]; decide)]
            refine lv_iload_n hx hb dX0_changeCycle_60 rfl (lv_at hl 6 rfl) ?_
            refine lv_iload hx hb dX0_changeCycle_61 (lv_at hl 2 rfl) ?_
            refine n_imul (v := nI (ccyk L (k + 1))) hx hb dX0_changeCycle_63 (by rw [e_1]; exact pk_mul _ _) ?_
            refine lv_istore_n (lv' := [(1, .int (nI (ccyk L (k + 1)))), (7, .int (bI (alike L (NUMf k)))), (6, .int (nI (trb L (NUMf k) (lbc L)))), (5, .int (nI (NUMf k))), (4, .int (nI k)), (3, .int (nI 6)), (2, .ref na), (0, .ref a)]) hx hb dX0_changeCycle_64 rfl hl (by decide) rfl (fun ls hl => ?_)
            refine lv_iinc (v := nI (k + 1)) (lv' := [(4, .int (nI (k + 1))), (1, .int (nI (ccyk L (k + 1)))), (7, .int (bI (alike L (NUMf k)))), (6, .int (nI (trb L (NUMf k) (lbc L)))), (5, .int (nI (NUMf k))), (3, .int (nI 6)), (2, .ref na), (0, .ref a)]) hx hb dX0_changeCycle_65 hl (k := 4) rfl (nI_inc _) (by decide) rfl (fun ls hl => ?_)
            refine lv_goto (tgt := 12) hx hb dX0_changeCycle_68 (by decide) ?_
            exact ih_12 (k + 1) (by omega) (by omega) ls (lv_sub hl [0, 5, 6, 1, 7] rfl)
        refine lv_iload hx hb dX0_changeCycle_32 (lv_at hl 0 rfl) ?_
        refine n_if_eq (a := trb L (NUMf k) (lbc L)) (tgt := 48) hx hb hb1 dX0_changeCycle_34 (by decide) (fun c_34 => ?_) (fun c_34 => ?_)
        · refine lv_iconst (v := nI 1) hx hb dX0_changeCycle_48 (by decide) ?_
          refine lv_goto (tgt := 53) hx hb dX0_changeCycle_49 (by decide) ?_
          refine n_ti (y := bI (alike L (NUMf k))) (by unfold alike; first | (rw [decide_eq_true c_34]; rfl) | (rw [decide_eq_false c_34, decide_eq_true c_45]; rfl) | (rw [decide_eq_false c_34, decide_eq_false c_45]; rfl)) ?_
          exact join_53 ls (lv_sub hl [0, 1, 2, 3, 4, 5, 6] rfl)
        · refine lv_iload hx hb dX0_changeCycle_37 (lv_at hl 0 rfl) ?_
          refine lv_iconst (v := nI 1) hx hb dX0_changeCycle_39 (by decide) ?_
          refine lv_iload hx hb dX0_changeCycle_40 (lv_at hl 1 rfl) ?_
          refine lv_ishl hx hb dX0_changeCycle_42 ?_
          refine n_ti (y := nI (2 ^ NUMf k)) (shl1 (by omega)) ?_
          refine lv_iconst (v := nI 1) hx hb dX0_changeCycle_43 (by decide) ?_
          refine n_isub (v := nI (2 ^ NUMf k - 1)) hx hb dX0_changeCycle_44 (pk_sub (Nat.two_pow_pos _)) ?_
          refine n_icmp_ne (a := trb L (NUMf k) (lbc L)) (b := 2 ^ NUMf k - 1) (tgt := 52) hx hb hb1 hb2 dX0_changeCycle_45 (by decide) (fun c_45 => ?_) (fun c_45 => ?_)
          · refine lv_iconst (v := nI 0) hx hb dX0_changeCycle_52 (by decide) ?_
            refine n_ti (y := bI (alike L (NUMf k))) (by unfold alike; first | (rw [decide_eq_true c_34]; rfl) | (rw [decide_eq_false c_34, decide_eq_true c_45]; rfl) | (rw [decide_eq_false c_34, decide_eq_false c_45]; rfl)) ?_
            exact join_53 ls (lv_sub hl [0, 1, 2, 3, 4, 5, 6] rfl)
          · refine lv_iconst (v := nI 1) hx hb dX0_changeCycle_48 (by decide) ?_
            refine lv_goto (tgt := 53) hx hb dX0_changeCycle_49 (by decide) ?_
            refine n_ti (y := bI (alike L (NUMf k))) (by unfold alike; first | (rw [decide_eq_true c_34]; rfl) | (rw [decide_eq_false c_34, decide_eq_true c_45]; rfl) | (rw [decide_eq_false c_34, decide_eq_false c_45]; rfl)) ?_
            exact join_53 ls (lv_sub hl [0, 1, 2, 3, 4, 5, 6] rfl)
  exact loop_12 7 0 (by omega) (Nat.zero_le _) ls (lv_sub hl [0, 1, 2, 3, 4] rfl)
set_option maxHeartbeats 4000000 in
set_option maxRecDepth 100000 in
/-- cycle -/
theorem c_X0_cycle (l : Launch) (D : va_G) (cI cZ cL cJ : ClassId) (a an ao : Nat) (L : LV) (hwf : WFL 8 L) : Met l yX0_cycle wsX0_cycle ({ frames := 2, cells := 0, slots := 0, locals := 50 } : Room) (PC D (TY cI cZ cL cJ) noA [.ref a] (fun H => va_P D vwCl (lampW cI a an ao L) H)) (QcRead (nI (cyc L))) 0 0 (fun _ => False) := by
  refine Met.ofW (cc := cX0_cycle) (maxL := 3) (ret := (some .int)) (by decide) rfl ?_
  intro p e s m args below meth c s₁ B hml hv
  obtain ⟨rfl, hK, hE, hP⟩ := hv
  have hx := B.exec
  have hb := B.bytes
  have hr := B.returns
  have hts := atoms_spec (ws := wsX0_cycle) B.pre
  have hown : s.vm.findClass RX0 = some m.cls := findClass_of_methodNamed B.named
  have hlocks := B.notSynchronized
  have hNF := hE.2.1.1
  have hin0 : ∀ w ∈ wsX00, w ∈ wsX0_cycle := by decide +kernel
  have hl := lv_entry ([.ref a]) (n := 3) (Nat.le_of_ble_eq_true rfl)
  rw [lg_entry_eq]
  generalize (lg_sl ([.ref a]) ++ List.replicate (3 - (lg_sl ([.ref a])).length) Slot.unset).toArray = ls at hl ⊢
  have hl : lv_has ls 3 [(0, .ref a)] := hl
  refine lv_aload_n hx hb dX0_cycle_0 rfl (lv_at hl 0 rfl) ?_
  refine rV (r := nI (ccy L)) (As := []) (rest := []) ⟨hx, hb, hml, hown, hts⟩ (c_X0_changeCycle l D cI cZ cL cJ a an ao L hwf) (cwV 0 hts gX0_cycle_X0_changeCycle rfl rfl rfl (by decide +kernel) ⟨(Nat.le_of_ble_eq_true rfl), (Nat.le_of_ble_eq_true rfl)⟩) hK hE hP (RC_of (q := (RX0, TX0, 5)) (ci := 0) hK rfl (vpa hP 0 rfl)) rfl hl.1 rfl (Nat.le_of_ble_eq_true rfl) dX0_cycle_1 ⟨(Nat.le_of_ble_eq_true rfl), (Nat.le_of_ble_eq_true rfl)⟩ ?_
  have hcb := ccy_bd L
  refine lv_istore_n (lv' := [(1, .int (nI (ccy L))), (0, .ref a)]) hx hb dX0_cycle_4 rfl hl (by decide) rfl (fun ls hl => ?_)
  have join_24 : ∀ (ls : Array Slot), lv_has ls 3 [(1, .int (nI (ccy L))), (0, .ref a)] → W p l e (headSpec wsX0_cycle ({ frames := 2, cells := 0, slots := 0, locals := 50 } : Room)).room s m [.ref a].toArray below meth c s.heap [] 0 0 (MQ below (QcRead (nI (cyc L))) ([.ref a].toArray) s 0 0 (fun _ => False)) (F0 m 24 ls [.int (bI (decide (onB L (ccy L - 1) = lon L)))]) := by
    intro   ls hl
    refine lv_istore_n (lv' := [(2, .int (bI (decide (onB L (ccy L - 1) = lon L)))), (1, .int (nI (ccy L))), (0, .ref a)]) hx hb dX0_cycle_24 rfl hl (by decide) rfl (fun ls hl => ?_)
    refine lv_iload_n hx hb dX0_cycle_25 rfl (lv_at hl 0 rfl) ?_
    refine b_if_eq (b := decide (onB L (ccy L - 1) = lon L)) (tgt := 33) hx hb dX0_cycle_26 (by decide) (fun c_26 => ?_) (fun c_26 => ?_)
    · refine lv_iconst (v := nI 2) hx hb dX0_cycle_33 (by decide) ?_
      refine lv_iload_n hx hb dX0_cycle_34 rfl (lv_at hl 1 rfl) ?_
      refine n_imul (v := nI (2 * (ccy L))) hx hb dX0_cycle_35 (pk_mul _ _) ?_
      refine n_ti (y := nI (cyc L)) (by unfold cyc; first | rw [if_pos (of_decide_eq_true c_26)] | rw [if_neg (of_decide_eq_false c_26)]) ?_
      exact W.iret (v := nI (cyc L)) hx hb hr (fun t ht hW => ⟨rfl, ht⟩) (fun _ h => by cases h) dX0_cycle_36
    · refine lv_iload_n hx hb dX0_cycle_29 rfl (lv_at hl 1 rfl) ?_
      refine lv_goto (tgt := 36) hx hb dX0_cycle_30 (by decide) ?_
      refine n_ti (y := nI (cyc L)) (by unfold cyc; first | rw [if_pos (of_decide_eq_true c_26)] | rw [if_neg (of_decide_eq_false c_26)]) ?_
      exact W.iret (v := nI (cyc L)) hx hb hr (fun t ht hW => ⟨rfl, ht⟩) (fun _ h => by cases h) dX0_cycle_36
  refine lv_aload_n hx hb dX0_cycle_5 rfl (lv_at hl 1 rfl) ?_
  refine lv_iload_n hx hb dX0_cycle_6 rfl (lv_at hl 0 rfl) ?_
  refine lv_iconst (v := nI 1) hx hb dX0_cycle_7 (by decide) ?_
  refine n_isub (v := nI ((ccy L) - 1)) hx hb dX0_cycle_8 (pk_sub (by omega)) ?_
  refine rV (r := bI (onB L (ccy L - 1))) (As := [.int (nI (ccy L - 1))]) (rest := []) ⟨hx, hb, hml, hown, hts⟩ (c_X0_onAt l D cI cZ cL cJ a an ao L (ccy L - 1) (by omega) hwf) (cwV 1 hts gX0_cycle_X0_onAt rfl rfl rfl (by decide +kernel) ⟨(Nat.le_of_ble_eq_true rfl), (Nat.le_of_ble_eq_true rfl)⟩) hK hE hP (RC_of (q := (RX0, TX0, 5)) (ci := 0) hK rfl (vpa hP 0 rfl)) rfl hl.1 rfl (Nat.le_of_ble_eq_true rfl) dX0_cycle_9 ⟨(Nat.le_of_ble_eq_true rfl), (Nat.le_of_ble_eq_true rfl)⟩ ?_
  refine lv_aload_n hx hb dX0_cycle_12 rfl (lv_at hl 1 rfl) ?_
  refine va_get (D := D) (ci := 0) (v := .int (bI (lon L))) (C := RX0) (T := TX0) (N := 5) hx hb hts hin0 hown hK hP 0 rfl rfl 3 (by decide) (hts (.fieldLink RX0 22 "LanternPrimes$Lamp" "onAtStart" "Z") (List.mem_of_getElem? (i := 1) rfl)) (fun _ h9 => h9) rfl dX0_cycle_13 ?_
  refine lv_icmp_ne (tgt := 23) hx hb dX0_cycle_16 (by decide) (fun c_16 => ?_) (fun c_16 => ?_)
  · refine lv_iconst (v := nI 0) hx hb dX0_cycle_23 (by decide) ?_
    refine n_ti (y := bI (decide (onB L (ccy L - 1) = lon L))) (by first | (rw [decide_eq_true (bI_inj c_16)]; rfl) | (rw [decide_eq_false (fun z => c_16 (by rw [z]))]; rfl)) ?_
    exact join_24 ls (lv_sub hl [0, 1] rfl)
  · refine lv_iconst (v := nI 1) hx hb dX0_cycle_19 (by decide) ?_
    refine lv_goto (tgt := 24) hx hb dX0_cycle_20 (by decide) ?_
    refine n_ti (y := bI (decide (onB L (ccy L - 1) = lon L))) (by first | (rw [decide_eq_true (bI_inj c_16)]; rfl) | (rw [decide_eq_false (fun z => c_16 (by rw [z]))]; rfl)) ?_
    exact join_24 ls (lv_sub hl [0, 1] rfl)
set_option maxHeartbeats 4000000 in
set_option maxRecDepth 100000 in
/-- neverChanges -/
theorem c_X0_neverChanges (l : Launch) (D : va_G) (cI cZ cL cJ : ClassId) (a an ao : Nat) (L : LV) (hwf : WFL 8 L) : Met l yX0_neverChanges wsX0_neverChanges ({ frames := 3, cells := 0, slots := 0, locals := 72 } : Room) (PC D (TY cI cZ cL cJ) noA [.ref a] (fun H => va_P D vwCl (lampW cI a an ao L) H)) (QcRead (bI (decide (cyc L = 1)))) 0 0 (fun _ => False) := by
  refine Met.ofW (cc := cX0_neverChanges) (maxL := 1) (ret := (some .boolean)) (by decide) rfl ?_
  intro p e s m args below meth c s₁ B hml hv
  obtain ⟨rfl, hK, hE, hP⟩ := hv
  have hx := B.exec
  have hb := B.bytes
  have hr := B.returns
  have hts := atoms_spec (ws := wsX0_neverChanges) B.pre
  have hown : s.vm.findClass RX0 = some m.cls := findClass_of_methodNamed B.named
  have hlocks := B.notSynchronized
  have hNF := hE.2.1.1
  have hin0 : ∀ w ∈ wsX00, w ∈ wsX0_neverChanges := by decide +kernel
  have hl := lv_entry ([.ref a]) (n := 1) (Nat.le_of_ble_eq_true rfl)
  rw [lg_entry_eq]
  generalize (lg_sl ([.ref a]) ++ List.replicate (1 - (lg_sl ([.ref a])).length) Slot.unset).toArray = ls at hl ⊢
  have hl : lv_has ls 1 [(0, .ref a)] := hl
  refine lv_aload_n hx hb dX0_neverChanges_0 rfl (lv_at hl 0 rfl) ?_
  refine rV (r := nI (cyc L)) (As := []) (rest := []) ⟨hx, hb, hml, hown, hts⟩ (c_X0_cycle l D cI cZ cL cJ a an ao L hwf) (cwV 0 hts gX0_neverChanges_X0_cycle rfl rfl rfl (by decide +kernel) ⟨(Nat.le_of_ble_eq_true rfl), (Nat.le_of_ble_eq_true rfl)⟩) hK hE hP (RC_of (q := (RX0, TX0, 5)) (ci := 0) hK rfl (vpa hP 0 rfl)) rfl hl.1 rfl (Nat.le_of_ble_eq_true rfl) dX0_neverChanges_1 ⟨(Nat.le_of_ble_eq_true rfl), (Nat.le_of_ble_eq_true rfl)⟩ ?_
  have hcb := cyc_bd L
  refine lv_iconst (v := nI 1) hx hb dX0_neverChanges_4 (by decide) ?_
  refine n_icmp_ne (a := cyc L) (b := 1) (tgt := 12) hx hb (by omega) (by omega) dX0_neverChanges_5 (by decide) (fun c_5 => ?_) (fun c_5 => ?_)
  · refine lv_iconst (v := nI 0) hx hb dX0_neverChanges_12 (by decide) ?_
    refine n_ti (y := bI (decide (cyc L = 1))) (by first | (rw [decide_eq_true c_5]; rfl) | (rw [decide_eq_false c_5]; rfl)) ?_
    exact W.zret (v := bI (decide (cyc L = 1))) hx hb hr (bI_narrow _) (fun t ht hW => ⟨rfl, ht⟩) (fun _ h => by cases h) dX0_neverChanges_13
  · refine lv_iconst (v := nI 1) hx hb dX0_neverChanges_8 (by decide) ?_
    refine lv_goto (tgt := 13) hx hb dX0_neverChanges_9 (by decide) ?_
    refine n_ti (y := bI (decide (cyc L = 1))) (by first | (rw [decide_eq_true c_5]; rfl) | (rw [decide_eq_false c_5]; rfl)) ?_
    exact W.zret (v := bI (decide (cyc L = 1))) hx hb hr (bI_narrow _) (fun t ht hW => ⟨rfl, ht⟩) (fun _ h => by cases h) dX0_neverChanges_13
set_option maxHeartbeats 4000000 in
set_option maxRecDepth 100000 in
/-- untilChange -/
theorem c_X0_untilChange (l : Launch) (D : va_G) (cI cZ cL cJ : ClassId) (a an ao : Nat) (L : LV) (t : Nat) (ht : t < 2 ^ 24) (hwf : WFL 8 L) : Met l yX0_untilChange wsX0_untilChange ({ frames := 2, cells := 0, slots := 0, locals := 50 } : Room) (PC D (TY cI cZ cL cJ) noA [.ref a, .int (nI t)] (fun H => va_P D vwCl (lampW cI a an ao L) H)) (QcRead ((untC L t))) 0 0 (fun _ => False) := by
  refine Met.ofW (cc := cX0_untilChange) (maxL := 4) (ret := (some .int)) (by decide) rfl ?_
  intro p e s m args below meth c s₁ B hml hv
  obtain ⟨rfl, hK, hE, hP⟩ := hv
  have hx := B.exec
  have hb := B.bytes
  have hr := B.returns
  have hts := atoms_spec (ws := wsX0_untilChange) B.pre
  have hown : s.vm.findClass RX0 = some m.cls := findClass_of_methodNamed B.named
  have hlocks := B.notSynchronized
  have hNF := hE.2.1.1
  have hin0 : ∀ w ∈ wsX00, w ∈ wsX0_untilChange := by decide +kernel
  have hl := lv_entry ([.ref a, .int (nI t)]) (n := 4) (Nat.le_of_ble_eq_true rfl)
  rw [lg_entry_eq]
  generalize (lg_sl ([.ref a, .int (nI t)]) ++ List.replicate (4 - (lg_sl ([.ref a, .int (nI t)])).length) Slot.unset).toArray = ls at hl ⊢
  have hl : lv_has ls 4 [(0, .ref a), (1, .int (nI t))] := hl
  refine lv_aload_n hx hb dX0_untilChange_0 rfl (lv_at hl 0 rfl) ?_
  refine rV (r := nI (ccy L)) (As := []) (rest := []) ⟨hx, hb, hml, hown, hts⟩ (c_X0_changeCycle l D cI cZ cL cJ a an ao L hwf) (cwV 0 hts gX0_untilChange_X0_changeCycle rfl rfl rfl (by decide +kernel) ⟨(Nat.le_of_ble_eq_true rfl), (Nat.le_of_ble_eq_true rfl)⟩) hK hE hP (RC_of (q := (RX0, TX0, 5)) (ci := 0) hK rfl (vpa hP 0 rfl)) rfl hl.1 rfl (Nat.le_of_ble_eq_true rfl) dX0_untilChange_1 ⟨(Nat.le_of_ble_eq_true rfl), (Nat.le_of_ble_eq_true rfl)⟩ ?_
  have hcb := ccy_bd L
  refine lv_istore_n (lv' := [(2, .int (nI (ccy L))), (0, .ref a), (1, .int (nI t))]) hx hb dX0_untilChange_4 rfl hl (by decide) rfl (fun ls hl => ?_)
  refine lv_iconst (v := nI 1) hx hb dX0_untilChange_5 (by decide) ?_
  refine lv_istore_n (lv' := [(3, .int (nI 1)), (2, .int (nI (ccy L))), (0, .ref a), (1, .int (nI t))]) hx hb dX0_untilChange_6 rfl hl (by decide) rfl (fun ls hl => ?_)
  have loop_7 : ∀ (fu : Nat) (k : Nat), ccy L + 2 - k ≤ fu → 1 ≤ k → k ≤ ccy L + 1 → fnd (fun k => chgB L (t + k)) k (ccy L + 1 - k) = fnd (fun k => chgB L (t + k)) 1 (ccy L) → ∀ (ls : Array Slot), lv_has ls 4 [(3, .int (nI k)), (2, .int (nI (ccy L))), (0, .ref a), (1, .int (nI t))] → W p l e (headSpec wsX0_untilChange ({ frames := 2, cells := 0, slots := 0, locals := 50 } : Room)).room s m [.ref a, .int (nI t)].toArray below meth c s.heap [] 0 0 (MQ below (QcRead ((untC L t))) ([.ref a, .int (nI t)].toArray) s 0 0 (fun _ => False)) (F0 m 7 ls []) := by
    intro fu
    induction fu with
    | zero => intro k hn_7 hk1 hk2 hf; exact absurd hn_7 (by omega)
    | succ fu ih_7 =>
      intro k hn_7 hk1 hk2 hf ls hl
      refine lv_iload_n hx hb dX0_untilChange_7 rfl (lv_at hl 0 rfl) ?_
      refine lv_iload_n hx hb dX0_untilChange_8 rfl (lv_at hl 1 rfl) ?_
      refine n_icmp_gt (a := k) (b := ccy L) (tgt := 30) hx hb (by omega) (by omega) dX0_untilChange_9 (by decide) (fun c_9 => ?_) (fun c_9 => ?_)
      · refine lv_iconst (v := (-1)) hx hb dX0_untilChange_30 (by decide) ?_
        refine n_ti (y := (untC L t)) (by unfold untC; rw [← hf, show ccy L + 1 - k = 0 by omega]; rfl) ?_
        exact W.iret (v := (untC L t)) hx hb hr (fun t ht hW => ⟨rfl, ht⟩) (fun _ h => by cases h) dX0_untilChange_31
      · refine lv_aload_n hx hb dX0_untilChange_12 rfl (lv_at hl 2 rfl) ?_
        refine lv_iload_n hx hb dX0_untilChange_13 rfl (lv_at hl 3 rfl) ?_
        refine lv_iload_n hx hb dX0_untilChange_14 rfl (lv_at hl 0 rfl) ?_
        refine n_iadd (v := nI (t + k)) hx hb dX0_untilChange_15 (nI_add _ _) ?_
        refine rV (r := bI (chgB L (t + k))) (As := [.int (nI (t + k))]) (rest := []) ⟨hx, hb, hml, hown, hts⟩ (c_X0_changesAt l D cI cZ cL cJ a an ao L (t + k) (by omega) hwf) (cwV 1 hts gX0_untilChange_X0_changesAt rfl rfl rfl (by decide +kernel) ⟨(Nat.le_of_ble_eq_true rfl), (Nat.le_of_ble_eq_true rfl)⟩) hK hE hP (RC_of (q := (RX0, TX0, 5)) (ci := 0) hK rfl (vpa hP 0 rfl)) rfl hl.1 rfl (Nat.le_of_ble_eq_true rfl) dX0_untilChange_16 ⟨(Nat.le_of_ble_eq_true rfl), (Nat.le_of_ble_eq_true rfl)⟩ ?_
        refine b_if_eq (b := chgB L (t + k)) (tgt := 24) hx hb dX0_untilChange_19 (by decide) (fun c_19 => ?_) (fun c_19 => ?_)
        · refine lv_iinc (v := nI (k + 1)) (lv' := [(3, .int (nI (k + 1))), (2, .int (nI (ccy L))), (0, .ref a), (1, .int (nI t))]) hx hb dX0_untilChange_24 hl (k := 0) rfl (nI_inc _) (by decide) rfl (fun ls hl => ?_)
          refine lv_goto (tgt := 7) hx hb dX0_untilChange_27 (by decide) ?_
          exact ih_7 (k + 1) (by omega) (by omega) (by omega) (by rw [← hf, fnd_f (f := fun k => chgB L (t + k)) (lo := k) c_19 (by omega), show ccy L + 1 - k - 1 = ccy L + 1 - (k + 1) by omega]) ls (lv_sub hl [0, 1, 2, 3] rfl)
        · refine lv_iload_n hx hb dX0_untilChange_22 rfl (lv_at hl 0 rfl) ?_
          refine n_ti (y := (untC L t)) (by unfold untC; rw [← hf, fnd_t (f := fun k => chgB L (t + k)) (lo := k) c_19 (by omega)]; rfl) ?_
          exact W.iret (v := (untC L t)) hx hb hr (fun t ht hW => ⟨rfl, ht⟩) (fun _ h => by cases h) dX0_untilChange_23
  exact loop_7 (ccy L + 2) 1 (by omega) (by omega) (by omega) (by rw [Nat.add_sub_cancel]) ls (lv_sub hl [0, 1, 2, 3] rfl)
