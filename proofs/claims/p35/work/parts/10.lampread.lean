set_option maxHeartbeats 4000000 in
set_option maxRecDepth 100000 in
/-- isOdd -/
theorem c_X0_isOdd (l : Launch) (D : va_G) (cI cZ cL cJ : ClassId) (k : Nat) (hk : k < 2 ^ 31) : Met l yX0_isOdd wsX0_isOdd ({ frames := 0, cells := 0, slots := 0, locals := 0 } : Room) (PC D (TY cI cZ cL cJ) noA [.int (nI k)] (fun _ => True)) (QcRead (bI (decide (k % 2 = 1)))) 0 0 (fun _ => False) := by
  refine Met.ofW (cc := cX0_isOdd) (maxL := 1) (ret := (some .boolean)) (by decide) rfl ?_
  intro p e s m args below meth c s₁ B hml hv
  obtain ⟨rfl, hK, hE, -⟩ := hv
  have hx := B.exec
  have hb := B.bytes
  have hr := B.returns
  have hts := atoms_spec (ws := wsX0_isOdd) B.pre
  have hown : s.vm.findClass RX0 = some m.cls := findClass_of_methodNamed B.named
  have hlocks := B.notSynchronized
  have hNF := hE.2.1.1
  have hl := lv_entry ([.int (nI k)]) (n := 1) (Nat.le_of_ble_eq_true rfl)
  rw [lg_entry_eq]
  generalize (lg_sl ([.int (nI k)]) ++ List.replicate (1 - (lg_sl ([.int (nI k)])).length) Slot.unset).toArray = ls at hl ⊢
  have hl : lv_has ls 1 [(0, .int (nI k))] := hl
  refine lv_iload_n hx hb dX0_isOdd_0 rfl (lv_at hl 0 rfl) ?_
  refine lv_iconst (v := nI 1) hx hb dX0_isOdd_1 (by decide) ?_
  refine n_iand (v := nI (k % 2)) hx hb dX0_isOdd_2 (and1 hk) ?_
  refine lv_iconst (v := nI 1) hx hb dX0_isOdd_3 (by decide) ?_
  refine n_icmp_ne (a := k % 2) (b := 1) (tgt := 11) hx hb (by omega) (by omega) dX0_isOdd_4 (by decide) (fun c_4 => ?_) (fun c_4 => ?_)
  · refine lv_iconst (v := nI 0) hx hb dX0_isOdd_11 (by decide) ?_
    refine n_ti (y := bI (decide (k % 2 = 1))) (by first | (rw [decide_eq_true c_4]; rfl) | (rw [decide_eq_false c_4]; rfl)) ?_
    exact W.zret (v := bI (decide (k % 2 = 1))) hx hb hr (bI_narrow _) (fun t ht hW => ⟨rfl, ht⟩) (fun _ h => by cases h) dX0_isOdd_12
  · refine lv_iconst (v := nI 1) hx hb dX0_isOdd_7 (by decide) ?_
    refine lv_goto (tgt := 12) hx hb dX0_isOdd_8 (by decide) ?_
    refine n_ti (y := bI (decide (k % 2 = 1))) (by first | (rw [decide_eq_true c_4]; rfl) | (rw [decide_eq_false c_4]; rfl)) ?_
    exact W.zret (v := bI (decide (k % 2 = 1))) hx hb hr (bI_narrow _) (fun t ht hW => ⟨rfl, ht⟩) (fun _ h => by cases h) dX0_isOdd_12
set_option maxHeartbeats 4000000 in
set_option maxRecDepth 100000 in
/-- strikesUpTo -/
theorem c_X0_strikesUpTo (l : Launch) (D : va_G) (cI cZ cL cJ : ClassId) (t n o : Nat) (ht : t < 2 ^ 25) (hn : 0 < n) (hn2 : n ≤ 13) (ho : o < n) : Met l yX0_strikesUpTo wsX0_strikesUpTo ({ frames := 0, cells := 0, slots := 0, locals := 0 } : Room) (PC D (TY cI cZ cL cJ) noA [.int (nI t), .int (nI n), .int (nI o)] (fun _ => True)) (QcRead (nI (sut t n o))) 0 0 (fun _ => False) := by
  refine Met.ofW (cc := cX0_strikesUpTo) (maxL := 3) (ret := (some .int)) (by decide) rfl ?_
  intro p e s m args below meth c s₁ B hml hv
  obtain ⟨rfl, hK, hE, -⟩ := hv
  have hx := B.exec
  have hb := B.bytes
  have hr := B.returns
  have hts := atoms_spec (ws := wsX0_strikesUpTo) B.pre
  have hown : s.vm.findClass RX0 = some m.cls := findClass_of_methodNamed B.named
  have hlocks := B.notSynchronized
  have hNF := hE.2.1.1
  have hl := lv_entry ([.int (nI t), .int (nI n), .int (nI o)]) (n := 3) (Nat.le_of_ble_eq_true rfl)
  rw [lg_entry_eq]
  generalize (lg_sl ([.int (nI t), .int (nI n), .int (nI o)]) ++ List.replicate (3 - (lg_sl ([.int (nI t), .int (nI n), .int (nI o)])).length) Slot.unset).toArray = ls at hl ⊢
  have hl : lv_has ls 3 [(0, .int (nI t)), (1, .int (nI n)), (2, .int (nI o))] := hl
  refine lv_iload_n hx hb dX0_strikesUpTo_0 rfl (lv_at hl 1 rfl) ?_
  refine lv_iconst (v := nI 1) hx hb dX0_strikesUpTo_1 (by decide) ?_
  refine n_icmp_lt (a := n) (b := 1) (tgt := 10) hx hb (by omega) (by omega) dX0_strikesUpTo_2 (by decide) (fun c_2 => ?_) (fun c_2 => ?_)
  · exact absurd c_2 (by omega)
  · refine lv_iload_n hx hb dX0_strikesUpTo_5 rfl (lv_at hl 0 rfl) ?_
    refine lv_iload_n hx hb dX0_strikesUpTo_6 rfl (lv_at hl 2 rfl) ?_
    refine n_icmp_ge (a := t) (b := o) (tgt := 12) hx hb (by omega) (by omega) dX0_strikesUpTo_7 (by decide) (fun c_7 => ?_) (fun c_7 => ?_)
    · refine lv_iload_n hx hb dX0_strikesUpTo_12 rfl (lv_at hl 0 rfl) ?_
      refine lv_iload_n hx hb dX0_strikesUpTo_13 rfl (lv_at hl 2 rfl) ?_
      refine n_isub (v := nI (t - o)) hx hb dX0_strikesUpTo_14 (pk_sub (by omega)) ?_
      refine lv_iload_n hx hb dX0_strikesUpTo_15 rfl (lv_at hl 1 rfl) ?_
      refine n_idiv (a := t - o) (d := n) hx hb dX0_strikesUpTo_16 (by omega) (by omega) (by omega) ?_
      refine lv_iconst (v := nI 1) hx hb dX0_strikesUpTo_17 (by decide) ?_
      refine n_iadd (v := nI (((t - o) / n) + 1)) hx hb dX0_strikesUpTo_18 (nI_add _ _) ?_
      refine n_ti (y := nI (sut t n o)) (by unfold sut; rw [if_neg (by omega)]) ?_
      exact W.iret (v := nI (sut t n o)) hx hb hr (fun t ht hW => ⟨rfl, ht⟩) (fun _ h => by cases h) dX0_strikesUpTo_19
    · refine lv_iconst (v := nI 0) hx hb dX0_strikesUpTo_10 (by decide) ?_
      refine n_ti (y := nI (sut t n o)) (by unfold sut; rw [if_pos c_7]) ?_
      exact W.iret (v := nI (sut t n o)) hx hb hr (fun t ht hW => ⟨rfl, ht⟩) (fun _ h => by cases h) dX0_strikesUpTo_11
set_option maxHeartbeats 4000000 in
set_option maxRecDepth 100000 in
/-- strikes -/
theorem c_X0_strikes (l : Launch) (D : va_G) (cI cZ cL cJ : ClassId) (a an ao : Nat) (L : LV) (t : Nat) (ht : t < 2 ^ 25) (hwf : WFL 8 L) : Met l yX0_strikes wsX0_strikes ({ frames := 0, cells := 0, slots := 0, locals := 0 } : Room) (PC D (TY cI cZ cL cJ) noA [.ref a, .int (nI t)] (fun H => va_P D vwCl (lampW cI a an ao L) H)) (QcRead (nI (strk L t (lbc L)))) 0 0 (fun _ => False) := by
  refine Met.ofW (cc := cX0_strikes) (maxL := 4) (ret := (some .int)) (by decide) rfl ?_
  intro p e s m args below meth c s₁ B hml hv
  obtain ⟨rfl, hK, hE, hP⟩ := hv
  have hx := B.exec
  have hb := B.bytes
  have hr := B.returns
  have hts := atoms_spec (ws := wsX0_strikes) B.pre
  have hown : s.vm.findClass RX0 = some m.cls := findClass_of_methodNamed B.named
  have hlocks := B.notSynchronized
  have hNF := hE.2.1.1
  have hin0 : ∀ w ∈ wsX00, w ∈ wsX0_strikes := by decide +kernel
  have hl := lv_entry ([.ref a, .int (nI t)]) (n := 4) (Nat.le_of_ble_eq_true rfl)
  rw [lg_entry_eq]
  generalize (lg_sl ([.ref a, .int (nI t)]) ++ List.replicate (4 - (lg_sl ([.ref a, .int (nI t)])).length) Slot.unset).toArray = ls at hl ⊢
  have hl : lv_has ls 4 [(0, .ref a), (1, .int (nI t))] := hl
  refine lv_iconst (v := nI 0) hx hb dX0_strikes_0 (by decide) ?_
  refine lv_istore_n (lv' := [(2, .int (nI 0)), (0, .ref a), (1, .int (nI t))]) hx hb dX0_strikes_1 rfl hl (by decide) rfl (fun ls hl => ?_)
  refine lv_iconst (v := nI 0) hx hb dX0_strikes_2 (by decide) ?_
  refine lv_istore_n (lv' := [(3, .int (nI 0)), (2, .int (nI 0)), (0, .ref a), (1, .int (nI t))]) hx hb dX0_strikes_3 rfl hl (by decide) rfl (fun ls hl => ?_)
  have loop_4 : ∀ (fu : Nat) (i : Nat), lbc L + 1 - i ≤ fu → i ≤ lbc L → ∀ (ls : Array Slot), lv_has ls 4 [(3, .int (nI i)), (2, .int (nI (strk L t i))), (0, .ref a), (1, .int (nI t))] → W p l e (headSpec wsX0_strikes ({ frames := 0, cells := 0, slots := 0, locals := 0 } : Room)).room s m [.ref a, .int (nI t)].toArray below meth c s.heap [] 0 0 (MQ below (QcRead (nI (strk L t (lbc L)))) ([.ref a, .int (nI t)].toArray) s 0 0 (fun _ => False)) (F0 m 4 ls []) := by
    intro fu
    induction fu with
    | zero => intro i hn_4 hi; exact absurd hn_4 (by omega)
    | succ fu ih_4 =>
      intro i hn_4 hi ls hl
      have hwf1 := hwf.1
      refine lv_iload_n hx hb dX0_strikes_4 rfl (lv_at hl 0 rfl) ?_
      refine lv_aload_n hx hb dX0_strikes_5 rfl (lv_at hl 2 rfl) ?_
      refine va_get (D := D) (ci := 0) (v := .int (nI (lbc L))) (C := RX0) (T := TX0) (N := 5) hx hb hts hin0 hown hK hP 0 rfl rfl 2 (by decide) (hts (.fieldLink RX0 18 "LanternPrimes$Lamp" "beatCount" "I") (List.mem_of_getElem? (i := 1) rfl)) (fun _ h9 => h9) rfl dX0_strikes_6 ?_
      refine n_icmp_ge (a := i) (b := lbc L) (tgt := 47) hx hb (by omega) (by omega) dX0_strikes_9 (by decide) (fun c_9 => ?_) (fun c_9 => ?_)
      · refine lv_iload_n hx hb dX0_strikes_47 rfl (lv_at hl 1 rfl) ?_
        refine n_ti (y := nI (strk L t (lbc L))) (by rw [show i = lbc L by omega]) ?_
        exact W.iret (v := nI (strk L t (lbc L))) hx hb hr (fun t ht hW => ⟨rfl, ht⟩) (fun _ h => by cases h) dX0_strikes_48
      · refine lv_aload_n hx hb dX0_strikes_12 rfl (lv_at hl 2 rfl) ?_
        refine va_get (D := D) (ci := 0) (v := .ref an) (C := RX0) (T := TX0) (N := 5) hx hb hts hin0 hown hK hP 0 rfl rfl 0 (by decide) (hts (.fieldLink RX0 9 "LanternPrimes$Lamp" "numbers" "[I") (List.mem_of_getElem? (i := 2) rfl)) (fun _ h9 => h9) rfl dX0_strikes_13 ?_
        refine lv_iload_n hx hb dX0_strikes_16 rfl (lv_at hl 0 rfl) ?_
        refine n_iald (v := nI (lnu L i)) (j := i) hx hb hK hP 1 0 rfl rfl (by omega) (by decide) rfl dX0_strikes_17 ?_
        have hw := isP_le (hwf.2 i c_9).1
        have hw2 := (hwf.2 i c_9).2
        refine n_if_le (a := lnu L i) (tgt := 41) hx hb (by omega) dX0_strikes_18 (by decide) (fun c_18 => ?_) (fun c_18 => ?_)
        · exact absurd c_18 (by omega)
        · refine lv_iload_n hx hb dX0_strikes_21 rfl (lv_at hl 3 rfl) ?_
          refine lv_aload_n hx hb dX0_strikes_22 rfl (lv_at hl 2 rfl) ?_
          refine va_get (D := D) (ci := 0) (v := .ref an) (C := RX0) (T := TX0) (N := 5) hx hb hts hin0 hown hK hP 0 rfl rfl 0 (by decide) (hts (.fieldLink RX0 9 "LanternPrimes$Lamp" "numbers" "[I") (List.mem_of_getElem? (i := 2) rfl)) (fun _ h9 => h9) rfl dX0_strikes_23 ?_
          refine lv_iload_n hx hb dX0_strikes_26 rfl (lv_at hl 0 rfl) ?_
          refine n_iald (v := nI (lnu L i)) (j := i) hx hb hK hP 1 0 rfl rfl (by omega) (by decide) rfl dX0_strikes_27 ?_
          refine n_irem (a := t) (d := lnu L i) hx hb dX0_strikes_28 (by omega) (by omega) (by omega) ?_
          refine lv_aload_n hx hb dX0_strikes_29 rfl (lv_at hl 2 rfl) ?_
          refine va_get (D := D) (ci := 0) (v := .ref ao) (C := RX0) (T := TX0) (N := 5) hx hb hts hin0 hown hK hP 0 rfl rfl 1 (by decide) (hts (.fieldLink RX0 15 "LanternPrimes$Lamp" "offsets" "[I") (List.mem_of_getElem? (i := 3) rfl)) (fun _ h9 => h9) rfl dX0_strikes_30 ?_
          refine lv_iload_n hx hb dX0_strikes_33 rfl (lv_at hl 0 rfl) ?_
          refine n_iald (v := nI (lof L i)) (j := i) hx hb hK hP 2 0 rfl rfl (by omega) (by decide) rfl dX0_strikes_34 ?_
          refine n_icmp_ne (a := t % (lnu L i)) (b := lof L i) (tgt := 41) hx hb (Nat.lt_of_le_of_lt (Nat.mod_le _ _) (by omega)) (by omega) dX0_strikes_35 (by decide) (fun c_35 => ?_) (fun c_35 => ?_)
          · have e_1 : strk L t (i + 1) = strk L t i := by simp only [strk]; rw [if_neg c_35]; rfl
            rw [← e_1] at hl
            refine lv_iinc (v := nI (i + 1)) (lv' := [(3, .int (nI (i + 1))), (2, .int (nI (strk L t (i + 1)))), (0, .ref a), (1, .int (nI t))]) hx hb dX0_strikes_41 hl (k := 0) rfl (nI_inc _) (by decide) rfl (fun ls hl => ?_)
            refine lv_goto (tgt := 4) hx hb dX0_strikes_44 (by decide) ?_
            exact ih_4 (i + 1) (by omega) (by omega) ls (lv_sub hl [0, 1, 2, 3] rfl)
          · have e_1 : strk L t (i + 1) = strk L t i + 1 := by simp only [strk]; rw [if_pos c_35]
            refine lv_iinc (v := nI (strk L t (i + 1))) (lv' := [(2, .int (nI (strk L t (i + 1)))), (3, .int (nI i)), (0, .ref a), (1, .int (nI t))]) hx hb dX0_strikes_38 hl (k := 1) rfl (by rw [e_1]; exact nI_inc _) (by decide) rfl (fun ls hl => ?_)
            refine lv_iinc (v := nI (i + 1)) (lv' := [(3, .int (nI (i + 1))), (2, .int (nI (strk L t (i + 1)))), (0, .ref a), (1, .int (nI t))]) hx hb dX0_strikes_41 hl (k := 1) rfl (nI_inc _) (by decide) rfl (fun ls hl => ?_)
            refine lv_goto (tgt := 4) hx hb dX0_strikes_44 (by decide) ?_
            exact ih_4 (i + 1) (by omega) (by omega) ls (lv_sub hl [0, 1, 2, 3] rfl)
  exact loop_4 (lbc L + 1) 0 (by omega) (Nat.zero_le _) ls (lv_sub hl [0, 1, 2, 3] rfl)
set_option maxHeartbeats 4000000 in
set_option maxRecDepth 100000 in
/-- changesAt -/
theorem c_X0_changesAt (l : Launch) (D : va_G) (cI cZ cL cJ : ClassId) (a an ao : Nat) (L : LV) (t : Nat) (ht : t < 2 ^ 25) (hwf : WFL 8 L) : Met l yX0_changesAt wsX0_changesAt ({ frames := 1, cells := 0, slots := 0, locals := 23 } : Room) (PC D (TY cI cZ cL cJ) noA [.ref a, .int (nI t)] (fun H => va_P D vwCl (lampW cI a an ao L) H)) (QcRead (bI (chgB L t))) 0 0 (fun _ => False) := by
  refine Met.ofW (cc := cX0_changesAt) (maxL := 2) (ret := (some .boolean)) (by decide) rfl ?_
  intro p e s m args below meth c s₁ B hml hv
  obtain ⟨rfl, hK, hE, hP⟩ := hv
  have hx := B.exec
  have hb := B.bytes
  have hr := B.returns
  have hts := atoms_spec (ws := wsX0_changesAt) B.pre
  have hown : s.vm.findClass RX0 = some m.cls := findClass_of_methodNamed B.named
  have hlocks := B.notSynchronized
  have hNF := hE.2.1.1
  have hin0 : ∀ w ∈ wsX00, w ∈ wsX0_changesAt := by decide +kernel
  have hl := lv_entry ([.ref a, .int (nI t)]) (n := 2) (Nat.le_of_ble_eq_true rfl)
  rw [lg_entry_eq]
  generalize (lg_sl ([.ref a, .int (nI t)]) ++ List.replicate (2 - (lg_sl ([.ref a, .int (nI t)])).length) Slot.unset).toArray = ls at hl ⊢
  have hl : lv_has ls 2 [(0, .ref a), (1, .int (nI t))] := hl
  refine lv_aload_n hx hb dX0_changesAt_0 rfl (lv_at hl 0 rfl) ?_
  refine lv_iload_n hx hb dX0_changesAt_1 rfl (lv_at hl 1 rfl) ?_
  refine rV (r := nI (strk L t (lbc L))) (As := [.int (nI t)]) (rest := []) ⟨hx, hb, hml, hown, hts⟩ (c_X0_strikes l D cI cZ cL cJ a an ao L t ht hwf) (cwV 1 hts gX0_changesAt_X0_strikes rfl rfl rfl (by decide +kernel) ⟨(Nat.le_of_ble_eq_true rfl), (Nat.le_of_ble_eq_true rfl)⟩) hK hE hP (RC_of (q := (RX0, TX0, 5)) (ci := 0) hK rfl (vpa hP 0 rfl)) rfl hl.1 rfl (Nat.le_of_ble_eq_true rfl) dX0_changesAt_2 ⟨(Nat.le_of_ble_eq_true rfl), (Nat.le_of_ble_eq_true rfl)⟩ ?_
  refine rS (r := bI (decide (strk L t (lbc L) % 2 = 1))) (As := [.int (nI (strk L t (lbc L)))]) (rest := []) ⟨hx, hb, hml, hown, hts⟩ (c_X0_isOdd l D cI cZ cL cJ (strk L t (lbc L)) (Nat.lt_of_le_of_lt (strk_le L t _) (Nat.lt_of_le_of_lt hwf.1 (by decide)))) (va_cwS 1 hts gX0_changesAt_X0_isOdd rfl rfl rfl (by decide +kernel) ⟨(Nat.le_of_ble_eq_true rfl), (Nat.le_of_ble_eq_true rfl)⟩) hK hE trivial rfl hl.1 rfl (Nat.le_of_ble_eq_true rfl) dX0_changesAt_5 ⟨(Nat.le_of_ble_eq_true rfl), (Nat.le_of_ble_eq_true rfl)⟩ ?_
  exact W.zret (v := bI (chgB L t)) hx hb hr (bI_narrow _) (fun t ht hW => ⟨rfl, ht⟩) (fun _ h => by cases h) dX0_changesAt_8
set_option maxHeartbeats 4000000 in
set_option maxRecDepth 100000 in
/-- onAt -/
theorem c_X0_onAt (l : Launch) (D : va_G) (cI cZ cL cJ : ClassId) (a an ao : Nat) (L : LV) (t : Nat) (ht : t < 2 ^ 25) (hwf : WFL 8 L) : Met l yX0_onAt wsX0_onAt ({ frames := 1, cells := 0, slots := 0, locals := 22 } : Room) (PC D (TY cI cZ cL cJ) noA [.ref a, .int (nI t)] (fun H => va_P D vwCl (lampW cI a an ao L) H)) (QcRead (bI (onB L t))) 0 0 (fun _ => False) := by
  refine Met.ofW (cc := cX0_onAt) (maxL := 4) (ret := (some .boolean)) (by decide) rfl ?_
  intro p e s m args below meth c s₁ B hml hv
  obtain ⟨rfl, hK, hE, hP⟩ := hv
  have hx := B.exec
  have hb := B.bytes
  have hr := B.returns
  have hts := atoms_spec (ws := wsX0_onAt) B.pre
  have hown : s.vm.findClass RX0 = some m.cls := findClass_of_methodNamed B.named
  have hlocks := B.notSynchronized
  have hNF := hE.2.1.1
  have hin0 : ∀ w ∈ wsX00, w ∈ wsX0_onAt := by decide +kernel
  have hl := lv_entry ([.ref a, .int (nI t)]) (n := 4) (Nat.le_of_ble_eq_true rfl)
  rw [lg_entry_eq]
  generalize (lg_sl ([.ref a, .int (nI t)]) ++ List.replicate (4 - (lg_sl ([.ref a, .int (nI t)])).length) Slot.unset).toArray = ls at hl ⊢
  have hl : lv_has ls 4 [(0, .ref a), (1, .int (nI t))] := hl
  refine lv_iconst (v := nI 0) hx hb dX0_onAt_0 (by decide) ?_
  refine lv_istore_n (lv' := [(2, .int (nI 0)), (0, .ref a), (1, .int (nI t))]) hx hb dX0_onAt_1 rfl hl (by decide) rfl (fun ls hl => ?_)
  refine lv_iconst (v := nI 0) hx hb dX0_onAt_2 (by decide) ?_
  refine lv_istore_n (lv' := [(3, .int (nI 0)), (2, .int (nI 0)), (0, .ref a), (1, .int (nI t))]) hx hb dX0_onAt_3 rfl hl (by decide) rfl (fun ls hl => ?_)
  have loop_4 : ∀ (fu : Nat) (i : Nat), lbc L + 1 - i ≤ fu → i ≤ lbc L → ∀ (ls : Array Slot), lv_has ls 4 [(3, .int (nI i)), (2, .int (nI (trn L t i))), (0, .ref a), (1, .int (nI t))] → W p l e (headSpec wsX0_onAt ({ frames := 1, cells := 0, slots := 0, locals := 22 } : Room)).room s m [.ref a, .int (nI t)].toArray below meth c s.heap [] 0 0 (MQ below (QcRead (bI (onB L t))) ([.ref a, .int (nI t)].toArray) s 0 0 (fun _ => False)) (F0 m 4 ls []) := by
    intro fu
    induction fu with
    | zero => intro i hn_4 hi; exact absurd hn_4 (by omega)
    | succ fu ih_4 =>
      intro i hn_4 hi ls hl
      have hwf1 := hwf.1
      refine lv_iload_n hx hb dX0_onAt_4 rfl (lv_at hl 0 rfl) ?_
      refine lv_aload_n hx hb dX0_onAt_5 rfl (lv_at hl 2 rfl) ?_
      refine va_get (D := D) (ci := 0) (v := .int (nI (lbc L))) (C := RX0) (T := TX0) (N := 5) hx hb hts hin0 hown hK hP 0 rfl rfl 2 (by decide) (hts (.fieldLink RX0 18 "LanternPrimes$Lamp" "beatCount" "I") (List.mem_of_getElem? (i := 1) rfl)) (fun _ h9 => h9) rfl dX0_onAt_6 ?_
      refine n_icmp_ge (a := i) (b := lbc L) (tgt := 37) hx hb (by omega) (by omega) dX0_onAt_9 (by decide) (fun c_9 => ?_) (fun c_9 => ?_)
      · refine lv_aload_n hx hb dX0_onAt_37 rfl (lv_at hl 2 rfl) ?_
        refine va_get (D := D) (ci := 0) (v := .int (bI (lon L))) (C := RX0) (T := TX0) (N := 5) hx hb hts hin0 hown hK hP 0 rfl rfl 3 (by decide) (hts (.fieldLink RX0 22 "LanternPrimes$Lamp" "onAtStart" "Z") (List.mem_of_getElem? (i := 4) rfl)) (fun _ h9 => h9) rfl dX0_onAt_38 ?_
        refine lv_iload_n hx hb dX0_onAt_41 rfl (lv_at hl 1 rfl) ?_
        refine rS (r := bI (decide (trn L t i % 2 = 1))) (As := [.int (nI (trn L t i))]) (rest := [.int (bI (lon L))]) ⟨hx, hb, hml, hown, hts⟩ (c_X0_isOdd l D cI cZ cL cJ (trn L t i) (trn_lt ht (by omega))) (va_cwS 1 hts gX0_onAt_X0_isOdd rfl rfl rfl (by decide +kernel) ⟨(Nat.le_of_ble_eq_true rfl), (Nat.le_of_ble_eq_true rfl)⟩) hK hE trivial rfl hl.1 rfl (Nat.le_of_ble_eq_true rfl) dX0_onAt_42 ⟨(Nat.le_of_ble_eq_true rfl), (Nat.le_of_ble_eq_true rfl)⟩ ?_
        refine lv_icmp_eq (tgt := 52) hx hb dX0_onAt_45 (by decide) (fun c_45 => ?_) (fun c_45 => ?_)
        · refine lv_iconst (v := nI 0) hx hb dX0_onAt_52 (by decide) ?_
          refine n_ti (y := bI (onB L t)) (by rw [show i = lbc L by omega] at c_45; first | exact bI_bne0 c_45 | exact bI_bne1 c_45) ?_
          exact W.zret (v := bI (onB L t)) hx hb hr (bI_narrow _) (fun t ht hW => ⟨rfl, ht⟩) (fun _ h => by cases h) dX0_onAt_53
        · refine lv_iconst (v := nI 1) hx hb dX0_onAt_48 (by decide) ?_
          refine lv_goto (tgt := 53) hx hb dX0_onAt_49 (by decide) ?_
          refine n_ti (y := bI (onB L t)) (by rw [show i = lbc L by omega] at c_45; first | exact bI_bne0 c_45 | exact bI_bne1 c_45) ?_
          exact W.zret (v := bI (onB L t)) hx hb hr (bI_narrow _) (fun t ht hW => ⟨rfl, ht⟩) (fun _ h => by cases h) dX0_onAt_53
      · refine lv_iload_n hx hb dX0_onAt_12 rfl (lv_at hl 1 rfl) ?_
        refine lv_iload_n hx hb dX0_onAt_13 rfl (lv_at hl 3 rfl) ?_
        refine lv_aload_n hx hb dX0_onAt_14 rfl (lv_at hl 2 rfl) ?_
        refine va_get (D := D) (ci := 0) (v := .ref an) (C := RX0) (T := TX0) (N := 5) hx hb hts hin0 hown hK hP 0 rfl rfl 0 (by decide) (hts (.fieldLink RX0 9 "LanternPrimes$Lamp" "numbers" "[I") (List.mem_of_getElem? (i := 2) rfl)) (fun _ h9 => h9) rfl dX0_onAt_15 ?_
        refine lv_iload_n hx hb dX0_onAt_18 rfl (lv_at hl 0 rfl) ?_
        refine n_iald (v := nI (lnu L i)) (j := i) hx hb hK hP 1 0 rfl rfl (by omega) (by decide) rfl dX0_onAt_19 ?_
        have hw := isP_le (hwf.2 i c_9).1
        have hw2 := (hwf.2 i c_9).2
        refine lv_aload_n hx hb dX0_onAt_20 rfl (lv_at hl 2 rfl) ?_
        refine va_get (D := D) (ci := 0) (v := .ref ao) (C := RX0) (T := TX0) (N := 5) hx hb hts hin0 hown hK hP 0 rfl rfl 1 (by decide) (hts (.fieldLink RX0 15 "LanternPrimes$Lamp" "offsets" "[I") (List.mem_of_getElem? (i := 3) rfl)) (fun _ h9 => h9) rfl dX0_onAt_21 ?_
        refine lv_iload_n hx hb dX0_onAt_24 rfl (lv_at hl 0 rfl) ?_
        refine n_iald (v := nI (lof L i)) (j := i) hx hb hK hP 2 0 rfl rfl (by omega) (by decide) rfl dX0_onAt_25 ?_
        refine rS (r := nI (sut t (lnu L i) (lof L i))) (As := [.int (nI t), .int (nI (lnu L i)), .int (nI (lof L i))]) (rest := [.int (nI (trn L t i))]) ⟨hx, hb, hml, hown, hts⟩ (c_X0_strikesUpTo l D cI cZ cL cJ t (lnu L i) (lof L i) ht (by omega) (by omega) hw2) (va_cwS 3 hts gX0_onAt_X0_strikesUpTo rfl rfl rfl (by decide +kernel) ⟨(Nat.le_of_ble_eq_true rfl), (Nat.le_of_ble_eq_true rfl)⟩) hK hE trivial rfl hl.1 rfl (Nat.le_of_ble_eq_true rfl) dX0_onAt_26 ⟨(Nat.le_of_ble_eq_true rfl), (Nat.le_of_ble_eq_true rfl)⟩ ?_
        refine n_iadd (v := nI (trn L t (i + 1))) hx hb dX0_onAt_29 (nI_add _ _) ?_
        refine lv_istore_n (lv' := [(2, .int (nI (trn L t (i + 1)))), (3, .int (nI i)), (0, .ref a), (1, .int (nI t))]) hx hb dX0_onAt_30 rfl hl (by decide) rfl (fun ls hl => ?_)
        refine lv_iinc (v := nI (i + 1)) (lv' := [(3, .int (nI (i + 1))), (2, .int (nI (trn L t (i + 1)))), (0, .ref a), (1, .int (nI t))]) hx hb dX0_onAt_31 hl (k := 1) rfl (nI_inc _) (by decide) rfl (fun ls hl => ?_)
        refine lv_goto (tgt := 4) hx hb dX0_onAt_34 (by decide) ?_
        exact ih_4 (i + 1) (by omega) (by omega) ls (lv_sub hl [0, 1, 2, 3] rfl)
  exact loop_4 (lbc L + 1) 0 (by omega) (Nat.zero_le _) ls (lv_sub hl [0, 1, 2, 3] rfl)
set_option maxHeartbeats 4000000 in
set_option maxRecDepth 100000 in
/-- litAt -/
theorem c_X0_litAt (l : Launch) (D : va_G) (cI cZ cL cJ : ClassId) (a an ao : Nat) (L : LV) (t : Nat) (ht : t < 2 ^ 25) (hwf : WFL 8 L) : Met l yX0_litAt wsX0_litAt ({ frames := 2, cells := 0, slots := 0, locals := 45 } : Room) (PC D (TY cI cZ cL cJ) noA [.ref a, .int (nI t)] (fun H => va_P D vwCl (lampW cI a an ao L) H)) (QcRead (bI (litB L t))) 0 0 (fun _ => False) := by
  refine Met.ofW (cc := cX0_litAt) (maxL := 2) (ret := (some .boolean)) (by decide) rfl ?_
  intro p e s m args below meth c s₁ B hml hv
  obtain ⟨rfl, hK, hE, hP⟩ := hv
  have hx := B.exec
  have hb := B.bytes
  have hr := B.returns
  have hts := atoms_spec (ws := wsX0_litAt) B.pre
  have hown : s.vm.findClass RX0 = some m.cls := findClass_of_methodNamed B.named
  have hlocks := B.notSynchronized
  have hNF := hE.2.1.1
  have hin0 : ∀ w ∈ wsX00, w ∈ wsX0_litAt := by decide +kernel
  have hl := lv_entry ([.ref a, .int (nI t)]) (n := 2) (Nat.le_of_ble_eq_true rfl)
  rw [lg_entry_eq]
  generalize (lg_sl ([.ref a, .int (nI t)]) ++ List.replicate (2 - (lg_sl ([.ref a, .int (nI t)])).length) Slot.unset).toArray = ls at hl ⊢
  have hl : lv_has ls 2 [(0, .ref a), (1, .int (nI t))] := hl
  refine lv_aload_n hx hb dX0_litAt_0 rfl (lv_at hl 0 rfl) ?_
  refine va_get (D := D) (ci := 0) (v := .int (bI (lcv L))) (C := RX0) (T := TX0) (N := 5) hx hb hts hin0 hown hK hP 0 rfl rfl 4 (by decide) (hts (.fieldLink RX0 42 "LanternPrimes$Lamp" "covered" "Z") (List.mem_of_getElem? (i := 1) rfl)) (fun _ h9 => h9) rfl dX0_litAt_1 ?_
  refine b_if_ne (b := lcv L) (tgt := 19) hx hb dX0_litAt_4 (by decide) (fun c_4 => ?_) (fun c_4 => ?_)
  · refine lv_iconst (v := nI 0) hx hb dX0_litAt_19 (by decide) ?_
    refine n_ti (y := bI (litB L t)) (by unfold litB; first | (rw [c_4]; rfl) | (rw [c_4, c_12]; rfl)) ?_
    exact W.zret (v := bI (litB L t)) hx hb hr (bI_narrow _) (fun t ht hW => ⟨rfl, ht⟩) (fun _ h => by cases h) dX0_litAt_20
  · refine lv_aload_n hx hb dX0_litAt_7 rfl (lv_at hl 0 rfl) ?_
    refine lv_iload_n hx hb dX0_litAt_8 rfl (lv_at hl 1 rfl) ?_
    refine rV (r := bI (onB L t)) (As := [.int (nI t)]) (rest := []) ⟨hx, hb, hml, hown, hts⟩ (c_X0_onAt l D cI cZ cL cJ a an ao L t ht hwf) (cwV 1 hts gX0_litAt_X0_onAt rfl rfl rfl (by decide +kernel) ⟨(Nat.le_of_ble_eq_true rfl), (Nat.le_of_ble_eq_true rfl)⟩) hK hE hP (RC_of (q := (RX0, TX0, 5)) (ci := 0) hK rfl (vpa hP 0 rfl)) rfl hl.1 rfl (Nat.le_of_ble_eq_true rfl) dX0_litAt_9 ⟨(Nat.le_of_ble_eq_true rfl), (Nat.le_of_ble_eq_true rfl)⟩ ?_
    refine b_if_eq (b := onB L t) (tgt := 19) hx hb dX0_litAt_12 (by decide) (fun c_12 => ?_) (fun c_12 => ?_)
    · refine lv_iconst (v := nI 0) hx hb dX0_litAt_19 (by decide) ?_
      refine n_ti (y := bI (litB L t)) (by unfold litB; first | (rw [c_4]; rfl) | (rw [c_4, c_12]; rfl)) ?_
      exact W.zret (v := bI (litB L t)) hx hb hr (bI_narrow _) (fun t ht hW => ⟨rfl, ht⟩) (fun _ h => by cases h) dX0_litAt_20
    · refine lv_iconst (v := nI 1) hx hb dX0_litAt_15 (by decide) ?_
      refine lv_goto (tgt := 20) hx hb dX0_litAt_16 (by decide) ?_
      refine n_ti (y := bI (litB L t)) (by unfold litB; first | (rw [c_4]; rfl) | (rw [c_4, c_12]; rfl)) ?_
      exact W.zret (v := bI (litB L t)) hx hb hr (bI_narrow _) (fun t ht hW => ⟨rfl, ht⟩) (fun _ h => by cases h) dX0_litAt_20
