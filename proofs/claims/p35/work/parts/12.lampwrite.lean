set_option maxHeartbeats 4000000 in
set_option maxRecDepth 100000 in
/-- append -/
theorem c_X0_append (l : Launch) (D : va_G) (cI cZ cL cJ : ClassId) (a an ao : Nat) (L : LV) (h12 : a ≠ an) (h13 : a ≠ ao) (h23 : an ≠ ao) (h8 : lbc L < 8) (n o : Nat) : Met l yX0_append wsX0_append ({ frames := 0, cells := 0, slots := 0, locals := 0 } : Room) (PC D (TY cI cZ cL cJ) (fun q => q ∈ [a, an, ao]) [.ref a, .int (nI n), .int (nI o)] (fun H => va_P D vwCl (lampW cI a an ao L) H)) (QWv (fun q => q ∈ [a, an, ao]) (fun H => va_P D vwCl (lampW cI a an ao (addL L n o)) H)) 0 0 (fun q => q ∈ [a, an, ao]) := by
  refine Met.ofW (cc := cX0_append) (maxL := 3) (ret := none) (by decide) rfl ?_
  intro p e s m args below meth c s₁ B hml hv
  obtain ⟨rfl, hK, hE, hP⟩ := hv
  have hD : va_D (fun q => q ∈ [a, an, ao]) (lampW cI a an ao L) := vd3 h12 h13 h23
  have hS : va_S (fun q => q ∈ [a, an, ao]) s.heap s.heap [] := va_S.rf
  have hx := B.exec
  have hb := B.bytes
  have hr := B.returns
  have hts := atoms_spec (ws := wsX0_append) B.pre
  have hown : s.vm.findClass RX0 = some m.cls := findClass_of_methodNamed B.named
  have hlocks := B.notSynchronized
  have hNF := hE.2.1.1
  have hin0 : ∀ w ∈ wsX00, w ∈ wsX0_append := by decide +kernel
  have hl := lv_entry ([.ref a, .int (nI n), .int (nI o)]) (n := 3) (Nat.le_of_ble_eq_true rfl)
  rw [lg_entry_eq]
  generalize (lg_sl ([.ref a, .int (nI n), .int (nI o)]) ++ List.replicate (3 - (lg_sl ([.ref a, .int (nI n), .int (nI o)])).length) Slot.unset).toArray = ls at hl ⊢
  have hl : lv_has ls 3 [(0, .ref a), (1, .int (nI n)), (2, .int (nI o))] := hl
  refine lv_aload_n hx hb dX0_append_0 rfl (lv_at hl 0 rfl) ?_
  refine va_get (D := D) (ci := 0) (v := .int (nI (lbc L))) (C := RX0) (T := TX0) (N := 5) hx hb hts hin0 hown hK hP 0 rfl rfl 2 (by decide) (hts (.fieldLink RX0 18 "LanternPrimes$Lamp" "beatCount" "I") (List.mem_of_getElem? (i := 1) rfl)) (fun _ h9 => h9) rfl dX0_append_1 ?_
  refine lv_bipush (v := nI 8) hx hb dX0_append_4 (by decide) ?_
  refine n_icmp_ge (a := lbc L) (b := 8) (tgt := 39) hx hb (by omega) (by omega) dX0_append_6 (by decide) (fun c_6 => ?_) (fun c_6 => ?_)
  · exact absurd c_6 (by omega)
  · refine lv_aload_n hx hb dX0_append_9 rfl (lv_at hl 0 rfl) ?_
    refine va_get (D := D) (ci := 0) (v := .ref an) (C := RX0) (T := TX0) (N := 5) hx hb hts hin0 hown hK hP 0 rfl rfl 0 (by decide) (hts (.fieldLink RX0 9 "LanternPrimes$Lamp" "numbers" "[I") (List.mem_of_getElem? (i := 2) rfl)) (fun _ h9 => h9) rfl dX0_append_10 ?_
    refine lv_aload_n hx hb dX0_append_13 rfl (lv_at hl 0 rfl) ?_
    refine va_get (D := D) (ci := 0) (v := .int (nI (lbc L))) (C := RX0) (T := TX0) (N := 5) hx hb hts hin0 hown hK hP 0 rfl rfl 2 (by decide) (hts (.fieldLink RX0 18 "LanternPrimes$Lamp" "beatCount" "I") (List.mem_of_getElem? (i := 1) rfl)) (fun _ h9 => h9) rfl dX0_append_14 ?_
    refine lv_iload_n hx hb dX0_append_17 rfl (lv_at hl 1 rfl) ?_
    refine n_iast (f' := fun i => nI (if i = lbc L then n else lnu L i)) (j := lbc L) hx hb hK hP hD hS 1 0 rfl rfl (by omega) (by decide) (updI _ _ _) dX0_append_18 (fun H locs hP hD hS => ?_)
    have hP : va_P D vwCl [(a, .inr (0, [.ref an, .ref ao, .int (nI (lbc L)), .int (bI (lon L)), .int (bI (lcv L))])), (an, .inl (cI, 8, .inl (fun i => nI (if i = lbc L then n else lnu L i)))), (ao, .inl (cI, 8, .inl (fun i => nI (lof L i))))] H := hP
    have hD : va_D (fun q => q ∈ [a, an, ao]) [(a, .inr (0, [.ref an, .ref ao, .int (nI (lbc L)), .int (bI (lon L)), .int (bI (lcv L))])), (an, .inl (cI, 8, .inl (fun i => nI (if i = lbc L then n else lnu L i)))), (ao, .inl (cI, 8, .inl (fun i => nI (lof L i))))] := hD
    refine lv_aload_n hx hb dX0_append_19 rfl (lv_at hl 0 rfl) ?_
    refine va_get (D := D) (ci := 0) (v := .ref ao) (C := RX0) (T := TX0) (N := 5) hx hb hts hin0 hown hK hP 0 rfl rfl 1 (by decide) (hts (.fieldLink RX0 15 "LanternPrimes$Lamp" "offsets" "[I") (List.mem_of_getElem? (i := 3) rfl)) (fun _ h9 => h9) rfl dX0_append_20 ?_
    refine lv_aload_n hx hb dX0_append_23 rfl (lv_at hl 0 rfl) ?_
    refine va_get (D := D) (ci := 0) (v := .int (nI (lbc L))) (C := RX0) (T := TX0) (N := 5) hx hb hts hin0 hown hK hP 0 rfl rfl 2 (by decide) (hts (.fieldLink RX0 18 "LanternPrimes$Lamp" "beatCount" "I") (List.mem_of_getElem? (i := 1) rfl)) (fun _ h9 => h9) rfl dX0_append_24 ?_
    refine lv_iload_n hx hb dX0_append_27 rfl (lv_at hl 2 rfl) ?_
    refine n_iast (f' := fun i => nI (if i = lbc L then o else lof L i)) (j := lbc L) hx hb hK hP hD hS 2 0 rfl rfl (by omega) (by decide) (updI _ _ _) dX0_append_28 (fun H locs hP hD hS => ?_)
    have hP : va_P D vwCl [(a, .inr (0, [.ref an, .ref ao, .int (nI (lbc L)), .int (bI (lon L)), .int (bI (lcv L))])), (an, .inl (cI, 8, .inl (fun i => nI (if i = lbc L then n else lnu L i)))), (ao, .inl (cI, 8, .inl (fun i => nI (if i = lbc L then o else lof L i))))] H := hP
    have hD : va_D (fun q => q ∈ [a, an, ao]) [(a, .inr (0, [.ref an, .ref ao, .int (nI (lbc L)), .int (bI (lon L)), .int (bI (lcv L))])), (an, .inl (cI, 8, .inl (fun i => nI (if i = lbc L then n else lnu L i)))), (ao, .inl (cI, 8, .inl (fun i => nI (if i = lbc L then o else lof L i))))] := hD
    refine lv_aload_n hx hb dX0_append_29 rfl (lv_at hl 0 rfl) ?_
    refine lv_dup hx hb dX0_append_30 rfl ?_
    refine va_get (D := D) (ci := 0) (v := .int (nI (lbc L))) (C := RX0) (T := TX0) (N := 5) hx hb hts hin0 hown hK hP 0 rfl rfl 2 (by decide) (hts (.fieldLink RX0 18 "LanternPrimes$Lamp" "beatCount" "I") (List.mem_of_getElem? (i := 1) rfl)) (fun _ h9 => h9) rfl dX0_append_31 ?_
    refine lv_iconst (v := nI 1) hx hb dX0_append_34 (by decide) ?_
    refine n_iadd (v := nI ((lbc L) + 1)) hx hb dX0_append_35 (nI_add _ _) ?_
    refine va_put (D := D) (ci := 0) (v := .int (nI ((lbc L) + 1))) (ty := .int) (C := RX0) (T := TX0) (N := 5) hx hb hts hin0 tyX0 tyX0_ok nmX0 hown hK hP hD hS 0 rfl rfl 2 (by decide) (hts (.fieldLink RX0 18 "LanternPrimes$Lamp" "beatCount" "I") (List.mem_of_getElem? (i := 1) rfl)) (fun _ h9 => h9) rfl (by decide +kernel) rfl rfl (Nat.le_of_ble_eq_true rfl) dX0_append_36 (fun H locs hP hD hS => ?_)
    have hP : va_P D vwCl [(a, .inr (0, [.ref an, .ref ao, .int (nI ((lbc L) + 1)), .int (bI (lon L)), .int (bI (lcv L))])), (an, .inl (cI, 8, .inl (fun i => nI (if i = lbc L then n else lnu L i)))), (ao, .inl (cI, 8, .inl (fun i => nI (if i = lbc L then o else lof L i))))] H := hP
    have hD : va_D (fun q => q ∈ [a, an, ao]) [(a, .inr (0, [.ref an, .ref ao, .int (nI ((lbc L) + 1)), .int (bI (lon L)), .int (bI (lcv L))])), (an, .inl (cI, 8, .inl (fun i => nI (if i = lbc L then n else lnu L i)))), (ao, .inl (cI, 8, .inl (fun i => nI (if i = lbc L then o else lof L i))))] := hD
    exact W.vret hx hb hr (fun t ht hW => ⟨rfl, by rw [ht]; exact hP, hS.F ht⟩) hS.2.2 dX0_append_39
set_option maxHeartbeats 4000000 in
set_option maxRecDepth 100000 in
/-- remove -/
theorem c_X0_remove (l : Launch) (D : va_G) (cI cZ cL cJ : ClassId) (a an ao : Nat) (L : LV) (h12 : a ≠ an) (h13 : a ≠ ao) (h23 : an ≠ ao) (h8 : lbc L ≤ 8) (b : Nat) (hb8 : b < lbc L) : Met l yX0_remove wsX0_remove ({ frames := 0, cells := 0, slots := 0, locals := 0 } : Room) (PC D (TY cI cZ cL cJ) (fun q => q ∈ [a, an, ao]) [.ref a, .int (nI b)] (fun H => va_P D vwCl (lampW cI a an ao L) H)) (QWv (fun q => q ∈ [a, an, ao]) (fun H => va_P D vwCl (lampW cI a an ao (remL L b)) H)) 0 0 (fun q => q ∈ [a, an, ao]) := by
  refine Met.ofW (cc := cX0_remove) (maxL := 3) (ret := none) (by decide) rfl ?_
  intro p e s m args below meth c s₁ B hml hv
  obtain ⟨rfl, hK, hE, hP⟩ := hv
  have hD : va_D (fun q => q ∈ [a, an, ao]) (lampW cI a an ao L) := vd3 h12 h13 h23
  have hS : va_S (fun q => q ∈ [a, an, ao]) s.heap s.heap [] := va_S.rf
  have hx := B.exec
  have hb := B.bytes
  have hr := B.returns
  have hts := atoms_spec (ws := wsX0_remove) B.pre
  have hown : s.vm.findClass RX0 = some m.cls := findClass_of_methodNamed B.named
  have hlocks := B.notSynchronized
  have hNF := hE.2.1.1
  have hin0 : ∀ w ∈ wsX00, w ∈ wsX0_remove := by decide +kernel
  have hl := lv_entry ([.ref a, .int (nI b)]) (n := 3) (Nat.le_of_ble_eq_true rfl)
  rw [lg_entry_eq]
  generalize (lg_sl ([.ref a, .int (nI b)]) ++ List.replicate (3 - (lg_sl ([.ref a, .int (nI b)])).length) Slot.unset).toArray = ls at hl ⊢
  have hl : lv_has ls 3 [(0, .ref a), (1, .int (nI b))] := hl
  refine lv_iload_n hx hb dX0_remove_0 rfl (lv_at hl 1 rfl) ?_
  refine lv_iconst (v := nI 1) hx hb dX0_remove_1 (by decide) ?_
  refine n_iadd (v := nI (b + 1)) hx hb dX0_remove_2 (nI_add _ _) ?_
  refine lv_istore_n (lv' := [(2, .int (nI (b + 1))), (0, .ref a), (1, .int (nI b))]) hx hb dX0_remove_3 rfl hl (by decide) rfl (fun ls hl => ?_)
  have loop_4 : ∀ (fu : Nat) (i : Nat), lbc L + 1 - i ≤ fu → b + 1 ≤ i → i ≤ lbc L → ∀ (H : Heap) (locs : List Loc), va_P D vwCl [(a, .inr (0, [.ref an, .ref ao, .int (nI (lbc L)), .int (bI (lon L)), .int (bI (lcv L))])), (an, .inl (cI, 8, .inl (fun j => nI (shf (lnu L) b i j)))), (ao, .inl (cI, 8, .inl (fun j => nI (shf (lof L) b i j))))] H → va_D (fun q => q ∈ [a, an, ao]) [(a, .inr (0, [.ref an, .ref ao, .int (nI (lbc L)), .int (bI (lon L)), .int (bI (lcv L))])), (an, .inl (cI, 8, .inl (fun j => nI (shf (lnu L) b i j)))), (ao, .inl (cI, 8, .inl (fun j => nI (shf (lof L) b i j))))] → va_S (fun q => q ∈ [a, an, ao]) s.heap H locs → ∀ (ls : Array Slot), lv_has ls 3 [(2, .int (nI i)), (0, .ref a), (1, .int (nI b))] → W p l e (headSpec wsX0_remove ({ frames := 0, cells := 0, slots := 0, locals := 0 } : Room)).room s m [.ref a, .int (nI b)].toArray below meth c H locs 0 0 (MQ below (QWv (fun q => q ∈ [a, an, ao]) (fun H => va_P D vwCl (lampW cI a an ao (remL L b)) H)) ([.ref a, .int (nI b)].toArray) s 0 0 (fun q => q ∈ [a, an, ao])) (F0 m 4 ls []) := by
    intro fu
    induction fu with
    | zero => intro i hn_4 hi1 hi2; exact absurd hn_4 (by omega)
    | succ fu ih_4 =>
      intro i hn_4 hi1 hi2 H locs hP hD hS ls hl
      refine lv_iload_n hx hb dX0_remove_4 rfl (lv_at hl 0 rfl) ?_
      refine lv_aload_n hx hb dX0_remove_5 rfl (lv_at hl 1 rfl) ?_
      refine va_get (D := D) (ci := 0) (v := .int (nI (lbc L))) (C := RX0) (T := TX0) (N := 5) hx hb hts hin0 hown hK hP 0 rfl rfl 2 (by decide) (hts (.fieldLink RX0 18 "LanternPrimes$Lamp" "beatCount" "I") (List.mem_of_getElem? (i := 1) rfl)) (fun _ h9 => h9) rfl dX0_remove_6 ?_
      refine n_icmp_ge (a := i) (b := lbc L) (tgt := 46) hx hb (by omega) (by omega) dX0_remove_9 (by decide) (fun c_9 => ?_) (fun c_9 => ?_)
      · refine lv_aload_n hx hb dX0_remove_46 rfl (lv_at hl 1 rfl) ?_
        refine lv_dup hx hb dX0_remove_47 rfl ?_
        refine va_get (D := D) (ci := 0) (v := .int (nI (lbc L))) (C := RX0) (T := TX0) (N := 5) hx hb hts hin0 hown hK hP 0 rfl rfl 2 (by decide) (hts (.fieldLink RX0 18 "LanternPrimes$Lamp" "beatCount" "I") (List.mem_of_getElem? (i := 1) rfl)) (fun _ h9 => h9) rfl dX0_remove_48 ?_
        refine lv_iconst (v := nI 1) hx hb dX0_remove_51 (by decide) ?_
        refine n_isub (v := nI ((lbc L) - 1)) hx hb dX0_remove_52 (pk_sub (by omega)) ?_
        refine va_put (D := D) (ci := 0) (v := .int (nI ((lbc L) - 1))) (ty := .int) (C := RX0) (T := TX0) (N := 5) hx hb hts hin0 tyX0 tyX0_ok nmX0 hown hK hP hD hS 0 rfl rfl 2 (by decide) (hts (.fieldLink RX0 18 "LanternPrimes$Lamp" "beatCount" "I") (List.mem_of_getElem? (i := 1) rfl)) (fun _ h9 => h9) rfl (by decide +kernel) rfl rfl (Nat.le_of_ble_eq_true rfl) dX0_remove_53 (fun H locs hP hD hS => ?_)
        have hP : va_P D vwCl [(a, .inr (0, [.ref an, .ref ao, .int (nI ((lbc L) - 1)), .int (bI (lon L)), .int (bI (lcv L))])), (an, .inl (cI, 8, .inl (fun j => nI (shf (lnu L) b i j)))), (ao, .inl (cI, 8, .inl (fun j => nI (shf (lof L) b i j))))] H := hP
        have hD : va_D (fun q => q ∈ [a, an, ao]) [(a, .inr (0, [.ref an, .ref ao, .int (nI ((lbc L) - 1)), .int (bI (lon L)), .int (bI (lcv L))])), (an, .inl (cI, 8, .inl (fun j => nI (shf (lnu L) b i j)))), (ao, .inl (cI, 8, .inl (fun j => nI (shf (lof L) b i j))))] := hD
        obtain rfl : i = lbc L := by omega
        exact W.vret hx hb hr (fun t ht hW => ⟨rfl, by rw [ht]; exact hP, hS.F ht⟩) hS.2.2 dX0_remove_56
      · refine lv_aload_n hx hb dX0_remove_12 rfl (lv_at hl 1 rfl) ?_
        refine va_get (D := D) (ci := 0) (v := .ref an) (C := RX0) (T := TX0) (N := 5) hx hb hts hin0 hown hK hP 0 rfl rfl 0 (by decide) (hts (.fieldLink RX0 9 "LanternPrimes$Lamp" "numbers" "[I") (List.mem_of_getElem? (i := 2) rfl)) (fun _ h9 => h9) rfl dX0_remove_13 ?_
        refine lv_iload_n hx hb dX0_remove_16 rfl (lv_at hl 0 rfl) ?_
        refine lv_iconst (v := nI 1) hx hb dX0_remove_17 (by decide) ?_
        refine n_isub (v := nI (i - 1)) hx hb dX0_remove_18 (pk_sub (by omega)) ?_
        refine lv_aload_n hx hb dX0_remove_19 rfl (lv_at hl 1 rfl) ?_
        refine va_get (D := D) (ci := 0) (v := .ref an) (C := RX0) (T := TX0) (N := 5) hx hb hts hin0 hown hK hP 0 rfl rfl 0 (by decide) (hts (.fieldLink RX0 9 "LanternPrimes$Lamp" "numbers" "[I") (List.mem_of_getElem? (i := 2) rfl)) (fun _ h9 => h9) rfl dX0_remove_20 ?_
        refine lv_iload_n hx hb dX0_remove_23 rfl (lv_at hl 0 rfl) ?_
        refine n_iald (v := nI (lnu L i)) (j := i) hx hb hK hP 1 0 rfl rfl (by omega) (by decide) (by show nI (shf (lnu L) b i i) = _; rw [shf_i]) dX0_remove_24 ?_
        refine n_iast (f' := fun j => nI (shf (lnu L) b (i + 1) j)) (j := i - 1) hx hb hK hP hD hS 1 0 rfl rfl (by omega) (by decide) (by rw [updI]; exact congrArg (fun g => fun j => nI (g j)) (shf_s (lnu L) b i (by omega))) dX0_remove_25 (fun H locs hP hD hS => ?_)
        have hP : va_P D vwCl [(a, .inr (0, [.ref an, .ref ao, .int (nI (lbc L)), .int (bI (lon L)), .int (bI (lcv L))])), (an, .inl (cI, 8, .inl (fun j => nI (shf (lnu L) b (i + 1) j)))), (ao, .inl (cI, 8, .inl (fun j => nI (shf (lof L) b i j))))] H := hP
        have hD : va_D (fun q => q ∈ [a, an, ao]) [(a, .inr (0, [.ref an, .ref ao, .int (nI (lbc L)), .int (bI (lon L)), .int (bI (lcv L))])), (an, .inl (cI, 8, .inl (fun j => nI (shf (lnu L) b (i + 1) j)))), (ao, .inl (cI, 8, .inl (fun j => nI (shf (lof L) b i j))))] := hD
        refine lv_aload_n hx hb dX0_remove_26 rfl (lv_at hl 1 rfl) ?_
        refine va_get (D := D) (ci := 0) (v := .ref ao) (C := RX0) (T := TX0) (N := 5) hx hb hts hin0 hown hK hP 0 rfl rfl 1 (by decide) (hts (.fieldLink RX0 15 "LanternPrimes$Lamp" "offsets" "[I") (List.mem_of_getElem? (i := 3) rfl)) (fun _ h9 => h9) rfl dX0_remove_27 ?_
        refine lv_iload_n hx hb dX0_remove_30 rfl (lv_at hl 0 rfl) ?_
        refine lv_iconst (v := nI 1) hx hb dX0_remove_31 (by decide) ?_
        refine n_isub (v := nI (i - 1)) hx hb dX0_remove_32 (pk_sub (by omega)) ?_
        refine lv_aload_n hx hb dX0_remove_33 rfl (lv_at hl 1 rfl) ?_
        refine va_get (D := D) (ci := 0) (v := .ref ao) (C := RX0) (T := TX0) (N := 5) hx hb hts hin0 hown hK hP 0 rfl rfl 1 (by decide) (hts (.fieldLink RX0 15 "LanternPrimes$Lamp" "offsets" "[I") (List.mem_of_getElem? (i := 3) rfl)) (fun _ h9 => h9) rfl dX0_remove_34 ?_
        refine lv_iload_n hx hb dX0_remove_37 rfl (lv_at hl 0 rfl) ?_
        refine n_iald (v := nI (lof L i)) (j := i) hx hb hK hP 2 0 rfl rfl (by omega) (by decide) (by show nI (shf (lof L) b i i) = _; rw [shf_i]) dX0_remove_38 ?_
        refine n_iast (f' := fun j => nI (shf (lof L) b (i + 1) j)) (j := i - 1) hx hb hK hP hD hS 2 0 rfl rfl (by omega) (by decide) (by rw [updI]; exact congrArg (fun g => fun j => nI (g j)) (shf_s (lof L) b i (by omega))) dX0_remove_39 (fun H locs hP hD hS => ?_)
        have hP : va_P D vwCl [(a, .inr (0, [.ref an, .ref ao, .int (nI (lbc L)), .int (bI (lon L)), .int (bI (lcv L))])), (an, .inl (cI, 8, .inl (fun j => nI (shf (lnu L) b (i + 1) j)))), (ao, .inl (cI, 8, .inl (fun j => nI (shf (lof L) b (i + 1) j))))] H := hP
        have hD : va_D (fun q => q ∈ [a, an, ao]) [(a, .inr (0, [.ref an, .ref ao, .int (nI (lbc L)), .int (bI (lon L)), .int (bI (lcv L))])), (an, .inl (cI, 8, .inl (fun j => nI (shf (lnu L) b (i + 1) j)))), (ao, .inl (cI, 8, .inl (fun j => nI (shf (lof L) b (i + 1) j))))] := hD
        refine lv_iinc (v := nI (i + 1)) (lv' := [(2, .int (nI (i + 1))), (0, .ref a), (1, .int (nI b))]) hx hb dX0_remove_40 hl (k := 0) rfl (nI_inc _) (by decide) rfl (fun ls hl => ?_)
        refine lv_goto (tgt := 4) hx hb dX0_remove_43 (by decide) ?_
        exact ih_4 (i + 1) (by omega) (by omega) (by omega) _ _ hP hD hS ls (lv_sub hl [0, 1, 2] rfl)
  exact loop_4 (lbc L + 1) (b + 1) (by omega) (by omega) (by omega) _ _ (by rw [shf_0, shf_0]; exact hP) (by rw [shf_0, shf_0]; exact hD) hS ls (lv_sub hl [0, 1, 2] rfl)
set_option maxHeartbeats 4000000 in
set_option maxRecDepth 100000 in
/-- appendBeatsOf -/
theorem c_X0_appendBeatsOf (l : Launch) (D : va_G) (cI cZ cL cJ : ClassId) (a an ao : Nat) (L : LV) (ob obn obo : Nat) (O : LV) (h12 : a ≠ an) (h13 : a ≠ ao) (h23 : an ≠ ao) (hno : ∀ x ∈ [ob, obn, obo], ¬ x ∈ [a, an, ao]) (h8 : lbc L + lbc O ≤ 8) : Met l yX0_appendBeatsOf wsX0_appendBeatsOf ({ frames := 1, cells := 0, slots := 0, locals := 22 } : Room) (PC D (TY cI cZ cL cJ) (fun q => q ∈ [a, an, ao]) [.ref a, .ref ob] (fun H => va_P D vwCl (lampW cI a an ao L) H ∧ va_P D vwCl (lampW cI ob obn obo O) H)) (QWv (fun q => q ∈ [a, an, ao]) (fun H => va_P D vwCl (lampW cI a an ao (appK L O (lbc O))) H)) 0 0 (fun q => q ∈ [a, an, ao]) := by
  refine Met.ofW (cc := cX0_appendBeatsOf) (maxL := 3) (ret := none) (by decide) rfl ?_
  intro p e s m args below meth c s₁ B hml hv
  obtain ⟨rfl, hK, hE, hP, hPO⟩ := hv
  have hD : va_D (fun q => q ∈ [a, an, ao]) (lampW cI a an ao L) := vd3 h12 h13 h23
  have hS : va_S (fun q => q ∈ [a, an, ao]) s.heap s.heap [] := va_S.rf
  have hx := B.exec
  have hb := B.bytes
  have hr := B.returns
  have hts := atoms_spec (ws := wsX0_appendBeatsOf) B.pre
  have hown : s.vm.findClass RX0 = some m.cls := findClass_of_methodNamed B.named
  have hlocks := B.notSynchronized
  have hNF := hE.2.1.1
  have hin0 : ∀ w ∈ wsX00, w ∈ wsX0_appendBeatsOf := by decide +kernel
  have hl := lv_entry ([.ref a, .ref ob]) (n := 3) (Nat.le_of_ble_eq_true rfl)
  rw [lg_entry_eq]
  generalize (lg_sl ([.ref a, .ref ob]) ++ List.replicate (3 - (lg_sl ([.ref a, .ref ob])).length) Slot.unset).toArray = ls at hl ⊢
  have hl : lv_has ls 3 [(0, .ref a), (1, .ref ob)] := hl
  refine lv_iconst (v := nI 0) hx hb dX0_appendBeatsOf_0 (by decide) ?_
  refine lv_istore_n (lv' := [(2, .int (nI 0)), (0, .ref a), (1, .ref ob)]) hx hb dX0_appendBeatsOf_1 rfl hl (by decide) rfl (fun ls hl => ?_)
  have loop_2 : ∀ (fu : Nat) (i : Nat), lbc O + 1 - i ≤ fu → i ≤ lbc O → ∀ (H : Heap) (locs : List Loc), va_P D vwCl (lampW cI a an ao (appK L O i)) H → va_D (fun q => q ∈ [a, an, ao]) (lampW cI a an ao (appK L O i)) → va_S (fun q => q ∈ [a, an, ao]) s.heap H locs → ∀ (ls : Array Slot), lv_has ls 3 [(2, .int (nI i)), (0, .ref a), (1, .ref ob)] → W p l e (headSpec wsX0_appendBeatsOf ({ frames := 1, cells := 0, slots := 0, locals := 22 } : Room)).room s m [.ref a, .ref ob].toArray below meth c H locs 0 0 (MQ below (QWv (fun q => q ∈ [a, an, ao]) (fun H => va_P D vwCl (lampW cI a an ao (appK L O (lbc O))) H)) ([.ref a, .ref ob].toArray) s 0 0 (fun q => q ∈ [a, an, ao])) (F0 m 2 ls []) := by
    intro fu
    induction fu with
    | zero => intro i hn_2 hi; exact absurd hn_2 (by omega)
    | succ fu ih_2 =>
      intro i hn_2 hi H locs hP hD hS ls hl
      have hQ := lampKeep hPO hno hS.2.1
      refine lv_iload_n hx hb dX0_appendBeatsOf_2 rfl (lv_at hl 0 rfl) ?_
      refine lv_aload_n hx hb dX0_appendBeatsOf_3 rfl (lv_at hl 2 rfl) ?_
      refine va_get (D := D) (ci := 0) (v := .int (nI (lbc O))) (C := RX0) (T := TX0) (N := 5) hx hb hts hin0 hown hK hQ 0 rfl rfl 2 (by decide) (hts (.fieldLink RX0 18 "LanternPrimes$Lamp" "beatCount" "I") (List.mem_of_getElem? (i := 1) rfl)) (fun _ h9 => h9) rfl dX0_appendBeatsOf_4 ?_
      refine n_icmp_ge (a := i) (b := lbc O) (tgt := 32) hx hb (by omega) (by omega) dX0_appendBeatsOf_7 (by decide) (fun c_7 => ?_) (fun c_7 => ?_)
      · obtain rfl : i = lbc O := by omega
        exact W.vret hx hb hr (fun t ht hW => ⟨rfl, by rw [ht]; exact hP, hS.F ht⟩) hS.2.2 dX0_appendBeatsOf_32
      · refine lv_aload_n hx hb dX0_appendBeatsOf_10 rfl (lv_at hl 1 rfl) ?_
        refine lv_aload_n hx hb dX0_appendBeatsOf_11 rfl (lv_at hl 2 rfl) ?_
        refine va_get (D := D) (ci := 0) (v := .ref obn) (C := RX0) (T := TX0) (N := 5) hx hb hts hin0 hown hK hQ 0 rfl rfl 0 (by decide) (hts (.fieldLink RX0 9 "LanternPrimes$Lamp" "numbers" "[I") (List.mem_of_getElem? (i := 2) rfl)) (fun _ h9 => h9) rfl dX0_appendBeatsOf_12 ?_
        refine lv_iload_n hx hb dX0_appendBeatsOf_15 rfl (lv_at hl 0 rfl) ?_
        refine n_iald (v := nI (lnu O i)) (j := i) hx hb hK hQ 1 0 rfl rfl (by omega) (by decide) rfl dX0_appendBeatsOf_16 ?_
        refine lv_aload_n hx hb dX0_appendBeatsOf_17 rfl (lv_at hl 2 rfl) ?_
        refine va_get (D := D) (ci := 0) (v := .ref obo) (C := RX0) (T := TX0) (N := 5) hx hb hts hin0 hown hK hQ 0 rfl rfl 1 (by decide) (hts (.fieldLink RX0 15 "LanternPrimes$Lamp" "offsets" "[I") (List.mem_of_getElem? (i := 3) rfl)) (fun _ h9 => h9) rfl dX0_appendBeatsOf_18 ?_
        refine lv_iload_n hx hb dX0_appendBeatsOf_21 rfl (lv_at hl 0 rfl) ?_
        refine n_iald (v := nI (lof O i)) (j := i) hx hb hK hQ 2 0 rfl rfl (by omega) (by decide) rfl dX0_appendBeatsOf_22 ?_
        refine wVv (As := [.int (nI (lnu O i)), .int (nI (lof O i))]) (rest := []) ⟨hx, hb, hml, hown, hts⟩ (c_X0_append l D cI cZ cL cJ a an ao (appK L O i) h12 h13 h23 (by rw [appK_bc]; omega) (lnu O i) (lof O i)) (cwV 2 hts gX0_appendBeatsOf_X0_append rfl rfl rfl (by decide +kernel) ⟨(Nat.le_of_ble_eq_true rfl), (Nat.le_of_ble_eq_true rfl)⟩) hK (hE.kept hS.2.1) hP (RC_of (q := (RX0, TX0, 5)) (ci := 0) hK rfl (vpa hP 0 rfl)) rfl hl.1 rfl (Nat.le_of_ble_eq_true rfl) dX0_appendBeatsOf_23 ⟨(Nat.le_of_ble_eq_true rfl), (Nat.le_of_ble_eq_true rfl)⟩ hS (fun q h => h) (fun H locs hP _ hk hS => ?_)
        have hD : va_D (fun q => q ∈ [a, an, ao]) (lampW cI a an ao (appK L O (i + 1))) := vd3 h12 h13 h23
        refine lv_iinc (v := nI (i + 1)) (lv' := [(2, .int (nI (i + 1))), (0, .ref a), (1, .ref ob)]) hx hb dX0_appendBeatsOf_26 hl (k := 0) rfl (nI_inc _) (by decide) rfl (fun ls hl => ?_)
        refine lv_goto (tgt := 2) hx hb dX0_appendBeatsOf_29 (by decide) ?_
        exact ih_2 (i + 1) (by omega) (by omega) _ _ hP hD hS ls (lv_sub hl [0, 1, 2] rfl)
  exact loop_2 (lbc O + 1) 0 (by omega) (by omega) _ _ hP hD hS ls (lv_sub hl [0, 1, 2] rfl)
set_option maxHeartbeats 4000000 in
set_option maxRecDepth 100000 in
/-- becomeDifference -/
theorem c_X0_becomeDifference (l : Launch) (D : va_G) (cI cZ cL cJ : ClassId) (a an ao : Nat) (L : LV) (pb pbn pbo : Nat) (P : LV) (ob obn obo : Nat) (O : LV) (h12 : a ≠ an) (h13 : a ≠ ao) (h23 : an ≠ ao) (hnp : ∀ x ∈ [pb, pbn, pbo], ¬ x ∈ [a, an, ao]) (hno : ∀ x ∈ [ob, obn, obo], ¬ x ∈ [a, an, ao]) (h8 : lbc P + lbc O ≤ 8) : Met l yX0_becomeDifference wsX0_becomeDifference ({ frames := 2, cells := 0, slots := 0, locals := 44 } : Room) (PC D (TY cI cZ cL cJ) (fun q => q ∈ [a, an, ao]) [.ref a, .ref pb, .ref ob] (fun H => va_P D vwCl (lampW cI a an ao L) H ∧ va_P D vwCl (lampW cI pb pbn pbo P) H ∧ va_P D vwCl (lampW cI ob obn obo O) H)) (QWv (fun q => q ∈ [a, an, ao]) (fun H => va_P D vwCl (lampW cI a an ao (diffL L P O)) H)) 0 0 (fun q => q ∈ [a, an, ao]) := by
  refine Met.ofW (cc := cX0_becomeDifference) (maxL := 3) (ret := none) (by decide) rfl ?_
  intro p e s m args below meth c s₁ B hml hv
  obtain ⟨rfl, hK, hE, hP, hPP, hPO⟩ := hv
  have hD : va_D (fun q => q ∈ [a, an, ao]) (lampW cI a an ao L) := vd3 h12 h13 h23
  have hS : va_S (fun q => q ∈ [a, an, ao]) s.heap s.heap [] := va_S.rf
  have hx := B.exec
  have hb := B.bytes
  have hr := B.returns
  have hts := atoms_spec (ws := wsX0_becomeDifference) B.pre
  have hown : s.vm.findClass RX0 = some m.cls := findClass_of_methodNamed B.named
  have hlocks := B.notSynchronized
  have hNF := hE.2.1.1
  have hin0 : ∀ w ∈ wsX00, w ∈ wsX0_becomeDifference := by decide +kernel
  have hl := lv_entry ([.ref a, .ref pb, .ref ob]) (n := 3) (Nat.le_of_ble_eq_true rfl)
  rw [lg_entry_eq]
  generalize (lg_sl ([.ref a, .ref pb, .ref ob]) ++ List.replicate (3 - (lg_sl ([.ref a, .ref pb, .ref ob])).length) Slot.unset).toArray = ls at hl ⊢
  have hl : lv_has ls 3 [(0, .ref a), (1, .ref pb), (2, .ref ob)] := hl
  refine lv_aload_n hx hb dX0_becomeDifference_0 rfl (lv_at hl 0 rfl) ?_
  have join_17 : ∀ (ls : Array Slot), lv_has ls 3 [(0, .ref a), (1, .ref pb), (2, .ref ob)] → W p l e (headSpec wsX0_becomeDifference ({ frames := 2, cells := 0, slots := 0, locals := 44 } : Room)).room s m [.ref a, .ref pb, .ref ob].toArray below meth c s.heap [] 0 0 (MQ below (QWv (fun q => q ∈ [a, an, ao]) (fun H => va_P D vwCl (lampW cI a an ao (diffL L P O)) H)) ([.ref a, .ref pb, .ref ob].toArray) s 0 0 (fun q => q ∈ [a, an, ao])) (F0 m 17 ls [.int (bI (lon P != lon O)), .ref a]) := by
    intro   ls hl
    refine va_put (D := D) (ci := 0) (v := .int (bI (lon P != lon O))) (ty := .boolean) (C := RX0) (T := TX0) (N := 5) hx hb hts hin0 tyX0 tyX0_ok nmX0 hown hK hP hD hS 0 rfl rfl 3 (by decide) (hts (.fieldLink RX0 22 "LanternPrimes$Lamp" "onAtStart" "Z") (List.mem_of_getElem? (i := 1) rfl)) (fun _ h9 => h9) rfl (by decide +kernel) (bI_narrow _) (bI_fits _) (Nat.le_of_ble_eq_true rfl) dX0_becomeDifference_17 (fun H locs hP hD hS => ?_)
    have hP : va_P D vwCl [(a, .inr (0, [.ref an, .ref ao, .int (nI (lbc L)), .int (bI (lon P != lon O)), .int (bI (lcv L))])), (an, .inl (cI, 8, .inl (fun i => nI (lnu L i)))), (ao, .inl (cI, 8, .inl (fun i => nI (lof L i))))] H := hP
    have hD : va_D (fun q => q ∈ [a, an, ao]) [(a, .inr (0, [.ref an, .ref ao, .int (nI (lbc L)), .int (bI (lon P != lon O)), .int (bI (lcv L))])), (an, .inl (cI, 8, .inl (fun i => nI (lnu L i)))), (ao, .inl (cI, 8, .inl (fun i => nI (lof L i))))] := hD
    refine lv_aload_n hx hb dX0_becomeDifference_20 rfl (lv_at hl 0 rfl) ?_
    refine lv_iconst (v := nI 0) hx hb dX0_becomeDifference_21 (by decide) ?_
    refine va_put (D := D) (ci := 0) (v := .int (nI 0)) (ty := .int) (C := RX0) (T := TX0) (N := 5) hx hb hts hin0 tyX0 tyX0_ok nmX0 hown hK hP hD hS 0 rfl rfl 2 (by decide) (hts (.fieldLink RX0 18 "LanternPrimes$Lamp" "beatCount" "I") (List.mem_of_getElem? (i := 2) rfl)) (fun _ h9 => h9) rfl (by decide +kernel) rfl rfl (Nat.le_of_ble_eq_true rfl) dX0_becomeDifference_22 (fun H locs hP hD hS => ?_)
    have hP : va_P D vwCl [(a, .inr (0, [.ref an, .ref ao, .int (nI 0), .int (bI (lon P != lon O)), .int (bI (lcv L))])), (an, .inl (cI, 8, .inl (fun i => nI (lnu L i)))), (ao, .inl (cI, 8, .inl (fun i => nI (lof L i))))] H := hP
    have hD : va_D (fun q => q ∈ [a, an, ao]) [(a, .inr (0, [.ref an, .ref ao, .int (nI 0), .int (bI (lon P != lon O)), .int (bI (lcv L))])), (an, .inl (cI, 8, .inl (fun i => nI (lnu L i)))), (ao, .inl (cI, 8, .inl (fun i => nI (lof L i))))] := hD
    refine lv_aload_n hx hb dX0_becomeDifference_25 rfl (lv_at hl 0 rfl) ?_
    refine lv_aload_n hx hb dX0_becomeDifference_26 rfl (lv_at hl 1 rfl) ?_
    refine wVv (As := [.ref pb]) (rest := []) ⟨hx, hb, hml, hown, hts⟩ (c_X0_appendBeatsOf l D cI cZ cL cJ a an ao (0, lnu L, lof L, lon P != lon O, lcv L) pb pbn pbo P h12 h13 h23 hnp (by show 0 + lbc P ≤ 8; omega)) (cwV 1 hts gX0_becomeDifference_X0_appendBeatsOf rfl rfl rfl (by decide +kernel) ⟨(Nat.le_of_ble_eq_true rfl), (Nat.le_of_ble_eq_true rfl)⟩) hK (hE.kept hS.2.1) ⟨hP, lampKeep hPP hnp hS.2.1⟩ (RC_of (q := (RX0, TX0, 5)) (ci := 0) hK rfl (vpa hP 0 rfl)) rfl hl.1 rfl (Nat.le_of_ble_eq_true rfl) dX0_becomeDifference_27 ⟨(Nat.le_of_ble_eq_true rfl), (Nat.le_of_ble_eq_true rfl)⟩ hS (fun q h => h) (fun H locs hP _ hk hS => ?_)
    have hD : va_D (fun q => q ∈ [a, an, ao]) (lampW cI a an ao (appK (0, lnu L, lof L, lon P != lon O, lcv L) P (lbc P))) := vd3 h12 h13 h23
    refine lv_aload_n hx hb dX0_becomeDifference_30 rfl (lv_at hl 0 rfl) ?_
    refine lv_aload_n hx hb dX0_becomeDifference_31 rfl (lv_at hl 2 rfl) ?_
    refine wVv (As := [.ref ob]) (rest := []) ⟨hx, hb, hml, hown, hts⟩ (c_X0_appendBeatsOf l D cI cZ cL cJ a an ao (appK (0, lnu L, lof L, lon P != lon O, lcv L) P (lbc P)) ob obn obo O h12 h13 h23 hno (by rw [appK_bc]; show 0 + lbc P + lbc O ≤ 8; omega)) (cwV 1 hts gX0_becomeDifference_X0_appendBeatsOf rfl rfl rfl (by decide +kernel) ⟨(Nat.le_of_ble_eq_true rfl), (Nat.le_of_ble_eq_true rfl)⟩) hK (hE.kept hS.2.1) ⟨hP, lampKeep hPO hno hS.2.1⟩ (RC_of (q := (RX0, TX0, 5)) (ci := 0) hK rfl (vpa hP 0 rfl)) rfl hl.1 rfl (Nat.le_of_ble_eq_true rfl) dX0_becomeDifference_32 ⟨(Nat.le_of_ble_eq_true rfl), (Nat.le_of_ble_eq_true rfl)⟩ hS (fun q h => h) (fun H locs hP _ hk hS => ?_)
    exact W.vret hx hb hr (fun t ht hW => ⟨rfl, by rw [ht]; exact hP, hS.F ht⟩) hS.2.2 dX0_becomeDifference_35
  refine lv_aload_n hx hb dX0_becomeDifference_1 rfl (lv_at hl 1 rfl) ?_
  refine va_get (D := D) (ci := 0) (v := .int (bI (lon P))) (C := RX0) (T := TX0) (N := 5) hx hb hts hin0 hown hK hPP 0 rfl rfl 3 (by decide) (hts (.fieldLink RX0 22 "LanternPrimes$Lamp" "onAtStart" "Z") (List.mem_of_getElem? (i := 1) rfl)) (fun _ h9 => h9) rfl dX0_becomeDifference_2 ?_
  refine lv_aload_n hx hb dX0_becomeDifference_5 rfl (lv_at hl 2 rfl) ?_
  refine va_get (D := D) (ci := 0) (v := .int (bI (lon O))) (C := RX0) (T := TX0) (N := 5) hx hb hts hin0 hown hK hPO 0 rfl rfl 3 (by decide) (hts (.fieldLink RX0 22 "LanternPrimes$Lamp" "onAtStart" "Z") (List.mem_of_getElem? (i := 1) rfl)) (fun _ h9 => h9) rfl dX0_becomeDifference_6 ?_
  refine lv_icmp_eq (tgt := 16) hx hb dX0_becomeDifference_9 (by decide) (fun c_9 => ?_) (fun c_9 => ?_)
  · refine lv_iconst (v := nI 0) hx hb dX0_becomeDifference_16 (by decide) ?_
    refine n_ti (y := bI (lon P != lon O)) (by first | exact bI_bne0 c_9 | exact bI_bne1 c_9) ?_
    exact join_17 ls (lv_sub hl [0, 1, 2] rfl)
  · refine lv_iconst (v := nI 1) hx hb dX0_becomeDifference_12 (by decide) ?_
    refine lv_goto (tgt := 17) hx hb dX0_becomeDifference_13 (by decide) ?_
    refine n_ti (y := bI (lon P != lon O)) (by first | exact bI_bne0 c_9 | exact bI_bne1 c_9) ?_
    exact join_17 ls (lv_sub hl [0, 1, 2] rfl)
