set_option maxHeartbeats 4000000 in
set_option maxRecDepth 100000 in
/-- changesOfLamps -/
theorem c_X1_changesOfLamps (l : Launch) (D : va_G) (cI cZ cL cJ : ClassId) (ad : Nat → Nat) (n now : Nat) (told : Int32) (v : Nat → LV) (hwf : WFX n now v) (t : Nat) (ht : t < 2 ^ 25) : Met l yX1_changesOfLamps wsX1_changesOfLamps ({ frames := 2, cells := 0, slots := 0, locals := 44 } : Room) (PC D (TY cI cZ cL cJ) noA [.ref (ad 0), .int (nI t)] (fun H => PX D cI cL ad n now told v H)) (QcRead (nI (chgN v n t))) 0 0 (fun _ => False) := by
  refine Met.ofW (cc := cX1_changesOfLamps) (maxL := 4) (ret := (some .int)) (by decide) rfl ?_
  intro p e s m args below meth c s₁ B hml hv
  obtain ⟨rfl, hK, hE, hP0, hPL⟩ := hv
  obtain ⟨hn8, hnow, hwl⟩ := hwf
  have hx := B.exec
  have hb := B.bytes
  have hr := B.returns
  have hts := atoms_spec (ws := wsX1_changesOfLamps) B.pre
  have hown : s.vm.findClass RX1 = some m.cls := findClass_of_methodNamed B.named
  have hlocks := B.notSynchronized
  have hNF := hE.2.1.1
  have hin0 : ∀ w ∈ wsX00, w ∈ wsX1_changesOfLamps := by decide +kernel
  have hin1 : ∀ w ∈ wsX10, w ∈ wsX1_changesOfLamps := by decide +kernel
  have hl := lv_entry ([.ref (ad 0), .int (nI t)]) (n := 4) (Nat.le_of_ble_eq_true rfl)
  rw [lg_entry_eq]
  generalize (lg_sl ([.ref (ad 0), .int (nI t)]) ++ List.replicate (4 - (lg_sl ([.ref (ad 0), .int (nI t)])).length) Slot.unset).toArray = ls at hl ⊢
  have hl : lv_has ls 4 [(0, .ref (ad 0)), (1, .int (nI t))] := hl
  refine lv_iconst (v := nI 0) hx hb dX1_changesOfLamps_0 (by decide) ?_
  refine lv_istore_n (lv' := [(2, .int (nI 0)), (0, .ref (ad 0)), (1, .int (nI t))]) hx hb dX1_changesOfLamps_1 rfl hl (by decide) rfl (fun ls hl => ?_)
  refine lv_iconst (v := nI 0) hx hb dX1_changesOfLamps_2 (by decide) ?_
  refine lv_istore_n (lv' := [(3, .int (nI 0)), (2, .int (nI 0)), (0, .ref (ad 0)), (1, .int (nI t))]) hx hb dX1_changesOfLamps_3 rfl hl (by decide) rfl (fun ls hl => ?_)
  have loop_4 : ∀ (fu : Nat) (j : Nat), n + 1 - j ≤ fu → j ≤ n → ∀ (ls : Array Slot), lv_has ls 4 [(3, .int (nI j)), (2, .int (nI (cnt (fun j => chgB (v j) t) j))), (0, .ref (ad 0)), (1, .int (nI t))] → W p l e (headSpec wsX1_changesOfLamps ({ frames := 2, cells := 0, slots := 0, locals := 44 } : Room)).room s m [.ref (ad 0), .int (nI t)].toArray below meth c s.heap [] 0 0 (MQ below (QcRead (nI (chgN v n t))) [.ref (ad 0), .int (nI t)].toArray s 0 0 (fun _ => False)) (F0 m 4 ls []) := by
    intro fu
    induction fu with
    | zero => intro j hn_4 hj; exact absurd hn_4 (by omega)
    | succ fu ih_4 =>
      intro j hn_4 hj ls hl
      refine lv_iload_n hx hb dX1_changesOfLamps_4 rfl (lv_at hl 0 rfl) ?_
      refine lv_aload_n hx hb dX1_changesOfLamps_5 rfl (lv_at hl 2 rfl) ?_
      refine va_get (D := D) (ci := 1) (v := .int (nI n)) (C := RX1) (T := TX1) (N := 5) hx hb hts hin1 hown hK hP0 0 rfl rfl 2 (by decide) (hts (.fieldLink RX1 20 "LanternPrimes" "lampCount" "I") (List.mem_of_getElem? (i := 1) rfl)) (fun _ h9 => h9) rfl dX1_changesOfLamps_6 ?_
      refine n_icmp_ge (a := j) (b := n) (tgt := 34) hx hb (by omega) (by omega) dX1_changesOfLamps_9 (by decide) (fun c_9 => ?_) (fun c_9 => ?_)
      · refine lv_iload_n hx hb dX1_changesOfLamps_34 rfl (lv_at hl 1 rfl) ?_
        refine n_ti (y := nI (chgN v n t)) (by rw [show j = n by omega]; rfl) ?_
        exact W.iret (v := nI (chgN v n t)) hx hb hr (fun t ht hW => ⟨rfl, ht⟩) (fun _ h => by cases h) dX1_changesOfLamps_35
      · refine lv_aload_n hx hb dX1_changesOfLamps_12 rfl (lv_at hl 2 rfl) ?_
        refine va_get (D := D) (ci := 1) (v := .ref (ad 1)) (C := RX1) (T := TX1) (N := 5) hx hb hts hin1 hown hK hP0 0 rfl rfl 0 (by decide) (hts (.fieldLink RX1 11 "LanternPrimes" "row" "[LLanternPrimes$Lamp;") (List.mem_of_getElem? (i := 2) rfl)) (fun _ h9 => h9) rfl dX1_changesOfLamps_13 ?_
        refine lv_iload_n hx hb dX1_changesOfLamps_16 rfl (lv_at hl 0 rfl) ?_
        refine n_aald (v := ad (2 + 3 * j)) (j := j) hx hb hK hP0 1 2 rfl rfl (by omega) (by decide) rfl dX1_changesOfLamps_17 ?_
        have hPj := hPL j (by omega)
        refine lv_iload_n hx hb dX1_changesOfLamps_18 rfl (lv_at hl 3 rfl) ?_
        refine rV (r := bI (chgB (v j) t)) (As := [.int (nI t)]) (rest := []) ⟨hx, hb, hml, hown, hts⟩ (c_X0_changesAt l D cI cZ cL cJ (ad (2 + 3 * j)) (ad (3 + 3 * j)) (ad (4 + 3 * j)) (v j) t ht (hwl j (by omega)).up) (cwV 1 hts gX1_changesOfLamps_X0_changesAt rfl rfl rfl (by decide +kernel) ⟨(Nat.le_of_ble_eq_true rfl), (Nat.le_of_ble_eq_true rfl)⟩) hK hE hPj (RC_of (q := (RX0, TX0, 5)) (ci := 0) hK rfl (vpa hPj 0 rfl)) rfl hl.1 rfl (Nat.le_of_ble_eq_true rfl) dX1_changesOfLamps_19 ⟨(Nat.le_of_ble_eq_true rfl), (Nat.le_of_ble_eq_true rfl)⟩ ?_
        refine b_if_eq (b := chgB (v j) t) (tgt := 28) hx hb dX1_changesOfLamps_22 (by decide) (fun c_22 => ?_) (fun c_22 => ?_)
        · have e_1 : cnt (fun j => chgB (v j) t) (j + 1) = cnt (fun j => chgB (v j) t) j := cnt_f c_22
          rw [← e_1] at hl
          refine lv_iinc (v := nI (j + 1)) (lv' := [(3, .int (nI (j + 1))), (2, .int (nI (cnt (fun j => chgB (v j) t) (j + 1)))), (0, .ref (ad 0)), (1, .int (nI t))]) hx hb dX1_changesOfLamps_28 hl (k := 0) rfl (nI_inc _) (by decide) rfl (fun ls hl => ?_)
          refine lv_goto (tgt := 4) hx hb dX1_changesOfLamps_31 (by decide) ?_
          exact ih_4 (j + 1) (by omega) (by omega) ls (lv_sub hl [0, 1, 2, 3] rfl)
        · have e_1 : cnt (fun j => chgB (v j) t) (j + 1) = cnt (fun j => chgB (v j) t) j + 1 := cnt_t c_22
          refine lv_iinc (v := nI (cnt (fun j => chgB (v j) t) (j + 1))) (lv' := [(2, .int (nI (cnt (fun j => chgB (v j) t) (j + 1)))), (3, .int (nI j)), (0, .ref (ad 0)), (1, .int (nI t))]) hx hb dX1_changesOfLamps_25 hl (k := 1) rfl (by rw [e_1]; exact nI_inc _) (by decide) rfl (fun ls hl => ?_)
          refine lv_iinc (v := nI (j + 1)) (lv' := [(3, .int (nI (j + 1))), (2, .int (nI (cnt (fun j => chgB (v j) t) (j + 1)))), (0, .ref (ad 0)), (1, .int (nI t))]) hx hb dX1_changesOfLamps_28 hl (k := 1) rfl (nI_inc _) (by decide) rfl (fun ls hl => ?_)
          refine lv_goto (tgt := 4) hx hb dX1_changesOfLamps_31 (by decide) ?_
          exact ih_4 (j + 1) (by omega) (by omega) ls (lv_sub hl [0, 1, 2, 3] rfl)
  exact loop_4 (n + 1) 0 (by omega) (Nat.zero_le _) ls (lv_sub hl [0, 1, 2, 3] rfl)
set_option maxHeartbeats 4000000 in
set_option maxRecDepth 100000 in
/-- litCount -/
theorem c_X1_litCount (l : Launch) (D : va_G) (cI cZ cL cJ : ClassId) (ad : Nat → Nat) (n now : Nat) (told : Int32) (v : Nat → LV) (hwf : WFX n now v) (t : Nat) (ht : t < 2 ^ 25) : Met l yX1_litCount wsX1_litCount ({ frames := 3, cells := 0, slots := 0, locals := 66 } : Room) (PC D (TY cI cZ cL cJ) noA [.ref (ad 0), .int (nI t)] (fun H => PX D cI cL ad n now told v H)) (QcRead (nI (litN v n t))) 0 0 (fun _ => False) := by
  refine Met.ofW (cc := cX1_litCount) (maxL := 4) (ret := (some .int)) (by decide) rfl ?_
  intro p e s m args below meth c s₁ B hml hv
  obtain ⟨rfl, hK, hE, hP0, hPL⟩ := hv
  obtain ⟨hn8, hnow, hwl⟩ := hwf
  have hx := B.exec
  have hb := B.bytes
  have hr := B.returns
  have hts := atoms_spec (ws := wsX1_litCount) B.pre
  have hown : s.vm.findClass RX1 = some m.cls := findClass_of_methodNamed B.named
  have hlocks := B.notSynchronized
  have hNF := hE.2.1.1
  have hin0 : ∀ w ∈ wsX00, w ∈ wsX1_litCount := by decide +kernel
  have hin1 : ∀ w ∈ wsX10, w ∈ wsX1_litCount := by decide +kernel
  have hl := lv_entry ([.ref (ad 0), .int (nI t)]) (n := 4) (Nat.le_of_ble_eq_true rfl)
  rw [lg_entry_eq]
  generalize (lg_sl ([.ref (ad 0), .int (nI t)]) ++ List.replicate (4 - (lg_sl ([.ref (ad 0), .int (nI t)])).length) Slot.unset).toArray = ls at hl ⊢
  have hl : lv_has ls 4 [(0, .ref (ad 0)), (1, .int (nI t))] := hl
  refine lv_iconst (v := nI 0) hx hb dX1_litCount_0 (by decide) ?_
  refine lv_istore_n (lv' := [(2, .int (nI 0)), (0, .ref (ad 0)), (1, .int (nI t))]) hx hb dX1_litCount_1 rfl hl (by decide) rfl (fun ls hl => ?_)
  refine lv_iconst (v := nI 0) hx hb dX1_litCount_2 (by decide) ?_
  refine lv_istore_n (lv' := [(3, .int (nI 0)), (2, .int (nI 0)), (0, .ref (ad 0)), (1, .int (nI t))]) hx hb dX1_litCount_3 rfl hl (by decide) rfl (fun ls hl => ?_)
  have loop_4 : ∀ (fu : Nat) (j : Nat), n + 1 - j ≤ fu → j ≤ n → ∀ (ls : Array Slot), lv_has ls 4 [(3, .int (nI j)), (2, .int (nI (cnt (fun j => litB (v j) t) j))), (0, .ref (ad 0)), (1, .int (nI t))] → W p l e (headSpec wsX1_litCount ({ frames := 3, cells := 0, slots := 0, locals := 66 } : Room)).room s m [.ref (ad 0), .int (nI t)].toArray below meth c s.heap [] 0 0 (MQ below (QcRead (nI (litN v n t))) [.ref (ad 0), .int (nI t)].toArray s 0 0 (fun _ => False)) (F0 m 4 ls []) := by
    intro fu
    induction fu with
    | zero => intro j hn_4 hj; exact absurd hn_4 (by omega)
    | succ fu ih_4 =>
      intro j hn_4 hj ls hl
      refine lv_iload_n hx hb dX1_litCount_4 rfl (lv_at hl 0 rfl) ?_
      refine lv_aload_n hx hb dX1_litCount_5 rfl (lv_at hl 2 rfl) ?_
      refine va_get (D := D) (ci := 1) (v := .int (nI n)) (C := RX1) (T := TX1) (N := 5) hx hb hts hin1 hown hK hP0 0 rfl rfl 2 (by decide) (hts (.fieldLink RX1 20 "LanternPrimes" "lampCount" "I") (List.mem_of_getElem? (i := 1) rfl)) (fun _ h9 => h9) rfl dX1_litCount_6 ?_
      refine n_icmp_ge (a := j) (b := n) (tgt := 34) hx hb (by omega) (by omega) dX1_litCount_9 (by decide) (fun c_9 => ?_) (fun c_9 => ?_)
      · refine lv_iload_n hx hb dX1_litCount_34 rfl (lv_at hl 1 rfl) ?_
        refine n_ti (y := nI (litN v n t)) (by rw [show j = n by omega]; rfl) ?_
        exact W.iret (v := nI (litN v n t)) hx hb hr (fun t ht hW => ⟨rfl, ht⟩) (fun _ h => by cases h) dX1_litCount_35
      · refine lv_aload_n hx hb dX1_litCount_12 rfl (lv_at hl 2 rfl) ?_
        refine va_get (D := D) (ci := 1) (v := .ref (ad 1)) (C := RX1) (T := TX1) (N := 5) hx hb hts hin1 hown hK hP0 0 rfl rfl 0 (by decide) (hts (.fieldLink RX1 11 "LanternPrimes" "row" "[LLanternPrimes$Lamp;") (List.mem_of_getElem? (i := 2) rfl)) (fun _ h9 => h9) rfl dX1_litCount_13 ?_
        refine lv_iload_n hx hb dX1_litCount_16 rfl (lv_at hl 0 rfl) ?_
        refine n_aald (v := ad (2 + 3 * j)) (j := j) hx hb hK hP0 1 2 rfl rfl (by omega) (by decide) rfl dX1_litCount_17 ?_
        have hPj := hPL j (by omega)
        refine lv_iload_n hx hb dX1_litCount_18 rfl (lv_at hl 3 rfl) ?_
        refine rV (r := bI (litB (v j) t)) (As := [.int (nI t)]) (rest := []) ⟨hx, hb, hml, hown, hts⟩ (c_X0_litAt l D cI cZ cL cJ (ad (2 + 3 * j)) (ad (3 + 3 * j)) (ad (4 + 3 * j)) (v j) t ht (hwl j (by omega)).up) (cwV 1 hts gX1_litCount_X0_litAt rfl rfl rfl (by decide +kernel) ⟨(Nat.le_of_ble_eq_true rfl), (Nat.le_of_ble_eq_true rfl)⟩) hK hE hPj (RC_of (q := (RX0, TX0, 5)) (ci := 0) hK rfl (vpa hPj 0 rfl)) rfl hl.1 rfl (Nat.le_of_ble_eq_true rfl) dX1_litCount_19 ⟨(Nat.le_of_ble_eq_true rfl), (Nat.le_of_ble_eq_true rfl)⟩ ?_
        refine b_if_eq (b := litB (v j) t) (tgt := 28) hx hb dX1_litCount_22 (by decide) (fun c_22 => ?_) (fun c_22 => ?_)
        · have e_1 : cnt (fun j => litB (v j) t) (j + 1) = cnt (fun j => litB (v j) t) j := cnt_f c_22
          rw [← e_1] at hl
          refine lv_iinc (v := nI (j + 1)) (lv' := [(3, .int (nI (j + 1))), (2, .int (nI (cnt (fun j => litB (v j) t) (j + 1)))), (0, .ref (ad 0)), (1, .int (nI t))]) hx hb dX1_litCount_28 hl (k := 0) rfl (nI_inc _) (by decide) rfl (fun ls hl => ?_)
          refine lv_goto (tgt := 4) hx hb dX1_litCount_31 (by decide) ?_
          exact ih_4 (j + 1) (by omega) (by omega) ls (lv_sub hl [0, 1, 2, 3] rfl)
        · have e_1 : cnt (fun j => litB (v j) t) (j + 1) = cnt (fun j => litB (v j) t) j + 1 := cnt_t c_22
          refine lv_iinc (v := nI (cnt (fun j => litB (v j) t) (j + 1))) (lv' := [(2, .int (nI (cnt (fun j => litB (v j) t) (j + 1)))), (3, .int (nI j)), (0, .ref (ad 0)), (1, .int (nI t))]) hx hb dX1_litCount_25 hl (k := 1) rfl (by rw [e_1]; exact nI_inc _) (by decide) rfl (fun ls hl => ?_)
          refine lv_iinc (v := nI (j + 1)) (lv' := [(3, .int (nI (j + 1))), (2, .int (nI (cnt (fun j => litB (v j) t) (j + 1)))), (0, .ref (ad 0)), (1, .int (nI t))]) hx hb dX1_litCount_28 hl (k := 1) rfl (nI_inc _) (by decide) rfl (fun ls hl => ?_)
          refine lv_goto (tgt := 4) hx hb dX1_litCount_31 (by decide) ?_
          exact ih_4 (j + 1) (by omega) (by omega) ls (lv_sub hl [0, 1, 2, 3] rfl)
  exact loop_4 (n + 1) 0 (by omega) (Nat.zero_le _) ls (lv_sub hl [0, 1, 2, 3] rfl)
set_option maxHeartbeats 4000000 in
set_option maxRecDepth 100000 in
/-- darkAt -/
theorem c_X1_darkAt (l : Launch) (D : va_G) (cI cZ cL cJ : ClassId) (ad : Nat → Nat) (n now : Nat) (told : Int32) (v : Nat → LV) (hwf : WFX n now v) (t : Nat) (ht : t < 2 ^ 25) (x : Int32) : Met l yX1_darkAt wsX1_darkAt ({ frames := 3, cells := 0, slots := 0, locals := 66 } : Room) (PC D (TY cI cZ cL cJ) noA [.ref (ad 0), .int (nI t), .int x] (fun H => PX D cI cL ad n now told v H)) (QcRead (bI (dkB v n x t))) 0 0 (fun _ => False) := by
  refine Met.ofW (cc := cX1_darkAt) (maxL := 4) (ret := (some .boolean)) (by decide) rfl ?_
  intro p e s m args below meth c s₁ B hml hv
  obtain ⟨rfl, hK, hE, hP0, hPL⟩ := hv
  obtain ⟨hn8, hnow, hwl⟩ := hwf
  have hx := B.exec
  have hb := B.bytes
  have hr := B.returns
  have hts := atoms_spec (ws := wsX1_darkAt) B.pre
  have hown : s.vm.findClass RX1 = some m.cls := findClass_of_methodNamed B.named
  have hlocks := B.notSynchronized
  have hNF := hE.2.1.1
  have hin0 : ∀ w ∈ wsX00, w ∈ wsX1_darkAt := by decide +kernel
  have hin1 : ∀ w ∈ wsX10, w ∈ wsX1_darkAt := by decide +kernel
  have hl := lv_entry ([.ref (ad 0), .int (nI t), .int x]) (n := 4) (Nat.le_of_ble_eq_true rfl)
  rw [lg_entry_eq]
  generalize (lg_sl ([.ref (ad 0), .int (nI t), .int x]) ++ List.replicate (4 - (lg_sl ([.ref (ad 0), .int (nI t), .int x])).length) Slot.unset).toArray = ls at hl ⊢
  have hl : lv_has ls 4 [(0, .ref (ad 0)), (1, .int (nI t)), (2, .int x)] := hl
  refine lv_iconst (v := nI 0) hx hb dX1_darkAt_0 (by decide) ?_
  refine lv_istore_n (lv' := [(3, .int (nI 0)), (0, .ref (ad 0)), (1, .int (nI t)), (2, .int x)]) hx hb dX1_darkAt_1 rfl hl (by decide) rfl (fun ls hl => ?_)
  have loop_2 : ∀ (fu : Nat) (j : Nat), n + 1 - j ≤ fu → j ≤ n → cnt (ltB v x t) j = 0 → ∀ (ls : Array Slot), lv_has ls 4 [(3, .int (nI j)), (0, .ref (ad 0)), (1, .int (nI t)), (2, .int x)] → W p l e (headSpec wsX1_darkAt ({ frames := 3, cells := 0, slots := 0, locals := 66 } : Room)).room s m [.ref (ad 0), .int (nI t), .int x].toArray below meth c s.heap [] 0 0 (MQ below (QcRead (bI (dkB v n x t))) [.ref (ad 0), .int (nI t), .int x].toArray s 0 0 (fun _ => False)) (F0 m 2 ls []) := by
    intro fu
    induction fu with
    | zero => intro j hn_2 hj h0; exact absurd hn_2 (by omega)
    | succ fu ih_2 =>
      intro j hn_2 hj h0 ls hl
      refine lv_iload_n hx hb dX1_darkAt_2 rfl (lv_at hl 0 rfl) ?_
      refine lv_aload_n hx hb dX1_darkAt_3 rfl (lv_at hl 1 rfl) ?_
      refine va_get (D := D) (ci := 1) (v := .int (nI n)) (C := RX1) (T := TX1) (N := 5) hx hb hts hin1 hown hK hP0 0 rfl rfl 2 (by decide) (hts (.fieldLink RX1 20 "LanternPrimes" "lampCount" "I") (List.mem_of_getElem? (i := 1) rfl)) (fun _ h9 => h9) rfl dX1_darkAt_4 ?_
      refine n_icmp_ge (a := j) (b := n) (tgt := 36) hx hb (by omega) (by omega) dX1_darkAt_7 (by decide) (fun c_7 => ?_) (fun c_7 => ?_)
      · refine lv_iconst (v := nI 1) hx hb dX1_darkAt_36 (by decide) ?_
        refine n_ti (y := bI (dkB v n x t)) (by rw [show j = n by omega] at h0; unfold dkB ltN; rw [decide_eq_true h0]; rfl) ?_
        exact W.zret (v := bI (dkB v n x t)) hx hb hr (bI_narrow _) (fun t ht hW => ⟨rfl, ht⟩) (fun _ h => by cases h) dX1_darkAt_37
      · refine lv_iload_n hx hb dX1_darkAt_10 rfl (lv_at hl 0 rfl) ?_
        refine lv_iload_n hx hb dX1_darkAt_11 rfl (lv_at hl 3 rfl) ?_
        refine lv_icmp_eq (tgt := 30) hx hb dX1_darkAt_12 (by decide) (fun c_12 => ?_) (fun c_12 => ?_)
        · have e_1 : cnt (ltB v x t) (j + 1) = 0 := by rw [cnt_f (by unfold ltB; rw [decide_eq_true c_12]; rfl)]; exact h0
          refine lv_iinc (v := nI (j + 1)) (lv' := [(3, .int (nI (j + 1))), (0, .ref (ad 0)), (1, .int (nI t)), (2, .int x)]) hx hb dX1_darkAt_30 hl (k := 0) rfl (nI_inc _) (by decide) rfl (fun ls hl => ?_)
          refine lv_goto (tgt := 2) hx hb dX1_darkAt_33 (by decide) ?_
          exact ih_2 (j + 1) (by omega) (by omega) e_1 ls (lv_sub hl [0, 1, 2, 3] rfl)
        · refine lv_aload_n hx hb dX1_darkAt_15 rfl (lv_at hl 1 rfl) ?_
          refine va_get (D := D) (ci := 1) (v := .ref (ad 1)) (C := RX1) (T := TX1) (N := 5) hx hb hts hin1 hown hK hP0 0 rfl rfl 0 (by decide) (hts (.fieldLink RX1 11 "LanternPrimes" "row" "[LLanternPrimes$Lamp;") (List.mem_of_getElem? (i := 2) rfl)) (fun _ h9 => h9) rfl dX1_darkAt_16 ?_
          refine lv_iload_n hx hb dX1_darkAt_19 rfl (lv_at hl 0 rfl) ?_
          refine n_aald (v := ad (2 + 3 * j)) (j := j) hx hb hK hP0 1 2 rfl rfl (by omega) (by decide) rfl dX1_darkAt_20 ?_
          have hPj := hPL j (by omega)
          refine lv_iload_n hx hb dX1_darkAt_21 rfl (lv_at hl 2 rfl) ?_
          refine rV (r := bI (litB (v j) t)) (As := [.int (nI t)]) (rest := []) ⟨hx, hb, hml, hown, hts⟩ (c_X0_litAt l D cI cZ cL cJ (ad (2 + 3 * j)) (ad (3 + 3 * j)) (ad (4 + 3 * j)) (v j) t ht (hwl j (by omega)).up) (cwV 1 hts gX1_darkAt_X0_litAt rfl rfl rfl (by decide +kernel) ⟨(Nat.le_of_ble_eq_true rfl), (Nat.le_of_ble_eq_true rfl)⟩) hK hE hPj (RC_of (q := (RX0, TX0, 5)) (ci := 0) hK rfl (vpa hPj 0 rfl)) rfl hl.1 rfl (Nat.le_of_ble_eq_true rfl) dX1_darkAt_22 ⟨(Nat.le_of_ble_eq_true rfl), (Nat.le_of_ble_eq_true rfl)⟩ ?_
          refine b_if_eq (b := litB (v j) t) (tgt := 30) hx hb dX1_darkAt_25 (by decide) (fun c_25 => ?_) (fun c_25 => ?_)
          · have e_1 : cnt (ltB v x t) (j + 1) = 0 := by rw [cnt_f (by unfold ltB; rw [c_25]; exact Bool.and_false _)]; exact h0
            refine lv_iinc (v := nI (j + 1)) (lv' := [(3, .int (nI (j + 1))), (0, .ref (ad 0)), (1, .int (nI t)), (2, .int x)]) hx hb dX1_darkAt_30 hl (k := 0) rfl (nI_inc _) (by decide) rfl (fun ls hl => ?_)
            refine lv_goto (tgt := 2) hx hb dX1_darkAt_33 (by decide) ?_
            exact ih_2 (j + 1) (by omega) (by omega) e_1 ls (lv_sub hl [0, 1, 2, 3] rfl)
          · refine lv_iconst (v := nI 0) hx hb dX1_darkAt_28 (by decide) ?_
            refine n_ti (y := bI (dkB v n x t)) (by have e_1 : 1 ≤ cnt (ltB v x t) (j + 1) := (by rw [cnt_t (by unfold ltB; rw [decide_eq_false c_12, c_25]; rfl)]; omega); have e_2 := cnt_mono (ltB v x t) (show j + 1 ≤ n by omega); unfold dkB ltN; rw [decide_eq_false (by omega)]; rfl) ?_
            exact W.zret (v := bI (dkB v n x t)) hx hb hr (bI_narrow _) (fun t ht hW => ⟨rfl, ht⟩) (fun _ h => by cases h) dX1_darkAt_29
  exact loop_2 (n + 1) 0 (by omega) (Nat.zero_le _) rfl ls (lv_sub hl [0, 1, 2, 3] rfl)
set_option maxHeartbeats 4000000 in
set_option maxRecDepth 100000 in
/-- darkMoments -/
theorem c_X1_darkMoments (l : Launch) (D : va_G) (cI cZ cL cJ : ClassId) (ad : Nat → Nat) (n now : Nat) (told : Int32) (v : Nat → LV) (hwf : WFX n now v) (k : Nat) (hk : k ≤ 500) (x : Int32) : Met l yX1_darkMoments wsX1_darkMoments ({ frames := 4, cells := 0, slots := 0, locals := 89 } : Room) (PC D (TY cI cZ cL cJ) noA [.ref (ad 0), .int (nI k), .int x] (fun H => PX D cI cL ad n now told v H)) (QcRead (nI (dkN v n now x k))) 0 0 (fun _ => False) := by
  refine Met.ofW (cc := cX1_darkMoments) (maxL := 5) (ret := (some .int)) (by decide) rfl ?_
  intro p e s m args below meth c s₁ B hml hv
  obtain ⟨rfl, hK, hE, hP0, hPL⟩ := hv
  obtain ⟨hn8, hnow, hwl⟩ := hwf
  have hx := B.exec
  have hb := B.bytes
  have hr := B.returns
  have hts := atoms_spec (ws := wsX1_darkMoments) B.pre
  have hown : s.vm.findClass RX1 = some m.cls := findClass_of_methodNamed B.named
  have hlocks := B.notSynchronized
  have hNF := hE.2.1.1
  have hin0 : ∀ w ∈ wsX00, w ∈ wsX1_darkMoments := by decide +kernel
  have hin1 : ∀ w ∈ wsX10, w ∈ wsX1_darkMoments := by decide +kernel
  have hl := lv_entry ([.ref (ad 0), .int (nI k), .int x]) (n := 5) (Nat.le_of_ble_eq_true rfl)
  rw [lg_entry_eq]
  generalize (lg_sl ([.ref (ad 0), .int (nI k), .int x]) ++ List.replicate (5 - (lg_sl ([.ref (ad 0), .int (nI k), .int x])).length) Slot.unset).toArray = ls at hl ⊢
  have hl : lv_has ls 5 [(0, .ref (ad 0)), (1, .int (nI k)), (2, .int x)] := hl
  refine lv_iconst (v := nI 0) hx hb dX1_darkMoments_0 (by decide) ?_
  refine lv_istore_n (lv' := [(3, .int (nI 0)), (0, .ref (ad 0)), (1, .int (nI k)), (2, .int x)]) hx hb dX1_darkMoments_1 rfl hl (by decide) rfl (fun ls hl => ?_)
  refine lv_iconst (v := nI 1) hx hb dX1_darkMoments_2 (by decide) ?_
  refine lv_istore (lv' := [(4, .int (nI 1)), (3, .int (nI 0)), (0, .ref (ad 0)), (1, .int (nI k)), (2, .int x)]) hx hb dX1_darkMoments_3 hl (by decide) rfl (fun ls hl => ?_)
  have loop_5 : ∀ (fu : Nat) (q : Nat), k + 1 - q ≤ fu → q ≤ k → ∀ (ls : Array Slot), lv_has ls 5 [(4, .int (nI (q + 1))), (3, .int (nI (cnt (fun s => dkB v n x (now + (s + 1))) q))), (0, .ref (ad 0)), (1, .int (nI k)), (2, .int x)] → W p l e (headSpec wsX1_darkMoments ({ frames := 4, cells := 0, slots := 0, locals := 89 } : Room)).room s m [.ref (ad 0), .int (nI k), .int x].toArray below meth c s.heap [] 0 0 (MQ below (QcRead (nI (dkN v n now x k))) [.ref (ad 0), .int (nI k), .int x].toArray s 0 0 (fun _ => False)) (F0 m 5 ls []) := by
    intro fu
    induction fu with
    | zero => intro q hn_5 hq; exact absurd hn_5 (by omega)
    | succ fu ih_5 =>
      intro q hn_5 hq ls hl
      refine lv_iload hx hb dX1_darkMoments_5 (lv_at hl 0 rfl) ?_
      refine lv_iload_n hx hb dX1_darkMoments_7 rfl (lv_at hl 3 rfl) ?_
      refine n_icmp_gt (a := q + 1) (b := k) (tgt := 35) hx hb (by omega) (by omega) dX1_darkMoments_8 (by decide) (fun c_8 => ?_) (fun c_8 => ?_)
      · refine lv_iload_n hx hb dX1_darkMoments_35 rfl (lv_at hl 1 rfl) ?_
        refine n_ti (y := nI (dkN v n now x k)) (by rw [show q = k by omega]; rfl) ?_
        exact W.iret (v := nI (dkN v n now x k)) hx hb hr (fun t ht hW => ⟨rfl, ht⟩) (fun _ h => by cases h) dX1_darkMoments_36
      · refine lv_aload_n hx hb dX1_darkMoments_11 rfl (lv_at hl 2 rfl) ?_
        refine lv_aload_n hx hb dX1_darkMoments_12 rfl (lv_at hl 2 rfl) ?_
        refine va_get (D := D) (ci := 1) (v := .int (nI now)) (C := RX1) (T := TX1) (N := 5) hx hb hts hin1 hown hK hP0 0 rfl rfl 3 (by decide) (hts (.fieldLink RX1 73 "LanternPrimes" "present" "I") (List.mem_of_getElem? (i := 1) rfl)) (fun _ h9 => h9) rfl dX1_darkMoments_13 ?_
        refine lv_iload hx hb dX1_darkMoments_16 (lv_at hl 0 rfl) ?_
        refine n_iadd (v := nI (now + (q + 1))) hx hb dX1_darkMoments_18 (nI_add _ _) ?_
        refine lv_iload_n hx hb dX1_darkMoments_19 rfl (lv_at hl 4 rfl) ?_
        refine rV (r := bI (dkB v n x (now + (q + 1)))) (As := [.int (nI (now + (q + 1))), .int x]) (rest := []) ⟨hx, hb, hml, hown, hts⟩ (c_X1_darkAt l D cI cZ cL cJ ad n now told v ⟨hn8, hnow, hwl⟩ (now + (q + 1)) (by omega) x) (cwV 2 hts gX1_darkMoments_X1_darkAt rfl rfl rfl (by decide +kernel) ⟨(Nat.le_of_ble_eq_true rfl), (Nat.le_of_ble_eq_true rfl)⟩) hK hE ⟨hP0, hPL⟩ (RC_of (q := (RX1, TX1, 5)) (ci := 1) hK rfl (vpa hP0 0 rfl)) rfl hl.1 rfl (Nat.le_of_ble_eq_true rfl) dX1_darkMoments_20 ⟨(Nat.le_of_ble_eq_true rfl), (Nat.le_of_ble_eq_true rfl)⟩ ?_
        refine b_if_eq (b := dkB v n x (now + (q + 1))) (tgt := 29) hx hb dX1_darkMoments_23 (by decide) (fun c_23 => ?_) (fun c_23 => ?_)
        · have e_1 : cnt (fun s => dkB v n x (now + (s + 1))) (q + 1) = cnt (fun s => dkB v n x (now + (s + 1))) q := cnt_f (f := (fun s => dkB v n x (now + (s + 1)))) c_23
          rw [← e_1] at hl
          refine lv_iinc (v := nI ((q + 1) + 1)) (lv' := [(4, .int (nI ((q + 1) + 1))), (3, .int (nI (cnt (fun s => dkB v n x (now + (s + 1))) (q + 1)))), (0, .ref (ad 0)), (1, .int (nI k)), (2, .int x)]) hx hb dX1_darkMoments_29 hl (k := 0) rfl (nI_inc _) (by decide) rfl (fun ls hl => ?_)
          refine lv_goto (tgt := 5) hx hb dX1_darkMoments_32 (by decide) ?_
          exact ih_5 (q + 1) (by omega) (by omega) ls (lv_sub hl [0, 1, 2, 3, 4] rfl)
        · have e_1 : cnt (fun s => dkB v n x (now + (s + 1))) (q + 1) = cnt (fun s => dkB v n x (now + (s + 1))) q + 1 := cnt_t (f := (fun s => dkB v n x (now + (s + 1)))) c_23
          refine lv_iinc (v := nI (cnt (fun s => dkB v n x (now + (s + 1))) (q + 1))) (lv' := [(3, .int (nI (cnt (fun s => dkB v n x (now + (s + 1))) (q + 1)))), (4, .int (nI (q + 1))), (0, .ref (ad 0)), (1, .int (nI k)), (2, .int x)]) hx hb dX1_darkMoments_26 hl (k := 1) rfl (by rw [e_1]; exact nI_inc _) (by decide) rfl (fun ls hl => ?_)
          refine lv_iinc (v := nI ((q + 1) + 1)) (lv' := [(4, .int (nI ((q + 1) + 1))), (3, .int (nI (cnt (fun s => dkB v n x (now + (s + 1))) (q + 1)))), (0, .ref (ad 0)), (1, .int (nI k)), (2, .int x)]) hx hb dX1_darkMoments_29 hl (k := 1) rfl (nI_inc _) (by decide) rfl (fun ls hl => ?_)
          refine lv_goto (tgt := 5) hx hb dX1_darkMoments_32 (by decide) ?_
          exact ih_5 (q + 1) (by omega) (by omega) ls (lv_sub hl [0, 1, 2, 3, 4] rfl)
  exact loop_5 (k + 1) 0 (by omega) (Nat.zero_le _) ls (lv_sub hl [0, 1, 2, 3, 4] rfl)
set_option maxHeartbeats 4000000 in
set_option maxRecDepth 100000 in
/-- collideAt -/
theorem c_X1_collideAt (l : Launch) (D : va_G) (cI cZ cL cJ : ClassId) (ad : Nat → Nat) (n now : Nat) (told : Int32) (v : Nat → LV) (hwf : WFX n now v) (i j t : Nat) (hi : i < n) (hj : j < n) (ht : t < 2 ^ 25) : Met l yX1_collideAt wsX1_collideAt ({ frames := 2, cells := 0, slots := 0, locals := 44 } : Room) (PC D (TY cI cZ cL cJ) noA [.ref (ad 0), .int (nI i), .int (nI j), .int (nI t)] (fun H => PX D cI cL ad n now told v H)) (QcRead (bI (colB v i j t))) 0 0 (fun _ => False) := by
  refine Met.ofW (cc := cX1_collideAt) (maxL := 4) (ret := (some .boolean)) (by decide) rfl ?_
  intro p e s m args below meth c s₁ B hml hv
  obtain ⟨rfl, hK, hE, hP0, hPL⟩ := hv
  obtain ⟨hn8, hnow, hwl⟩ := hwf
  have hx := B.exec
  have hb := B.bytes
  have hr := B.returns
  have hts := atoms_spec (ws := wsX1_collideAt) B.pre
  have hown : s.vm.findClass RX1 = some m.cls := findClass_of_methodNamed B.named
  have hlocks := B.notSynchronized
  have hNF := hE.2.1.1
  have hin0 : ∀ w ∈ wsX00, w ∈ wsX1_collideAt := by decide +kernel
  have hin1 : ∀ w ∈ wsX10, w ∈ wsX1_collideAt := by decide +kernel
  have hl := lv_entry ([.ref (ad 0), .int (nI i), .int (nI j), .int (nI t)]) (n := 4) (Nat.le_of_ble_eq_true rfl)
  rw [lg_entry_eq]
  generalize (lg_sl ([.ref (ad 0), .int (nI i), .int (nI j), .int (nI t)]) ++ List.replicate (4 - (lg_sl ([.ref (ad 0), .int (nI i), .int (nI j), .int (nI t)])).length) Slot.unset).toArray = ls at hl ⊢
  have hl : lv_has ls 4 [(0, .ref (ad 0)), (1, .int (nI i)), (2, .int (nI j)), (3, .int (nI t))] := hl
  refine lv_aload_n hx hb dX1_collideAt_0 rfl (lv_at hl 0 rfl) ?_
  refine va_get (D := D) (ci := 1) (v := .ref (ad 1)) (C := RX1) (T := TX1) (N := 5) hx hb hts hin1 hown hK hP0 0 rfl rfl 0 (by decide) (hts (.fieldLink RX1 11 "LanternPrimes" "row" "[LLanternPrimes$Lamp;") (List.mem_of_getElem? (i := 1) rfl)) (fun _ h9 => h9) rfl dX1_collideAt_1 ?_
  refine lv_iload_n hx hb dX1_collideAt_4 rfl (lv_at hl 1 rfl) ?_
  refine n_aald (v := ad (2 + 3 * i)) (j := i) hx hb hK hP0 1 2 rfl rfl (by omega) (by decide) rfl dX1_collideAt_5 ?_
  have hPi := hPL i (by omega)
  refine lv_iload_n hx hb dX1_collideAt_6 rfl (lv_at hl 3 rfl) ?_
  refine rV (r := bI (chgB (v i) t)) (As := [.int (nI t)]) (rest := []) ⟨hx, hb, hml, hown, hts⟩ (c_X0_changesAt l D cI cZ cL cJ (ad (2 + 3 * i)) (ad (3 + 3 * i)) (ad (4 + 3 * i)) (v i) t ht (hwl i (by omega)).up) (cwV 1 hts gX1_collideAt_X0_changesAt rfl rfl rfl (by decide +kernel) ⟨(Nat.le_of_ble_eq_true rfl), (Nat.le_of_ble_eq_true rfl)⟩) hK hE hPi (RC_of (q := (RX0, TX0, 5)) (ci := 0) hK rfl (vpa hPi 0 rfl)) rfl hl.1 rfl (Nat.le_of_ble_eq_true rfl) dX1_collideAt_7 ⟨(Nat.le_of_ble_eq_true rfl), (Nat.le_of_ble_eq_true rfl)⟩ ?_
  refine b_if_eq (b := chgB (v i) t) (tgt := 30) hx hb dX1_collideAt_10 (by decide) (fun c_10 => ?_) (fun c_10 => ?_)
  · refine lv_iconst (v := nI 0) hx hb dX1_collideAt_30 (by decide) ?_
    refine n_ti (y := bI (colB v i j t)) (by unfold colB; first | (rw [c_10]; rfl) | (rw [c_10, c_23]; rfl)) ?_
    exact W.zret (v := bI (colB v i j t)) hx hb hr (bI_narrow _) (fun t ht hW => ⟨rfl, ht⟩) (fun _ h => by cases h) dX1_collideAt_31
  · refine lv_aload_n hx hb dX1_collideAt_13 rfl (lv_at hl 0 rfl) ?_
    refine va_get (D := D) (ci := 1) (v := .ref (ad 1)) (C := RX1) (T := TX1) (N := 5) hx hb hts hin1 hown hK hP0 0 rfl rfl 0 (by decide) (hts (.fieldLink RX1 11 "LanternPrimes" "row" "[LLanternPrimes$Lamp;") (List.mem_of_getElem? (i := 1) rfl)) (fun _ h9 => h9) rfl dX1_collideAt_14 ?_
    refine lv_iload_n hx hb dX1_collideAt_17 rfl (lv_at hl 2 rfl) ?_
    refine n_aald (v := ad (2 + 3 * j)) (j := j) hx hb hK hP0 1 2 rfl rfl (by omega) (by decide) rfl dX1_collideAt_18 ?_
    have hPj := hPL j (by omega)
    refine lv_iload_n hx hb dX1_collideAt_19 rfl (lv_at hl 3 rfl) ?_
    refine rV (r := bI (chgB (v j) t)) (As := [.int (nI t)]) (rest := []) ⟨hx, hb, hml, hown, hts⟩ (c_X0_changesAt l D cI cZ cL cJ (ad (2 + 3 * j)) (ad (3 + 3 * j)) (ad (4 + 3 * j)) (v j) t ht (hwl j (by omega)).up) (cwV 1 hts gX1_collideAt_X0_changesAt rfl rfl rfl (by decide +kernel) ⟨(Nat.le_of_ble_eq_true rfl), (Nat.le_of_ble_eq_true rfl)⟩) hK hE hPj (RC_of (q := (RX0, TX0, 5)) (ci := 0) hK rfl (vpa hPj 0 rfl)) rfl hl.1 rfl (Nat.le_of_ble_eq_true rfl) dX1_collideAt_20 ⟨(Nat.le_of_ble_eq_true rfl), (Nat.le_of_ble_eq_true rfl)⟩ ?_
    refine b_if_eq (b := chgB (v j) t) (tgt := 30) hx hb dX1_collideAt_23 (by decide) (fun c_23 => ?_) (fun c_23 => ?_)
    · refine lv_iconst (v := nI 0) hx hb dX1_collideAt_30 (by decide) ?_
      refine n_ti (y := bI (colB v i j t)) (by unfold colB; first | (rw [c_10]; rfl) | (rw [c_10, c_23]; rfl)) ?_
      exact W.zret (v := bI (colB v i j t)) hx hb hr (bI_narrow _) (fun t ht hW => ⟨rfl, ht⟩) (fun _ h => by cases h) dX1_collideAt_31
    · refine lv_iconst (v := nI 1) hx hb dX1_collideAt_26 (by decide) ?_
      refine lv_goto (tgt := 31) hx hb dX1_collideAt_27 (by decide) ?_
      refine n_ti (y := bI (colB v i j t)) (by unfold colB; first | (rw [c_10]; rfl) | (rw [c_10, c_23]; rfl)) ?_
      exact W.zret (v := bI (colB v i j t)) hx hb hr (bI_narrow _) (fun t ht hW => ⟨rfl, ht⟩) (fun _ h => by cases h) dX1_collideAt_31
set_option maxHeartbeats 4000000 in
set_option maxRecDepth 100000 in
/-- lamps -/
theorem c_X1_lamps (l : Launch) (D : va_G) (cI cZ cL cJ : ClassId) (ad : Nat → Nat) (n now : Nat) (told : Int32) (v : Nat → LV) (hwf : WFX n now v) : Met l yX1_lamps wsX1_lamps ({ frames := 0, cells := 0, slots := 0, locals := 0 } : Room) (PC D (TY cI cZ cL cJ) noA [.ref (ad 0)] (fun H => PX D cI cL ad n now told v H)) (QcRead (nI n)) 0 0 (fun _ => False) := by
  refine Met.ofW (cc := cX1_lamps) (maxL := 1) (ret := (some .int)) (by decide) rfl ?_
  intro p e s m args below meth c s₁ B hml hv
  obtain ⟨rfl, hK, hE, hP0, hPL⟩ := hv
  obtain ⟨hn8, hnow, hwl⟩ := hwf
  have hx := B.exec
  have hb := B.bytes
  have hr := B.returns
  have hts := atoms_spec (ws := wsX1_lamps) B.pre
  have hown : s.vm.findClass RX1 = some m.cls := findClass_of_methodNamed B.named
  have hlocks := B.notSynchronized
  have hNF := hE.2.1.1
  have hin1 : ∀ w ∈ wsX10, w ∈ wsX1_lamps := by decide +kernel
  have hl := lv_entry ([.ref (ad 0)]) (n := 1) (Nat.le_of_ble_eq_true rfl)
  rw [lg_entry_eq]
  generalize (lg_sl ([.ref (ad 0)]) ++ List.replicate (1 - (lg_sl ([.ref (ad 0)])).length) Slot.unset).toArray = ls at hl ⊢
  have hl : lv_has ls 1 [(0, .ref (ad 0))] := hl
  refine lv_aload_n hx hb dX1_lamps_0 rfl (lv_at hl 0 rfl) ?_
  refine va_get (D := D) (ci := 1) (v := .int (nI n)) (C := RX1) (T := TX1) (N := 5) hx hb hts hin1 hown hK hP0 0 rfl rfl 2 (by decide) (hts (.fieldLink RX1 20 "LanternPrimes" "lampCount" "I") (List.mem_of_getElem? (i := 1) rfl)) (fun _ h9 => h9) rfl dX1_lamps_1 ?_
  exact W.iret (v := nI n) hx hb hr (fun t ht hW => ⟨rfl, ht⟩) (fun _ h => by cases h) dX1_lamps_4
set_option maxHeartbeats 4000000 in
set_option maxRecDepth 100000 in
/-- now -/
theorem c_X1_now (l : Launch) (D : va_G) (cI cZ cL cJ : ClassId) (ad : Nat → Nat) (n now : Nat) (told : Int32) (v : Nat → LV) (hwf : WFX n now v) : Met l yX1_now wsX1_now ({ frames := 0, cells := 0, slots := 0, locals := 0 } : Room) (PC D (TY cI cZ cL cJ) noA [.ref (ad 0)] (fun H => PX D cI cL ad n now told v H)) (QcRead (nI now)) 0 0 (fun _ => False) := by
  refine Met.ofW (cc := cX1_now) (maxL := 1) (ret := (some .int)) (by decide) rfl ?_
  intro p e s m args below meth c s₁ B hml hv
  obtain ⟨rfl, hK, hE, hP0, hPL⟩ := hv
  obtain ⟨hn8, hnow, hwl⟩ := hwf
  have hx := B.exec
  have hb := B.bytes
  have hr := B.returns
  have hts := atoms_spec (ws := wsX1_now) B.pre
  have hown : s.vm.findClass RX1 = some m.cls := findClass_of_methodNamed B.named
  have hlocks := B.notSynchronized
  have hNF := hE.2.1.1
  have hin1 : ∀ w ∈ wsX10, w ∈ wsX1_now := by decide +kernel
  have hl := lv_entry ([.ref (ad 0)]) (n := 1) (Nat.le_of_ble_eq_true rfl)
  rw [lg_entry_eq]
  generalize (lg_sl ([.ref (ad 0)]) ++ List.replicate (1 - (lg_sl ([.ref (ad 0)])).length) Slot.unset).toArray = ls at hl ⊢
  have hl : lv_has ls 1 [(0, .ref (ad 0))] := hl
  refine lv_aload_n hx hb dX1_now_0 rfl (lv_at hl 0 rfl) ?_
  refine va_get (D := D) (ci := 1) (v := .int (nI now)) (C := RX1) (T := TX1) (N := 5) hx hb hts hin1 hown hK hP0 0 rfl rfl 3 (by decide) (hts (.fieldLink RX1 73 "LanternPrimes" "present" "I") (List.mem_of_getElem? (i := 1) rfl)) (fun _ h9 => h9) rfl dX1_now_1 ?_
  exact W.iret (v := nI now) hx hb hr (fun t ht hW => ⟨rfl, ht⟩) (fun _ h => by cases h) dX1_now_4
set_option maxHeartbeats 4000000 in
set_option maxRecDepth 100000 in
/-- changesSeen -/
theorem c_X1_changesSeen (l : Launch) (D : va_G) (cI cZ cL cJ : ClassId) (ad : Nat → Nat) (n now : Nat) (told : Int32) (v : Nat → LV) (hwf : WFX n now v) : Met l yX1_changesSeen wsX1_changesSeen ({ frames := 0, cells := 0, slots := 0, locals := 0 } : Room) (PC D (TY cI cZ cL cJ) noA [.ref (ad 0)] (fun H => PX D cI cL ad n now told v H)) (QcRead (told)) 0 0 (fun _ => False) := by
  refine Met.ofW (cc := cX1_changesSeen) (maxL := 1) (ret := (some .int)) (by decide) rfl ?_
  intro p e s m args below meth c s₁ B hml hv
  obtain ⟨rfl, hK, hE, hP0, hPL⟩ := hv
  obtain ⟨hn8, hnow, hwl⟩ := hwf
  have hx := B.exec
  have hb := B.bytes
  have hr := B.returns
  have hts := atoms_spec (ws := wsX1_changesSeen) B.pre
  have hown : s.vm.findClass RX1 = some m.cls := findClass_of_methodNamed B.named
  have hlocks := B.notSynchronized
  have hNF := hE.2.1.1
  have hin1 : ∀ w ∈ wsX10, w ∈ wsX1_changesSeen := by decide +kernel
  have hl := lv_entry ([.ref (ad 0)]) (n := 1) (Nat.le_of_ble_eq_true rfl)
  rw [lg_entry_eq]
  generalize (lg_sl ([.ref (ad 0)]) ++ List.replicate (1 - (lg_sl ([.ref (ad 0)])).length) Slot.unset).toArray = ls at hl ⊢
  have hl : lv_has ls 1 [(0, .ref (ad 0))] := hl
  refine lv_aload_n hx hb dX1_changesSeen_0 rfl (lv_at hl 0 rfl) ?_
  refine va_get (D := D) (ci := 1) (v := .int told) (C := RX1) (T := TX1) (N := 5) hx hb hts hin1 hown hK hP0 0 rfl rfl 4 (by decide) (hts (.fieldLink RX1 80 "LanternPrimes" "changesTold" "I") (List.mem_of_getElem? (i := 1) rfl)) (fun _ h9 => h9) rfl dX1_changesSeen_1 ?_
  exact W.iret (v := told) hx hb hr (fun t ht hW => ⟨rfl, ht⟩) (fun _ h => by cases h) dX1_changesSeen_4
set_option maxHeartbeats 4000000 in
set_option maxRecDepth 100000 in
/-- litLamps -/
theorem c_X1_litLamps (l : Launch) (D : va_G) (cI cZ cL cJ : ClassId) (ad : Nat → Nat) (n now : Nat) (told : Int32) (v : Nat → LV) (hwf : WFX n now v) : Met l yX1_litLamps wsX1_litLamps ({ frames := 4, cells := 0, slots := 0, locals := 89 } : Room) (PC D (TY cI cZ cL cJ) noA [.ref (ad 0)] (fun H => PX D cI cL ad n now told v H)) (QcRead (nI (litN v n now))) 0 0 (fun _ => False) := by
  refine Met.ofW (cc := cX1_litLamps) (maxL := 1) (ret := (some .int)) (by decide) rfl ?_
  intro p e s m args below meth c s₁ B hml hv
  obtain ⟨rfl, hK, hE, hP0, hPL⟩ := hv
  obtain ⟨hn8, hnow, hwl⟩ := hwf
  have hx := B.exec
  have hb := B.bytes
  have hr := B.returns
  have hts := atoms_spec (ws := wsX1_litLamps) B.pre
  have hown : s.vm.findClass RX1 = some m.cls := findClass_of_methodNamed B.named
  have hlocks := B.notSynchronized
  have hNF := hE.2.1.1
  have hin0 : ∀ w ∈ wsX00, w ∈ wsX1_litLamps := by decide +kernel
  have hin1 : ∀ w ∈ wsX10, w ∈ wsX1_litLamps := by decide +kernel
  have hl := lv_entry ([.ref (ad 0)]) (n := 1) (Nat.le_of_ble_eq_true rfl)
  rw [lg_entry_eq]
  generalize (lg_sl ([.ref (ad 0)]) ++ List.replicate (1 - (lg_sl ([.ref (ad 0)])).length) Slot.unset).toArray = ls at hl ⊢
  have hl : lv_has ls 1 [(0, .ref (ad 0))] := hl
  refine lv_aload_n hx hb dX1_litLamps_0 rfl (lv_at hl 0 rfl) ?_
  refine lv_aload_n hx hb dX1_litLamps_1 rfl (lv_at hl 0 rfl) ?_
  refine va_get (D := D) (ci := 1) (v := .int (nI now)) (C := RX1) (T := TX1) (N := 5) hx hb hts hin1 hown hK hP0 0 rfl rfl 3 (by decide) (hts (.fieldLink RX1 73 "LanternPrimes" "present" "I") (List.mem_of_getElem? (i := 1) rfl)) (fun _ h9 => h9) rfl dX1_litLamps_2 ?_
  refine rV (r := nI (litN v n now)) (As := [.int (nI now)]) (rest := []) ⟨hx, hb, hml, hown, hts⟩ (c_X1_litCount l D cI cZ cL cJ ad n now told v ⟨hn8, hnow, hwl⟩ now (by omega)) (cwV 1 hts gX1_litLamps_X1_litCount rfl rfl rfl (by decide +kernel) ⟨(Nat.le_of_ble_eq_true rfl), (Nat.le_of_ble_eq_true rfl)⟩) hK hE ⟨hP0, hPL⟩ (RC_of (q := (RX1, TX1, 5)) (ci := 1) hK rfl (vpa hP0 0 rfl)) rfl hl.1 rfl (Nat.le_of_ble_eq_true rfl) dX1_litLamps_5 ⟨(Nat.le_of_ble_eq_true rfl), (Nat.le_of_ble_eq_true rfl)⟩ ?_
  exact W.iret (v := nI (litN v n now)) hx hb hr (fun t ht hW => ⟨rfl, ht⟩) (fun _ h => by cases h) dX1_litLamps_8
set_option maxHeartbeats 4000000 in
set_option maxRecDepth 100000 in
/-- isDark -/
theorem c_X1_isDark (l : Launch) (D : va_G) (cI cZ cL cJ : ClassId) (ad : Nat → Nat) (n now : Nat) (told : Int32) (v : Nat → LV) (hwf : WFX n now v) : Met l yX1_isDark wsX1_isDark ({ frames := 4, cells := 0, slots := 0, locals := 89 } : Room) (PC D (TY cI cZ cL cJ) noA [.ref (ad 0)] (fun H => PX D cI cL ad n now told v H)) (QcRead (bI (dkB v n (-1) now))) 0 0 (fun _ => False) := by
  refine Met.ofW (cc := cX1_isDark) (maxL := 1) (ret := (some .boolean)) (by decide) rfl ?_
  intro p e s m args below meth c s₁ B hml hv
  obtain ⟨rfl, hK, hE, hP0, hPL⟩ := hv
  obtain ⟨hn8, hnow, hwl⟩ := hwf
  have hx := B.exec
  have hb := B.bytes
  have hr := B.returns
  have hts := atoms_spec (ws := wsX1_isDark) B.pre
  have hown : s.vm.findClass RX1 = some m.cls := findClass_of_methodNamed B.named
  have hlocks := B.notSynchronized
  have hNF := hE.2.1.1
  have hin0 : ∀ w ∈ wsX00, w ∈ wsX1_isDark := by decide +kernel
  have hin1 : ∀ w ∈ wsX10, w ∈ wsX1_isDark := by decide +kernel
  have hl := lv_entry ([.ref (ad 0)]) (n := 1) (Nat.le_of_ble_eq_true rfl)
  rw [lg_entry_eq]
  generalize (lg_sl ([.ref (ad 0)]) ++ List.replicate (1 - (lg_sl ([.ref (ad 0)])).length) Slot.unset).toArray = ls at hl ⊢
  have hl : lv_has ls 1 [(0, .ref (ad 0))] := hl
  refine lv_aload_n hx hb dX1_isDark_0 rfl (lv_at hl 0 rfl) ?_
  refine lv_aload_n hx hb dX1_isDark_1 rfl (lv_at hl 0 rfl) ?_
  refine va_get (D := D) (ci := 1) (v := .int (nI now)) (C := RX1) (T := TX1) (N := 5) hx hb hts hin1 hown hK hP0 0 rfl rfl 3 (by decide) (hts (.fieldLink RX1 73 "LanternPrimes" "present" "I") (List.mem_of_getElem? (i := 1) rfl)) (fun _ h9 => h9) rfl dX1_isDark_2 ?_
  refine lv_iconst (v := (-1)) hx hb dX1_isDark_5 (by decide) ?_
  refine rV (r := bI (dkB v n (-1) now)) (As := [.int (nI now), .int (-1)]) (rest := []) ⟨hx, hb, hml, hown, hts⟩ (c_X1_darkAt l D cI cZ cL cJ ad n now told v ⟨hn8, hnow, hwl⟩ now (by omega) (-1)) (cwV 2 hts gX1_isDark_X1_darkAt rfl rfl rfl (by decide +kernel) ⟨(Nat.le_of_ble_eq_true rfl), (Nat.le_of_ble_eq_true rfl)⟩) hK hE ⟨hP0, hPL⟩ (RC_of (q := (RX1, TX1, 5)) (ci := 1) hK rfl (vpa hP0 0 rfl)) rfl hl.1 rfl (Nat.le_of_ble_eq_true rfl) dX1_isDark_6 ⟨(Nat.le_of_ble_eq_true rfl), (Nat.le_of_ble_eq_true rfl)⟩ ?_
  exact W.zret (v := bI (dkB v n (-1) now)) hx hb hr (bI_narrow _) (fun t ht hW => ⟨rfl, ht⟩) (fun _ h => by cases h) dX1_isDark_9
set_option maxHeartbeats 4000000 in
set_option maxRecDepth 100000 in
/-- momentsUntilDark -/
theorem c_X1_momentsUntilDark (l : Launch) (D : va_G) (cI cZ cL cJ : ClassId) (ad : Nat → Nat) (n now : Nat) (told : Int32) (v : Nat → LV) (hwf : WFX n now v) : Met l yX1_momentsUntilDark wsX1_momentsUntilDark ({ frames := 4, cells := 0, slots := 0, locals := 89 } : Room) (PC D (TY cI cZ cL cJ) noA [.ref (ad 0)] (fun H => PX D cI cL ad n now told v H)) (QcRead ((oI (fnd (fun q => dkB v n (-1) (now + q)) 0 2001)))) 0 0 (fun _ => False) := by
  refine Met.ofW (cc := cX1_momentsUntilDark) (maxL := 2) (ret := (some .int)) (by decide) rfl ?_
  intro p e s m args below meth c s₁ B hml hv
  obtain ⟨rfl, hK, hE, hP0, hPL⟩ := hv
  obtain ⟨hn8, hnow, hwl⟩ := hwf
  have hx := B.exec
  have hb := B.bytes
  have hr := B.returns
  have hts := atoms_spec (ws := wsX1_momentsUntilDark) B.pre
  have hown : s.vm.findClass RX1 = some m.cls := findClass_of_methodNamed B.named
  have hlocks := B.notSynchronized
  have hNF := hE.2.1.1
  have hin0 : ∀ w ∈ wsX00, w ∈ wsX1_momentsUntilDark := by decide +kernel
  have hin1 : ∀ w ∈ wsX10, w ∈ wsX1_momentsUntilDark := by decide +kernel
  have hl := lv_entry ([.ref (ad 0)]) (n := 2) (Nat.le_of_ble_eq_true rfl)
  rw [lg_entry_eq]
  generalize (lg_sl ([.ref (ad 0)]) ++ List.replicate (2 - (lg_sl ([.ref (ad 0)])).length) Slot.unset).toArray = ls at hl ⊢
  have hl : lv_has ls 2 [(0, .ref (ad 0))] := hl
  refine lv_iconst (v := nI 0) hx hb dX1_momentsUntilDark_0 (by decide) ?_
  refine lv_istore_n (lv' := [(1, .int (nI 0)), (0, .ref (ad 0))]) hx hb dX1_momentsUntilDark_1 rfl hl (by decide) rfl (fun ls hl => ?_)
  have loop_2 : ∀ (fu : Nat) (q : Nat), 2002 - q ≤ fu → q ≤ 2001 → fnd (fun q => dkB v n (-1) (now + q)) q (2001 - q) = fnd (fun q => dkB v n (-1) (now + q)) 0 2001 → ∀ (ls : Array Slot), lv_has ls 2 [(1, .int (nI q)), (0, .ref (ad 0))] → W p l e (headSpec wsX1_momentsUntilDark ({ frames := 4, cells := 0, slots := 0, locals := 89 } : Room)).room s m [.ref (ad 0)].toArray below meth c s.heap [] 0 0 (MQ below (QcRead ((oI (fnd (fun q => dkB v n (-1) (now + q)) 0 2001)))) [.ref (ad 0)].toArray s 0 0 (fun _ => False)) (F0 m 2 ls []) := by
    intro fu
    induction fu with
    | zero => intro q hn_2 hq hf; exact absurd hn_2 (by omega)
    | succ fu ih_2 =>
      intro q hn_2 hq hf ls hl
      refine lv_iload_n hx hb dX1_momentsUntilDark_2 rfl (lv_at hl 0 rfl) ?_
      refine lv_sipush (v := nI 2000) hx hb dX1_momentsUntilDark_3 (by decide) ?_
      refine n_icmp_gt (a := q) (b := 2000) (tgt := 31) hx hb (by omega) (by omega) dX1_momentsUntilDark_6 (by decide) (fun c_6 => ?_) (fun c_6 => ?_)
      · refine lv_iconst (v := (-1)) hx hb dX1_momentsUntilDark_31 (by decide) ?_
        refine n_ti (y := (oI (fnd (fun q => dkB v n (-1) (now + q)) 0 2001))) (by rw [← hf, show 2001 - q = 0 by omega]; rfl) ?_
        exact W.iret (v := (oI (fnd (fun q => dkB v n (-1) (now + q)) 0 2001))) hx hb hr (fun t ht hW => ⟨rfl, ht⟩) (fun _ h => by cases h) dX1_momentsUntilDark_32
      · refine lv_aload_n hx hb dX1_momentsUntilDark_9 rfl (lv_at hl 1 rfl) ?_
        refine lv_aload_n hx hb dX1_momentsUntilDark_10 rfl (lv_at hl 1 rfl) ?_
        refine va_get (D := D) (ci := 1) (v := .int (nI now)) (C := RX1) (T := TX1) (N := 5) hx hb hts hin1 hown hK hP0 0 rfl rfl 3 (by decide) (hts (.fieldLink RX1 73 "LanternPrimes" "present" "I") (List.mem_of_getElem? (i := 1) rfl)) (fun _ h9 => h9) rfl dX1_momentsUntilDark_11 ?_
        refine lv_iload_n hx hb dX1_momentsUntilDark_14 rfl (lv_at hl 0 rfl) ?_
        refine n_iadd (v := nI (now + q)) hx hb dX1_momentsUntilDark_15 (nI_add _ _) ?_
        refine lv_iconst (v := (-1)) hx hb dX1_momentsUntilDark_16 (by decide) ?_
        refine rV (r := bI (dkB v n (-1) (now + q))) (As := [.int (nI (now + q)), .int (-1)]) (rest := []) ⟨hx, hb, hml, hown, hts⟩ (c_X1_darkAt l D cI cZ cL cJ ad n now told v ⟨hn8, hnow, hwl⟩ (now + q) (by omega) (-1)) (cwV 2 hts gX1_momentsUntilDark_X1_darkAt rfl rfl rfl (by decide +kernel) ⟨(Nat.le_of_ble_eq_true rfl), (Nat.le_of_ble_eq_true rfl)⟩) hK hE ⟨hP0, hPL⟩ (RC_of (q := (RX1, TX1, 5)) (ci := 1) hK rfl (vpa hP0 0 rfl)) rfl hl.1 rfl (Nat.le_of_ble_eq_true rfl) dX1_momentsUntilDark_17 ⟨(Nat.le_of_ble_eq_true rfl), (Nat.le_of_ble_eq_true rfl)⟩ ?_
        refine b_if_eq (b := dkB v n (-1) (now + q)) (tgt := 25) hx hb dX1_momentsUntilDark_20 (by decide) (fun c_20 => ?_) (fun c_20 => ?_)
        · refine lv_iinc (v := nI (q + 1)) (lv' := [(1, .int (nI (q + 1))), (0, .ref (ad 0))]) hx hb dX1_momentsUntilDark_25 hl (k := 0) rfl (nI_inc _) (by decide) rfl (fun ls hl => ?_)
          refine lv_goto (tgt := 2) hx hb dX1_momentsUntilDark_28 (by decide) ?_
          exact ih_2 (q + 1) (by omega) (by omega) (by rw [← hf, fnd_f (f := (fun q => dkB v n (-1) (now + q))) (lo := q) c_20 (by omega), show 2001 - q - 1 = 2001 - (q + 1) by omega]) ls (lv_sub hl [0, 1] rfl)
        · refine lv_iload_n hx hb dX1_momentsUntilDark_23 rfl (lv_at hl 0 rfl) ?_
          refine n_ti (y := (oI (fnd (fun q => dkB v n (-1) (now + q)) 0 2001))) (by rw [← hf, fnd_t (f := (fun q => dkB v n (-1) (now + q))) (lo := q) c_20 (by omega)]; rfl) ?_
          exact W.iret (v := (oI (fnd (fun q => dkB v n (-1) (now + q)) 0 2001))) hx hb hr (fun t ht hW => ⟨rfl, ht⟩) (fun _ h => by cases h) dX1_momentsUntilDark_24
  exact loop_2 2002 0 (by omega) (by omega) rfl ls (lv_sub hl [0, 1] rfl)
set_option maxHeartbeats 4000000 in
set_option maxRecDepth 100000 in
/-- mixed -/
theorem c_X1_mixed (l : Launch) (D : va_G) (cI cZ cL cJ : ClassId) (d x : Int64) : Met l yX1_mixed wsX1_mixed ({ frames := 0, cells := 0, slots := 0, locals := 0 } : Room) (PC D (TY cI cZ cL cJ) noA [.long d, .long x] (fun _ => True)) (QLg (mxL d x)) 0 0 (fun _ => False) := by
  refine Met.ofW (cc := cX1_mixed) (maxL := 4) (ret := (some .long)) (by decide) rfl ?_
  intro p e s m args below meth c s₁ B hml hv
  obtain ⟨rfl, hK, hE, -⟩ := hv
  have hx := B.exec
  have hb := B.bytes
  have hr := B.returns
  have hts := atoms_spec (ws := wsX1_mixed) B.pre
  have hown : s.vm.findClass RX1 = some m.cls := findClass_of_methodNamed B.named
  have hlocks := B.notSynchronized
  have hNF := hE.2.1.1
  have hl := lv_entry ([.long d, .long x]) (n := 4) (Nat.le_of_ble_eq_true rfl)
  rw [lg_entry_eq]
  generalize (lg_sl ([.long d, .long x]) ++ List.replicate (4 - (lg_sl ([.long d, .long x])).length) Slot.unset).toArray = ls at hl ⊢
  have hl : lv_has ls 4 [(0, .long d), (2, .long x)] := hl
  refine lv_lload_n hx hb dX1_mixed_0 rfl (lv_at hl 0 rfl) ?_
  refine lv_ldc2 (v := 31) hx hb hown (hts (.constantLong RX1 139 (31)) (List.mem_of_getElem? (i := 1) rfl)) dX1_mixed_1 ?_
  refine lv_lmul hx hb dX1_mixed_4 ?_
  refine lv_lload_n hx hb dX1_mixed_5 rfl (lv_at hl 1 rfl) ?_
  refine lv_ladd hx hb dX1_mixed_6 ?_
  exact W.lret (v := mxL d x) hx hb hr (fun t ht hW => ⟨rfl, ht⟩) (fun _ h => by cases h) dX1_mixed_7
set_option maxHeartbeats 4000000 in
set_option maxRecDepth 100000 in
/-- mixedWithLamp -/
theorem c_X1_mixedWithLamp (l : Launch) (D : va_G) (cI cZ cL cJ : ClassId) (ad : Nat → Nat) (n now : Nat) (told : Int32) (v : Nat → LV) (hwf : WFX n now v) (j : Nat) (hj : j < n) (d : Int64) : Met l yX1_mixedWithLamp wsX1_mixedWithLamp ({ frames := 4, cells := 0, slots := 0, locals := 92 } : Room) (PC D (TY cI cZ cL cJ) noA [.ref (ad 0), .long d, .ref (ad (2 + 3 * j))] (fun H => PX D cI cL ad n now told v H)) (QLg (dgP (v j) now d)) 0 0 (fun _ => False) := by
  refine Met.ofW (cc := cX1_mixedWithLamp) (maxL := 7) (ret := (some .long)) (by decide) rfl ?_
  intro p e s m args below meth c s₁ B hml hv
  obtain ⟨rfl, hK, hE, hP0, hPL⟩ := hv
  obtain ⟨hn8, hnow, hwl⟩ := hwf
  have hPj := hPL j (by omega)
  have hwj := (hwl j (by omega)).1
  have hx := B.exec
  have hb := B.bytes
  have hr := B.returns
  have hts := atoms_spec (ws := wsX1_mixedWithLamp) B.pre
  have hown : s.vm.findClass RX1 = some m.cls := findClass_of_methodNamed B.named
  have hlocks := B.notSynchronized
  have hNF := hE.2.1.1
  have hin0 : ∀ w ∈ wsX00, w ∈ wsX1_mixedWithLamp := by decide +kernel
  have hin1 : ∀ w ∈ wsX10, w ∈ wsX1_mixedWithLamp := by decide +kernel
  have hl := lv_entry ([.ref (ad 0), .long d, .ref (ad (2 + 3 * j))]) (n := 7) (Nat.le_of_ble_eq_true rfl)
  rw [lg_entry_eq]
  generalize (lg_sl ([.ref (ad 0), .long d, .ref (ad (2 + 3 * j))]) ++ List.replicate (7 - (lg_sl ([.ref (ad 0), .long d, .ref (ad (2 + 3 * j))])).length) Slot.unset).toArray = ls at hl ⊢
  have hl : lv_has ls 7 [(0, .ref (ad 0)), (1, .long d), (3, .ref (ad (2 + 3 * j)))] := hl
  refine lv_lload_n hx hb dX1_mixedWithLamp_0 rfl (lv_at hl 1 rfl) ?_
  refine lv_lstore (lv' := [(4, .long d), (0, .ref (ad 0)), (1, .long d), (3, .ref (ad (2 + 3 * j)))]) hx hb dX1_mixedWithLamp_1 hl (by decide) rfl (fun ls hl => ?_)
  refine lv_lload hx hb dX1_mixedWithLamp_3 (lv_at hl 0 rfl) ?_
  refine lv_aload_n hx hb dX1_mixedWithLamp_5 rfl (lv_at hl 3 rfl) ?_
  refine va_getN (D := D) (ci := 0) (v := .int (nI (lbc (v j)))) (C := RX0) (T := TX0) (N := 5) hx hb hts hin0 hown hK hPj 0 rfl rfl 2 (by decide) (va_Nw.use rfl (hNF _ (List.mem_of_getElem? (i := 1) rfl))) (fun _ h9 => h9) rfl dX1_mixedWithLamp_6 ?_
  refine lv_i2l (v := (nI (lbc (v j))).toInt64) hx hb dX1_mixedWithLamp_9 rfl ?_
  refine rSl (r := dg1 (v j) d) (As := [.long d, .long ((nI (lbc (v j))).toInt64)]) (rest := []) ⟨hx, hb, hml, hown, hts⟩ (c_X1_mixed l D cI cZ cL cJ d ((nI (lbc (v j))).toInt64)) (va_cwS 2 hts gX1_mixedWithLamp_X1_mixed rfl rfl rfl (by decide +kernel) ⟨(Nat.le_of_ble_eq_true rfl), (Nat.le_of_ble_eq_true rfl)⟩) hK hE trivial rfl hl.1 rfl (Nat.le_of_ble_eq_true rfl) dX1_mixedWithLamp_10 ⟨(Nat.le_of_ble_eq_true rfl), (Nat.le_of_ble_eq_true rfl)⟩ ?_
  refine lv_lstore (lv' := [(4, .long (dg1 (v j) d)), (0, .ref (ad 0)), (1, .long d), (3, .ref (ad (2 + 3 * j)))]) hx hb dX1_mixedWithLamp_13 hl (by decide) rfl (fun ls hl => ?_)
  have join_29 : ∀ (ls : Array Slot), lv_has ls 7 [(4, .long (dg1 (v j) d)), (0, .ref (ad 0)), (1, .long d), (3, .ref (ad (2 + 3 * j)))] → W p l e (headSpec wsX1_mixedWithLamp ({ frames := 4, cells := 0, slots := 0, locals := 92 } : Room)).room s m [.ref (ad 0), .long d, .ref (ad (2 + 3 * j))].toArray below meth c s.heap [] 0 0 (MQ below (QLg (dgP (v j) now d)) [.ref (ad 0), .long d, .ref (ad (2 + 3 * j))].toArray s 0 0 (fun _ => False)) (F0 m 29 ls [.long (bJ (lcv (v j))), .long (dg1 (v j) d)]) := by
    intro   ls hl
    refine rSl (r := dg2 (v j) d) (As := [.long (dg1 (v j) d), .long (bJ (lcv (v j)))]) (rest := []) ⟨hx, hb, hml, hown, hts⟩ (c_X1_mixed l D cI cZ cL cJ (dg1 (v j) d) (bJ (lcv (v j)))) (va_cwS 2 hts gX1_mixedWithLamp_X1_mixed rfl rfl rfl (by decide +kernel) ⟨(Nat.le_of_ble_eq_true rfl), (Nat.le_of_ble_eq_true rfl)⟩) hK hE trivial rfl hl.1 rfl (Nat.le_of_ble_eq_true rfl) dX1_mixedWithLamp_29 ⟨(Nat.le_of_ble_eq_true rfl), (Nat.le_of_ble_eq_true rfl)⟩ ?_
    refine lv_lstore (lv' := [(4, .long (dg2 (v j) d)), (0, .ref (ad 0)), (1, .long d), (3, .ref (ad (2 + 3 * j)))]) hx hb dX1_mixedWithLamp_32 hl (by decide) rfl (fun ls hl => ?_)
    have join_52 : ∀ (ls : Array Slot), lv_has ls 7 [(4, .long (dg2 (v j) d)), (0, .ref (ad 0)), (1, .long d), (3, .ref (ad (2 + 3 * j)))] → W p l e (headSpec wsX1_mixedWithLamp ({ frames := 4, cells := 0, slots := 0, locals := 92 } : Room)).room s m [.ref (ad 0), .long d, .ref (ad (2 + 3 * j))].toArray below meth c s.heap [] 0 0 (MQ below (QLg (dgP (v j) now d)) [.ref (ad 0), .long d, .ref (ad (2 + 3 * j))].toArray s 0 0 (fun _ => False)) (F0 m 52 ls [.long (bJ (onB (v j) now)), .long (dg2 (v j) d)]) := by
      intro   ls hl
      refine rSl (r := dg3 (v j) now d) (As := [.long (dg2 (v j) d), .long (bJ (onB (v j) now))]) (rest := []) ⟨hx, hb, hml, hown, hts⟩ (c_X1_mixed l D cI cZ cL cJ (dg2 (v j) d) (bJ (onB (v j) now))) (va_cwS 2 hts gX1_mixedWithLamp_X1_mixed rfl rfl rfl (by decide +kernel) ⟨(Nat.le_of_ble_eq_true rfl), (Nat.le_of_ble_eq_true rfl)⟩) hK hE trivial rfl hl.1 rfl (Nat.le_of_ble_eq_true rfl) dX1_mixedWithLamp_52 ⟨(Nat.le_of_ble_eq_true rfl), (Nat.le_of_ble_eq_true rfl)⟩ ?_
      refine lv_lstore (lv' := [(4, .long (dg3 (v j) now d)), (0, .ref (ad 0)), (1, .long d), (3, .ref (ad (2 + 3 * j)))]) hx hb dX1_mixedWithLamp_55 hl (by decide) rfl (fun ls hl => ?_)
      have join_71 : ∀ (ls : Array Slot), lv_has ls 7 [(4, .long (dg3 (v j) now d)), (0, .ref (ad 0)), (1, .long d), (3, .ref (ad (2 + 3 * j)))] → W p l e (headSpec wsX1_mixedWithLamp ({ frames := 4, cells := 0, slots := 0, locals := 92 } : Room)).room s m [.ref (ad 0), .long d, .ref (ad (2 + 3 * j))].toArray below meth c s.heap [] 0 0 (MQ below (QLg (dgP (v j) now d)) [.ref (ad 0), .long d, .ref (ad (2 + 3 * j))].toArray s 0 0 (fun _ => False)) (F0 m 71 ls [.long (bJ (decide (cyc (v j) = 1))), .long (dg3 (v j) now d)]) := by
        intro   ls hl
        refine rSl (r := dg4 (v j) now d) (As := [.long (dg3 (v j) now d), .long (bJ (decide (cyc (v j) = 1)))]) (rest := []) ⟨hx, hb, hml, hown, hts⟩ (c_X1_mixed l D cI cZ cL cJ (dg3 (v j) now d) (bJ (decide (cyc (v j) = 1)))) (va_cwS 2 hts gX1_mixedWithLamp_X1_mixed rfl rfl rfl (by decide +kernel) ⟨(Nat.le_of_ble_eq_true rfl), (Nat.le_of_ble_eq_true rfl)⟩) hK hE trivial rfl hl.1 rfl (Nat.le_of_ble_eq_true rfl) dX1_mixedWithLamp_71 ⟨(Nat.le_of_ble_eq_true rfl), (Nat.le_of_ble_eq_true rfl)⟩ ?_
        refine lv_lstore (lv' := [(4, .long (dg4 (v j) now d)), (0, .ref (ad 0)), (1, .long d), (3, .ref (ad (2 + 3 * j)))]) hx hb dX1_mixedWithLamp_74 hl (by decide) rfl (fun ls hl => ?_)
        refine lv_lload hx hb dX1_mixedWithLamp_76 (lv_at hl 0 rfl) ?_
        refine lv_aload_n hx hb dX1_mixedWithLamp_78 rfl (lv_at hl 3 rfl) ?_
        refine rV (r := nI (cyc (v j))) (As := []) (rest := [.long (dg4 (v j) now d)]) ⟨hx, hb, hml, hown, hts⟩ (c_X0_cycle l D cI cZ cL cJ (ad (2 + 3 * j)) (ad (3 + 3 * j)) (ad (4 + 3 * j)) (v j) (hwl j (by omega)).up) (cwV 0 hts gX1_mixedWithLamp_X0_cycle rfl rfl rfl (by decide +kernel) ⟨(Nat.le_of_ble_eq_true rfl), (Nat.le_of_ble_eq_true rfl)⟩) hK hE hPj (RC_of (q := (RX0, TX0, 5)) (ci := 0) hK rfl (vpa hPj 0 rfl)) rfl hl.1 rfl (Nat.le_of_ble_eq_true rfl) dX1_mixedWithLamp_79 ⟨(Nat.le_of_ble_eq_true rfl), (Nat.le_of_ble_eq_true rfl)⟩ ?_
        refine lv_i2l (v := (nI (cyc (v j))).toInt64) hx hb dX1_mixedWithLamp_82 rfl ?_
        refine rSl (r := dg5 (v j) now d) (As := [.long (dg4 (v j) now d), .long ((nI (cyc (v j))).toInt64)]) (rest := []) ⟨hx, hb, hml, hown, hts⟩ (c_X1_mixed l D cI cZ cL cJ (dg4 (v j) now d) ((nI (cyc (v j))).toInt64)) (va_cwS 2 hts gX1_mixedWithLamp_X1_mixed rfl rfl rfl (by decide +kernel) ⟨(Nat.le_of_ble_eq_true rfl), (Nat.le_of_ble_eq_true rfl)⟩) hK hE trivial rfl hl.1 rfl (Nat.le_of_ble_eq_true rfl) dX1_mixedWithLamp_83 ⟨(Nat.le_of_ble_eq_true rfl), (Nat.le_of_ble_eq_true rfl)⟩ ?_
        refine lv_lstore (lv' := [(4, .long (dg5 (v j) now d)), (0, .ref (ad 0)), (1, .long d), (3, .ref (ad (2 + 3 * j)))]) hx hb dX1_mixedWithLamp_86 hl (by decide) rfl (fun ls hl => ?_)
        refine lv_lload hx hb dX1_mixedWithLamp_88 (lv_at hl 0 rfl) ?_
        refine lv_aload_n hx hb dX1_mixedWithLamp_90 rfl (lv_at hl 3 rfl) ?_
        refine lv_aload_n hx hb dX1_mixedWithLamp_91 rfl (lv_at hl 1 rfl) ?_
        refine va_get (D := D) (ci := 1) (v := .int (nI now)) (C := RX1) (T := TX1) (N := 5) hx hb hts hin1 hown hK hP0 0 rfl rfl 3 (by decide) (hts (.fieldLink RX1 73 "LanternPrimes" "present" "I") (List.mem_of_getElem? (i := 1) rfl)) (fun _ h9 => h9) rfl dX1_mixedWithLamp_92 ?_
        refine rV (r := (untC (v j) now)) (As := [.int (nI now)]) (rest := [.long (dg5 (v j) now d)]) ⟨hx, hb, hml, hown, hts⟩ (c_X0_untilChange l D cI cZ cL cJ (ad (2 + 3 * j)) (ad (3 + 3 * j)) (ad (4 + 3 * j)) (v j) now (by omega) (hwl j (by omega)).up) (cwV 1 hts gX1_mixedWithLamp_X0_untilChange rfl rfl rfl (by decide +kernel) ⟨(Nat.le_of_ble_eq_true rfl), (Nat.le_of_ble_eq_true rfl)⟩) hK hE hPj (RC_of (q := (RX0, TX0, 5)) (ci := 0) hK rfl (vpa hPj 0 rfl)) rfl hl.1 rfl (Nat.le_of_ble_eq_true rfl) dX1_mixedWithLamp_95 ⟨(Nat.le_of_ble_eq_true rfl), (Nat.le_of_ble_eq_true rfl)⟩ ?_
        refine lv_i2l (v := (untC (v j) now).toInt64) hx hb dX1_mixedWithLamp_98 rfl ?_
        refine rSl (r := dg6 (v j) now d) (As := [.long (dg5 (v j) now d), .long ((untC (v j) now).toInt64)]) (rest := []) ⟨hx, hb, hml, hown, hts⟩ (c_X1_mixed l D cI cZ cL cJ (dg5 (v j) now d) ((untC (v j) now).toInt64)) (va_cwS 2 hts gX1_mixedWithLamp_X1_mixed rfl rfl rfl (by decide +kernel) ⟨(Nat.le_of_ble_eq_true rfl), (Nat.le_of_ble_eq_true rfl)⟩) hK hE trivial rfl hl.1 rfl (Nat.le_of_ble_eq_true rfl) dX1_mixedWithLamp_99 ⟨(Nat.le_of_ble_eq_true rfl), (Nat.le_of_ble_eq_true rfl)⟩ ?_
        refine lv_lstore (lv' := [(4, .long (dg6 (v j) now d)), (0, .ref (ad 0)), (1, .long d), (3, .ref (ad (2 + 3 * j)))]) hx hb dX1_mixedWithLamp_102 hl (by decide) rfl (fun ls hl => ?_)
        refine lv_iconst (v := nI 0) hx hb dX1_mixedWithLamp_104 (by decide) ?_
        refine lv_istore (lv' := [(6, .int (nI 0)), (4, .long (dg6 (v j) now d)), (0, .ref (ad 0)), (1, .long d), (3, .ref (ad (2 + 3 * j)))]) hx hb dX1_mixedWithLamp_105 hl (by decide) rfl (fun ls hl => ?_)
        have loop_107 : ∀ (fu : Nat) (i : Nat), lbc (v j) + 1 - i ≤ fu → i ≤ lbc (v j) → ∀ (ls : Array Slot), lv_has ls 7 [(6, .int (nI i)), (4, .long (dgB (v j) (dg6 (v j) now d) i)), (0, .ref (ad 0)), (1, .long d), (3, .ref (ad (2 + 3 * j)))] → W p l e (headSpec wsX1_mixedWithLamp ({ frames := 4, cells := 0, slots := 0, locals := 92 } : Room)).room s m [.ref (ad 0), .long d, .ref (ad (2 + 3 * j))].toArray below meth c s.heap [] 0 0 (MQ below (QLg (dgP (v j) now d)) [.ref (ad 0), .long d, .ref (ad (2 + 3 * j))].toArray s 0 0 (fun _ => False)) (F0 m 107 ls []) := by
          intro fu
          induction fu with
          | zero => intro i hn_107 hi; exact absurd hn_107 (by omega)
          | succ fu ih_107 =>
            intro i hn_107 hi ls hl
            refine lv_iload hx hb dX1_mixedWithLamp_107 (lv_at hl 0 rfl) ?_
            refine lv_aload_n hx hb dX1_mixedWithLamp_109 rfl (lv_at hl 4 rfl) ?_
            refine va_getN (D := D) (ci := 0) (v := .int (nI (lbc (v j)))) (C := RX0) (T := TX0) (N := 5) hx hb hts hin0 hown hK hPj 0 rfl rfl 2 (by decide) (va_Nw.use rfl (hNF _ (List.mem_of_getElem? (i := 1) rfl))) (fun _ h9 => h9) rfl dX1_mixedWithLamp_110 ?_
            refine n_icmp_ge (a := i) (b := lbc (v j)) (tgt := 152) hx hb (by omega) (by omega) dX1_mixedWithLamp_113 (by decide) (fun c_113 => ?_) (fun c_113 => ?_)
            · refine lv_lload hx hb dX1_mixedWithLamp_152 (lv_at hl 1 rfl) ?_
              refine n_tl (y := dgP (v j) now d) (by rw [show i = lbc (v j) by omega]; rfl) ?_
              exact W.lret (v := dgP (v j) now d) hx hb hr (fun t ht hW => ⟨rfl, ht⟩) (fun _ h => by cases h) dX1_mixedWithLamp_154
            · refine lv_lload hx hb dX1_mixedWithLamp_116 (lv_at hl 1 rfl) ?_
              refine lv_aload_n hx hb dX1_mixedWithLamp_118 rfl (lv_at hl 4 rfl) ?_
              refine va_getN (D := D) (ci := 0) (v := .ref (ad (3 + 3 * j))) (C := RX0) (T := TX0) (N := 5) hx hb hts hin0 hown hK hPj 0 rfl rfl 0 (by decide) (va_Nw.use rfl (hNF _ (List.mem_of_getElem? (i := 2) rfl))) (fun _ h9 => h9) rfl dX1_mixedWithLamp_119 ?_
              refine lv_iload hx hb dX1_mixedWithLamp_122 (lv_at hl 0 rfl) ?_
              refine n_iald (v := nI (lnu (v j) i)) (j := i) hx hb hK hPj 1 0 rfl rfl (by omega) (by decide) rfl dX1_mixedWithLamp_124 ?_
              refine lv_i2l (v := (nI (lnu (v j) i)).toInt64) hx hb dX1_mixedWithLamp_125 rfl ?_
              refine rSl (r := mxL (dgB (v j) (dg6 (v j) now d) i) (nI (lnu (v j) i)).toInt64) (As := [.long (dgB (v j) (dg6 (v j) now d) i), .long ((nI (lnu (v j) i)).toInt64)]) (rest := []) ⟨hx, hb, hml, hown, hts⟩ (c_X1_mixed l D cI cZ cL cJ (dgB (v j) (dg6 (v j) now d) i) ((nI (lnu (v j) i)).toInt64)) (va_cwS 2 hts gX1_mixedWithLamp_X1_mixed rfl rfl rfl (by decide +kernel) ⟨(Nat.le_of_ble_eq_true rfl), (Nat.le_of_ble_eq_true rfl)⟩) hK hE trivial rfl hl.1 rfl (Nat.le_of_ble_eq_true rfl) dX1_mixedWithLamp_126 ⟨(Nat.le_of_ble_eq_true rfl), (Nat.le_of_ble_eq_true rfl)⟩ ?_
              refine lv_lstore (lv' := [(4, .long (mxL (dgB (v j) (dg6 (v j) now d) i) (nI (lnu (v j) i)).toInt64)), (6, .int (nI i)), (0, .ref (ad 0)), (1, .long d), (3, .ref (ad (2 + 3 * j)))]) hx hb dX1_mixedWithLamp_129 hl (by decide) rfl (fun ls hl => ?_)
              refine lv_lload hx hb dX1_mixedWithLamp_131 (lv_at hl 0 rfl) ?_
              refine lv_aload_n hx hb dX1_mixedWithLamp_133 rfl (lv_at hl 4 rfl) ?_
              refine va_getN (D := D) (ci := 0) (v := .ref (ad (4 + 3 * j))) (C := RX0) (T := TX0) (N := 5) hx hb hts hin0 hown hK hPj 0 rfl rfl 1 (by decide) (va_Nw.use rfl (hNF _ (List.mem_of_getElem? (i := 3) rfl))) (fun _ h9 => h9) rfl dX1_mixedWithLamp_134 ?_
              refine lv_iload hx hb dX1_mixedWithLamp_137 (lv_at hl 1 rfl) ?_
              refine n_iald (v := nI (lof (v j) i)) (j := i) hx hb hK hPj 2 0 rfl rfl (by omega) (by decide) rfl dX1_mixedWithLamp_139 ?_
              refine lv_i2l (v := (nI (lof (v j) i)).toInt64) hx hb dX1_mixedWithLamp_140 rfl ?_
              refine rSl (r := dgB (v j) (dg6 (v j) now d) (i + 1)) (As := [.long (mxL (dgB (v j) (dg6 (v j) now d) i) (nI (lnu (v j) i)).toInt64), .long ((nI (lof (v j) i)).toInt64)]) (rest := []) ⟨hx, hb, hml, hown, hts⟩ (c_X1_mixed l D cI cZ cL cJ (mxL (dgB (v j) (dg6 (v j) now d) i) (nI (lnu (v j) i)).toInt64) ((nI (lof (v j) i)).toInt64)) (va_cwS 2 hts gX1_mixedWithLamp_X1_mixed rfl rfl rfl (by decide +kernel) ⟨(Nat.le_of_ble_eq_true rfl), (Nat.le_of_ble_eq_true rfl)⟩) hK hE trivial rfl hl.1 rfl (Nat.le_of_ble_eq_true rfl) dX1_mixedWithLamp_141 ⟨(Nat.le_of_ble_eq_true rfl), (Nat.le_of_ble_eq_true rfl)⟩ ?_
              refine lv_lstore (lv' := [(4, .long (dgB (v j) (dg6 (v j) now d) (i + 1))), (6, .int (nI i)), (0, .ref (ad 0)), (1, .long d), (3, .ref (ad (2 + 3 * j)))]) hx hb dX1_mixedWithLamp_144 hl (by decide) rfl (fun ls hl => ?_)
              refine lv_iinc (v := nI (i + 1)) (lv' := [(6, .int (nI (i + 1))), (4, .long (dgB (v j) (dg6 (v j) now d) (i + 1))), (0, .ref (ad 0)), (1, .long d), (3, .ref (ad (2 + 3 * j)))]) hx hb dX1_mixedWithLamp_146 hl (k := 1) rfl (nI_inc _) (by decide) rfl (fun ls hl => ?_)
              refine lv_goto (tgt := 107) hx hb dX1_mixedWithLamp_149 (by decide) ?_
              exact ih_107 (i + 1) (by omega) (by omega) ls (lv_sub hl [0, 1, 2, 3, 4] rfl)
        exact loop_107 (lbc (v j) + 1) 0 (by omega) (Nat.zero_le _) ls (lv_sub hl [0, 1, 2, 3, 4] rfl)
      refine lv_lload hx hb dX1_mixedWithLamp_57 (lv_at hl 0 rfl) ?_
      refine lv_aload_n hx hb dX1_mixedWithLamp_59 rfl (lv_at hl 3 rfl) ?_
      refine rV (r := bI (decide (cyc (v j) = 1))) (As := []) (rest := [.long (dg3 (v j) now d)]) ⟨hx, hb, hml, hown, hts⟩ (c_X0_neverChanges l D cI cZ cL cJ (ad (2 + 3 * j)) (ad (3 + 3 * j)) (ad (4 + 3 * j)) (v j) (hwl j (by omega)).up) (cwV 0 hts gX1_mixedWithLamp_X0_neverChanges rfl rfl rfl (by decide +kernel) ⟨(Nat.le_of_ble_eq_true rfl), (Nat.le_of_ble_eq_true rfl)⟩) hK hE hPj (RC_of (q := (RX0, TX0, 5)) (ci := 0) hK rfl (vpa hPj 0 rfl)) rfl hl.1 rfl (Nat.le_of_ble_eq_true rfl) dX1_mixedWithLamp_60 ⟨(Nat.le_of_ble_eq_true rfl), (Nat.le_of_ble_eq_true rfl)⟩ ?_
      refine b_if_eq (b := decide (cyc (v j) = 1)) (tgt := 70) hx hb dX1_mixedWithLamp_63 (by decide) (fun c_63 => ?_) (fun c_63 => ?_)
      · refine lv_lconst (v := 0) hx hb dX1_mixedWithLamp_70 (by decide) ?_
        refine n_tl (y := bJ (decide (cyc (v j) = 1))) (by rw [c_63]; rfl) ?_
        exact join_71 ls (lv_sub hl [0, 1, 2, 3] rfl)
      · refine lv_lconst (v := 1) hx hb dX1_mixedWithLamp_66 (by decide) ?_
        refine lv_goto (tgt := 71) hx hb dX1_mixedWithLamp_67 (by decide) ?_
        refine n_tl (y := bJ (decide (cyc (v j) = 1))) (by rw [c_63]; rfl) ?_
        exact join_71 ls (lv_sub hl [0, 1, 2, 3] rfl)
    refine lv_lload hx hb dX1_mixedWithLamp_34 (lv_at hl 0 rfl) ?_
    refine lv_aload_n hx hb dX1_mixedWithLamp_36 rfl (lv_at hl 3 rfl) ?_
    refine lv_aload_n hx hb dX1_mixedWithLamp_37 rfl (lv_at hl 1 rfl) ?_
    refine va_get (D := D) (ci := 1) (v := .int (nI now)) (C := RX1) (T := TX1) (N := 5) hx hb hts hin1 hown hK hP0 0 rfl rfl 3 (by decide) (hts (.fieldLink RX1 73 "LanternPrimes" "present" "I") (List.mem_of_getElem? (i := 1) rfl)) (fun _ h9 => h9) rfl dX1_mixedWithLamp_38 ?_
    refine rV (r := bI (onB (v j) now)) (As := [.int (nI now)]) (rest := [.long (dg2 (v j) d)]) ⟨hx, hb, hml, hown, hts⟩ (c_X0_onAt l D cI cZ cL cJ (ad (2 + 3 * j)) (ad (3 + 3 * j)) (ad (4 + 3 * j)) (v j) now (by omega) (hwl j (by omega)).up) (cwV 1 hts gX1_mixedWithLamp_X0_onAt rfl rfl rfl (by decide +kernel) ⟨(Nat.le_of_ble_eq_true rfl), (Nat.le_of_ble_eq_true rfl)⟩) hK hE hPj (RC_of (q := (RX0, TX0, 5)) (ci := 0) hK rfl (vpa hPj 0 rfl)) rfl hl.1 rfl (Nat.le_of_ble_eq_true rfl) dX1_mixedWithLamp_41 ⟨(Nat.le_of_ble_eq_true rfl), (Nat.le_of_ble_eq_true rfl)⟩ ?_
    refine b_if_eq (b := onB (v j) now) (tgt := 51) hx hb dX1_mixedWithLamp_44 (by decide) (fun c_44 => ?_) (fun c_44 => ?_)
    · refine lv_lconst (v := 0) hx hb dX1_mixedWithLamp_51 (by decide) ?_
      refine n_tl (y := bJ (onB (v j) now)) (by rw [c_44]; rfl) ?_
      exact join_52 ls (lv_sub hl [0, 1, 2, 3] rfl)
    · refine lv_lconst (v := 1) hx hb dX1_mixedWithLamp_47 (by decide) ?_
      refine lv_goto (tgt := 52) hx hb dX1_mixedWithLamp_48 (by decide) ?_
      refine n_tl (y := bJ (onB (v j) now)) (by rw [c_44]; rfl) ?_
      exact join_52 ls (lv_sub hl [0, 1, 2, 3] rfl)
  refine lv_lload hx hb dX1_mixedWithLamp_15 (lv_at hl 0 rfl) ?_
  refine lv_aload_n hx hb dX1_mixedWithLamp_17 rfl (lv_at hl 3 rfl) ?_
  refine va_getN (D := D) (ci := 0) (v := .int (bI (lcv (v j)))) (C := RX0) (T := TX0) (N := 5) hx hb hts hin0 hown hK hPj 0 rfl rfl 4 (by decide) (va_Nw.use rfl (hNF _ (List.mem_of_getElem? (i := 4) rfl))) (fun _ h9 => h9) rfl dX1_mixedWithLamp_18 ?_
  refine b_if_eq (b := lcv (v j)) (tgt := 28) hx hb dX1_mixedWithLamp_21 (by decide) (fun c_21 => ?_) (fun c_21 => ?_)
  · refine lv_lconst (v := 0) hx hb dX1_mixedWithLamp_28 (by decide) ?_
    refine n_tl (y := bJ (lcv (v j))) (by rw [c_21]; rfl) ?_
    exact join_29 ls (lv_sub hl [0, 1, 2, 3] rfl)
  · refine lv_lconst (v := 1) hx hb dX1_mixedWithLamp_24 (by decide) ?_
    refine lv_goto (tgt := 29) hx hb dX1_mixedWithLamp_25 (by decide) ?_
    refine n_tl (y := bJ (lcv (v j))) (by rw [c_21]; rfl) ?_
    exact join_29 ls (lv_sub hl [0, 1, 2, 3] rfl)
set_option maxHeartbeats 4000000 in
set_option maxRecDepth 100000 in
/-- digest -/
theorem c_X1_digest (l : Launch) (D : va_G) (cI cZ cL cJ : ClassId) (ad : Nat → Nat) (n now : Nat) (told : Int32) (v : Nat → LV) (hwf : WFX n now v) : Met l yX1_digest wsX1_digest ({ frames := 5, cells := 0, slots := 0, locals := 118 } : Room) (PC D (TY cI cZ cL cJ) noA [.ref (ad 0)] (fun H => PX D cI cL ad n now told v H)) (QLg (dgst n now told v)) 0 0 (fun _ => False) := by
  refine Met.ofW (cc := cX1_digest) (maxL := 4) (ret := (some .long)) (by decide) rfl ?_
  intro p e s m args below meth c s₁ B hml hv
  obtain ⟨rfl, hK, hE, hP0, hPL⟩ := hv
  obtain ⟨hn8, hnow, hwl⟩ := hwf
  have hx := B.exec
  have hb := B.bytes
  have hr := B.returns
  have hts := atoms_spec (ws := wsX1_digest) B.pre
  have hown : s.vm.findClass RX1 = some m.cls := findClass_of_methodNamed B.named
  have hlocks := B.notSynchronized
  have hNF := hE.2.1.1
  have hin0 : ∀ w ∈ wsX00, w ∈ wsX1_digest := by decide +kernel
  have hin1 : ∀ w ∈ wsX10, w ∈ wsX1_digest := by decide +kernel
  have hl := lv_entry ([.ref (ad 0)]) (n := 4) (Nat.le_of_ble_eq_true rfl)
  rw [lg_entry_eq]
  generalize (lg_sl ([.ref (ad 0)]) ++ List.replicate (4 - (lg_sl ([.ref (ad 0)])).length) Slot.unset).toArray = ls at hl ⊢
  have hl : lv_has ls 4 [(0, .ref (ad 0))] := hl
  refine lv_ldc2 (v := 1889) hx hb hown (hts (.constantLong RX1 129 (1889)) (List.mem_of_getElem? (i := 1) rfl)) dX1_digest_0 ?_
  refine lv_lstore_n (lv' := [(1, .long 1889), (0, .ref (ad 0))]) hx hb dX1_digest_3 rfl hl (by decide) rfl (fun ls hl => ?_)
  refine lv_lload_n hx hb dX1_digest_4 rfl (lv_at hl 0 rfl) ?_
  refine lv_aload_n hx hb dX1_digest_5 rfl (lv_at hl 1 rfl) ?_
  refine va_get (D := D) (ci := 1) (v := .int (nI n)) (C := RX1) (T := TX1) (N := 5) hx hb hts hin1 hown hK hP0 0 rfl rfl 2 (by decide) (hts (.fieldLink RX1 20 "LanternPrimes" "lampCount" "I") (List.mem_of_getElem? (i := 2) rfl)) (fun _ h9 => h9) rfl dX1_digest_6 ?_
  refine lv_i2l (v := (nI n).toInt64) hx hb dX1_digest_9 rfl ?_
  refine rSl (r := mxL 1889 (nI n).toInt64) (As := [.long 1889, .long ((nI n).toInt64)]) (rest := []) ⟨hx, hb, hml, hown, hts⟩ (c_X1_mixed l D cI cZ cL cJ 1889 ((nI n).toInt64)) (va_cwS 2 hts gX1_digest_X1_mixed rfl rfl rfl (by decide +kernel) ⟨(Nat.le_of_ble_eq_true rfl), (Nat.le_of_ble_eq_true rfl)⟩) hK hE trivial rfl hl.1 rfl (Nat.le_of_ble_eq_true rfl) dX1_digest_10 ⟨(Nat.le_of_ble_eq_true rfl), (Nat.le_of_ble_eq_true rfl)⟩ ?_
  refine lv_lstore_n (lv' := [(1, .long (mxL 1889 (nI n).toInt64)), (0, .ref (ad 0))]) hx hb dX1_digest_13 rfl hl (by decide) rfl (fun ls hl => ?_)
  refine lv_lload_n hx hb dX1_digest_14 rfl (lv_at hl 0 rfl) ?_
  refine lv_aload_n hx hb dX1_digest_15 rfl (lv_at hl 1 rfl) ?_
  refine va_get (D := D) (ci := 1) (v := .int (nI now)) (C := RX1) (T := TX1) (N := 5) hx hb hts hin1 hown hK hP0 0 rfl rfl 3 (by decide) (hts (.fieldLink RX1 73 "LanternPrimes" "present" "I") (List.mem_of_getElem? (i := 3) rfl)) (fun _ h9 => h9) rfl dX1_digest_16 ?_
  refine lv_i2l (v := (nI now).toInt64) hx hb dX1_digest_19 rfl ?_
  refine rSl (r := mxL (mxL 1889 (nI n).toInt64) (nI now).toInt64) (As := [.long (mxL 1889 (nI n).toInt64), .long ((nI now).toInt64)]) (rest := []) ⟨hx, hb, hml, hown, hts⟩ (c_X1_mixed l D cI cZ cL cJ (mxL 1889 (nI n).toInt64) ((nI now).toInt64)) (va_cwS 2 hts gX1_digest_X1_mixed rfl rfl rfl (by decide +kernel) ⟨(Nat.le_of_ble_eq_true rfl), (Nat.le_of_ble_eq_true rfl)⟩) hK hE trivial rfl hl.1 rfl (Nat.le_of_ble_eq_true rfl) dX1_digest_20 ⟨(Nat.le_of_ble_eq_true rfl), (Nat.le_of_ble_eq_true rfl)⟩ ?_
  refine lv_lstore_n (lv' := [(1, .long (mxL (mxL 1889 (nI n).toInt64) (nI now).toInt64)), (0, .ref (ad 0))]) hx hb dX1_digest_23 rfl hl (by decide) rfl (fun ls hl => ?_)
  refine lv_lload_n hx hb dX1_digest_24 rfl (lv_at hl 0 rfl) ?_
  refine lv_aload_n hx hb dX1_digest_25 rfl (lv_at hl 1 rfl) ?_
  refine va_get (D := D) (ci := 1) (v := .int told) (C := RX1) (T := TX1) (N := 5) hx hb hts hin1 hown hK hP0 0 rfl rfl 4 (by decide) (hts (.fieldLink RX1 80 "LanternPrimes" "changesTold" "I") (List.mem_of_getElem? (i := 4) rfl)) (fun _ h9 => h9) rfl dX1_digest_26 ?_
  refine lv_i2l (v := told.toInt64) hx hb dX1_digest_29 rfl ?_
  refine rSl (r := mxL (mxL (mxL 1889 (nI n).toInt64) (nI now).toInt64) told.toInt64) (As := [.long (mxL (mxL 1889 (nI n).toInt64) (nI now).toInt64), .long told.toInt64]) (rest := []) ⟨hx, hb, hml, hown, hts⟩ (c_X1_mixed l D cI cZ cL cJ (mxL (mxL 1889 (nI n).toInt64) (nI now).toInt64) told.toInt64) (va_cwS 2 hts gX1_digest_X1_mixed rfl rfl rfl (by decide +kernel) ⟨(Nat.le_of_ble_eq_true rfl), (Nat.le_of_ble_eq_true rfl)⟩) hK hE trivial rfl hl.1 rfl (Nat.le_of_ble_eq_true rfl) dX1_digest_30 ⟨(Nat.le_of_ble_eq_true rfl), (Nat.le_of_ble_eq_true rfl)⟩ ?_
  refine lv_lstore_n (lv' := [(1, .long (mxL (mxL (mxL 1889 (nI n).toInt64) (nI now).toInt64) told.toInt64)), (0, .ref (ad 0))]) hx hb dX1_digest_33 rfl hl (by decide) rfl (fun ls hl => ?_)
  refine lv_lload_n hx hb dX1_digest_34 rfl (lv_at hl 0 rfl) ?_
  refine lv_aload_n hx hb dX1_digest_35 rfl (lv_at hl 1 rfl) ?_
  refine lv_aload_n hx hb dX1_digest_36 rfl (lv_at hl 1 rfl) ?_
  refine va_get (D := D) (ci := 1) (v := .int (nI now)) (C := RX1) (T := TX1) (N := 5) hx hb hts hin1 hown hK hP0 0 rfl rfl 3 (by decide) (hts (.fieldLink RX1 73 "LanternPrimes" "present" "I") (List.mem_of_getElem? (i := 3) rfl)) (fun _ h9 => h9) rfl dX1_digest_37 ?_
  refine rV (r := nI (litN v n now)) (As := [.int (nI now)]) (rest := [.long (mxL (mxL (mxL 1889 (nI n).toInt64) (nI now).toInt64) told.toInt64)]) ⟨hx, hb, hml, hown, hts⟩ (c_X1_litCount l D cI cZ cL cJ ad n now told v ⟨hn8, hnow, hwl⟩ now (by omega)) (cwV 1 hts gX1_digest_X1_litCount rfl rfl rfl (by decide +kernel) ⟨(Nat.le_of_ble_eq_true rfl), (Nat.le_of_ble_eq_true rfl)⟩) hK hE ⟨hP0, hPL⟩ (RC_of (q := (RX1, TX1, 5)) (ci := 1) hK rfl (vpa hP0 0 rfl)) rfl hl.1 rfl (Nat.le_of_ble_eq_true rfl) dX1_digest_40 ⟨(Nat.le_of_ble_eq_true rfl), (Nat.le_of_ble_eq_true rfl)⟩ ?_
  refine lv_i2l (v := (nI (litN v n now)).toInt64) hx hb dX1_digest_43 rfl ?_
  refine rSl (r := dgA n now told v) (As := [.long (mxL (mxL (mxL 1889 (nI n).toInt64) (nI now).toInt64) told.toInt64), .long ((nI (litN v n now)).toInt64)]) (rest := []) ⟨hx, hb, hml, hown, hts⟩ (c_X1_mixed l D cI cZ cL cJ (mxL (mxL (mxL 1889 (nI n).toInt64) (nI now).toInt64) told.toInt64) ((nI (litN v n now)).toInt64)) (va_cwS 2 hts gX1_digest_X1_mixed rfl rfl rfl (by decide +kernel) ⟨(Nat.le_of_ble_eq_true rfl), (Nat.le_of_ble_eq_true rfl)⟩) hK hE trivial rfl hl.1 rfl (Nat.le_of_ble_eq_true rfl) dX1_digest_44 ⟨(Nat.le_of_ble_eq_true rfl), (Nat.le_of_ble_eq_true rfl)⟩ ?_
  refine lv_lstore_n (lv' := [(1, .long (dgA n now told v)), (0, .ref (ad 0))]) hx hb dX1_digest_47 rfl hl (by decide) rfl (fun ls hl => ?_)
  refine lv_iconst (v := nI 0) hx hb dX1_digest_48 (by decide) ?_
  refine lv_istore_n (lv' := [(3, .int (nI 0)), (1, .long (dgA n now told v)), (0, .ref (ad 0))]) hx hb dX1_digest_49 rfl hl (by decide) rfl (fun ls hl => ?_)
  have loop_50 : ∀ (fu : Nat) (j : Nat), n + 1 - j ≤ fu → j ≤ n → ∀ (ls : Array Slot), lv_has ls 4 [(3, .int (nI j)), (1, .long (dgK v now (dgA n now told v) j)), (0, .ref (ad 0))] → W p l e (headSpec wsX1_digest ({ frames := 5, cells := 0, slots := 0, locals := 118 } : Room)).room s m [.ref (ad 0)].toArray below meth c s.heap [] 0 0 (MQ below (QLg (dgst n now told v)) [.ref (ad 0)].toArray s 0 0 (fun _ => False)) (F0 m 50 ls []) := by
    intro fu
    induction fu with
    | zero => intro j hn_50 hj; exact absurd hn_50 (by omega)
    | succ fu ih_50 =>
      intro j hn_50 hj ls hl
      refine lv_iload_n hx hb dX1_digest_50 rfl (lv_at hl 0 rfl) ?_
      refine lv_aload_n hx hb dX1_digest_51 rfl (lv_at hl 2 rfl) ?_
      refine va_get (D := D) (ci := 1) (v := .int (nI n)) (C := RX1) (T := TX1) (N := 5) hx hb hts hin1 hown hK hP0 0 rfl rfl 2 (by decide) (hts (.fieldLink RX1 20 "LanternPrimes" "lampCount" "I") (List.mem_of_getElem? (i := 2) rfl)) (fun _ h9 => h9) rfl dX1_digest_52 ?_
      refine n_icmp_ge (a := j) (b := n) (tgt := 76) hx hb (by omega) (by omega) dX1_digest_55 (by decide) (fun c_55 => ?_) (fun c_55 => ?_)
      · refine lv_lload_n hx hb dX1_digest_76 rfl (lv_at hl 1 rfl) ?_
        refine n_tl (y := dgst n now told v) (by rw [show j = n by omega]; rfl) ?_
        exact W.lret (v := dgst n now told v) hx hb hr (fun t ht hW => ⟨rfl, ht⟩) (fun _ h => by cases h) dX1_digest_77
      · refine lv_aload_n hx hb dX1_digest_58 rfl (lv_at hl 2 rfl) ?_
        refine lv_lload_n hx hb dX1_digest_59 rfl (lv_at hl 1 rfl) ?_
        refine lv_aload_n hx hb dX1_digest_60 rfl (lv_at hl 2 rfl) ?_
        refine va_get (D := D) (ci := 1) (v := .ref (ad 1)) (C := RX1) (T := TX1) (N := 5) hx hb hts hin1 hown hK hP0 0 rfl rfl 0 (by decide) (hts (.fieldLink RX1 11 "LanternPrimes" "row" "[LLanternPrimes$Lamp;") (List.mem_of_getElem? (i := 5) rfl)) (fun _ h9 => h9) rfl dX1_digest_61 ?_
        refine lv_iload_n hx hb dX1_digest_64 rfl (lv_at hl 0 rfl) ?_
        refine n_aald (v := ad (2 + 3 * j)) (j := j) hx hb hK hP0 1 2 rfl rfl (by omega) (by decide) rfl dX1_digest_65 ?_
        refine rVl (r := dgK v now (dgA n now told v) (j + 1)) (As := [.long (dgK v now (dgA n now told v) j), .ref (ad (2 + 3 * j))]) (rest := []) ⟨hx, hb, hml, hown, hts⟩ (c_X1_mixedWithLamp l D cI cZ cL cJ ad n now told v ⟨hn8, hnow, hwl⟩ j c_55 (dgK v now (dgA n now told v) j)) (cwV 2 hts gX1_digest_X1_mixedWithLamp rfl rfl rfl (by decide +kernel) ⟨(Nat.le_of_ble_eq_true rfl), (Nat.le_of_ble_eq_true rfl)⟩) hK hE ⟨hP0, hPL⟩ (RC_of (q := (RX1, TX1, 5)) (ci := 1) hK rfl (vpa hP0 0 rfl)) rfl hl.1 rfl (Nat.le_of_ble_eq_true rfl) dX1_digest_66 ⟨(Nat.le_of_ble_eq_true rfl), (Nat.le_of_ble_eq_true rfl)⟩ ?_
        refine lv_lstore_n (lv' := [(1, .long (dgK v now (dgA n now told v) (j + 1))), (3, .int (nI j)), (0, .ref (ad 0))]) hx hb dX1_digest_69 rfl hl (by decide) rfl (fun ls hl => ?_)
        refine lv_iinc (v := nI (j + 1)) (lv' := [(3, .int (nI (j + 1))), (1, .long (dgK v now (dgA n now told v) (j + 1))), (0, .ref (ad 0))]) hx hb dX1_digest_70 hl (k := 1) rfl (nI_inc _) (by decide) rfl (fun ls hl => ?_)
        refine lv_goto (tgt := 50) hx hb dX1_digest_73 (by decide) ?_
        exact ih_50 (j + 1) (by omega) (by omega) ls (lv_sub hl [0, 1, 2] rfl)
  exact loop_50 (n + 1) 0 (by omega) (Nat.zero_le _) ls (lv_sub hl [0, 1, 2] rfl)
