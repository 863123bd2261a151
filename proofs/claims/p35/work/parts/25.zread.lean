/-! the class's calls where nothing is refused: no cell is made -/
theorem nn {j : Nat} (h : j < 2 ^ 31) : ¬ nI j < 0 := Int32.not_lt.mpr (nI_pos' h)
section MyVoid
variable {p : Program} {l : Launch} {e : Env} {R : Room} {s : State} {m : MethodId} {args : Array Value} {below : List Frame} {meth : Method} {c : Code} {H : Heap} {locs : List Loc} {cells slots : Nat} {Q : State → Prop}
variable {y : MethodName} {bytes cc : ByteArray} {maxL nL n index pc mc ms : Nat} {ret : Option FieldType} {ws : List Cond} {rm : Room} {Ts : List Cond} {own C : String} {b : Addr} {As rest st : List Value} {ls : Array Slot}
variable {D : va_G} {T : List (ClassId × FieldType)} {A1 : Nat → Prop} {Ph : Heap → Prop}
theorem callN {a : Array Value} {g : JFrame} (hr : CallRun p l e R s m args below meth c H locs cells slots 0 0 g rest (QV a) (fun _ => False)) (kk : W p l e R s m args below meth c H locs cells slots Q { g with pc := g.pc + 3, stack := rest }) : W p l e R s m args below meth c H locs cells slots Q g := by
  intro T hT X
  obtain ⟨v, st₀, t, T', L, h0, X', hL, e1, ⟨hv, hh⟩, st⟩ := hr T hT X
  cases hv
  obtain ⟨t2, a1, b1⟩ := kk T' (by rw [e1, hh, h0]) (Stand.forget X' (fun q h => (hL q h).elim))
  exact ⟨t2, st t2 a1, b1⟩
theorem rVn (S : CallFix p m c cc nL s args Ts own) (hM : Met l y ws rm (PC D T A1 (.ref b :: As) Ph) QV 0 0 (fun _ => False)) (cw : CallW R s args own C index y bytes maxL ret ws rm 0 0 n) (hK : va_K D vwCl T s) (hE : EN A1 s H) (hPh : Ph H) (hr : RC s H C b)
    (hn : As.length = n) (hsize : ls.size = nL) (hst : st = As.reverse ++ .ref b :: rest) (hW : (rest.map fun v => v.category).sum ≤ 8) (hdg : decode cc pc = .ok (.invokevirtual index, 3)) (hf : cells ≤ R.cells ∧ slots ≤ R.slots)
    (kk : W p l e R s m args below meth c H locs cells slots Q (F0 m (pc + 3) ls rest)) : W p l e R s m args below meth c H locs cells slots Q (F0 m pc ls st) :=
  callN (g := F0 m pc ls st) (W.runV S hM cw ⟨PC_blind, hr, PCuse hK hE hPh⟩ rfl hn hsize hst (lv_room hW) hdg hf) kk
theorem rSn (S : CallFix p m c cc nL s args Ts own) (hM : Met l y ws rm (PC D T A1 As Ph) QV 0 0 (fun _ => False)) (cw : CallB R s args own index y bytes maxL ret ws rm 0 0 n ∧ (Cond.static y).before args s = true) (hK : va_K D vwCl T s) (hE : EN A1 s H) (hPh : Ph H)
    (hn : As.length = n) (hsize : ls.size = nL) (hst : st = As.reverse ++ rest) (hW : (rest.map fun v => v.category).sum ≤ 8) (hdg : decode cc pc = .ok (.invokestatic index, 3)) (hf : cells ≤ R.cells ∧ slots ≤ R.slots)
    (kk : W p l e R s m args below meth c H locs cells slots Q (F0 m (pc + 3) ls rest)) : W p l e R s m args below meth c H locs cells slots Q (F0 m pc ls st) :=
  callN (g := F0 m pc ls st) (W.runS S hM cw ⟨PC_blind, PCuse hK hE hPh⟩ rfl hn hsize hst (lv_room hW) hdg hf) kk
end MyVoid
theorem NUMf_inj {a b : Nat} (ha : a < 6) (hb : b < 6) (h : nI (NUMf a) = nI (NUMf b)) : a = b := by
  have : ∀ a, a < 6 → ∀ b, b < 6 → nI (NUMf a) = nI (NUMf b) → a = b := by decide
  exact this a ha b hb h
set_option maxHeartbeats 4000000 in
set_option maxRecDepth 100000 in
/-- needLamp, where there is one -/
theorem e_X1_needLamp (l : Launch) (D : va_G) (cI cZ cL cJ : ClassId) (ad : Nat → Nat) (n now : Nat) (told : Int32) (v : Nat → LV) (hwf : WFX n now v) (j : Nat) (hj : j < n) : Met l yX1_needLamp wsX1_needLamp ({ frames := 0, cells := 0, slots := 0, locals := 0 } : Room) (PC D (TY cI cZ cL cJ) noA [.ref (ad 0), .int (nI j)] (fun H => PX D cI cL ad n now told v H)) QV 0 0 (fun _ => False) := by
  refine Met.ofW (cc := cX1_needLamp) (maxL := 2) (ret := none) (by decide) rfl ?_
  intro p e s m args below meth c s₁ B hml hv
  obtain ⟨rfl, hK, hE, hP0, hPL⟩ := hv
  obtain ⟨hn8, hnow, hwl⟩ := hwf
  have hx := B.exec
  have hb := B.bytes
  have hr := B.returns
  have hts := atoms_spec (ws := wsX1_needLamp) B.pre
  have hown : s.vm.findClass RX1 = some m.cls := findClass_of_methodNamed B.named
  have hlocks := B.notSynchronized
  have hNF := hE.2.1.1
  have hin1 : ∀ w ∈ wsX10, w ∈ wsX1_needLamp := by decide +kernel
  have hl := lv_entry ([.ref (ad 0), .int (nI j)]) (n := 2) (Nat.le_of_ble_eq_true rfl)
  rw [lg_entry_eq]
  generalize (lg_sl ([.ref (ad 0), .int (nI j)]) ++ List.replicate (2 - (lg_sl ([.ref (ad 0), .int (nI j)])).length) Slot.unset).toArray = ls at hl ⊢
  have hl : lv_has ls 2 [(0, .ref (ad 0)), (1, .int (nI j))] := hl
  refine lv_iload_n hx hb dX1_needLamp_0 rfl (lv_at hl 1 rfl) ?_
  refine lv_if_lt (tgt := 12) hx hb dX1_needLamp_1 (by decide) (fun c_1 => ?_) (fun c_1 => ?_)
  · exact absurd c_1 (nn (by omega))
  · refine lv_iload_n hx hb dX1_needLamp_4 rfl (lv_at hl 1 rfl) ?_
    refine lv_aload_n hx hb dX1_needLamp_5 rfl (lv_at hl 0 rfl) ?_
    refine va_get (D := D) (ci := 1) (v := .int (nI n)) (C := RX1) (T := TX1) (N := 5) hx hb hts hin1 hown hK hP0 0 rfl rfl 2 (by decide) (hts (.fieldLink RX1 20 "LanternPrimes" "lampCount" "I") (List.mem_of_getElem? (i := 3) rfl)) (fun _ h9 => h9) rfl dX1_needLamp_6 ?_
    refine n_icmp_lt (a := j) (b := n) (tgt := 22) hx hb (by omega) (by omega) dX1_needLamp_9 (by decide) (fun c_9 => ?_) (fun c_9 => ?_)
    · exact W.vret hx hb hr (fun t ht hW => ⟨rfl, ht⟩) (fun _ h => by cases h) dX1_needLamp_22
    · exact absurd hj (by omega)
set_option maxHeartbeats 4000000 in
set_option maxRecDepth 100000 in
/-- needBeat -/
theorem e_X1_needBeat (l : Launch) (D : va_G) (cI cZ cL cJ : ClassId) (ad : Nat → Nat) (n now : Nat) (told : Int32) (v : Nat → LV) (hwf : WFX n now v) (j : Nat) (hj : j < n) (i : Nat) (hi : i < lbc (v j)) : Met l yX1_needBeat wsX1_needBeat ({ frames := 1, cells := 0, slots := 0, locals := 21 } : Room) (PC D (TY cI cZ cL cJ) noA [.ref (ad 0), .int (nI j), .int (nI i)] (fun H => PX D cI cL ad n now told v H)) QV 0 0 (fun _ => False) := by
  refine Met.ofW (cc := cX1_needBeat) (maxL := 3) (ret := none) (by decide) rfl ?_
  intro p e s m args below meth c s₁ B hml hv
  obtain ⟨rfl, hK, hE, hP0, hPL⟩ := hv
  obtain ⟨hn8, hnow, hwl⟩ := hwf
  have hw4 := (hwl j (by omega)).1
  have hx := B.exec
  have hb := B.bytes
  have hr := B.returns
  have hts := atoms_spec (ws := wsX1_needBeat) B.pre
  have hown : s.vm.findClass RX1 = some m.cls := findClass_of_methodNamed B.named
  have hlocks := B.notSynchronized
  have hNF := hE.2.1.1
  have hin0 : ∀ w ∈ wsX00, w ∈ wsX1_needBeat := by decide +kernel
  have hin1 : ∀ w ∈ wsX10, w ∈ wsX1_needBeat := by decide +kernel
  have hl := lv_entry ([.ref (ad 0), .int (nI j), .int (nI i)]) (n := 3) (Nat.le_of_ble_eq_true rfl)
  rw [lg_entry_eq]
  generalize (lg_sl ([.ref (ad 0), .int (nI j), .int (nI i)]) ++ List.replicate (3 - (lg_sl ([.ref (ad 0), .int (nI j), .int (nI i)])).length) Slot.unset).toArray = ls at hl ⊢
  have hl : lv_has ls 3 [(0, .ref (ad 0)), (1, .int (nI j)), (2, .int (nI i))] := hl
  refine lv_aload_n hx hb dX1_needBeat_0 rfl (lv_at hl 0 rfl) ?_
  refine lv_iload_n hx hb dX1_needBeat_1 rfl (lv_at hl 1 rfl) ?_
  refine rVn (As := [.int (nI j)]) (rest := []) ⟨hx, hb, hml, hown, hts⟩ (e_X1_needLamp l D cI cZ cL cJ ad n now told v ⟨hn8, hnow, hwl⟩ j hj) (cwV 1 hts gX1_needBeat_X1_needLamp rfl rfl rfl (by decide +kernel) ⟨(Nat.le_of_ble_eq_true rfl), (Nat.le_of_ble_eq_true rfl)⟩) hK hE ⟨hP0, hPL⟩ (RC_of (q := (RX1, TX1, 5)) (ci := 1) hK rfl (vpa hP0 0 rfl)) rfl hl.1 rfl (Nat.le_of_ble_eq_true rfl) dX1_needBeat_2 ⟨(Nat.le_of_ble_eq_true rfl), (Nat.le_of_ble_eq_true rfl)⟩ ?_
  refine lv_iload_n hx hb dX1_needBeat_5 rfl (lv_at hl 2 rfl) ?_
  refine lv_if_lt (tgt := 22) hx hb dX1_needBeat_6 (by decide) (fun c_6 => ?_) (fun c_6 => ?_)
  · exact absurd c_6 (nn (by omega))
  · refine lv_iload_n hx hb dX1_needBeat_9 rfl (lv_at hl 2 rfl) ?_
    refine lv_aload_n hx hb dX1_needBeat_10 rfl (lv_at hl 0 rfl) ?_
    refine va_get (D := D) (ci := 1) (v := .ref (ad 1)) (C := RX1) (T := TX1) (N := 5) hx hb hts hin1 hown hK hP0 0 rfl rfl 0 (by decide) (hts (.fieldLink RX1 11 "LanternPrimes" "row" "[LLanternPrimes$Lamp;") (List.mem_of_getElem? (i := 3) rfl)) (fun _ h9 => h9) rfl dX1_needBeat_11 ?_
    refine lv_iload_n hx hb dX1_needBeat_14 rfl (lv_at hl 1 rfl) ?_
    refine n_aald (v := ad (2 + 3 * j)) (j := j) hx hb hK hP0 1 2 rfl rfl (by omega) (by decide) rfl dX1_needBeat_15 ?_
    have hPj := hPL j (by omega)
    refine va_getN (D := D) (ci := 0) (v := .int (nI (lbc (v j)))) (C := RX0) (T := TX0) (N := 5) hx hb hts hin0 hown hK hPj 0 rfl rfl 2 (by decide) (va_Nw.use rfl (hNF _ (List.mem_of_getElem? (i := 1) rfl))) (fun _ h9 => h9) rfl dX1_needBeat_16 ?_
    refine n_icmp_lt (a := i) (b := lbc (v j)) (tgt := 32) hx hb (by omega) (by omega) dX1_needBeat_19 (by decide) (fun c_19 => ?_) (fun c_19 => ?_)
    · exact W.vret hx hb hr (fun t ht hW => ⟨rfl, ht⟩) (fun _ h => by cases h) dX1_needBeat_32
    · exact absurd hi (by omega)
set_option maxHeartbeats 4000000 in
set_option maxRecDepth 100000 in
/-- needPair -/
theorem e_X1_needPair (l : Launch) (D : va_G) (cI cZ cL cJ : ClassId) (ad : Nat → Nat) (n now : Nat) (told : Int32) (v : Nat → LV) (hwf : WFX n now v) (i j : Nat) (hi : i < n) (hj : j < n) (hij : ¬ i = j) : Met l yX1_needPair wsX1_needPair ({ frames := 1, cells := 0, slots := 0, locals := 21 } : Room) (PC D (TY cI cZ cL cJ) noA [.ref (ad 0), .int (nI i), .int (nI j)] (fun H => PX D cI cL ad n now told v H)) QV 0 0 (fun _ => False) := by
  refine Met.ofW (cc := cX1_needPair) (maxL := 3) (ret := none) (by decide) rfl ?_
  intro p e s m args below meth c s₁ B hml hv
  obtain ⟨rfl, hK, hE, hP0, hPL⟩ := hv
  obtain ⟨hn8, hnow, hwl⟩ := hwf
  have hx := B.exec
  have hb := B.bytes
  have hr := B.returns
  have hts := atoms_spec (ws := wsX1_needPair) B.pre
  have hown : s.vm.findClass RX1 = some m.cls := findClass_of_methodNamed B.named
  have hlocks := B.notSynchronized
  have hNF := hE.2.1.1
  have hin1 : ∀ w ∈ wsX10, w ∈ wsX1_needPair := by decide +kernel
  have hl := lv_entry ([.ref (ad 0), .int (nI i), .int (nI j)]) (n := 3) (Nat.le_of_ble_eq_true rfl)
  rw [lg_entry_eq]
  generalize (lg_sl ([.ref (ad 0), .int (nI i), .int (nI j)]) ++ List.replicate (3 - (lg_sl ([.ref (ad 0), .int (nI i), .int (nI j)])).length) Slot.unset).toArray = ls at hl ⊢
  have hl : lv_has ls 3 [(0, .ref (ad 0)), (1, .int (nI i)), (2, .int (nI j))] := hl
  refine lv_aload_n hx hb dX1_needPair_0 rfl (lv_at hl 0 rfl) ?_
  refine lv_iload_n hx hb dX1_needPair_1 rfl (lv_at hl 1 rfl) ?_
  refine rVn (As := [.int (nI i)]) (rest := []) ⟨hx, hb, hml, hown, hts⟩ (e_X1_needLamp l D cI cZ cL cJ ad n now told v ⟨hn8, hnow, hwl⟩ i hi) (cwV 1 hts gX1_needPair_X1_needLamp rfl rfl rfl (by decide +kernel) ⟨(Nat.le_of_ble_eq_true rfl), (Nat.le_of_ble_eq_true rfl)⟩) hK hE ⟨hP0, hPL⟩ (RC_of (q := (RX1, TX1, 5)) (ci := 1) hK rfl (vpa hP0 0 rfl)) rfl hl.1 rfl (Nat.le_of_ble_eq_true rfl) dX1_needPair_2 ⟨(Nat.le_of_ble_eq_true rfl), (Nat.le_of_ble_eq_true rfl)⟩ ?_
  refine lv_aload_n hx hb dX1_needPair_5 rfl (lv_at hl 0 rfl) ?_
  refine lv_iload_n hx hb dX1_needPair_6 rfl (lv_at hl 2 rfl) ?_
  refine rVn (As := [.int (nI j)]) (rest := []) ⟨hx, hb, hml, hown, hts⟩ (e_X1_needLamp l D cI cZ cL cJ ad n now told v ⟨hn8, hnow, hwl⟩ j hj) (cwV 1 hts gX1_needPair_X1_needLamp rfl rfl rfl (by decide +kernel) ⟨(Nat.le_of_ble_eq_true rfl), (Nat.le_of_ble_eq_true rfl)⟩) hK hE ⟨hP0, hPL⟩ (RC_of (q := (RX1, TX1, 5)) (ci := 1) hK rfl (vpa hP0 0 rfl)) rfl hl.1 rfl (Nat.le_of_ble_eq_true rfl) dX1_needPair_7 ⟨(Nat.le_of_ble_eq_true rfl), (Nat.le_of_ble_eq_true rfl)⟩ ?_
  refine lv_iload_n hx hb dX1_needPair_10 rfl (lv_at hl 1 rfl) ?_
  refine lv_iload_n hx hb dX1_needPair_11 rfl (lv_at hl 2 rfl) ?_
  refine n_icmp_ne (a := i) (b := j) (tgt := 25) hx hb (by omega) (by omega) dX1_needPair_12 (by decide) (fun c_12 => ?_) (fun c_12 => ?_)
  · exact W.vret hx hb hr (fun t ht hW => ⟨rfl, ht⟩) (fun _ h => by cases h) dX1_needPair_25
  · exact absurd c_12 hij
set_option maxHeartbeats 4000000 in
set_option maxRecDepth 100000 in
/-- needNumber -/
theorem e_X1_needNumber (l : Launch) (D : va_G) (cI cZ cL cJ : ClassId) (z : Nat) (hz : z < 6) : Met l yX1_needNumber wsX1_needNumber ({ frames := 0, cells := 0, slots := 0, locals := 0 } : Room) (PC D (TY cI cZ cL cJ) noA [.int (nI (NUMf z))] (fun _ => True)) QV 0 0 (fun _ => False) := by
  refine Met.ofW (cc := cX1_needNumber) (maxL := 5) (ret := none) (by decide) rfl ?_
  intro p e s m args below meth c s₁ B hml hv
  obtain ⟨rfl, hK, hE, -⟩ := hv
  obtain ⟨na, hZ, hT⟩ := hE.2.2.2
  have hx := B.exec
  have hb := B.bytes
  have hr := B.returns
  have hts := atoms_spec (ws := wsX1_needNumber) B.pre
  have hown : s.vm.findClass RX1 = some m.cls := findClass_of_methodNamed B.named
  have hlocks := B.notSynchronized
  have hNF := hE.2.1.1
  have hl := lv_entry ([.int (nI (NUMf z))]) (n := 5) (Nat.le_of_ble_eq_true rfl)
  rw [lg_entry_eq]
  generalize (lg_sl ([.int (nI (NUMf z))]) ++ List.replicate (5 - (lg_sl ([.int (nI (NUMf z))])).length) Slot.unset).toArray = ls at hl ⊢
  have hl : lv_has ls 5 [(0, .int (nI (NUMf z)))] := hl
  refine va_gets (v := .ref na) hx hb hZ va_S.rf hown (hts (.fieldLink RX1 153 "LanternPrimes" "NUMBERS" "[I") (List.mem_of_getElem? (i := 3) rfl)) (fun _ h9 => h9) dX1_needNumber_0 ?_
  refine lv_astore_n (lv' := [(1, .ref na), (0, .int (nI (NUMf z)))]) hx hb dX1_needNumber_3 rfl hl (by decide) rfl (fun ls hl => ?_)
  refine lv_aload_n hx hb dX1_needNumber_4 rfl (lv_at hl 0 rfl) ?_
  refine va_tlen hx hb hT va_S.rf (v := nI 6) rfl dX1_needNumber_5 ?_
  refine lv_istore_n (lv' := [(2, .int (nI 6)), (1, .ref na), (0, .int (nI (NUMf z)))]) hx hb dX1_needNumber_6 rfl hl (by decide) rfl (fun ls hl => ?_)
  refine lv_iconst (v := nI 0) hx hb dX1_needNumber_7 (by decide) ?_
  refine lv_istore_n (lv' := [(3, .int (nI 0)), (2, .int (nI 6)), (1, .ref na), (0, .int (nI (NUMf z)))]) hx hb dX1_needNumber_8 rfl hl (by decide) rfl (fun ls hl => ?_)
  have loop_9 : ∀ (fu : Nat) (k : Nat), 7 - k ≤ fu → k ≤ z → ∀ (ls : Array Slot), lv_has ls 5 [(3, .int (nI k)), (2, .int (nI 6)), (1, .ref na), (0, .int (nI (NUMf z)))] → W p l e (headSpec wsX1_needNumber ({ frames := 0, cells := 0, slots := 0, locals := 0 } : Room)).room s m [.int (nI (NUMf z))].toArray below meth c s.heap [] 0 0 (MQ below QV [.int (nI (NUMf z))].toArray s 0 0 (fun _ => False)) (F0 m 9 ls []) := by
    intro fu
    induction fu with
    | zero => intro k hn_9 hk; exact absurd hn_9 (by omega)
    | succ fu ih_9 =>
      intro k hn_9 hk ls hl
      refine lv_iload_n hx hb dX1_needNumber_9 rfl (lv_at hl 0 rfl) ?_
      refine lv_iload_n hx hb dX1_needNumber_10 rfl (lv_at hl 1 rfl) ?_
      refine n_icmp_ge (a := k) (b := 6) (tgt := 32) hx hb (by omega) (by omega) dX1_needNumber_11 (by decide) (fun c_11 => ?_) (fun c_11 => ?_)
      · exact absurd hz (by omega)
      · refine lv_aload_n hx hb dX1_needNumber_14 rfl (lv_at hl 2 rfl) ?_
        refine lv_iload_n hx hb dX1_needNumber_15 rfl (lv_at hl 0 rfl) ?_
        refine n_ti6 (j := k) hx hb hT va_S.rf (by omega) dX1_needNumber_16 ?_
        refine lv_istore (lv' := [(4, .int (nI (NUMf k))), (3, .int (nI k)), (2, .int (nI 6)), (1, .ref na), (0, .int (nI (NUMf z)))]) hx hb dX1_needNumber_17 hl (by decide) rfl (fun ls hl => ?_)
        refine lv_iload_n hx hb dX1_needNumber_19 rfl (lv_at hl 4 rfl) ?_
        refine lv_iload hx hb dX1_needNumber_20 (lv_at hl 0 rfl) ?_
        refine lv_icmp_ne (tgt := 26) hx hb dX1_needNumber_22 (by decide) (fun c_22 => ?_) (fun c_22 => ?_)
        · refine lv_iinc (v := nI (k + 1)) (lv' := [(3, .int (nI (k + 1))), (4, .int (nI (NUMf k))), (2, .int (nI 6)), (1, .ref na), (0, .int (nI (NUMf z)))]) hx hb dX1_needNumber_26 hl (k := 1) rfl (nI_inc _) (by decide) rfl (fun ls hl => ?_)
          refine lv_goto (tgt := 9) hx hb dX1_needNumber_29 (by decide) ?_
          exact ih_9 (k + 1) (by omega) (by have : k ≠ z := (fun q => by rw [q] at c_22; exact c_22 rfl); omega) ls (lv_sub hl [0, 2, 3, 4] rfl)
        · exact W.vret hx hb hr (fun t ht hW => ⟨rfl, ht⟩) (fun _ h => by cases h) dX1_needNumber_25
  exact loop_9 7 0 (by omega) (Nat.zero_le _) ls (lv_sub hl [0, 1, 2, 3] rfl)
set_option maxHeartbeats 4000000 in
set_option maxRecDepth 100000 in
/-- needOffset -/
theorem e_X1_needOffset (l : Launch) (D : va_G) (cI cZ cL cJ : ClassId) (o x : Nat) (hx13 : x ≤ 13) (hox : o < x) : Met l yX1_needOffset wsX1_needOffset ({ frames := 0, cells := 0, slots := 0, locals := 0 } : Room) (PC D (TY cI cZ cL cJ) noA [.int (nI o), .int (nI x)] (fun _ => True)) QV 0 0 (fun _ => False) := by
  refine Met.ofW (cc := cX1_needOffset) (maxL := 2) (ret := none) (by decide) rfl ?_
  intro p e s m args below meth c s₁ B hml hv
  obtain ⟨rfl, hK, hE, -⟩ := hv
  have hx := B.exec
  have hb := B.bytes
  have hr := B.returns
  have hts := atoms_spec (ws := wsX1_needOffset) B.pre
  have hown : s.vm.findClass RX1 = some m.cls := findClass_of_methodNamed B.named
  have hlocks := B.notSynchronized
  have hNF := hE.2.1.1
  have hl := lv_entry ([.int (nI o), .int (nI x)]) (n := 2) (Nat.le_of_ble_eq_true rfl)
  rw [lg_entry_eq]
  generalize (lg_sl ([.int (nI o), .int (nI x)]) ++ List.replicate (2 - (lg_sl ([.int (nI o), .int (nI x)])).length) Slot.unset).toArray = ls at hl ⊢
  have hl : lv_has ls 2 [(0, .int (nI o)), (1, .int (nI x))] := hl
  refine lv_iload_n hx hb dX1_needOffset_0 rfl (lv_at hl 0 rfl) ?_
  refine lv_if_lt (tgt := 9) hx hb dX1_needOffset_1 (by decide) (fun c_1 => ?_) (fun c_1 => ?_)
  · exact absurd c_1 (nn (by omega))
  · refine lv_iload_n hx hb dX1_needOffset_4 rfl (lv_at hl 0 rfl) ?_
    refine lv_iload_n hx hb dX1_needOffset_5 rfl (lv_at hl 1 rfl) ?_
    refine n_icmp_lt (a := o) (b := x) (tgt := 19) hx hb (by omega) (by omega) dX1_needOffset_6 (by decide) (fun c_6 => ?_) (fun c_6 => ?_)
    · exact W.vret hx hb hr (fun t ht hW => ⟨rfl, ht⟩) (fun _ h => by cases h) dX1_needOffset_19
    · exact absurd hox (by omega)
set_option maxHeartbeats 4000000 in
set_option maxRecDepth 100000 in
/-- needMoment -/
theorem e_X1_needMoment (l : Launch) (D : va_G) (cI cZ cL cJ : ClassId) (y : Nat) (hy : y ≤ 60000) : Met l yX1_needMoment wsX1_needMoment ({ frames := 0, cells := 0, slots := 0, locals := 0 } : Room) (PC D (TY cI cZ cL cJ) noA [.int (nI y)] (fun _ => True)) QV 0 0 (fun _ => False) := by
  refine Met.ofW (cc := cX1_needMoment) (maxL := 1) (ret := none) (by decide) rfl ?_
  intro p e s m args below meth c s₁ B hml hv
  obtain ⟨rfl, hK, hE, -⟩ := hv
  have hx := B.exec
  have hb := B.bytes
  have hr := B.returns
  have hts := atoms_spec (ws := wsX1_needMoment) B.pre
  have hown : s.vm.findClass RX1 = some m.cls := findClass_of_methodNamed B.named
  have hlocks := B.notSynchronized
  have hNF := hE.2.1.1
  have hl := lv_entry ([.int (nI y)]) (n := 1) (Nat.le_of_ble_eq_true rfl)
  rw [lg_entry_eq]
  generalize (lg_sl ([.int (nI y)]) ++ List.replicate (1 - (lg_sl ([.int (nI y)])).length) Slot.unset).toArray = ls at hl ⊢
  have hl : lv_has ls 1 [(0, .int (nI y))] := hl
  refine lv_iload_n hx hb dX1_needMoment_0 rfl (lv_at hl 0 rfl) ?_
  refine lv_if_lt (tgt := 10) hx hb dX1_needMoment_1 (by decide) (fun c_1 => ?_) (fun c_1 => ?_)
  · exact absurd c_1 (nn (by omega))
  · refine lv_iload_n hx hb dX1_needMoment_4 rfl (lv_at hl 0 rfl) ?_
    refine lv_ldc (v := nI 60000) hx hb hown (hts (.constant RX1 160 (60000)) (List.mem_of_getElem? (i := 3) rfl)) dX1_needMoment_5 ?_
    refine n_icmp_le (a := y) (b := 60000) (tgt := 20) hx hb (by omega) (by omega) dX1_needMoment_7 (by decide) (fun c_7 => ?_) (fun c_7 => ?_)
    · exact W.vret hx hb hr (fun t ht hW => ⟨rfl, ht⟩) (fun _ h => by cases h) dX1_needMoment_20
    · exact absurd hy (by omega)
set_option maxHeartbeats 4000000 in
set_option maxRecDepth 100000 in
/-- needMoments -/
theorem e_X1_needMoments (l : Launch) (D : va_G) (cI cZ cL cJ : ClassId) (y mx : Nat) (hy1 : 1 ≤ y) (hy2 : y ≤ mx) (hmx : mx ≤ 500) : Met l yX1_needMoments wsX1_needMoments ({ frames := 0, cells := 0, slots := 0, locals := 0 } : Room) (PC D (TY cI cZ cL cJ) noA [.int (nI y), .int (nI mx)] (fun _ => True)) QV 0 0 (fun _ => False) := by
  refine Met.ofW (cc := cX1_needMoments) (maxL := 2) (ret := none) (by decide) rfl ?_
  intro p e s m args below meth c s₁ B hml hv
  obtain ⟨rfl, hK, hE, -⟩ := hv
  have hx := B.exec
  have hb := B.bytes
  have hr := B.returns
  have hts := atoms_spec (ws := wsX1_needMoments) B.pre
  have hown : s.vm.findClass RX1 = some m.cls := findClass_of_methodNamed B.named
  have hlocks := B.notSynchronized
  have hNF := hE.2.1.1
  have hl := lv_entry ([.int (nI y), .int (nI mx)]) (n := 2) (Nat.le_of_ble_eq_true rfl)
  rw [lg_entry_eq]
  generalize (lg_sl ([.int (nI y), .int (nI mx)]) ++ List.replicate (2 - (lg_sl ([.int (nI y), .int (nI mx)])).length) Slot.unset).toArray = ls at hl ⊢
  have hl : lv_has ls 2 [(0, .int (nI y)), (1, .int (nI mx))] := hl
  refine lv_iload_n hx hb dX1_needMoments_0 rfl (lv_at hl 0 rfl) ?_
  refine lv_iconst (v := nI 1) hx hb dX1_needMoments_1 (by decide) ?_
  refine n_icmp_lt (a := y) (b := 1) (tgt := 10) hx hb (by omega) (by omega) dX1_needMoments_2 (by decide) (fun c_2 => ?_) (fun c_2 => ?_)
  · exact absurd hy1 (by omega)
  · refine lv_iload_n hx hb dX1_needMoments_5 rfl (lv_at hl 0 rfl) ?_
    refine lv_iload_n hx hb dX1_needMoments_6 rfl (lv_at hl 1 rfl) ?_
    refine n_icmp_le (a := y) (b := mx) (tgt := 20) hx hb (by omega) (by omega) dX1_needMoments_7 (by decide) (fun c_7 => ?_) (fun c_7 => ?_)
    · exact W.vret hx hb hr (fun t ht hW => ⟨rfl, ht⟩) (fun _ h => by cases h) dX1_needMoments_20
    · exact absurd hy2 (by omega)
set_option maxHeartbeats 4000000 in
set_option maxRecDepth 100000 in
/-- beatsOf -/
theorem e_X1_beatsOf (l : Launch) (D : va_G) (cI cZ cL cJ : ClassId) (ad : Nat → Nat) (n now : Nat) (told : Int32) (v : Nat → LV) (hwf : WFX n now v) (j : Nat) (hj : j < n) : Met l yX1_beatsOf wsX1_beatsOf ({ frames := 1, cells := 0, slots := 0, locals := 21 } : Room) (PC D (TY cI cZ cL cJ) noA [.ref (ad 0), .int (nI j)] (fun H => PX D cI cL ad n now told v H)) (QcRead (nI (lbc (v j)))) 0 0 (fun _ => False) := by
  refine Met.ofW (cc := cX1_beatsOf) (maxL := 2) (ret := (some .int)) (by decide) rfl ?_
  intro p e s m args below meth c s₁ B hml hv
  obtain ⟨rfl, hK, hE, hP0, hPL⟩ := hv
  obtain ⟨hn8, hnow, hwl⟩ := hwf
  have hx := B.exec
  have hb := B.bytes
  have hr := B.returns
  have hts := atoms_spec (ws := wsX1_beatsOf) B.pre
  have hown : s.vm.findClass RX1 = some m.cls := findClass_of_methodNamed B.named
  have hlocks := B.notSynchronized
  have hNF := hE.2.1.1
  have hin0 : ∀ w ∈ wsX00, w ∈ wsX1_beatsOf := by decide +kernel
  have hin1 : ∀ w ∈ wsX10, w ∈ wsX1_beatsOf := by decide +kernel
  have hl := lv_entry ([.ref (ad 0), .int (nI j)]) (n := 2) (Nat.le_of_ble_eq_true rfl)
  rw [lg_entry_eq]
  generalize (lg_sl ([.ref (ad 0), .int (nI j)]) ++ List.replicate (2 - (lg_sl ([.ref (ad 0), .int (nI j)])).length) Slot.unset).toArray = ls at hl ⊢
  have hl : lv_has ls 2 [(0, .ref (ad 0)), (1, .int (nI j))] := hl
  refine lv_aload_n hx hb dX1_beatsOf_0 rfl (lv_at hl 0 rfl) ?_
  refine lv_iload_n hx hb dX1_beatsOf_1 rfl (lv_at hl 1 rfl) ?_
  refine rVn (As := [.int (nI j)]) (rest := []) ⟨hx, hb, hml, hown, hts⟩ (e_X1_needLamp l D cI cZ cL cJ ad n now told v ⟨hn8, hnow, hwl⟩ j hj) (cwV 1 hts gX1_beatsOf_X1_needLamp rfl rfl rfl (by decide +kernel) ⟨(Nat.le_of_ble_eq_true rfl), (Nat.le_of_ble_eq_true rfl)⟩) hK hE ⟨hP0, hPL⟩ (RC_of (q := (RX1, TX1, 5)) (ci := 1) hK rfl (vpa hP0 0 rfl)) rfl hl.1 rfl (Nat.le_of_ble_eq_true rfl) dX1_beatsOf_2 ⟨(Nat.le_of_ble_eq_true rfl), (Nat.le_of_ble_eq_true rfl)⟩ ?_
  refine lv_aload_n hx hb dX1_beatsOf_5 rfl (lv_at hl 0 rfl) ?_
  refine va_get (D := D) (ci := 1) (v := .ref (ad 1)) (C := RX1) (T := TX1) (N := 5) hx hb hts hin1 hown hK hP0 0 rfl rfl 0 (by decide) (hts (.fieldLink RX1 11 "LanternPrimes" "row" "[LLanternPrimes$Lamp;") (List.mem_of_getElem? (i := 1) rfl)) (fun _ h9 => h9) rfl dX1_beatsOf_6 ?_
  refine lv_iload_n hx hb dX1_beatsOf_9 rfl (lv_at hl 1 rfl) ?_
  refine n_aald (v := ad (2 + 3 * j)) (j := j) hx hb hK hP0 1 2 rfl rfl (by omega) (by decide) rfl dX1_beatsOf_10 ?_
  have hPj := hPL j (by omega)
  refine va_getN (D := D) (ci := 0) (v := .int (nI (lbc (v j)))) (C := RX0) (T := TX0) (N := 5) hx hb hts hin0 hown hK hPj 0 rfl rfl 2 (by decide) (va_Nw.use rfl (hNF _ (List.mem_of_getElem? (i := 1) rfl))) (fun _ h9 => h9) rfl dX1_beatsOf_11 ?_
  exact W.iret (v := nI (lbc (v j))) hx hb hr (fun t ht hW => ⟨rfl, ht⟩) (fun _ h => by cases h) dX1_beatsOf_14
set_option maxHeartbeats 4000000 in
set_option maxRecDepth 100000 in
/-- numberOf -/
theorem e_X1_numberOf (l : Launch) (D : va_G) (cI cZ cL cJ : ClassId) (ad : Nat → Nat) (n now : Nat) (told : Int32) (v : Nat → LV) (hwf : WFX n now v) (j : Nat) (hj : j < n) (i : Nat) (hi : i < lbc (v j)) : Met l yX1_numberOf wsX1_numberOf ({ frames := 2, cells := 0, slots := 0, locals := 43 } : Room) (PC D (TY cI cZ cL cJ) noA [.ref (ad 0), .int (nI j), .int (nI i)] (fun H => PX D cI cL ad n now told v H)) (QcRead (nI (lnu (v j) i))) 0 0 (fun _ => False) := by
  refine Met.ofW (cc := cX1_numberOf) (maxL := 3) (ret := (some .int)) (by decide) rfl ?_
  intro p e s m args below meth c s₁ B hml hv
  obtain ⟨rfl, hK, hE, hP0, hPL⟩ := hv
  obtain ⟨hn8, hnow, hwl⟩ := hwf
  have hw4 := (hwl j (by omega)).1
  have hx := B.exec
  have hb := B.bytes
  have hr := B.returns
  have hts := atoms_spec (ws := wsX1_numberOf) B.pre
  have hown : s.vm.findClass RX1 = some m.cls := findClass_of_methodNamed B.named
  have hlocks := B.notSynchronized
  have hNF := hE.2.1.1
  have hin0 : ∀ w ∈ wsX00, w ∈ wsX1_numberOf := by decide +kernel
  have hin1 : ∀ w ∈ wsX10, w ∈ wsX1_numberOf := by decide +kernel
  have hl := lv_entry ([.ref (ad 0), .int (nI j), .int (nI i)]) (n := 3) (Nat.le_of_ble_eq_true rfl)
  rw [lg_entry_eq]
  generalize (lg_sl ([.ref (ad 0), .int (nI j), .int (nI i)]) ++ List.replicate (3 - (lg_sl ([.ref (ad 0), .int (nI j), .int (nI i)])).length) Slot.unset).toArray = ls at hl ⊢
  have hl : lv_has ls 3 [(0, .ref (ad 0)), (1, .int (nI j)), (2, .int (nI i))] := hl
  refine lv_aload_n hx hb dX1_numberOf_0 rfl (lv_at hl 0 rfl) ?_
  refine lv_iload_n hx hb dX1_numberOf_1 rfl (lv_at hl 1 rfl) ?_
  refine lv_iload_n hx hb dX1_numberOf_2 rfl (lv_at hl 2 rfl) ?_
  refine rVn (As := [.int (nI j), .int (nI i)]) (rest := []) ⟨hx, hb, hml, hown, hts⟩ (e_X1_needBeat l D cI cZ cL cJ ad n now told v ⟨hn8, hnow, hwl⟩ j hj i hi) (cwV 2 hts gX1_numberOf_X1_needBeat rfl rfl rfl (by decide +kernel) ⟨(Nat.le_of_ble_eq_true rfl), (Nat.le_of_ble_eq_true rfl)⟩) hK hE ⟨hP0, hPL⟩ (RC_of (q := (RX1, TX1, 5)) (ci := 1) hK rfl (vpa hP0 0 rfl)) rfl hl.1 rfl (Nat.le_of_ble_eq_true rfl) dX1_numberOf_3 ⟨(Nat.le_of_ble_eq_true rfl), (Nat.le_of_ble_eq_true rfl)⟩ ?_
  refine lv_aload_n hx hb dX1_numberOf_6 rfl (lv_at hl 0 rfl) ?_
  refine va_get (D := D) (ci := 1) (v := .ref (ad 1)) (C := RX1) (T := TX1) (N := 5) hx hb hts hin1 hown hK hP0 0 rfl rfl 0 (by decide) (hts (.fieldLink RX1 11 "LanternPrimes" "row" "[LLanternPrimes$Lamp;") (List.mem_of_getElem? (i := 1) rfl)) (fun _ h9 => h9) rfl dX1_numberOf_7 ?_
  refine lv_iload_n hx hb dX1_numberOf_10 rfl (lv_at hl 1 rfl) ?_
  refine n_aald (v := ad (2 + 3 * j)) (j := j) hx hb hK hP0 1 2 rfl rfl (by omega) (by decide) rfl dX1_numberOf_11 ?_
  have hPj := hPL j (by omega)
  refine va_getN (D := D) (ci := 0) (v := .ref (ad (3 + 3 * j))) (C := RX0) (T := TX0) (N := 5) hx hb hts hin0 hown hK hPj 0 rfl rfl 0 (by decide) (va_Nw.use rfl (hNF _ (List.mem_of_getElem? (i := 2) rfl))) (fun _ h9 => h9) rfl dX1_numberOf_12 ?_
  refine lv_iload_n hx hb dX1_numberOf_15 rfl (lv_at hl 2 rfl) ?_
  refine n_iald (v := nI (lnu (v j) i)) (j := i) hx hb hK hPj 1 0 rfl rfl (by omega) (by decide) rfl dX1_numberOf_16 ?_
  exact W.iret (v := nI (lnu (v j) i)) hx hb hr (fun t ht hW => ⟨rfl, ht⟩) (fun _ h => by cases h) dX1_numberOf_17
set_option maxHeartbeats 4000000 in
set_option maxRecDepth 100000 in
/-- offsetOf -/
theorem e_X1_offsetOf (l : Launch) (D : va_G) (cI cZ cL cJ : ClassId) (ad : Nat → Nat) (n now : Nat) (told : Int32) (v : Nat → LV) (hwf : WFX n now v) (j : Nat) (hj : j < n) (i : Nat) (hi : i < lbc (v j)) : Met l yX1_offsetOf wsX1_offsetOf ({ frames := 2, cells := 0, slots := 0, locals := 43 } : Room) (PC D (TY cI cZ cL cJ) noA [.ref (ad 0), .int (nI j), .int (nI i)] (fun H => PX D cI cL ad n now told v H)) (QcRead (nI (lof (v j) i))) 0 0 (fun _ => False) := by
  refine Met.ofW (cc := cX1_offsetOf) (maxL := 3) (ret := (some .int)) (by decide) rfl ?_
  intro p e s m args below meth c s₁ B hml hv
  obtain ⟨rfl, hK, hE, hP0, hPL⟩ := hv
  obtain ⟨hn8, hnow, hwl⟩ := hwf
  have hw4 := (hwl j (by omega)).1
  have hx := B.exec
  have hb := B.bytes
  have hr := B.returns
  have hts := atoms_spec (ws := wsX1_offsetOf) B.pre
  have hown : s.vm.findClass RX1 = some m.cls := findClass_of_methodNamed B.named
  have hlocks := B.notSynchronized
  have hNF := hE.2.1.1
  have hin0 : ∀ w ∈ wsX00, w ∈ wsX1_offsetOf := by decide +kernel
  have hin1 : ∀ w ∈ wsX10, w ∈ wsX1_offsetOf := by decide +kernel
  have hl := lv_entry ([.ref (ad 0), .int (nI j), .int (nI i)]) (n := 3) (Nat.le_of_ble_eq_true rfl)
  rw [lg_entry_eq]
  generalize (lg_sl ([.ref (ad 0), .int (nI j), .int (nI i)]) ++ List.replicate (3 - (lg_sl ([.ref (ad 0), .int (nI j), .int (nI i)])).length) Slot.unset).toArray = ls at hl ⊢
  have hl : lv_has ls 3 [(0, .ref (ad 0)), (1, .int (nI j)), (2, .int (nI i))] := hl
  refine lv_aload_n hx hb dX1_offsetOf_0 rfl (lv_at hl 0 rfl) ?_
  refine lv_iload_n hx hb dX1_offsetOf_1 rfl (lv_at hl 1 rfl) ?_
  refine lv_iload_n hx hb dX1_offsetOf_2 rfl (lv_at hl 2 rfl) ?_
  refine rVn (As := [.int (nI j), .int (nI i)]) (rest := []) ⟨hx, hb, hml, hown, hts⟩ (e_X1_needBeat l D cI cZ cL cJ ad n now told v ⟨hn8, hnow, hwl⟩ j hj i hi) (cwV 2 hts gX1_offsetOf_X1_needBeat rfl rfl rfl (by decide +kernel) ⟨(Nat.le_of_ble_eq_true rfl), (Nat.le_of_ble_eq_true rfl)⟩) hK hE ⟨hP0, hPL⟩ (RC_of (q := (RX1, TX1, 5)) (ci := 1) hK rfl (vpa hP0 0 rfl)) rfl hl.1 rfl (Nat.le_of_ble_eq_true rfl) dX1_offsetOf_3 ⟨(Nat.le_of_ble_eq_true rfl), (Nat.le_of_ble_eq_true rfl)⟩ ?_
  refine lv_aload_n hx hb dX1_offsetOf_6 rfl (lv_at hl 0 rfl) ?_
  refine va_get (D := D) (ci := 1) (v := .ref (ad 1)) (C := RX1) (T := TX1) (N := 5) hx hb hts hin1 hown hK hP0 0 rfl rfl 0 (by decide) (hts (.fieldLink RX1 11 "LanternPrimes" "row" "[LLanternPrimes$Lamp;") (List.mem_of_getElem? (i := 1) rfl)) (fun _ h9 => h9) rfl dX1_offsetOf_7 ?_
  refine lv_iload_n hx hb dX1_offsetOf_10 rfl (lv_at hl 1 rfl) ?_
  refine n_aald (v := ad (2 + 3 * j)) (j := j) hx hb hK hP0 1 2 rfl rfl (by omega) (by decide) rfl dX1_offsetOf_11 ?_
  have hPj := hPL j (by omega)
  refine va_getN (D := D) (ci := 0) (v := .ref (ad (4 + 3 * j))) (C := RX0) (T := TX0) (N := 5) hx hb hts hin0 hown hK hPj 0 rfl rfl 1 (by decide) (va_Nw.use rfl (hNF _ (List.mem_of_getElem? (i := 3) rfl))) (fun _ h9 => h9) rfl dX1_offsetOf_12 ?_
  refine lv_iload_n hx hb dX1_offsetOf_15 rfl (lv_at hl 2 rfl) ?_
  refine n_iald (v := nI (lof (v j) i)) (j := i) hx hb hK hPj 2 0 rfl rfl (by omega) (by decide) rfl dX1_offsetOf_16 ?_
  exact W.iret (v := nI (lof (v j) i)) hx hb hr (fun t ht hW => ⟨rfl, ht⟩) (fun _ h => by cases h) dX1_offsetOf_17
set_option maxHeartbeats 4000000 in
set_option maxRecDepth 100000 in
/-- isCovered -/
theorem e_X1_isCovered (l : Launch) (D : va_G) (cI cZ cL cJ : ClassId) (ad : Nat → Nat) (n now : Nat) (told : Int32) (v : Nat → LV) (hwf : WFX n now v) (j : Nat) (hj : j < n) : Met l yX1_isCovered wsX1_isCovered ({ frames := 1, cells := 0, slots := 0, locals := 21 } : Room) (PC D (TY cI cZ cL cJ) noA [.ref (ad 0), .int (nI j)] (fun H => PX D cI cL ad n now told v H)) (QcRead (bI (lcv (v j)))) 0 0 (fun _ => False) := by
  refine Met.ofW (cc := cX1_isCovered) (maxL := 2) (ret := (some .boolean)) (by decide) rfl ?_
  intro p e s m args below meth c s₁ B hml hv
  obtain ⟨rfl, hK, hE, hP0, hPL⟩ := hv
  obtain ⟨hn8, hnow, hwl⟩ := hwf
  have hx := B.exec
  have hb := B.bytes
  have hr := B.returns
  have hts := atoms_spec (ws := wsX1_isCovered) B.pre
  have hown : s.vm.findClass RX1 = some m.cls := findClass_of_methodNamed B.named
  have hlocks := B.notSynchronized
  have hNF := hE.2.1.1
  have hin0 : ∀ w ∈ wsX00, w ∈ wsX1_isCovered := by decide +kernel
  have hin1 : ∀ w ∈ wsX10, w ∈ wsX1_isCovered := by decide +kernel
  have hl := lv_entry ([.ref (ad 0), .int (nI j)]) (n := 2) (Nat.le_of_ble_eq_true rfl)
  rw [lg_entry_eq]
  generalize (lg_sl ([.ref (ad 0), .int (nI j)]) ++ List.replicate (2 - (lg_sl ([.ref (ad 0), .int (nI j)])).length) Slot.unset).toArray = ls at hl ⊢
  have hl : lv_has ls 2 [(0, .ref (ad 0)), (1, .int (nI j))] := hl
  refine lv_aload_n hx hb dX1_isCovered_0 rfl (lv_at hl 0 rfl) ?_
  refine lv_iload_n hx hb dX1_isCovered_1 rfl (lv_at hl 1 rfl) ?_
  refine rVn (As := [.int (nI j)]) (rest := []) ⟨hx, hb, hml, hown, hts⟩ (e_X1_needLamp l D cI cZ cL cJ ad n now told v ⟨hn8, hnow, hwl⟩ j hj) (cwV 1 hts gX1_isCovered_X1_needLamp rfl rfl rfl (by decide +kernel) ⟨(Nat.le_of_ble_eq_true rfl), (Nat.le_of_ble_eq_true rfl)⟩) hK hE ⟨hP0, hPL⟩ (RC_of (q := (RX1, TX1, 5)) (ci := 1) hK rfl (vpa hP0 0 rfl)) rfl hl.1 rfl (Nat.le_of_ble_eq_true rfl) dX1_isCovered_2 ⟨(Nat.le_of_ble_eq_true rfl), (Nat.le_of_ble_eq_true rfl)⟩ ?_
  refine lv_aload_n hx hb dX1_isCovered_5 rfl (lv_at hl 0 rfl) ?_
  refine va_get (D := D) (ci := 1) (v := .ref (ad 1)) (C := RX1) (T := TX1) (N := 5) hx hb hts hin1 hown hK hP0 0 rfl rfl 0 (by decide) (hts (.fieldLink RX1 11 "LanternPrimes" "row" "[LLanternPrimes$Lamp;") (List.mem_of_getElem? (i := 1) rfl)) (fun _ h9 => h9) rfl dX1_isCovered_6 ?_
  refine lv_iload_n hx hb dX1_isCovered_9 rfl (lv_at hl 1 rfl) ?_
  refine n_aald (v := ad (2 + 3 * j)) (j := j) hx hb hK hP0 1 2 rfl rfl (by omega) (by decide) rfl dX1_isCovered_10 ?_
  have hPj := hPL j (by omega)
  refine va_getN (D := D) (ci := 0) (v := .int (bI (lcv (v j)))) (C := RX0) (T := TX0) (N := 5) hx hb hts hin0 hown hK hPj 0 rfl rfl 4 (by decide) (va_Nw.use rfl (hNF _ (List.mem_of_getElem? (i := 4) rfl))) (fun _ h9 => h9) rfl dX1_isCovered_11 ?_
  exact W.zret (v := bI (lcv (v j))) hx hb hr (bI_narrow _) (fun t ht hW => ⟨rfl, ht⟩) (fun _ h => by cases h) dX1_isCovered_14
set_option maxHeartbeats 4000000 in
set_option maxRecDepth 100000 in
/-- isOn -/
theorem e_X1_isOn (l : Launch) (D : va_G) (cI cZ cL cJ : ClassId) (ad : Nat → Nat) (n now : Nat) (told : Int32) (v : Nat → LV) (hwf : WFX n now v) (j : Nat) (hj : j < n) : Met l yX1_isOn wsX1_isOn ({ frames := 2, cells := 0, slots := 0, locals := 45 } : Room) (PC D (TY cI cZ cL cJ) noA [.ref (ad 0), .int (nI j)] (fun H => PX D cI cL ad n now told v H)) (QcRead (bI (onB (v j) now))) 0 0 (fun _ => False) := by
  refine Met.ofW (cc := cX1_isOn) (maxL := 2) (ret := (some .boolean)) (by decide) rfl ?_
  intro p e s m args below meth c s₁ B hml hv
  obtain ⟨rfl, hK, hE, hP0, hPL⟩ := hv
  obtain ⟨hn8, hnow, hwl⟩ := hwf
  have hx := B.exec
  have hb := B.bytes
  have hr := B.returns
  have hts := atoms_spec (ws := wsX1_isOn) B.pre
  have hown : s.vm.findClass RX1 = some m.cls := findClass_of_methodNamed B.named
  have hlocks := B.notSynchronized
  have hNF := hE.2.1.1
  have hin0 : ∀ w ∈ wsX00, w ∈ wsX1_isOn := by decide +kernel
  have hin1 : ∀ w ∈ wsX10, w ∈ wsX1_isOn := by decide +kernel
  have hl := lv_entry ([.ref (ad 0), .int (nI j)]) (n := 2) (Nat.le_of_ble_eq_true rfl)
  rw [lg_entry_eq]
  generalize (lg_sl ([.ref (ad 0), .int (nI j)]) ++ List.replicate (2 - (lg_sl ([.ref (ad 0), .int (nI j)])).length) Slot.unset).toArray = ls at hl ⊢
  have hl : lv_has ls 2 [(0, .ref (ad 0)), (1, .int (nI j))] := hl
  refine lv_aload_n hx hb dX1_isOn_0 rfl (lv_at hl 0 rfl) ?_
  refine lv_iload_n hx hb dX1_isOn_1 rfl (lv_at hl 1 rfl) ?_
  refine rVn (As := [.int (nI j)]) (rest := []) ⟨hx, hb, hml, hown, hts⟩ (e_X1_needLamp l D cI cZ cL cJ ad n now told v ⟨hn8, hnow, hwl⟩ j hj) (cwV 1 hts gX1_isOn_X1_needLamp rfl rfl rfl (by decide +kernel) ⟨(Nat.le_of_ble_eq_true rfl), (Nat.le_of_ble_eq_true rfl)⟩) hK hE ⟨hP0, hPL⟩ (RC_of (q := (RX1, TX1, 5)) (ci := 1) hK rfl (vpa hP0 0 rfl)) rfl hl.1 rfl (Nat.le_of_ble_eq_true rfl) dX1_isOn_2 ⟨(Nat.le_of_ble_eq_true rfl), (Nat.le_of_ble_eq_true rfl)⟩ ?_
  refine lv_aload_n hx hb dX1_isOn_5 rfl (lv_at hl 0 rfl) ?_
  refine va_get (D := D) (ci := 1) (v := .ref (ad 1)) (C := RX1) (T := TX1) (N := 5) hx hb hts hin1 hown hK hP0 0 rfl rfl 0 (by decide) (hts (.fieldLink RX1 11 "LanternPrimes" "row" "[LLanternPrimes$Lamp;") (List.mem_of_getElem? (i := 1) rfl)) (fun _ h9 => h9) rfl dX1_isOn_6 ?_
  refine lv_iload_n hx hb dX1_isOn_9 rfl (lv_at hl 1 rfl) ?_
  refine n_aald (v := ad (2 + 3 * j)) (j := j) hx hb hK hP0 1 2 rfl rfl (by omega) (by decide) rfl dX1_isOn_10 ?_
  have hPj := hPL j (by omega)
  refine lv_aload_n hx hb dX1_isOn_11 rfl (lv_at hl 0 rfl) ?_
  refine va_get (D := D) (ci := 1) (v := .int (nI now)) (C := RX1) (T := TX1) (N := 5) hx hb hts hin1 hown hK hP0 0 rfl rfl 3 (by decide) (hts (.fieldLink RX1 73 "LanternPrimes" "present" "I") (List.mem_of_getElem? (i := 2) rfl)) (fun _ h9 => h9) rfl dX1_isOn_12 ?_
  refine rV (r := bI (onB (v j) now)) (As := [.int (nI now)]) (rest := []) ⟨hx, hb, hml, hown, hts⟩ (c_X0_onAt l D cI cZ cL cJ (ad (2 + 3 * j)) (ad (3 + 3 * j)) (ad (4 + 3 * j)) (v j) now (by omega) (hwl j (by omega)).up) (cwV 1 hts gX1_isOn_X0_onAt rfl rfl rfl (by decide +kernel) ⟨(Nat.le_of_ble_eq_true rfl), (Nat.le_of_ble_eq_true rfl)⟩) hK hE hPj (RC_of (q := (RX0, TX0, 5)) (ci := 0) hK rfl (vpa hPj 0 rfl)) rfl hl.1 rfl (Nat.le_of_ble_eq_true rfl) dX1_isOn_15 ⟨(Nat.le_of_ble_eq_true rfl), (Nat.le_of_ble_eq_true rfl)⟩ ?_
  exact W.zret (v := bI (onB (v j) now)) hx hb hr (bI_narrow _) (fun t ht hW => ⟨rfl, ht⟩) (fun _ h => by cases h) dX1_isOn_18
set_option maxHeartbeats 4000000 in
set_option maxRecDepth 100000 in
/-- isLit -/
theorem e_X1_isLit (l : Launch) (D : va_G) (cI cZ cL cJ : ClassId) (ad : Nat → Nat) (n now : Nat) (told : Int32) (v : Nat → LV) (hwf : WFX n now v) (j : Nat) (hj : j < n) : Met l yX1_isLit wsX1_isLit ({ frames := 3, cells := 0, slots := 0, locals := 66 } : Room) (PC D (TY cI cZ cL cJ) noA [.ref (ad 0), .int (nI j)] (fun H => PX D cI cL ad n now told v H)) (QcRead (bI (litB (v j) now))) 0 0 (fun _ => False) := by
  refine Met.ofW (cc := cX1_isLit) (maxL := 2) (ret := (some .boolean)) (by decide) rfl ?_
  intro p e s m args below meth c s₁ B hml hv
  obtain ⟨rfl, hK, hE, hP0, hPL⟩ := hv
  obtain ⟨hn8, hnow, hwl⟩ := hwf
  have hx := B.exec
  have hb := B.bytes
  have hr := B.returns
  have hts := atoms_spec (ws := wsX1_isLit) B.pre
  have hown : s.vm.findClass RX1 = some m.cls := findClass_of_methodNamed B.named
  have hlocks := B.notSynchronized
  have hNF := hE.2.1.1
  have hin0 : ∀ w ∈ wsX00, w ∈ wsX1_isLit := by decide +kernel
  have hin1 : ∀ w ∈ wsX10, w ∈ wsX1_isLit := by decide +kernel
  have hl := lv_entry ([.ref (ad 0), .int (nI j)]) (n := 2) (Nat.le_of_ble_eq_true rfl)
  rw [lg_entry_eq]
  generalize (lg_sl ([.ref (ad 0), .int (nI j)]) ++ List.replicate (2 - (lg_sl ([.ref (ad 0), .int (nI j)])).length) Slot.unset).toArray = ls at hl ⊢
  have hl : lv_has ls 2 [(0, .ref (ad 0)), (1, .int (nI j))] := hl
  refine lv_aload_n hx hb dX1_isLit_0 rfl (lv_at hl 0 rfl) ?_
  refine lv_iload_n hx hb dX1_isLit_1 rfl (lv_at hl 1 rfl) ?_
  refine rVn (As := [.int (nI j)]) (rest := []) ⟨hx, hb, hml, hown, hts⟩ (e_X1_needLamp l D cI cZ cL cJ ad n now told v ⟨hn8, hnow, hwl⟩ j hj) (cwV 1 hts gX1_isLit_X1_needLamp rfl rfl rfl (by decide +kernel) ⟨(Nat.le_of_ble_eq_true rfl), (Nat.le_of_ble_eq_true rfl)⟩) hK hE ⟨hP0, hPL⟩ (RC_of (q := (RX1, TX1, 5)) (ci := 1) hK rfl (vpa hP0 0 rfl)) rfl hl.1 rfl (Nat.le_of_ble_eq_true rfl) dX1_isLit_2 ⟨(Nat.le_of_ble_eq_true rfl), (Nat.le_of_ble_eq_true rfl)⟩ ?_
  refine lv_aload_n hx hb dX1_isLit_5 rfl (lv_at hl 0 rfl) ?_
  refine va_get (D := D) (ci := 1) (v := .ref (ad 1)) (C := RX1) (T := TX1) (N := 5) hx hb hts hin1 hown hK hP0 0 rfl rfl 0 (by decide) (hts (.fieldLink RX1 11 "LanternPrimes" "row" "[LLanternPrimes$Lamp;") (List.mem_of_getElem? (i := 1) rfl)) (fun _ h9 => h9) rfl dX1_isLit_6 ?_
  refine lv_iload_n hx hb dX1_isLit_9 rfl (lv_at hl 1 rfl) ?_
  refine n_aald (v := ad (2 + 3 * j)) (j := j) hx hb hK hP0 1 2 rfl rfl (by omega) (by decide) rfl dX1_isLit_10 ?_
  have hPj := hPL j (by omega)
  refine lv_aload_n hx hb dX1_isLit_11 rfl (lv_at hl 0 rfl) ?_
  refine va_get (D := D) (ci := 1) (v := .int (nI now)) (C := RX1) (T := TX1) (N := 5) hx hb hts hin1 hown hK hP0 0 rfl rfl 3 (by decide) (hts (.fieldLink RX1 73 "LanternPrimes" "present" "I") (List.mem_of_getElem? (i := 2) rfl)) (fun _ h9 => h9) rfl dX1_isLit_12 ?_
  refine rV (r := bI (litB (v j) now)) (As := [.int (nI now)]) (rest := []) ⟨hx, hb, hml, hown, hts⟩ (c_X0_litAt l D cI cZ cL cJ (ad (2 + 3 * j)) (ad (3 + 3 * j)) (ad (4 + 3 * j)) (v j) now (by omega) (hwl j (by omega)).up) (cwV 1 hts gX1_isLit_X0_litAt rfl rfl rfl (by decide +kernel) ⟨(Nat.le_of_ble_eq_true rfl), (Nat.le_of_ble_eq_true rfl)⟩) hK hE hPj (RC_of (q := (RX0, TX0, 5)) (ci := 0) hK rfl (vpa hPj 0 rfl)) rfl hl.1 rfl (Nat.le_of_ble_eq_true rfl) dX1_isLit_15 ⟨(Nat.le_of_ble_eq_true rfl), (Nat.le_of_ble_eq_true rfl)⟩ ?_
  exact W.zret (v := bI (litB (v j) now)) hx hb hr (bI_narrow _) (fun t ht hW => ⟨rfl, ht⟩) (fun _ h => by cases h) dX1_isLit_18
set_option maxHeartbeats 4000000 in
set_option maxRecDepth 100000 in
/-- isSteady -/
theorem e_X1_isSteady (l : Launch) (D : va_G) (cI cZ cL cJ : ClassId) (ad : Nat → Nat) (n now : Nat) (told : Int32) (v : Nat → LV) (hwf : WFX n now v) (j : Nat) (hj : j < n) : Met l yX1_isSteady wsX1_isSteady ({ frames := 4, cells := 0, slots := 0, locals := 92 } : Room) (PC D (TY cI cZ cL cJ) noA [.ref (ad 0), .int (nI j)] (fun H => PX D cI cL ad n now told v H)) (QcRead (bI (decide (cyc (v j) = 1)))) 0 0 (fun _ => False) := by
  refine Met.ofW (cc := cX1_isSteady) (maxL := 2) (ret := (some .boolean)) (by decide) rfl ?_
  intro p e s m args below meth c s₁ B hml hv
  obtain ⟨rfl, hK, hE, hP0, hPL⟩ := hv
  obtain ⟨hn8, hnow, hwl⟩ := hwf
  have hx := B.exec
  have hb := B.bytes
  have hr := B.returns
  have hts := atoms_spec (ws := wsX1_isSteady) B.pre
  have hown : s.vm.findClass RX1 = some m.cls := findClass_of_methodNamed B.named
  have hlocks := B.notSynchronized
  have hNF := hE.2.1.1
  have hin0 : ∀ w ∈ wsX00, w ∈ wsX1_isSteady := by decide +kernel
  have hin1 : ∀ w ∈ wsX10, w ∈ wsX1_isSteady := by decide +kernel
  have hl := lv_entry ([.ref (ad 0), .int (nI j)]) (n := 2) (Nat.le_of_ble_eq_true rfl)
  rw [lg_entry_eq]
  generalize (lg_sl ([.ref (ad 0), .int (nI j)]) ++ List.replicate (2 - (lg_sl ([.ref (ad 0), .int (nI j)])).length) Slot.unset).toArray = ls at hl ⊢
  have hl : lv_has ls 2 [(0, .ref (ad 0)), (1, .int (nI j))] := hl
  refine lv_aload_n hx hb dX1_isSteady_0 rfl (lv_at hl 0 rfl) ?_
  refine lv_iload_n hx hb dX1_isSteady_1 rfl (lv_at hl 1 rfl) ?_
  refine rVn (As := [.int (nI j)]) (rest := []) ⟨hx, hb, hml, hown, hts⟩ (e_X1_needLamp l D cI cZ cL cJ ad n now told v ⟨hn8, hnow, hwl⟩ j hj) (cwV 1 hts gX1_isSteady_X1_needLamp rfl rfl rfl (by decide +kernel) ⟨(Nat.le_of_ble_eq_true rfl), (Nat.le_of_ble_eq_true rfl)⟩) hK hE ⟨hP0, hPL⟩ (RC_of (q := (RX1, TX1, 5)) (ci := 1) hK rfl (vpa hP0 0 rfl)) rfl hl.1 rfl (Nat.le_of_ble_eq_true rfl) dX1_isSteady_2 ⟨(Nat.le_of_ble_eq_true rfl), (Nat.le_of_ble_eq_true rfl)⟩ ?_
  refine lv_aload_n hx hb dX1_isSteady_5 rfl (lv_at hl 0 rfl) ?_
  refine va_get (D := D) (ci := 1) (v := .ref (ad 1)) (C := RX1) (T := TX1) (N := 5) hx hb hts hin1 hown hK hP0 0 rfl rfl 0 (by decide) (hts (.fieldLink RX1 11 "LanternPrimes" "row" "[LLanternPrimes$Lamp;") (List.mem_of_getElem? (i := 1) rfl)) (fun _ h9 => h9) rfl dX1_isSteady_6 ?_
  refine lv_iload_n hx hb dX1_isSteady_9 rfl (lv_at hl 1 rfl) ?_
  refine n_aald (v := ad (2 + 3 * j)) (j := j) hx hb hK hP0 1 2 rfl rfl (by omega) (by decide) rfl dX1_isSteady_10 ?_
  have hPj := hPL j (by omega)
  refine rV (r := bI (decide (cyc (v j) = 1))) (As := []) (rest := []) ⟨hx, hb, hml, hown, hts⟩ (c_X0_neverChanges l D cI cZ cL cJ (ad (2 + 3 * j)) (ad (3 + 3 * j)) (ad (4 + 3 * j)) (v j) (hwl j (by omega)).up) (cwV 0 hts gX1_isSteady_X0_neverChanges rfl rfl rfl (by decide +kernel) ⟨(Nat.le_of_ble_eq_true rfl), (Nat.le_of_ble_eq_true rfl)⟩) hK hE hPj (RC_of (q := (RX0, TX0, 5)) (ci := 0) hK rfl (vpa hPj 0 rfl)) rfl hl.1 rfl (Nat.le_of_ble_eq_true rfl) dX1_isSteady_11 ⟨(Nat.le_of_ble_eq_true rfl), (Nat.le_of_ble_eq_true rfl)⟩ ?_
  exact W.zret (v := bI (decide (cyc (v j) = 1))) hx hb hr (bI_narrow _) (fun t ht hW => ⟨rfl, ht⟩) (fun _ h => by cases h) dX1_isSteady_14
set_option maxHeartbeats 4000000 in
set_option maxRecDepth 100000 in
/-- cycleOf -/
theorem e_X1_cycleOf (l : Launch) (D : va_G) (cI cZ cL cJ : ClassId) (ad : Nat → Nat) (n now : Nat) (told : Int32) (v : Nat → LV) (hwf : WFX n now v) (j : Nat) (hj : j < n) : Met l yX1_cycleOf wsX1_cycleOf ({ frames := 3, cells := 0, slots := 0, locals := 72 } : Room) (PC D (TY cI cZ cL cJ) noA [.ref (ad 0), .int (nI j)] (fun H => PX D cI cL ad n now told v H)) (QcRead (nI (cyc (v j)))) 0 0 (fun _ => False) := by
  refine Met.ofW (cc := cX1_cycleOf) (maxL := 2) (ret := (some .int)) (by decide) rfl ?_
  intro p e s m args below meth c s₁ B hml hv
  obtain ⟨rfl, hK, hE, hP0, hPL⟩ := hv
  obtain ⟨hn8, hnow, hwl⟩ := hwf
  have hx := B.exec
  have hb := B.bytes
  have hr := B.returns
  have hts := atoms_spec (ws := wsX1_cycleOf) B.pre
  have hown : s.vm.findClass RX1 = some m.cls := findClass_of_methodNamed B.named
  have hlocks := B.notSynchronized
  have hNF := hE.2.1.1
  have hin0 : ∀ w ∈ wsX00, w ∈ wsX1_cycleOf := by decide +kernel
  have hin1 : ∀ w ∈ wsX10, w ∈ wsX1_cycleOf := by decide +kernel
  have hl := lv_entry ([.ref (ad 0), .int (nI j)]) (n := 2) (Nat.le_of_ble_eq_true rfl)
  rw [lg_entry_eq]
  generalize (lg_sl ([.ref (ad 0), .int (nI j)]) ++ List.replicate (2 - (lg_sl ([.ref (ad 0), .int (nI j)])).length) Slot.unset).toArray = ls at hl ⊢
  have hl : lv_has ls 2 [(0, .ref (ad 0)), (1, .int (nI j))] := hl
  refine lv_aload_n hx hb dX1_cycleOf_0 rfl (lv_at hl 0 rfl) ?_
  refine lv_iload_n hx hb dX1_cycleOf_1 rfl (lv_at hl 1 rfl) ?_
  refine rVn (As := [.int (nI j)]) (rest := []) ⟨hx, hb, hml, hown, hts⟩ (e_X1_needLamp l D cI cZ cL cJ ad n now told v ⟨hn8, hnow, hwl⟩ j hj) (cwV 1 hts gX1_cycleOf_X1_needLamp rfl rfl rfl (by decide +kernel) ⟨(Nat.le_of_ble_eq_true rfl), (Nat.le_of_ble_eq_true rfl)⟩) hK hE ⟨hP0, hPL⟩ (RC_of (q := (RX1, TX1, 5)) (ci := 1) hK rfl (vpa hP0 0 rfl)) rfl hl.1 rfl (Nat.le_of_ble_eq_true rfl) dX1_cycleOf_2 ⟨(Nat.le_of_ble_eq_true rfl), (Nat.le_of_ble_eq_true rfl)⟩ ?_
  refine lv_aload_n hx hb dX1_cycleOf_5 rfl (lv_at hl 0 rfl) ?_
  refine va_get (D := D) (ci := 1) (v := .ref (ad 1)) (C := RX1) (T := TX1) (N := 5) hx hb hts hin1 hown hK hP0 0 rfl rfl 0 (by decide) (hts (.fieldLink RX1 11 "LanternPrimes" "row" "[LLanternPrimes$Lamp;") (List.mem_of_getElem? (i := 1) rfl)) (fun _ h9 => h9) rfl dX1_cycleOf_6 ?_
  refine lv_iload_n hx hb dX1_cycleOf_9 rfl (lv_at hl 1 rfl) ?_
  refine n_aald (v := ad (2 + 3 * j)) (j := j) hx hb hK hP0 1 2 rfl rfl (by omega) (by decide) rfl dX1_cycleOf_10 ?_
  have hPj := hPL j (by omega)
  refine rV (r := nI (cyc (v j))) (As := []) (rest := []) ⟨hx, hb, hml, hown, hts⟩ (c_X0_cycle l D cI cZ cL cJ (ad (2 + 3 * j)) (ad (3 + 3 * j)) (ad (4 + 3 * j)) (v j) (hwl j (by omega)).up) (cwV 0 hts gX1_cycleOf_X0_cycle rfl rfl rfl (by decide +kernel) ⟨(Nat.le_of_ble_eq_true rfl), (Nat.le_of_ble_eq_true rfl)⟩) hK hE hPj (RC_of (q := (RX0, TX0, 5)) (ci := 0) hK rfl (vpa hPj 0 rfl)) rfl hl.1 rfl (Nat.le_of_ble_eq_true rfl) dX1_cycleOf_11 ⟨(Nat.le_of_ble_eq_true rfl), (Nat.le_of_ble_eq_true rfl)⟩ ?_
  exact W.iret (v := nI (cyc (v j))) hx hb hr (fun t ht hW => ⟨rfl, ht⟩) (fun _ h => by cases h) dX1_cycleOf_14
set_option maxHeartbeats 4000000 in
set_option maxRecDepth 100000 in
/-- momentsUntilChange -/
theorem e_X1_momentsUntilChange (l : Launch) (D : va_G) (cI cZ cL cJ : ClassId) (ad : Nat → Nat) (n now : Nat) (told : Int32) (v : Nat → LV) (hwf : WFX n now v) (j : Nat) (hj : j < n) : Met l yX1_momentsUntilChange wsX1_momentsUntilChange ({ frames := 3, cells := 0, slots := 0, locals := 73 } : Room) (PC D (TY cI cZ cL cJ) noA [.ref (ad 0), .int (nI j)] (fun H => PX D cI cL ad n now told v H)) (QcRead ((untC (v j) now))) 0 0 (fun _ => False) := by
  refine Met.ofW (cc := cX1_momentsUntilChange) (maxL := 2) (ret := (some .int)) (by decide) rfl ?_
  intro p e s m args below meth c s₁ B hml hv
  obtain ⟨rfl, hK, hE, hP0, hPL⟩ := hv
  obtain ⟨hn8, hnow, hwl⟩ := hwf
  have hx := B.exec
  have hb := B.bytes
  have hr := B.returns
  have hts := atoms_spec (ws := wsX1_momentsUntilChange) B.pre
  have hown : s.vm.findClass RX1 = some m.cls := findClass_of_methodNamed B.named
  have hlocks := B.notSynchronized
  have hNF := hE.2.1.1
  have hin0 : ∀ w ∈ wsX00, w ∈ wsX1_momentsUntilChange := by decide +kernel
  have hin1 : ∀ w ∈ wsX10, w ∈ wsX1_momentsUntilChange := by decide +kernel
  have hl := lv_entry ([.ref (ad 0), .int (nI j)]) (n := 2) (Nat.le_of_ble_eq_true rfl)
  rw [lg_entry_eq]
  generalize (lg_sl ([.ref (ad 0), .int (nI j)]) ++ List.replicate (2 - (lg_sl ([.ref (ad 0), .int (nI j)])).length) Slot.unset).toArray = ls at hl ⊢
  have hl : lv_has ls 2 [(0, .ref (ad 0)), (1, .int (nI j))] := hl
  refine lv_aload_n hx hb dX1_momentsUntilChange_0 rfl (lv_at hl 0 rfl) ?_
  refine lv_iload_n hx hb dX1_momentsUntilChange_1 rfl (lv_at hl 1 rfl) ?_
  refine rVn (As := [.int (nI j)]) (rest := []) ⟨hx, hb, hml, hown, hts⟩ (e_X1_needLamp l D cI cZ cL cJ ad n now told v ⟨hn8, hnow, hwl⟩ j hj) (cwV 1 hts gX1_momentsUntilChange_X1_needLamp rfl rfl rfl (by decide +kernel) ⟨(Nat.le_of_ble_eq_true rfl), (Nat.le_of_ble_eq_true rfl)⟩) hK hE ⟨hP0, hPL⟩ (RC_of (q := (RX1, TX1, 5)) (ci := 1) hK rfl (vpa hP0 0 rfl)) rfl hl.1 rfl (Nat.le_of_ble_eq_true rfl) dX1_momentsUntilChange_2 ⟨(Nat.le_of_ble_eq_true rfl), (Nat.le_of_ble_eq_true rfl)⟩ ?_
  refine lv_aload_n hx hb dX1_momentsUntilChange_5 rfl (lv_at hl 0 rfl) ?_
  refine va_get (D := D) (ci := 1) (v := .ref (ad 1)) (C := RX1) (T := TX1) (N := 5) hx hb hts hin1 hown hK hP0 0 rfl rfl 0 (by decide) (hts (.fieldLink RX1 11 "LanternPrimes" "row" "[LLanternPrimes$Lamp;") (List.mem_of_getElem? (i := 1) rfl)) (fun _ h9 => h9) rfl dX1_momentsUntilChange_6 ?_
  refine lv_iload_n hx hb dX1_momentsUntilChange_9 rfl (lv_at hl 1 rfl) ?_
  refine n_aald (v := ad (2 + 3 * j)) (j := j) hx hb hK hP0 1 2 rfl rfl (by omega) (by decide) rfl dX1_momentsUntilChange_10 ?_
  have hPj := hPL j (by omega)
  refine lv_aload_n hx hb dX1_momentsUntilChange_11 rfl (lv_at hl 0 rfl) ?_
  refine va_get (D := D) (ci := 1) (v := .int (nI now)) (C := RX1) (T := TX1) (N := 5) hx hb hts hin1 hown hK hP0 0 rfl rfl 3 (by decide) (hts (.fieldLink RX1 73 "LanternPrimes" "present" "I") (List.mem_of_getElem? (i := 2) rfl)) (fun _ h9 => h9) rfl dX1_momentsUntilChange_12 ?_
  refine rV (r := (untC (v j) now)) (As := [.int (nI now)]) (rest := []) ⟨hx, hb, hml, hown, hts⟩ (c_X0_untilChange l D cI cZ cL cJ (ad (2 + 3 * j)) (ad (3 + 3 * j)) (ad (4 + 3 * j)) (v j) now (by omega) (hwl j (by omega)).up) (cwV 1 hts gX1_momentsUntilChange_X0_untilChange rfl rfl rfl (by decide +kernel) ⟨(Nat.le_of_ble_eq_true rfl), (Nat.le_of_ble_eq_true rfl)⟩) hK hE hPj (RC_of (q := (RX0, TX0, 5)) (ci := 0) hK rfl (vpa hPj 0 rfl)) rfl hl.1 rfl (Nat.le_of_ble_eq_true rfl) dX1_momentsUntilChange_15 ⟨(Nat.le_of_ble_eq_true rfl), (Nat.le_of_ble_eq_true rfl)⟩ ?_
  exact W.iret (v := (untC (v j) now)) hx hb hr (fun t ht hW => ⟨rfl, ht⟩) (fun _ h => by cases h) dX1_momentsUntilChange_18
set_option maxHeartbeats 4000000 in
set_option maxRecDepth 100000 in
/-- isOnAt -/
theorem e_X1_isOnAt (l : Launch) (D : va_G) (cI cZ cL cJ : ClassId) (ad : Nat → Nat) (n now : Nat) (told : Int32) (v : Nat → LV) (hwf : WFX n now v) (j : Nat) (hj : j < n) (y : Nat) (hy : y ≤ 60000) : Met l yX1_isOnAt wsX1_isOnAt ({ frames := 2, cells := 0, slots := 0, locals := 45 } : Room) (PC D (TY cI cZ cL cJ) noA [.ref (ad 0), .int (nI j), .int (nI y)] (fun H => PX D cI cL ad n now told v H)) (QcRead (bI (onB (v j) y))) 0 0 (fun _ => False) := by
  refine Met.ofW (cc := cX1_isOnAt) (maxL := 3) (ret := (some .boolean)) (by decide) rfl ?_
  intro p e s m args below meth c s₁ B hml hv
  obtain ⟨rfl, hK, hE, hP0, hPL⟩ := hv
  obtain ⟨hn8, hnow, hwl⟩ := hwf
  have hx := B.exec
  have hb := B.bytes
  have hr := B.returns
  have hts := atoms_spec (ws := wsX1_isOnAt) B.pre
  have hown : s.vm.findClass RX1 = some m.cls := findClass_of_methodNamed B.named
  have hlocks := B.notSynchronized
  have hNF := hE.2.1.1
  have hin0 : ∀ w ∈ wsX00, w ∈ wsX1_isOnAt := by decide +kernel
  have hin1 : ∀ w ∈ wsX10, w ∈ wsX1_isOnAt := by decide +kernel
  have hl := lv_entry ([.ref (ad 0), .int (nI j), .int (nI y)]) (n := 3) (Nat.le_of_ble_eq_true rfl)
  rw [lg_entry_eq]
  generalize (lg_sl ([.ref (ad 0), .int (nI j), .int (nI y)]) ++ List.replicate (3 - (lg_sl ([.ref (ad 0), .int (nI j), .int (nI y)])).length) Slot.unset).toArray = ls at hl ⊢
  have hl : lv_has ls 3 [(0, .ref (ad 0)), (1, .int (nI j)), (2, .int (nI y))] := hl
  refine lv_aload_n hx hb dX1_isOnAt_0 rfl (lv_at hl 0 rfl) ?_
  refine lv_iload_n hx hb dX1_isOnAt_1 rfl (lv_at hl 1 rfl) ?_
  refine rVn (As := [.int (nI j)]) (rest := []) ⟨hx, hb, hml, hown, hts⟩ (e_X1_needLamp l D cI cZ cL cJ ad n now told v ⟨hn8, hnow, hwl⟩ j hj) (cwV 1 hts gX1_isOnAt_X1_needLamp rfl rfl rfl (by decide +kernel) ⟨(Nat.le_of_ble_eq_true rfl), (Nat.le_of_ble_eq_true rfl)⟩) hK hE ⟨hP0, hPL⟩ (RC_of (q := (RX1, TX1, 5)) (ci := 1) hK rfl (vpa hP0 0 rfl)) rfl hl.1 rfl (Nat.le_of_ble_eq_true rfl) dX1_isOnAt_2 ⟨(Nat.le_of_ble_eq_true rfl), (Nat.le_of_ble_eq_true rfl)⟩ ?_
  refine lv_iload_n hx hb dX1_isOnAt_5 rfl (lv_at hl 2 rfl) ?_
  refine rSn (As := [.int (nI y)]) (rest := []) ⟨hx, hb, hml, hown, hts⟩ (e_X1_needMoment l D cI cZ cL cJ y hy) (va_cwS 1 hts gX1_isOnAt_X1_needMoment rfl rfl rfl (by decide +kernel) ⟨(Nat.le_of_ble_eq_true rfl), (Nat.le_of_ble_eq_true rfl)⟩) hK hE trivial rfl hl.1 rfl (Nat.le_of_ble_eq_true rfl) dX1_isOnAt_6 ⟨(Nat.le_of_ble_eq_true rfl), (Nat.le_of_ble_eq_true rfl)⟩ ?_
  refine lv_aload_n hx hb dX1_isOnAt_9 rfl (lv_at hl 0 rfl) ?_
  refine va_get (D := D) (ci := 1) (v := .ref (ad 1)) (C := RX1) (T := TX1) (N := 5) hx hb hts hin1 hown hK hP0 0 rfl rfl 0 (by decide) (hts (.fieldLink RX1 11 "LanternPrimes" "row" "[LLanternPrimes$Lamp;") (List.mem_of_getElem? (i := 1) rfl)) (fun _ h9 => h9) rfl dX1_isOnAt_10 ?_
  refine lv_iload_n hx hb dX1_isOnAt_13 rfl (lv_at hl 1 rfl) ?_
  refine n_aald (v := ad (2 + 3 * j)) (j := j) hx hb hK hP0 1 2 rfl rfl (by omega) (by decide) rfl dX1_isOnAt_14 ?_
  have hPj := hPL j (by omega)
  refine lv_iload_n hx hb dX1_isOnAt_15 rfl (lv_at hl 2 rfl) ?_
  refine rV (r := bI (onB (v j) y)) (As := [.int (nI y)]) (rest := []) ⟨hx, hb, hml, hown, hts⟩ (c_X0_onAt l D cI cZ cL cJ (ad (2 + 3 * j)) (ad (3 + 3 * j)) (ad (4 + 3 * j)) (v j) y (by omega) (hwl j (by omega)).up) (cwV 1 hts gX1_isOnAt_X0_onAt rfl rfl rfl (by decide +kernel) ⟨(Nat.le_of_ble_eq_true rfl), (Nat.le_of_ble_eq_true rfl)⟩) hK hE hPj (RC_of (q := (RX0, TX0, 5)) (ci := 0) hK rfl (vpa hPj 0 rfl)) rfl hl.1 rfl (Nat.le_of_ble_eq_true rfl) dX1_isOnAt_16 ⟨(Nat.le_of_ble_eq_true rfl), (Nat.le_of_ble_eq_true rfl)⟩ ?_
  exact W.zret (v := bI (onB (v j) y)) hx hb hr (bI_narrow _) (fun t ht hW => ⟨rfl, ht⟩) (fun _ h => by cases h) dX1_isOnAt_19
set_option maxHeartbeats 4000000 in
set_option maxRecDepth 100000 in
/-- strikesAt -/
theorem e_X1_strikesAt (l : Launch) (D : va_G) (cI cZ cL cJ : ClassId) (ad : Nat → Nat) (n now : Nat) (told : Int32) (v : Nat → LV) (hwf : WFX n now v) (j : Nat) (hj : j < n) (y : Nat) (hy : y ≤ 60000) : Met l yX1_strikesAt wsX1_strikesAt ({ frames := 1, cells := 0, slots := 0, locals := 23 } : Room) (PC D (TY cI cZ cL cJ) noA [.ref (ad 0), .int (nI j), .int (nI y)] (fun H => PX D cI cL ad n now told v H)) (QcRead (nI (strk (v j) y (lbc (v j))))) 0 0 (fun _ => False) := by
  refine Met.ofW (cc := cX1_strikesAt) (maxL := 3) (ret := (some .int)) (by decide) rfl ?_
  intro p e s m args below meth c s₁ B hml hv
  obtain ⟨rfl, hK, hE, hP0, hPL⟩ := hv
  obtain ⟨hn8, hnow, hwl⟩ := hwf
  have hx := B.exec
  have hb := B.bytes
  have hr := B.returns
  have hts := atoms_spec (ws := wsX1_strikesAt) B.pre
  have hown : s.vm.findClass RX1 = some m.cls := findClass_of_methodNamed B.named
  have hlocks := B.notSynchronized
  have hNF := hE.2.1.1
  have hin0 : ∀ w ∈ wsX00, w ∈ wsX1_strikesAt := by decide +kernel
  have hin1 : ∀ w ∈ wsX10, w ∈ wsX1_strikesAt := by decide +kernel
  have hl := lv_entry ([.ref (ad 0), .int (nI j), .int (nI y)]) (n := 3) (Nat.le_of_ble_eq_true rfl)
  rw [lg_entry_eq]
  generalize (lg_sl ([.ref (ad 0), .int (nI j), .int (nI y)]) ++ List.replicate (3 - (lg_sl ([.ref (ad 0), .int (nI j), .int (nI y)])).length) Slot.unset).toArray = ls at hl ⊢
  have hl : lv_has ls 3 [(0, .ref (ad 0)), (1, .int (nI j)), (2, .int (nI y))] := hl
  refine lv_aload_n hx hb dX1_strikesAt_0 rfl (lv_at hl 0 rfl) ?_
  refine lv_iload_n hx hb dX1_strikesAt_1 rfl (lv_at hl 1 rfl) ?_
  refine rVn (As := [.int (nI j)]) (rest := []) ⟨hx, hb, hml, hown, hts⟩ (e_X1_needLamp l D cI cZ cL cJ ad n now told v ⟨hn8, hnow, hwl⟩ j hj) (cwV 1 hts gX1_strikesAt_X1_needLamp rfl rfl rfl (by decide +kernel) ⟨(Nat.le_of_ble_eq_true rfl), (Nat.le_of_ble_eq_true rfl)⟩) hK hE ⟨hP0, hPL⟩ (RC_of (q := (RX1, TX1, 5)) (ci := 1) hK rfl (vpa hP0 0 rfl)) rfl hl.1 rfl (Nat.le_of_ble_eq_true rfl) dX1_strikesAt_2 ⟨(Nat.le_of_ble_eq_true rfl), (Nat.le_of_ble_eq_true rfl)⟩ ?_
  refine lv_iload_n hx hb dX1_strikesAt_5 rfl (lv_at hl 2 rfl) ?_
  refine rSn (As := [.int (nI y)]) (rest := []) ⟨hx, hb, hml, hown, hts⟩ (e_X1_needMoment l D cI cZ cL cJ y hy) (va_cwS 1 hts gX1_strikesAt_X1_needMoment rfl rfl rfl (by decide +kernel) ⟨(Nat.le_of_ble_eq_true rfl), (Nat.le_of_ble_eq_true rfl)⟩) hK hE trivial rfl hl.1 rfl (Nat.le_of_ble_eq_true rfl) dX1_strikesAt_6 ⟨(Nat.le_of_ble_eq_true rfl), (Nat.le_of_ble_eq_true rfl)⟩ ?_
  refine lv_aload_n hx hb dX1_strikesAt_9 rfl (lv_at hl 0 rfl) ?_
  refine va_get (D := D) (ci := 1) (v := .ref (ad 1)) (C := RX1) (T := TX1) (N := 5) hx hb hts hin1 hown hK hP0 0 rfl rfl 0 (by decide) (hts (.fieldLink RX1 11 "LanternPrimes" "row" "[LLanternPrimes$Lamp;") (List.mem_of_getElem? (i := 1) rfl)) (fun _ h9 => h9) rfl dX1_strikesAt_10 ?_
  refine lv_iload_n hx hb dX1_strikesAt_13 rfl (lv_at hl 1 rfl) ?_
  refine n_aald (v := ad (2 + 3 * j)) (j := j) hx hb hK hP0 1 2 rfl rfl (by omega) (by decide) rfl dX1_strikesAt_14 ?_
  have hPj := hPL j (by omega)
  refine lv_iload_n hx hb dX1_strikesAt_15 rfl (lv_at hl 2 rfl) ?_
  refine rV (r := nI (strk (v j) y (lbc (v j)))) (As := [.int (nI y)]) (rest := []) ⟨hx, hb, hml, hown, hts⟩ (c_X0_strikes l D cI cZ cL cJ (ad (2 + 3 * j)) (ad (3 + 3 * j)) (ad (4 + 3 * j)) (v j) y (by omega) (hwl j (by omega)).up) (cwV 1 hts gX1_strikesAt_X0_strikes rfl rfl rfl (by decide +kernel) ⟨(Nat.le_of_ble_eq_true rfl), (Nat.le_of_ble_eq_true rfl)⟩) hK hE hPj (RC_of (q := (RX0, TX0, 5)) (ci := 0) hK rfl (vpa hPj 0 rfl)) rfl hl.1 rfl (Nat.le_of_ble_eq_true rfl) dX1_strikesAt_16 ⟨(Nat.le_of_ble_eq_true rfl), (Nat.le_of_ble_eq_true rfl)⟩ ?_
  exact W.iret (v := nI (strk (v j) y (lbc (v j)))) hx hb hr (fun t ht hW => ⟨rfl, ht⟩) (fun _ h => by cases h) dX1_strikesAt_19
set_option maxHeartbeats 4000000 in
set_option maxRecDepth 100000 in
/-- shows -/
theorem e_X1_shows (l : Launch) (D : va_G) (cI cZ cL cJ : ClassId) (ad : Nat → Nat) (n now : Nat) (told : Int32) (v : Nat → LV) (hwf : WFX n now v) (j : Nat) (hj : j < n) (y : Nat) (hy1 : 1 ≤ y) (hy2 : y ≤ 30) : Met l yX1_shows wsX1_shows ({ frames := 2, cells := 0, slots := 0, locals := 45 } : Room) (PC D (TY cI cZ cL cJ) noA [.ref (ad 0), .int (nI j), .int (nI y)] (fun H => PX D cI cL ad n now told v H)) (QcRead (nI (shwN (v j) now y))) 0 0 (fun _ => False) := by
  refine Met.ofW (cc := cX1_shows) (maxL := 5) (ret := (some .int)) (by decide) rfl ?_
  intro p e s m args below meth c s₁ B hml hv
  obtain ⟨rfl, hK, hE, hP0, hPL⟩ := hv
  obtain ⟨hn8, hnow, hwl⟩ := hwf
  have hx := B.exec
  have hb := B.bytes
  have hr := B.returns
  have hts := atoms_spec (ws := wsX1_shows) B.pre
  have hown : s.vm.findClass RX1 = some m.cls := findClass_of_methodNamed B.named
  have hlocks := B.notSynchronized
  have hNF := hE.2.1.1
  have hin0 : ∀ w ∈ wsX00, w ∈ wsX1_shows := by decide +kernel
  have hin1 : ∀ w ∈ wsX10, w ∈ wsX1_shows := by decide +kernel
  have hl := lv_entry ([.ref (ad 0), .int (nI j), .int (nI y)]) (n := 5) (Nat.le_of_ble_eq_true rfl)
  rw [lg_entry_eq]
  generalize (lg_sl ([.ref (ad 0), .int (nI j), .int (nI y)]) ++ List.replicate (5 - (lg_sl ([.ref (ad 0), .int (nI j), .int (nI y)])).length) Slot.unset).toArray = ls at hl ⊢
  have hl : lv_has ls 5 [(0, .ref (ad 0)), (1, .int (nI j)), (2, .int (nI y))] := hl
  refine lv_aload_n hx hb dX1_shows_0 rfl (lv_at hl 0 rfl) ?_
  refine lv_iload_n hx hb dX1_shows_1 rfl (lv_at hl 1 rfl) ?_
  refine rVn (As := [.int (nI j)]) (rest := []) ⟨hx, hb, hml, hown, hts⟩ (e_X1_needLamp l D cI cZ cL cJ ad n now told v ⟨hn8, hnow, hwl⟩ j hj) (cwV 1 hts gX1_shows_X1_needLamp rfl rfl rfl (by decide +kernel) ⟨(Nat.le_of_ble_eq_true rfl), (Nat.le_of_ble_eq_true rfl)⟩) hK hE ⟨hP0, hPL⟩ (RC_of (q := (RX1, TX1, 5)) (ci := 1) hK rfl (vpa hP0 0 rfl)) rfl hl.1 rfl (Nat.le_of_ble_eq_true rfl) dX1_shows_2 ⟨(Nat.le_of_ble_eq_true rfl), (Nat.le_of_ble_eq_true rfl)⟩ ?_
  refine lv_iload_n hx hb dX1_shows_5 rfl (lv_at hl 2 rfl) ?_
  refine lv_bipush (v := nI 30) hx hb dX1_shows_6 (by decide) ?_
  refine rSn (As := [.int (nI y), .int (nI 30)]) (rest := []) ⟨hx, hb, hml, hown, hts⟩ (e_X1_needMoments l D cI cZ cL cJ y 30 hy1 hy2 (by omega)) (va_cwS 2 hts gX1_shows_X1_needMoments rfl rfl rfl (by decide +kernel) ⟨(Nat.le_of_ble_eq_true rfl), (Nat.le_of_ble_eq_true rfl)⟩) hK hE trivial rfl hl.1 rfl (Nat.le_of_ble_eq_true rfl) dX1_shows_8 ⟨(Nat.le_of_ble_eq_true rfl), (Nat.le_of_ble_eq_true rfl)⟩ ?_
  refine lv_iconst (v := nI 0) hx hb dX1_shows_11 (by decide) ?_
  refine lv_istore_n (lv' := [(3, .int (nI 0)), (0, .ref (ad 0)), (1, .int (nI j)), (2, .int (nI y))]) hx hb dX1_shows_12 rfl hl (by decide) rfl (fun ls hl => ?_)
  refine lv_iconst (v := nI 0) hx hb dX1_shows_13 (by decide) ?_
  refine lv_istore (lv' := [(4, .int (nI 0)), (3, .int (nI 0)), (0, .ref (ad 0)), (1, .int (nI j)), (2, .int (nI y))]) hx hb dX1_shows_14 hl (by decide) rfl (fun ls hl => ?_)
  have loop_16 : ∀ (fu : Nat) (q : Nat), y + 1 - q ≤ fu → q ≤ y → ∀ (ls : Array Slot), lv_has ls 5 [(4, .int (nI q)), (3, .int (nI (shwN (v j) now q))), (0, .ref (ad 0)), (1, .int (nI j)), (2, .int (nI y))] → W p l e (headSpec wsX1_shows ({ frames := 2, cells := 0, slots := 0, locals := 45 } : Room)).room s m [.ref (ad 0), .int (nI j), .int (nI y)].toArray below meth c s.heap [] 0 0 (MQ below (QcRead (nI (shwN (v j) now y))) [.ref (ad 0), .int (nI j), .int (nI y)].toArray s 0 0 (fun _ => False)) (F0 m 16 ls []) := by
    intro fu
    induction fu with
    | zero => intro q hn_16 hq; exact absurd hn_16 (by omega)
    | succ fu ih_16 =>
      intro q hn_16 hq ls hl
      refine lv_iload hx hb dX1_shows_16 (lv_at hl 0 rfl) ?_
      refine lv_iload_n hx hb dX1_shows_18 rfl (lv_at hl 4 rfl) ?_
      refine n_icmp_ge (a := q) (b := y) (tgt := 57) hx hb (by omega) (by omega) dX1_shows_19 (by decide) (fun c_19 => ?_) (fun c_19 => ?_)
      · refine lv_iload_n hx hb dX1_shows_57 rfl (lv_at hl 1 rfl) ?_
        refine n_ti (y := nI (shwN (v j) now y)) (by rw [show q = y by omega]) ?_
        exact W.iret (v := nI (shwN (v j) now y)) hx hb hr (fun t ht hW => ⟨rfl, ht⟩) (fun _ h => by cases h) dX1_shows_58
      · have join_49 : ∀ (ls : Array Slot), lv_has ls 5 [(4, .int (nI q)), (3, .int (nI (shwN (v j) now q))), (0, .ref (ad 0)), (1, .int (nI j)), (2, .int (nI y))] → W p l e (headSpec wsX1_shows ({ frames := 2, cells := 0, slots := 0, locals := 45 } : Room)).room s m [.ref (ad 0), .int (nI j), .int (nI y)].toArray below meth c s.heap [] 0 0 (MQ below (QcRead (nI (shwN (v j) now y))) [.ref (ad 0), .int (nI j), .int (nI y)].toArray s 0 0 (fun _ => False)) (F0 m 49 ls [.int (nI (if onB (v j) (now + q) = true then 1 else 0)), .int (nI (2 * (shwN (v j) now q)))]) := by
          intro   ls hl
          refine n_iadd (v := nI (shwN (v j) now (q + 1))) hx hb dX1_shows_49 (nI_add _ _) ?_
          refine lv_istore_n (lv' := [(3, .int (nI (shwN (v j) now (q + 1)))), (4, .int (nI q)), (0, .ref (ad 0)), (1, .int (nI j)), (2, .int (nI y))]) hx hb dX1_shows_50 rfl hl (by decide) rfl (fun ls hl => ?_)
          refine lv_iinc (v := nI (q + 1)) (lv' := [(4, .int (nI (q + 1))), (3, .int (nI (shwN (v j) now (q + 1)))), (0, .ref (ad 0)), (1, .int (nI j)), (2, .int (nI y))]) hx hb dX1_shows_51 hl (k := 1) rfl (nI_inc _) (by decide) rfl (fun ls hl => ?_)
          refine lv_goto (tgt := 16) hx hb dX1_shows_54 (by decide) ?_
          exact ih_16 (q + 1) (by omega) (by omega) ls (lv_sub hl [0, 1, 2, 3, 4] rfl)
        refine lv_iconst (v := nI 2) hx hb dX1_shows_22 (by decide) ?_
        refine lv_iload_n hx hb dX1_shows_23 rfl (lv_at hl 1 rfl) ?_
        refine n_imul (v := nI (2 * (shwN (v j) now q))) hx hb dX1_shows_24 (pk_mul _ _) ?_
        refine lv_aload_n hx hb dX1_shows_25 rfl (lv_at hl 2 rfl) ?_
        refine va_get (D := D) (ci := 1) (v := .ref (ad 1)) (C := RX1) (T := TX1) (N := 5) hx hb hts hin1 hown hK hP0 0 rfl rfl 0 (by decide) (hts (.fieldLink RX1 11 "LanternPrimes" "row" "[LLanternPrimes$Lamp;") (List.mem_of_getElem? (i := 1) rfl)) (fun _ h9 => h9) rfl dX1_shows_26 ?_
        refine lv_iload_n hx hb dX1_shows_29 rfl (lv_at hl 3 rfl) ?_
        refine n_aald (v := ad (2 + 3 * j)) (j := j) hx hb hK hP0 1 2 rfl rfl (by omega) (by decide) rfl dX1_shows_30 ?_
        have hPj := hPL j (by omega)
        refine lv_aload_n hx hb dX1_shows_31 rfl (lv_at hl 2 rfl) ?_
        refine va_get (D := D) (ci := 1) (v := .int (nI now)) (C := RX1) (T := TX1) (N := 5) hx hb hts hin1 hown hK hP0 0 rfl rfl 3 (by decide) (hts (.fieldLink RX1 73 "LanternPrimes" "present" "I") (List.mem_of_getElem? (i := 2) rfl)) (fun _ h9 => h9) rfl dX1_shows_32 ?_
        refine lv_iload hx hb dX1_shows_35 (lv_at hl 0 rfl) ?_
        refine n_iadd (v := nI (now + q)) hx hb dX1_shows_37 (nI_add _ _) ?_
        refine rV (r := bI (onB (v j) (now + q))) (As := [.int (nI (now + q))]) (rest := [.int (nI (2 * (shwN (v j) now q)))]) ⟨hx, hb, hml, hown, hts⟩ (c_X0_onAt l D cI cZ cL cJ (ad (2 + 3 * j)) (ad (3 + 3 * j)) (ad (4 + 3 * j)) (v j) (now + q) (by omega) (hwl j (by omega)).up) (cwV 1 hts gX1_shows_X0_onAt rfl rfl rfl (by decide +kernel) ⟨(Nat.le_of_ble_eq_true rfl), (Nat.le_of_ble_eq_true rfl)⟩) hK hE hPj (RC_of (q := (RX0, TX0, 5)) (ci := 0) hK rfl (vpa hPj 0 rfl)) rfl hl.1 rfl (Nat.le_of_ble_eq_true rfl) dX1_shows_38 ⟨(Nat.le_of_ble_eq_true rfl), (Nat.le_of_ble_eq_true rfl)⟩ ?_
        refine b_if_eq (b := onB (v j) (now + q)) (tgt := 48) hx hb dX1_shows_41 (by decide) (fun c_41 => ?_) (fun c_41 => ?_)
        · refine lv_iconst (v := nI 0) hx hb dX1_shows_48 (by decide) ?_
          refine n_ti (y := nI (if onB (v j) (now + q) = true then 1 else 0)) (by rw [c_41]; rfl) ?_
          exact join_49 ls (lv_sub hl [0, 1, 2, 3, 4] rfl)
        · refine lv_iconst (v := nI 1) hx hb dX1_shows_44 (by decide) ?_
          refine lv_goto (tgt := 49) hx hb dX1_shows_45 (by decide) ?_
          refine n_ti (y := nI (if onB (v j) (now + q) = true then 1 else 0)) (by rw [c_41]; rfl) ?_
          exact join_49 ls (lv_sub hl [0, 1, 2, 3, 4] rfl)
  exact loop_16 (y + 1) 0 (by omega) (Nat.zero_le _) ls (lv_sub hl [0, 1, 2, 3, 4] rfl)
set_option maxHeartbeats 4000000 in
set_option maxRecDepth 100000 in
/-- momentsUntilCollision -/
theorem e_X1_momentsUntilCollision (l : Launch) (D : va_G) (cI cZ cL cJ : ClassId) (ad : Nat → Nat) (n now : Nat) (told : Int32) (v : Nat → LV) (hwf : WFX n now v) (i j : Nat) (hi : i < n) (hj : j < n) (hij : ¬ i = j) : Met l yX1_momentsUntilCollision wsX1_momentsUntilCollision ({ frames := 3, cells := 0, slots := 0, locals := 67 } : Room) (PC D (TY cI cZ cL cJ) noA [.ref (ad 0), .int (nI i), .int (nI j)] (fun H => PX D cI cL ad n now told v H)) (QcRead ((oI (fnd (fun z => colB v i j (now + z)) 1 1000)))) 0 0 (fun _ => False) := by
  refine Met.ofW (cc := cX1_momentsUntilCollision) (maxL := 4) (ret := (some .int)) (by decide) rfl ?_
  intro p e s m args below meth c s₁ B hml hv
  obtain ⟨rfl, hK, hE, hP0, hPL⟩ := hv
  obtain ⟨hn8, hnow, hwl⟩ := hwf
  have hx := B.exec
  have hb := B.bytes
  have hr := B.returns
  have hts := atoms_spec (ws := wsX1_momentsUntilCollision) B.pre
  have hown : s.vm.findClass RX1 = some m.cls := findClass_of_methodNamed B.named
  have hlocks := B.notSynchronized
  have hNF := hE.2.1.1
  have hin0 : ∀ w ∈ wsX00, w ∈ wsX1_momentsUntilCollision := by decide +kernel
  have hin1 : ∀ w ∈ wsX10, w ∈ wsX1_momentsUntilCollision := by decide +kernel
  have hl := lv_entry ([.ref (ad 0), .int (nI i), .int (nI j)]) (n := 4) (Nat.le_of_ble_eq_true rfl)
  rw [lg_entry_eq]
  generalize (lg_sl ([.ref (ad 0), .int (nI i), .int (nI j)]) ++ List.replicate (4 - (lg_sl ([.ref (ad 0), .int (nI i), .int (nI j)])).length) Slot.unset).toArray = ls at hl ⊢
  have hl : lv_has ls 4 [(0, .ref (ad 0)), (1, .int (nI i)), (2, .int (nI j))] := hl
  refine lv_aload_n hx hb dX1_momentsUntilCollision_0 rfl (lv_at hl 0 rfl) ?_
  refine lv_iload_n hx hb dX1_momentsUntilCollision_1 rfl (lv_at hl 1 rfl) ?_
  refine lv_iload_n hx hb dX1_momentsUntilCollision_2 rfl (lv_at hl 2 rfl) ?_
  refine rVn (As := [.int (nI i), .int (nI j)]) (rest := []) ⟨hx, hb, hml, hown, hts⟩ (e_X1_needPair l D cI cZ cL cJ ad n now told v ⟨hn8, hnow, hwl⟩ i j hi hj hij) (cwV 2 hts gX1_momentsUntilCollision_X1_needPair rfl rfl rfl (by decide +kernel) ⟨(Nat.le_of_ble_eq_true rfl), (Nat.le_of_ble_eq_true rfl)⟩) hK hE ⟨hP0, hPL⟩ (RC_of (q := (RX1, TX1, 5)) (ci := 1) hK rfl (vpa hP0 0 rfl)) rfl hl.1 rfl (Nat.le_of_ble_eq_true rfl) dX1_momentsUntilCollision_3 ⟨(Nat.le_of_ble_eq_true rfl), (Nat.le_of_ble_eq_true rfl)⟩ ?_
  refine lv_iconst (v := nI 1) hx hb dX1_momentsUntilCollision_6 (by decide) ?_
  refine lv_istore_n (lv' := [(3, .int (nI 1)), (0, .ref (ad 0)), (1, .int (nI i)), (2, .int (nI j))]) hx hb dX1_momentsUntilCollision_7 rfl hl (by decide) rfl (fun ls hl => ?_)
  have loop_8 : ∀ (fu : Nat) (y : Nat), 1002 - y ≤ fu → 1 ≤ y → y ≤ 1001 → fnd (fun z => colB v i j (now + z)) y (1001 - y) = fnd (fun z => colB v i j (now + z)) 1 1000 → ∀ (ls : Array Slot), lv_has ls 4 [(3, .int (nI y)), (0, .ref (ad 0)), (1, .int (nI i)), (2, .int (nI j))] → W p l e (headSpec wsX1_momentsUntilCollision ({ frames := 3, cells := 0, slots := 0, locals := 67 } : Room)).room s m [.ref (ad 0), .int (nI i), .int (nI j)].toArray below meth c s.heap [] 0 0 (MQ below (QcRead ((oI (fnd (fun z => colB v i j (now + z)) 1 1000)))) [.ref (ad 0), .int (nI i), .int (nI j)].toArray s 0 0 (fun _ => False)) (F0 m 8 ls []) := by
    intro fu
    induction fu with
    | zero => intro y hn_8 hy1 hy2 hf; exact absurd hn_8 (by omega)
    | succ fu ih_8 =>
      intro y hn_8 hy1 hy2 hf ls hl
      refine lv_iload_n hx hb dX1_momentsUntilCollision_8 rfl (lv_at hl 0 rfl) ?_
      refine lv_sipush (v := nI 1000) hx hb dX1_momentsUntilCollision_9 (by decide) ?_
      refine n_icmp_gt (a := y) (b := 1000) (tgt := 38) hx hb (by omega) (by omega) dX1_momentsUntilCollision_12 (by decide) (fun c_12 => ?_) (fun c_12 => ?_)
      · refine lv_iconst (v := (-1)) hx hb dX1_momentsUntilCollision_38 (by decide) ?_
        refine n_ti (y := (oI (fnd (fun z => colB v i j (now + z)) 1 1000))) (by rw [← hf, show 1001 - y = 0 by omega]; rfl) ?_
        exact W.iret (v := (oI (fnd (fun z => colB v i j (now + z)) 1 1000))) hx hb hr (fun t ht hW => ⟨rfl, ht⟩) (fun _ h => by cases h) dX1_momentsUntilCollision_39
      · refine lv_aload_n hx hb dX1_momentsUntilCollision_15 rfl (lv_at hl 1 rfl) ?_
        refine lv_iload_n hx hb dX1_momentsUntilCollision_16 rfl (lv_at hl 2 rfl) ?_
        refine lv_iload_n hx hb dX1_momentsUntilCollision_17 rfl (lv_at hl 3 rfl) ?_
        refine lv_aload_n hx hb dX1_momentsUntilCollision_18 rfl (lv_at hl 1 rfl) ?_
        refine va_get (D := D) (ci := 1) (v := .int (nI now)) (C := RX1) (T := TX1) (N := 5) hx hb hts hin1 hown hK hP0 0 rfl rfl 3 (by decide) (hts (.fieldLink RX1 73 "LanternPrimes" "present" "I") (List.mem_of_getElem? (i := 1) rfl)) (fun _ h9 => h9) rfl dX1_momentsUntilCollision_19 ?_
        refine lv_iload_n hx hb dX1_momentsUntilCollision_22 rfl (lv_at hl 0 rfl) ?_
        refine n_iadd (v := nI (now + y)) hx hb dX1_momentsUntilCollision_23 (nI_add _ _) ?_
        refine rV (r := bI (colB v i j (now + y))) (As := [.int (nI i), .int (nI j), .int (nI (now + y))]) (rest := []) ⟨hx, hb, hml, hown, hts⟩ (c_X1_collideAt l D cI cZ cL cJ ad n now told v ⟨hn8, hnow, hwl⟩ i j (now + y) hi hj (by omega)) (cwV 3 hts gX1_momentsUntilCollision_X1_collideAt rfl rfl rfl (by decide +kernel) ⟨(Nat.le_of_ble_eq_true rfl), (Nat.le_of_ble_eq_true rfl)⟩) hK hE ⟨hP0, hPL⟩ (RC_of (q := (RX1, TX1, 5)) (ci := 1) hK rfl (vpa hP0 0 rfl)) rfl hl.1 rfl (Nat.le_of_ble_eq_true rfl) dX1_momentsUntilCollision_24 ⟨(Nat.le_of_ble_eq_true rfl), (Nat.le_of_ble_eq_true rfl)⟩ ?_
        refine b_if_eq (b := colB v i j (now + y)) (tgt := 32) hx hb dX1_momentsUntilCollision_27 (by decide) (fun c_27 => ?_) (fun c_27 => ?_)
        · refine lv_iinc (v := nI (y + 1)) (lv' := [(3, .int (nI (y + 1))), (0, .ref (ad 0)), (1, .int (nI i)), (2, .int (nI j))]) hx hb dX1_momentsUntilCollision_32 hl (k := 0) rfl (nI_inc _) (by decide) rfl (fun ls hl => ?_)
          refine lv_goto (tgt := 8) hx hb dX1_momentsUntilCollision_35 (by decide) ?_
          exact ih_8 (y + 1) (by omega) (by omega) (by omega) (by rw [← hf, fnd_f (f := (fun z => colB v i j (now + z))) (lo := y) c_27 (by omega), show 1001 - y - 1 = 1001 - (y + 1) by omega]) ls (lv_sub hl [0, 1, 2, 3] rfl)
        · refine lv_iload_n hx hb dX1_momentsUntilCollision_30 rfl (lv_at hl 0 rfl) ?_
          refine n_ti (y := (oI (fnd (fun z => colB v i j (now + z)) 1 1000))) (by rw [← hf, fnd_t (f := (fun z => colB v i j (now + z))) (lo := y) c_27 (by omega)]; rfl) ?_
          exact W.iret (v := (oI (fnd (fun z => colB v i j (now + z)) 1 1000))) hx hb hr (fun t ht hW => ⟨rfl, ht⟩) (fun _ h => by cases h) dX1_momentsUntilCollision_31
  exact loop_8 1002 1 (by omega) (by omega) (by omega) rfl ls (lv_sub hl [0, 1, 2, 3] rfl)
set_option maxHeartbeats 4000000 in
set_option maxRecDepth 100000 in
/-- collisionsWithin -/
theorem e_X1_collisionsWithin (l : Launch) (D : va_G) (cI cZ cL cJ : ClassId) (ad : Nat → Nat) (n now : Nat) (told : Int32) (v : Nat → LV) (hwf : WFX n now v) (i j : Nat) (hi : i < n) (hj : j < n) (hij : ¬ i = j) (y : Nat) (hy1 : 1 ≤ y) (hy2 : y ≤ 500) : Met l yX1_collisionsWithin wsX1_collisionsWithin ({ frames := 3, cells := 0, slots := 0, locals := 67 } : Room) (PC D (TY cI cZ cL cJ) noA [.ref (ad 0), .int (nI i), .int (nI j), .int (nI y)] (fun H => PX D cI cL ad n now told v H)) (QcRead (nI (cnt (fun s => colB v i j (now + (s + 1))) y))) 0 0 (fun _ => False) := by
  refine Met.ofW (cc := cX1_collisionsWithin) (maxL := 6) (ret := (some .int)) (by decide) rfl ?_
  intro p e s m args below meth c s₁ B hml hv
  obtain ⟨rfl, hK, hE, hP0, hPL⟩ := hv
  obtain ⟨hn8, hnow, hwl⟩ := hwf
  have hx := B.exec
  have hb := B.bytes
  have hr := B.returns
  have hts := atoms_spec (ws := wsX1_collisionsWithin) B.pre
  have hown : s.vm.findClass RX1 = some m.cls := findClass_of_methodNamed B.named
  have hlocks := B.notSynchronized
  have hNF := hE.2.1.1
  have hin0 : ∀ w ∈ wsX00, w ∈ wsX1_collisionsWithin := by decide +kernel
  have hin1 : ∀ w ∈ wsX10, w ∈ wsX1_collisionsWithin := by decide +kernel
  have hl := lv_entry ([.ref (ad 0), .int (nI i), .int (nI j), .int (nI y)]) (n := 6) (Nat.le_of_ble_eq_true rfl)
  rw [lg_entry_eq]
  generalize (lg_sl ([.ref (ad 0), .int (nI i), .int (nI j), .int (nI y)]) ++ List.replicate (6 - (lg_sl ([.ref (ad 0), .int (nI i), .int (nI j), .int (nI y)])).length) Slot.unset).toArray = ls at hl ⊢
  have hl : lv_has ls 6 [(0, .ref (ad 0)), (1, .int (nI i)), (2, .int (nI j)), (3, .int (nI y))] := hl
  refine lv_aload_n hx hb dX1_collisionsWithin_0 rfl (lv_at hl 0 rfl) ?_
  refine lv_iload_n hx hb dX1_collisionsWithin_1 rfl (lv_at hl 1 rfl) ?_
  refine lv_iload_n hx hb dX1_collisionsWithin_2 rfl (lv_at hl 2 rfl) ?_
  refine rVn (As := [.int (nI i), .int (nI j)]) (rest := []) ⟨hx, hb, hml, hown, hts⟩ (e_X1_needPair l D cI cZ cL cJ ad n now told v ⟨hn8, hnow, hwl⟩ i j hi hj hij) (cwV 2 hts gX1_collisionsWithin_X1_needPair rfl rfl rfl (by decide +kernel) ⟨(Nat.le_of_ble_eq_true rfl), (Nat.le_of_ble_eq_true rfl)⟩) hK hE ⟨hP0, hPL⟩ (RC_of (q := (RX1, TX1, 5)) (ci := 1) hK rfl (vpa hP0 0 rfl)) rfl hl.1 rfl (Nat.le_of_ble_eq_true rfl) dX1_collisionsWithin_3 ⟨(Nat.le_of_ble_eq_true rfl), (Nat.le_of_ble_eq_true rfl)⟩ ?_
  refine lv_iload_n hx hb dX1_collisionsWithin_6 rfl (lv_at hl 3 rfl) ?_
  refine lv_sipush (v := nI 500) hx hb dX1_collisionsWithin_7 (by decide) ?_
  refine rSn (As := [.int (nI y), .int (nI 500)]) (rest := []) ⟨hx, hb, hml, hown, hts⟩ (e_X1_needMoments l D cI cZ cL cJ y 500 hy1 hy2 (by omega)) (va_cwS 2 hts gX1_collisionsWithin_X1_needMoments rfl rfl rfl (by decide +kernel) ⟨(Nat.le_of_ble_eq_true rfl), (Nat.le_of_ble_eq_true rfl)⟩) hK hE trivial rfl hl.1 rfl (Nat.le_of_ble_eq_true rfl) dX1_collisionsWithin_10 ⟨(Nat.le_of_ble_eq_true rfl), (Nat.le_of_ble_eq_true rfl)⟩ ?_
  refine lv_iconst (v := nI 0) hx hb dX1_collisionsWithin_13 (by decide) ?_
  refine lv_istore (lv' := [(4, .int (nI 0)), (0, .ref (ad 0)), (1, .int (nI i)), (2, .int (nI j)), (3, .int (nI y))]) hx hb dX1_collisionsWithin_14 hl (by decide) rfl (fun ls hl => ?_)
  refine lv_iconst (v := nI 1) hx hb dX1_collisionsWithin_16 (by decide) ?_
  refine lv_istore (lv' := [(5, .int (nI 1)), (4, .int (nI 0)), (0, .ref (ad 0)), (1, .int (nI i)), (2, .int (nI j)), (3, .int (nI y))]) hx hb dX1_collisionsWithin_17 hl (by decide) rfl (fun ls hl => ?_)
  have loop_19 : ∀ (fu : Nat) (r : Nat), y + 1 - r ≤ fu → r ≤ y → ∀ (ls : Array Slot), lv_has ls 6 [(5, .int (nI (r + 1))), (4, .int (nI (cnt (fun s => colB v i j (now + (s + 1))) r))), (0, .ref (ad 0)), (1, .int (nI i)), (2, .int (nI j)), (3, .int (nI y))] → W p l e (headSpec wsX1_collisionsWithin ({ frames := 3, cells := 0, slots := 0, locals := 67 } : Room)).room s m [.ref (ad 0), .int (nI i), .int (nI j), .int (nI y)].toArray below meth c s.heap [] 0 0 (MQ below (QcRead (nI (cnt (fun s => colB v i j (now + (s + 1))) y))) [.ref (ad 0), .int (nI i), .int (nI j), .int (nI y)].toArray s 0 0 (fun _ => False)) (F0 m 19 ls []) := by
    intro fu
    induction fu with
    | zero => intro r hn_19 hr9; exact absurd hn_19 (by omega)
    | succ fu ih_19 =>
      intro r hn_19 hr9 ls hl
      refine lv_iload hx hb dX1_collisionsWithin_19 (lv_at hl 0 rfl) ?_
      refine lv_iload_n hx hb dX1_collisionsWithin_21 rfl (lv_at hl 5 rfl) ?_
      refine n_icmp_gt (a := r + 1) (b := y) (tgt := 50) hx hb (by omega) (by omega) dX1_collisionsWithin_22 (by decide) (fun c_22 => ?_) (fun c_22 => ?_)
      · refine lv_iload hx hb dX1_collisionsWithin_50 (lv_at hl 1 rfl) ?_
        refine n_ti (y := nI (cnt (fun s => colB v i j (now + (s + 1))) y)) (by rw [show r = y by omega]) ?_
        exact W.iret (v := nI (cnt (fun s => colB v i j (now + (s + 1))) y)) hx hb hr (fun t ht hW => ⟨rfl, ht⟩) (fun _ h => by cases h) dX1_collisionsWithin_52
      · refine lv_aload_n hx hb dX1_collisionsWithin_25 rfl (lv_at hl 2 rfl) ?_
        refine lv_iload_n hx hb dX1_collisionsWithin_26 rfl (lv_at hl 3 rfl) ?_
        refine lv_iload_n hx hb dX1_collisionsWithin_27 rfl (lv_at hl 4 rfl) ?_
        refine lv_aload_n hx hb dX1_collisionsWithin_28 rfl (lv_at hl 2 rfl) ?_
        refine va_get (D := D) (ci := 1) (v := .int (nI now)) (C := RX1) (T := TX1) (N := 5) hx hb hts hin1 hown hK hP0 0 rfl rfl 3 (by decide) (hts (.fieldLink RX1 73 "LanternPrimes" "present" "I") (List.mem_of_getElem? (i := 1) rfl)) (fun _ h9 => h9) rfl dX1_collisionsWithin_29 ?_
        refine lv_iload hx hb dX1_collisionsWithin_32 (lv_at hl 0 rfl) ?_
        refine n_iadd (v := nI (now + (r + 1))) hx hb dX1_collisionsWithin_34 (nI_add _ _) ?_
        refine rV (r := bI (colB v i j (now + (r + 1)))) (As := [.int (nI i), .int (nI j), .int (nI (now + (r + 1)))]) (rest := []) ⟨hx, hb, hml, hown, hts⟩ (c_X1_collideAt l D cI cZ cL cJ ad n now told v ⟨hn8, hnow, hwl⟩ i j (now + (r + 1)) hi hj (by omega)) (cwV 3 hts gX1_collisionsWithin_X1_collideAt rfl rfl rfl (by decide +kernel) ⟨(Nat.le_of_ble_eq_true rfl), (Nat.le_of_ble_eq_true rfl)⟩) hK hE ⟨hP0, hPL⟩ (RC_of (q := (RX1, TX1, 5)) (ci := 1) hK rfl (vpa hP0 0 rfl)) rfl hl.1 rfl (Nat.le_of_ble_eq_true rfl) dX1_collisionsWithin_35 ⟨(Nat.le_of_ble_eq_true rfl), (Nat.le_of_ble_eq_true rfl)⟩ ?_
        refine b_if_eq (b := colB v i j (now + (r + 1))) (tgt := 44) hx hb dX1_collisionsWithin_38 (by decide) (fun c_38 => ?_) (fun c_38 => ?_)
        · have e_1 : cnt (fun s => colB v i j (now + (s + 1))) (r + 1) = cnt (fun s => colB v i j (now + (s + 1))) r := cnt_f (f := (fun s => colB v i j (now + (s + 1)))) c_38
          rw [← e_1] at hl
          refine lv_iinc (v := nI ((r + 1) + 1)) (lv' := [(5, .int (nI ((r + 1) + 1))), (4, .int (nI (cnt (fun s => colB v i j (now + (s + 1))) (r + 1)))), (0, .ref (ad 0)), (1, .int (nI i)), (2, .int (nI j)), (3, .int (nI y))]) hx hb dX1_collisionsWithin_44 hl (k := 0) rfl (nI_inc _) (by decide) rfl (fun ls hl => ?_)
          refine lv_goto (tgt := 19) hx hb dX1_collisionsWithin_47 (by decide) ?_
          exact ih_19 (r + 1) (by omega) (by omega) ls (lv_sub hl [0, 1, 2, 3, 4, 5] rfl)
        · have e_1 : cnt (fun s => colB v i j (now + (s + 1))) (r + 1) = cnt (fun s => colB v i j (now + (s + 1))) r + 1 := cnt_t (f := (fun s => colB v i j (now + (s + 1)))) c_38
          refine lv_iinc (v := nI (cnt (fun s => colB v i j (now + (s + 1))) (r + 1))) (lv' := [(4, .int (nI (cnt (fun s => colB v i j (now + (s + 1))) (r + 1)))), (5, .int (nI (r + 1))), (0, .ref (ad 0)), (1, .int (nI i)), (2, .int (nI j)), (3, .int (nI y))]) hx hb dX1_collisionsWithin_41 hl (k := 1) rfl (by rw [e_1]; exact nI_inc _) (by decide) rfl (fun ls hl => ?_)
          refine lv_iinc (v := nI ((r + 1) + 1)) (lv' := [(5, .int (nI ((r + 1) + 1))), (4, .int (nI (cnt (fun s => colB v i j (now + (s + 1))) (r + 1)))), (0, .ref (ad 0)), (1, .int (nI i)), (2, .int (nI j)), (3, .int (nI y))]) hx hb dX1_collisionsWithin_44 hl (k := 1) rfl (nI_inc _) (by decide) rfl (fun ls hl => ?_)
          refine lv_goto (tgt := 19) hx hb dX1_collisionsWithin_47 (by decide) ?_
          exact ih_19 (r + 1) (by omega) (by omega) ls (lv_sub hl [0, 1, 2, 3, 4, 5] rfl)
  exact loop_19 (y + 1) 0 (by omega) (Nat.zero_le _) ls (lv_sub hl [0, 1, 2, 3, 4, 5] rfl)
set_option maxHeartbeats 4000000 in
set_option maxRecDepth 100000 in
/-- darkWithin -/
theorem e_X1_darkWithin (l : Launch) (D : va_G) (cI cZ cL cJ : ClassId) (ad : Nat → Nat) (n now : Nat) (told : Int32) (v : Nat → LV) (hwf : WFX n now v) (y : Nat) (hy1 : 1 ≤ y) (hy2 : y ≤ 500) : Met l yX1_darkWithin wsX1_darkWithin ({ frames := 5, cells := 0, slots := 0, locals := 113 } : Room) (PC D (TY cI cZ cL cJ) noA [.ref (ad 0), .int (nI y)] (fun H => PX D cI cL ad n now told v H)) (QcRead (nI (dkN v n now (-1) y))) 0 0 (fun _ => False) := by
  refine Met.ofW (cc := cX1_darkWithin) (maxL := 2) (ret := (some .int)) (by decide) rfl ?_
  intro p e s m args below meth c s₁ B hml hv
  obtain ⟨rfl, hK, hE, hP0, hPL⟩ := hv
  obtain ⟨hn8, hnow, hwl⟩ := hwf
  have hx := B.exec
  have hb := B.bytes
  have hr := B.returns
  have hts := atoms_spec (ws := wsX1_darkWithin) B.pre
  have hown : s.vm.findClass RX1 = some m.cls := findClass_of_methodNamed B.named
  have hlocks := B.notSynchronized
  have hNF := hE.2.1.1
  have hin0 : ∀ w ∈ wsX00, w ∈ wsX1_darkWithin := by decide +kernel
  have hin1 : ∀ w ∈ wsX10, w ∈ wsX1_darkWithin := by decide +kernel
  have hl := lv_entry ([.ref (ad 0), .int (nI y)]) (n := 2) (Nat.le_of_ble_eq_true rfl)
  rw [lg_entry_eq]
  generalize (lg_sl ([.ref (ad 0), .int (nI y)]) ++ List.replicate (2 - (lg_sl ([.ref (ad 0), .int (nI y)])).length) Slot.unset).toArray = ls at hl ⊢
  have hl : lv_has ls 2 [(0, .ref (ad 0)), (1, .int (nI y))] := hl
  refine lv_iload_n hx hb dX1_darkWithin_0 rfl (lv_at hl 1 rfl) ?_
  refine lv_sipush (v := nI 500) hx hb dX1_darkWithin_1 (by decide) ?_
  refine rSn (As := [.int (nI y), .int (nI 500)]) (rest := []) ⟨hx, hb, hml, hown, hts⟩ (e_X1_needMoments l D cI cZ cL cJ y 500 hy1 hy2 (by omega)) (va_cwS 2 hts gX1_darkWithin_X1_needMoments rfl rfl rfl (by decide +kernel) ⟨(Nat.le_of_ble_eq_true rfl), (Nat.le_of_ble_eq_true rfl)⟩) hK hE trivial rfl hl.1 rfl (Nat.le_of_ble_eq_true rfl) dX1_darkWithin_4 ⟨(Nat.le_of_ble_eq_true rfl), (Nat.le_of_ble_eq_true rfl)⟩ ?_
  refine lv_aload_n hx hb dX1_darkWithin_7 rfl (lv_at hl 0 rfl) ?_
  refine lv_iload_n hx hb dX1_darkWithin_8 rfl (lv_at hl 1 rfl) ?_
  refine lv_iconst (v := (-1)) hx hb dX1_darkWithin_9 (by decide) ?_
  refine rV (r := nI (dkN v n now (-1) y)) (As := [.int (nI y), .int (-1)]) (rest := []) ⟨hx, hb, hml, hown, hts⟩ (c_X1_darkMoments l D cI cZ cL cJ ad n now told v ⟨hn8, hnow, hwl⟩ y hy2 (-1)) (cwV 2 hts gX1_darkWithin_X1_darkMoments rfl rfl rfl (by decide +kernel) ⟨(Nat.le_of_ble_eq_true rfl), (Nat.le_of_ble_eq_true rfl)⟩) hK hE ⟨hP0, hPL⟩ (RC_of (q := (RX1, TX1, 5)) (ci := 1) hK rfl (vpa hP0 0 rfl)) rfl hl.1 rfl (Nat.le_of_ble_eq_true rfl) dX1_darkWithin_10 ⟨(Nat.le_of_ble_eq_true rfl), (Nat.le_of_ble_eq_true rfl)⟩ ?_
  exact W.iret (v := nI (dkN v n now (-1) y)) hx hb hr (fun t ht hW => ⟨rfl, ht⟩) (fun _ h => by cases h) dX1_darkWithin_13
set_option maxHeartbeats 4000000 in
set_option maxRecDepth 100000 in
/-- bestCover -/
theorem e_X1_bestCover (l : Launch) (D : va_G) (cI cZ cL cJ : ClassId) (ad : Nat → Nat) (n now : Nat) (told : Int32) (v : Nat → LV) (hwf : WFX n now v) (y : Nat) (hy1 : 1 ≤ y) (hy2 : y ≤ 200) : Met l yX1_bestCover wsX1_bestCover ({ frames := 5, cells := 0, slots := 0, locals := 113 } : Room) (PC D (TY cI cZ cL cJ) noA [.ref (ad 0), .int (nI y)] (fun H => PX D cI cL ad n now told v H)) (QcRead ((oI1 (bcvN v n now y n)))) 0 0 (fun _ => False) := by
  refine Met.ofW (cc := cX1_bestCover) (maxL := 6) (ret := (some .int)) (by decide) rfl ?_
  intro p e s m args below meth c s₁ B hml hv
  obtain ⟨rfl, hK, hE, hP0, hPL⟩ := hv
  obtain ⟨hn8, hnow, hwl⟩ := hwf
  have hx := B.exec
  have hb := B.bytes
  have hr := B.returns
  have hts := atoms_spec (ws := wsX1_bestCover) B.pre
  have hown : s.vm.findClass RX1 = some m.cls := findClass_of_methodNamed B.named
  have hlocks := B.notSynchronized
  have hNF := hE.2.1.1
  have hin0 : ∀ w ∈ wsX00, w ∈ wsX1_bestCover := by decide +kernel
  have hin1 : ∀ w ∈ wsX10, w ∈ wsX1_bestCover := by decide +kernel
  have hl := lv_entry ([.ref (ad 0), .int (nI y)]) (n := 6) (Nat.le_of_ble_eq_true rfl)
  rw [lg_entry_eq]
  generalize (lg_sl ([.ref (ad 0), .int (nI y)]) ++ List.replicate (6 - (lg_sl ([.ref (ad 0), .int (nI y)])).length) Slot.unset).toArray = ls at hl ⊢
  have hl : lv_has ls 6 [(0, .ref (ad 0)), (1, .int (nI y))] := hl
  refine lv_iload_n hx hb dX1_bestCover_0 rfl (lv_at hl 1 rfl) ?_
  refine lv_sipush (v := nI 200) hx hb dX1_bestCover_1 (by decide) ?_
  refine rSn (As := [.int (nI y), .int (nI 200)]) (rest := []) ⟨hx, hb, hml, hown, hts⟩ (e_X1_needMoments l D cI cZ cL cJ y 200 hy1 hy2 (by omega)) (va_cwS 2 hts gX1_bestCover_X1_needMoments rfl rfl rfl (by decide +kernel) ⟨(Nat.le_of_ble_eq_true rfl), (Nat.le_of_ble_eq_true rfl)⟩) hK hE trivial rfl hl.1 rfl (Nat.le_of_ble_eq_true rfl) dX1_bestCover_4 ⟨(Nat.le_of_ble_eq_true rfl), (Nat.le_of_ble_eq_true rfl)⟩ ?_
  refine lv_iconst (v := (-1)) hx hb dX1_bestCover_7 (by decide) ?_
  refine lv_istore_n (lv' := [(2, .int (-1)), (0, .ref (ad 0)), (1, .int (nI y))]) hx hb dX1_bestCover_8 rfl hl (by decide) rfl (fun ls hl => ?_)
  refine lv_iconst (v := (-1)) hx hb dX1_bestCover_9 (by decide) ?_
  refine lv_istore_n (lv' := [(3, .int (-1)), (2, .int (-1)), (0, .ref (ad 0)), (1, .int (nI y))]) hx hb dX1_bestCover_10 rfl hl (by decide) rfl (fun ls hl => ?_)
  refine lv_iconst (v := nI 0) hx hb dX1_bestCover_11 (by decide) ?_
  refine lv_istore (lv' := [(4, .int (nI 0)), (3, .int (-1)), (2, .int (-1)), (0, .ref (ad 0)), (1, .int (nI y))]) hx hb dX1_bestCover_12 hl (by decide) rfl (fun ls hl => ?_)
  have loop_14 : ∀ (fu : Nat) (j : Nat), n + 1 - j ≤ fu → j ≤ n → ∀ (ls : Array Slot), lv_has ls 6 [(4, .int (nI j)), (3, .int (oI2 (bcvN v n now y j))), (2, .int (oI1 (bcvN v n now y j))), (0, .ref (ad 0)), (1, .int (nI y))] → W p l e (headSpec wsX1_bestCover ({ frames := 5, cells := 0, slots := 0, locals := 113 } : Room)).room s m [.ref (ad 0), .int (nI y)].toArray below meth c s.heap [] 0 0 (MQ below (QcRead ((oI1 (bcvN v n now y n)))) [.ref (ad 0), .int (nI y)].toArray s 0 0 (fun _ => False)) (F0 m 14 ls []) := by
    intro fu
    induction fu with
    | zero => intro j hn_14 hj; exact absurd hn_14 (by omega)
    | succ fu ih_14 =>
      intro j hn_14 hj ls hl
      refine lv_iload hx hb dX1_bestCover_14 (lv_at hl 0 rfl) ?_
      refine lv_aload_n hx hb dX1_bestCover_16 rfl (lv_at hl 3 rfl) ?_
      refine va_get (D := D) (ci := 1) (v := .int (nI n)) (C := RX1) (T := TX1) (N := 5) hx hb hts hin1 hown hK hP0 0 rfl rfl 2 (by decide) (hts (.fieldLink RX1 20 "LanternPrimes" "lampCount" "I") (List.mem_of_getElem? (i := 1) rfl)) (fun _ h9 => h9) rfl dX1_bestCover_17 ?_
      refine n_icmp_ge (a := j) (b := n) (tgt := 63) hx hb (by omega) (by omega) dX1_bestCover_20 (by decide) (fun c_20 => ?_) (fun c_20 => ?_)
      · refine lv_iload_n hx hb dX1_bestCover_63 rfl (lv_at hl 2 rfl) ?_
        refine n_ti (y := (oI1 (bcvN v n now y n))) (by rw [show j = n by omega]) ?_
        exact W.iret (v := (oI1 (bcvN v n now y n))) hx hb hr (fun t ht hW => ⟨rfl, ht⟩) (fun _ h => by cases h) dX1_bestCover_64
      · refine lv_aload_n hx hb dX1_bestCover_23 rfl (lv_at hl 3 rfl) ?_
        refine va_get (D := D) (ci := 1) (v := .ref (ad 1)) (C := RX1) (T := TX1) (N := 5) hx hb hts hin1 hown hK hP0 0 rfl rfl 0 (by decide) (hts (.fieldLink RX1 11 "LanternPrimes" "row" "[LLanternPrimes$Lamp;") (List.mem_of_getElem? (i := 2) rfl)) (fun _ h9 => h9) rfl dX1_bestCover_24 ?_
        refine lv_iload hx hb dX1_bestCover_27 (lv_at hl 0 rfl) ?_
        refine n_aald (v := ad (2 + 3 * j)) (j := j) hx hb hK hP0 1 2 rfl rfl (by omega) (by decide) rfl dX1_bestCover_29 ?_
        have hPj := hPL j (by omega)
        refine va_getN (D := D) (ci := 0) (v := .int (bI (lcv (v j)))) (C := RX0) (T := TX0) (N := 5) hx hb hts hin0 hown hK hPj 0 rfl rfl 4 (by decide) (va_Nw.use rfl (hNF _ (List.mem_of_getElem? (i := 4) rfl))) (fun _ h9 => h9) rfl dX1_bestCover_30 ?_
        refine b_if_ne (b := lcv (v j)) (tgt := 57) hx hb dX1_bestCover_33 (by decide) (fun c_33 => ?_) (fun c_33 => ?_)
        · have e_1 : bcvN v n now y (j + 1) = bcvN v n now y j := by simp only [bcvN]; rw [if_pos c_33]
          refine lv_iinc (v := nI (j + 1)) (lv' := [(4, .int (nI (j + 1))), (3, .int (oI2 (bcvN v n now y j))), (2, .int (oI1 (bcvN v n now y j))), (0, .ref (ad 0)), (1, .int (nI y))]) hx hb dX1_bestCover_57 hl (k := 0) rfl (nI_inc _) (by decide) rfl (fun ls hl => ?_)
          refine lv_goto (tgt := 14) hx hb dX1_bestCover_60 (by decide) ?_
          exact ih_14 (j + 1) (by omega) (by omega) ls (by rw [e_1]; exact (lv_sub hl [0, 1, 2, 3, 4] rfl))
        · refine lv_aload_n hx hb dX1_bestCover_36 rfl (lv_at hl 3 rfl) ?_
          refine lv_iload_n hx hb dX1_bestCover_37 rfl (lv_at hl 4 rfl) ?_
          refine lv_iload hx hb dX1_bestCover_38 (lv_at hl 0 rfl) ?_
          refine rV (r := nI (dkN v n now (nI j) y)) (As := [.int (nI y), .int (nI j)]) (rest := []) ⟨hx, hb, hml, hown, hts⟩ (c_X1_darkMoments l D cI cZ cL cJ ad n now told v ⟨hn8, hnow, hwl⟩ y (by omega) (nI j)) (cwV 2 hts gX1_bestCover_X1_darkMoments rfl rfl rfl (by decide +kernel) ⟨(Nat.le_of_ble_eq_true rfl), (Nat.le_of_ble_eq_true rfl)⟩) hK hE ⟨hP0, hPL⟩ (RC_of (q := (RX1, TX1, 5)) (ci := 1) hK rfl (vpa hP0 0 rfl)) rfl hl.1 rfl (Nat.le_of_ble_eq_true rfl) dX1_bestCover_40 ⟨(Nat.le_of_ble_eq_true rfl), (Nat.le_of_ble_eq_true rfl)⟩ ?_
          refine lv_istore (lv' := [(5, .int (nI (dkN v n now (nI j) y))), (4, .int (nI j)), (3, .int (oI2 (bcvN v n now y j))), (2, .int (oI1 (bcvN v n now y j))), (0, .ref (ad 0)), (1, .int (nI y))]) hx hb dX1_bestCover_43 hl (by decide) rfl (fun ls hl => ?_)
          refine lv_iload hx hb dX1_bestCover_45 (lv_at hl 0 rfl) ?_
          refine lv_iload_n hx hb dX1_bestCover_47 rfl (lv_at hl 2 rfl) ?_
          refine lv_icmp_le (tgt := 57) hx hb dX1_bestCover_48 (by decide) (fun c_48 => ?_) (fun c_48 => ?_)
          · have e_1 : bcvN v n now y (j + 1) = bcvN v n now y j := bcv_le (by omega) c_33 c_48
            refine lv_iinc (v := nI (j + 1)) (lv' := [(4, .int (nI (j + 1))), (5, .int (nI (dkN v n now (nI j) y))), (3, .int (oI2 (bcvN v n now y j))), (2, .int (oI1 (bcvN v n now y j))), (0, .ref (ad 0)), (1, .int (nI y))]) hx hb dX1_bestCover_57 hl (k := 1) rfl (nI_inc _) (by decide) rfl (fun ls hl => ?_)
            refine lv_goto (tgt := 14) hx hb dX1_bestCover_60 (by decide) ?_
            exact ih_14 (j + 1) (by omega) (by omega) ls (by rw [e_1]; exact (lv_sub hl [0, 2, 3, 4, 5] rfl))
          · have e_1 : bcvN v n now y (j + 1) = some (j, dkN v n now (nI j) y) := bcv_gt (by omega) c_33 c_48
            refine lv_iload hx hb dX1_bestCover_51 (lv_at hl 0 rfl) ?_
            refine lv_istore_n (lv' := [(3, .int (nI (dkN v n now (nI j) y))), (5, .int (nI (dkN v n now (nI j) y))), (4, .int (nI j)), (2, .int (oI1 (bcvN v n now y j))), (0, .ref (ad 0)), (1, .int (nI y))]) hx hb dX1_bestCover_53 rfl hl (by decide) rfl (fun ls hl => ?_)
            refine lv_iload hx hb dX1_bestCover_54 (lv_at hl 2 rfl) ?_
            refine lv_istore_n (lv' := [(2, .int (nI j)), (3, .int (nI (dkN v n now (nI j) y))), (5, .int (nI (dkN v n now (nI j) y))), (4, .int (nI j)), (0, .ref (ad 0)), (1, .int (nI y))]) hx hb dX1_bestCover_56 rfl hl (by decide) rfl (fun ls hl => ?_)
            refine lv_iinc (v := nI (j + 1)) (lv' := [(4, .int (nI (j + 1))), (2, .int (nI j)), (3, .int (nI (dkN v n now (nI j) y))), (5, .int (nI (dkN v n now (nI j) y))), (0, .ref (ad 0)), (1, .int (nI y))]) hx hb dX1_bestCover_57 hl (k := 3) rfl (nI_inc _) (by decide) rfl (fun ls hl => ?_)
            refine lv_goto (tgt := 14) hx hb dX1_bestCover_60 (by decide) ?_
            exact ih_14 (j + 1) (by omega) (by omega) ls (by rw [e_1]; exact (lv_sub hl [0, 2, 1, 4, 5] rfl))
  exact loop_14 (n + 1) 0 (by omega) (Nat.zero_le _) ls (lv_sub hl [0, 1, 2, 3, 4] rfl)
