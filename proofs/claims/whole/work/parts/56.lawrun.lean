set_option maxHeartbeats 8000000 in
set_option maxRecDepth 100000 in
/-- the law, from its entry to its end -/
theorem law_run {p : Program} {l : Launch} {e : Env} {s : State} {m : MethodId} {below : List Frame} {meth : Method} {c : Code} {Q : State → Prop} {b L : Nat} {xs : Nat → Int32} (hst : l.stackTraces = false) (hL : L ≤ 2048) (hx : p.tables.exec = Jvm.exec) (hb : c.code = cL_law) (hml : c.maxLocals = 9) (hown : s.vm.findClass RL = some m.cls) (hts0 : ∀ w ∈ lw_tbl, w.before #[Value.ref b] s = true) (hX : va_X b L xs s s.heap) (hbl : b < s.heap.size) (hgv : (Cond.and given_1 narrow_1).before #[Value.ref b] s = true) {ls : Array Slot} (hl : lv_has ls 9 [(0, .ref b)]) (kk : ∀ (H : Heap) (locs : List Loc) (ls : Array Slot), va_S (AH s) s.heap H locs → W p l e room_1 s m #[Value.ref b] below meth c H locs 668203 7091495 Q (F0 m 1890 ls [.int 1])) : W p l e room_1 s m #[Value.ref b] below meth c s.heap [] 0 0 Q (F0 m 0 ls []) := by
  have hE := entry_EN hts0 hgv
  obtain ⟨D, cI, cZ, cL, cJ, hK⟩ := entry_K hts0
  have hts : ∀ w ∈ wsL_law, w.before #[Value.ref b] s = true := fun w h => hts0 w (wsL_law_in w h)
  have hAO : va_AO "LanternPrimes$Lamp" s := va_AO.of (hts0 (.arrayOver (.object "LanternPrimes$Lamp")) (by decide +kernel))
  have hNI := hE.2.1.2
  have hP0 : ∀ H : Heap, va_P D vwCl [] H := fun H k q h => by cases h
  have hD0 : ∀ {A : Nat → Prop}, va_D A [] := ⟨fun i j q r h => (by cases h), fun k q h => (by cases h)⟩
  have hS1 : va_S (fun q : Nat => s.heap.size ≤ q) s.heap s.heap [] := va_S.rf
  refine va_new (ci := 1) (fs := [.null, .null, .int 0, .int 0, .int 0]) (C := RX1) (T := TX1) (N := 5) hx hb hts inlX1 tyX1 tyX1_ok hown (hts (.classLink RL 8 RX1) (by decide +kernel)) (hts (.instantiable RX1 5) (by decide +kernel)) (hts (.initialized RX1) (by decide +kernel)) hK (hP0 s.heap) hD0 hS1 (fun q h => h) rfl (fun j hj => by rcases (show j = 0 ∨ j = 1 ∨ j = 2 ∨ j = 3 ∨ j = 4 by omega) with rfl | rfl | rfl | rfl | rfl <;> rfl) (Nat.le_of_ble_eq_true rfl) (Nat.le_of_ble_eq_true rfl) dL_law_0 (fun a1 H hP hD hS1 => ?_)
  have hP : va_P D vwCl [(a1, .inr (1, [.null, .null, .int 0, .int 0, .int 0]))] H := hP
  have hz0 : s.heap.size ≤ H.size := hS1.1
  have hfr : s.heap.size ≤ a1 := hD.2 0 _ rfl
  have hfree : ∀ q, AN a1 H.size q → s.heap.size ≤ q := fun q h => h.elim (fun h => by rw [h]; exact hfr) (fun h => Nat.le_trans hS1.1 h)
  refine lv_dup hx hb dL_law_3 rfl ?_
  refine va_callv (va_runI (As := []) (rest := [.ref a1]) ⟨hx, hb, hml, hown, hts⟩ (c_X1_init l D cI cZ cL cJ a1 H.size) (cwI 0 hts gL_law_X1_init rfl rfl rfl (hts (.initialized RX1) (by decide +kernel)) (hts (.methodLink RL 93 yX1_init) (by decide +kernel)) (hts (.instanceMethod yX1_init) (by decide +kernel)) rfl (by decide +kernel) ⟨(Nat.le_of_ble_eq_true rfl), (Nat.le_of_ble_eq_true rfl)⟩) ⟨PN1_blind, fun U hU hW => ⟨⟨rfl, va_K.moved hW.alike hK, by rw [hU], by rw [hU]; exact hP⟩, va_AO.moved hW.alike hAO, va_Nw.warmM hW hNI⟩⟩ rfl rfl hl.1 rfl (lv_room (Nat.le_of_ble_eq_true rfl)) dL_law_4 ⟨(Nat.le_of_ble_eq_true rfl), (Nat.le_of_ble_eq_true rfl)⟩) hS1 (fun q _ h => hfree q h) hfree (fun ad t Ha locs ht hvm hu hB hz1 hk1 hS1 => ?_)
  have hB : PX D cI cL ad 0 0 (nI 0) (fun _ => L0) t.heap := hB
  rw [ht] at hB
  have hPX := hB
  obtain ⟨h00, hI29, hA29⟩ := hu
  have hSa : va_S (AH s) s.heap Ha [] := va_S_trans va_S.rf ⟨hS1.1, hS1.2.1, fun q h => by cases h⟩ (fun q h => h)
  have hadl := PX_lt hPX
  have hadg : ∀ i, i < 29 → s.heap.size ≤ ad i := fun i hi => (hA29 i hi).elim (fun h => by rw [h]; exact hfr) (fun h => by omega)
  refine va_forget hS1.2.2 ?_
  subst h00
  refine lv_astore_n (lv' := [(1, .ref (ad 0)), (0, .ref b)]) hx hb dL_law_7 rfl hl (by decide) rfl (fun ls hl => ?_)
  have hS1 : va_S (fun q : Nat => Ha.size ≤ q) Ha Ha [] := va_S.rf
  refine va_new (ci := 2) (fs := [.int 0, .int 0, .int 0, .int 0, .null, .null, .null, .null, .null]) (C := RX2) (T := TX2) (N := 9) hx hb hts inlX2 tyX2 tyX2_ok hown (hts (.classLink RL 94 RX2) (by decide +kernel)) (hts (.instantiable RX2 9) (by decide +kernel)) (hts (.initialized RX2) (by decide +kernel)) hK (hP0 Ha) hD0 hS1 (fun q h => h) rfl (fun j hj => by rcases (show j = 0 ∨ j = 1 ∨ j = 2 ∨ j = 3 ∨ j = 4 ∨ j = 5 ∨ j = 6 ∨ j = 7 ∨ j = 8 by omega) with rfl | rfl | rfl | rfl | rfl | rfl | rfl | rfl | rfl <;> rfl) (Nat.le_of_ble_eq_true rfl) (Nat.le_of_ble_eq_true rfl) dL_law_8 (fun a2 H hP hD hS1 => ?_)
  have hP : va_P D vwCl [(a2, .inr (2, [.int 0, .int 0, .int 0, .int 0, .null, .null, .null, .null, .null]))] H := hP
  have hz0 : Ha.size ≤ H.size := hS1.1
  have hfr : Ha.size ≤ a2 := hD.2 0 _ rfl
  have hfree : ∀ q, AN a2 H.size q → Ha.size ≤ q := fun q h => h.elim (fun h => by rw [h]; exact hfr) (fun h => Nat.le_trans hS1.1 h)
  refine lv_dup hx hb dL_law_11 rfl ?_
  refine va_callv (va_runI (As := []) (rest := [.ref a2]) ⟨hx, hb, hml, hown, hts⟩ (c_X2_init l D cI cZ cL cJ a2 H.size) (cwI 0 hts gL_law_X2_init rfl rfl rfl (hts (.initialized RX2) (by decide +kernel)) (hts (.methodLink RL 96 yX2_init) (by decide +kernel)) (hts (.instanceMethod yX2_init) (by decide +kernel)) rfl (by decide +kernel) ⟨(Nat.le_of_ble_eq_true rfl), (Nat.le_of_ble_eq_true rfl)⟩) ⟨PN_blind, fun U hU hW => ⟨rfl, va_K.moved hW.alike hK, by rw [hU], by rw [hU]; exact hP⟩⟩ rfl rfl hl.1 rfl (lv_room (Nat.le_of_ble_eq_true rfl)) dL_law_12 ⟨(Nat.le_of_ble_eq_true rfl), (Nat.le_of_ble_eq_true rfl)⟩) hS1 (fun q _ h => hfree q h) hfree (fun am t Hb locs ht hvm hu hB hz1 hk1 hS1 => ?_)
  have hB : PM D cI cZ am (nI 0) 0 0 (nI 0) (fun _ => L0) t.heap := hB
  rw [ht] at hB
  have hPM := hB
  obtain ⟨h00, hI6, hA6⟩ := hu
  have hSb : va_S (AH s) s.heap Hb [] := va_S_trans hSa ⟨hS1.1, hS1.2.1, fun q h => by cases h⟩ (fun q h => Nat.le_trans hSa.1 h)
  have hPX := PX_keep (A := fun q => Ha.size ≤ q) hPX (fun i hi => Nat.not_le.mpr (hadl i hi)) hS1.2.1
  have hamg : ∀ i, i < 6 → Ha.size ≤ am i := fun i hi => (hA6 i hi).elim (fun h => by rw [h]; exact hfr) (fun h => by omega)
  have haml := PM_lt hPM
  refine va_forget (fun q h => Nat.le_trans hSa.1 (hS1.2.2 q h)) ?_
  subst h00
  refine lv_astore_n (lv' := [(2, .ref (am 0)), (1, .ref (ad 0)), (0, .ref b)]) hx hb dL_law_15 rfl hl (by decide) rfl (fun ls hl => ?_)
  refine lv_iconst (v := nI 1) hx hb dL_law_16 (by decide) ?_
  have hS1 : va_S (fun q : Nat => Hb.size ≤ q) Hb Hb [] := va_S.rf
  refine va_newa (atype := .long) (N' := 1) (a0 := (1, .inr (.inl (fun _ => 0)))) hx hb (hts (.arrayClass .long) (by decide +kernel)) rfl hK (hP0 Hb) hD0 hS1 (fun q h => h) (fun _ => rfl) (by decide) (by decide +kernel) (Nat.le_of_ble_eq_true rfl) (Nat.le_of_ble_eq_true rfl) (Nat.le_of_ble_eq_true rfl) dL_law_17 (fun z cA Hc hKa hO hDz hS1 => ?_)
  rw [KJ hKa] at hO
  have hO : va_P D vwCl (outW cJ z (fun _ => 0)) Hc := hO
  have hzg : Hb.size ≤ z := hDz.2 0 _ rfl
  have hSc : va_S (AH s) s.heap Hc [] := va_S_trans hSb hS1 (fun q h => Nat.le_trans hSb.1 h)
  have hPX := PX_keep (A := fun q => Hb.size ≤ q) hPX (fun i hi => Nat.not_le.mpr (Nat.lt_of_lt_of_le (hadl i hi) (by omega))) hS1.2.1
  have hPM := PM_keep (A := fun q => Hb.size ≤ q) hPM (fun i hi => Nat.not_le.mpr (haml i hi)) hS1.2.1
  have hab : Ha.size ≤ Hb.size := by omega
  have hG : GG s ad am z := ⟨⟨hI29, hI6⟩, ⟨hadg, fun i hi => Nat.le_trans hSa.1 (hamg i hi), Nat.le_trans hSb.1 hzg⟩, fun i j hi hj h => by have := hadl i hi; have := hamg j hj; omega, fun i hi h => by have := hadl i hi; omega, fun j hj h => by have := haml j hj; omega⟩
  refine lv_astore_n (lv' := [(3, .ref z), (2, .ref (am 0)), (1, .ref (ad 0)), (0, .ref b)]) hx hb dL_law_19 rfl hl (by decide) rfl (fun ls hl => ?_)
  refine lv_iconst (v := nI 0) hx hb dL_law_20 (by decide) ?_
  refine lv_istore (lv' := [(4, .int (nI 0)), (3, .ref z), (2, .ref (am 0)), (1, .ref (ad 0)), (0, .ref b)]) hx hb dL_law_21 hl (by decide) rfl (fun ls hl => ?_)
  have loop_23 : ∀ (fu i n now : Nat) (told th : Int32) (v : Nat → LV) (f : Nat → Int64) (H : Heap) (locs : List Loc) (ls : Array Slot), 513 - i ≤ fu → i ≤ 512 → WFX n now v → now ≤ 500 * i → PX D cI cL ad n now told v H → PM D cI cZ am th n now told v H → va_P D vwCl (outW cJ z f) H → va_S (AH s) s.heap H locs → lv_has ls 9 [(4, .int (nI (4 * i))), (3, .ref z), (2, .ref (am 0)), (1, .ref (ad 0)), (0, .ref b)] → W p l e room_1 s m #[Value.ref b] below meth c H locs (36 + 4 * i) (300 + 24 * i) Q (F0 m 23 ls []) := by
    intro fu
    induction fu with
    | zero => intro i n now told th v f H locs ls hn hi9; exact absurd hn (by omega)
    | succ fu ih =>
      intro i n now told th v f H locs ls hn hi9 hwf hnow hPX hPM hO hS hl
      refine lv_iload hx hb dL_law_23 (lv_at hl 0 rfl) ?_
      refine lv_aload_n hx hb dL_law_25 rfl (lv_at hl 4 rfl) ?_
      refine va_slen hx hb hX hbl (Nat.not_le.mpr hbl) hS dL_law_26 ?_
      refine lv_iconst (v := nI 4) hx hb dL_law_27 (by decide) ?_
      refine n_isub (v := nI L - nI 4) hx hb dL_law_28 rfl ?_
      refine lv_icmp_gt (tgt := 1889) hx hb dL_law_29 (by decide) (fun c_29 => ?_) (fun c_29 => ?_)
      · refine lv_iconst (v := 1) hx hb dL_law_1889 (by decide) ?_
        refine W.widen (k := 668203) (n := 7091495) (by omega) (by omega) ?_
        exact kk H locs ls hS
      · have hi : 4 * i + 4 ≤ L := Classical.byContradiction (fun h => c_29 ((gt4 (by omega) hL).mpr h))
        have again : ∀ (n now : Nat) (told th : Int32) (v : Nat → LV) (f : Nat → Int64) (H : Heap) (locs : List Loc) (ls : Array Slot), WFX n now v → now ≤ 500 * (i + 1) → PX D cI cL ad n now told v H → PM D cI cZ am th n now told v H → va_P D vwCl (outW cJ z f) H → va_S (AH s) s.heap H locs → lv_has ls 9 [(4, .int (nI (4 * i))), (3, .ref z), (2, .ref (am 0)), (1, .ref (ad 0)), (0, .ref b)] → W p l e room_1 s m #[Value.ref b] below meth c H locs (36 + 4 * (i + 1)) (300 + 24 * (i + 1)) Q (F0 m 1883 ls []) := by
          intro n now told th v f H locs ls hwf hnow hPX hPM hO hS hl
          refine lv_iinc (v := nI (4 * (i + 1))) (lv' := [(4, .int (nI (4 * (i + 1)))), (3, .ref z), (2, .ref (am 0)), (1, .ref (ad 0)), (0, .ref b)]) hx hb dL_law_1883 hl (k := 0) rfl (nI_add (4 * i) 4) (by decide) rfl (fun ls hl => ?_)
          refine lv_goto (tgt := 23) hx hb dL_law_1886 (by decide) ?_
          exact ih (i + 1) n now told th v f H locs ls (by omega) (by omega) hwf hnow hPX hPM hO hS hl
        refine lv_aload_n hx hb dL_law_32 rfl (lv_at hl 4 rfl) ?_
        refine lv_iload hx hb dL_law_33 (lv_at hl 0 rfl) ?_
        refine n_sld (j := 4 * i) hx hb hX hbl (Nat.not_le.mpr hbl) hS (by omega) (by omega) dL_law_35 ?_
        refine lv_bipush (v := nI 31) hx hb dL_law_36 (by decide) ?_
        obtain ⟨k, hk, hke⟩ := and31 (xs (4 * i))
        refine n_iand (v := nI k) hx hb dL_law_38 hke ?_
        rcases (show k = 0 ∨ k = 1 ∨ k = 2 ∨ k = 3 ∨ k = 4 ∨ k = 5 ∨ k = 6 ∨ k = 7 ∨ k = 8 ∨ k = 9 ∨ k = 10 ∨ k = 11 ∨ k = 12 ∨ k = 13 ∨ k = 14 ∨ k = 15 ∨ k = 16 ∨ k = 17 ∨ k = 18 ∨ k = 19 ∨ k = 20 ∨ k = 21 ∨ k = 22 ∨ k = 23 ∨ k = 24 ∨ k = 25 ∨ k = 26 ∨ k = 27 ∨ k = 28 ∨ k = 29 ∨ k = 30 ∨ k = 31 by omega) with rfl | rfl | rfl | rfl | rfl | rfl | rfl | rfl | rfl | rfl | rfl | rfl | rfl | rfl | rfl | rfl | rfl | rfl | rfl | rfl | rfl | rfl | rfl | rfl | rfl | rfl | rfl | rfl | rfl | rfl | rfl | rfl
        · refine lv_tableIn (off := 141) (tgt := 180) hx hb dL_law_39 (by decide) (by decide) (by decide) (by decide) ?_
          exact kL_0 hst hL hx hb hml hown hts hX hbl hK hE hG hwf hnow hi hPX hPM hO hS hl again
        · refine lv_tableIn (off := 213) (tgt := 252) hx hb dL_law_39 (by decide) (by decide) (by decide) (by decide) ?_
          exact kL_1 hst hL hx hb hml hown hts hX hbl hK hE hG hwf hnow hi hPX hPM hO hS hl again
        · refine lv_tableIn (off := 293) (tgt := 332) hx hb dL_law_39 (by decide) (by decide) (by decide) (by decide) ?_
          exact kL_2 hst hL hx hb hml hown hts hX hbl hK hE hG hwf hnow hi hPX hPM hO hS hl again
        · refine lv_tableIn (off := 373) (tgt := 412) hx hb dL_law_39 (by decide) (by decide) (by decide) (by decide) ?_
          exact kL_3 hst hL hx hb hml hown hts hX hbl hK hE hG hwf hnow hi hPX hPM hO hS hl again
        · refine lv_tableIn (off := 441) (tgt := 480) hx hb dL_law_39 (by decide) (by decide) (by decide) (by decide) ?_
          exact kL_4 hst hL hx hb hml hown hts hX hbl hK hE hG hwf hnow hi hPX hPM hO hS hl again
        · refine lv_tableIn (off := 504) (tgt := 543) hx hb dL_law_39 (by decide) (by decide) (by decide) (by decide) ?_
          exact kL_5 hst hL hx hb hml hown hts hX hbl hK hE hG hwf hnow hi hPX hPM hO hS hl again
        · refine lv_tableIn (off := 560) (tgt := 599) hx hb dL_law_39 (by decide) (by decide) (by decide) (by decide) ?_
          exact kL_6 hst hL hx hb hml hown hts hX hbl hK hE hG hwf hnow hi hPX hPM hO hS hl again
        · refine lv_tableIn (off := 573) (tgt := 612) hx hb dL_law_39 (by decide) (by decide) (by decide) (by decide) ?_
          exact kL_7 hst hL hx hb hml hown hts hX hbl hK hE hG hwf hnow hi hPX hPM hO hS hl again
        · refine lv_tableIn (off := 586) (tgt := 625) hx hb dL_law_39 (by decide) (by decide) (by decide) (by decide) ?_
          exact kL_8 hst hL hx hb hml hown hts hX hbl hK hE hG hwf hnow hi hPX hPM hO hS hl again
        · refine lv_tableIn (off := 599) (tgt := 638) hx hb dL_law_39 (by decide) (by decide) (by decide) (by decide) ?_
          exact kL_9 hst hL hx hb hml hown hts hX hbl hK hE hG hwf hnow hi hPX hPM hO hS hl again
        · refine lv_tableIn (off := 655) (tgt := 694) hx hb dL_law_39 (by decide) (by decide) (by decide) (by decide) ?_
          exact kL_10 hst hL hx hb hml hown hts hX hbl hK hE hG hwf hnow hi hPX hPM hO hS hl again
        · refine lv_tableIn (off := 723) (tgt := 762) hx hb dL_law_39 (by decide) (by decide) (by decide) (by decide) ?_
          exact kL_11 hst hL hx hb hml hown hts hX hbl hK hE hG hwf hnow hi hPX hPM hO hS hl again
        · refine lv_tableIn (off := 791) (tgt := 830) hx hb dL_law_39 (by decide) (by decide) (by decide) (by decide) ?_
          exact kL_12 hst hL hx hb hml hown hts hX hbl hK hE hG hwf hnow hi hPX hPM hO hS hl again
        · refine lv_tableIn (off := 854) (tgt := 893) hx hb dL_law_39 (by decide) (by decide) (by decide) (by decide) ?_
          exact kL_13 hst hL hx hb hml hown hts hX hbl hK hE hG hwf hnow hi hPX hPM hO hS hl again
        · refine lv_tableIn (off := 917) (tgt := 956) hx hb dL_law_39 (by decide) (by decide) (by decide) (by decide) ?_
          exact kL_14 hst hL hx hb hml hown hts hX hbl hK hE hG hwf hnow hi hPX hPM hO hS hl again
        · refine lv_tableIn (off := 980) (tgt := 1019) hx hb dL_law_39 (by decide) (by decide) (by decide) (by decide) ?_
          exact kL_15 hst hL hx hb hml hown hts hX hbl hK hE hG hwf hnow hi hPX hPM hO hS hl again
        · refine lv_tableIn (off := 993) (tgt := 1032) hx hb dL_law_39 (by decide) (by decide) (by decide) (by decide) ?_
          exact kL_16 hst hL hx hb hml hown hts hX hbl hK hE hG hwf hnow hi hPX hPM hO hS hl again
        · refine lv_tableIn (off := 1006) (tgt := 1045) hx hb dL_law_39 (by decide) (by decide) (by decide) (by decide) ?_
          exact kL_17 hst hL hx hb hml hown hts hX hbl hK hE hG hwf hnow hi hPX hPM hO hS hl again
        · refine lv_tableIn (off := 1081) (tgt := 1120) hx hb dL_law_39 (by decide) (by decide) (by decide) (by decide) ?_
          exact kL_18 hst hL hx hb hml hown hts hX hbl hK hE hG hwf hnow hi hPX hPM hO hS hl again
        · refine lv_tableIn (off := 1149) (tgt := 1188) hx hb dL_law_39 (by decide) (by decide) (by decide) (by decide) ?_
          exact kL_19 hst hL hx hb hml hown hts hX hbl hK hE hG hwf hnow hi hPX hPM hO hS hl again
        · refine lv_tableIn (off := 1212) (tgt := 1251) hx hb dL_law_39 (by decide) (by decide) (by decide) (by decide) ?_
          exact kL_20 hst hL hx hb hml hown hts hX hbl hK hE hG hwf hnow hi hPX hPM hO hS hl again
        · refine lv_tableIn (off := 1268) (tgt := 1307) hx hb dL_law_39 (by decide) (by decide) (by decide) (by decide) ?_
          exact kL_21 hst hL hx hb hml hown hts hX hbl hK hE hG hwf hnow hi hPX hPM hO hS hl again
        · refine lv_tableIn (off := 1324) (tgt := 1363) hx hb dL_law_39 (by decide) (by decide) (by decide) (by decide) ?_
          exact kL_22 hst hL hx hb hml hown hts hX hbl hK hE hG hwf hnow hi hPX hPM hO hS hl again
        · refine lv_tableIn (off := 1392) (tgt := 1431) hx hb dL_law_39 (by decide) (by decide) (by decide) (by decide) ?_
          exact kL_23 hst hL hx hb hml hown hts hX hbl hK hE hG hwf hnow hi hPX hPM hO hS hl again
        · refine lv_tableIn (off := 1460) (tgt := 1499) hx hb dL_law_39 (by decide) (by decide) (by decide) (by decide) ?_
          exact kL_24 hst hL hx hb hml hown hts hX hbl hK hE hG hwf hnow hi hPX hPM hO hS hl again
        · refine lv_tableIn (off := 1540) (tgt := 1579) hx hb dL_law_39 (by decide) (by decide) (by decide) (by decide) ?_
          exact kL_25 hst hL hx hb hml hown hts hX hbl hK hE hG hwf hnow hi hPX hPM hO hS hl again
        · refine lv_tableIn (off := 1608) (tgt := 1647) hx hb dL_law_39 (by decide) (by decide) (by decide) (by decide) ?_
          exact kL_26 hst hL hx hb hml hown hts hX hbl hK hE hG hwf hnow hi hPX hPM hO hS hl again
        · refine lv_tableIn (off := 1621) (tgt := 1660) hx hb dL_law_39 (by decide) (by decide) (by decide) (by decide) ?_
          exact kL_27 hst hL hx hb hml hown hts hX hbl hK hE hG hwf hnow hi hPX hPM hO hS hl again
        · refine lv_tableIn (off := 1677) (tgt := 1716) hx hb dL_law_39 (by decide) (by decide) (by decide) (by decide) ?_
          exact kL_28 hst hL hx hb hml hown hts hX hbl hK hE hG hwf hnow hi hPX hPM hO hS hl again
        · refine lv_tableIn (off := 1733) (tgt := 1772) hx hb dL_law_39 (by decide) (by decide) (by decide) (by decide) ?_
          exact kL_29 hst hL hx hb hml hown hts hX hbl hK hE hG hwf hnow hi hPX hPM hO hS hl again
        · refine lv_tableIn (off := 1789) (tgt := 1828) hx hb dL_law_39 (by decide) (by decide) (by decide) (by decide) ?_
          exact kL_30 hst hL hx hb hml hown hts hX hbl hK hE hG hwf hnow hi hPX hPM hO hS hl again
        · refine lv_tableIn (off := 1830) (tgt := 1869) hx hb dL_law_39 (by decide) (by decide) (by decide) (by decide) ?_
          exact kL_31 hst hL hx hb hml hown hts hX hbl hK hE hG hwf hnow hi hPX hPM hO hS hl again
  refine W.widen (k := 36 + 4 * 0) (n := 300 + 24 * 0) (by decide) (by decide) ?_
  exact loop_23 513 0 0 0 (nI 0) (nI 0) (fun _ => L0) (fun _ => 0) Hc [] ls (by omega) (by omega) WFX_0 (by omega) hPX hPM hO hSc hl
