set_option maxHeartbeats 4000000 in
set_option maxRecDepth 100000 in
theorem kL_0 {p : Program} {l : Launch} {e : Env} {s : State} {m : MethodId} {below : List Frame} {meth : Method} {c : Code} {Q : State → Prop} {b L : Nat} {xs : Nat → Int32} {D : va_G} {cI cZ cL cJ : ClassId} {ad am : Nat → Nat} {z : Nat} (hst : l.stackTraces = false) (hL : L ≤ 2048) (hx : p.tables.exec = Jvm.exec) (hb : c.code = cL_law) (hml : c.maxLocals = 9) (hown : s.vm.findClass RL = some m.cls) (hts : ∀ w ∈ wsL_law, w.before #[Value.ref b] s = true) (hX : va_X b L xs s s.heap) (hbl : b < s.heap.size) (hK : va_K D vwCl (TY cI cZ cL cJ) s) (hEN : EN (AH s) s s.heap) (hG : GG s ad am z) {i n now : Nat} {told th : Int32} {v : Nat → LV} {f : Nat → Int64} {H : Heap} {locs : List Loc} {ls : Array Slot} (hwf : WFX n now v) (hnow : now ≤ 500 * i) (hi : 4 * i + 4 ≤ L) (hPX : PX D cI cL ad n now told v H) (hPM : PM D cI cZ am th n now told v H) (hO : va_P D vwCl (outW cJ z f) H) (hS : va_S (AH s) s.heap H locs) (hl : lv_has ls 9 [(4, .int (nI (4 * i))), (3, .ref z), (2, .ref (am 0)), (1, .ref (ad 0)), (0, .ref b)]) (kk : ∀ (n now : Nat) (told th : Int32) (v : Nat → LV) (f : Nat → Int64) (H : Heap) (locs : List Loc) (ls : Array Slot), WFX n now v → now ≤ 500 * (i + 1) → PX D cI cL ad n now told v H → PM D cI cZ am th n now told v H → va_P D vwCl (outW cJ z f) H → va_S (AH s) s.heap H locs → lv_has ls 9 [(4, .int (nI (4 * i))), (3, .ref z), (2, .ref (am 0)), (1, .ref (ad 0)), (0, .ref b)] → W p l e room_1 s m #[Value.ref b] below meth c H locs (36 + 4 * (i + 1)) (300 + 24 * (i + 1)) Q (F0 m 1883 ls [])) : W p l e room_1 s m #[Value.ref b] below meth c H locs (36 + 4 * i) (300 + 24 * i) Q (F0 m 180 ls []) := by
  refine lv_aload_n hx hb dL_law_180 rfl (lv_at hl 3 rfl) ?_
  refine lv_aload_n hx hb dL_law_181 rfl (lv_at hl 4 rfl) ?_
  refine lv_iload hx hb dL_law_182 (lv_at hl 0 rfl) ?_
  refine lv_iconst (v := nI 1) hx hb dL_law_184 (by decide) ?_
  refine n_iadd (v := nI ((4 * i) + 1)) hx hb dL_law_185 (nI_add _ _) ?_
  have join_195 : ∀ (ls : Array Slot), lv_has ls 9 [(4, .int (nI (4 * i))), (3, .ref z), (2, .ref (am 0)), (1, .ref (ad 0)), (0, .ref b)] → W p l e room_1 s m #[Value.ref b] below meth c H locs (36 + 4 * i) (300 + 24 * i) Q (F0 m 195 ls [.int (bI (!decide (xs ((4 * i) + 1) = 0))), .ref (ad 0)]) := by
    intro   ls hl
    refine lv_aload_n hx hb dL_law_195 rfl (lv_at hl 1 rfl) ?_
    refine lsS (A0 := AH s) (As := [.ref (ad 0), .int (bI (!decide (xs ((4 * i) + 1) = 0))), .ref z]) (rest := []) ⟨hx, hb, hml, hown, hts⟩ (c_L_addLamp l D cI cZ cL cJ hst ad n now told v hwf hG.1.1 z f hG.z_AX (!decide (xs ((4 * i) + 1) = 0))) (vx_cwSW 3 hts gL_law_L_addLamp rfl rfl rfl (by decide +kernel) ⟨(Nat.le_of_ble_eq_true rfl), (Nat.le_of_ble_eq_true rfl)⟩) hK ((hEN.kept hS.2.1).narrow hG.toAL) ⟨hPX, hO⟩ rfl hl.1 rfl (Nat.le_of_ble_eq_true rfl) dL_law_196 ⟨by show 36 + 4 * i + 1 ≤ 668203; omega, by show 300 + 24 * i + 6 ≤ 7091495; omega⟩ hS hG.toAL (fun H1 locs1 _ hLE hz1 hk1 hS => ?_)
    obtain ⟨hPX, f1, hO, hf1⟩ := hLE
    have hPM := PM_keep hPM hG.am_AL hk1
    have hwf2 : WFX (if cd1 (decide (n < 8)) = 0 then n + 1 else n) now (if cd1 (decide (n < 8)) = 0 then updv v n (setOn (v n) (!decide (xs ((4 * i) + 1) = 0))) else v) := by
      by_cases h0 : cd1 (decide (n < 8)) = 0
      · rw [if_pos h0, if_pos h0]; exact wf_upd (wf_n hwf (by have := of_decide_eq_true (cd1_0 h0); omega)) (fun hj => wfl_on (hwf.2.2 n hj))
      · rw [if_neg h0, if_neg h0]; exact hwf
    have hnow2 : now ≤ 500 * (i + 1) := by omega
    refine lv_istore (lv' := [(5, .int (nI (cd1 (decide (n < 8))))), (4, .int (nI (4 * i))), (3, .ref z), (2, .ref (am 0)), (1, .ref (ad 0)), (0, .ref b)]) hx hb dL_law_199 hl (by decide) rfl (fun ls hl => ?_)
    refine lv_aload_n hx hb dL_law_201 rfl (lv_at hl 3 rfl) ?_
    refine lv_aload_n hx hb dL_law_202 rfl (lv_at hl 5 rfl) ?_
    refine lv_iload hx hb dL_law_203 (lv_at hl 1 rfl) ?_
    refine lv_iconst (v := nI 1) hx hb dL_law_205 (by decide) ?_
    refine n_iadd (v := nI ((4 * i) + 1)) hx hb dL_law_206 (nI_add _ _) ?_
    have join_216 : ∀ (ls : Array Slot), lv_has ls 9 [(5, .int (nI (cd1 (decide (n < 8))))), (4, .int (nI (4 * i))), (3, .ref z), (2, .ref (am 0)), (1, .ref (ad 0)), (0, .ref b)] → W p l e room_1 s m #[Value.ref b] below meth c H1 locs1 (36 + 4 * i + 1) (300 + 24 * i + 6) Q (F0 m 216 ls [.int (bI (!decide (xs ((4 * i) + 1) = 0))), .ref (am 0)]) := by
      intro   ls hl
      refine wV (A0 := AH s) (As := [.int (bI (!decide (xs ((4 * i) + 1) = 0)))]) (rest := []) ⟨hx, hb, hml, hown, hts⟩ (c_X2_addLamp l D cI cZ cL cJ am th n now told v hwf hG.1.2 (!decide (xs ((4 * i) + 1) = 0))) (cwV 1 hts gL_law_X2_addLamp rfl rfl rfl (by decide +kernel) ⟨(Nat.le_of_ble_eq_true rfl), (Nat.le_of_ble_eq_true rfl)⟩) hK ((hEN.kept hS.2.1).narrow hG.toAM) hPM (RC_of (q := (RX2, TX2, 9)) (ci := 2) hK rfl (vpa hPM 0 rfl)) rfl hl.1 rfl (Nat.le_of_ble_eq_true rfl) dL_law_216 ⟨by show 36 + 4 * i + 1 + 0 ≤ 668203; omega, by show 300 + 24 * i + 6 + 0 ≤ 7091495; omega⟩ hS hG.toAM (fun H2 locs2 _ hPM hz2 hk2 hS => ?_)
      have hPM : PM D cI cZ am (nI (cd1 (decide (n < 8)))) (if cd1 (decide (n < 8)) = 0 then n + 1 else n) now told (if cd1 (decide (n < 8)) = 0 then updv v n (setOn (v n) (!decide (xs ((4 * i) + 1) = 0))) else v) H2 := hPM
      have hPX := PX_keep hPX hG.ad_AM hk2
      have hO := outK hO hG.z_AM hk2
      refine lv_istore (lv' := [(6, .int (mrI (cd1 (decide (n < 8))) (nI n))), (5, .int (nI (cd1 (decide (n < 8))))), (4, .int (nI (4 * i))), (3, .ref z), (2, .ref (am 0)), (1, .ref (ad 0)), (0, .ref b)]) hx hb dL_law_219 hl (by decide) rfl (fun ls hl => ?_)
      refine lv_aload_n hx hb dL_law_221 rfl (lv_at hl 4 rfl) ?_
      refine rV (r := nI (cd1 (decide (n < 8)))) (As := []) (rest := []) ⟨hx, hb, hml, hown, hts⟩ (c_X2_thrown l D cI cZ cL cJ am (nI (cd1 (decide (n < 8)))) (if cd1 (decide (n < 8)) = 0 then n + 1 else n) now told (if cd1 (decide (n < 8)) = 0 then updv v n (setOn (v n) (!decide (xs ((4 * i) + 1) = 0))) else v) hwf2) (cwV 0 hts gL_law_X2_thrown rfl rfl rfl (by decide +kernel) ⟨(Nat.le_of_ble_eq_true rfl), (Nat.le_of_ble_eq_true rfl)⟩) hK ((hEN.kept hS.2.1).narrow (fun _ h => h.elim)) hPM (RC_of (q := (RX2, TX2, 9)) (ci := 2) hK rfl (vpa hPM 0 rfl)) rfl hl.1 rfl (Nat.le_of_ble_eq_true rfl) dL_law_222 ⟨by show 36 + 4 * i + 1 + 0 ≤ 668203; omega, by show 300 + 24 * i + 6 + 0 ≤ 7091495; omega⟩ ?_
      refine lv_iload hx hb dL_law_225 (lv_at hl 1 rfl) ?_
      refine lv_icmp_eq (tgt := 232) hx hb dL_law_227 (by decide) (fun c_227 => ?_) (fun c_227 => ?_)
      · refine lv_iload hx hb dL_law_232 (lv_at hl 1 rfl) ?_
        refine n_if_ne (a := cd1 (decide (n < 8))) (tgt := 249) hx hb (cd1_lt _) dL_law_234 (by decide) (fun c_234 => ?_) (fun c_234 => ?_)
        · refine lv_goto (tgt := 1883) hx hb dL_law_249 (by decide) ?_
          refine W.widen (k := 36 + 4 * (i + 1)) (n := 300 + 24 * (i + 1)) (by omega) (by omega) ?_
          exact kk (if cd1 (decide (n < 8)) = 0 then n + 1 else n) now told (nI (cd1 (decide (n < 8)))) (if cd1 (decide (n < 8)) = 0 then updv v n (setOn (v n) (!decide (xs ((4 * i) + 1) = 0))) else v) f1 H2 locs2 ls hwf2 hnow2 hPX hPM hO hS (lv_sub hl [2, 3, 4, 5, 6] rfl)
        · refine lv_aload_n hx hb dL_law_237 rfl (lv_at hl 3 rfl) ?_
          refine lv_iconst (v := nI 0) hx hb dL_law_238 (by decide) ?_
          refine va_lald hx hb hK hO 0 3 rfl rfl (show vp_in (nI 0) 1 from vp_in_nI (by decide) (by decide)) dL_law_239 ?_
          refine n_tl (y := f1 0) (by rw [nI_clamp (by decide)]) ?_
          refine lv_iload hx hb dL_law_240 (lv_at hl 0 rfl) ?_
          refine lv_i2l (v := (mrI (cd1 (decide (n < 8))) (nI n)).toInt64) hx hb dL_law_242 rfl ?_
          refine W.lcmp hx hb dL_law_243 ?_
          refine lv_if_eq (tgt := 249) hx hb dL_law_244 (by decide) (fun c_244 => ?_) (fun c_244 => ?_)
          · refine lv_goto (tgt := 1883) hx hb dL_law_249 (by decide) ?_
            refine W.widen (k := 36 + 4 * (i + 1)) (n := 300 + 24 * (i + 1)) (by omega) (by omega) ?_
            exact kk (if cd1 (decide (n < 8)) = 0 then n + 1 else n) now told (nI (cd1 (decide (n < 8)))) (if cd1 (decide (n < 8)) = 0 then updv v n (setOn (v n) (!decide (xs ((4 * i) + 1) = 0))) else v) f1 H2 locs2 ls hwf2 hnow2 hPX hPM hO hS (lv_sub hl [2, 3, 4, 5, 6] rfl)
          · exact absurd (lgc ((hf1 c_234).trans (by rw [mrI_t c_234]))) c_244
      · exact absurd rfl c_227
    refine n_sld (j := (4 * i) + 1) hx hb hX hbl (Nat.not_le.mpr hbl) hS (by omega) (by omega) dL_law_207 ?_
    refine lv_if_eq (tgt := 215) hx hb dL_law_208 (by decide) (fun c_208 => ?_) (fun c_208 => ?_)
    · refine lv_iconst (v := nI 0) hx hb dL_law_215 (by decide) ?_
      refine n_ti (y := bI (!decide (xs ((4 * i) + 1) = 0))) (by first | (rw [decide_eq_false c_208]; rfl) | (rw [decide_eq_true c_208]; rfl)) ?_
      exact join_216 ls (lv_sub hl [0, 1, 2, 3, 4, 5] rfl)
    · refine lv_iconst (v := nI 1) hx hb dL_law_211 (by decide) ?_
      refine lv_goto (tgt := 216) hx hb dL_law_212 (by decide) ?_
      refine n_ti (y := bI (!decide (xs ((4 * i) + 1) = 0))) (by first | (rw [decide_eq_false c_208]; rfl) | (rw [decide_eq_true c_208]; rfl)) ?_
      exact join_216 ls (lv_sub hl [0, 1, 2, 3, 4, 5] rfl)
  refine n_sld (j := (4 * i) + 1) hx hb hX hbl (Nat.not_le.mpr hbl) hS (by omega) (by omega) dL_law_186 ?_
  refine lv_if_eq (tgt := 194) hx hb dL_law_187 (by decide) (fun c_187 => ?_) (fun c_187 => ?_)
  · refine lv_iconst (v := nI 0) hx hb dL_law_194 (by decide) ?_
    refine n_ti (y := bI (!decide (xs ((4 * i) + 1) = 0))) (by first | (rw [decide_eq_false c_187]; rfl) | (rw [decide_eq_true c_187]; rfl)) ?_
    exact join_195 ls (lv_sub hl [0, 1, 2, 3, 4] rfl)
  · refine lv_iconst (v := nI 1) hx hb dL_law_190 (by decide) ?_
    refine lv_goto (tgt := 195) hx hb dL_law_191 (by decide) ?_
    refine n_ti (y := bI (!decide (xs ((4 * i) + 1) = 0))) (by first | (rw [decide_eq_false c_187]; rfl) | (rw [decide_eq_true c_187]; rfl)) ?_
    exact join_195 ls (lv_sub hl [0, 1, 2, 3, 4] rfl)
set_option maxHeartbeats 4000000 in
set_option maxRecDepth 100000 in
theorem kL_1 {p : Program} {l : Launch} {e : Env} {s : State} {m : MethodId} {below : List Frame} {meth : Method} {c : Code} {Q : State → Prop} {b L : Nat} {xs : Nat → Int32} {D : va_G} {cI cZ cL cJ : ClassId} {ad am : Nat → Nat} {z : Nat} (hst : l.stackTraces = false) (hL : L ≤ 2048) (hx : p.tables.exec = Jvm.exec) (hb : c.code = cL_law) (hml : c.maxLocals = 9) (hown : s.vm.findClass RL = some m.cls) (hts : ∀ w ∈ wsL_law, w.before #[Value.ref b] s = true) (hX : va_X b L xs s s.heap) (hbl : b < s.heap.size) (hK : va_K D vwCl (TY cI cZ cL cJ) s) (hEN : EN (AH s) s s.heap) (hG : GG s ad am z) {i n now : Nat} {told th : Int32} {v : Nat → LV} {f : Nat → Int64} {H : Heap} {locs : List Loc} {ls : Array Slot} (hwf : WFX n now v) (hnow : now ≤ 500 * i) (hi : 4 * i + 4 ≤ L) (hPX : PX D cI cL ad n now told v H) (hPM : PM D cI cZ am th n now told v H) (hO : va_P D vwCl (outW cJ z f) H) (hS : va_S (AH s) s.heap H locs) (hl : lv_has ls 9 [(4, .int (nI (4 * i))), (3, .ref z), (2, .ref (am 0)), (1, .ref (ad 0)), (0, .ref b)]) (kk : ∀ (n now : Nat) (told th : Int32) (v : Nat → LV) (f : Nat → Int64) (H : Heap) (locs : List Loc) (ls : Array Slot), WFX n now v → now ≤ 500 * (i + 1) → PX D cI cL ad n now told v H → PM D cI cZ am th n now told v H → va_P D vwCl (outW cJ z f) H → va_S (AH s) s.heap H locs → lv_has ls 9 [(4, .int (nI (4 * i))), (3, .ref z), (2, .ref (am 0)), (1, .ref (ad 0)), (0, .ref b)] → W p l e room_1 s m #[Value.ref b] below meth c H locs (36 + 4 * (i + 1)) (300 + 24 * (i + 1)) Q (F0 m 1883 ls [])) : W p l e room_1 s m #[Value.ref b] below meth c H locs (36 + 4 * i) (300 + 24 * i) Q (F0 m 252 ls []) := by
  refine lv_aload_n hx hb dL_law_252 rfl (lv_at hl 3 rfl) ?_
  refine lv_aload_n hx hb dL_law_253 rfl (lv_at hl 4 rfl) ?_
  refine lv_iload hx hb dL_law_254 (lv_at hl 0 rfl) ?_
  refine lv_iconst (v := nI 1) hx hb dL_law_256 (by decide) ?_
  refine n_iadd (v := nI ((4 * i) + 1)) hx hb dL_law_257 (nI_add _ _) ?_
  refine n_sld (j := (4 * i) + 1) hx hb hX hbl (Nat.not_le.mpr hbl) hS (by omega) (by omega) dL_law_258 ?_
  refine lv_aload_n hx hb dL_law_259 rfl (lv_at hl 4 rfl) ?_
  refine lv_iload hx hb dL_law_260 (lv_at hl 0 rfl) ?_
  refine lv_iconst (v := nI 2) hx hb dL_law_262 (by decide) ?_
  refine n_iadd (v := nI ((4 * i) + 2)) hx hb dL_law_263 (nI_add _ _) ?_
  refine n_sld (j := (4 * i) + 2) hx hb hX hbl (Nat.not_le.mpr hbl) hS (by omega) (by omega) dL_law_264 ?_
  refine lv_aload_n hx hb dL_law_265 rfl (lv_at hl 4 rfl) ?_
  refine lv_iload hx hb dL_law_266 (lv_at hl 0 rfl) ?_
  refine lv_iconst (v := nI 3) hx hb dL_law_268 (by decide) ?_
  refine n_iadd (v := nI ((4 * i) + 3)) hx hb dL_law_269 (nI_add _ _) ?_
  refine n_sld (j := (4 * i) + 3) hx hb hX hbl (Nat.not_le.mpr hbl) hS (by omega) (by omega) dL_law_270 ?_
  refine lv_aload_n hx hb dL_law_271 rfl (lv_at hl 1 rfl) ?_
  refine lsS (A0 := AH s) (As := [.ref (ad 0), .int (xs ((4 * i) + 1)), .int (xs ((4 * i) + 2)), .int (xs ((4 * i) + 3)), .ref z]) (rest := []) ⟨hx, hb, hml, hown, hts⟩ (c_L_addBeat l D cI cZ cL cJ hst ad n now told v hwf hG.1.1 z f hG.z_AX (xs ((4 * i) + 1)) (xs ((4 * i) + 2)) (xs ((4 * i) + 3))) (vx_cwSW 5 hts gL_law_L_addBeat rfl rfl rfl (by decide +kernel) ⟨(Nat.le_of_ble_eq_true rfl), (Nat.le_of_ble_eq_true rfl)⟩) hK ((hEN.kept hS.2.1).narrow hG.toAL) ⟨hPX, hO⟩ rfl hl.1 rfl (Nat.le_of_ble_eq_true rfl) dL_law_272 ⟨by show 36 + 4 * i + 4 ≤ 668203; omega, by show 300 + 24 * i + 24 ≤ 7091495; omega⟩ hS hG.toAL (fun H1 locs1 _ hLE hz1 hk1 hS => ?_)
  obtain ⟨hPX, f1, hO, hf1⟩ := hLE
  have hPM := PM_keep hPM hG.am_AL hk1
  have hwf2 : WFX n now (if cd3 (lpOk n (xs ((4 * i) + 1))) (prB (xs ((4 * i) + 2)) && rgOk (xs ((4 * i) + 3)) (xs ((4 * i) + 2))) (decide (lbc (v (ixx (xs ((4 * i) + 1)))) < 4)) = 0 then updv v (ixx (xs ((4 * i) + 1))) (addL (v (ixx (xs ((4 * i) + 1)))) (ixx (xs ((4 * i) + 2))) (ixx (xs ((4 * i) + 3)))) else v) := by
    by_cases h0 : cd3 (lpOk n (xs ((4 * i) + 1))) (prB (xs ((4 * i) + 2)) && rgOk (xs ((4 * i) + 3)) (xs ((4 * i) + 2))) (decide (lbc (v (ixx (xs ((4 * i) + 1)))) < 4)) = 0
    · rw [if_pos h0]; exact wf_upd hwf (fun hj => wf_addB (hwf.2.2 _ hj) (cd3_0 h0).2.2 (cd3_0 h0).2.1)
    · rw [if_neg h0]; exact hwf
  have hnow2 : now ≤ 500 * (i + 1) := by omega
  refine lv_istore (lv' := [(5, .int (nI (cd3 (lpOk n (xs ((4 * i) + 1))) (prB (xs ((4 * i) + 2)) && rgOk (xs ((4 * i) + 3)) (xs ((4 * i) + 2))) (decide (lbc (v (ixx (xs ((4 * i) + 1)))) < 4))))), (4, .int (nI (4 * i))), (3, .ref z), (2, .ref (am 0)), (1, .ref (ad 0)), (0, .ref b)]) hx hb dL_law_275 hl (by decide) rfl (fun ls hl => ?_)
  refine lv_aload_n hx hb dL_law_277 rfl (lv_at hl 3 rfl) ?_
  refine lv_aload_n hx hb dL_law_278 rfl (lv_at hl 5 rfl) ?_
  refine lv_iload hx hb dL_law_279 (lv_at hl 1 rfl) ?_
  refine lv_iconst (v := nI 1) hx hb dL_law_281 (by decide) ?_
  refine n_iadd (v := nI ((4 * i) + 1)) hx hb dL_law_282 (nI_add _ _) ?_
  refine n_sld (j := (4 * i) + 1) hx hb hX hbl (Nat.not_le.mpr hbl) hS (by omega) (by omega) dL_law_283 ?_
  refine lv_aload_n hx hb dL_law_284 rfl (lv_at hl 5 rfl) ?_
  refine lv_iload hx hb dL_law_285 (lv_at hl 1 rfl) ?_
  refine lv_iconst (v := nI 2) hx hb dL_law_287 (by decide) ?_
  refine n_iadd (v := nI ((4 * i) + 2)) hx hb dL_law_288 (nI_add _ _) ?_
  refine n_sld (j := (4 * i) + 2) hx hb hX hbl (Nat.not_le.mpr hbl) hS (by omega) (by omega) dL_law_289 ?_
  refine lv_aload_n hx hb dL_law_290 rfl (lv_at hl 5 rfl) ?_
  refine lv_iload hx hb dL_law_291 (lv_at hl 1 rfl) ?_
  refine lv_iconst (v := nI 3) hx hb dL_law_293 (by decide) ?_
  refine n_iadd (v := nI ((4 * i) + 3)) hx hb dL_law_294 (nI_add _ _) ?_
  refine n_sld (j := (4 * i) + 3) hx hb hX hbl (Nat.not_le.mpr hbl) hS (by omega) (by omega) dL_law_295 ?_
  refine wV (A0 := AH s) (As := [.int (xs ((4 * i) + 1)), .int (xs ((4 * i) + 2)), .int (xs ((4 * i) + 3))]) (rest := []) ⟨hx, hb, hml, hown, hts⟩ (c_X2_addBeat l D cI cZ cL cJ am th n now told v hwf hG.1.2 (xs ((4 * i) + 1)) (xs ((4 * i) + 2)) (xs ((4 * i) + 3))) (cwV 3 hts gL_law_X2_addBeat rfl rfl rfl (by decide +kernel) ⟨(Nat.le_of_ble_eq_true rfl), (Nat.le_of_ble_eq_true rfl)⟩) hK ((hEN.kept hS.2.1).narrow hG.toAM) hPM (RC_of (q := (RX2, TX2, 9)) (ci := 2) hK rfl (vpa hPM 0 rfl)) rfl hl.1 rfl (Nat.le_of_ble_eq_true rfl) dL_law_296 ⟨by show 36 + 4 * i + 4 + 0 ≤ 668203; omega, by show 300 + 24 * i + 24 + 0 ≤ 7091495; omega⟩ hS hG.toAM (fun H2 locs2 _ hPM hz2 hk2 hS => ?_)
  have hPM : PM D cI cZ am (nI (cd3 (lpOk n (xs ((4 * i) + 1))) (prB (xs ((4 * i) + 2)) && rgOk (xs ((4 * i) + 3)) (xs ((4 * i) + 2))) (decide (lbc (v (ixx (xs ((4 * i) + 1)))) < 4)))) n now told (if cd3 (lpOk n (xs ((4 * i) + 1))) (prB (xs ((4 * i) + 2)) && rgOk (xs ((4 * i) + 3)) (xs ((4 * i) + 2))) (decide (lbc (v (ixx (xs ((4 * i) + 1)))) < 4)) = 0 then updv v (ixx (xs ((4 * i) + 1))) (addL (v (ixx (xs ((4 * i) + 1)))) (ixx (xs ((4 * i) + 2))) (ixx (xs ((4 * i) + 3)))) else v) H2 := hPM
  have hPX := PX_keep hPX hG.ad_AM hk2
  have hO := outK hO hG.z_AM hk2
  refine lv_istore (lv' := [(6, .int (mrI (cd3 (lpOk n (xs ((4 * i) + 1))) (prB (xs ((4 * i) + 2)) && rgOk (xs ((4 * i) + 3)) (xs ((4 * i) + 2))) (decide (lbc (v (ixx (xs ((4 * i) + 1)))) < 4))) (nI (lbc (v (ixx (xs ((4 * i) + 1)))))))), (5, .int (nI (cd3 (lpOk n (xs ((4 * i) + 1))) (prB (xs ((4 * i) + 2)) && rgOk (xs ((4 * i) + 3)) (xs ((4 * i) + 2))) (decide (lbc (v (ixx (xs ((4 * i) + 1)))) < 4))))), (4, .int (nI (4 * i))), (3, .ref z), (2, .ref (am 0)), (1, .ref (ad 0)), (0, .ref b)]) hx hb dL_law_299 hl (by decide) rfl (fun ls hl => ?_)
  refine lv_aload_n hx hb dL_law_301 rfl (lv_at hl 4 rfl) ?_
  refine rV (r := nI (cd3 (lpOk n (xs ((4 * i) + 1))) (prB (xs ((4 * i) + 2)) && rgOk (xs ((4 * i) + 3)) (xs ((4 * i) + 2))) (decide (lbc (v (ixx (xs ((4 * i) + 1)))) < 4)))) (As := []) (rest := []) ⟨hx, hb, hml, hown, hts⟩ (c_X2_thrown l D cI cZ cL cJ am (nI (cd3 (lpOk n (xs ((4 * i) + 1))) (prB (xs ((4 * i) + 2)) && rgOk (xs ((4 * i) + 3)) (xs ((4 * i) + 2))) (decide (lbc (v (ixx (xs ((4 * i) + 1)))) < 4)))) n now told (if cd3 (lpOk n (xs ((4 * i) + 1))) (prB (xs ((4 * i) + 2)) && rgOk (xs ((4 * i) + 3)) (xs ((4 * i) + 2))) (decide (lbc (v (ixx (xs ((4 * i) + 1)))) < 4)) = 0 then updv v (ixx (xs ((4 * i) + 1))) (addL (v (ixx (xs ((4 * i) + 1)))) (ixx (xs ((4 * i) + 2))) (ixx (xs ((4 * i) + 3)))) else v) hwf2) (cwV 0 hts gL_law_X2_thrown rfl rfl rfl (by decide +kernel) ⟨(Nat.le_of_ble_eq_true rfl), (Nat.le_of_ble_eq_true rfl)⟩) hK ((hEN.kept hS.2.1).narrow (fun _ h => h.elim)) hPM (RC_of (q := (RX2, TX2, 9)) (ci := 2) hK rfl (vpa hPM 0 rfl)) rfl hl.1 rfl (Nat.le_of_ble_eq_true rfl) dL_law_302 ⟨by show 36 + 4 * i + 4 + 0 ≤ 668203; omega, by show 300 + 24 * i + 24 + 0 ≤ 7091495; omega⟩ ?_
  refine lv_iload hx hb dL_law_305 (lv_at hl 1 rfl) ?_
  refine lv_icmp_eq (tgt := 312) hx hb dL_law_307 (by decide) (fun c_307 => ?_) (fun c_307 => ?_)
  · refine lv_iload hx hb dL_law_312 (lv_at hl 1 rfl) ?_
    refine n_if_ne (a := cd3 (lpOk n (xs ((4 * i) + 1))) (prB (xs ((4 * i) + 2)) && rgOk (xs ((4 * i) + 3)) (xs ((4 * i) + 2))) (decide (lbc (v (ixx (xs ((4 * i) + 1)))) < 4))) (tgt := 329) hx hb (cd3_lt _ _ _) dL_law_314 (by decide) (fun c_314 => ?_) (fun c_314 => ?_)
    · refine lv_goto (tgt := 1883) hx hb dL_law_329 (by decide) ?_
      refine W.widen (k := 36 + 4 * (i + 1)) (n := 300 + 24 * (i + 1)) (by omega) (by omega) ?_
      exact kk n now told (nI (cd3 (lpOk n (xs ((4 * i) + 1))) (prB (xs ((4 * i) + 2)) && rgOk (xs ((4 * i) + 3)) (xs ((4 * i) + 2))) (decide (lbc (v (ixx (xs ((4 * i) + 1)))) < 4)))) (if cd3 (lpOk n (xs ((4 * i) + 1))) (prB (xs ((4 * i) + 2)) && rgOk (xs ((4 * i) + 3)) (xs ((4 * i) + 2))) (decide (lbc (v (ixx (xs ((4 * i) + 1)))) < 4)) = 0 then updv v (ixx (xs ((4 * i) + 1))) (addL (v (ixx (xs ((4 * i) + 1)))) (ixx (xs ((4 * i) + 2))) (ixx (xs ((4 * i) + 3)))) else v) f1 H2 locs2 ls hwf2 hnow2 hPX hPM hO hS (lv_sub hl [2, 3, 4, 5, 6] rfl)
    · refine lv_aload_n hx hb dL_law_317 rfl (lv_at hl 3 rfl) ?_
      refine lv_iconst (v := nI 0) hx hb dL_law_318 (by decide) ?_
      refine va_lald hx hb hK hO 0 3 rfl rfl (show vp_in (nI 0) 1 from vp_in_nI (by decide) (by decide)) dL_law_319 ?_
      refine n_tl (y := f1 0) (by rw [nI_clamp (by decide)]) ?_
      refine lv_iload hx hb dL_law_320 (lv_at hl 0 rfl) ?_
      refine lv_i2l (v := (mrI (cd3 (lpOk n (xs ((4 * i) + 1))) (prB (xs ((4 * i) + 2)) && rgOk (xs ((4 * i) + 3)) (xs ((4 * i) + 2))) (decide (lbc (v (ixx (xs ((4 * i) + 1)))) < 4))) (nI (lbc (v (ixx (xs ((4 * i) + 1))))))).toInt64) hx hb dL_law_322 rfl ?_
      refine W.lcmp hx hb dL_law_323 ?_
      refine lv_if_eq (tgt := 329) hx hb dL_law_324 (by decide) (fun c_324 => ?_) (fun c_324 => ?_)
      · refine lv_goto (tgt := 1883) hx hb dL_law_329 (by decide) ?_
        refine W.widen (k := 36 + 4 * (i + 1)) (n := 300 + 24 * (i + 1)) (by omega) (by omega) ?_
        exact kk n now told (nI (cd3 (lpOk n (xs ((4 * i) + 1))) (prB (xs ((4 * i) + 2)) && rgOk (xs ((4 * i) + 3)) (xs ((4 * i) + 2))) (decide (lbc (v (ixx (xs ((4 * i) + 1)))) < 4)))) (if cd3 (lpOk n (xs ((4 * i) + 1))) (prB (xs ((4 * i) + 2)) && rgOk (xs ((4 * i) + 3)) (xs ((4 * i) + 2))) (decide (lbc (v (ixx (xs ((4 * i) + 1)))) < 4)) = 0 then updv v (ixx (xs ((4 * i) + 1))) (addL (v (ixx (xs ((4 * i) + 1)))) (ixx (xs ((4 * i) + 2))) (ixx (xs ((4 * i) + 3)))) else v) f1 H2 locs2 ls hwf2 hnow2 hPX hPM hO hS (lv_sub hl [2, 3, 4, 5, 6] rfl)
      · exact absurd (lgc ((hf1 c_314).trans (by rw [mrI_t c_314]))) c_324
  · exact absurd rfl c_307
set_option maxHeartbeats 4000000 in
set_option maxRecDepth 100000 in
theorem kL_2 {p : Program} {l : Launch} {e : Env} {s : State} {m : MethodId} {below : List Frame} {meth : Method} {c : Code} {Q : State → Prop} {b L : Nat} {xs : Nat → Int32} {D : va_G} {cI cZ cL cJ : ClassId} {ad am : Nat → Nat} {z : Nat} (hst : l.stackTraces = false) (hL : L ≤ 2048) (hx : p.tables.exec = Jvm.exec) (hb : c.code = cL_law) (hml : c.maxLocals = 9) (hown : s.vm.findClass RL = some m.cls) (hts : ∀ w ∈ wsL_law, w.before #[Value.ref b] s = true) (hX : va_X b L xs s s.heap) (hbl : b < s.heap.size) (hK : va_K D vwCl (TY cI cZ cL cJ) s) (hEN : EN (AH s) s s.heap) (hG : GG s ad am z) {i n now : Nat} {told th : Int32} {v : Nat → LV} {f : Nat → Int64} {H : Heap} {locs : List Loc} {ls : Array Slot} (hwf : WFX n now v) (hnow : now ≤ 500 * i) (hi : 4 * i + 4 ≤ L) (hPX : PX D cI cL ad n now told v H) (hPM : PM D cI cZ am th n now told v H) (hO : va_P D vwCl (outW cJ z f) H) (hS : va_S (AH s) s.heap H locs) (hl : lv_has ls 9 [(4, .int (nI (4 * i))), (3, .ref z), (2, .ref (am 0)), (1, .ref (ad 0)), (0, .ref b)]) (kk : ∀ (n now : Nat) (told th : Int32) (v : Nat → LV) (f : Nat → Int64) (H : Heap) (locs : List Loc) (ls : Array Slot), WFX n now v → now ≤ 500 * (i + 1) → PX D cI cL ad n now told v H → PM D cI cZ am th n now told v H → va_P D vwCl (outW cJ z f) H → va_S (AH s) s.heap H locs → lv_has ls 9 [(4, .int (nI (4 * i))), (3, .ref z), (2, .ref (am 0)), (1, .ref (ad 0)), (0, .ref b)] → W p l e room_1 s m #[Value.ref b] below meth c H locs (36 + 4 * (i + 1)) (300 + 24 * (i + 1)) Q (F0 m 1883 ls [])) : W p l e room_1 s m #[Value.ref b] below meth c H locs (36 + 4 * i) (300 + 24 * i) Q (F0 m 332 ls []) := by
  refine lv_aload_n hx hb dL_law_332 rfl (lv_at hl 3 rfl) ?_
  refine lv_aload_n hx hb dL_law_333 rfl (lv_at hl 4 rfl) ?_
  refine lv_iload hx hb dL_law_334 (lv_at hl 0 rfl) ?_
  refine lv_iconst (v := nI 1) hx hb dL_law_336 (by decide) ?_
  refine n_iadd (v := nI ((4 * i) + 1)) hx hb dL_law_337 (nI_add _ _) ?_
  refine n_sld (j := (4 * i) + 1) hx hb hX hbl (Nat.not_le.mpr hbl) hS (by omega) (by omega) dL_law_338 ?_
  refine lv_aload_n hx hb dL_law_339 rfl (lv_at hl 4 rfl) ?_
  refine lv_iload hx hb dL_law_340 (lv_at hl 0 rfl) ?_
  refine lv_iconst (v := nI 2) hx hb dL_law_342 (by decide) ?_
  refine n_iadd (v := nI ((4 * i) + 2)) hx hb dL_law_343 (nI_add _ _) ?_
  refine n_sld (j := (4 * i) + 2) hx hb hX hbl (Nat.not_le.mpr hbl) hS (by omega) (by omega) dL_law_344 ?_
  refine lv_aload_n hx hb dL_law_345 rfl (lv_at hl 4 rfl) ?_
  refine lv_iload hx hb dL_law_346 (lv_at hl 0 rfl) ?_
  refine lv_iconst (v := nI 3) hx hb dL_law_348 (by decide) ?_
  refine n_iadd (v := nI ((4 * i) + 3)) hx hb dL_law_349 (nI_add _ _) ?_
  refine n_sld (j := (4 * i) + 3) hx hb hX hbl (Nat.not_le.mpr hbl) hS (by omega) (by omega) dL_law_350 ?_
  refine lv_aload_n hx hb dL_law_351 rfl (lv_at hl 1 rfl) ?_
  refine lsS (A0 := AH s) (As := [.ref (ad 0), .int (xs ((4 * i) + 1)), .int (xs ((4 * i) + 2)), .int (xs ((4 * i) + 3)), .ref z]) (rest := []) ⟨hx, hb, hml, hown, hts⟩ (c_L_moveBeat l D cI cZ cL cJ hst ad n now told v hwf hG.1.1 z f hG.z_AX (xs ((4 * i) + 1)) (xs ((4 * i) + 2)) (xs ((4 * i) + 3))) (vx_cwSW 5 hts gL_law_L_moveBeat rfl rfl rfl (by decide +kernel) ⟨(Nat.le_of_ble_eq_true rfl), (Nat.le_of_ble_eq_true rfl)⟩) hK ((hEN.kept hS.2.1).narrow hG.toAL) ⟨hPX, hO⟩ rfl hl.1 rfl (Nat.le_of_ble_eq_true rfl) dL_law_352 ⟨by show 36 + 4 * i + 3 ≤ 668203; omega, by show 300 + 24 * i + 18 ≤ 7091495; omega⟩ hS hG.toAL (fun H1 locs1 _ hLE hz1 hk1 hS => ?_)
  obtain ⟨hPX, f1, hO, hf1⟩ := hLE
  have hPM := PM_keep hPM hG.am_AL hk1
  have hwf2 : WFX n now (if cd2 (btOk n v (xs ((4 * i) + 1)) (xs ((4 * i) + 2))) (rgOk (xs ((4 * i) + 3)) (nI (lnu (v (ixx (xs ((4 * i) + 1)))) (ixx (xs ((4 * i) + 2)))))) = 0 then updv v (ixx (xs ((4 * i) + 1))) (setOf (v (ixx (xs ((4 * i) + 1)))) (ixx (xs ((4 * i) + 2))) (ixx (xs ((4 * i) + 3)))) else v) := by
    by_cases h0 : cd2 (btOk n v (xs ((4 * i) + 1)) (xs ((4 * i) + 2))) (rgOk (xs ((4 * i) + 3)) (nI (lnu (v (ixx (xs ((4 * i) + 1)))) (ixx (xs ((4 * i) + 2)))))) = 0
    · rw [if_pos h0]; exact wf_upd hwf (fun hj => wf_moveB (hwf.2.2 _ hj) (by obtain ⟨j, i2, hj2, hi2, hkj, hki⟩ := btOk_j hwf.1 hwf.2.2 (cd2_0 h0).1; rw [hkj, hki, ixx_nI (by have := hwf.1; omega), ixx_nI (by have := (hwf.2.2 j (by have := hwf.1; omega)).1; omega)]; have := isP_le ((hwf.2.2 j (by have := hwf.1; omega)).2 i2 hi2).1; omega) (cd2_0 h0).2)
    · rw [if_neg h0]; exact hwf
  have hnow2 : now ≤ 500 * (i + 1) := by omega
  refine lv_istore (lv' := [(5, .int (nI (cd2 (btOk n v (xs ((4 * i) + 1)) (xs ((4 * i) + 2))) (rgOk (xs ((4 * i) + 3)) (nI (lnu (v (ixx (xs ((4 * i) + 1)))) (ixx (xs ((4 * i) + 2))))))))), (4, .int (nI (4 * i))), (3, .ref z), (2, .ref (am 0)), (1, .ref (ad 0)), (0, .ref b)]) hx hb dL_law_355 hl (by decide) rfl (fun ls hl => ?_)
  refine lv_aload_n hx hb dL_law_357 rfl (lv_at hl 3 rfl) ?_
  refine lv_aload_n hx hb dL_law_358 rfl (lv_at hl 5 rfl) ?_
  refine lv_iload hx hb dL_law_359 (lv_at hl 1 rfl) ?_
  refine lv_iconst (v := nI 1) hx hb dL_law_361 (by decide) ?_
  refine n_iadd (v := nI ((4 * i) + 1)) hx hb dL_law_362 (nI_add _ _) ?_
  refine n_sld (j := (4 * i) + 1) hx hb hX hbl (Nat.not_le.mpr hbl) hS (by omega) (by omega) dL_law_363 ?_
  refine lv_aload_n hx hb dL_law_364 rfl (lv_at hl 5 rfl) ?_
  refine lv_iload hx hb dL_law_365 (lv_at hl 1 rfl) ?_
  refine lv_iconst (v := nI 2) hx hb dL_law_367 (by decide) ?_
  refine n_iadd (v := nI ((4 * i) + 2)) hx hb dL_law_368 (nI_add _ _) ?_
  refine n_sld (j := (4 * i) + 2) hx hb hX hbl (Nat.not_le.mpr hbl) hS (by omega) (by omega) dL_law_369 ?_
  refine lv_aload_n hx hb dL_law_370 rfl (lv_at hl 5 rfl) ?_
  refine lv_iload hx hb dL_law_371 (lv_at hl 1 rfl) ?_
  refine lv_iconst (v := nI 3) hx hb dL_law_373 (by decide) ?_
  refine n_iadd (v := nI ((4 * i) + 3)) hx hb dL_law_374 (nI_add _ _) ?_
  refine n_sld (j := (4 * i) + 3) hx hb hX hbl (Nat.not_le.mpr hbl) hS (by omega) (by omega) dL_law_375 ?_
  refine wV (A0 := AH s) (As := [.int (xs ((4 * i) + 1)), .int (xs ((4 * i) + 2)), .int (xs ((4 * i) + 3))]) (rest := []) ⟨hx, hb, hml, hown, hts⟩ (c_X2_moveBeat l D cI cZ cL cJ am th n now told v hwf hG.1.2 (xs ((4 * i) + 1)) (xs ((4 * i) + 2)) (xs ((4 * i) + 3))) (cwV 3 hts gL_law_X2_moveBeat rfl rfl rfl (by decide +kernel) ⟨(Nat.le_of_ble_eq_true rfl), (Nat.le_of_ble_eq_true rfl)⟩) hK ((hEN.kept hS.2.1).narrow hG.toAM) hPM (RC_of (q := (RX2, TX2, 9)) (ci := 2) hK rfl (vpa hPM 0 rfl)) rfl hl.1 rfl (Nat.le_of_ble_eq_true rfl) dL_law_376 ⟨by show 36 + 4 * i + 3 + 0 ≤ 668203; omega, by show 300 + 24 * i + 18 + 0 ≤ 7091495; omega⟩ hS hG.toAM (fun H2 locs2 _ hPM hz2 hk2 hS => ?_)
  have hPM : PM D cI cZ am (nI (cd2 (btOk n v (xs ((4 * i) + 1)) (xs ((4 * i) + 2))) (rgOk (xs ((4 * i) + 3)) (nI (lnu (v (ixx (xs ((4 * i) + 1)))) (ixx (xs ((4 * i) + 2)))))))) n now told (if cd2 (btOk n v (xs ((4 * i) + 1)) (xs ((4 * i) + 2))) (rgOk (xs ((4 * i) + 3)) (nI (lnu (v (ixx (xs ((4 * i) + 1)))) (ixx (xs ((4 * i) + 2)))))) = 0 then updv v (ixx (xs ((4 * i) + 1))) (setOf (v (ixx (xs ((4 * i) + 1)))) (ixx (xs ((4 * i) + 2))) (ixx (xs ((4 * i) + 3)))) else v) H2 := hPM
  have hPX := PX_keep hPX hG.ad_AM hk2
  have hO := outK hO hG.z_AM hk2
  refine lv_istore (lv' := [(6, .int (mrI (cd2 (btOk n v (xs ((4 * i) + 1)) (xs ((4 * i) + 2))) (rgOk (xs ((4 * i) + 3)) (nI (lnu (v (ixx (xs ((4 * i) + 1)))) (ixx (xs ((4 * i) + 2))))))) (nI (lof (v (ixx (xs ((4 * i) + 1)))) (ixx (xs ((4 * i) + 2))))))), (5, .int (nI (cd2 (btOk n v (xs ((4 * i) + 1)) (xs ((4 * i) + 2))) (rgOk (xs ((4 * i) + 3)) (nI (lnu (v (ixx (xs ((4 * i) + 1)))) (ixx (xs ((4 * i) + 2))))))))), (4, .int (nI (4 * i))), (3, .ref z), (2, .ref (am 0)), (1, .ref (ad 0)), (0, .ref b)]) hx hb dL_law_379 hl (by decide) rfl (fun ls hl => ?_)
  refine lv_aload_n hx hb dL_law_381 rfl (lv_at hl 4 rfl) ?_
  refine rV (r := nI (cd2 (btOk n v (xs ((4 * i) + 1)) (xs ((4 * i) + 2))) (rgOk (xs ((4 * i) + 3)) (nI (lnu (v (ixx (xs ((4 * i) + 1)))) (ixx (xs ((4 * i) + 2)))))))) (As := []) (rest := []) ⟨hx, hb, hml, hown, hts⟩ (c_X2_thrown l D cI cZ cL cJ am (nI (cd2 (btOk n v (xs ((4 * i) + 1)) (xs ((4 * i) + 2))) (rgOk (xs ((4 * i) + 3)) (nI (lnu (v (ixx (xs ((4 * i) + 1)))) (ixx (xs ((4 * i) + 2)))))))) n now told (if cd2 (btOk n v (xs ((4 * i) + 1)) (xs ((4 * i) + 2))) (rgOk (xs ((4 * i) + 3)) (nI (lnu (v (ixx (xs ((4 * i) + 1)))) (ixx (xs ((4 * i) + 2)))))) = 0 then updv v (ixx (xs ((4 * i) + 1))) (setOf (v (ixx (xs ((4 * i) + 1)))) (ixx (xs ((4 * i) + 2))) (ixx (xs ((4 * i) + 3)))) else v) hwf2) (cwV 0 hts gL_law_X2_thrown rfl rfl rfl (by decide +kernel) ⟨(Nat.le_of_ble_eq_true rfl), (Nat.le_of_ble_eq_true rfl)⟩) hK ((hEN.kept hS.2.1).narrow (fun _ h => h.elim)) hPM (RC_of (q := (RX2, TX2, 9)) (ci := 2) hK rfl (vpa hPM 0 rfl)) rfl hl.1 rfl (Nat.le_of_ble_eq_true rfl) dL_law_382 ⟨by show 36 + 4 * i + 3 + 0 ≤ 668203; omega, by show 300 + 24 * i + 18 + 0 ≤ 7091495; omega⟩ ?_
  refine lv_iload hx hb dL_law_385 (lv_at hl 1 rfl) ?_
  refine lv_icmp_eq (tgt := 392) hx hb dL_law_387 (by decide) (fun c_387 => ?_) (fun c_387 => ?_)
  · refine lv_iload hx hb dL_law_392 (lv_at hl 1 rfl) ?_
    refine n_if_ne (a := cd2 (btOk n v (xs ((4 * i) + 1)) (xs ((4 * i) + 2))) (rgOk (xs ((4 * i) + 3)) (nI (lnu (v (ixx (xs ((4 * i) + 1)))) (ixx (xs ((4 * i) + 2))))))) (tgt := 409) hx hb (cd2_lt _ _) dL_law_394 (by decide) (fun c_394 => ?_) (fun c_394 => ?_)
    · refine lv_goto (tgt := 1883) hx hb dL_law_409 (by decide) ?_
      refine W.widen (k := 36 + 4 * (i + 1)) (n := 300 + 24 * (i + 1)) (by omega) (by omega) ?_
      exact kk n now told (nI (cd2 (btOk n v (xs ((4 * i) + 1)) (xs ((4 * i) + 2))) (rgOk (xs ((4 * i) + 3)) (nI (lnu (v (ixx (xs ((4 * i) + 1)))) (ixx (xs ((4 * i) + 2)))))))) (if cd2 (btOk n v (xs ((4 * i) + 1)) (xs ((4 * i) + 2))) (rgOk (xs ((4 * i) + 3)) (nI (lnu (v (ixx (xs ((4 * i) + 1)))) (ixx (xs ((4 * i) + 2)))))) = 0 then updv v (ixx (xs ((4 * i) + 1))) (setOf (v (ixx (xs ((4 * i) + 1)))) (ixx (xs ((4 * i) + 2))) (ixx (xs ((4 * i) + 3)))) else v) f1 H2 locs2 ls hwf2 hnow2 hPX hPM hO hS (lv_sub hl [2, 3, 4, 5, 6] rfl)
    · refine lv_aload_n hx hb dL_law_397 rfl (lv_at hl 3 rfl) ?_
      refine lv_iconst (v := nI 0) hx hb dL_law_398 (by decide) ?_
      refine va_lald hx hb hK hO 0 3 rfl rfl (show vp_in (nI 0) 1 from vp_in_nI (by decide) (by decide)) dL_law_399 ?_
      refine n_tl (y := f1 0) (by rw [nI_clamp (by decide)]) ?_
      refine lv_iload hx hb dL_law_400 (lv_at hl 0 rfl) ?_
      refine lv_i2l (v := (mrI (cd2 (btOk n v (xs ((4 * i) + 1)) (xs ((4 * i) + 2))) (rgOk (xs ((4 * i) + 3)) (nI (lnu (v (ixx (xs ((4 * i) + 1)))) (ixx (xs ((4 * i) + 2))))))) (nI (lof (v (ixx (xs ((4 * i) + 1)))) (ixx (xs ((4 * i) + 2)))))).toInt64) hx hb dL_law_402 rfl ?_
      refine W.lcmp hx hb dL_law_403 ?_
      refine lv_if_eq (tgt := 409) hx hb dL_law_404 (by decide) (fun c_404 => ?_) (fun c_404 => ?_)
      · refine lv_goto (tgt := 1883) hx hb dL_law_409 (by decide) ?_
        refine W.widen (k := 36 + 4 * (i + 1)) (n := 300 + 24 * (i + 1)) (by omega) (by omega) ?_
        exact kk n now told (nI (cd2 (btOk n v (xs ((4 * i) + 1)) (xs ((4 * i) + 2))) (rgOk (xs ((4 * i) + 3)) (nI (lnu (v (ixx (xs ((4 * i) + 1)))) (ixx (xs ((4 * i) + 2)))))))) (if cd2 (btOk n v (xs ((4 * i) + 1)) (xs ((4 * i) + 2))) (rgOk (xs ((4 * i) + 3)) (nI (lnu (v (ixx (xs ((4 * i) + 1)))) (ixx (xs ((4 * i) + 2)))))) = 0 then updv v (ixx (xs ((4 * i) + 1))) (setOf (v (ixx (xs ((4 * i) + 1)))) (ixx (xs ((4 * i) + 2))) (ixx (xs ((4 * i) + 3)))) else v) f1 H2 locs2 ls hwf2 hnow2 hPX hPM hO hS (lv_sub hl [2, 3, 4, 5, 6] rfl)
      · exact absurd (lgc ((hf1 c_394).trans (by rw [mrI_t c_394]))) c_404
  · exact absurd rfl c_387
set_option maxHeartbeats 4000000 in
set_option maxRecDepth 100000 in
theorem kL_3 {p : Program} {l : Launch} {e : Env} {s : State} {m : MethodId} {below : List Frame} {meth : Method} {c : Code} {Q : State → Prop} {b L : Nat} {xs : Nat → Int32} {D : va_G} {cI cZ cL cJ : ClassId} {ad am : Nat → Nat} {z : Nat} (hst : l.stackTraces = false) (hL : L ≤ 2048) (hx : p.tables.exec = Jvm.exec) (hb : c.code = cL_law) (hml : c.maxLocals = 9) (hown : s.vm.findClass RL = some m.cls) (hts : ∀ w ∈ wsL_law, w.before #[Value.ref b] s = true) (hX : va_X b L xs s s.heap) (hbl : b < s.heap.size) (hK : va_K D vwCl (TY cI cZ cL cJ) s) (hEN : EN (AH s) s s.heap) (hG : GG s ad am z) {i n now : Nat} {told th : Int32} {v : Nat → LV} {f : Nat → Int64} {H : Heap} {locs : List Loc} {ls : Array Slot} (hwf : WFX n now v) (hnow : now ≤ 500 * i) (hi : 4 * i + 4 ≤ L) (hPX : PX D cI cL ad n now told v H) (hPM : PM D cI cZ am th n now told v H) (hO : va_P D vwCl (outW cJ z f) H) (hS : va_S (AH s) s.heap H locs) (hl : lv_has ls 9 [(4, .int (nI (4 * i))), (3, .ref z), (2, .ref (am 0)), (1, .ref (ad 0)), (0, .ref b)]) (kk : ∀ (n now : Nat) (told th : Int32) (v : Nat → LV) (f : Nat → Int64) (H : Heap) (locs : List Loc) (ls : Array Slot), WFX n now v → now ≤ 500 * (i + 1) → PX D cI cL ad n now told v H → PM D cI cZ am th n now told v H → va_P D vwCl (outW cJ z f) H → va_S (AH s) s.heap H locs → lv_has ls 9 [(4, .int (nI (4 * i))), (3, .ref z), (2, .ref (am 0)), (1, .ref (ad 0)), (0, .ref b)] → W p l e room_1 s m #[Value.ref b] below meth c H locs (36 + 4 * (i + 1)) (300 + 24 * (i + 1)) Q (F0 m 1883 ls [])) : W p l e room_1 s m #[Value.ref b] below meth c H locs (36 + 4 * i) (300 + 24 * i) Q (F0 m 412 ls []) := by
  refine lv_aload_n hx hb dL_law_412 rfl (lv_at hl 3 rfl) ?_
  refine lv_aload_n hx hb dL_law_413 rfl (lv_at hl 4 rfl) ?_
  refine lv_iload hx hb dL_law_414 (lv_at hl 0 rfl) ?_
  refine lv_iconst (v := nI 1) hx hb dL_law_416 (by decide) ?_
  refine n_iadd (v := nI ((4 * i) + 1)) hx hb dL_law_417 (nI_add _ _) ?_
  refine n_sld (j := (4 * i) + 1) hx hb hX hbl (Nat.not_le.mpr hbl) hS (by omega) (by omega) dL_law_418 ?_
  refine lv_aload_n hx hb dL_law_419 rfl (lv_at hl 4 rfl) ?_
  refine lv_iload hx hb dL_law_420 (lv_at hl 0 rfl) ?_
  refine lv_iconst (v := nI 2) hx hb dL_law_422 (by decide) ?_
  refine n_iadd (v := nI ((4 * i) + 2)) hx hb dL_law_423 (nI_add _ _) ?_
  refine n_sld (j := (4 * i) + 2) hx hb hX hbl (Nat.not_le.mpr hbl) hS (by omega) (by omega) dL_law_424 ?_
  refine lv_aload_n hx hb dL_law_425 rfl (lv_at hl 1 rfl) ?_
  refine lsS (A0 := AH s) (As := [.ref (ad 0), .int (xs ((4 * i) + 1)), .int (xs ((4 * i) + 2)), .ref z]) (rest := []) ⟨hx, hb, hml, hown, hts⟩ (c_L_takeBeat l D cI cZ cL cJ hst ad n now told v hwf hG.1.1 z f hG.z_AX (xs ((4 * i) + 1)) (xs ((4 * i) + 2))) (vx_cwSW 4 hts gL_law_L_takeBeat rfl rfl rfl (by decide +kernel) ⟨(Nat.le_of_ble_eq_true rfl), (Nat.le_of_ble_eq_true rfl)⟩) hK ((hEN.kept hS.2.1).narrow hG.toAL) ⟨hPX, hO⟩ rfl hl.1 rfl (Nat.le_of_ble_eq_true rfl) dL_law_426 ⟨by show 36 + 4 * i + 2 ≤ 668203; omega, by show 300 + 24 * i + 12 ≤ 7091495; omega⟩ hS hG.toAL (fun H1 locs1 _ hLE hz1 hk1 hS => ?_)
  obtain ⟨hPX, f1, hO, hf1⟩ := hLE
  have hPM := PM_keep hPM hG.am_AL hk1
  have hwf2 : WFX n now (if cd1 (btOk n v (xs ((4 * i) + 1)) (xs ((4 * i) + 2))) = 0 then updv v (ixx (xs ((4 * i) + 1))) (remL (v (ixx (xs ((4 * i) + 1)))) (ixx (xs ((4 * i) + 2)))) else v) := by
    by_cases h0 : cd1 (btOk n v (xs ((4 * i) + 1)) (xs ((4 * i) + 2))) = 0
    · rw [if_pos h0]; exact wf_upd hwf (fun hj => wfl_rem (hwf.2.2 _ hj))
    · rw [if_neg h0]; exact hwf
  have hnow2 : now ≤ 500 * (i + 1) := by omega
  refine lv_istore (lv' := [(5, .int (nI (cd1 (btOk n v (xs ((4 * i) + 1)) (xs ((4 * i) + 2)))))), (4, .int (nI (4 * i))), (3, .ref z), (2, .ref (am 0)), (1, .ref (ad 0)), (0, .ref b)]) hx hb dL_law_429 hl (by decide) rfl (fun ls hl => ?_)
  refine lv_aload_n hx hb dL_law_431 rfl (lv_at hl 3 rfl) ?_
  refine lv_aload_n hx hb dL_law_432 rfl (lv_at hl 5 rfl) ?_
  refine lv_iload hx hb dL_law_433 (lv_at hl 1 rfl) ?_
  refine lv_iconst (v := nI 1) hx hb dL_law_435 (by decide) ?_
  refine n_iadd (v := nI ((4 * i) + 1)) hx hb dL_law_436 (nI_add _ _) ?_
  refine n_sld (j := (4 * i) + 1) hx hb hX hbl (Nat.not_le.mpr hbl) hS (by omega) (by omega) dL_law_437 ?_
  refine lv_aload_n hx hb dL_law_438 rfl (lv_at hl 5 rfl) ?_
  refine lv_iload hx hb dL_law_439 (lv_at hl 1 rfl) ?_
  refine lv_iconst (v := nI 2) hx hb dL_law_441 (by decide) ?_
  refine n_iadd (v := nI ((4 * i) + 2)) hx hb dL_law_442 (nI_add _ _) ?_
  refine n_sld (j := (4 * i) + 2) hx hb hX hbl (Nat.not_le.mpr hbl) hS (by omega) (by omega) dL_law_443 ?_
  refine wV (A0 := AH s) (As := [.int (xs ((4 * i) + 1)), .int (xs ((4 * i) + 2))]) (rest := []) ⟨hx, hb, hml, hown, hts⟩ (c_X2_takeBeat l D cI cZ cL cJ am th n now told v hwf hG.1.2 (xs ((4 * i) + 1)) (xs ((4 * i) + 2))) (cwV 2 hts gL_law_X2_takeBeat rfl rfl rfl (by decide +kernel) ⟨(Nat.le_of_ble_eq_true rfl), (Nat.le_of_ble_eq_true rfl)⟩) hK ((hEN.kept hS.2.1).narrow hG.toAM) hPM (RC_of (q := (RX2, TX2, 9)) (ci := 2) hK rfl (vpa hPM 0 rfl)) rfl hl.1 rfl (Nat.le_of_ble_eq_true rfl) dL_law_444 ⟨by show 36 + 4 * i + 2 + 0 ≤ 668203; omega, by show 300 + 24 * i + 12 + 0 ≤ 7091495; omega⟩ hS hG.toAM (fun H2 locs2 _ hPM hz2 hk2 hS => ?_)
  have hPM : PM D cI cZ am (nI (cd1 (btOk n v (xs ((4 * i) + 1)) (xs ((4 * i) + 2))))) n now told (if cd1 (btOk n v (xs ((4 * i) + 1)) (xs ((4 * i) + 2))) = 0 then updv v (ixx (xs ((4 * i) + 1))) (remL (v (ixx (xs ((4 * i) + 1)))) (ixx (xs ((4 * i) + 2)))) else v) H2 := hPM
  have hPX := PX_keep hPX hG.ad_AM hk2
  have hO := outK hO hG.z_AM hk2
  refine lv_istore (lv' := [(6, .int (mrI (cd1 (btOk n v (xs ((4 * i) + 1)) (xs ((4 * i) + 2)))) (nI (lbc (v (ixx (xs ((4 * i) + 1)))) - 1)))), (5, .int (nI (cd1 (btOk n v (xs ((4 * i) + 1)) (xs ((4 * i) + 2)))))), (4, .int (nI (4 * i))), (3, .ref z), (2, .ref (am 0)), (1, .ref (ad 0)), (0, .ref b)]) hx hb dL_law_447 hl (by decide) rfl (fun ls hl => ?_)
  refine lv_aload_n hx hb dL_law_449 rfl (lv_at hl 4 rfl) ?_
  refine rV (r := nI (cd1 (btOk n v (xs ((4 * i) + 1)) (xs ((4 * i) + 2))))) (As := []) (rest := []) ⟨hx, hb, hml, hown, hts⟩ (c_X2_thrown l D cI cZ cL cJ am (nI (cd1 (btOk n v (xs ((4 * i) + 1)) (xs ((4 * i) + 2))))) n now told (if cd1 (btOk n v (xs ((4 * i) + 1)) (xs ((4 * i) + 2))) = 0 then updv v (ixx (xs ((4 * i) + 1))) (remL (v (ixx (xs ((4 * i) + 1)))) (ixx (xs ((4 * i) + 2)))) else v) hwf2) (cwV 0 hts gL_law_X2_thrown rfl rfl rfl (by decide +kernel) ⟨(Nat.le_of_ble_eq_true rfl), (Nat.le_of_ble_eq_true rfl)⟩) hK ((hEN.kept hS.2.1).narrow (fun _ h => h.elim)) hPM (RC_of (q := (RX2, TX2, 9)) (ci := 2) hK rfl (vpa hPM 0 rfl)) rfl hl.1 rfl (Nat.le_of_ble_eq_true rfl) dL_law_450 ⟨by show 36 + 4 * i + 2 + 0 ≤ 668203; omega, by show 300 + 24 * i + 12 + 0 ≤ 7091495; omega⟩ ?_
  refine lv_iload hx hb dL_law_453 (lv_at hl 1 rfl) ?_
  refine lv_icmp_eq (tgt := 460) hx hb dL_law_455 (by decide) (fun c_455 => ?_) (fun c_455 => ?_)
  · refine lv_iload hx hb dL_law_460 (lv_at hl 1 rfl) ?_
    refine n_if_ne (a := cd1 (btOk n v (xs ((4 * i) + 1)) (xs ((4 * i) + 2)))) (tgt := 477) hx hb (cd1_lt _) dL_law_462 (by decide) (fun c_462 => ?_) (fun c_462 => ?_)
    · refine lv_goto (tgt := 1883) hx hb dL_law_477 (by decide) ?_
      refine W.widen (k := 36 + 4 * (i + 1)) (n := 300 + 24 * (i + 1)) (by omega) (by omega) ?_
      exact kk n now told (nI (cd1 (btOk n v (xs ((4 * i) + 1)) (xs ((4 * i) + 2))))) (if cd1 (btOk n v (xs ((4 * i) + 1)) (xs ((4 * i) + 2))) = 0 then updv v (ixx (xs ((4 * i) + 1))) (remL (v (ixx (xs ((4 * i) + 1)))) (ixx (xs ((4 * i) + 2)))) else v) f1 H2 locs2 ls hwf2 hnow2 hPX hPM hO hS (lv_sub hl [2, 3, 4, 5, 6] rfl)
    · refine lv_aload_n hx hb dL_law_465 rfl (lv_at hl 3 rfl) ?_
      refine lv_iconst (v := nI 0) hx hb dL_law_466 (by decide) ?_
      refine va_lald hx hb hK hO 0 3 rfl rfl (show vp_in (nI 0) 1 from vp_in_nI (by decide) (by decide)) dL_law_467 ?_
      refine n_tl (y := f1 0) (by rw [nI_clamp (by decide)]) ?_
      refine lv_iload hx hb dL_law_468 (lv_at hl 0 rfl) ?_
      refine lv_i2l (v := (mrI (cd1 (btOk n v (xs ((4 * i) + 1)) (xs ((4 * i) + 2)))) (nI (lbc (v (ixx (xs ((4 * i) + 1)))) - 1))).toInt64) hx hb dL_law_470 rfl ?_
      refine W.lcmp hx hb dL_law_471 ?_
      refine lv_if_eq (tgt := 477) hx hb dL_law_472 (by decide) (fun c_472 => ?_) (fun c_472 => ?_)
      · refine lv_goto (tgt := 1883) hx hb dL_law_477 (by decide) ?_
        refine W.widen (k := 36 + 4 * (i + 1)) (n := 300 + 24 * (i + 1)) (by omega) (by omega) ?_
        exact kk n now told (nI (cd1 (btOk n v (xs ((4 * i) + 1)) (xs ((4 * i) + 2))))) (if cd1 (btOk n v (xs ((4 * i) + 1)) (xs ((4 * i) + 2))) = 0 then updv v (ixx (xs ((4 * i) + 1))) (remL (v (ixx (xs ((4 * i) + 1)))) (ixx (xs ((4 * i) + 2)))) else v) f1 H2 locs2 ls hwf2 hnow2 hPX hPM hO hS (lv_sub hl [2, 3, 4, 5, 6] rfl)
      · exact absurd (lgc ((hf1 c_462).trans (by rw [mrI_t c_462]))) c_472
  · exact absurd rfl c_455
set_option maxHeartbeats 4000000 in
set_option maxRecDepth 100000 in
theorem kL_4 {p : Program} {l : Launch} {e : Env} {s : State} {m : MethodId} {below : List Frame} {meth : Method} {c : Code} {Q : State → Prop} {b L : Nat} {xs : Nat → Int32} {D : va_G} {cI cZ cL cJ : ClassId} {ad am : Nat → Nat} {z : Nat} (hst : l.stackTraces = false) (hL : L ≤ 2048) (hx : p.tables.exec = Jvm.exec) (hb : c.code = cL_law) (hml : c.maxLocals = 9) (hown : s.vm.findClass RL = some m.cls) (hts : ∀ w ∈ wsL_law, w.before #[Value.ref b] s = true) (hX : va_X b L xs s s.heap) (hbl : b < s.heap.size) (hK : va_K D vwCl (TY cI cZ cL cJ) s) (hEN : EN (AH s) s s.heap) (hG : GG s ad am z) {i n now : Nat} {told th : Int32} {v : Nat → LV} {f : Nat → Int64} {H : Heap} {locs : List Loc} {ls : Array Slot} (hwf : WFX n now v) (hnow : now ≤ 500 * i) (hi : 4 * i + 4 ≤ L) (hPX : PX D cI cL ad n now told v H) (hPM : PM D cI cZ am th n now told v H) (hO : va_P D vwCl (outW cJ z f) H) (hS : va_S (AH s) s.heap H locs) (hl : lv_has ls 9 [(4, .int (nI (4 * i))), (3, .ref z), (2, .ref (am 0)), (1, .ref (ad 0)), (0, .ref b)]) (kk : ∀ (n now : Nat) (told th : Int32) (v : Nat → LV) (f : Nat → Int64) (H : Heap) (locs : List Loc) (ls : Array Slot), WFX n now v → now ≤ 500 * (i + 1) → PX D cI cL ad n now told v H → PM D cI cZ am th n now told v H → va_P D vwCl (outW cJ z f) H → va_S (AH s) s.heap H locs → lv_has ls 9 [(4, .int (nI (4 * i))), (3, .ref z), (2, .ref (am 0)), (1, .ref (ad 0)), (0, .ref b)] → W p l e room_1 s m #[Value.ref b] below meth c H locs (36 + 4 * (i + 1)) (300 + 24 * (i + 1)) Q (F0 m 1883 ls [])) : W p l e room_1 s m #[Value.ref b] below meth c H locs (36 + 4 * i) (300 + 24 * i) Q (F0 m 480 ls []) := by
  refine lv_aload_n hx hb dL_law_480 rfl (lv_at hl 3 rfl) ?_
  refine lv_aload_n hx hb dL_law_481 rfl (lv_at hl 4 rfl) ?_
  refine lv_iload hx hb dL_law_482 (lv_at hl 0 rfl) ?_
  refine lv_iconst (v := nI 1) hx hb dL_law_484 (by decide) ?_
  refine n_iadd (v := nI ((4 * i) + 1)) hx hb dL_law_485 (nI_add _ _) ?_
  refine n_sld (j := (4 * i) + 1) hx hb hX hbl (Nat.not_le.mpr hbl) hS (by omega) (by omega) dL_law_486 ?_
  refine lv_aload_n hx hb dL_law_487 rfl (lv_at hl 1 rfl) ?_
  refine lsS (A0 := AH s) (As := [.ref (ad 0), .int (xs ((4 * i) + 1)), .ref z]) (rest := []) ⟨hx, hb, hml, hown, hts⟩ (c_L_turnShutter l D cI cZ cL cJ hst ad n now told v hwf hG.1.1 z f hG.z_AX (xs ((4 * i) + 1))) (vx_cwSW 3 hts gL_law_L_turnShutter rfl rfl rfl (by decide +kernel) ⟨(Nat.le_of_ble_eq_true rfl), (Nat.le_of_ble_eq_true rfl)⟩) hK ((hEN.kept hS.2.1).narrow hG.toAL) ⟨hPX, hO⟩ rfl hl.1 rfl (Nat.le_of_ble_eq_true rfl) dL_law_488 ⟨by show 36 + 4 * i + 1 ≤ 668203; omega, by show 300 + 24 * i + 6 ≤ 7091495; omega⟩ hS hG.toAL (fun H1 locs1 _ hLE hz1 hk1 hS => ?_)
  obtain ⟨hPX, f1, hO, hf1⟩ := hLE
  have hPM := PM_keep hPM hG.am_AL hk1
  have hwf2 : WFX n now (if cd1 (lpOk n (xs ((4 * i) + 1))) = 0 then updv v (ixx (xs ((4 * i) + 1))) (setCv (v (ixx (xs ((4 * i) + 1)))) (!(lcv (v (ixx (xs ((4 * i) + 1))))))) else v) := by
    by_cases h0 : cd1 (lpOk n (xs ((4 * i) + 1))) = 0
    · rw [if_pos h0]; exact wf_upd hwf (fun hj => wfl_cv (hwf.2.2 _ hj))
    · rw [if_neg h0]; exact hwf
  have hnow2 : now ≤ 500 * (i + 1) := by omega
  refine lv_istore (lv' := [(5, .int (nI (cd1 (lpOk n (xs ((4 * i) + 1)))))), (4, .int (nI (4 * i))), (3, .ref z), (2, .ref (am 0)), (1, .ref (ad 0)), (0, .ref b)]) hx hb dL_law_491 hl (by decide) rfl (fun ls hl => ?_)
  refine lv_aload_n hx hb dL_law_493 rfl (lv_at hl 3 rfl) ?_
  refine lv_aload_n hx hb dL_law_494 rfl (lv_at hl 5 rfl) ?_
  refine lv_iload hx hb dL_law_495 (lv_at hl 1 rfl) ?_
  refine lv_iconst (v := nI 1) hx hb dL_law_497 (by decide) ?_
  refine n_iadd (v := nI ((4 * i) + 1)) hx hb dL_law_498 (nI_add _ _) ?_
  refine n_sld (j := (4 * i) + 1) hx hb hX hbl (Nat.not_le.mpr hbl) hS (by omega) (by omega) dL_law_499 ?_
  refine wV (A0 := AH s) (As := [.int (xs ((4 * i) + 1))]) (rest := []) ⟨hx, hb, hml, hown, hts⟩ (c_X2_turnShutter l D cI cZ cL cJ am th n now told v hwf hG.1.2 (xs ((4 * i) + 1))) (cwV 1 hts gL_law_X2_turnShutter rfl rfl rfl (by decide +kernel) ⟨(Nat.le_of_ble_eq_true rfl), (Nat.le_of_ble_eq_true rfl)⟩) hK ((hEN.kept hS.2.1).narrow hG.toAM) hPM (RC_of (q := (RX2, TX2, 9)) (ci := 2) hK rfl (vpa hPM 0 rfl)) rfl hl.1 rfl (Nat.le_of_ble_eq_true rfl) dL_law_500 ⟨by show 36 + 4 * i + 1 + 0 ≤ 668203; omega, by show 300 + 24 * i + 6 + 0 ≤ 7091495; omega⟩ hS hG.toAM (fun H2 locs2 _ hPM hz2 hk2 hS => ?_)
  have hPM : PM D cI cZ am (nI (cd1 (lpOk n (xs ((4 * i) + 1))))) n now told (if cd1 (lpOk n (xs ((4 * i) + 1))) = 0 then updv v (ixx (xs ((4 * i) + 1))) (setCv (v (ixx (xs ((4 * i) + 1)))) (!(lcv (v (ixx (xs ((4 * i) + 1))))))) else v) H2 := hPM
  have hPX := PX_keep hPX hG.ad_AM hk2
  have hO := outK hO hG.z_AM hk2
  refine lv_istore (lv' := [(6, .int (bI (mrB (cd1 (lpOk n (xs ((4 * i) + 1)))) (!(lcv (v (ixx (xs ((4 * i) + 1))))))))), (5, .int (nI (cd1 (lpOk n (xs ((4 * i) + 1)))))), (4, .int (nI (4 * i))), (3, .ref z), (2, .ref (am 0)), (1, .ref (ad 0)), (0, .ref b)]) hx hb dL_law_503 hl (by decide) rfl (fun ls hl => ?_)
  refine lv_aload_n hx hb dL_law_505 rfl (lv_at hl 4 rfl) ?_
  refine rV (r := nI (cd1 (lpOk n (xs ((4 * i) + 1))))) (As := []) (rest := []) ⟨hx, hb, hml, hown, hts⟩ (c_X2_thrown l D cI cZ cL cJ am (nI (cd1 (lpOk n (xs ((4 * i) + 1))))) n now told (if cd1 (lpOk n (xs ((4 * i) + 1))) = 0 then updv v (ixx (xs ((4 * i) + 1))) (setCv (v (ixx (xs ((4 * i) + 1)))) (!(lcv (v (ixx (xs ((4 * i) + 1))))))) else v) hwf2) (cwV 0 hts gL_law_X2_thrown rfl rfl rfl (by decide +kernel) ⟨(Nat.le_of_ble_eq_true rfl), (Nat.le_of_ble_eq_true rfl)⟩) hK ((hEN.kept hS.2.1).narrow (fun _ h => h.elim)) hPM (RC_of (q := (RX2, TX2, 9)) (ci := 2) hK rfl (vpa hPM 0 rfl)) rfl hl.1 rfl (Nat.le_of_ble_eq_true rfl) dL_law_506 ⟨by show 36 + 4 * i + 1 + 0 ≤ 668203; omega, by show 300 + 24 * i + 6 + 0 ≤ 7091495; omega⟩ ?_
  refine lv_iload hx hb dL_law_509 (lv_at hl 1 rfl) ?_
  refine lv_icmp_eq (tgt := 516) hx hb dL_law_511 (by decide) (fun c_511 => ?_) (fun c_511 => ?_)
  · refine lv_iload hx hb dL_law_516 (lv_at hl 1 rfl) ?_
    refine n_if_ne (a := cd1 (lpOk n (xs ((4 * i) + 1)))) (tgt := 540) hx hb (cd1_lt _) dL_law_518 (by decide) (fun c_518 => ?_) (fun c_518 => ?_)
    · refine lv_goto (tgt := 1883) hx hb dL_law_540 (by decide) ?_
      refine W.widen (k := 36 + 4 * (i + 1)) (n := 300 + 24 * (i + 1)) (by omega) (by omega) ?_
      exact kk n now told (nI (cd1 (lpOk n (xs ((4 * i) + 1))))) (if cd1 (lpOk n (xs ((4 * i) + 1))) = 0 then updv v (ixx (xs ((4 * i) + 1))) (setCv (v (ixx (xs ((4 * i) + 1)))) (!(lcv (v (ixx (xs ((4 * i) + 1))))))) else v) f1 H2 locs2 ls hwf2 hnow2 hPX hPM hO hS (lv_sub hl [2, 3, 4, 5, 6] rfl)
    · refine lv_aload_n hx hb dL_law_521 rfl (lv_at hl 3 rfl) ?_
      refine lv_iconst (v := nI 0) hx hb dL_law_522 (by decide) ?_
      refine va_lald hx hb hK hO 0 3 rfl rfl (show vp_in (nI 0) 1 from vp_in_nI (by decide) (by decide)) dL_law_523 ?_
      refine n_tl (y := f1 0) (by rw [nI_clamp (by decide)]) ?_
      refine lv_iload hx hb dL_law_524 (lv_at hl 0 rfl) ?_
      refine b_if_eq (b := mrB (cd1 (lpOk n (xs ((4 * i) + 1)))) (!(lcv (v (ixx (xs ((4 * i) + 1))))))) (tgt := 533) hx hb dL_law_526 (by decide) (fun c_526 => ?_) (fun c_526 => ?_)
      · refine lv_lconst (v := 0) hx hb dL_law_533 (by decide) ?_
        refine W.lcmp hx hb dL_law_534 ?_
        refine lv_if_eq (tgt := 540) hx hb dL_law_535 (by decide) (fun c_535 => ?_) (fun c_535 => ?_)
        · refine lv_goto (tgt := 1883) hx hb dL_law_540 (by decide) ?_
          refine W.widen (k := 36 + 4 * (i + 1)) (n := 300 + 24 * (i + 1)) (by omega) (by omega) ?_
          exact kk n now told (nI (cd1 (lpOk n (xs ((4 * i) + 1))))) (if cd1 (lpOk n (xs ((4 * i) + 1))) = 0 then updv v (ixx (xs ((4 * i) + 1))) (setCv (v (ixx (xs ((4 * i) + 1)))) (!(lcv (v (ixx (xs ((4 * i) + 1))))))) else v) f1 H2 locs2 ls hwf2 hnow2 hPX hPM hO hS (lv_sub hl [2, 3, 4, 5, 6] rfl)
        · exact absurd (lgc ((hf1 c_518).trans (by rw [← mrB_t (b := (!(lcv (v (ixx (xs ((4 * i) + 1))))))) c_518, c_526]; rfl))) c_535
      · refine lv_lconst (v := 1) hx hb dL_law_529 (by decide) ?_
        refine lv_goto (tgt := 534) hx hb dL_law_530 (by decide) ?_
        refine W.lcmp hx hb dL_law_534 ?_
        refine lv_if_eq (tgt := 540) hx hb dL_law_535 (by decide) (fun c_535 => ?_) (fun c_535 => ?_)
        · refine lv_goto (tgt := 1883) hx hb dL_law_540 (by decide) ?_
          refine W.widen (k := 36 + 4 * (i + 1)) (n := 300 + 24 * (i + 1)) (by omega) (by omega) ?_
          exact kk n now told (nI (cd1 (lpOk n (xs ((4 * i) + 1))))) (if cd1 (lpOk n (xs ((4 * i) + 1))) = 0 then updv v (ixx (xs ((4 * i) + 1))) (setCv (v (ixx (xs ((4 * i) + 1)))) (!(lcv (v (ixx (xs ((4 * i) + 1))))))) else v) f1 H2 locs2 ls hwf2 hnow2 hPX hPM hO hS (lv_sub hl [2, 3, 4, 5, 6] rfl)
        · exact absurd (lgc ((hf1 c_518).trans (by rw [← mrB_t (b := (!(lcv (v (ixx (xs ((4 * i) + 1))))))) c_518, c_526]; rfl))) c_535
  · exact absurd rfl c_511
set_option maxHeartbeats 4000000 in
set_option maxRecDepth 100000 in
theorem kL_5 {p : Program} {l : Launch} {e : Env} {s : State} {m : MethodId} {below : List Frame} {meth : Method} {c : Code} {Q : State → Prop} {b L : Nat} {xs : Nat → Int32} {D : va_G} {cI cZ cL cJ : ClassId} {ad am : Nat → Nat} {z : Nat} (hst : l.stackTraces = false) (hL : L ≤ 2048) (hx : p.tables.exec = Jvm.exec) (hb : c.code = cL_law) (hml : c.maxLocals = 9) (hown : s.vm.findClass RL = some m.cls) (hts : ∀ w ∈ wsL_law, w.before #[Value.ref b] s = true) (hX : va_X b L xs s s.heap) (hbl : b < s.heap.size) (hK : va_K D vwCl (TY cI cZ cL cJ) s) (hEN : EN (AH s) s s.heap) (hG : GG s ad am z) {i n now : Nat} {told th : Int32} {v : Nat → LV} {f : Nat → Int64} {H : Heap} {locs : List Loc} {ls : Array Slot} (hwf : WFX n now v) (hnow : now ≤ 500 * i) (hi : 4 * i + 4 ≤ L) (hPX : PX D cI cL ad n now told v H) (hPM : PM D cI cZ am th n now told v H) (hO : va_P D vwCl (outW cJ z f) H) (hS : va_S (AH s) s.heap H locs) (hl : lv_has ls 9 [(4, .int (nI (4 * i))), (3, .ref z), (2, .ref (am 0)), (1, .ref (ad 0)), (0, .ref b)]) (kk : ∀ (n now : Nat) (told th : Int32) (v : Nat → LV) (f : Nat → Int64) (H : Heap) (locs : List Loc) (ls : Array Slot), WFX n now v → now ≤ 500 * (i + 1) → PX D cI cL ad n now told v H → PM D cI cZ am th n now told v H → va_P D vwCl (outW cJ z f) H → va_S (AH s) s.heap H locs → lv_has ls 9 [(4, .int (nI (4 * i))), (3, .ref z), (2, .ref (am 0)), (1, .ref (ad 0)), (0, .ref b)] → W p l e room_1 s m #[Value.ref b] below meth c H locs (36 + 4 * (i + 1)) (300 + 24 * (i + 1)) Q (F0 m 1883 ls [])) : W p l e room_1 s m #[Value.ref b] below meth c H locs (36 + 4 * i) (300 + 24 * i) Q (F0 m 543 ls []) := by
  refine lv_aload_n hx hb dL_law_543 rfl (lv_at hl 3 rfl) ?_
  refine lv_aload_n hx hb dL_law_544 rfl (lv_at hl 4 rfl) ?_
  refine lv_iload hx hb dL_law_545 (lv_at hl 0 rfl) ?_
  refine lv_iconst (v := nI 1) hx hb dL_law_547 (by decide) ?_
  refine n_iadd (v := nI ((4 * i) + 1)) hx hb dL_law_548 (nI_add _ _) ?_
  refine n_sld (j := (4 * i) + 1) hx hb hX hbl (Nat.not_le.mpr hbl) hS (by omega) (by omega) dL_law_549 ?_
  refine lv_aload_n hx hb dL_law_550 rfl (lv_at hl 1 rfl) ?_
  refine lsS (A0 := AH s) (As := [.ref (ad 0), .int (xs ((4 * i) + 1)), .ref z]) (rest := []) ⟨hx, hb, hml, hown, hts⟩ (c_L_pass l D cI cZ cL cJ hst ad n now told v hwf hG.1.1 z f hG.z_AX (xs ((4 * i) + 1))) (vx_cwSW 3 hts gL_law_L_pass rfl rfl rfl (by decide +kernel) ⟨(Nat.le_of_ble_eq_true rfl), (Nat.le_of_ble_eq_true rfl)⟩) hK ((hEN.kept hS.2.1).narrow hG.toAL) ⟨hPX, hO⟩ rfl hl.1 rfl (Nat.le_of_ble_eq_true rfl) dL_law_551 ⟨by show 36 + 4 * i + 1 ≤ 668203; omega, by show 300 + 24 * i + 6 ≤ 7091495; omega⟩ hS hG.toAL (fun H1 locs1 _ hLE hz1 hk1 hS => ?_)
  obtain ⟨hPX, f1, hO, hf1⟩ := hLE
  have hPM := PM_keep hPM hG.am_AL hk1
  have hnow2 : (if cd1 (inB (nI 1) (nI 500) (xs ((4 * i) + 1))) = 0 then now + ixx (xs ((4 * i) + 1)) else now) ≤ 500 * (i + 1) := by
    by_cases h0 : cd1 (inB (nI 1) (nI 500) (xs ((4 * i) + 1))) = 0
    · rw [if_pos h0]
      obtain ⟨y, hy1, hy2, hy3⟩ := inB_j (by decide) (by decide) (cd1_0 h0)
      rw [hy3, ixx_nI (by omega)]; omega
    · rw [if_neg h0]; omega
  have hwf2 : WFX n (if cd1 (inB (nI 1) (nI 500) (xs ((4 * i) + 1))) = 0 then now + ixx (xs ((4 * i) + 1)) else now) v := wf_now hwf (by omega)
  refine lv_istore (lv' := [(5, .int (nI (cd1 (inB (nI 1) (nI 500) (xs ((4 * i) + 1)))))), (4, .int (nI (4 * i))), (3, .ref z), (2, .ref (am 0)), (1, .ref (ad 0)), (0, .ref b)]) hx hb dL_law_554 hl (by decide) rfl (fun ls hl => ?_)
  refine lv_aload_n hx hb dL_law_556 rfl (lv_at hl 3 rfl) ?_
  refine lv_aload_n hx hb dL_law_557 rfl (lv_at hl 5 rfl) ?_
  refine lv_iload hx hb dL_law_558 (lv_at hl 1 rfl) ?_
  refine lv_iconst (v := nI 1) hx hb dL_law_560 (by decide) ?_
  refine n_iadd (v := nI ((4 * i) + 1)) hx hb dL_law_561 (nI_add _ _) ?_
  refine n_sld (j := (4 * i) + 1) hx hb hX hbl (Nat.not_le.mpr hbl) hS (by omega) (by omega) dL_law_562 ?_
  refine wV (A0 := AH s) (As := [.int (xs ((4 * i) + 1))]) (rest := []) ⟨hx, hb, hml, hown, hts⟩ (c_X2_pass l D cI cZ cL cJ am th n now told v hwf hG.1.2 (by omega) (xs ((4 * i) + 1))) (cwV 1 hts gL_law_X2_pass rfl rfl rfl (by decide +kernel) ⟨(Nat.le_of_ble_eq_true rfl), (Nat.le_of_ble_eq_true rfl)⟩) hK ((hEN.kept hS.2.1).narrow hG.toAM) hPM (RC_of (q := (RX2, TX2, 9)) (ci := 2) hK rfl (vpa hPM 0 rfl)) rfl hl.1 rfl (Nat.le_of_ble_eq_true rfl) dL_law_563 ⟨by show 36 + 4 * i + 1 + 0 ≤ 668203; omega, by show 300 + 24 * i + 6 + 0 ≤ 7091495; omega⟩ hS hG.toAM (fun H2 locs2 _ hPM hz2 hk2 hS => ?_)
  have hPM : PM D cI cZ am (nI (cd1 (inB (nI 1) (nI 500) (xs ((4 * i) + 1))))) n (if cd1 (inB (nI 1) (nI 500) (xs ((4 * i) + 1))) = 0 then now + ixx (xs ((4 * i) + 1)) else now) (if cd1 (inB (nI 1) (nI 500) (xs ((4 * i) + 1))) = 0 then told + nI (psN v n now (ixx (xs ((4 * i) + 1)))) else told) v H2 := hPM
  have hPX := PX_keep hPX hG.ad_AM hk2
  have hO := outK hO hG.z_AM hk2
  refine lv_istore (lv' := [(6, .int (mrI (cd1 (inB (nI 1) (nI 500) (xs ((4 * i) + 1)))) (nI (psN v n now (ixx (xs ((4 * i) + 1))))))), (5, .int (nI (cd1 (inB (nI 1) (nI 500) (xs ((4 * i) + 1)))))), (4, .int (nI (4 * i))), (3, .ref z), (2, .ref (am 0)), (1, .ref (ad 0)), (0, .ref b)]) hx hb dL_law_566 hl (by decide) rfl (fun ls hl => ?_)
  refine lv_aload_n hx hb dL_law_568 rfl (lv_at hl 4 rfl) ?_
  refine rV (r := nI (cd1 (inB (nI 1) (nI 500) (xs ((4 * i) + 1))))) (As := []) (rest := []) ⟨hx, hb, hml, hown, hts⟩ (c_X2_thrown l D cI cZ cL cJ am (nI (cd1 (inB (nI 1) (nI 500) (xs ((4 * i) + 1))))) n (if cd1 (inB (nI 1) (nI 500) (xs ((4 * i) + 1))) = 0 then now + ixx (xs ((4 * i) + 1)) else now) (if cd1 (inB (nI 1) (nI 500) (xs ((4 * i) + 1))) = 0 then told + nI (psN v n now (ixx (xs ((4 * i) + 1)))) else told) v hwf2) (cwV 0 hts gL_law_X2_thrown rfl rfl rfl (by decide +kernel) ⟨(Nat.le_of_ble_eq_true rfl), (Nat.le_of_ble_eq_true rfl)⟩) hK ((hEN.kept hS.2.1).narrow (fun _ h => h.elim)) hPM (RC_of (q := (RX2, TX2, 9)) (ci := 2) hK rfl (vpa hPM 0 rfl)) rfl hl.1 rfl (Nat.le_of_ble_eq_true rfl) dL_law_569 ⟨by show 36 + 4 * i + 1 + 0 ≤ 668203; omega, by show 300 + 24 * i + 6 + 0 ≤ 7091495; omega⟩ ?_
  refine lv_iload hx hb dL_law_572 (lv_at hl 1 rfl) ?_
  refine lv_icmp_eq (tgt := 579) hx hb dL_law_574 (by decide) (fun c_574 => ?_) (fun c_574 => ?_)
  · refine lv_iload hx hb dL_law_579 (lv_at hl 1 rfl) ?_
    refine n_if_ne (a := cd1 (inB (nI 1) (nI 500) (xs ((4 * i) + 1)))) (tgt := 596) hx hb (cd1_lt _) dL_law_581 (by decide) (fun c_581 => ?_) (fun c_581 => ?_)
    · refine lv_goto (tgt := 1883) hx hb dL_law_596 (by decide) ?_
      refine W.widen (k := 36 + 4 * (i + 1)) (n := 300 + 24 * (i + 1)) (by omega) (by omega) ?_
      exact kk n (if cd1 (inB (nI 1) (nI 500) (xs ((4 * i) + 1))) = 0 then now + ixx (xs ((4 * i) + 1)) else now) (if cd1 (inB (nI 1) (nI 500) (xs ((4 * i) + 1))) = 0 then told + nI (psN v n now (ixx (xs ((4 * i) + 1)))) else told) (nI (cd1 (inB (nI 1) (nI 500) (xs ((4 * i) + 1))))) v f1 H2 locs2 ls hwf2 hnow2 hPX hPM hO hS (lv_sub hl [2, 3, 4, 5, 6] rfl)
    · refine lv_aload_n hx hb dL_law_584 rfl (lv_at hl 3 rfl) ?_
      refine lv_iconst (v := nI 0) hx hb dL_law_585 (by decide) ?_
      refine va_lald hx hb hK hO 0 3 rfl rfl (show vp_in (nI 0) 1 from vp_in_nI (by decide) (by decide)) dL_law_586 ?_
      refine n_tl (y := f1 0) (by rw [nI_clamp (by decide)]) ?_
      refine lv_iload hx hb dL_law_587 (lv_at hl 0 rfl) ?_
      refine lv_i2l (v := (mrI (cd1 (inB (nI 1) (nI 500) (xs ((4 * i) + 1)))) (nI (psN v n now (ixx (xs ((4 * i) + 1)))))).toInt64) hx hb dL_law_589 rfl ?_
      refine W.lcmp hx hb dL_law_590 ?_
      refine lv_if_eq (tgt := 596) hx hb dL_law_591 (by decide) (fun c_591 => ?_) (fun c_591 => ?_)
      · refine lv_goto (tgt := 1883) hx hb dL_law_596 (by decide) ?_
        refine W.widen (k := 36 + 4 * (i + 1)) (n := 300 + 24 * (i + 1)) (by omega) (by omega) ?_
        exact kk n (if cd1 (inB (nI 1) (nI 500) (xs ((4 * i) + 1))) = 0 then now + ixx (xs ((4 * i) + 1)) else now) (if cd1 (inB (nI 1) (nI 500) (xs ((4 * i) + 1))) = 0 then told + nI (psN v n now (ixx (xs ((4 * i) + 1)))) else told) (nI (cd1 (inB (nI 1) (nI 500) (xs ((4 * i) + 1))))) v f1 H2 locs2 ls hwf2 hnow2 hPX hPM hO hS (lv_sub hl [2, 3, 4, 5, 6] rfl)
      · exact absurd (lgc ((hf1 c_581).trans (by rw [mrI_t c_581]))) c_591
  · exact absurd rfl c_574
set_option maxHeartbeats 4000000 in
set_option maxRecDepth 100000 in
theorem kL_6 {p : Program} {l : Launch} {e : Env} {s : State} {m : MethodId} {below : List Frame} {meth : Method} {c : Code} {Q : State → Prop} {b L : Nat} {xs : Nat → Int32} {D : va_G} {cI cZ cL cJ : ClassId} {ad am : Nat → Nat} {z : Nat} (hst : l.stackTraces = false) (hL : L ≤ 2048) (hx : p.tables.exec = Jvm.exec) (hb : c.code = cL_law) (hml : c.maxLocals = 9) (hown : s.vm.findClass RL = some m.cls) (hts : ∀ w ∈ wsL_law, w.before #[Value.ref b] s = true) (hX : va_X b L xs s s.heap) (hbl : b < s.heap.size) (hK : va_K D vwCl (TY cI cZ cL cJ) s) (hEN : EN (AH s) s s.heap) (hG : GG s ad am z) {i n now : Nat} {told th : Int32} {v : Nat → LV} {f : Nat → Int64} {H : Heap} {locs : List Loc} {ls : Array Slot} (hwf : WFX n now v) (hnow : now ≤ 500 * i) (hi : 4 * i + 4 ≤ L) (hPX : PX D cI cL ad n now told v H) (hPM : PM D cI cZ am th n now told v H) (hO : va_P D vwCl (outW cJ z f) H) (hS : va_S (AH s) s.heap H locs) (hl : lv_has ls 9 [(4, .int (nI (4 * i))), (3, .ref z), (2, .ref (am 0)), (1, .ref (ad 0)), (0, .ref b)]) (kk : ∀ (n now : Nat) (told th : Int32) (v : Nat → LV) (f : Nat → Int64) (H : Heap) (locs : List Loc) (ls : Array Slot), WFX n now v → now ≤ 500 * (i + 1) → PX D cI cL ad n now told v H → PM D cI cZ am th n now told v H → va_P D vwCl (outW cJ z f) H → va_S (AH s) s.heap H locs → lv_has ls 9 [(4, .int (nI (4 * i))), (3, .ref z), (2, .ref (am 0)), (1, .ref (ad 0)), (0, .ref b)] → W p l e room_1 s m #[Value.ref b] below meth c H locs (36 + 4 * (i + 1)) (300 + 24 * (i + 1)) Q (F0 m 1883 ls [])) : W p l e room_1 s m #[Value.ref b] below meth c H locs (36 + 4 * i) (300 + 24 * i) Q (F0 m 599 ls []) := by
  refine lv_aload_n hx hb dL_law_599 rfl (lv_at hl 3 rfl) ?_
  refine rV (r := nI n) (As := []) (rest := []) ⟨hx, hb, hml, hown, hts⟩ (c_X1_lamps l D cI cZ cL cJ ad n now told v hwf) (cwV 0 hts gL_law_X1_lamps rfl rfl rfl (by decide +kernel) ⟨(Nat.le_of_ble_eq_true rfl), (Nat.le_of_ble_eq_true rfl)⟩) hK ((hEN.kept hS.2.1).narrow (fun _ h => h.elim)) hPX (RC_of (q := (RX1, TX1, 5)) (ci := 1) hK rfl (vpa hPX.1 0 rfl)) rfl hl.1 rfl (Nat.le_of_ble_eq_true rfl) dL_law_600 ⟨by show 36 + 4 * i ≤ 668203; omega, by show 300 + 24 * i ≤ 7091495; omega⟩ ?_
  refine lv_aload_n hx hb dL_law_603 rfl (lv_at hl 2 rfl) ?_
  refine wV (A0 := AH s) (As := []) (rest := [.int (nI n)]) ⟨hx, hb, hml, hown, hts⟩ (c_X2_lamps l D cI cZ cL cJ am th n now told v hwf hG.1.2 ) (cwV 0 hts gL_law_X2_lamps rfl rfl rfl (by decide +kernel) ⟨(Nat.le_of_ble_eq_true rfl), (Nat.le_of_ble_eq_true rfl)⟩) hK ((hEN.kept hS.2.1).narrow hG.toAM) hPM (RC_of (q := (RX2, TX2, 9)) (ci := 2) hK rfl (vpa hPM 0 rfl)) rfl hl.1 rfl (Nat.le_of_ble_eq_true rfl) dL_law_604 ⟨by show 36 + 4 * i ≤ 668203; omega, by show 300 + 24 * i ≤ 7091495; omega⟩ hS hG.toAM (fun H2 locs2 _ hPM hz2 hk2 hS => ?_)
  have hPM : PM D cI cZ am (nI (0)) n now told v H2 := hPM
  have hwf2 := hwf
  have hnow2 : now ≤ 500 * (i + 1) := by omega
  have hPX := PX_keep hPX hG.ad_AM hk2
  have hO := outK hO hG.z_AM hk2
  refine lv_icmp_eq (tgt := 1883) hx hb dL_law_607 (by decide) (fun c_607 => ?_) (fun c_607 => ?_)
  · refine W.widen (k := 36 + 4 * (i + 1)) (n := 300 + 24 * (i + 1)) (by omega) (by omega) ?_
    exact kk n now told (nI (0)) v f H2 locs2 ls hwf2 hnow2 hPX hPM hO hS (lv_sub hl [0, 1, 2, 3, 4] rfl)
  · exact absurd rfl c_607
set_option maxHeartbeats 4000000 in
set_option maxRecDepth 100000 in
theorem kL_7 {p : Program} {l : Launch} {e : Env} {s : State} {m : MethodId} {below : List Frame} {meth : Method} {c : Code} {Q : State → Prop} {b L : Nat} {xs : Nat → Int32} {D : va_G} {cI cZ cL cJ : ClassId} {ad am : Nat → Nat} {z : Nat} (hst : l.stackTraces = false) (hL : L ≤ 2048) (hx : p.tables.exec = Jvm.exec) (hb : c.code = cL_law) (hml : c.maxLocals = 9) (hown : s.vm.findClass RL = some m.cls) (hts : ∀ w ∈ wsL_law, w.before #[Value.ref b] s = true) (hX : va_X b L xs s s.heap) (hbl : b < s.heap.size) (hK : va_K D vwCl (TY cI cZ cL cJ) s) (hEN : EN (AH s) s s.heap) (hG : GG s ad am z) {i n now : Nat} {told th : Int32} {v : Nat → LV} {f : Nat → Int64} {H : Heap} {locs : List Loc} {ls : Array Slot} (hwf : WFX n now v) (hnow : now ≤ 500 * i) (hi : 4 * i + 4 ≤ L) (hPX : PX D cI cL ad n now told v H) (hPM : PM D cI cZ am th n now told v H) (hO : va_P D vwCl (outW cJ z f) H) (hS : va_S (AH s) s.heap H locs) (hl : lv_has ls 9 [(4, .int (nI (4 * i))), (3, .ref z), (2, .ref (am 0)), (1, .ref (ad 0)), (0, .ref b)]) (kk : ∀ (n now : Nat) (told th : Int32) (v : Nat → LV) (f : Nat → Int64) (H : Heap) (locs : List Loc) (ls : Array Slot), WFX n now v → now ≤ 500 * (i + 1) → PX D cI cL ad n now told v H → PM D cI cZ am th n now told v H → va_P D vwCl (outW cJ z f) H → va_S (AH s) s.heap H locs → lv_has ls 9 [(4, .int (nI (4 * i))), (3, .ref z), (2, .ref (am 0)), (1, .ref (ad 0)), (0, .ref b)] → W p l e room_1 s m #[Value.ref b] below meth c H locs (36 + 4 * (i + 1)) (300 + 24 * (i + 1)) Q (F0 m 1883 ls [])) : W p l e room_1 s m #[Value.ref b] below meth c H locs (36 + 4 * i) (300 + 24 * i) Q (F0 m 612 ls []) := by
  refine lv_aload_n hx hb dL_law_612 rfl (lv_at hl 3 rfl) ?_
  refine rV (r := nI now) (As := []) (rest := []) ⟨hx, hb, hml, hown, hts⟩ (c_X1_now l D cI cZ cL cJ ad n now told v hwf) (cwV 0 hts gL_law_X1_now rfl rfl rfl (by decide +kernel) ⟨(Nat.le_of_ble_eq_true rfl), (Nat.le_of_ble_eq_true rfl)⟩) hK ((hEN.kept hS.2.1).narrow (fun _ h => h.elim)) hPX (RC_of (q := (RX1, TX1, 5)) (ci := 1) hK rfl (vpa hPX.1 0 rfl)) rfl hl.1 rfl (Nat.le_of_ble_eq_true rfl) dL_law_613 ⟨by show 36 + 4 * i ≤ 668203; omega, by show 300 + 24 * i ≤ 7091495; omega⟩ ?_
  refine lv_aload_n hx hb dL_law_616 rfl (lv_at hl 2 rfl) ?_
  refine wV (A0 := AH s) (As := []) (rest := [.int (nI now)]) ⟨hx, hb, hml, hown, hts⟩ (c_X2_now l D cI cZ cL cJ am th n now told v hwf hG.1.2 ) (cwV 0 hts gL_law_X2_now rfl rfl rfl (by decide +kernel) ⟨(Nat.le_of_ble_eq_true rfl), (Nat.le_of_ble_eq_true rfl)⟩) hK ((hEN.kept hS.2.1).narrow hG.toAM) hPM (RC_of (q := (RX2, TX2, 9)) (ci := 2) hK rfl (vpa hPM 0 rfl)) rfl hl.1 rfl (Nat.le_of_ble_eq_true rfl) dL_law_617 ⟨by show 36 + 4 * i ≤ 668203; omega, by show 300 + 24 * i ≤ 7091495; omega⟩ hS hG.toAM (fun H2 locs2 _ hPM hz2 hk2 hS => ?_)
  have hPM : PM D cI cZ am (nI (0)) n now told v H2 := hPM
  have hwf2 := hwf
  have hnow2 : now ≤ 500 * (i + 1) := by omega
  have hPX := PX_keep hPX hG.ad_AM hk2
  have hO := outK hO hG.z_AM hk2
  refine lv_icmp_eq (tgt := 1883) hx hb dL_law_620 (by decide) (fun c_620 => ?_) (fun c_620 => ?_)
  · refine W.widen (k := 36 + 4 * (i + 1)) (n := 300 + 24 * (i + 1)) (by omega) (by omega) ?_
    exact kk n now told (nI (0)) v f H2 locs2 ls hwf2 hnow2 hPX hPM hO hS (lv_sub hl [0, 1, 2, 3, 4] rfl)
  · exact absurd rfl c_620
set_option maxHeartbeats 4000000 in
set_option maxRecDepth 100000 in
theorem kL_8 {p : Program} {l : Launch} {e : Env} {s : State} {m : MethodId} {below : List Frame} {meth : Method} {c : Code} {Q : State → Prop} {b L : Nat} {xs : Nat → Int32} {D : va_G} {cI cZ cL cJ : ClassId} {ad am : Nat → Nat} {z : Nat} (hst : l.stackTraces = false) (hL : L ≤ 2048) (hx : p.tables.exec = Jvm.exec) (hb : c.code = cL_law) (hml : c.maxLocals = 9) (hown : s.vm.findClass RL = some m.cls) (hts : ∀ w ∈ wsL_law, w.before #[Value.ref b] s = true) (hX : va_X b L xs s s.heap) (hbl : b < s.heap.size) (hK : va_K D vwCl (TY cI cZ cL cJ) s) (hEN : EN (AH s) s s.heap) (hG : GG s ad am z) {i n now : Nat} {told th : Int32} {v : Nat → LV} {f : Nat → Int64} {H : Heap} {locs : List Loc} {ls : Array Slot} (hwf : WFX n now v) (hnow : now ≤ 500 * i) (hi : 4 * i + 4 ≤ L) (hPX : PX D cI cL ad n now told v H) (hPM : PM D cI cZ am th n now told v H) (hO : va_P D vwCl (outW cJ z f) H) (hS : va_S (AH s) s.heap H locs) (hl : lv_has ls 9 [(4, .int (nI (4 * i))), (3, .ref z), (2, .ref (am 0)), (1, .ref (ad 0)), (0, .ref b)]) (kk : ∀ (n now : Nat) (told th : Int32) (v : Nat → LV) (f : Nat → Int64) (H : Heap) (locs : List Loc) (ls : Array Slot), WFX n now v → now ≤ 500 * (i + 1) → PX D cI cL ad n now told v H → PM D cI cZ am th n now told v H → va_P D vwCl (outW cJ z f) H → va_S (AH s) s.heap H locs → lv_has ls 9 [(4, .int (nI (4 * i))), (3, .ref z), (2, .ref (am 0)), (1, .ref (ad 0)), (0, .ref b)] → W p l e room_1 s m #[Value.ref b] below meth c H locs (36 + 4 * (i + 1)) (300 + 24 * (i + 1)) Q (F0 m 1883 ls [])) : W p l e room_1 s m #[Value.ref b] below meth c H locs (36 + 4 * i) (300 + 24 * i) Q (F0 m 625 ls []) := by
  refine lv_aload_n hx hb dL_law_625 rfl (lv_at hl 3 rfl) ?_
  refine rV (r := told) (As := []) (rest := []) ⟨hx, hb, hml, hown, hts⟩ (c_X1_changesSeen l D cI cZ cL cJ ad n now told v hwf) (cwV 0 hts gL_law_X1_changesSeen rfl rfl rfl (by decide +kernel) ⟨(Nat.le_of_ble_eq_true rfl), (Nat.le_of_ble_eq_true rfl)⟩) hK ((hEN.kept hS.2.1).narrow (fun _ h => h.elim)) hPX (RC_of (q := (RX1, TX1, 5)) (ci := 1) hK rfl (vpa hPX.1 0 rfl)) rfl hl.1 rfl (Nat.le_of_ble_eq_true rfl) dL_law_626 ⟨by show 36 + 4 * i ≤ 668203; omega, by show 300 + 24 * i ≤ 7091495; omega⟩ ?_
  refine lv_aload_n hx hb dL_law_629 rfl (lv_at hl 2 rfl) ?_
  refine wV (A0 := AH s) (As := []) (rest := [.int told]) ⟨hx, hb, hml, hown, hts⟩ (c_X2_changesSeen l D cI cZ cL cJ am th n now told v hwf hG.1.2 ) (cwV 0 hts gL_law_X2_changesSeen rfl rfl rfl (by decide +kernel) ⟨(Nat.le_of_ble_eq_true rfl), (Nat.le_of_ble_eq_true rfl)⟩) hK ((hEN.kept hS.2.1).narrow hG.toAM) hPM (RC_of (q := (RX2, TX2, 9)) (ci := 2) hK rfl (vpa hPM 0 rfl)) rfl hl.1 rfl (Nat.le_of_ble_eq_true rfl) dL_law_630 ⟨by show 36 + 4 * i ≤ 668203; omega, by show 300 + 24 * i ≤ 7091495; omega⟩ hS hG.toAM (fun H2 locs2 _ hPM hz2 hk2 hS => ?_)
  have hPM : PM D cI cZ am (nI (0)) n now told v H2 := hPM
  have hwf2 := hwf
  have hnow2 : now ≤ 500 * (i + 1) := by omega
  have hPX := PX_keep hPX hG.ad_AM hk2
  have hO := outK hO hG.z_AM hk2
  refine lv_icmp_eq (tgt := 1883) hx hb dL_law_633 (by decide) (fun c_633 => ?_) (fun c_633 => ?_)
  · refine W.widen (k := 36 + 4 * (i + 1)) (n := 300 + 24 * (i + 1)) (by omega) (by omega) ?_
    exact kk n now told (nI (0)) v f H2 locs2 ls hwf2 hnow2 hPX hPM hO hS (lv_sub hl [0, 1, 2, 3, 4] rfl)
  · exact absurd rfl c_633
set_option maxHeartbeats 4000000 in
set_option maxRecDepth 100000 in
theorem kL_9 {p : Program} {l : Launch} {e : Env} {s : State} {m : MethodId} {below : List Frame} {meth : Method} {c : Code} {Q : State → Prop} {b L : Nat} {xs : Nat → Int32} {D : va_G} {cI cZ cL cJ : ClassId} {ad am : Nat → Nat} {z : Nat} (hst : l.stackTraces = false) (hL : L ≤ 2048) (hx : p.tables.exec = Jvm.exec) (hb : c.code = cL_law) (hml : c.maxLocals = 9) (hown : s.vm.findClass RL = some m.cls) (hts : ∀ w ∈ wsL_law, w.before #[Value.ref b] s = true) (hX : va_X b L xs s s.heap) (hbl : b < s.heap.size) (hK : va_K D vwCl (TY cI cZ cL cJ) s) (hEN : EN (AH s) s s.heap) (hG : GG s ad am z) {i n now : Nat} {told th : Int32} {v : Nat → LV} {f : Nat → Int64} {H : Heap} {locs : List Loc} {ls : Array Slot} (hwf : WFX n now v) (hnow : now ≤ 500 * i) (hi : 4 * i + 4 ≤ L) (hPX : PX D cI cL ad n now told v H) (hPM : PM D cI cZ am th n now told v H) (hO : va_P D vwCl (outW cJ z f) H) (hS : va_S (AH s) s.heap H locs) (hl : lv_has ls 9 [(4, .int (nI (4 * i))), (3, .ref z), (2, .ref (am 0)), (1, .ref (ad 0)), (0, .ref b)]) (kk : ∀ (n now : Nat) (told th : Int32) (v : Nat → LV) (f : Nat → Int64) (H : Heap) (locs : List Loc) (ls : Array Slot), WFX n now v → now ≤ 500 * (i + 1) → PX D cI cL ad n now told v H → PM D cI cZ am th n now told v H → va_P D vwCl (outW cJ z f) H → va_S (AH s) s.heap H locs → lv_has ls 9 [(4, .int (nI (4 * i))), (3, .ref z), (2, .ref (am 0)), (1, .ref (ad 0)), (0, .ref b)] → W p l e room_1 s m #[Value.ref b] below meth c H locs (36 + 4 * (i + 1)) (300 + 24 * (i + 1)) Q (F0 m 1883 ls [])) : W p l e room_1 s m #[Value.ref b] below meth c H locs (36 + 4 * i) (300 + 24 * i) Q (F0 m 638 ls []) := by
  refine lv_aload_n hx hb dL_law_638 rfl (lv_at hl 3 rfl) ?_
  refine lv_aload_n hx hb dL_law_639 rfl (lv_at hl 4 rfl) ?_
  refine lv_iload hx hb dL_law_640 (lv_at hl 0 rfl) ?_
  refine lv_iconst (v := nI 1) hx hb dL_law_642 (by decide) ?_
  refine n_iadd (v := nI ((4 * i) + 1)) hx hb dL_law_643 (nI_add _ _) ?_
  refine n_sld (j := (4 * i) + 1) hx hb hX hbl (Nat.not_le.mpr hbl) hS (by omega) (by omega) dL_law_644 ?_
  refine lv_aload_n hx hb dL_law_645 rfl (lv_at hl 1 rfl) ?_
  refine lsS (A0 := AH s) (As := [.ref (ad 0), .int (xs ((4 * i) + 1)), .ref z]) (rest := []) ⟨hx, hb, hml, hown, hts⟩ (c_L_beatsOf l D cI cZ cL cJ hst ad n now told v hwf hG.1.1 z f hG.z_AX (xs ((4 * i) + 1))) (vx_cwSW 3 hts gL_law_L_beatsOf rfl rfl rfl (by decide +kernel) ⟨(Nat.le_of_ble_eq_true rfl), (Nat.le_of_ble_eq_true rfl)⟩) hK ((hEN.kept hS.2.1).narrow hG.toAL) ⟨hPX, hO⟩ rfl hl.1 rfl (Nat.le_of_ble_eq_true rfl) dL_law_646 ⟨by show 36 + 4 * i + 1 ≤ 668203; omega, by show 300 + 24 * i + 6 ≤ 7091495; omega⟩ hS hG.toAL (fun H1 locs1 _ hLE hz1 hk1 hS => ?_)
  obtain ⟨hPX, f1, hO, hf1⟩ := hLE
  have hPM := PM_keep hPM hG.am_AL hk1
  have hwf2 : WFX n now v := hwf
  have hnow2 : now ≤ 500 * (i + 1) := by omega
  refine lv_istore (lv' := [(5, .int (nI (cd1 (lpOk n (xs ((4 * i) + 1)))))), (4, .int (nI (4 * i))), (3, .ref z), (2, .ref (am 0)), (1, .ref (ad 0)), (0, .ref b)]) hx hb dL_law_649 hl (by decide) rfl (fun ls hl => ?_)
  refine lv_aload_n hx hb dL_law_651 rfl (lv_at hl 3 rfl) ?_
  refine lv_aload_n hx hb dL_law_652 rfl (lv_at hl 5 rfl) ?_
  refine lv_iload hx hb dL_law_653 (lv_at hl 1 rfl) ?_
  refine lv_iconst (v := nI 1) hx hb dL_law_655 (by decide) ?_
  refine n_iadd (v := nI ((4 * i) + 1)) hx hb dL_law_656 (nI_add _ _) ?_
  refine n_sld (j := (4 * i) + 1) hx hb hX hbl (Nat.not_le.mpr hbl) hS (by omega) (by omega) dL_law_657 ?_
  refine wV (A0 := AH s) (As := [.int (xs ((4 * i) + 1))]) (rest := []) ⟨hx, hb, hml, hown, hts⟩ (c_X2_beatsOf l D cI cZ cL cJ am th n now told v hwf hG.1.2 (xs ((4 * i) + 1))) (cwV 1 hts gL_law_X2_beatsOf rfl rfl rfl (by decide +kernel) ⟨(Nat.le_of_ble_eq_true rfl), (Nat.le_of_ble_eq_true rfl)⟩) hK ((hEN.kept hS.2.1).narrow hG.toAM) hPM (RC_of (q := (RX2, TX2, 9)) (ci := 2) hK rfl (vpa hPM 0 rfl)) rfl hl.1 rfl (Nat.le_of_ble_eq_true rfl) dL_law_658 ⟨by show 36 + 4 * i + 1 + 0 ≤ 668203; omega, by show 300 + 24 * i + 6 + 0 ≤ 7091495; omega⟩ hS hG.toAM (fun H2 locs2 _ hPM hz2 hk2 hS => ?_)
  have hPM : PM D cI cZ am (nI (cd1 (lpOk n (xs ((4 * i) + 1))))) n now told v H2 := hPM
  have hPX := PX_keep hPX hG.ad_AM hk2
  have hO := outK hO hG.z_AM hk2
  refine lv_istore (lv' := [(6, .int (mrI (cd1 (lpOk n (xs ((4 * i) + 1)))) (nI (lbc (v (ixx (xs ((4 * i) + 1)))))))), (5, .int (nI (cd1 (lpOk n (xs ((4 * i) + 1)))))), (4, .int (nI (4 * i))), (3, .ref z), (2, .ref (am 0)), (1, .ref (ad 0)), (0, .ref b)]) hx hb dL_law_661 hl (by decide) rfl (fun ls hl => ?_)
  refine lv_aload_n hx hb dL_law_663 rfl (lv_at hl 4 rfl) ?_
  refine rV (r := nI (cd1 (lpOk n (xs ((4 * i) + 1))))) (As := []) (rest := []) ⟨hx, hb, hml, hown, hts⟩ (c_X2_thrown l D cI cZ cL cJ am (nI (cd1 (lpOk n (xs ((4 * i) + 1))))) n now told v hwf2) (cwV 0 hts gL_law_X2_thrown rfl rfl rfl (by decide +kernel) ⟨(Nat.le_of_ble_eq_true rfl), (Nat.le_of_ble_eq_true rfl)⟩) hK ((hEN.kept hS.2.1).narrow (fun _ h => h.elim)) hPM (RC_of (q := (RX2, TX2, 9)) (ci := 2) hK rfl (vpa hPM 0 rfl)) rfl hl.1 rfl (Nat.le_of_ble_eq_true rfl) dL_law_664 ⟨by show 36 + 4 * i + 1 + 0 ≤ 668203; omega, by show 300 + 24 * i + 6 + 0 ≤ 7091495; omega⟩ ?_
  refine lv_iload hx hb dL_law_667 (lv_at hl 1 rfl) ?_
  refine lv_icmp_eq (tgt := 674) hx hb dL_law_669 (by decide) (fun c_669 => ?_) (fun c_669 => ?_)
  · refine lv_iload hx hb dL_law_674 (lv_at hl 1 rfl) ?_
    refine n_if_ne (a := cd1 (lpOk n (xs ((4 * i) + 1)))) (tgt := 691) hx hb (cd1_lt _) dL_law_676 (by decide) (fun c_676 => ?_) (fun c_676 => ?_)
    · refine lv_goto (tgt := 1883) hx hb dL_law_691 (by decide) ?_
      refine W.widen (k := 36 + 4 * (i + 1)) (n := 300 + 24 * (i + 1)) (by omega) (by omega) ?_
      exact kk n now told (nI (cd1 (lpOk n (xs ((4 * i) + 1))))) v f1 H2 locs2 ls hwf2 hnow2 hPX hPM hO hS (lv_sub hl [2, 3, 4, 5, 6] rfl)
    · refine lv_aload_n hx hb dL_law_679 rfl (lv_at hl 3 rfl) ?_
      refine lv_iconst (v := nI 0) hx hb dL_law_680 (by decide) ?_
      refine va_lald hx hb hK hO 0 3 rfl rfl (show vp_in (nI 0) 1 from vp_in_nI (by decide) (by decide)) dL_law_681 ?_
      refine n_tl (y := f1 0) (by rw [nI_clamp (by decide)]) ?_
      refine lv_iload hx hb dL_law_682 (lv_at hl 0 rfl) ?_
      refine lv_i2l (v := (mrI (cd1 (lpOk n (xs ((4 * i) + 1)))) (nI (lbc (v (ixx (xs ((4 * i) + 1))))))).toInt64) hx hb dL_law_684 rfl ?_
      refine W.lcmp hx hb dL_law_685 ?_
      refine lv_if_eq (tgt := 691) hx hb dL_law_686 (by decide) (fun c_686 => ?_) (fun c_686 => ?_)
      · refine lv_goto (tgt := 1883) hx hb dL_law_691 (by decide) ?_
        refine W.widen (k := 36 + 4 * (i + 1)) (n := 300 + 24 * (i + 1)) (by omega) (by omega) ?_
        exact kk n now told (nI (cd1 (lpOk n (xs ((4 * i) + 1))))) v f1 H2 locs2 ls hwf2 hnow2 hPX hPM hO hS (lv_sub hl [2, 3, 4, 5, 6] rfl)
      · exact absurd (lgc ((hf1 c_676).trans (by rw [mrI_t c_676]))) c_686
  · exact absurd rfl c_669
set_option maxHeartbeats 4000000 in
set_option maxRecDepth 100000 in
theorem kL_10 {p : Program} {l : Launch} {e : Env} {s : State} {m : MethodId} {below : List Frame} {meth : Method} {c : Code} {Q : State → Prop} {b L : Nat} {xs : Nat → Int32} {D : va_G} {cI cZ cL cJ : ClassId} {ad am : Nat → Nat} {z : Nat} (hst : l.stackTraces = false) (hL : L ≤ 2048) (hx : p.tables.exec = Jvm.exec) (hb : c.code = cL_law) (hml : c.maxLocals = 9) (hown : s.vm.findClass RL = some m.cls) (hts : ∀ w ∈ wsL_law, w.before #[Value.ref b] s = true) (hX : va_X b L xs s s.heap) (hbl : b < s.heap.size) (hK : va_K D vwCl (TY cI cZ cL cJ) s) (hEN : EN (AH s) s s.heap) (hG : GG s ad am z) {i n now : Nat} {told th : Int32} {v : Nat → LV} {f : Nat → Int64} {H : Heap} {locs : List Loc} {ls : Array Slot} (hwf : WFX n now v) (hnow : now ≤ 500 * i) (hi : 4 * i + 4 ≤ L) (hPX : PX D cI cL ad n now told v H) (hPM : PM D cI cZ am th n now told v H) (hO : va_P D vwCl (outW cJ z f) H) (hS : va_S (AH s) s.heap H locs) (hl : lv_has ls 9 [(4, .int (nI (4 * i))), (3, .ref z), (2, .ref (am 0)), (1, .ref (ad 0)), (0, .ref b)]) (kk : ∀ (n now : Nat) (told th : Int32) (v : Nat → LV) (f : Nat → Int64) (H : Heap) (locs : List Loc) (ls : Array Slot), WFX n now v → now ≤ 500 * (i + 1) → PX D cI cL ad n now told v H → PM D cI cZ am th n now told v H → va_P D vwCl (outW cJ z f) H → va_S (AH s) s.heap H locs → lv_has ls 9 [(4, .int (nI (4 * i))), (3, .ref z), (2, .ref (am 0)), (1, .ref (ad 0)), (0, .ref b)] → W p l e room_1 s m #[Value.ref b] below meth c H locs (36 + 4 * (i + 1)) (300 + 24 * (i + 1)) Q (F0 m 1883 ls [])) : W p l e room_1 s m #[Value.ref b] below meth c H locs (36 + 4 * i) (300 + 24 * i) Q (F0 m 694 ls []) := by
  refine lv_aload_n hx hb dL_law_694 rfl (lv_at hl 3 rfl) ?_
  refine lv_aload_n hx hb dL_law_695 rfl (lv_at hl 4 rfl) ?_
  refine lv_iload hx hb dL_law_696 (lv_at hl 0 rfl) ?_
  refine lv_iconst (v := nI 1) hx hb dL_law_698 (by decide) ?_
  refine n_iadd (v := nI ((4 * i) + 1)) hx hb dL_law_699 (nI_add _ _) ?_
  refine n_sld (j := (4 * i) + 1) hx hb hX hbl (Nat.not_le.mpr hbl) hS (by omega) (by omega) dL_law_700 ?_
  refine lv_aload_n hx hb dL_law_701 rfl (lv_at hl 4 rfl) ?_
  refine lv_iload hx hb dL_law_702 (lv_at hl 0 rfl) ?_
  refine lv_iconst (v := nI 2) hx hb dL_law_704 (by decide) ?_
  refine n_iadd (v := nI ((4 * i) + 2)) hx hb dL_law_705 (nI_add _ _) ?_
  refine n_sld (j := (4 * i) + 2) hx hb hX hbl (Nat.not_le.mpr hbl) hS (by omega) (by omega) dL_law_706 ?_
  refine lv_aload_n hx hb dL_law_707 rfl (lv_at hl 1 rfl) ?_
  refine lsS (A0 := AH s) (As := [.ref (ad 0), .int (xs ((4 * i) + 1)), .int (xs ((4 * i) + 2)), .ref z]) (rest := []) ⟨hx, hb, hml, hown, hts⟩ (c_L_numberOf l D cI cZ cL cJ hst ad n now told v hwf hG.1.1 z f hG.z_AX (xs ((4 * i) + 1)) (xs ((4 * i) + 2))) (vx_cwSW 4 hts gL_law_L_numberOf rfl rfl rfl (by decide +kernel) ⟨(Nat.le_of_ble_eq_true rfl), (Nat.le_of_ble_eq_true rfl)⟩) hK ((hEN.kept hS.2.1).narrow hG.toAL) ⟨hPX, hO⟩ rfl hl.1 rfl (Nat.le_of_ble_eq_true rfl) dL_law_708 ⟨by show 36 + 4 * i + 2 ≤ 668203; omega, by show 300 + 24 * i + 12 ≤ 7091495; omega⟩ hS hG.toAL (fun H1 locs1 _ hLE hz1 hk1 hS => ?_)
  obtain ⟨hPX, f1, hO, hf1⟩ := hLE
  have hPM := PM_keep hPM hG.am_AL hk1
  have hwf2 : WFX n now v := hwf
  have hnow2 : now ≤ 500 * (i + 1) := by omega
  refine lv_istore (lv' := [(5, .int (nI (cd1 (btOk n v (xs ((4 * i) + 1)) (xs ((4 * i) + 2)))))), (4, .int (nI (4 * i))), (3, .ref z), (2, .ref (am 0)), (1, .ref (ad 0)), (0, .ref b)]) hx hb dL_law_711 hl (by decide) rfl (fun ls hl => ?_)
  refine lv_aload_n hx hb dL_law_713 rfl (lv_at hl 3 rfl) ?_
  refine lv_aload_n hx hb dL_law_714 rfl (lv_at hl 5 rfl) ?_
  refine lv_iload hx hb dL_law_715 (lv_at hl 1 rfl) ?_
  refine lv_iconst (v := nI 1) hx hb dL_law_717 (by decide) ?_
  refine n_iadd (v := nI ((4 * i) + 1)) hx hb dL_law_718 (nI_add _ _) ?_
  refine n_sld (j := (4 * i) + 1) hx hb hX hbl (Nat.not_le.mpr hbl) hS (by omega) (by omega) dL_law_719 ?_
  refine lv_aload_n hx hb dL_law_720 rfl (lv_at hl 5 rfl) ?_
  refine lv_iload hx hb dL_law_721 (lv_at hl 1 rfl) ?_
  refine lv_iconst (v := nI 2) hx hb dL_law_723 (by decide) ?_
  refine n_iadd (v := nI ((4 * i) + 2)) hx hb dL_law_724 (nI_add _ _) ?_
  refine n_sld (j := (4 * i) + 2) hx hb hX hbl (Nat.not_le.mpr hbl) hS (by omega) (by omega) dL_law_725 ?_
  refine wV (A0 := AH s) (As := [.int (xs ((4 * i) + 1)), .int (xs ((4 * i) + 2))]) (rest := []) ⟨hx, hb, hml, hown, hts⟩ (c_X2_numberOf l D cI cZ cL cJ am th n now told v hwf hG.1.2 (xs ((4 * i) + 1)) (xs ((4 * i) + 2))) (cwV 2 hts gL_law_X2_numberOf rfl rfl rfl (by decide +kernel) ⟨(Nat.le_of_ble_eq_true rfl), (Nat.le_of_ble_eq_true rfl)⟩) hK ((hEN.kept hS.2.1).narrow hG.toAM) hPM (RC_of (q := (RX2, TX2, 9)) (ci := 2) hK rfl (vpa hPM 0 rfl)) rfl hl.1 rfl (Nat.le_of_ble_eq_true rfl) dL_law_726 ⟨by show 36 + 4 * i + 2 + 0 ≤ 668203; omega, by show 300 + 24 * i + 12 + 0 ≤ 7091495; omega⟩ hS hG.toAM (fun H2 locs2 _ hPM hz2 hk2 hS => ?_)
  have hPM : PM D cI cZ am (nI (cd1 (btOk n v (xs ((4 * i) + 1)) (xs ((4 * i) + 2))))) n now told v H2 := hPM
  have hPX := PX_keep hPX hG.ad_AM hk2
  have hO := outK hO hG.z_AM hk2
  refine lv_istore (lv' := [(6, .int (mrI (cd1 (btOk n v (xs ((4 * i) + 1)) (xs ((4 * i) + 2)))) (nI (lnu (v (ixx (xs ((4 * i) + 1)))) (ixx (xs ((4 * i) + 2))))))), (5, .int (nI (cd1 (btOk n v (xs ((4 * i) + 1)) (xs ((4 * i) + 2)))))), (4, .int (nI (4 * i))), (3, .ref z), (2, .ref (am 0)), (1, .ref (ad 0)), (0, .ref b)]) hx hb dL_law_729 hl (by decide) rfl (fun ls hl => ?_)
  refine lv_aload_n hx hb dL_law_731 rfl (lv_at hl 4 rfl) ?_
  refine rV (r := nI (cd1 (btOk n v (xs ((4 * i) + 1)) (xs ((4 * i) + 2))))) (As := []) (rest := []) ⟨hx, hb, hml, hown, hts⟩ (c_X2_thrown l D cI cZ cL cJ am (nI (cd1 (btOk n v (xs ((4 * i) + 1)) (xs ((4 * i) + 2))))) n now told v hwf2) (cwV 0 hts gL_law_X2_thrown rfl rfl rfl (by decide +kernel) ⟨(Nat.le_of_ble_eq_true rfl), (Nat.le_of_ble_eq_true rfl)⟩) hK ((hEN.kept hS.2.1).narrow (fun _ h => h.elim)) hPM (RC_of (q := (RX2, TX2, 9)) (ci := 2) hK rfl (vpa hPM 0 rfl)) rfl hl.1 rfl (Nat.le_of_ble_eq_true rfl) dL_law_732 ⟨by show 36 + 4 * i + 2 + 0 ≤ 668203; omega, by show 300 + 24 * i + 12 + 0 ≤ 7091495; omega⟩ ?_
  refine lv_iload hx hb dL_law_735 (lv_at hl 1 rfl) ?_
  refine lv_icmp_eq (tgt := 742) hx hb dL_law_737 (by decide) (fun c_737 => ?_) (fun c_737 => ?_)
  · refine lv_iload hx hb dL_law_742 (lv_at hl 1 rfl) ?_
    refine n_if_ne (a := cd1 (btOk n v (xs ((4 * i) + 1)) (xs ((4 * i) + 2)))) (tgt := 759) hx hb (cd1_lt _) dL_law_744 (by decide) (fun c_744 => ?_) (fun c_744 => ?_)
    · refine lv_goto (tgt := 1883) hx hb dL_law_759 (by decide) ?_
      refine W.widen (k := 36 + 4 * (i + 1)) (n := 300 + 24 * (i + 1)) (by omega) (by omega) ?_
      exact kk n now told (nI (cd1 (btOk n v (xs ((4 * i) + 1)) (xs ((4 * i) + 2))))) v f1 H2 locs2 ls hwf2 hnow2 hPX hPM hO hS (lv_sub hl [2, 3, 4, 5, 6] rfl)
    · refine lv_aload_n hx hb dL_law_747 rfl (lv_at hl 3 rfl) ?_
      refine lv_iconst (v := nI 0) hx hb dL_law_748 (by decide) ?_
      refine va_lald hx hb hK hO 0 3 rfl rfl (show vp_in (nI 0) 1 from vp_in_nI (by decide) (by decide)) dL_law_749 ?_
      refine n_tl (y := f1 0) (by rw [nI_clamp (by decide)]) ?_
      refine lv_iload hx hb dL_law_750 (lv_at hl 0 rfl) ?_
      refine lv_i2l (v := (mrI (cd1 (btOk n v (xs ((4 * i) + 1)) (xs ((4 * i) + 2)))) (nI (lnu (v (ixx (xs ((4 * i) + 1)))) (ixx (xs ((4 * i) + 2)))))).toInt64) hx hb dL_law_752 rfl ?_
      refine W.lcmp hx hb dL_law_753 ?_
      refine lv_if_eq (tgt := 759) hx hb dL_law_754 (by decide) (fun c_754 => ?_) (fun c_754 => ?_)
      · refine lv_goto (tgt := 1883) hx hb dL_law_759 (by decide) ?_
        refine W.widen (k := 36 + 4 * (i + 1)) (n := 300 + 24 * (i + 1)) (by omega) (by omega) ?_
        exact kk n now told (nI (cd1 (btOk n v (xs ((4 * i) + 1)) (xs ((4 * i) + 2))))) v f1 H2 locs2 ls hwf2 hnow2 hPX hPM hO hS (lv_sub hl [2, 3, 4, 5, 6] rfl)
      · exact absurd (lgc ((hf1 c_744).trans (by rw [mrI_t c_744]))) c_754
  · exact absurd rfl c_737
set_option maxHeartbeats 4000000 in
set_option maxRecDepth 100000 in
theorem kL_11 {p : Program} {l : Launch} {e : Env} {s : State} {m : MethodId} {below : List Frame} {meth : Method} {c : Code} {Q : State → Prop} {b L : Nat} {xs : Nat → Int32} {D : va_G} {cI cZ cL cJ : ClassId} {ad am : Nat → Nat} {z : Nat} (hst : l.stackTraces = false) (hL : L ≤ 2048) (hx : p.tables.exec = Jvm.exec) (hb : c.code = cL_law) (hml : c.maxLocals = 9) (hown : s.vm.findClass RL = some m.cls) (hts : ∀ w ∈ wsL_law, w.before #[Value.ref b] s = true) (hX : va_X b L xs s s.heap) (hbl : b < s.heap.size) (hK : va_K D vwCl (TY cI cZ cL cJ) s) (hEN : EN (AH s) s s.heap) (hG : GG s ad am z) {i n now : Nat} {told th : Int32} {v : Nat → LV} {f : Nat → Int64} {H : Heap} {locs : List Loc} {ls : Array Slot} (hwf : WFX n now v) (hnow : now ≤ 500 * i) (hi : 4 * i + 4 ≤ L) (hPX : PX D cI cL ad n now told v H) (hPM : PM D cI cZ am th n now told v H) (hO : va_P D vwCl (outW cJ z f) H) (hS : va_S (AH s) s.heap H locs) (hl : lv_has ls 9 [(4, .int (nI (4 * i))), (3, .ref z), (2, .ref (am 0)), (1, .ref (ad 0)), (0, .ref b)]) (kk : ∀ (n now : Nat) (told th : Int32) (v : Nat → LV) (f : Nat → Int64) (H : Heap) (locs : List Loc) (ls : Array Slot), WFX n now v → now ≤ 500 * (i + 1) → PX D cI cL ad n now told v H → PM D cI cZ am th n now told v H → va_P D vwCl (outW cJ z f) H → va_S (AH s) s.heap H locs → lv_has ls 9 [(4, .int (nI (4 * i))), (3, .ref z), (2, .ref (am 0)), (1, .ref (ad 0)), (0, .ref b)] → W p l e room_1 s m #[Value.ref b] below meth c H locs (36 + 4 * (i + 1)) (300 + 24 * (i + 1)) Q (F0 m 1883 ls [])) : W p l e room_1 s m #[Value.ref b] below meth c H locs (36 + 4 * i) (300 + 24 * i) Q (F0 m 762 ls []) := by
  refine lv_aload_n hx hb dL_law_762 rfl (lv_at hl 3 rfl) ?_
  refine lv_aload_n hx hb dL_law_763 rfl (lv_at hl 4 rfl) ?_
  refine lv_iload hx hb dL_law_764 (lv_at hl 0 rfl) ?_
  refine lv_iconst (v := nI 1) hx hb dL_law_766 (by decide) ?_
  refine n_iadd (v := nI ((4 * i) + 1)) hx hb dL_law_767 (nI_add _ _) ?_
  refine n_sld (j := (4 * i) + 1) hx hb hX hbl (Nat.not_le.mpr hbl) hS (by omega) (by omega) dL_law_768 ?_
  refine lv_aload_n hx hb dL_law_769 rfl (lv_at hl 4 rfl) ?_
  refine lv_iload hx hb dL_law_770 (lv_at hl 0 rfl) ?_
  refine lv_iconst (v := nI 2) hx hb dL_law_772 (by decide) ?_
  refine n_iadd (v := nI ((4 * i) + 2)) hx hb dL_law_773 (nI_add _ _) ?_
  refine n_sld (j := (4 * i) + 2) hx hb hX hbl (Nat.not_le.mpr hbl) hS (by omega) (by omega) dL_law_774 ?_
  refine lv_aload_n hx hb dL_law_775 rfl (lv_at hl 1 rfl) ?_
  refine lsS (A0 := AH s) (As := [.ref (ad 0), .int (xs ((4 * i) + 1)), .int (xs ((4 * i) + 2)), .ref z]) (rest := []) ⟨hx, hb, hml, hown, hts⟩ (c_L_offsetOf l D cI cZ cL cJ hst ad n now told v hwf hG.1.1 z f hG.z_AX (xs ((4 * i) + 1)) (xs ((4 * i) + 2))) (vx_cwSW 4 hts gL_law_L_offsetOf rfl rfl rfl (by decide +kernel) ⟨(Nat.le_of_ble_eq_true rfl), (Nat.le_of_ble_eq_true rfl)⟩) hK ((hEN.kept hS.2.1).narrow hG.toAL) ⟨hPX, hO⟩ rfl hl.1 rfl (Nat.le_of_ble_eq_true rfl) dL_law_776 ⟨by show 36 + 4 * i + 2 ≤ 668203; omega, by show 300 + 24 * i + 12 ≤ 7091495; omega⟩ hS hG.toAL (fun H1 locs1 _ hLE hz1 hk1 hS => ?_)
  obtain ⟨hPX, f1, hO, hf1⟩ := hLE
  have hPM := PM_keep hPM hG.am_AL hk1
  have hwf2 : WFX n now v := hwf
  have hnow2 : now ≤ 500 * (i + 1) := by omega
  refine lv_istore (lv' := [(5, .int (nI (cd1 (btOk n v (xs ((4 * i) + 1)) (xs ((4 * i) + 2)))))), (4, .int (nI (4 * i))), (3, .ref z), (2, .ref (am 0)), (1, .ref (ad 0)), (0, .ref b)]) hx hb dL_law_779 hl (by decide) rfl (fun ls hl => ?_)
  refine lv_aload_n hx hb dL_law_781 rfl (lv_at hl 3 rfl) ?_
  refine lv_aload_n hx hb dL_law_782 rfl (lv_at hl 5 rfl) ?_
  refine lv_iload hx hb dL_law_783 (lv_at hl 1 rfl) ?_
  refine lv_iconst (v := nI 1) hx hb dL_law_785 (by decide) ?_
  refine n_iadd (v := nI ((4 * i) + 1)) hx hb dL_law_786 (nI_add _ _) ?_
  refine n_sld (j := (4 * i) + 1) hx hb hX hbl (Nat.not_le.mpr hbl) hS (by omega) (by omega) dL_law_787 ?_
  refine lv_aload_n hx hb dL_law_788 rfl (lv_at hl 5 rfl) ?_
  refine lv_iload hx hb dL_law_789 (lv_at hl 1 rfl) ?_
  refine lv_iconst (v := nI 2) hx hb dL_law_791 (by decide) ?_
  refine n_iadd (v := nI ((4 * i) + 2)) hx hb dL_law_792 (nI_add _ _) ?_
  refine n_sld (j := (4 * i) + 2) hx hb hX hbl (Nat.not_le.mpr hbl) hS (by omega) (by omega) dL_law_793 ?_
  refine wV (A0 := AH s) (As := [.int (xs ((4 * i) + 1)), .int (xs ((4 * i) + 2))]) (rest := []) ⟨hx, hb, hml, hown, hts⟩ (c_X2_offsetOf l D cI cZ cL cJ am th n now told v hwf hG.1.2 (xs ((4 * i) + 1)) (xs ((4 * i) + 2))) (cwV 2 hts gL_law_X2_offsetOf rfl rfl rfl (by decide +kernel) ⟨(Nat.le_of_ble_eq_true rfl), (Nat.le_of_ble_eq_true rfl)⟩) hK ((hEN.kept hS.2.1).narrow hG.toAM) hPM (RC_of (q := (RX2, TX2, 9)) (ci := 2) hK rfl (vpa hPM 0 rfl)) rfl hl.1 rfl (Nat.le_of_ble_eq_true rfl) dL_law_794 ⟨by show 36 + 4 * i + 2 + 0 ≤ 668203; omega, by show 300 + 24 * i + 12 + 0 ≤ 7091495; omega⟩ hS hG.toAM (fun H2 locs2 _ hPM hz2 hk2 hS => ?_)
  have hPM : PM D cI cZ am (nI (cd1 (btOk n v (xs ((4 * i) + 1)) (xs ((4 * i) + 2))))) n now told v H2 := hPM
  have hPX := PX_keep hPX hG.ad_AM hk2
  have hO := outK hO hG.z_AM hk2
  refine lv_istore (lv' := [(6, .int (mrI (cd1 (btOk n v (xs ((4 * i) + 1)) (xs ((4 * i) + 2)))) (nI (lof (v (ixx (xs ((4 * i) + 1)))) (ixx (xs ((4 * i) + 2))))))), (5, .int (nI (cd1 (btOk n v (xs ((4 * i) + 1)) (xs ((4 * i) + 2)))))), (4, .int (nI (4 * i))), (3, .ref z), (2, .ref (am 0)), (1, .ref (ad 0)), (0, .ref b)]) hx hb dL_law_797 hl (by decide) rfl (fun ls hl => ?_)
  refine lv_aload_n hx hb dL_law_799 rfl (lv_at hl 4 rfl) ?_
  refine rV (r := nI (cd1 (btOk n v (xs ((4 * i) + 1)) (xs ((4 * i) + 2))))) (As := []) (rest := []) ⟨hx, hb, hml, hown, hts⟩ (c_X2_thrown l D cI cZ cL cJ am (nI (cd1 (btOk n v (xs ((4 * i) + 1)) (xs ((4 * i) + 2))))) n now told v hwf2) (cwV 0 hts gL_law_X2_thrown rfl rfl rfl (by decide +kernel) ⟨(Nat.le_of_ble_eq_true rfl), (Nat.le_of_ble_eq_true rfl)⟩) hK ((hEN.kept hS.2.1).narrow (fun _ h => h.elim)) hPM (RC_of (q := (RX2, TX2, 9)) (ci := 2) hK rfl (vpa hPM 0 rfl)) rfl hl.1 rfl (Nat.le_of_ble_eq_true rfl) dL_law_800 ⟨by show 36 + 4 * i + 2 + 0 ≤ 668203; omega, by show 300 + 24 * i + 12 + 0 ≤ 7091495; omega⟩ ?_
  refine lv_iload hx hb dL_law_803 (lv_at hl 1 rfl) ?_
  refine lv_icmp_eq (tgt := 810) hx hb dL_law_805 (by decide) (fun c_805 => ?_) (fun c_805 => ?_)
  · refine lv_iload hx hb dL_law_810 (lv_at hl 1 rfl) ?_
    refine n_if_ne (a := cd1 (btOk n v (xs ((4 * i) + 1)) (xs ((4 * i) + 2)))) (tgt := 827) hx hb (cd1_lt _) dL_law_812 (by decide) (fun c_812 => ?_) (fun c_812 => ?_)
    · refine lv_goto (tgt := 1883) hx hb dL_law_827 (by decide) ?_
      refine W.widen (k := 36 + 4 * (i + 1)) (n := 300 + 24 * (i + 1)) (by omega) (by omega) ?_
      exact kk n now told (nI (cd1 (btOk n v (xs ((4 * i) + 1)) (xs ((4 * i) + 2))))) v f1 H2 locs2 ls hwf2 hnow2 hPX hPM hO hS (lv_sub hl [2, 3, 4, 5, 6] rfl)
    · refine lv_aload_n hx hb dL_law_815 rfl (lv_at hl 3 rfl) ?_
      refine lv_iconst (v := nI 0) hx hb dL_law_816 (by decide) ?_
      refine va_lald hx hb hK hO 0 3 rfl rfl (show vp_in (nI 0) 1 from vp_in_nI (by decide) (by decide)) dL_law_817 ?_
      refine n_tl (y := f1 0) (by rw [nI_clamp (by decide)]) ?_
      refine lv_iload hx hb dL_law_818 (lv_at hl 0 rfl) ?_
      refine lv_i2l (v := (mrI (cd1 (btOk n v (xs ((4 * i) + 1)) (xs ((4 * i) + 2)))) (nI (lof (v (ixx (xs ((4 * i) + 1)))) (ixx (xs ((4 * i) + 2)))))).toInt64) hx hb dL_law_820 rfl ?_
      refine W.lcmp hx hb dL_law_821 ?_
      refine lv_if_eq (tgt := 827) hx hb dL_law_822 (by decide) (fun c_822 => ?_) (fun c_822 => ?_)
      · refine lv_goto (tgt := 1883) hx hb dL_law_827 (by decide) ?_
        refine W.widen (k := 36 + 4 * (i + 1)) (n := 300 + 24 * (i + 1)) (by omega) (by omega) ?_
        exact kk n now told (nI (cd1 (btOk n v (xs ((4 * i) + 1)) (xs ((4 * i) + 2))))) v f1 H2 locs2 ls hwf2 hnow2 hPX hPM hO hS (lv_sub hl [2, 3, 4, 5, 6] rfl)
      · exact absurd (lgc ((hf1 c_812).trans (by rw [mrI_t c_812]))) c_822
  · exact absurd rfl c_805
set_option maxHeartbeats 4000000 in
set_option maxRecDepth 100000 in
theorem kL_12 {p : Program} {l : Launch} {e : Env} {s : State} {m : MethodId} {below : List Frame} {meth : Method} {c : Code} {Q : State → Prop} {b L : Nat} {xs : Nat → Int32} {D : va_G} {cI cZ cL cJ : ClassId} {ad am : Nat → Nat} {z : Nat} (hst : l.stackTraces = false) (hL : L ≤ 2048) (hx : p.tables.exec = Jvm.exec) (hb : c.code = cL_law) (hml : c.maxLocals = 9) (hown : s.vm.findClass RL = some m.cls) (hts : ∀ w ∈ wsL_law, w.before #[Value.ref b] s = true) (hX : va_X b L xs s s.heap) (hbl : b < s.heap.size) (hK : va_K D vwCl (TY cI cZ cL cJ) s) (hEN : EN (AH s) s s.heap) (hG : GG s ad am z) {i n now : Nat} {told th : Int32} {v : Nat → LV} {f : Nat → Int64} {H : Heap} {locs : List Loc} {ls : Array Slot} (hwf : WFX n now v) (hnow : now ≤ 500 * i) (hi : 4 * i + 4 ≤ L) (hPX : PX D cI cL ad n now told v H) (hPM : PM D cI cZ am th n now told v H) (hO : va_P D vwCl (outW cJ z f) H) (hS : va_S (AH s) s.heap H locs) (hl : lv_has ls 9 [(4, .int (nI (4 * i))), (3, .ref z), (2, .ref (am 0)), (1, .ref (ad 0)), (0, .ref b)]) (kk : ∀ (n now : Nat) (told th : Int32) (v : Nat → LV) (f : Nat → Int64) (H : Heap) (locs : List Loc) (ls : Array Slot), WFX n now v → now ≤ 500 * (i + 1) → PX D cI cL ad n now told v H → PM D cI cZ am th n now told v H → va_P D vwCl (outW cJ z f) H → va_S (AH s) s.heap H locs → lv_has ls 9 [(4, .int (nI (4 * i))), (3, .ref z), (2, .ref (am 0)), (1, .ref (ad 0)), (0, .ref b)] → W p l e room_1 s m #[Value.ref b] below meth c H locs (36 + 4 * (i + 1)) (300 + 24 * (i + 1)) Q (F0 m 1883 ls [])) : W p l e room_1 s m #[Value.ref b] below meth c H locs (36 + 4 * i) (300 + 24 * i) Q (F0 m 830 ls []) := by
  refine lv_aload_n hx hb dL_law_830 rfl (lv_at hl 3 rfl) ?_
  refine lv_aload_n hx hb dL_law_831 rfl (lv_at hl 4 rfl) ?_
  refine lv_iload hx hb dL_law_832 (lv_at hl 0 rfl) ?_
  refine lv_iconst (v := nI 1) hx hb dL_law_834 (by decide) ?_
  refine n_iadd (v := nI ((4 * i) + 1)) hx hb dL_law_835 (nI_add _ _) ?_
  refine n_sld (j := (4 * i) + 1) hx hb hX hbl (Nat.not_le.mpr hbl) hS (by omega) (by omega) dL_law_836 ?_
  refine lv_aload_n hx hb dL_law_837 rfl (lv_at hl 1 rfl) ?_
  refine lsS (A0 := AH s) (As := [.ref (ad 0), .int (xs ((4 * i) + 1)), .ref z]) (rest := []) ⟨hx, hb, hml, hown, hts⟩ (c_L_isCovered l D cI cZ cL cJ hst ad n now told v hwf hG.1.1 z f hG.z_AX (xs ((4 * i) + 1))) (vx_cwSW 3 hts gL_law_L_isCovered rfl rfl rfl (by decide +kernel) ⟨(Nat.le_of_ble_eq_true rfl), (Nat.le_of_ble_eq_true rfl)⟩) hK ((hEN.kept hS.2.1).narrow hG.toAL) ⟨hPX, hO⟩ rfl hl.1 rfl (Nat.le_of_ble_eq_true rfl) dL_law_838 ⟨by show 36 + 4 * i + 1 ≤ 668203; omega, by show 300 + 24 * i + 6 ≤ 7091495; omega⟩ hS hG.toAL (fun H1 locs1 _ hLE hz1 hk1 hS => ?_)
  obtain ⟨hPX, f1, hO, hf1⟩ := hLE
  have hPM := PM_keep hPM hG.am_AL hk1
  have hwf2 : WFX n now v := hwf
  have hnow2 : now ≤ 500 * (i + 1) := by omega
  refine lv_istore (lv' := [(5, .int (nI (cd1 (lpOk n (xs ((4 * i) + 1)))))), (4, .int (nI (4 * i))), (3, .ref z), (2, .ref (am 0)), (1, .ref (ad 0)), (0, .ref b)]) hx hb dL_law_841 hl (by decide) rfl (fun ls hl => ?_)
  refine lv_aload_n hx hb dL_law_843 rfl (lv_at hl 3 rfl) ?_
  refine lv_aload_n hx hb dL_law_844 rfl (lv_at hl 5 rfl) ?_
  refine lv_iload hx hb dL_law_845 (lv_at hl 1 rfl) ?_
  refine lv_iconst (v := nI 1) hx hb dL_law_847 (by decide) ?_
  refine n_iadd (v := nI ((4 * i) + 1)) hx hb dL_law_848 (nI_add _ _) ?_
  refine n_sld (j := (4 * i) + 1) hx hb hX hbl (Nat.not_le.mpr hbl) hS (by omega) (by omega) dL_law_849 ?_
  refine wV (A0 := AH s) (As := [.int (xs ((4 * i) + 1))]) (rest := []) ⟨hx, hb, hml, hown, hts⟩ (c_X2_isCovered l D cI cZ cL cJ am th n now told v hwf hG.1.2 (xs ((4 * i) + 1))) (cwV 1 hts gL_law_X2_isCovered rfl rfl rfl (by decide +kernel) ⟨(Nat.le_of_ble_eq_true rfl), (Nat.le_of_ble_eq_true rfl)⟩) hK ((hEN.kept hS.2.1).narrow hG.toAM) hPM (RC_of (q := (RX2, TX2, 9)) (ci := 2) hK rfl (vpa hPM 0 rfl)) rfl hl.1 rfl (Nat.le_of_ble_eq_true rfl) dL_law_850 ⟨by show 36 + 4 * i + 1 + 0 ≤ 668203; omega, by show 300 + 24 * i + 6 + 0 ≤ 7091495; omega⟩ hS hG.toAM (fun H2 locs2 _ hPM hz2 hk2 hS => ?_)
  have hPM : PM D cI cZ am (nI (cd1 (lpOk n (xs ((4 * i) + 1))))) n now told v H2 := hPM
  have hPX := PX_keep hPX hG.ad_AM hk2
  have hO := outK hO hG.z_AM hk2
  refine lv_istore (lv' := [(6, .int (bI (mrB (cd1 (lpOk n (xs ((4 * i) + 1)))) (lcv (v (ixx (xs ((4 * i) + 1)))))))), (5, .int (nI (cd1 (lpOk n (xs ((4 * i) + 1)))))), (4, .int (nI (4 * i))), (3, .ref z), (2, .ref (am 0)), (1, .ref (ad 0)), (0, .ref b)]) hx hb dL_law_853 hl (by decide) rfl (fun ls hl => ?_)
  refine lv_aload_n hx hb dL_law_855 rfl (lv_at hl 4 rfl) ?_
  refine rV (r := nI (cd1 (lpOk n (xs ((4 * i) + 1))))) (As := []) (rest := []) ⟨hx, hb, hml, hown, hts⟩ (c_X2_thrown l D cI cZ cL cJ am (nI (cd1 (lpOk n (xs ((4 * i) + 1))))) n now told v hwf2) (cwV 0 hts gL_law_X2_thrown rfl rfl rfl (by decide +kernel) ⟨(Nat.le_of_ble_eq_true rfl), (Nat.le_of_ble_eq_true rfl)⟩) hK ((hEN.kept hS.2.1).narrow (fun _ h => h.elim)) hPM (RC_of (q := (RX2, TX2, 9)) (ci := 2) hK rfl (vpa hPM 0 rfl)) rfl hl.1 rfl (Nat.le_of_ble_eq_true rfl) dL_law_856 ⟨by show 36 + 4 * i + 1 + 0 ≤ 668203; omega, by show 300 + 24 * i + 6 + 0 ≤ 7091495; omega⟩ ?_
  refine lv_iload hx hb dL_law_859 (lv_at hl 1 rfl) ?_
  refine lv_icmp_eq (tgt := 866) hx hb dL_law_861 (by decide) (fun c_861 => ?_) (fun c_861 => ?_)
  · refine lv_iload hx hb dL_law_866 (lv_at hl 1 rfl) ?_
    refine n_if_ne (a := cd1 (lpOk n (xs ((4 * i) + 1)))) (tgt := 890) hx hb (cd1_lt _) dL_law_868 (by decide) (fun c_868 => ?_) (fun c_868 => ?_)
    · refine lv_goto (tgt := 1883) hx hb dL_law_890 (by decide) ?_
      refine W.widen (k := 36 + 4 * (i + 1)) (n := 300 + 24 * (i + 1)) (by omega) (by omega) ?_
      exact kk n now told (nI (cd1 (lpOk n (xs ((4 * i) + 1))))) v f1 H2 locs2 ls hwf2 hnow2 hPX hPM hO hS (lv_sub hl [2, 3, 4, 5, 6] rfl)
    · refine lv_aload_n hx hb dL_law_871 rfl (lv_at hl 3 rfl) ?_
      refine lv_iconst (v := nI 0) hx hb dL_law_872 (by decide) ?_
      refine va_lald hx hb hK hO 0 3 rfl rfl (show vp_in (nI 0) 1 from vp_in_nI (by decide) (by decide)) dL_law_873 ?_
      refine n_tl (y := f1 0) (by rw [nI_clamp (by decide)]) ?_
      refine lv_iload hx hb dL_law_874 (lv_at hl 0 rfl) ?_
      refine b_if_eq (b := mrB (cd1 (lpOk n (xs ((4 * i) + 1)))) (lcv (v (ixx (xs ((4 * i) + 1)))))) (tgt := 883) hx hb dL_law_876 (by decide) (fun c_876 => ?_) (fun c_876 => ?_)
      · refine lv_lconst (v := 0) hx hb dL_law_883 (by decide) ?_
        refine W.lcmp hx hb dL_law_884 ?_
        refine lv_if_eq (tgt := 890) hx hb dL_law_885 (by decide) (fun c_885 => ?_) (fun c_885 => ?_)
        · refine lv_goto (tgt := 1883) hx hb dL_law_890 (by decide) ?_
          refine W.widen (k := 36 + 4 * (i + 1)) (n := 300 + 24 * (i + 1)) (by omega) (by omega) ?_
          exact kk n now told (nI (cd1 (lpOk n (xs ((4 * i) + 1))))) v f1 H2 locs2 ls hwf2 hnow2 hPX hPM hO hS (lv_sub hl [2, 3, 4, 5, 6] rfl)
        · exact absurd (lgc ((hf1 c_868).trans (by rw [← mrB_t (b := (lcv (v (ixx (xs ((4 * i) + 1)))))) c_868, c_876]; rfl))) c_885
      · refine lv_lconst (v := 1) hx hb dL_law_879 (by decide) ?_
        refine lv_goto (tgt := 884) hx hb dL_law_880 (by decide) ?_
        refine W.lcmp hx hb dL_law_884 ?_
        refine lv_if_eq (tgt := 890) hx hb dL_law_885 (by decide) (fun c_885 => ?_) (fun c_885 => ?_)
        · refine lv_goto (tgt := 1883) hx hb dL_law_890 (by decide) ?_
          refine W.widen (k := 36 + 4 * (i + 1)) (n := 300 + 24 * (i + 1)) (by omega) (by omega) ?_
          exact kk n now told (nI (cd1 (lpOk n (xs ((4 * i) + 1))))) v f1 H2 locs2 ls hwf2 hnow2 hPX hPM hO hS (lv_sub hl [2, 3, 4, 5, 6] rfl)
        · exact absurd (lgc ((hf1 c_868).trans (by rw [← mrB_t (b := (lcv (v (ixx (xs ((4 * i) + 1)))))) c_868, c_876]; rfl))) c_885
  · exact absurd rfl c_861
set_option maxHeartbeats 4000000 in
set_option maxRecDepth 100000 in
theorem kL_13 {p : Program} {l : Launch} {e : Env} {s : State} {m : MethodId} {below : List Frame} {meth : Method} {c : Code} {Q : State → Prop} {b L : Nat} {xs : Nat → Int32} {D : va_G} {cI cZ cL cJ : ClassId} {ad am : Nat → Nat} {z : Nat} (hst : l.stackTraces = false) (hL : L ≤ 2048) (hx : p.tables.exec = Jvm.exec) (hb : c.code = cL_law) (hml : c.maxLocals = 9) (hown : s.vm.findClass RL = some m.cls) (hts : ∀ w ∈ wsL_law, w.before #[Value.ref b] s = true) (hX : va_X b L xs s s.heap) (hbl : b < s.heap.size) (hK : va_K D vwCl (TY cI cZ cL cJ) s) (hEN : EN (AH s) s s.heap) (hG : GG s ad am z) {i n now : Nat} {told th : Int32} {v : Nat → LV} {f : Nat → Int64} {H : Heap} {locs : List Loc} {ls : Array Slot} (hwf : WFX n now v) (hnow : now ≤ 500 * i) (hi : 4 * i + 4 ≤ L) (hPX : PX D cI cL ad n now told v H) (hPM : PM D cI cZ am th n now told v H) (hO : va_P D vwCl (outW cJ z f) H) (hS : va_S (AH s) s.heap H locs) (hl : lv_has ls 9 [(4, .int (nI (4 * i))), (3, .ref z), (2, .ref (am 0)), (1, .ref (ad 0)), (0, .ref b)]) (kk : ∀ (n now : Nat) (told th : Int32) (v : Nat → LV) (f : Nat → Int64) (H : Heap) (locs : List Loc) (ls : Array Slot), WFX n now v → now ≤ 500 * (i + 1) → PX D cI cL ad n now told v H → PM D cI cZ am th n now told v H → va_P D vwCl (outW cJ z f) H → va_S (AH s) s.heap H locs → lv_has ls 9 [(4, .int (nI (4 * i))), (3, .ref z), (2, .ref (am 0)), (1, .ref (ad 0)), (0, .ref b)] → W p l e room_1 s m #[Value.ref b] below meth c H locs (36 + 4 * (i + 1)) (300 + 24 * (i + 1)) Q (F0 m 1883 ls [])) : W p l e room_1 s m #[Value.ref b] below meth c H locs (36 + 4 * i) (300 + 24 * i) Q (F0 m 893 ls []) := by
  refine lv_aload_n hx hb dL_law_893 rfl (lv_at hl 3 rfl) ?_
  refine lv_aload_n hx hb dL_law_894 rfl (lv_at hl 4 rfl) ?_
  refine lv_iload hx hb dL_law_895 (lv_at hl 0 rfl) ?_
  refine lv_iconst (v := nI 1) hx hb dL_law_897 (by decide) ?_
  refine n_iadd (v := nI ((4 * i) + 1)) hx hb dL_law_898 (nI_add _ _) ?_
  refine n_sld (j := (4 * i) + 1) hx hb hX hbl (Nat.not_le.mpr hbl) hS (by omega) (by omega) dL_law_899 ?_
  refine lv_aload_n hx hb dL_law_900 rfl (lv_at hl 1 rfl) ?_
  refine lsS (A0 := AH s) (As := [.ref (ad 0), .int (xs ((4 * i) + 1)), .ref z]) (rest := []) ⟨hx, hb, hml, hown, hts⟩ (c_L_isOn l D cI cZ cL cJ hst ad n now told v hwf hG.1.1 z f hG.z_AX (xs ((4 * i) + 1))) (vx_cwSW 3 hts gL_law_L_isOn rfl rfl rfl (by decide +kernel) ⟨(Nat.le_of_ble_eq_true rfl), (Nat.le_of_ble_eq_true rfl)⟩) hK ((hEN.kept hS.2.1).narrow hG.toAL) ⟨hPX, hO⟩ rfl hl.1 rfl (Nat.le_of_ble_eq_true rfl) dL_law_901 ⟨by show 36 + 4 * i + 1 ≤ 668203; omega, by show 300 + 24 * i + 6 ≤ 7091495; omega⟩ hS hG.toAL (fun H1 locs1 _ hLE hz1 hk1 hS => ?_)
  obtain ⟨hPX, f1, hO, hf1⟩ := hLE
  have hPM := PM_keep hPM hG.am_AL hk1
  have hwf2 : WFX n now v := hwf
  have hnow2 : now ≤ 500 * (i + 1) := by omega
  refine lv_istore (lv' := [(5, .int (nI (cd1 (lpOk n (xs ((4 * i) + 1)))))), (4, .int (nI (4 * i))), (3, .ref z), (2, .ref (am 0)), (1, .ref (ad 0)), (0, .ref b)]) hx hb dL_law_904 hl (by decide) rfl (fun ls hl => ?_)
  refine lv_aload_n hx hb dL_law_906 rfl (lv_at hl 3 rfl) ?_
  refine lv_aload_n hx hb dL_law_907 rfl (lv_at hl 5 rfl) ?_
  refine lv_iload hx hb dL_law_908 (lv_at hl 1 rfl) ?_
  refine lv_iconst (v := nI 1) hx hb dL_law_910 (by decide) ?_
  refine n_iadd (v := nI ((4 * i) + 1)) hx hb dL_law_911 (nI_add _ _) ?_
  refine n_sld (j := (4 * i) + 1) hx hb hX hbl (Nat.not_le.mpr hbl) hS (by omega) (by omega) dL_law_912 ?_
  refine wV (A0 := AH s) (As := [.int (xs ((4 * i) + 1))]) (rest := []) ⟨hx, hb, hml, hown, hts⟩ (c_X2_isOn l D cI cZ cL cJ am th n now told v hwf hG.1.2 (xs ((4 * i) + 1))) (cwV 1 hts gL_law_X2_isOn rfl rfl rfl (by decide +kernel) ⟨(Nat.le_of_ble_eq_true rfl), (Nat.le_of_ble_eq_true rfl)⟩) hK ((hEN.kept hS.2.1).narrow hG.toAM) hPM (RC_of (q := (RX2, TX2, 9)) (ci := 2) hK rfl (vpa hPM 0 rfl)) rfl hl.1 rfl (Nat.le_of_ble_eq_true rfl) dL_law_913 ⟨by show 36 + 4 * i + 1 + 0 ≤ 668203; omega, by show 300 + 24 * i + 6 + 0 ≤ 7091495; omega⟩ hS hG.toAM (fun H2 locs2 _ hPM hz2 hk2 hS => ?_)
  have hPM : PM D cI cZ am (nI (cd1 (lpOk n (xs ((4 * i) + 1))))) n now told v H2 := hPM
  have hPX := PX_keep hPX hG.ad_AM hk2
  have hO := outK hO hG.z_AM hk2
  refine lv_istore (lv' := [(6, .int (bI (mrB (cd1 (lpOk n (xs ((4 * i) + 1)))) (onB (v (ixx (xs ((4 * i) + 1)))) now)))), (5, .int (nI (cd1 (lpOk n (xs ((4 * i) + 1)))))), (4, .int (nI (4 * i))), (3, .ref z), (2, .ref (am 0)), (1, .ref (ad 0)), (0, .ref b)]) hx hb dL_law_916 hl (by decide) rfl (fun ls hl => ?_)
  refine lv_aload_n hx hb dL_law_918 rfl (lv_at hl 4 rfl) ?_
  refine rV (r := nI (cd1 (lpOk n (xs ((4 * i) + 1))))) (As := []) (rest := []) ⟨hx, hb, hml, hown, hts⟩ (c_X2_thrown l D cI cZ cL cJ am (nI (cd1 (lpOk n (xs ((4 * i) + 1))))) n now told v hwf2) (cwV 0 hts gL_law_X2_thrown rfl rfl rfl (by decide +kernel) ⟨(Nat.le_of_ble_eq_true rfl), (Nat.le_of_ble_eq_true rfl)⟩) hK ((hEN.kept hS.2.1).narrow (fun _ h => h.elim)) hPM (RC_of (q := (RX2, TX2, 9)) (ci := 2) hK rfl (vpa hPM 0 rfl)) rfl hl.1 rfl (Nat.le_of_ble_eq_true rfl) dL_law_919 ⟨by show 36 + 4 * i + 1 + 0 ≤ 668203; omega, by show 300 + 24 * i + 6 + 0 ≤ 7091495; omega⟩ ?_
  refine lv_iload hx hb dL_law_922 (lv_at hl 1 rfl) ?_
  refine lv_icmp_eq (tgt := 929) hx hb dL_law_924 (by decide) (fun c_924 => ?_) (fun c_924 => ?_)
  · refine lv_iload hx hb dL_law_929 (lv_at hl 1 rfl) ?_
    refine n_if_ne (a := cd1 (lpOk n (xs ((4 * i) + 1)))) (tgt := 953) hx hb (cd1_lt _) dL_law_931 (by decide) (fun c_931 => ?_) (fun c_931 => ?_)
    · refine lv_goto (tgt := 1883) hx hb dL_law_953 (by decide) ?_
      refine W.widen (k := 36 + 4 * (i + 1)) (n := 300 + 24 * (i + 1)) (by omega) (by omega) ?_
      exact kk n now told (nI (cd1 (lpOk n (xs ((4 * i) + 1))))) v f1 H2 locs2 ls hwf2 hnow2 hPX hPM hO hS (lv_sub hl [2, 3, 4, 5, 6] rfl)
    · refine lv_aload_n hx hb dL_law_934 rfl (lv_at hl 3 rfl) ?_
      refine lv_iconst (v := nI 0) hx hb dL_law_935 (by decide) ?_
      refine va_lald hx hb hK hO 0 3 rfl rfl (show vp_in (nI 0) 1 from vp_in_nI (by decide) (by decide)) dL_law_936 ?_
      refine n_tl (y := f1 0) (by rw [nI_clamp (by decide)]) ?_
      refine lv_iload hx hb dL_law_937 (lv_at hl 0 rfl) ?_
      refine b_if_eq (b := mrB (cd1 (lpOk n (xs ((4 * i) + 1)))) (onB (v (ixx (xs ((4 * i) + 1)))) now)) (tgt := 946) hx hb dL_law_939 (by decide) (fun c_939 => ?_) (fun c_939 => ?_)
      · refine lv_lconst (v := 0) hx hb dL_law_946 (by decide) ?_
        refine W.lcmp hx hb dL_law_947 ?_
        refine lv_if_eq (tgt := 953) hx hb dL_law_948 (by decide) (fun c_948 => ?_) (fun c_948 => ?_)
        · refine lv_goto (tgt := 1883) hx hb dL_law_953 (by decide) ?_
          refine W.widen (k := 36 + 4 * (i + 1)) (n := 300 + 24 * (i + 1)) (by omega) (by omega) ?_
          exact kk n now told (nI (cd1 (lpOk n (xs ((4 * i) + 1))))) v f1 H2 locs2 ls hwf2 hnow2 hPX hPM hO hS (lv_sub hl [2, 3, 4, 5, 6] rfl)
        · exact absurd (lgc ((hf1 c_931).trans (by rw [← mrB_t (b := (onB (v (ixx (xs ((4 * i) + 1)))) now)) c_931, c_939]; rfl))) c_948
      · refine lv_lconst (v := 1) hx hb dL_law_942 (by decide) ?_
        refine lv_goto (tgt := 947) hx hb dL_law_943 (by decide) ?_
        refine W.lcmp hx hb dL_law_947 ?_
        refine lv_if_eq (tgt := 953) hx hb dL_law_948 (by decide) (fun c_948 => ?_) (fun c_948 => ?_)
        · refine lv_goto (tgt := 1883) hx hb dL_law_953 (by decide) ?_
          refine W.widen (k := 36 + 4 * (i + 1)) (n := 300 + 24 * (i + 1)) (by omega) (by omega) ?_
          exact kk n now told (nI (cd1 (lpOk n (xs ((4 * i) + 1))))) v f1 H2 locs2 ls hwf2 hnow2 hPX hPM hO hS (lv_sub hl [2, 3, 4, 5, 6] rfl)
        · exact absurd (lgc ((hf1 c_931).trans (by rw [← mrB_t (b := (onB (v (ixx (xs ((4 * i) + 1)))) now)) c_931, c_939]; rfl))) c_948
  · exact absurd rfl c_924
set_option maxHeartbeats 4000000 in
set_option maxRecDepth 100000 in
theorem kL_14 {p : Program} {l : Launch} {e : Env} {s : State} {m : MethodId} {below : List Frame} {meth : Method} {c : Code} {Q : State → Prop} {b L : Nat} {xs : Nat → Int32} {D : va_G} {cI cZ cL cJ : ClassId} {ad am : Nat → Nat} {z : Nat} (hst : l.stackTraces = false) (hL : L ≤ 2048) (hx : p.tables.exec = Jvm.exec) (hb : c.code = cL_law) (hml : c.maxLocals = 9) (hown : s.vm.findClass RL = some m.cls) (hts : ∀ w ∈ wsL_law, w.before #[Value.ref b] s = true) (hX : va_X b L xs s s.heap) (hbl : b < s.heap.size) (hK : va_K D vwCl (TY cI cZ cL cJ) s) (hEN : EN (AH s) s s.heap) (hG : GG s ad am z) {i n now : Nat} {told th : Int32} {v : Nat → LV} {f : Nat → Int64} {H : Heap} {locs : List Loc} {ls : Array Slot} (hwf : WFX n now v) (hnow : now ≤ 500 * i) (hi : 4 * i + 4 ≤ L) (hPX : PX D cI cL ad n now told v H) (hPM : PM D cI cZ am th n now told v H) (hO : va_P D vwCl (outW cJ z f) H) (hS : va_S (AH s) s.heap H locs) (hl : lv_has ls 9 [(4, .int (nI (4 * i))), (3, .ref z), (2, .ref (am 0)), (1, .ref (ad 0)), (0, .ref b)]) (kk : ∀ (n now : Nat) (told th : Int32) (v : Nat → LV) (f : Nat → Int64) (H : Heap) (locs : List Loc) (ls : Array Slot), WFX n now v → now ≤ 500 * (i + 1) → PX D cI cL ad n now told v H → PM D cI cZ am th n now told v H → va_P D vwCl (outW cJ z f) H → va_S (AH s) s.heap H locs → lv_has ls 9 [(4, .int (nI (4 * i))), (3, .ref z), (2, .ref (am 0)), (1, .ref (ad 0)), (0, .ref b)] → W p l e room_1 s m #[Value.ref b] below meth c H locs (36 + 4 * (i + 1)) (300 + 24 * (i + 1)) Q (F0 m 1883 ls [])) : W p l e room_1 s m #[Value.ref b] below meth c H locs (36 + 4 * i) (300 + 24 * i) Q (F0 m 956 ls []) := by
  refine lv_aload_n hx hb dL_law_956 rfl (lv_at hl 3 rfl) ?_
  refine lv_aload_n hx hb dL_law_957 rfl (lv_at hl 4 rfl) ?_
  refine lv_iload hx hb dL_law_958 (lv_at hl 0 rfl) ?_
  refine lv_iconst (v := nI 1) hx hb dL_law_960 (by decide) ?_
  refine n_iadd (v := nI ((4 * i) + 1)) hx hb dL_law_961 (nI_add _ _) ?_
  refine n_sld (j := (4 * i) + 1) hx hb hX hbl (Nat.not_le.mpr hbl) hS (by omega) (by omega) dL_law_962 ?_
  refine lv_aload_n hx hb dL_law_963 rfl (lv_at hl 1 rfl) ?_
  refine lsS (A0 := AH s) (As := [.ref (ad 0), .int (xs ((4 * i) + 1)), .ref z]) (rest := []) ⟨hx, hb, hml, hown, hts⟩ (c_L_isLit l D cI cZ cL cJ hst ad n now told v hwf hG.1.1 z f hG.z_AX (xs ((4 * i) + 1))) (vx_cwSW 3 hts gL_law_L_isLit rfl rfl rfl (by decide +kernel) ⟨(Nat.le_of_ble_eq_true rfl), (Nat.le_of_ble_eq_true rfl)⟩) hK ((hEN.kept hS.2.1).narrow hG.toAL) ⟨hPX, hO⟩ rfl hl.1 rfl (Nat.le_of_ble_eq_true rfl) dL_law_964 ⟨by show 36 + 4 * i + 1 ≤ 668203; omega, by show 300 + 24 * i + 6 ≤ 7091495; omega⟩ hS hG.toAL (fun H1 locs1 _ hLE hz1 hk1 hS => ?_)
  obtain ⟨hPX, f1, hO, hf1⟩ := hLE
  have hPM := PM_keep hPM hG.am_AL hk1
  have hwf2 : WFX n now v := hwf
  have hnow2 : now ≤ 500 * (i + 1) := by omega
  refine lv_istore (lv' := [(5, .int (nI (cd1 (lpOk n (xs ((4 * i) + 1)))))), (4, .int (nI (4 * i))), (3, .ref z), (2, .ref (am 0)), (1, .ref (ad 0)), (0, .ref b)]) hx hb dL_law_967 hl (by decide) rfl (fun ls hl => ?_)
  refine lv_aload_n hx hb dL_law_969 rfl (lv_at hl 3 rfl) ?_
  refine lv_aload_n hx hb dL_law_970 rfl (lv_at hl 5 rfl) ?_
  refine lv_iload hx hb dL_law_971 (lv_at hl 1 rfl) ?_
  refine lv_iconst (v := nI 1) hx hb dL_law_973 (by decide) ?_
  refine n_iadd (v := nI ((4 * i) + 1)) hx hb dL_law_974 (nI_add _ _) ?_
  refine n_sld (j := (4 * i) + 1) hx hb hX hbl (Nat.not_le.mpr hbl) hS (by omega) (by omega) dL_law_975 ?_
  refine wV (A0 := AH s) (As := [.int (xs ((4 * i) + 1))]) (rest := []) ⟨hx, hb, hml, hown, hts⟩ (c_X2_isLit l D cI cZ cL cJ am th n now told v hwf hG.1.2 (xs ((4 * i) + 1))) (cwV 1 hts gL_law_X2_isLit rfl rfl rfl (by decide +kernel) ⟨(Nat.le_of_ble_eq_true rfl), (Nat.le_of_ble_eq_true rfl)⟩) hK ((hEN.kept hS.2.1).narrow hG.toAM) hPM (RC_of (q := (RX2, TX2, 9)) (ci := 2) hK rfl (vpa hPM 0 rfl)) rfl hl.1 rfl (Nat.le_of_ble_eq_true rfl) dL_law_976 ⟨by show 36 + 4 * i + 1 + 0 ≤ 668203; omega, by show 300 + 24 * i + 6 + 0 ≤ 7091495; omega⟩ hS hG.toAM (fun H2 locs2 _ hPM hz2 hk2 hS => ?_)
  have hPM : PM D cI cZ am (nI (cd1 (lpOk n (xs ((4 * i) + 1))))) n now told v H2 := hPM
  have hPX := PX_keep hPX hG.ad_AM hk2
  have hO := outK hO hG.z_AM hk2
  refine lv_istore (lv' := [(6, .int (bI (mrB (cd1 (lpOk n (xs ((4 * i) + 1)))) (litB (v (ixx (xs ((4 * i) + 1)))) now)))), (5, .int (nI (cd1 (lpOk n (xs ((4 * i) + 1)))))), (4, .int (nI (4 * i))), (3, .ref z), (2, .ref (am 0)), (1, .ref (ad 0)), (0, .ref b)]) hx hb dL_law_979 hl (by decide) rfl (fun ls hl => ?_)
  refine lv_aload_n hx hb dL_law_981 rfl (lv_at hl 4 rfl) ?_
  refine rV (r := nI (cd1 (lpOk n (xs ((4 * i) + 1))))) (As := []) (rest := []) ⟨hx, hb, hml, hown, hts⟩ (c_X2_thrown l D cI cZ cL cJ am (nI (cd1 (lpOk n (xs ((4 * i) + 1))))) n now told v hwf2) (cwV 0 hts gL_law_X2_thrown rfl rfl rfl (by decide +kernel) ⟨(Nat.le_of_ble_eq_true rfl), (Nat.le_of_ble_eq_true rfl)⟩) hK ((hEN.kept hS.2.1).narrow (fun _ h => h.elim)) hPM (RC_of (q := (RX2, TX2, 9)) (ci := 2) hK rfl (vpa hPM 0 rfl)) rfl hl.1 rfl (Nat.le_of_ble_eq_true rfl) dL_law_982 ⟨by show 36 + 4 * i + 1 + 0 ≤ 668203; omega, by show 300 + 24 * i + 6 + 0 ≤ 7091495; omega⟩ ?_
  refine lv_iload hx hb dL_law_985 (lv_at hl 1 rfl) ?_
  refine lv_icmp_eq (tgt := 992) hx hb dL_law_987 (by decide) (fun c_987 => ?_) (fun c_987 => ?_)
  · refine lv_iload hx hb dL_law_992 (lv_at hl 1 rfl) ?_
    refine n_if_ne (a := cd1 (lpOk n (xs ((4 * i) + 1)))) (tgt := 1016) hx hb (cd1_lt _) dL_law_994 (by decide) (fun c_994 => ?_) (fun c_994 => ?_)
    · refine lv_goto (tgt := 1883) hx hb dL_law_1016 (by decide) ?_
      refine W.widen (k := 36 + 4 * (i + 1)) (n := 300 + 24 * (i + 1)) (by omega) (by omega) ?_
      exact kk n now told (nI (cd1 (lpOk n (xs ((4 * i) + 1))))) v f1 H2 locs2 ls hwf2 hnow2 hPX hPM hO hS (lv_sub hl [2, 3, 4, 5, 6] rfl)
    · refine lv_aload_n hx hb dL_law_997 rfl (lv_at hl 3 rfl) ?_
      refine lv_iconst (v := nI 0) hx hb dL_law_998 (by decide) ?_
      refine va_lald hx hb hK hO 0 3 rfl rfl (show vp_in (nI 0) 1 from vp_in_nI (by decide) (by decide)) dL_law_999 ?_
      refine n_tl (y := f1 0) (by rw [nI_clamp (by decide)]) ?_
      refine lv_iload hx hb dL_law_1000 (lv_at hl 0 rfl) ?_
      refine b_if_eq (b := mrB (cd1 (lpOk n (xs ((4 * i) + 1)))) (litB (v (ixx (xs ((4 * i) + 1)))) now)) (tgt := 1009) hx hb dL_law_1002 (by decide) (fun c_1002 => ?_) (fun c_1002 => ?_)
      · refine lv_lconst (v := 0) hx hb dL_law_1009 (by decide) ?_
        refine W.lcmp hx hb dL_law_1010 ?_
        refine lv_if_eq (tgt := 1016) hx hb dL_law_1011 (by decide) (fun c_1011 => ?_) (fun c_1011 => ?_)
        · refine lv_goto (tgt := 1883) hx hb dL_law_1016 (by decide) ?_
          refine W.widen (k := 36 + 4 * (i + 1)) (n := 300 + 24 * (i + 1)) (by omega) (by omega) ?_
          exact kk n now told (nI (cd1 (lpOk n (xs ((4 * i) + 1))))) v f1 H2 locs2 ls hwf2 hnow2 hPX hPM hO hS (lv_sub hl [2, 3, 4, 5, 6] rfl)
        · exact absurd (lgc ((hf1 c_994).trans (by rw [← mrB_t (b := (litB (v (ixx (xs ((4 * i) + 1)))) now)) c_994, c_1002]; rfl))) c_1011
      · refine lv_lconst (v := 1) hx hb dL_law_1005 (by decide) ?_
        refine lv_goto (tgt := 1010) hx hb dL_law_1006 (by decide) ?_
        refine W.lcmp hx hb dL_law_1010 ?_
        refine lv_if_eq (tgt := 1016) hx hb dL_law_1011 (by decide) (fun c_1011 => ?_) (fun c_1011 => ?_)
        · refine lv_goto (tgt := 1883) hx hb dL_law_1016 (by decide) ?_
          refine W.widen (k := 36 + 4 * (i + 1)) (n := 300 + 24 * (i + 1)) (by omega) (by omega) ?_
          exact kk n now told (nI (cd1 (lpOk n (xs ((4 * i) + 1))))) v f1 H2 locs2 ls hwf2 hnow2 hPX hPM hO hS (lv_sub hl [2, 3, 4, 5, 6] rfl)
        · exact absurd (lgc ((hf1 c_994).trans (by rw [← mrB_t (b := (litB (v (ixx (xs ((4 * i) + 1)))) now)) c_994, c_1002]; rfl))) c_1011
  · exact absurd rfl c_987
set_option maxHeartbeats 4000000 in
set_option maxRecDepth 100000 in
theorem kL_15 {p : Program} {l : Launch} {e : Env} {s : State} {m : MethodId} {below : List Frame} {meth : Method} {c : Code} {Q : State → Prop} {b L : Nat} {xs : Nat → Int32} {D : va_G} {cI cZ cL cJ : ClassId} {ad am : Nat → Nat} {z : Nat} (hst : l.stackTraces = false) (hL : L ≤ 2048) (hx : p.tables.exec = Jvm.exec) (hb : c.code = cL_law) (hml : c.maxLocals = 9) (hown : s.vm.findClass RL = some m.cls) (hts : ∀ w ∈ wsL_law, w.before #[Value.ref b] s = true) (hX : va_X b L xs s s.heap) (hbl : b < s.heap.size) (hK : va_K D vwCl (TY cI cZ cL cJ) s) (hEN : EN (AH s) s s.heap) (hG : GG s ad am z) {i n now : Nat} {told th : Int32} {v : Nat → LV} {f : Nat → Int64} {H : Heap} {locs : List Loc} {ls : Array Slot} (hwf : WFX n now v) (hnow : now ≤ 500 * i) (hi : 4 * i + 4 ≤ L) (hPX : PX D cI cL ad n now told v H) (hPM : PM D cI cZ am th n now told v H) (hO : va_P D vwCl (outW cJ z f) H) (hS : va_S (AH s) s.heap H locs) (hl : lv_has ls 9 [(4, .int (nI (4 * i))), (3, .ref z), (2, .ref (am 0)), (1, .ref (ad 0)), (0, .ref b)]) (kk : ∀ (n now : Nat) (told th : Int32) (v : Nat → LV) (f : Nat → Int64) (H : Heap) (locs : List Loc) (ls : Array Slot), WFX n now v → now ≤ 500 * (i + 1) → PX D cI cL ad n now told v H → PM D cI cZ am th n now told v H → va_P D vwCl (outW cJ z f) H → va_S (AH s) s.heap H locs → lv_has ls 9 [(4, .int (nI (4 * i))), (3, .ref z), (2, .ref (am 0)), (1, .ref (ad 0)), (0, .ref b)] → W p l e room_1 s m #[Value.ref b] below meth c H locs (36 + 4 * (i + 1)) (300 + 24 * (i + 1)) Q (F0 m 1883 ls [])) : W p l e room_1 s m #[Value.ref b] below meth c H locs (36 + 4 * i) (300 + 24 * i) Q (F0 m 1019 ls []) := by
  refine lv_aload_n hx hb dL_law_1019 rfl (lv_at hl 3 rfl) ?_
  refine rV (r := nI (litN v n now)) (As := []) (rest := []) ⟨hx, hb, hml, hown, hts⟩ (c_X1_litLamps l D cI cZ cL cJ ad n now told v hwf) (cwV 0 hts gL_law_X1_litLamps rfl rfl rfl (by decide +kernel) ⟨(Nat.le_of_ble_eq_true rfl), (Nat.le_of_ble_eq_true rfl)⟩) hK ((hEN.kept hS.2.1).narrow (fun _ h => h.elim)) hPX (RC_of (q := (RX1, TX1, 5)) (ci := 1) hK rfl (vpa hPX.1 0 rfl)) rfl hl.1 rfl (Nat.le_of_ble_eq_true rfl) dL_law_1020 ⟨by show 36 + 4 * i ≤ 668203; omega, by show 300 + 24 * i ≤ 7091495; omega⟩ ?_
  refine lv_aload_n hx hb dL_law_1023 rfl (lv_at hl 2 rfl) ?_
  refine wV (A0 := AH s) (As := []) (rest := [.int (nI (litN v n now))]) ⟨hx, hb, hml, hown, hts⟩ (c_X2_litLamps l D cI cZ cL cJ am th n now told v hwf hG.1.2 ) (cwV 0 hts gL_law_X2_litLamps rfl rfl rfl (by decide +kernel) ⟨(Nat.le_of_ble_eq_true rfl), (Nat.le_of_ble_eq_true rfl)⟩) hK ((hEN.kept hS.2.1).narrow hG.toAM) hPM (RC_of (q := (RX2, TX2, 9)) (ci := 2) hK rfl (vpa hPM 0 rfl)) rfl hl.1 rfl (Nat.le_of_ble_eq_true rfl) dL_law_1024 ⟨by show 36 + 4 * i ≤ 668203; omega, by show 300 + 24 * i ≤ 7091495; omega⟩ hS hG.toAM (fun H2 locs2 _ hPM hz2 hk2 hS => ?_)
  have hPM : PM D cI cZ am (nI (0)) n now told v H2 := hPM
  have hwf2 := hwf
  have hnow2 : now ≤ 500 * (i + 1) := by omega
  have hPX := PX_keep hPX hG.ad_AM hk2
  have hO := outK hO hG.z_AM hk2
  refine lv_icmp_eq (tgt := 1883) hx hb dL_law_1027 (by decide) (fun c_1027 => ?_) (fun c_1027 => ?_)
  · refine W.widen (k := 36 + 4 * (i + 1)) (n := 300 + 24 * (i + 1)) (by omega) (by omega) ?_
    exact kk n now told (nI (0)) v f H2 locs2 ls hwf2 hnow2 hPX hPM hO hS (lv_sub hl [0, 1, 2, 3, 4] rfl)
  · exact absurd rfl c_1027
