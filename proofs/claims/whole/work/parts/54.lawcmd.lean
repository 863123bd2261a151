set_option maxHeartbeats 4000000 in
set_option maxRecDepth 100000 in
theorem kL_16 {p : Program} {l : Launch} {e : Env} {s : State} {m : MethodId} {below : List Frame} {meth : Method} {c : Code} {Q : State → Prop} {b L : Nat} {xs : Nat → Int32} {D : va_G} {cI cZ cL cJ : ClassId} {ad am : Nat → Nat} {z : Nat} (hst : l.stackTraces = false) (hL : L ≤ 2048) (hx : p.tables.exec = Jvm.exec) (hb : c.code = cL_law) (hml : c.maxLocals = 9) (hown : s.vm.findClass RL = some m.cls) (hts : ∀ w ∈ wsL_law, w.before #[Value.ref b] s = true) (hX : va_X b L xs s s.heap) (hbl : b < s.heap.size) (hK : va_K D vwCl (TY cI cZ cL cJ) s) (hEN : EN (AH s) s s.heap) (hG : GG s ad am z) {i n now : Nat} {told th : Int32} {v : Nat → LV} {f : Nat → Int64} {H : Heap} {locs : List Loc} {ls : Array Slot} (hwf : WFX n now v) (hnow : now ≤ 500 * i) (hi : 4 * i + 4 ≤ L) (hPX : PX D cI cL ad n now told v H) (hPM : PM D cI cZ am th n now told v H) (hO : va_P D vwCl (outW cJ z f) H) (hS : va_S (AH s) s.heap H locs) (hl : lv_has ls 9 [(4, .int (nI (4 * i))), (3, .ref z), (2, .ref (am 0)), (1, .ref (ad 0)), (0, .ref b)]) (kk : ∀ (n now : Nat) (told th : Int32) (v : Nat → LV) (f : Nat → Int64) (H : Heap) (locs : List Loc) (ls : Array Slot), WFX n now v → now ≤ 500 * (i + 1) → PX D cI cL ad n now told v H → PM D cI cZ am th n now told v H → va_P D vwCl (outW cJ z f) H → va_S (AH s) s.heap H locs → lv_has ls 9 [(4, .int (nI (4 * i))), (3, .ref z), (2, .ref (am 0)), (1, .ref (ad 0)), (0, .ref b)] → W p l e room_1 s m #[Value.ref b] below meth c H locs (36 + 4 * (i + 1)) (300 + 24 * (i + 1)) Q (F0 m 1883 ls [])) : W p l e room_1 s m #[Value.ref b] below meth c H locs (36 + 4 * i) (300 + 24 * i) Q (F0 m 1032 ls []) := by
  refine lv_aload_n hx hb dL_law_1032 rfl (lv_at hl 3 rfl) ?_
  refine rV (r := bI (dkB v n (-1) now)) (As := []) (rest := []) ⟨hx, hb, hml, hown, hts⟩ (c_X1_isDark l D cI cZ cL cJ ad n now told v hwf) (cwV 0 hts gL_law_X1_isDark rfl rfl rfl (by decide +kernel) ⟨(Nat.le_of_ble_eq_true rfl), (Nat.le_of_ble_eq_true rfl)⟩) hK ((hEN.kept hS.2.1).narrow (fun _ h => h.elim)) hPX (RC_of (q := (RX1, TX1, 5)) (ci := 1) hK rfl (vpa hPX.1 0 rfl)) rfl hl.1 rfl (Nat.le_of_ble_eq_true rfl) dL_law_1033 ⟨by show 36 + 4 * i ≤ 668203; omega, by show 300 + 24 * i ≤ 7091495; omega⟩ ?_
  refine lv_aload_n hx hb dL_law_1036 rfl (lv_at hl 2 rfl) ?_
  refine wV (A0 := AH s) (As := []) (rest := [.int (bI (dkB v n (-1) now))]) ⟨hx, hb, hml, hown, hts⟩ (c_X2_isDark l D cI cZ cL cJ am th n now told v hwf hG.1.2 ) (cwV 0 hts gL_law_X2_isDark rfl rfl rfl (by decide +kernel) ⟨(Nat.le_of_ble_eq_true rfl), (Nat.le_of_ble_eq_true rfl)⟩) hK ((hEN.kept hS.2.1).narrow hG.toAM) hPM (RC_of (q := (RX2, TX2, 9)) (ci := 2) hK rfl (vpa hPM 0 rfl)) rfl hl.1 rfl (Nat.le_of_ble_eq_true rfl) dL_law_1037 ⟨by show 36 + 4 * i ≤ 668203; omega, by show 300 + 24 * i ≤ 7091495; omega⟩ hS hG.toAM (fun H2 locs2 _ hPM hz2 hk2 hS => ?_)
  have hPM : PM D cI cZ am (nI (0)) n now told v H2 := hPM
  have hwf2 := hwf
  have hnow2 : now ≤ 500 * (i + 1) := by omega
  have hPX := PX_keep hPX hG.ad_AM hk2
  have hO := outK hO hG.z_AM hk2
  refine lv_icmp_eq (tgt := 1883) hx hb dL_law_1040 (by decide) (fun c_1040 => ?_) (fun c_1040 => ?_)
  · refine W.widen (k := 36 + 4 * (i + 1)) (n := 300 + 24 * (i + 1)) (by omega) (by omega) ?_
    exact kk n now told (nI (0)) v f H2 locs2 ls hwf2 hnow2 hPX hPM hO hS (lv_sub hl [0, 1, 2, 3, 4] rfl)
  · exact absurd rfl c_1040
set_option maxHeartbeats 4000000 in
set_option maxRecDepth 100000 in
theorem kL_17 {p : Program} {l : Launch} {e : Env} {s : State} {m : MethodId} {below : List Frame} {meth : Method} {c : Code} {Q : State → Prop} {b L : Nat} {xs : Nat → Int32} {D : va_G} {cI cZ cL cJ : ClassId} {ad am : Nat → Nat} {z : Nat} (hst : l.stackTraces = false) (hL : L ≤ 2048) (hx : p.tables.exec = Jvm.exec) (hb : c.code = cL_law) (hml : c.maxLocals = 9) (hown : s.vm.findClass RL = some m.cls) (hts : ∀ w ∈ wsL_law, w.before #[Value.ref b] s = true) (hX : va_X b L xs s s.heap) (hbl : b < s.heap.size) (hK : va_K D vwCl (TY cI cZ cL cJ) s) (hEN : EN (AH s) s s.heap) (hG : GG s ad am z) {i n now : Nat} {told th : Int32} {v : Nat → LV} {f : Nat → Int64} {H : Heap} {locs : List Loc} {ls : Array Slot} (hwf : WFX n now v) (hnow : now ≤ 500 * i) (hi : 4 * i + 4 ≤ L) (hPX : PX D cI cL ad n now told v H) (hPM : PM D cI cZ am th n now told v H) (hO : va_P D vwCl (outW cJ z f) H) (hS : va_S (AH s) s.heap H locs) (hl : lv_has ls 9 [(4, .int (nI (4 * i))), (3, .ref z), (2, .ref (am 0)), (1, .ref (ad 0)), (0, .ref b)]) (kk : ∀ (n now : Nat) (told th : Int32) (v : Nat → LV) (f : Nat → Int64) (H : Heap) (locs : List Loc) (ls : Array Slot), WFX n now v → now ≤ 500 * (i + 1) → PX D cI cL ad n now told v H → PM D cI cZ am th n now told v H → va_P D vwCl (outW cJ z f) H → va_S (AH s) s.heap H locs → lv_has ls 9 [(4, .int (nI (4 * i))), (3, .ref z), (2, .ref (am 0)), (1, .ref (ad 0)), (0, .ref b)] → W p l e room_1 s m #[Value.ref b] below meth c H locs (36 + 4 * (i + 1)) (300 + 24 * (i + 1)) Q (F0 m 1883 ls [])) : W p l e room_1 s m #[Value.ref b] below meth c H locs (36 + 4 * i) (300 + 24 * i) Q (F0 m 1045 ls []) := by
  refine lv_aload_n hx hb dL_law_1045 rfl (lv_at hl 3 rfl) ?_
  refine lv_aload_n hx hb dL_law_1046 rfl (lv_at hl 4 rfl) ?_
  refine lv_iload hx hb dL_law_1047 (lv_at hl 0 rfl) ?_
  refine lv_iconst (v := nI 1) hx hb dL_law_1049 (by decide) ?_
  refine n_iadd (v := nI ((4 * i) + 1)) hx hb dL_law_1050 (nI_add _ _) ?_
  refine n_sld (j := (4 * i) + 1) hx hb hX hbl (Nat.not_le.mpr hbl) hS (by omega) (by omega) dL_law_1051 ?_
  refine lv_aload_n hx hb dL_law_1052 rfl (lv_at hl 4 rfl) ?_
  refine lv_iload hx hb dL_law_1053 (lv_at hl 0 rfl) ?_
  refine lv_iconst (v := nI 2) hx hb dL_law_1055 (by decide) ?_
  refine n_iadd (v := nI ((4 * i) + 2)) hx hb dL_law_1056 (nI_add _ _) ?_
  refine n_sld (j := (4 * i) + 2) hx hb hX hbl (Nat.not_le.mpr hbl) hS (by omega) (by omega) dL_law_1057 ?_
  refine lv_aload_n hx hb dL_law_1058 rfl (lv_at hl 1 rfl) ?_
  refine lsS (A0 := AH s) (As := [.ref (ad 0), .int (xs ((4 * i) + 1)), .int (xs ((4 * i) + 2)), .ref z]) (rest := []) ⟨hx, hb, hml, hown, hts⟩ (c_L_isOnAt l D cI cZ cL cJ hst ad n now told v hwf hG.1.1 z f hG.z_AX (xs ((4 * i) + 1)) (xs ((4 * i) + 2))) (vx_cwSW 4 hts gL_law_L_isOnAt rfl rfl rfl (by decide +kernel) ⟨(Nat.le_of_ble_eq_true rfl), (Nat.le_of_ble_eq_true rfl)⟩) hK ((hEN.kept hS.2.1).narrow hG.toAL) ⟨hPX, hO⟩ rfl hl.1 rfl (Nat.le_of_ble_eq_true rfl) dL_law_1059 ⟨by show 36 + 4 * i + 2 ≤ 668203; omega, by show 300 + 24 * i + 12 ≤ 7091495; omega⟩ hS hG.toAL (fun H1 locs1 _ hLE hz1 hk1 hS => ?_)
  obtain ⟨hPX, f1, hO, hf1⟩ := hLE
  have hPM := PM_keep hPM hG.am_AL hk1
  have hwf2 : WFX n now v := hwf
  have hnow2 : now ≤ 500 * (i + 1) := by omega
  refine lv_istore (lv' := [(5, .int (nI (cd2 (lpOk n (xs ((4 * i) + 1))) (inB (nI 0) (nI 60000) (xs ((4 * i) + 2)))))), (4, .int (nI (4 * i))), (3, .ref z), (2, .ref (am 0)), (1, .ref (ad 0)), (0, .ref b)]) hx hb dL_law_1062 hl (by decide) rfl (fun ls hl => ?_)
  refine lv_aload_n hx hb dL_law_1064 rfl (lv_at hl 3 rfl) ?_
  refine lv_aload_n hx hb dL_law_1065 rfl (lv_at hl 5 rfl) ?_
  refine lv_iload hx hb dL_law_1066 (lv_at hl 1 rfl) ?_
  refine lv_iconst (v := nI 1) hx hb dL_law_1068 (by decide) ?_
  refine n_iadd (v := nI ((4 * i) + 1)) hx hb dL_law_1069 (nI_add _ _) ?_
  refine n_sld (j := (4 * i) + 1) hx hb hX hbl (Nat.not_le.mpr hbl) hS (by omega) (by omega) dL_law_1070 ?_
  refine lv_aload_n hx hb dL_law_1071 rfl (lv_at hl 5 rfl) ?_
  refine lv_iload hx hb dL_law_1072 (lv_at hl 1 rfl) ?_
  refine lv_iconst (v := nI 2) hx hb dL_law_1074 (by decide) ?_
  refine n_iadd (v := nI ((4 * i) + 2)) hx hb dL_law_1075 (nI_add _ _) ?_
  refine n_sld (j := (4 * i) + 2) hx hb hX hbl (Nat.not_le.mpr hbl) hS (by omega) (by omega) dL_law_1076 ?_
  refine wV (A0 := AH s) (As := [.int (xs ((4 * i) + 1)), .int (xs ((4 * i) + 2))]) (rest := []) ⟨hx, hb, hml, hown, hts⟩ (c_X2_isOnAt l D cI cZ cL cJ am th n now told v hwf hG.1.2 (xs ((4 * i) + 1)) (xs ((4 * i) + 2))) (cwV 2 hts gL_law_X2_isOnAt rfl rfl rfl (by decide +kernel) ⟨(Nat.le_of_ble_eq_true rfl), (Nat.le_of_ble_eq_true rfl)⟩) hK ((hEN.kept hS.2.1).narrow hG.toAM) hPM (RC_of (q := (RX2, TX2, 9)) (ci := 2) hK rfl (vpa hPM 0 rfl)) rfl hl.1 rfl (Nat.le_of_ble_eq_true rfl) dL_law_1077 ⟨by show 36 + 4 * i + 2 + 0 ≤ 668203; omega, by show 300 + 24 * i + 12 + 0 ≤ 7091495; omega⟩ hS hG.toAM (fun H2 locs2 _ hPM hz2 hk2 hS => ?_)
  have hPM : PM D cI cZ am (nI (cd2 (lpOk n (xs ((4 * i) + 1))) (inB (nI 0) (nI 60000) (xs ((4 * i) + 2))))) n now told v H2 := hPM
  have hPX := PX_keep hPX hG.ad_AM hk2
  have hO := outK hO hG.z_AM hk2
  refine lv_istore (lv' := [(6, .int (bI (mrB (cd2 (lpOk n (xs ((4 * i) + 1))) (inB (nI 0) (nI 60000) (xs ((4 * i) + 2)))) (onB (v (ixx (xs ((4 * i) + 1)))) (ixx (xs ((4 * i) + 2))))))), (5, .int (nI (cd2 (lpOk n (xs ((4 * i) + 1))) (inB (nI 0) (nI 60000) (xs ((4 * i) + 2)))))), (4, .int (nI (4 * i))), (3, .ref z), (2, .ref (am 0)), (1, .ref (ad 0)), (0, .ref b)]) hx hb dL_law_1080 hl (by decide) rfl (fun ls hl => ?_)
  refine lv_aload_n hx hb dL_law_1082 rfl (lv_at hl 4 rfl) ?_
  refine rV (r := nI (cd2 (lpOk n (xs ((4 * i) + 1))) (inB (nI 0) (nI 60000) (xs ((4 * i) + 2))))) (As := []) (rest := []) ⟨hx, hb, hml, hown, hts⟩ (c_X2_thrown l D cI cZ cL cJ am (nI (cd2 (lpOk n (xs ((4 * i) + 1))) (inB (nI 0) (nI 60000) (xs ((4 * i) + 2))))) n now told v hwf2) (cwV 0 hts gL_law_X2_thrown rfl rfl rfl (by decide +kernel) ⟨(Nat.le_of_ble_eq_true rfl), (Nat.le_of_ble_eq_true rfl)⟩) hK ((hEN.kept hS.2.1).narrow (fun _ h => h.elim)) hPM (RC_of (q := (RX2, TX2, 9)) (ci := 2) hK rfl (vpa hPM 0 rfl)) rfl hl.1 rfl (Nat.le_of_ble_eq_true rfl) dL_law_1083 ⟨by show 36 + 4 * i + 2 + 0 ≤ 668203; omega, by show 300 + 24 * i + 12 + 0 ≤ 7091495; omega⟩ ?_
  refine lv_iload hx hb dL_law_1086 (lv_at hl 1 rfl) ?_
  refine lv_icmp_eq (tgt := 1093) hx hb dL_law_1088 (by decide) (fun c_1088 => ?_) (fun c_1088 => ?_)
  · refine lv_iload hx hb dL_law_1093 (lv_at hl 1 rfl) ?_
    refine n_if_ne (a := cd2 (lpOk n (xs ((4 * i) + 1))) (inB (nI 0) (nI 60000) (xs ((4 * i) + 2)))) (tgt := 1117) hx hb (cd2_lt _ _) dL_law_1095 (by decide) (fun c_1095 => ?_) (fun c_1095 => ?_)
    · refine lv_goto (tgt := 1883) hx hb dL_law_1117 (by decide) ?_
      refine W.widen (k := 36 + 4 * (i + 1)) (n := 300 + 24 * (i + 1)) (by omega) (by omega) ?_
      exact kk n now told (nI (cd2 (lpOk n (xs ((4 * i) + 1))) (inB (nI 0) (nI 60000) (xs ((4 * i) + 2))))) v f1 H2 locs2 ls hwf2 hnow2 hPX hPM hO hS (lv_sub hl [2, 3, 4, 5, 6] rfl)
    · refine lv_aload_n hx hb dL_law_1098 rfl (lv_at hl 3 rfl) ?_
      refine lv_iconst (v := nI 0) hx hb dL_law_1099 (by decide) ?_
      refine va_lald hx hb hK hO 0 3 rfl rfl (show vp_in (nI 0) 1 from vp_in_nI (by decide) (by decide)) dL_law_1100 ?_
      refine n_tl (y := f1 0) (by rw [nI_clamp (by decide)]) ?_
      refine lv_iload hx hb dL_law_1101 (lv_at hl 0 rfl) ?_
      refine b_if_eq (b := mrB (cd2 (lpOk n (xs ((4 * i) + 1))) (inB (nI 0) (nI 60000) (xs ((4 * i) + 2)))) (onB (v (ixx (xs ((4 * i) + 1)))) (ixx (xs ((4 * i) + 2))))) (tgt := 1110) hx hb dL_law_1103 (by decide) (fun c_1103 => ?_) (fun c_1103 => ?_)
      · refine lv_lconst (v := 0) hx hb dL_law_1110 (by decide) ?_
        refine W.lcmp hx hb dL_law_1111 ?_
        refine lv_if_eq (tgt := 1117) hx hb dL_law_1112 (by decide) (fun c_1112 => ?_) (fun c_1112 => ?_)
        · refine lv_goto (tgt := 1883) hx hb dL_law_1117 (by decide) ?_
          refine W.widen (k := 36 + 4 * (i + 1)) (n := 300 + 24 * (i + 1)) (by omega) (by omega) ?_
          exact kk n now told (nI (cd2 (lpOk n (xs ((4 * i) + 1))) (inB (nI 0) (nI 60000) (xs ((4 * i) + 2))))) v f1 H2 locs2 ls hwf2 hnow2 hPX hPM hO hS (lv_sub hl [2, 3, 4, 5, 6] rfl)
        · exact absurd (lgc ((hf1 c_1095).trans (by rw [← mrB_t (b := (onB (v (ixx (xs ((4 * i) + 1)))) (ixx (xs ((4 * i) + 2))))) c_1095, c_1103]; rfl))) c_1112
      · refine lv_lconst (v := 1) hx hb dL_law_1106 (by decide) ?_
        refine lv_goto (tgt := 1111) hx hb dL_law_1107 (by decide) ?_
        refine W.lcmp hx hb dL_law_1111 ?_
        refine lv_if_eq (tgt := 1117) hx hb dL_law_1112 (by decide) (fun c_1112 => ?_) (fun c_1112 => ?_)
        · refine lv_goto (tgt := 1883) hx hb dL_law_1117 (by decide) ?_
          refine W.widen (k := 36 + 4 * (i + 1)) (n := 300 + 24 * (i + 1)) (by omega) (by omega) ?_
          exact kk n now told (nI (cd2 (lpOk n (xs ((4 * i) + 1))) (inB (nI 0) (nI 60000) (xs ((4 * i) + 2))))) v f1 H2 locs2 ls hwf2 hnow2 hPX hPM hO hS (lv_sub hl [2, 3, 4, 5, 6] rfl)
        · exact absurd (lgc ((hf1 c_1095).trans (by rw [← mrB_t (b := (onB (v (ixx (xs ((4 * i) + 1)))) (ixx (xs ((4 * i) + 2))))) c_1095, c_1103]; rfl))) c_1112
  · exact absurd rfl c_1088
set_option maxHeartbeats 4000000 in
set_option maxRecDepth 100000 in
theorem kL_18 {p : Program} {l : Launch} {e : Env} {s : State} {m : MethodId} {below : List Frame} {meth : Method} {c : Code} {Q : State → Prop} {b L : Nat} {xs : Nat → Int32} {D : va_G} {cI cZ cL cJ : ClassId} {ad am : Nat → Nat} {z : Nat} (hst : l.stackTraces = false) (hL : L ≤ 2048) (hx : p.tables.exec = Jvm.exec) (hb : c.code = cL_law) (hml : c.maxLocals = 9) (hown : s.vm.findClass RL = some m.cls) (hts : ∀ w ∈ wsL_law, w.before #[Value.ref b] s = true) (hX : va_X b L xs s s.heap) (hbl : b < s.heap.size) (hK : va_K D vwCl (TY cI cZ cL cJ) s) (hEN : EN (AH s) s s.heap) (hG : GG s ad am z) {i n now : Nat} {told th : Int32} {v : Nat → LV} {f : Nat → Int64} {H : Heap} {locs : List Loc} {ls : Array Slot} (hwf : WFX n now v) (hnow : now ≤ 500 * i) (hi : 4 * i + 4 ≤ L) (hPX : PX D cI cL ad n now told v H) (hPM : PM D cI cZ am th n now told v H) (hO : va_P D vwCl (outW cJ z f) H) (hS : va_S (AH s) s.heap H locs) (hl : lv_has ls 9 [(4, .int (nI (4 * i))), (3, .ref z), (2, .ref (am 0)), (1, .ref (ad 0)), (0, .ref b)]) (kk : ∀ (n now : Nat) (told th : Int32) (v : Nat → LV) (f : Nat → Int64) (H : Heap) (locs : List Loc) (ls : Array Slot), WFX n now v → now ≤ 500 * (i + 1) → PX D cI cL ad n now told v H → PM D cI cZ am th n now told v H → va_P D vwCl (outW cJ z f) H → va_S (AH s) s.heap H locs → lv_has ls 9 [(4, .int (nI (4 * i))), (3, .ref z), (2, .ref (am 0)), (1, .ref (ad 0)), (0, .ref b)] → W p l e room_1 s m #[Value.ref b] below meth c H locs (36 + 4 * (i + 1)) (300 + 24 * (i + 1)) Q (F0 m 1883 ls [])) : W p l e room_1 s m #[Value.ref b] below meth c H locs (36 + 4 * i) (300 + 24 * i) Q (F0 m 1120 ls []) := by
  refine lv_aload_n hx hb dL_law_1120 rfl (lv_at hl 3 rfl) ?_
  refine lv_aload_n hx hb dL_law_1121 rfl (lv_at hl 4 rfl) ?_
  refine lv_iload hx hb dL_law_1122 (lv_at hl 0 rfl) ?_
  refine lv_iconst (v := nI 1) hx hb dL_law_1124 (by decide) ?_
  refine n_iadd (v := nI ((4 * i) + 1)) hx hb dL_law_1125 (nI_add _ _) ?_
  refine n_sld (j := (4 * i) + 1) hx hb hX hbl (Nat.not_le.mpr hbl) hS (by omega) (by omega) dL_law_1126 ?_
  refine lv_aload_n hx hb dL_law_1127 rfl (lv_at hl 4 rfl) ?_
  refine lv_iload hx hb dL_law_1128 (lv_at hl 0 rfl) ?_
  refine lv_iconst (v := nI 2) hx hb dL_law_1130 (by decide) ?_
  refine n_iadd (v := nI ((4 * i) + 2)) hx hb dL_law_1131 (nI_add _ _) ?_
  refine n_sld (j := (4 * i) + 2) hx hb hX hbl (Nat.not_le.mpr hbl) hS (by omega) (by omega) dL_law_1132 ?_
  refine lv_aload_n hx hb dL_law_1133 rfl (lv_at hl 1 rfl) ?_
  refine lsS (A0 := AH s) (As := [.ref (ad 0), .int (xs ((4 * i) + 1)), .int (xs ((4 * i) + 2)), .ref z]) (rest := []) ⟨hx, hb, hml, hown, hts⟩ (c_L_strikesAt l D cI cZ cL cJ hst ad n now told v hwf hG.1.1 z f hG.z_AX (xs ((4 * i) + 1)) (xs ((4 * i) + 2))) (vx_cwSW 4 hts gL_law_L_strikesAt rfl rfl rfl (by decide +kernel) ⟨(Nat.le_of_ble_eq_true rfl), (Nat.le_of_ble_eq_true rfl)⟩) hK ((hEN.kept hS.2.1).narrow hG.toAL) ⟨hPX, hO⟩ rfl hl.1 rfl (Nat.le_of_ble_eq_true rfl) dL_law_1134 ⟨by show 36 + 4 * i + 2 ≤ 668203; omega, by show 300 + 24 * i + 12 ≤ 7091495; omega⟩ hS hG.toAL (fun H1 locs1 _ hLE hz1 hk1 hS => ?_)
  obtain ⟨hPX, f1, hO, hf1⟩ := hLE
  have hPM := PM_keep hPM hG.am_AL hk1
  have hwf2 : WFX n now v := hwf
  have hnow2 : now ≤ 500 * (i + 1) := by omega
  refine lv_istore (lv' := [(5, .int (nI (cd2 (lpOk n (xs ((4 * i) + 1))) (inB (nI 0) (nI 60000) (xs ((4 * i) + 2)))))), (4, .int (nI (4 * i))), (3, .ref z), (2, .ref (am 0)), (1, .ref (ad 0)), (0, .ref b)]) hx hb dL_law_1137 hl (by decide) rfl (fun ls hl => ?_)
  refine lv_aload_n hx hb dL_law_1139 rfl (lv_at hl 3 rfl) ?_
  refine lv_aload_n hx hb dL_law_1140 rfl (lv_at hl 5 rfl) ?_
  refine lv_iload hx hb dL_law_1141 (lv_at hl 1 rfl) ?_
  refine lv_iconst (v := nI 1) hx hb dL_law_1143 (by decide) ?_
  refine n_iadd (v := nI ((4 * i) + 1)) hx hb dL_law_1144 (nI_add _ _) ?_
  refine n_sld (j := (4 * i) + 1) hx hb hX hbl (Nat.not_le.mpr hbl) hS (by omega) (by omega) dL_law_1145 ?_
  refine lv_aload_n hx hb dL_law_1146 rfl (lv_at hl 5 rfl) ?_
  refine lv_iload hx hb dL_law_1147 (lv_at hl 1 rfl) ?_
  refine lv_iconst (v := nI 2) hx hb dL_law_1149 (by decide) ?_
  refine n_iadd (v := nI ((4 * i) + 2)) hx hb dL_law_1150 (nI_add _ _) ?_
  refine n_sld (j := (4 * i) + 2) hx hb hX hbl (Nat.not_le.mpr hbl) hS (by omega) (by omega) dL_law_1151 ?_
  refine wV (A0 := AH s) (As := [.int (xs ((4 * i) + 1)), .int (xs ((4 * i) + 2))]) (rest := []) ⟨hx, hb, hml, hown, hts⟩ (c_X2_strikesAt l D cI cZ cL cJ am th n now told v hwf hG.1.2 (xs ((4 * i) + 1)) (xs ((4 * i) + 2))) (cwV 2 hts gL_law_X2_strikesAt rfl rfl rfl (by decide +kernel) ⟨(Nat.le_of_ble_eq_true rfl), (Nat.le_of_ble_eq_true rfl)⟩) hK ((hEN.kept hS.2.1).narrow hG.toAM) hPM (RC_of (q := (RX2, TX2, 9)) (ci := 2) hK rfl (vpa hPM 0 rfl)) rfl hl.1 rfl (Nat.le_of_ble_eq_true rfl) dL_law_1152 ⟨by show 36 + 4 * i + 2 + 0 ≤ 668203; omega, by show 300 + 24 * i + 12 + 0 ≤ 7091495; omega⟩ hS hG.toAM (fun H2 locs2 _ hPM hz2 hk2 hS => ?_)
  have hPM : PM D cI cZ am (nI (cd2 (lpOk n (xs ((4 * i) + 1))) (inB (nI 0) (nI 60000) (xs ((4 * i) + 2))))) n now told v H2 := hPM
  have hPX := PX_keep hPX hG.ad_AM hk2
  have hO := outK hO hG.z_AM hk2
  refine lv_istore (lv' := [(6, .int (mrI (cd2 (lpOk n (xs ((4 * i) + 1))) (inB (nI 0) (nI 60000) (xs ((4 * i) + 2)))) (nI (strk (v (ixx (xs ((4 * i) + 1)))) (ixx (xs ((4 * i) + 2))) (lbc (v (ixx (xs ((4 * i) + 1))))))))), (5, .int (nI (cd2 (lpOk n (xs ((4 * i) + 1))) (inB (nI 0) (nI 60000) (xs ((4 * i) + 2)))))), (4, .int (nI (4 * i))), (3, .ref z), (2, .ref (am 0)), (1, .ref (ad 0)), (0, .ref b)]) hx hb dL_law_1155 hl (by decide) rfl (fun ls hl => ?_)
  refine lv_aload_n hx hb dL_law_1157 rfl (lv_at hl 4 rfl) ?_
  refine rV (r := nI (cd2 (lpOk n (xs ((4 * i) + 1))) (inB (nI 0) (nI 60000) (xs ((4 * i) + 2))))) (As := []) (rest := []) ⟨hx, hb, hml, hown, hts⟩ (c_X2_thrown l D cI cZ cL cJ am (nI (cd2 (lpOk n (xs ((4 * i) + 1))) (inB (nI 0) (nI 60000) (xs ((4 * i) + 2))))) n now told v hwf2) (cwV 0 hts gL_law_X2_thrown rfl rfl rfl (by decide +kernel) ⟨(Nat.le_of_ble_eq_true rfl), (Nat.le_of_ble_eq_true rfl)⟩) hK ((hEN.kept hS.2.1).narrow (fun _ h => h.elim)) hPM (RC_of (q := (RX2, TX2, 9)) (ci := 2) hK rfl (vpa hPM 0 rfl)) rfl hl.1 rfl (Nat.le_of_ble_eq_true rfl) dL_law_1158 ⟨by show 36 + 4 * i + 2 + 0 ≤ 668203; omega, by show 300 + 24 * i + 12 + 0 ≤ 7091495; omega⟩ ?_
  refine lv_iload hx hb dL_law_1161 (lv_at hl 1 rfl) ?_
  refine lv_icmp_eq (tgt := 1168) hx hb dL_law_1163 (by decide) (fun c_1163 => ?_) (fun c_1163 => ?_)
  · refine lv_iload hx hb dL_law_1168 (lv_at hl 1 rfl) ?_
    refine n_if_ne (a := cd2 (lpOk n (xs ((4 * i) + 1))) (inB (nI 0) (nI 60000) (xs ((4 * i) + 2)))) (tgt := 1185) hx hb (cd2_lt _ _) dL_law_1170 (by decide) (fun c_1170 => ?_) (fun c_1170 => ?_)
    · refine lv_goto (tgt := 1883) hx hb dL_law_1185 (by decide) ?_
      refine W.widen (k := 36 + 4 * (i + 1)) (n := 300 + 24 * (i + 1)) (by omega) (by omega) ?_
      exact kk n now told (nI (cd2 (lpOk n (xs ((4 * i) + 1))) (inB (nI 0) (nI 60000) (xs ((4 * i) + 2))))) v f1 H2 locs2 ls hwf2 hnow2 hPX hPM hO hS (lv_sub hl [2, 3, 4, 5, 6] rfl)
    · refine lv_aload_n hx hb dL_law_1173 rfl (lv_at hl 3 rfl) ?_
      refine lv_iconst (v := nI 0) hx hb dL_law_1174 (by decide) ?_
      refine va_lald hx hb hK hO 0 3 rfl rfl (show vp_in (nI 0) 1 from vp_in_nI (by decide) (by decide)) dL_law_1175 ?_
      refine n_tl (y := f1 0) (by rw [nI_clamp (by decide)]) ?_
      refine lv_iload hx hb dL_law_1176 (lv_at hl 0 rfl) ?_
      refine lv_i2l (v := (mrI (cd2 (lpOk n (xs ((4 * i) + 1))) (inB (nI 0) (nI 60000) (xs ((4 * i) + 2)))) (nI (strk (v (ixx (xs ((4 * i) + 1)))) (ixx (xs ((4 * i) + 2))) (lbc (v (ixx (xs ((4 * i) + 1)))))))).toInt64) hx hb dL_law_1178 rfl ?_
      refine W.lcmp hx hb dL_law_1179 ?_
      refine lv_if_eq (tgt := 1185) hx hb dL_law_1180 (by decide) (fun c_1180 => ?_) (fun c_1180 => ?_)
      · refine lv_goto (tgt := 1883) hx hb dL_law_1185 (by decide) ?_
        refine W.widen (k := 36 + 4 * (i + 1)) (n := 300 + 24 * (i + 1)) (by omega) (by omega) ?_
        exact kk n now told (nI (cd2 (lpOk n (xs ((4 * i) + 1))) (inB (nI 0) (nI 60000) (xs ((4 * i) + 2))))) v f1 H2 locs2 ls hwf2 hnow2 hPX hPM hO hS (lv_sub hl [2, 3, 4, 5, 6] rfl)
      · exact absurd (lgc ((hf1 c_1170).trans (by rw [mrI_t c_1170]))) c_1180
  · exact absurd rfl c_1163
set_option maxHeartbeats 4000000 in
set_option maxRecDepth 100000 in
theorem kL_19 {p : Program} {l : Launch} {e : Env} {s : State} {m : MethodId} {below : List Frame} {meth : Method} {c : Code} {Q : State → Prop} {b L : Nat} {xs : Nat → Int32} {D : va_G} {cI cZ cL cJ : ClassId} {ad am : Nat → Nat} {z : Nat} (hst : l.stackTraces = false) (hL : L ≤ 2048) (hx : p.tables.exec = Jvm.exec) (hb : c.code = cL_law) (hml : c.maxLocals = 9) (hown : s.vm.findClass RL = some m.cls) (hts : ∀ w ∈ wsL_law, w.before #[Value.ref b] s = true) (hX : va_X b L xs s s.heap) (hbl : b < s.heap.size) (hK : va_K D vwCl (TY cI cZ cL cJ) s) (hEN : EN (AH s) s s.heap) (hG : GG s ad am z) {i n now : Nat} {told th : Int32} {v : Nat → LV} {f : Nat → Int64} {H : Heap} {locs : List Loc} {ls : Array Slot} (hwf : WFX n now v) (hnow : now ≤ 500 * i) (hi : 4 * i + 4 ≤ L) (hPX : PX D cI cL ad n now told v H) (hPM : PM D cI cZ am th n now told v H) (hO : va_P D vwCl (outW cJ z f) H) (hS : va_S (AH s) s.heap H locs) (hl : lv_has ls 9 [(4, .int (nI (4 * i))), (3, .ref z), (2, .ref (am 0)), (1, .ref (ad 0)), (0, .ref b)]) (kk : ∀ (n now : Nat) (told th : Int32) (v : Nat → LV) (f : Nat → Int64) (H : Heap) (locs : List Loc) (ls : Array Slot), WFX n now v → now ≤ 500 * (i + 1) → PX D cI cL ad n now told v H → PM D cI cZ am th n now told v H → va_P D vwCl (outW cJ z f) H → va_S (AH s) s.heap H locs → lv_has ls 9 [(4, .int (nI (4 * i))), (3, .ref z), (2, .ref (am 0)), (1, .ref (ad 0)), (0, .ref b)] → W p l e room_1 s m #[Value.ref b] below meth c H locs (36 + 4 * (i + 1)) (300 + 24 * (i + 1)) Q (F0 m 1883 ls [])) : W p l e room_1 s m #[Value.ref b] below meth c H locs (36 + 4 * i) (300 + 24 * i) Q (F0 m 1188 ls []) := by
  refine lv_aload_n hx hb dL_law_1188 rfl (lv_at hl 3 rfl) ?_
  refine lv_aload_n hx hb dL_law_1189 rfl (lv_at hl 4 rfl) ?_
  refine lv_iload hx hb dL_law_1190 (lv_at hl 0 rfl) ?_
  refine lv_iconst (v := nI 1) hx hb dL_law_1192 (by decide) ?_
  refine n_iadd (v := nI ((4 * i) + 1)) hx hb dL_law_1193 (nI_add _ _) ?_
  refine n_sld (j := (4 * i) + 1) hx hb hX hbl (Nat.not_le.mpr hbl) hS (by omega) (by omega) dL_law_1194 ?_
  refine lv_aload_n hx hb dL_law_1195 rfl (lv_at hl 1 rfl) ?_
  refine lsS (A0 := AH s) (As := [.ref (ad 0), .int (xs ((4 * i) + 1)), .ref z]) (rest := []) ⟨hx, hb, hml, hown, hts⟩ (c_L_isSteady l D cI cZ cL cJ hst ad n now told v hwf hG.1.1 z f hG.z_AX (xs ((4 * i) + 1))) (vx_cwSW 3 hts gL_law_L_isSteady rfl rfl rfl (by decide +kernel) ⟨(Nat.le_of_ble_eq_true rfl), (Nat.le_of_ble_eq_true rfl)⟩) hK ((hEN.kept hS.2.1).narrow hG.toAL) ⟨hPX, hO⟩ rfl hl.1 rfl (Nat.le_of_ble_eq_true rfl) dL_law_1196 ⟨by show 36 + 4 * i + 1 ≤ 668203; omega, by show 300 + 24 * i + 6 ≤ 7091495; omega⟩ hS hG.toAL (fun H1 locs1 _ hLE hz1 hk1 hS => ?_)
  obtain ⟨hPX, f1, hO, hf1⟩ := hLE
  have hPM := PM_keep hPM hG.am_AL hk1
  have hwf2 : WFX n now v := hwf
  have hnow2 : now ≤ 500 * (i + 1) := by omega
  refine lv_istore (lv' := [(5, .int (nI (cd1 (lpOk n (xs ((4 * i) + 1)))))), (4, .int (nI (4 * i))), (3, .ref z), (2, .ref (am 0)), (1, .ref (ad 0)), (0, .ref b)]) hx hb dL_law_1199 hl (by decide) rfl (fun ls hl => ?_)
  refine lv_aload_n hx hb dL_law_1201 rfl (lv_at hl 3 rfl) ?_
  refine lv_aload_n hx hb dL_law_1202 rfl (lv_at hl 5 rfl) ?_
  refine lv_iload hx hb dL_law_1203 (lv_at hl 1 rfl) ?_
  refine lv_iconst (v := nI 1) hx hb dL_law_1205 (by decide) ?_
  refine n_iadd (v := nI ((4 * i) + 1)) hx hb dL_law_1206 (nI_add _ _) ?_
  refine n_sld (j := (4 * i) + 1) hx hb hX hbl (Nat.not_le.mpr hbl) hS (by omega) (by omega) dL_law_1207 ?_
  refine wV (A0 := AH s) (As := [.int (xs ((4 * i) + 1))]) (rest := []) ⟨hx, hb, hml, hown, hts⟩ (c_X2_isSteady l D cI cZ cL cJ am th n now told v hwf hG.1.2 (xs ((4 * i) + 1))) (cwV 1 hts gL_law_X2_isSteady rfl rfl rfl (by decide +kernel) ⟨(Nat.le_of_ble_eq_true rfl), (Nat.le_of_ble_eq_true rfl)⟩) hK ((hEN.kept hS.2.1).narrow hG.toAM) hPM (RC_of (q := (RX2, TX2, 9)) (ci := 2) hK rfl (vpa hPM 0 rfl)) rfl hl.1 rfl (Nat.le_of_ble_eq_true rfl) dL_law_1208 ⟨by show 36 + 4 * i + 1 + 0 ≤ 668203; omega, by show 300 + 24 * i + 6 + 0 ≤ 7091495; omega⟩ hS hG.toAM (fun H2 locs2 _ hPM hz2 hk2 hS => ?_)
  have hPM : PM D cI cZ am (nI (cd1 (lpOk n (xs ((4 * i) + 1))))) n now told v H2 := hPM
  have hPX := PX_keep hPX hG.ad_AM hk2
  have hO := outK hO hG.z_AM hk2
  refine lv_istore (lv' := [(6, .int (bI (mrB (cd1 (lpOk n (xs ((4 * i) + 1)))) (decide (cyc (v (ixx (xs ((4 * i) + 1)))) = 1))))), (5, .int (nI (cd1 (lpOk n (xs ((4 * i) + 1)))))), (4, .int (nI (4 * i))), (3, .ref z), (2, .ref (am 0)), (1, .ref (ad 0)), (0, .ref b)]) hx hb dL_law_1211 hl (by decide) rfl (fun ls hl => ?_)
  refine lv_aload_n hx hb dL_law_1213 rfl (lv_at hl 4 rfl) ?_
  refine rV (r := nI (cd1 (lpOk n (xs ((4 * i) + 1))))) (As := []) (rest := []) ⟨hx, hb, hml, hown, hts⟩ (c_X2_thrown l D cI cZ cL cJ am (nI (cd1 (lpOk n (xs ((4 * i) + 1))))) n now told v hwf2) (cwV 0 hts gL_law_X2_thrown rfl rfl rfl (by decide +kernel) ⟨(Nat.le_of_ble_eq_true rfl), (Nat.le_of_ble_eq_true rfl)⟩) hK ((hEN.kept hS.2.1).narrow (fun _ h => h.elim)) hPM (RC_of (q := (RX2, TX2, 9)) (ci := 2) hK rfl (vpa hPM 0 rfl)) rfl hl.1 rfl (Nat.le_of_ble_eq_true rfl) dL_law_1214 ⟨by show 36 + 4 * i + 1 + 0 ≤ 668203; omega, by show 300 + 24 * i + 6 + 0 ≤ 7091495; omega⟩ ?_
  refine lv_iload hx hb dL_law_1217 (lv_at hl 1 rfl) ?_
  refine lv_icmp_eq (tgt := 1224) hx hb dL_law_1219 (by decide) (fun c_1219 => ?_) (fun c_1219 => ?_)
  · refine lv_iload hx hb dL_law_1224 (lv_at hl 1 rfl) ?_
    refine n_if_ne (a := cd1 (lpOk n (xs ((4 * i) + 1)))) (tgt := 1248) hx hb (cd1_lt _) dL_law_1226 (by decide) (fun c_1226 => ?_) (fun c_1226 => ?_)
    · refine lv_goto (tgt := 1883) hx hb dL_law_1248 (by decide) ?_
      refine W.widen (k := 36 + 4 * (i + 1)) (n := 300 + 24 * (i + 1)) (by omega) (by omega) ?_
      exact kk n now told (nI (cd1 (lpOk n (xs ((4 * i) + 1))))) v f1 H2 locs2 ls hwf2 hnow2 hPX hPM hO hS (lv_sub hl [2, 3, 4, 5, 6] rfl)
    · refine lv_aload_n hx hb dL_law_1229 rfl (lv_at hl 3 rfl) ?_
      refine lv_iconst (v := nI 0) hx hb dL_law_1230 (by decide) ?_
      refine va_lald hx hb hK hO 0 3 rfl rfl (show vp_in (nI 0) 1 from vp_in_nI (by decide) (by decide)) dL_law_1231 ?_
      refine n_tl (y := f1 0) (by rw [nI_clamp (by decide)]) ?_
      refine lv_iload hx hb dL_law_1232 (lv_at hl 0 rfl) ?_
      refine b_if_eq (b := mrB (cd1 (lpOk n (xs ((4 * i) + 1)))) (decide (cyc (v (ixx (xs ((4 * i) + 1)))) = 1))) (tgt := 1241) hx hb dL_law_1234 (by decide) (fun c_1234 => ?_) (fun c_1234 => ?_)
      · refine lv_lconst (v := 0) hx hb dL_law_1241 (by decide) ?_
        refine W.lcmp hx hb dL_law_1242 ?_
        refine lv_if_eq (tgt := 1248) hx hb dL_law_1243 (by decide) (fun c_1243 => ?_) (fun c_1243 => ?_)
        · refine lv_goto (tgt := 1883) hx hb dL_law_1248 (by decide) ?_
          refine W.widen (k := 36 + 4 * (i + 1)) (n := 300 + 24 * (i + 1)) (by omega) (by omega) ?_
          exact kk n now told (nI (cd1 (lpOk n (xs ((4 * i) + 1))))) v f1 H2 locs2 ls hwf2 hnow2 hPX hPM hO hS (lv_sub hl [2, 3, 4, 5, 6] rfl)
        · exact absurd (lgc ((hf1 c_1226).trans (by rw [← mrB_t (b := (decide (cyc (v (ixx (xs ((4 * i) + 1)))) = 1))) c_1226, c_1234]; rfl))) c_1243
      · refine lv_lconst (v := 1) hx hb dL_law_1237 (by decide) ?_
        refine lv_goto (tgt := 1242) hx hb dL_law_1238 (by decide) ?_
        refine W.lcmp hx hb dL_law_1242 ?_
        refine lv_if_eq (tgt := 1248) hx hb dL_law_1243 (by decide) (fun c_1243 => ?_) (fun c_1243 => ?_)
        · refine lv_goto (tgt := 1883) hx hb dL_law_1248 (by decide) ?_
          refine W.widen (k := 36 + 4 * (i + 1)) (n := 300 + 24 * (i + 1)) (by omega) (by omega) ?_
          exact kk n now told (nI (cd1 (lpOk n (xs ((4 * i) + 1))))) v f1 H2 locs2 ls hwf2 hnow2 hPX hPM hO hS (lv_sub hl [2, 3, 4, 5, 6] rfl)
        · exact absurd (lgc ((hf1 c_1226).trans (by rw [← mrB_t (b := (decide (cyc (v (ixx (xs ((4 * i) + 1)))) = 1))) c_1226, c_1234]; rfl))) c_1243
  · exact absurd rfl c_1219
set_option maxHeartbeats 4000000 in
set_option maxRecDepth 100000 in
theorem kL_20 {p : Program} {l : Launch} {e : Env} {s : State} {m : MethodId} {below : List Frame} {meth : Method} {c : Code} {Q : State → Prop} {b L : Nat} {xs : Nat → Int32} {D : va_G} {cI cZ cL cJ : ClassId} {ad am : Nat → Nat} {z : Nat} (hst : l.stackTraces = false) (hL : L ≤ 2048) (hx : p.tables.exec = Jvm.exec) (hb : c.code = cL_law) (hml : c.maxLocals = 9) (hown : s.vm.findClass RL = some m.cls) (hts : ∀ w ∈ wsL_law, w.before #[Value.ref b] s = true) (hX : va_X b L xs s s.heap) (hbl : b < s.heap.size) (hK : va_K D vwCl (TY cI cZ cL cJ) s) (hEN : EN (AH s) s s.heap) (hG : GG s ad am z) {i n now : Nat} {told th : Int32} {v : Nat → LV} {f : Nat → Int64} {H : Heap} {locs : List Loc} {ls : Array Slot} (hwf : WFX n now v) (hnow : now ≤ 500 * i) (hi : 4 * i + 4 ≤ L) (hPX : PX D cI cL ad n now told v H) (hPM : PM D cI cZ am th n now told v H) (hO : va_P D vwCl (outW cJ z f) H) (hS : va_S (AH s) s.heap H locs) (hl : lv_has ls 9 [(4, .int (nI (4 * i))), (3, .ref z), (2, .ref (am 0)), (1, .ref (ad 0)), (0, .ref b)]) (kk : ∀ (n now : Nat) (told th : Int32) (v : Nat → LV) (f : Nat → Int64) (H : Heap) (locs : List Loc) (ls : Array Slot), WFX n now v → now ≤ 500 * (i + 1) → PX D cI cL ad n now told v H → PM D cI cZ am th n now told v H → va_P D vwCl (outW cJ z f) H → va_S (AH s) s.heap H locs → lv_has ls 9 [(4, .int (nI (4 * i))), (3, .ref z), (2, .ref (am 0)), (1, .ref (ad 0)), (0, .ref b)] → W p l e room_1 s m #[Value.ref b] below meth c H locs (36 + 4 * (i + 1)) (300 + 24 * (i + 1)) Q (F0 m 1883 ls [])) : W p l e room_1 s m #[Value.ref b] below meth c H locs (36 + 4 * i) (300 + 24 * i) Q (F0 m 1251 ls []) := by
  refine lv_aload_n hx hb dL_law_1251 rfl (lv_at hl 3 rfl) ?_
  refine lv_aload_n hx hb dL_law_1252 rfl (lv_at hl 4 rfl) ?_
  refine lv_iload hx hb dL_law_1253 (lv_at hl 0 rfl) ?_
  refine lv_iconst (v := nI 1) hx hb dL_law_1255 (by decide) ?_
  refine n_iadd (v := nI ((4 * i) + 1)) hx hb dL_law_1256 (nI_add _ _) ?_
  refine n_sld (j := (4 * i) + 1) hx hb hX hbl (Nat.not_le.mpr hbl) hS (by omega) (by omega) dL_law_1257 ?_
  refine lv_aload_n hx hb dL_law_1258 rfl (lv_at hl 1 rfl) ?_
  refine lsS (A0 := AH s) (As := [.ref (ad 0), .int (xs ((4 * i) + 1)), .ref z]) (rest := []) ⟨hx, hb, hml, hown, hts⟩ (c_L_cycleOf l D cI cZ cL cJ hst ad n now told v hwf hG.1.1 z f hG.z_AX (xs ((4 * i) + 1))) (vx_cwSW 3 hts gL_law_L_cycleOf rfl rfl rfl (by decide +kernel) ⟨(Nat.le_of_ble_eq_true rfl), (Nat.le_of_ble_eq_true rfl)⟩) hK ((hEN.kept hS.2.1).narrow hG.toAL) ⟨hPX, hO⟩ rfl hl.1 rfl (Nat.le_of_ble_eq_true rfl) dL_law_1259 ⟨by show 36 + 4 * i + 1 ≤ 668203; omega, by show 300 + 24 * i + 6 ≤ 7091495; omega⟩ hS hG.toAL (fun H1 locs1 _ hLE hz1 hk1 hS => ?_)
  obtain ⟨hPX, f1, hO, hf1⟩ := hLE
  have hPM := PM_keep hPM hG.am_AL hk1
  have hwf2 : WFX n now v := hwf
  have hnow2 : now ≤ 500 * (i + 1) := by omega
  refine lv_istore (lv' := [(5, .int (nI (cd1 (lpOk n (xs ((4 * i) + 1)))))), (4, .int (nI (4 * i))), (3, .ref z), (2, .ref (am 0)), (1, .ref (ad 0)), (0, .ref b)]) hx hb dL_law_1262 hl (by decide) rfl (fun ls hl => ?_)
  refine lv_aload_n hx hb dL_law_1264 rfl (lv_at hl 3 rfl) ?_
  refine lv_aload_n hx hb dL_law_1265 rfl (lv_at hl 5 rfl) ?_
  refine lv_iload hx hb dL_law_1266 (lv_at hl 1 rfl) ?_
  refine lv_iconst (v := nI 1) hx hb dL_law_1268 (by decide) ?_
  refine n_iadd (v := nI ((4 * i) + 1)) hx hb dL_law_1269 (nI_add _ _) ?_
  refine n_sld (j := (4 * i) + 1) hx hb hX hbl (Nat.not_le.mpr hbl) hS (by omega) (by omega) dL_law_1270 ?_
  refine wV (A0 := AH s) (As := [.int (xs ((4 * i) + 1))]) (rest := []) ⟨hx, hb, hml, hown, hts⟩ (c_X2_cycleOf l D cI cZ cL cJ am th n now told v hwf hG.1.2 (xs ((4 * i) + 1))) (cwV 1 hts gL_law_X2_cycleOf rfl rfl rfl (by decide +kernel) ⟨(Nat.le_of_ble_eq_true rfl), (Nat.le_of_ble_eq_true rfl)⟩) hK ((hEN.kept hS.2.1).narrow hG.toAM) hPM (RC_of (q := (RX2, TX2, 9)) (ci := 2) hK rfl (vpa hPM 0 rfl)) rfl hl.1 rfl (Nat.le_of_ble_eq_true rfl) dL_law_1271 ⟨by show 36 + 4 * i + 1 + 0 ≤ 668203; omega, by show 300 + 24 * i + 6 + 0 ≤ 7091495; omega⟩ hS hG.toAM (fun H2 locs2 _ hPM hz2 hk2 hS => ?_)
  have hPM : PM D cI cZ am (nI (cd1 (lpOk n (xs ((4 * i) + 1))))) n now told v H2 := hPM
  have hPX := PX_keep hPX hG.ad_AM hk2
  have hO := outK hO hG.z_AM hk2
  refine lv_istore (lv' := [(6, .int (mrI (cd1 (lpOk n (xs ((4 * i) + 1)))) (nI (cyc (v (ixx (xs ((4 * i) + 1)))))))), (5, .int (nI (cd1 (lpOk n (xs ((4 * i) + 1)))))), (4, .int (nI (4 * i))), (3, .ref z), (2, .ref (am 0)), (1, .ref (ad 0)), (0, .ref b)]) hx hb dL_law_1274 hl (by decide) rfl (fun ls hl => ?_)
  refine lv_aload_n hx hb dL_law_1276 rfl (lv_at hl 4 rfl) ?_
  refine rV (r := nI (cd1 (lpOk n (xs ((4 * i) + 1))))) (As := []) (rest := []) ⟨hx, hb, hml, hown, hts⟩ (c_X2_thrown l D cI cZ cL cJ am (nI (cd1 (lpOk n (xs ((4 * i) + 1))))) n now told v hwf2) (cwV 0 hts gL_law_X2_thrown rfl rfl rfl (by decide +kernel) ⟨(Nat.le_of_ble_eq_true rfl), (Nat.le_of_ble_eq_true rfl)⟩) hK ((hEN.kept hS.2.1).narrow (fun _ h => h.elim)) hPM (RC_of (q := (RX2, TX2, 9)) (ci := 2) hK rfl (vpa hPM 0 rfl)) rfl hl.1 rfl (Nat.le_of_ble_eq_true rfl) dL_law_1277 ⟨by show 36 + 4 * i + 1 + 0 ≤ 668203; omega, by show 300 + 24 * i + 6 + 0 ≤ 7091495; omega⟩ ?_
  refine lv_iload hx hb dL_law_1280 (lv_at hl 1 rfl) ?_
  refine lv_icmp_eq (tgt := 1287) hx hb dL_law_1282 (by decide) (fun c_1282 => ?_) (fun c_1282 => ?_)
  · refine lv_iload hx hb dL_law_1287 (lv_at hl 1 rfl) ?_
    refine n_if_ne (a := cd1 (lpOk n (xs ((4 * i) + 1)))) (tgt := 1304) hx hb (cd1_lt _) dL_law_1289 (by decide) (fun c_1289 => ?_) (fun c_1289 => ?_)
    · refine lv_goto (tgt := 1883) hx hb dL_law_1304 (by decide) ?_
      refine W.widen (k := 36 + 4 * (i + 1)) (n := 300 + 24 * (i + 1)) (by omega) (by omega) ?_
      exact kk n now told (nI (cd1 (lpOk n (xs ((4 * i) + 1))))) v f1 H2 locs2 ls hwf2 hnow2 hPX hPM hO hS (lv_sub hl [2, 3, 4, 5, 6] rfl)
    · refine lv_aload_n hx hb dL_law_1292 rfl (lv_at hl 3 rfl) ?_
      refine lv_iconst (v := nI 0) hx hb dL_law_1293 (by decide) ?_
      refine va_lald hx hb hK hO 0 3 rfl rfl (show vp_in (nI 0) 1 from vp_in_nI (by decide) (by decide)) dL_law_1294 ?_
      refine n_tl (y := f1 0) (by rw [nI_clamp (by decide)]) ?_
      refine lv_iload hx hb dL_law_1295 (lv_at hl 0 rfl) ?_
      refine lv_i2l (v := (mrI (cd1 (lpOk n (xs ((4 * i) + 1)))) (nI (cyc (v (ixx (xs ((4 * i) + 1))))))).toInt64) hx hb dL_law_1297 rfl ?_
      refine W.lcmp hx hb dL_law_1298 ?_
      refine lv_if_eq (tgt := 1304) hx hb dL_law_1299 (by decide) (fun c_1299 => ?_) (fun c_1299 => ?_)
      · refine lv_goto (tgt := 1883) hx hb dL_law_1304 (by decide) ?_
        refine W.widen (k := 36 + 4 * (i + 1)) (n := 300 + 24 * (i + 1)) (by omega) (by omega) ?_
        exact kk n now told (nI (cd1 (lpOk n (xs ((4 * i) + 1))))) v f1 H2 locs2 ls hwf2 hnow2 hPX hPM hO hS (lv_sub hl [2, 3, 4, 5, 6] rfl)
      · exact absurd (lgc ((hf1 c_1289).trans (by rw [mrI_t c_1289]))) c_1299
  · exact absurd rfl c_1282
set_option maxHeartbeats 4000000 in
set_option maxRecDepth 100000 in
theorem kL_21 {p : Program} {l : Launch} {e : Env} {s : State} {m : MethodId} {below : List Frame} {meth : Method} {c : Code} {Q : State → Prop} {b L : Nat} {xs : Nat → Int32} {D : va_G} {cI cZ cL cJ : ClassId} {ad am : Nat → Nat} {z : Nat} (hst : l.stackTraces = false) (hL : L ≤ 2048) (hx : p.tables.exec = Jvm.exec) (hb : c.code = cL_law) (hml : c.maxLocals = 9) (hown : s.vm.findClass RL = some m.cls) (hts : ∀ w ∈ wsL_law, w.before #[Value.ref b] s = true) (hX : va_X b L xs s s.heap) (hbl : b < s.heap.size) (hK : va_K D vwCl (TY cI cZ cL cJ) s) (hEN : EN (AH s) s s.heap) (hG : GG s ad am z) {i n now : Nat} {told th : Int32} {v : Nat → LV} {f : Nat → Int64} {H : Heap} {locs : List Loc} {ls : Array Slot} (hwf : WFX n now v) (hnow : now ≤ 500 * i) (hi : 4 * i + 4 ≤ L) (hPX : PX D cI cL ad n now told v H) (hPM : PM D cI cZ am th n now told v H) (hO : va_P D vwCl (outW cJ z f) H) (hS : va_S (AH s) s.heap H locs) (hl : lv_has ls 9 [(4, .int (nI (4 * i))), (3, .ref z), (2, .ref (am 0)), (1, .ref (ad 0)), (0, .ref b)]) (kk : ∀ (n now : Nat) (told th : Int32) (v : Nat → LV) (f : Nat → Int64) (H : Heap) (locs : List Loc) (ls : Array Slot), WFX n now v → now ≤ 500 * (i + 1) → PX D cI cL ad n now told v H → PM D cI cZ am th n now told v H → va_P D vwCl (outW cJ z f) H → va_S (AH s) s.heap H locs → lv_has ls 9 [(4, .int (nI (4 * i))), (3, .ref z), (2, .ref (am 0)), (1, .ref (ad 0)), (0, .ref b)] → W p l e room_1 s m #[Value.ref b] below meth c H locs (36 + 4 * (i + 1)) (300 + 24 * (i + 1)) Q (F0 m 1883 ls [])) : W p l e room_1 s m #[Value.ref b] below meth c H locs (36 + 4 * i) (300 + 24 * i) Q (F0 m 1307 ls []) := by
  refine lv_aload_n hx hb dL_law_1307 rfl (lv_at hl 3 rfl) ?_
  refine lv_aload_n hx hb dL_law_1308 rfl (lv_at hl 4 rfl) ?_
  refine lv_iload hx hb dL_law_1309 (lv_at hl 0 rfl) ?_
  refine lv_iconst (v := nI 1) hx hb dL_law_1311 (by decide) ?_
  refine n_iadd (v := nI ((4 * i) + 1)) hx hb dL_law_1312 (nI_add _ _) ?_
  refine n_sld (j := (4 * i) + 1) hx hb hX hbl (Nat.not_le.mpr hbl) hS (by omega) (by omega) dL_law_1313 ?_
  refine lv_aload_n hx hb dL_law_1314 rfl (lv_at hl 1 rfl) ?_
  refine lsS (A0 := AH s) (As := [.ref (ad 0), .int (xs ((4 * i) + 1)), .ref z]) (rest := []) ⟨hx, hb, hml, hown, hts⟩ (c_L_momentsUntilChange l D cI cZ cL cJ hst ad n now told v hwf hG.1.1 z f hG.z_AX (xs ((4 * i) + 1))) (vx_cwSW 3 hts gL_law_L_momentsUntilChange rfl rfl rfl (by decide +kernel) ⟨(Nat.le_of_ble_eq_true rfl), (Nat.le_of_ble_eq_true rfl)⟩) hK ((hEN.kept hS.2.1).narrow hG.toAL) ⟨hPX, hO⟩ rfl hl.1 rfl (Nat.le_of_ble_eq_true rfl) dL_law_1315 ⟨by show 36 + 4 * i + 1 ≤ 668203; omega, by show 300 + 24 * i + 6 ≤ 7091495; omega⟩ hS hG.toAL (fun H1 locs1 _ hLE hz1 hk1 hS => ?_)
  obtain ⟨hPX, f1, hO, hf1⟩ := hLE
  have hPM := PM_keep hPM hG.am_AL hk1
  have hwf2 : WFX n now v := hwf
  have hnow2 : now ≤ 500 * (i + 1) := by omega
  refine lv_istore (lv' := [(5, .int (nI (cd1 (lpOk n (xs ((4 * i) + 1)))))), (4, .int (nI (4 * i))), (3, .ref z), (2, .ref (am 0)), (1, .ref (ad 0)), (0, .ref b)]) hx hb dL_law_1318 hl (by decide) rfl (fun ls hl => ?_)
  refine lv_aload_n hx hb dL_law_1320 rfl (lv_at hl 3 rfl) ?_
  refine lv_aload_n hx hb dL_law_1321 rfl (lv_at hl 5 rfl) ?_
  refine lv_iload hx hb dL_law_1322 (lv_at hl 1 rfl) ?_
  refine lv_iconst (v := nI 1) hx hb dL_law_1324 (by decide) ?_
  refine n_iadd (v := nI ((4 * i) + 1)) hx hb dL_law_1325 (nI_add _ _) ?_
  refine n_sld (j := (4 * i) + 1) hx hb hX hbl (Nat.not_le.mpr hbl) hS (by omega) (by omega) dL_law_1326 ?_
  refine wV (A0 := AH s) (As := [.int (xs ((4 * i) + 1))]) (rest := []) ⟨hx, hb, hml, hown, hts⟩ (c_X2_momentsUntilChange l D cI cZ cL cJ am th n now told v hwf hG.1.2 (xs ((4 * i) + 1))) (cwV 1 hts gL_law_X2_momentsUntilChange rfl rfl rfl (by decide +kernel) ⟨(Nat.le_of_ble_eq_true rfl), (Nat.le_of_ble_eq_true rfl)⟩) hK ((hEN.kept hS.2.1).narrow hG.toAM) hPM (RC_of (q := (RX2, TX2, 9)) (ci := 2) hK rfl (vpa hPM 0 rfl)) rfl hl.1 rfl (Nat.le_of_ble_eq_true rfl) dL_law_1327 ⟨by show 36 + 4 * i + 1 + 0 ≤ 668203; omega, by show 300 + 24 * i + 6 + 0 ≤ 7091495; omega⟩ hS hG.toAM (fun H2 locs2 _ hPM hz2 hk2 hS => ?_)
  have hPM : PM D cI cZ am (nI (cd1 (lpOk n (xs ((4 * i) + 1))))) n now told v H2 := hPM
  have hPX := PX_keep hPX hG.ad_AM hk2
  have hO := outK hO hG.z_AM hk2
  refine lv_istore (lv' := [(6, .int (mrI (cd1 (lpOk n (xs ((4 * i) + 1)))) (untC (v (ixx (xs ((4 * i) + 1)))) now))), (5, .int (nI (cd1 (lpOk n (xs ((4 * i) + 1)))))), (4, .int (nI (4 * i))), (3, .ref z), (2, .ref (am 0)), (1, .ref (ad 0)), (0, .ref b)]) hx hb dL_law_1330 hl (by decide) rfl (fun ls hl => ?_)
  refine lv_aload_n hx hb dL_law_1332 rfl (lv_at hl 4 rfl) ?_
  refine rV (r := nI (cd1 (lpOk n (xs ((4 * i) + 1))))) (As := []) (rest := []) ⟨hx, hb, hml, hown, hts⟩ (c_X2_thrown l D cI cZ cL cJ am (nI (cd1 (lpOk n (xs ((4 * i) + 1))))) n now told v hwf2) (cwV 0 hts gL_law_X2_thrown rfl rfl rfl (by decide +kernel) ⟨(Nat.le_of_ble_eq_true rfl), (Nat.le_of_ble_eq_true rfl)⟩) hK ((hEN.kept hS.2.1).narrow (fun _ h => h.elim)) hPM (RC_of (q := (RX2, TX2, 9)) (ci := 2) hK rfl (vpa hPM 0 rfl)) rfl hl.1 rfl (Nat.le_of_ble_eq_true rfl) dL_law_1333 ⟨by show 36 + 4 * i + 1 + 0 ≤ 668203; omega, by show 300 + 24 * i + 6 + 0 ≤ 7091495; omega⟩ ?_
  refine lv_iload hx hb dL_law_1336 (lv_at hl 1 rfl) ?_
  refine lv_icmp_eq (tgt := 1343) hx hb dL_law_1338 (by decide) (fun c_1338 => ?_) (fun c_1338 => ?_)
  · refine lv_iload hx hb dL_law_1343 (lv_at hl 1 rfl) ?_
    refine n_if_ne (a := cd1 (lpOk n (xs ((4 * i) + 1)))) (tgt := 1360) hx hb (cd1_lt _) dL_law_1345 (by decide) (fun c_1345 => ?_) (fun c_1345 => ?_)
    · refine lv_goto (tgt := 1883) hx hb dL_law_1360 (by decide) ?_
      refine W.widen (k := 36 + 4 * (i + 1)) (n := 300 + 24 * (i + 1)) (by omega) (by omega) ?_
      exact kk n now told (nI (cd1 (lpOk n (xs ((4 * i) + 1))))) v f1 H2 locs2 ls hwf2 hnow2 hPX hPM hO hS (lv_sub hl [2, 3, 4, 5, 6] rfl)
    · refine lv_aload_n hx hb dL_law_1348 rfl (lv_at hl 3 rfl) ?_
      refine lv_iconst (v := nI 0) hx hb dL_law_1349 (by decide) ?_
      refine va_lald hx hb hK hO 0 3 rfl rfl (show vp_in (nI 0) 1 from vp_in_nI (by decide) (by decide)) dL_law_1350 ?_
      refine n_tl (y := f1 0) (by rw [nI_clamp (by decide)]) ?_
      refine lv_iload hx hb dL_law_1351 (lv_at hl 0 rfl) ?_
      refine lv_i2l (v := (mrI (cd1 (lpOk n (xs ((4 * i) + 1)))) (untC (v (ixx (xs ((4 * i) + 1)))) now)).toInt64) hx hb dL_law_1353 rfl ?_
      refine W.lcmp hx hb dL_law_1354 ?_
      refine lv_if_eq (tgt := 1360) hx hb dL_law_1355 (by decide) (fun c_1355 => ?_) (fun c_1355 => ?_)
      · refine lv_goto (tgt := 1883) hx hb dL_law_1360 (by decide) ?_
        refine W.widen (k := 36 + 4 * (i + 1)) (n := 300 + 24 * (i + 1)) (by omega) (by omega) ?_
        exact kk n now told (nI (cd1 (lpOk n (xs ((4 * i) + 1))))) v f1 H2 locs2 ls hwf2 hnow2 hPX hPM hO hS (lv_sub hl [2, 3, 4, 5, 6] rfl)
      · exact absurd (lgc ((hf1 c_1345).trans (by rw [mrI_t c_1345]))) c_1355
  · exact absurd rfl c_1338
set_option maxHeartbeats 4000000 in
set_option maxRecDepth 100000 in
theorem kL_22 {p : Program} {l : Launch} {e : Env} {s : State} {m : MethodId} {below : List Frame} {meth : Method} {c : Code} {Q : State → Prop} {b L : Nat} {xs : Nat → Int32} {D : va_G} {cI cZ cL cJ : ClassId} {ad am : Nat → Nat} {z : Nat} (hst : l.stackTraces = false) (hL : L ≤ 2048) (hx : p.tables.exec = Jvm.exec) (hb : c.code = cL_law) (hml : c.maxLocals = 9) (hown : s.vm.findClass RL = some m.cls) (hts : ∀ w ∈ wsL_law, w.before #[Value.ref b] s = true) (hX : va_X b L xs s s.heap) (hbl : b < s.heap.size) (hK : va_K D vwCl (TY cI cZ cL cJ) s) (hEN : EN (AH s) s s.heap) (hG : GG s ad am z) {i n now : Nat} {told th : Int32} {v : Nat → LV} {f : Nat → Int64} {H : Heap} {locs : List Loc} {ls : Array Slot} (hwf : WFX n now v) (hnow : now ≤ 500 * i) (hi : 4 * i + 4 ≤ L) (hPX : PX D cI cL ad n now told v H) (hPM : PM D cI cZ am th n now told v H) (hO : va_P D vwCl (outW cJ z f) H) (hS : va_S (AH s) s.heap H locs) (hl : lv_has ls 9 [(4, .int (nI (4 * i))), (3, .ref z), (2, .ref (am 0)), (1, .ref (ad 0)), (0, .ref b)]) (kk : ∀ (n now : Nat) (told th : Int32) (v : Nat → LV) (f : Nat → Int64) (H : Heap) (locs : List Loc) (ls : Array Slot), WFX n now v → now ≤ 500 * (i + 1) → PX D cI cL ad n now told v H → PM D cI cZ am th n now told v H → va_P D vwCl (outW cJ z f) H → va_S (AH s) s.heap H locs → lv_has ls 9 [(4, .int (nI (4 * i))), (3, .ref z), (2, .ref (am 0)), (1, .ref (ad 0)), (0, .ref b)] → W p l e room_1 s m #[Value.ref b] below meth c H locs (36 + 4 * (i + 1)) (300 + 24 * (i + 1)) Q (F0 m 1883 ls [])) : W p l e room_1 s m #[Value.ref b] below meth c H locs (36 + 4 * i) (300 + 24 * i) Q (F0 m 1363 ls []) := by
  refine lv_aload_n hx hb dL_law_1363 rfl (lv_at hl 3 rfl) ?_
  refine lv_aload_n hx hb dL_law_1364 rfl (lv_at hl 4 rfl) ?_
  refine lv_iload hx hb dL_law_1365 (lv_at hl 0 rfl) ?_
  refine lv_iconst (v := nI 1) hx hb dL_law_1367 (by decide) ?_
  refine n_iadd (v := nI ((4 * i) + 1)) hx hb dL_law_1368 (nI_add _ _) ?_
  refine n_sld (j := (4 * i) + 1) hx hb hX hbl (Nat.not_le.mpr hbl) hS (by omega) (by omega) dL_law_1369 ?_
  refine lv_aload_n hx hb dL_law_1370 rfl (lv_at hl 4 rfl) ?_
  refine lv_iload hx hb dL_law_1371 (lv_at hl 0 rfl) ?_
  refine lv_iconst (v := nI 2) hx hb dL_law_1373 (by decide) ?_
  refine n_iadd (v := nI ((4 * i) + 2)) hx hb dL_law_1374 (nI_add _ _) ?_
  refine n_sld (j := (4 * i) + 2) hx hb hX hbl (Nat.not_le.mpr hbl) hS (by omega) (by omega) dL_law_1375 ?_
  refine lv_aload_n hx hb dL_law_1376 rfl (lv_at hl 1 rfl) ?_
  refine lsS (A0 := AH s) (As := [.ref (ad 0), .int (xs ((4 * i) + 1)), .int (xs ((4 * i) + 2)), .ref z]) (rest := []) ⟨hx, hb, hml, hown, hts⟩ (c_L_shows l D cI cZ cL cJ hst ad n now told v hwf hG.1.1 z f hG.z_AX (xs ((4 * i) + 1)) (xs ((4 * i) + 2))) (vx_cwSW 4 hts gL_law_L_shows rfl rfl rfl (by decide +kernel) ⟨(Nat.le_of_ble_eq_true rfl), (Nat.le_of_ble_eq_true rfl)⟩) hK ((hEN.kept hS.2.1).narrow hG.toAL) ⟨hPX, hO⟩ rfl hl.1 rfl (Nat.le_of_ble_eq_true rfl) dL_law_1377 ⟨by show 36 + 4 * i + 2 ≤ 668203; omega, by show 300 + 24 * i + 12 ≤ 7091495; omega⟩ hS hG.toAL (fun H1 locs1 _ hLE hz1 hk1 hS => ?_)
  obtain ⟨hPX, f1, hO, hf1⟩ := hLE
  have hPM := PM_keep hPM hG.am_AL hk1
  have hwf2 : WFX n now v := hwf
  have hnow2 : now ≤ 500 * (i + 1) := by omega
  refine lv_istore (lv' := [(5, .int (nI (cd2 (lpOk n (xs ((4 * i) + 1))) (inB (nI 1) (nI 30) (xs ((4 * i) + 2)))))), (4, .int (nI (4 * i))), (3, .ref z), (2, .ref (am 0)), (1, .ref (ad 0)), (0, .ref b)]) hx hb dL_law_1380 hl (by decide) rfl (fun ls hl => ?_)
  refine lv_aload_n hx hb dL_law_1382 rfl (lv_at hl 3 rfl) ?_
  refine lv_aload_n hx hb dL_law_1383 rfl (lv_at hl 5 rfl) ?_
  refine lv_iload hx hb dL_law_1384 (lv_at hl 1 rfl) ?_
  refine lv_iconst (v := nI 1) hx hb dL_law_1386 (by decide) ?_
  refine n_iadd (v := nI ((4 * i) + 1)) hx hb dL_law_1387 (nI_add _ _) ?_
  refine n_sld (j := (4 * i) + 1) hx hb hX hbl (Nat.not_le.mpr hbl) hS (by omega) (by omega) dL_law_1388 ?_
  refine lv_aload_n hx hb dL_law_1389 rfl (lv_at hl 5 rfl) ?_
  refine lv_iload hx hb dL_law_1390 (lv_at hl 1 rfl) ?_
  refine lv_iconst (v := nI 2) hx hb dL_law_1392 (by decide) ?_
  refine n_iadd (v := nI ((4 * i) + 2)) hx hb dL_law_1393 (nI_add _ _) ?_
  refine n_sld (j := (4 * i) + 2) hx hb hX hbl (Nat.not_le.mpr hbl) hS (by omega) (by omega) dL_law_1394 ?_
  refine wV (A0 := AH s) (As := [.int (xs ((4 * i) + 1)), .int (xs ((4 * i) + 2))]) (rest := []) ⟨hx, hb, hml, hown, hts⟩ (c_X2_shows l D cI cZ cL cJ am th n now told v hwf hG.1.2 (xs ((4 * i) + 1)) (xs ((4 * i) + 2))) (cwV 2 hts gL_law_X2_shows rfl rfl rfl (by decide +kernel) ⟨(Nat.le_of_ble_eq_true rfl), (Nat.le_of_ble_eq_true rfl)⟩) hK ((hEN.kept hS.2.1).narrow hG.toAM) hPM (RC_of (q := (RX2, TX2, 9)) (ci := 2) hK rfl (vpa hPM 0 rfl)) rfl hl.1 rfl (Nat.le_of_ble_eq_true rfl) dL_law_1395 ⟨by show 36 + 4 * i + 2 + 0 ≤ 668203; omega, by show 300 + 24 * i + 12 + 0 ≤ 7091495; omega⟩ hS hG.toAM (fun H2 locs2 _ hPM hz2 hk2 hS => ?_)
  have hPM : PM D cI cZ am (nI (cd2 (lpOk n (xs ((4 * i) + 1))) (inB (nI 1) (nI 30) (xs ((4 * i) + 2))))) n now told v H2 := hPM
  have hPX := PX_keep hPX hG.ad_AM hk2
  have hO := outK hO hG.z_AM hk2
  refine lv_istore (lv' := [(6, .int (mrI (cd2 (lpOk n (xs ((4 * i) + 1))) (inB (nI 1) (nI 30) (xs ((4 * i) + 2)))) (nI (shwN (v (ixx (xs ((4 * i) + 1)))) now (ixx (xs ((4 * i) + 2))))))), (5, .int (nI (cd2 (lpOk n (xs ((4 * i) + 1))) (inB (nI 1) (nI 30) (xs ((4 * i) + 2)))))), (4, .int (nI (4 * i))), (3, .ref z), (2, .ref (am 0)), (1, .ref (ad 0)), (0, .ref b)]) hx hb dL_law_1398 hl (by decide) rfl (fun ls hl => ?_)
  refine lv_aload_n hx hb dL_law_1400 rfl (lv_at hl 4 rfl) ?_
  refine rV (r := nI (cd2 (lpOk n (xs ((4 * i) + 1))) (inB (nI 1) (nI 30) (xs ((4 * i) + 2))))) (As := []) (rest := []) ⟨hx, hb, hml, hown, hts⟩ (c_X2_thrown l D cI cZ cL cJ am (nI (cd2 (lpOk n (xs ((4 * i) + 1))) (inB (nI 1) (nI 30) (xs ((4 * i) + 2))))) n now told v hwf2) (cwV 0 hts gL_law_X2_thrown rfl rfl rfl (by decide +kernel) ⟨(Nat.le_of_ble_eq_true rfl), (Nat.le_of_ble_eq_true rfl)⟩) hK ((hEN.kept hS.2.1).narrow (fun _ h => h.elim)) hPM (RC_of (q := (RX2, TX2, 9)) (ci := 2) hK rfl (vpa hPM 0 rfl)) rfl hl.1 rfl (Nat.le_of_ble_eq_true rfl) dL_law_1401 ⟨by show 36 + 4 * i + 2 + 0 ≤ 668203; omega, by show 300 + 24 * i + 12 + 0 ≤ 7091495; omega⟩ ?_
  refine lv_iload hx hb dL_law_1404 (lv_at hl 1 rfl) ?_
  refine lv_icmp_eq (tgt := 1411) hx hb dL_law_1406 (by decide) (fun c_1406 => ?_) (fun c_1406 => ?_)
  · refine lv_iload hx hb dL_law_1411 (lv_at hl 1 rfl) ?_
    refine n_if_ne (a := cd2 (lpOk n (xs ((4 * i) + 1))) (inB (nI 1) (nI 30) (xs ((4 * i) + 2)))) (tgt := 1428) hx hb (cd2_lt _ _) dL_law_1413 (by decide) (fun c_1413 => ?_) (fun c_1413 => ?_)
    · refine lv_goto (tgt := 1883) hx hb dL_law_1428 (by decide) ?_
      refine W.widen (k := 36 + 4 * (i + 1)) (n := 300 + 24 * (i + 1)) (by omega) (by omega) ?_
      exact kk n now told (nI (cd2 (lpOk n (xs ((4 * i) + 1))) (inB (nI 1) (nI 30) (xs ((4 * i) + 2))))) v f1 H2 locs2 ls hwf2 hnow2 hPX hPM hO hS (lv_sub hl [2, 3, 4, 5, 6] rfl)
    · refine lv_aload_n hx hb dL_law_1416 rfl (lv_at hl 3 rfl) ?_
      refine lv_iconst (v := nI 0) hx hb dL_law_1417 (by decide) ?_
      refine va_lald hx hb hK hO 0 3 rfl rfl (show vp_in (nI 0) 1 from vp_in_nI (by decide) (by decide)) dL_law_1418 ?_
      refine n_tl (y := f1 0) (by rw [nI_clamp (by decide)]) ?_
      refine lv_iload hx hb dL_law_1419 (lv_at hl 0 rfl) ?_
      refine lv_i2l (v := (mrI (cd2 (lpOk n (xs ((4 * i) + 1))) (inB (nI 1) (nI 30) (xs ((4 * i) + 2)))) (nI (shwN (v (ixx (xs ((4 * i) + 1)))) now (ixx (xs ((4 * i) + 2)))))).toInt64) hx hb dL_law_1421 rfl ?_
      refine W.lcmp hx hb dL_law_1422 ?_
      refine lv_if_eq (tgt := 1428) hx hb dL_law_1423 (by decide) (fun c_1423 => ?_) (fun c_1423 => ?_)
      · refine lv_goto (tgt := 1883) hx hb dL_law_1428 (by decide) ?_
        refine W.widen (k := 36 + 4 * (i + 1)) (n := 300 + 24 * (i + 1)) (by omega) (by omega) ?_
        exact kk n now told (nI (cd2 (lpOk n (xs ((4 * i) + 1))) (inB (nI 1) (nI 30) (xs ((4 * i) + 2))))) v f1 H2 locs2 ls hwf2 hnow2 hPX hPM hO hS (lv_sub hl [2, 3, 4, 5, 6] rfl)
      · exact absurd (lgc ((hf1 c_1413).trans (by rw [mrI_t c_1413]))) c_1423
  · exact absurd rfl c_1406
set_option maxHeartbeats 4000000 in
set_option maxRecDepth 100000 in
theorem kL_23 {p : Program} {l : Launch} {e : Env} {s : State} {m : MethodId} {below : List Frame} {meth : Method} {c : Code} {Q : State → Prop} {b L : Nat} {xs : Nat → Int32} {D : va_G} {cI cZ cL cJ : ClassId} {ad am : Nat → Nat} {z : Nat} (hst : l.stackTraces = false) (hL : L ≤ 2048) (hx : p.tables.exec = Jvm.exec) (hb : c.code = cL_law) (hml : c.maxLocals = 9) (hown : s.vm.findClass RL = some m.cls) (hts : ∀ w ∈ wsL_law, w.before #[Value.ref b] s = true) (hX : va_X b L xs s s.heap) (hbl : b < s.heap.size) (hK : va_K D vwCl (TY cI cZ cL cJ) s) (hEN : EN (AH s) s s.heap) (hG : GG s ad am z) {i n now : Nat} {told th : Int32} {v : Nat → LV} {f : Nat → Int64} {H : Heap} {locs : List Loc} {ls : Array Slot} (hwf : WFX n now v) (hnow : now ≤ 500 * i) (hi : 4 * i + 4 ≤ L) (hPX : PX D cI cL ad n now told v H) (hPM : PM D cI cZ am th n now told v H) (hO : va_P D vwCl (outW cJ z f) H) (hS : va_S (AH s) s.heap H locs) (hl : lv_has ls 9 [(4, .int (nI (4 * i))), (3, .ref z), (2, .ref (am 0)), (1, .ref (ad 0)), (0, .ref b)]) (kk : ∀ (n now : Nat) (told th : Int32) (v : Nat → LV) (f : Nat → Int64) (H : Heap) (locs : List Loc) (ls : Array Slot), WFX n now v → now ≤ 500 * (i + 1) → PX D cI cL ad n now told v H → PM D cI cZ am th n now told v H → va_P D vwCl (outW cJ z f) H → va_S (AH s) s.heap H locs → lv_has ls 9 [(4, .int (nI (4 * i))), (3, .ref z), (2, .ref (am 0)), (1, .ref (ad 0)), (0, .ref b)] → W p l e room_1 s m #[Value.ref b] below meth c H locs (36 + 4 * (i + 1)) (300 + 24 * (i + 1)) Q (F0 m 1883 ls [])) : W p l e room_1 s m #[Value.ref b] below meth c H locs (36 + 4 * i) (300 + 24 * i) Q (F0 m 1431 ls []) := by
  refine lv_aload_n hx hb dL_law_1431 rfl (lv_at hl 3 rfl) ?_
  refine lv_aload_n hx hb dL_law_1432 rfl (lv_at hl 4 rfl) ?_
  refine lv_iload hx hb dL_law_1433 (lv_at hl 0 rfl) ?_
  refine lv_iconst (v := nI 1) hx hb dL_law_1435 (by decide) ?_
  refine n_iadd (v := nI ((4 * i) + 1)) hx hb dL_law_1436 (nI_add _ _) ?_
  refine n_sld (j := (4 * i) + 1) hx hb hX hbl (Nat.not_le.mpr hbl) hS (by omega) (by omega) dL_law_1437 ?_
  refine lv_aload_n hx hb dL_law_1438 rfl (lv_at hl 4 rfl) ?_
  refine lv_iload hx hb dL_law_1439 (lv_at hl 0 rfl) ?_
  refine lv_iconst (v := nI 2) hx hb dL_law_1441 (by decide) ?_
  refine n_iadd (v := nI ((4 * i) + 2)) hx hb dL_law_1442 (nI_add _ _) ?_
  refine n_sld (j := (4 * i) + 2) hx hb hX hbl (Nat.not_le.mpr hbl) hS (by omega) (by omega) dL_law_1443 ?_
  refine lv_aload_n hx hb dL_law_1444 rfl (lv_at hl 1 rfl) ?_
  refine lsS (A0 := AH s) (As := [.ref (ad 0), .int (xs ((4 * i) + 1)), .int (xs ((4 * i) + 2)), .ref z]) (rest := []) ⟨hx, hb, hml, hown, hts⟩ (c_L_momentsUntilCollision l D cI cZ cL cJ hst ad n now told v hwf hG.1.1 z f hG.z_AX (xs ((4 * i) + 1)) (xs ((4 * i) + 2))) (vx_cwSW 4 hts gL_law_L_momentsUntilCollision rfl rfl rfl (by decide +kernel) ⟨(Nat.le_of_ble_eq_true rfl), (Nat.le_of_ble_eq_true rfl)⟩) hK ((hEN.kept hS.2.1).narrow hG.toAL) ⟨hPX, hO⟩ rfl hl.1 rfl (Nat.le_of_ble_eq_true rfl) dL_law_1445 ⟨by show 36 + 4 * i + 3 ≤ 668203; omega, by show 300 + 24 * i + 18 ≤ 7091495; omega⟩ hS hG.toAL (fun H1 locs1 _ hLE hz1 hk1 hS => ?_)
  obtain ⟨hPX, f1, hO, hf1⟩ := hLE
  have hPM := PM_keep hPM hG.am_AL hk1
  have hwf2 : WFX n now v := hwf
  have hnow2 : now ≤ 500 * (i + 1) := by omega
  refine lv_istore (lv' := [(5, .int (nI (cd2 (lpOk n (xs ((4 * i) + 1)) && lpOk n (xs ((4 * i) + 2))) (decide (¬ (xs ((4 * i) + 1)) = (xs ((4 * i) + 2))))))), (4, .int (nI (4 * i))), (3, .ref z), (2, .ref (am 0)), (1, .ref (ad 0)), (0, .ref b)]) hx hb dL_law_1448 hl (by decide) rfl (fun ls hl => ?_)
  refine lv_aload_n hx hb dL_law_1450 rfl (lv_at hl 3 rfl) ?_
  refine lv_aload_n hx hb dL_law_1451 rfl (lv_at hl 5 rfl) ?_
  refine lv_iload hx hb dL_law_1452 (lv_at hl 1 rfl) ?_
  refine lv_iconst (v := nI 1) hx hb dL_law_1454 (by decide) ?_
  refine n_iadd (v := nI ((4 * i) + 1)) hx hb dL_law_1455 (nI_add _ _) ?_
  refine n_sld (j := (4 * i) + 1) hx hb hX hbl (Nat.not_le.mpr hbl) hS (by omega) (by omega) dL_law_1456 ?_
  refine lv_aload_n hx hb dL_law_1457 rfl (lv_at hl 5 rfl) ?_
  refine lv_iload hx hb dL_law_1458 (lv_at hl 1 rfl) ?_
  refine lv_iconst (v := nI 2) hx hb dL_law_1460 (by decide) ?_
  refine n_iadd (v := nI ((4 * i) + 2)) hx hb dL_law_1461 (nI_add _ _) ?_
  refine n_sld (j := (4 * i) + 2) hx hb hX hbl (Nat.not_le.mpr hbl) hS (by omega) (by omega) dL_law_1462 ?_
  refine wV (A0 := AH s) (As := [.int (xs ((4 * i) + 1)), .int (xs ((4 * i) + 2))]) (rest := []) ⟨hx, hb, hml, hown, hts⟩ (c_X2_momentsUntilCollision l D cI cZ cL cJ am th n now told v hwf hG.1.2 (xs ((4 * i) + 1)) (xs ((4 * i) + 2))) (cwV 2 hts gL_law_X2_momentsUntilCollision rfl rfl rfl (by decide +kernel) ⟨(Nat.le_of_ble_eq_true rfl), (Nat.le_of_ble_eq_true rfl)⟩) hK ((hEN.kept hS.2.1).narrow hG.toAM) hPM (RC_of (q := (RX2, TX2, 9)) (ci := 2) hK rfl (vpa hPM 0 rfl)) rfl hl.1 rfl (Nat.le_of_ble_eq_true rfl) dL_law_1463 ⟨by show 36 + 4 * i + 3 + 0 ≤ 668203; omega, by show 300 + 24 * i + 18 + 0 ≤ 7091495; omega⟩ hS hG.toAM (fun H2 locs2 _ hPM hz2 hk2 hS => ?_)
  have hPM : PM D cI cZ am (nI (cd2 (lpOk n (xs ((4 * i) + 1)) && lpOk n (xs ((4 * i) + 2))) (decide (¬ (xs ((4 * i) + 1)) = (xs ((4 * i) + 2)))))) n now told v H2 := hPM
  have hPX := PX_keep hPX hG.ad_AM hk2
  have hO := outK hO hG.z_AM hk2
  refine lv_istore (lv' := [(6, .int (mrI (cd2 (lpOk n (xs ((4 * i) + 1)) && lpOk n (xs ((4 * i) + 2))) (decide (¬ (xs ((4 * i) + 1)) = (xs ((4 * i) + 2))))) (oI (fnd (fun z => colB v (ixx (xs ((4 * i) + 1))) (ixx (xs ((4 * i) + 2))) (now + z)) 1 1000)))), (5, .int (nI (cd2 (lpOk n (xs ((4 * i) + 1)) && lpOk n (xs ((4 * i) + 2))) (decide (¬ (xs ((4 * i) + 1)) = (xs ((4 * i) + 2))))))), (4, .int (nI (4 * i))), (3, .ref z), (2, .ref (am 0)), (1, .ref (ad 0)), (0, .ref b)]) hx hb dL_law_1466 hl (by decide) rfl (fun ls hl => ?_)
  refine lv_aload_n hx hb dL_law_1468 rfl (lv_at hl 4 rfl) ?_
  refine rV (r := nI (cd2 (lpOk n (xs ((4 * i) + 1)) && lpOk n (xs ((4 * i) + 2))) (decide (¬ (xs ((4 * i) + 1)) = (xs ((4 * i) + 2)))))) (As := []) (rest := []) ⟨hx, hb, hml, hown, hts⟩ (c_X2_thrown l D cI cZ cL cJ am (nI (cd2 (lpOk n (xs ((4 * i) + 1)) && lpOk n (xs ((4 * i) + 2))) (decide (¬ (xs ((4 * i) + 1)) = (xs ((4 * i) + 2)))))) n now told v hwf2) (cwV 0 hts gL_law_X2_thrown rfl rfl rfl (by decide +kernel) ⟨(Nat.le_of_ble_eq_true rfl), (Nat.le_of_ble_eq_true rfl)⟩) hK ((hEN.kept hS.2.1).narrow (fun _ h => h.elim)) hPM (RC_of (q := (RX2, TX2, 9)) (ci := 2) hK rfl (vpa hPM 0 rfl)) rfl hl.1 rfl (Nat.le_of_ble_eq_true rfl) dL_law_1469 ⟨by show 36 + 4 * i + 3 + 0 ≤ 668203; omega, by show 300 + 24 * i + 18 + 0 ≤ 7091495; omega⟩ ?_
  refine lv_iload hx hb dL_law_1472 (lv_at hl 1 rfl) ?_
  refine lv_icmp_eq (tgt := 1479) hx hb dL_law_1474 (by decide) (fun c_1474 => ?_) (fun c_1474 => ?_)
  · refine lv_iload hx hb dL_law_1479 (lv_at hl 1 rfl) ?_
    refine n_if_ne (a := cd2 (lpOk n (xs ((4 * i) + 1)) && lpOk n (xs ((4 * i) + 2))) (decide (¬ (xs ((4 * i) + 1)) = (xs ((4 * i) + 2))))) (tgt := 1496) hx hb (cd2_lt _ _) dL_law_1481 (by decide) (fun c_1481 => ?_) (fun c_1481 => ?_)
    · refine lv_goto (tgt := 1883) hx hb dL_law_1496 (by decide) ?_
      refine W.widen (k := 36 + 4 * (i + 1)) (n := 300 + 24 * (i + 1)) (by omega) (by omega) ?_
      exact kk n now told (nI (cd2 (lpOk n (xs ((4 * i) + 1)) && lpOk n (xs ((4 * i) + 2))) (decide (¬ (xs ((4 * i) + 1)) = (xs ((4 * i) + 2)))))) v f1 H2 locs2 ls hwf2 hnow2 hPX hPM hO hS (lv_sub hl [2, 3, 4, 5, 6] rfl)
    · refine lv_aload_n hx hb dL_law_1484 rfl (lv_at hl 3 rfl) ?_
      refine lv_iconst (v := nI 0) hx hb dL_law_1485 (by decide) ?_
      refine va_lald hx hb hK hO 0 3 rfl rfl (show vp_in (nI 0) 1 from vp_in_nI (by decide) (by decide)) dL_law_1486 ?_
      refine n_tl (y := f1 0) (by rw [nI_clamp (by decide)]) ?_
      refine lv_iload hx hb dL_law_1487 (lv_at hl 0 rfl) ?_
      refine lv_i2l (v := (mrI (cd2 (lpOk n (xs ((4 * i) + 1)) && lpOk n (xs ((4 * i) + 2))) (decide (¬ (xs ((4 * i) + 1)) = (xs ((4 * i) + 2))))) (oI (fnd (fun z => colB v (ixx (xs ((4 * i) + 1))) (ixx (xs ((4 * i) + 2))) (now + z)) 1 1000))).toInt64) hx hb dL_law_1489 rfl ?_
      refine W.lcmp hx hb dL_law_1490 ?_
      refine lv_if_eq (tgt := 1496) hx hb dL_law_1491 (by decide) (fun c_1491 => ?_) (fun c_1491 => ?_)
      · refine lv_goto (tgt := 1883) hx hb dL_law_1496 (by decide) ?_
        refine W.widen (k := 36 + 4 * (i + 1)) (n := 300 + 24 * (i + 1)) (by omega) (by omega) ?_
        exact kk n now told (nI (cd2 (lpOk n (xs ((4 * i) + 1)) && lpOk n (xs ((4 * i) + 2))) (decide (¬ (xs ((4 * i) + 1)) = (xs ((4 * i) + 2)))))) v f1 H2 locs2 ls hwf2 hnow2 hPX hPM hO hS (lv_sub hl [2, 3, 4, 5, 6] rfl)
      · exact absurd (lgc ((hf1 c_1481).trans (by rw [mrI_t c_1481]))) c_1491
  · exact absurd rfl c_1474
set_option maxHeartbeats 4000000 in
set_option maxRecDepth 100000 in
theorem kL_24 {p : Program} {l : Launch} {e : Env} {s : State} {m : MethodId} {below : List Frame} {meth : Method} {c : Code} {Q : State → Prop} {b L : Nat} {xs : Nat → Int32} {D : va_G} {cI cZ cL cJ : ClassId} {ad am : Nat → Nat} {z : Nat} (hst : l.stackTraces = false) (hL : L ≤ 2048) (hx : p.tables.exec = Jvm.exec) (hb : c.code = cL_law) (hml : c.maxLocals = 9) (hown : s.vm.findClass RL = some m.cls) (hts : ∀ w ∈ wsL_law, w.before #[Value.ref b] s = true) (hX : va_X b L xs s s.heap) (hbl : b < s.heap.size) (hK : va_K D vwCl (TY cI cZ cL cJ) s) (hEN : EN (AH s) s s.heap) (hG : GG s ad am z) {i n now : Nat} {told th : Int32} {v : Nat → LV} {f : Nat → Int64} {H : Heap} {locs : List Loc} {ls : Array Slot} (hwf : WFX n now v) (hnow : now ≤ 500 * i) (hi : 4 * i + 4 ≤ L) (hPX : PX D cI cL ad n now told v H) (hPM : PM D cI cZ am th n now told v H) (hO : va_P D vwCl (outW cJ z f) H) (hS : va_S (AH s) s.heap H locs) (hl : lv_has ls 9 [(4, .int (nI (4 * i))), (3, .ref z), (2, .ref (am 0)), (1, .ref (ad 0)), (0, .ref b)]) (kk : ∀ (n now : Nat) (told th : Int32) (v : Nat → LV) (f : Nat → Int64) (H : Heap) (locs : List Loc) (ls : Array Slot), WFX n now v → now ≤ 500 * (i + 1) → PX D cI cL ad n now told v H → PM D cI cZ am th n now told v H → va_P D vwCl (outW cJ z f) H → va_S (AH s) s.heap H locs → lv_has ls 9 [(4, .int (nI (4 * i))), (3, .ref z), (2, .ref (am 0)), (1, .ref (ad 0)), (0, .ref b)] → W p l e room_1 s m #[Value.ref b] below meth c H locs (36 + 4 * (i + 1)) (300 + 24 * (i + 1)) Q (F0 m 1883 ls [])) : W p l e room_1 s m #[Value.ref b] below meth c H locs (36 + 4 * i) (300 + 24 * i) Q (F0 m 1499 ls []) := by
  refine lv_aload_n hx hb dL_law_1499 rfl (lv_at hl 3 rfl) ?_
  refine lv_aload_n hx hb dL_law_1500 rfl (lv_at hl 4 rfl) ?_
  refine lv_iload hx hb dL_law_1501 (lv_at hl 0 rfl) ?_
  refine lv_iconst (v := nI 1) hx hb dL_law_1503 (by decide) ?_
  refine n_iadd (v := nI ((4 * i) + 1)) hx hb dL_law_1504 (nI_add _ _) ?_
  refine n_sld (j := (4 * i) + 1) hx hb hX hbl (Nat.not_le.mpr hbl) hS (by omega) (by omega) dL_law_1505 ?_
  refine lv_aload_n hx hb dL_law_1506 rfl (lv_at hl 4 rfl) ?_
  refine lv_iload hx hb dL_law_1507 (lv_at hl 0 rfl) ?_
  refine lv_iconst (v := nI 2) hx hb dL_law_1509 (by decide) ?_
  refine n_iadd (v := nI ((4 * i) + 2)) hx hb dL_law_1510 (nI_add _ _) ?_
  refine n_sld (j := (4 * i) + 2) hx hb hX hbl (Nat.not_le.mpr hbl) hS (by omega) (by omega) dL_law_1511 ?_
  refine lv_aload_n hx hb dL_law_1512 rfl (lv_at hl 4 rfl) ?_
  refine lv_iload hx hb dL_law_1513 (lv_at hl 0 rfl) ?_
  refine lv_iconst (v := nI 3) hx hb dL_law_1515 (by decide) ?_
  refine n_iadd (v := nI ((4 * i) + 3)) hx hb dL_law_1516 (nI_add _ _) ?_
  refine n_sld (j := (4 * i) + 3) hx hb hX hbl (Nat.not_le.mpr hbl) hS (by omega) (by omega) dL_law_1517 ?_
  refine lv_aload_n hx hb dL_law_1518 rfl (lv_at hl 1 rfl) ?_
  refine lsS (A0 := AH s) (As := [.ref (ad 0), .int (xs ((4 * i) + 1)), .int (xs ((4 * i) + 2)), .int (xs ((4 * i) + 3)), .ref z]) (rest := []) ⟨hx, hb, hml, hown, hts⟩ (c_L_collisionsWithin l D cI cZ cL cJ hst ad n now told v hwf hG.1.1 z f hG.z_AX (xs ((4 * i) + 1)) (xs ((4 * i) + 2)) (xs ((4 * i) + 3))) (vx_cwSW 5 hts gL_law_L_collisionsWithin rfl rfl rfl (by decide +kernel) ⟨(Nat.le_of_ble_eq_true rfl), (Nat.le_of_ble_eq_true rfl)⟩) hK ((hEN.kept hS.2.1).narrow hG.toAL) ⟨hPX, hO⟩ rfl hl.1 rfl (Nat.le_of_ble_eq_true rfl) dL_law_1519 ⟨by show 36 + 4 * i + 4 ≤ 668203; omega, by show 300 + 24 * i + 24 ≤ 7091495; omega⟩ hS hG.toAL (fun H1 locs1 _ hLE hz1 hk1 hS => ?_)
  obtain ⟨hPX, f1, hO, hf1⟩ := hLE
  have hPM := PM_keep hPM hG.am_AL hk1
  have hwf2 : WFX n now v := hwf
  have hnow2 : now ≤ 500 * (i + 1) := by omega
  refine lv_istore (lv' := [(5, .int (nI (cd2 (lpOk n (xs ((4 * i) + 1)) && lpOk n (xs ((4 * i) + 2))) (decide (¬ (xs ((4 * i) + 1)) = (xs ((4 * i) + 2))) && inB (nI 1) (nI 500) (xs ((4 * i) + 3)))))), (4, .int (nI (4 * i))), (3, .ref z), (2, .ref (am 0)), (1, .ref (ad 0)), (0, .ref b)]) hx hb dL_law_1522 hl (by decide) rfl (fun ls hl => ?_)
  refine lv_aload_n hx hb dL_law_1524 rfl (lv_at hl 3 rfl) ?_
  refine lv_aload_n hx hb dL_law_1525 rfl (lv_at hl 5 rfl) ?_
  refine lv_iload hx hb dL_law_1526 (lv_at hl 1 rfl) ?_
  refine lv_iconst (v := nI 1) hx hb dL_law_1528 (by decide) ?_
  refine n_iadd (v := nI ((4 * i) + 1)) hx hb dL_law_1529 (nI_add _ _) ?_
  refine n_sld (j := (4 * i) + 1) hx hb hX hbl (Nat.not_le.mpr hbl) hS (by omega) (by omega) dL_law_1530 ?_
  refine lv_aload_n hx hb dL_law_1531 rfl (lv_at hl 5 rfl) ?_
  refine lv_iload hx hb dL_law_1532 (lv_at hl 1 rfl) ?_
  refine lv_iconst (v := nI 2) hx hb dL_law_1534 (by decide) ?_
  refine n_iadd (v := nI ((4 * i) + 2)) hx hb dL_law_1535 (nI_add _ _) ?_
  refine n_sld (j := (4 * i) + 2) hx hb hX hbl (Nat.not_le.mpr hbl) hS (by omega) (by omega) dL_law_1536 ?_
  refine lv_aload_n hx hb dL_law_1537 rfl (lv_at hl 5 rfl) ?_
  refine lv_iload hx hb dL_law_1538 (lv_at hl 1 rfl) ?_
  refine lv_iconst (v := nI 3) hx hb dL_law_1540 (by decide) ?_
  refine n_iadd (v := nI ((4 * i) + 3)) hx hb dL_law_1541 (nI_add _ _) ?_
  refine n_sld (j := (4 * i) + 3) hx hb hX hbl (Nat.not_le.mpr hbl) hS (by omega) (by omega) dL_law_1542 ?_
  refine wV (A0 := AH s) (As := [.int (xs ((4 * i) + 1)), .int (xs ((4 * i) + 2)), .int (xs ((4 * i) + 3))]) (rest := []) ⟨hx, hb, hml, hown, hts⟩ (c_X2_collisionsWithin l D cI cZ cL cJ am th n now told v hwf hG.1.2 (xs ((4 * i) + 1)) (xs ((4 * i) + 2)) (xs ((4 * i) + 3))) (cwV 3 hts gL_law_X2_collisionsWithin rfl rfl rfl (by decide +kernel) ⟨(Nat.le_of_ble_eq_true rfl), (Nat.le_of_ble_eq_true rfl)⟩) hK ((hEN.kept hS.2.1).narrow hG.toAM) hPM (RC_of (q := (RX2, TX2, 9)) (ci := 2) hK rfl (vpa hPM 0 rfl)) rfl hl.1 rfl (Nat.le_of_ble_eq_true rfl) dL_law_1543 ⟨by show 36 + 4 * i + 4 + 0 ≤ 668203; omega, by show 300 + 24 * i + 24 + 0 ≤ 7091495; omega⟩ hS hG.toAM (fun H2 locs2 _ hPM hz2 hk2 hS => ?_)
  have hPM : PM D cI cZ am (nI (cd2 (lpOk n (xs ((4 * i) + 1)) && lpOk n (xs ((4 * i) + 2))) (decide (¬ (xs ((4 * i) + 1)) = (xs ((4 * i) + 2))) && inB (nI 1) (nI 500) (xs ((4 * i) + 3))))) n now told v H2 := hPM
  have hPX := PX_keep hPX hG.ad_AM hk2
  have hO := outK hO hG.z_AM hk2
  refine lv_istore (lv' := [(6, .int (mrI (cd2 (lpOk n (xs ((4 * i) + 1)) && lpOk n (xs ((4 * i) + 2))) (decide (¬ (xs ((4 * i) + 1)) = (xs ((4 * i) + 2))) && inB (nI 1) (nI 500) (xs ((4 * i) + 3)))) (nI (cnt (fun s => colB v (ixx (xs ((4 * i) + 1))) (ixx (xs ((4 * i) + 2))) (now + (s + 1))) (ixx (xs ((4 * i) + 3))))))), (5, .int (nI (cd2 (lpOk n (xs ((4 * i) + 1)) && lpOk n (xs ((4 * i) + 2))) (decide (¬ (xs ((4 * i) + 1)) = (xs ((4 * i) + 2))) && inB (nI 1) (nI 500) (xs ((4 * i) + 3)))))), (4, .int (nI (4 * i))), (3, .ref z), (2, .ref (am 0)), (1, .ref (ad 0)), (0, .ref b)]) hx hb dL_law_1546 hl (by decide) rfl (fun ls hl => ?_)
  refine lv_aload_n hx hb dL_law_1548 rfl (lv_at hl 4 rfl) ?_
  refine rV (r := nI (cd2 (lpOk n (xs ((4 * i) + 1)) && lpOk n (xs ((4 * i) + 2))) (decide (¬ (xs ((4 * i) + 1)) = (xs ((4 * i) + 2))) && inB (nI 1) (nI 500) (xs ((4 * i) + 3))))) (As := []) (rest := []) ⟨hx, hb, hml, hown, hts⟩ (c_X2_thrown l D cI cZ cL cJ am (nI (cd2 (lpOk n (xs ((4 * i) + 1)) && lpOk n (xs ((4 * i) + 2))) (decide (¬ (xs ((4 * i) + 1)) = (xs ((4 * i) + 2))) && inB (nI 1) (nI 500) (xs ((4 * i) + 3))))) n now told v hwf2) (cwV 0 hts gL_law_X2_thrown rfl rfl rfl (by decide +kernel) ⟨(Nat.le_of_ble_eq_true rfl), (Nat.le_of_ble_eq_true rfl)⟩) hK ((hEN.kept hS.2.1).narrow (fun _ h => h.elim)) hPM (RC_of (q := (RX2, TX2, 9)) (ci := 2) hK rfl (vpa hPM 0 rfl)) rfl hl.1 rfl (Nat.le_of_ble_eq_true rfl) dL_law_1549 ⟨by show 36 + 4 * i + 4 + 0 ≤ 668203; omega, by show 300 + 24 * i + 24 + 0 ≤ 7091495; omega⟩ ?_
  refine lv_iload hx hb dL_law_1552 (lv_at hl 1 rfl) ?_
  refine lv_icmp_eq (tgt := 1559) hx hb dL_law_1554 (by decide) (fun c_1554 => ?_) (fun c_1554 => ?_)
  · refine lv_iload hx hb dL_law_1559 (lv_at hl 1 rfl) ?_
    refine n_if_ne (a := cd2 (lpOk n (xs ((4 * i) + 1)) && lpOk n (xs ((4 * i) + 2))) (decide (¬ (xs ((4 * i) + 1)) = (xs ((4 * i) + 2))) && inB (nI 1) (nI 500) (xs ((4 * i) + 3)))) (tgt := 1576) hx hb (cd2_lt _ _) dL_law_1561 (by decide) (fun c_1561 => ?_) (fun c_1561 => ?_)
    · refine lv_goto (tgt := 1883) hx hb dL_law_1576 (by decide) ?_
      refine W.widen (k := 36 + 4 * (i + 1)) (n := 300 + 24 * (i + 1)) (by omega) (by omega) ?_
      exact kk n now told (nI (cd2 (lpOk n (xs ((4 * i) + 1)) && lpOk n (xs ((4 * i) + 2))) (decide (¬ (xs ((4 * i) + 1)) = (xs ((4 * i) + 2))) && inB (nI 1) (nI 500) (xs ((4 * i) + 3))))) v f1 H2 locs2 ls hwf2 hnow2 hPX hPM hO hS (lv_sub hl [2, 3, 4, 5, 6] rfl)
    · refine lv_aload_n hx hb dL_law_1564 rfl (lv_at hl 3 rfl) ?_
      refine lv_iconst (v := nI 0) hx hb dL_law_1565 (by decide) ?_
      refine va_lald hx hb hK hO 0 3 rfl rfl (show vp_in (nI 0) 1 from vp_in_nI (by decide) (by decide)) dL_law_1566 ?_
      refine n_tl (y := f1 0) (by rw [nI_clamp (by decide)]) ?_
      refine lv_iload hx hb dL_law_1567 (lv_at hl 0 rfl) ?_
      refine lv_i2l (v := (mrI (cd2 (lpOk n (xs ((4 * i) + 1)) && lpOk n (xs ((4 * i) + 2))) (decide (¬ (xs ((4 * i) + 1)) = (xs ((4 * i) + 2))) && inB (nI 1) (nI 500) (xs ((4 * i) + 3)))) (nI (cnt (fun s => colB v (ixx (xs ((4 * i) + 1))) (ixx (xs ((4 * i) + 2))) (now + (s + 1))) (ixx (xs ((4 * i) + 3)))))).toInt64) hx hb dL_law_1569 rfl ?_
      refine W.lcmp hx hb dL_law_1570 ?_
      refine lv_if_eq (tgt := 1576) hx hb dL_law_1571 (by decide) (fun c_1571 => ?_) (fun c_1571 => ?_)
      · refine lv_goto (tgt := 1883) hx hb dL_law_1576 (by decide) ?_
        refine W.widen (k := 36 + 4 * (i + 1)) (n := 300 + 24 * (i + 1)) (by omega) (by omega) ?_
        exact kk n now told (nI (cd2 (lpOk n (xs ((4 * i) + 1)) && lpOk n (xs ((4 * i) + 2))) (decide (¬ (xs ((4 * i) + 1)) = (xs ((4 * i) + 2))) && inB (nI 1) (nI 500) (xs ((4 * i) + 3))))) v f1 H2 locs2 ls hwf2 hnow2 hPX hPM hO hS (lv_sub hl [2, 3, 4, 5, 6] rfl)
      · exact absurd (lgc ((hf1 c_1561).trans (by rw [mrI_t c_1561]))) c_1571
  · exact absurd rfl c_1554
set_option maxHeartbeats 4000000 in
set_option maxRecDepth 100000 in
theorem kL_25 {p : Program} {l : Launch} {e : Env} {s : State} {m : MethodId} {below : List Frame} {meth : Method} {c : Code} {Q : State → Prop} {b L : Nat} {xs : Nat → Int32} {D : va_G} {cI cZ cL cJ : ClassId} {ad am : Nat → Nat} {z : Nat} (hst : l.stackTraces = false) (hL : L ≤ 2048) (hx : p.tables.exec = Jvm.exec) (hb : c.code = cL_law) (hml : c.maxLocals = 9) (hown : s.vm.findClass RL = some m.cls) (hts : ∀ w ∈ wsL_law, w.before #[Value.ref b] s = true) (hX : va_X b L xs s s.heap) (hbl : b < s.heap.size) (hK : va_K D vwCl (TY cI cZ cL cJ) s) (hEN : EN (AH s) s s.heap) (hG : GG s ad am z) {i n now : Nat} {told th : Int32} {v : Nat → LV} {f : Nat → Int64} {H : Heap} {locs : List Loc} {ls : Array Slot} (hwf : WFX n now v) (hnow : now ≤ 500 * i) (hi : 4 * i + 4 ≤ L) (hPX : PX D cI cL ad n now told v H) (hPM : PM D cI cZ am th n now told v H) (hO : va_P D vwCl (outW cJ z f) H) (hS : va_S (AH s) s.heap H locs) (hl : lv_has ls 9 [(4, .int (nI (4 * i))), (3, .ref z), (2, .ref (am 0)), (1, .ref (ad 0)), (0, .ref b)]) (kk : ∀ (n now : Nat) (told th : Int32) (v : Nat → LV) (f : Nat → Int64) (H : Heap) (locs : List Loc) (ls : Array Slot), WFX n now v → now ≤ 500 * (i + 1) → PX D cI cL ad n now told v H → PM D cI cZ am th n now told v H → va_P D vwCl (outW cJ z f) H → va_S (AH s) s.heap H locs → lv_has ls 9 [(4, .int (nI (4 * i))), (3, .ref z), (2, .ref (am 0)), (1, .ref (ad 0)), (0, .ref b)] → W p l e room_1 s m #[Value.ref b] below meth c H locs (36 + 4 * (i + 1)) (300 + 24 * (i + 1)) Q (F0 m 1883 ls [])) : W p l e room_1 s m #[Value.ref b] below meth c H locs (36 + 4 * i) (300 + 24 * i) Q (F0 m 1579 ls []) := by
  refine lv_aload_n hx hb dL_law_1579 rfl (lv_at hl 3 rfl) ?_
  refine lv_aload_n hx hb dL_law_1580 rfl (lv_at hl 4 rfl) ?_
  refine lv_iload hx hb dL_law_1581 (lv_at hl 0 rfl) ?_
  refine lv_iconst (v := nI 1) hx hb dL_law_1583 (by decide) ?_
  refine n_iadd (v := nI ((4 * i) + 1)) hx hb dL_law_1584 (nI_add _ _) ?_
  refine n_sld (j := (4 * i) + 1) hx hb hX hbl (Nat.not_le.mpr hbl) hS (by omega) (by omega) dL_law_1585 ?_
  refine lv_aload_n hx hb dL_law_1586 rfl (lv_at hl 4 rfl) ?_
  refine lv_iload hx hb dL_law_1587 (lv_at hl 0 rfl) ?_
  refine lv_iconst (v := nI 2) hx hb dL_law_1589 (by decide) ?_
  refine n_iadd (v := nI ((4 * i) + 2)) hx hb dL_law_1590 (nI_add _ _) ?_
  refine n_sld (j := (4 * i) + 2) hx hb hX hbl (Nat.not_le.mpr hbl) hS (by omega) (by omega) dL_law_1591 ?_
  refine lv_aload_n hx hb dL_law_1592 rfl (lv_at hl 1 rfl) ?_
  refine lsS (A0 := AH s) (As := [.ref (ad 0), .int (xs ((4 * i) + 1)), .int (xs ((4 * i) + 2)), .ref z]) (rest := []) ⟨hx, hb, hml, hown, hts⟩ (c_L_momentsUntilToldApart l D cI cZ cL cJ hst ad n now told v hwf hG.1.1 z f hG.z_AX (xs ((4 * i) + 1)) (xs ((4 * i) + 2))) (vx_cwSW 4 hts gL_law_L_momentsUntilToldApart rfl rfl rfl (by decide +kernel) ⟨(Nat.le_of_ble_eq_true rfl), (Nat.le_of_ble_eq_true rfl)⟩) hK ((hEN.kept hS.2.1).narrow hG.toAL) ⟨hPX, hO⟩ rfl hl.1 rfl (Nat.le_of_ble_eq_true rfl) dL_law_1593 ⟨by show 36 + 4 * i + 3 ≤ 668203; omega, by show 300 + 24 * i + 18 ≤ 7091495; omega⟩ hS hG.toAL (fun H1 locs1 _ hLE hz1 hk1 hS => ?_)
  obtain ⟨hPX, f1, hO, hf1⟩ := hLE
  have hPM := PM_keep hPM hG.am_AL hk1
  have hwf2 : WFX n now (if cd2 (lpOk n (xs ((4 * i) + 1)) && lpOk n (xs ((4 * i) + 2))) (decide (¬ (xs ((4 * i) + 1)) = (xs ((4 * i) + 2)))) = 0 then updv v 8 (diffL (v 8) (v (ixx (xs ((4 * i) + 1)))) (v (ixx (xs ((4 * i) + 2))))) else v) := by
    by_cases h0 : cd2 (lpOk n (xs ((4 * i) + 1)) && lpOk n (xs ((4 * i) + 2))) (decide (¬ (xs ((4 * i) + 1)) = (xs ((4 * i) + 2)))) = 0
    · rw [if_pos h0]; exact wf_upd hwf (fun hj => absurd hj (by omega))
    · rw [if_neg h0]; exact hwf
  have hnow2 : now ≤ 500 * (i + 1) := by omega
  refine lv_istore (lv' := [(5, .int (nI (cd2 (lpOk n (xs ((4 * i) + 1)) && lpOk n (xs ((4 * i) + 2))) (decide (¬ (xs ((4 * i) + 1)) = (xs ((4 * i) + 2))))))), (4, .int (nI (4 * i))), (3, .ref z), (2, .ref (am 0)), (1, .ref (ad 0)), (0, .ref b)]) hx hb dL_law_1596 hl (by decide) rfl (fun ls hl => ?_)
  refine lv_aload_n hx hb dL_law_1598 rfl (lv_at hl 3 rfl) ?_
  refine lv_aload_n hx hb dL_law_1599 rfl (lv_at hl 5 rfl) ?_
  refine lv_iload hx hb dL_law_1600 (lv_at hl 1 rfl) ?_
  refine lv_iconst (v := nI 1) hx hb dL_law_1602 (by decide) ?_
  refine n_iadd (v := nI ((4 * i) + 1)) hx hb dL_law_1603 (nI_add _ _) ?_
  refine n_sld (j := (4 * i) + 1) hx hb hX hbl (Nat.not_le.mpr hbl) hS (by omega) (by omega) dL_law_1604 ?_
  refine lv_aload_n hx hb dL_law_1605 rfl (lv_at hl 5 rfl) ?_
  refine lv_iload hx hb dL_law_1606 (lv_at hl 1 rfl) ?_
  refine lv_iconst (v := nI 2) hx hb dL_law_1608 (by decide) ?_
  refine n_iadd (v := nI ((4 * i) + 2)) hx hb dL_law_1609 (nI_add _ _) ?_
  refine n_sld (j := (4 * i) + 2) hx hb hX hbl (Nat.not_le.mpr hbl) hS (by omega) (by omega) dL_law_1610 ?_
  refine wV (A0 := AH s) (As := [.int (xs ((4 * i) + 1)), .int (xs ((4 * i) + 2))]) (rest := []) ⟨hx, hb, hml, hown, hts⟩ (c_X2_momentsUntilToldApart l D cI cZ cL cJ am th n now told v hwf hG.1.2 (xs ((4 * i) + 1)) (xs ((4 * i) + 2))) (cwV 2 hts gL_law_X2_momentsUntilToldApart rfl rfl rfl (by decide +kernel) ⟨(Nat.le_of_ble_eq_true rfl), (Nat.le_of_ble_eq_true rfl)⟩) hK ((hEN.kept hS.2.1).narrow hG.toAM) hPM (RC_of (q := (RX2, TX2, 9)) (ci := 2) hK rfl (vpa hPM 0 rfl)) rfl hl.1 rfl (Nat.le_of_ble_eq_true rfl) dL_law_1611 ⟨by show 36 + 4 * i + 3 + 0 ≤ 668203; omega, by show 300 + 24 * i + 18 + 0 ≤ 7091495; omega⟩ hS hG.toAM (fun H2 locs2 _ hPM hz2 hk2 hS => ?_)
  have hPM : PM D cI cZ am (nI (cd2 (lpOk n (xs ((4 * i) + 1)) && lpOk n (xs ((4 * i) + 2))) (decide (¬ (xs ((4 * i) + 1)) = (xs ((4 * i) + 2)))))) n now told v H2 := hPM
  have hPM : PM D cI cZ am (nI (cd2 (lpOk n (xs ((4 * i) + 1)) && lpOk n (xs ((4 * i) + 2))) (decide (¬ (xs ((4 * i) + 1)) = (xs ((4 * i) + 2)))))) n now told (if cd2 (lpOk n (xs ((4 * i) + 1)) && lpOk n (xs ((4 * i) + 2))) (decide (¬ (xs ((4 * i) + 1)) = (xs ((4 * i) + 2)))) = 0 then updv v 8 (diffL (v 8) (v (ixx (xs ((4 * i) + 1)))) (v (ixx (xs ((4 * i) + 2))))) else v) H2 := by
    by_cases h0 : cd2 (lpOk n (xs ((4 * i) + 1)) && lpOk n (xs ((4 * i) + 2))) (decide (¬ (xs ((4 * i) + 1)) = (xs ((4 * i) + 2)))) = 0
    · rw [if_pos h0]; exact PM_8 hPM
    · rw [if_neg h0]; exact hPM
  have hPX := PX_keep hPX hG.ad_AM hk2
  have hO := outK hO hG.z_AM hk2
  refine lv_istore (lv' := [(6, .int (mrI (cd2 (lpOk n (xs ((4 * i) + 1)) && lpOk n (xs ((4 * i) + 2))) (decide (¬ (xs ((4 * i) + 1)) = (xs ((4 * i) + 2))))) (tldI v (ixx (xs ((4 * i) + 1))) (ixx (xs ((4 * i) + 2))) now))), (5, .int (nI (cd2 (lpOk n (xs ((4 * i) + 1)) && lpOk n (xs ((4 * i) + 2))) (decide (¬ (xs ((4 * i) + 1)) = (xs ((4 * i) + 2))))))), (4, .int (nI (4 * i))), (3, .ref z), (2, .ref (am 0)), (1, .ref (ad 0)), (0, .ref b)]) hx hb dL_law_1614 hl (by decide) rfl (fun ls hl => ?_)
  refine lv_aload_n hx hb dL_law_1616 rfl (lv_at hl 4 rfl) ?_
  refine rV (r := nI (cd2 (lpOk n (xs ((4 * i) + 1)) && lpOk n (xs ((4 * i) + 2))) (decide (¬ (xs ((4 * i) + 1)) = (xs ((4 * i) + 2)))))) (As := []) (rest := []) ⟨hx, hb, hml, hown, hts⟩ (c_X2_thrown l D cI cZ cL cJ am (nI (cd2 (lpOk n (xs ((4 * i) + 1)) && lpOk n (xs ((4 * i) + 2))) (decide (¬ (xs ((4 * i) + 1)) = (xs ((4 * i) + 2)))))) n now told (if cd2 (lpOk n (xs ((4 * i) + 1)) && lpOk n (xs ((4 * i) + 2))) (decide (¬ (xs ((4 * i) + 1)) = (xs ((4 * i) + 2)))) = 0 then updv v 8 (diffL (v 8) (v (ixx (xs ((4 * i) + 1)))) (v (ixx (xs ((4 * i) + 2))))) else v) hwf2) (cwV 0 hts gL_law_X2_thrown rfl rfl rfl (by decide +kernel) ⟨(Nat.le_of_ble_eq_true rfl), (Nat.le_of_ble_eq_true rfl)⟩) hK ((hEN.kept hS.2.1).narrow (fun _ h => h.elim)) hPM (RC_of (q := (RX2, TX2, 9)) (ci := 2) hK rfl (vpa hPM 0 rfl)) rfl hl.1 rfl (Nat.le_of_ble_eq_true rfl) dL_law_1617 ⟨by show 36 + 4 * i + 3 + 0 ≤ 668203; omega, by show 300 + 24 * i + 18 + 0 ≤ 7091495; omega⟩ ?_
  refine lv_iload hx hb dL_law_1620 (lv_at hl 1 rfl) ?_
  refine lv_icmp_eq (tgt := 1627) hx hb dL_law_1622 (by decide) (fun c_1622 => ?_) (fun c_1622 => ?_)
  · refine lv_iload hx hb dL_law_1627 (lv_at hl 1 rfl) ?_
    refine n_if_ne (a := cd2 (lpOk n (xs ((4 * i) + 1)) && lpOk n (xs ((4 * i) + 2))) (decide (¬ (xs ((4 * i) + 1)) = (xs ((4 * i) + 2))))) (tgt := 1644) hx hb (cd2_lt _ _) dL_law_1629 (by decide) (fun c_1629 => ?_) (fun c_1629 => ?_)
    · refine lv_goto (tgt := 1883) hx hb dL_law_1644 (by decide) ?_
      refine W.widen (k := 36 + 4 * (i + 1)) (n := 300 + 24 * (i + 1)) (by omega) (by omega) ?_
      exact kk n now told (nI (cd2 (lpOk n (xs ((4 * i) + 1)) && lpOk n (xs ((4 * i) + 2))) (decide (¬ (xs ((4 * i) + 1)) = (xs ((4 * i) + 2)))))) (if cd2 (lpOk n (xs ((4 * i) + 1)) && lpOk n (xs ((4 * i) + 2))) (decide (¬ (xs ((4 * i) + 1)) = (xs ((4 * i) + 2)))) = 0 then updv v 8 (diffL (v 8) (v (ixx (xs ((4 * i) + 1)))) (v (ixx (xs ((4 * i) + 2))))) else v) f1 H2 locs2 ls hwf2 hnow2 hPX hPM hO hS (lv_sub hl [2, 3, 4, 5, 6] rfl)
    · refine lv_aload_n hx hb dL_law_1632 rfl (lv_at hl 3 rfl) ?_
      refine lv_iconst (v := nI 0) hx hb dL_law_1633 (by decide) ?_
      refine va_lald hx hb hK hO 0 3 rfl rfl (show vp_in (nI 0) 1 from vp_in_nI (by decide) (by decide)) dL_law_1634 ?_
      refine n_tl (y := f1 0) (by rw [nI_clamp (by decide)]) ?_
      refine lv_iload hx hb dL_law_1635 (lv_at hl 0 rfl) ?_
      refine lv_i2l (v := (mrI (cd2 (lpOk n (xs ((4 * i) + 1)) && lpOk n (xs ((4 * i) + 2))) (decide (¬ (xs ((4 * i) + 1)) = (xs ((4 * i) + 2))))) (tldI v (ixx (xs ((4 * i) + 1))) (ixx (xs ((4 * i) + 2))) now)).toInt64) hx hb dL_law_1637 rfl ?_
      refine W.lcmp hx hb dL_law_1638 ?_
      refine lv_if_eq (tgt := 1644) hx hb dL_law_1639 (by decide) (fun c_1639 => ?_) (fun c_1639 => ?_)
      · refine lv_goto (tgt := 1883) hx hb dL_law_1644 (by decide) ?_
        refine W.widen (k := 36 + 4 * (i + 1)) (n := 300 + 24 * (i + 1)) (by omega) (by omega) ?_
        exact kk n now told (nI (cd2 (lpOk n (xs ((4 * i) + 1)) && lpOk n (xs ((4 * i) + 2))) (decide (¬ (xs ((4 * i) + 1)) = (xs ((4 * i) + 2)))))) (if cd2 (lpOk n (xs ((4 * i) + 1)) && lpOk n (xs ((4 * i) + 2))) (decide (¬ (xs ((4 * i) + 1)) = (xs ((4 * i) + 2)))) = 0 then updv v 8 (diffL (v 8) (v (ixx (xs ((4 * i) + 1)))) (v (ixx (xs ((4 * i) + 2))))) else v) f1 H2 locs2 ls hwf2 hnow2 hPX hPM hO hS (lv_sub hl [2, 3, 4, 5, 6] rfl)
      · exact absurd (lgc ((hf1 c_1629).trans (by rw [mrI_t c_1629]))) c_1639
  · exact absurd rfl c_1622
set_option maxHeartbeats 4000000 in
set_option maxRecDepth 100000 in
theorem kL_26 {p : Program} {l : Launch} {e : Env} {s : State} {m : MethodId} {below : List Frame} {meth : Method} {c : Code} {Q : State → Prop} {b L : Nat} {xs : Nat → Int32} {D : va_G} {cI cZ cL cJ : ClassId} {ad am : Nat → Nat} {z : Nat} (hst : l.stackTraces = false) (hL : L ≤ 2048) (hx : p.tables.exec = Jvm.exec) (hb : c.code = cL_law) (hml : c.maxLocals = 9) (hown : s.vm.findClass RL = some m.cls) (hts : ∀ w ∈ wsL_law, w.before #[Value.ref b] s = true) (hX : va_X b L xs s s.heap) (hbl : b < s.heap.size) (hK : va_K D vwCl (TY cI cZ cL cJ) s) (hEN : EN (AH s) s s.heap) (hG : GG s ad am z) {i n now : Nat} {told th : Int32} {v : Nat → LV} {f : Nat → Int64} {H : Heap} {locs : List Loc} {ls : Array Slot} (hwf : WFX n now v) (hnow : now ≤ 500 * i) (hi : 4 * i + 4 ≤ L) (hPX : PX D cI cL ad n now told v H) (hPM : PM D cI cZ am th n now told v H) (hO : va_P D vwCl (outW cJ z f) H) (hS : va_S (AH s) s.heap H locs) (hl : lv_has ls 9 [(4, .int (nI (4 * i))), (3, .ref z), (2, .ref (am 0)), (1, .ref (ad 0)), (0, .ref b)]) (kk : ∀ (n now : Nat) (told th : Int32) (v : Nat → LV) (f : Nat → Int64) (H : Heap) (locs : List Loc) (ls : Array Slot), WFX n now v → now ≤ 500 * (i + 1) → PX D cI cL ad n now told v H → PM D cI cZ am th n now told v H → va_P D vwCl (outW cJ z f) H → va_S (AH s) s.heap H locs → lv_has ls 9 [(4, .int (nI (4 * i))), (3, .ref z), (2, .ref (am 0)), (1, .ref (ad 0)), (0, .ref b)] → W p l e room_1 s m #[Value.ref b] below meth c H locs (36 + 4 * (i + 1)) (300 + 24 * (i + 1)) Q (F0 m 1883 ls [])) : W p l e room_1 s m #[Value.ref b] below meth c H locs (36 + 4 * i) (300 + 24 * i) Q (F0 m 1647 ls []) := by
  refine lv_aload_n hx hb dL_law_1647 rfl (lv_at hl 3 rfl) ?_
  refine rV (r := (oI (fnd (fun q => dkB v n (-1) (now + q)) 0 2001))) (As := []) (rest := []) ⟨hx, hb, hml, hown, hts⟩ (c_X1_momentsUntilDark l D cI cZ cL cJ ad n now told v hwf) (cwV 0 hts gL_law_X1_momentsUntilDark rfl rfl rfl (by decide +kernel) ⟨(Nat.le_of_ble_eq_true rfl), (Nat.le_of_ble_eq_true rfl)⟩) hK ((hEN.kept hS.2.1).narrow (fun _ h => h.elim)) hPX (RC_of (q := (RX1, TX1, 5)) (ci := 1) hK rfl (vpa hPX.1 0 rfl)) rfl hl.1 rfl (Nat.le_of_ble_eq_true rfl) dL_law_1648 ⟨by show 36 + 4 * i ≤ 668203; omega, by show 300 + 24 * i ≤ 7091495; omega⟩ ?_
  refine lv_aload_n hx hb dL_law_1651 rfl (lv_at hl 2 rfl) ?_
  refine wV (A0 := AH s) (As := []) (rest := [.int (oI (fnd (fun q => dkB v n (-1) (now + q)) 0 2001))]) ⟨hx, hb, hml, hown, hts⟩ (c_X2_momentsUntilDark l D cI cZ cL cJ am th n now told v hwf hG.1.2 ) (cwV 0 hts gL_law_X2_momentsUntilDark rfl rfl rfl (by decide +kernel) ⟨(Nat.le_of_ble_eq_true rfl), (Nat.le_of_ble_eq_true rfl)⟩) hK ((hEN.kept hS.2.1).narrow hG.toAM) hPM (RC_of (q := (RX2, TX2, 9)) (ci := 2) hK rfl (vpa hPM 0 rfl)) rfl hl.1 rfl (Nat.le_of_ble_eq_true rfl) dL_law_1652 ⟨by show 36 + 4 * i ≤ 668203; omega, by show 300 + 24 * i ≤ 7091495; omega⟩ hS hG.toAM (fun H2 locs2 _ hPM hz2 hk2 hS => ?_)
  have hPM : PM D cI cZ am (nI (0)) n now told v H2 := hPM
  have hwf2 := hwf
  have hnow2 : now ≤ 500 * (i + 1) := by omega
  have hPX := PX_keep hPX hG.ad_AM hk2
  have hO := outK hO hG.z_AM hk2
  refine lv_icmp_eq (tgt := 1883) hx hb dL_law_1655 (by decide) (fun c_1655 => ?_) (fun c_1655 => ?_)
  · refine W.widen (k := 36 + 4 * (i + 1)) (n := 300 + 24 * (i + 1)) (by omega) (by omega) ?_
    exact kk n now told (nI (0)) v f H2 locs2 ls hwf2 hnow2 hPX hPM hO hS (lv_sub hl [0, 1, 2, 3, 4] rfl)
  · exact absurd rfl c_1655
set_option maxHeartbeats 4000000 in
set_option maxRecDepth 100000 in
theorem kL_27 {p : Program} {l : Launch} {e : Env} {s : State} {m : MethodId} {below : List Frame} {meth : Method} {c : Code} {Q : State → Prop} {b L : Nat} {xs : Nat → Int32} {D : va_G} {cI cZ cL cJ : ClassId} {ad am : Nat → Nat} {z : Nat} (hst : l.stackTraces = false) (hL : L ≤ 2048) (hx : p.tables.exec = Jvm.exec) (hb : c.code = cL_law) (hml : c.maxLocals = 9) (hown : s.vm.findClass RL = some m.cls) (hts : ∀ w ∈ wsL_law, w.before #[Value.ref b] s = true) (hX : va_X b L xs s s.heap) (hbl : b < s.heap.size) (hK : va_K D vwCl (TY cI cZ cL cJ) s) (hEN : EN (AH s) s s.heap) (hG : GG s ad am z) {i n now : Nat} {told th : Int32} {v : Nat → LV} {f : Nat → Int64} {H : Heap} {locs : List Loc} {ls : Array Slot} (hwf : WFX n now v) (hnow : now ≤ 500 * i) (hi : 4 * i + 4 ≤ L) (hPX : PX D cI cL ad n now told v H) (hPM : PM D cI cZ am th n now told v H) (hO : va_P D vwCl (outW cJ z f) H) (hS : va_S (AH s) s.heap H locs) (hl : lv_has ls 9 [(4, .int (nI (4 * i))), (3, .ref z), (2, .ref (am 0)), (1, .ref (ad 0)), (0, .ref b)]) (kk : ∀ (n now : Nat) (told th : Int32) (v : Nat → LV) (f : Nat → Int64) (H : Heap) (locs : List Loc) (ls : Array Slot), WFX n now v → now ≤ 500 * (i + 1) → PX D cI cL ad n now told v H → PM D cI cZ am th n now told v H → va_P D vwCl (outW cJ z f) H → va_S (AH s) s.heap H locs → lv_has ls 9 [(4, .int (nI (4 * i))), (3, .ref z), (2, .ref (am 0)), (1, .ref (ad 0)), (0, .ref b)] → W p l e room_1 s m #[Value.ref b] below meth c H locs (36 + 4 * (i + 1)) (300 + 24 * (i + 1)) Q (F0 m 1883 ls [])) : W p l e room_1 s m #[Value.ref b] below meth c H locs (36 + 4 * i) (300 + 24 * i) Q (F0 m 1660 ls []) := by
  refine lv_aload_n hx hb dL_law_1660 rfl (lv_at hl 3 rfl) ?_
  refine lv_aload_n hx hb dL_law_1661 rfl (lv_at hl 4 rfl) ?_
  refine lv_iload hx hb dL_law_1662 (lv_at hl 0 rfl) ?_
  refine lv_iconst (v := nI 1) hx hb dL_law_1664 (by decide) ?_
  refine n_iadd (v := nI ((4 * i) + 1)) hx hb dL_law_1665 (nI_add _ _) ?_
  refine n_sld (j := (4 * i) + 1) hx hb hX hbl (Nat.not_le.mpr hbl) hS (by omega) (by omega) dL_law_1666 ?_
  refine lv_aload_n hx hb dL_law_1667 rfl (lv_at hl 1 rfl) ?_
  refine lsS (A0 := AH s) (As := [.ref (ad 0), .int (xs ((4 * i) + 1)), .ref z]) (rest := []) ⟨hx, hb, hml, hown, hts⟩ (c_L_darkWithin l D cI cZ cL cJ hst ad n now told v hwf hG.1.1 z f hG.z_AX (xs ((4 * i) + 1))) (vx_cwSW 3 hts gL_law_L_darkWithin rfl rfl rfl (by decide +kernel) ⟨(Nat.le_of_ble_eq_true rfl), (Nat.le_of_ble_eq_true rfl)⟩) hK ((hEN.kept hS.2.1).narrow hG.toAL) ⟨hPX, hO⟩ rfl hl.1 rfl (Nat.le_of_ble_eq_true rfl) dL_law_1668 ⟨by show 36 + 4 * i + 1 ≤ 668203; omega, by show 300 + 24 * i + 6 ≤ 7091495; omega⟩ hS hG.toAL (fun H1 locs1 _ hLE hz1 hk1 hS => ?_)
  obtain ⟨hPX, f1, hO, hf1⟩ := hLE
  have hPM := PM_keep hPM hG.am_AL hk1
  have hwf2 : WFX n now v := hwf
  have hnow2 : now ≤ 500 * (i + 1) := by omega
  refine lv_istore (lv' := [(5, .int (nI (cd1 (inB (nI 1) (nI 500) (xs ((4 * i) + 1)))))), (4, .int (nI (4 * i))), (3, .ref z), (2, .ref (am 0)), (1, .ref (ad 0)), (0, .ref b)]) hx hb dL_law_1671 hl (by decide) rfl (fun ls hl => ?_)
  refine lv_aload_n hx hb dL_law_1673 rfl (lv_at hl 3 rfl) ?_
  refine lv_aload_n hx hb dL_law_1674 rfl (lv_at hl 5 rfl) ?_
  refine lv_iload hx hb dL_law_1675 (lv_at hl 1 rfl) ?_
  refine lv_iconst (v := nI 1) hx hb dL_law_1677 (by decide) ?_
  refine n_iadd (v := nI ((4 * i) + 1)) hx hb dL_law_1678 (nI_add _ _) ?_
  refine n_sld (j := (4 * i) + 1) hx hb hX hbl (Nat.not_le.mpr hbl) hS (by omega) (by omega) dL_law_1679 ?_
  refine wV (A0 := AH s) (As := [.int (xs ((4 * i) + 1))]) (rest := []) ⟨hx, hb, hml, hown, hts⟩ (c_X2_darkWithin l D cI cZ cL cJ am th n now told v hwf hG.1.2 (xs ((4 * i) + 1))) (cwV 1 hts gL_law_X2_darkWithin rfl rfl rfl (by decide +kernel) ⟨(Nat.le_of_ble_eq_true rfl), (Nat.le_of_ble_eq_true rfl)⟩) hK ((hEN.kept hS.2.1).narrow hG.toAM) hPM (RC_of (q := (RX2, TX2, 9)) (ci := 2) hK rfl (vpa hPM 0 rfl)) rfl hl.1 rfl (Nat.le_of_ble_eq_true rfl) dL_law_1680 ⟨by show 36 + 4 * i + 1 + 0 ≤ 668203; omega, by show 300 + 24 * i + 6 + 0 ≤ 7091495; omega⟩ hS hG.toAM (fun H2 locs2 _ hPM hz2 hk2 hS => ?_)
  have hPM : PM D cI cZ am (nI (cd1 (inB (nI 1) (nI 500) (xs ((4 * i) + 1))))) n now told v H2 := hPM
  have hPX := PX_keep hPX hG.ad_AM hk2
  have hO := outK hO hG.z_AM hk2
  refine lv_istore (lv' := [(6, .int (mrI (cd1 (inB (nI 1) (nI 500) (xs ((4 * i) + 1)))) (nI (dkN v n now (-1) (ixx (xs ((4 * i) + 1))))))), (5, .int (nI (cd1 (inB (nI 1) (nI 500) (xs ((4 * i) + 1)))))), (4, .int (nI (4 * i))), (3, .ref z), (2, .ref (am 0)), (1, .ref (ad 0)), (0, .ref b)]) hx hb dL_law_1683 hl (by decide) rfl (fun ls hl => ?_)
  refine lv_aload_n hx hb dL_law_1685 rfl (lv_at hl 4 rfl) ?_
  refine rV (r := nI (cd1 (inB (nI 1) (nI 500) (xs ((4 * i) + 1))))) (As := []) (rest := []) ⟨hx, hb, hml, hown, hts⟩ (c_X2_thrown l D cI cZ cL cJ am (nI (cd1 (inB (nI 1) (nI 500) (xs ((4 * i) + 1))))) n now told v hwf2) (cwV 0 hts gL_law_X2_thrown rfl rfl rfl (by decide +kernel) ⟨(Nat.le_of_ble_eq_true rfl), (Nat.le_of_ble_eq_true rfl)⟩) hK ((hEN.kept hS.2.1).narrow (fun _ h => h.elim)) hPM (RC_of (q := (RX2, TX2, 9)) (ci := 2) hK rfl (vpa hPM 0 rfl)) rfl hl.1 rfl (Nat.le_of_ble_eq_true rfl) dL_law_1686 ⟨by show 36 + 4 * i + 1 + 0 ≤ 668203; omega, by show 300 + 24 * i + 6 + 0 ≤ 7091495; omega⟩ ?_
  refine lv_iload hx hb dL_law_1689 (lv_at hl 1 rfl) ?_
  refine lv_icmp_eq (tgt := 1696) hx hb dL_law_1691 (by decide) (fun c_1691 => ?_) (fun c_1691 => ?_)
  · refine lv_iload hx hb dL_law_1696 (lv_at hl 1 rfl) ?_
    refine n_if_ne (a := cd1 (inB (nI 1) (nI 500) (xs ((4 * i) + 1)))) (tgt := 1713) hx hb (cd1_lt _) dL_law_1698 (by decide) (fun c_1698 => ?_) (fun c_1698 => ?_)
    · refine lv_goto (tgt := 1883) hx hb dL_law_1713 (by decide) ?_
      refine W.widen (k := 36 + 4 * (i + 1)) (n := 300 + 24 * (i + 1)) (by omega) (by omega) ?_
      exact kk n now told (nI (cd1 (inB (nI 1) (nI 500) (xs ((4 * i) + 1))))) v f1 H2 locs2 ls hwf2 hnow2 hPX hPM hO hS (lv_sub hl [2, 3, 4, 5, 6] rfl)
    · refine lv_aload_n hx hb dL_law_1701 rfl (lv_at hl 3 rfl) ?_
      refine lv_iconst (v := nI 0) hx hb dL_law_1702 (by decide) ?_
      refine va_lald hx hb hK hO 0 3 rfl rfl (show vp_in (nI 0) 1 from vp_in_nI (by decide) (by decide)) dL_law_1703 ?_
      refine n_tl (y := f1 0) (by rw [nI_clamp (by decide)]) ?_
      refine lv_iload hx hb dL_law_1704 (lv_at hl 0 rfl) ?_
      refine lv_i2l (v := (mrI (cd1 (inB (nI 1) (nI 500) (xs ((4 * i) + 1)))) (nI (dkN v n now (-1) (ixx (xs ((4 * i) + 1)))))).toInt64) hx hb dL_law_1706 rfl ?_
      refine W.lcmp hx hb dL_law_1707 ?_
      refine lv_if_eq (tgt := 1713) hx hb dL_law_1708 (by decide) (fun c_1708 => ?_) (fun c_1708 => ?_)
      · refine lv_goto (tgt := 1883) hx hb dL_law_1713 (by decide) ?_
        refine W.widen (k := 36 + 4 * (i + 1)) (n := 300 + 24 * (i + 1)) (by omega) (by omega) ?_
        exact kk n now told (nI (cd1 (inB (nI 1) (nI 500) (xs ((4 * i) + 1))))) v f1 H2 locs2 ls hwf2 hnow2 hPX hPM hO hS (lv_sub hl [2, 3, 4, 5, 6] rfl)
      · exact absurd (lgc ((hf1 c_1698).trans (by rw [mrI_t c_1698]))) c_1708
  · exact absurd rfl c_1691
set_option maxHeartbeats 4000000 in
set_option maxRecDepth 100000 in
theorem kL_28 {p : Program} {l : Launch} {e : Env} {s : State} {m : MethodId} {below : List Frame} {meth : Method} {c : Code} {Q : State → Prop} {b L : Nat} {xs : Nat → Int32} {D : va_G} {cI cZ cL cJ : ClassId} {ad am : Nat → Nat} {z : Nat} (hst : l.stackTraces = false) (hL : L ≤ 2048) (hx : p.tables.exec = Jvm.exec) (hb : c.code = cL_law) (hml : c.maxLocals = 9) (hown : s.vm.findClass RL = some m.cls) (hts : ∀ w ∈ wsL_law, w.before #[Value.ref b] s = true) (hX : va_X b L xs s s.heap) (hbl : b < s.heap.size) (hK : va_K D vwCl (TY cI cZ cL cJ) s) (hEN : EN (AH s) s s.heap) (hG : GG s ad am z) {i n now : Nat} {told th : Int32} {v : Nat → LV} {f : Nat → Int64} {H : Heap} {locs : List Loc} {ls : Array Slot} (hwf : WFX n now v) (hnow : now ≤ 500 * i) (hi : 4 * i + 4 ≤ L) (hPX : PX D cI cL ad n now told v H) (hPM : PM D cI cZ am th n now told v H) (hO : va_P D vwCl (outW cJ z f) H) (hS : va_S (AH s) s.heap H locs) (hl : lv_has ls 9 [(4, .int (nI (4 * i))), (3, .ref z), (2, .ref (am 0)), (1, .ref (ad 0)), (0, .ref b)]) (kk : ∀ (n now : Nat) (told th : Int32) (v : Nat → LV) (f : Nat → Int64) (H : Heap) (locs : List Loc) (ls : Array Slot), WFX n now v → now ≤ 500 * (i + 1) → PX D cI cL ad n now told v H → PM D cI cZ am th n now told v H → va_P D vwCl (outW cJ z f) H → va_S (AH s) s.heap H locs → lv_has ls 9 [(4, .int (nI (4 * i))), (3, .ref z), (2, .ref (am 0)), (1, .ref (ad 0)), (0, .ref b)] → W p l e room_1 s m #[Value.ref b] below meth c H locs (36 + 4 * (i + 1)) (300 + 24 * (i + 1)) Q (F0 m 1883 ls [])) : W p l e room_1 s m #[Value.ref b] below meth c H locs (36 + 4 * i) (300 + 24 * i) Q (F0 m 1716 ls []) := by
  refine lv_aload_n hx hb dL_law_1716 rfl (lv_at hl 3 rfl) ?_
  refine lv_aload_n hx hb dL_law_1717 rfl (lv_at hl 4 rfl) ?_
  refine lv_iload hx hb dL_law_1718 (lv_at hl 0 rfl) ?_
  refine lv_iconst (v := nI 1) hx hb dL_law_1720 (by decide) ?_
  refine n_iadd (v := nI ((4 * i) + 1)) hx hb dL_law_1721 (nI_add _ _) ?_
  refine n_sld (j := (4 * i) + 1) hx hb hX hbl (Nat.not_le.mpr hbl) hS (by omega) (by omega) dL_law_1722 ?_
  refine lv_aload_n hx hb dL_law_1723 rfl (lv_at hl 1 rfl) ?_
  refine lsS (A0 := AH s) (As := [.ref (ad 0), .int (xs ((4 * i) + 1)), .ref z]) (rest := []) ⟨hx, hb, hml, hown, hts⟩ (c_L_brightestWithin l D cI cZ cL cJ hst ad n now told v hwf hG.1.1 z f hG.z_AX (xs ((4 * i) + 1))) (vx_cwSW 3 hts gL_law_L_brightestWithin rfl rfl rfl (by decide +kernel) ⟨(Nat.le_of_ble_eq_true rfl), (Nat.le_of_ble_eq_true rfl)⟩) hK ((hEN.kept hS.2.1).narrow hG.toAL) ⟨hPX, hO⟩ rfl hl.1 rfl (Nat.le_of_ble_eq_true rfl) dL_law_1724 ⟨by show 36 + 4 * i + 1 ≤ 668203; omega, by show 300 + 24 * i + 6 ≤ 7091495; omega⟩ hS hG.toAL (fun H1 locs1 _ hLE hz1 hk1 hS => ?_)
  obtain ⟨hPX, f1, hO, hf1⟩ := hLE
  have hPM := PM_keep hPM hG.am_AL hk1
  have hwf2 : WFX n now v := hwf
  have hnow2 : now ≤ 500 * (i + 1) := by omega
  refine lv_istore (lv' := [(5, .int (nI (cd1 (inB (nI 1) (nI 500) (xs ((4 * i) + 1)))))), (4, .int (nI (4 * i))), (3, .ref z), (2, .ref (am 0)), (1, .ref (ad 0)), (0, .ref b)]) hx hb dL_law_1727 hl (by decide) rfl (fun ls hl => ?_)
  refine lv_aload_n hx hb dL_law_1729 rfl (lv_at hl 3 rfl) ?_
  refine lv_aload_n hx hb dL_law_1730 rfl (lv_at hl 5 rfl) ?_
  refine lv_iload hx hb dL_law_1731 (lv_at hl 1 rfl) ?_
  refine lv_iconst (v := nI 1) hx hb dL_law_1733 (by decide) ?_
  refine n_iadd (v := nI ((4 * i) + 1)) hx hb dL_law_1734 (nI_add _ _) ?_
  refine n_sld (j := (4 * i) + 1) hx hb hX hbl (Nat.not_le.mpr hbl) hS (by omega) (by omega) dL_law_1735 ?_
  refine wV (A0 := AH s) (As := [.int (xs ((4 * i) + 1))]) (rest := []) ⟨hx, hb, hml, hown, hts⟩ (c_X2_brightestWithin l D cI cZ cL cJ am th n now told v hwf hG.1.2 (xs ((4 * i) + 1))) (cwV 1 hts gL_law_X2_brightestWithin rfl rfl rfl (by decide +kernel) ⟨(Nat.le_of_ble_eq_true rfl), (Nat.le_of_ble_eq_true rfl)⟩) hK ((hEN.kept hS.2.1).narrow hG.toAM) hPM (RC_of (q := (RX2, TX2, 9)) (ci := 2) hK rfl (vpa hPM 0 rfl)) rfl hl.1 rfl (Nat.le_of_ble_eq_true rfl) dL_law_1736 ⟨by show 36 + 4 * i + 1 + 0 ≤ 668203; omega, by show 300 + 24 * i + 6 + 0 ≤ 7091495; omega⟩ hS hG.toAM (fun H2 locs2 _ hPM hz2 hk2 hS => ?_)
  have hPM : PM D cI cZ am (nI (cd1 (inB (nI 1) (nI 500) (xs ((4 * i) + 1))))) n now told v H2 := hPM
  have hPX := PX_keep hPX hG.ad_AM hk2
  have hO := outK hO hG.z_AM hk2
  refine lv_istore (lv' := [(6, .int (mrI (cd1 (inB (nI 1) (nI 500) (xs ((4 * i) + 1)))) (nI (brtN v n now (ixx (xs ((4 * i) + 1))))))), (5, .int (nI (cd1 (inB (nI 1) (nI 500) (xs ((4 * i) + 1)))))), (4, .int (nI (4 * i))), (3, .ref z), (2, .ref (am 0)), (1, .ref (ad 0)), (0, .ref b)]) hx hb dL_law_1739 hl (by decide) rfl (fun ls hl => ?_)
  refine lv_aload_n hx hb dL_law_1741 rfl (lv_at hl 4 rfl) ?_
  refine rV (r := nI (cd1 (inB (nI 1) (nI 500) (xs ((4 * i) + 1))))) (As := []) (rest := []) ⟨hx, hb, hml, hown, hts⟩ (c_X2_thrown l D cI cZ cL cJ am (nI (cd1 (inB (nI 1) (nI 500) (xs ((4 * i) + 1))))) n now told v hwf2) (cwV 0 hts gL_law_X2_thrown rfl rfl rfl (by decide +kernel) ⟨(Nat.le_of_ble_eq_true rfl), (Nat.le_of_ble_eq_true rfl)⟩) hK ((hEN.kept hS.2.1).narrow (fun _ h => h.elim)) hPM (RC_of (q := (RX2, TX2, 9)) (ci := 2) hK rfl (vpa hPM 0 rfl)) rfl hl.1 rfl (Nat.le_of_ble_eq_true rfl) dL_law_1742 ⟨by show 36 + 4 * i + 1 + 0 ≤ 668203; omega, by show 300 + 24 * i + 6 + 0 ≤ 7091495; omega⟩ ?_
  refine lv_iload hx hb dL_law_1745 (lv_at hl 1 rfl) ?_
  refine lv_icmp_eq (tgt := 1752) hx hb dL_law_1747 (by decide) (fun c_1747 => ?_) (fun c_1747 => ?_)
  · refine lv_iload hx hb dL_law_1752 (lv_at hl 1 rfl) ?_
    refine n_if_ne (a := cd1 (inB (nI 1) (nI 500) (xs ((4 * i) + 1)))) (tgt := 1769) hx hb (cd1_lt _) dL_law_1754 (by decide) (fun c_1754 => ?_) (fun c_1754 => ?_)
    · refine lv_goto (tgt := 1883) hx hb dL_law_1769 (by decide) ?_
      refine W.widen (k := 36 + 4 * (i + 1)) (n := 300 + 24 * (i + 1)) (by omega) (by omega) ?_
      exact kk n now told (nI (cd1 (inB (nI 1) (nI 500) (xs ((4 * i) + 1))))) v f1 H2 locs2 ls hwf2 hnow2 hPX hPM hO hS (lv_sub hl [2, 3, 4, 5, 6] rfl)
    · refine lv_aload_n hx hb dL_law_1757 rfl (lv_at hl 3 rfl) ?_
      refine lv_iconst (v := nI 0) hx hb dL_law_1758 (by decide) ?_
      refine va_lald hx hb hK hO 0 3 rfl rfl (show vp_in (nI 0) 1 from vp_in_nI (by decide) (by decide)) dL_law_1759 ?_
      refine n_tl (y := f1 0) (by rw [nI_clamp (by decide)]) ?_
      refine lv_iload hx hb dL_law_1760 (lv_at hl 0 rfl) ?_
      refine lv_i2l (v := (mrI (cd1 (inB (nI 1) (nI 500) (xs ((4 * i) + 1)))) (nI (brtN v n now (ixx (xs ((4 * i) + 1)))))).toInt64) hx hb dL_law_1762 rfl ?_
      refine W.lcmp hx hb dL_law_1763 ?_
      refine lv_if_eq (tgt := 1769) hx hb dL_law_1764 (by decide) (fun c_1764 => ?_) (fun c_1764 => ?_)
      · refine lv_goto (tgt := 1883) hx hb dL_law_1769 (by decide) ?_
        refine W.widen (k := 36 + 4 * (i + 1)) (n := 300 + 24 * (i + 1)) (by omega) (by omega) ?_
        exact kk n now told (nI (cd1 (inB (nI 1) (nI 500) (xs ((4 * i) + 1))))) v f1 H2 locs2 ls hwf2 hnow2 hPX hPM hO hS (lv_sub hl [2, 3, 4, 5, 6] rfl)
      · exact absurd (lgc ((hf1 c_1754).trans (by rw [mrI_t c_1754]))) c_1764
  · exact absurd rfl c_1747
set_option maxHeartbeats 4000000 in
set_option maxRecDepth 100000 in
theorem kL_29 {p : Program} {l : Launch} {e : Env} {s : State} {m : MethodId} {below : List Frame} {meth : Method} {c : Code} {Q : State → Prop} {b L : Nat} {xs : Nat → Int32} {D : va_G} {cI cZ cL cJ : ClassId} {ad am : Nat → Nat} {z : Nat} (hst : l.stackTraces = false) (hL : L ≤ 2048) (hx : p.tables.exec = Jvm.exec) (hb : c.code = cL_law) (hml : c.maxLocals = 9) (hown : s.vm.findClass RL = some m.cls) (hts : ∀ w ∈ wsL_law, w.before #[Value.ref b] s = true) (hX : va_X b L xs s s.heap) (hbl : b < s.heap.size) (hK : va_K D vwCl (TY cI cZ cL cJ) s) (hEN : EN (AH s) s s.heap) (hG : GG s ad am z) {i n now : Nat} {told th : Int32} {v : Nat → LV} {f : Nat → Int64} {H : Heap} {locs : List Loc} {ls : Array Slot} (hwf : WFX n now v) (hnow : now ≤ 500 * i) (hi : 4 * i + 4 ≤ L) (hPX : PX D cI cL ad n now told v H) (hPM : PM D cI cZ am th n now told v H) (hO : va_P D vwCl (outW cJ z f) H) (hS : va_S (AH s) s.heap H locs) (hl : lv_has ls 9 [(4, .int (nI (4 * i))), (3, .ref z), (2, .ref (am 0)), (1, .ref (ad 0)), (0, .ref b)]) (kk : ∀ (n now : Nat) (told th : Int32) (v : Nat → LV) (f : Nat → Int64) (H : Heap) (locs : List Loc) (ls : Array Slot), WFX n now v → now ≤ 500 * (i + 1) → PX D cI cL ad n now told v H → PM D cI cZ am th n now told v H → va_P D vwCl (outW cJ z f) H → va_S (AH s) s.heap H locs → lv_has ls 9 [(4, .int (nI (4 * i))), (3, .ref z), (2, .ref (am 0)), (1, .ref (ad 0)), (0, .ref b)] → W p l e room_1 s m #[Value.ref b] below meth c H locs (36 + 4 * (i + 1)) (300 + 24 * (i + 1)) Q (F0 m 1883 ls [])) : W p l e room_1 s m #[Value.ref b] below meth c H locs (36 + 4 * i) (300 + 24 * i) Q (F0 m 1772 ls []) := by
  refine lv_aload_n hx hb dL_law_1772 rfl (lv_at hl 3 rfl) ?_
  refine lv_aload_n hx hb dL_law_1773 rfl (lv_at hl 4 rfl) ?_
  refine lv_iload hx hb dL_law_1774 (lv_at hl 0 rfl) ?_
  refine lv_iconst (v := nI 1) hx hb dL_law_1776 (by decide) ?_
  refine n_iadd (v := nI ((4 * i) + 1)) hx hb dL_law_1777 (nI_add _ _) ?_
  refine n_sld (j := (4 * i) + 1) hx hb hX hbl (Nat.not_le.mpr hbl) hS (by omega) (by omega) dL_law_1778 ?_
  refine lv_aload_n hx hb dL_law_1779 rfl (lv_at hl 1 rfl) ?_
  refine lsS (A0 := AH s) (As := [.ref (ad 0), .int (xs ((4 * i) + 1)), .ref z]) (rest := []) ⟨hx, hb, hml, hown, hts⟩ (c_L_bestCover l D cI cZ cL cJ hst ad n now told v hwf hG.1.1 z f hG.z_AX (xs ((4 * i) + 1))) (vx_cwSW 3 hts gL_law_L_bestCover rfl rfl rfl (by decide +kernel) ⟨(Nat.le_of_ble_eq_true rfl), (Nat.le_of_ble_eq_true rfl)⟩) hK ((hEN.kept hS.2.1).narrow hG.toAL) ⟨hPX, hO⟩ rfl hl.1 rfl (Nat.le_of_ble_eq_true rfl) dL_law_1780 ⟨by show 36 + 4 * i + 1 ≤ 668203; omega, by show 300 + 24 * i + 6 ≤ 7091495; omega⟩ hS hG.toAL (fun H1 locs1 _ hLE hz1 hk1 hS => ?_)
  obtain ⟨hPX, f1, hO, hf1⟩ := hLE
  have hPM := PM_keep hPM hG.am_AL hk1
  have hwf2 : WFX n now v := hwf
  have hnow2 : now ≤ 500 * (i + 1) := by omega
  refine lv_istore (lv' := [(5, .int (nI (cd1 (inB (nI 1) (nI 200) (xs ((4 * i) + 1)))))), (4, .int (nI (4 * i))), (3, .ref z), (2, .ref (am 0)), (1, .ref (ad 0)), (0, .ref b)]) hx hb dL_law_1783 hl (by decide) rfl (fun ls hl => ?_)
  refine lv_aload_n hx hb dL_law_1785 rfl (lv_at hl 3 rfl) ?_
  refine lv_aload_n hx hb dL_law_1786 rfl (lv_at hl 5 rfl) ?_
  refine lv_iload hx hb dL_law_1787 (lv_at hl 1 rfl) ?_
  refine lv_iconst (v := nI 1) hx hb dL_law_1789 (by decide) ?_
  refine n_iadd (v := nI ((4 * i) + 1)) hx hb dL_law_1790 (nI_add _ _) ?_
  refine n_sld (j := (4 * i) + 1) hx hb hX hbl (Nat.not_le.mpr hbl) hS (by omega) (by omega) dL_law_1791 ?_
  refine wV (A0 := AH s) (As := [.int (xs ((4 * i) + 1))]) (rest := []) ⟨hx, hb, hml, hown, hts⟩ (c_X2_bestCover l D cI cZ cL cJ am th n now told v hwf hG.1.2 (xs ((4 * i) + 1))) (cwV 1 hts gL_law_X2_bestCover rfl rfl rfl (by decide +kernel) ⟨(Nat.le_of_ble_eq_true rfl), (Nat.le_of_ble_eq_true rfl)⟩) hK ((hEN.kept hS.2.1).narrow hG.toAM) hPM (RC_of (q := (RX2, TX2, 9)) (ci := 2) hK rfl (vpa hPM 0 rfl)) rfl hl.1 rfl (Nat.le_of_ble_eq_true rfl) dL_law_1792 ⟨by show 36 + 4 * i + 1 + 0 ≤ 668203; omega, by show 300 + 24 * i + 6 + 0 ≤ 7091495; omega⟩ hS hG.toAM (fun H2 locs2 _ hPM hz2 hk2 hS => ?_)
  have hPM : PM D cI cZ am (nI (cd1 (inB (nI 1) (nI 200) (xs ((4 * i) + 1))))) n now told v H2 := hPM
  have hPX := PX_keep hPX hG.ad_AM hk2
  have hO := outK hO hG.z_AM hk2
  refine lv_istore (lv' := [(6, .int (mrI (cd1 (inB (nI 1) (nI 200) (xs ((4 * i) + 1)))) (oI1 (bcvN v n now (ixx (xs ((4 * i) + 1))) n)))), (5, .int (nI (cd1 (inB (nI 1) (nI 200) (xs ((4 * i) + 1)))))), (4, .int (nI (4 * i))), (3, .ref z), (2, .ref (am 0)), (1, .ref (ad 0)), (0, .ref b)]) hx hb dL_law_1795 hl (by decide) rfl (fun ls hl => ?_)
  refine lv_aload_n hx hb dL_law_1797 rfl (lv_at hl 4 rfl) ?_
  refine rV (r := nI (cd1 (inB (nI 1) (nI 200) (xs ((4 * i) + 1))))) (As := []) (rest := []) ⟨hx, hb, hml, hown, hts⟩ (c_X2_thrown l D cI cZ cL cJ am (nI (cd1 (inB (nI 1) (nI 200) (xs ((4 * i) + 1))))) n now told v hwf2) (cwV 0 hts gL_law_X2_thrown rfl rfl rfl (by decide +kernel) ⟨(Nat.le_of_ble_eq_true rfl), (Nat.le_of_ble_eq_true rfl)⟩) hK ((hEN.kept hS.2.1).narrow (fun _ h => h.elim)) hPM (RC_of (q := (RX2, TX2, 9)) (ci := 2) hK rfl (vpa hPM 0 rfl)) rfl hl.1 rfl (Nat.le_of_ble_eq_true rfl) dL_law_1798 ⟨by show 36 + 4 * i + 1 + 0 ≤ 668203; omega, by show 300 + 24 * i + 6 + 0 ≤ 7091495; omega⟩ ?_
  refine lv_iload hx hb dL_law_1801 (lv_at hl 1 rfl) ?_
  refine lv_icmp_eq (tgt := 1808) hx hb dL_law_1803 (by decide) (fun c_1803 => ?_) (fun c_1803 => ?_)
  · refine lv_iload hx hb dL_law_1808 (lv_at hl 1 rfl) ?_
    refine n_if_ne (a := cd1 (inB (nI 1) (nI 200) (xs ((4 * i) + 1)))) (tgt := 1825) hx hb (cd1_lt _) dL_law_1810 (by decide) (fun c_1810 => ?_) (fun c_1810 => ?_)
    · refine lv_goto (tgt := 1883) hx hb dL_law_1825 (by decide) ?_
      refine W.widen (k := 36 + 4 * (i + 1)) (n := 300 + 24 * (i + 1)) (by omega) (by omega) ?_
      exact kk n now told (nI (cd1 (inB (nI 1) (nI 200) (xs ((4 * i) + 1))))) v f1 H2 locs2 ls hwf2 hnow2 hPX hPM hO hS (lv_sub hl [2, 3, 4, 5, 6] rfl)
    · refine lv_aload_n hx hb dL_law_1813 rfl (lv_at hl 3 rfl) ?_
      refine lv_iconst (v := nI 0) hx hb dL_law_1814 (by decide) ?_
      refine va_lald hx hb hK hO 0 3 rfl rfl (show vp_in (nI 0) 1 from vp_in_nI (by decide) (by decide)) dL_law_1815 ?_
      refine n_tl (y := f1 0) (by rw [nI_clamp (by decide)]) ?_
      refine lv_iload hx hb dL_law_1816 (lv_at hl 0 rfl) ?_
      refine lv_i2l (v := (mrI (cd1 (inB (nI 1) (nI 200) (xs ((4 * i) + 1)))) (oI1 (bcvN v n now (ixx (xs ((4 * i) + 1))) n))).toInt64) hx hb dL_law_1818 rfl ?_
      refine W.lcmp hx hb dL_law_1819 ?_
      refine lv_if_eq (tgt := 1825) hx hb dL_law_1820 (by decide) (fun c_1820 => ?_) (fun c_1820 => ?_)
      · refine lv_goto (tgt := 1883) hx hb dL_law_1825 (by decide) ?_
        refine W.widen (k := 36 + 4 * (i + 1)) (n := 300 + 24 * (i + 1)) (by omega) (by omega) ?_
        exact kk n now told (nI (cd1 (inB (nI 1) (nI 200) (xs ((4 * i) + 1))))) v f1 H2 locs2 ls hwf2 hnow2 hPX hPM hO hS (lv_sub hl [2, 3, 4, 5, 6] rfl)
      · exact absurd (lgc ((hf1 c_1810).trans (by rw [mrI_t c_1810]))) c_1820
  · exact absurd rfl c_1803
set_option maxHeartbeats 4000000 in
set_option maxRecDepth 100000 in
theorem kL_30 {p : Program} {l : Launch} {e : Env} {s : State} {m : MethodId} {below : List Frame} {meth : Method} {c : Code} {Q : State → Prop} {b L : Nat} {xs : Nat → Int32} {D : va_G} {cI cZ cL cJ : ClassId} {ad am : Nat → Nat} {z : Nat} (hst : l.stackTraces = false) (hL : L ≤ 2048) (hx : p.tables.exec = Jvm.exec) (hb : c.code = cL_law) (hml : c.maxLocals = 9) (hown : s.vm.findClass RL = some m.cls) (hts : ∀ w ∈ wsL_law, w.before #[Value.ref b] s = true) (hX : va_X b L xs s s.heap) (hbl : b < s.heap.size) (hK : va_K D vwCl (TY cI cZ cL cJ) s) (hEN : EN (AH s) s s.heap) (hG : GG s ad am z) {i n now : Nat} {told th : Int32} {v : Nat → LV} {f : Nat → Int64} {H : Heap} {locs : List Loc} {ls : Array Slot} (hwf : WFX n now v) (hnow : now ≤ 500 * i) (hi : 4 * i + 4 ≤ L) (hPX : PX D cI cL ad n now told v H) (hPM : PM D cI cZ am th n now told v H) (hO : va_P D vwCl (outW cJ z f) H) (hS : va_S (AH s) s.heap H locs) (hl : lv_has ls 9 [(4, .int (nI (4 * i))), (3, .ref z), (2, .ref (am 0)), (1, .ref (ad 0)), (0, .ref b)]) (kk : ∀ (n now : Nat) (told th : Int32) (v : Nat → LV) (f : Nat → Int64) (H : Heap) (locs : List Loc) (ls : Array Slot), WFX n now v → now ≤ 500 * (i + 1) → PX D cI cL ad n now told v H → PM D cI cZ am th n now told v H → va_P D vwCl (outW cJ z f) H → va_S (AH s) s.heap H locs → lv_has ls 9 [(4, .int (nI (4 * i))), (3, .ref z), (2, .ref (am 0)), (1, .ref (ad 0)), (0, .ref b)] → W p l e room_1 s m #[Value.ref b] below meth c H locs (36 + 4 * (i + 1)) (300 + 24 * (i + 1)) Q (F0 m 1883 ls [])) : W p l e room_1 s m #[Value.ref b] below meth c H locs (36 + 4 * i) (300 + 24 * i) Q (F0 m 1828 ls []) := by
  refine lv_aload_n hx hb dL_law_1828 rfl (lv_at hl 3 rfl) ?_
  refine rVd (r := (meanF (btsN v n) n)) (As := []) (rest := []) ⟨hx, hb, hml, hown, hts⟩ (c_X1_meanBeats l D cI cZ cL cJ ad n now told v hwf) (cwV 0 hts gL_law_X1_meanBeats rfl rfl rfl (by decide +kernel) ⟨(Nat.le_of_ble_eq_true rfl), (Nat.le_of_ble_eq_true rfl)⟩) hK ((hEN.kept hS.2.1).narrow (fun _ h => h.elim)) hPX (RC_of (q := (RX1, TX1, 5)) (ci := 1) hK rfl (vpa hPX.1 0 rfl)) rfl hl.1 rfl (Nat.le_of_ble_eq_true rfl) dL_law_1829 ⟨by show 36 + 4 * i ≤ 668203; omega, by show 300 + 24 * i ≤ 7091495; omega⟩ ?_
  refine lv_dstore (lv' := [(5, .double (meanF (btsN v n) n)), (4, .int (nI (4 * i))), (3, .ref z), (2, .ref (am 0)), (1, .ref (ad 0)), (0, .ref b)]) hx hb dL_law_1832 hl (by decide) rfl (fun ls hl => ?_)
  refine lv_aload_n hx hb dL_law_1834 rfl (lv_at hl 3 rfl) ?_
  refine wVd (A0 := AH s) (As := []) (rest := []) ⟨hx, hb, hml, hown, hts⟩ (c_X2_meanBeats l D cI cZ cL cJ am th n now told v hwf hG.1.2 ) (cwV 0 hts gL_law_X2_meanBeats rfl rfl rfl (by decide +kernel) ⟨(Nat.le_of_ble_eq_true rfl), (Nat.le_of_ble_eq_true rfl)⟩) hK ((hEN.kept hS.2.1).narrow hG.toAM) hPM (RC_of (q := (RX2, TX2, 9)) (ci := 2) hK rfl (vpa hPM 0 rfl)) rfl hl.1 rfl (Nat.le_of_ble_eq_true rfl) dL_law_1835 ⟨by show 36 + 4 * i ≤ 668203; omega, by show 300 + 24 * i ≤ 7091495; omega⟩ hS hG.toAM (fun H2 locs2 _ hPM hz2 hk2 hS => ?_)
  have hPM : PM D cI cZ am (nI (0)) n now told v H2 := hPM
  have hwf2 := hwf
  have hnow2 : now ≤ 500 * (i + 1) := by omega
  have hPX := PX_keep hPX hG.ad_AM hk2
  have hO := outK hO hG.z_AM hk2
  refine lv_dstore (lv' := [(7, .double (meanF (btsN v n) n)), (5, .double (meanF (btsN v n) n)), (4, .int (nI (4 * i))), (3, .ref z), (2, .ref (am 0)), (1, .ref (ad 0)), (0, .ref b)]) hx hb dL_law_1838 hl (by decide) rfl (fun ls hl => ?_)
  refine lv_dload hx hb dL_law_1840 (lv_at hl 1 rfl) ?_
  refine lv_dload hx hb dL_law_1842 (lv_at hl 0 rfl) ?_
  refine lv_dcmp hx hb dL_law_1844 ?_
  refine lv_if_eq (tgt := 1866) hx hb dL_law_1845 (by decide) (fun c_1845 => ?_) (fun c_1845 => ?_)
  · refine lv_goto (tgt := 1883) hx hb dL_law_1866 (by decide) ?_
    refine W.widen (k := 36 + 4 * (i + 1)) (n := 300 + 24 * (i + 1)) (by omega) (by omega) ?_
    exact kk n now told (nI (0)) v f H2 locs2 ls hwf2 hnow2 hPX hPM hO hS (lv_sub hl [2, 3, 4, 5, 6] rfl)
  · refine lv_dload hx hb dL_law_1848 (lv_at hl 1 rfl) ?_
    refine lv_dload hx hb dL_law_1850 (lv_at hl 1 rfl) ?_
    refine lv_dcmp hx hb dL_law_1852 ?_
    refine lv_if_eq (tgt := 1864) hx hb dL_law_1853 (by decide) (fun c_1853 => ?_) (fun c_1853 => ?_)
    · exact absurd c_1853 c_1845
    · refine lv_dload hx hb dL_law_1856 (lv_at hl 0 rfl) ?_
      refine lv_dload hx hb dL_law_1858 (lv_at hl 0 rfl) ?_
      refine lv_dcmp hx hb dL_law_1860 ?_
      refine lv_if_ne (tgt := 1866) hx hb dL_law_1861 (by decide) (fun c_1861 => ?_) (fun c_1861 => ?_)
      · refine lv_goto (tgt := 1883) hx hb dL_law_1866 (by decide) ?_
        refine W.widen (k := 36 + 4 * (i + 1)) (n := 300 + 24 * (i + 1)) (by omega) (by omega) ?_
        exact kk n now told (nI (0)) v f H2 locs2 ls hwf2 hnow2 hPX hPM hO hS (lv_sub hl [2, 3, 4, 5, 6] rfl)
      · exact absurd c_1861 c_1845
set_option maxHeartbeats 4000000 in
set_option maxRecDepth 100000 in
theorem kL_31 {p : Program} {l : Launch} {e : Env} {s : State} {m : MethodId} {below : List Frame} {meth : Method} {c : Code} {Q : State → Prop} {b L : Nat} {xs : Nat → Int32} {D : va_G} {cI cZ cL cJ : ClassId} {ad am : Nat → Nat} {z : Nat} (hst : l.stackTraces = false) (hL : L ≤ 2048) (hx : p.tables.exec = Jvm.exec) (hb : c.code = cL_law) (hml : c.maxLocals = 9) (hown : s.vm.findClass RL = some m.cls) (hts : ∀ w ∈ wsL_law, w.before #[Value.ref b] s = true) (hX : va_X b L xs s s.heap) (hbl : b < s.heap.size) (hK : va_K D vwCl (TY cI cZ cL cJ) s) (hEN : EN (AH s) s s.heap) (hG : GG s ad am z) {i n now : Nat} {told th : Int32} {v : Nat → LV} {f : Nat → Int64} {H : Heap} {locs : List Loc} {ls : Array Slot} (hwf : WFX n now v) (hnow : now ≤ 500 * i) (hi : 4 * i + 4 ≤ L) (hPX : PX D cI cL ad n now told v H) (hPM : PM D cI cZ am th n now told v H) (hO : va_P D vwCl (outW cJ z f) H) (hS : va_S (AH s) s.heap H locs) (hl : lv_has ls 9 [(4, .int (nI (4 * i))), (3, .ref z), (2, .ref (am 0)), (1, .ref (ad 0)), (0, .ref b)]) (kk : ∀ (n now : Nat) (told th : Int32) (v : Nat → LV) (f : Nat → Int64) (H : Heap) (locs : List Loc) (ls : Array Slot), WFX n now v → now ≤ 500 * (i + 1) → PX D cI cL ad n now told v H → PM D cI cZ am th n now told v H → va_P D vwCl (outW cJ z f) H → va_S (AH s) s.heap H locs → lv_has ls 9 [(4, .int (nI (4 * i))), (3, .ref z), (2, .ref (am 0)), (1, .ref (ad 0)), (0, .ref b)] → W p l e room_1 s m #[Value.ref b] below meth c H locs (36 + 4 * (i + 1)) (300 + 24 * (i + 1)) Q (F0 m 1883 ls [])) : W p l e room_1 s m #[Value.ref b] below meth c H locs (36 + 4 * i) (300 + 24 * i) Q (F0 m 1869 ls []) := by
  refine lv_aload_n hx hb dL_law_1869 rfl (lv_at hl 3 rfl) ?_
  refine rVl (r := (dgst n now told v)) (As := []) (rest := []) ⟨hx, hb, hml, hown, hts⟩ (c_X1_digest l D cI cZ cL cJ ad n now told v hwf) (cwV 0 hts gL_law_X1_digest rfl rfl rfl (by decide +kernel) ⟨(Nat.le_of_ble_eq_true rfl), (Nat.le_of_ble_eq_true rfl)⟩) hK ((hEN.kept hS.2.1).narrow (fun _ h => h.elim)) hPX (RC_of (q := (RX1, TX1, 5)) (ci := 1) hK rfl (vpa hPX.1 0 rfl)) rfl hl.1 rfl (Nat.le_of_ble_eq_true rfl) dL_law_1870 ⟨by show 36 + 4 * i ≤ 668203; omega, by show 300 + 24 * i ≤ 7091495; omega⟩ ?_
  refine lv_aload_n hx hb dL_law_1873 rfl (lv_at hl 2 rfl) ?_
  refine wVl (A0 := AH s) (As := []) (rest := [.long (dgst n now told v)]) ⟨hx, hb, hml, hown, hts⟩ (c_X2_digest l D cI cZ cL cJ am th n now told v hwf hG.1.2 ) (cwV 0 hts gL_law_X2_digest rfl rfl rfl (by decide +kernel) ⟨(Nat.le_of_ble_eq_true rfl), (Nat.le_of_ble_eq_true rfl)⟩) hK ((hEN.kept hS.2.1).narrow hG.toAM) hPM (RC_of (q := (RX2, TX2, 9)) (ci := 2) hK rfl (vpa hPM 0 rfl)) rfl hl.1 rfl (Nat.le_of_ble_eq_true rfl) dL_law_1874 ⟨by show 36 + 4 * i ≤ 668203; omega, by show 300 + 24 * i ≤ 7091495; omega⟩ hS hG.toAM (fun H2 locs2 _ hPM hz2 hk2 hS => ?_)
  have hPM : PM D cI cZ am (nI (0)) n now told v H2 := hPM
  have hwf2 := hwf
  have hnow2 : now ≤ 500 * (i + 1) := by omega
  have hPX := PX_keep hPX hG.ad_AM hk2
  have hO := outK hO hG.z_AM hk2
  refine W.lcmp hx hb dL_law_1877 ?_
  refine lv_if_eq (tgt := 1883) hx hb dL_law_1878 (by decide) (fun c_1878 => ?_) (fun c_1878 => ?_)
  · refine W.widen (k := 36 + 4 * (i + 1)) (n := 300 + 24 * (i + 1)) (by omega) (by omega) ?_
    exact kk n now told (nI (0)) v f H2 locs2 ls hwf2 hnow2 hPX hPM hO hS (lv_sub hl [0, 1, 2, 3, 4] rfl)
  · exact absurd (lgc rfl) c_1878
