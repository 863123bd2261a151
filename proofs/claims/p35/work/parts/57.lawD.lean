theorem untD {v : Nat → LV} {n now q : Nat} (hq : q + 1 ≤ 60) (h1 : ¬ oI (fnd (fun q => dkB v n (-1) (now + q)) 0 2001) ≤ 0) (h2 : ¬ oI (fnd (fun q => dkB v n (-1) (now + q)) 0 2001) < nI (q + 1)) : dkB v n (-1) (now + (q + 1)) = decide (nI (q + 1) = oI (fnd (fun q => dkB v n (-1) (now + q)) 0 2001)) := by
  rcases hu : fnd (fun q => dkB v n (-1) (now + q)) 0 2001 with _ | u
  · rw [hu] at h1; exact absurd (show (-1 : Int32) ≤ 0 by decide) h1
  · rw [hu] at h2
    obtain ⟨f1, f2, f3, f4⟩ := fnd_spec hu
    have h3 : q + 1 ≤ u := Nat.le_of_not_lt fun z => h2 ((nI_ltI (by omega) (by omega)).mpr z)
    rcases Nat.eq_or_lt_of_le h3 with e | e
    · rw [show oI (some u) = nI u from rfl, ← e, decide_eq_true rfl]
      rw [← e] at f3
      exact f3
    · rw [show oI (some u) = nI u from rfl, decide_eq_false (fun z => by have := nI_inj (by omega) (by omega) z; omega)]
      exact f4 (q + 1) (by omega) e
section Law
variable {p : Program} {l : Launch} {e : Env} {s : State} {m : MethodId} {below : List Frame} {meth : Method} {c : Code} {Q : State → Prop} {b L : Nat} {xs : Nat → Int32} {D : va_G} {cI cZ cL cJ cB : ClassId} {a : Nat} {ad as : Nat → Nat} {n now tm : Nat} {told vv : Int32} {dg : Int64} {v : Nat → LV} {H : Heap} {locs : List Loc} {cells slots : Nat} {ls : Array Slot}
set_option maxHeartbeats 16000000 in
set_option maxRecDepth 100000 in
/-- moments go by, one by one -/
theorem kA_1041 (hC : LC p l s m c b L xs D cI cZ cL cJ cB)  (hwf : WFX n now v) (hn1 : 1 ≤ n) (hnow6 : now ≤ 6000) (hcc : cells ≤ 600130) (hss : slots ≤ 7301080) (hPX : PX D cI cL ad n now told v H) (hE0 : EN noA s H) (hG : GW s.heap.size ad as v) (hSP : SP D cI cZ cJ cB as n now told v H) (hS : va_S (fun q => s.heap.size ≤ q) s.heap H locs) {w : Nat} (hw1 : 1 ≤ w) (hw60 : w ≤ 60) (hl : lv_has ls 19 [(11, .int (nI (dkN v n now (-1) w))), (10, .int (nI w)), (8, .int (nI now)), (7, .int (nI n)), (5, .long dg), (4, .int vv), (3, .int (nI tm)), (2, .ref (as 0)), (1, .ref (ad 0)), (0, .ref b)]) (join_1184 : ∀ (told : Int32) (H : Heap) (locs : List Loc) (_ : PX D cI cL ad n (now + w) told v H) (_ : SP D cI cZ cJ cB as n (now + w) told v H) (_ : va_S (fun q => s.heap.size ≤ q) s.heap H locs), ∀ (ls : Array Slot), lv_has ls 19 [(3, .int (nI tm)), (2, .ref (as 0)), (1, .ref (ad 0)), (0, .ref b)] → W p l e room_1 s m #[Value.ref b] below meth c H locs cells slots Q (F0 m 1184 ls [])) : W p l e room_1 s m #[Value.ref b] below meth c H locs cells slots Q (F0 m 1041 ls []) := by
  obtain ⟨hx, hb, hml, hown, hts, hK, hE, hEA, hEL, hX, hbl, hst⟩ := hC
  have hn8 := hwf.1
  have hwl := hwf.2.2
  refine lv_aload_n hx hb dL_law_1041 rfl (lv_at hl 8 rfl) ?_
  refine rV (r := (oI (fnd (fun q => dkB v n (-1) (now + q)) 0 2001))) (As := []) (rest := []) ⟨hx, hb, hml, hown, hts⟩ (c_X1_momentsUntilDark l D cI cZ cL cJ ad n now told v hwf) (cwV 0 hts gL_law_X1_momentsUntilDark rfl rfl rfl (by decide +kernel) ⟨(Nat.le_of_ble_eq_true rfl), (Nat.le_of_ble_eq_true rfl)⟩) hK hE0 hPX (RC_of (q := (RX1, TX1, 5)) (ci := 1) hK rfl (vpa hPX.1 0 rfl)) rfl hl.1 rfl (Nat.le_of_ble_eq_true rfl) dL_law_1042 ⟨hcc, hss⟩ ?_
  refine lv_istore (lv' := [(14, .int (oI (fnd (fun q => dkB v n (-1) (now + q)) 0 2001))), (11, .int (nI (dkN v n now (-1) w))), (10, .int (nI w)), (8, .int (nI now)), (7, .int (nI n)), (5, .long dg), (4, .int vv), (3, .int (nI tm)), (2, .ref (as 0)), (1, .ref (ad 0)), (0, .ref b)]) hx hb dL_law_1045 hl (by decide) rfl (fun ls hl => ?_)
  refine lv_iconst (v := nI 0) hx hb dL_law_1047 (by decide) ?_
  refine n_ti (y := nI (dkN v n now (-1) 0)) rfl ?_
  refine lv_istore (lv' := [(15, .int (nI (dkN v n now (-1) 0))), (14, .int (oI (fnd (fun q => dkB v n (-1) (now + q)) 0 2001))), (11, .int (nI (dkN v n now (-1) w))), (10, .int (nI w)), (8, .int (nI now)), (7, .int (nI n)), (5, .long dg), (4, .int vv), (3, .int (nI tm)), (2, .ref (as 0)), (1, .ref (ad 0)), (0, .ref b)]) hx hb dL_law_1048 hl (by decide) rfl (fun ls hl => ?_)
  refine lv_iconst (v := nI 1) hx hb dL_law_1050 (by decide) ?_
  refine n_ti (y := nI (0 + 1)) rfl ?_
  refine lv_istore (lv' := [(16, .int (nI (0 + 1))), (15, .int (nI (dkN v n now (-1) 0))), (14, .int (oI (fnd (fun q => dkB v n (-1) (now + q)) 0 2001))), (11, .int (nI (dkN v n now (-1) w))), (10, .int (nI w)), (8, .int (nI now)), (7, .int (nI n)), (5, .long dg), (4, .int vv), (3, .int (nI tm)), (2, .ref (as 0)), (1, .ref (ad 0)), (0, .ref b)]) hx hb dL_law_1051 hl (by decide) rfl (fun ls hl => ?_)
  have loop_1053 : ∀ (fu : Nat) (q : Nat) (told : Int32), w + 1 - q ≤ fu → q ≤ w → ∀ (H : Heap) (locs : List Loc), PX D cI cL ad n (now + q) told v H → SP D cI cZ cJ cB as n (now + q) told v H → va_S (fun q => s.heap.size ≤ q) s.heap H locs → ∀ (ls : Array Slot), lv_has ls 19 [(16, .int (nI (q + 1))), (15, .int (nI (dkN v n now (-1) q))), (14, .int (oI (fnd (fun q => dkB v n (-1) (now + q)) 0 2001))), (11, .int (nI (dkN v n now (-1) w))), (10, .int (nI w)), (8, .int (nI now)), (7, .int (nI n)), (5, .long dg), (4, .int vv), (3, .int (nI tm)), (2, .ref (as 0)), (1, .ref (ad 0)), (0, .ref b)] → W p l e room_1 s m #[Value.ref b] below meth c H locs cells slots Q (F0 m 1053 ls []) := by
    intro fu
    induction fu with
    | zero => intro q told hn_1053 hq; exact absurd hn_1053 (by omega)
    | succ fu ih_1053 =>
      intro q told hn_1053 hq H locs hPX hSP hS ls hl
      have hE0 : EN noA s H := (hE.kept hS.2.1).narrow (fun _ h => h.elim)
      have hwfq : WFX n (now + q) v := ⟨hn8, by omega, hwl⟩
      refine lv_iload hx hb dL_law_1053 (lv_at hl 0 rfl) ?_
      refine lv_iload hx hb dL_law_1055 (lv_at hl 4 rfl) ?_
      refine n_icmp_gt (a := q + 1) (b := w) (tgt := 1175) hx hb (by omega) (by omega) dL_law_1057 (by decide) (fun c_1057 => ?_) (fun c_1057 => ?_)
      · have e_q : q = w := by omega
        subst e_q
        refine lv_iload hx hb dL_law_1175 (lv_at hl 1 rfl) ?_
        refine lv_iload hx hb dL_law_1177 (lv_at hl 3 rfl) ?_
        refine n_icmp_eq (a := dkN v n now (-1) q) (b := dkN v n now (-1) q) (tgt := 1184) hx hb (Nat.lt_of_le_of_lt (cnt_le _ _) (by omega)) (Nat.lt_of_le_of_lt (cnt_le _ _) (by omega)) dL_law_1179 (by decide) (fun c_1179 => ?_) (fun c_1179 => ?_)
        · exact join_1184 told H locs hPX hSP hS ls (lv_sub hl [9, 10, 11, 12] rfl)
        · exact absurd rfl c_1179
      · refine lv_iconst (v := nI 0) hx hb dL_law_1060 (by decide) ?_
        refine n_ti (y := nI (cnt (fun j => chgB (v j) (now + (q + 1))) 0)) rfl ?_
        refine lv_istore (lv' := [(17, .int (nI (cnt (fun j => chgB (v j) (now + (q + 1))) 0))), (16, .int (nI (q + 1))), (15, .int (nI (dkN v n now (-1) q))), (14, .int (oI (fnd (fun q => dkB v n (-1) (now + q)) 0 2001))), (11, .int (nI (dkN v n now (-1) w))), (10, .int (nI w)), (8, .int (nI now)), (7, .int (nI n)), (5, .long dg), (4, .int vv), (3, .int (nI tm)), (2, .ref (as 0)), (1, .ref (ad 0)), (0, .ref b)]) hx hb dL_law_1061 hl (by decide) rfl (fun ls hl => ?_)
        refine lv_iconst (v := nI 0) hx hb dL_law_1063 (by decide) ?_
        refine lv_istore (lv' := [(18, .int (nI 0)), (17, .int (nI (cnt (fun j => chgB (v j) (now + (q + 1))) 0))), (16, .int (nI (q + 1))), (15, .int (nI (dkN v n now (-1) q))), (14, .int (oI (fnd (fun q => dkB v n (-1) (now + q)) 0 2001))), (11, .int (nI (dkN v n now (-1) w))), (10, .int (nI w)), (8, .int (nI now)), (7, .int (nI n)), (5, .long dg), (4, .int vv), (3, .int (nI tm)), (2, .ref (as 0)), (1, .ref (ad 0)), (0, .ref b)]) hx hb dL_law_1064 hl (by decide) rfl (fun ls hl => ?_)
        have loop_1066 : ∀ (fu : Nat) (k : Nat), n + 1 - k ≤ fu → k ≤ n → ∀ (ls : Array Slot), lv_has ls 19 [(18, .int (nI k)), (17, .int (nI (cnt (fun j => chgB (v j) (now + (q + 1))) k))), (16, .int (nI (q + 1))), (15, .int (nI (dkN v n now (-1) q))), (14, .int (oI (fnd (fun q => dkB v n (-1) (now + q)) 0 2001))), (11, .int (nI (dkN v n now (-1) w))), (10, .int (nI w)), (8, .int (nI now)), (7, .int (nI n)), (5, .long dg), (4, .int vv), (3, .int (nI tm)), (2, .ref (as 0)), (1, .ref (ad 0)), (0, .ref b)] → W p l e room_1 s m #[Value.ref b] below meth c H locs cells slots Q (F0 m 1066 ls []) := by
          intro fu
          induction fu with
          | zero => intro k hn_1066 hk; exact absurd hn_1066 (by omega)
          | succ fu ih_1066 =>
            intro k hn_1066 hk ls hl
            refine lv_iload hx hb dL_law_1066 (lv_at hl 0 rfl) ?_
            refine lv_iload hx hb dL_law_1068 (lv_at hl 8 rfl) ?_
            refine n_icmp_ge (a := k) (b := n) (tgt := 1097) hx hb (by omega) (by omega) dL_law_1070 (by decide) (fun c_1070 => ?_) (fun c_1070 => ?_)
            · have e_k : k = n := by omega
              rw [e_k] at hl
              refine lv_aload_n hx hb dL_law_1097 rfl (lv_at hl 13 rfl) ?_
              refine lv_iconst (v := nI 1) hx hb dL_law_1098 (by decide) ?_
              refine wV (As := [.int (nI 1)]) (rest := []) ⟨hx, hb, hml, hown, hts⟩ (e_X1_pass l D cI cZ cL cJ ad n (now + q) told v hwfq hG.1.1 1 (by decide) (by decide)) (cwV 1 hts gL_law_X1_pass rfl rfl rfl (by decide +kernel) ⟨(Nat.le_of_ble_eq_true rfl), (Nat.le_of_ble_eq_true rfl)⟩) hK ((hE.kept hS.2.1).narrow (AX_lo hG)) hPX (RC_of (q := (RX1, TX1, 5)) (ci := 1) hK rfl (vpa hPX.1 0 rfl)) rfl hl.1 rfl (Nat.le_of_ble_eq_true rfl) dL_law_1099 ⟨hcc, hss⟩ hS (AX_lo hG) (fun H locs _ hPX hz1 hk1 hS => ?_)
              have hE0 : EN noA s H := (hE.kept hS.2.1).narrow (fun _ h => h.elim)
              have hSP := SP_x hG hSP hk1
              obtain ⟨tl, htl⟩ : ∃ z, told + nI (psN v n (now + q) 1) = z := ⟨_, rfl⟩
              rw [htl] at hPX
              have hPX : PX D cI cL ad n (now + (q + 1)) tl v H := hPX
              have hwf2 : WFX n (now + (q + 1)) v := ⟨hn8, by omega, hwl⟩
              have eCH : nI (psN v n (now + q) 1) = nI (cnt (fun j => chgB (v j) (now + (q + 1))) n) := congrArg nI (ps_1 v n (now + q))
              refine n_ti eCH ?_
              refine lv_iload hx hb dL_law_1102 (lv_at hl 1 rfl) ?_
              refine n_icmp_ne (a := cnt (fun j => chgB (v j) (now + (q + 1))) n) (b := cnt (fun j => chgB (v j) (now + (q + 1))) n) (tgt := 1117) hx hb (Nat.lt_of_le_of_lt (cnt_le _ _) (by omega)) (Nat.lt_of_le_of_lt (cnt_le _ _) (by omega)) dL_law_1104 (by decide) (fun c_1104 => ?_) (fun c_1104 => ?_)
              · exact absurd rfl c_1104
              · refine lv_aload_n hx hb dL_law_1107 rfl (lv_at hl 12 rfl) ?_
                refine lv_iconst (v := nI 1) hx hb dL_law_1108 (by decide) ?_
                have h_00 : ∀ q, q ∈ [as 0] → s.heap.size ≤ q := fun q h => by rw [List.mem_singleton.mp h]; exact hG.2.1.2 0 (Us.lo (by decide))
                refine wVs (As := [.int (nI 1)]) (rest := []) ⟨hx, hb, hml, hown, hts⟩ (c_X2_pass l D cI cZ cL cJ cB as n (now + q) told v hwfq hG.1.2 1 (by decide) (by omega)) (cwV 1 hts gL_law_X2_pass rfl rfl rfl (by decide +kernel) ⟨(Nat.le_of_ble_eq_true rfl), (Nat.le_of_ble_eq_true rfl)⟩) hK hEA ((hE.kept hS.2.1).narrow h_00) hSP (RC_of (q := (RX2, TX2, 6)) (ci := 2) hK rfl (vpa hSP.1 0 rfl)) rfl hl.1 rfl (Nat.le_of_ble_eq_true rfl) dL_law_1109 ⟨hcc, hss⟩ hS h_00 (fun H locs _ hSP hz1 hk1 hS => ?_)
                have hE0 : EN noA s H := (hE.kept hS.2.1).narrow (fun _ h => h.elim)
                have hPX := PX_s hPX (fun q h i hi e => hG.2.2 i 0 hi (Us.lo (by decide)) (e.symm.trans (List.mem_singleton.mp h))) hk1
                rw [htl] at hSP
                have hSP : SP D cI cZ cJ cB as n (now + (q + 1)) tl v H := hSP
                refine n_ti eCH ?_
                refine lv_iload hx hb dL_law_1112 (lv_at hl 1 rfl) ?_
                refine n_icmp_eq (a := cnt (fun j => chgB (v j) (now + (q + 1))) n) (b := cnt (fun j => chgB (v j) (now + (q + 1))) n) (tgt := 1119) hx hb (Nat.lt_of_le_of_lt (cnt_le _ _) (by omega)) (Nat.lt_of_le_of_lt (cnt_le _ _) (by omega)) dL_law_1114 (by decide) (fun c_1114 => ?_) (fun c_1114 => ?_)
                · refine lv_iload hx hb dL_law_1119 (lv_at hl 3 rfl) ?_
                  refine lv_aload_n hx hb dL_law_1121 rfl (lv_at hl 13 rfl) ?_
                  refine rV (r := bI (dkB v n (-1) (now + (q + 1)))) (As := []) (rest := [.int (nI (dkN v n now (-1) q))]) ⟨hx, hb, hml, hown, hts⟩ (c_X1_isDark l D cI cZ cL cJ ad n (now + (q + 1)) tl v hwf2 ) (cwV 0 hts gL_law_X1_isDark rfl rfl rfl (by decide +kernel) ⟨(Nat.le_of_ble_eq_true rfl), (Nat.le_of_ble_eq_true rfl)⟩) hK hE0 hPX (RC_of (q := (RX1, TX1, 5)) (ci := 1) hK rfl (vpa hPX.1 0 rfl)) rfl hl.1 rfl (Nat.le_of_ble_eq_true rfl) dL_law_1122 ⟨hcc, hss⟩ ?_
                  have join_1133 : ∀ (ls : Array Slot), lv_has ls 19 [(17, .int (nI (cnt (fun j => chgB (v j) (now + (q + 1))) n))), (16, .int (nI (q + 1))), (15, .int (nI (dkN v n now (-1) q))), (14, .int (oI (fnd (fun q => dkB v n (-1) (now + q)) 0 2001))), (11, .int (nI (dkN v n now (-1) w))), (10, .int (nI w)), (8, .int (nI now)), (7, .int (nI n)), (5, .long dg), (4, .int vv), (3, .int (nI tm)), (2, .ref (as 0)), (1, .ref (ad 0)), (0, .ref b)] → W p l e room_1 s m #[Value.ref b] below meth c H locs cells slots Q (F0 m 1133 ls [.int (nI (if dkB v n (-1) (now + (q + 1)) = true then 1 else 0)), .int (nI (dkN v n now (-1) q))]) := by
                    intro   ls hl
                    refine n_iadd (v := nI (dkN v n now (-1) (q + 1))) hx hb dL_law_1133 (nI_add _ _) ?_
                    refine lv_istore (lv' := [(15, .int (nI (dkN v n now (-1) (q + 1)))), (17, .int (nI (cnt (fun j => chgB (v j) (now + (q + 1))) n))), (16, .int (nI (q + 1))), (14, .int (oI (fnd (fun q => dkB v n (-1) (now + q)) 0 2001))), (11, .int (nI (dkN v n now (-1) w))), (10, .int (nI w)), (8, .int (nI now)), (7, .int (nI n)), (5, .long dg), (4, .int vv), (3, .int (nI tm)), (2, .ref (as 0)), (1, .ref (ad 0)), (0, .ref b)]) hx hb dL_law_1134 hl (by decide) rfl (fun ls hl => ?_)
                    refine lv_iload hx hb dL_law_1136 (lv_at hl 3 rfl) ?_
                    refine lv_if_le (tgt := 1169) hx hb dL_law_1138 (by decide) (fun c_1138 => ?_) (fun c_1138 => ?_)
                    · refine lv_iinc (v := nI ((q + 1) + 1)) (lv' := [(16, .int (nI ((q + 1) + 1))), (15, .int (nI (dkN v n now (-1) (q + 1)))), (17, .int (nI (cnt (fun j => chgB (v j) (now + (q + 1))) n))), (14, .int (oI (fnd (fun q => dkB v n (-1) (now + q)) 0 2001))), (11, .int (nI (dkN v n now (-1) w))), (10, .int (nI w)), (8, .int (nI now)), (7, .int (nI n)), (5, .long dg), (4, .int vv), (3, .int (nI tm)), (2, .ref (as 0)), (1, .ref (ad 0)), (0, .ref b)]) hx hb dL_law_1169 hl (k := 2) rfl (nI_inc _) (by decide) rfl (fun ls hl => ?_)
                      refine lv_goto (tgt := 1053) hx hb dL_law_1172 (by decide) ?_
                      exact ih_1053 (q + 1) tl (by omega) (by omega) H locs hPX hSP hS ls (lv_sub hl [0, 1, 3, 4, 5, 6, 7, 8, 9, 10, 11, 12, 13] rfl)
                    · refine lv_iload hx hb dL_law_1141 (lv_at hl 2 rfl) ?_
                      refine lv_iload hx hb dL_law_1143 (lv_at hl 3 rfl) ?_
                      refine lv_icmp_gt (tgt := 1169) hx hb dL_law_1145 (by decide) (fun c_1145 => ?_) (fun c_1145 => ?_)
                      · refine lv_iinc (v := nI ((q + 1) + 1)) (lv' := [(16, .int (nI ((q + 1) + 1))), (15, .int (nI (dkN v n now (-1) (q + 1)))), (17, .int (nI (cnt (fun j => chgB (v j) (now + (q + 1))) n))), (14, .int (oI (fnd (fun q => dkB v n (-1) (now + q)) 0 2001))), (11, .int (nI (dkN v n now (-1) w))), (10, .int (nI w)), (8, .int (nI now)), (7, .int (nI n)), (5, .long dg), (4, .int vv), (3, .int (nI tm)), (2, .ref (as 0)), (1, .ref (ad 0)), (0, .ref b)]) hx hb dL_law_1169 hl (k := 2) rfl (nI_inc _) (by decide) rfl (fun ls hl => ?_)
                        refine lv_goto (tgt := 1053) hx hb dL_law_1172 (by decide) ?_
                        exact ih_1053 (q + 1) tl (by omega) (by omega) H locs hPX hSP hS ls (lv_sub hl [0, 1, 3, 4, 5, 6, 7, 8, 9, 10, 11, 12, 13] rfl)
                      · refine lv_aload_n hx hb dL_law_1148 rfl (lv_at hl 12 rfl) ?_
                        refine rV (r := bI (dkB v n (-1) (now + (q + 1)))) (As := []) (rest := []) ⟨hx, hb, hml, hown, hts⟩ (c_X1_isDark l D cI cZ cL cJ ad n (now + (q + 1)) tl v hwf2 ) (cwV 0 hts gL_law_X1_isDark rfl rfl rfl (by decide +kernel) ⟨(Nat.le_of_ble_eq_true rfl), (Nat.le_of_ble_eq_true rfl)⟩) hK hE0 hPX (RC_of (q := (RX1, TX1, 5)) (ci := 1) hK rfl (vpa hPX.1 0 rfl)) rfl hl.1 rfl (Nat.le_of_ble_eq_true rfl) dL_law_1149 ⟨hcc, hss⟩ ?_
                        refine lv_iload hx hb dL_law_1152 (lv_at hl 2 rfl) ?_
                        refine lv_iload hx hb dL_law_1154 (lv_at hl 3 rfl) ?_
                        have join_1164 : ∀ (ls : Array Slot), lv_has ls 19 [(16, .int (nI (q + 1))), (15, .int (nI (dkN v n now (-1) (q + 1)))), (14, .int (oI (fnd (fun q => dkB v n (-1) (now + q)) 0 2001))), (11, .int (nI (dkN v n now (-1) w))), (10, .int (nI w)), (8, .int (nI now)), (7, .int (nI n)), (5, .long dg), (4, .int vv), (3, .int (nI tm)), (2, .ref (as 0)), (1, .ref (ad 0)), (0, .ref b)] → W p l e room_1 s m #[Value.ref b] below meth c H locs cells slots Q (F0 m 1164 ls [.int (bI (decide (nI (q + 1) = (oI (fnd (fun q => dkB v n (-1) (now + q)) 0 2001))))), .int (bI (dkB v n (-1) (now + (q + 1))))]) := by
                          intro   ls hl
                          refine lv_icmp_eq (tgt := 1169) hx hb dL_law_1164 (by decide) (fun c_1164 => ?_) (fun c_1164 => ?_)
                          · refine lv_iinc (v := nI ((q + 1) + 1)) (lv' := [(16, .int (nI ((q + 1) + 1))), (15, .int (nI (dkN v n now (-1) (q + 1)))), (14, .int (oI (fnd (fun q => dkB v n (-1) (now + q)) 0 2001))), (11, .int (nI (dkN v n now (-1) w))), (10, .int (nI w)), (8, .int (nI now)), (7, .int (nI n)), (5, .long dg), (4, .int vv), (3, .int (nI tm)), (2, .ref (as 0)), (1, .ref (ad 0)), (0, .ref b)]) hx hb dL_law_1169 hl (k := 0) rfl (nI_inc _) (by decide) rfl (fun ls hl => ?_)
                            refine lv_goto (tgt := 1053) hx hb dL_law_1172 (by decide) ?_
                            exact ih_1053 (q + 1) tl (by omega) (by omega) H locs hPX hSP hS ls (lv_sub hl [0, 1, 2, 3, 4, 5, 6, 7, 8, 9, 10, 11, 12] rfl)
                          · exact absurd (by rw [untD (by omega) c_1138 c_1145]) c_1164
                        refine lv_icmp_ne (tgt := 1163) hx hb dL_law_1156 (by decide) (fun c_1156 => ?_) (fun c_1156 => ?_)
                        · refine lv_iconst (v := nI 0) hx hb dL_law_1163 (by decide) ?_
                          refine n_ti (y := bI (decide (nI (q + 1) = (oI (fnd (fun q => dkB v n (-1) (now + q)) 0 2001))))) (by rw [decide_eq_false c_1156]; rfl) ?_
                          exact join_1164 ls (lv_sub hl [2, 0, 3, 4, 5, 6, 7, 8, 9, 10, 11, 12, 13] rfl)
                        · refine lv_iconst (v := nI 1) hx hb dL_law_1159 (by decide) ?_
                          refine lv_goto (tgt := 1164) hx hb dL_law_1160 (by decide) ?_
                          refine n_ti (y := bI (decide (nI (q + 1) = (oI (fnd (fun q => dkB v n (-1) (now + q)) 0 2001))))) (by rw [decide_eq_true c_1156]; rfl) ?_
                          exact join_1164 ls (lv_sub hl [2, 0, 3, 4, 5, 6, 7, 8, 9, 10, 11, 12, 13] rfl)
                  refine b_if_eq (b := dkB v n (-1) (now + (q + 1))) (tgt := 1132) hx hb dL_law_1125 (by decide) (fun c_1125 => ?_) (fun c_1125 => ?_)
                  · refine lv_iconst (v := nI 0) hx hb dL_law_1132 (by decide) ?_
                    refine n_ti (y := nI (if dkB v n (-1) (now + (q + 1)) = true then 1 else 0)) (by rw [c_1125]; rfl) ?_
                    exact join_1133 ls (lv_sub hl [1, 2, 3, 4, 5, 6, 7, 8, 9, 10, 11, 12, 13, 14] rfl)
                  · refine lv_iconst (v := nI 1) hx hb dL_law_1128 (by decide) ?_
                    refine lv_goto (tgt := 1133) hx hb dL_law_1129 (by decide) ?_
                    refine n_ti (y := nI (if dkB v n (-1) (now + (q + 1)) = true then 1 else 0)) (by rw [c_1125]; rfl) ?_
                    exact join_1133 ls (lv_sub hl [1, 2, 3, 4, 5, 6, 7, 8, 9, 10, 11, 12, 13, 14] rfl)
                · exact absurd rfl c_1114
            · have hst := strk_le (v k) (now + (q + 1)) (lbc (v k))
              have hb4 := (hwl k (by omega)).1
              refine lv_iload hx hb dL_law_1073 (lv_at hl 1 rfl) ?_
              refine lv_aload_n hx hb dL_law_1075 rfl (lv_at hl 13 rfl) ?_
              refine lv_iload hx hb dL_law_1076 (lv_at hl 0 rfl) ?_
              refine lv_iload hx hb dL_law_1078 (lv_at hl 7 rfl) ?_
              refine lv_iload hx hb dL_law_1080 (lv_at hl 2 rfl) ?_
              refine n_iadd (v := nI (now + (q + 1))) hx hb dL_law_1082 (nI_add _ _) ?_
              refine rV (r := nI (strk (v k) (now + (q + 1)) (lbc (v k)))) (As := [.int (nI k), .int (nI (now + (q + 1)))]) (rest := [.int (nI (cnt (fun j => chgB (v j) (now + (q + 1))) k))]) ⟨hx, hb, hml, hown, hts⟩ (e_X1_strikesAt l D cI cZ cL cJ ad n (now + q) told v hwfq k (by omega) (now + (q + 1)) (by omega)) (cwV 2 hts gL_law_X1_strikesAt rfl rfl rfl (by decide +kernel) ⟨(Nat.le_of_ble_eq_true rfl), (Nat.le_of_ble_eq_true rfl)⟩) hK hE0 hPX (RC_of (q := (RX1, TX1, 5)) (ci := 1) hK rfl (vpa hPX.1 0 rfl)) rfl hl.1 rfl (Nat.le_of_ble_eq_true rfl) dL_law_1083 ⟨hcc, hss⟩ ?_
              refine lv_iconst (v := nI 2) hx hb dL_law_1086 (by decide) ?_
              refine n_irem (a := strk (v k) (now + (q + 1)) (lbc (v k))) (d := 2) hx hb dL_law_1087 (by omega) (by omega) (by omega) ?_
              refine n_iadd (v := nI (cnt (fun j => chgB (v j) (now + (q + 1))) (k + 1))) hx hb dL_law_1088 (by rw [chg_sum]; exact nI_add _ _) ?_
              refine lv_istore (lv' := [(17, .int (nI (cnt (fun j => chgB (v j) (now + (q + 1))) (k + 1)))), (18, .int (nI k)), (16, .int (nI (q + 1))), (15, .int (nI (dkN v n now (-1) q))), (14, .int (oI (fnd (fun q => dkB v n (-1) (now + q)) 0 2001))), (11, .int (nI (dkN v n now (-1) w))), (10, .int (nI w)), (8, .int (nI now)), (7, .int (nI n)), (5, .long dg), (4, .int vv), (3, .int (nI tm)), (2, .ref (as 0)), (1, .ref (ad 0)), (0, .ref b)]) hx hb dL_law_1089 hl (by decide) rfl (fun ls hl => ?_)
              refine lv_iinc (v := nI (k + 1)) (lv' := [(18, .int (nI (k + 1))), (17, .int (nI (cnt (fun j => chgB (v j) (now + (q + 1))) (k + 1)))), (16, .int (nI (q + 1))), (15, .int (nI (dkN v n now (-1) q))), (14, .int (oI (fnd (fun q => dkB v n (-1) (now + q)) 0 2001))), (11, .int (nI (dkN v n now (-1) w))), (10, .int (nI w)), (8, .int (nI now)), (7, .int (nI n)), (5, .long dg), (4, .int vv), (3, .int (nI tm)), (2, .ref (as 0)), (1, .ref (ad 0)), (0, .ref b)]) hx hb dL_law_1091 hl (k := 1) rfl (nI_inc _) (by decide) rfl (fun ls hl => ?_)
              refine lv_goto (tgt := 1066) hx hb dL_law_1094 (by decide) ?_
              exact ih_1066 (k + 1) (by omega) (by omega) ls (lv_sub hl [0, 1, 2, 3, 4, 5, 6, 7, 8, 9, 10, 11, 12, 13, 14] rfl)
        exact loop_1066 (n + 1) 0 (by omega) (Nat.zero_le _) ls (lv_sub hl [0, 1, 2, 3, 4, 5, 6, 7, 8, 9, 10, 11, 12, 13, 14] rfl)
  exact loop_1053 (w + 1) 0 told (by omega) (Nat.zero_le _) H locs hPX hSP hS ls (lv_sub hl [0, 1, 2, 3, 4, 5, 6, 7, 8, 9, 10, 11, 12] rfl)
end Law
