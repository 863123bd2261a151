theorem lgc {a b : Int64} (h : a = b) : lg_cmp a b = 0 := by
  subst h
  unfold lg_cmp
  rw [if_neg (by simp), if_pos rfl]
theorem cvr_at {v : Nat → LV} {j : Nat} : lcv (cvr v j true j) = true := by
  rw [show cvr v j true j = setCv (v j) true from if_pos rfl]
  rfl
theorem cvr_back {v : Nat → LV} {j : Nat} (h : lcv (v j) = false) : updv (cvr v j true) j (setCv (cvr v j true j) (!(lcv (cvr v j true j)))) = v := by
  funext k
  by_cases e : k = j
  · subst e
    rw [cvr_at, show updv (cvr v k true) k (setCv (cvr v k true k) (!true)) k = setCv (cvr v k true k) (!true) from if_pos rfl, show cvr v k true k = setCv (v k) true from if_pos rfl]
    show (lbc (v k), lnu (v k), lof (v k), lon (v k), false) = v k
    rw [← h]
  · rw [show updv (cvr v j true) j (setCv (cvr v j true j) (!(lcv (cvr v j true j)))) k = cvr v j true k from if_neg e, show cvr v j true k = v k from if_neg e]
theorem anyO_t {v : Nat → LV} : ∀ k c, c < k → lcv (v c) = false → anyO v k = true
  | 0, c, h, _ => absurd h (Nat.not_lt_zero c)
  | k + 1, c, h, hc => by
    simp only [anyO]
    by_cases e : c = k
    · subst e; rw [hc]; cases anyO v c <;> rfl
    · rw [anyO_t k c (by omega) hc]; rfl
theorem bc_of {v : Nat → LV} {n now m j : Nat} (hj : j < n) (hc : lcv (v j) = false) : ∃ b, bcvN v n now m n = some (b, dkN v n now (nI b) m) ∧ b < n ∧ ∀ c, c < n → lcv (v c) = false → dkN v n now (nI c) m ≤ dkN v n now (nI b) m ∧ (c < b → dkN v n now (nI c) m < dkN v n now (nI b) m) := by
  rcases bcv_spec (v := v) (n := n) (now := now) (m := m) n with ⟨h1, h2⟩ | ⟨b, h1, h2, h3, h4⟩
  · rw [anyO_t n j hj hc] at h2; cases h2
  · exact ⟨b, h1, h3, h4⟩
theorem bc_ge {v : Nat → LV} {n now m : Nat} (hn : n ≤ 8) : anyO v n = decide (¬ oI1 (bcvN v n now m n) < 0) := by
  rcases bcv_spec (v := v) (n := n) (now := now) (m := m) n with ⟨h1, h2⟩ | ⟨b, h1, h2, h3, h4⟩
  · rw [h1, h2]; exact (decide_eq_false (fun z => z (show (-1 : Int32) < 0 by decide))).symm
  · rw [h1, h2]; exact (decide_eq_true (nn (show b < 2 ^ 31 by omega))).symm
theorem anyO_s {v : Nat → LV} {j : Nat} (h : lcv (v j) = true) : anyO v (j + 1) = anyO v j := by
  show (anyO v j || !(lcv (v j))) = anyO v j
  rw [h]; cases anyO v j <;> rfl
theorem anyO_n {v : Nat → LV} {j : Nat} (h : lcv (v j) = false) : anyO v (j + 1) = true := anyO_t (j + 1) j (Nat.lt_succ_self j) h
section Law
variable {p : Program} {l : Launch} {e : Env} {s : State} {m : MethodId} {below : List Frame} {meth : Method} {c : Code} {Q : State → Prop} {b L : Nat} {xs : Nat → Int32} {D : va_G} {cI cZ cL cJ cB : ClassId} {a : Nat} {ad as : Nat → Nat} {n now tm : Nat} {told vv : Int32} {dg : Int64} {v : Nat → LV} {H : Heap} {locs : List Loc} {cells slots : Nat} {ls : Array Slot}
set_option maxHeartbeats 16000000 in
set_option maxRecDepth 100000 in
/-- how dark it is within some moments, and which lamp is best covered -/
theorem kA_802 (hC : LC p l s m c b L xs D cI cZ cL cJ cB)  (hwf : WFX n now v) (hn1 : 1 ≤ n) (hnow6 : now ≤ 6000) (hcc : cells ≤ 600130) (hss : slots ≤ 7301080) (hPX : PX D cI cL ad n now told v H) (hE0 : EN noA s H) (hG : GW s.heap.size ad as v) (hSP : SP D cI cZ cJ cB as n now told v H) (hS : va_S (fun q => s.heap.size ≤ q) s.heap H locs) (hdg : dg = dgst n now told v) (hl : lv_has ls 19 [(8, .int (nI now)), (7, .int (nI n)), (5, .long dg), (4, .int vv), (3, .int (nI tm)), (2, .ref a), (1, .ref (ad 0)), (0, .ref b)]) (join_1041 : ∀ (w : Nat) (H : Heap) (locs : List Loc) (_ : 1 ≤ w) (_ : w ≤ 60) (_ : PX D cI cL ad n now told v H) (_ : SP D cI cZ cJ cB as n now told v H) (_ : va_S (fun q => s.heap.size ≤ q) s.heap H locs), ∀ (ls : Array Slot), lv_has ls 19 [(11, .int (nI (dkN v n now (-1) w))), (10, .int (nI w)), (8, .int (nI now)), (7, .int (nI n)), (5, .long dg), (4, .int vv), (3, .int (nI tm)), (2, .ref a), (1, .ref (ad 0)), (0, .ref b)] → W p l e room_1 s m #[Value.ref b] below meth c H locs cells slots Q (F0 m 1041 ls [])) : W p l e room_1 s m #[Value.ref b] below meth c H locs cells slots Q (F0 m 802 ls []) := by
  obtain ⟨hx, hb, hml, hown, hts, hK, hE, hEA, hEL, hX, hbl, hst⟩ := hC
  have hn8 := hwf.1
  have hwl := hwf.2.2
  refine lv_iconst (v := nI 1) hx hb dL_law_802 (by decide) ?_
  refine lv_iload hx hb dL_law_803 (lv_at hl 3 rfl) ?_
  refine lv_iconst (v := nI 5) hx hb dL_law_805 (by decide) ?_
  refine lv_ishr hx hb dL_law_806 ?_
  obtain ⟨x5, hx5⟩ : ∃ y, vv >>> (nI 5 &&& 31) = y := ⟨_, rfl⟩
  refine n_ti hx5 ?_
  refine lv_bipush (v := nI 60) hx hb dL_law_807 (by decide) ?_
  refine rS (r := nI (blw x5 60)) (As := [.int x5, .int (nI 60)]) (rest := [.int (nI 1)]) ⟨hx, hb, hml, hown, hts⟩ (c_L_below l D cI cZ cL cJ x5 60 (by decide) (by omega)) (va_cwS 2 hts gL_law_L_below rfl rfl rfl (by decide +kernel) ⟨(Nat.le_of_ble_eq_true rfl), (Nat.le_of_ble_eq_true rfl)⟩) hK hE0 trivial rfl hl.1 rfl (Nat.le_of_ble_eq_true rfl) dL_law_809 ⟨hcc, hss⟩ ?_
  obtain ⟨y60, hy60, e_y60⟩ : ∃ y, y < 60 ∧ blw x5 60 = y := ⟨_, blw_lt _ (by decide), rfl⟩
  rw [e_y60]
  refine n_iadd (v := nI (1 + y60)) hx hb dL_law_812 (nI_add _ _) ?_
  obtain ⟨w, hw⟩ : ∃ w, 1 + y60 = w := ⟨_, rfl⟩
  rw [hw]
  have hw1 : 1 ≤ w := by omega
  have hw60 : w ≤ 60 := by omega
  have hDK : dkN v n now (-1) w ≤ w := cnt_le _ _
  refine lv_istore (lv' := [(10, .int (nI w)), (8, .int (nI now)), (7, .int (nI n)), (5, .long dg), (4, .int vv), (3, .int (nI tm)), (2, .ref a), (1, .ref (ad 0)), (0, .ref b)]) hx hb dL_law_813 hl (by decide) rfl (fun ls hl => ?_)
  refine lv_aload_n hx hb dL_law_815 rfl (lv_at hl 7 rfl) ?_
  refine lv_iload hx hb dL_law_816 (lv_at hl 0 rfl) ?_
  refine rV (r := nI (dkN v n now (-1) w)) (As := [.int (nI w)]) (rest := []) ⟨hx, hb, hml, hown, hts⟩ (e_X1_darkWithin l D cI cZ cL cJ ad n now told v hwf w (by omega) (by omega)) (cwV 1 hts gL_law_X1_darkWithin rfl rfl rfl (by decide +kernel) ⟨(Nat.le_of_ble_eq_true rfl), (Nat.le_of_ble_eq_true rfl)⟩) hK hE0 hPX (RC_of (q := (RX1, TX1, 5)) (ci := 1) hK rfl (vpa hPX.1 0 rfl)) rfl hl.1 rfl (Nat.le_of_ble_eq_true rfl) dL_law_818 ⟨hcc, hss⟩ ?_
  refine lv_istore (lv' := [(11, .int (nI (dkN v n now (-1) w))), (10, .int (nI w)), (8, .int (nI now)), (7, .int (nI n)), (5, .long dg), (4, .int vv), (3, .int (nI tm)), (2, .ref a), (1, .ref (ad 0)), (0, .ref b)]) hx hb dL_law_821 hl (by decide) rfl (fun ls hl => ?_)
  refine lv_aload_n hx hb dL_law_823 rfl (lv_at hl 8 rfl) ?_
  refine lv_iload hx hb dL_law_824 (lv_at hl 1 rfl) ?_
  refine rV (r := (oI1 (bcvN v n now w n))) (As := [.int (nI w)]) (rest := []) ⟨hx, hb, hml, hown, hts⟩ (e_X1_bestCover l D cI cZ cL cJ ad n now told v hwf w (by omega) (by omega)) (cwV 1 hts gL_law_X1_bestCover rfl rfl rfl (by decide +kernel) ⟨(Nat.le_of_ble_eq_true rfl), (Nat.le_of_ble_eq_true rfl)⟩) hK hE0 hPX (RC_of (q := (RX1, TX1, 5)) (ci := 1) hK rfl (vpa hPX.1 0 rfl)) rfl hl.1 rfl (Nat.le_of_ble_eq_true rfl) dL_law_826 ⟨hcc, hss⟩ ?_
  refine lv_istore (lv' := [(12, .int (oI1 (bcvN v n now w n))), (11, .int (nI (dkN v n now (-1) w))), (10, .int (nI w)), (8, .int (nI now)), (7, .int (nI n)), (5, .long dg), (4, .int vv), (3, .int (nI tm)), (2, .ref a), (1, .ref (ad 0)), (0, .ref b)]) hx hb dL_law_829 hl (by decide) rfl (fun ls hl => ?_)
  refine lv_aload_n hx hb dL_law_831 rfl (lv_at hl 9 rfl) ?_
  refine rVl (r := (dgst n now told v)) (As := []) (rest := []) ⟨hx, hb, hml, hown, hts⟩ (c_X1_digest l D cI cZ cL cJ ad n now told v hwf) (cwV 0 hts gL_law_X1_digest rfl rfl rfl (by decide +kernel) ⟨(Nat.le_of_ble_eq_true rfl), (Nat.le_of_ble_eq_true rfl)⟩) hK hE0 hPX (RC_of (q := (RX1, TX1, 5)) (ci := 1) hK rfl (vpa hPX.1 0 rfl)) rfl hl.1 rfl (Nat.le_of_ble_eq_true rfl) dL_law_832 ⟨hcc, hss⟩ ?_
  refine lv_lload hx hb dL_law_835 (lv_at hl 5 rfl) ?_
  refine W.lcmp hx hb dL_law_837 ?_
  refine n_ti (y := nI 0) (lgc hdg.symm) ?_
  refine n_if_ne (a := 0) (tgt := 853) hx hb (by decide) dL_law_838 (by decide) (fun c_838 => ?_) (fun c_838 => ?_)
  · exact absurd rfl c_838
  · refine lv_iload hx hb dL_law_841 (lv_at hl 1 rfl) ?_
    refine lv_if_lt (tgt := 853) hx hb dL_law_843 (by decide) (fun c_843 => ?_) (fun c_843 => ?_)
    · exact absurd c_843 (nn (by omega))
    · refine lv_iload hx hb dL_law_846 (lv_at hl 1 rfl) ?_
      refine lv_iload hx hb dL_law_848 (lv_at hl 2 rfl) ?_
      refine n_icmp_le (a := dkN v n now (-1) w) (b := w) (tgt := 855) hx hb (by omega) (by omega) dL_law_850 (by decide) (fun c_850 => ?_) (fun c_850 => ?_)
      · refine lv_iconst (v := nI 0) hx hb dL_law_855 (by decide) ?_
        refine n_ti (y := bI (anyO v 0)) rfl ?_
        refine lv_istore (lv' := [(13, .int (bI (anyO v 0))), (12, .int (oI1 (bcvN v n now w n))), (11, .int (nI (dkN v n now (-1) w))), (10, .int (nI w)), (8, .int (nI now)), (7, .int (nI n)), (5, .long dg), (4, .int vv), (3, .int (nI tm)), (2, .ref a), (1, .ref (ad 0)), (0, .ref b)]) hx hb dL_law_856 hl (by decide) rfl (fun ls hl => ?_)
        refine lv_iconst (v := nI 0) hx hb dL_law_858 (by decide) ?_
        refine lv_istore (lv' := [(14, .int (nI 0)), (13, .int (bI (anyO v 0))), (12, .int (oI1 (bcvN v n now w n))), (11, .int (nI (dkN v n now (-1) w))), (10, .int (nI w)), (8, .int (nI now)), (7, .int (nI n)), (5, .long dg), (4, .int vv), (3, .int (nI tm)), (2, .ref a), (1, .ref (ad 0)), (0, .ref b)]) hx hb dL_law_859 hl (by decide) rfl (fun ls hl => ?_)
        have loop_861 : ∀ (fu : Nat) (j : Nat), n + 1 - j ≤ fu → j ≤ n → ∀ (H : Heap) (locs : List Loc), PX D cI cL ad n now told v H → SP D cI cZ cJ cB as n now told v H → va_S (fun q => s.heap.size ≤ q) s.heap H locs → ∀ (ls : Array Slot), lv_has ls 19 [(14, .int (nI j)), (13, .int (bI (anyO v j))), (12, .int (oI1 (bcvN v n now w n))), (11, .int (nI (dkN v n now (-1) w))), (10, .int (nI w)), (8, .int (nI now)), (7, .int (nI n)), (5, .long dg), (4, .int vv), (3, .int (nI tm)), (2, .ref a), (1, .ref (ad 0)), (0, .ref b)] → W p l e room_1 s m #[Value.ref b] below meth c H locs cells slots Q (F0 m 861 ls []) := by
          intro fu
          induction fu with
          | zero => intro j hn_861 hj; exact absurd hn_861 (by omega)
          | succ fu ih_861 =>
            intro j hn_861 hj H locs hPX hSP hS ls hl
            have hE0 : EN noA s H := (hE.kept hS.2.1).narrow (fun _ h => h.elim)
            refine lv_iload hx hb dL_law_861 (lv_at hl 0 rfl) ?_
            refine lv_iload hx hb dL_law_863 (lv_at hl 6 rfl) ?_
            refine n_icmp_ge (a := j) (b := n) (tgt := 1014) hx hb (by omega) (by omega) dL_law_865 (by decide) (fun c_865 => ?_) (fun c_865 => ?_)
            · have e_j : j = n := by omega
              rw [e_j] at hl
              refine lv_iload hx hb dL_law_1014 (lv_at hl 1 rfl) ?_
              refine lv_iload hx hb dL_law_1016 (lv_at hl 2 rfl) ?_
              have join_1026 : ∀ (ls : Array Slot), lv_has ls 19 [(13, .int (bI (anyO v n))), (12, .int (oI1 (bcvN v n now w n))), (11, .int (nI (dkN v n now (-1) w))), (10, .int (nI w)), (8, .int (nI now)), (7, .int (nI n)), (5, .long dg), (4, .int vv), (3, .int (nI tm)), (2, .ref a), (1, .ref (ad 0)), (0, .ref b)] → W p l e room_1 s m #[Value.ref b] below meth c H locs cells slots Q (F0 m 1026 ls [.int (bI (anyO v n)), .int (bI (anyO v n))]) := by
                intro   ls hl
                refine lv_icmp_ne (tgt := 1039) hx hb dL_law_1026 (by decide) (fun c_1026 => ?_) (fun c_1026 => ?_)
                · exact absurd rfl c_1026
                · refine lv_aload_n hx hb dL_law_1029 rfl (lv_at hl 10 rfl) ?_
                  refine rVl (r := (dgst n now told v)) (As := []) (rest := []) ⟨hx, hb, hml, hown, hts⟩ (c_X1_digest l D cI cZ cL cJ ad n now told v hwf) (cwV 0 hts gL_law_X1_digest rfl rfl rfl (by decide +kernel) ⟨(Nat.le_of_ble_eq_true rfl), (Nat.le_of_ble_eq_true rfl)⟩) hK hE0 hPX (RC_of (q := (RX1, TX1, 5)) (ci := 1) hK rfl (vpa hPX.1 0 rfl)) rfl hl.1 rfl (Nat.le_of_ble_eq_true rfl) dL_law_1030 ⟨hcc, hss⟩ ?_
                  refine lv_lload hx hb dL_law_1033 (lv_at hl 6 rfl) ?_
                  refine W.lcmp hx hb dL_law_1035 ?_
                  refine n_ti (y := nI 0) (lgc hdg.symm) ?_
                  refine n_if_eq (a := 0) (tgt := 1041) hx hb (by decide) dL_law_1036 (by decide) (fun c_1036 => ?_) (fun c_1036 => ?_)
                  · exact join_1041 w H locs hw1 hw60 hPX hSP hS ls (lv_sub hl [2, 3, 4, 5, 6, 7, 8, 9, 10, 11] rfl)
                  · exact absurd rfl c_1036
              refine lv_if_lt (tgt := 1025) hx hb dL_law_1018 (by decide) (fun c_1018 => ?_) (fun c_1018 => ?_)
              · refine lv_iconst (v := nI 0) hx hb dL_law_1025 (by decide) ?_
                refine n_ti (y := bI (anyO v n)) (by rw [bc_ge (now := now) (m := w) hn8, decide_eq_false (fun z => z c_1018)]; rfl) ?_
                exact join_1026 ls (lv_sub hl [1, 2, 3, 4, 5, 6, 7, 8, 9, 10, 11, 12] rfl)
              · refine lv_iconst (v := nI 1) hx hb dL_law_1021 (by decide) ?_
                refine lv_goto (tgt := 1026) hx hb dL_law_1022 (by decide) ?_
                refine n_ti (y := bI (anyO v n)) (by rw [bc_ge (now := now) (m := w) hn8, decide_eq_true c_1018]; rfl) ?_
                exact join_1026 ls (lv_sub hl [1, 2, 3, 4, 5, 6, 7, 8, 9, 10, 11, 12] rfl)
            · refine lv_aload_n hx hb dL_law_868 rfl (lv_at hl 11 rfl) ?_
              refine lv_iload hx hb dL_law_869 (lv_at hl 0 rfl) ?_
              refine rV (r := bI (lcv (v j))) (As := [.int (nI j)]) (rest := []) ⟨hx, hb, hml, hown, hts⟩ (e_X1_isCovered l D cI cZ cL cJ ad n now told v hwf j (by omega)) (cwV 1 hts gL_law_X1_isCovered rfl rfl rfl (by decide +kernel) ⟨(Nat.le_of_ble_eq_true rfl), (Nat.le_of_ble_eq_true rfl)⟩) hK hE0 hPX (RC_of (q := (RX1, TX1, 5)) (ci := 1) hK rfl (vpa hPX.1 0 rfl)) rfl hl.1 rfl (Nat.le_of_ble_eq_true rfl) dL_law_871 ⟨hcc, hss⟩ ?_
              refine b_if_eq (b := lcv (v j)) (tgt := 880) hx hb dL_law_874 (by decide) (fun c_874 => ?_) (fun c_874 => ?_)
              · obtain ⟨bb, hbb, hbn, hbm⟩ := bc_of (now := now) (m := w) (show j < n by omega) c_874
                refine lv_iconst (v := nI 1) hx hb dL_law_880 (by decide) ?_
                refine n_ti (y := bI (anyO v (j + 1))) (by rw [anyO_n c_874]; rfl) ?_
                refine lv_istore (lv' := [(13, .int (bI (anyO v (j + 1)))), (14, .int (nI j)), (12, .int (oI1 (bcvN v n now w n))), (11, .int (nI (dkN v n now (-1) w))), (10, .int (nI w)), (8, .int (nI now)), (7, .int (nI n)), (5, .long dg), (4, .int vv), (3, .int (nI tm)), (2, .ref a), (1, .ref (ad 0)), (0, .ref b)]) hx hb dL_law_881 hl (by decide) rfl (fun ls hl => ?_)
                refine lv_aload_n hx hb dL_law_883 rfl (lv_at hl 11 rfl) ?_
                refine lv_iload hx hb dL_law_884 (lv_at hl 1 rfl) ?_
                refine wV (As := [.int (nI j)]) (rest := []) ⟨hx, hb, hml, hown, hts⟩ (e_X1_turnShutter l D cI cZ cL cJ ad n now told v hwf hG.1.1 j (by omega)) (cwV 1 hts gL_law_X1_turnShutter rfl rfl rfl (by decide +kernel) ⟨(Nat.le_of_ble_eq_true rfl), (Nat.le_of_ble_eq_true rfl)⟩) hK ((hE.kept hS.2.1).narrow (AX_lo hG)) hPX (RC_of (q := (RX1, TX1, 5)) (ci := 1) hK rfl (vpa hPX.1 0 rfl)) rfl hl.1 rfl (Nat.le_of_ble_eq_true rfl) dL_law_886 ⟨hcc, hss⟩ hS (AX_lo hG) (fun H locs _ hPXc hz1 hk1 hS => ?_)
                have hE0 : EN noA s H := (hE.kept hS.2.1).narrow (fun _ h => h.elim)
                have hSP := SP_x hG hSP hk1
                refine n_ti (y := bI true) (by rw [c_874]; rfl) ?_
                rw [show (!(lcv (v j))) = true by rw [c_874]; rfl] at hPXc
                have hPXc : PX D cI cL ad n now told (cvr v j true) H := hPXc
                have hwfc : WFX n now (cvr v j true) := wf_upd hwf (fun h => wfl_cv (hwl j h))
                refine b_if_ne (b := true) (tgt := 894) hx hb dL_law_889 (by decide) (fun c_889 => ?_) (fun c_889 => ?_)
                · refine lv_aload_n hx hb dL_law_894 rfl (lv_at hl 11 rfl) ?_
                  refine lv_iload hx hb dL_law_895 (lv_at hl 4 rfl) ?_
                  refine rV (r := nI (dkN (cvr v j true) n now (-1) w)) (As := [.int (nI w)]) (rest := []) ⟨hx, hb, hml, hown, hts⟩ (e_X1_darkWithin l D cI cZ cL cJ ad n now told (cvr v j true) hwfc w (by omega) (by omega)) (cwV 1 hts gL_law_X1_darkWithin rfl rfl rfl (by decide +kernel) ⟨(Nat.le_of_ble_eq_true rfl), (Nat.le_of_ble_eq_true rfl)⟩) hK hE0 hPXc (RC_of (q := (RX1, TX1, 5)) (ci := 1) hK rfl (vpa hPXc.1 0 rfl)) rfl hl.1 rfl (Nat.le_of_ble_eq_true rfl) dL_law_897 ⟨hcc, hss⟩ ?_
                  refine n_ti (y := nI (dkN v n now (nI j) w)) (by rw [dkN_cov hn8 (by omega)]) ?_
                  refine lv_istore (lv' := [(15, .int (nI (dkN v n now (nI j) w))), (13, .int (bI (anyO v (j + 1)))), (14, .int (nI j)), (12, .int (oI1 (bcvN v n now w n))), (11, .int (nI (dkN v n now (-1) w))), (10, .int (nI w)), (8, .int (nI now)), (7, .int (nI n)), (5, .long dg), (4, .int vv), (3, .int (nI tm)), (2, .ref a), (1, .ref (ad 0)), (0, .ref b)]) hx hb dL_law_900 hl (by decide) rfl (fun ls hl => ?_)
                  refine lv_aload_n hx hb dL_law_902 rfl (lv_at hl 12 rfl) ?_
                  refine lv_iload hx hb dL_law_903 (lv_at hl 2 rfl) ?_
                  refine wV (As := [.int (nI j)]) (rest := []) ⟨hx, hb, hml, hown, hts⟩ (e_X1_turnShutter l D cI cZ cL cJ ad n now told (cvr v j true) hwfc hG.1.1 j (by omega)) (cwV 1 hts gL_law_X1_turnShutter rfl rfl rfl (by decide +kernel) ⟨(Nat.le_of_ble_eq_true rfl), (Nat.le_of_ble_eq_true rfl)⟩) hK ((hE.kept hS.2.1).narrow (AX_lo hG)) hPXc (RC_of (q := (RX1, TX1, 5)) (ci := 1) hK rfl (vpa hPXc.1 0 rfl)) rfl hl.1 rfl (Nat.le_of_ble_eq_true rfl) dL_law_905 ⟨hcc, hss⟩ hS (AX_lo hG) (fun H locs _ hPX hz1 hk1 hS => ?_)
                  have hE0 : EN noA s H := (hE.kept hS.2.1).narrow (fun _ h => h.elim)
                  have hSP := SP_x hG hSP hk1
                  refine n_ti (y := bI false) (by rw [cvr_at]; rfl) ?_
                  rw [cvr_back c_874] at hPX
                  refine b_if_ne (b := false) (tgt := 923) hx hb dL_law_908 (by decide) (fun c_908 => ?_) (fun c_908 => ?_)
                  · exact absurd c_908 (by decide)
                  · refine lv_iload hx hb dL_law_911 (lv_at hl 0 rfl) ?_
                    refine lv_iload hx hb dL_law_913 (lv_at hl 4 rfl) ?_
                    refine n_icmp_lt (a := dkN v n now (nI j) w) (b := dkN v n now (-1) w) (tgt := 923) hx hb (Nat.lt_of_le_of_lt (cnt_le _ _) (by omega)) (Nat.lt_of_le_of_lt (cnt_le _ _) (by omega)) dL_law_915 (by decide) (fun c_915 => ?_) (fun c_915 => ?_)
                    · exact absurd c_915 (Nat.not_lt.mpr (dkN_mono hn8))
                    · refine lv_iload hx hb dL_law_918 (lv_at hl 3 rfl) ?_
                      refine n_ti (y := nI bb) (by rw [hbb]; rfl) ?_
                      refine lv_if_ge (tgt := 925) hx hb dL_law_920 (by decide) (fun c_920 => ?_) (fun c_920 => ?_)
                      · refine lv_iload hx hb dL_law_925 (lv_at hl 2 rfl) ?_
                        refine lv_iload hx hb dL_law_927 (lv_at hl 3 rfl) ?_
                        refine n_ti (y := nI bb) (by rw [hbb]; rfl) ?_
                        refine n_icmp_eq (a := j) (b := bb) (tgt := 935) hx hb (by omega) (by omega) dL_law_929 (by decide) (fun c_929 => ?_) (fun c_929 => ?_)
                        · refine lv_iconst (v := nI 0) hx hb dL_law_935 (by decide) ?_
                          refine lv_istore (lv' := [(16, .int (nI 0)), (15, .int (nI (dkN v n now (nI j) w))), (13, .int (bI (anyO v (j + 1)))), (14, .int (nI j)), (12, .int (oI1 (bcvN v n now w n))), (11, .int (nI (dkN v n now (-1) w))), (10, .int (nI w)), (8, .int (nI now)), (7, .int (nI n)), (5, .long dg), (4, .int vv), (3, .int (nI tm)), (2, .ref a), (1, .ref (ad 0)), (0, .ref b)]) hx hb dL_law_936 hl (by decide) rfl (fun ls hl => ?_)
                          have loop_938 : ∀ (fu : Nat) (i : Nat), n + 1 - i ≤ fu → i ≤ n → ∀ (H : Heap) (locs : List Loc), PX D cI cL ad n now told v H → SP D cI cZ cJ cB as n now told v H → va_S (fun q => s.heap.size ≤ q) s.heap H locs → ∀ (ls : Array Slot), lv_has ls 19 [(16, .int (nI i)), (15, .int (nI (dkN v n now (nI j) w))), (14, .int (nI j)), (13, .int (bI (anyO v (j + 1)))), (12, .int (oI1 (bcvN v n now w n))), (11, .int (nI (dkN v n now (-1) w))), (10, .int (nI w)), (8, .int (nI now)), (7, .int (nI n)), (5, .long dg), (4, .int vv), (3, .int (nI tm)), (2, .ref a), (1, .ref (ad 0)), (0, .ref b)] → W p l e room_1 s m #[Value.ref b] below meth c H locs cells slots Q (F0 m 938 ls []) := by
                            intro fu
                            induction fu with
                            | zero => intro i hn_938 hi; exact absurd hn_938 (by omega)
                            | succ fu ih_938 =>
                              intro i hn_938 hi H locs hPX hSP hS ls hl
                              have hE0 : EN noA s H := (hE.kept hS.2.1).narrow (fun _ h => h.elim)
                              refine lv_iload hx hb dL_law_938 (lv_at hl 0 rfl) ?_
                              refine lv_iload hx hb dL_law_940 (lv_at hl 8 rfl) ?_
                              refine n_icmp_ge (a := i) (b := n) (tgt := 1008) hx hb (by omega) (by omega) dL_law_942 (by decide) (fun c_942 => ?_) (fun c_942 => ?_)
                              · refine lv_iinc (v := nI (j + 1)) (lv' := [(14, .int (nI (j + 1))), (16, .int (nI i)), (15, .int (nI (dkN v n now (nI j) w))), (13, .int (bI (anyO v (j + 1)))), (12, .int (oI1 (bcvN v n now w n))), (11, .int (nI (dkN v n now (-1) w))), (10, .int (nI w)), (8, .int (nI now)), (7, .int (nI n)), (5, .long dg), (4, .int vv), (3, .int (nI tm)), (2, .ref a), (1, .ref (ad 0)), (0, .ref b)]) hx hb dL_law_1008 hl (k := 2) rfl (nI_inc _) (by decide) rfl (fun ls hl => ?_)
                                refine lv_goto (tgt := 861) hx hb dL_law_1011 (by decide) ?_
                                exact ih_861 (j + 1) (by omega) (by omega) H locs hPX hSP hS ls (lv_sub hl [0, 3, 4, 5, 6, 7, 8, 9, 10, 11, 12, 13, 14] rfl)
                              · refine lv_aload_n hx hb dL_law_945 rfl (lv_at hl 13 rfl) ?_
                                refine lv_iload hx hb dL_law_946 (lv_at hl 0 rfl) ?_
                                refine rV (r := bI (lcv (v i))) (As := [.int (nI i)]) (rest := []) ⟨hx, hb, hml, hown, hts⟩ (e_X1_isCovered l D cI cZ cL cJ ad n now told v hwf i (by omega)) (cwV 1 hts gL_law_X1_isCovered rfl rfl rfl (by decide +kernel) ⟨(Nat.le_of_ble_eq_true rfl), (Nat.le_of_ble_eq_true rfl)⟩) hK hE0 hPX (RC_of (q := (RX1, TX1, 5)) (ci := 1) hK rfl (vpa hPX.1 0 rfl)) rfl hl.1 rfl (Nat.le_of_ble_eq_true rfl) dL_law_948 ⟨hcc, hss⟩ ?_
                                refine b_if_eq (b := lcv (v i)) (tgt := 957) hx hb dL_law_951 (by decide) (fun c_951 => ?_) (fun c_951 => ?_)
                                · have hbi := hbm i (by omega) c_951
                                  rw [← c_929] at hbi
                                  refine lv_aload_n hx hb dL_law_957 rfl (lv_at hl 13 rfl) ?_
                                  refine lv_iload hx hb dL_law_958 (lv_at hl 0 rfl) ?_
                                  refine wV (As := [.int (nI i)]) (rest := []) ⟨hx, hb, hml, hown, hts⟩ (e_X1_turnShutter l D cI cZ cL cJ ad n now told v hwf hG.1.1 i (by omega)) (cwV 1 hts gL_law_X1_turnShutter rfl rfl rfl (by decide +kernel) ⟨(Nat.le_of_ble_eq_true rfl), (Nat.le_of_ble_eq_true rfl)⟩) hK ((hE.kept hS.2.1).narrow (AX_lo hG)) hPX (RC_of (q := (RX1, TX1, 5)) (ci := 1) hK rfl (vpa hPX.1 0 rfl)) rfl hl.1 rfl (Nat.le_of_ble_eq_true rfl) dL_law_960 ⟨hcc, hss⟩ hS (AX_lo hG) (fun H locs _ hPXc hz1 hk1 hS => ?_)
                                  have hE0 : EN noA s H := (hE.kept hS.2.1).narrow (fun _ h => h.elim)
                                  have hSP := SP_x hG hSP hk1
                                  refine n_ti (y := bI true) (by rw [c_951]; rfl) ?_
                                  rw [show (!(lcv (v i))) = true by rw [c_951]; rfl] at hPXc
                                  have hPXc : PX D cI cL ad n now told (cvr v i true) H := hPXc
                                  have hwfc : WFX n now (cvr v i true) := wf_upd hwf (fun h => wfl_cv (hwl i h))
                                  refine lv_pop hx hb dL_law_963 rfl ?_
                                  refine lv_aload_n hx hb dL_law_964 rfl (lv_at hl 13 rfl) ?_
                                  refine lv_iload hx hb dL_law_965 (lv_at hl 6 rfl) ?_
                                  refine rV (r := nI (dkN (cvr v i true) n now (-1) w)) (As := [.int (nI w)]) (rest := []) ⟨hx, hb, hml, hown, hts⟩ (e_X1_darkWithin l D cI cZ cL cJ ad n now told (cvr v i true) hwfc w (by omega) (by omega)) (cwV 1 hts gL_law_X1_darkWithin rfl rfl rfl (by decide +kernel) ⟨(Nat.le_of_ble_eq_true rfl), (Nat.le_of_ble_eq_true rfl)⟩) hK hE0 hPXc (RC_of (q := (RX1, TX1, 5)) (ci := 1) hK rfl (vpa hPXc.1 0 rfl)) rfl hl.1 rfl (Nat.le_of_ble_eq_true rfl) dL_law_967 ⟨hcc, hss⟩ ?_
                                  refine n_ti (y := nI (dkN v n now (nI i) w)) (by rw [dkN_cov hn8 (by omega)]) ?_
                                  refine lv_istore (lv' := [(17, .int (nI (dkN v n now (nI i) w))), (16, .int (nI i)), (15, .int (nI (dkN v n now (nI j) w))), (14, .int (nI j)), (13, .int (bI (anyO v (j + 1)))), (12, .int (oI1 (bcvN v n now w n))), (11, .int (nI (dkN v n now (-1) w))), (10, .int (nI w)), (8, .int (nI now)), (7, .int (nI n)), (5, .long dg), (4, .int vv), (3, .int (nI tm)), (2, .ref a), (1, .ref (ad 0)), (0, .ref b)]) hx hb dL_law_970 hl (by decide) rfl (fun ls hl => ?_)
                                  refine lv_aload_n hx hb dL_law_972 rfl (lv_at hl 14 rfl) ?_
                                  refine lv_iload hx hb dL_law_973 (lv_at hl 1 rfl) ?_
                                  refine wV (As := [.int (nI i)]) (rest := []) ⟨hx, hb, hml, hown, hts⟩ (e_X1_turnShutter l D cI cZ cL cJ ad n now told (cvr v i true) hwfc hG.1.1 i (by omega)) (cwV 1 hts gL_law_X1_turnShutter rfl rfl rfl (by decide +kernel) ⟨(Nat.le_of_ble_eq_true rfl), (Nat.le_of_ble_eq_true rfl)⟩) hK ((hE.kept hS.2.1).narrow (AX_lo hG)) hPXc (RC_of (q := (RX1, TX1, 5)) (ci := 1) hK rfl (vpa hPXc.1 0 rfl)) rfl hl.1 rfl (Nat.le_of_ble_eq_true rfl) dL_law_975 ⟨hcc, hss⟩ hS (AX_lo hG) (fun H locs _ hPX hz1 hk1 hS => ?_)
                                  have hE0 : EN noA s H := (hE.kept hS.2.1).narrow (fun _ h => h.elim)
                                  have hSP := SP_x hG hSP hk1
                                  refine n_ti (y := bI false) (by rw [cvr_at]; rfl) ?_
                                  rw [cvr_back c_951] at hPX
                                  refine lv_pop hx hb dL_law_978 rfl ?_
                                  refine lv_iload hx hb dL_law_979 (lv_at hl 0 rfl) ?_
                                  refine lv_iload hx hb dL_law_981 (lv_at hl 2 rfl) ?_
                                  refine n_icmp_gt (a := dkN v n now (nI i) w) (b := dkN v n now (nI j) w) (tgt := 1000) hx hb (Nat.lt_of_le_of_lt (cnt_le _ _) (by omega)) (Nat.lt_of_le_of_lt (cnt_le _ _) (by omega)) dL_law_983 (by decide) (fun c_983 => ?_) (fun c_983 => ?_)
                                  · exact absurd c_983 (by omega)
                                  · refine lv_iload hx hb dL_law_986 (lv_at hl 0 rfl) ?_
                                    refine lv_iload hx hb dL_law_988 (lv_at hl 2 rfl) ?_
                                    refine n_icmp_ne (a := dkN v n now (nI i) w) (b := dkN v n now (nI j) w) (tgt := 1002) hx hb (Nat.lt_of_le_of_lt (cnt_le _ _) (by omega)) (Nat.lt_of_le_of_lt (cnt_le _ _) (by omega)) dL_law_990 (by decide) (fun c_990 => ?_) (fun c_990 => ?_)
                                    · refine lv_iinc (v := nI (i + 1)) (lv' := [(16, .int (nI (i + 1))), (17, .int (nI (dkN v n now (nI i) w))), (15, .int (nI (dkN v n now (nI j) w))), (14, .int (nI j)), (13, .int (bI (anyO v (j + 1)))), (12, .int (oI1 (bcvN v n now w n))), (11, .int (nI (dkN v n now (-1) w))), (10, .int (nI w)), (8, .int (nI now)), (7, .int (nI n)), (5, .long dg), (4, .int vv), (3, .int (nI tm)), (2, .ref a), (1, .ref (ad 0)), (0, .ref b)]) hx hb dL_law_1002 hl (k := 1) rfl (nI_inc _) (by decide) rfl (fun ls hl => ?_)
                                      refine lv_goto (tgt := 938) hx hb dL_law_1005 (by decide) ?_
                                      exact ih_938 (i + 1) (by omega) (by omega) H locs hPX hSP hS ls (lv_sub hl [0, 2, 3, 4, 5, 6, 7, 8, 9, 10, 11, 12, 13, 14, 15] rfl)
                                    · refine lv_iload hx hb dL_law_993 (lv_at hl 1 rfl) ?_
                                      refine lv_iload hx hb dL_law_995 (lv_at hl 5 rfl) ?_
                                      refine n_ti (y := nI bb) (by rw [hbb]; rfl) ?_
                                      refine n_icmp_ge (a := i) (b := bb) (tgt := 1002) hx hb (by omega) (by omega) dL_law_997 (by decide) (fun c_997 => ?_) (fun c_997 => ?_)
                                      · refine lv_iinc (v := nI (i + 1)) (lv' := [(16, .int (nI (i + 1))), (17, .int (nI (dkN v n now (nI i) w))), (15, .int (nI (dkN v n now (nI j) w))), (14, .int (nI j)), (13, .int (bI (anyO v (j + 1)))), (12, .int (oI1 (bcvN v n now w n))), (11, .int (nI (dkN v n now (-1) w))), (10, .int (nI w)), (8, .int (nI now)), (7, .int (nI n)), (5, .long dg), (4, .int vv), (3, .int (nI tm)), (2, .ref a), (1, .ref (ad 0)), (0, .ref b)]) hx hb dL_law_1002 hl (k := 1) rfl (nI_inc _) (by decide) rfl (fun ls hl => ?_)
                                        refine lv_goto (tgt := 938) hx hb dL_law_1005 (by decide) ?_
                                        exact ih_938 (i + 1) (by omega) (by omega) H locs hPX hSP hS ls (lv_sub hl [0, 2, 3, 4, 5, 6, 7, 8, 9, 10, 11, 12, 13, 14, 15] rfl)
                                      · exact absurd (hbi.2 (by omega)) (by omega)
                                · refine lv_goto (tgt := 1002) hx hb dL_law_954 (by decide) ?_
                                  refine lv_iinc (v := nI (i + 1)) (lv' := [(16, .int (nI (i + 1))), (15, .int (nI (dkN v n now (nI j) w))), (14, .int (nI j)), (13, .int (bI (anyO v (j + 1)))), (12, .int (oI1 (bcvN v n now w n))), (11, .int (nI (dkN v n now (-1) w))), (10, .int (nI w)), (8, .int (nI now)), (7, .int (nI n)), (5, .long dg), (4, .int vv), (3, .int (nI tm)), (2, .ref a), (1, .ref (ad 0)), (0, .ref b)]) hx hb dL_law_1002 hl (k := 0) rfl (nI_inc _) (by decide) rfl (fun ls hl => ?_)
                                  refine lv_goto (tgt := 938) hx hb dL_law_1005 (by decide) ?_
                                  exact ih_938 (i + 1) (by omega) (by omega) H locs hPX hSP hS ls (lv_sub hl [0, 1, 2, 3, 4, 5, 6, 7, 8, 9, 10, 11, 12, 13, 14] rfl)
                          exact loop_938 (n + 1) 0 (by omega) (Nat.zero_le _) H locs hPX hSP hS ls (lv_sub hl [0, 1, 3, 2, 4, 5, 6, 7, 8, 9, 10, 11, 12, 13, 14] rfl)
                        · refine lv_goto (tgt := 1008) hx hb dL_law_932 (by decide) ?_
                          refine lv_iinc (v := nI (j + 1)) (lv' := [(14, .int (nI (j + 1))), (15, .int (nI (dkN v n now (nI j) w))), (13, .int (bI (anyO v (j + 1)))), (12, .int (oI1 (bcvN v n now w n))), (11, .int (nI (dkN v n now (-1) w))), (10, .int (nI w)), (8, .int (nI now)), (7, .int (nI n)), (5, .long dg), (4, .int vv), (3, .int (nI tm)), (2, .ref a), (1, .ref (ad 0)), (0, .ref b)]) hx hb dL_law_1008 hl (k := 2) rfl (nI_inc _) (by decide) rfl (fun ls hl => ?_)
                          refine lv_goto (tgt := 861) hx hb dL_law_1011 (by decide) ?_
                          exact ih_861 (j + 1) (by omega) (by omega) H locs hPX hSP hS ls (lv_sub hl [0, 2, 3, 4, 5, 6, 7, 8, 9, 10, 11, 12, 13] rfl)
                      · exact absurd (nI_pos' (by omega)) c_920
                · exact absurd c_889 (by decide)
              · rw [← anyO_s c_874] at hl
                refine lv_goto (tgt := 1008) hx hb dL_law_877 (by decide) ?_
                refine lv_iinc (v := nI (j + 1)) (lv' := [(14, .int (nI (j + 1))), (13, .int (bI (anyO v (j + 1)))), (12, .int (oI1 (bcvN v n now w n))), (11, .int (nI (dkN v n now (-1) w))), (10, .int (nI w)), (8, .int (nI now)), (7, .int (nI n)), (5, .long dg), (4, .int vv), (3, .int (nI tm)), (2, .ref a), (1, .ref (ad 0)), (0, .ref b)]) hx hb dL_law_1008 hl (k := 0) rfl (nI_inc _) (by decide) rfl (fun ls hl => ?_)
                refine lv_goto (tgt := 861) hx hb dL_law_1011 (by decide) ?_
                exact ih_861 (j + 1) (by omega) (by omega) H locs hPX hSP hS ls (lv_sub hl [0, 1, 2, 3, 4, 5, 6, 7, 8, 9, 10, 11, 12] rfl)
        exact loop_861 (n + 1) 0 (by omega) (Nat.zero_le _) H locs hPX hSP hS ls (lv_sub hl [0, 1, 2, 3, 4, 5, 6, 7, 8, 9, 10, 11, 12] rfl)
      · exact absurd c_850 (by omega)
end Law
