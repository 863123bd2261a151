theorem Us_8 {v v2 : Nat → LV} (h : ∀ j, j < 8 → v2 j = v j) : ∀ u, Us v2 u → Us v u := by
  rintro u (hu | ⟨k, hk, hu | ⟨i, hi, hu⟩⟩)
  · exact Or.inl hu
  · exact Or.inr ⟨k, hk, Or.inl hu⟩
  · refine Or.inr ⟨k, hk, Or.inr ⟨i, ?_, hu⟩⟩
    rw [h k hk] at hi
    exact hi
theorem tld_f {A B : LV} {t q : Nat} (h : tldF A B t q = false) : bI (onB A (t + q)) = bI (onB B (t + q)) := by
  unfold tldF at h
  revert h
  cases onB A (t + q) <;> cases onB B (t + q) <;> decide
theorem tld_t {A B : LV} {t q : Nat} (h : tldF A B t q = true) : ¬ bI (onB A (t + q)) = bI (onB B (t + q)) := by
  unfold tldF at h
  revert h
  cases onB A (t + q) <;> cases onB B (t + q) <;> decide
section Law
variable {p : Program} {l : Launch} {e : Env} {s : State} {m : MethodId} {below : List Frame} {meth : Method} {c : Code} {Q : State → Prop} {b L : Nat} {xs : Nat → Int32} {D : va_G} {cI cZ cL cJ cB : ClassId} {a : Nat} {ad as : Nat → Nat} {n now tm : Nat} {told vv : Int32} {dg : Int64} {v : Nat → LV} {H : Heap} {locs : List Loc} {cells slots : Nat} {ls : Array Slot}
set_option maxHeartbeats 16000000 in
set_option maxRecDepth 100000 in
/-- two lamps: when they collide, when they are told apart -/
theorem kA_532 (hC : LC p l s m c b L xs D cI cZ cL cJ cB)  (hwf : WFX n now v) (hn1 : 1 ≤ n) (hnow6 : now ≤ 6000) (hcc : cells ≤ 600130) (hss : slots ≤ 7301080) (hPX : PX D cI cL ad n now told v H) (hE0 : EN noA s H) (hG : GW s.heap.size ad as v) (hSP : SP D cI cZ cJ cB as n now told v H) (hS : va_S (fun q => s.heap.size ≤ q) s.heap H locs) (hl : lv_has ls 19 [(8, .int (nI now)), (7, .int (nI n)), (5, .long dg), (4, .int vv), (3, .int (nI tm)), (2, .ref a), (1, .ref (ad 0)), (0, .ref b)]) (join_802 : ∀ (v2 : Nat → LV) (H : Heap) (locs : List Loc) (_ : ∀ j, j < 8 → v2 j = v j) (_ : PX D cI cL ad n now told v2 H) (_ : SP D cI cZ cJ cB as n now told v2 H) (_ : GW s.heap.size ad as v2) (_ : WFX n now v2) (_ : va_S (fun q => s.heap.size ≤ q) s.heap H locs), ∀ (ls : Array Slot), lv_has ls 19 [(8, .int (nI now)), (7, .int (nI n)), (5, .long dg), (4, .int vv), (3, .int (nI tm)), (2, .ref a), (1, .ref (ad 0)), (0, .ref b)] → W p l e room_1 s m #[Value.ref b] below meth c H locs cells slots Q (F0 m 802 ls [])) : W p l e room_1 s m #[Value.ref b] below meth c H locs cells slots Q (F0 m 532 ls []) := by
  obtain ⟨hx, hb, hml, hown, hts, hK, hE, hEA, hEL, hX, hbl, hst⟩ := hC
  have hn8 := hwf.1
  have hwl := hwf.2.2
  refine lv_iload hx hb dL_law_532 (lv_at hl 1 rfl) ?_
  refine lv_iconst (v := nI 1) hx hb dL_law_534 (by decide) ?_
  refine n_icmp_le (a := n) (b := 1) (tgt := 802) hx hb (by omega) (by omega) dL_law_535 (by decide) (fun c_535 => ?_) (fun c_535 => ?_)
  · exact join_802 v H locs (fun _ _ => rfl) hPX hSP hG hwf hS ls (lv_sub hl [0, 1, 2, 3, 4, 5, 6, 7] rfl)
  · refine lv_iload hx hb dL_law_538 (lv_at hl 3 rfl) ?_
    refine lv_iconst (v := nI 3) hx hb dL_law_540 (by decide) ?_
    refine lv_ishr hx hb dL_law_541 ?_
    obtain ⟨x3, hx3⟩ : ∃ y, vv >>> (nI 3 &&& 31) = y := ⟨_, rfl⟩
    refine n_ti hx3 ?_
    refine lv_iload hx hb dL_law_542 (lv_at hl 1 rfl) ?_
    refine rS (r := nI (blw x3 n)) (As := [.int x3, .int (nI n)]) (rest := []) ⟨hx, hb, hml, hown, hts⟩ (c_L_below l D cI cZ cL cJ x3 n hn1 (by omega)) (va_cwS 2 hts gL_law_L_below rfl rfl rfl (by decide +kernel) ⟨(Nat.le_of_ble_eq_true rfl), (Nat.le_of_ble_eq_true rfl)⟩) hK hE0 trivial rfl hl.1 rfl (Nat.le_of_ble_eq_true rfl) dL_law_544 ⟨hcc, hss⟩ ?_
    obtain ⟨ja, hja, e_ja⟩ : ∃ y, y < n ∧ blw x3 n = y := ⟨_, blw_lt _ hn1, rfl⟩
    rw [e_ja]
    refine lv_istore (lv' := [(10, .int (nI ja)), (8, .int (nI now)), (7, .int (nI n)), (5, .long dg), (4, .int vv), (3, .int (nI tm)), (2, .ref a), (1, .ref (ad 0)), (0, .ref b)]) hx hb dL_law_547 hl (by decide) rfl (fun ls hl => ?_)
    refine lv_iload hx hb dL_law_549 (lv_at hl 0 rfl) ?_
    refine lv_iconst (v := nI 1) hx hb dL_law_551 (by decide) ?_
    refine n_iadd (v := nI (ja + 1)) hx hb dL_law_552 (nI_add _ _) ?_
    refine lv_iload hx hb dL_law_553 (lv_at hl 4 rfl) ?_
    refine lv_bipush (v := nI 6) hx hb dL_law_555 (by decide) ?_
    refine lv_ishr hx hb dL_law_557 ?_
    obtain ⟨x6, hx6⟩ : ∃ y, vv >>> (nI 6 &&& 31) = y := ⟨_, rfl⟩
    refine n_ti hx6 ?_
    refine lv_iload hx hb dL_law_558 (lv_at hl 2 rfl) ?_
    refine lv_iconst (v := nI 1) hx hb dL_law_560 (by decide) ?_
    refine n_isub (v := nI (n - 1)) hx hb dL_law_561 (pk_sub (by omega)) ?_
    refine rS (r := nI (blw x6 (n - 1))) (As := [.int x6, .int (nI (n - 1))]) (rest := [.int (nI (ja + 1))]) ⟨hx, hb, hml, hown, hts⟩ (c_L_below l D cI cZ cL cJ x6 (n - 1) (by omega) (by omega)) (va_cwS 2 hts gL_law_L_below rfl rfl rfl (by decide +kernel) ⟨(Nat.le_of_ble_eq_true rfl), (Nat.le_of_ble_eq_true rfl)⟩) hK hE0 trivial rfl hl.1 rfl (Nat.le_of_ble_eq_true rfl) dL_law_562 ⟨hcc, hss⟩ ?_
    obtain ⟨yc, hyc, e_yc⟩ : ∃ y, y < n - 1 ∧ blw x6 (n - 1) = y := ⟨_, blw_lt _ (by omega), rfl⟩
    rw [e_yc]
    refine n_iadd (v := nI ((ja + 1) + yc)) hx hb dL_law_565 (nI_add _ _) ?_
    refine lv_iload hx hb dL_law_566 (lv_at hl 2 rfl) ?_
    refine n_irem (a := (ja + 1) + yc) (d := n) hx hb dL_law_568 (by omega) (by omega) (by omega) ?_
    obtain ⟨jb, hjbe⟩ : ∃ z, (ja + 1 + yc) % n = z := ⟨_, rfl⟩
    rw [hjbe]
    have hjb : jb < n := by rw [← hjbe]; exact Nat.mod_lt _ (by omega)
    have hne : ¬ ja = jb := by rw [← hjbe]; exact pair_ne hja hyc
    refine lv_istore (lv' := [(11, .int (nI jb)), (10, .int (nI ja)), (8, .int (nI now)), (7, .int (nI n)), (5, .long dg), (4, .int vv), (3, .int (nI tm)), (2, .ref a), (1, .ref (ad 0)), (0, .ref b)]) hx hb dL_law_569 hl (by decide) rfl (fun ls hl => ?_)
    refine lv_aload_n hx hb dL_law_571 rfl (lv_at hl 8 rfl) ?_
    refine lv_iload hx hb dL_law_572 (lv_at hl 1 rfl) ?_
    refine lv_iload hx hb dL_law_574 (lv_at hl 0 rfl) ?_
    have join_695 : ∀ (ls : Array Slot), lv_has ls 19 [(11, .int (nI jb)), (10, .int (nI ja)), (8, .int (nI now)), (7, .int (nI n)), (5, .long dg), (4, .int vv), (3, .int (nI tm)), (2, .ref a), (1, .ref (ad 0)), (0, .ref b)] → W p l e room_1 s m #[Value.ref b] below meth c H locs cells slots Q (F0 m 695 ls []) := by
      intro   ls hl
      refine lv_aload_n hx hb dL_law_695 rfl (lv_at hl 8 rfl) ?_
      refine lv_iload hx hb dL_law_696 (lv_at hl 1 rfl) ?_
      refine lv_iload hx hb dL_law_698 (lv_at hl 0 rfl) ?_
      refine wV (As := [.int (nI ja), .int (nI jb)]) (rest := []) ⟨hx, hb, hml, hown, hts⟩ (e_X1_momentsUntilToldApart l D cI cZ cL cJ ad n now told v hwf hG.1.1 ja jb (by omega) hjb hne) (cwV 2 hts gL_law_X1_momentsUntilToldApart rfl rfl rfl (by decide +kernel) ⟨(Nat.le_of_ble_eq_true rfl), (Nat.le_of_ble_eq_true rfl)⟩) hK ((hE.kept hS.2.1).narrow (AX_lo hG)) hPX (RC_of (q := (RX1, TX1, 5)) (ci := 1) hK rfl (vpa hPX.1 0 rfl)) rfl hl.1 rfl (Nat.le_of_ble_eq_true rfl) dL_law_700 ⟨hcc, hss⟩ hS (AX_lo hG) (fun H locs _ hPX hz1 hk1 hS => ?_)
      have hE0 : EN noA s H := (hE.kept hS.2.1).narrow (fun _ h => h.elim)
      obtain ⟨v2, hv2⟩ : ∃ z, updv v 8 (diffL (v 8) (v ja) (v jb)) = z := ⟨_, rfl⟩
      rw [hv2] at hPX
      have hv8 : ∀ j, j < 8 → v2 j = v j := fun j hj => by rw [← hv2]; exact if_neg (by omega)
      have hSP2 : SP D cI cZ cJ cB as n now told v2 H := by rw [← hv2]; exact SP_8 (SP_x hG hSP hk1) _
      have hG2 : GW s.heap.size ad as v2 := GW_use hG (Us_8 hv8)
      have hwf2 : WFX n now v2 := ⟨hwf.1, hwf.2.1, fun j hj => by rw [hv8 j hj]; exact hwf.2.2 j hj⟩
      have htl : tldI v ja jb now = oI (fnd (tldF (v ja) (v jb) now) 0 60061) := (told_eq (hwl ja (by omega)) (hwl jb (by omega)) now).symm
      rw [← hv8 ja (by omega), ← hv8 jb (by omega)] at htl
      refine n_ti htl ?_
      rcases hu : fnd (tldF (v2 ja) (v2 jb) now) 0 60061 with _ | u
      · have htn := fnd_none.mp hu
        refine n_ti (y := -1) rfl ?_
        refine lv_istore (lv' := [(13, .int (-1)), (11, .int (nI jb)), (10, .int (nI ja)), (8, .int (nI now)), (7, .int (nI n)), (5, .long dg), (4, .int vv), (3, .int (nI tm)), (2, .ref a), (1, .ref (ad 0)), (0, .ref b)]) hx hb dL_law_703 hl (by decide) rfl (fun ls hl => ?_)
        refine lv_iconst (v := nI 0) hx hb dL_law_705 (by decide) ?_
        refine lv_istore (lv' := [(14, .int (nI 0)), (13, .int (-1)), (11, .int (nI jb)), (10, .int (nI ja)), (8, .int (nI now)), (7, .int (nI n)), (5, .long dg), (4, .int vv), (3, .int (nI tm)), (2, .ref a), (1, .ref (ad 0)), (0, .ref b)]) hx hb dL_law_706 hl (by decide) rfl (fun ls hl => ?_)
        have loop_708 : ∀ (fu : Nat) (d : Nat), 31 - d ≤ fu → d ≤ 30 → ∀ (ls : Array Slot), lv_has ls 19 [(14, .int (nI d)), (13, .int (-1)), (11, .int (nI jb)), (10, .int (nI ja)), (8, .int (nI now)), (7, .int (nI n)), (5, .long dg), (4, .int vv), (3, .int (nI tm)), (2, .ref a), (1, .ref (ad 0)), (0, .ref b)] → W p l e room_1 s m #[Value.ref b] below meth c H locs cells slots Q (F0 m 708 ls []) := by
          intro fu
          induction fu with
          | zero => intro d hn_708 hd; exact absurd hn_708 (by omega)
          | succ fu ih_708 =>
            intro d hn_708 hd ls hl
            refine lv_iload hx hb dL_law_708 (lv_at hl 0 rfl) ?_
            refine lv_bipush (v := nI 30) hx hb dL_law_710 (by decide) ?_
            refine n_icmp_ge (a := d) (b := 30) (tgt := 760) hx hb (by omega) (by omega) dL_law_712 (by decide) (fun c_712 => ?_) (fun c_712 => ?_)
            · refine lv_iload hx hb dL_law_760 (lv_at hl 1 rfl) ?_
              refine lv_if_lt (tgt := 802) hx hb dL_law_762 (by decide) (fun c_762 => ?_) (fun c_762 => ?_)
              · exact join_802 v2 H locs hv8 hPX hSP2 hG2 hwf2 hS ls (lv_sub hl [4, 5, 6, 7, 8, 9, 10, 11] rfl)
              · exact absurd (by decide) c_762
            · refine lv_iload hx hb dL_law_715 (lv_at hl 1 rfl) ?_
              refine lv_if_lt (tgt := 727) hx hb dL_law_717 (by decide) (fun c_717 => ?_) (fun c_717 => ?_)
              · have htd := htn d (by omega) (by omega)
                refine lv_aload_n hx hb dL_law_727 rfl (lv_at hl 10 rfl) ?_
                refine lv_iload hx hb dL_law_728 (lv_at hl 3 rfl) ?_
                refine lv_iload hx hb dL_law_730 (lv_at hl 4 rfl) ?_
                refine lv_iload hx hb dL_law_732 (lv_at hl 0 rfl) ?_
                refine n_iadd (v := nI (now + d)) hx hb dL_law_734 (nI_add _ _) ?_
                refine rV (r := bI (onB (v2 ja) (now + d))) (As := [.int (nI ja), .int (nI (now + d))]) (rest := []) ⟨hx, hb, hml, hown, hts⟩ (e_X1_isOnAt l D cI cZ cL cJ ad n now told v2 hwf2 ja (by omega) (now + d) (by omega)) (cwV 2 hts gL_law_X1_isOnAt rfl rfl rfl (by decide +kernel) ⟨(Nat.le_of_ble_eq_true rfl), (Nat.le_of_ble_eq_true rfl)⟩) hK hE0 hPX (RC_of (q := (RX1, TX1, 5)) (ci := 1) hK rfl (vpa hPX.1 0 rfl)) rfl hl.1 rfl (Nat.le_of_ble_eq_true rfl) dL_law_735 ⟨hcc, hss⟩ ?_
                refine lv_aload_n hx hb dL_law_738 rfl (lv_at hl 10 rfl) ?_
                refine lv_iload hx hb dL_law_739 (lv_at hl 2 rfl) ?_
                refine lv_iload hx hb dL_law_741 (lv_at hl 4 rfl) ?_
                refine lv_iload hx hb dL_law_743 (lv_at hl 0 rfl) ?_
                refine n_iadd (v := nI (now + d)) hx hb dL_law_745 (nI_add _ _) ?_
                refine rV (r := bI (onB (v2 jb) (now + d))) (As := [.int (nI jb), .int (nI (now + d))]) (rest := [.int (bI (onB (v2 ja) (now + d)))]) ⟨hx, hb, hml, hown, hts⟩ (e_X1_isOnAt l D cI cZ cL cJ ad n now told v2 hwf2 jb (by omega) (now + d) (by omega)) (cwV 2 hts gL_law_X1_isOnAt rfl rfl rfl (by decide +kernel) ⟨(Nat.le_of_ble_eq_true rfl), (Nat.le_of_ble_eq_true rfl)⟩) hK hE0 hPX (RC_of (q := (RX1, TX1, 5)) (ci := 1) hK rfl (vpa hPX.1 0 rfl)) rfl hl.1 rfl (Nat.le_of_ble_eq_true rfl) dL_law_746 ⟨hcc, hss⟩ ?_
                refine lv_icmp_eq (tgt := 754) hx hb dL_law_749 (by decide) (fun c_749 => ?_) (fun c_749 => ?_)
                · refine lv_iinc (v := nI (d + 1)) (lv' := [(14, .int (nI (d + 1))), (13, .int (-1)), (11, .int (nI jb)), (10, .int (nI ja)), (8, .int (nI now)), (7, .int (nI n)), (5, .long dg), (4, .int vv), (3, .int (nI tm)), (2, .ref a), (1, .ref (ad 0)), (0, .ref b)]) hx hb dL_law_754 hl (k := 0) rfl (nI_inc _) (by decide) rfl (fun ls hl => ?_)
                  refine lv_goto (tgt := 708) hx hb dL_law_757 (by decide) ?_
                  exact ih_708 (d + 1) (by omega) (by omega) ls (lv_sub hl [0, 1, 2, 3, 4, 5, 6, 7, 8, 9, 10, 11] rfl)
                · exact absurd (tld_f htd) c_749
              · exact absurd (by decide) c_717
        exact loop_708 31 0 (by omega) (by omega) ls (lv_sub hl [0, 1, 2, 3, 4, 5, 6, 7, 8, 9, 10, 11] rfl)
      · obtain ⟨hu0, hu1, hut, hmin⟩ := fnd_spec hu
        refine n_ti (y := nI u) rfl ?_
        refine lv_istore (lv' := [(13, .int (nI u)), (11, .int (nI jb)), (10, .int (nI ja)), (8, .int (nI now)), (7, .int (nI n)), (5, .long dg), (4, .int vv), (3, .int (nI tm)), (2, .ref a), (1, .ref (ad 0)), (0, .ref b)]) hx hb dL_law_703 hl (by decide) rfl (fun ls hl => ?_)
        refine lv_iconst (v := nI 0) hx hb dL_law_705 (by decide) ?_
        refine lv_istore (lv' := [(14, .int (nI 0)), (13, .int (nI u)), (11, .int (nI jb)), (10, .int (nI ja)), (8, .int (nI now)), (7, .int (nI n)), (5, .long dg), (4, .int vv), (3, .int (nI tm)), (2, .ref a), (1, .ref (ad 0)), (0, .ref b)]) hx hb dL_law_706 hl (by decide) rfl (fun ls hl => ?_)
        have loop_708 : ∀ (fu : Nat) (d : Nat), 31 - d ≤ fu → d ≤ 30 → ∀ (ls : Array Slot), lv_has ls 19 [(14, .int (nI d)), (13, .int (nI u)), (11, .int (nI jb)), (10, .int (nI ja)), (8, .int (nI now)), (7, .int (nI n)), (5, .long dg), (4, .int vv), (3, .int (nI tm)), (2, .ref a), (1, .ref (ad 0)), (0, .ref b)] → W p l e room_1 s m #[Value.ref b] below meth c H locs cells slots Q (F0 m 708 ls []) := by
          intro fu
          induction fu with
          | zero => intro d hn_708 hd; exact absurd hn_708 (by omega)
          | succ fu ih_708 =>
            intro d hn_708 hd ls hl
            refine lv_iload hx hb dL_law_708 (lv_at hl 0 rfl) ?_
            refine lv_bipush (v := nI 30) hx hb dL_law_710 (by decide) ?_
            refine n_icmp_ge (a := d) (b := 30) (tgt := 760) hx hb (by omega) (by omega) dL_law_712 (by decide) (fun c_712 => ?_) (fun c_712 => ?_)
            · refine lv_iload hx hb dL_law_760 (lv_at hl 1 rfl) ?_
              refine lv_if_lt (tgt := 802) hx hb dL_law_762 (by decide) (fun c_762 => ?_) (fun c_762 => ?_)
              · exact absurd c_762 (nn (by omega))
              · refine lv_iload hx hb dL_law_765 (lv_at hl 4 rfl) ?_
                refine lv_iload hx hb dL_law_767 (lv_at hl 1 rfl) ?_
                refine n_iadd (v := nI (now + u)) hx hb dL_law_769 (nI_add _ _) ?_
                refine lv_ldc (v := nI 60000) hx hb hown (hts (.constant RL 140 (60000)) (List.mem_of_getElem? (i := 3) rfl)) dL_law_770 ?_
                refine n_icmp_gt (a := now + u) (b := 60000) (tgt := 802) hx hb (by omega) (by omega) dL_law_772 (by decide) (fun c_772 => ?_) (fun c_772 => ?_)
                · exact join_802 v2 H locs hv8 hPX hSP2 hG2 hwf2 hS ls (lv_sub hl [4, 5, 6, 7, 8, 9, 10, 11] rfl)
                · refine lv_aload_n hx hb dL_law_775 rfl (lv_at hl 10 rfl) ?_
                  refine lv_iload hx hb dL_law_776 (lv_at hl 3 rfl) ?_
                  refine lv_iload hx hb dL_law_778 (lv_at hl 4 rfl) ?_
                  refine lv_iload hx hb dL_law_780 (lv_at hl 1 rfl) ?_
                  refine n_iadd (v := nI (now + u)) hx hb dL_law_782 (nI_add _ _) ?_
                  refine rV (r := bI (onB (v2 ja) (now + u))) (As := [.int (nI ja), .int (nI (now + u))]) (rest := []) ⟨hx, hb, hml, hown, hts⟩ (e_X1_isOnAt l D cI cZ cL cJ ad n now told v2 hwf2 ja (by omega) (now + u) (by omega)) (cwV 2 hts gL_law_X1_isOnAt rfl rfl rfl (by decide +kernel) ⟨(Nat.le_of_ble_eq_true rfl), (Nat.le_of_ble_eq_true rfl)⟩) hK hE0 hPX (RC_of (q := (RX1, TX1, 5)) (ci := 1) hK rfl (vpa hPX.1 0 rfl)) rfl hl.1 rfl (Nat.le_of_ble_eq_true rfl) dL_law_783 ⟨hcc, hss⟩ ?_
                  refine lv_aload_n hx hb dL_law_786 rfl (lv_at hl 10 rfl) ?_
                  refine lv_iload hx hb dL_law_787 (lv_at hl 2 rfl) ?_
                  refine lv_iload hx hb dL_law_789 (lv_at hl 4 rfl) ?_
                  refine lv_iload hx hb dL_law_791 (lv_at hl 1 rfl) ?_
                  refine n_iadd (v := nI (now + u)) hx hb dL_law_793 (nI_add _ _) ?_
                  refine rV (r := bI (onB (v2 jb) (now + u))) (As := [.int (nI jb), .int (nI (now + u))]) (rest := [.int (bI (onB (v2 ja) (now + u)))]) ⟨hx, hb, hml, hown, hts⟩ (e_X1_isOnAt l D cI cZ cL cJ ad n now told v2 hwf2 jb (by omega) (now + u) (by omega)) (cwV 2 hts gL_law_X1_isOnAt rfl rfl rfl (by decide +kernel) ⟨(Nat.le_of_ble_eq_true rfl), (Nat.le_of_ble_eq_true rfl)⟩) hK hE0 hPX (RC_of (q := (RX1, TX1, 5)) (ci := 1) hK rfl (vpa hPX.1 0 rfl)) rfl hl.1 rfl (Nat.le_of_ble_eq_true rfl) dL_law_794 ⟨hcc, hss⟩ ?_
                  refine lv_icmp_ne (tgt := 802) hx hb dL_law_797 (by decide) (fun c_797 => ?_) (fun c_797 => ?_)
                  · exact join_802 v2 H locs hv8 hPX hSP2 hG2 hwf2 hS ls (lv_sub hl [4, 5, 6, 7, 8, 9, 10, 11] rfl)
                  · exact absurd c_797 (tld_t hut)
            · refine lv_iload hx hb dL_law_715 (lv_at hl 1 rfl) ?_
              refine lv_if_lt (tgt := 727) hx hb dL_law_717 (by decide) (fun c_717 => ?_) (fun c_717 => ?_)
              · exact absurd c_717 (nn (by omega))
              · refine lv_iload hx hb dL_law_720 (lv_at hl 0 rfl) ?_
                refine lv_iload hx hb dL_law_722 (lv_at hl 1 rfl) ?_
                refine n_icmp_ge (a := d) (b := u) (tgt := 760) hx hb (by omega) (by omega) dL_law_724 (by decide) (fun c_724 => ?_) (fun c_724 => ?_)
                · refine lv_iload hx hb dL_law_760 (lv_at hl 1 rfl) ?_
                  refine lv_if_lt (tgt := 802) hx hb dL_law_762 (by decide) (fun c_762 => ?_) (fun c_762 => ?_)
                  · exact absurd c_762 (nn (by omega))
                  · refine lv_iload hx hb dL_law_765 (lv_at hl 4 rfl) ?_
                    refine lv_iload hx hb dL_law_767 (lv_at hl 1 rfl) ?_
                    refine n_iadd (v := nI (now + u)) hx hb dL_law_769 (nI_add _ _) ?_
                    refine lv_ldc (v := nI 60000) hx hb hown (hts (.constant RL 140 (60000)) (List.mem_of_getElem? (i := 3) rfl)) dL_law_770 ?_
                    refine n_icmp_gt (a := now + u) (b := 60000) (tgt := 802) hx hb (by omega) (by omega) dL_law_772 (by decide) (fun c_772 => ?_) (fun c_772 => ?_)
                    · exact join_802 v2 H locs hv8 hPX hSP2 hG2 hwf2 hS ls (lv_sub hl [4, 5, 6, 7, 8, 9, 10, 11] rfl)
                    · refine lv_aload_n hx hb dL_law_775 rfl (lv_at hl 10 rfl) ?_
                      refine lv_iload hx hb dL_law_776 (lv_at hl 3 rfl) ?_
                      refine lv_iload hx hb dL_law_778 (lv_at hl 4 rfl) ?_
                      refine lv_iload hx hb dL_law_780 (lv_at hl 1 rfl) ?_
                      refine n_iadd (v := nI (now + u)) hx hb dL_law_782 (nI_add _ _) ?_
                      refine rV (r := bI (onB (v2 ja) (now + u))) (As := [.int (nI ja), .int (nI (now + u))]) (rest := []) ⟨hx, hb, hml, hown, hts⟩ (e_X1_isOnAt l D cI cZ cL cJ ad n now told v2 hwf2 ja (by omega) (now + u) (by omega)) (cwV 2 hts gL_law_X1_isOnAt rfl rfl rfl (by decide +kernel) ⟨(Nat.le_of_ble_eq_true rfl), (Nat.le_of_ble_eq_true rfl)⟩) hK hE0 hPX (RC_of (q := (RX1, TX1, 5)) (ci := 1) hK rfl (vpa hPX.1 0 rfl)) rfl hl.1 rfl (Nat.le_of_ble_eq_true rfl) dL_law_783 ⟨hcc, hss⟩ ?_
                      refine lv_aload_n hx hb dL_law_786 rfl (lv_at hl 10 rfl) ?_
                      refine lv_iload hx hb dL_law_787 (lv_at hl 2 rfl) ?_
                      refine lv_iload hx hb dL_law_789 (lv_at hl 4 rfl) ?_
                      refine lv_iload hx hb dL_law_791 (lv_at hl 1 rfl) ?_
                      refine n_iadd (v := nI (now + u)) hx hb dL_law_793 (nI_add _ _) ?_
                      refine rV (r := bI (onB (v2 jb) (now + u))) (As := [.int (nI jb), .int (nI (now + u))]) (rest := [.int (bI (onB (v2 ja) (now + u)))]) ⟨hx, hb, hml, hown, hts⟩ (e_X1_isOnAt l D cI cZ cL cJ ad n now told v2 hwf2 jb (by omega) (now + u) (by omega)) (cwV 2 hts gL_law_X1_isOnAt rfl rfl rfl (by decide +kernel) ⟨(Nat.le_of_ble_eq_true rfl), (Nat.le_of_ble_eq_true rfl)⟩) hK hE0 hPX (RC_of (q := (RX1, TX1, 5)) (ci := 1) hK rfl (vpa hPX.1 0 rfl)) rfl hl.1 rfl (Nat.le_of_ble_eq_true rfl) dL_law_794 ⟨hcc, hss⟩ ?_
                      refine lv_icmp_ne (tgt := 802) hx hb dL_law_797 (by decide) (fun c_797 => ?_) (fun c_797 => ?_)
                      · exact join_802 v2 H locs hv8 hPX hSP2 hG2 hwf2 hS ls (lv_sub hl [4, 5, 6, 7, 8, 9, 10, 11] rfl)
                      · exact absurd c_797 (tld_t hut)
                · have htd := hmin d (by omega) (by omega)
                  refine lv_aload_n hx hb dL_law_727 rfl (lv_at hl 10 rfl) ?_
                  refine lv_iload hx hb dL_law_728 (lv_at hl 3 rfl) ?_
                  refine lv_iload hx hb dL_law_730 (lv_at hl 4 rfl) ?_
                  refine lv_iload hx hb dL_law_732 (lv_at hl 0 rfl) ?_
                  refine n_iadd (v := nI (now + d)) hx hb dL_law_734 (nI_add _ _) ?_
                  refine rV (r := bI (onB (v2 ja) (now + d))) (As := [.int (nI ja), .int (nI (now + d))]) (rest := []) ⟨hx, hb, hml, hown, hts⟩ (e_X1_isOnAt l D cI cZ cL cJ ad n now told v2 hwf2 ja (by omega) (now + d) (by omega)) (cwV 2 hts gL_law_X1_isOnAt rfl rfl rfl (by decide +kernel) ⟨(Nat.le_of_ble_eq_true rfl), (Nat.le_of_ble_eq_true rfl)⟩) hK hE0 hPX (RC_of (q := (RX1, TX1, 5)) (ci := 1) hK rfl (vpa hPX.1 0 rfl)) rfl hl.1 rfl (Nat.le_of_ble_eq_true rfl) dL_law_735 ⟨hcc, hss⟩ ?_
                  refine lv_aload_n hx hb dL_law_738 rfl (lv_at hl 10 rfl) ?_
                  refine lv_iload hx hb dL_law_739 (lv_at hl 2 rfl) ?_
                  refine lv_iload hx hb dL_law_741 (lv_at hl 4 rfl) ?_
                  refine lv_iload hx hb dL_law_743 (lv_at hl 0 rfl) ?_
                  refine n_iadd (v := nI (now + d)) hx hb dL_law_745 (nI_add _ _) ?_
                  refine rV (r := bI (onB (v2 jb) (now + d))) (As := [.int (nI jb), .int (nI (now + d))]) (rest := [.int (bI (onB (v2 ja) (now + d)))]) ⟨hx, hb, hml, hown, hts⟩ (e_X1_isOnAt l D cI cZ cL cJ ad n now told v2 hwf2 jb (by omega) (now + d) (by omega)) (cwV 2 hts gL_law_X1_isOnAt rfl rfl rfl (by decide +kernel) ⟨(Nat.le_of_ble_eq_true rfl), (Nat.le_of_ble_eq_true rfl)⟩) hK hE0 hPX (RC_of (q := (RX1, TX1, 5)) (ci := 1) hK rfl (vpa hPX.1 0 rfl)) rfl hl.1 rfl (Nat.le_of_ble_eq_true rfl) dL_law_746 ⟨hcc, hss⟩ ?_
                  refine lv_icmp_eq (tgt := 754) hx hb dL_law_749 (by decide) (fun c_749 => ?_) (fun c_749 => ?_)
                  · refine lv_iinc (v := nI (d + 1)) (lv' := [(14, .int (nI (d + 1))), (13, .int (nI u)), (11, .int (nI jb)), (10, .int (nI ja)), (8, .int (nI now)), (7, .int (nI n)), (5, .long dg), (4, .int vv), (3, .int (nI tm)), (2, .ref a), (1, .ref (ad 0)), (0, .ref b)]) hx hb dL_law_754 hl (k := 0) rfl (nI_inc _) (by decide) rfl (fun ls hl => ?_)
                    refine lv_goto (tgt := 708) hx hb dL_law_757 (by decide) ?_
                    exact ih_708 (d + 1) (by omega) (by omega) ls (lv_sub hl [0, 1, 2, 3, 4, 5, 6, 7, 8, 9, 10, 11] rfl)
                  · exact absurd (tld_f htd) c_749
        exact loop_708 31 0 (by omega) (by omega) ls (lv_sub hl [0, 1, 2, 3, 4, 5, 6, 7, 8, 9, 10, 11] rfl)
    refine rV (r := (oI (fnd (fun z => colB v ja jb (now + z)) 1 1000))) (As := [.int (nI ja), .int (nI jb)]) (rest := []) ⟨hx, hb, hml, hown, hts⟩ (e_X1_momentsUntilCollision l D cI cZ cL cJ ad n now told v hwf ja jb (by omega) hjb hne) (cwV 2 hts gL_law_X1_momentsUntilCollision rfl rfl rfl (by decide +kernel) ⟨(Nat.le_of_ble_eq_true rfl), (Nat.le_of_ble_eq_true rfl)⟩) hK hE0 hPX (RC_of (q := (RX1, TX1, 5)) (ci := 1) hK rfl (vpa hPX.1 0 rfl)) rfl hl.1 rfl (Nat.le_of_ble_eq_true rfl) dL_law_576 ⟨hcc, hss⟩ ?_
    rcases hu : fnd (fun z => colB v ja jb (now + z)) 1 1000 with _ | u
    · refine n_ti (y := -1) rfl ?_
      refine lv_istore (lv' := [(12, .int (-1)), (11, .int (nI jb)), (10, .int (nI ja)), (8, .int (nI now)), (7, .int (nI n)), (5, .long dg), (4, .int vv), (3, .int (nI tm)), (2, .ref a), (1, .ref (ad 0)), (0, .ref b)]) hx hb dL_law_579 hl (by decide) rfl (fun ls hl => ?_)
      refine lv_iload hx hb dL_law_581 (lv_at hl 0 rfl) ?_
      refine lv_if_le (tgt := 669) hx hb dL_law_583 (by decide) (fun c_583 => ?_) (fun c_583 => ?_)
      · refine lv_iload hx hb dL_law_669 (lv_at hl 0 rfl) ?_
        refine lv_if_eq (tgt := 693) hx hb dL_law_671 (by decide) (fun c_671 => ?_) (fun c_671 => ?_)
        · exact absurd c_671 (by decide)
        · refine lv_iload hx hb dL_law_674 (lv_at hl 0 rfl) ?_
          refine lv_if_ge (tgt := 695) hx hb dL_law_676 (by decide) (fun c_676 => ?_) (fun c_676 => ?_)
          · exact absurd c_676 (by decide)
          · refine lv_aload_n hx hb dL_law_679 rfl (lv_at hl 9 rfl) ?_
            refine lv_iload hx hb dL_law_680 (lv_at hl 2 rfl) ?_
            refine lv_iload hx hb dL_law_682 (lv_at hl 1 rfl) ?_
            refine lv_sipush (v := nI 500) hx hb dL_law_684 (by decide) ?_
            refine rV (r := nI (cnt (fun z => colB v ja jb (now + (z + 1))) 500)) (As := [.int (nI ja), .int (nI jb), .int (nI 500)]) (rest := []) ⟨hx, hb, hml, hown, hts⟩ (e_X1_collisionsWithin l D cI cZ cL cJ ad n now told v hwf ja jb (by omega) hjb hne 500 (by decide) (by decide)) (cwV 3 hts gL_law_X1_collisionsWithin rfl rfl rfl (by decide +kernel) ⟨(Nat.le_of_ble_eq_true rfl), (Nat.le_of_ble_eq_true rfl)⟩) hK hE0 hPX (RC_of (q := (RX1, TX1, 5)) (ci := 1) hK rfl (vpa hPX.1 0 rfl)) rfl hl.1 rfl (Nat.le_of_ble_eq_true rfl) dL_law_687 ⟨hcc, hss⟩ ?_
            refine n_ti (y := nI 0) (by rw [col_none hu]) ?_
            refine n_if_eq (a := 0) (tgt := 695) hx hb (by decide) dL_law_690 (by decide) (fun c_690 => ?_) (fun c_690 => ?_)
            · exact join_695 ls (lv_sub hl [1, 2, 3, 4, 5, 6, 7, 8, 9, 10] rfl)
            · exact absurd rfl c_690
      · exact absurd (by decide) c_583
    · refine n_ti (y := nI u) rfl ?_
      obtain ⟨hu1, hu2, hcol, hc1, hc0⟩ := col_some hu
      have hcab := (Bool.and_eq_true_iff (x := chgB (v ja) (now + u)) (y := chgB (v jb) (now + u))).mp hcol
      have hca : strk (v ja) (now + u) (lbc (v ja)) % 2 = 1 := of_decide_eq_true hcab.1
      have hcb : strk (v jb) (now + u) (lbc (v jb)) % 2 = 1 := of_decide_eq_true hcab.2
      have hA4 := (hwl ja (by omega)).1
      have hB4 := (hwl jb (by omega)).1
      have hsa := strk_le (v ja) (now + u) (lbc (v ja))
      have hsb := strk_le (v jb) (now + u) (lbc (v jb))
      refine lv_istore (lv' := [(12, .int (nI u)), (11, .int (nI jb)), (10, .int (nI ja)), (8, .int (nI now)), (7, .int (nI n)), (5, .long dg), (4, .int vv), (3, .int (nI tm)), (2, .ref a), (1, .ref (ad 0)), (0, .ref b)]) hx hb dL_law_579 hl (by decide) rfl (fun ls hl => ?_)
      refine lv_iload hx hb dL_law_581 (lv_at hl 0 rfl) ?_
      refine n_if_le (a := u) (tgt := 669) hx hb (by omega) dL_law_583 (by decide) (fun c_583 => ?_) (fun c_583 => ?_)
      · exact absurd c_583 (by omega)
      · refine lv_aload_n hx hb dL_law_586 rfl (lv_at hl 9 rfl) ?_
        refine lv_iload hx hb dL_law_587 (lv_at hl 2 rfl) ?_
        refine lv_iload hx hb dL_law_589 (lv_at hl 3 rfl) ?_
        refine lv_iload hx hb dL_law_591 (lv_at hl 0 rfl) ?_
        refine n_iadd (v := nI (now + u)) hx hb dL_law_593 (nI_add _ _) ?_
        refine rV (r := nI (strk (v ja) (now + u) (lbc (v ja)))) (As := [.int (nI ja), .int (nI (now + u))]) (rest := []) ⟨hx, hb, hml, hown, hts⟩ (e_X1_strikesAt l D cI cZ cL cJ ad n now told v hwf ja (by omega) (now + u) (by omega)) (cwV 2 hts gL_law_X1_strikesAt rfl rfl rfl (by decide +kernel) ⟨(Nat.le_of_ble_eq_true rfl), (Nat.le_of_ble_eq_true rfl)⟩) hK hE0 hPX (RC_of (q := (RX1, TX1, 5)) (ci := 1) hK rfl (vpa hPX.1 0 rfl)) rfl hl.1 rfl (Nat.le_of_ble_eq_true rfl) dL_law_594 ⟨hcc, hss⟩ ?_
        refine lv_iconst (v := nI 2) hx hb dL_law_597 (by decide) ?_
        refine n_irem (a := strk (v ja) (now + u) (lbc (v ja))) (d := 2) hx hb dL_law_598 (by omega) (by omega) (by omega) ?_
        refine n_if_eq (a := (strk (v ja) (now + u) (lbc (v ja))) % 2) (tgt := 693) hx hb (by omega) dL_law_599 (by decide) (fun c_599 => ?_) (fun c_599 => ?_)
        · exact absurd c_599 (by omega)
        · refine lv_aload_n hx hb dL_law_602 rfl (lv_at hl 9 rfl) ?_
          refine lv_iload hx hb dL_law_603 (lv_at hl 1 rfl) ?_
          refine lv_iload hx hb dL_law_605 (lv_at hl 3 rfl) ?_
          refine lv_iload hx hb dL_law_607 (lv_at hl 0 rfl) ?_
          refine n_iadd (v := nI (now + u)) hx hb dL_law_609 (nI_add _ _) ?_
          refine rV (r := nI (strk (v jb) (now + u) (lbc (v jb)))) (As := [.int (nI jb), .int (nI (now + u))]) (rest := []) ⟨hx, hb, hml, hown, hts⟩ (e_X1_strikesAt l D cI cZ cL cJ ad n now told v hwf jb (by omega) (now + u) (by omega)) (cwV 2 hts gL_law_X1_strikesAt rfl rfl rfl (by decide +kernel) ⟨(Nat.le_of_ble_eq_true rfl), (Nat.le_of_ble_eq_true rfl)⟩) hK hE0 hPX (RC_of (q := (RX1, TX1, 5)) (ci := 1) hK rfl (vpa hPX.1 0 rfl)) rfl hl.1 rfl (Nat.le_of_ble_eq_true rfl) dL_law_610 ⟨hcc, hss⟩ ?_
          refine lv_iconst (v := nI 2) hx hb dL_law_613 (by decide) ?_
          refine n_irem (a := strk (v jb) (now + u) (lbc (v jb))) (d := 2) hx hb dL_law_614 (by omega) (by omega) (by omega) ?_
          refine n_if_eq (a := (strk (v jb) (now + u) (lbc (v jb))) % 2) (tgt := 693) hx hb (by omega) dL_law_615 (by decide) (fun c_615 => ?_) (fun c_615 => ?_)
          · exact absurd c_615 (by omega)
          · refine lv_iload hx hb dL_law_618 (lv_at hl 0 rfl) ?_
            refine lv_sipush (v := nI 500) hx hb dL_law_620 (by decide) ?_
            have join_640 : ∀ (ls : Array Slot), lv_has ls 19 [(12, .int (nI u)), (11, .int (nI jb)), (10, .int (nI ja)), (8, .int (nI now)), (7, .int (nI n)), (5, .long dg), (4, .int vv), (3, .int (nI tm)), (2, .ref a), (1, .ref (ad 0)), (0, .ref b)] → W p l e room_1 s m #[Value.ref b] below meth c H locs cells slots Q (F0 m 640 ls []) := by
              intro   ls hl
              refine lv_iload hx hb dL_law_640 (lv_at hl 0 rfl) ?_
              refine lv_iconst (v := nI 1) hx hb dL_law_642 (by decide) ?_
              have join_669 : ∀ (ls : Array Slot), lv_has ls 19 [(12, .int (nI u)), (11, .int (nI jb)), (10, .int (nI ja)), (8, .int (nI now)), (7, .int (nI n)), (5, .long dg), (4, .int vv), (3, .int (nI tm)), (2, .ref a), (1, .ref (ad 0)), (0, .ref b)] → W p l e room_1 s m #[Value.ref b] below meth c H locs cells slots Q (F0 m 669 ls []) := by
                intro   ls hl
                refine lv_iload hx hb dL_law_669 (lv_at hl 0 rfl) ?_
                refine n_if_eq (a := u) (tgt := 693) hx hb (by omega) dL_law_671 (by decide) (fun c_671 => ?_) (fun c_671 => ?_)
                · exact absurd c_671 (by omega)
                · refine lv_iload hx hb dL_law_674 (lv_at hl 0 rfl) ?_
                  refine lv_if_ge (tgt := 695) hx hb dL_law_676 (by decide) (fun c_676 => ?_) (fun c_676 => ?_)
                  · exact join_695 ls (lv_sub hl [1, 2, 3, 4, 5, 6, 7, 8, 9, 10] rfl)
                  · exact absurd (nI_pos' (by omega)) c_676
              refine n_icmp_le (a := u) (b := 1) (tgt := 669) hx hb (by omega) (by omega) dL_law_643 (by decide) (fun c_643 => ?_) (fun c_643 => ?_)
              · exact join_669 ls (lv_sub hl [0, 1, 2, 3, 4, 5, 6, 7, 8, 9, 10] rfl)
              · refine lv_iload hx hb dL_law_646 (lv_at hl 0 rfl) ?_
                refine lv_sipush (v := nI 501) hx hb dL_law_648 (by decide) ?_
                refine n_icmp_gt (a := u) (b := 501) (tgt := 669) hx hb (by omega) (by omega) dL_law_651 (by decide) (fun c_651 => ?_) (fun c_651 => ?_)
                · exact join_669 ls (lv_sub hl [0, 1, 2, 3, 4, 5, 6, 7, 8, 9, 10] rfl)
                · refine lv_aload_n hx hb dL_law_654 rfl (lv_at hl 9 rfl) ?_
                  refine lv_iload hx hb dL_law_655 (lv_at hl 2 rfl) ?_
                  refine lv_iload hx hb dL_law_657 (lv_at hl 1 rfl) ?_
                  refine lv_iload hx hb dL_law_659 (lv_at hl 0 rfl) ?_
                  refine lv_iconst (v := nI 1) hx hb dL_law_661 (by decide) ?_
                  refine n_isub (v := nI (u - 1)) hx hb dL_law_662 (pk_sub (by omega)) ?_
                  refine rV (r := nI (cnt (fun z => colB v ja jb (now + (z + 1))) (u - 1))) (As := [.int (nI ja), .int (nI jb), .int (nI (u - 1))]) (rest := []) ⟨hx, hb, hml, hown, hts⟩ (e_X1_collisionsWithin l D cI cZ cL cJ ad n now told v hwf ja jb (by omega) hjb hne (u - 1) (by omega) (by omega)) (cwV 3 hts gL_law_X1_collisionsWithin rfl rfl rfl (by decide +kernel) ⟨(Nat.le_of_ble_eq_true rfl), (Nat.le_of_ble_eq_true rfl)⟩) hK hE0 hPX (RC_of (q := (RX1, TX1, 5)) (ci := 1) hK rfl (vpa hPX.1 0 rfl)) rfl hl.1 rfl (Nat.le_of_ble_eq_true rfl) dL_law_663 ⟨hcc, hss⟩ ?_
                  refine n_if_ne (a := cnt (fun z => colB v ja jb (now + (z + 1))) (u - 1)) (tgt := 693) hx hb (Nat.lt_of_le_of_lt (cnt_le _ _) (by omega)) dL_law_666 (by decide) (fun c_666 => ?_) (fun c_666 => ?_)
                  · exact absurd hc0 c_666
                  · exact join_669 ls (lv_sub hl [0, 1, 2, 3, 4, 5, 6, 7, 8, 9, 10] rfl)
            refine n_icmp_gt (a := u) (b := 500) (tgt := 640) hx hb (by omega) (by omega) dL_law_623 (by decide) (fun c_623 => ?_) (fun c_623 => ?_)
            · exact join_640 ls (lv_sub hl [0, 1, 2, 3, 4, 5, 6, 7, 8, 9, 10] rfl)
            · refine lv_aload_n hx hb dL_law_626 rfl (lv_at hl 9 rfl) ?_
              refine lv_iload hx hb dL_law_627 (lv_at hl 2 rfl) ?_
              refine lv_iload hx hb dL_law_629 (lv_at hl 1 rfl) ?_
              refine lv_iload hx hb dL_law_631 (lv_at hl 0 rfl) ?_
              refine rV (r := nI (cnt (fun z => colB v ja jb (now + (z + 1))) u)) (As := [.int (nI ja), .int (nI jb), .int (nI u)]) (rest := []) ⟨hx, hb, hml, hown, hts⟩ (e_X1_collisionsWithin l D cI cZ cL cJ ad n now told v hwf ja jb (by omega) hjb hne u (by omega) (by omega)) (cwV 3 hts gL_law_X1_collisionsWithin rfl rfl rfl (by decide +kernel) ⟨(Nat.le_of_ble_eq_true rfl), (Nat.le_of_ble_eq_true rfl)⟩) hK hE0 hPX (RC_of (q := (RX1, TX1, 5)) (ci := 1) hK rfl (vpa hPX.1 0 rfl)) rfl hl.1 rfl (Nat.le_of_ble_eq_true rfl) dL_law_633 ⟨hcc, hss⟩ ?_
              refine lv_iconst (v := nI 1) hx hb dL_law_636 (by decide) ?_
              refine n_icmp_ne (a := cnt (fun z => colB v ja jb (now + (z + 1))) u) (b := 1) (tgt := 693) hx hb (Nat.lt_of_le_of_lt (cnt_le _ _) (by omega)) (by decide) dL_law_637 (by decide) (fun c_637 => ?_) (fun c_637 => ?_)
              · exact absurd hc1 c_637
              · exact join_640 ls (lv_sub hl [0, 1, 2, 3, 4, 5, 6, 7, 8, 9, 10] rfl)
end Law
