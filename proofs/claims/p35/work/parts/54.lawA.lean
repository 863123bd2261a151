/-! the law's body: what holds throughout -/
def LC (p : Program) (l : Launch) (s : State) (m : MethodId) (c : Code) (b L : Nat) (xs : Nat → Int32) (D : va_G) (cI cZ cL cJ cB : ClassId) : Prop :=
  p.tables.exec = Jvm.exec ∧ c.code = cL_law ∧ c.maxLocals = 19 ∧ s.vm.findClass RL = some m.cls ∧ (∀ w ∈ wsL_law, w.before #[Value.ref b] s = true) ∧ va_K D vwCl (TY cI cZ cL cJ) s ∧ EN (fun q => s.heap.size ≤ q) s s.heap ∧ EA D cB s ∧ EL (fun q => s.heap.size ≤ q) s s.heap ∧ va_X b L xs s s.heap ∧ b < s.heap.size ∧ l.stackTraces = false
theorem un_ge {L : LV} {t : Nat} (h : WFL 4 L) (c : 0 ≤ untC L t) : ¬ cyc L = 1 ∧ untC L t = nI (lookN L t) := by
  rcases unt_cases h t with ⟨c1, c2, c3⟩ | ⟨u, u1, u2, u3, u4, u5, u6⟩
  · rw [c2] at c; exact absurd c (by decide)
  · exact ⟨u3, by rw [u5, u6]⟩
theorem un_lt {L : LV} {t : Nat} (h : WFL 4 L) (c : ¬ 0 ≤ untC L t) : cyc L = 1 ∧ lookN L t = 20 := by
  rcases unt_cases h t with ⟨c1, c2, c3⟩ | ⟨u, u1, u2, u3, u4, u5, u6⟩
  · exact ⟨c1, c3⟩
  · rw [u5] at c; exact absurd (nI_pos' (by omega)) c
theorem un_ne {L : LV} {t : Nat} (h : WFL 4 L) : ¬ untC L t = 0 := by
  rcases unt_cases h t with ⟨c1, c2, c3⟩ | ⟨u, u1, u2, u3, u4, u5, u6⟩
  · rw [c2]; decide
  · rw [u5]; exact fun z => absurd (nI_inj (by omega) (by decide) (show nI u = nI 0 from z)) (by omega)
theorem un_m1 {L : LV} {t : Nat} (h : WFL 4 L) : -1 ≤ untC L t := by
  rcases unt_cases h t with ⟨c1, c2, c3⟩ | ⟨u, u1, u2, u3, u4, u5, u6⟩
  · rw [c2]; decide
  · rw [u5]; exact Int32.le_trans (by decide) (nI_pos' (by omega))
theorem lk_bd {L : LV} {t : Nat} (h : WFL 4 L) : lookN L t ≤ 28561 := by
  rcases unt_cases h t with ⟨c1, c2, c3⟩ | ⟨u, u1, u2, u3, u4, u5, u6⟩ <;> omega
section Law
variable {p : Program} {l : Launch} {e : Env} {s : State} {m : MethodId} {below : List Frame} {meth : Method} {c : Code} {Q : State → Prop} {b L : Nat} {xs : Nat → Int32} {D : va_G} {cI cZ cL cJ cB : ClassId} {a : Nat} {ad : Nat → Nat} {n now tm : Nat} {told vv : Int32} {dg : Int64} {v : Nat → LV} {H : Heap} {locs : List Loc} {cells slots : Nat} {ls : Array Slot}
set_option maxHeartbeats 16000000 in
set_option maxRecDepth 100000 in
/-- the cycle of the lamp that is chosen, and what it shows -/
theorem kA_306 (hC : LC p l s m c b L xs D cI cZ cL cJ cB)  (hwf : WFX n now v) (hn1 : 1 ≤ n) (hnow6 : now ≤ 6000) (hcc : cells ≤ 600130) (hss : slots ≤ 7301080) (hPX : PX D cI cL ad n now told v H) (hE0 : EN noA s H) {j : Nat} (hj : j < n) (hl : lv_has ls 19 [(10, .int (nI j)), (9, .int (nI (litN v (j + 1) now))), (8, .int (nI now)), (7, .int (nI n)), (5, .long dg), (4, .int vv), (3, .int (nI tm)), (2, .ref a), (1, .ref (ad 0)), (0, .ref b)]) (join_479 : ∀ (ls : Array Slot), lv_has ls 19 [(10, .int (nI j)), (9, .int (nI (litN v (j + 1) now))), (8, .int (nI now)), (7, .int (nI n)), (5, .long dg), (4, .int vv), (3, .int (nI tm)), (2, .ref a), (1, .ref (ad 0)), (0, .ref b)] → W p l e room_1 s m #[Value.ref b] below meth c H locs cells slots Q (F0 m 479 ls [])) : W p l e room_1 s m #[Value.ref b] below meth c H locs cells slots Q (F0 m 306 ls []) := by
  obtain ⟨hx, hb, hml, hown, hts, hK, hE, hEA, hEL, hX, hbl, hst⟩ := hC
  have hn8 := hwf.1
  have hwl := hwf.2.2
  have hwj := hwl j (by omega)
  have hcy := cyc_bd4 hwj
  refine lv_iload hx hb dL_law_306 (lv_at hl 0 rfl) ?_
  refine lv_iload hx hb dL_law_308 (lv_at hl 5 rfl) ?_
  refine lv_iconst (v := nI 4) hx hb dL_law_310 (by decide) ?_
  refine lv_ishr hx hb dL_law_311 ?_
  obtain ⟨x4, hx4⟩ : ∃ y, vv >>> (nI 4 &&& 31) = y := ⟨_, rfl⟩
  refine n_ti hx4 ?_
  refine lv_iload hx hb dL_law_312 (lv_at hl 3 rfl) ?_
  refine rS (r := nI (blw x4 n)) (As := [.int x4, .int (nI n)]) (rest := [.int (nI j)]) ⟨hx, hb, hml, hown, hts⟩ (c_L_below l D cI cZ cL cJ x4 n hn1 (by omega)) (va_cwS 2 hts gL_law_L_below rfl rfl rfl (by decide +kernel) ⟨(Nat.le_of_ble_eq_true rfl), (Nat.le_of_ble_eq_true rfl)⟩) hK hE0 trivial rfl hl.1 rfl (Nat.le_of_ble_eq_true rfl) dL_law_314 ⟨hcc, hss⟩ ?_
  obtain ⟨y4, hy4, e_y4⟩ : ∃ y, y < n ∧ blw x4 n = y := ⟨_, blw_lt _ hn1, rfl⟩
  rw [e_y4]
  refine n_icmp_ne (a := j) (b := y4) (tgt := 479) hx hb (by omega) (by omega) dL_law_317 (by decide) (fun c_317 => ?_) (fun c_317 => ?_)
  · exact join_479 ls (lv_sub hl [0, 1, 2, 3, 4, 5, 6, 7, 8, 9] rfl)
  · refine lv_aload_n hx hb dL_law_320 rfl (lv_at hl 8 rfl) ?_
    refine lv_iload hx hb dL_law_321 (lv_at hl 0 rfl) ?_
    refine rV (r := nI (cyc (v j))) (As := [.int (nI j)]) (rest := []) ⟨hx, hb, hml, hown, hts⟩ (e_X1_cycleOf l D cI cZ cL cJ ad n now told v hwf j hj) (cwV 1 hts gL_law_X1_cycleOf rfl rfl rfl (by decide +kernel) ⟨(Nat.le_of_ble_eq_true rfl), (Nat.le_of_ble_eq_true rfl)⟩) hK hE0 hPX (RC_of (q := (RX1, TX1, 5)) (ci := 1) hK rfl (vpa hPX.1 0 rfl)) rfl hl.1 rfl (Nat.le_of_ble_eq_true rfl) dL_law_323 ⟨hcc, hss⟩ ?_
    refine lv_istore (lv' := [(13, .int (nI (cyc (v j)))), (10, .int (nI j)), (9, .int (nI (litN v (j + 1) now))), (8, .int (nI now)), (7, .int (nI n)), (5, .long dg), (4, .int vv), (3, .int (nI tm)), (2, .ref a), (1, .ref (ad 0)), (0, .ref b)]) hx hb dL_law_326 hl (by decide) rfl (fun ls hl => ?_)
    refine lv_iload hx hb dL_law_328 (lv_at hl 0 rfl) ?_
    refine lv_iconst (v := nI 1) hx hb dL_law_330 (by decide) ?_
    refine n_icmp_lt (a := cyc (v j)) (b := 1) (tgt := 354) hx hb (by omega) (by omega) dL_law_331 (by decide) (fun c_331 => ?_) (fun c_331 => ?_)
    · exact absurd c_331 (by omega)
    · refine lv_iload hx hb dL_law_334 (lv_at hl 0 rfl) ?_
      refine lv_iconst (v := nI 1) hx hb dL_law_336 (by decide) ?_
      have join_345 : ∀ (ls : Array Slot), lv_has ls 19 [(13, .int (nI (cyc (v j)))), (10, .int (nI j)), (9, .int (nI (litN v (j + 1) now))), (8, .int (nI now)), (7, .int (nI n)), (5, .long dg), (4, .int vv), (3, .int (nI tm)), (2, .ref a), (1, .ref (ad 0)), (0, .ref b)] → W p l e room_1 s m #[Value.ref b] below meth c H locs cells slots Q (F0 m 345 ls [.int (bI (decide (cyc (v j) = 1)))]) := by
        intro   ls hl
        refine lv_aload_n hx hb dL_law_345 rfl (lv_at hl 9 rfl) ?_
        refine lv_iload hx hb dL_law_346 (lv_at hl 1 rfl) ?_
        refine rV (r := bI (decide (cyc (v j) = 1))) (As := [.int (nI j)]) (rest := [.int (bI (decide (cyc (v j) = 1)))]) ⟨hx, hb, hml, hown, hts⟩ (e_X1_isSteady l D cI cZ cL cJ ad n now told v hwf j hj) (cwV 1 hts gL_law_X1_isSteady rfl rfl rfl (by decide +kernel) ⟨(Nat.le_of_ble_eq_true rfl), (Nat.le_of_ble_eq_true rfl)⟩) hK hE0 hPX (RC_of (q := (RX1, TX1, 5)) (ci := 1) hK rfl (vpa hPX.1 0 rfl)) rfl hl.1 rfl (Nat.le_of_ble_eq_true rfl) dL_law_348 ⟨hcc, hss⟩ ?_
        refine lv_icmp_eq (tgt := 356) hx hb dL_law_351 (by decide) (fun c_351 => ?_) (fun c_351 => ?_)
        · refine lv_iconst (v := nI 0) hx hb dL_law_356 (by decide) ?_
          refine lv_istore (lv' := [(14, .int (nI 0)), (13, .int (nI (cyc (v j)))), (10, .int (nI j)), (9, .int (nI (litN v (j + 1) now))), (8, .int (nI now)), (7, .int (nI n)), (5, .long dg), (4, .int vv), (3, .int (nI tm)), (2, .ref a), (1, .ref (ad 0)), (0, .ref b)]) hx hb dL_law_357 hl (by decide) rfl (fun ls hl => ?_)
          have loop_359 : ∀ (fu : Nat) (d : Nat), 21 - d ≤ fu → d ≤ 20 → ∀ (ls : Array Slot), lv_has ls 19 [(14, .int (nI d)), (13, .int (nI (cyc (v j)))), (10, .int (nI j)), (9, .int (nI (litN v (j + 1) now))), (8, .int (nI now)), (7, .int (nI n)), (5, .long dg), (4, .int vv), (3, .int (nI tm)), (2, .ref a), (1, .ref (ad 0)), (0, .ref b)] → W p l e room_1 s m #[Value.ref b] below meth c H locs cells slots Q (F0 m 359 ls []) := by
            intro fu
            induction fu with
            | zero => intro d hn_359 hd; exact absurd hn_359 (by omega)
            | succ fu ih_359 =>
              intro d hn_359 hd ls hl
              refine lv_iload hx hb dL_law_359 (lv_at hl 0 rfl) ?_
              refine lv_bipush (v := nI 20) hx hb dL_law_361 (by decide) ?_
              refine n_icmp_ge (a := d) (b := 20) (tgt := 402) hx hb (by omega) (by omega) dL_law_363 (by decide) (fun c_363 => ?_) (fun c_363 => ?_)
              · refine lv_iconst (v := nI 1) hx hb dL_law_402 (by decide) ?_
                refine lv_iload hx hb dL_law_403 (lv_at hl 7 rfl) ?_
                refine lv_bipush (v := nI 6) hx hb dL_law_405 (by decide) ?_
                refine lv_ishr hx hb dL_law_407 ?_
                obtain ⟨x6, hx6⟩ : ∃ y, vv >>> (nI 6 &&& 31) = y := ⟨_, rfl⟩
                refine n_ti hx6 ?_
                refine lv_bipush (v := nI 30) hx hb dL_law_408 (by decide) ?_
                refine rS (r := nI (blw x6 30)) (As := [.int x6, .int (nI 30)]) (rest := [.int (nI 1)]) ⟨hx, hb, hml, hown, hts⟩ (c_L_below l D cI cZ cL cJ x6 30 (by decide) (by omega)) (va_cwS 2 hts gL_law_L_below rfl rfl rfl (by decide +kernel) ⟨(Nat.le_of_ble_eq_true rfl), (Nat.le_of_ble_eq_true rfl)⟩) hK hE0 trivial rfl hl.1 rfl (Nat.le_of_ble_eq_true rfl) dL_law_410 ⟨hcc, hss⟩ ?_
                obtain ⟨y30, hy30, e_y30⟩ : ∃ y, y < 30 ∧ blw x6 30 = y := ⟨_, blw_lt _ (by decide), rfl⟩
                rw [e_y30]
                refine n_iadd (v := nI (1 + y30)) hx hb dL_law_413 (nI_add _ _) ?_
                obtain ⟨w, hw⟩ : ∃ w, 1 + y30 = w := ⟨_, rfl⟩
                rw [hw]
                refine lv_istore (lv' := [(14, .int (nI w)), (13, .int (nI (cyc (v j)))), (10, .int (nI j)), (9, .int (nI (litN v (j + 1) now))), (8, .int (nI now)), (7, .int (nI n)), (5, .long dg), (4, .int vv), (3, .int (nI tm)), (2, .ref a), (1, .ref (ad 0)), (0, .ref b)]) hx hb dL_law_414 hl (by decide) rfl (fun ls hl => ?_)
                refine lv_aload_n hx hb dL_law_416 rfl (lv_at hl 10 rfl) ?_
                refine lv_iload hx hb dL_law_417 (lv_at hl 2 rfl) ?_
                refine lv_iload hx hb dL_law_419 (lv_at hl 0 rfl) ?_
                refine rV (r := nI (shwN (v j) now w)) (As := [.int (nI j), .int (nI w)]) (rest := []) ⟨hx, hb, hml, hown, hts⟩ (e_X1_shows l D cI cZ cL cJ ad n now told v hwf j hj w (by omega) (by omega)) (cwV 2 hts gL_law_X1_shows rfl rfl rfl (by decide +kernel) ⟨(Nat.le_of_ble_eq_true rfl), (Nat.le_of_ble_eq_true rfl)⟩) hK hE0 hPX (RC_of (q := (RX1, TX1, 5)) (ci := 1) hK rfl (vpa hPX.1 0 rfl)) rfl hl.1 rfl (Nat.le_of_ble_eq_true rfl) dL_law_421 ⟨hcc, hss⟩ ?_
                have hsw := shwN_lt (v j) now w
                have hpw : 2 ^ w ≤ 2 ^ 30 := Nat.pow_le_pow_right (by decide) (by omega)
                refine lv_istore (lv' := [(15, .int (nI (shwN (v j) now w))), (14, .int (nI w)), (13, .int (nI (cyc (v j)))), (10, .int (nI j)), (9, .int (nI (litN v (j + 1) now))), (8, .int (nI now)), (7, .int (nI n)), (5, .long dg), (4, .int vv), (3, .int (nI tm)), (2, .ref a), (1, .ref (ad 0)), (0, .ref b)]) hx hb dL_law_424 hl (by decide) rfl (fun ls hl => ?_)
                refine lv_iconst (v := nI 0) hx hb dL_law_426 (by decide) ?_
                refine lv_istore (lv' := [(16, .int (nI 0)), (15, .int (nI (shwN (v j) now w))), (14, .int (nI w)), (13, .int (nI (cyc (v j)))), (10, .int (nI j)), (9, .int (nI (litN v (j + 1) now))), (8, .int (nI now)), (7, .int (nI n)), (5, .long dg), (4, .int vv), (3, .int (nI tm)), (2, .ref a), (1, .ref (ad 0)), (0, .ref b)]) hx hb dL_law_427 hl (by decide) rfl (fun ls hl => ?_)
                have loop_429 : ∀ (fu : Nat) (d : Nat), w + 1 - d ≤ fu → d ≤ w → ∀ (ls : Array Slot), lv_has ls 19 [(16, .int (nI d)), (15, .int (nI (shwN (v j) now w))), (14, .int (nI w)), (10, .int (nI j)), (9, .int (nI (litN v (j + 1) now))), (8, .int (nI now)), (7, .int (nI n)), (5, .long dg), (4, .int vv), (3, .int (nI tm)), (2, .ref a), (1, .ref (ad 0)), (0, .ref b)] → W p l e room_1 s m #[Value.ref b] below meth c H locs cells slots Q (F0 m 429 ls []) := by
                  intro fu
                  induction fu with
                  | zero => intro d hn_429 hd; exact absurd hn_429 (by omega)
                  | succ fu ih_429 =>
                    intro d hn_429 hd ls hl
                    refine lv_iload hx hb dL_law_429 (lv_at hl 0 rfl) ?_
                    refine lv_iload hx hb dL_law_431 (lv_at hl 2 rfl) ?_
                    refine n_icmp_ge (a := d) (b := w) (tgt := 479) hx hb (by omega) (by omega) dL_law_433 (by decide) (fun c_433 => ?_) (fun c_433 => ?_)
                    · exact join_479 ls (lv_sub hl [3, 4, 5, 6, 7, 8, 9, 10, 11, 12] rfl)
                    · refine lv_iload hx hb dL_law_436 (lv_at hl 1 rfl) ?_
                      refine lv_iload hx hb dL_law_438 (lv_at hl 2 rfl) ?_
                      refine lv_iconst (v := nI 1) hx hb dL_law_440 (by decide) ?_
                      refine n_isub (v := nI (w - 1)) hx hb dL_law_441 (pk_sub (by omega)) ?_
                      refine lv_iload hx hb dL_law_442 (lv_at hl 0 rfl) ?_
                      refine n_isub (v := nI (w - 1 - d)) hx hb dL_law_444 (pk_sub (by omega)) ?_
                      refine lv_ishr hx hb dL_law_445 ?_
                      refine n_ti (y := nI (shwN (v j) now w / 2 ^ (w - 1 - d))) (shrE (by omega) (by omega)) ?_
                      refine lv_iconst (v := nI 1) hx hb dL_law_446 (by decide) ?_
                      refine n_iand (v := nI ((shwN (v j) now w / 2 ^ (w - 1 - d)) % 2)) hx hb dL_law_447 (and1 (by have := Nat.div_le_self (shwN (v j) now w) (2 ^ (w - 1 - d)); omega)) ?_
                      refine lv_iconst (v := nI 1) hx hb dL_law_448 (by decide) ?_
                      have join_457 : ∀ (ls : Array Slot), lv_has ls 19 [(16, .int (nI d)), (15, .int (nI (shwN (v j) now w))), (14, .int (nI w)), (10, .int (nI j)), (9, .int (nI (litN v (j + 1) now))), (8, .int (nI now)), (7, .int (nI n)), (5, .long dg), (4, .int vv), (3, .int (nI tm)), (2, .ref a), (1, .ref (ad 0)), (0, .ref b)] → W p l e room_1 s m #[Value.ref b] below meth c H locs cells slots Q (F0 m 457 ls [.int (bI (onB (v j) (now + d)))]) := by
                        intro   ls hl
                        refine lv_aload_n hx hb dL_law_457 rfl (lv_at hl 11 rfl) ?_
                        refine lv_iload hx hb dL_law_458 (lv_at hl 3 rfl) ?_
                        refine lv_iload hx hb dL_law_460 (lv_at hl 5 rfl) ?_
                        refine lv_iload hx hb dL_law_462 (lv_at hl 0 rfl) ?_
                        refine n_iadd (v := nI (now + d)) hx hb dL_law_464 (nI_add _ _) ?_
                        refine rV (r := bI (onB (v j) (now + d))) (As := [.int (nI j), .int (nI (now + d))]) (rest := [.int (bI (onB (v j) (now + d)))]) ⟨hx, hb, hml, hown, hts⟩ (e_X1_isOnAt l D cI cZ cL cJ ad n now told v hwf j hj (now + d) (by omega)) (cwV 2 hts gL_law_X1_isOnAt rfl rfl rfl (by decide +kernel) ⟨(Nat.le_of_ble_eq_true rfl), (Nat.le_of_ble_eq_true rfl)⟩) hK hE0 hPX (RC_of (q := (RX1, TX1, 5)) (ci := 1) hK rfl (vpa hPX.1 0 rfl)) rfl hl.1 rfl (Nat.le_of_ble_eq_true rfl) dL_law_465 ⟨hcc, hss⟩ ?_
                        refine lv_icmp_eq (tgt := 473) hx hb dL_law_468 (by decide) (fun c_468 => ?_) (fun c_468 => ?_)
                        · refine lv_iinc (v := nI (d + 1)) (lv' := [(16, .int (nI (d + 1))), (15, .int (nI (shwN (v j) now w))), (14, .int (nI w)), (10, .int (nI j)), (9, .int (nI (litN v (j + 1) now))), (8, .int (nI now)), (7, .int (nI n)), (5, .long dg), (4, .int vv), (3, .int (nI tm)), (2, .ref a), (1, .ref (ad 0)), (0, .ref b)]) hx hb dL_law_473 hl (k := 0) rfl (nI_inc _) (by decide) rfl (fun ls hl => ?_)
                          refine lv_goto (tgt := 429) hx hb dL_law_476 (by decide) ?_
                          exact ih_429 (d + 1) (by omega) (by omega) ls (lv_sub hl [0, 1, 2, 3, 4, 5, 6, 7, 8, 9, 10, 11, 12] rfl)
                        · exact absurd rfl c_468
                      refine n_icmp_ne (a := (shwN (v j) now w / 2 ^ (w - 1 - d)) % 2) (b := 1) (tgt := 456) hx hb (by omega) (by decide) dL_law_449 (by decide) (fun c_449 => ?_) (fun c_449 => ?_)
                      · refine lv_iconst (v := nI 0) hx hb dL_law_456 (by decide) ?_
                        refine n_ti (y := bI (onB (v j) (now + d))) (by rw [shwN_bit (v j) now w d (by omega)] at c_449; revert c_449; cases onB (v j) (now + d) <;> simp <;> decide) ?_
                        exact join_457 ls (lv_sub hl [0, 1, 2, 3, 4, 5, 6, 7, 8, 9, 10, 11, 12] rfl)
                      · refine lv_iconst (v := nI 1) hx hb dL_law_452 (by decide) ?_
                        refine lv_goto (tgt := 457) hx hb dL_law_453 (by decide) ?_
                        refine n_ti (y := bI (onB (v j) (now + d))) (by rw [shwN_bit (v j) now w d (by omega)] at c_449; revert c_449; cases onB (v j) (now + d) <;> simp <;> decide) ?_
                        exact join_457 ls (lv_sub hl [0, 1, 2, 3, 4, 5, 6, 7, 8, 9, 10, 11, 12] rfl)
                exact loop_429 (w + 1) 0 (by omega) (by omega) ls (lv_sub hl [0, 1, 2, 4, 5, 6, 7, 8, 9, 10, 11, 12, 13] rfl)
              · refine lv_aload_n hx hb dL_law_366 rfl (lv_at hl 10 rfl) ?_
                refine lv_iload hx hb dL_law_367 (lv_at hl 2 rfl) ?_
                refine lv_bipush (v := nI 31) hx hb dL_law_369 (by decide) ?_
                refine lv_iload hx hb dL_law_371 (lv_at hl 0 rfl) ?_
                refine n_imul (v := nI (31 * d)) hx hb dL_law_373 (pk_mul _ _) ?_
                refine rV (r := bI (onB (v j) (31 * d))) (As := [.int (nI j), .int (nI (31 * d))]) (rest := []) ⟨hx, hb, hml, hown, hts⟩ (e_X1_isOnAt l D cI cZ cL cJ ad n now told v hwf j hj (31 * d) (by omega)) (cwV 2 hts gL_law_X1_isOnAt rfl rfl rfl (by decide +kernel) ⟨(Nat.le_of_ble_eq_true rfl), (Nat.le_of_ble_eq_true rfl)⟩) hK hE0 hPX (RC_of (q := (RX1, TX1, 5)) (ci := 1) hK rfl (vpa hPX.1 0 rfl)) rfl hl.1 rfl (Nat.le_of_ble_eq_true rfl) dL_law_374 ⟨hcc, hss⟩ ?_
                refine lv_aload_n hx hb dL_law_377 rfl (lv_at hl 10 rfl) ?_
                refine lv_iload hx hb dL_law_378 (lv_at hl 2 rfl) ?_
                refine lv_bipush (v := nI 31) hx hb dL_law_380 (by decide) ?_
                refine lv_iload hx hb dL_law_382 (lv_at hl 0 rfl) ?_
                refine n_imul (v := nI (31 * d)) hx hb dL_law_384 (pk_mul _ _) ?_
                refine lv_iload hx hb dL_law_385 (lv_at hl 1 rfl) ?_
                refine n_iadd (v := nI ((31 * d) + (cyc (v j)))) hx hb dL_law_387 (nI_add _ _) ?_
                refine rV (r := bI (onB (v j) (31 * d + cyc (v j)))) (As := [.int (nI j), .int (nI (31 * d + cyc (v j)))]) (rest := [.int (bI (onB (v j) (31 * d)))]) ⟨hx, hb, hml, hown, hts⟩ (e_X1_isOnAt l D cI cZ cL cJ ad n now told v hwf j hj (31 * d + cyc (v j)) (by omega)) (cwV 2 hts gL_law_X1_isOnAt rfl rfl rfl (by decide +kernel) ⟨(Nat.le_of_ble_eq_true rfl), (Nat.le_of_ble_eq_true rfl)⟩) hK hE0 hPX (RC_of (q := (RX1, TX1, 5)) (ci := 1) hK rfl (vpa hPX.1 0 rfl)) rfl hl.1 rfl (Nat.le_of_ble_eq_true rfl) dL_law_388 ⟨hcc, hss⟩ ?_
                refine lv_icmp_eq (tgt := 396) hx hb dL_law_391 (by decide) (fun c_391 => ?_) (fun c_391 => ?_)
                · refine lv_iinc (v := nI (d + 1)) (lv' := [(14, .int (nI (d + 1))), (13, .int (nI (cyc (v j)))), (10, .int (nI j)), (9, .int (nI (litN v (j + 1) now))), (8, .int (nI now)), (7, .int (nI n)), (5, .long dg), (4, .int vv), (3, .int (nI tm)), (2, .ref a), (1, .ref (ad 0)), (0, .ref b)]) hx hb dL_law_396 hl (k := 0) rfl (nI_inc _) (by decide) rfl (fun ls hl => ?_)
                  refine lv_goto (tgt := 359) hx hb dL_law_399 (by decide) ?_
                  exact ih_359 (d + 1) (by omega) (by omega) ls (lv_sub hl [0, 1, 2, 3, 4, 5, 6, 7, 8, 9, 10, 11] rfl)
                · exact absurd (by rw [onB_cyc hwj.b]) c_391
          exact loop_359 21 0 (by omega) (by omega) ls (lv_sub hl [0, 1, 2, 3, 4, 5, 6, 7, 8, 9, 10, 11] rfl)
        · exact absurd rfl c_351
      refine n_icmp_ne (a := cyc (v j)) (b := 1) (tgt := 344) hx hb (by omega) (by omega) dL_law_337 (by decide) (fun c_337 => ?_) (fun c_337 => ?_)
      · refine lv_iconst (v := nI 0) hx hb dL_law_344 (by decide) ?_
        refine n_ti (y := bI (decide (cyc (v j) = 1))) (by rw [decide_eq_false c_337]; rfl) ?_
        exact join_345 ls (lv_sub hl [0, 1, 2, 3, 4, 5, 6, 7, 8, 9, 10] rfl)
      · refine lv_iconst (v := nI 1) hx hb dL_law_340 (by decide) ?_
        refine lv_goto (tgt := 345) hx hb dL_law_341 (by decide) ?_
        refine n_ti (y := bI (decide (cyc (v j) = 1))) (by rw [decide_eq_true c_337]; rfl) ?_
        exact join_345 ls (lv_sub hl [0, 1, 2, 3, 4, 5, 6, 7, 8, 9, 10] rfl)
set_option maxHeartbeats 16000000 in
set_option maxRecDepth 100000 in
/-- the lamps, one by one -/
theorem kA_81 (hC : LC p l s m c b L xs D cI cZ cL cJ cB)  (hwf : WFX n now v) (hn1 : 1 ≤ n) (hnow6 : now ≤ 6000) (hcc : cells ≤ 600130) (hss : slots ≤ 7301080) (hPX : PX D cI cL ad n now told v H) (hE0 : EN noA s H)  (hl : lv_has ls 19 [(10, .int (nI 0)), (9, .int (nI 0)), (8, .int (nI now)), (7, .int (nI n)), (5, .long dg), (4, .int vv), (3, .int (nI tm)), (2, .ref a), (1, .ref (ad 0)), (0, .ref b)]) (join_485 : ∀ (ls : Array Slot), lv_has ls 19 [(9, .int (nI (litN v n now))), (8, .int (nI now)), (7, .int (nI n)), (5, .long dg), (4, .int vv), (3, .int (nI tm)), (2, .ref a), (1, .ref (ad 0)), (0, .ref b)] → W p l e room_1 s m #[Value.ref b] below meth c H locs cells slots Q (F0 m 485 ls [])) : W p l e room_1 s m #[Value.ref b] below meth c H locs cells slots Q (F0 m 81 ls []) := by
  obtain ⟨hx, hb, hml, hown, hts, hK, hE, hEA, hEL, hX, hbl, hst⟩ := hC
  have hn8 := hwf.1
  have hwl := hwf.2.2
  have loop_81 : ∀ (fu : Nat) (j : Nat), n + 1 - j ≤ fu → j ≤ n → ∀ (ls : Array Slot), lv_has ls 19 [(10, .int (nI j)), (9, .int (nI (litN v j now))), (8, .int (nI now)), (7, .int (nI n)), (5, .long dg), (4, .int vv), (3, .int (nI tm)), (2, .ref a), (1, .ref (ad 0)), (0, .ref b)] → W p l e room_1 s m #[Value.ref b] below meth c H locs cells slots Q (F0 m 81 ls []) := by
    intro fu
    induction fu with
    | zero => intro j hn_81 hj; exact absurd hn_81 (by omega)
    | succ fu ih_81 =>
      intro j hn_81 hj ls hl
      refine lv_iload hx hb dL_law_81 (lv_at hl 0 rfl) ?_
      refine lv_iload hx hb dL_law_83 (lv_at hl 3 rfl) ?_
      refine n_icmp_ge (a := j) (b := n) (tgt := 485) hx hb (by omega) (by omega) dL_law_85 (by decide) (fun c_85 => ?_) (fun c_85 => ?_)
      · have e_j : j = n := by omega
        rw [e_j] at hl
        exact join_485 ls (lv_sub hl [1, 2, 3, 4, 5, 6, 7, 8, 9] rfl)
      · have hwj := hwl j (by omega)
        have hw4 := hwj.1
        refine lv_iload hx hb dL_law_88 (lv_at hl 1 rfl) ?_
        refine lv_aload_n hx hb dL_law_90 rfl (lv_at hl 8 rfl) ?_
        refine lv_iload hx hb dL_law_91 (lv_at hl 0 rfl) ?_
        refine rV (r := bI (litB (v j) now)) (As := [.int (nI j)]) (rest := [.int (nI (litN v j now))]) ⟨hx, hb, hml, hown, hts⟩ (e_X1_isLit l D cI cZ cL cJ ad n now told v hwf j (by omega)) (cwV 1 hts gL_law_X1_isLit rfl rfl rfl (by decide +kernel) ⟨(Nat.le_of_ble_eq_true rfl), (Nat.le_of_ble_eq_true rfl)⟩) hK hE0 hPX (RC_of (q := (RX1, TX1, 5)) (ci := 1) hK rfl (vpa hPX.1 0 rfl)) rfl hl.1 rfl (Nat.le_of_ble_eq_true rfl) dL_law_93 ⟨hcc, hss⟩ ?_
        have join_104 : ∀ (ls : Array Slot), lv_has ls 19 [(10, .int (nI j)), (9, .int (nI (litN v j now))), (8, .int (nI now)), (7, .int (nI n)), (5, .long dg), (4, .int vv), (3, .int (nI tm)), (2, .ref a), (1, .ref (ad 0)), (0, .ref b)] → W p l e room_1 s m #[Value.ref b] below meth c H locs cells slots Q (F0 m 104 ls [.int (nI (if litB (v j) now = true then 1 else 0)), .int (nI (litN v j now))]) := by
          intro   ls hl
          refine n_iadd (v := nI (litN v (j + 1) now)) hx hb dL_law_104 (nI_add _ _) ?_
          refine lv_istore (lv' := [(9, .int (nI (litN v (j + 1) now))), (10, .int (nI j)), (8, .int (nI now)), (7, .int (nI n)), (5, .long dg), (4, .int vv), (3, .int (nI tm)), (2, .ref a), (1, .ref (ad 0)), (0, .ref b)]) hx hb dL_law_105 hl (by decide) rfl (fun ls hl => ?_)
          refine lv_aload_n hx hb dL_law_107 rfl (lv_at hl 8 rfl) ?_
          refine lv_iload hx hb dL_law_108 (lv_at hl 1 rfl) ?_
          refine rV (r := (untC (v j) now)) (As := [.int (nI j)]) (rest := []) ⟨hx, hb, hml, hown, hts⟩ (e_X1_momentsUntilChange l D cI cZ cL cJ ad n now told v hwf j (by omega)) (cwV 1 hts gL_law_X1_momentsUntilChange rfl rfl rfl (by decide +kernel) ⟨(Nat.le_of_ble_eq_true rfl), (Nat.le_of_ble_eq_true rfl)⟩) hK hE0 hPX (RC_of (q := (RX1, TX1, 5)) (ci := 1) hK rfl (vpa hPX.1 0 rfl)) rfl hl.1 rfl (Nat.le_of_ble_eq_true rfl) dL_law_110 ⟨hcc, hss⟩ ?_
          refine lv_istore (lv' := [(11, .int (untC (v j) now)), (9, .int (nI (litN v (j + 1) now))), (10, .int (nI j)), (8, .int (nI now)), (7, .int (nI n)), (5, .long dg), (4, .int vv), (3, .int (nI tm)), (2, .ref a), (1, .ref (ad 0)), (0, .ref b)]) hx hb dL_law_113 hl (by decide) rfl (fun ls hl => ?_)
          refine lv_aload_n hx hb dL_law_115 rfl (lv_at hl 9 rfl) ?_
          refine lv_iload hx hb dL_law_116 (lv_at hl 2 rfl) ?_
          refine rV (r := bI (litB (v j) now)) (As := [.int (nI j)]) (rest := []) ⟨hx, hb, hml, hown, hts⟩ (e_X1_isLit l D cI cZ cL cJ ad n now told v hwf j (by omega)) (cwV 1 hts gL_law_X1_isLit rfl rfl rfl (by decide +kernel) ⟨(Nat.le_of_ble_eq_true rfl), (Nat.le_of_ble_eq_true rfl)⟩) hK hE0 hPX (RC_of (q := (RX1, TX1, 5)) (ci := 1) hK rfl (vpa hPX.1 0 rfl)) rfl hl.1 rfl (Nat.le_of_ble_eq_true rfl) dL_law_118 ⟨hcc, hss⟩ ?_
          refine lv_aload_n hx hb dL_law_121 rfl (lv_at hl 9 rfl) ?_
          refine lv_iload hx hb dL_law_122 (lv_at hl 2 rfl) ?_
          refine rV (r := bI (onB (v j) now)) (As := [.int (nI j)]) (rest := [.int (bI (litB (v j) now))]) ⟨hx, hb, hml, hown, hts⟩ (e_X1_isOn l D cI cZ cL cJ ad n now told v hwf j (by omega)) (cwV 1 hts gL_law_X1_isOn rfl rfl rfl (by decide +kernel) ⟨(Nat.le_of_ble_eq_true rfl), (Nat.le_of_ble_eq_true rfl)⟩) hK hE0 hPX (RC_of (q := (RX1, TX1, 5)) (ci := 1) hK rfl (vpa hPX.1 0 rfl)) rfl hl.1 rfl (Nat.le_of_ble_eq_true rfl) dL_law_124 ⟨hcc, hss⟩ ?_
          have join_144 : ∀ (ls : Array Slot), lv_has ls 19 [(11, .int (untC (v j) now)), (10, .int (nI j)), (9, .int (nI (litN v (j + 1) now))), (8, .int (nI now)), (7, .int (nI n)), (5, .long dg), (4, .int vv), (3, .int (nI tm)), (2, .ref a), (1, .ref (ad 0)), (0, .ref b)] → W p l e room_1 s m #[Value.ref b] below meth c H locs cells slots Q (F0 m 144 ls [.int (bI (litB (v j) now)), .int (bI (litB (v j) now))]) := by
            intro   ls hl
            refine lv_icmp_ne (tgt := 194) hx hb dL_law_144 (by decide) (fun c_144 => ?_) (fun c_144 => ?_)
            · exact absurd rfl c_144
            · refine lv_aload_n hx hb dL_law_147 rfl (lv_at hl 9 rfl) ?_
              refine lv_iload hx hb dL_law_148 (lv_at hl 1 rfl) ?_
              refine rV (r := bI (decide (cyc (v j) = 1))) (As := [.int (nI j)]) (rest := []) ⟨hx, hb, hml, hown, hts⟩ (e_X1_isSteady l D cI cZ cL cJ ad n now told v hwf j (by omega)) (cwV 1 hts gL_law_X1_isSteady rfl rfl rfl (by decide +kernel) ⟨(Nat.le_of_ble_eq_true rfl), (Nat.le_of_ble_eq_true rfl)⟩) hK hE0 hPX (RC_of (q := (RX1, TX1, 5)) (ci := 1) hK rfl (vpa hPX.1 0 rfl)) rfl hl.1 rfl (Nat.le_of_ble_eq_true rfl) dL_law_150 ⟨hcc, hss⟩ ?_
              refine lv_iload hx hb dL_law_153 (lv_at hl 0 rfl) ?_
              have join_163 : ∀ (ls : Array Slot), lv_has ls 19 [(11, .int (untC (v j) now)), (10, .int (nI j)), (9, .int (nI (litN v (j + 1) now))), (8, .int (nI now)), (7, .int (nI n)), (5, .long dg), (4, .int vv), (3, .int (nI tm)), (2, .ref a), (1, .ref (ad 0)), (0, .ref b)] → W p l e room_1 s m #[Value.ref b] below meth c H locs cells slots Q (F0 m 163 ls [.int (bI (decide (cyc (v j) = 1))), .int (bI (decide (cyc (v j) = 1)))]) := by
                intro   ls hl
                refine lv_icmp_ne (tgt := 194) hx hb dL_law_163 (by decide) (fun c_163 => ?_) (fun c_163 => ?_)
                · exact absurd rfl c_163
                · refine lv_aload_n hx hb dL_law_166 rfl (lv_at hl 9 rfl) ?_
                  refine lv_iload hx hb dL_law_167 (lv_at hl 1 rfl) ?_
                  refine lv_iload hx hb dL_law_169 (lv_at hl 3 rfl) ?_
                  refine rV (r := bI (onB (v j) now)) (As := [.int (nI j), .int (nI now)]) (rest := []) ⟨hx, hb, hml, hown, hts⟩ (e_X1_isOnAt l D cI cZ cL cJ ad n now told v hwf j (by omega) now (by omega)) (cwV 2 hts gL_law_X1_isOnAt rfl rfl rfl (by decide +kernel) ⟨(Nat.le_of_ble_eq_true rfl), (Nat.le_of_ble_eq_true rfl)⟩) hK hE0 hPX (RC_of (q := (RX1, TX1, 5)) (ci := 1) hK rfl (vpa hPX.1 0 rfl)) rfl hl.1 rfl (Nat.le_of_ble_eq_true rfl) dL_law_171 ⟨hcc, hss⟩ ?_
                  refine lv_aload_n hx hb dL_law_174 rfl (lv_at hl 9 rfl) ?_
                  refine lv_iload hx hb dL_law_175 (lv_at hl 1 rfl) ?_
                  refine rV (r := bI (onB (v j) now)) (As := [.int (nI j)]) (rest := [.int (bI (onB (v j) now))]) ⟨hx, hb, hml, hown, hts⟩ (e_X1_isOn l D cI cZ cL cJ ad n now told v hwf j (by omega)) (cwV 1 hts gL_law_X1_isOn rfl rfl rfl (by decide +kernel) ⟨(Nat.le_of_ble_eq_true rfl), (Nat.le_of_ble_eq_true rfl)⟩) hK hE0 hPX (RC_of (q := (RX1, TX1, 5)) (ci := 1) hK rfl (vpa hPX.1 0 rfl)) rfl hl.1 rfl (Nat.le_of_ble_eq_true rfl) dL_law_177 ⟨hcc, hss⟩ ?_
                  refine lv_icmp_ne (tgt := 194) hx hb dL_law_180 (by decide) (fun c_180 => ?_) (fun c_180 => ?_)
                  · exact absurd rfl c_180
                  · refine lv_iload hx hb dL_law_183 (lv_at hl 0 rfl) ?_
                    refine lv_if_eq (tgt := 194) hx hb dL_law_185 (by decide) (fun c_185 => ?_) (fun c_185 => ?_)
                    · exact absurd c_185 (un_ne hwj)
                    · refine lv_iload hx hb dL_law_188 (lv_at hl 0 rfl) ?_
                      refine lv_iconst (v := (-1)) hx hb dL_law_190 (by decide) ?_
                      refine lv_icmp_ge (tgt := 196) hx hb dL_law_191 (by decide) (fun c_191 => ?_) (fun c_191 => ?_)
                      · refine lv_iload hx hb dL_law_196 (lv_at hl 0 rfl) ?_
                        have join_208 : ∀ (ls : Array Slot), lv_has ls 19 [(11, .int (untC (v j) now)), (10, .int (nI j)), (9, .int (nI (litN v (j + 1) now))), (8, .int (nI now)), (7, .int (nI n)), (5, .long dg), (4, .int vv), (3, .int (nI tm)), (2, .ref a), (1, .ref (ad 0)), (0, .ref b)] → W p l e room_1 s m #[Value.ref b] below meth c H locs cells slots Q (F0 m 208 ls [.int (nI (lookN (v j) now))]) := by
                          intro   ls hl
                          refine lv_istore (lv' := [(12, .int (nI (lookN (v j) now))), (11, .int (untC (v j) now)), (10, .int (nI j)), (9, .int (nI (litN v (j + 1) now))), (8, .int (nI now)), (7, .int (nI n)), (5, .long dg), (4, .int vv), (3, .int (nI tm)), (2, .ref a), (1, .ref (ad 0)), (0, .ref b)]) hx hb dL_law_208 hl (by decide) rfl (fun ls hl => ?_)
                          have hlk := lk_bd (t := now) hwj
                          have join_479 : ∀ (ls : Array Slot), lv_has ls 19 [(10, .int (nI j)), (9, .int (nI (litN v (j + 1) now))), (8, .int (nI now)), (7, .int (nI n)), (5, .long dg), (4, .int vv), (3, .int (nI tm)), (2, .ref a), (1, .ref (ad 0)), (0, .ref b)] → W p l e room_1 s m #[Value.ref b] below meth c H locs cells slots Q (F0 m 479 ls []) := by
                            intro   ls hl
                            refine lv_iinc (v := nI (j + 1)) (lv' := [(10, .int (nI (j + 1))), (9, .int (nI (litN v (j + 1) now))), (8, .int (nI now)), (7, .int (nI n)), (5, .long dg), (4, .int vv), (3, .int (nI tm)), (2, .ref a), (1, .ref (ad 0)), (0, .ref b)]) hx hb dL_law_479 hl (k := 0) rfl (nI_inc _) (by decide) rfl (fun ls hl => ?_)
                            refine lv_goto (tgt := 81) hx hb dL_law_482 (by decide) ?_
                            exact ih_81 (j + 1) (by omega) (by omega) ls (lv_sub hl [0, 1, 2, 3, 4, 5, 6, 7, 8, 9] rfl)
                          refine lv_iconst (v := nI 1) hx hb dL_law_210 (by decide) ?_
                          refine lv_istore (lv' := [(13, .int (nI 1)), (12, .int (nI (lookN (v j) now))), (11, .int (untC (v j) now)), (10, .int (nI j)), (9, .int (nI (litN v (j + 1) now))), (8, .int (nI now)), (7, .int (nI n)), (5, .long dg), (4, .int vv), (3, .int (nI tm)), (2, .ref a), (1, .ref (ad 0)), (0, .ref b)]) hx hb dL_law_211 hl (by decide) rfl (fun ls hl => ?_)
                          have loop_213 : ∀ (fu : Nat) (d : Nat), 28563 - d ≤ fu → 1 ≤ d → d ≤ lookN (v j) now + 1 → ∀ (ls : Array Slot), lv_has ls 19 [(13, .int (nI d)), (12, .int (nI (lookN (v j) now))), (11, .int (untC (v j) now)), (10, .int (nI j)), (9, .int (nI (litN v (j + 1) now))), (8, .int (nI now)), (7, .int (nI n)), (5, .long dg), (4, .int vv), (3, .int (nI tm)), (2, .ref a), (1, .ref (ad 0)), (0, .ref b)] → W p l e room_1 s m #[Value.ref b] below meth c H locs cells slots Q (F0 m 213 ls []) := by
                            intro fu
                            induction fu with
                            | zero => intro d hn_213 hd0 hd; exact absurd hn_213 (by omega)
                            | succ fu ih_213 =>
                              intro d hn_213 hd0 hd ls hl
                              refine lv_iload hx hb dL_law_213 (lv_at hl 0 rfl) ?_
                              refine lv_iload hx hb dL_law_215 (lv_at hl 1 rfl) ?_
                              refine n_icmp_gt (a := d) (b := lookN (v j) now) (tgt := 306) hx hb (by omega) (by omega) dL_law_217 (by decide) (fun c_217 => ?_) (fun c_217 => ?_)
                              · exact kA_306 ⟨hx, hb, hml, hown, hts, hK, hE, hEA, hEL, hX, hbl, hst⟩ hwf hn1 hnow6 hcc hss hPX hE0 (j := j) (by omega) (lv_sub hl [3, 4, 5, 6, 7, 8, 9, 10, 11, 12] rfl) join_479
                              · have hd1 : 1 ≤ d := by omega
                                have hlf := lookF hwj hd1 c_217
                                have h_on := onB_succ hwj.b (now + d - 1)
                                rw [show now + d - 1 + 1 = now + d by omega] at h_on
                                refine lv_aload_n hx hb dL_law_220 rfl (lv_at hl 11 rfl) ?_
                                refine lv_iload hx hb dL_law_221 (lv_at hl 3 rfl) ?_
                                refine lv_iload hx hb dL_law_223 (lv_at hl 5 rfl) ?_
                                refine lv_iload hx hb dL_law_225 (lv_at hl 0 rfl) ?_
                                refine n_iadd (v := nI (now + d)) hx hb dL_law_227 (nI_add _ _) ?_
                                refine rV (r := bI (onB (v j) (now + d))) (As := [.int (nI j), .int (nI (now + d))]) (rest := []) ⟨hx, hb, hml, hown, hts⟩ (e_X1_isOnAt l D cI cZ cL cJ ad n now told v hwf j (by omega) (now + d) (by omega)) (cwV 2 hts gL_law_X1_isOnAt rfl rfl rfl (by decide +kernel) ⟨(Nat.le_of_ble_eq_true rfl), (Nat.le_of_ble_eq_true rfl)⟩) hK hE0 hPX (RC_of (q := (RX1, TX1, 5)) (ci := 1) hK rfl (vpa hPX.1 0 rfl)) rfl hl.1 rfl (Nat.le_of_ble_eq_true rfl) dL_law_228 ⟨hcc, hss⟩ ?_
                                refine lv_aload_n hx hb dL_law_231 rfl (lv_at hl 11 rfl) ?_
                                refine lv_iload hx hb dL_law_232 (lv_at hl 3 rfl) ?_
                                refine lv_iload hx hb dL_law_234 (lv_at hl 5 rfl) ?_
                                refine lv_iload hx hb dL_law_236 (lv_at hl 0 rfl) ?_
                                refine n_iadd (v := nI (now + d)) hx hb dL_law_238 (nI_add _ _) ?_
                                refine lv_iconst (v := nI 1) hx hb dL_law_239 (by decide) ?_
                                refine n_isub (v := nI (now + d - 1)) hx hb dL_law_240 (pk_sub (by omega)) ?_
                                refine rV (r := bI (onB (v j) (now + d - 1))) (As := [.int (nI j), .int (nI (now + d - 1))]) (rest := [.int (bI (onB (v j) (now + d)))]) ⟨hx, hb, hml, hown, hts⟩ (e_X1_isOnAt l D cI cZ cL cJ ad n now told v hwf j (by omega) (now + d - 1) (by omega)) (cwV 2 hts gL_law_X1_isOnAt rfl rfl rfl (by decide +kernel) ⟨(Nat.le_of_ble_eq_true rfl), (Nat.le_of_ble_eq_true rfl)⟩) hK hE0 hPX (RC_of (q := (RX1, TX1, 5)) (ci := 1) hK rfl (vpa hPX.1 0 rfl)) rfl hl.1 rfl (Nat.le_of_ble_eq_true rfl) dL_law_241 ⟨hcc, hss⟩ ?_
                                have join_252 : ∀ (ls : Array Slot), lv_has ls 19 [(13, .int (nI d)), (12, .int (nI (lookN (v j) now))), (11, .int (untC (v j) now)), (10, .int (nI j)), (9, .int (nI (litN v (j + 1) now))), (8, .int (nI now)), (7, .int (nI n)), (5, .long dg), (4, .int vv), (3, .int (nI tm)), (2, .ref a), (1, .ref (ad 0)), (0, .ref b)] → W p l e room_1 s m #[Value.ref b] below meth c H locs cells slots Q (F0 m 252 ls [.int (bI (chgB (v j) (now + d)))]) := by
                                  intro   ls hl
                                  refine lv_istore (lv' := [(14, .int (bI (chgB (v j) (now + d)))), (13, .int (nI d)), (12, .int (nI (lookN (v j) now))), (11, .int (untC (v j) now)), (10, .int (nI j)), (9, .int (nI (litN v (j + 1) now))), (8, .int (nI now)), (7, .int (nI n)), (5, .long dg), (4, .int vv), (3, .int (nI tm)), (2, .ref a), (1, .ref (ad 0)), (0, .ref b)]) hx hb dL_law_252 hl (by decide) rfl (fun ls hl => ?_)
                                  refine lv_iload hx hb dL_law_254 (lv_at hl 0 rfl) ?_
                                  refine lv_iload hx hb dL_law_256 (lv_at hl 1 rfl) ?_
                                  refine lv_iload hx hb dL_law_258 (lv_at hl 3 rfl) ?_
                                  have join_268 : ∀ (ls : Array Slot), lv_has ls 19 [(14, .int (bI (chgB (v j) (now + d)))), (13, .int (nI d)), (12, .int (nI (lookN (v j) now))), (11, .int (untC (v j) now)), (10, .int (nI j)), (9, .int (nI (litN v (j + 1) now))), (8, .int (nI now)), (7, .int (nI n)), (5, .long dg), (4, .int vv), (3, .int (nI tm)), (2, .ref a), (1, .ref (ad 0)), (0, .ref b)] → W p l e room_1 s m #[Value.ref b] below meth c H locs cells slots Q (F0 m 268 ls [.int (bI (decide (nI d = (untC (v j) now)))), .int (bI (chgB (v j) (now + d)))]) := by
                                    intro   ls hl
                                    refine lv_icmp_ne (tgt := 298) hx hb dL_law_268 (by decide) (fun c_268 => ?_) (fun c_268 => ?_)
                                    · exact absurd (by rw [hlf]) c_268
                                    · refine lv_iload hx hb dL_law_271 (lv_at hl 0 rfl) ?_
                                      refine lv_aload_n hx hb dL_law_273 rfl (lv_at hl 12 rfl) ?_
                                      refine lv_iload hx hb dL_law_274 (lv_at hl 4 rfl) ?_
                                      refine lv_iload hx hb dL_law_276 (lv_at hl 6 rfl) ?_
                                      refine lv_iload hx hb dL_law_278 (lv_at hl 1 rfl) ?_
                                      refine n_iadd (v := nI (now + d)) hx hb dL_law_280 (nI_add _ _) ?_
                                      refine rV (r := nI (strk (v j) (now + d) (lbc (v j)))) (As := [.int (nI j), .int (nI (now + d))]) (rest := [.int (bI (chgB (v j) (now + d)))]) ⟨hx, hb, hml, hown, hts⟩ (e_X1_strikesAt l D cI cZ cL cJ ad n now told v hwf j (by omega) (now + d) (by omega)) (cwV 2 hts gL_law_X1_strikesAt rfl rfl rfl (by decide +kernel) ⟨(Nat.le_of_ble_eq_true rfl), (Nat.le_of_ble_eq_true rfl)⟩) hK hE0 hPX (RC_of (q := (RX1, TX1, 5)) (ci := 1) hK rfl (vpa hPX.1 0 rfl)) rfl hl.1 rfl (Nat.le_of_ble_eq_true rfl) dL_law_281 ⟨hcc, hss⟩ ?_
                                      refine lv_iconst (v := nI 2) hx hb dL_law_284 (by decide) ?_
                                      refine n_irem (a := strk (v j) (now + d) (lbc (v j))) (d := 2) hx hb dL_law_285 (by have := strk_le (v j) (now + d) (lbc (v j)); omega) (by decide) (by decide) ?_
                                      refine lv_iconst (v := nI 1) hx hb dL_law_286 (by decide) ?_
                                      have join_295 : ∀ (ls : Array Slot), lv_has ls 19 [(14, .int (bI (chgB (v j) (now + d)))), (13, .int (nI d)), (12, .int (nI (lookN (v j) now))), (11, .int (untC (v j) now)), (10, .int (nI j)), (9, .int (nI (litN v (j + 1) now))), (8, .int (nI now)), (7, .int (nI n)), (5, .long dg), (4, .int vv), (3, .int (nI tm)), (2, .ref a), (1, .ref (ad 0)), (0, .ref b)] → W p l e room_1 s m #[Value.ref b] below meth c H locs cells slots Q (F0 m 295 ls [.int (bI (chgB (v j) (now + d))), .int (bI (chgB (v j) (now + d)))]) := by
                                        intro   ls hl
                                        refine lv_icmp_eq (tgt := 300) hx hb dL_law_295 (by decide) (fun c_295 => ?_) (fun c_295 => ?_)
                                        · refine lv_iinc (v := nI (d + 1)) (lv' := [(13, .int (nI (d + 1))), (14, .int (bI (chgB (v j) (now + d)))), (12, .int (nI (lookN (v j) now))), (11, .int (untC (v j) now)), (10, .int (nI j)), (9, .int (nI (litN v (j + 1) now))), (8, .int (nI now)), (7, .int (nI n)), (5, .long dg), (4, .int vv), (3, .int (nI tm)), (2, .ref a), (1, .ref (ad 0)), (0, .ref b)]) hx hb dL_law_300 hl (k := 1) rfl (nI_inc _) (by decide) rfl (fun ls hl => ?_)
                                          refine lv_goto (tgt := 213) hx hb dL_law_303 (by decide) ?_
                                          exact ih_213 (d + 1) (by omega) (by omega) (by omega) ls (lv_sub hl [0, 2, 3, 4, 5, 6, 7, 8, 9, 10, 11, 12, 13] rfl)
                                        · exact absurd rfl c_295
                                      refine n_icmp_ne (a := (strk (v j) (now + d) (lbc (v j))) % 2) (b := 1) (tgt := 294) hx hb (by omega) (by decide) dL_law_287 (by decide) (fun c_287 => ?_) (fun c_287 => ?_)
                                      · refine lv_iconst (v := nI 0) hx hb dL_law_294 (by decide) ?_
                                        refine n_ti (y := bI (chgB (v j) (now + d))) (by unfold chgB; rw [decide_eq_false c_287]; rfl) ?_
                                        exact join_295 ls (lv_sub hl [0, 1, 2, 3, 4, 5, 6, 7, 8, 9, 10, 11, 12, 13] rfl)
                                      · refine lv_iconst (v := nI 1) hx hb dL_law_290 (by decide) ?_
                                        refine lv_goto (tgt := 295) hx hb dL_law_291 (by decide) ?_
                                        refine n_ti (y := bI (chgB (v j) (now + d))) (by unfold chgB; rw [decide_eq_true c_287]; rfl) ?_
                                        exact join_295 ls (lv_sub hl [0, 1, 2, 3, 4, 5, 6, 7, 8, 9, 10, 11, 12, 13] rfl)
                                  refine lv_icmp_ne (tgt := 267) hx hb dL_law_260 (by decide) (fun c_260 => ?_) (fun c_260 => ?_)
                                  · refine lv_iconst (v := nI 0) hx hb dL_law_267 (by decide) ?_
                                    refine n_ti (y := bI (decide (nI d = (untC (v j) now)))) (by rw [decide_eq_false c_260]; rfl) ?_
                                    exact join_268 ls (lv_sub hl [0, 1, 2, 3, 4, 5, 6, 7, 8, 9, 10, 11, 12, 13] rfl)
                                  · refine lv_iconst (v := nI 1) hx hb dL_law_263 (by decide) ?_
                                    refine lv_goto (tgt := 268) hx hb dL_law_264 (by decide) ?_
                                    refine n_ti (y := bI (decide (nI d = (untC (v j) now)))) (by rw [decide_eq_true c_260]; rfl) ?_
                                    exact join_268 ls (lv_sub hl [0, 1, 2, 3, 4, 5, 6, 7, 8, 9, 10, 11, 12, 13] rfl)
                                refine lv_icmp_eq (tgt := 251) hx hb dL_law_244 (by decide) (fun c_244 => ?_) (fun c_244 => ?_)
                                · refine lv_iconst (v := nI 0) hx hb dL_law_251 (by decide) ?_
                                  refine n_ti (y := bI (chgB (v j) (now + d))) (by have h9 := bI_inj c_244; rw [h_on] at h9; revert h9; cases onB (v j) (now + d - 1) <;> cases chgB (v j) (now + d) <;> decide) ?_
                                  exact join_252 ls (lv_sub hl [0, 1, 2, 3, 4, 5, 6, 7, 8, 9, 10, 11, 12] rfl)
                                · refine lv_iconst (v := nI 1) hx hb dL_law_247 (by decide) ?_
                                  refine lv_goto (tgt := 252) hx hb dL_law_248 (by decide) ?_
                                  refine n_ti (y := bI (chgB (v j) (now + d))) (by rw [h_on] at c_244; revert c_244; cases onB (v j) (now + d - 1) <;> cases chgB (v j) (now + d) <;> decide) ?_
                                  exact join_252 ls (lv_sub hl [0, 1, 2, 3, 4, 5, 6, 7, 8, 9, 10, 11, 12] rfl)
                          exact loop_213 28563 1 (by omega) (by omega) (by omega) ls (lv_sub hl [0, 1, 2, 3, 4, 5, 6, 7, 8, 9, 10, 11, 12] rfl)
                        refine lv_if_ge (tgt := 206) hx hb dL_law_198 (by decide) (fun c_198 => ?_) (fun c_198 => ?_)
                        · refine lv_iload hx hb dL_law_206 (lv_at hl 0 rfl) ?_
                          refine n_ti (y := nI (lookN (v j) now)) (by rw [(un_ge hwj c_198).2]) ?_
                          exact join_208 ls (lv_sub hl [0, 1, 2, 3, 4, 5, 6, 7, 8, 9, 10] rfl)
                        · refine lv_bipush (v := nI 20) hx hb dL_law_201 (by decide) ?_
                          refine lv_goto (tgt := 208) hx hb dL_law_203 (by decide) ?_
                          refine n_ti (y := nI (lookN (v j) now)) (by rw [(un_lt hwj c_198).2]) ?_
                          exact join_208 ls (lv_sub hl [0, 1, 2, 3, 4, 5, 6, 7, 8, 9, 10] rfl)
                      · exact absurd (un_m1 hwj) c_191
              refine lv_if_ge (tgt := 162) hx hb dL_law_155 (by decide) (fun c_155 => ?_) (fun c_155 => ?_)
              · refine lv_iconst (v := nI 0) hx hb dL_law_162 (by decide) ?_
                refine n_ti (y := bI (decide (cyc (v j) = 1))) (by rw [decide_eq_false (un_ge hwj c_155).1]; rfl) ?_
                exact join_163 ls (lv_sub hl [0, 1, 2, 3, 4, 5, 6, 7, 8, 9, 10] rfl)
              · refine lv_iconst (v := nI 1) hx hb dL_law_158 (by decide) ?_
                refine lv_goto (tgt := 163) hx hb dL_law_159 (by decide) ?_
                refine n_ti (y := bI (decide (cyc (v j) = 1))) (by rw [decide_eq_true (un_lt hwj c_155).1]; rfl) ?_
                exact join_163 ls (lv_sub hl [0, 1, 2, 3, 4, 5, 6, 7, 8, 9, 10] rfl)
          refine b_if_eq (b := onB (v j) now) (tgt := 143) hx hb dL_law_127 (by decide) (fun c_127 => ?_) (fun c_127 => ?_)
          · refine lv_iconst (v := nI 0) hx hb dL_law_143 (by decide) ?_
            refine n_ti (y := bI (litB (v j) now)) (by unfold litB; rw [c_127, Bool.and_false]; rfl) ?_
            exact join_144 ls (lv_sub hl [0, 2, 1, 3, 4, 5, 6, 7, 8, 9, 10] rfl)
          · refine lv_aload_n hx hb dL_law_130 rfl (lv_at hl 9 rfl) ?_
            refine lv_iload hx hb dL_law_131 (lv_at hl 2 rfl) ?_
            refine rV (r := bI (lcv (v j))) (As := [.int (nI j)]) (rest := [.int (bI (litB (v j) now))]) ⟨hx, hb, hml, hown, hts⟩ (e_X1_isCovered l D cI cZ cL cJ ad n now told v hwf j (by omega)) (cwV 1 hts gL_law_X1_isCovered rfl rfl rfl (by decide +kernel) ⟨(Nat.le_of_ble_eq_true rfl), (Nat.le_of_ble_eq_true rfl)⟩) hK hE0 hPX (RC_of (q := (RX1, TX1, 5)) (ci := 1) hK rfl (vpa hPX.1 0 rfl)) rfl hl.1 rfl (Nat.le_of_ble_eq_true rfl) dL_law_133 ⟨hcc, hss⟩ ?_
            refine b_if_ne (b := lcv (v j)) (tgt := 143) hx hb dL_law_136 (by decide) (fun c_136 => ?_) (fun c_136 => ?_)
            · refine lv_iconst (v := nI 0) hx hb dL_law_143 (by decide) ?_
              refine n_ti (y := bI (litB (v j) now)) (by unfold litB; rw [c_136]; rfl) ?_
              exact join_144 ls (lv_sub hl [0, 2, 1, 3, 4, 5, 6, 7, 8, 9, 10] rfl)
            · refine lv_iconst (v := nI 1) hx hb dL_law_139 (by decide) ?_
              refine lv_goto (tgt := 144) hx hb dL_law_140 (by decide) ?_
              refine n_ti (y := bI (litB (v j) now)) (by unfold litB; rw [c_127, c_136]; rfl) ?_
              exact join_144 ls (lv_sub hl [0, 2, 1, 3, 4, 5, 6, 7, 8, 9, 10] rfl)
        refine b_if_eq (b := litB (v j) now) (tgt := 103) hx hb dL_law_96 (by decide) (fun c_96 => ?_) (fun c_96 => ?_)
        · refine lv_iconst (v := nI 0) hx hb dL_law_103 (by decide) ?_
          refine n_ti (y := nI (if litB (v j) now = true then 1 else 0)) (by rw [c_96]; rfl) ?_
          exact join_104 ls (lv_sub hl [0, 1, 2, 3, 4, 5, 6, 7, 8, 9] rfl)
        · refine lv_iconst (v := nI 1) hx hb dL_law_99 (by decide) ?_
          refine lv_goto (tgt := 104) hx hb dL_law_100 (by decide) ?_
          refine n_ti (y := nI (if litB (v j) now = true then 1 else 0)) (by rw [c_96]; rfl) ?_
          exact join_104 ls (lv_sub hl [0, 1, 2, 3, 4, 5, 6, 7, 8, 9] rfl)
  exact loop_81 (n + 1) 0 (by omega) (Nat.zero_le _) ls (lv_sub hl [0, 1, 2, 3, 4, 5, 6, 7, 8, 9] rfl)
set_option maxHeartbeats 16000000 in
set_option maxRecDepth 100000 in
/-- how many are lit, and whether it is dark -/
theorem kA_485 (hC : LC p l s m c b L xs D cI cZ cL cJ cB)  (hwf : WFX n now v) (hn1 : 1 ≤ n) (hnow6 : now ≤ 6000) (hcc : cells ≤ 600130) (hss : slots ≤ 7301080) (hPX : PX D cI cL ad n now told v H) (hE0 : EN noA s H)  (hl : lv_has ls 19 [(9, .int (nI (litN v n now))), (8, .int (nI now)), (7, .int (nI n)), (5, .long dg), (4, .int vv), (3, .int (nI tm)), (2, .ref a), (1, .ref (ad 0)), (0, .ref b)]) (join_532 : ∀ (ls : Array Slot), lv_has ls 19 [(8, .int (nI now)), (7, .int (nI n)), (5, .long dg), (4, .int vv), (3, .int (nI tm)), (2, .ref a), (1, .ref (ad 0)), (0, .ref b)] → W p l e room_1 s m #[Value.ref b] below meth c H locs cells slots Q (F0 m 532 ls [])) : W p l e room_1 s m #[Value.ref b] below meth c H locs cells slots Q (F0 m 485 ls []) := by
  obtain ⟨hx, hb, hml, hown, hts, hK, hE, hEA, hEL, hX, hbl, hst⟩ := hC
  have hn8 := hwf.1
  have hwl := hwf.2.2
  have hd0 : dkB v n (-1) now = decide ((oI (fnd (fun q => dkB v n (-1) (now + q)) 0 2001)) = nI 0) := (fnd_0 (f := fun q => dkB v n (-1) (now + q)) (n := 2000) (by decide)).symm
  refine lv_iload hx hb dL_law_485 (lv_at hl 0 rfl) ?_
  refine lv_aload_n hx hb dL_law_487 rfl (lv_at hl 7 rfl) ?_
  refine rV (r := nI (litN v n now)) (As := []) (rest := [.int (nI (litN v n now))]) ⟨hx, hb, hml, hown, hts⟩ (c_X1_litLamps l D cI cZ cL cJ ad n now told v hwf) (cwV 0 hts gL_law_X1_litLamps rfl rfl rfl (by decide +kernel) ⟨(Nat.le_of_ble_eq_true rfl), (Nat.le_of_ble_eq_true rfl)⟩) hK hE0 hPX (RC_of (q := (RX1, TX1, 5)) (ci := 1) hK rfl (vpa hPX.1 0 rfl)) rfl hl.1 rfl (Nat.le_of_ble_eq_true rfl) dL_law_488 ⟨hcc, hss⟩ ?_
  refine n_icmp_ne (a := litN v n now) (b := litN v n now) (tgt := 530) hx hb (Nat.lt_of_le_of_lt (cnt_le _ _) (by omega)) (Nat.lt_of_le_of_lt (cnt_le _ _) (by omega)) dL_law_491 (by decide) (fun c_491 => ?_) (fun c_491 => ?_)
  · exact absurd rfl c_491
  · refine lv_aload_n hx hb dL_law_494 rfl (lv_at hl 7 rfl) ?_
    refine rV (r := bI (dkB v n (-1) now)) (As := []) (rest := []) ⟨hx, hb, hml, hown, hts⟩ (c_X1_isDark l D cI cZ cL cJ ad n now told v hwf) (cwV 0 hts gL_law_X1_isDark rfl rfl rfl (by decide +kernel) ⟨(Nat.le_of_ble_eq_true rfl), (Nat.le_of_ble_eq_true rfl)⟩) hK hE0 hPX (RC_of (q := (RX1, TX1, 5)) (ci := 1) hK rfl (vpa hPX.1 0 rfl)) rfl hl.1 rfl (Nat.le_of_ble_eq_true rfl) dL_law_495 ⟨hcc, hss⟩ ?_
    refine lv_iload hx hb dL_law_498 (lv_at hl 0 rfl) ?_
    have join_508 : ∀ (ls : Array Slot), lv_has ls 19 [(9, .int (nI (litN v n now))), (8, .int (nI now)), (7, .int (nI n)), (5, .long dg), (4, .int vv), (3, .int (nI tm)), (2, .ref a), (1, .ref (ad 0)), (0, .ref b)] → W p l e room_1 s m #[Value.ref b] below meth c H locs cells slots Q (F0 m 508 ls [.int (bI (dkB v n (-1) now)), .int (bI (dkB v n (-1) now))]) := by
      intro   ls hl
      refine lv_icmp_ne (tgt := 530) hx hb dL_law_508 (by decide) (fun c_508 => ?_) (fun c_508 => ?_)
      · exact absurd rfl c_508
      · refine lv_aload_n hx hb dL_law_511 rfl (lv_at hl 7 rfl) ?_
        refine rV (r := (oI (fnd (fun q => dkB v n (-1) (now + q)) 0 2001))) (As := []) (rest := []) ⟨hx, hb, hml, hown, hts⟩ (c_X1_momentsUntilDark l D cI cZ cL cJ ad n now told v hwf) (cwV 0 hts gL_law_X1_momentsUntilDark rfl rfl rfl (by decide +kernel) ⟨(Nat.le_of_ble_eq_true rfl), (Nat.le_of_ble_eq_true rfl)⟩) hK hE0 hPX (RC_of (q := (RX1, TX1, 5)) (ci := 1) hK rfl (vpa hPX.1 0 rfl)) rfl hl.1 rfl (Nat.le_of_ble_eq_true rfl) dL_law_512 ⟨hcc, hss⟩ ?_
        have join_523 : ∀ (ls : Array Slot), lv_has ls 19 [(9, .int (nI (litN v n now))), (8, .int (nI now)), (7, .int (nI n)), (5, .long dg), (4, .int vv), (3, .int (nI tm)), (2, .ref a), (1, .ref (ad 0)), (0, .ref b)] → W p l e room_1 s m #[Value.ref b] below meth c H locs cells slots Q (F0 m 523 ls [.int (bI (dkB v n (-1) now))]) := by
          intro   ls hl
          refine lv_aload_n hx hb dL_law_523 rfl (lv_at hl 7 rfl) ?_
          refine rV (r := bI (dkB v n (-1) now)) (As := []) (rest := [.int (bI (dkB v n (-1) now))]) ⟨hx, hb, hml, hown, hts⟩ (c_X1_isDark l D cI cZ cL cJ ad n now told v hwf) (cwV 0 hts gL_law_X1_isDark rfl rfl rfl (by decide +kernel) ⟨(Nat.le_of_ble_eq_true rfl), (Nat.le_of_ble_eq_true rfl)⟩) hK hE0 hPX (RC_of (q := (RX1, TX1, 5)) (ci := 1) hK rfl (vpa hPX.1 0 rfl)) rfl hl.1 rfl (Nat.le_of_ble_eq_true rfl) dL_law_524 ⟨hcc, hss⟩ ?_
          refine lv_icmp_eq (tgt := 532) hx hb dL_law_527 (by decide) (fun c_527 => ?_) (fun c_527 => ?_)
          · exact join_532 ls (lv_sub hl [1, 2, 3, 4, 5, 6, 7, 8] rfl)
          · exact absurd rfl c_527
        refine lv_if_ne (tgt := 522) hx hb dL_law_515 (by decide) (fun c_515 => ?_) (fun c_515 => ?_)
        · refine lv_iconst (v := nI 0) hx hb dL_law_522 (by decide) ?_
          refine n_ti (y := bI (dkB v n (-1) now)) (by rw [hd0, decide_eq_false (show ¬ (oI (fnd (fun q => dkB v n (-1) (now + q)) 0 2001)) = nI 0 from c_515)]; rfl) ?_
          exact join_523 ls (lv_sub hl [0, 1, 2, 3, 4, 5, 6, 7, 8] rfl)
        · refine lv_iconst (v := nI 1) hx hb dL_law_518 (by decide) ?_
          refine lv_goto (tgt := 523) hx hb dL_law_519 (by decide) ?_
          refine n_ti (y := bI (dkB v n (-1) now)) (by rw [hd0, decide_eq_true (show (oI (fnd (fun q => dkB v n (-1) (now + q)) 0 2001)) = nI 0 from c_515)]; rfl) ?_
          exact join_523 ls (lv_sub hl [0, 1, 2, 3, 4, 5, 6, 7, 8] rfl)
    refine n_if_ne (a := litN v n now) (tgt := 507) hx hb (Nat.lt_of_le_of_lt (cnt_le _ _) (by omega)) dL_law_500 (by decide) (fun c_500 => ?_) (fun c_500 => ?_)
    · refine lv_iconst (v := nI 0) hx hb dL_law_507 (by decide) ?_
      refine n_ti (y := bI (dkB v n (-1) now)) (by unfold dkB; rw [ltN_all hn8]; rw [decide_eq_false c_500]; rfl) ?_
      exact join_508 ls (lv_sub hl [0, 1, 2, 3, 4, 5, 6, 7, 8] rfl)
    · refine lv_iconst (v := nI 1) hx hb dL_law_503 (by decide) ?_
      refine lv_goto (tgt := 508) hx hb dL_law_504 (by decide) ?_
      refine n_ti (y := bI (dkB v n (-1) now)) (by unfold dkB; rw [ltN_all hn8]; rw [decide_eq_true c_500]; rfl) ?_
      exact join_508 ls (lv_sub hl [0, 1, 2, 3, 4, 5, 6, 7, 8] rfl)
end Law
