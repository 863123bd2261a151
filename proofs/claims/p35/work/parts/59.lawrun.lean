section Law
variable {p : Program} {l : Launch} {e : Env} {s : State} {m : MethodId} {below : List Frame} {meth : Method} {c : Code} {Q : State → Prop} {b L : Nat} {xs : Nat → Int32} {ls : Array Slot}
set_option maxHeartbeats 16000000 in
set_option maxRecDepth 100000 in
/-- the law, from its entry to its end -/
theorem law_run (hst : l.stackTraces = false) (hL2 : L ≤ 260) (hx : p.tables.exec = Jvm.exec) (hb : c.code = cL_law) (hml : c.maxLocals = 19) (hown : s.vm.findClass RL = some m.cls) (hts0 : ∀ w ∈ lw_tbl, w.before #[Value.ref b] s = true) (hX : va_X b L xs s s.heap) (hbl : b < s.heap.size) (hgv : (Cond.and given_1 narrow_1).before #[Value.ref b] s = true) (hl : lv_has ls 19 [(0, .ref b)]) (kk : ∀ (H : Heap) (locs : List Loc) (ls : Array Slot), va_S (fun q => s.heap.size ≤ q) s.heap H locs → W p l e room_1 s m #[Value.ref b] below meth c H locs 600130 7301080 Q (F0 m 1195 ls [.int 1])) : W p l e room_1 s m #[Value.ref b] below meth c s.heap [] 0 0 Q (F0 m 0 ls []) := by
  have hE := entry_EN hts0 hgv
  obtain ⟨D, cI, cZ, cL, cJ, cB, hK, hEA⟩ := entry_K hts0
  have hEL := entry_EL hts0 hgv
  have hts : ∀ w ∈ wsL_law, w.before #[Value.ref b] s = true := fun w h => hts0 w (wsL_law_in w h)
  have hts2 : ∀ w ∈ (.classLink RX2 16 "[[[I" :: wsL_law : List Cond), w.before #[Value.ref b] s = true := fun w h => (List.mem_cons.mp h).elim (fun h => hts0 w (by rw [h]; exact law_link)) (fun h => hts w h)
  have hAO : va_AO "LanternPrimes$Lamp" s := va_AO.of (hts0 (.arrayOver (.object "LanternPrimes$Lamp")) (by decide +kernel))
  have hNI := hE.2.1.2
  have hNS : va_Nw (.methodLinkNest "LanternPrimesLaw" 69 yX2_init "LanternPrimesLaw") s := va_Nw.of rfl (hts0 _ law_nest)
  have hC : LC p l s m c b L xs D cI cZ cL cJ cB := ⟨hx, hb, hml, hown, hts, hK, hE, hEA, hEL, hX, hbl, hst⟩
  have hL : L < 2 ^ 30 := by omega
  have hbA : ¬ (fun q => s.heap.size ≤ q) b := Nat.not_le.mpr hbl
  have hP0 : va_P D vwCl [] s.heap := fun k q h => by cases h
  have hD0 : ∀ {A : Nat → Prop}, va_D A [] := ⟨fun i j q r h => (by cases h), fun k q h => (by cases h)⟩
  have hS : va_S (fun q => s.heap.size ≤ q) s.heap s.heap [] := va_S.rf
  refine va_new (ci := 1) (fs := [.null, .null, .int 0, .int 0, .int 0]) (C := RX1) (T := TX1) (N := 5) hx hb hts inlX1 tyX1 tyX1_ok hown (hts (.classLink RL 26 RX1) (List.mem_of_getElem? (i := 0) rfl)) (hts (.instantiable RX1 5) (List.mem_of_getElem? (i := 1) rfl)) (hts (.initialized RX1) (List.mem_of_getElem? (i := 2) rfl)) hK hP0 hD0 hS (fun q h => h) rfl (fun j hj => by rcases (show j = 0 ∨ j = 1 ∨ j = 2 ∨ j = 3 ∨ j = 4 by omega) with rfl | rfl | rfl | rfl | rfl <;> rfl) (Nat.le_of_ble_eq_true rfl) (Nat.le_of_ble_eq_true rfl) dL_law_0 (fun a1 H hP hD hS => ?_)
  have hP : va_P D vwCl [(a1, .inr (1, [.null, .null, .int 0, .int 0, .int 0]))] H := hP
  have hfr : s.heap.size ≤ a1 := hD.2 0 _ rfl
  have hfree : ∀ q, AN a1 H.size q → s.heap.size ≤ q := fun q h => h.elim (fun h => by rw [h]; exact hfr) (fun h => Nat.le_trans hS.1 h)
  refine lv_dup hx hb dL_law_3 rfl ?_
  refine va_callv (va_runI (As := []) (rest := [.ref a1]) ⟨hx, hb, hml, hown, hts⟩ (c_X1_init l D cI cZ cL cJ a1 H.size) (cwI 0 hts gL_law_X1_init rfl rfl rfl (hts (.initialized RX1) (List.mem_of_getElem? (i := 2) rfl)) (hts (.methodLink RL 74 yX1_init) (List.mem_of_getElem? (i := 4) rfl)) (hts (.instanceMethod yX1_init) (List.mem_of_getElem? (i := 5) rfl)) rfl (by decide +kernel) ⟨(Nat.le_of_ble_eq_true rfl), (Nat.le_of_ble_eq_true rfl)⟩) ⟨PN1_blind, fun U hU hW => ⟨⟨rfl, va_K.moved hW.alike hK, by rw [hU], by rw [hU]; exact hP⟩, va_AO.moved hW.alike hAO, va_Nw.warmM hW hNI⟩⟩ rfl rfl hl.1 rfl (lv_room (Nat.le_of_ble_eq_true rfl)) dL_law_4 ⟨(Nat.le_of_ble_eq_true rfl), (Nat.le_of_ble_eq_true rfl)⟩) hS (fun q _ h => hfree q h) hfree (fun ad t H locs ht hvm hu hB hz1 hk1 hS => ?_)
  have hPX : PX D cI cL ad 0 0 (nI 0) (fun _ => L0) t.heap := hB
  rw [ht] at hPX
  obtain ⟨h00, hI29, hA29⟩ := hu
  have hadg : ∀ i, i < 29 → s.heap.size ≤ ad i := fun i hi => hfree _ (hA29 i hi)
  subst h00
  refine lv_astore_n (lv' := [(1, .ref (ad 0)), (0, .ref b)]) hx hb dL_law_7 rfl hl (by decide) rfl (fun ls hl => ?_)
  refine lv_aload_n hx hb dL_law_8 rfl (lv_at hl 0 rfl) ?_
  refine lv_aload_n hx hb dL_law_9 rfl (lv_at hl 1 rfl) ?_
  refine va_callr (va_runS (As := [.ref (ad 0), .ref b]) (rest := []) ⟨hx, hb, hml, hown, hts2⟩ (c_L_build l D cI cZ cL cJ cB s.heap.size ad hI29 hadg b L xs hL hbl) (va_cwS 2 hts2 gK_law_build rfl rfl rfl (by decide +kernel) ⟨(Nat.le_of_ble_eq_true rfl), (Nat.le_of_ble_eq_true rfl)⟩) ⟨PCB_blind, PCBuse hK (hE.kept hS.2.1) hEA (hEL.kept hS.2.1) (hX.kept (hS.2.1 b hbl hbA)) hNS hPX⟩ rfl rfl hl.1 rfl (lv_room (Nat.le_of_ble_eq_true rfl)) dL_law_10 ⟨(Nat.le_of_ble_eq_true rfl), (Nat.le_of_ble_eq_true rfl)⟩) hS (fun q _ h => h) (fun q h => h) (fun u ra t H locs ht hvm hu hB hz1 hk1 hS => ?_)
  obtain ⟨n, v, as⟩ := u
  obtain ⟨hra, hPX, hSP⟩ : ra = as 0 ∧ PX D cI cL ad n 0 (nI 0) v t.heap ∧ SP D cI cZ cJ cB as n 0 (nI 0) v t.heap := hB
  rw [ht] at hPX hSP
  obtain ⟨hG, hwf, hn1⟩ : GW s.heap.size ad as v ∧ WFX n 0 v ∧ 1 ≤ n := hu
  obtain ⟨a, ha⟩ : ∃ a, as 0 = a := ⟨_, rfl⟩
  rw [ha] at hra
  rw [hra]
  refine lv_astore_n (lv' := [(2, .ref a), (1, .ref (ad 0)), (0, .ref b)]) hx hb dL_law_13 rfl hl (by decide) rfl (fun ls hl => ?_)
  refine lv_aload_n hx hb dL_law_14 rfl (lv_at hl 0 rfl) ?_
  refine lv_ifnonnull (tgt := 20) hx hb dL_law_15 (by decide) ?_
  refine W.widen (k := (93 + 6 * 0)) (n := (412 + 31 * 0)) (by omega) (by omega) ?_
  refine lv_iconst (v := nI 0) hx hb dL_law_20 (by decide) ?_
  refine lv_istore_n (lv' := [(3, .int (nI 0)), (2, .ref a), (1, .ref (ad 0)), (0, .ref b)]) hx hb dL_law_21 rfl hl (by decide) rfl (fun ls hl => ?_)
  have loop_22 : ∀ (fu : Nat) (tm n0 now0 : Nat) (told0 : Int32) (v0 : Nat → LV) (as0 : Nat → Nat), 11 - tm ≤ fu → tm ≤ 10 → as0 0 = a → now0 ≤ 560 * tm → 1 ≤ n0 → ∀ (H : Heap) (locs : List Loc), GW s.heap.size ad as0 v0 → WFX n0 now0 v0 → PX D cI cL ad n0 now0 told0 v0 H → SP D cI cZ cJ cB as0 n0 now0 told0 v0 H → va_S (fun q => s.heap.size ≤ q) s.heap H locs → ∀ (ls : Array Slot), lv_has ls 19 [(3, .int (nI tm)), (2, .ref a), (1, .ref (ad 0)), (0, .ref b)] → W p l e room_1 s m #[Value.ref b] below meth c H locs (93 + 6 * tm) (412 + 31 * tm) Q (F0 m 22 ls []) := by
    intro fu
    induction fu with
    | zero => intro tm n0 now0 told0 v0 as0 hn_22 htm ha hnow hn1; exact absurd hn_22 (by omega)
    | succ fu ih_22 =>
      intro tm n0 now0 told0 v0 as0 hn_22 htm ha hnow hn1 H locs hG hwf hPX hSP hS ls hl
      rw [← ha] at hl
      refine lv_iload_n hx hb dL_law_22 rfl (lv_at hl 0 rfl) ?_
      refine lv_bipush (v := nI 10) hx hb dL_law_23 (by decide) ?_
      refine n_icmp_ge (a := tm) (b := 10) (tgt := 1190) hx hb (by omega) (by decide) dL_law_25 (by decide) (fun c_25 => ?_) (fun c_25 => ?_)
      · refine lv_aload_n hx hb dL_law_1190 rfl (lv_at hl 1 rfl) ?_
        refine lv_aload_n hx hb dL_law_1191 rfl (lv_at hl 2 rfl) ?_
        have hlo : s.heap.size ≤ H.size := hS.1
        refine va_calli (va_runV (As := [.ref (ad 0)]) (rest := []) ⟨hx, hb, hml, hown, hts⟩ (c_X2_isSame l D cI cZ cL cJ cB ad as0 n0 now0 told0 v0 hwf (by omega) H.size) (cwV 1 hts gL_law_X2_isSame rfl rfl rfl (by decide +kernel) ⟨(Nat.le_of_ble_eq_true rfl), (Nat.le_of_ble_eq_true rfl)⟩) ⟨PCZ_blind, (RC_of (q := (RX2, TX2, 6)) (ci := 2) hK rfl (vpa hSP.1 0 rfl)), PCZuse hK ((hE.kept hS.2.1).narrow (fun q h => Nat.le_trans hlo h)) hEA ⟨hPX, hSP⟩⟩ rfl rfl hl.1 rfl (lv_room (Nat.le_of_ble_eq_true rfl)) dL_law_1192 ⟨by show (93 + 6 * tm) + 8 ≤ 600130; omega, by show (412 + 31 * tm) + 8 * (now0 + 1) ≤ 7301080; omega⟩) hS (fun q _ h => Nat.le_trans hlo h) (fun q h => h.elim) (fun r u t H locs ht hvm hu hB hz1 hk1 hS => ?_)
        have hr1 : r = 1 := hu
        rw [hr1]
        refine W.widen (k := 600130) (n := 7301080) (by omega) (by omega) ?_
        exact kk H locs ls hS
      · refine lv_aload_n hx hb dL_law_28 rfl (lv_at hl 3 rfl) ?_
        refine lv_iconst (v := nI 2) hx hb dL_law_29 (by decide) ?_
        refine lv_iload_n hx hb dL_law_30 rfl (lv_at hl 0 rfl) ?_
        refine n_iadd (v := nI (2 + tm)) hx hb dL_law_31 (nI_add _ _) ?_
        refine rS9 (r := celV xs L (2 + tm)) (As := [.ref b, .int (nI (2 + tm))]) (rest := []) ⟨hx, hb, hml, hown, hts⟩ (c_L_cell l b L xs (2 + tm) hL (by omega)) (va_cwS 2 hts gL_law_L_cell rfl rfl rfl (by decide +kernel) ⟨(Nat.le_of_ble_eq_true rfl), (Nat.le_of_ble_eq_true rfl)⟩) (hX.kept (hS.2.1 b hbl hbA)) (Nat.lt_of_lt_of_le hbl hS.1) rfl hl.1 rfl (Nat.le_of_ble_eq_true rfl) dL_law_32 ⟨(by show (93 + 6 * tm) ≤ 600130; omega), (by show (412 + 31 * tm) ≤ 7301080; omega)⟩ ?_
        obtain ⟨x0, hx0⟩ : ∃ y, celV xs L (2 + tm) = y := ⟨_, rfl⟩
        refine n_ti hx0 ?_
        refine lv_iconst (v := nI 1) hx hb dL_law_35 (by decide) ?_
        refine lv_ishr hx hb dL_law_36 ?_
        obtain ⟨x1, hx1⟩ : ∃ y, x0 >>> (nI 1 &&& 31) = y := ⟨_, rfl⟩
        refine n_ti hx1 ?_
        refine lv_sipush (v := nI 263) hx hb dL_law_37 (by decide) ?_
        refine lv_iload_n hx hb dL_law_40 rfl (lv_at hl 0 rfl) ?_
        refine n_imul (v := nI (263 * tm)) hx hb dL_law_41 (pk_mul _ _) ?_
        refine n_iadd (v := x1 + (nI (263 * tm))) hx hb dL_law_42 rfl ?_
        obtain ⟨vv, hvv⟩ : ∃ y, x1 + (nI (263 * tm)) = y := ⟨_, rfl⟩
        refine n_ti hvv ?_
        refine lv_istore (lv' := [(4, .int vv), (3, .int (nI tm)), (2, .ref (as0 0)), (1, .ref (ad 0)), (0, .ref b)]) hx hb dL_law_43 hl (by decide) rfl (fun ls hl => ?_)
        refine lv_aload_n hx hb dL_law_45 rfl (lv_at hl 3 rfl) ?_
        refine lv_aload_n hx hb dL_law_46 rfl (lv_at hl 2 rfl) ?_
        refine lv_iload hx hb dL_law_47 (lv_at hl 0 rfl) ?_
        refine va_calli (vx_runSW (As := [.ref (ad 0), .ref (as0 0), .int vv]) (rest := []) ⟨hx, hb, hml, hown, hts⟩ (c_L_act l D cI cZ cL cJ cB hst s.heap.size ad as0 n0 now0 told0 v0 hwf hG hn1 (by omega) vv) (vx_cwSW 3 hts gL_law_L_act rfl rfl rfl (by decide +kernel) ⟨(Nat.le_of_ble_eq_true rfl), (Nat.le_of_ble_eq_true rfl)⟩) ⟨PCL_blind, PCLuse hK (hE.kept hS.2.1) hEA (hEL.kept hS.2.1) ⟨hPX, hSP⟩⟩ rfl rfl hl.1 rfl (lv_room (Nat.le_of_ble_eq_true rfl)) dL_law_49 ⟨by show (93 + 6 * tm) + 6 ≤ 600130; omega, by show (412 + 31 * tm) + 31 ≤ 7301080; omega⟩) hS (fun q _ h => h) (fun q h => h) (fun r u t H locs ht hvm hu hB hz1 hk1 hS => ?_)
        obtain ⟨n, now, told, v, as⟩ := u
        obtain ⟨hr1, hG, hwf, hn1, hnw1, hnw2, has0⟩ : r = 1 ∧ GW s.heap.size ad as v ∧ WFX n now v ∧ 1 ≤ n ∧ now0 ≤ now ∧ now ≤ now0 + 500 ∧ as 0 = as0 0 := hu
        obtain ⟨hPX, hSP⟩ : PX D cI cL ad n now told v t.heap ∧ SP D cI cZ cJ cB as n now told v t.heap := hB
        rw [ht] at hPX hSP
        rw [hr1]
        rw [← has0] at hl
        have hE0 : EN noA s H := (hE.kept hS.2.1).narrow (fun _ h => h.elim)
        have hnow6 : now ≤ 6000 := by omega
        have hcc : (93 + 6 * tm) + 6 ≤ 600130 := by omega
        have hss : (412 + 31 * tm) + 31 ≤ 7301080 := by omega
        refine lv_if_ne (tgt := 57) hx hb dL_law_52 (by decide) (fun c_52 => ?_) (fun c_52 => ?_)
        · refine lv_aload_n hx hb dL_law_57 rfl (lv_at hl 3 rfl) ?_
          refine rVl (r := (dgst n now told v)) (As := []) (rest := []) ⟨hx, hb, hml, hown, hts⟩ (c_X1_digest l D cI cZ cL cJ ad n now told v hwf) (cwV 0 hts gL_law_X1_digest rfl rfl rfl (by decide +kernel) ⟨(Nat.le_of_ble_eq_true rfl), (Nat.le_of_ble_eq_true rfl)⟩) hK hE0 hPX (RC_of (q := (RX1, TX1, 5)) (ci := 1) hK rfl (vpa hPX.1 0 rfl)) rfl hl.1 rfl (Nat.le_of_ble_eq_true rfl) dL_law_58 ⟨hcc, hss⟩ ?_
          obtain ⟨dg, hdg⟩ : ∃ y, dgst n now told v = y := ⟨_, rfl⟩
          refine n_tl hdg ?_
          refine lv_lstore (lv' := [(5, .long dg), (4, .int vv), (3, .int (nI tm)), (2, .ref (as 0)), (1, .ref (ad 0)), (0, .ref b)]) hx hb dL_law_61 hl (by decide) rfl (fun ls hl => ?_)
          refine lv_aload_n hx hb dL_law_63 rfl (lv_at hl 4 rfl) ?_
          refine rV (r := nI n) (As := []) (rest := []) ⟨hx, hb, hml, hown, hts⟩ (c_X1_lamps l D cI cZ cL cJ ad n now told v hwf) (cwV 0 hts gL_law_X1_lamps rfl rfl rfl (by decide +kernel) ⟨(Nat.le_of_ble_eq_true rfl), (Nat.le_of_ble_eq_true rfl)⟩) hK hE0 hPX (RC_of (q := (RX1, TX1, 5)) (ci := 1) hK rfl (vpa hPX.1 0 rfl)) rfl hl.1 rfl (Nat.le_of_ble_eq_true rfl) dL_law_64 ⟨hcc, hss⟩ ?_
          refine lv_istore (lv' := [(7, .int (nI n)), (5, .long dg), (4, .int vv), (3, .int (nI tm)), (2, .ref (as 0)), (1, .ref (ad 0)), (0, .ref b)]) hx hb dL_law_67 hl (by decide) rfl (fun ls hl => ?_)
          refine lv_aload_n hx hb dL_law_69 rfl (lv_at hl 5 rfl) ?_
          refine rV (r := nI now) (As := []) (rest := []) ⟨hx, hb, hml, hown, hts⟩ (c_X1_now l D cI cZ cL cJ ad n now told v hwf) (cwV 0 hts gL_law_X1_now rfl rfl rfl (by decide +kernel) ⟨(Nat.le_of_ble_eq_true rfl), (Nat.le_of_ble_eq_true rfl)⟩) hK hE0 hPX (RC_of (q := (RX1, TX1, 5)) (ci := 1) hK rfl (vpa hPX.1 0 rfl)) rfl hl.1 rfl (Nat.le_of_ble_eq_true rfl) dL_law_70 ⟨hcc, hss⟩ ?_
          refine lv_istore (lv' := [(8, .int (nI now)), (7, .int (nI n)), (5, .long dg), (4, .int vv), (3, .int (nI tm)), (2, .ref (as 0)), (1, .ref (ad 0)), (0, .ref b)]) hx hb dL_law_73 hl (by decide) rfl (fun ls hl => ?_)
          refine lv_iconst (v := nI 0) hx hb dL_law_75 (by decide) ?_
          refine lv_istore (lv' := [(9, .int (nI 0)), (8, .int (nI now)), (7, .int (nI n)), (5, .long dg), (4, .int vv), (3, .int (nI tm)), (2, .ref (as 0)), (1, .ref (ad 0)), (0, .ref b)]) hx hb dL_law_76 hl (by decide) rfl (fun ls hl => ?_)
          refine lv_iconst (v := nI 0) hx hb dL_law_78 (by decide) ?_
          refine lv_istore (lv' := [(10, .int (nI 0)), (9, .int (nI 0)), (8, .int (nI now)), (7, .int (nI n)), (5, .long dg), (4, .int vv), (3, .int (nI tm)), (2, .ref (as 0)), (1, .ref (ad 0)), (0, .ref b)]) hx hb dL_law_79 hl (by decide) rfl (fun ls hl => ?_)
          have hl := lv_sub hl [0, 1, 2, 3, 4, 5, 6, 7, 8, 9] rfl
          refine kA_81 hC hwf hn1 hnow6 hcc hss hPX hE0 hl (fun ls hl => ?_)
          refine kA_485 hC hwf hn1 hnow6 hcc hss hPX hE0 hl (fun ls hl => ?_)
          refine kA_532 hC hwf hn1 hnow6 hcc hss hPX hE0 hG hSP hS hl (fun v2 H locs hv8 hPX hSP hG hwf hS ls hl => ?_)
          have hE0 : EN noA s H := (hE.kept hS.2.1).narrow (fun _ h => h.elim)
          have hdg2 : dg = dgst n now told v2 := by rw [dgst_congr (w := v) (fun j hj => hv8 j (by have := hwf.1; omega))]; exact hdg.symm
          refine kA_802 hC hwf hn1 hnow6 hcc hss hPX hE0 hG hSP hS hdg2 hl (fun w H locs hw1 hw60 hPX hSP hS ls hl => ?_)
          have hE0 : EN noA s H := (hE.kept hS.2.1).narrow (fun _ h => h.elim)
          refine kA_1041 hC hwf hn1 hnow6 hcc hss hPX hE0 hG hSP hS hw1 hw60 hl (fun told H locs hPX hSP hS ls hl => ?_)
          rw [has0.trans ha] at hl
          have hwf3 : WFX n (now + w) v2 := ⟨hwf.1, by omega, hwf.2.2⟩
          refine W.widen (k := (93 + 6 * (tm + 1))) (n := (412 + 31 * (tm + 1))) (by omega) (by omega) ?_
          refine lv_iinc (v := nI (tm + 1)) (lv' := [(3, .int (nI (tm + 1))), (2, .ref a), (1, .ref (ad 0)), (0, .ref b)]) hx hb dL_law_1184 hl (k := 0) rfl (nI_inc _) (by decide) rfl (fun ls hl => ?_)
          refine lv_goto (tgt := 22) hx hb dL_law_1187 (by decide) ?_
          exact ih_22 (tm + 1) n (now + w) told v2 as (by omega) (by omega) (has0.trans ha) (by omega) hn1 H locs hG hwf3 hPX hSP hS ls (lv_sub hl [0, 1, 2, 3] rfl)
        · exact absurd c_52 (by decide)
  exact loop_22 11 0 n 0 (nI 0) v as (by omega) (Nat.zero_le _) ha (by omega) hn1 H locs hG hwf hPX hSP hS ls (lv_sub hl [0, 1, 2, 3] rfl)
end Law
