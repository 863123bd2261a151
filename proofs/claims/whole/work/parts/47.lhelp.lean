set_option maxHeartbeats 4000000 in
set_option maxRecDepth 100000 in
/-- the law: addLamp -/
theorem c_L_addLamp (l : Launch) (D : va_G) (cI cZ cL cJ : ClassId) (hst : l.stackTraces = false) (ad : Nat → Nat) (n now : Nat) (told : Int32) (v : Nat → LV) (hwf : WFX n now v) (hinj : Inj 29 ad) (z : Nat) (f : Nat → Int64) (hz : ¬ AX ad z) (b : Bool) : Met l yL_addLamp wsL_addLamp ({ frames := 7, cells := 1, slots := 6, locals := 111 } : Room) (PC D (TY cI cZ cL cJ) (AL ad z) [.ref (ad 0), .int (bI b), .ref z] (fun H => PX D cI cL ad n now told v H ∧ va_P D vwCl (outW cJ z f) H)) (QW (AL ad z) True (nI (cd1 (decide (n < 8)))) (LEnd D cI cL cJ ad z (if cd1 (decide (n < 8)) = 0 then n + 1 else n) now told (if cd1 (decide (n < 8)) = 0 then updv v n (setOn (v n) b) else v) (cd1 (decide (n < 8))) ((nI n).toInt64))) 1 6 (AL ad z) := by
  refine MetWH (cc := cL_addLamp) (maxL := 4) (ret := (some .int)) (hh := [(0, 9, 12, 13)]) (by decide) rfl ?_
  intro p e s m args below meth c s₁ B hml htab hv
  obtain ⟨rfl, hK, hEL, hPX, hOut⟩ := hv
  have hEA : EN (AX ad) s s.heap := hEL.narrow (fun _ h => Or.inl h)
  have hE : EN noA s s.heap := hEA.narrow (fun _ h => h.elim)
  have hx := B.exec
  have hb := B.bytes
  have hr := B.returns
  have hts := atoms_spec (ws := wsL_addLamp) B.pre
  have hown : s.vm.findClass RL = some m.cls := findClass_of_methodNamed B.named
  have hlocks := B.notSynchronized
  have hlt := (vpa hOut 0 rfl).lt
  have hl := lv_entry ([.ref (ad 0), .int (bI b), .ref z]) (n := 4) (Nat.le_of_ble_eq_true rfl)
  rw [lg_entry_eq]
  generalize (lg_sl ([.ref (ad 0), .int (bI b), .ref z]) ++ List.replicate (4 - (lg_sl ([.ref (ad 0), .int (bI b), .ref z])).length) Slot.unset).toArray = ls at hl ⊢
  have hl : lv_has ls 4 [(0, .ref (ad 0)), (1, .int (bI b)), (2, .ref z)] := hl
  refine lv_aload_n hx hb dL_addLamp_0 rfl (lv_at hl 2 rfl) ?_
  refine lv_iconst (v := nI 0) hx hb dL_addLamp_1 (by decide) ?_
  refine lv_aload_n hx hb dL_addLamp_2 rfl (lv_at hl 0 rfl) ?_
  refine lv_iload_n hx hb dL_addLamp_3 rfl (lv_at hl 1 rfl) ?_
  refine lxW (A0 := AL ad z) (As := [.int (bI b)]) (rest := [.int (nI 0), .ref z]) ⟨hx, hb, hml, hown, hts⟩ (c_X1_addLamp l D cI cZ cL cJ hst ad n now told v hwf hinj b) (cwV 1 hts gL_addLamp_X1_addLamp rfl rfl rfl (by decide +kernel) ⟨(Nat.le_of_ble_eq_true rfl), (Nat.le_of_ble_eq_true rfl)⟩) hK hEA hPX (RC_of (q := (RX1, TX1, 5)) (ci := 1) hK rfl (vpa hPX.1 0 rfl)) rfl hl.1 rfl (Nat.le_of_ble_eq_true rfl) dL_addLamp_4 ⟨(Nat.le_of_ble_eq_true rfl), (Nat.le_of_ble_eq_true rfl)⟩ va_S.rf (fun q h => Or.inl h) (fun E ce q9 H locs hp hz1 hk hS hce hcv hcl => ?_) (fun H locs hok hPn hz1 hk hS => ?_)
  · have h_0 := hz1
    obtain ⟨hcd, rfl⟩ := exC1 hp
    refine vx_catch (name := "java/lang/IllegalStateException") hown [] ⟨0, 9, 12, 13⟩ [] (by rw [htab]; rfl) (fun y hy => by cases hy) rfl (by decide) (hts (.classLink RL 13 "java/lang/IllegalStateException") (List.mem_of_getElem? (i := 1) rfl)) (va_Nw.use rfl (hE.2.2.1.2.2 _ (by decide))) hce hcv hcl ?_
    show W _ _ _ _ _ _ _ _ _ _ _ _ _ _ _ (F0 m 12 ls [.ref q9])
    have hend : LEnd D cI cL cJ ad z (if cd1 (decide (n < 8)) = 0 then n + 1 else n) now told (if cd1 (decide (n < 8)) = 0 then updv v n (setOn (v n) b) else v) (cd1 (decide (n < 8))) ((nI n).toInt64) H := by
      rw [hcd]
      exact ⟨PX_keep (A := fun _ => False) hPX (fun _ _ h => h) (fun q h _ => hk q h), f, outK (A := fun _ => False) hOut (fun h => h) (fun q h _ => hk q h), fun h => absurd h (by decide)⟩
    refine lv_astore_n (lv' := [(3, .ref q9), (0, .ref (ad 0)), (1, .int (bI b)), (2, .ref z)]) hx hb dL_addLamp_12 rfl hl (by decide) rfl (fun ls hl => ?_)
    refine lv_iconst (v := nI 1) hx hb dL_addLamp_13 (by decide) ?_
    refine n_ti (y := nI (cd1 (decide (n < 8)))) (by rw [hcd]) ?_
    exact W.iret (v := nI (cd1 (decide (n < 8)))) hx hb hr (fun t ht hW => ⟨trivial, rfl, by rw [ht]; exact hend, hS.F ht⟩) hS.2.2 dL_addLamp_14
  · have hO2 := outK hOut hz hk
    refine lv_i2l (v := (nI n).toInt64) hx hb dL_addLamp_7 rfl ?_
    refine n_lastK hx hb hK hO2 hS (Or.inr rfl) 3 rfl dL_addLamp_8 (fun H5 locs hO5 hz5 hk5 hS => ?_)
    have hPX5 := PX_keep (A := fun q => q = z) (H := H5) hPn (fun i hi h => hz ⟨i, hi, h.symm⟩) (fun q _ h => hk5 q h)
    have hend : LEnd D cI cL cJ ad z (if cd1 (decide (n < 8)) = 0 then n + 1 else n) now told (if cd1 (decide (n < 8)) = 0 then updv v n (setOn (v n) b) else v) (cd1 (decide (n < 8))) ((nI n).toInt64) H5 := by
      rw [hok]
      exact ⟨hPX5, _, hO5, fun _ => rfl⟩
    refine lv_goto (tgt := 15) hx hb dL_addLamp_9 (by decide) ?_
    refine lv_iconst (v := nI 0) hx hb dL_addLamp_15 (by decide) ?_
    refine n_ti (y := nI (cd1 (decide (n < 8)))) (by rw [hok]) ?_
    exact W.iret (v := nI (cd1 (decide (n < 8)))) hx hb hr (fun t ht hW => ⟨trivial, rfl, by rw [ht]; exact hend, hS.F ht⟩) hS.2.2 dL_addLamp_16
set_option maxHeartbeats 4000000 in
set_option maxRecDepth 100000 in
/-- the law: addBeat -/
theorem c_L_addBeat (l : Launch) (D : va_G) (cI cZ cL cJ : ClassId) (hst : l.stackTraces = false) (ad : Nat → Nat) (n now : Nat) (told : Int32) (v : Nat → LV) (hwf : WFX n now v) (hinj : Inj 29 ad) (z : Nat) (f : Nat → Int64) (hz : ¬ AX ad z) (k x o : Int32) : Met l yL_addBeat wsL_addBeat ({ frames := 8, cells := 4, slots := 24, locals := 130 } : Room) (PC D (TY cI cZ cL cJ) (AL ad z) [.ref (ad 0), .int k, .int x, .int o, .ref z] (fun H => PX D cI cL ad n now told v H ∧ va_P D vwCl (outW cJ z f) H)) (QW (AL ad z) True (nI (cd3 (lpOk n k) (prB x && rgOk o x) (decide (lbc (v (ixx k)) < 4)))) (LEnd D cI cL cJ ad z n now told (if cd3 (lpOk n k) (prB x && rgOk o x) (decide (lbc (v (ixx k)) < 4)) = 0 then updv v (ixx k) (addL (v (ixx k)) (ixx x) (ixx o)) else v) (cd3 (lpOk n k) (prB x && rgOk o x) (decide (lbc (v (ixx k)) < 4))) ((nI (lbc (v (ixx k)))).toInt64))) 4 24 (AL ad z) := by
  refine MetWH (cc := cL_addBeat) (maxL := 6) (ret := (some .int)) (hh := [(0, 12, 15, 19), (0, 12, 19, 21), (0, 12, 23, 13)]) (by decide) rfl ?_
  intro p e s m args below meth c s₁ B hml htab hv
  obtain ⟨rfl, hK, hEL, hPX, hOut⟩ := hv
  have hEA : EN (AX ad) s s.heap := hEL.narrow (fun _ h => Or.inl h)
  have hE : EN noA s s.heap := hEA.narrow (fun _ h => h.elim)
  have hx := B.exec
  have hb := B.bytes
  have hr := B.returns
  have hts := atoms_spec (ws := wsL_addBeat) B.pre
  have hown : s.vm.findClass RL = some m.cls := findClass_of_methodNamed B.named
  have hlocks := B.notSynchronized
  have hlt := (vpa hOut 0 rfl).lt
  have hl := lv_entry ([.ref (ad 0), .int k, .int x, .int o, .ref z]) (n := 6) (Nat.le_of_ble_eq_true rfl)
  rw [lg_entry_eq]
  generalize (lg_sl ([.ref (ad 0), .int k, .int x, .int o, .ref z]) ++ List.replicate (6 - (lg_sl ([.ref (ad 0), .int k, .int x, .int o, .ref z])).length) Slot.unset).toArray = ls at hl ⊢
  have hl : lv_has ls 6 [(0, .ref (ad 0)), (1, .int k), (2, .int x), (3, .int o), (4, .ref z)] := hl
  refine lv_aload hx hb dL_addBeat_0 (lv_at hl 4 rfl) ?_
  refine lv_iconst (v := nI 0) hx hb dL_addBeat_2 (by decide) ?_
  refine lv_aload_n hx hb dL_addBeat_3 rfl (lv_at hl 0 rfl) ?_
  refine lv_iload_n hx hb dL_addBeat_4 rfl (lv_at hl 1 rfl) ?_
  refine lv_iload_n hx hb dL_addBeat_5 rfl (lv_at hl 2 rfl) ?_
  refine lv_iload_n hx hb dL_addBeat_6 rfl (lv_at hl 3 rfl) ?_
  refine lxW (A0 := AL ad z) (As := [.int k, .int x, .int o]) (rest := [.int (nI 0), .ref z]) ⟨hx, hb, hml, hown, hts⟩ (c_X1_addBeat l D cI cZ cL cJ hst ad n now told v hwf hinj k x o) (cwV 3 hts gL_addBeat_X1_addBeat rfl rfl rfl (by decide +kernel) ⟨(Nat.le_of_ble_eq_true rfl), (Nat.le_of_ble_eq_true rfl)⟩) hK hEA hPX (RC_of (q := (RX1, TX1, 5)) (ci := 1) hK rfl (vpa hPX.1 0 rfl)) rfl hl.1 rfl (Nat.le_of_ble_eq_true rfl) dL_addBeat_7 ⟨(Nat.le_of_ble_eq_true rfl), (Nat.le_of_ble_eq_true rfl)⟩ va_S.rf (fun q h => Or.inl h) (fun E ce q9 H locs hp hz1 hk hS hce hcv hcl => ?_) (fun H locs hok hPn hz1 hk hS => ?_)
  · have h_0 := hz1
    rcases exC3 hp with ⟨hcd, rfl⟩ | ⟨hcd, rfl⟩ | ⟨hcd, rfl⟩
    · refine vx_catch (name := "java/lang/IndexOutOfBoundsException") hown [] ⟨0, 12, 15, 19⟩ [⟨0, 12, 19, 21⟩, ⟨0, 12, 23, 13⟩] (by rw [htab]; rfl) (fun y hy => by cases hy) rfl (by decide) (hts (.classLink RL 19 "java/lang/IndexOutOfBoundsException") (List.mem_of_getElem? (i := 1) rfl)) (va_Nw.use rfl (hE.2.2.1.2.2 _ (by decide))) hce hcv hcl ?_
      show W _ _ _ _ _ _ _ _ _ _ _ _ _ _ _ (F0 m 15 ls [.ref q9])
      have hend : LEnd D cI cL cJ ad z n now told (if cd3 (lpOk n k) (prB x && rgOk o x) (decide (lbc (v (ixx k)) < 4)) = 0 then updv v (ixx k) (addL (v (ixx k)) (ixx x) (ixx o)) else v) (cd3 (lpOk n k) (prB x && rgOk o x) (decide (lbc (v (ixx k)) < 4))) ((nI (lbc (v (ixx k)))).toInt64) H := by
        rw [hcd]
        exact ⟨PX_keep (A := fun _ => False) hPX (fun _ _ h => h) (fun q h _ => hk q h), f, outK (A := fun _ => False) hOut (fun h => h) (fun q h _ => hk q h), fun h => absurd h (by decide)⟩
      refine lv_astore (lv' := [(5, .ref q9), (0, .ref (ad 0)), (1, .int k), (2, .int x), (3, .int o), (4, .ref z)]) hx hb dL_addBeat_15 hl (by decide) rfl (fun ls hl => ?_)
      refine lv_iconst (v := nI 1) hx hb dL_addBeat_17 (by decide) ?_
      refine n_ti (y := nI (cd3 (lpOk n k) (prB x && rgOk o x) (decide (lbc (v (ixx k)) < 4)))) (by rw [hcd]) ?_
      exact W.iret (v := nI (cd3 (lpOk n k) (prB x && rgOk o x) (decide (lbc (v (ixx k)) < 4)))) hx hb hr (fun t ht hW => ⟨trivial, rfl, by rw [ht]; exact hend, hS.F ht⟩) hS.2.2 dL_addBeat_18
    · refine vx_catch (name := "java/lang/IllegalArgumentException") hown [⟨0, 12, 15, 19⟩] ⟨0, 12, 19, 21⟩ [⟨0, 12, 23, 13⟩] (by rw [htab]; rfl) (fun y hy => by
          rcases List.mem_cons.mp hy with rfl | hy
          · exact Or.inr ⟨by decide, "java/lang/IndexOutOfBoundsException", (hts (.classLink RL 19 "java/lang/IndexOutOfBoundsException") (List.mem_of_getElem? (i := 1) rfl)), hE.2.2.1.1.2 (tIAE, "java/lang/IndexOutOfBoundsException") (by decide)⟩
          cases hy) rfl (by decide) (hts (.classLink RL 21 "java/lang/IllegalArgumentException") (List.mem_of_getElem? (i := 2) rfl)) (va_Nw.use rfl (hE.2.2.1.2.2 _ (by decide))) hce hcv hcl ?_
      show W _ _ _ _ _ _ _ _ _ _ _ _ _ _ _ (F0 m 19 ls [.ref q9])
      have hend : LEnd D cI cL cJ ad z n now told (if cd3 (lpOk n k) (prB x && rgOk o x) (decide (lbc (v (ixx k)) < 4)) = 0 then updv v (ixx k) (addL (v (ixx k)) (ixx x) (ixx o)) else v) (cd3 (lpOk n k) (prB x && rgOk o x) (decide (lbc (v (ixx k)) < 4))) ((nI (lbc (v (ixx k)))).toInt64) H := by
        rw [hcd]
        exact ⟨PX_keep (A := fun _ => False) hPX (fun _ _ h => h) (fun q h _ => hk q h), f, outK (A := fun _ => False) hOut (fun h => h) (fun q h _ => hk q h), fun h => absurd h (by decide)⟩
      refine lv_astore (lv' := [(5, .ref q9), (0, .ref (ad 0)), (1, .int k), (2, .int x), (3, .int o), (4, .ref z)]) hx hb dL_addBeat_19 hl (by decide) rfl (fun ls hl => ?_)
      refine lv_iconst (v := nI 2) hx hb dL_addBeat_21 (by decide) ?_
      refine n_ti (y := nI (cd3 (lpOk n k) (prB x && rgOk o x) (decide (lbc (v (ixx k)) < 4)))) (by rw [hcd]) ?_
      exact W.iret (v := nI (cd3 (lpOk n k) (prB x && rgOk o x) (decide (lbc (v (ixx k)) < 4)))) hx hb hr (fun t ht hW => ⟨trivial, rfl, by rw [ht]; exact hend, hS.F ht⟩) hS.2.2 dL_addBeat_22
    · refine vx_catch (name := "java/lang/IllegalStateException") hown [⟨0, 12, 15, 19⟩, ⟨0, 12, 19, 21⟩] ⟨0, 12, 23, 13⟩ [] (by rw [htab]; rfl) (fun y hy => by
          rcases List.mem_cons.mp hy with rfl | hy
          · exact Or.inr ⟨by decide, "java/lang/IndexOutOfBoundsException", (hts (.classLink RL 19 "java/lang/IndexOutOfBoundsException") (List.mem_of_getElem? (i := 1) rfl)), hE.2.2.1.1.2 (tISE, "java/lang/IndexOutOfBoundsException") (by decide)⟩
          rcases List.mem_cons.mp hy with rfl | hy
          · exact Or.inr ⟨by decide, "java/lang/IllegalArgumentException", (hts (.classLink RL 21 "java/lang/IllegalArgumentException") (List.mem_of_getElem? (i := 2) rfl)), hE.2.2.1.1.2 (tISE, "java/lang/IllegalArgumentException") (by decide)⟩
          cases hy) rfl (by decide) (hts (.classLink RL 13 "java/lang/IllegalStateException") (List.mem_of_getElem? (i := 3) rfl)) (va_Nw.use rfl (hE.2.2.1.2.2 _ (by decide))) hce hcv hcl ?_
      show W _ _ _ _ _ _ _ _ _ _ _ _ _ _ _ (F0 m 23 ls [.ref q9])
      have hend : LEnd D cI cL cJ ad z n now told (if cd3 (lpOk n k) (prB x && rgOk o x) (decide (lbc (v (ixx k)) < 4)) = 0 then updv v (ixx k) (addL (v (ixx k)) (ixx x) (ixx o)) else v) (cd3 (lpOk n k) (prB x && rgOk o x) (decide (lbc (v (ixx k)) < 4))) ((nI (lbc (v (ixx k)))).toInt64) H := by
        rw [hcd]
        exact ⟨PX_keep (A := fun _ => False) hPX (fun _ _ h => h) (fun q h _ => hk q h), f, outK (A := fun _ => False) hOut (fun h => h) (fun q h _ => hk q h), fun h => absurd h (by decide)⟩
      refine lv_astore (lv' := [(5, .ref q9), (0, .ref (ad 0)), (1, .int k), (2, .int x), (3, .int o), (4, .ref z)]) hx hb dL_addBeat_23 hl (by decide) rfl (fun ls hl => ?_)
      refine lv_iconst (v := nI 3) hx hb dL_addBeat_25 (by decide) ?_
      refine n_ti (y := nI (cd3 (lpOk n k) (prB x && rgOk o x) (decide (lbc (v (ixx k)) < 4)))) (by rw [hcd]) ?_
      exact W.iret (v := nI (cd3 (lpOk n k) (prB x && rgOk o x) (decide (lbc (v (ixx k)) < 4)))) hx hb hr (fun t ht hW => ⟨trivial, rfl, by rw [ht]; exact hend, hS.F ht⟩) hS.2.2 dL_addBeat_26
  · have hO2 := outK hOut hz hk
    refine lv_i2l (v := (nI (lbc (v (ixx k)))).toInt64) hx hb dL_addBeat_10 rfl ?_
    refine n_lastK hx hb hK hO2 hS (Or.inr rfl) 3 rfl dL_addBeat_11 (fun H5 locs hO5 hz5 hk5 hS => ?_)
    have hPX5 := PX_keep (A := fun q => q = z) (H := H5) hPn (fun i hi h => hz ⟨i, hi, h.symm⟩) (fun q _ h => hk5 q h)
    have hend : LEnd D cI cL cJ ad z n now told (if cd3 (lpOk n k) (prB x && rgOk o x) (decide (lbc (v (ixx k)) < 4)) = 0 then updv v (ixx k) (addL (v (ixx k)) (ixx x) (ixx o)) else v) (cd3 (lpOk n k) (prB x && rgOk o x) (decide (lbc (v (ixx k)) < 4))) ((nI (lbc (v (ixx k)))).toInt64) H5 := by
      rw [hok]
      exact ⟨hPX5, _, hO5, fun _ => rfl⟩
    refine lv_goto (tgt := 27) hx hb dL_addBeat_12 (by decide) ?_
    refine lv_iconst (v := nI 0) hx hb dL_addBeat_27 (by decide) ?_
    refine n_ti (y := nI (cd3 (lpOk n k) (prB x && rgOk o x) (decide (lbc (v (ixx k)) < 4)))) (by rw [hok]) ?_
    exact W.iret (v := nI (cd3 (lpOk n k) (prB x && rgOk o x) (decide (lbc (v (ixx k)) < 4)))) hx hb hr (fun t ht hW => ⟨trivial, rfl, by rw [ht]; exact hend, hS.F ht⟩) hS.2.2 dL_addBeat_28
set_option maxHeartbeats 4000000 in
set_option maxRecDepth 100000 in
/-- the law: moveBeat -/
theorem c_L_moveBeat (l : Launch) (D : va_G) (cI cZ cL cJ : ClassId) (hst : l.stackTraces = false) (ad : Nat → Nat) (n now : Nat) (told : Int32) (v : Nat → LV) (hwf : WFX n now v) (hinj : Inj 29 ad) (z : Nat) (f : Nat → Int64) (hz : ¬ AX ad z) (k b o : Int32) : Met l yL_moveBeat wsL_moveBeat ({ frames := 9, cells := 3, slots := 18, locals := 150 } : Room) (PC D (TY cI cZ cL cJ) (AL ad z) [.ref (ad 0), .int k, .int b, .int o, .ref z] (fun H => PX D cI cL ad n now told v H ∧ va_P D vwCl (outW cJ z f) H)) (QW (AL ad z) True (nI (cd2 (btOk n v k b) (rgOk o (nI (lnu (v (ixx k)) (ixx b)))))) (LEnd D cI cL cJ ad z n now told (if cd2 (btOk n v k b) (rgOk o (nI (lnu (v (ixx k)) (ixx b)))) = 0 then updv v (ixx k) (setOf (v (ixx k)) (ixx b) (ixx o)) else v) (cd2 (btOk n v k b) (rgOk o (nI (lnu (v (ixx k)) (ixx b))))) ((nI (lof (v (ixx k)) (ixx b))).toInt64))) 3 18 (AL ad z) := by
  refine MetWH (cc := cL_moveBeat) (maxL := 6) (ret := (some .int)) (hh := [(0, 12, 15, 19), (0, 12, 19, 21)]) (by decide) rfl ?_
  intro p e s m args below meth c s₁ B hml htab hv
  obtain ⟨rfl, hK, hEL, hPX, hOut⟩ := hv
  have hEA : EN (AX ad) s s.heap := hEL.narrow (fun _ h => Or.inl h)
  have hE : EN noA s s.heap := hEA.narrow (fun _ h => h.elim)
  have hx := B.exec
  have hb := B.bytes
  have hr := B.returns
  have hts := atoms_spec (ws := wsL_moveBeat) B.pre
  have hown : s.vm.findClass RL = some m.cls := findClass_of_methodNamed B.named
  have hlocks := B.notSynchronized
  have hlt := (vpa hOut 0 rfl).lt
  have hl := lv_entry ([.ref (ad 0), .int k, .int b, .int o, .ref z]) (n := 6) (Nat.le_of_ble_eq_true rfl)
  rw [lg_entry_eq]
  generalize (lg_sl ([.ref (ad 0), .int k, .int b, .int o, .ref z]) ++ List.replicate (6 - (lg_sl ([.ref (ad 0), .int k, .int b, .int o, .ref z])).length) Slot.unset).toArray = ls at hl ⊢
  have hl : lv_has ls 6 [(0, .ref (ad 0)), (1, .int k), (2, .int b), (3, .int o), (4, .ref z)] := hl
  refine lv_aload hx hb dL_moveBeat_0 (lv_at hl 4 rfl) ?_
  refine lv_iconst (v := nI 0) hx hb dL_moveBeat_2 (by decide) ?_
  refine lv_aload_n hx hb dL_moveBeat_3 rfl (lv_at hl 0 rfl) ?_
  refine lv_iload_n hx hb dL_moveBeat_4 rfl (lv_at hl 1 rfl) ?_
  refine lv_iload_n hx hb dL_moveBeat_5 rfl (lv_at hl 2 rfl) ?_
  refine lv_iload_n hx hb dL_moveBeat_6 rfl (lv_at hl 3 rfl) ?_
  refine lxW (A0 := AL ad z) (As := [.int k, .int b, .int o]) (rest := [.int (nI 0), .ref z]) ⟨hx, hb, hml, hown, hts⟩ (c_X1_moveBeat l D cI cZ cL cJ hst ad n now told v hwf hinj k b o) (cwV 3 hts gL_moveBeat_X1_moveBeat rfl rfl rfl (by decide +kernel) ⟨(Nat.le_of_ble_eq_true rfl), (Nat.le_of_ble_eq_true rfl)⟩) hK hEA hPX (RC_of (q := (RX1, TX1, 5)) (ci := 1) hK rfl (vpa hPX.1 0 rfl)) rfl hl.1 rfl (Nat.le_of_ble_eq_true rfl) dL_moveBeat_7 ⟨(Nat.le_of_ble_eq_true rfl), (Nat.le_of_ble_eq_true rfl)⟩ va_S.rf (fun q h => Or.inl h) (fun E ce q9 H locs hp hz1 hk hS hce hcv hcl => ?_) (fun H locs hok hPn hz1 hk hS => ?_)
  · have h_0 := hz1
    rcases exC2 hp with ⟨hcd, rfl⟩ | ⟨hcd, rfl⟩
    · refine vx_catch (name := "java/lang/IndexOutOfBoundsException") hown [] ⟨0, 12, 15, 19⟩ [⟨0, 12, 19, 21⟩] (by rw [htab]; rfl) (fun y hy => by cases hy) rfl (by decide) (hts (.classLink RL 19 "java/lang/IndexOutOfBoundsException") (List.mem_of_getElem? (i := 1) rfl)) (va_Nw.use rfl (hE.2.2.1.2.2 _ (by decide))) hce hcv hcl ?_
      show W _ _ _ _ _ _ _ _ _ _ _ _ _ _ _ (F0 m 15 ls [.ref q9])
      have hend : LEnd D cI cL cJ ad z n now told (if cd2 (btOk n v k b) (rgOk o (nI (lnu (v (ixx k)) (ixx b)))) = 0 then updv v (ixx k) (setOf (v (ixx k)) (ixx b) (ixx o)) else v) (cd2 (btOk n v k b) (rgOk o (nI (lnu (v (ixx k)) (ixx b))))) ((nI (lof (v (ixx k)) (ixx b))).toInt64) H := by
        rw [hcd]
        exact ⟨PX_keep (A := fun _ => False) hPX (fun _ _ h => h) (fun q h _ => hk q h), f, outK (A := fun _ => False) hOut (fun h => h) (fun q h _ => hk q h), fun h => absurd h (by decide)⟩
      refine lv_astore (lv' := [(5, .ref q9), (0, .ref (ad 0)), (1, .int k), (2, .int b), (3, .int o), (4, .ref z)]) hx hb dL_moveBeat_15 hl (by decide) rfl (fun ls hl => ?_)
      refine lv_iconst (v := nI 1) hx hb dL_moveBeat_17 (by decide) ?_
      refine n_ti (y := nI (cd2 (btOk n v k b) (rgOk o (nI (lnu (v (ixx k)) (ixx b)))))) (by rw [hcd]) ?_
      exact W.iret (v := nI (cd2 (btOk n v k b) (rgOk o (nI (lnu (v (ixx k)) (ixx b)))))) hx hb hr (fun t ht hW => ⟨trivial, rfl, by rw [ht]; exact hend, hS.F ht⟩) hS.2.2 dL_moveBeat_18
    · refine vx_catch (name := "java/lang/IllegalArgumentException") hown [⟨0, 12, 15, 19⟩] ⟨0, 12, 19, 21⟩ [] (by rw [htab]; rfl) (fun y hy => by
          rcases List.mem_cons.mp hy with rfl | hy
          · exact Or.inr ⟨by decide, "java/lang/IndexOutOfBoundsException", (hts (.classLink RL 19 "java/lang/IndexOutOfBoundsException") (List.mem_of_getElem? (i := 1) rfl)), hE.2.2.1.1.2 (tIAE, "java/lang/IndexOutOfBoundsException") (by decide)⟩
          cases hy) rfl (by decide) (hts (.classLink RL 21 "java/lang/IllegalArgumentException") (List.mem_of_getElem? (i := 2) rfl)) (va_Nw.use rfl (hE.2.2.1.2.2 _ (by decide))) hce hcv hcl ?_
      show W _ _ _ _ _ _ _ _ _ _ _ _ _ _ _ (F0 m 19 ls [.ref q9])
      have hend : LEnd D cI cL cJ ad z n now told (if cd2 (btOk n v k b) (rgOk o (nI (lnu (v (ixx k)) (ixx b)))) = 0 then updv v (ixx k) (setOf (v (ixx k)) (ixx b) (ixx o)) else v) (cd2 (btOk n v k b) (rgOk o (nI (lnu (v (ixx k)) (ixx b))))) ((nI (lof (v (ixx k)) (ixx b))).toInt64) H := by
        rw [hcd]
        exact ⟨PX_keep (A := fun _ => False) hPX (fun _ _ h => h) (fun q h _ => hk q h), f, outK (A := fun _ => False) hOut (fun h => h) (fun q h _ => hk q h), fun h => absurd h (by decide)⟩
      refine lv_astore (lv' := [(5, .ref q9), (0, .ref (ad 0)), (1, .int k), (2, .int b), (3, .int o), (4, .ref z)]) hx hb dL_moveBeat_19 hl (by decide) rfl (fun ls hl => ?_)
      refine lv_iconst (v := nI 2) hx hb dL_moveBeat_21 (by decide) ?_
      refine n_ti (y := nI (cd2 (btOk n v k b) (rgOk o (nI (lnu (v (ixx k)) (ixx b)))))) (by rw [hcd]) ?_
      exact W.iret (v := nI (cd2 (btOk n v k b) (rgOk o (nI (lnu (v (ixx k)) (ixx b)))))) hx hb hr (fun t ht hW => ⟨trivial, rfl, by rw [ht]; exact hend, hS.F ht⟩) hS.2.2 dL_moveBeat_22
  · have hO2 := outK hOut hz hk
    refine lv_i2l (v := (nI (lof (v (ixx k)) (ixx b))).toInt64) hx hb dL_moveBeat_10 rfl ?_
    refine n_lastK hx hb hK hO2 hS (Or.inr rfl) 3 rfl dL_moveBeat_11 (fun H5 locs hO5 hz5 hk5 hS => ?_)
    have hPX5 := PX_keep (A := fun q => q = z) (H := H5) hPn (fun i hi h => hz ⟨i, hi, h.symm⟩) (fun q _ h => hk5 q h)
    have hend : LEnd D cI cL cJ ad z n now told (if cd2 (btOk n v k b) (rgOk o (nI (lnu (v (ixx k)) (ixx b)))) = 0 then updv v (ixx k) (setOf (v (ixx k)) (ixx b) (ixx o)) else v) (cd2 (btOk n v k b) (rgOk o (nI (lnu (v (ixx k)) (ixx b))))) ((nI (lof (v (ixx k)) (ixx b))).toInt64) H5 := by
      rw [hok]
      exact ⟨hPX5, _, hO5, fun _ => rfl⟩
    refine lv_goto (tgt := 23) hx hb dL_moveBeat_12 (by decide) ?_
    refine lv_iconst (v := nI 0) hx hb dL_moveBeat_23 (by decide) ?_
    refine n_ti (y := nI (cd2 (btOk n v k b) (rgOk o (nI (lnu (v (ixx k)) (ixx b)))))) (by rw [hok]) ?_
    exact W.iret (v := nI (cd2 (btOk n v k b) (rgOk o (nI (lnu (v (ixx k)) (ixx b)))))) hx hb hr (fun t ht hW => ⟨trivial, rfl, by rw [ht]; exact hend, hS.F ht⟩) hS.2.2 dL_moveBeat_24
set_option maxHeartbeats 4000000 in
set_option maxRecDepth 100000 in
/-- the law: takeBeat -/
theorem c_L_takeBeat (l : Launch) (D : va_G) (cI cZ cL cJ : ClassId) (hst : l.stackTraces = false) (ad : Nat → Nat) (n now : Nat) (told : Int32) (v : Nat → LV) (hwf : WFX n now v) (hinj : Inj 29 ad) (z : Nat) (f : Nat → Int64) (hz : ¬ AX ad z) (k b : Int32) : Met l yL_takeBeat wsL_takeBeat ({ frames := 9, cells := 2, slots := 12, locals := 148 } : Room) (PC D (TY cI cZ cL cJ) (AL ad z) [.ref (ad 0), .int k, .int b, .ref z] (fun H => PX D cI cL ad n now told v H ∧ va_P D vwCl (outW cJ z f) H)) (QW (AL ad z) True (nI (cd1 (btOk n v k b))) (LEnd D cI cL cJ ad z n now told (if cd1 (btOk n v k b) = 0 then updv v (ixx k) (remL (v (ixx k)) (ixx b)) else v) (cd1 (btOk n v k b)) ((nI (lbc (v (ixx k)) - 1)).toInt64))) 2 12 (AL ad z) := by
  refine MetWH (cc := cL_takeBeat) (maxL := 5) (ret := (some .int)) (hh := [(0, 10, 13, 19)]) (by decide) rfl ?_
  intro p e s m args below meth c s₁ B hml htab hv
  obtain ⟨rfl, hK, hEL, hPX, hOut⟩ := hv
  have hEA : EN (AX ad) s s.heap := hEL.narrow (fun _ h => Or.inl h)
  have hE : EN noA s s.heap := hEA.narrow (fun _ h => h.elim)
  have hx := B.exec
  have hb := B.bytes
  have hr := B.returns
  have hts := atoms_spec (ws := wsL_takeBeat) B.pre
  have hown : s.vm.findClass RL = some m.cls := findClass_of_methodNamed B.named
  have hlocks := B.notSynchronized
  have hlt := (vpa hOut 0 rfl).lt
  have hl := lv_entry ([.ref (ad 0), .int k, .int b, .ref z]) (n := 5) (Nat.le_of_ble_eq_true rfl)
  rw [lg_entry_eq]
  generalize (lg_sl ([.ref (ad 0), .int k, .int b, .ref z]) ++ List.replicate (5 - (lg_sl ([.ref (ad 0), .int k, .int b, .ref z])).length) Slot.unset).toArray = ls at hl ⊢
  have hl : lv_has ls 5 [(0, .ref (ad 0)), (1, .int k), (2, .int b), (3, .ref z)] := hl
  refine lv_aload_n hx hb dL_takeBeat_0 rfl (lv_at hl 3 rfl) ?_
  refine lv_iconst (v := nI 0) hx hb dL_takeBeat_1 (by decide) ?_
  refine lv_aload_n hx hb dL_takeBeat_2 rfl (lv_at hl 0 rfl) ?_
  refine lv_iload_n hx hb dL_takeBeat_3 rfl (lv_at hl 1 rfl) ?_
  refine lv_iload_n hx hb dL_takeBeat_4 rfl (lv_at hl 2 rfl) ?_
  refine lxW (A0 := AL ad z) (As := [.int k, .int b]) (rest := [.int (nI 0), .ref z]) ⟨hx, hb, hml, hown, hts⟩ (c_X1_takeBeat l D cI cZ cL cJ hst ad n now told v hwf hinj k b) (cwV 2 hts gL_takeBeat_X1_takeBeat rfl rfl rfl (by decide +kernel) ⟨(Nat.le_of_ble_eq_true rfl), (Nat.le_of_ble_eq_true rfl)⟩) hK hEA hPX (RC_of (q := (RX1, TX1, 5)) (ci := 1) hK rfl (vpa hPX.1 0 rfl)) rfl hl.1 rfl (Nat.le_of_ble_eq_true rfl) dL_takeBeat_5 ⟨(Nat.le_of_ble_eq_true rfl), (Nat.le_of_ble_eq_true rfl)⟩ va_S.rf (fun q h => Or.inl h) (fun E ce q9 H locs hp hz1 hk hS hce hcv hcl => ?_) (fun H locs hok hPn hz1 hk hS => ?_)
  · have h_0 := hz1
    obtain ⟨hcd, rfl⟩ := exC1 hp
    refine vx_catch (name := "java/lang/IndexOutOfBoundsException") hown [] ⟨0, 10, 13, 19⟩ [] (by rw [htab]; rfl) (fun y hy => by cases hy) rfl (by decide) (hts (.classLink RL 19 "java/lang/IndexOutOfBoundsException") (List.mem_of_getElem? (i := 1) rfl)) (va_Nw.use rfl (hE.2.2.1.2.2 _ (by decide))) hce hcv hcl ?_
    show W _ _ _ _ _ _ _ _ _ _ _ _ _ _ _ (F0 m 13 ls [.ref q9])
    have hend : LEnd D cI cL cJ ad z n now told (if cd1 (btOk n v k b) = 0 then updv v (ixx k) (remL (v (ixx k)) (ixx b)) else v) (cd1 (btOk n v k b)) ((nI (lbc (v (ixx k)) - 1)).toInt64) H := by
      rw [hcd]
      exact ⟨PX_keep (A := fun _ => False) hPX (fun _ _ h => h) (fun q h _ => hk q h), f, outK (A := fun _ => False) hOut (fun h => h) (fun q h _ => hk q h), fun h => absurd h (by decide)⟩
    refine lv_astore (lv' := [(4, .ref q9), (0, .ref (ad 0)), (1, .int k), (2, .int b), (3, .ref z)]) hx hb dL_takeBeat_13 hl (by decide) rfl (fun ls hl => ?_)
    refine lv_iconst (v := nI 1) hx hb dL_takeBeat_15 (by decide) ?_
    refine n_ti (y := nI (cd1 (btOk n v k b))) (by rw [hcd]) ?_
    exact W.iret (v := nI (cd1 (btOk n v k b))) hx hb hr (fun t ht hW => ⟨trivial, rfl, by rw [ht]; exact hend, hS.F ht⟩) hS.2.2 dL_takeBeat_16
  · have hO2 := outK hOut hz hk
    refine lv_i2l (v := (nI (lbc (v (ixx k)) - 1)).toInt64) hx hb dL_takeBeat_8 rfl ?_
    refine n_lastK hx hb hK hO2 hS (Or.inr rfl) 3 rfl dL_takeBeat_9 (fun H5 locs hO5 hz5 hk5 hS => ?_)
    have hPX5 := PX_keep (A := fun q => q = z) (H := H5) hPn (fun i hi h => hz ⟨i, hi, h.symm⟩) (fun q _ h => hk5 q h)
    have hend : LEnd D cI cL cJ ad z n now told (if cd1 (btOk n v k b) = 0 then updv v (ixx k) (remL (v (ixx k)) (ixx b)) else v) (cd1 (btOk n v k b)) ((nI (lbc (v (ixx k)) - 1)).toInt64) H5 := by
      rw [hok]
      exact ⟨hPX5, _, hO5, fun _ => rfl⟩
    refine lv_goto (tgt := 17) hx hb dL_takeBeat_10 (by decide) ?_
    refine lv_iconst (v := nI 0) hx hb dL_takeBeat_17 (by decide) ?_
    refine n_ti (y := nI (cd1 (btOk n v k b))) (by rw [hok]) ?_
    exact W.iret (v := nI (cd1 (btOk n v k b))) hx hb hr (fun t ht hW => ⟨trivial, rfl, by rw [ht]; exact hend, hS.F ht⟩) hS.2.2 dL_takeBeat_18
set_option maxHeartbeats 4000000 in
set_option maxRecDepth 100000 in
/-- the law: turnShutter -/
theorem c_L_turnShutter (l : Launch) (D : va_G) (cI cZ cL cJ : ClassId) (hst : l.stackTraces = false) (ad : Nat → Nat) (n now : Nat) (told : Int32) (v : Nat → LV) (hwf : WFX n now v) (hinj : Inj 29 ad) (z : Nat) (f : Nat → Int64) (hz : ¬ AX ad z) (k : Int32) : Met l yL_turnShutter wsL_turnShutter ({ frames := 8, cells := 1, slots := 6, locals := 125 } : Room) (PC D (TY cI cZ cL cJ) (AL ad z) [.ref (ad 0), .int k, .ref z] (fun H => PX D cI cL ad n now told v H ∧ va_P D vwCl (outW cJ z f) H)) (QW (AL ad z) True (nI (cd1 (lpOk n k))) (LEnd D cI cL cJ ad z n now told (if cd1 (lpOk n k) = 0 then updv v (ixx k) (setCv (v (ixx k)) (!(lcv (v (ixx k))))) else v) (cd1 (lpOk n k)) (bJ (!(lcv (v (ixx k))))))) 1 6 (AL ad z) := by
  refine MetWH (cc := cL_turnShutter) (maxL := 4) (ret := (some .int)) (hh := [(0, 16, 19, 19)]) (by decide) rfl ?_
  intro p e s m args below meth c s₁ B hml htab hv
  obtain ⟨rfl, hK, hEL, hPX, hOut⟩ := hv
  have hEA : EN (AX ad) s s.heap := hEL.narrow (fun _ h => Or.inl h)
  have hE : EN noA s s.heap := hEA.narrow (fun _ h => h.elim)
  have hx := B.exec
  have hb := B.bytes
  have hr := B.returns
  have hts := atoms_spec (ws := wsL_turnShutter) B.pre
  have hown : s.vm.findClass RL = some m.cls := findClass_of_methodNamed B.named
  have hlocks := B.notSynchronized
  have hlt := (vpa hOut 0 rfl).lt
  have hl := lv_entry ([.ref (ad 0), .int k, .ref z]) (n := 4) (Nat.le_of_ble_eq_true rfl)
  rw [lg_entry_eq]
  generalize (lg_sl ([.ref (ad 0), .int k, .ref z]) ++ List.replicate (4 - (lg_sl ([.ref (ad 0), .int k, .ref z])).length) Slot.unset).toArray = ls at hl ⊢
  have hl : lv_has ls 4 [(0, .ref (ad 0)), (1, .int k), (2, .ref z)] := hl
  refine lv_aload_n hx hb dL_turnShutter_0 rfl (lv_at hl 2 rfl) ?_
  refine lv_iconst (v := nI 0) hx hb dL_turnShutter_1 (by decide) ?_
  refine lv_aload_n hx hb dL_turnShutter_2 rfl (lv_at hl 0 rfl) ?_
  refine lv_iload_n hx hb dL_turnShutter_3 rfl (lv_at hl 1 rfl) ?_
  refine lxW (A0 := AL ad z) (As := [.int k]) (rest := [.int (nI 0), .ref z]) ⟨hx, hb, hml, hown, hts⟩ (c_X1_turnShutter l D cI cZ cL cJ hst ad n now told v hwf hinj k) (cwV 1 hts gL_turnShutter_X1_turnShutter rfl rfl rfl (by decide +kernel) ⟨(Nat.le_of_ble_eq_true rfl), (Nat.le_of_ble_eq_true rfl)⟩) hK hEA hPX (RC_of (q := (RX1, TX1, 5)) (ci := 1) hK rfl (vpa hPX.1 0 rfl)) rfl hl.1 rfl (Nat.le_of_ble_eq_true rfl) dL_turnShutter_4 ⟨(Nat.le_of_ble_eq_true rfl), (Nat.le_of_ble_eq_true rfl)⟩ va_S.rf (fun q h => Or.inl h) (fun E ce q9 H locs hp hz1 hk hS hce hcv hcl => ?_) (fun H locs hok hPn hz1 hk hS => ?_)
  · have h_0 := hz1
    obtain ⟨hcd, rfl⟩ := exC1 hp
    refine vx_catch (name := "java/lang/IndexOutOfBoundsException") hown [] ⟨0, 16, 19, 19⟩ [] (by rw [htab]; rfl) (fun y hy => by cases hy) rfl (by decide) (hts (.classLink RL 19 "java/lang/IndexOutOfBoundsException") (List.mem_of_getElem? (i := 1) rfl)) (va_Nw.use rfl (hE.2.2.1.2.2 _ (by decide))) hce hcv hcl ?_
    show W _ _ _ _ _ _ _ _ _ _ _ _ _ _ _ (F0 m 19 ls [.ref q9])
    have hend : LEnd D cI cL cJ ad z n now told (if cd1 (lpOk n k) = 0 then updv v (ixx k) (setCv (v (ixx k)) (!(lcv (v (ixx k))))) else v) (cd1 (lpOk n k)) (bJ (!(lcv (v (ixx k))))) H := by
      rw [hcd]
      exact ⟨PX_keep (A := fun _ => False) hPX (fun _ _ h => h) (fun q h _ => hk q h), f, outK (A := fun _ => False) hOut (fun h => h) (fun q h _ => hk q h), fun h => absurd h (by decide)⟩
    refine lv_astore_n (lv' := [(3, .ref q9), (0, .ref (ad 0)), (1, .int k), (2, .ref z)]) hx hb dL_turnShutter_19 rfl hl (by decide) rfl (fun ls hl => ?_)
    refine lv_iconst (v := nI 1) hx hb dL_turnShutter_20 (by decide) ?_
    refine n_ti (y := nI (cd1 (lpOk n k))) (by rw [hcd]) ?_
    exact W.iret (v := nI (cd1 (lpOk n k))) hx hb hr (fun t ht hW => ⟨trivial, rfl, by rw [ht]; exact hend, hS.F ht⟩) hS.2.2 dL_turnShutter_21
  · have hO2 := outK hOut hz hk
    refine b_if_eq (b := (!(lcv (v (ixx k))))) (tgt := 14) hx hb dL_turnShutter_7 (by decide) (fun c_7 => ?_) (fun c_7 => ?_)
    · refine lv_lconst (v := 0) hx hb dL_turnShutter_14 (by decide) ?_
      refine n_lastK hx hb hK hO2 hS (Or.inr rfl) 3 rfl dL_turnShutter_15 (fun H5 locs hO5 hz5 hk5 hS => ?_)
      have hPX5 := PX_keep (A := fun q => q = z) (H := H5) hPn (fun i hi h => hz ⟨i, hi, h.symm⟩) (fun q _ h => hk5 q h)
      have hend : LEnd D cI cL cJ ad z n now told (if cd1 (lpOk n k) = 0 then updv v (ixx k) (setCv (v (ixx k)) (!(lcv (v (ixx k))))) else v) (cd1 (lpOk n k)) (bJ (!(lcv (v (ixx k))))) H5 := by
        rw [hok]
        exact ⟨hPX5, _, hO5, fun _ => (by rw [c_7]; rfl)⟩
      refine lv_goto (tgt := 22) hx hb dL_turnShutter_16 (by decide) ?_
      refine lv_iconst (v := nI 0) hx hb dL_turnShutter_22 (by decide) ?_
      refine n_ti (y := nI (cd1 (lpOk n k))) (by rw [hok]) ?_
      exact W.iret (v := nI (cd1 (lpOk n k))) hx hb hr (fun t ht hW => ⟨trivial, rfl, by rw [ht]; exact hend, hS.F ht⟩) hS.2.2 dL_turnShutter_23
    · refine lv_lconst (v := 1) hx hb dL_turnShutter_10 (by decide) ?_
      refine lv_goto (tgt := 15) hx hb dL_turnShutter_11 (by decide) ?_
      refine n_lastK hx hb hK hO2 hS (Or.inr rfl) 3 rfl dL_turnShutter_15 (fun H5 locs hO5 hz5 hk5 hS => ?_)
      have hPX5 := PX_keep (A := fun q => q = z) (H := H5) hPn (fun i hi h => hz ⟨i, hi, h.symm⟩) (fun q _ h => hk5 q h)
      have hend : LEnd D cI cL cJ ad z n now told (if cd1 (lpOk n k) = 0 then updv v (ixx k) (setCv (v (ixx k)) (!(lcv (v (ixx k))))) else v) (cd1 (lpOk n k)) (bJ (!(lcv (v (ixx k))))) H5 := by
        rw [hok]
        exact ⟨hPX5, _, hO5, fun _ => (by rw [c_7]; rfl)⟩
      refine lv_goto (tgt := 22) hx hb dL_turnShutter_16 (by decide) ?_
      refine lv_iconst (v := nI 0) hx hb dL_turnShutter_22 (by decide) ?_
      refine n_ti (y := nI (cd1 (lpOk n k))) (by rw [hok]) ?_
      exact W.iret (v := nI (cd1 (lpOk n k))) hx hb hr (fun t ht hW => ⟨trivial, rfl, by rw [ht]; exact hend, hS.F ht⟩) hS.2.2 dL_turnShutter_23
set_option maxHeartbeats 4000000 in
set_option maxRecDepth 100000 in
/-- the law: pass -/
theorem c_L_pass (l : Launch) (D : va_G) (cI cZ cL cJ : ClassId) (hst : l.stackTraces = false) (ad : Nat → Nat) (n now : Nat) (told : Int32) (v : Nat → LV) (hwf : WFX n now v) (hinj : Inj 29 ad) (z : Nat) (f : Nat → Int64) (hz : ¬ AX ad z) (x : Int32) : Met l yL_pass wsL_pass ({ frames := 8, cells := 1, slots := 6, locals := 126 } : Room) (PC D (TY cI cZ cL cJ) (AL ad z) [.ref (ad 0), .int x, .ref z] (fun H => PX D cI cL ad n now told v H ∧ va_P D vwCl (outW cJ z f) H)) (QW (AL ad z) True (nI (cd1 (inB (nI 1) (nI 500) x))) (LEnd D cI cL cJ ad z n (if cd1 (inB (nI 1) (nI 500) x) = 0 then now + ixx x else now) (if cd1 (inB (nI 1) (nI 500) x) = 0 then told + nI (psN v n now (ixx x)) else told) v (cd1 (inB (nI 1) (nI 500) x)) ((nI (psN v n now (ixx x))).toInt64))) 1 6 (AL ad z) := by
  refine MetWH (cc := cL_pass) (maxL := 4) (ret := (some .int)) (hh := [(0, 9, 12, 21)]) (by decide) rfl ?_
  intro p e s m args below meth c s₁ B hml htab hv
  obtain ⟨rfl, hK, hEL, hPX, hOut⟩ := hv
  have hEA : EN (AX ad) s s.heap := hEL.narrow (fun _ h => Or.inl h)
  have hE : EN noA s s.heap := hEA.narrow (fun _ h => h.elim)
  have hx := B.exec
  have hb := B.bytes
  have hr := B.returns
  have hts := atoms_spec (ws := wsL_pass) B.pre
  have hown : s.vm.findClass RL = some m.cls := findClass_of_methodNamed B.named
  have hlocks := B.notSynchronized
  have hlt := (vpa hOut 0 rfl).lt
  have hl := lv_entry ([.ref (ad 0), .int x, .ref z]) (n := 4) (Nat.le_of_ble_eq_true rfl)
  rw [lg_entry_eq]
  generalize (lg_sl ([.ref (ad 0), .int x, .ref z]) ++ List.replicate (4 - (lg_sl ([.ref (ad 0), .int x, .ref z])).length) Slot.unset).toArray = ls at hl ⊢
  have hl : lv_has ls 4 [(0, .ref (ad 0)), (1, .int x), (2, .ref z)] := hl
  refine lv_aload_n hx hb dL_pass_0 rfl (lv_at hl 2 rfl) ?_
  refine lv_iconst (v := nI 0) hx hb dL_pass_1 (by decide) ?_
  refine lv_aload_n hx hb dL_pass_2 rfl (lv_at hl 0 rfl) ?_
  refine lv_iload_n hx hb dL_pass_3 rfl (lv_at hl 1 rfl) ?_
  refine lxW (A0 := AL ad z) (As := [.int x]) (rest := [.int (nI 0), .ref z]) ⟨hx, hb, hml, hown, hts⟩ (c_X1_pass l D cI cZ cL cJ hst ad n now told v hwf hinj x) (cwV 1 hts gL_pass_X1_pass rfl rfl rfl (by decide +kernel) ⟨(Nat.le_of_ble_eq_true rfl), (Nat.le_of_ble_eq_true rfl)⟩) hK hEA hPX (RC_of (q := (RX1, TX1, 5)) (ci := 1) hK rfl (vpa hPX.1 0 rfl)) rfl hl.1 rfl (Nat.le_of_ble_eq_true rfl) dL_pass_4 ⟨(Nat.le_of_ble_eq_true rfl), (Nat.le_of_ble_eq_true rfl)⟩ va_S.rf (fun q h => Or.inl h) (fun E ce q9 H locs hp hz1 hk hS hce hcv hcl => ?_) (fun H locs hok hPn hz1 hk hS => ?_)
  · have h_0 := hz1
    obtain ⟨hcd, rfl⟩ := exC1 hp
    refine vx_catch (name := "java/lang/IllegalArgumentException") hown [] ⟨0, 9, 12, 21⟩ [] (by rw [htab]; rfl) (fun y hy => by cases hy) rfl (by decide) (hts (.classLink RL 21 "java/lang/IllegalArgumentException") (List.mem_of_getElem? (i := 1) rfl)) (va_Nw.use rfl (hE.2.2.1.2.2 _ (by decide))) hce hcv hcl ?_
    show W _ _ _ _ _ _ _ _ _ _ _ _ _ _ _ (F0 m 12 ls [.ref q9])
    have hend : LEnd D cI cL cJ ad z n (if cd1 (inB (nI 1) (nI 500) x) = 0 then now + ixx x else now) (if cd1 (inB (nI 1) (nI 500) x) = 0 then told + nI (psN v n now (ixx x)) else told) v (cd1 (inB (nI 1) (nI 500) x)) ((nI (psN v n now (ixx x))).toInt64) H := by
      rw [hcd]
      exact ⟨PX_keep (A := fun _ => False) hPX (fun _ _ h => h) (fun q h _ => hk q h), f, outK (A := fun _ => False) hOut (fun h => h) (fun q h _ => hk q h), fun h => absurd h (by decide)⟩
    refine lv_astore_n (lv' := [(3, .ref q9), (0, .ref (ad 0)), (1, .int x), (2, .ref z)]) hx hb dL_pass_12 rfl hl (by decide) rfl (fun ls hl => ?_)
    refine lv_iconst (v := nI 1) hx hb dL_pass_13 (by decide) ?_
    refine n_ti (y := nI (cd1 (inB (nI 1) (nI 500) x))) (by rw [hcd]) ?_
    exact W.iret (v := nI (cd1 (inB (nI 1) (nI 500) x))) hx hb hr (fun t ht hW => ⟨trivial, rfl, by rw [ht]; exact hend, hS.F ht⟩) hS.2.2 dL_pass_14
  · have hO2 := outK hOut hz hk
    refine lv_i2l (v := (nI (psN v n now (ixx x))).toInt64) hx hb dL_pass_7 rfl ?_
    refine n_lastK hx hb hK hO2 hS (Or.inr rfl) 3 rfl dL_pass_8 (fun H5 locs hO5 hz5 hk5 hS => ?_)
    have hPX5 := PX_keep (A := fun q => q = z) (H := H5) hPn (fun i hi h => hz ⟨i, hi, h.symm⟩) (fun q _ h => hk5 q h)
    have hend : LEnd D cI cL cJ ad z n (if cd1 (inB (nI 1) (nI 500) x) = 0 then now + ixx x else now) (if cd1 (inB (nI 1) (nI 500) x) = 0 then told + nI (psN v n now (ixx x)) else told) v (cd1 (inB (nI 1) (nI 500) x)) ((nI (psN v n now (ixx x))).toInt64) H5 := by
      rw [hok]
      exact ⟨hPX5, _, hO5, fun _ => rfl⟩
    refine lv_goto (tgt := 15) hx hb dL_pass_9 (by decide) ?_
    refine lv_iconst (v := nI 0) hx hb dL_pass_15 (by decide) ?_
    refine n_ti (y := nI (cd1 (inB (nI 1) (nI 500) x))) (by rw [hok]) ?_
    exact W.iret (v := nI (cd1 (inB (nI 1) (nI 500) x))) hx hb hr (fun t ht hW => ⟨trivial, rfl, by rw [ht]; exact hend, hS.F ht⟩) hS.2.2 dL_pass_16
set_option maxHeartbeats 4000000 in
set_option maxRecDepth 100000 in
/-- the law: beatsOf -/
theorem c_L_beatsOf (l : Launch) (D : va_G) (cI cZ cL cJ : ClassId) (hst : l.stackTraces = false) (ad : Nat → Nat) (n now : Nat) (told : Int32) (v : Nat → LV) (hwf : WFX n now v) (hinj : Inj 29 ad) (z : Nat) (f : Nat → Int64) (hz : ¬ AX ad z) (k : Int32) : Met l yL_beatsOf wsL_beatsOf ({ frames := 8, cells := 1, slots := 6, locals := 124 } : Room) (PC D (TY cI cZ cL cJ) (AL ad z) [.ref (ad 0), .int k, .ref z] (fun H => PX D cI cL ad n now told v H ∧ va_P D vwCl (outW cJ z f) H)) (QW (AL ad z) True (nI (cd1 (lpOk n k))) (LEnd D cI cL cJ ad z n now told v (cd1 (lpOk n k)) ((nI (lbc (v (ixx k)))).toInt64))) 1 6 (AL ad z) := by
  refine MetWH (cc := cL_beatsOf) (maxL := 4) (ret := (some .int)) (hh := [(0, 9, 12, 19)]) (by decide) rfl ?_
  intro p e s m args below meth c s₁ B hml htab hv
  obtain ⟨rfl, hK, hEL, hPX, hOut⟩ := hv
  have hEA : EN (AX ad) s s.heap := hEL.narrow (fun _ h => Or.inl h)
  have hE : EN noA s s.heap := hEA.narrow (fun _ h => h.elim)
  have hx := B.exec
  have hb := B.bytes
  have hr := B.returns
  have hts := atoms_spec (ws := wsL_beatsOf) B.pre
  have hown : s.vm.findClass RL = some m.cls := findClass_of_methodNamed B.named
  have hlocks := B.notSynchronized
  have hlt := (vpa hOut 0 rfl).lt
  have hl := lv_entry ([.ref (ad 0), .int k, .ref z]) (n := 4) (Nat.le_of_ble_eq_true rfl)
  rw [lg_entry_eq]
  generalize (lg_sl ([.ref (ad 0), .int k, .ref z]) ++ List.replicate (4 - (lg_sl ([.ref (ad 0), .int k, .ref z])).length) Slot.unset).toArray = ls at hl ⊢
  have hl : lv_has ls 4 [(0, .ref (ad 0)), (1, .int k), (2, .ref z)] := hl
  refine lv_aload_n hx hb dL_beatsOf_0 rfl (lv_at hl 2 rfl) ?_
  refine lv_iconst (v := nI 0) hx hb dL_beatsOf_1 (by decide) ?_
  refine lv_aload_n hx hb dL_beatsOf_2 rfl (lv_at hl 0 rfl) ?_
  refine lv_iload_n hx hb dL_beatsOf_3 rfl (lv_at hl 1 rfl) ?_
  refine lxR (As := [.int k]) (rest := [.int (nI 0), .ref z]) ⟨hx, hb, hml, hown, hts⟩ (c_X1_beatsOf l D cI cZ cL cJ hst ad n now told v hwf k) (cwV 1 hts gL_beatsOf_X1_beatsOf rfl rfl rfl (by decide +kernel) ⟨(Nat.le_of_ble_eq_true rfl), (Nat.le_of_ble_eq_true rfl)⟩) hK hE hPX (RC_of (q := (RX1, TX1, 5)) (ci := 1) hK rfl (vpa hPX.1 0 rfl)) rfl hl.1 rfl (Nat.le_of_ble_eq_true rfl) dL_beatsOf_4 ⟨(Nat.le_of_ble_eq_true rfl), (Nat.le_of_ble_eq_true rfl)⟩ (fun E ce q9 H hp hz1 hk hce hcv hcl => ?_) (fun hok => ?_)
  · have hS : va_S (AL ad z) s.heap H [] := va_S_old hz1 hk
    obtain ⟨hcd, rfl⟩ := exC1 hp
    refine vx_catch (name := "java/lang/IndexOutOfBoundsException") hown [] ⟨0, 9, 12, 19⟩ [] (by rw [htab]; rfl) (fun y hy => by cases hy) rfl (by decide) (hts (.classLink RL 19 "java/lang/IndexOutOfBoundsException") (List.mem_of_getElem? (i := 1) rfl)) (va_Nw.use rfl (hE.2.2.1.2.2 _ (by decide))) hce hcv hcl ?_
    show W _ _ _ _ _ _ _ _ _ _ _ _ _ _ _ (F0 m 12 ls [.ref q9])
    have hend : LEnd D cI cL cJ ad z n now told v (cd1 (lpOk n k)) ((nI (lbc (v (ixx k)))).toInt64) H := by
      rw [hcd]
      exact ⟨PX_keep (A := fun _ => False) hPX (fun _ _ h => h) (fun q h _ => hk q h), f, outK (A := fun _ => False) hOut (fun h => h) (fun q h _ => hk q h), fun h => absurd h (by decide)⟩
    refine lv_astore_n (lv' := [(3, .ref q9), (0, .ref (ad 0)), (1, .int k), (2, .ref z)]) hx hb dL_beatsOf_12 rfl hl (by decide) rfl (fun ls hl => ?_)
    refine lv_iconst (v := nI 1) hx hb dL_beatsOf_13 (by decide) ?_
    refine n_ti (y := nI (cd1 (lpOk n k))) (by rw [hcd]) ?_
    exact W.iret (v := nI (cd1 (lpOk n k))) hx hb hr (fun t ht hW => ⟨trivial, rfl, by rw [ht]; exact hend, hS.F ht⟩) hS.2.2 dL_beatsOf_14
  · have hS : va_S (AL ad z) s.heap s.heap [] := va_S.rf
    have hPn := hPX
    have hO2 := hOut
    refine lv_i2l (v := (nI (lbc (v (ixx k)))).toInt64) hx hb dL_beatsOf_7 rfl ?_
    refine n_lastK hx hb hK hO2 hS (Or.inr rfl) 3 rfl dL_beatsOf_8 (fun H5 locs hO5 hz5 hk5 hS => ?_)
    have hPX5 := PX_keep (A := fun q => q = z) (H := H5) hPn (fun i hi h => hz ⟨i, hi, h.symm⟩) (fun q _ h => hk5 q h)
    have hend : LEnd D cI cL cJ ad z n now told v (cd1 (lpOk n k)) ((nI (lbc (v (ixx k)))).toInt64) H5 := by
      rw [hok]
      exact ⟨hPX5, _, hO5, fun _ => rfl⟩
    refine lv_goto (tgt := 15) hx hb dL_beatsOf_9 (by decide) ?_
    refine lv_iconst (v := nI 0) hx hb dL_beatsOf_15 (by decide) ?_
    refine n_ti (y := nI (cd1 (lpOk n k))) (by rw [hok]) ?_
    exact W.iret (v := nI (cd1 (lpOk n k))) hx hb hr (fun t ht hW => ⟨trivial, rfl, by rw [ht]; exact hend, hS.F ht⟩) hS.2.2 dL_beatsOf_16
set_option maxHeartbeats 4000000 in
set_option maxRecDepth 100000 in
/-- the law: numberOf -/
theorem c_L_numberOf (l : Launch) (D : va_G) (cI cZ cL cJ : ClassId) (hst : l.stackTraces = false) (ad : Nat → Nat) (n now : Nat) (told : Int32) (v : Nat → LV) (hwf : WFX n now v) (hinj : Inj 29 ad) (z : Nat) (f : Nat → Int64) (hz : ¬ AX ad z) (k b : Int32) : Met l yL_numberOf wsL_numberOf ({ frames := 9, cells := 2, slots := 12, locals := 147 } : Room) (PC D (TY cI cZ cL cJ) (AL ad z) [.ref (ad 0), .int k, .int b, .ref z] (fun H => PX D cI cL ad n now told v H ∧ va_P D vwCl (outW cJ z f) H)) (QW (AL ad z) True (nI (cd1 (btOk n v k b))) (LEnd D cI cL cJ ad z n now told v (cd1 (btOk n v k b)) ((nI (lnu (v (ixx k)) (ixx b))).toInt64))) 2 12 (AL ad z) := by
  refine MetWH (cc := cL_numberOf) (maxL := 5) (ret := (some .int)) (hh := [(0, 10, 13, 19)]) (by decide) rfl ?_
  intro p e s m args below meth c s₁ B hml htab hv
  obtain ⟨rfl, hK, hEL, hPX, hOut⟩ := hv
  have hEA : EN (AX ad) s s.heap := hEL.narrow (fun _ h => Or.inl h)
  have hE : EN noA s s.heap := hEA.narrow (fun _ h => h.elim)
  have hx := B.exec
  have hb := B.bytes
  have hr := B.returns
  have hts := atoms_spec (ws := wsL_numberOf) B.pre
  have hown : s.vm.findClass RL = some m.cls := findClass_of_methodNamed B.named
  have hlocks := B.notSynchronized
  have hlt := (vpa hOut 0 rfl).lt
  have hl := lv_entry ([.ref (ad 0), .int k, .int b, .ref z]) (n := 5) (Nat.le_of_ble_eq_true rfl)
  rw [lg_entry_eq]
  generalize (lg_sl ([.ref (ad 0), .int k, .int b, .ref z]) ++ List.replicate (5 - (lg_sl ([.ref (ad 0), .int k, .int b, .ref z])).length) Slot.unset).toArray = ls at hl ⊢
  have hl : lv_has ls 5 [(0, .ref (ad 0)), (1, .int k), (2, .int b), (3, .ref z)] := hl
  refine lv_aload_n hx hb dL_numberOf_0 rfl (lv_at hl 3 rfl) ?_
  refine lv_iconst (v := nI 0) hx hb dL_numberOf_1 (by decide) ?_
  refine lv_aload_n hx hb dL_numberOf_2 rfl (lv_at hl 0 rfl) ?_
  refine lv_iload_n hx hb dL_numberOf_3 rfl (lv_at hl 1 rfl) ?_
  refine lv_iload_n hx hb dL_numberOf_4 rfl (lv_at hl 2 rfl) ?_
  refine lxR (As := [.int k, .int b]) (rest := [.int (nI 0), .ref z]) ⟨hx, hb, hml, hown, hts⟩ (c_X1_numberOf l D cI cZ cL cJ hst ad n now told v hwf k b) (cwV 2 hts gL_numberOf_X1_numberOf rfl rfl rfl (by decide +kernel) ⟨(Nat.le_of_ble_eq_true rfl), (Nat.le_of_ble_eq_true rfl)⟩) hK hE hPX (RC_of (q := (RX1, TX1, 5)) (ci := 1) hK rfl (vpa hPX.1 0 rfl)) rfl hl.1 rfl (Nat.le_of_ble_eq_true rfl) dL_numberOf_5 ⟨(Nat.le_of_ble_eq_true rfl), (Nat.le_of_ble_eq_true rfl)⟩ (fun E ce q9 H hp hz1 hk hce hcv hcl => ?_) (fun hok => ?_)
  · have hS : va_S (AL ad z) s.heap H [] := va_S_old hz1 hk
    obtain ⟨hcd, rfl⟩ := exC1 hp
    refine vx_catch (name := "java/lang/IndexOutOfBoundsException") hown [] ⟨0, 10, 13, 19⟩ [] (by rw [htab]; rfl) (fun y hy => by cases hy) rfl (by decide) (hts (.classLink RL 19 "java/lang/IndexOutOfBoundsException") (List.mem_of_getElem? (i := 1) rfl)) (va_Nw.use rfl (hE.2.2.1.2.2 _ (by decide))) hce hcv hcl ?_
    show W _ _ _ _ _ _ _ _ _ _ _ _ _ _ _ (F0 m 13 ls [.ref q9])
    have hend : LEnd D cI cL cJ ad z n now told v (cd1 (btOk n v k b)) ((nI (lnu (v (ixx k)) (ixx b))).toInt64) H := by
      rw [hcd]
      exact ⟨PX_keep (A := fun _ => False) hPX (fun _ _ h => h) (fun q h _ => hk q h), f, outK (A := fun _ => False) hOut (fun h => h) (fun q h _ => hk q h), fun h => absurd h (by decide)⟩
    refine lv_astore (lv' := [(4, .ref q9), (0, .ref (ad 0)), (1, .int k), (2, .int b), (3, .ref z)]) hx hb dL_numberOf_13 hl (by decide) rfl (fun ls hl => ?_)
    refine lv_iconst (v := nI 1) hx hb dL_numberOf_15 (by decide) ?_
    refine n_ti (y := nI (cd1 (btOk n v k b))) (by rw [hcd]) ?_
    exact W.iret (v := nI (cd1 (btOk n v k b))) hx hb hr (fun t ht hW => ⟨trivial, rfl, by rw [ht]; exact hend, hS.F ht⟩) hS.2.2 dL_numberOf_16
  · have hS : va_S (AL ad z) s.heap s.heap [] := va_S.rf
    have hPn := hPX
    have hO2 := hOut
    refine lv_i2l (v := (nI (lnu (v (ixx k)) (ixx b))).toInt64) hx hb dL_numberOf_8 rfl ?_
    refine n_lastK hx hb hK hO2 hS (Or.inr rfl) 3 rfl dL_numberOf_9 (fun H5 locs hO5 hz5 hk5 hS => ?_)
    have hPX5 := PX_keep (A := fun q => q = z) (H := H5) hPn (fun i hi h => hz ⟨i, hi, h.symm⟩) (fun q _ h => hk5 q h)
    have hend : LEnd D cI cL cJ ad z n now told v (cd1 (btOk n v k b)) ((nI (lnu (v (ixx k)) (ixx b))).toInt64) H5 := by
      rw [hok]
      exact ⟨hPX5, _, hO5, fun _ => rfl⟩
    refine lv_goto (tgt := 17) hx hb dL_numberOf_10 (by decide) ?_
    refine lv_iconst (v := nI 0) hx hb dL_numberOf_17 (by decide) ?_
    refine n_ti (y := nI (cd1 (btOk n v k b))) (by rw [hok]) ?_
    exact W.iret (v := nI (cd1 (btOk n v k b))) hx hb hr (fun t ht hW => ⟨trivial, rfl, by rw [ht]; exact hend, hS.F ht⟩) hS.2.2 dL_numberOf_18
set_option maxHeartbeats 4000000 in
set_option maxRecDepth 100000 in
/-- the law: offsetOf -/
theorem c_L_offsetOf (l : Launch) (D : va_G) (cI cZ cL cJ : ClassId) (hst : l.stackTraces = false) (ad : Nat → Nat) (n now : Nat) (told : Int32) (v : Nat → LV) (hwf : WFX n now v) (hinj : Inj 29 ad) (z : Nat) (f : Nat → Int64) (hz : ¬ AX ad z) (k b : Int32) : Met l yL_offsetOf wsL_offsetOf ({ frames := 9, cells := 2, slots := 12, locals := 147 } : Room) (PC D (TY cI cZ cL cJ) (AL ad z) [.ref (ad 0), .int k, .int b, .ref z] (fun H => PX D cI cL ad n now told v H ∧ va_P D vwCl (outW cJ z f) H)) (QW (AL ad z) True (nI (cd1 (btOk n v k b))) (LEnd D cI cL cJ ad z n now told v (cd1 (btOk n v k b)) ((nI (lof (v (ixx k)) (ixx b))).toInt64))) 2 12 (AL ad z) := by
  refine MetWH (cc := cL_offsetOf) (maxL := 5) (ret := (some .int)) (hh := [(0, 10, 13, 19)]) (by decide) rfl ?_
  intro p e s m args below meth c s₁ B hml htab hv
  obtain ⟨rfl, hK, hEL, hPX, hOut⟩ := hv
  have hEA : EN (AX ad) s s.heap := hEL.narrow (fun _ h => Or.inl h)
  have hE : EN noA s s.heap := hEA.narrow (fun _ h => h.elim)
  have hx := B.exec
  have hb := B.bytes
  have hr := B.returns
  have hts := atoms_spec (ws := wsL_offsetOf) B.pre
  have hown : s.vm.findClass RL = some m.cls := findClass_of_methodNamed B.named
  have hlocks := B.notSynchronized
  have hlt := (vpa hOut 0 rfl).lt
  have hl := lv_entry ([.ref (ad 0), .int k, .int b, .ref z]) (n := 5) (Nat.le_of_ble_eq_true rfl)
  rw [lg_entry_eq]
  generalize (lg_sl ([.ref (ad 0), .int k, .int b, .ref z]) ++ List.replicate (5 - (lg_sl ([.ref (ad 0), .int k, .int b, .ref z])).length) Slot.unset).toArray = ls at hl ⊢
  have hl : lv_has ls 5 [(0, .ref (ad 0)), (1, .int k), (2, .int b), (3, .ref z)] := hl
  refine lv_aload_n hx hb dL_offsetOf_0 rfl (lv_at hl 3 rfl) ?_
  refine lv_iconst (v := nI 0) hx hb dL_offsetOf_1 (by decide) ?_
  refine lv_aload_n hx hb dL_offsetOf_2 rfl (lv_at hl 0 rfl) ?_
  refine lv_iload_n hx hb dL_offsetOf_3 rfl (lv_at hl 1 rfl) ?_
  refine lv_iload_n hx hb dL_offsetOf_4 rfl (lv_at hl 2 rfl) ?_
  refine lxR (As := [.int k, .int b]) (rest := [.int (nI 0), .ref z]) ⟨hx, hb, hml, hown, hts⟩ (c_X1_offsetOf l D cI cZ cL cJ hst ad n now told v hwf k b) (cwV 2 hts gL_offsetOf_X1_offsetOf rfl rfl rfl (by decide +kernel) ⟨(Nat.le_of_ble_eq_true rfl), (Nat.le_of_ble_eq_true rfl)⟩) hK hE hPX (RC_of (q := (RX1, TX1, 5)) (ci := 1) hK rfl (vpa hPX.1 0 rfl)) rfl hl.1 rfl (Nat.le_of_ble_eq_true rfl) dL_offsetOf_5 ⟨(Nat.le_of_ble_eq_true rfl), (Nat.le_of_ble_eq_true rfl)⟩ (fun E ce q9 H hp hz1 hk hce hcv hcl => ?_) (fun hok => ?_)
  · have hS : va_S (AL ad z) s.heap H [] := va_S_old hz1 hk
    obtain ⟨hcd, rfl⟩ := exC1 hp
    refine vx_catch (name := "java/lang/IndexOutOfBoundsException") hown [] ⟨0, 10, 13, 19⟩ [] (by rw [htab]; rfl) (fun y hy => by cases hy) rfl (by decide) (hts (.classLink RL 19 "java/lang/IndexOutOfBoundsException") (List.mem_of_getElem? (i := 1) rfl)) (va_Nw.use rfl (hE.2.2.1.2.2 _ (by decide))) hce hcv hcl ?_
    show W _ _ _ _ _ _ _ _ _ _ _ _ _ _ _ (F0 m 13 ls [.ref q9])
    have hend : LEnd D cI cL cJ ad z n now told v (cd1 (btOk n v k b)) ((nI (lof (v (ixx k)) (ixx b))).toInt64) H := by
      rw [hcd]
      exact ⟨PX_keep (A := fun _ => False) hPX (fun _ _ h => h) (fun q h _ => hk q h), f, outK (A := fun _ => False) hOut (fun h => h) (fun q h _ => hk q h), fun h => absurd h (by decide)⟩
    refine lv_astore (lv' := [(4, .ref q9), (0, .ref (ad 0)), (1, .int k), (2, .int b), (3, .ref z)]) hx hb dL_offsetOf_13 hl (by decide) rfl (fun ls hl => ?_)
    refine lv_iconst (v := nI 1) hx hb dL_offsetOf_15 (by decide) ?_
    refine n_ti (y := nI (cd1 (btOk n v k b))) (by rw [hcd]) ?_
    exact W.iret (v := nI (cd1 (btOk n v k b))) hx hb hr (fun t ht hW => ⟨trivial, rfl, by rw [ht]; exact hend, hS.F ht⟩) hS.2.2 dL_offsetOf_16
  · have hS : va_S (AL ad z) s.heap s.heap [] := va_S.rf
    have hPn := hPX
    have hO2 := hOut
    refine lv_i2l (v := (nI (lof (v (ixx k)) (ixx b))).toInt64) hx hb dL_offsetOf_8 rfl ?_
    refine n_lastK hx hb hK hO2 hS (Or.inr rfl) 3 rfl dL_offsetOf_9 (fun H5 locs hO5 hz5 hk5 hS => ?_)
    have hPX5 := PX_keep (A := fun q => q = z) (H := H5) hPn (fun i hi h => hz ⟨i, hi, h.symm⟩) (fun q _ h => hk5 q h)
    have hend : LEnd D cI cL cJ ad z n now told v (cd1 (btOk n v k b)) ((nI (lof (v (ixx k)) (ixx b))).toInt64) H5 := by
      rw [hok]
      exact ⟨hPX5, _, hO5, fun _ => rfl⟩
    refine lv_goto (tgt := 17) hx hb dL_offsetOf_10 (by decide) ?_
    refine lv_iconst (v := nI 0) hx hb dL_offsetOf_17 (by decide) ?_
    refine n_ti (y := nI (cd1 (btOk n v k b))) (by rw [hok]) ?_
    exact W.iret (v := nI (cd1 (btOk n v k b))) hx hb hr (fun t ht hW => ⟨trivial, rfl, by rw [ht]; exact hend, hS.F ht⟩) hS.2.2 dL_offsetOf_18
set_option maxHeartbeats 4000000 in
set_option maxRecDepth 100000 in
/-- the law: isCovered -/
theorem c_L_isCovered (l : Launch) (D : va_G) (cI cZ cL cJ : ClassId) (hst : l.stackTraces = false) (ad : Nat → Nat) (n now : Nat) (told : Int32) (v : Nat → LV) (hwf : WFX n now v) (hinj : Inj 29 ad) (z : Nat) (f : Nat → Int64) (hz : ¬ AX ad z) (k : Int32) : Met l yL_isCovered wsL_isCovered ({ frames := 8, cells := 1, slots := 6, locals := 124 } : Room) (PC D (TY cI cZ cL cJ) (AL ad z) [.ref (ad 0), .int k, .ref z] (fun H => PX D cI cL ad n now told v H ∧ va_P D vwCl (outW cJ z f) H)) (QW (AL ad z) True (nI (cd1 (lpOk n k))) (LEnd D cI cL cJ ad z n now told v (cd1 (lpOk n k)) (bJ (lcv (v (ixx k)))))) 1 6 (AL ad z) := by
  refine MetWH (cc := cL_isCovered) (maxL := 4) (ret := (some .int)) (hh := [(0, 16, 19, 19)]) (by decide) rfl ?_
  intro p e s m args below meth c s₁ B hml htab hv
  obtain ⟨rfl, hK, hEL, hPX, hOut⟩ := hv
  have hEA : EN (AX ad) s s.heap := hEL.narrow (fun _ h => Or.inl h)
  have hE : EN noA s s.heap := hEA.narrow (fun _ h => h.elim)
  have hx := B.exec
  have hb := B.bytes
  have hr := B.returns
  have hts := atoms_spec (ws := wsL_isCovered) B.pre
  have hown : s.vm.findClass RL = some m.cls := findClass_of_methodNamed B.named
  have hlocks := B.notSynchronized
  have hlt := (vpa hOut 0 rfl).lt
  have hl := lv_entry ([.ref (ad 0), .int k, .ref z]) (n := 4) (Nat.le_of_ble_eq_true rfl)
  rw [lg_entry_eq]
  generalize (lg_sl ([.ref (ad 0), .int k, .ref z]) ++ List.replicate (4 - (lg_sl ([.ref (ad 0), .int k, .ref z])).length) Slot.unset).toArray = ls at hl ⊢
  have hl : lv_has ls 4 [(0, .ref (ad 0)), (1, .int k), (2, .ref z)] := hl
  refine lv_aload_n hx hb dL_isCovered_0 rfl (lv_at hl 2 rfl) ?_
  refine lv_iconst (v := nI 0) hx hb dL_isCovered_1 (by decide) ?_
  refine lv_aload_n hx hb dL_isCovered_2 rfl (lv_at hl 0 rfl) ?_
  refine lv_iload_n hx hb dL_isCovered_3 rfl (lv_at hl 1 rfl) ?_
  refine lxR (As := [.int k]) (rest := [.int (nI 0), .ref z]) ⟨hx, hb, hml, hown, hts⟩ (c_X1_isCovered l D cI cZ cL cJ hst ad n now told v hwf k) (cwV 1 hts gL_isCovered_X1_isCovered rfl rfl rfl (by decide +kernel) ⟨(Nat.le_of_ble_eq_true rfl), (Nat.le_of_ble_eq_true rfl)⟩) hK hE hPX (RC_of (q := (RX1, TX1, 5)) (ci := 1) hK rfl (vpa hPX.1 0 rfl)) rfl hl.1 rfl (Nat.le_of_ble_eq_true rfl) dL_isCovered_4 ⟨(Nat.le_of_ble_eq_true rfl), (Nat.le_of_ble_eq_true rfl)⟩ (fun E ce q9 H hp hz1 hk hce hcv hcl => ?_) (fun hok => ?_)
  · have hS : va_S (AL ad z) s.heap H [] := va_S_old hz1 hk
    obtain ⟨hcd, rfl⟩ := exC1 hp
    refine vx_catch (name := "java/lang/IndexOutOfBoundsException") hown [] ⟨0, 16, 19, 19⟩ [] (by rw [htab]; rfl) (fun y hy => by cases hy) rfl (by decide) (hts (.classLink RL 19 "java/lang/IndexOutOfBoundsException") (List.mem_of_getElem? (i := 1) rfl)) (va_Nw.use rfl (hE.2.2.1.2.2 _ (by decide))) hce hcv hcl ?_
    show W _ _ _ _ _ _ _ _ _ _ _ _ _ _ _ (F0 m 19 ls [.ref q9])
    have hend : LEnd D cI cL cJ ad z n now told v (cd1 (lpOk n k)) (bJ (lcv (v (ixx k)))) H := by
      rw [hcd]
      exact ⟨PX_keep (A := fun _ => False) hPX (fun _ _ h => h) (fun q h _ => hk q h), f, outK (A := fun _ => False) hOut (fun h => h) (fun q h _ => hk q h), fun h => absurd h (by decide)⟩
    refine lv_astore_n (lv' := [(3, .ref q9), (0, .ref (ad 0)), (1, .int k), (2, .ref z)]) hx hb dL_isCovered_19 rfl hl (by decide) rfl (fun ls hl => ?_)
    refine lv_iconst (v := nI 1) hx hb dL_isCovered_20 (by decide) ?_
    refine n_ti (y := nI (cd1 (lpOk n k))) (by rw [hcd]) ?_
    exact W.iret (v := nI (cd1 (lpOk n k))) hx hb hr (fun t ht hW => ⟨trivial, rfl, by rw [ht]; exact hend, hS.F ht⟩) hS.2.2 dL_isCovered_21
  · have hS : va_S (AL ad z) s.heap s.heap [] := va_S.rf
    have hPn := hPX
    have hO2 := hOut
    refine b_if_eq (b := (lcv (v (ixx k)))) (tgt := 14) hx hb dL_isCovered_7 (by decide) (fun c_7 => ?_) (fun c_7 => ?_)
    · refine lv_lconst (v := 0) hx hb dL_isCovered_14 (by decide) ?_
      refine n_lastK hx hb hK hO2 hS (Or.inr rfl) 3 rfl dL_isCovered_15 (fun H5 locs hO5 hz5 hk5 hS => ?_)
      have hPX5 := PX_keep (A := fun q => q = z) (H := H5) hPn (fun i hi h => hz ⟨i, hi, h.symm⟩) (fun q _ h => hk5 q h)
      have hend : LEnd D cI cL cJ ad z n now told v (cd1 (lpOk n k)) (bJ (lcv (v (ixx k)))) H5 := by
        rw [hok]
        exact ⟨hPX5, _, hO5, fun _ => (by rw [c_7]; rfl)⟩
      refine lv_goto (tgt := 22) hx hb dL_isCovered_16 (by decide) ?_
      refine lv_iconst (v := nI 0) hx hb dL_isCovered_22 (by decide) ?_
      refine n_ti (y := nI (cd1 (lpOk n k))) (by rw [hok]) ?_
      exact W.iret (v := nI (cd1 (lpOk n k))) hx hb hr (fun t ht hW => ⟨trivial, rfl, by rw [ht]; exact hend, hS.F ht⟩) hS.2.2 dL_isCovered_23
    · refine lv_lconst (v := 1) hx hb dL_isCovered_10 (by decide) ?_
      refine lv_goto (tgt := 15) hx hb dL_isCovered_11 (by decide) ?_
      refine n_lastK hx hb hK hO2 hS (Or.inr rfl) 3 rfl dL_isCovered_15 (fun H5 locs hO5 hz5 hk5 hS => ?_)
      have hPX5 := PX_keep (A := fun q => q = z) (H := H5) hPn (fun i hi h => hz ⟨i, hi, h.symm⟩) (fun q _ h => hk5 q h)
      have hend : LEnd D cI cL cJ ad z n now told v (cd1 (lpOk n k)) (bJ (lcv (v (ixx k)))) H5 := by
        rw [hok]
        exact ⟨hPX5, _, hO5, fun _ => (by rw [c_7]; rfl)⟩
      refine lv_goto (tgt := 22) hx hb dL_isCovered_16 (by decide) ?_
      refine lv_iconst (v := nI 0) hx hb dL_isCovered_22 (by decide) ?_
      refine n_ti (y := nI (cd1 (lpOk n k))) (by rw [hok]) ?_
      exact W.iret (v := nI (cd1 (lpOk n k))) hx hb hr (fun t ht hW => ⟨trivial, rfl, by rw [ht]; exact hend, hS.F ht⟩) hS.2.2 dL_isCovered_23
set_option maxHeartbeats 4000000 in
set_option maxRecDepth 100000 in
/-- the law: isOn -/
theorem c_L_isOn (l : Launch) (D : va_G) (cI cZ cL cJ : ClassId) (hst : l.stackTraces = false) (ad : Nat → Nat) (n now : Nat) (told : Int32) (v : Nat → LV) (hwf : WFX n now v) (hinj : Inj 29 ad) (z : Nat) (f : Nat → Int64) (hz : ¬ AX ad z) (k : Int32) : Met l yL_isOn wsL_isOn ({ frames := 8, cells := 1, slots := 6, locals := 124 } : Room) (PC D (TY cI cZ cL cJ) (AL ad z) [.ref (ad 0), .int k, .ref z] (fun H => PX D cI cL ad n now told v H ∧ va_P D vwCl (outW cJ z f) H)) (QW (AL ad z) True (nI (cd1 (lpOk n k))) (LEnd D cI cL cJ ad z n now told v (cd1 (lpOk n k)) (bJ (onB (v (ixx k)) now)))) 1 6 (AL ad z) := by
  refine MetWH (cc := cL_isOn) (maxL := 4) (ret := (some .int)) (hh := [(0, 16, 19, 19)]) (by decide) rfl ?_
  intro p e s m args below meth c s₁ B hml htab hv
  obtain ⟨rfl, hK, hEL, hPX, hOut⟩ := hv
  have hEA : EN (AX ad) s s.heap := hEL.narrow (fun _ h => Or.inl h)
  have hE : EN noA s s.heap := hEA.narrow (fun _ h => h.elim)
  have hx := B.exec
  have hb := B.bytes
  have hr := B.returns
  have hts := atoms_spec (ws := wsL_isOn) B.pre
  have hown : s.vm.findClass RL = some m.cls := findClass_of_methodNamed B.named
  have hlocks := B.notSynchronized
  have hlt := (vpa hOut 0 rfl).lt
  have hl := lv_entry ([.ref (ad 0), .int k, .ref z]) (n := 4) (Nat.le_of_ble_eq_true rfl)
  rw [lg_entry_eq]
  generalize (lg_sl ([.ref (ad 0), .int k, .ref z]) ++ List.replicate (4 - (lg_sl ([.ref (ad 0), .int k, .ref z])).length) Slot.unset).toArray = ls at hl ⊢
  have hl : lv_has ls 4 [(0, .ref (ad 0)), (1, .int k), (2, .ref z)] := hl
  refine lv_aload_n hx hb dL_isOn_0 rfl (lv_at hl 2 rfl) ?_
  refine lv_iconst (v := nI 0) hx hb dL_isOn_1 (by decide) ?_
  refine lv_aload_n hx hb dL_isOn_2 rfl (lv_at hl 0 rfl) ?_
  refine lv_iload_n hx hb dL_isOn_3 rfl (lv_at hl 1 rfl) ?_
  refine lxR (As := [.int k]) (rest := [.int (nI 0), .ref z]) ⟨hx, hb, hml, hown, hts⟩ (c_X1_isOn l D cI cZ cL cJ hst ad n now told v hwf k) (cwV 1 hts gL_isOn_X1_isOn rfl rfl rfl (by decide +kernel) ⟨(Nat.le_of_ble_eq_true rfl), (Nat.le_of_ble_eq_true rfl)⟩) hK hE hPX (RC_of (q := (RX1, TX1, 5)) (ci := 1) hK rfl (vpa hPX.1 0 rfl)) rfl hl.1 rfl (Nat.le_of_ble_eq_true rfl) dL_isOn_4 ⟨(Nat.le_of_ble_eq_true rfl), (Nat.le_of_ble_eq_true rfl)⟩ (fun E ce q9 H hp hz1 hk hce hcv hcl => ?_) (fun hok => ?_)
  · have hS : va_S (AL ad z) s.heap H [] := va_S_old hz1 hk
    obtain ⟨hcd, rfl⟩ := exC1 hp
    refine vx_catch (name := "java/lang/IndexOutOfBoundsException") hown [] ⟨0, 16, 19, 19⟩ [] (by rw [htab]; rfl) (fun y hy => by cases hy) rfl (by decide) (hts (.classLink RL 19 "java/lang/IndexOutOfBoundsException") (List.mem_of_getElem? (i := 1) rfl)) (va_Nw.use rfl (hE.2.2.1.2.2 _ (by decide))) hce hcv hcl ?_
    show W _ _ _ _ _ _ _ _ _ _ _ _ _ _ _ (F0 m 19 ls [.ref q9])
    have hend : LEnd D cI cL cJ ad z n now told v (cd1 (lpOk n k)) (bJ (onB (v (ixx k)) now)) H := by
      rw [hcd]
      exact ⟨PX_keep (A := fun _ => False) hPX (fun _ _ h => h) (fun q h _ => hk q h), f, outK (A := fun _ => False) hOut (fun h => h) (fun q h _ => hk q h), fun h => absurd h (by decide)⟩
    refine lv_astore_n (lv' := [(3, .ref q9), (0, .ref (ad 0)), (1, .int k), (2, .ref z)]) hx hb dL_isOn_19 rfl hl (by decide) rfl (fun ls hl => ?_)
    refine lv_iconst (v := nI 1) hx hb dL_isOn_20 (by decide) ?_
    refine n_ti (y := nI (cd1 (lpOk n k))) (by rw [hcd]) ?_
    exact W.iret (v := nI (cd1 (lpOk n k))) hx hb hr (fun t ht hW => ⟨trivial, rfl, by rw [ht]; exact hend, hS.F ht⟩) hS.2.2 dL_isOn_21
  · have hS : va_S (AL ad z) s.heap s.heap [] := va_S.rf
    have hPn := hPX
    have hO2 := hOut
    refine b_if_eq (b := (onB (v (ixx k)) now)) (tgt := 14) hx hb dL_isOn_7 (by decide) (fun c_7 => ?_) (fun c_7 => ?_)
    · refine lv_lconst (v := 0) hx hb dL_isOn_14 (by decide) ?_
      refine n_lastK hx hb hK hO2 hS (Or.inr rfl) 3 rfl dL_isOn_15 (fun H5 locs hO5 hz5 hk5 hS => ?_)
      have hPX5 := PX_keep (A := fun q => q = z) (H := H5) hPn (fun i hi h => hz ⟨i, hi, h.symm⟩) (fun q _ h => hk5 q h)
      have hend : LEnd D cI cL cJ ad z n now told v (cd1 (lpOk n k)) (bJ (onB (v (ixx k)) now)) H5 := by
        rw [hok]
        exact ⟨hPX5, _, hO5, fun _ => (by rw [c_7]; rfl)⟩
      refine lv_goto (tgt := 22) hx hb dL_isOn_16 (by decide) ?_
      refine lv_iconst (v := nI 0) hx hb dL_isOn_22 (by decide) ?_
      refine n_ti (y := nI (cd1 (lpOk n k))) (by rw [hok]) ?_
      exact W.iret (v := nI (cd1 (lpOk n k))) hx hb hr (fun t ht hW => ⟨trivial, rfl, by rw [ht]; exact hend, hS.F ht⟩) hS.2.2 dL_isOn_23
    · refine lv_lconst (v := 1) hx hb dL_isOn_10 (by decide) ?_
      refine lv_goto (tgt := 15) hx hb dL_isOn_11 (by decide) ?_
      refine n_lastK hx hb hK hO2 hS (Or.inr rfl) 3 rfl dL_isOn_15 (fun H5 locs hO5 hz5 hk5 hS => ?_)
      have hPX5 := PX_keep (A := fun q => q = z) (H := H5) hPn (fun i hi h => hz ⟨i, hi, h.symm⟩) (fun q _ h => hk5 q h)
      have hend : LEnd D cI cL cJ ad z n now told v (cd1 (lpOk n k)) (bJ (onB (v (ixx k)) now)) H5 := by
        rw [hok]
        exact ⟨hPX5, _, hO5, fun _ => (by rw [c_7]; rfl)⟩
      refine lv_goto (tgt := 22) hx hb dL_isOn_16 (by decide) ?_
      refine lv_iconst (v := nI 0) hx hb dL_isOn_22 (by decide) ?_
      refine n_ti (y := nI (cd1 (lpOk n k))) (by rw [hok]) ?_
      exact W.iret (v := nI (cd1 (lpOk n k))) hx hb hr (fun t ht hW => ⟨trivial, rfl, by rw [ht]; exact hend, hS.F ht⟩) hS.2.2 dL_isOn_23
set_option maxHeartbeats 4000000 in
set_option maxRecDepth 100000 in
/-- the law: isLit -/
theorem c_L_isLit (l : Launch) (D : va_G) (cI cZ cL cJ : ClassId) (hst : l.stackTraces = false) (ad : Nat → Nat) (n now : Nat) (told : Int32) (v : Nat → LV) (hwf : WFX n now v) (hinj : Inj 29 ad) (z : Nat) (f : Nat → Int64) (hz : ¬ AX ad z) (k : Int32) : Met l yL_isLit wsL_isLit ({ frames := 8, cells := 1, slots := 6, locals := 124 } : Room) (PC D (TY cI cZ cL cJ) (AL ad z) [.ref (ad 0), .int k, .ref z] (fun H => PX D cI cL ad n now told v H ∧ va_P D vwCl (outW cJ z f) H)) (QW (AL ad z) True (nI (cd1 (lpOk n k))) (LEnd D cI cL cJ ad z n now told v (cd1 (lpOk n k)) (bJ (litB (v (ixx k)) now)))) 1 6 (AL ad z) := by
  refine MetWH (cc := cL_isLit) (maxL := 4) (ret := (some .int)) (hh := [(0, 16, 19, 19)]) (by decide) rfl ?_
  intro p e s m args below meth c s₁ B hml htab hv
  obtain ⟨rfl, hK, hEL, hPX, hOut⟩ := hv
  have hEA : EN (AX ad) s s.heap := hEL.narrow (fun _ h => Or.inl h)
  have hE : EN noA s s.heap := hEA.narrow (fun _ h => h.elim)
  have hx := B.exec
  have hb := B.bytes
  have hr := B.returns
  have hts := atoms_spec (ws := wsL_isLit) B.pre
  have hown : s.vm.findClass RL = some m.cls := findClass_of_methodNamed B.named
  have hlocks := B.notSynchronized
  have hlt := (vpa hOut 0 rfl).lt
  have hl := lv_entry ([.ref (ad 0), .int k, .ref z]) (n := 4) (Nat.le_of_ble_eq_true rfl)
  rw [lg_entry_eq]
  generalize (lg_sl ([.ref (ad 0), .int k, .ref z]) ++ List.replicate (4 - (lg_sl ([.ref (ad 0), .int k, .ref z])).length) Slot.unset).toArray = ls at hl ⊢
  have hl : lv_has ls 4 [(0, .ref (ad 0)), (1, .int k), (2, .ref z)] := hl
  refine lv_aload_n hx hb dL_isLit_0 rfl (lv_at hl 2 rfl) ?_
  refine lv_iconst (v := nI 0) hx hb dL_isLit_1 (by decide) ?_
  refine lv_aload_n hx hb dL_isLit_2 rfl (lv_at hl 0 rfl) ?_
  refine lv_iload_n hx hb dL_isLit_3 rfl (lv_at hl 1 rfl) ?_
  refine lxR (As := [.int k]) (rest := [.int (nI 0), .ref z]) ⟨hx, hb, hml, hown, hts⟩ (c_X1_isLit l D cI cZ cL cJ hst ad n now told v hwf k) (cwV 1 hts gL_isLit_X1_isLit rfl rfl rfl (by decide +kernel) ⟨(Nat.le_of_ble_eq_true rfl), (Nat.le_of_ble_eq_true rfl)⟩) hK hE hPX (RC_of (q := (RX1, TX1, 5)) (ci := 1) hK rfl (vpa hPX.1 0 rfl)) rfl hl.1 rfl (Nat.le_of_ble_eq_true rfl) dL_isLit_4 ⟨(Nat.le_of_ble_eq_true rfl), (Nat.le_of_ble_eq_true rfl)⟩ (fun E ce q9 H hp hz1 hk hce hcv hcl => ?_) (fun hok => ?_)
  · have hS : va_S (AL ad z) s.heap H [] := va_S_old hz1 hk
    obtain ⟨hcd, rfl⟩ := exC1 hp
    refine vx_catch (name := "java/lang/IndexOutOfBoundsException") hown [] ⟨0, 16, 19, 19⟩ [] (by rw [htab]; rfl) (fun y hy => by cases hy) rfl (by decide) (hts (.classLink RL 19 "java/lang/IndexOutOfBoundsException") (List.mem_of_getElem? (i := 1) rfl)) (va_Nw.use rfl (hE.2.2.1.2.2 _ (by decide))) hce hcv hcl ?_
    show W _ _ _ _ _ _ _ _ _ _ _ _ _ _ _ (F0 m 19 ls [.ref q9])
    have hend : LEnd D cI cL cJ ad z n now told v (cd1 (lpOk n k)) (bJ (litB (v (ixx k)) now)) H := by
      rw [hcd]
      exact ⟨PX_keep (A := fun _ => False) hPX (fun _ _ h => h) (fun q h _ => hk q h), f, outK (A := fun _ => False) hOut (fun h => h) (fun q h _ => hk q h), fun h => absurd h (by decide)⟩
    refine lv_astore_n (lv' := [(3, .ref q9), (0, .ref (ad 0)), (1, .int k), (2, .ref z)]) hx hb dL_isLit_19 rfl hl (by decide) rfl (fun ls hl => ?_)
    refine lv_iconst (v := nI 1) hx hb dL_isLit_20 (by decide) ?_
    refine n_ti (y := nI (cd1 (lpOk n k))) (by rw [hcd]) ?_
    exact W.iret (v := nI (cd1 (lpOk n k))) hx hb hr (fun t ht hW => ⟨trivial, rfl, by rw [ht]; exact hend, hS.F ht⟩) hS.2.2 dL_isLit_21
  · have hS : va_S (AL ad z) s.heap s.heap [] := va_S.rf
    have hPn := hPX
    have hO2 := hOut
    refine b_if_eq (b := (litB (v (ixx k)) now)) (tgt := 14) hx hb dL_isLit_7 (by decide) (fun c_7 => ?_) (fun c_7 => ?_)
    · refine lv_lconst (v := 0) hx hb dL_isLit_14 (by decide) ?_
      refine n_lastK hx hb hK hO2 hS (Or.inr rfl) 3 rfl dL_isLit_15 (fun H5 locs hO5 hz5 hk5 hS => ?_)
      have hPX5 := PX_keep (A := fun q => q = z) (H := H5) hPn (fun i hi h => hz ⟨i, hi, h.symm⟩) (fun q _ h => hk5 q h)
      have hend : LEnd D cI cL cJ ad z n now told v (cd1 (lpOk n k)) (bJ (litB (v (ixx k)) now)) H5 := by
        rw [hok]
        exact ⟨hPX5, _, hO5, fun _ => (by rw [c_7]; rfl)⟩
      refine lv_goto (tgt := 22) hx hb dL_isLit_16 (by decide) ?_
      refine lv_iconst (v := nI 0) hx hb dL_isLit_22 (by decide) ?_
      refine n_ti (y := nI (cd1 (lpOk n k))) (by rw [hok]) ?_
      exact W.iret (v := nI (cd1 (lpOk n k))) hx hb hr (fun t ht hW => ⟨trivial, rfl, by rw [ht]; exact hend, hS.F ht⟩) hS.2.2 dL_isLit_23
    · refine lv_lconst (v := 1) hx hb dL_isLit_10 (by decide) ?_
      refine lv_goto (tgt := 15) hx hb dL_isLit_11 (by decide) ?_
      refine n_lastK hx hb hK hO2 hS (Or.inr rfl) 3 rfl dL_isLit_15 (fun H5 locs hO5 hz5 hk5 hS => ?_)
      have hPX5 := PX_keep (A := fun q => q = z) (H := H5) hPn (fun i hi h => hz ⟨i, hi, h.symm⟩) (fun q _ h => hk5 q h)
      have hend : LEnd D cI cL cJ ad z n now told v (cd1 (lpOk n k)) (bJ (litB (v (ixx k)) now)) H5 := by
        rw [hok]
        exact ⟨hPX5, _, hO5, fun _ => (by rw [c_7]; rfl)⟩
      refine lv_goto (tgt := 22) hx hb dL_isLit_16 (by decide) ?_
      refine lv_iconst (v := nI 0) hx hb dL_isLit_22 (by decide) ?_
      refine n_ti (y := nI (cd1 (lpOk n k))) (by rw [hok]) ?_
      exact W.iret (v := nI (cd1 (lpOk n k))) hx hb hr (fun t ht hW => ⟨trivial, rfl, by rw [ht]; exact hend, hS.F ht⟩) hS.2.2 dL_isLit_23
set_option maxHeartbeats 4000000 in
set_option maxRecDepth 100000 in
/-- the law: isOnAt -/
theorem c_L_isOnAt (l : Launch) (D : va_G) (cI cZ cL cJ : ClassId) (hst : l.stackTraces = false) (ad : Nat → Nat) (n now : Nat) (told : Int32) (v : Nat → LV) (hwf : WFX n now v) (hinj : Inj 29 ad) (z : Nat) (f : Nat → Int64) (hz : ¬ AX ad z) (k x : Int32) : Met l yL_isOnAt wsL_isOnAt ({ frames := 8, cells := 2, slots := 12, locals := 125 } : Room) (PC D (TY cI cZ cL cJ) (AL ad z) [.ref (ad 0), .int k, .int x, .ref z] (fun H => PX D cI cL ad n now told v H ∧ va_P D vwCl (outW cJ z f) H)) (QW (AL ad z) True (nI (cd2 (lpOk n k) (inB (nI 0) (nI 60000) x))) (LEnd D cI cL cJ ad z n now told v (cd2 (lpOk n k) (inB (nI 0) (nI 60000) x)) (bJ (onB (v (ixx k)) (ixx x))))) 2 12 (AL ad z) := by
  refine MetWH (cc := cL_isOnAt) (maxL := 5) (ret := (some .int)) (hh := [(0, 17, 20, 19), (0, 17, 24, 21)]) (by decide) rfl ?_
  intro p e s m args below meth c s₁ B hml htab hv
  obtain ⟨rfl, hK, hEL, hPX, hOut⟩ := hv
  have hEA : EN (AX ad) s s.heap := hEL.narrow (fun _ h => Or.inl h)
  have hE : EN noA s s.heap := hEA.narrow (fun _ h => h.elim)
  have hx := B.exec
  have hb := B.bytes
  have hr := B.returns
  have hts := atoms_spec (ws := wsL_isOnAt) B.pre
  have hown : s.vm.findClass RL = some m.cls := findClass_of_methodNamed B.named
  have hlocks := B.notSynchronized
  have hlt := (vpa hOut 0 rfl).lt
  have hl := lv_entry ([.ref (ad 0), .int k, .int x, .ref z]) (n := 5) (Nat.le_of_ble_eq_true rfl)
  rw [lg_entry_eq]
  generalize (lg_sl ([.ref (ad 0), .int k, .int x, .ref z]) ++ List.replicate (5 - (lg_sl ([.ref (ad 0), .int k, .int x, .ref z])).length) Slot.unset).toArray = ls at hl ⊢
  have hl : lv_has ls 5 [(0, .ref (ad 0)), (1, .int k), (2, .int x), (3, .ref z)] := hl
  refine lv_aload_n hx hb dL_isOnAt_0 rfl (lv_at hl 3 rfl) ?_
  refine lv_iconst (v := nI 0) hx hb dL_isOnAt_1 (by decide) ?_
  refine lv_aload_n hx hb dL_isOnAt_2 rfl (lv_at hl 0 rfl) ?_
  refine lv_iload_n hx hb dL_isOnAt_3 rfl (lv_at hl 1 rfl) ?_
  refine lv_iload_n hx hb dL_isOnAt_4 rfl (lv_at hl 2 rfl) ?_
  refine lxR (As := [.int k, .int x]) (rest := [.int (nI 0), .ref z]) ⟨hx, hb, hml, hown, hts⟩ (c_X1_isOnAt l D cI cZ cL cJ hst ad n now told v hwf k x) (cwV 2 hts gL_isOnAt_X1_isOnAt rfl rfl rfl (by decide +kernel) ⟨(Nat.le_of_ble_eq_true rfl), (Nat.le_of_ble_eq_true rfl)⟩) hK hE hPX (RC_of (q := (RX1, TX1, 5)) (ci := 1) hK rfl (vpa hPX.1 0 rfl)) rfl hl.1 rfl (Nat.le_of_ble_eq_true rfl) dL_isOnAt_5 ⟨(Nat.le_of_ble_eq_true rfl), (Nat.le_of_ble_eq_true rfl)⟩ (fun E ce q9 H hp hz1 hk hce hcv hcl => ?_) (fun hok => ?_)
  · have hS : va_S (AL ad z) s.heap H [] := va_S_old hz1 hk
    rcases exC2 hp with ⟨hcd, rfl⟩ | ⟨hcd, rfl⟩
    · refine vx_catch (name := "java/lang/IndexOutOfBoundsException") hown [] ⟨0, 17, 20, 19⟩ [⟨0, 17, 24, 21⟩] (by rw [htab]; rfl) (fun y hy => by cases hy) rfl (by decide) (hts (.classLink RL 19 "java/lang/IndexOutOfBoundsException") (List.mem_of_getElem? (i := 1) rfl)) (va_Nw.use rfl (hE.2.2.1.2.2 _ (by decide))) hce hcv hcl ?_
      show W _ _ _ _ _ _ _ _ _ _ _ _ _ _ _ (F0 m 20 ls [.ref q9])
      have hend : LEnd D cI cL cJ ad z n now told v (cd2 (lpOk n k) (inB (nI 0) (nI 60000) x)) (bJ (onB (v (ixx k)) (ixx x))) H := by
        rw [hcd]
        exact ⟨PX_keep (A := fun _ => False) hPX (fun _ _ h => h) (fun q h _ => hk q h), f, outK (A := fun _ => False) hOut (fun h => h) (fun q h _ => hk q h), fun h => absurd h (by decide)⟩
      refine lv_astore (lv' := [(4, .ref q9), (0, .ref (ad 0)), (1, .int k), (2, .int x), (3, .ref z)]) hx hb dL_isOnAt_20 hl (by decide) rfl (fun ls hl => ?_)
      refine lv_iconst (v := nI 1) hx hb dL_isOnAt_22 (by decide) ?_
      refine n_ti (y := nI (cd2 (lpOk n k) (inB (nI 0) (nI 60000) x))) (by rw [hcd]) ?_
      exact W.iret (v := nI (cd2 (lpOk n k) (inB (nI 0) (nI 60000) x))) hx hb hr (fun t ht hW => ⟨trivial, rfl, by rw [ht]; exact hend, hS.F ht⟩) hS.2.2 dL_isOnAt_23
    · refine vx_catch (name := "java/lang/IllegalArgumentException") hown [⟨0, 17, 20, 19⟩] ⟨0, 17, 24, 21⟩ [] (by rw [htab]; rfl) (fun y hy => by
          rcases List.mem_cons.mp hy with rfl | hy
          · exact Or.inr ⟨by decide, "java/lang/IndexOutOfBoundsException", (hts (.classLink RL 19 "java/lang/IndexOutOfBoundsException") (List.mem_of_getElem? (i := 1) rfl)), hE.2.2.1.1.2 (tIAE, "java/lang/IndexOutOfBoundsException") (by decide)⟩
          cases hy) rfl (by decide) (hts (.classLink RL 21 "java/lang/IllegalArgumentException") (List.mem_of_getElem? (i := 2) rfl)) (va_Nw.use rfl (hE.2.2.1.2.2 _ (by decide))) hce hcv hcl ?_
      show W _ _ _ _ _ _ _ _ _ _ _ _ _ _ _ (F0 m 24 ls [.ref q9])
      have hend : LEnd D cI cL cJ ad z n now told v (cd2 (lpOk n k) (inB (nI 0) (nI 60000) x)) (bJ (onB (v (ixx k)) (ixx x))) H := by
        rw [hcd]
        exact ⟨PX_keep (A := fun _ => False) hPX (fun _ _ h => h) (fun q h _ => hk q h), f, outK (A := fun _ => False) hOut (fun h => h) (fun q h _ => hk q h), fun h => absurd h (by decide)⟩
      refine lv_astore (lv' := [(4, .ref q9), (0, .ref (ad 0)), (1, .int k), (2, .int x), (3, .ref z)]) hx hb dL_isOnAt_24 hl (by decide) rfl (fun ls hl => ?_)
      refine lv_iconst (v := nI 2) hx hb dL_isOnAt_26 (by decide) ?_
      refine n_ti (y := nI (cd2 (lpOk n k) (inB (nI 0) (nI 60000) x))) (by rw [hcd]) ?_
      exact W.iret (v := nI (cd2 (lpOk n k) (inB (nI 0) (nI 60000) x))) hx hb hr (fun t ht hW => ⟨trivial, rfl, by rw [ht]; exact hend, hS.F ht⟩) hS.2.2 dL_isOnAt_27
  · have hS : va_S (AL ad z) s.heap s.heap [] := va_S.rf
    have hPn := hPX
    have hO2 := hOut
    refine b_if_eq (b := (onB (v (ixx k)) (ixx x))) (tgt := 15) hx hb dL_isOnAt_8 (by decide) (fun c_8 => ?_) (fun c_8 => ?_)
    · refine lv_lconst (v := 0) hx hb dL_isOnAt_15 (by decide) ?_
      refine n_lastK hx hb hK hO2 hS (Or.inr rfl) 3 rfl dL_isOnAt_16 (fun H5 locs hO5 hz5 hk5 hS => ?_)
      have hPX5 := PX_keep (A := fun q => q = z) (H := H5) hPn (fun i hi h => hz ⟨i, hi, h.symm⟩) (fun q _ h => hk5 q h)
      have hend : LEnd D cI cL cJ ad z n now told v (cd2 (lpOk n k) (inB (nI 0) (nI 60000) x)) (bJ (onB (v (ixx k)) (ixx x))) H5 := by
        rw [hok]
        exact ⟨hPX5, _, hO5, fun _ => (by rw [c_8]; rfl)⟩
      refine lv_goto (tgt := 28) hx hb dL_isOnAt_17 (by decide) ?_
      refine lv_iconst (v := nI 0) hx hb dL_isOnAt_28 (by decide) ?_
      refine n_ti (y := nI (cd2 (lpOk n k) (inB (nI 0) (nI 60000) x))) (by rw [hok]) ?_
      exact W.iret (v := nI (cd2 (lpOk n k) (inB (nI 0) (nI 60000) x))) hx hb hr (fun t ht hW => ⟨trivial, rfl, by rw [ht]; exact hend, hS.F ht⟩) hS.2.2 dL_isOnAt_29
    · refine lv_lconst (v := 1) hx hb dL_isOnAt_11 (by decide) ?_
      refine lv_goto (tgt := 16) hx hb dL_isOnAt_12 (by decide) ?_
      refine n_lastK hx hb hK hO2 hS (Or.inr rfl) 3 rfl dL_isOnAt_16 (fun H5 locs hO5 hz5 hk5 hS => ?_)
      have hPX5 := PX_keep (A := fun q => q = z) (H := H5) hPn (fun i hi h => hz ⟨i, hi, h.symm⟩) (fun q _ h => hk5 q h)
      have hend : LEnd D cI cL cJ ad z n now told v (cd2 (lpOk n k) (inB (nI 0) (nI 60000) x)) (bJ (onB (v (ixx k)) (ixx x))) H5 := by
        rw [hok]
        exact ⟨hPX5, _, hO5, fun _ => (by rw [c_8]; rfl)⟩
      refine lv_goto (tgt := 28) hx hb dL_isOnAt_17 (by decide) ?_
      refine lv_iconst (v := nI 0) hx hb dL_isOnAt_28 (by decide) ?_
      refine n_ti (y := nI (cd2 (lpOk n k) (inB (nI 0) (nI 60000) x))) (by rw [hok]) ?_
      exact W.iret (v := nI (cd2 (lpOk n k) (inB (nI 0) (nI 60000) x))) hx hb hr (fun t ht hW => ⟨trivial, rfl, by rw [ht]; exact hend, hS.F ht⟩) hS.2.2 dL_isOnAt_29
set_option maxHeartbeats 4000000 in
set_option maxRecDepth 100000 in
/-- the law: strikesAt -/
theorem c_L_strikesAt (l : Launch) (D : va_G) (cI cZ cL cJ : ClassId) (hst : l.stackTraces = false) (ad : Nat → Nat) (n now : Nat) (told : Int32) (v : Nat → LV) (hwf : WFX n now v) (hinj : Inj 29 ad) (z : Nat) (f : Nat → Int64) (hz : ¬ AX ad z) (k x : Int32) : Met l yL_strikesAt wsL_strikesAt ({ frames := 8, cells := 2, slots := 12, locals := 125 } : Room) (PC D (TY cI cZ cL cJ) (AL ad z) [.ref (ad 0), .int k, .int x, .ref z] (fun H => PX D cI cL ad n now told v H ∧ va_P D vwCl (outW cJ z f) H)) (QW (AL ad z) True (nI (cd2 (lpOk n k) (inB (nI 0) (nI 60000) x))) (LEnd D cI cL cJ ad z n now told v (cd2 (lpOk n k) (inB (nI 0) (nI 60000) x)) ((nI (strk (v (ixx k)) (ixx x) (lbc (v (ixx k))))).toInt64))) 2 12 (AL ad z) := by
  refine MetWH (cc := cL_strikesAt) (maxL := 5) (ret := (some .int)) (hh := [(0, 10, 13, 19), (0, 10, 17, 21)]) (by decide) rfl ?_
  intro p e s m args below meth c s₁ B hml htab hv
  obtain ⟨rfl, hK, hEL, hPX, hOut⟩ := hv
  have hEA : EN (AX ad) s s.heap := hEL.narrow (fun _ h => Or.inl h)
  have hE : EN noA s s.heap := hEA.narrow (fun _ h => h.elim)
  have hx := B.exec
  have hb := B.bytes
  have hr := B.returns
  have hts := atoms_spec (ws := wsL_strikesAt) B.pre
  have hown : s.vm.findClass RL = some m.cls := findClass_of_methodNamed B.named
  have hlocks := B.notSynchronized
  have hlt := (vpa hOut 0 rfl).lt
  have hl := lv_entry ([.ref (ad 0), .int k, .int x, .ref z]) (n := 5) (Nat.le_of_ble_eq_true rfl)
  rw [lg_entry_eq]
  generalize (lg_sl ([.ref (ad 0), .int k, .int x, .ref z]) ++ List.replicate (5 - (lg_sl ([.ref (ad 0), .int k, .int x, .ref z])).length) Slot.unset).toArray = ls at hl ⊢
  have hl : lv_has ls 5 [(0, .ref (ad 0)), (1, .int k), (2, .int x), (3, .ref z)] := hl
  refine lv_aload_n hx hb dL_strikesAt_0 rfl (lv_at hl 3 rfl) ?_
  refine lv_iconst (v := nI 0) hx hb dL_strikesAt_1 (by decide) ?_
  refine lv_aload_n hx hb dL_strikesAt_2 rfl (lv_at hl 0 rfl) ?_
  refine lv_iload_n hx hb dL_strikesAt_3 rfl (lv_at hl 1 rfl) ?_
  refine lv_iload_n hx hb dL_strikesAt_4 rfl (lv_at hl 2 rfl) ?_
  refine lxR (As := [.int k, .int x]) (rest := [.int (nI 0), .ref z]) ⟨hx, hb, hml, hown, hts⟩ (c_X1_strikesAt l D cI cZ cL cJ hst ad n now told v hwf k x) (cwV 2 hts gL_strikesAt_X1_strikesAt rfl rfl rfl (by decide +kernel) ⟨(Nat.le_of_ble_eq_true rfl), (Nat.le_of_ble_eq_true rfl)⟩) hK hE hPX (RC_of (q := (RX1, TX1, 5)) (ci := 1) hK rfl (vpa hPX.1 0 rfl)) rfl hl.1 rfl (Nat.le_of_ble_eq_true rfl) dL_strikesAt_5 ⟨(Nat.le_of_ble_eq_true rfl), (Nat.le_of_ble_eq_true rfl)⟩ (fun E ce q9 H hp hz1 hk hce hcv hcl => ?_) (fun hok => ?_)
  · have hS : va_S (AL ad z) s.heap H [] := va_S_old hz1 hk
    rcases exC2 hp with ⟨hcd, rfl⟩ | ⟨hcd, rfl⟩
    · refine vx_catch (name := "java/lang/IndexOutOfBoundsException") hown [] ⟨0, 10, 13, 19⟩ [⟨0, 10, 17, 21⟩] (by rw [htab]; rfl) (fun y hy => by cases hy) rfl (by decide) (hts (.classLink RL 19 "java/lang/IndexOutOfBoundsException") (List.mem_of_getElem? (i := 1) rfl)) (va_Nw.use rfl (hE.2.2.1.2.2 _ (by decide))) hce hcv hcl ?_
      show W _ _ _ _ _ _ _ _ _ _ _ _ _ _ _ (F0 m 13 ls [.ref q9])
      have hend : LEnd D cI cL cJ ad z n now told v (cd2 (lpOk n k) (inB (nI 0) (nI 60000) x)) ((nI (strk (v (ixx k)) (ixx x) (lbc (v (ixx k))))).toInt64) H := by
        rw [hcd]
        exact ⟨PX_keep (A := fun _ => False) hPX (fun _ _ h => h) (fun q h _ => hk q h), f, outK (A := fun _ => False) hOut (fun h => h) (fun q h _ => hk q h), fun h => absurd h (by decide)⟩
      refine lv_astore (lv' := [(4, .ref q9), (0, .ref (ad 0)), (1, .int k), (2, .int x), (3, .ref z)]) hx hb dL_strikesAt_13 hl (by decide) rfl (fun ls hl => ?_)
      refine lv_iconst (v := nI 1) hx hb dL_strikesAt_15 (by decide) ?_
      refine n_ti (y := nI (cd2 (lpOk n k) (inB (nI 0) (nI 60000) x))) (by rw [hcd]) ?_
      exact W.iret (v := nI (cd2 (lpOk n k) (inB (nI 0) (nI 60000) x))) hx hb hr (fun t ht hW => ⟨trivial, rfl, by rw [ht]; exact hend, hS.F ht⟩) hS.2.2 dL_strikesAt_16
    · refine vx_catch (name := "java/lang/IllegalArgumentException") hown [⟨0, 10, 13, 19⟩] ⟨0, 10, 17, 21⟩ [] (by rw [htab]; rfl) (fun y hy => by
          rcases List.mem_cons.mp hy with rfl | hy
          · exact Or.inr ⟨by decide, "java/lang/IndexOutOfBoundsException", (hts (.classLink RL 19 "java/lang/IndexOutOfBoundsException") (List.mem_of_getElem? (i := 1) rfl)), hE.2.2.1.1.2 (tIAE, "java/lang/IndexOutOfBoundsException") (by decide)⟩
          cases hy) rfl (by decide) (hts (.classLink RL 21 "java/lang/IllegalArgumentException") (List.mem_of_getElem? (i := 2) rfl)) (va_Nw.use rfl (hE.2.2.1.2.2 _ (by decide))) hce hcv hcl ?_
      show W _ _ _ _ _ _ _ _ _ _ _ _ _ _ _ (F0 m 17 ls [.ref q9])
      have hend : LEnd D cI cL cJ ad z n now told v (cd2 (lpOk n k) (inB (nI 0) (nI 60000) x)) ((nI (strk (v (ixx k)) (ixx x) (lbc (v (ixx k))))).toInt64) H := by
        rw [hcd]
        exact ⟨PX_keep (A := fun _ => False) hPX (fun _ _ h => h) (fun q h _ => hk q h), f, outK (A := fun _ => False) hOut (fun h => h) (fun q h _ => hk q h), fun h => absurd h (by decide)⟩
      refine lv_astore (lv' := [(4, .ref q9), (0, .ref (ad 0)), (1, .int k), (2, .int x), (3, .ref z)]) hx hb dL_strikesAt_17 hl (by decide) rfl (fun ls hl => ?_)
      refine lv_iconst (v := nI 2) hx hb dL_strikesAt_19 (by decide) ?_
      refine n_ti (y := nI (cd2 (lpOk n k) (inB (nI 0) (nI 60000) x))) (by rw [hcd]) ?_
      exact W.iret (v := nI (cd2 (lpOk n k) (inB (nI 0) (nI 60000) x))) hx hb hr (fun t ht hW => ⟨trivial, rfl, by rw [ht]; exact hend, hS.F ht⟩) hS.2.2 dL_strikesAt_20
  · have hS : va_S (AL ad z) s.heap s.heap [] := va_S.rf
    have hPn := hPX
    have hO2 := hOut
    refine lv_i2l (v := (nI (strk (v (ixx k)) (ixx x) (lbc (v (ixx k))))).toInt64) hx hb dL_strikesAt_8 rfl ?_
    refine n_lastK hx hb hK hO2 hS (Or.inr rfl) 3 rfl dL_strikesAt_9 (fun H5 locs hO5 hz5 hk5 hS => ?_)
    have hPX5 := PX_keep (A := fun q => q = z) (H := H5) hPn (fun i hi h => hz ⟨i, hi, h.symm⟩) (fun q _ h => hk5 q h)
    have hend : LEnd D cI cL cJ ad z n now told v (cd2 (lpOk n k) (inB (nI 0) (nI 60000) x)) ((nI (strk (v (ixx k)) (ixx x) (lbc (v (ixx k))))).toInt64) H5 := by
      rw [hok]
      exact ⟨hPX5, _, hO5, fun _ => rfl⟩
    refine lv_goto (tgt := 21) hx hb dL_strikesAt_10 (by decide) ?_
    refine lv_iconst (v := nI 0) hx hb dL_strikesAt_21 (by decide) ?_
    refine n_ti (y := nI (cd2 (lpOk n k) (inB (nI 0) (nI 60000) x))) (by rw [hok]) ?_
    exact W.iret (v := nI (cd2 (lpOk n k) (inB (nI 0) (nI 60000) x))) hx hb hr (fun t ht hW => ⟨trivial, rfl, by rw [ht]; exact hend, hS.F ht⟩) hS.2.2 dL_strikesAt_22
set_option maxHeartbeats 4000000 in
set_option maxRecDepth 100000 in
/-- the law: isSteady -/
theorem c_L_isSteady (l : Launch) (D : va_G) (cI cZ cL cJ : ClassId) (hst : l.stackTraces = false) (ad : Nat → Nat) (n now : Nat) (told : Int32) (v : Nat → LV) (hwf : WFX n now v) (hinj : Inj 29 ad) (z : Nat) (f : Nat → Int64) (hz : ¬ AX ad z) (k : Int32) : Met l yL_isSteady wsL_isSteady ({ frames := 8, cells := 1, slots := 6, locals := 124 } : Room) (PC D (TY cI cZ cL cJ) (AL ad z) [.ref (ad 0), .int k, .ref z] (fun H => PX D cI cL ad n now told v H ∧ va_P D vwCl (outW cJ z f) H)) (QW (AL ad z) True (nI (cd1 (lpOk n k))) (LEnd D cI cL cJ ad z n now told v (cd1 (lpOk n k)) (bJ (decide (cyc (v (ixx k)) = 1))))) 1 6 (AL ad z) := by
  refine MetWH (cc := cL_isSteady) (maxL := 4) (ret := (some .int)) (hh := [(0, 16, 19, 19)]) (by decide) rfl ?_
  intro p e s m args below meth c s₁ B hml htab hv
  obtain ⟨rfl, hK, hEL, hPX, hOut⟩ := hv
  have hEA : EN (AX ad) s s.heap := hEL.narrow (fun _ h => Or.inl h)
  have hE : EN noA s s.heap := hEA.narrow (fun _ h => h.elim)
  have hx := B.exec
  have hb := B.bytes
  have hr := B.returns
  have hts := atoms_spec (ws := wsL_isSteady) B.pre
  have hown : s.vm.findClass RL = some m.cls := findClass_of_methodNamed B.named
  have hlocks := B.notSynchronized
  have hlt := (vpa hOut 0 rfl).lt
  have hl := lv_entry ([.ref (ad 0), .int k, .ref z]) (n := 4) (Nat.le_of_ble_eq_true rfl)
  rw [lg_entry_eq]
  generalize (lg_sl ([.ref (ad 0), .int k, .ref z]) ++ List.replicate (4 - (lg_sl ([.ref (ad 0), .int k, .ref z])).length) Slot.unset).toArray = ls at hl ⊢
  have hl : lv_has ls 4 [(0, .ref (ad 0)), (1, .int k), (2, .ref z)] := hl
  refine lv_aload_n hx hb dL_isSteady_0 rfl (lv_at hl 2 rfl) ?_
  refine lv_iconst (v := nI 0) hx hb dL_isSteady_1 (by decide) ?_
  refine lv_aload_n hx hb dL_isSteady_2 rfl (lv_at hl 0 rfl) ?_
  refine lv_iload_n hx hb dL_isSteady_3 rfl (lv_at hl 1 rfl) ?_
  refine lxR (As := [.int k]) (rest := [.int (nI 0), .ref z]) ⟨hx, hb, hml, hown, hts⟩ (c_X1_isSteady l D cI cZ cL cJ hst ad n now told v hwf k) (cwV 1 hts gL_isSteady_X1_isSteady rfl rfl rfl (by decide +kernel) ⟨(Nat.le_of_ble_eq_true rfl), (Nat.le_of_ble_eq_true rfl)⟩) hK hE hPX (RC_of (q := (RX1, TX1, 5)) (ci := 1) hK rfl (vpa hPX.1 0 rfl)) rfl hl.1 rfl (Nat.le_of_ble_eq_true rfl) dL_isSteady_4 ⟨(Nat.le_of_ble_eq_true rfl), (Nat.le_of_ble_eq_true rfl)⟩ (fun E ce q9 H hp hz1 hk hce hcv hcl => ?_) (fun hok => ?_)
  · have hS : va_S (AL ad z) s.heap H [] := va_S_old hz1 hk
    obtain ⟨hcd, rfl⟩ := exC1 hp
    refine vx_catch (name := "java/lang/IndexOutOfBoundsException") hown [] ⟨0, 16, 19, 19⟩ [] (by rw [htab]; rfl) (fun y hy => by cases hy) rfl (by decide) (hts (.classLink RL 19 "java/lang/IndexOutOfBoundsException") (List.mem_of_getElem? (i := 1) rfl)) (va_Nw.use rfl (hE.2.2.1.2.2 _ (by decide))) hce hcv hcl ?_
    show W _ _ _ _ _ _ _ _ _ _ _ _ _ _ _ (F0 m 19 ls [.ref q9])
    have hend : LEnd D cI cL cJ ad z n now told v (cd1 (lpOk n k)) (bJ (decide (cyc (v (ixx k)) = 1))) H := by
      rw [hcd]
      exact ⟨PX_keep (A := fun _ => False) hPX (fun _ _ h => h) (fun q h _ => hk q h), f, outK (A := fun _ => False) hOut (fun h => h) (fun q h _ => hk q h), fun h => absurd h (by decide)⟩
    refine lv_astore_n (lv' := [(3, .ref q9), (0, .ref (ad 0)), (1, .int k), (2, .ref z)]) hx hb dL_isSteady_19 rfl hl (by decide) rfl (fun ls hl => ?_)
    refine lv_iconst (v := nI 1) hx hb dL_isSteady_20 (by decide) ?_
    refine n_ti (y := nI (cd1 (lpOk n k))) (by rw [hcd]) ?_
    exact W.iret (v := nI (cd1 (lpOk n k))) hx hb hr (fun t ht hW => ⟨trivial, rfl, by rw [ht]; exact hend, hS.F ht⟩) hS.2.2 dL_isSteady_21
  · have hS : va_S (AL ad z) s.heap s.heap [] := va_S.rf
    have hPn := hPX
    have hO2 := hOut
    refine b_if_eq (b := (decide (cyc (v (ixx k)) = 1))) (tgt := 14) hx hb dL_isSteady_7 (by decide) (fun c_7 => ?_) (fun c_7 => ?_)
    · refine lv_lconst (v := 0) hx hb dL_isSteady_14 (by decide) ?_
      refine n_lastK hx hb hK hO2 hS (Or.inr rfl) 3 rfl dL_isSteady_15 (fun H5 locs hO5 hz5 hk5 hS => ?_)
      have hPX5 := PX_keep (A := fun q => q = z) (H := H5) hPn (fun i hi h => hz ⟨i, hi, h.symm⟩) (fun q _ h => hk5 q h)
      have hend : LEnd D cI cL cJ ad z n now told v (cd1 (lpOk n k)) (bJ (decide (cyc (v (ixx k)) = 1))) H5 := by
        rw [hok]
        exact ⟨hPX5, _, hO5, fun _ => (by rw [c_7]; rfl)⟩
      refine lv_goto (tgt := 22) hx hb dL_isSteady_16 (by decide) ?_
      refine lv_iconst (v := nI 0) hx hb dL_isSteady_22 (by decide) ?_
      refine n_ti (y := nI (cd1 (lpOk n k))) (by rw [hok]) ?_
      exact W.iret (v := nI (cd1 (lpOk n k))) hx hb hr (fun t ht hW => ⟨trivial, rfl, by rw [ht]; exact hend, hS.F ht⟩) hS.2.2 dL_isSteady_23
    · refine lv_lconst (v := 1) hx hb dL_isSteady_10 (by decide) ?_
      refine lv_goto (tgt := 15) hx hb dL_isSteady_11 (by decide) ?_
      refine n_lastK hx hb hK hO2 hS (Or.inr rfl) 3 rfl dL_isSteady_15 (fun H5 locs hO5 hz5 hk5 hS => ?_)
      have hPX5 := PX_keep (A := fun q => q = z) (H := H5) hPn (fun i hi h => hz ⟨i, hi, h.symm⟩) (fun q _ h => hk5 q h)
      have hend : LEnd D cI cL cJ ad z n now told v (cd1 (lpOk n k)) (bJ (decide (cyc (v (ixx k)) = 1))) H5 := by
        rw [hok]
        exact ⟨hPX5, _, hO5, fun _ => (by rw [c_7]; rfl)⟩
      refine lv_goto (tgt := 22) hx hb dL_isSteady_16 (by decide) ?_
      refine lv_iconst (v := nI 0) hx hb dL_isSteady_22 (by decide) ?_
      refine n_ti (y := nI (cd1 (lpOk n k))) (by rw [hok]) ?_
      exact W.iret (v := nI (cd1 (lpOk n k))) hx hb hr (fun t ht hW => ⟨trivial, rfl, by rw [ht]; exact hend, hS.F ht⟩) hS.2.2 dL_isSteady_23
set_option maxHeartbeats 4000000 in
set_option maxRecDepth 100000 in
/-- the law: cycleOf -/
theorem c_L_cycleOf (l : Launch) (D : va_G) (cI cZ cL cJ : ClassId) (hst : l.stackTraces = false) (ad : Nat → Nat) (n now : Nat) (told : Int32) (v : Nat → LV) (hwf : WFX n now v) (hinj : Inj 29 ad) (z : Nat) (f : Nat → Int64) (hz : ¬ AX ad z) (k : Int32) : Met l yL_cycleOf wsL_cycleOf ({ frames := 8, cells := 1, slots := 6, locals := 124 } : Room) (PC D (TY cI cZ cL cJ) (AL ad z) [.ref (ad 0), .int k, .ref z] (fun H => PX D cI cL ad n now told v H ∧ va_P D vwCl (outW cJ z f) H)) (QW (AL ad z) True (nI (cd1 (lpOk n k))) (LEnd D cI cL cJ ad z n now told v (cd1 (lpOk n k)) ((nI (cyc (v (ixx k)))).toInt64))) 1 6 (AL ad z) := by
  refine MetWH (cc := cL_cycleOf) (maxL := 4) (ret := (some .int)) (hh := [(0, 9, 12, 19)]) (by decide) rfl ?_
  intro p e s m args below meth c s₁ B hml htab hv
  obtain ⟨rfl, hK, hEL, hPX, hOut⟩ := hv
  have hEA : EN (AX ad) s s.heap := hEL.narrow (fun _ h => Or.inl h)
  have hE : EN noA s s.heap := hEA.narrow (fun _ h => h.elim)
  have hx := B.exec
  have hb := B.bytes
  have hr := B.returns
  have hts := atoms_spec (ws := wsL_cycleOf) B.pre
  have hown : s.vm.findClass RL = some m.cls := findClass_of_methodNamed B.named
  have hlocks := B.notSynchronized
  have hlt := (vpa hOut 0 rfl).lt
  have hl := lv_entry ([.ref (ad 0), .int k, .ref z]) (n := 4) (Nat.le_of_ble_eq_true rfl)
  rw [lg_entry_eq]
  generalize (lg_sl ([.ref (ad 0), .int k, .ref z]) ++ List.replicate (4 - (lg_sl ([.ref (ad 0), .int k, .ref z])).length) Slot.unset).toArray = ls at hl ⊢
  have hl : lv_has ls 4 [(0, .ref (ad 0)), (1, .int k), (2, .ref z)] := hl
  refine lv_aload_n hx hb dL_cycleOf_0 rfl (lv_at hl 2 rfl) ?_
  refine lv_iconst (v := nI 0) hx hb dL_cycleOf_1 (by decide) ?_
  refine lv_aload_n hx hb dL_cycleOf_2 rfl (lv_at hl 0 rfl) ?_
  refine lv_iload_n hx hb dL_cycleOf_3 rfl (lv_at hl 1 rfl) ?_
  refine lxR (As := [.int k]) (rest := [.int (nI 0), .ref z]) ⟨hx, hb, hml, hown, hts⟩ (c_X1_cycleOf l D cI cZ cL cJ hst ad n now told v hwf k) (cwV 1 hts gL_cycleOf_X1_cycleOf rfl rfl rfl (by decide +kernel) ⟨(Nat.le_of_ble_eq_true rfl), (Nat.le_of_ble_eq_true rfl)⟩) hK hE hPX (RC_of (q := (RX1, TX1, 5)) (ci := 1) hK rfl (vpa hPX.1 0 rfl)) rfl hl.1 rfl (Nat.le_of_ble_eq_true rfl) dL_cycleOf_4 ⟨(Nat.le_of_ble_eq_true rfl), (Nat.le_of_ble_eq_true rfl)⟩ (fun E ce q9 H hp hz1 hk hce hcv hcl => ?_) (fun hok => ?_)
  · have hS : va_S (AL ad z) s.heap H [] := va_S_old hz1 hk
    obtain ⟨hcd, rfl⟩ := exC1 hp
    refine vx_catch (name := "java/lang/IndexOutOfBoundsException") hown [] ⟨0, 9, 12, 19⟩ [] (by rw [htab]; rfl) (fun y hy => by cases hy) rfl (by decide) (hts (.classLink RL 19 "java/lang/IndexOutOfBoundsException") (List.mem_of_getElem? (i := 1) rfl)) (va_Nw.use rfl (hE.2.2.1.2.2 _ (by decide))) hce hcv hcl ?_
    show W _ _ _ _ _ _ _ _ _ _ _ _ _ _ _ (F0 m 12 ls [.ref q9])
    have hend : LEnd D cI cL cJ ad z n now told v (cd1 (lpOk n k)) ((nI (cyc (v (ixx k)))).toInt64) H := by
      rw [hcd]
      exact ⟨PX_keep (A := fun _ => False) hPX (fun _ _ h => h) (fun q h _ => hk q h), f, outK (A := fun _ => False) hOut (fun h => h) (fun q h _ => hk q h), fun h => absurd h (by decide)⟩
    refine lv_astore_n (lv' := [(3, .ref q9), (0, .ref (ad 0)), (1, .int k), (2, .ref z)]) hx hb dL_cycleOf_12 rfl hl (by decide) rfl (fun ls hl => ?_)
    refine lv_iconst (v := nI 1) hx hb dL_cycleOf_13 (by decide) ?_
    refine n_ti (y := nI (cd1 (lpOk n k))) (by rw [hcd]) ?_
    exact W.iret (v := nI (cd1 (lpOk n k))) hx hb hr (fun t ht hW => ⟨trivial, rfl, by rw [ht]; exact hend, hS.F ht⟩) hS.2.2 dL_cycleOf_14
  · have hS : va_S (AL ad z) s.heap s.heap [] := va_S.rf
    have hPn := hPX
    have hO2 := hOut
    refine lv_i2l (v := (nI (cyc (v (ixx k)))).toInt64) hx hb dL_cycleOf_7 rfl ?_
    refine n_lastK hx hb hK hO2 hS (Or.inr rfl) 3 rfl dL_cycleOf_8 (fun H5 locs hO5 hz5 hk5 hS => ?_)
    have hPX5 := PX_keep (A := fun q => q = z) (H := H5) hPn (fun i hi h => hz ⟨i, hi, h.symm⟩) (fun q _ h => hk5 q h)
    have hend : LEnd D cI cL cJ ad z n now told v (cd1 (lpOk n k)) ((nI (cyc (v (ixx k)))).toInt64) H5 := by
      rw [hok]
      exact ⟨hPX5, _, hO5, fun _ => rfl⟩
    refine lv_goto (tgt := 15) hx hb dL_cycleOf_9 (by decide) ?_
    refine lv_iconst (v := nI 0) hx hb dL_cycleOf_15 (by decide) ?_
    refine n_ti (y := nI (cd1 (lpOk n k))) (by rw [hok]) ?_
    exact W.iret (v := nI (cd1 (lpOk n k))) hx hb hr (fun t ht hW => ⟨trivial, rfl, by rw [ht]; exact hend, hS.F ht⟩) hS.2.2 dL_cycleOf_16
set_option maxHeartbeats 4000000 in
set_option maxRecDepth 100000 in
/-- the law: momentsUntilChange -/
theorem c_L_momentsUntilChange (l : Launch) (D : va_G) (cI cZ cL cJ : ClassId) (hst : l.stackTraces = false) (ad : Nat → Nat) (n now : Nat) (told : Int32) (v : Nat → LV) (hwf : WFX n now v) (hinj : Inj 29 ad) (z : Nat) (f : Nat → Int64) (hz : ¬ AX ad z) (k : Int32) : Met l yL_momentsUntilChange wsL_momentsUntilChange ({ frames := 8, cells := 1, slots := 6, locals := 124 } : Room) (PC D (TY cI cZ cL cJ) (AL ad z) [.ref (ad 0), .int k, .ref z] (fun H => PX D cI cL ad n now told v H ∧ va_P D vwCl (outW cJ z f) H)) (QW (AL ad z) True (nI (cd1 (lpOk n k))) (LEnd D cI cL cJ ad z n now told v (cd1 (lpOk n k)) ((untC (v (ixx k)) now).toInt64))) 1 6 (AL ad z) := by
  refine MetWH (cc := cL_momentsUntilChange) (maxL := 4) (ret := (some .int)) (hh := [(0, 9, 12, 19)]) (by decide) rfl ?_
  intro p e s m args below meth c s₁ B hml htab hv
  obtain ⟨rfl, hK, hEL, hPX, hOut⟩ := hv
  have hEA : EN (AX ad) s s.heap := hEL.narrow (fun _ h => Or.inl h)
  have hE : EN noA s s.heap := hEA.narrow (fun _ h => h.elim)
  have hx := B.exec
  have hb := B.bytes
  have hr := B.returns
  have hts := atoms_spec (ws := wsL_momentsUntilChange) B.pre
  have hown : s.vm.findClass RL = some m.cls := findClass_of_methodNamed B.named
  have hlocks := B.notSynchronized
  have hlt := (vpa hOut 0 rfl).lt
  have hl := lv_entry ([.ref (ad 0), .int k, .ref z]) (n := 4) (Nat.le_of_ble_eq_true rfl)
  rw [lg_entry_eq]
  generalize (lg_sl ([.ref (ad 0), .int k, .ref z]) ++ List.replicate (4 - (lg_sl ([.ref (ad 0), .int k, .ref z])).length) Slot.unset).toArray = ls at hl ⊢
  have hl : lv_has ls 4 [(0, .ref (ad 0)), (1, .int k), (2, .ref z)] := hl
  refine lv_aload_n hx hb dL_momentsUntilChange_0 rfl (lv_at hl 2 rfl) ?_
  refine lv_iconst (v := nI 0) hx hb dL_momentsUntilChange_1 (by decide) ?_
  refine lv_aload_n hx hb dL_momentsUntilChange_2 rfl (lv_at hl 0 rfl) ?_
  refine lv_iload_n hx hb dL_momentsUntilChange_3 rfl (lv_at hl 1 rfl) ?_
  refine lxR (As := [.int k]) (rest := [.int (nI 0), .ref z]) ⟨hx, hb, hml, hown, hts⟩ (c_X1_momentsUntilChange l D cI cZ cL cJ hst ad n now told v hwf k) (cwV 1 hts gL_momentsUntilChange_X1_momentsUntilChange rfl rfl rfl (by decide +kernel) ⟨(Nat.le_of_ble_eq_true rfl), (Nat.le_of_ble_eq_true rfl)⟩) hK hE hPX (RC_of (q := (RX1, TX1, 5)) (ci := 1) hK rfl (vpa hPX.1 0 rfl)) rfl hl.1 rfl (Nat.le_of_ble_eq_true rfl) dL_momentsUntilChange_4 ⟨(Nat.le_of_ble_eq_true rfl), (Nat.le_of_ble_eq_true rfl)⟩ (fun E ce q9 H hp hz1 hk hce hcv hcl => ?_) (fun hok => ?_)
  · have hS : va_S (AL ad z) s.heap H [] := va_S_old hz1 hk
    obtain ⟨hcd, rfl⟩ := exC1 hp
    refine vx_catch (name := "java/lang/IndexOutOfBoundsException") hown [] ⟨0, 9, 12, 19⟩ [] (by rw [htab]; rfl) (fun y hy => by cases hy) rfl (by decide) (hts (.classLink RL 19 "java/lang/IndexOutOfBoundsException") (List.mem_of_getElem? (i := 1) rfl)) (va_Nw.use rfl (hE.2.2.1.2.2 _ (by decide))) hce hcv hcl ?_
    show W _ _ _ _ _ _ _ _ _ _ _ _ _ _ _ (F0 m 12 ls [.ref q9])
    have hend : LEnd D cI cL cJ ad z n now told v (cd1 (lpOk n k)) ((untC (v (ixx k)) now).toInt64) H := by
      rw [hcd]
      exact ⟨PX_keep (A := fun _ => False) hPX (fun _ _ h => h) (fun q h _ => hk q h), f, outK (A := fun _ => False) hOut (fun h => h) (fun q h _ => hk q h), fun h => absurd h (by decide)⟩
    refine lv_astore_n (lv' := [(3, .ref q9), (0, .ref (ad 0)), (1, .int k), (2, .ref z)]) hx hb dL_momentsUntilChange_12 rfl hl (by decide) rfl (fun ls hl => ?_)
    refine lv_iconst (v := nI 1) hx hb dL_momentsUntilChange_13 (by decide) ?_
    refine n_ti (y := nI (cd1 (lpOk n k))) (by rw [hcd]) ?_
    exact W.iret (v := nI (cd1 (lpOk n k))) hx hb hr (fun t ht hW => ⟨trivial, rfl, by rw [ht]; exact hend, hS.F ht⟩) hS.2.2 dL_momentsUntilChange_14
  · have hS : va_S (AL ad z) s.heap s.heap [] := va_S.rf
    have hPn := hPX
    have hO2 := hOut
    refine lv_i2l (v := (untC (v (ixx k)) now).toInt64) hx hb dL_momentsUntilChange_7 rfl ?_
    refine n_lastK hx hb hK hO2 hS (Or.inr rfl) 3 rfl dL_momentsUntilChange_8 (fun H5 locs hO5 hz5 hk5 hS => ?_)
    have hPX5 := PX_keep (A := fun q => q = z) (H := H5) hPn (fun i hi h => hz ⟨i, hi, h.symm⟩) (fun q _ h => hk5 q h)
    have hend : LEnd D cI cL cJ ad z n now told v (cd1 (lpOk n k)) ((untC (v (ixx k)) now).toInt64) H5 := by
      rw [hok]
      exact ⟨hPX5, _, hO5, fun _ => rfl⟩
    refine lv_goto (tgt := 15) hx hb dL_momentsUntilChange_9 (by decide) ?_
    refine lv_iconst (v := nI 0) hx hb dL_momentsUntilChange_15 (by decide) ?_
    refine n_ti (y := nI (cd1 (lpOk n k))) (by rw [hok]) ?_
    exact W.iret (v := nI (cd1 (lpOk n k))) hx hb hr (fun t ht hW => ⟨trivial, rfl, by rw [ht]; exact hend, hS.F ht⟩) hS.2.2 dL_momentsUntilChange_16
set_option maxHeartbeats 4000000 in
set_option maxRecDepth 100000 in
/-- the law: shows -/
theorem c_L_shows (l : Launch) (D : va_G) (cI cZ cL cJ : ClassId) (hst : l.stackTraces = false) (ad : Nat → Nat) (n now : Nat) (told : Int32) (v : Nat → LV) (hwf : WFX n now v) (hinj : Inj 29 ad) (z : Nat) (f : Nat → Int64) (hz : ¬ AX ad z) (k x : Int32) : Met l yL_shows wsL_shows ({ frames := 8, cells := 2, slots := 12, locals := 127 } : Room) (PC D (TY cI cZ cL cJ) (AL ad z) [.ref (ad 0), .int k, .int x, .ref z] (fun H => PX D cI cL ad n now told v H ∧ va_P D vwCl (outW cJ z f) H)) (QW (AL ad z) True (nI (cd2 (lpOk n k) (inB (nI 1) (nI 30) x))) (LEnd D cI cL cJ ad z n now told v (cd2 (lpOk n k) (inB (nI 1) (nI 30) x)) ((nI (shwN (v (ixx k)) now (ixx x))).toInt64))) 2 12 (AL ad z) := by
  refine MetWH (cc := cL_shows) (maxL := 5) (ret := (some .int)) (hh := [(0, 10, 13, 19), (0, 10, 17, 21)]) (by decide) rfl ?_
  intro p e s m args below meth c s₁ B hml htab hv
  obtain ⟨rfl, hK, hEL, hPX, hOut⟩ := hv
  have hEA : EN (AX ad) s s.heap := hEL.narrow (fun _ h => Or.inl h)
  have hE : EN noA s s.heap := hEA.narrow (fun _ h => h.elim)
  have hx := B.exec
  have hb := B.bytes
  have hr := B.returns
  have hts := atoms_spec (ws := wsL_shows) B.pre
  have hown : s.vm.findClass RL = some m.cls := findClass_of_methodNamed B.named
  have hlocks := B.notSynchronized
  have hlt := (vpa hOut 0 rfl).lt
  have hl := lv_entry ([.ref (ad 0), .int k, .int x, .ref z]) (n := 5) (Nat.le_of_ble_eq_true rfl)
  rw [lg_entry_eq]
  generalize (lg_sl ([.ref (ad 0), .int k, .int x, .ref z]) ++ List.replicate (5 - (lg_sl ([.ref (ad 0), .int k, .int x, .ref z])).length) Slot.unset).toArray = ls at hl ⊢
  have hl : lv_has ls 5 [(0, .ref (ad 0)), (1, .int k), (2, .int x), (3, .ref z)] := hl
  refine lv_aload_n hx hb dL_shows_0 rfl (lv_at hl 3 rfl) ?_
  refine lv_iconst (v := nI 0) hx hb dL_shows_1 (by decide) ?_
  refine lv_aload_n hx hb dL_shows_2 rfl (lv_at hl 0 rfl) ?_
  refine lv_iload_n hx hb dL_shows_3 rfl (lv_at hl 1 rfl) ?_
  refine lv_iload_n hx hb dL_shows_4 rfl (lv_at hl 2 rfl) ?_
  refine lxR (As := [.int k, .int x]) (rest := [.int (nI 0), .ref z]) ⟨hx, hb, hml, hown, hts⟩ (c_X1_shows l D cI cZ cL cJ hst ad n now told v hwf k x) (cwV 2 hts gL_shows_X1_shows rfl rfl rfl (by decide +kernel) ⟨(Nat.le_of_ble_eq_true rfl), (Nat.le_of_ble_eq_true rfl)⟩) hK hE hPX (RC_of (q := (RX1, TX1, 5)) (ci := 1) hK rfl (vpa hPX.1 0 rfl)) rfl hl.1 rfl (Nat.le_of_ble_eq_true rfl) dL_shows_5 ⟨(Nat.le_of_ble_eq_true rfl), (Nat.le_of_ble_eq_true rfl)⟩ (fun E ce q9 H hp hz1 hk hce hcv hcl => ?_) (fun hok => ?_)
  · have hS : va_S (AL ad z) s.heap H [] := va_S_old hz1 hk
    rcases exC2 hp with ⟨hcd, rfl⟩ | ⟨hcd, rfl⟩
    · refine vx_catch (name := "java/lang/IndexOutOfBoundsException") hown [] ⟨0, 10, 13, 19⟩ [⟨0, 10, 17, 21⟩] (by rw [htab]; rfl) (fun y hy => by cases hy) rfl (by decide) (hts (.classLink RL 19 "java/lang/IndexOutOfBoundsException") (List.mem_of_getElem? (i := 1) rfl)) (va_Nw.use rfl (hE.2.2.1.2.2 _ (by decide))) hce hcv hcl ?_
      show W _ _ _ _ _ _ _ _ _ _ _ _ _ _ _ (F0 m 13 ls [.ref q9])
      have hend : LEnd D cI cL cJ ad z n now told v (cd2 (lpOk n k) (inB (nI 1) (nI 30) x)) ((nI (shwN (v (ixx k)) now (ixx x))).toInt64) H := by
        rw [hcd]
        exact ⟨PX_keep (A := fun _ => False) hPX (fun _ _ h => h) (fun q h _ => hk q h), f, outK (A := fun _ => False) hOut (fun h => h) (fun q h _ => hk q h), fun h => absurd h (by decide)⟩
      refine lv_astore (lv' := [(4, .ref q9), (0, .ref (ad 0)), (1, .int k), (2, .int x), (3, .ref z)]) hx hb dL_shows_13 hl (by decide) rfl (fun ls hl => ?_)
      refine lv_iconst (v := nI 1) hx hb dL_shows_15 (by decide) ?_
      refine n_ti (y := nI (cd2 (lpOk n k) (inB (nI 1) (nI 30) x))) (by rw [hcd]) ?_
      exact W.iret (v := nI (cd2 (lpOk n k) (inB (nI 1) (nI 30) x))) hx hb hr (fun t ht hW => ⟨trivial, rfl, by rw [ht]; exact hend, hS.F ht⟩) hS.2.2 dL_shows_16
    · refine vx_catch (name := "java/lang/IllegalArgumentException") hown [⟨0, 10, 13, 19⟩] ⟨0, 10, 17, 21⟩ [] (by rw [htab]; rfl) (fun y hy => by
          rcases List.mem_cons.mp hy with rfl | hy
          · exact Or.inr ⟨by decide, "java/lang/IndexOutOfBoundsException", (hts (.classLink RL 19 "java/lang/IndexOutOfBoundsException") (List.mem_of_getElem? (i := 1) rfl)), hE.2.2.1.1.2 (tIAE, "java/lang/IndexOutOfBoundsException") (by decide)⟩
          cases hy) rfl (by decide) (hts (.classLink RL 21 "java/lang/IllegalArgumentException") (List.mem_of_getElem? (i := 2) rfl)) (va_Nw.use rfl (hE.2.2.1.2.2 _ (by decide))) hce hcv hcl ?_
      show W _ _ _ _ _ _ _ _ _ _ _ _ _ _ _ (F0 m 17 ls [.ref q9])
      have hend : LEnd D cI cL cJ ad z n now told v (cd2 (lpOk n k) (inB (nI 1) (nI 30) x)) ((nI (shwN (v (ixx k)) now (ixx x))).toInt64) H := by
        rw [hcd]
        exact ⟨PX_keep (A := fun _ => False) hPX (fun _ _ h => h) (fun q h _ => hk q h), f, outK (A := fun _ => False) hOut (fun h => h) (fun q h _ => hk q h), fun h => absurd h (by decide)⟩
      refine lv_astore (lv' := [(4, .ref q9), (0, .ref (ad 0)), (1, .int k), (2, .int x), (3, .ref z)]) hx hb dL_shows_17 hl (by decide) rfl (fun ls hl => ?_)
      refine lv_iconst (v := nI 2) hx hb dL_shows_19 (by decide) ?_
      refine n_ti (y := nI (cd2 (lpOk n k) (inB (nI 1) (nI 30) x))) (by rw [hcd]) ?_
      exact W.iret (v := nI (cd2 (lpOk n k) (inB (nI 1) (nI 30) x))) hx hb hr (fun t ht hW => ⟨trivial, rfl, by rw [ht]; exact hend, hS.F ht⟩) hS.2.2 dL_shows_20
  · have hS : va_S (AL ad z) s.heap s.heap [] := va_S.rf
    have hPn := hPX
    have hO2 := hOut
    refine lv_i2l (v := (nI (shwN (v (ixx k)) now (ixx x))).toInt64) hx hb dL_shows_8 rfl ?_
    refine n_lastK hx hb hK hO2 hS (Or.inr rfl) 3 rfl dL_shows_9 (fun H5 locs hO5 hz5 hk5 hS => ?_)
    have hPX5 := PX_keep (A := fun q => q = z) (H := H5) hPn (fun i hi h => hz ⟨i, hi, h.symm⟩) (fun q _ h => hk5 q h)
    have hend : LEnd D cI cL cJ ad z n now told v (cd2 (lpOk n k) (inB (nI 1) (nI 30) x)) ((nI (shwN (v (ixx k)) now (ixx x))).toInt64) H5 := by
      rw [hok]
      exact ⟨hPX5, _, hO5, fun _ => rfl⟩
    refine lv_goto (tgt := 21) hx hb dL_shows_10 (by decide) ?_
    refine lv_iconst (v := nI 0) hx hb dL_shows_21 (by decide) ?_
    refine n_ti (y := nI (cd2 (lpOk n k) (inB (nI 1) (nI 30) x))) (by rw [hok]) ?_
    exact W.iret (v := nI (cd2 (lpOk n k) (inB (nI 1) (nI 30) x))) hx hb hr (fun t ht hW => ⟨trivial, rfl, by rw [ht]; exact hend, hS.F ht⟩) hS.2.2 dL_shows_22
set_option maxHeartbeats 4000000 in
set_option maxRecDepth 100000 in
/-- the law: momentsUntilCollision -/
theorem c_L_momentsUntilCollision (l : Launch) (D : va_G) (cI cZ cL cJ : ClassId) (hst : l.stackTraces = false) (ad : Nat → Nat) (n now : Nat) (told : Int32) (v : Nat → LV) (hwf : WFX n now v) (hinj : Inj 29 ad) (z : Nat) (f : Nat → Int64) (hz : ¬ AX ad z) (k q : Int32) : Met l yL_momentsUntilCollision wsL_momentsUntilCollision ({ frames := 9, cells := 3, slots := 18, locals := 148 } : Room) (PC D (TY cI cZ cL cJ) (AL ad z) [.ref (ad 0), .int k, .int q, .ref z] (fun H => PX D cI cL ad n now told v H ∧ va_P D vwCl (outW cJ z f) H)) (QW (AL ad z) True (nI (cd2 (lpOk n k && lpOk n q) (decide (¬ k = q)))) (LEnd D cI cL cJ ad z n now told v (cd2 (lpOk n k && lpOk n q) (decide (¬ k = q))) ((oI (fnd (fun z => colB v (ixx k) (ixx q) (now + z)) 1 1000)).toInt64))) 3 18 (AL ad z) := by
  refine MetWH (cc := cL_momentsUntilCollision) (maxL := 5) (ret := (some .int)) (hh := [(0, 10, 13, 19), (0, 10, 17, 21)]) (by decide) rfl ?_
  intro p e s m args below meth c s₁ B hml htab hv
  obtain ⟨rfl, hK, hEL, hPX, hOut⟩ := hv
  have hEA : EN (AX ad) s s.heap := hEL.narrow (fun _ h => Or.inl h)
  have hE : EN noA s s.heap := hEA.narrow (fun _ h => h.elim)
  have hx := B.exec
  have hb := B.bytes
  have hr := B.returns
  have hts := atoms_spec (ws := wsL_momentsUntilCollision) B.pre
  have hown : s.vm.findClass RL = some m.cls := findClass_of_methodNamed B.named
  have hlocks := B.notSynchronized
  have hlt := (vpa hOut 0 rfl).lt
  have hl := lv_entry ([.ref (ad 0), .int k, .int q, .ref z]) (n := 5) (Nat.le_of_ble_eq_true rfl)
  rw [lg_entry_eq]
  generalize (lg_sl ([.ref (ad 0), .int k, .int q, .ref z]) ++ List.replicate (5 - (lg_sl ([.ref (ad 0), .int k, .int q, .ref z])).length) Slot.unset).toArray = ls at hl ⊢
  have hl : lv_has ls 5 [(0, .ref (ad 0)), (1, .int k), (2, .int q), (3, .ref z)] := hl
  refine lv_aload_n hx hb dL_momentsUntilCollision_0 rfl (lv_at hl 3 rfl) ?_
  refine lv_iconst (v := nI 0) hx hb dL_momentsUntilCollision_1 (by decide) ?_
  refine lv_aload_n hx hb dL_momentsUntilCollision_2 rfl (lv_at hl 0 rfl) ?_
  refine lv_iload_n hx hb dL_momentsUntilCollision_3 rfl (lv_at hl 1 rfl) ?_
  refine lv_iload_n hx hb dL_momentsUntilCollision_4 rfl (lv_at hl 2 rfl) ?_
  refine lxR (As := [.int k, .int q]) (rest := [.int (nI 0), .ref z]) ⟨hx, hb, hml, hown, hts⟩ (c_X1_momentsUntilCollision l D cI cZ cL cJ hst ad n now told v hwf k q) (cwV 2 hts gL_momentsUntilCollision_X1_momentsUntilCollision rfl rfl rfl (by decide +kernel) ⟨(Nat.le_of_ble_eq_true rfl), (Nat.le_of_ble_eq_true rfl)⟩) hK hE hPX (RC_of (q := (RX1, TX1, 5)) (ci := 1) hK rfl (vpa hPX.1 0 rfl)) rfl hl.1 rfl (Nat.le_of_ble_eq_true rfl) dL_momentsUntilCollision_5 ⟨(Nat.le_of_ble_eq_true rfl), (Nat.le_of_ble_eq_true rfl)⟩ (fun E ce q9 H hp hz1 hk hce hcv hcl => ?_) (fun hok => ?_)
  · have hS : va_S (AL ad z) s.heap H [] := va_S_old hz1 hk
    rcases exC2 hp with ⟨hcd, rfl⟩ | ⟨hcd, rfl⟩
    · refine vx_catch (name := "java/lang/IndexOutOfBoundsException") hown [] ⟨0, 10, 13, 19⟩ [⟨0, 10, 17, 21⟩] (by rw [htab]; rfl) (fun y hy => by cases hy) rfl (by decide) (hts (.classLink RL 19 "java/lang/IndexOutOfBoundsException") (List.mem_of_getElem? (i := 1) rfl)) (va_Nw.use rfl (hE.2.2.1.2.2 _ (by decide))) hce hcv hcl ?_
      show W _ _ _ _ _ _ _ _ _ _ _ _ _ _ _ (F0 m 13 ls [.ref q9])
      have hend : LEnd D cI cL cJ ad z n now told v (cd2 (lpOk n k && lpOk n q) (decide (¬ k = q))) ((oI (fnd (fun z => colB v (ixx k) (ixx q) (now + z)) 1 1000)).toInt64) H := by
        rw [hcd]
        exact ⟨PX_keep (A := fun _ => False) hPX (fun _ _ h => h) (fun q h _ => hk q h), f, outK (A := fun _ => False) hOut (fun h => h) (fun q h _ => hk q h), fun h => absurd h (by decide)⟩
      refine lv_astore (lv' := [(4, .ref q9), (0, .ref (ad 0)), (1, .int k), (2, .int q), (3, .ref z)]) hx hb dL_momentsUntilCollision_13 hl (by decide) rfl (fun ls hl => ?_)
      refine lv_iconst (v := nI 1) hx hb dL_momentsUntilCollision_15 (by decide) ?_
      refine n_ti (y := nI (cd2 (lpOk n k && lpOk n q) (decide (¬ k = q)))) (by rw [hcd]) ?_
      exact W.iret (v := nI (cd2 (lpOk n k && lpOk n q) (decide (¬ k = q)))) hx hb hr (fun t ht hW => ⟨trivial, rfl, by rw [ht]; exact hend, hS.F ht⟩) hS.2.2 dL_momentsUntilCollision_16
    · refine vx_catch (name := "java/lang/IllegalArgumentException") hown [⟨0, 10, 13, 19⟩] ⟨0, 10, 17, 21⟩ [] (by rw [htab]; rfl) (fun y hy => by
          rcases List.mem_cons.mp hy with rfl | hy
          · exact Or.inr ⟨by decide, "java/lang/IndexOutOfBoundsException", (hts (.classLink RL 19 "java/lang/IndexOutOfBoundsException") (List.mem_of_getElem? (i := 1) rfl)), hE.2.2.1.1.2 (tIAE, "java/lang/IndexOutOfBoundsException") (by decide)⟩
          cases hy) rfl (by decide) (hts (.classLink RL 21 "java/lang/IllegalArgumentException") (List.mem_of_getElem? (i := 2) rfl)) (va_Nw.use rfl (hE.2.2.1.2.2 _ (by decide))) hce hcv hcl ?_
      show W _ _ _ _ _ _ _ _ _ _ _ _ _ _ _ (F0 m 17 ls [.ref q9])
      have hend : LEnd D cI cL cJ ad z n now told v (cd2 (lpOk n k && lpOk n q) (decide (¬ k = q))) ((oI (fnd (fun z => colB v (ixx k) (ixx q) (now + z)) 1 1000)).toInt64) H := by
        rw [hcd]
        exact ⟨PX_keep (A := fun _ => False) hPX (fun _ _ h => h) (fun q h _ => hk q h), f, outK (A := fun _ => False) hOut (fun h => h) (fun q h _ => hk q h), fun h => absurd h (by decide)⟩
      refine lv_astore (lv' := [(4, .ref q9), (0, .ref (ad 0)), (1, .int k), (2, .int q), (3, .ref z)]) hx hb dL_momentsUntilCollision_17 hl (by decide) rfl (fun ls hl => ?_)
      refine lv_iconst (v := nI 2) hx hb dL_momentsUntilCollision_19 (by decide) ?_
      refine n_ti (y := nI (cd2 (lpOk n k && lpOk n q) (decide (¬ k = q)))) (by rw [hcd]) ?_
      exact W.iret (v := nI (cd2 (lpOk n k && lpOk n q) (decide (¬ k = q)))) hx hb hr (fun t ht hW => ⟨trivial, rfl, by rw [ht]; exact hend, hS.F ht⟩) hS.2.2 dL_momentsUntilCollision_20
  · have hS : va_S (AL ad z) s.heap s.heap [] := va_S.rf
    have hPn := hPX
    have hO2 := hOut
    refine lv_i2l (v := (oI (fnd (fun z => colB v (ixx k) (ixx q) (now + z)) 1 1000)).toInt64) hx hb dL_momentsUntilCollision_8 rfl ?_
    refine n_lastK hx hb hK hO2 hS (Or.inr rfl) 3 rfl dL_momentsUntilCollision_9 (fun H5 locs hO5 hz5 hk5 hS => ?_)
    have hPX5 := PX_keep (A := fun q => q = z) (H := H5) hPn (fun i hi h => hz ⟨i, hi, h.symm⟩) (fun q _ h => hk5 q h)
    have hend : LEnd D cI cL cJ ad z n now told v (cd2 (lpOk n k && lpOk n q) (decide (¬ k = q))) ((oI (fnd (fun z => colB v (ixx k) (ixx q) (now + z)) 1 1000)).toInt64) H5 := by
      rw [hok]
      exact ⟨hPX5, _, hO5, fun _ => rfl⟩
    refine lv_goto (tgt := 21) hx hb dL_momentsUntilCollision_10 (by decide) ?_
    refine lv_iconst (v := nI 0) hx hb dL_momentsUntilCollision_21 (by decide) ?_
    refine n_ti (y := nI (cd2 (lpOk n k && lpOk n q) (decide (¬ k = q)))) (by rw [hok]) ?_
    exact W.iret (v := nI (cd2 (lpOk n k && lpOk n q) (decide (¬ k = q)))) hx hb hr (fun t ht hW => ⟨trivial, rfl, by rw [ht]; exact hend, hS.F ht⟩) hS.2.2 dL_momentsUntilCollision_22
set_option maxHeartbeats 4000000 in
set_option maxRecDepth 100000 in
/-- the law: collisionsWithin -/
theorem c_L_collisionsWithin (l : Launch) (D : va_G) (cI cZ cL cJ : ClassId) (hst : l.stackTraces = false) (ad : Nat → Nat) (n now : Nat) (told : Int32) (v : Nat → LV) (hwf : WFX n now v) (hinj : Inj 29 ad) (z : Nat) (f : Nat → Int64) (hz : ¬ AX ad z) (k q x : Int32) : Met l yL_collisionsWithin wsL_collisionsWithin ({ frames := 9, cells := 4, slots := 24, locals := 150 } : Room) (PC D (TY cI cZ cL cJ) (AL ad z) [.ref (ad 0), .int k, .int q, .int x, .ref z] (fun H => PX D cI cL ad n now told v H ∧ va_P D vwCl (outW cJ z f) H)) (QW (AL ad z) True (nI (cd2 (lpOk n k && lpOk n q) (decide (¬ k = q) && inB (nI 1) (nI 500) x))) (LEnd D cI cL cJ ad z n now told v (cd2 (lpOk n k && lpOk n q) (decide (¬ k = q) && inB (nI 1) (nI 500) x)) ((nI (cnt (fun s => colB v (ixx k) (ixx q) (now + (s + 1))) (ixx x))).toInt64))) 4 24 (AL ad z) := by
  refine MetWH (cc := cL_collisionsWithin) (maxL := 6) (ret := (some .int)) (hh := [(0, 12, 15, 19), (0, 12, 19, 21)]) (by decide) rfl ?_
  intro p e s m args below meth c s₁ B hml htab hv
  obtain ⟨rfl, hK, hEL, hPX, hOut⟩ := hv
  have hEA : EN (AX ad) s s.heap := hEL.narrow (fun _ h => Or.inl h)
  have hE : EN noA s s.heap := hEA.narrow (fun _ h => h.elim)
  have hx := B.exec
  have hb := B.bytes
  have hr := B.returns
  have hts := atoms_spec (ws := wsL_collisionsWithin) B.pre
  have hown : s.vm.findClass RL = some m.cls := findClass_of_methodNamed B.named
  have hlocks := B.notSynchronized
  have hlt := (vpa hOut 0 rfl).lt
  have hl := lv_entry ([.ref (ad 0), .int k, .int q, .int x, .ref z]) (n := 6) (Nat.le_of_ble_eq_true rfl)
  rw [lg_entry_eq]
  generalize (lg_sl ([.ref (ad 0), .int k, .int q, .int x, .ref z]) ++ List.replicate (6 - (lg_sl ([.ref (ad 0), .int k, .int q, .int x, .ref z])).length) Slot.unset).toArray = ls at hl ⊢
  have hl : lv_has ls 6 [(0, .ref (ad 0)), (1, .int k), (2, .int q), (3, .int x), (4, .ref z)] := hl
  refine lv_aload hx hb dL_collisionsWithin_0 (lv_at hl 4 rfl) ?_
  refine lv_iconst (v := nI 0) hx hb dL_collisionsWithin_2 (by decide) ?_
  refine lv_aload_n hx hb dL_collisionsWithin_3 rfl (lv_at hl 0 rfl) ?_
  refine lv_iload_n hx hb dL_collisionsWithin_4 rfl (lv_at hl 1 rfl) ?_
  refine lv_iload_n hx hb dL_collisionsWithin_5 rfl (lv_at hl 2 rfl) ?_
  refine lv_iload_n hx hb dL_collisionsWithin_6 rfl (lv_at hl 3 rfl) ?_
  refine lxR (As := [.int k, .int q, .int x]) (rest := [.int (nI 0), .ref z]) ⟨hx, hb, hml, hown, hts⟩ (c_X1_collisionsWithin l D cI cZ cL cJ hst ad n now told v hwf k q x) (cwV 3 hts gL_collisionsWithin_X1_collisionsWithin rfl rfl rfl (by decide +kernel) ⟨(Nat.le_of_ble_eq_true rfl), (Nat.le_of_ble_eq_true rfl)⟩) hK hE hPX (RC_of (q := (RX1, TX1, 5)) (ci := 1) hK rfl (vpa hPX.1 0 rfl)) rfl hl.1 rfl (Nat.le_of_ble_eq_true rfl) dL_collisionsWithin_7 ⟨(Nat.le_of_ble_eq_true rfl), (Nat.le_of_ble_eq_true rfl)⟩ (fun E ce q9 H hp hz1 hk hce hcv hcl => ?_) (fun hok => ?_)
  · have hS : va_S (AL ad z) s.heap H [] := va_S_old hz1 hk
    rcases exC2 hp with ⟨hcd, rfl⟩ | ⟨hcd, rfl⟩
    · refine vx_catch (name := "java/lang/IndexOutOfBoundsException") hown [] ⟨0, 12, 15, 19⟩ [⟨0, 12, 19, 21⟩] (by rw [htab]; rfl) (fun y hy => by cases hy) rfl (by decide) (hts (.classLink RL 19 "java/lang/IndexOutOfBoundsException") (List.mem_of_getElem? (i := 1) rfl)) (va_Nw.use rfl (hE.2.2.1.2.2 _ (by decide))) hce hcv hcl ?_
      show W _ _ _ _ _ _ _ _ _ _ _ _ _ _ _ (F0 m 15 ls [.ref q9])
      have hend : LEnd D cI cL cJ ad z n now told v (cd2 (lpOk n k && lpOk n q) (decide (¬ k = q) && inB (nI 1) (nI 500) x)) ((nI (cnt (fun s => colB v (ixx k) (ixx q) (now + (s + 1))) (ixx x))).toInt64) H := by
        rw [hcd]
        exact ⟨PX_keep (A := fun _ => False) hPX (fun _ _ h => h) (fun q h _ => hk q h), f, outK (A := fun _ => False) hOut (fun h => h) (fun q h _ => hk q h), fun h => absurd h (by decide)⟩
      refine lv_astore (lv' := [(5, .ref q9), (0, .ref (ad 0)), (1, .int k), (2, .int q), (3, .int x), (4, .ref z)]) hx hb dL_collisionsWithin_15 hl (by decide) rfl (fun ls hl => ?_)
      refine lv_iconst (v := nI 1) hx hb dL_collisionsWithin_17 (by decide) ?_
      refine n_ti (y := nI (cd2 (lpOk n k && lpOk n q) (decide (¬ k = q) && inB (nI 1) (nI 500) x))) (by rw [hcd]) ?_
      exact W.iret (v := nI (cd2 (lpOk n k && lpOk n q) (decide (¬ k = q) && inB (nI 1) (nI 500) x))) hx hb hr (fun t ht hW => ⟨trivial, rfl, by rw [ht]; exact hend, hS.F ht⟩) hS.2.2 dL_collisionsWithin_18
    · refine vx_catch (name := "java/lang/IllegalArgumentException") hown [⟨0, 12, 15, 19⟩] ⟨0, 12, 19, 21⟩ [] (by rw [htab]; rfl) (fun y hy => by
          rcases List.mem_cons.mp hy with rfl | hy
          · exact Or.inr ⟨by decide, "java/lang/IndexOutOfBoundsException", (hts (.classLink RL 19 "java/lang/IndexOutOfBoundsException") (List.mem_of_getElem? (i := 1) rfl)), hE.2.2.1.1.2 (tIAE, "java/lang/IndexOutOfBoundsException") (by decide)⟩
          cases hy) rfl (by decide) (hts (.classLink RL 21 "java/lang/IllegalArgumentException") (List.mem_of_getElem? (i := 2) rfl)) (va_Nw.use rfl (hE.2.2.1.2.2 _ (by decide))) hce hcv hcl ?_
      show W _ _ _ _ _ _ _ _ _ _ _ _ _ _ _ (F0 m 19 ls [.ref q9])
      have hend : LEnd D cI cL cJ ad z n now told v (cd2 (lpOk n k && lpOk n q) (decide (¬ k = q) && inB (nI 1) (nI 500) x)) ((nI (cnt (fun s => colB v (ixx k) (ixx q) (now + (s + 1))) (ixx x))).toInt64) H := by
        rw [hcd]
        exact ⟨PX_keep (A := fun _ => False) hPX (fun _ _ h => h) (fun q h _ => hk q h), f, outK (A := fun _ => False) hOut (fun h => h) (fun q h _ => hk q h), fun h => absurd h (by decide)⟩
      refine lv_astore (lv' := [(5, .ref q9), (0, .ref (ad 0)), (1, .int k), (2, .int q), (3, .int x), (4, .ref z)]) hx hb dL_collisionsWithin_19 hl (by decide) rfl (fun ls hl => ?_)
      refine lv_iconst (v := nI 2) hx hb dL_collisionsWithin_21 (by decide) ?_
      refine n_ti (y := nI (cd2 (lpOk n k && lpOk n q) (decide (¬ k = q) && inB (nI 1) (nI 500) x))) (by rw [hcd]) ?_
      exact W.iret (v := nI (cd2 (lpOk n k && lpOk n q) (decide (¬ k = q) && inB (nI 1) (nI 500) x))) hx hb hr (fun t ht hW => ⟨trivial, rfl, by rw [ht]; exact hend, hS.F ht⟩) hS.2.2 dL_collisionsWithin_22
  · have hS : va_S (AL ad z) s.heap s.heap [] := va_S.rf
    have hPn := hPX
    have hO2 := hOut
    refine lv_i2l (v := (nI (cnt (fun s => colB v (ixx k) (ixx q) (now + (s + 1))) (ixx x))).toInt64) hx hb dL_collisionsWithin_10 rfl ?_
    refine n_lastK hx hb hK hO2 hS (Or.inr rfl) 3 rfl dL_collisionsWithin_11 (fun H5 locs hO5 hz5 hk5 hS => ?_)
    have hPX5 := PX_keep (A := fun q => q = z) (H := H5) hPn (fun i hi h => hz ⟨i, hi, h.symm⟩) (fun q _ h => hk5 q h)
    have hend : LEnd D cI cL cJ ad z n now told v (cd2 (lpOk n k && lpOk n q) (decide (¬ k = q) && inB (nI 1) (nI 500) x)) ((nI (cnt (fun s => colB v (ixx k) (ixx q) (now + (s + 1))) (ixx x))).toInt64) H5 := by
      rw [hok]
      exact ⟨hPX5, _, hO5, fun _ => rfl⟩
    refine lv_goto (tgt := 23) hx hb dL_collisionsWithin_12 (by decide) ?_
    refine lv_iconst (v := nI 0) hx hb dL_collisionsWithin_23 (by decide) ?_
    refine n_ti (y := nI (cd2 (lpOk n k && lpOk n q) (decide (¬ k = q) && inB (nI 1) (nI 500) x))) (by rw [hok]) ?_
    exact W.iret (v := nI (cd2 (lpOk n k && lpOk n q) (decide (¬ k = q) && inB (nI 1) (nI 500) x))) hx hb hr (fun t ht hW => ⟨trivial, rfl, by rw [ht]; exact hend, hS.F ht⟩) hS.2.2 dL_collisionsWithin_24
set_option maxHeartbeats 4000000 in
set_option maxRecDepth 100000 in
/-- the law: momentsUntilToldApart -/
theorem c_L_momentsUntilToldApart (l : Launch) (D : va_G) (cI cZ cL cJ : ClassId) (hst : l.stackTraces = false) (ad : Nat → Nat) (n now : Nat) (told : Int32) (v : Nat → LV) (hwf : WFX n now v) (hinj : Inj 29 ad) (z : Nat) (f : Nat → Int64) (hz : ¬ AX ad z) (k q : Int32) : Met l yL_momentsUntilToldApart wsL_momentsUntilToldApart ({ frames := 9, cells := 3, slots := 18, locals := 147 } : Room) (PC D (TY cI cZ cL cJ) (AL ad z) [.ref (ad 0), .int k, .int q, .ref z] (fun H => PX D cI cL ad n now told v H ∧ va_P D vwCl (outW cJ z f) H)) (QW (AL ad z) True (nI (cd2 (lpOk n k && lpOk n q) (decide (¬ k = q)))) (LEnd D cI cL cJ ad z n now told (if cd2 (lpOk n k && lpOk n q) (decide (¬ k = q)) = 0 then updv v 8 (diffL (v 8) (v (ixx k)) (v (ixx q))) else v) (cd2 (lpOk n k && lpOk n q) (decide (¬ k = q))) ((tldI v (ixx k) (ixx q) now).toInt64))) 3 18 (AL ad z) := by
  refine MetWH (cc := cL_momentsUntilToldApart) (maxL := 5) (ret := (some .int)) (hh := [(0, 10, 13, 19), (0, 10, 17, 21)]) (by decide) rfl ?_
  intro p e s m args below meth c s₁ B hml htab hv
  obtain ⟨rfl, hK, hEL, hPX, hOut⟩ := hv
  have hEA : EN (AX ad) s s.heap := hEL.narrow (fun _ h => Or.inl h)
  have hE : EN noA s s.heap := hEA.narrow (fun _ h => h.elim)
  have hx := B.exec
  have hb := B.bytes
  have hr := B.returns
  have hts := atoms_spec (ws := wsL_momentsUntilToldApart) B.pre
  have hown : s.vm.findClass RL = some m.cls := findClass_of_methodNamed B.named
  have hlocks := B.notSynchronized
  have hlt := (vpa hOut 0 rfl).lt
  have hl := lv_entry ([.ref (ad 0), .int k, .int q, .ref z]) (n := 5) (Nat.le_of_ble_eq_true rfl)
  rw [lg_entry_eq]
  generalize (lg_sl ([.ref (ad 0), .int k, .int q, .ref z]) ++ List.replicate (5 - (lg_sl ([.ref (ad 0), .int k, .int q, .ref z])).length) Slot.unset).toArray = ls at hl ⊢
  have hl : lv_has ls 5 [(0, .ref (ad 0)), (1, .int k), (2, .int q), (3, .ref z)] := hl
  refine lv_aload_n hx hb dL_momentsUntilToldApart_0 rfl (lv_at hl 3 rfl) ?_
  refine lv_iconst (v := nI 0) hx hb dL_momentsUntilToldApart_1 (by decide) ?_
  refine lv_aload_n hx hb dL_momentsUntilToldApart_2 rfl (lv_at hl 0 rfl) ?_
  refine lv_iload_n hx hb dL_momentsUntilToldApart_3 rfl (lv_at hl 1 rfl) ?_
  refine lv_iload_n hx hb dL_momentsUntilToldApart_4 rfl (lv_at hl 2 rfl) ?_
  refine lxW (A0 := AL ad z) (As := [.int k, .int q]) (rest := [.int (nI 0), .ref z]) ⟨hx, hb, hml, hown, hts⟩ (c_X1_momentsUntilToldApart l D cI cZ cL cJ hst ad n now told v hwf hinj k q) (cwV 2 hts gL_momentsUntilToldApart_X1_momentsUntilToldApart rfl rfl rfl (by decide +kernel) ⟨(Nat.le_of_ble_eq_true rfl), (Nat.le_of_ble_eq_true rfl)⟩) hK hEA hPX (RC_of (q := (RX1, TX1, 5)) (ci := 1) hK rfl (vpa hPX.1 0 rfl)) rfl hl.1 rfl (Nat.le_of_ble_eq_true rfl) dL_momentsUntilToldApart_5 ⟨(Nat.le_of_ble_eq_true rfl), (Nat.le_of_ble_eq_true rfl)⟩ va_S.rf (fun q h => Or.inl h) (fun E ce q9 H locs hp hz1 hk hS hce hcv hcl => ?_) (fun H locs hok hPn hz1 hk hS => ?_)
  · have h_0 := hz1
    rcases exC2 hp with ⟨hcd, rfl⟩ | ⟨hcd, rfl⟩
    · refine vx_catch (name := "java/lang/IndexOutOfBoundsException") hown [] ⟨0, 10, 13, 19⟩ [⟨0, 10, 17, 21⟩] (by rw [htab]; rfl) (fun y hy => by cases hy) rfl (by decide) (hts (.classLink RL 19 "java/lang/IndexOutOfBoundsException") (List.mem_of_getElem? (i := 1) rfl)) (va_Nw.use rfl (hE.2.2.1.2.2 _ (by decide))) hce hcv hcl ?_
      show W _ _ _ _ _ _ _ _ _ _ _ _ _ _ _ (F0 m 13 ls [.ref q9])
      have hend : LEnd D cI cL cJ ad z n now told (if cd2 (lpOk n k && lpOk n q) (decide (¬ k = q)) = 0 then updv v 8 (diffL (v 8) (v (ixx k)) (v (ixx q))) else v) (cd2 (lpOk n k && lpOk n q) (decide (¬ k = q))) ((tldI v (ixx k) (ixx q) now).toInt64) H := by
        rw [hcd]
        exact ⟨PX_keep (A := fun _ => False) hPX (fun _ _ h => h) (fun q h _ => hk q h), f, outK (A := fun _ => False) hOut (fun h => h) (fun q h _ => hk q h), fun h => absurd h (by decide)⟩
      refine lv_astore (lv' := [(4, .ref q9), (0, .ref (ad 0)), (1, .int k), (2, .int q), (3, .ref z)]) hx hb dL_momentsUntilToldApart_13 hl (by decide) rfl (fun ls hl => ?_)
      refine lv_iconst (v := nI 1) hx hb dL_momentsUntilToldApart_15 (by decide) ?_
      refine n_ti (y := nI (cd2 (lpOk n k && lpOk n q) (decide (¬ k = q)))) (by rw [hcd]) ?_
      exact W.iret (v := nI (cd2 (lpOk n k && lpOk n q) (decide (¬ k = q)))) hx hb hr (fun t ht hW => ⟨trivial, rfl, by rw [ht]; exact hend, hS.F ht⟩) hS.2.2 dL_momentsUntilToldApart_16
    · refine vx_catch (name := "java/lang/IllegalArgumentException") hown [⟨0, 10, 13, 19⟩] ⟨0, 10, 17, 21⟩ [] (by rw [htab]; rfl) (fun y hy => by
          rcases List.mem_cons.mp hy with rfl | hy
          · exact Or.inr ⟨by decide, "java/lang/IndexOutOfBoundsException", (hts (.classLink RL 19 "java/lang/IndexOutOfBoundsException") (List.mem_of_getElem? (i := 1) rfl)), hE.2.2.1.1.2 (tIAE, "java/lang/IndexOutOfBoundsException") (by decide)⟩
          cases hy) rfl (by decide) (hts (.classLink RL 21 "java/lang/IllegalArgumentException") (List.mem_of_getElem? (i := 2) rfl)) (va_Nw.use rfl (hE.2.2.1.2.2 _ (by decide))) hce hcv hcl ?_
      show W _ _ _ _ _ _ _ _ _ _ _ _ _ _ _ (F0 m 17 ls [.ref q9])
      have hend : LEnd D cI cL cJ ad z n now told (if cd2 (lpOk n k && lpOk n q) (decide (¬ k = q)) = 0 then updv v 8 (diffL (v 8) (v (ixx k)) (v (ixx q))) else v) (cd2 (lpOk n k && lpOk n q) (decide (¬ k = q))) ((tldI v (ixx k) (ixx q) now).toInt64) H := by
        rw [hcd]
        exact ⟨PX_keep (A := fun _ => False) hPX (fun _ _ h => h) (fun q h _ => hk q h), f, outK (A := fun _ => False) hOut (fun h => h) (fun q h _ => hk q h), fun h => absurd h (by decide)⟩
      refine lv_astore (lv' := [(4, .ref q9), (0, .ref (ad 0)), (1, .int k), (2, .int q), (3, .ref z)]) hx hb dL_momentsUntilToldApart_17 hl (by decide) rfl (fun ls hl => ?_)
      refine lv_iconst (v := nI 2) hx hb dL_momentsUntilToldApart_19 (by decide) ?_
      refine n_ti (y := nI (cd2 (lpOk n k && lpOk n q) (decide (¬ k = q)))) (by rw [hcd]) ?_
      exact W.iret (v := nI (cd2 (lpOk n k && lpOk n q) (decide (¬ k = q)))) hx hb hr (fun t ht hW => ⟨trivial, rfl, by rw [ht]; exact hend, hS.F ht⟩) hS.2.2 dL_momentsUntilToldApart_20
  · have hO2 := outK hOut hz hk
    refine lv_i2l (v := (tldI v (ixx k) (ixx q) now).toInt64) hx hb dL_momentsUntilToldApart_8 rfl ?_
    refine n_lastK hx hb hK hO2 hS (Or.inr rfl) 3 rfl dL_momentsUntilToldApart_9 (fun H5 locs hO5 hz5 hk5 hS => ?_)
    have hPX5 := PX_keep (A := fun q => q = z) (H := H5) hPn (fun i hi h => hz ⟨i, hi, h.symm⟩) (fun q _ h => hk5 q h)
    have hend : LEnd D cI cL cJ ad z n now told (if cd2 (lpOk n k && lpOk n q) (decide (¬ k = q)) = 0 then updv v 8 (diffL (v 8) (v (ixx k)) (v (ixx q))) else v) (cd2 (lpOk n k && lpOk n q) (decide (¬ k = q))) ((tldI v (ixx k) (ixx q) now).toInt64) H5 := by
      rw [hok]
      exact ⟨hPX5, _, hO5, fun _ => rfl⟩
    refine lv_goto (tgt := 21) hx hb dL_momentsUntilToldApart_10 (by decide) ?_
    refine lv_iconst (v := nI 0) hx hb dL_momentsUntilToldApart_21 (by decide) ?_
    refine n_ti (y := nI (cd2 (lpOk n k && lpOk n q) (decide (¬ k = q)))) (by rw [hok]) ?_
    exact W.iret (v := nI (cd2 (lpOk n k && lpOk n q) (decide (¬ k = q)))) hx hb hr (fun t ht hW => ⟨trivial, rfl, by rw [ht]; exact hend, hS.F ht⟩) hS.2.2 dL_momentsUntilToldApart_22
set_option maxHeartbeats 4000000 in
set_option maxRecDepth 100000 in
/-- the law: darkWithin -/
theorem c_L_darkWithin (l : Launch) (D : va_G) (cI cZ cL cJ : ClassId) (hst : l.stackTraces = false) (ad : Nat → Nat) (n now : Nat) (told : Int32) (v : Nat → LV) (hwf : WFX n now v) (hinj : Inj 29 ad) (z : Nat) (f : Nat → Int64) (hz : ¬ AX ad z) (x : Int32) : Met l yL_darkWithin wsL_darkWithin ({ frames := 8, cells := 1, slots := 6, locals := 134 } : Room) (PC D (TY cI cZ cL cJ) (AL ad z) [.ref (ad 0), .int x, .ref z] (fun H => PX D cI cL ad n now told v H ∧ va_P D vwCl (outW cJ z f) H)) (QW (AL ad z) True (nI (cd1 (inB (nI 1) (nI 500) x))) (LEnd D cI cL cJ ad z n now told v (cd1 (inB (nI 1) (nI 500) x)) ((nI (dkN v n now (-1) (ixx x))).toInt64))) 1 6 (AL ad z) := by
  refine MetWH (cc := cL_darkWithin) (maxL := 4) (ret := (some .int)) (hh := [(0, 9, 12, 21)]) (by decide) rfl ?_
  intro p e s m args below meth c s₁ B hml htab hv
  obtain ⟨rfl, hK, hEL, hPX, hOut⟩ := hv
  have hEA : EN (AX ad) s s.heap := hEL.narrow (fun _ h => Or.inl h)
  have hE : EN noA s s.heap := hEA.narrow (fun _ h => h.elim)
  have hx := B.exec
  have hb := B.bytes
  have hr := B.returns
  have hts := atoms_spec (ws := wsL_darkWithin) B.pre
  have hown : s.vm.findClass RL = some m.cls := findClass_of_methodNamed B.named
  have hlocks := B.notSynchronized
  have hlt := (vpa hOut 0 rfl).lt
  have hl := lv_entry ([.ref (ad 0), .int x, .ref z]) (n := 4) (Nat.le_of_ble_eq_true rfl)
  rw [lg_entry_eq]
  generalize (lg_sl ([.ref (ad 0), .int x, .ref z]) ++ List.replicate (4 - (lg_sl ([.ref (ad 0), .int x, .ref z])).length) Slot.unset).toArray = ls at hl ⊢
  have hl : lv_has ls 4 [(0, .ref (ad 0)), (1, .int x), (2, .ref z)] := hl
  refine lv_aload_n hx hb dL_darkWithin_0 rfl (lv_at hl 2 rfl) ?_
  refine lv_iconst (v := nI 0) hx hb dL_darkWithin_1 (by decide) ?_
  refine lv_aload_n hx hb dL_darkWithin_2 rfl (lv_at hl 0 rfl) ?_
  refine lv_iload_n hx hb dL_darkWithin_3 rfl (lv_at hl 1 rfl) ?_
  refine lxR (As := [.int x]) (rest := [.int (nI 0), .ref z]) ⟨hx, hb, hml, hown, hts⟩ (c_X1_darkWithin l D cI cZ cL cJ hst ad n now told v hwf x) (cwV 1 hts gL_darkWithin_X1_darkWithin rfl rfl rfl (by decide +kernel) ⟨(Nat.le_of_ble_eq_true rfl), (Nat.le_of_ble_eq_true rfl)⟩) hK hE hPX (RC_of (q := (RX1, TX1, 5)) (ci := 1) hK rfl (vpa hPX.1 0 rfl)) rfl hl.1 rfl (Nat.le_of_ble_eq_true rfl) dL_darkWithin_4 ⟨(Nat.le_of_ble_eq_true rfl), (Nat.le_of_ble_eq_true rfl)⟩ (fun E ce q9 H hp hz1 hk hce hcv hcl => ?_) (fun hok => ?_)
  · have hS : va_S (AL ad z) s.heap H [] := va_S_old hz1 hk
    obtain ⟨hcd, rfl⟩ := exC1 hp
    refine vx_catch (name := "java/lang/IllegalArgumentException") hown [] ⟨0, 9, 12, 21⟩ [] (by rw [htab]; rfl) (fun y hy => by cases hy) rfl (by decide) (hts (.classLink RL 21 "java/lang/IllegalArgumentException") (List.mem_of_getElem? (i := 1) rfl)) (va_Nw.use rfl (hE.2.2.1.2.2 _ (by decide))) hce hcv hcl ?_
    show W _ _ _ _ _ _ _ _ _ _ _ _ _ _ _ (F0 m 12 ls [.ref q9])
    have hend : LEnd D cI cL cJ ad z n now told v (cd1 (inB (nI 1) (nI 500) x)) ((nI (dkN v n now (-1) (ixx x))).toInt64) H := by
      rw [hcd]
      exact ⟨PX_keep (A := fun _ => False) hPX (fun _ _ h => h) (fun q h _ => hk q h), f, outK (A := fun _ => False) hOut (fun h => h) (fun q h _ => hk q h), fun h => absurd h (by decide)⟩
    refine lv_astore_n (lv' := [(3, .ref q9), (0, .ref (ad 0)), (1, .int x), (2, .ref z)]) hx hb dL_darkWithin_12 rfl hl (by decide) rfl (fun ls hl => ?_)
    refine lv_iconst (v := nI 1) hx hb dL_darkWithin_13 (by decide) ?_
    refine n_ti (y := nI (cd1 (inB (nI 1) (nI 500) x))) (by rw [hcd]) ?_
    exact W.iret (v := nI (cd1 (inB (nI 1) (nI 500) x))) hx hb hr (fun t ht hW => ⟨trivial, rfl, by rw [ht]; exact hend, hS.F ht⟩) hS.2.2 dL_darkWithin_14
  · have hS : va_S (AL ad z) s.heap s.heap [] := va_S.rf
    have hPn := hPX
    have hO2 := hOut
    refine lv_i2l (v := (nI (dkN v n now (-1) (ixx x))).toInt64) hx hb dL_darkWithin_7 rfl ?_
    refine n_lastK hx hb hK hO2 hS (Or.inr rfl) 3 rfl dL_darkWithin_8 (fun H5 locs hO5 hz5 hk5 hS => ?_)
    have hPX5 := PX_keep (A := fun q => q = z) (H := H5) hPn (fun i hi h => hz ⟨i, hi, h.symm⟩) (fun q _ h => hk5 q h)
    have hend : LEnd D cI cL cJ ad z n now told v (cd1 (inB (nI 1) (nI 500) x)) ((nI (dkN v n now (-1) (ixx x))).toInt64) H5 := by
      rw [hok]
      exact ⟨hPX5, _, hO5, fun _ => rfl⟩
    refine lv_goto (tgt := 15) hx hb dL_darkWithin_9 (by decide) ?_
    refine lv_iconst (v := nI 0) hx hb dL_darkWithin_15 (by decide) ?_
    refine n_ti (y := nI (cd1 (inB (nI 1) (nI 500) x))) (by rw [hok]) ?_
    exact W.iret (v := nI (cd1 (inB (nI 1) (nI 500) x))) hx hb hr (fun t ht hW => ⟨trivial, rfl, by rw [ht]; exact hend, hS.F ht⟩) hS.2.2 dL_darkWithin_16
set_option maxHeartbeats 4000000 in
set_option maxRecDepth 100000 in
/-- the law: brightestWithin -/
theorem c_L_brightestWithin (l : Launch) (D : va_G) (cI cZ cL cJ : ClassId) (hst : l.stackTraces = false) (ad : Nat → Nat) (n now : Nat) (told : Int32) (v : Nat → LV) (hwf : WFX n now v) (hinj : Inj 29 ad) (z : Nat) (f : Nat → Int64) (hz : ¬ AX ad z) (x : Int32) : Met l yL_brightestWithin wsL_brightestWithin ({ frames := 8, cells := 1, slots := 6, locals := 128 } : Room) (PC D (TY cI cZ cL cJ) (AL ad z) [.ref (ad 0), .int x, .ref z] (fun H => PX D cI cL ad n now told v H ∧ va_P D vwCl (outW cJ z f) H)) (QW (AL ad z) True (nI (cd1 (inB (nI 1) (nI 500) x))) (LEnd D cI cL cJ ad z n now told v (cd1 (inB (nI 1) (nI 500) x)) ((nI (brtN v n now (ixx x))).toInt64))) 1 6 (AL ad z) := by
  refine MetWH (cc := cL_brightestWithin) (maxL := 4) (ret := (some .int)) (hh := [(0, 9, 12, 21)]) (by decide) rfl ?_
  intro p e s m args below meth c s₁ B hml htab hv
  obtain ⟨rfl, hK, hEL, hPX, hOut⟩ := hv
  have hEA : EN (AX ad) s s.heap := hEL.narrow (fun _ h => Or.inl h)
  have hE : EN noA s s.heap := hEA.narrow (fun _ h => h.elim)
  have hx := B.exec
  have hb := B.bytes
  have hr := B.returns
  have hts := atoms_spec (ws := wsL_brightestWithin) B.pre
  have hown : s.vm.findClass RL = some m.cls := findClass_of_methodNamed B.named
  have hlocks := B.notSynchronized
  have hlt := (vpa hOut 0 rfl).lt
  have hl := lv_entry ([.ref (ad 0), .int x, .ref z]) (n := 4) (Nat.le_of_ble_eq_true rfl)
  rw [lg_entry_eq]
  generalize (lg_sl ([.ref (ad 0), .int x, .ref z]) ++ List.replicate (4 - (lg_sl ([.ref (ad 0), .int x, .ref z])).length) Slot.unset).toArray = ls at hl ⊢
  have hl : lv_has ls 4 [(0, .ref (ad 0)), (1, .int x), (2, .ref z)] := hl
  refine lv_aload_n hx hb dL_brightestWithin_0 rfl (lv_at hl 2 rfl) ?_
  refine lv_iconst (v := nI 0) hx hb dL_brightestWithin_1 (by decide) ?_
  refine lv_aload_n hx hb dL_brightestWithin_2 rfl (lv_at hl 0 rfl) ?_
  refine lv_iload_n hx hb dL_brightestWithin_3 rfl (lv_at hl 1 rfl) ?_
  refine lxR (As := [.int x]) (rest := [.int (nI 0), .ref z]) ⟨hx, hb, hml, hown, hts⟩ (c_X1_brightestWithin l D cI cZ cL cJ hst ad n now told v hwf x) (cwV 1 hts gL_brightestWithin_X1_brightestWithin rfl rfl rfl (by decide +kernel) ⟨(Nat.le_of_ble_eq_true rfl), (Nat.le_of_ble_eq_true rfl)⟩) hK hE hPX (RC_of (q := (RX1, TX1, 5)) (ci := 1) hK rfl (vpa hPX.1 0 rfl)) rfl hl.1 rfl (Nat.le_of_ble_eq_true rfl) dL_brightestWithin_4 ⟨(Nat.le_of_ble_eq_true rfl), (Nat.le_of_ble_eq_true rfl)⟩ (fun E ce q9 H hp hz1 hk hce hcv hcl => ?_) (fun hok => ?_)
  · have hS : va_S (AL ad z) s.heap H [] := va_S_old hz1 hk
    obtain ⟨hcd, rfl⟩ := exC1 hp
    refine vx_catch (name := "java/lang/IllegalArgumentException") hown [] ⟨0, 9, 12, 21⟩ [] (by rw [htab]; rfl) (fun y hy => by cases hy) rfl (by decide) (hts (.classLink RL 21 "java/lang/IllegalArgumentException") (List.mem_of_getElem? (i := 1) rfl)) (va_Nw.use rfl (hE.2.2.1.2.2 _ (by decide))) hce hcv hcl ?_
    show W _ _ _ _ _ _ _ _ _ _ _ _ _ _ _ (F0 m 12 ls [.ref q9])
    have hend : LEnd D cI cL cJ ad z n now told v (cd1 (inB (nI 1) (nI 500) x)) ((nI (brtN v n now (ixx x))).toInt64) H := by
      rw [hcd]
      exact ⟨PX_keep (A := fun _ => False) hPX (fun _ _ h => h) (fun q h _ => hk q h), f, outK (A := fun _ => False) hOut (fun h => h) (fun q h _ => hk q h), fun h => absurd h (by decide)⟩
    refine lv_astore_n (lv' := [(3, .ref q9), (0, .ref (ad 0)), (1, .int x), (2, .ref z)]) hx hb dL_brightestWithin_12 rfl hl (by decide) rfl (fun ls hl => ?_)
    refine lv_iconst (v := nI 1) hx hb dL_brightestWithin_13 (by decide) ?_
    refine n_ti (y := nI (cd1 (inB (nI 1) (nI 500) x))) (by rw [hcd]) ?_
    exact W.iret (v := nI (cd1 (inB (nI 1) (nI 500) x))) hx hb hr (fun t ht hW => ⟨trivial, rfl, by rw [ht]; exact hend, hS.F ht⟩) hS.2.2 dL_brightestWithin_14
  · have hS : va_S (AL ad z) s.heap s.heap [] := va_S.rf
    have hPn := hPX
    have hO2 := hOut
    refine lv_i2l (v := (nI (brtN v n now (ixx x))).toInt64) hx hb dL_brightestWithin_7 rfl ?_
    refine n_lastK hx hb hK hO2 hS (Or.inr rfl) 3 rfl dL_brightestWithin_8 (fun H5 locs hO5 hz5 hk5 hS => ?_)
    have hPX5 := PX_keep (A := fun q => q = z) (H := H5) hPn (fun i hi h => hz ⟨i, hi, h.symm⟩) (fun q _ h => hk5 q h)
    have hend : LEnd D cI cL cJ ad z n now told v (cd1 (inB (nI 1) (nI 500) x)) ((nI (brtN v n now (ixx x))).toInt64) H5 := by
      rw [hok]
      exact ⟨hPX5, _, hO5, fun _ => rfl⟩
    refine lv_goto (tgt := 15) hx hb dL_brightestWithin_9 (by decide) ?_
    refine lv_iconst (v := nI 0) hx hb dL_brightestWithin_15 (by decide) ?_
    refine n_ti (y := nI (cd1 (inB (nI 1) (nI 500) x))) (by rw [hok]) ?_
    exact W.iret (v := nI (cd1 (inB (nI 1) (nI 500) x))) hx hb hr (fun t ht hW => ⟨trivial, rfl, by rw [ht]; exact hend, hS.F ht⟩) hS.2.2 dL_brightestWithin_16
set_option maxHeartbeats 4000000 in
set_option maxRecDepth 100000 in
/-- the law: bestCover -/
theorem c_L_bestCover (l : Launch) (D : va_G) (cI cZ cL cJ : ClassId) (hst : l.stackTraces = false) (ad : Nat → Nat) (n now : Nat) (told : Int32) (v : Nat → LV) (hwf : WFX n now v) (hinj : Inj 29 ad) (z : Nat) (f : Nat → Int64) (hz : ¬ AX ad z) (x : Int32) : Met l yL_bestCover wsL_bestCover ({ frames := 8, cells := 1, slots := 6, locals := 138 } : Room) (PC D (TY cI cZ cL cJ) (AL ad z) [.ref (ad 0), .int x, .ref z] (fun H => PX D cI cL ad n now told v H ∧ va_P D vwCl (outW cJ z f) H)) (QW (AL ad z) True (nI (cd1 (inB (nI 1) (nI 200) x))) (LEnd D cI cL cJ ad z n now told v (cd1 (inB (nI 1) (nI 200) x)) ((oI1 (bcvN v n now (ixx x) n)).toInt64))) 1 6 (AL ad z) := by
  refine MetWH (cc := cL_bestCover) (maxL := 4) (ret := (some .int)) (hh := [(0, 9, 12, 21)]) (by decide) rfl ?_
  intro p e s m args below meth c s₁ B hml htab hv
  obtain ⟨rfl, hK, hEL, hPX, hOut⟩ := hv
  have hEA : EN (AX ad) s s.heap := hEL.narrow (fun _ h => Or.inl h)
  have hE : EN noA s s.heap := hEA.narrow (fun _ h => h.elim)
  have hx := B.exec
  have hb := B.bytes
  have hr := B.returns
  have hts := atoms_spec (ws := wsL_bestCover) B.pre
  have hown : s.vm.findClass RL = some m.cls := findClass_of_methodNamed B.named
  have hlocks := B.notSynchronized
  have hlt := (vpa hOut 0 rfl).lt
  have hl := lv_entry ([.ref (ad 0), .int x, .ref z]) (n := 4) (Nat.le_of_ble_eq_true rfl)
  rw [lg_entry_eq]
  generalize (lg_sl ([.ref (ad 0), .int x, .ref z]) ++ List.replicate (4 - (lg_sl ([.ref (ad 0), .int x, .ref z])).length) Slot.unset).toArray = ls at hl ⊢
  have hl : lv_has ls 4 [(0, .ref (ad 0)), (1, .int x), (2, .ref z)] := hl
  refine lv_aload_n hx hb dL_bestCover_0 rfl (lv_at hl 2 rfl) ?_
  refine lv_iconst (v := nI 0) hx hb dL_bestCover_1 (by decide) ?_
  refine lv_aload_n hx hb dL_bestCover_2 rfl (lv_at hl 0 rfl) ?_
  refine lv_iload_n hx hb dL_bestCover_3 rfl (lv_at hl 1 rfl) ?_
  refine lxR (As := [.int x]) (rest := [.int (nI 0), .ref z]) ⟨hx, hb, hml, hown, hts⟩ (c_X1_bestCover l D cI cZ cL cJ hst ad n now told v hwf x) (cwV 1 hts gL_bestCover_X1_bestCover rfl rfl rfl (by decide +kernel) ⟨(Nat.le_of_ble_eq_true rfl), (Nat.le_of_ble_eq_true rfl)⟩) hK hE hPX (RC_of (q := (RX1, TX1, 5)) (ci := 1) hK rfl (vpa hPX.1 0 rfl)) rfl hl.1 rfl (Nat.le_of_ble_eq_true rfl) dL_bestCover_4 ⟨(Nat.le_of_ble_eq_true rfl), (Nat.le_of_ble_eq_true rfl)⟩ (fun E ce q9 H hp hz1 hk hce hcv hcl => ?_) (fun hok => ?_)
  · have hS : va_S (AL ad z) s.heap H [] := va_S_old hz1 hk
    obtain ⟨hcd, rfl⟩ := exC1 hp
    refine vx_catch (name := "java/lang/IllegalArgumentException") hown [] ⟨0, 9, 12, 21⟩ [] (by rw [htab]; rfl) (fun y hy => by cases hy) rfl (by decide) (hts (.classLink RL 21 "java/lang/IllegalArgumentException") (List.mem_of_getElem? (i := 1) rfl)) (va_Nw.use rfl (hE.2.2.1.2.2 _ (by decide))) hce hcv hcl ?_
    show W _ _ _ _ _ _ _ _ _ _ _ _ _ _ _ (F0 m 12 ls [.ref q9])
    have hend : LEnd D cI cL cJ ad z n now told v (cd1 (inB (nI 1) (nI 200) x)) ((oI1 (bcvN v n now (ixx x) n)).toInt64) H := by
      rw [hcd]
      exact ⟨PX_keep (A := fun _ => False) hPX (fun _ _ h => h) (fun q h _ => hk q h), f, outK (A := fun _ => False) hOut (fun h => h) (fun q h _ => hk q h), fun h => absurd h (by decide)⟩
    refine lv_astore_n (lv' := [(3, .ref q9), (0, .ref (ad 0)), (1, .int x), (2, .ref z)]) hx hb dL_bestCover_12 rfl hl (by decide) rfl (fun ls hl => ?_)
    refine lv_iconst (v := nI 1) hx hb dL_bestCover_13 (by decide) ?_
    refine n_ti (y := nI (cd1 (inB (nI 1) (nI 200) x))) (by rw [hcd]) ?_
    exact W.iret (v := nI (cd1 (inB (nI 1) (nI 200) x))) hx hb hr (fun t ht hW => ⟨trivial, rfl, by rw [ht]; exact hend, hS.F ht⟩) hS.2.2 dL_bestCover_14
  · have hS : va_S (AL ad z) s.heap s.heap [] := va_S.rf
    have hPn := hPX
    have hO2 := hOut
    refine lv_i2l (v := (oI1 (bcvN v n now (ixx x) n)).toInt64) hx hb dL_bestCover_7 rfl ?_
    refine n_lastK hx hb hK hO2 hS (Or.inr rfl) 3 rfl dL_bestCover_8 (fun H5 locs hO5 hz5 hk5 hS => ?_)
    have hPX5 := PX_keep (A := fun q => q = z) (H := H5) hPn (fun i hi h => hz ⟨i, hi, h.symm⟩) (fun q _ h => hk5 q h)
    have hend : LEnd D cI cL cJ ad z n now told v (cd1 (inB (nI 1) (nI 200) x)) ((oI1 (bcvN v n now (ixx x) n)).toInt64) H5 := by
      rw [hok]
      exact ⟨hPX5, _, hO5, fun _ => rfl⟩
    refine lv_goto (tgt := 15) hx hb dL_bestCover_9 (by decide) ?_
    refine lv_iconst (v := nI 0) hx hb dL_bestCover_15 (by decide) ?_
    refine n_ti (y := nI (cd1 (inB (nI 1) (nI 200) x))) (by rw [hok]) ?_
    exact W.iret (v := nI (cd1 (inB (nI 1) (nI 200) x))) hx hb hr (fun t ht hW => ⟨trivial, rfl, by rw [ht]; exact hend, hS.F ht⟩) hS.2.2 dL_bestCover_16
