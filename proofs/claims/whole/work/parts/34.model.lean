set_option maxHeartbeats 4000000 in
set_option maxRecDepth 100000 in
/-- isIn -/
theorem c_X2_isIn (l : Launch) (D : va_G) (cI cZ cL cJ : ClassId) (x lo hi : Int32) : Met l yX2_isIn wsX2_isIn ({ frames := 0, cells := 0, slots := 0, locals := 0 } : Room) (PC D (TY cI cZ cL cJ) noA [.int x, .int lo, .int hi] (fun _ => True)) (QcRead (bI (inB lo hi x))) 0 0 (fun _ => False) := by
  refine Met.ofW (cc := cX2_isIn) (maxL := 3) (ret := (some .boolean)) (by decide) rfl ?_
  intro p e s m args below meth c s₁ B hml hv
  obtain ⟨rfl, hK, hE, -⟩ := hv
  have hx := B.exec
  have hb := B.bytes
  have hr := B.returns
  have hts := atoms_spec (ws := wsX2_isIn) B.pre
  have hown : s.vm.findClass RX2 = some m.cls := findClass_of_methodNamed B.named
  have hlocks := B.notSynchronized
  have hNF := hE.2.1.1
  have hl := lv_entry ([.int x, .int lo, .int hi]) (n := 3) (Nat.le_of_ble_eq_true rfl)
  rw [lg_entry_eq]
  generalize (lg_sl ([.int x, .int lo, .int hi]) ++ List.replicate (3 - (lg_sl ([.int x, .int lo, .int hi])).length) Slot.unset).toArray = ls at hl ⊢
  have hl : lv_has ls 3 [(0, .int x), (1, .int lo), (2, .int hi)] := hl
  refine lv_iload_n hx hb dX2_isIn_0 rfl (lv_at hl 0 rfl) ?_
  refine lv_iload_n hx hb dX2_isIn_1 rfl (lv_at hl 1 rfl) ?_
  refine lv_icmp_lt (tgt := 14) hx hb dX2_isIn_2 (by decide) (fun c_2 => ?_) (fun c_2 => ?_)
  · refine lv_iconst (v := nI 0) hx hb dX2_isIn_14 (by decide) ?_
    refine n_ti (y := bI (inB lo hi x)) (by unfold inB; first | (rw [decide_eq_true c_2]; rfl) | (rw [decide_eq_false c_2, decide_eq_true c_7]; rfl) | (rw [decide_eq_false c_2, decide_eq_false c_7]; rfl)) ?_
    exact W.zret (v := bI (inB lo hi x)) hx hb hr (bI_narrow _) (fun t ht hW => ⟨rfl, ht⟩) (fun _ h => by cases h) dX2_isIn_15
  · refine lv_iload_n hx hb dX2_isIn_5 rfl (lv_at hl 0 rfl) ?_
    refine lv_iload_n hx hb dX2_isIn_6 rfl (lv_at hl 2 rfl) ?_
    refine lv_icmp_gt (tgt := 14) hx hb dX2_isIn_7 (by decide) (fun c_7 => ?_) (fun c_7 => ?_)
    · refine lv_iconst (v := nI 0) hx hb dX2_isIn_14 (by decide) ?_
      refine n_ti (y := bI (inB lo hi x)) (by unfold inB; first | (rw [decide_eq_true c_2]; rfl) | (rw [decide_eq_false c_2, decide_eq_true c_7]; rfl) | (rw [decide_eq_false c_2, decide_eq_false c_7]; rfl)) ?_
      exact W.zret (v := bI (inB lo hi x)) hx hb hr (bI_narrow _) (fun t ht hW => ⟨rfl, ht⟩) (fun _ h => by cases h) dX2_isIn_15
    · refine lv_iconst (v := nI 1) hx hb dX2_isIn_10 (by decide) ?_
      refine lv_goto (tgt := 15) hx hb dX2_isIn_11 (by decide) ?_
      refine n_ti (y := bI (inB lo hi x)) (by unfold inB; first | (rw [decide_eq_true c_2]; rfl) | (rw [decide_eq_false c_2, decide_eq_true c_7]; rfl) | (rw [decide_eq_false c_2, decide_eq_false c_7]; rfl)) ?_
      exact W.zret (v := bI (inB lo hi x)) hx hb hr (bI_narrow _) (fun t ht hW => ⟨rfl, ht⟩) (fun _ h => by cases h) dX2_isIn_15
set_option maxHeartbeats 4000000 in
set_option maxRecDepth 100000 in
/-- isLamp -/
theorem c_X2_isLamp (l : Launch) (D : va_G) (cI cZ cL cJ : ClassId) (am : Nat → Nat) (th : Int32) (n now : Nat) (told : Int32) (v : Nat → LV) (hwf : WFX n now v) (k : Int32) : Met l yX2_isLamp wsX2_isLamp ({ frames := 1, cells := 0, slots := 0, locals := 22 } : Room) (PC D (TY cI cZ cL cJ) noA [.ref (am 0), .int k] (fun H => PM D cI cZ am th n now told v H)) (QcRead (bI (lpOk n k))) 0 0 (fun _ => False) := by
  refine Met.ofW (cc := cX2_isLamp) (maxL := 2) (ret := (some .boolean)) (by decide) rfl ?_
  intro p e s m args below meth c s₁ B hml hv
  obtain ⟨rfl, hK, hE, hP⟩ := hv
  obtain ⟨hn8, hnow, hwl⟩ := hwf
  have hx := B.exec
  have hb := B.bytes
  have hr := B.returns
  have hts := atoms_spec (ws := wsX2_isLamp) B.pre
  have hown : s.vm.findClass RX2 = some m.cls := findClass_of_methodNamed B.named
  have hlocks := B.notSynchronized
  have hNF := hE.2.1.1
  have hin2 : ∀ w ∈ wsX20, w ∈ wsX2_isLamp := by decide +kernel
  have hl := lv_entry ([.ref (am 0), .int k]) (n := 2) (Nat.le_of_ble_eq_true rfl)
  rw [lg_entry_eq]
  generalize (lg_sl ([.ref (am 0), .int k]) ++ List.replicate (2 - (lg_sl ([.ref (am 0), .int k])).length) Slot.unset).toArray = ls at hl ⊢
  have hl : lv_has ls 2 [(0, .ref (am 0)), (1, .int k)] := hl
  refine lv_iload_n hx hb dX2_isLamp_0 rfl (lv_at hl 1 rfl) ?_
  refine lv_iconst (v := nI 0) hx hb dX2_isLamp_1 (by decide) ?_
  refine lv_aload_n hx hb dX2_isLamp_2 rfl (lv_at hl 0 rfl) ?_
  refine va_get (D := D) (ci := 2) (v := .int (nI n)) (C := RX2) (T := TX2) (N := 9) hx hb hts hin2 hown hK hP 0 rfl rfl 3 (by decide) (hts (.fieldLink RX2 30 "LanternPrimesModel" "lamps" "I") (List.mem_of_getElem? (i := 1) rfl)) (fun _ h9 => h9) rfl dX2_isLamp_3 ?_
  refine lv_iconst (v := nI 1) hx hb dX2_isLamp_6 (by decide) ?_
  refine n_isub (v := (nI n - nI 1)) hx hb dX2_isLamp_7 rfl ?_
  refine rS (r := bI (inB (nI 0) (nI n - nI 1) k)) (As := [.int k, .int (nI 0), .int (nI n - nI 1)]) (rest := []) ⟨hx, hb, hml, hown, hts⟩ (c_X2_isIn l D cI cZ cL cJ k (nI 0) (nI n - nI 1)) (va_cwS 3 hts gX2_isLamp_X2_isIn rfl rfl rfl (by decide +kernel) ⟨(Nat.le_of_ble_eq_true rfl), (Nat.le_of_ble_eq_true rfl)⟩) hK hE trivial rfl hl.1 rfl (Nat.le_of_ble_eq_true rfl) dX2_isLamp_8 ⟨(Nat.le_of_ble_eq_true rfl), (Nat.le_of_ble_eq_true rfl)⟩ ?_
  refine n_ti (y := bI (lpOk n k)) (by rw [rg_in (by omega)]; rfl) ?_
  exact W.zret (v := bI (lpOk n k)) hx hb hr (bI_narrow _) (fun t ht hW => ⟨rfl, ht⟩) (fun _ h => by cases h) dX2_isLamp_11
set_option maxHeartbeats 4000000 in
set_option maxRecDepth 100000 in
/-- isBeat -/
theorem c_X2_isBeat (l : Launch) (D : va_G) (cI cZ cL cJ : ClassId) (am : Nat → Nat) (th : Int32) (n now : Nat) (told : Int32) (v : Nat → LV) (hwf : WFX n now v) (k b : Int32) : Met l yX2_isBeat wsX2_isBeat ({ frames := 2, cells := 0, slots := 0, locals := 43 } : Room) (PC D (TY cI cZ cL cJ) noA [.ref (am 0), .int k, .int b] (fun H => PM D cI cZ am th n now told v H)) (QcRead (bI (btOk n v k b))) 0 0 (fun _ => False) := by
  refine Met.ofW (cc := cX2_isBeat) (maxL := 3) (ret := (some .boolean)) (by decide) rfl ?_
  intro p e s m args below meth c s₁ B hml hv
  obtain ⟨rfl, hK, hE, hP⟩ := hv
  obtain ⟨hn8, hnow, hwl⟩ := hwf
  have hx := B.exec
  have hb := B.bytes
  have hr := B.returns
  have hts := atoms_spec (ws := wsX2_isBeat) B.pre
  have hown : s.vm.findClass RX2 = some m.cls := findClass_of_methodNamed B.named
  have hlocks := B.notSynchronized
  have hNF := hE.2.1.1
  have hin2 : ∀ w ∈ wsX20, w ∈ wsX2_isBeat := by decide +kernel
  have hl := lv_entry ([.ref (am 0), .int k, .int b]) (n := 3) (Nat.le_of_ble_eq_true rfl)
  rw [lg_entry_eq]
  generalize (lg_sl ([.ref (am 0), .int k, .int b]) ++ List.replicate (3 - (lg_sl ([.ref (am 0), .int k, .int b])).length) Slot.unset).toArray = ls at hl ⊢
  have hl : lv_has ls 3 [(0, .ref (am 0)), (1, .int k), (2, .int b)] := hl
  refine lv_aload_n hx hb dX2_isBeat_0 rfl (lv_at hl 0 rfl) ?_
  refine lv_iload_n hx hb dX2_isBeat_1 rfl (lv_at hl 1 rfl) ?_
  refine rV (r := bI (lpOk n k)) (As := [.int k]) (rest := []) ⟨hx, hb, hml, hown, hts⟩ (c_X2_isLamp l D cI cZ cL cJ am th n now told v ⟨hn8, hnow, hwl⟩ k) (cwV 1 hts gX2_isBeat_X2_isLamp rfl rfl rfl (by decide +kernel) ⟨(Nat.le_of_ble_eq_true rfl), (Nat.le_of_ble_eq_true rfl)⟩) hK hE hP (RC_of (q := (RX2, TX2, 9)) (ci := 2) hK rfl (vpa hP 0 rfl)) rfl hl.1 rfl (Nat.le_of_ble_eq_true rfl) dX2_isBeat_2 ⟨(Nat.le_of_ble_eq_true rfl), (Nat.le_of_ble_eq_true rfl)⟩ ?_
  refine b_if_eq (b := lpOk n k) (tgt := 28) hx hb dX2_isBeat_5 (by decide) (fun c_5 => ?_) (fun c_5 => ?_)
  · refine lv_iconst (v := nI 0) hx hb dX2_isBeat_28 (by decide) ?_
    refine n_ti (y := bI (btOk n v k b)) (by unfold btOk; rw [c_5]; rfl) ?_
    exact W.zret (v := bI (btOk n v k b)) hx hb hr (bI_narrow _) (fun t ht hW => ⟨rfl, ht⟩) (fun _ h => by cases h) dX2_isBeat_29
  · obtain ⟨j, hj, rfl⟩ := lpOk_j (by omega) c_5
    have hw4 := (hwl j (by omega)).1
    refine lv_iload_n hx hb dX2_isBeat_8 rfl (lv_at hl 2 rfl) ?_
    refine lv_iconst (v := nI 0) hx hb dX2_isBeat_9 (by decide) ?_
    refine lv_aload_n hx hb dX2_isBeat_10 rfl (lv_at hl 0 rfl) ?_
    refine va_get (D := D) (ci := 2) (v := .ref (am 3)) (C := RX2) (T := TX2) (N := 9) hx hb hts hin2 hown hK hP 0 rfl rfl 6 (by decide) (hts (.fieldLink RX2 16 "LanternPrimesModel" "beats" "[I") (List.mem_of_getElem? (i := 1) rfl)) (fun _ h9 => h9) rfl dX2_isBeat_11 ?_
    refine lv_iload_n hx hb dX2_isBeat_14 rfl (lv_at hl 1 rfl) ?_
    refine n_iald (v := nI (lbc (v j))) (j := j) hx hb hK hP 3 0 rfl rfl (by omega) (by decide) rfl dX2_isBeat_15 ?_
    refine lv_iconst (v := nI 1) hx hb dX2_isBeat_16 (by decide) ?_
    refine n_isub (v := (nI (lbc (v j)) - nI 1)) hx hb dX2_isBeat_17 rfl ?_
    refine rS (r := bI (inB (nI 0) (nI (lbc (v j)) - nI 1) b)) (As := [.int b, .int (nI 0), .int (nI (lbc (v j)) - nI 1)]) (rest := []) ⟨hx, hb, hml, hown, hts⟩ (c_X2_isIn l D cI cZ cL cJ b (nI 0) (nI (lbc (v j)) - nI 1)) (va_cwS 3 hts gX2_isBeat_X2_isIn rfl rfl rfl (by decide +kernel) ⟨(Nat.le_of_ble_eq_true rfl), (Nat.le_of_ble_eq_true rfl)⟩) hK hE trivial rfl hl.1 rfl (Nat.le_of_ble_eq_true rfl) dX2_isBeat_18 ⟨(Nat.le_of_ble_eq_true rfl), (Nat.le_of_ble_eq_true rfl)⟩ ?_
    refine b_if_eq (b := inB (nI 0) (nI (lbc (v j)) - nI 1) b) (tgt := 28) hx hb dX2_isBeat_21 (by decide) (fun c_21 => ?_) (fun c_21 => ?_)
    · refine lv_iconst (v := nI 0) hx hb dX2_isBeat_28 (by decide) ?_
      refine n_ti (y := bI (btOk n v (nI j) b)) (by rw [rg_in (by omega)] at c_21; unfold btOk; rw [c_5, ixx_nI (by omega)]; unfold lpOk; rw [c_21]; rfl) ?_
      exact W.zret (v := bI (btOk n v (nI j) b)) hx hb hr (bI_narrow _) (fun t ht hW => ⟨rfl, ht⟩) (fun _ h => by cases h) dX2_isBeat_29
    · refine lv_iconst (v := nI 1) hx hb dX2_isBeat_24 (by decide) ?_
      refine lv_goto (tgt := 29) hx hb dX2_isBeat_25 (by decide) ?_
      refine n_ti (y := bI (btOk n v (nI j) b)) (by rw [rg_in (by omega)] at c_21; unfold btOk; rw [c_5, ixx_nI (by omega)]; unfold lpOk; rw [c_21]; rfl) ?_
      exact W.zret (v := bI (btOk n v (nI j) b)) hx hb hr (bI_narrow _) (fun t ht hW => ⟨rfl, ht⟩) (fun _ h => by cases h) dX2_isBeat_29
set_option maxHeartbeats 4000000 in
set_option maxRecDepth 100000 in
/-- isPrime -/
theorem c_X2_isPrime (l : Launch) (D : va_G) (cI cZ cL cJ : ClassId) (x : Int32) : Met l yX2_isPrime wsX2_isPrime ({ frames := 0, cells := 0, slots := 0, locals := 0 } : Room) (PC D (TY cI cZ cL cJ) noA [.int x] (fun _ => True)) (QcRead (bI (prB x))) 0 0 (fun _ => False) := by
  refine Met.ofW (cc := cX2_isPrime) (maxL := 1) (ret := (some .boolean)) (by decide) rfl ?_
  intro p e s m args below meth c s₁ B hml hv
  obtain ⟨rfl, hK, hE, -⟩ := hv
  have hx := B.exec
  have hb := B.bytes
  have hr := B.returns
  have hts := atoms_spec (ws := wsX2_isPrime) B.pre
  have hown : s.vm.findClass RX2 = some m.cls := findClass_of_methodNamed B.named
  have hlocks := B.notSynchronized
  have hNF := hE.2.1.1
  have hl := lv_entry ([.int x]) (n := 1) (Nat.le_of_ble_eq_true rfl)
  rw [lg_entry_eq]
  generalize (lg_sl ([.int x]) ++ List.replicate (1 - (lg_sl ([.int x])).length) Slot.unset).toArray = ls at hl ⊢
  have hl : lv_has ls 1 [(0, .int x)] := hl
  refine lv_iload_n hx hb dX2_isPrime_0 rfl (lv_at hl 0 rfl) ?_
  refine lv_iconst (v := nI 2) hx hb dX2_isPrime_1 (by decide) ?_
  refine lv_icmp_eq (tgt := 33) hx hb dX2_isPrime_2 (by decide) (fun c_2 => ?_) (fun c_2 => ?_)
  · refine lv_iconst (v := nI 1) hx hb dX2_isPrime_33 (by decide) ?_
    refine lv_goto (tgt := 38) hx hb dX2_isPrime_34 (by decide) ?_
    refine n_ti (y := bI (prB x)) (by rw [prB_t.mpr ⟨0, by decide, c_2⟩]; rfl) ?_
    exact W.zret (v := bI (prB x)) hx hb hr (bI_narrow _) (fun t ht hW => ⟨rfl, ht⟩) (fun _ h => by cases h) dX2_isPrime_38
  · refine lv_iload_n hx hb dX2_isPrime_5 rfl (lv_at hl 0 rfl) ?_
    refine lv_iconst (v := nI 3) hx hb dX2_isPrime_6 (by decide) ?_
    refine lv_icmp_eq (tgt := 33) hx hb dX2_isPrime_7 (by decide) (fun c_7 => ?_) (fun c_7 => ?_)
    · refine lv_iconst (v := nI 1) hx hb dX2_isPrime_33 (by decide) ?_
      refine lv_goto (tgt := 38) hx hb dX2_isPrime_34 (by decide) ?_
      refine n_ti (y := bI (prB x)) (by rw [prB_t.mpr ⟨1, by decide, c_7⟩]; rfl) ?_
      exact W.zret (v := bI (prB x)) hx hb hr (bI_narrow _) (fun t ht hW => ⟨rfl, ht⟩) (fun _ h => by cases h) dX2_isPrime_38
    · refine lv_iload_n hx hb dX2_isPrime_10 rfl (lv_at hl 0 rfl) ?_
      refine lv_iconst (v := nI 5) hx hb dX2_isPrime_11 (by decide) ?_
      refine lv_icmp_eq (tgt := 33) hx hb dX2_isPrime_12 (by decide) (fun c_12 => ?_) (fun c_12 => ?_)
      · refine lv_iconst (v := nI 1) hx hb dX2_isPrime_33 (by decide) ?_
        refine lv_goto (tgt := 38) hx hb dX2_isPrime_34 (by decide) ?_
        refine n_ti (y := bI (prB x)) (by rw [prB_t.mpr ⟨2, by decide, c_12⟩]; rfl) ?_
        exact W.zret (v := bI (prB x)) hx hb hr (bI_narrow _) (fun t ht hW => ⟨rfl, ht⟩) (fun _ h => by cases h) dX2_isPrime_38
      · refine lv_iload_n hx hb dX2_isPrime_15 rfl (lv_at hl 0 rfl) ?_
        refine lv_bipush (v := nI 7) hx hb dX2_isPrime_16 (by decide) ?_
        refine lv_icmp_eq (tgt := 33) hx hb dX2_isPrime_18 (by decide) (fun c_18 => ?_) (fun c_18 => ?_)
        · refine lv_iconst (v := nI 1) hx hb dX2_isPrime_33 (by decide) ?_
          refine lv_goto (tgt := 38) hx hb dX2_isPrime_34 (by decide) ?_
          refine n_ti (y := bI (prB x)) (by rw [prB_t.mpr ⟨3, by decide, c_18⟩]; rfl) ?_
          exact W.zret (v := bI (prB x)) hx hb hr (bI_narrow _) (fun t ht hW => ⟨rfl, ht⟩) (fun _ h => by cases h) dX2_isPrime_38
        · refine lv_iload_n hx hb dX2_isPrime_21 rfl (lv_at hl 0 rfl) ?_
          refine lv_bipush (v := nI 11) hx hb dX2_isPrime_22 (by decide) ?_
          refine lv_icmp_eq (tgt := 33) hx hb dX2_isPrime_24 (by decide) (fun c_24 => ?_) (fun c_24 => ?_)
          · refine lv_iconst (v := nI 1) hx hb dX2_isPrime_33 (by decide) ?_
            refine lv_goto (tgt := 38) hx hb dX2_isPrime_34 (by decide) ?_
            refine n_ti (y := bI (prB x)) (by rw [prB_t.mpr ⟨4, by decide, c_24⟩]; rfl) ?_
            exact W.zret (v := bI (prB x)) hx hb hr (bI_narrow _) (fun t ht hW => ⟨rfl, ht⟩) (fun _ h => by cases h) dX2_isPrime_38
          · refine lv_iload_n hx hb dX2_isPrime_27 rfl (lv_at hl 0 rfl) ?_
            refine lv_bipush (v := nI 13) hx hb dX2_isPrime_28 (by decide) ?_
            refine lv_icmp_ne (tgt := 37) hx hb dX2_isPrime_30 (by decide) (fun c_30 => ?_) (fun c_30 => ?_)
            · refine lv_iconst (v := nI 0) hx hb dX2_isPrime_37 (by decide) ?_
              refine n_ti (y := bI (prB x)) (by rw [prB_no c_2 c_7 c_12 c_18 c_24 c_30]; rfl) ?_
              exact W.zret (v := bI (prB x)) hx hb hr (bI_narrow _) (fun t ht hW => ⟨rfl, ht⟩) (fun _ h => by cases h) dX2_isPrime_38
            · refine lv_iconst (v := nI 1) hx hb dX2_isPrime_33 (by decide) ?_
              refine lv_goto (tgt := 38) hx hb dX2_isPrime_34 (by decide) ?_
              refine n_ti (y := bI (prB x)) (by rw [prB_t.mpr ⟨5, by decide, c_30⟩]; rfl) ?_
              exact W.zret (v := bI (prB x)) hx hb hr (bI_narrow _) (fun t ht hW => ⟨rfl, ht⟩) (fun _ h => by cases h) dX2_isPrime_38
set_option maxHeartbeats 4000000 in
set_option maxRecDepth 100000 in
/-- strikes -/
theorem c_X2_strikes (l : Launch) (D : va_G) (cI cZ cL cJ : ClassId) (am : Nat → Nat) (th : Int32) (n now : Nat) (told : Int32) (v : Nat → LV) (hwf : WFX n now v) (j : Nat) (hj : j < n) (t : Nat) (ht : t < 2 ^ 25) : Met l yX2_strikes wsX2_strikes ({ frames := 0, cells := 0, slots := 0, locals := 0 } : Room) (PC D (TY cI cZ cL cJ) noA [.ref (am 0), .int (nI j), .int (nI t)] (fun H => PM D cI cZ am th n now told v H)) (QcRead (nI (strk (v j) t (lbc (v j))))) 0 0 (fun _ => False) := by
  refine Met.ofW (cc := cX2_strikes) (maxL := 5) (ret := (some .int)) (by decide) rfl ?_
  intro p e s m args below meth c s₁ B hml hv
  obtain ⟨rfl, hK, hE, hP⟩ := hv
  obtain ⟨hn8, hnow, hwl⟩ := hwf
  have hwj := hwl j (by omega)
  have hw4 := hwj.1
  have hx := B.exec
  have hb := B.bytes
  have hr := B.returns
  have hts := atoms_spec (ws := wsX2_strikes) B.pre
  have hown : s.vm.findClass RX2 = some m.cls := findClass_of_methodNamed B.named
  have hlocks := B.notSynchronized
  have hNF := hE.2.1.1
  have hin2 : ∀ w ∈ wsX20, w ∈ wsX2_strikes := by decide +kernel
  have hl := lv_entry ([.ref (am 0), .int (nI j), .int (nI t)]) (n := 5) (Nat.le_of_ble_eq_true rfl)
  rw [lg_entry_eq]
  generalize (lg_sl ([.ref (am 0), .int (nI j), .int (nI t)]) ++ List.replicate (5 - (lg_sl ([.ref (am 0), .int (nI j), .int (nI t)])).length) Slot.unset).toArray = ls at hl ⊢
  have hl : lv_has ls 5 [(0, .ref (am 0)), (1, .int (nI j)), (2, .int (nI t))] := hl
  refine lv_iconst (v := nI 0) hx hb dX2_strikes_0 (by decide) ?_
  refine lv_istore_n (lv' := [(3, .int (nI 0)), (0, .ref (am 0)), (1, .int (nI j)), (2, .int (nI t))]) hx hb dX2_strikes_1 rfl hl (by decide) rfl (fun ls hl => ?_)
  refine lv_iconst (v := nI 4) hx hb dX2_strikes_2 (by decide) ?_
  refine lv_iload_n hx hb dX2_strikes_3 rfl (lv_at hl 2 rfl) ?_
  refine n_imul (v := nI (4 * j)) hx hb dX2_strikes_4 (pk_mul _ _) ?_
  refine lv_istore (lv' := [(4, .int (nI (4 * j))), (3, .int (nI 0)), (0, .ref (am 0)), (1, .int (nI j)), (2, .int (nI t))]) hx hb dX2_strikes_5 hl (by decide) rfl (fun ls hl => ?_)
  have loop_7 : ∀ (fu : Nat) (i : Nat), lbc (v j) + 1 - i ≤ fu → i ≤ lbc (v j) → ∀ (ls : Array Slot), lv_has ls 5 [(4, .int (nI (4 * j + i))), (3, .int (nI (strk (v j) t i))), (0, .ref (am 0)), (1, .int (nI j)), (2, .int (nI t))] → W p l e (headSpec wsX2_strikes ({ frames := 0, cells := 0, slots := 0, locals := 0 } : Room)).room s m [.ref (am 0), .int (nI j), .int (nI t)].toArray below meth c s.heap [] 0 0 (MQ below (QcRead (nI (strk (v j) t (lbc (v j))))) [.ref (am 0), .int (nI j), .int (nI t)].toArray s 0 0 (fun _ => False)) (F0 m 7 ls []) := by
    intro fu
    induction fu with
    | zero => intro i hn_7 hi; exact absurd hn_7 (by omega)
    | succ fu ih_7 =>
      intro i hn_7 hi ls hl
      refine lv_iload hx hb dX2_strikes_7 (lv_at hl 0 rfl) ?_
      refine lv_iconst (v := nI 4) hx hb dX2_strikes_9 (by decide) ?_
      refine lv_iload_n hx hb dX2_strikes_10 rfl (lv_at hl 3 rfl) ?_
      refine n_imul (v := nI (4 * j)) hx hb dX2_strikes_11 (pk_mul _ _) ?_
      refine lv_aload_n hx hb dX2_strikes_12 rfl (lv_at hl 2 rfl) ?_
      refine va_get (D := D) (ci := 2) (v := .ref (am 3)) (C := RX2) (T := TX2) (N := 9) hx hb hts hin2 hown hK hP 0 rfl rfl 6 (by decide) (hts (.fieldLink RX2 16 "LanternPrimesModel" "beats" "[I") (List.mem_of_getElem? (i := 1) rfl)) (fun _ h9 => h9) rfl dX2_strikes_13 ?_
      refine lv_iload_n hx hb dX2_strikes_16 rfl (lv_at hl 3 rfl) ?_
      refine n_iald (v := nI (lbc (v j))) (j := j) hx hb hK hP 3 0 rfl rfl (by omega) (by decide) rfl dX2_strikes_17 ?_
      refine n_iadd (v := nI ((4 * j) + (lbc (v j)))) hx hb dX2_strikes_18 (nI_add _ _) ?_
      refine n_icmp_ge (a := 4 * j + i) (b := (4 * j) + (lbc (v j))) (tgt := 55) hx hb (by omega) (by omega) dX2_strikes_19 (by decide) (fun c_19 => ?_) (fun c_19 => ?_)
      · refine lv_iload_n hx hb dX2_strikes_55 rfl (lv_at hl 1 rfl) ?_
        refine n_ti (y := nI (strk (v j) t (lbc (v j)))) (by rw [show i = lbc (v j) by omega]) ?_
        exact W.iret (v := nI (strk (v j) t (lbc (v j)))) hx hb hr (fun t ht hW => ⟨rfl, ht⟩) (fun _ h => by cases h) dX2_strikes_56
      · have hi4 : i < lbc (v j) := by omega
        have hw := isP_le (hwj.2 i hi4).1
        have hw2 := (hwj.2 i hi4).2
        have join_47 : ∀ (ls : Array Slot), lv_has ls 5 [(4, .int (nI (4 * j + i))), (3, .int (nI (strk (v j) t i))), (0, .ref (am 0)), (1, .int (nI j)), (2, .int (nI t))] → W p l e (headSpec wsX2_strikes ({ frames := 0, cells := 0, slots := 0, locals := 0 } : Room)).room s m [.ref (am 0), .int (nI j), .int (nI t)].toArray below meth c s.heap [] 0 0 (MQ below (QcRead (nI (strk (v j) t (lbc (v j))))) [.ref (am 0), .int (nI j), .int (nI t)].toArray s 0 0 (fun _ => False)) (F0 m 47 ls [.int (nI (if t % lnu (v j) i = lof (v j) i then 1 else 0)), .int (nI (strk (v j) t i))]) := by
          intro   ls hl
          refine n_iadd (v := nI (strk (v j) t (i + 1))) hx hb dX2_strikes_47 (nI_add _ _) ?_
          refine lv_istore_n (lv' := [(3, .int (nI (strk (v j) t (i + 1)))), (4, .int (nI (4 * j + i))), (0, .ref (am 0)), (1, .int (nI j)), (2, .int (nI t))]) hx hb dX2_strikes_48 rfl hl (by decide) rfl (fun ls hl => ?_)
          refine lv_iinc (v := nI ((4 * j + i) + 1)) (lv' := [(4, .int (nI ((4 * j + i) + 1))), (3, .int (nI (strk (v j) t (i + 1)))), (0, .ref (am 0)), (1, .int (nI j)), (2, .int (nI t))]) hx hb dX2_strikes_49 hl (k := 1) rfl (nI_inc _) (by decide) rfl (fun ls hl => ?_)
          refine lv_goto (tgt := 7) hx hb dX2_strikes_52 (by decide) ?_
          exact ih_7 (i + 1) (by omega) (by omega) ls (lv_sub hl [0, 1, 2, 3, 4] rfl)
        refine lv_iload_n hx hb dX2_strikes_22 rfl (lv_at hl 1 rfl) ?_
        refine lv_iload_n hx hb dX2_strikes_23 rfl (lv_at hl 4 rfl) ?_
        refine lv_aload_n hx hb dX2_strikes_24 rfl (lv_at hl 2 rfl) ?_
        refine va_get (D := D) (ci := 2) (v := .ref (am 4)) (C := RX2) (T := TX2) (N := 9) hx hb hts hin2 hown hK hP 0 rfl rfl 7 (by decide) (hts (.fieldLink RX2 20 "LanternPrimesModel" "number" "[I") (List.mem_of_getElem? (i := 2) rfl)) (fun _ h9 => h9) rfl dX2_strikes_25 ?_
        refine lv_iload hx hb dX2_strikes_28 (lv_at hl 0 rfl) ?_
        refine n_iald (v := nI (lnu (v j) i)) (j := 4 * j + i) hx hb hK hP 4 0 rfl rfl (by omega) (by decide) (by show nI (lnu (v ((4 * j + i) / 4)) ((4 * j + i) % 4)) = _; rw [(idx4 (by omega)).1, (idx4 (by omega)).2]) dX2_strikes_30 ?_
        refine n_irem (a := t) (d := lnu (v j) i) hx hb dX2_strikes_31 (by omega) (by omega) (by omega) ?_
        refine lv_aload_n hx hb dX2_strikes_32 rfl (lv_at hl 2 rfl) ?_
        refine va_get (D := D) (ci := 2) (v := .ref (am 5)) (C := RX2) (T := TX2) (N := 9) hx hb hts hin2 hown hK hP 0 rfl rfl 8 (by decide) (hts (.fieldLink RX2 23 "LanternPrimesModel" "offset" "[I") (List.mem_of_getElem? (i := 3) rfl)) (fun _ h9 => h9) rfl dX2_strikes_33 ?_
        refine lv_iload hx hb dX2_strikes_36 (lv_at hl 0 rfl) ?_
        refine n_iald (v := nI (lof (v j) i)) (j := 4 * j + i) hx hb hK hP 5 0 rfl rfl (by omega) (by decide) (by show nI (lof (v ((4 * j + i) / 4)) ((4 * j + i) % 4)) = _; rw [(idx4 (by omega)).1, (idx4 (by omega)).2]) dX2_strikes_38 ?_
        refine n_icmp_ne (a := t % (lnu (v j) i)) (b := lof (v j) i) (tgt := 46) hx hb (Nat.lt_of_le_of_lt (Nat.mod_le _ _) (by omega)) (by omega) dX2_strikes_39 (by decide) (fun c_39 => ?_) (fun c_39 => ?_)
        · refine lv_iconst (v := nI 0) hx hb dX2_strikes_46 (by decide) ?_
          refine n_ti (y := nI (if t % lnu (v j) i = lof (v j) i then 1 else 0)) (by first | (rw [if_pos c_39]) | (rw [if_neg c_39])) ?_
          exact join_47 ls (lv_sub hl [0, 1, 2, 3, 4] rfl)
        · refine lv_iconst (v := nI 1) hx hb dX2_strikes_42 (by decide) ?_
          refine lv_goto (tgt := 47) hx hb dX2_strikes_43 (by decide) ?_
          refine n_ti (y := nI (if t % lnu (v j) i = lof (v j) i then 1 else 0)) (by first | (rw [if_pos c_39]) | (rw [if_neg c_39])) ?_
          exact join_47 ls (lv_sub hl [0, 1, 2, 3, 4] rfl)
  exact loop_7 (lbc (v j) + 1) 0 (by omega) (Nat.zero_le _) ls (lv_sub hl [0, 1, 2, 3, 4] rfl)
set_option maxHeartbeats 4000000 in
set_option maxRecDepth 100000 in
/-- changes -/
theorem c_X2_changes (l : Launch) (D : va_G) (cI cZ cL cJ : ClassId) (am : Nat → Nat) (th : Int32) (n now : Nat) (told : Int32) (v : Nat → LV) (hwf : WFX n now v) (j : Nat) (hj : j < n) (t : Nat) (ht : t < 2 ^ 25) : Met l yX2_changes wsX2_changes ({ frames := 1, cells := 0, slots := 0, locals := 24 } : Room) (PC D (TY cI cZ cL cJ) noA [.ref (am 0), .int (nI j), .int (nI t)] (fun H => PM D cI cZ am th n now told v H)) (QcRead (bI (chgB (v j) t))) 0 0 (fun _ => False) := by
  refine Met.ofW (cc := cX2_changes) (maxL := 3) (ret := (some .boolean)) (by decide) rfl ?_
  intro p e s m args below meth c s₁ B hml hv
  obtain ⟨rfl, hK, hE, hP⟩ := hv
  obtain ⟨hn8, hnow, hwl⟩ := hwf
  have hwj := hwl j (by omega)
  have hw4 := hwj.1
  have hx := B.exec
  have hb := B.bytes
  have hr := B.returns
  have hts := atoms_spec (ws := wsX2_changes) B.pre
  have hown : s.vm.findClass RX2 = some m.cls := findClass_of_methodNamed B.named
  have hlocks := B.notSynchronized
  have hNF := hE.2.1.1
  have hin2 : ∀ w ∈ wsX20, w ∈ wsX2_changes := by decide +kernel
  have hl := lv_entry ([.ref (am 0), .int (nI j), .int (nI t)]) (n := 3) (Nat.le_of_ble_eq_true rfl)
  rw [lg_entry_eq]
  generalize (lg_sl ([.ref (am 0), .int (nI j), .int (nI t)]) ++ List.replicate (3 - (lg_sl ([.ref (am 0), .int (nI j), .int (nI t)])).length) Slot.unset).toArray = ls at hl ⊢
  have hl : lv_has ls 3 [(0, .ref (am 0)), (1, .int (nI j)), (2, .int (nI t))] := hl
  refine lv_aload_n hx hb dX2_changes_0 rfl (lv_at hl 0 rfl) ?_
  refine lv_iload_n hx hb dX2_changes_1 rfl (lv_at hl 1 rfl) ?_
  refine lv_iload_n hx hb dX2_changes_2 rfl (lv_at hl 2 rfl) ?_
  refine rV (r := nI (strk (v j) t (lbc (v j)))) (As := [.int (nI j), .int (nI t)]) (rest := []) ⟨hx, hb, hml, hown, hts⟩ (c_X2_strikes l D cI cZ cL cJ am th n now told v ⟨hn8, hnow, hwl⟩ j hj t ht) (cwV 2 hts gX2_changes_X2_strikes rfl rfl rfl (by decide +kernel) ⟨(Nat.le_of_ble_eq_true rfl), (Nat.le_of_ble_eq_true rfl)⟩) hK hE hP (RC_of (q := (RX2, TX2, 9)) (ci := 2) hK rfl (vpa hP 0 rfl)) rfl hl.1 rfl (Nat.le_of_ble_eq_true rfl) dX2_changes_3 ⟨(Nat.le_of_ble_eq_true rfl), (Nat.le_of_ble_eq_true rfl)⟩ ?_
  have hs4 := strk_le (v j) t (lbc (v j))
  refine lv_iconst (v := nI 2) hx hb dX2_changes_6 (by decide) ?_
  refine n_irem (a := strk (v j) t (lbc (v j))) (d := 2) hx hb dX2_changes_7 (by omega) (by omega) (by omega) ?_
  refine lv_iconst (v := nI 1) hx hb dX2_changes_8 (by decide) ?_
  refine n_icmp_ne (a := (strk (v j) t (lbc (v j))) % 2) (b := 1) (tgt := 16) hx hb (by omega) (by omega) dX2_changes_9 (by decide) (fun c_9 => ?_) (fun c_9 => ?_)
  · refine lv_iconst (v := nI 0) hx hb dX2_changes_16 (by decide) ?_
    refine n_ti (y := bI (chgB (v j) t)) (by unfold chgB; first | (rw [decide_eq_true c_9]; rfl) | (rw [decide_eq_false c_9]; rfl)) ?_
    exact W.zret (v := bI (chgB (v j) t)) hx hb hr (bI_narrow _) (fun t ht hW => ⟨rfl, ht⟩) (fun _ h => by cases h) dX2_changes_17
  · refine lv_iconst (v := nI 1) hx hb dX2_changes_12 (by decide) ?_
    refine lv_goto (tgt := 17) hx hb dX2_changes_13 (by decide) ?_
    refine n_ti (y := bI (chgB (v j) t)) (by unfold chgB; first | (rw [decide_eq_true c_9]; rfl) | (rw [decide_eq_false c_9]; rfl)) ?_
    exact W.zret (v := bI (chgB (v j) t)) hx hb hr (bI_narrow _) (fun t ht hW => ⟨rfl, ht⟩) (fun _ h => by cases h) dX2_changes_17
set_option maxHeartbeats 4000000 in
set_option maxRecDepth 100000 in
/-- onAt -/
theorem c_X2_onAt (l : Launch) (D : va_G) (cI cZ cL cJ : ClassId) (am : Nat → Nat) (th : Int32) (n now : Nat) (told : Int32) (v : Nat → LV) (hwf : WFX n now v) (j : Nat) (hj : j < n) (t : Nat) (ht : t < 2 ^ 24) : Met l yX2_onAt wsX2_onAt ({ frames := 0, cells := 0, slots := 0, locals := 0 } : Room) (PC D (TY cI cZ cL cJ) noA [.ref (am 0), .int (nI j), .int (nI t)] (fun H => PM D cI cZ am th n now told v H)) (QcRead (bI (onB (v j) t))) 0 0 (fun _ => False) := by
  refine Met.ofW (cc := cX2_onAt) (maxL := 5) (ret := (some .boolean)) (by decide) rfl ?_
  intro p e s m args below meth c s₁ B hml hv
  obtain ⟨rfl, hK, hE, hP⟩ := hv
  obtain ⟨hn8, hnow, hwl⟩ := hwf
  have hwj := hwl j (by omega)
  have hw4 := hwj.1
  have hx := B.exec
  have hb := B.bytes
  have hr := B.returns
  have hts := atoms_spec (ws := wsX2_onAt) B.pre
  have hown : s.vm.findClass RX2 = some m.cls := findClass_of_methodNamed B.named
  have hlocks := B.notSynchronized
  have hNF := hE.2.1.1
  have hin2 : ∀ w ∈ wsX20, w ∈ wsX2_onAt := by decide +kernel
  have hl := lv_entry ([.ref (am 0), .int (nI j), .int (nI t)]) (n := 5) (Nat.le_of_ble_eq_true rfl)
  rw [lg_entry_eq]
  generalize (lg_sl ([.ref (am 0), .int (nI j), .int (nI t)]) ++ List.replicate (5 - (lg_sl ([.ref (am 0), .int (nI j), .int (nI t)])).length) Slot.unset).toArray = ls at hl ⊢
  have hl : lv_has ls 5 [(0, .ref (am 0)), (1, .int (nI j)), (2, .int (nI t))] := hl
  have join_14 : ∀ (ls : Array Slot), lv_has ls 5 [(0, .ref (am 0)), (1, .int (nI j)), (2, .int (nI t))] → W p l e (headSpec wsX2_onAt ({ frames := 0, cells := 0, slots := 0, locals := 0 } : Room)).room s m [.ref (am 0), .int (nI j), .int (nI t)].toArray below meth c s.heap [] 0 0 (MQ below (QcRead (bI (onB (v j) t))) [.ref (am 0), .int (nI j), .int (nI t)].toArray s 0 0 (fun _ => False)) (F0 m 14 ls [.int (nI (on0 (v j)))]) := by
    intro   ls hl
    refine lv_istore_n (lv' := [(3, .int (nI (on0 (v j)))), (0, .ref (am 0)), (1, .int (nI j)), (2, .int (nI t))]) hx hb dX2_onAt_14 rfl hl (by decide) rfl (fun ls hl => ?_)
    refine lv_iconst (v := nI 4) hx hb dX2_onAt_15 (by decide) ?_
    refine lv_iload_n hx hb dX2_onAt_16 rfl (lv_at hl 2 rfl) ?_
    refine n_imul (v := nI (4 * j)) hx hb dX2_onAt_17 (pk_mul _ _) ?_
    refine lv_istore (lv' := [(4, .int (nI (4 * j))), (3, .int (nI (on0 (v j)))), (0, .ref (am 0)), (1, .int (nI j)), (2, .int (nI t))]) hx hb dX2_onAt_18 hl (by decide) rfl (fun ls hl => ?_)
    have loop_20 : ∀ (fu : Nat) (i : Nat), lbc (v j) + 1 - i ≤ fu → i ≤ lbc (v j) → ∀ (ls : Array Slot), lv_has ls 5 [(4, .int (nI (4 * j + i))), (3, .int (nI (on0 (v j) + trn (v j) t i))), (0, .ref (am 0)), (1, .int (nI j)), (2, .int (nI t))] → W p l e (headSpec wsX2_onAt ({ frames := 0, cells := 0, slots := 0, locals := 0 } : Room)).room s m [.ref (am 0), .int (nI j), .int (nI t)].toArray below meth c s.heap [] 0 0 (MQ below (QcRead (bI (onB (v j) t))) [.ref (am 0), .int (nI j), .int (nI t)].toArray s 0 0 (fun _ => False)) (F0 m 20 ls []) := by
      intro fu
      induction fu with
      | zero => intro i hn_20 hi; exact absurd hn_20 (by omega)
      | succ fu ih_20 =>
        intro i hn_20 hi ls hl
        refine lv_iload hx hb dX2_onAt_20 (lv_at hl 0 rfl) ?_
        refine lv_iconst (v := nI 4) hx hb dX2_onAt_22 (by decide) ?_
        refine lv_iload_n hx hb dX2_onAt_23 rfl (lv_at hl 3 rfl) ?_
        refine n_imul (v := nI (4 * j)) hx hb dX2_onAt_24 (pk_mul _ _) ?_
        refine lv_aload_n hx hb dX2_onAt_25 rfl (lv_at hl 2 rfl) ?_
        refine va_get (D := D) (ci := 2) (v := .ref (am 3)) (C := RX2) (T := TX2) (N := 9) hx hb hts hin2 hown hK hP 0 rfl rfl 6 (by decide) (hts (.fieldLink RX2 16 "LanternPrimesModel" "beats" "[I") (List.mem_of_getElem? (i := 2) rfl)) (fun _ h9 => h9) rfl dX2_onAt_26 ?_
        refine lv_iload_n hx hb dX2_onAt_29 rfl (lv_at hl 3 rfl) ?_
        refine n_iald (v := nI (lbc (v j))) (j := j) hx hb hK hP 3 0 rfl rfl (by omega) (by decide) rfl dX2_onAt_30 ?_
        refine n_iadd (v := nI ((4 * j) + (lbc (v j)))) hx hb dX2_onAt_31 (nI_add _ _) ?_
        refine n_icmp_ge (a := 4 * j + i) (b := (4 * j) + (lbc (v j))) (tgt := 69) hx hb (by omega) (by omega) dX2_onAt_32 (by decide) (fun c_32 => ?_) (fun c_32 => ?_)
        · refine lv_iload_n hx hb dX2_onAt_69 rfl (lv_at hl 1 rfl) ?_
          refine lv_iconst (v := nI 2) hx hb dX2_onAt_70 (by decide) ?_
          refine n_irem (a := on0 (v j) + trn (v j) t i) (d := 2) hx hb dX2_onAt_71 (by have := trn_lt (L := v j) (t := t) (k := i) (by omega) (by omega); have := on0_le (v j); have := trn_le (v j) t i; have := Nat.mul_le_mul_right (t + 1) (show i ≤ 4 by omega); omega) (by omega) (by omega) ?_
          refine lv_iconst (v := nI 1) hx hb dX2_onAt_72 (by decide) ?_
          refine n_icmp_ne (a := (on0 (v j) + trn (v j) t i) % 2) (b := 1) (tgt := 80) hx hb (by omega) (by omega) dX2_onAt_73 (by decide) (fun c_73 => ?_) (fun c_73 => ?_)
          · refine lv_iconst (v := nI 0) hx hb dX2_onAt_80 (by decide) ?_
            refine n_ti (y := bI (onB (v j) t)) (by rw [show i = lbc (v j) by omega] at c_73; rw [onB_par]; first | (rw [decide_eq_true c_73]; rfl) | (rw [decide_eq_false c_73]; rfl)) ?_
            exact W.zret (v := bI (onB (v j) t)) hx hb hr (bI_narrow _) (fun t ht hW => ⟨rfl, ht⟩) (fun _ h => by cases h) dX2_onAt_81
          · refine lv_iconst (v := nI 1) hx hb dX2_onAt_76 (by decide) ?_
            refine lv_goto (tgt := 81) hx hb dX2_onAt_77 (by decide) ?_
            refine n_ti (y := bI (onB (v j) t)) (by rw [show i = lbc (v j) by omega] at c_73; rw [onB_par]; first | (rw [decide_eq_true c_73]; rfl) | (rw [decide_eq_false c_73]; rfl)) ?_
            exact W.zret (v := bI (onB (v j) t)) hx hb hr (bI_narrow _) (fun t ht hW => ⟨rfl, ht⟩) (fun _ h => by cases h) dX2_onAt_81
        · have hi4 : i < lbc (v j) := by omega
          have hw := isP_le (hwj.2 i hi4).1
          have hw2 := (hwj.2 i hi4).2
          refine lv_iload_n hx hb dX2_onAt_35 rfl (lv_at hl 1 rfl) ?_
          refine lv_iload_n hx hb dX2_onAt_36 rfl (lv_at hl 4 rfl) ?_
          refine lv_aload_n hx hb dX2_onAt_37 rfl (lv_at hl 2 rfl) ?_
          refine va_get (D := D) (ci := 2) (v := .ref (am 4)) (C := RX2) (T := TX2) (N := 9) hx hb hts hin2 hown hK hP 0 rfl rfl 7 (by decide) (hts (.fieldLink RX2 20 "LanternPrimesModel" "number" "[I") (List.mem_of_getElem? (i := 3) rfl)) (fun _ h9 => h9) rfl dX2_onAt_38 ?_
          refine lv_iload hx hb dX2_onAt_41 (lv_at hl 0 rfl) ?_
          refine n_iald (v := nI (lnu (v j) i)) (j := 4 * j + i) hx hb hK hP 4 0 rfl rfl (by omega) (by decide) (by show nI (lnu (v ((4 * j + i) / 4)) ((4 * j + i) % 4)) = _; rw [(idx4 (by omega)).1, (idx4 (by omega)).2]) dX2_onAt_43 ?_
          refine n_iadd (v := nI (t + (lnu (v j) i))) hx hb dX2_onAt_44 (nI_add _ _) ?_
          refine lv_aload_n hx hb dX2_onAt_45 rfl (lv_at hl 2 rfl) ?_
          refine va_get (D := D) (ci := 2) (v := .ref (am 5)) (C := RX2) (T := TX2) (N := 9) hx hb hts hin2 hown hK hP 0 rfl rfl 8 (by decide) (hts (.fieldLink RX2 23 "LanternPrimesModel" "offset" "[I") (List.mem_of_getElem? (i := 4) rfl)) (fun _ h9 => h9) rfl dX2_onAt_46 ?_
          refine lv_iload hx hb dX2_onAt_49 (lv_at hl 0 rfl) ?_
          refine n_iald (v := nI (lof (v j) i)) (j := 4 * j + i) hx hb hK hP 5 0 rfl rfl (by omega) (by decide) (by show nI (lof (v ((4 * j + i) / 4)) ((4 * j + i) % 4)) = _; rw [(idx4 (by omega)).1, (idx4 (by omega)).2]) dX2_onAt_51 ?_
          refine n_isub (v := nI ((t + (lnu (v j) i)) - (lof (v j) i))) hx hb dX2_onAt_52 (pk_sub (by omega)) ?_
          refine lv_aload_n hx hb dX2_onAt_53 rfl (lv_at hl 2 rfl) ?_
          refine va_get (D := D) (ci := 2) (v := .ref (am 4)) (C := RX2) (T := TX2) (N := 9) hx hb hts hin2 hown hK hP 0 rfl rfl 7 (by decide) (hts (.fieldLink RX2 20 "LanternPrimesModel" "number" "[I") (List.mem_of_getElem? (i := 3) rfl)) (fun _ h9 => h9) rfl dX2_onAt_54 ?_
          refine lv_iload hx hb dX2_onAt_57 (lv_at hl 0 rfl) ?_
          refine n_iald (v := nI (lnu (v j) i)) (j := 4 * j + i) hx hb hK hP 4 0 rfl rfl (by omega) (by decide) (by show nI (lnu (v ((4 * j + i) / 4)) ((4 * j + i) % 4)) = _; rw [(idx4 (by omega)).1, (idx4 (by omega)).2]) dX2_onAt_59 ?_
          refine n_idiv (a := (t + (lnu (v j) i)) - (lof (v j) i)) (d := lnu (v j) i) hx hb dX2_onAt_60 (by omega) (by omega) (by omega) ?_
          refine n_ti (y := nI (sut t (lnu (v j) i) (lof (v j) i))) (by rw [sut_eq (by omega) hw2]) ?_
          refine n_iadd (v := nI (on0 (v j) + trn (v j) t (i + 1))) hx hb dX2_onAt_61 (by rw [nI_add, Nat.add_assoc]; rfl) ?_
          refine lv_istore_n (lv' := [(3, .int (nI (on0 (v j) + trn (v j) t (i + 1)))), (4, .int (nI (4 * j + i))), (0, .ref (am 0)), (1, .int (nI j)), (2, .int (nI t))]) hx hb dX2_onAt_62 rfl hl (by decide) rfl (fun ls hl => ?_)
          refine lv_iinc (v := nI ((4 * j + i) + 1)) (lv' := [(4, .int (nI ((4 * j + i) + 1))), (3, .int (nI (on0 (v j) + trn (v j) t (i + 1)))), (0, .ref (am 0)), (1, .int (nI j)), (2, .int (nI t))]) hx hb dX2_onAt_63 hl (k := 1) rfl (nI_inc _) (by decide) rfl (fun ls hl => ?_)
          refine lv_goto (tgt := 20) hx hb dX2_onAt_66 (by decide) ?_
          exact ih_20 (i + 1) (by omega) (by omega) ls (lv_sub hl [0, 1, 2, 3, 4] rfl)
    exact loop_20 (lbc (v j) + 1) 0 (by omega) (Nat.zero_le _) ls (lv_sub hl [0, 1, 2, 3, 4] rfl)
  refine lv_aload_n hx hb dX2_onAt_0 rfl (lv_at hl 0 rfl) ?_
  refine va_get (D := D) (ci := 2) (v := .ref (am 1)) (C := RX2) (T := TX2) (N := 9) hx hb hts hin2 hown hK hP 0 rfl rfl 4 (by decide) (hts (.fieldLink RX2 9 "LanternPrimesModel" "begins" "[Z") (List.mem_of_getElem? (i := 1) rfl)) (fun _ h9 => h9) rfl dX2_onAt_1 ?_
  refine lv_iload_n hx hb dX2_onAt_4 rfl (lv_at hl 1 rfl) ?_
  refine n_zald (v := bI (lon (v j))) (j := j) hx hb hK hP 1 1 rfl rfl (by omega) (by decide) rfl dX2_onAt_5 ?_
  refine b_if_eq (b := lon (v j)) (tgt := 13) hx hb dX2_onAt_6 (by decide) (fun c_6 => ?_) (fun c_6 => ?_)
  · refine lv_iconst (v := nI 0) hx hb dX2_onAt_13 (by decide) ?_
    refine n_ti (y := nI (on0 (v j))) (by unfold on0; rw [c_6]; rfl) ?_
    exact join_14 ls (lv_sub hl [0, 1, 2] rfl)
  · refine lv_iconst (v := nI 1) hx hb dX2_onAt_9 (by decide) ?_
    refine lv_goto (tgt := 14) hx hb dX2_onAt_10 (by decide) ?_
    refine n_ti (y := nI (on0 (v j))) (by unfold on0; rw [c_6]; rfl) ?_
    exact join_14 ls (lv_sub hl [0, 1, 2] rfl)
set_option maxHeartbeats 4000000 in
set_option maxRecDepth 100000 in
/-- litAt -/
theorem c_X2_litAt (l : Launch) (D : va_G) (cI cZ cL cJ : ClassId) (am : Nat → Nat) (th : Int32) (n now : Nat) (told : Int32) (v : Nat → LV) (hwf : WFX n now v) (t : Nat) (ht : t < 2 ^ 24) (x : Int32) : Met l yX2_litAt wsX2_litAt ({ frames := 1, cells := 0, slots := 0, locals := 24 } : Room) (PC D (TY cI cZ cL cJ) noA [.ref (am 0), .int (nI t), .int x] (fun H => PM D cI cZ am th n now told v H)) (QcRead (nI (ltN v n x t))) 0 0 (fun _ => False) := by
  refine Met.ofW (cc := cX2_litAt) (maxL := 5) (ret := (some .int)) (by decide) rfl ?_
  intro p e s m args below meth c s₁ B hml hv
  obtain ⟨rfl, hK, hE, hP⟩ := hv
  obtain ⟨hn8, hnow, hwl⟩ := hwf
  have hx := B.exec
  have hb := B.bytes
  have hr := B.returns
  have hts := atoms_spec (ws := wsX2_litAt) B.pre
  have hown : s.vm.findClass RX2 = some m.cls := findClass_of_methodNamed B.named
  have hlocks := B.notSynchronized
  have hNF := hE.2.1.1
  have hin2 : ∀ w ∈ wsX20, w ∈ wsX2_litAt := by decide +kernel
  have hl := lv_entry ([.ref (am 0), .int (nI t), .int x]) (n := 5) (Nat.le_of_ble_eq_true rfl)
  rw [lg_entry_eq]
  generalize (lg_sl ([.ref (am 0), .int (nI t), .int x]) ++ List.replicate (5 - (lg_sl ([.ref (am 0), .int (nI t), .int x])).length) Slot.unset).toArray = ls at hl ⊢
  have hl : lv_has ls 5 [(0, .ref (am 0)), (1, .int (nI t)), (2, .int x)] := hl
  refine lv_iconst (v := nI 0) hx hb dX2_litAt_0 (by decide) ?_
  refine lv_istore_n (lv' := [(3, .int (nI 0)), (0, .ref (am 0)), (1, .int (nI t)), (2, .int x)]) hx hb dX2_litAt_1 rfl hl (by decide) rfl (fun ls hl => ?_)
  refine lv_iconst (v := nI 0) hx hb dX2_litAt_2 (by decide) ?_
  refine lv_istore (lv' := [(4, .int (nI 0)), (3, .int (nI 0)), (0, .ref (am 0)), (1, .int (nI t)), (2, .int x)]) hx hb dX2_litAt_3 hl (by decide) rfl (fun ls hl => ?_)
  have loop_5 : ∀ (fu : Nat) (j : Nat), n + 1 - j ≤ fu → j ≤ n → ∀ (ls : Array Slot), lv_has ls 5 [(4, .int (nI j)), (3, .int (nI (cnt (ltB v x t) j))), (0, .ref (am 0)), (1, .int (nI t)), (2, .int x)] → W p l e (headSpec wsX2_litAt ({ frames := 1, cells := 0, slots := 0, locals := 24 } : Room)).room s m [.ref (am 0), .int (nI t), .int x].toArray below meth c s.heap [] 0 0 (MQ below (QcRead (nI (ltN v n x t))) [.ref (am 0), .int (nI t), .int x].toArray s 0 0 (fun _ => False)) (F0 m 5 ls []) := by
    intro fu
    induction fu with
    | zero => intro j hn_5 hj; exact absurd hn_5 (by omega)
    | succ fu ih_5 =>
      intro j hn_5 hj ls hl
      refine lv_iload hx hb dX2_litAt_5 (lv_at hl 0 rfl) ?_
      refine lv_aload_n hx hb dX2_litAt_7 rfl (lv_at hl 2 rfl) ?_
      refine va_get (D := D) (ci := 2) (v := .int (nI n)) (C := RX2) (T := TX2) (N := 9) hx hb hts hin2 hown hK hP 0 rfl rfl 3 (by decide) (hts (.fieldLink RX2 30 "LanternPrimesModel" "lamps" "I") (List.mem_of_getElem? (i := 1) rfl)) (fun _ h9 => h9) rfl dX2_litAt_8 ?_
      refine n_icmp_ge (a := j) (b := n) (tgt := 54) hx hb (by omega) (by omega) dX2_litAt_11 (by decide) (fun c_11 => ?_) (fun c_11 => ?_)
      · refine lv_iload_n hx hb dX2_litAt_54 rfl (lv_at hl 1 rfl) ?_
        refine n_ti (y := nI (ltN v n x t)) (by rw [show j = n by omega]; rfl) ?_
        exact W.iret (v := nI (ltN v n x t)) hx hb hr (fun t ht hW => ⟨rfl, ht⟩) (fun _ h => by cases h) dX2_litAt_55
      · have join_46 : ∀ (ls : Array Slot), lv_has ls 5 [(4, .int (nI j)), (3, .int (nI (cnt (ltB v x t) j))), (0, .ref (am 0)), (1, .int (nI t)), (2, .int x)] → W p l e (headSpec wsX2_litAt ({ frames := 1, cells := 0, slots := 0, locals := 24 } : Room)).room s m [.ref (am 0), .int (nI t), .int x].toArray below meth c s.heap [] 0 0 (MQ below (QcRead (nI (ltN v n x t))) [.ref (am 0), .int (nI t), .int x].toArray s 0 0 (fun _ => False)) (F0 m 46 ls [.int (nI (if ltB v x t j = true then 1 else 0)), .int (nI (cnt (ltB v x t) j))]) := by
          intro   ls hl
          refine n_iadd (v := nI (cnt (ltB v x t) (j + 1))) hx hb dX2_litAt_46 (nI_add _ _) ?_
          refine lv_istore_n (lv' := [(3, .int (nI (cnt (ltB v x t) (j + 1)))), (4, .int (nI j)), (0, .ref (am 0)), (1, .int (nI t)), (2, .int x)]) hx hb dX2_litAt_47 rfl hl (by decide) rfl (fun ls hl => ?_)
          refine lv_iinc (v := nI (j + 1)) (lv' := [(4, .int (nI (j + 1))), (3, .int (nI (cnt (ltB v x t) (j + 1)))), (0, .ref (am 0)), (1, .int (nI t)), (2, .int x)]) hx hb dX2_litAt_48 hl (k := 1) rfl (nI_inc _) (by decide) rfl (fun ls hl => ?_)
          refine lv_goto (tgt := 5) hx hb dX2_litAt_51 (by decide) ?_
          exact ih_5 (j + 1) (by omega) (by omega) ls (lv_sub hl [0, 1, 2, 3, 4] rfl)
        refine lv_iload_n hx hb dX2_litAt_14 rfl (lv_at hl 1 rfl) ?_
        refine lv_iload hx hb dX2_litAt_15 (lv_at hl 0 rfl) ?_
        refine lv_iload_n hx hb dX2_litAt_17 rfl (lv_at hl 4 rfl) ?_
        refine lv_icmp_eq (tgt := 45) hx hb dX2_litAt_18 (by decide) (fun c_18 => ?_) (fun c_18 => ?_)
        · refine lv_iconst (v := nI 0) hx hb dX2_litAt_45 (by decide) ?_
          refine n_ti (y := nI (if ltB v x t j = true then 1 else 0)) (by unfold ltB litB; first | (rw [decide_eq_true c_18]; rfl) | (rw [decide_eq_false c_18, c_28]; rfl) | (rw [decide_eq_false c_18, c_28, c_38]; rfl)) ?_
          exact join_46 ls (lv_sub hl [0, 1, 2, 3, 4] rfl)
        · refine lv_aload_n hx hb dX2_litAt_21 rfl (lv_at hl 2 rfl) ?_
          refine va_get (D := D) (ci := 2) (v := .ref (am 2)) (C := RX2) (T := TX2) (N := 9) hx hb hts hin2 hown hK hP 0 rfl rfl 5 (by decide) (hts (.fieldLink RX2 13 "LanternPrimesModel" "covered" "[Z") (List.mem_of_getElem? (i := 2) rfl)) (fun _ h9 => h9) rfl dX2_litAt_22 ?_
          refine lv_iload hx hb dX2_litAt_25 (lv_at hl 0 rfl) ?_
          refine n_zald (v := bI (lcv (v j))) (j := j) hx hb hK hP 2 1 rfl rfl (by omega) (by decide) rfl dX2_litAt_27 ?_
          refine b_if_ne (b := lcv (v j)) (tgt := 45) hx hb dX2_litAt_28 (by decide) (fun c_28 => ?_) (fun c_28 => ?_)
          · refine lv_iconst (v := nI 0) hx hb dX2_litAt_45 (by decide) ?_
            refine n_ti (y := nI (if ltB v x t j = true then 1 else 0)) (by unfold ltB litB; first | (rw [decide_eq_true c_18]; rfl) | (rw [decide_eq_false c_18, c_28]; rfl) | (rw [decide_eq_false c_18, c_28, c_38]; rfl)) ?_
            exact join_46 ls (lv_sub hl [0, 1, 2, 3, 4] rfl)
          · refine lv_aload_n hx hb dX2_litAt_31 rfl (lv_at hl 2 rfl) ?_
            refine lv_iload hx hb dX2_litAt_32 (lv_at hl 0 rfl) ?_
            refine lv_iload_n hx hb dX2_litAt_34 rfl (lv_at hl 3 rfl) ?_
            refine rV (r := bI (onB (v j) t)) (As := [.int (nI j), .int (nI t)]) (rest := [.int (nI (cnt (ltB v x t) j))]) ⟨hx, hb, hml, hown, hts⟩ (c_X2_onAt l D cI cZ cL cJ am th n now told v ⟨hn8, hnow, hwl⟩ j c_11 t ht) (cwV 2 hts gX2_litAt_X2_onAt rfl rfl rfl (by decide +kernel) ⟨(Nat.le_of_ble_eq_true rfl), (Nat.le_of_ble_eq_true rfl)⟩) hK hE hP (RC_of (q := (RX2, TX2, 9)) (ci := 2) hK rfl (vpa hP 0 rfl)) rfl hl.1 rfl (Nat.le_of_ble_eq_true rfl) dX2_litAt_35 ⟨(Nat.le_of_ble_eq_true rfl), (Nat.le_of_ble_eq_true rfl)⟩ ?_
            refine b_if_eq (b := onB (v j) t) (tgt := 45) hx hb dX2_litAt_38 (by decide) (fun c_38 => ?_) (fun c_38 => ?_)
            · refine lv_iconst (v := nI 0) hx hb dX2_litAt_45 (by decide) ?_
              refine n_ti (y := nI (if ltB v x t j = true then 1 else 0)) (by unfold ltB litB; first | (rw [decide_eq_true c_18]; rfl) | (rw [decide_eq_false c_18, c_28]; rfl) | (rw [decide_eq_false c_18, c_28, c_38]; rfl)) ?_
              exact join_46 ls (lv_sub hl [0, 1, 2, 3, 4] rfl)
            · refine lv_iconst (v := nI 1) hx hb dX2_litAt_41 (by decide) ?_
              refine lv_goto (tgt := 46) hx hb dX2_litAt_42 (by decide) ?_
              refine n_ti (y := nI (if ltB v x t j = true then 1 else 0)) (by unfold ltB litB; first | (rw [decide_eq_true c_18]; rfl) | (rw [decide_eq_false c_18, c_28]; rfl) | (rw [decide_eq_false c_18, c_28, c_38]; rfl)) ?_
              exact join_46 ls (lv_sub hl [0, 1, 2, 3, 4] rfl)
  exact loop_5 (n + 1) 0 (by omega) (Nat.zero_le _) ls (lv_sub hl [0, 1, 2, 3, 4] rfl)
set_option maxHeartbeats 4000000 in
set_option maxRecDepth 100000 in
/-- product -/
theorem c_X2_product (l : Launch) (D : va_G) (cI cZ cL cJ : ClassId) (am : Nat → Nat) (th : Int32) (n now : Nat) (told : Int32) (v : Nat → LV) (hwf : WFX n now v) (j : Nat) (hj : j < n) : Met l yX2_product wsX2_product ({ frames := 0, cells := 0, slots := 0, locals := 0 } : Room) (PC D (TY cI cZ cL cJ) noA [.ref (am 0), .int (nI j)] (fun H => PM D cI cZ am th n now told v H)) (QcRead (nI (prdA (v j)))) 0 0 (fun _ => False) := by
  refine Met.ofW (cc := cX2_product) (maxL := 4) (ret := (some .int)) (by decide) rfl ?_
  intro p e s m args below meth c s₁ B hml hv
  obtain ⟨rfl, hK, hE, hP⟩ := hv
  obtain ⟨hn8, hnow, hwl⟩ := hwf
  have hwj := hwl j (by omega)
  have hw4 := hwj.1
  have hx := B.exec
  have hb := B.bytes
  have hr := B.returns
  have hts := atoms_spec (ws := wsX2_product) B.pre
  have hown : s.vm.findClass RX2 = some m.cls := findClass_of_methodNamed B.named
  have hlocks := B.notSynchronized
  have hNF := hE.2.1.1
  have hin2 : ∀ w ∈ wsX20, w ∈ wsX2_product := by decide +kernel
  have hl := lv_entry ([.ref (am 0), .int (nI j)]) (n := 4) (Nat.le_of_ble_eq_true rfl)
  rw [lg_entry_eq]
  generalize (lg_sl ([.ref (am 0), .int (nI j)]) ++ List.replicate (4 - (lg_sl ([.ref (am 0), .int (nI j)])).length) Slot.unset).toArray = ls at hl ⊢
  have hl : lv_has ls 4 [(0, .ref (am 0)), (1, .int (nI j))] := hl
  refine lv_iconst (v := nI 1) hx hb dX2_product_0 (by decide) ?_
  refine lv_istore_n (lv' := [(2, .int (nI 1)), (0, .ref (am 0)), (1, .int (nI j))]) hx hb dX2_product_1 rfl hl (by decide) rfl (fun ls hl => ?_)
  refine lv_iconst (v := nI 4) hx hb dX2_product_2 (by decide) ?_
  refine lv_iload_n hx hb dX2_product_3 rfl (lv_at hl 2 rfl) ?_
  refine n_imul (v := nI (4 * j)) hx hb dX2_product_4 (pk_mul _ _) ?_
  refine lv_istore_n (lv' := [(3, .int (nI (4 * j))), (2, .int (nI 1)), (0, .ref (am 0)), (1, .int (nI j))]) hx hb dX2_product_5 rfl hl (by decide) rfl (fun ls hl => ?_)
  have loop_6 : ∀ (fu : Nat) (i : Nat), lbc (v j) + 1 - i ≤ fu → i ≤ lbc (v j) → ∀ (ls : Array Slot), lv_has ls 4 [(3, .int (nI (4 * j + i))), (2, .int (nI (prdL (v j) i))), (0, .ref (am 0)), (1, .int (nI j))] → W p l e (headSpec wsX2_product ({ frames := 0, cells := 0, slots := 0, locals := 0 } : Room)).room s m [.ref (am 0), .int (nI j)].toArray below meth c s.heap [] 0 0 (MQ below (QcRead (nI (prdA (v j)))) [.ref (am 0), .int (nI j)].toArray s 0 0 (fun _ => False)) (F0 m 6 ls []) := by
    intro fu
    induction fu with
    | zero => intro i hn_6 hi; exact absurd hn_6 (by omega)
    | succ fu ih_6 =>
      intro i hn_6 hi ls hl
      refine lv_iload_n hx hb dX2_product_6 rfl (lv_at hl 0 rfl) ?_
      refine lv_iconst (v := nI 4) hx hb dX2_product_7 (by decide) ?_
      refine lv_iload_n hx hb dX2_product_8 rfl (lv_at hl 3 rfl) ?_
      refine n_imul (v := nI (4 * j)) hx hb dX2_product_9 (pk_mul _ _) ?_
      refine lv_aload_n hx hb dX2_product_10 rfl (lv_at hl 2 rfl) ?_
      refine va_get (D := D) (ci := 2) (v := .ref (am 3)) (C := RX2) (T := TX2) (N := 9) hx hb hts hin2 hown hK hP 0 rfl rfl 6 (by decide) (hts (.fieldLink RX2 16 "LanternPrimesModel" "beats" "[I") (List.mem_of_getElem? (i := 1) rfl)) (fun _ h9 => h9) rfl dX2_product_11 ?_
      refine lv_iload_n hx hb dX2_product_14 rfl (lv_at hl 3 rfl) ?_
      refine n_iald (v := nI (lbc (v j))) (j := j) hx hb hK hP 3 0 rfl rfl (by omega) (by decide) rfl dX2_product_15 ?_
      refine n_iadd (v := nI ((4 * j) + (lbc (v j)))) hx hb dX2_product_16 (nI_add _ _) ?_
      refine n_icmp_ge (a := 4 * j + i) (b := (4 * j) + (lbc (v j))) (tgt := 46) hx hb (by omega) (by omega) dX2_product_17 (by decide) (fun c_17 => ?_) (fun c_17 => ?_)
      · refine lv_iload_n hx hb dX2_product_46 rfl (lv_at hl 1 rfl) ?_
        refine n_ti (y := nI (prdA (v j))) (by rw [show i = lbc (v j) by omega]) ?_
        exact W.iret (v := nI (prdA (v j))) hx hb hr (fun t ht hW => ⟨rfl, ht⟩) (fun _ h => by cases h) dX2_product_47
      · have hi4 : i < lbc (v j) := by omega
        have hw := isP_le (hwj.2 i hi4).1
        have hpb : prdL (v j) i < 2 ^ 31 := (by have := (prdL_bd (L := v j) i (fun z hz => isP_le (hwj.2 z (by omega)).1)).2; have := Nat.pow_le_pow_right (n := 13) (by decide) (show i ≤ 4 by omega); omega)
        refine lv_iload_n hx hb dX2_product_20 rfl (lv_at hl 1 rfl) ?_
        refine lv_aload_n hx hb dX2_product_21 rfl (lv_at hl 2 rfl) ?_
        refine va_get (D := D) (ci := 2) (v := .ref (am 4)) (C := RX2) (T := TX2) (N := 9) hx hb hts hin2 hown hK hP 0 rfl rfl 7 (by decide) (hts (.fieldLink RX2 20 "LanternPrimesModel" "number" "[I") (List.mem_of_getElem? (i := 2) rfl)) (fun _ h9 => h9) rfl dX2_product_22 ?_
        refine lv_iload_n hx hb dX2_product_25 rfl (lv_at hl 0 rfl) ?_
        refine n_iald (v := nI (lnu (v j) i)) (j := 4 * j + i) hx hb hK hP 4 0 rfl rfl (by omega) (by decide) (by show nI (lnu (v ((4 * j + i) / 4)) ((4 * j + i) % 4)) = _; rw [(idx4 (by omega)).1, (idx4 (by omega)).2]) dX2_product_26 ?_
        refine n_irem (a := prdL (v j) i) (d := lnu (v j) i) hx hb dX2_product_27 hpb (by omega) (by omega) ?_
        refine n_if_eq (a := (prdL (v j) i) % (lnu (v j) i)) (tgt := 40) hx hb (Nat.lt_of_le_of_lt (Nat.mod_le _ _) hpb) dX2_product_28 (by decide) (fun c_28 => ?_) (fun c_28 => ?_)
        · have e_1 : prdL (v j) (i + 1) = prdL (v j) i := by simp only [prdL]; rw [if_neg (fun z => z c_28)]
          rw [← e_1] at hl
          refine lv_iinc (v := nI ((4 * j + i) + 1)) (lv' := [(3, .int (nI ((4 * j + i) + 1))), (2, .int (nI (prdL (v j) (i + 1)))), (0, .ref (am 0)), (1, .int (nI j))]) hx hb dX2_product_40 hl (k := 0) rfl (nI_inc _) (by decide) rfl (fun ls hl => ?_)
          refine lv_goto (tgt := 6) hx hb dX2_product_43 (by decide) ?_
          exact ih_6 (i + 1) (by omega) (by omega) ls (lv_sub hl [0, 1, 2, 3] rfl)
        · have e_1 : prdL (v j) (i + 1) = prdL (v j) i * lnu (v j) i := by simp only [prdL]; rw [if_pos c_28]
          refine lv_iload_n hx hb dX2_product_31 rfl (lv_at hl 1 rfl) ?_
          refine lv_aload_n hx hb dX2_product_32 rfl (lv_at hl 2 rfl) ?_
          refine va_get (D := D) (ci := 2) (v := .ref (am 4)) (C := RX2) (T := TX2) (N := 9) hx hb hts hin2 hown hK hP 0 rfl rfl 7 (by decide) (hts (.fieldLink RX2 20 "LanternPrimesModel" "number" "[I") (List.mem_of_getElem? (i := 2) rfl)) (fun _ h9 => h9) rfl dX2_product_33 ?_
          refine lv_iload_n hx hb dX2_product_36 rfl (lv_at hl 0 rfl) ?_
          refine n_iald (v := nI (lnu (v j) i)) (j := 4 * j + i) hx hb hK hP 4 0 rfl rfl (by omega) (by decide) (by show nI (lnu (v ((4 * j + i) / 4)) ((4 * j + i) % 4)) = _; rw [(idx4 (by omega)).1, (idx4 (by omega)).2]) dX2_product_37 ?_
          refine n_imul (v := nI (prdL (v j) (i + 1))) hx hb dX2_product_38 (by rw [e_1]; exact pk_mul _ _) ?_
          refine lv_istore_n (lv' := [(2, .int (nI (prdL (v j) (i + 1)))), (3, .int (nI (4 * j + i))), (0, .ref (am 0)), (1, .int (nI j))]) hx hb dX2_product_39 rfl hl (by decide) rfl (fun ls hl => ?_)
          refine lv_iinc (v := nI ((4 * j + i) + 1)) (lv' := [(3, .int (nI ((4 * j + i) + 1))), (2, .int (nI (prdL (v j) (i + 1)))), (0, .ref (am 0)), (1, .int (nI j))]) hx hb dX2_product_40 hl (k := 1) rfl (nI_inc _) (by decide) rfl (fun ls hl => ?_)
          refine lv_goto (tgt := 6) hx hb dX2_product_43 (by decide) ?_
          exact ih_6 (i + 1) (by omega) (by omega) ls (lv_sub hl [0, 1, 2, 3] rfl)
  exact loop_6 (lbc (v j) + 1) 0 (by omega) (Nat.zero_le _) ls (lv_sub hl [0, 1, 2, 3] rfl)
