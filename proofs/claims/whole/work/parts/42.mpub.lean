set_option maxHeartbeats 4000000 in
set_option maxRecDepth 100000 in
/-- digest -/
theorem c_X2_digest (l : Launch) (D : va_G) (cI cZ cL cJ : ClassId) (am : Nat → Nat) (th : Int32) (n now : Nat) (told : Int32) (v : Nat → LV) (hwf : WFX n now v) (hinj : Inj 6 am)  : Met l yX2_digest wsX2_digest ({ frames := 4, cells := 0, slots := 0, locals := 93 } : Room) (PC D (TY cI cZ cL cJ) (AM am) [.ref (am 0)] (fun H => PM D cI cZ am th n now told v H)) (QWl (AM am) True (dgst n now told v) (fun H => PM D cI cZ am (nI (0)) n (now) (told) (v) H)) 0 0 (AM am) := by
  refine Met.ofW (cc := cX2_digest) (maxL := 5) (ret := (some .long)) (by decide) rfl ?_
  intro p e s m args below meth c s₁ B hml hv
  obtain ⟨rfl, hK, hEA, hP⟩ := hv
  obtain ⟨hn8, hnow, hwl⟩ := hwf
  have hE : EN noA s s.heap := hEA.narrow (fun _ h => h.elim)
  have hS : va_S (AM am) s.heap s.heap [] := va_S.rf
  have hD : va_D (AM am) (mW cI cZ am th n now told v) := vd6 hinj
  have hP : va_P D vwCl (mW cI cZ am th n now told v) s.heap := hP
  have hx := B.exec
  have hb := B.bytes
  have hr := B.returns
  have hts := atoms_spec (ws := wsX2_digest) B.pre
  have hown : s.vm.findClass RX2 = some m.cls := findClass_of_methodNamed B.named
  have hlocks := B.notSynchronized
  have hNF := hE.2.1.1
  have hin2 : ∀ w ∈ wsX20, w ∈ wsX2_digest := by decide +kernel
  have hl := lv_entry ([.ref (am 0)]) (n := 5) (Nat.le_of_ble_eq_true rfl)
  rw [lg_entry_eq]
  generalize (lg_sl ([.ref (am 0)]) ++ List.replicate (5 - (lg_sl ([.ref (am 0)])).length) Slot.unset).toArray = ls at hl ⊢
  have hl : lv_has ls 5 [(0, .ref (am 0))] := hl
  refine lv_aload_n hx hb dX2_digest_0 rfl (lv_at hl 0 rfl) ?_
  refine lv_iconst (v := nI 0) hx hb dX2_digest_1 (by decide) ?_
  refine va_put (D := D) (ci := 2) (v := .int (nI 0)) (ty := .int) (C := RX2) (T := TX2) (N := 9) hx hb hts hin2 tyX2 tyX2_ok nmX2 hown hK hP hD hS 0 rfl rfl 0 (by decide) (hts (.fieldLink RX2 26 "LanternPrimesModel" "thrown" "I") (List.mem_of_getElem? (i := 1) rfl)) (fun _ h9 => h9) rfl (by decide +kernel) rfl rfl (Nat.le_of_ble_eq_true rfl) dX2_digest_2 (fun H locs hP hD hS => ?_)
  have hP : va_P D vwCl [(am 0, .inr (2, [.int (nI 0), .int (nI now), .int told, .int (nI n), .ref (am 1), .ref (am 2), .ref (am 3), .ref (am 4), .ref (am 5)])), (am 1, .inl (cZ, 8, .inl (fun j => bI (lon (v j))))), (am 2, .inl (cZ, 8, .inl (fun j => bI (lcv (v j))))), (am 3, .inl (cI, 8, .inl (fun j => nI (lbc (v j))))), (am 4, .inl (cI, 32, .inl (fun z => nI (lnu (v (z / 4)) (z % 4))))), (am 5, .inl (cI, 32, .inl (fun z => nI (lof (v (z / 4)) (z % 4)))))] H := hP
  have hD : va_D (AM am) [(am 0, .inr (2, [.int (nI 0), .int (nI now), .int told, .int (nI n), .ref (am 1), .ref (am 2), .ref (am 3), .ref (am 4), .ref (am 5)])), (am 1, .inl (cZ, 8, .inl (fun j => bI (lon (v j))))), (am 2, .inl (cZ, 8, .inl (fun j => bI (lcv (v j))))), (am 3, .inl (cI, 8, .inl (fun j => nI (lbc (v j))))), (am 4, .inl (cI, 32, .inl (fun z => nI (lnu (v (z / 4)) (z % 4))))), (am 5, .inl (cI, 32, .inl (fun z => nI (lof (v (z / 4)) (z % 4)))))] := hD
  refine lv_ldc2 (v := 58559) hx hb hown (hts (.constantLong RX2 100 (58559)) (List.mem_of_getElem? (i := 2) rfl)) dX2_digest_5 ?_
  refine lv_aload_n hx hb dX2_digest_8 rfl (lv_at hl 0 rfl) ?_
  refine va_get (D := D) (ci := 2) (v := .int (nI n)) (C := RX2) (T := TX2) (N := 9) hx hb hts hin2 hown hK hP 0 rfl rfl 3 (by decide) (hts (.fieldLink RX2 30 "LanternPrimesModel" "lamps" "I") (List.mem_of_getElem? (i := 3) rfl)) (fun _ h9 => h9) rfl dX2_digest_9 ?_
  refine lv_i2l (v := (nI n).toInt64) hx hb dX2_digest_12 rfl ?_
  refine lv_ladd hx hb dX2_digest_13 ?_
  refine lv_ldc2 (v := 31) hx hb hown (hts (.constantLong RX2 102 (31)) (List.mem_of_getElem? (i := 4) rfl)) dX2_digest_14 ?_
  refine lv_lmul hx hb dX2_digest_17 ?_
  refine lv_aload_n hx hb dX2_digest_18 rfl (lv_at hl 0 rfl) ?_
  refine va_get (D := D) (ci := 2) (v := .int (nI now)) (C := RX2) (T := TX2) (N := 9) hx hb hts hin2 hown hK hP 0 rfl rfl 1 (by decide) (hts (.fieldLink RX2 59 "LanternPrimesModel" "now" "I") (List.mem_of_getElem? (i := 5) rfl)) (fun _ h9 => h9) rfl dX2_digest_19 ?_
  refine lv_i2l (v := (nI now).toInt64) hx hb dX2_digest_22 rfl ?_
  refine lv_ladd hx hb dX2_digest_23 ?_
  refine lv_lstore_n (lv' := [(1, .long (((58559 + ((nI n).toInt64)) * 31) + ((nI now).toInt64))), (0, .ref (am 0))]) hx hb dX2_digest_24 rfl hl (by decide) rfl (fun ls hl => ?_)
  refine lv_lload_n hx hb dX2_digest_25 rfl (lv_at hl 0 rfl) ?_
  refine lv_ldc2 (v := 31) hx hb hown (hts (.constantLong RX2 102 (31)) (List.mem_of_getElem? (i := 4) rfl)) dX2_digest_26 ?_
  refine lv_lmul hx hb dX2_digest_29 ?_
  refine lv_aload_n hx hb dX2_digest_30 rfl (lv_at hl 1 rfl) ?_
  refine va_get (D := D) (ci := 2) (v := .int told) (C := RX2) (T := TX2) (N := 9) hx hb hts hin2 hown hK hP 0 rfl rfl 2 (by decide) (hts (.fieldLink RX2 74 "LanternPrimesModel" "seen" "I") (List.mem_of_getElem? (i := 6) rfl)) (fun _ h9 => h9) rfl dX2_digest_31 ?_
  refine lv_i2l (v := told.toInt64) hx hb dX2_digest_34 rfl ?_
  refine lv_ladd hx hb dX2_digest_35 ?_
  refine lv_ldc2 (v := 31) hx hb hown (hts (.constantLong RX2 102 (31)) (List.mem_of_getElem? (i := 4) rfl)) dX2_digest_36 ?_
  refine lv_lmul hx hb dX2_digest_39 ?_
  refine lv_aload_n hx hb dX2_digest_40 rfl (lv_at hl 1 rfl) ?_
  refine lv_aload_n hx hb dX2_digest_41 rfl (lv_at hl 1 rfl) ?_
  refine va_get (D := D) (ci := 2) (v := .int (nI now)) (C := RX2) (T := TX2) (N := 9) hx hb hts hin2 hown hK hP 0 rfl rfl 1 (by decide) (hts (.fieldLink RX2 59 "LanternPrimesModel" "now" "I") (List.mem_of_getElem? (i := 5) rfl)) (fun _ h9 => h9) rfl dX2_digest_42 ?_
  refine lv_iconst (v := (-1)) hx hb dX2_digest_45 (by decide) ?_
  refine rV (r := nI (ltN v n (-1) now)) (As := [.int (nI now), .int (-1)]) (rest := [.long ((((((58559 + ((nI n).toInt64)) * 31) + ((nI now).toInt64)) * 31) + told.toInt64) * 31)]) ⟨hx, hb, hml, hown, hts⟩ (c_X2_litAt l D cI cZ cL cJ am (nI 0) n now told v ⟨hn8, hnow, hwl⟩ now (by omega) (-1)) (cwV 2 hts gX2_digest_X2_litAt rfl rfl rfl (by decide +kernel) ⟨(Nat.le_of_ble_eq_true rfl), (Nat.le_of_ble_eq_true rfl)⟩) hK ((hEA.kept hS.2.1).narrow (fun _ h => h.elim)) hP (RC_of (q := (RX2, TX2, 9)) (ci := 2) hK rfl (vpa hP 0 rfl)) rfl hl.1 rfl (Nat.le_of_ble_eq_true rfl) dX2_digest_46 ⟨(Nat.le_of_ble_eq_true rfl), (Nat.le_of_ble_eq_true rfl)⟩ ?_
  refine lv_i2l (v := (nI (ltN v n (-1) now)).toInt64) hx hb dX2_digest_49 rfl ?_
  refine lv_ladd hx hb dX2_digest_50 ?_
  refine n_tl (y := dgA n now told v) (by rw [ltN_all hn8]; exact dgA_eq n now told _) ?_
  refine lv_lstore_n (lv' := [(1, .long (dgA n now told v)), (0, .ref (am 0))]) hx hb dX2_digest_51 rfl hl (by decide) rfl (fun ls hl => ?_)
  refine lv_iconst (v := nI 0) hx hb dX2_digest_52 (by decide) ?_
  refine lv_istore_n (lv' := [(3, .int (nI 0)), (1, .long (dgA n now told v)), (0, .ref (am 0))]) hx hb dX2_digest_53 rfl hl (by decide) rfl (fun ls hl => ?_)
  have loop_54 : ∀ (fu : Nat) (j : Nat), n + 1 - j ≤ fu → j ≤ n → ∀ (ls : Array Slot), lv_has ls 5 [(3, .int (nI j)), (1, .long (dgK v now (dgA n now told v) j)), (0, .ref (am 0))] → W p l e (headSpec wsX2_digest ({ frames := 4, cells := 0, slots := 0, locals := 93 } : Room)).room s m [.ref (am 0)].toArray below meth c H locs 0 0 (MQ below (QWl (AM am) True (dgst n now told v) (fun H => PM D cI cZ am (nI (0)) n (now) (told) (v) H)) [.ref (am 0)].toArray s 0 0 (AM am)) (F0 m 54 ls []) := by
    intro fu
    induction fu with
    | zero => intro j hn_54 hj0; exact absurd hn_54 (by omega)
    | succ fu ih_54 =>
      intro j hn_54 hj0 ls hl
      refine lv_iload_n hx hb dX2_digest_54 rfl (lv_at hl 0 rfl) ?_
      refine lv_aload_n hx hb dX2_digest_55 rfl (lv_at hl 2 rfl) ?_
      refine va_get (D := D) (ci := 2) (v := .int (nI n)) (C := RX2) (T := TX2) (N := 9) hx hb hts hin2 hown hK hP 0 rfl rfl 3 (by decide) (hts (.fieldLink RX2 30 "LanternPrimesModel" "lamps" "I") (List.mem_of_getElem? (i := 3) rfl)) (fun _ h9 => h9) rfl dX2_digest_56 ?_
      refine n_icmp_ge (a := j) (b := n) (tgt := 224) hx hb (by omega) (by omega) dX2_digest_59 (by decide) (fun c_59 => ?_) (fun c_59 => ?_)
      · refine lv_lload_n hx hb dX2_digest_224 rfl (lv_at hl 1 rfl) ?_
        have hcd : 0 = 0 := rfl
        have hend : PM D cI cZ am (nI (0)) n (now) (told) (v) H := by
          exact hP
        refine n_tl (y := dgst n now told v) (by rw [show j = n by omega]; rfl) ?_
        exact W.lret (v := dgst n now told v) hx hb hr (fun t ht hW => ⟨trivial, rfl, by rw [ht]; exact hend, hS.F ht⟩) hS.2.2 dX2_digest_225
      · have hj : j < n := by omega
        have hwj := hwl j (by omega)
        have hw4 := hwj.1
        refine lv_lload_n hx hb dX2_digest_62 rfl (lv_at hl 1 rfl) ?_
        refine lv_ldc2 (v := 31) hx hb hown (hts (.constantLong RX2 102 (31)) (List.mem_of_getElem? (i := 4) rfl)) dX2_digest_63 ?_
        refine lv_lmul hx hb dX2_digest_66 ?_
        refine lv_aload_n hx hb dX2_digest_67 rfl (lv_at hl 2 rfl) ?_
        refine va_get (D := D) (ci := 2) (v := .ref (am 3)) (C := RX2) (T := TX2) (N := 9) hx hb hts hin2 hown hK hP 0 rfl rfl 6 (by decide) (hts (.fieldLink RX2 16 "LanternPrimesModel" "beats" "[I") (List.mem_of_getElem? (i := 7) rfl)) (fun _ h9 => h9) rfl dX2_digest_68 ?_
        refine lv_iload_n hx hb dX2_digest_71 rfl (lv_at hl 0 rfl) ?_
        refine n_iald (v := nI (lbc (v j))) (j := j) hx hb hK hP 3 0 rfl rfl (by omega) (by decide) rfl dX2_digest_72 ?_
        refine lv_i2l (v := (nI (lbc (v j))).toInt64) hx hb dX2_digest_73 rfl ?_
        refine lv_ladd hx hb dX2_digest_74 ?_
        refine n_tl (y := dg1 (v j) (dgK v now (dgA n now told v) j)) rfl ?_
        have join_93 : ∀ (ls : Array Slot), lv_has ls 5 [(3, .int (nI j)), (1, .long (dgK v now (dgA n now told v) j)), (0, .ref (am 0))] → W p l e (headSpec wsX2_digest ({ frames := 4, cells := 0, slots := 0, locals := 93 } : Room)).room s m [.ref (am 0)].toArray below meth c H locs 0 0 (MQ below (QWl (AM am) True (dgst n now told v) (fun H => PM D cI cZ am (nI (0)) n (now) (told) (v) H)) [.ref (am 0)].toArray s 0 0 (AM am)) (F0 m 93 ls [.int (nI (if lcv (v j) = true then 1 else 0)), .long ((dg1 (v j) (dgK v now (dgA n now told v) j)) * 31)]) := by
          intro   ls hl
          refine lv_i2l (v := bJ (lcv (v j))) hx hb dX2_digest_93 (i2lB _) ?_
          refine lv_ladd hx hb dX2_digest_94 ?_
          refine n_tl (y := dg2 (v j) (dgK v now (dgA n now told v) j)) rfl ?_
          refine lv_lstore_n (lv' := [(1, .long (dg2 (v j) (dgK v now (dgA n now told v) j))), (3, .int (nI j)), (0, .ref (am 0))]) hx hb dX2_digest_95 rfl hl (by decide) rfl (fun ls hl => ?_)
          have join_118 : ∀ (ls : Array Slot), lv_has ls 5 [(3, .int (nI j)), (1, .long (dg2 (v j) (dgK v now (dgA n now told v) j))), (0, .ref (am 0))] → W p l e (headSpec wsX2_digest ({ frames := 4, cells := 0, slots := 0, locals := 93 } : Room)).room s m [.ref (am 0)].toArray below meth c H locs 0 0 (MQ below (QWl (AM am) True (dgst n now told v) (fun H => PM D cI cZ am (nI (0)) n (now) (told) (v) H)) [.ref (am 0)].toArray s 0 0 (AM am)) (F0 m 118 ls [.int (nI (if onB (v j) now = true then 1 else 0)), .long ((dg2 (v j) (dgK v now (dgA n now told v) j)) * 31)]) := by
            intro   ls hl
            refine lv_i2l (v := bJ (onB (v j) now)) hx hb dX2_digest_118 (i2lB _) ?_
            refine lv_ladd hx hb dX2_digest_119 ?_
            refine n_tl (y := dg3 (v j) now (dgK v now (dgA n now told v) j)) rfl ?_
            have join_137 : ∀ (ls : Array Slot), lv_has ls 5 [(3, .int (nI j)), (1, .long (dg2 (v j) (dgK v now (dgA n now told v) j))), (0, .ref (am 0))] → W p l e (headSpec wsX2_digest ({ frames := 4, cells := 0, slots := 0, locals := 93 } : Room)).room s m [.ref (am 0)].toArray below meth c H locs 0 0 (MQ below (QWl (AM am) True (dgst n now told v) (fun H => PM D cI cZ am (nI (0)) n (now) (told) (v) H)) [.ref (am 0)].toArray s 0 0 (AM am)) (F0 m 137 ls [.int (nI (if decide (cyc (v j) = 1) = true then 1 else 0)), .long ((dg3 (v j) now (dgK v now (dgA n now told v) j)) * 31)]) := by
              intro   ls hl
              refine lv_i2l (v := bJ (decide (cyc (v j) = 1))) hx hb dX2_digest_137 (i2lB _) ?_
              refine lv_ladd hx hb dX2_digest_138 ?_
              refine n_tl (y := dg4 (v j) now (dgK v now (dgA n now told v) j)) rfl ?_
              refine lv_lstore_n (lv' := [(1, .long (dg4 (v j) now (dgK v now (dgA n now told v) j))), (3, .int (nI j)), (0, .ref (am 0))]) hx hb dX2_digest_139 rfl hl (by decide) rfl (fun ls hl => ?_)
              refine lv_lload_n hx hb dX2_digest_140 rfl (lv_at hl 0 rfl) ?_
              refine lv_ldc2 (v := 31) hx hb hown (hts (.constantLong RX2 102 (31)) (List.mem_of_getElem? (i := 4) rfl)) dX2_digest_141 ?_
              refine lv_lmul hx hb dX2_digest_144 ?_
              refine lv_aload_n hx hb dX2_digest_145 rfl (lv_at hl 2 rfl) ?_
              refine lv_iload_n hx hb dX2_digest_146 rfl (lv_at hl 1 rfl) ?_
              refine rV (r := nI (cyc (v j))) (As := [.int (nI j)]) (rest := [.long ((dg4 (v j) now (dgK v now (dgA n now told v) j)) * 31)]) ⟨hx, hb, hml, hown, hts⟩ (c_X2_cycle l D cI cZ cL cJ am (nI 0) n now told v ⟨hn8, hnow, hwl⟩ j hj) (cwV 1 hts gX2_digest_X2_cycle rfl rfl rfl (by decide +kernel) ⟨(Nat.le_of_ble_eq_true rfl), (Nat.le_of_ble_eq_true rfl)⟩) hK ((hEA.kept hS.2.1).narrow (fun _ h => h.elim)) hP (RC_of (q := (RX2, TX2, 9)) (ci := 2) hK rfl (vpa hP 0 rfl)) rfl hl.1 rfl (Nat.le_of_ble_eq_true rfl) dX2_digest_147 ⟨(Nat.le_of_ble_eq_true rfl), (Nat.le_of_ble_eq_true rfl)⟩ ?_
              refine lv_i2l (v := (nI (cyc (v j))).toInt64) hx hb dX2_digest_150 rfl ?_
              refine lv_ladd hx hb dX2_digest_151 ?_
              refine n_tl (y := dg5 (v j) now (dgK v now (dgA n now told v) j)) rfl ?_
              refine lv_ldc2 (v := 31) hx hb hown (hts (.constantLong RX2 102 (31)) (List.mem_of_getElem? (i := 4) rfl)) dX2_digest_152 ?_
              refine lv_lmul hx hb dX2_digest_155 ?_
              refine lv_aload_n hx hb dX2_digest_156 rfl (lv_at hl 2 rfl) ?_
              refine lv_iload_n hx hb dX2_digest_157 rfl (lv_at hl 1 rfl) ?_
              refine rV (r := (untC (v j) now)) (As := [.int (nI j)]) (rest := [.long ((dg5 (v j) now (dgK v now (dgA n now told v) j)) * 31)]) ⟨hx, hb, hml, hown, hts⟩ (c_X2_untilChange l D cI cZ cL cJ am (nI 0) n now told v ⟨hn8, hnow, hwl⟩ j hj) (cwV 1 hts gX2_digest_X2_untilChange rfl rfl rfl (by decide +kernel) ⟨(Nat.le_of_ble_eq_true rfl), (Nat.le_of_ble_eq_true rfl)⟩) hK ((hEA.kept hS.2.1).narrow (fun _ h => h.elim)) hP (RC_of (q := (RX2, TX2, 9)) (ci := 2) hK rfl (vpa hP 0 rfl)) rfl hl.1 rfl (Nat.le_of_ble_eq_true rfl) dX2_digest_158 ⟨(Nat.le_of_ble_eq_true rfl), (Nat.le_of_ble_eq_true rfl)⟩ ?_
              refine lv_i2l (v := (untC (v j) now).toInt64) hx hb dX2_digest_161 rfl ?_
              refine lv_ladd hx hb dX2_digest_162 ?_
              refine n_tl (y := dg6 (v j) now (dgK v now (dgA n now told v) j)) rfl ?_
              refine lv_lstore_n (lv' := [(1, .long (dg6 (v j) now (dgK v now (dgA n now told v) j))), (3, .int (nI j)), (0, .ref (am 0))]) hx hb dX2_digest_163 rfl hl (by decide) rfl (fun ls hl => ?_)
              refine lv_iconst (v := nI 4) hx hb dX2_digest_164 (by decide) ?_
              refine lv_iload_n hx hb dX2_digest_165 rfl (lv_at hl 1 rfl) ?_
              refine n_imul (v := nI (4 * j)) hx hb dX2_digest_166 (pk_mul _ _) ?_
              refine lv_istore (lv' := [(4, .int (nI (4 * j))), (1, .long (dg6 (v j) now (dgK v now (dgA n now told v) j))), (3, .int (nI j)), (0, .ref (am 0))]) hx hb dX2_digest_167 hl (by decide) rfl (fun ls hl => ?_)
              have loop_169 : ∀ (fu : Nat) (i : Nat), lbc (v j) + 1 - i ≤ fu → i ≤ lbc (v j) → ∀ (ls : Array Slot), lv_has ls 5 [(4, .int (nI (4 * j + i))), (3, .int (nI j)), (1, .long (dgB (v j) (dg6 (v j) now (dgK v now (dgA n now told v) j)) i)), (0, .ref (am 0))] → W p l e (headSpec wsX2_digest ({ frames := 4, cells := 0, slots := 0, locals := 93 } : Room)).room s m [.ref (am 0)].toArray below meth c H locs 0 0 (MQ below (QWl (AM am) True (dgst n now told v) (fun H => PM D cI cZ am (nI (0)) n (now) (told) (v) H)) [.ref (am 0)].toArray s 0 0 (AM am)) (F0 m 169 ls []) := by
                intro fu
                induction fu with
                | zero => intro i hn_169 hi; exact absurd hn_169 (by omega)
                | succ fu ih_169 =>
                  intro i hn_169 hi ls hl
                  refine lv_iload hx hb dX2_digest_169 (lv_at hl 0 rfl) ?_
                  refine lv_iconst (v := nI 4) hx hb dX2_digest_171 (by decide) ?_
                  refine lv_iload_n hx hb dX2_digest_172 rfl (lv_at hl 1 rfl) ?_
                  refine n_imul (v := nI (4 * j)) hx hb dX2_digest_173 (pk_mul _ _) ?_
                  refine lv_aload_n hx hb dX2_digest_174 rfl (lv_at hl 3 rfl) ?_
                  refine va_get (D := D) (ci := 2) (v := .ref (am 3)) (C := RX2) (T := TX2) (N := 9) hx hb hts hin2 hown hK hP 0 rfl rfl 6 (by decide) (hts (.fieldLink RX2 16 "LanternPrimesModel" "beats" "[I") (List.mem_of_getElem? (i := 7) rfl)) (fun _ h9 => h9) rfl dX2_digest_175 ?_
                  refine lv_iload_n hx hb dX2_digest_178 rfl (lv_at hl 1 rfl) ?_
                  refine n_iald (v := nI (lbc (v j))) (j := j) hx hb hK hP 3 0 rfl rfl (by omega) (by decide) rfl dX2_digest_179 ?_
                  refine n_iadd (v := nI ((4 * j) + (lbc (v j)))) hx hb dX2_digest_180 (nI_add _ _) ?_
                  refine n_icmp_ge (a := 4 * j + i) (b := (4 * j) + (lbc (v j))) (tgt := 218) hx hb (by omega) (by omega) dX2_digest_181 (by decide) (fun c_181 => ?_) (fun c_181 => ?_)
                  · have e_1 : dgK v now (dgA n now told v) (j + 1) = dgB (v j) (dg6 (v j) now (dgK v now (dgA n now told v) j)) i := by rw [show i = lbc (v j) by omega]; rfl
                    refine lv_iinc (v := nI (j + 1)) (lv' := [(3, .int (nI (j + 1))), (4, .int (nI (4 * j + i))), (1, .long (dgB (v j) (dg6 (v j) now (dgK v now (dgA n now told v) j)) i)), (0, .ref (am 0))]) hx hb dX2_digest_218 hl (k := 1) rfl (nI_inc _) (by decide) rfl (fun ls hl => ?_)
                    refine lv_goto (tgt := 54) hx hb dX2_digest_221 (by decide) ?_
                    exact ih_54 (j + 1) (by omega) (by omega) ls (by rw [e_1]; exact (lv_sub hl [0, 2, 3] rfl))
                  · have hi4 : i < lbc (v j) := by omega
                    refine lv_lload_n hx hb dX2_digest_184 rfl (lv_at hl 2 rfl) ?_
                    refine lv_ldc2 (v := 31) hx hb hown (hts (.constantLong RX2 102 (31)) (List.mem_of_getElem? (i := 4) rfl)) dX2_digest_185 ?_
                    refine lv_lmul hx hb dX2_digest_188 ?_
                    refine lv_aload_n hx hb dX2_digest_189 rfl (lv_at hl 3 rfl) ?_
                    refine va_get (D := D) (ci := 2) (v := .ref (am 4)) (C := RX2) (T := TX2) (N := 9) hx hb hts hin2 hown hK hP 0 rfl rfl 7 (by decide) (hts (.fieldLink RX2 20 "LanternPrimesModel" "number" "[I") (List.mem_of_getElem? (i := 9) rfl)) (fun _ h9 => h9) rfl dX2_digest_190 ?_
                    refine lv_iload hx hb dX2_digest_193 (lv_at hl 0 rfl) ?_
                    refine n_iald (v := nI (lnu (v j) i)) (j := 4 * j + i) hx hb hK hP 4 0 rfl rfl (by omega) (by decide) (by show nI (lnu (v ((4 * j + i) / 4)) ((4 * j + i) % 4)) = _; rw [(idx4 (by omega)).1, (idx4 (by omega)).2]) dX2_digest_195 ?_
                    refine lv_i2l (v := (nI (lnu (v j) i)).toInt64) hx hb dX2_digest_196 rfl ?_
                    refine lv_ladd hx hb dX2_digest_197 ?_
                    refine n_tl (y := mxL (dgB (v j) (dg6 (v j) now (dgK v now (dgA n now told v) j)) i) (nI (lnu (v j) i)).toInt64) rfl ?_
                    refine lv_ldc2 (v := 31) hx hb hown (hts (.constantLong RX2 102 (31)) (List.mem_of_getElem? (i := 4) rfl)) dX2_digest_198 ?_
                    refine lv_lmul hx hb dX2_digest_201 ?_
                    refine lv_aload_n hx hb dX2_digest_202 rfl (lv_at hl 3 rfl) ?_
                    refine va_get (D := D) (ci := 2) (v := .ref (am 5)) (C := RX2) (T := TX2) (N := 9) hx hb hts hin2 hown hK hP 0 rfl rfl 8 (by decide) (hts (.fieldLink RX2 23 "LanternPrimesModel" "offset" "[I") (List.mem_of_getElem? (i := 10) rfl)) (fun _ h9 => h9) rfl dX2_digest_203 ?_
                    refine lv_iload hx hb dX2_digest_206 (lv_at hl 0 rfl) ?_
                    refine n_iald (v := nI (lof (v j) i)) (j := 4 * j + i) hx hb hK hP 5 0 rfl rfl (by omega) (by decide) (by show nI (lof (v ((4 * j + i) / 4)) ((4 * j + i) % 4)) = _; rw [(idx4 (by omega)).1, (idx4 (by omega)).2]) dX2_digest_208 ?_
                    refine lv_i2l (v := (nI (lof (v j) i)).toInt64) hx hb dX2_digest_209 rfl ?_
                    refine lv_ladd hx hb dX2_digest_210 ?_
                    refine n_tl (y := dgB (v j) (dg6 (v j) now (dgK v now (dgA n now told v) j)) (i + 1)) rfl ?_
                    refine lv_lstore_n (lv' := [(1, .long (dgB (v j) (dg6 (v j) now (dgK v now (dgA n now told v) j)) (i + 1))), (4, .int (nI (4 * j + i))), (3, .int (nI j)), (0, .ref (am 0))]) hx hb dX2_digest_211 rfl hl (by decide) rfl (fun ls hl => ?_)
                    refine lv_iinc (v := nI ((4 * j + i) + 1)) (lv' := [(4, .int (nI ((4 * j + i) + 1))), (1, .long (dgB (v j) (dg6 (v j) now (dgK v now (dgA n now told v) j)) (i + 1))), (3, .int (nI j)), (0, .ref (am 0))]) hx hb dX2_digest_212 hl (k := 1) rfl (nI_inc _) (by decide) rfl (fun ls hl => ?_)
                    refine lv_goto (tgt := 169) hx hb dX2_digest_215 (by decide) ?_
                    exact ih_169 (i + 1) (by omega) (by omega) ls (lv_sub hl [0, 2, 1, 3] rfl)
              exact loop_169 (lbc (v j) + 1) 0 (by omega) (Nat.zero_le _) ls (lv_sub hl [0, 2, 1, 3] rfl)
            refine lv_ldc2 (v := 31) hx hb hown (hts (.constantLong RX2 102 (31)) (List.mem_of_getElem? (i := 4) rfl)) dX2_digest_120 ?_
            refine lv_lmul hx hb dX2_digest_123 ?_
            refine lv_aload_n hx hb dX2_digest_124 rfl (lv_at hl 2 rfl) ?_
            refine lv_iload_n hx hb dX2_digest_125 rfl (lv_at hl 0 rfl) ?_
            refine rV (r := bI (decide (cyc (v j) = 1))) (As := [.int (nI j)]) (rest := [.long ((dg3 (v j) now (dgK v now (dgA n now told v) j)) * 31)]) ⟨hx, hb, hml, hown, hts⟩ (c_X2_steady l D cI cZ cL cJ am (nI 0) n now told v ⟨hn8, hnow, hwl⟩ j hj) (cwV 1 hts gX2_digest_X2_steady rfl rfl rfl (by decide +kernel) ⟨(Nat.le_of_ble_eq_true rfl), (Nat.le_of_ble_eq_true rfl)⟩) hK ((hEA.kept hS.2.1).narrow (fun _ h => h.elim)) hP (RC_of (q := (RX2, TX2, 9)) (ci := 2) hK rfl (vpa hP 0 rfl)) rfl hl.1 rfl (Nat.le_of_ble_eq_true rfl) dX2_digest_126 ⟨(Nat.le_of_ble_eq_true rfl), (Nat.le_of_ble_eq_true rfl)⟩ ?_
            refine b_if_eq (b := decide (cyc (v j) = 1)) (tgt := 136) hx hb dX2_digest_129 (by decide) (fun c_129 => ?_) (fun c_129 => ?_)
            · refine lv_iconst (v := nI 0) hx hb dX2_digest_136 (by decide) ?_
              refine n_ti (y := nI (if decide (cyc (v j) = 1) = true then 1 else 0)) (by rw [c_129]; rfl) ?_
              exact join_137 ls (lv_sub hl [0, 1, 2] rfl)
            · refine lv_iconst (v := nI 1) hx hb dX2_digest_132 (by decide) ?_
              refine lv_goto (tgt := 137) hx hb dX2_digest_133 (by decide) ?_
              refine n_ti (y := nI (if decide (cyc (v j) = 1) = true then 1 else 0)) (by rw [c_129]; rfl) ?_
              exact join_137 ls (lv_sub hl [0, 1, 2] rfl)
          refine lv_lload_n hx hb dX2_digest_96 rfl (lv_at hl 0 rfl) ?_
          refine lv_ldc2 (v := 31) hx hb hown (hts (.constantLong RX2 102 (31)) (List.mem_of_getElem? (i := 4) rfl)) dX2_digest_97 ?_
          refine lv_lmul hx hb dX2_digest_100 ?_
          refine lv_aload_n hx hb dX2_digest_101 rfl (lv_at hl 2 rfl) ?_
          refine lv_iload_n hx hb dX2_digest_102 rfl (lv_at hl 1 rfl) ?_
          refine lv_aload_n hx hb dX2_digest_103 rfl (lv_at hl 2 rfl) ?_
          refine va_get (D := D) (ci := 2) (v := .int (nI now)) (C := RX2) (T := TX2) (N := 9) hx hb hts hin2 hown hK hP 0 rfl rfl 1 (by decide) (hts (.fieldLink RX2 59 "LanternPrimesModel" "now" "I") (List.mem_of_getElem? (i := 5) rfl)) (fun _ h9 => h9) rfl dX2_digest_104 ?_
          refine rV (r := bI (onB (v j) now)) (As := [.int (nI j), .int (nI now)]) (rest := [.long ((dg2 (v j) (dgK v now (dgA n now told v) j)) * 31)]) ⟨hx, hb, hml, hown, hts⟩ (c_X2_onAt l D cI cZ cL cJ am (nI 0) n now told v ⟨hn8, hnow, hwl⟩ j hj now (by omega)) (cwV 2 hts gX2_digest_X2_onAt rfl rfl rfl (by decide +kernel) ⟨(Nat.le_of_ble_eq_true rfl), (Nat.le_of_ble_eq_true rfl)⟩) hK ((hEA.kept hS.2.1).narrow (fun _ h => h.elim)) hP (RC_of (q := (RX2, TX2, 9)) (ci := 2) hK rfl (vpa hP 0 rfl)) rfl hl.1 rfl (Nat.le_of_ble_eq_true rfl) dX2_digest_107 ⟨(Nat.le_of_ble_eq_true rfl), (Nat.le_of_ble_eq_true rfl)⟩ ?_
          refine b_if_eq (b := onB (v j) now) (tgt := 117) hx hb dX2_digest_110 (by decide) (fun c_110 => ?_) (fun c_110 => ?_)
          · refine lv_iconst (v := nI 0) hx hb dX2_digest_117 (by decide) ?_
            refine n_ti (y := nI (if onB (v j) now = true then 1 else 0)) (by rw [c_110]; rfl) ?_
            exact join_118 ls (lv_sub hl [1, 0, 2] rfl)
          · refine lv_iconst (v := nI 1) hx hb dX2_digest_113 (by decide) ?_
            refine lv_goto (tgt := 118) hx hb dX2_digest_114 (by decide) ?_
            refine n_ti (y := nI (if onB (v j) now = true then 1 else 0)) (by rw [c_110]; rfl) ?_
            exact join_118 ls (lv_sub hl [1, 0, 2] rfl)
        refine lv_ldc2 (v := 31) hx hb hown (hts (.constantLong RX2 102 (31)) (List.mem_of_getElem? (i := 4) rfl)) dX2_digest_75 ?_
        refine lv_lmul hx hb dX2_digest_78 ?_
        refine lv_aload_n hx hb dX2_digest_79 rfl (lv_at hl 2 rfl) ?_
        refine va_get (D := D) (ci := 2) (v := .ref (am 2)) (C := RX2) (T := TX2) (N := 9) hx hb hts hin2 hown hK hP 0 rfl rfl 5 (by decide) (hts (.fieldLink RX2 13 "LanternPrimesModel" "covered" "[Z") (List.mem_of_getElem? (i := 8) rfl)) (fun _ h9 => h9) rfl dX2_digest_80 ?_
        refine lv_iload_n hx hb dX2_digest_83 rfl (lv_at hl 0 rfl) ?_
        refine n_zald (v := bI (lcv (v j))) (j := j) hx hb hK hP 2 1 rfl rfl (by omega) (by decide) rfl dX2_digest_84 ?_
        refine b_if_eq (b := lcv (v j)) (tgt := 92) hx hb dX2_digest_85 (by decide) (fun c_85 => ?_) (fun c_85 => ?_)
        · refine lv_iconst (v := nI 0) hx hb dX2_digest_92 (by decide) ?_
          refine n_ti (y := nI (if lcv (v j) = true then 1 else 0)) (by rw [c_85]; rfl) ?_
          exact join_93 ls (lv_sub hl [0, 1, 2] rfl)
        · refine lv_iconst (v := nI 1) hx hb dX2_digest_88 (by decide) ?_
          refine lv_goto (tgt := 93) hx hb dX2_digest_89 (by decide) ?_
          refine n_ti (y := nI (if lcv (v j) = true then 1 else 0)) (by rw [c_85]; rfl) ?_
          exact join_93 ls (lv_sub hl [0, 1, 2] rfl)
  exact loop_54 (n + 1) 0 (by omega) (Nat.zero_le _) ls (lv_sub hl [0, 1, 2] rfl)
