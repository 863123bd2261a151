set_option maxHeartbeats 4000000 in
set_option maxRecDepth 100000 in
/-- shows -/
theorem c_X2_shows (l : Launch) (D : va_G) (cI cZ cL cJ : ClassId) (am : Nat → Nat) (th : Int32) (n now : Nat) (told : Int32) (v : Nat → LV) (hwf : WFX n now v) (hinj : Inj 6 am) (k x : Int32) : Met l yX2_shows wsX2_shows ({ frames := 2, cells := 0, slots := 0, locals := 43 } : Room) (PC D (TY cI cZ cL cJ) (AM am) [.ref (am 0), .int k, .int x] (fun H => PM D cI cZ am th n now told v H)) (QW (AM am) True ((mrI (cd2 (lpOk n k) (inB (nI 1) (nI 30) x)) (nI (shwN (v (ixx k)) now (ixx x))))) (fun H => PM D cI cZ am (nI (cd2 (lpOk n k) (inB (nI 1) (nI 30) x))) n (now) (told) (v) H)) 0 0 (AM am) := by
  refine Met.ofW (cc := cX2_shows) (maxL := 5) (ret := (some .int)) (by decide) rfl ?_
  intro p e s m args below meth c s₁ B hml hv
  obtain ⟨rfl, hK, hEA, hP⟩ := hv
  obtain ⟨hn8, hnow, hwl⟩ := hwf
  have hE : EN noA s s.heap := hEA.narrow (fun _ h => h.elim)
  have hS : va_S (AM am) s.heap s.heap [] := va_S.rf
  have hD : va_D (AM am) (mW cI cZ am th n now told v) := vd6 hinj
  have hP : va_P D vwCl (mW cI cZ am th n now told v) s.heap := hP
  have hx := B.exec
  have hb := B.bytes
  have hr := B.returns
  have hts := atoms_spec (ws := wsX2_shows) B.pre
  have hown : s.vm.findClass RX2 = some m.cls := findClass_of_methodNamed B.named
  have hlocks := B.notSynchronized
  have hNF := hE.2.1.1
  have hin2 : ∀ w ∈ wsX20, w ∈ wsX2_shows := by decide +kernel
  have hl := lv_entry ([.ref (am 0), .int k, .int x]) (n := 5) (Nat.le_of_ble_eq_true rfl)
  rw [lg_entry_eq]
  generalize (lg_sl ([.ref (am 0), .int k, .int x]) ++ List.replicate (5 - (lg_sl ([.ref (am 0), .int k, .int x])).length) Slot.unset).toArray = ls at hl ⊢
  have hl : lv_has ls 5 [(0, .ref (am 0)), (1, .int k), (2, .int x)] := hl
  refine lv_aload_n hx hb dX2_shows_0 rfl (lv_at hl 0 rfl) ?_
  refine lv_iconst (v := nI 0) hx hb dX2_shows_1 (by decide) ?_
  refine va_put (D := D) (ci := 2) (v := .int (nI 0)) (ty := .int) (C := RX2) (T := TX2) (N := 9) hx hb hts hin2 tyX2 tyX2_ok nmX2 hown hK hP hD hS 0 rfl rfl 0 (by decide) (hts (.fieldLink RX2 26 "LanternPrimesModel" "thrown" "I") (List.mem_of_getElem? (i := 1) rfl)) (fun _ h9 => h9) rfl (by decide +kernel) rfl rfl (Nat.le_of_ble_eq_true rfl) dX2_shows_2 (fun H locs hP hD hS => ?_)
  have hP : va_P D vwCl [(am 0, .inr (2, [.int (nI 0), .int (nI now), .int told, .int (nI n), .ref (am 1), .ref (am 2), .ref (am 3), .ref (am 4), .ref (am 5)])), (am 1, .inl (cZ, 8, .inl (fun j => bI (lon (v j))))), (am 2, .inl (cZ, 8, .inl (fun j => bI (lcv (v j))))), (am 3, .inl (cI, 8, .inl (fun j => nI (lbc (v j))))), (am 4, .inl (cI, 32, .inl (fun z => nI (lnu (v (z / 4)) (z % 4))))), (am 5, .inl (cI, 32, .inl (fun z => nI (lof (v (z / 4)) (z % 4)))))] H := hP
  have hD : va_D (AM am) [(am 0, .inr (2, [.int (nI 0), .int (nI now), .int told, .int (nI n), .ref (am 1), .ref (am 2), .ref (am 3), .ref (am 4), .ref (am 5)])), (am 1, .inl (cZ, 8, .inl (fun j => bI (lon (v j))))), (am 2, .inl (cZ, 8, .inl (fun j => bI (lcv (v j))))), (am 3, .inl (cI, 8, .inl (fun j => nI (lbc (v j))))), (am 4, .inl (cI, 32, .inl (fun z => nI (lnu (v (z / 4)) (z % 4))))), (am 5, .inl (cI, 32, .inl (fun z => nI (lof (v (z / 4)) (z % 4)))))] := hD
  refine lv_aload_n hx hb dX2_shows_5 rfl (lv_at hl 0 rfl) ?_
  refine lv_iload_n hx hb dX2_shows_6 rfl (lv_at hl 1 rfl) ?_
  refine rV (r := bI (lpOk n k)) (As := [.int k]) (rest := []) ⟨hx, hb, hml, hown, hts⟩ (c_X2_isLamp l D cI cZ cL cJ am (nI 0) n now told v ⟨hn8, hnow, hwl⟩ k) (cwV 1 hts gX2_shows_X2_isLamp rfl rfl rfl (by decide +kernel) ⟨(Nat.le_of_ble_eq_true rfl), (Nat.le_of_ble_eq_true rfl)⟩) hK ((hEA.kept hS.2.1).narrow (fun _ h => h.elim)) hP (RC_of (q := (RX2, TX2, 9)) (ci := 2) hK rfl (vpa hP 0 rfl)) rfl hl.1 rfl (Nat.le_of_ble_eq_true rfl) dX2_shows_7 ⟨(Nat.le_of_ble_eq_true rfl), (Nat.le_of_ble_eq_true rfl)⟩ ?_
  refine b_if_ne (b := lpOk n k) (tgt := 19) hx hb dX2_shows_10 (by decide) (fun c_10 => ?_) (fun c_10 => ?_)
  · obtain ⟨j, hj, rfl⟩ := lpOk_j (by omega) c_10
    refine lv_iload_n hx hb dX2_shows_19 rfl (lv_at hl 2 rfl) ?_
    refine lv_iconst (v := nI 1) hx hb dX2_shows_20 (by decide) ?_
    refine lv_bipush (v := nI 30) hx hb dX2_shows_21 (by decide) ?_
    refine rS (r := bI (inB (nI 1) (nI 30) x)) (As := [.int x, .int (nI 1), .int (nI 30)]) (rest := []) ⟨hx, hb, hml, hown, hts⟩ (c_X2_isIn l D cI cZ cL cJ x (nI 1) (nI 30)) (va_cwS 3 hts gX2_shows_X2_isIn rfl rfl rfl (by decide +kernel) ⟨(Nat.le_of_ble_eq_true rfl), (Nat.le_of_ble_eq_true rfl)⟩) hK ((hEA.kept hS.2.1).narrow (fun _ h => h.elim)) trivial rfl hl.1 rfl (Nat.le_of_ble_eq_true rfl) dX2_shows_23 ⟨(Nat.le_of_ble_eq_true rfl), (Nat.le_of_ble_eq_true rfl)⟩ ?_
    refine b_if_ne (b := inB (nI 1) (nI 30) x) (tgt := 35) hx hb dX2_shows_26 (by decide) (fun c_26 => ?_) (fun c_26 => ?_)
    · obtain ⟨y, hy1, hy2, rfl⟩ := inB_j (by decide) (by decide) c_26
      refine lv_iconst (v := nI 0) hx hb dX2_shows_35 (by decide) ?_
      refine lv_istore_n (lv' := [(3, .int (nI 0)), (0, .ref (am 0)), (1, .int (nI j)), (2, .int (nI y))]) hx hb dX2_shows_36 rfl hl (by decide) rfl (fun ls hl => ?_)
      refine lv_iconst (v := nI 0) hx hb dX2_shows_37 (by decide) ?_
      refine lv_istore (lv' := [(4, .int (nI 0)), (3, .int (nI 0)), (0, .ref (am 0)), (1, .int (nI j)), (2, .int (nI y))]) hx hb dX2_shows_38 hl (by decide) rfl (fun ls hl => ?_)
      have loop_40 : ∀ (fu : Nat) (q : Nat), y + 1 - q ≤ fu → q ≤ y → ∀ (ls : Array Slot), lv_has ls 5 [(4, .int (nI q)), (3, .int (nI (shwN (v j) now q))), (0, .ref (am 0)), (1, .int (nI j)), (2, .int (nI y))] → W p l e (headSpec wsX2_shows ({ frames := 2, cells := 0, slots := 0, locals := 43 } : Room)).room s m [.ref (am 0), .int (nI j), .int (nI y)].toArray below meth c H locs 0 0 (MQ below (QW (AM am) True ((mrI (cd2 (lpOk n (nI j)) (inB (nI 1) (nI 30) (nI y))) (nI (shwN (v (ixx (nI j))) now (ixx (nI y)))))) (fun H => PM D cI cZ am (nI (cd2 (lpOk n (nI j)) (inB (nI 1) (nI 30) (nI y)))) n (now) (told) (v) H)) [.ref (am 0), .int (nI j), .int (nI y)].toArray s 0 0 (AM am)) (F0 m 40 ls []) := by
        intro fu
        induction fu with
        | zero => intro q hn_40 hq; exact absurd hn_40 (by omega)
        | succ fu ih_40 =>
          intro q hn_40 hq ls hl
          refine lv_iload hx hb dX2_shows_40 (lv_at hl 0 rfl) ?_
          refine lv_iload_n hx hb dX2_shows_42 rfl (lv_at hl 4 rfl) ?_
          refine n_icmp_ge (a := q) (b := y) (tgt := 77) hx hb (by omega) (by omega) dX2_shows_43 (by decide) (fun c_43 => ?_) (fun c_43 => ?_)
          · refine lv_iload_n hx hb dX2_shows_77 rfl (lv_at hl 1 rfl) ?_
            have hcd : cd2 (lpOk n (nI j)) (inB (nI 1) (nI 30) (nI y)) = 0 := (cd2_t c_10 c_26)
            have hend : PM D cI cZ am (nI (cd2 (lpOk n (nI j)) (inB (nI 1) (nI 30) (nI y)))) n (now) (told) (v) H := by
              rw [hcd]; exact hP
            refine n_ti (y := (mrI (cd2 (lpOk n (nI j)) (inB (nI 1) (nI 30) (nI y))) (nI (shwN (v (ixx (nI j))) now (ixx (nI y)))))) (by rw [hcd, ixx_nI (by omega), ixx_nI (by omega), show q = y by omega]; rfl) ?_
            exact W.iret (v := (mrI (cd2 (lpOk n (nI j)) (inB (nI 1) (nI 30) (nI y))) (nI (shwN (v (ixx (nI j))) now (ixx (nI y)))))) hx hb hr (fun t ht hW => ⟨trivial, rfl, by rw [ht]; exact hend, hS.F ht⟩) hS.2.2 dX2_shows_78
          · have join_69 : ∀ (ls : Array Slot), lv_has ls 5 [(4, .int (nI q)), (3, .int (nI (shwN (v j) now q))), (0, .ref (am 0)), (1, .int (nI j)), (2, .int (nI y))] → W p l e (headSpec wsX2_shows ({ frames := 2, cells := 0, slots := 0, locals := 43 } : Room)).room s m [.ref (am 0), .int (nI j), .int (nI y)].toArray below meth c H locs 0 0 (MQ below (QW (AM am) True ((mrI (cd2 (lpOk n (nI j)) (inB (nI 1) (nI 30) (nI y))) (nI (shwN (v (ixx (nI j))) now (ixx (nI y)))))) (fun H => PM D cI cZ am (nI (cd2 (lpOk n (nI j)) (inB (nI 1) (nI 30) (nI y)))) n (now) (told) (v) H)) [.ref (am 0), .int (nI j), .int (nI y)].toArray s 0 0 (AM am)) (F0 m 69 ls [.int (nI (if onB (v j) (now + q) = true then 1 else 0)), .int (nI (2 * (shwN (v j) now q)))]) := by
              intro   ls hl
              refine n_iadd (v := nI (shwN (v j) now (q + 1))) hx hb dX2_shows_69 (nI_add _ _) ?_
              refine lv_istore_n (lv' := [(3, .int (nI (shwN (v j) now (q + 1)))), (4, .int (nI q)), (0, .ref (am 0)), (1, .int (nI j)), (2, .int (nI y))]) hx hb dX2_shows_70 rfl hl (by decide) rfl (fun ls hl => ?_)
              refine lv_iinc (v := nI (q + 1)) (lv' := [(4, .int (nI (q + 1))), (3, .int (nI (shwN (v j) now (q + 1)))), (0, .ref (am 0)), (1, .int (nI j)), (2, .int (nI y))]) hx hb dX2_shows_71 hl (k := 1) rfl (nI_inc _) (by decide) rfl (fun ls hl => ?_)
              refine lv_goto (tgt := 40) hx hb dX2_shows_74 (by decide) ?_
              exact ih_40 (q + 1) (by omega) (by omega) ls (lv_sub hl [0, 1, 2, 3, 4] rfl)
            refine lv_iconst (v := nI 2) hx hb dX2_shows_46 (by decide) ?_
            refine lv_iload_n hx hb dX2_shows_47 rfl (lv_at hl 1 rfl) ?_
            refine n_imul (v := nI (2 * (shwN (v j) now q))) hx hb dX2_shows_48 (pk_mul _ _) ?_
            refine lv_aload_n hx hb dX2_shows_49 rfl (lv_at hl 2 rfl) ?_
            refine lv_iload_n hx hb dX2_shows_50 rfl (lv_at hl 3 rfl) ?_
            refine lv_aload_n hx hb dX2_shows_51 rfl (lv_at hl 2 rfl) ?_
            refine va_get (D := D) (ci := 2) (v := .int (nI now)) (C := RX2) (T := TX2) (N := 9) hx hb hts hin2 hown hK hP 0 rfl rfl 1 (by decide) (hts (.fieldLink RX2 59 "LanternPrimesModel" "now" "I") (List.mem_of_getElem? (i := 2) rfl)) (fun _ h9 => h9) rfl dX2_shows_52 ?_
            refine lv_iload hx hb dX2_shows_55 (lv_at hl 0 rfl) ?_
            refine n_iadd (v := nI (now + q)) hx hb dX2_shows_57 (nI_add _ _) ?_
            refine rV (r := bI (onB (v j) (now + q))) (As := [.int (nI j), .int (nI (now + q))]) (rest := [.int (nI (2 * (shwN (v j) now q)))]) ⟨hx, hb, hml, hown, hts⟩ (c_X2_onAt l D cI cZ cL cJ am (nI 0) n now told v ⟨hn8, hnow, hwl⟩ j hj (now + q) (by omega)) (cwV 2 hts gX2_shows_X2_onAt rfl rfl rfl (by decide +kernel) ⟨(Nat.le_of_ble_eq_true rfl), (Nat.le_of_ble_eq_true rfl)⟩) hK ((hEA.kept hS.2.1).narrow (fun _ h => h.elim)) hP (RC_of (q := (RX2, TX2, 9)) (ci := 2) hK rfl (vpa hP 0 rfl)) rfl hl.1 rfl (Nat.le_of_ble_eq_true rfl) dX2_shows_58 ⟨(Nat.le_of_ble_eq_true rfl), (Nat.le_of_ble_eq_true rfl)⟩ ?_
            refine b_if_eq (b := onB (v j) (now + q)) (tgt := 68) hx hb dX2_shows_61 (by decide) (fun c_61 => ?_) (fun c_61 => ?_)
            · refine lv_iconst (v := nI 0) hx hb dX2_shows_68 (by decide) ?_
              refine n_ti (y := nI (if onB (v j) (now + q) = true then 1 else 0)) (by rw [c_61]; rfl) ?_
              exact join_69 ls (lv_sub hl [0, 1, 2, 3, 4] rfl)
            · refine lv_iconst (v := nI 1) hx hb dX2_shows_64 (by decide) ?_
              refine lv_goto (tgt := 69) hx hb dX2_shows_65 (by decide) ?_
              refine n_ti (y := nI (if onB (v j) (now + q) = true then 1 else 0)) (by rw [c_61]; rfl) ?_
              exact join_69 ls (lv_sub hl [0, 1, 2, 3, 4] rfl)
      exact loop_40 (y + 1) 0 (by omega) (Nat.zero_le _) ls (lv_sub hl [0, 1, 2, 3, 4] rfl)
    · refine lv_aload_n hx hb dX2_shows_29 rfl (lv_at hl 0 rfl) ?_
      refine lv_iconst (v := nI 2) hx hb dX2_shows_30 (by decide) ?_
      refine wV (As := [.int (nI 2)]) (rest := []) ⟨hx, hb, hml, hown, hts⟩ (c_X2_no l D cI cZ cL cJ am (nI 0) n now told v ⟨hn8, hnow, hwl⟩ hinj (nI 2)) (cwV 1 hts gX2_shows_X2_no rfl rfl rfl (by decide +kernel) ⟨(Nat.le_of_ble_eq_true rfl), (Nat.le_of_ble_eq_true rfl)⟩) hK (hEA.kept hS.2.1) hP (RC_of (q := (RX2, TX2, 9)) (ci := 2) hK rfl (vpa hP 0 rfl)) rfl hl.1 rfl (Nat.le_of_ble_eq_true rfl) dX2_shows_31 ⟨(Nat.le_of_ble_eq_true rfl), (Nat.le_of_ble_eq_true rfl)⟩ hS (fun q h => h) (fun H locs _ hP _ hk hS => ?_)
      have hP : va_P D vwCl [(am 0, .inr (2, [.int (nI 2), .int (nI now), .int told, .int (nI n), .ref (am 1), .ref (am 2), .ref (am 3), .ref (am 4), .ref (am 5)])), (am 1, .inl (cZ, 8, .inl (fun j => bI (lon (v j))))), (am 2, .inl (cZ, 8, .inl (fun j => bI (lcv (v j))))), (am 3, .inl (cI, 8, .inl (fun j => nI (lbc (v j))))), (am 4, .inl (cI, 32, .inl (fun z => nI (lnu (v (z / 4)) (z % 4))))), (am 5, .inl (cI, 32, .inl (fun z => nI (lof (v (z / 4)) (z % 4)))))] H := hP
      have hD : va_D (AM am) [(am 0, .inr (2, [.int (nI 2), .int (nI now), .int told, .int (nI n), .ref (am 1), .ref (am 2), .ref (am 3), .ref (am 4), .ref (am 5)])), (am 1, .inl (cZ, 8, .inl (fun j => bI (lon (v j))))), (am 2, .inl (cZ, 8, .inl (fun j => bI (lcv (v j))))), (am 3, .inl (cI, 8, .inl (fun j => nI (lbc (v j))))), (am 4, .inl (cI, 32, .inl (fun z => nI (lnu (v (z / 4)) (z % 4))))), (am 5, .inl (cI, 32, .inl (fun z => nI (lof (v (z / 4)) (z % 4)))))] := vd6 hinj
      have hcd : cd2 (lpOk n (nI j)) (inB (nI 1) (nI 30) x) = 2 := (by rw [c_10, c_26]; rfl)
      have hend : PM D cI cZ am (nI (cd2 (lpOk n (nI j)) (inB (nI 1) (nI 30) x))) n (now) (told) (v) H := by
        rw [hcd]; exact hP
      refine n_ti (y := (mrI (cd2 (lpOk n (nI j)) (inB (nI 1) (nI 30) x)) (nI (shwN (v (ixx (nI j))) now (ixx x))))) (by rw [hcd]; rfl) ?_
      exact W.iret (v := (mrI (cd2 (lpOk n (nI j)) (inB (nI 1) (nI 30) x)) (nI (shwN (v (ixx (nI j))) now (ixx x))))) hx hb hr (fun t ht hW => ⟨trivial, rfl, by rw [ht]; exact hend, hS.F ht⟩) hS.2.2 dX2_shows_34
  · refine lv_aload_n hx hb dX2_shows_13 rfl (lv_at hl 0 rfl) ?_
    refine lv_iconst (v := nI 1) hx hb dX2_shows_14 (by decide) ?_
    refine wV (As := [.int (nI 1)]) (rest := []) ⟨hx, hb, hml, hown, hts⟩ (c_X2_no l D cI cZ cL cJ am (nI 0) n now told v ⟨hn8, hnow, hwl⟩ hinj (nI 1)) (cwV 1 hts gX2_shows_X2_no rfl rfl rfl (by decide +kernel) ⟨(Nat.le_of_ble_eq_true rfl), (Nat.le_of_ble_eq_true rfl)⟩) hK (hEA.kept hS.2.1) hP (RC_of (q := (RX2, TX2, 9)) (ci := 2) hK rfl (vpa hP 0 rfl)) rfl hl.1 rfl (Nat.le_of_ble_eq_true rfl) dX2_shows_15 ⟨(Nat.le_of_ble_eq_true rfl), (Nat.le_of_ble_eq_true rfl)⟩ hS (fun q h => h) (fun H locs _ hP _ hk hS => ?_)
    have hP : va_P D vwCl [(am 0, .inr (2, [.int (nI 1), .int (nI now), .int told, .int (nI n), .ref (am 1), .ref (am 2), .ref (am 3), .ref (am 4), .ref (am 5)])), (am 1, .inl (cZ, 8, .inl (fun j => bI (lon (v j))))), (am 2, .inl (cZ, 8, .inl (fun j => bI (lcv (v j))))), (am 3, .inl (cI, 8, .inl (fun j => nI (lbc (v j))))), (am 4, .inl (cI, 32, .inl (fun z => nI (lnu (v (z / 4)) (z % 4))))), (am 5, .inl (cI, 32, .inl (fun z => nI (lof (v (z / 4)) (z % 4)))))] H := hP
    have hD : va_D (AM am) [(am 0, .inr (2, [.int (nI 1), .int (nI now), .int told, .int (nI n), .ref (am 1), .ref (am 2), .ref (am 3), .ref (am 4), .ref (am 5)])), (am 1, .inl (cZ, 8, .inl (fun j => bI (lon (v j))))), (am 2, .inl (cZ, 8, .inl (fun j => bI (lcv (v j))))), (am 3, .inl (cI, 8, .inl (fun j => nI (lbc (v j))))), (am 4, .inl (cI, 32, .inl (fun z => nI (lnu (v (z / 4)) (z % 4))))), (am 5, .inl (cI, 32, .inl (fun z => nI (lof (v (z / 4)) (z % 4)))))] := vd6 hinj
    have hcd : cd2 (lpOk n k) (inB (nI 1) (nI 30) x) = 1 := (by rw [c_10]; rfl)
    have hend : PM D cI cZ am (nI (cd2 (lpOk n k) (inB (nI 1) (nI 30) x))) n (now) (told) (v) H := by
      rw [hcd]; exact hP
    refine n_ti (y := (mrI (cd2 (lpOk n k) (inB (nI 1) (nI 30) x)) (nI (shwN (v (ixx k)) now (ixx x))))) (by rw [hcd]; rfl) ?_
    exact W.iret (v := (mrI (cd2 (lpOk n k) (inB (nI 1) (nI 30) x)) (nI (shwN (v (ixx k)) now (ixx x))))) hx hb hr (fun t ht hW => ⟨trivial, rfl, by rw [ht]; exact hend, hS.F ht⟩) hS.2.2 dX2_shows_18
set_option maxHeartbeats 4000000 in
set_option maxRecDepth 100000 in
/-- momentsUntilCollision -/
theorem c_X2_momentsUntilCollision (l : Launch) (D : va_G) (cI cZ cL cJ : ClassId) (am : Nat → Nat) (th : Int32) (n now : Nat) (told : Int32) (v : Nat → LV) (hwf : WFX n now v) (hinj : Inj 6 am) (k q : Int32) : Met l yX2_momentsUntilCollision wsX2_momentsUntilCollision ({ frames := 3, cells := 0, slots := 0, locals := 69 } : Room) (PC D (TY cI cZ cL cJ) (AM am) [.ref (am 0), .int k, .int q] (fun H => PM D cI cZ am th n now told v H)) (QW (AM am) True ((mrI (cd2 (lpOk n k && lpOk n q) (decide (¬ k = q))) (oI (fnd (fun z => colB v (ixx k) (ixx q) (now + z)) 1 1000)))) (fun H => PM D cI cZ am (nI (cd2 (lpOk n k && lpOk n q) (decide (¬ k = q)))) n (now) (told) (v) H)) 0 0 (AM am) := by
  refine Met.ofW (cc := cX2_momentsUntilCollision) (maxL := 4) (ret := (some .int)) (by decide) rfl ?_
  intro p e s m args below meth c s₁ B hml hv
  obtain ⟨rfl, hK, hEA, hP⟩ := hv
  obtain ⟨hn8, hnow, hwl⟩ := hwf
  have hE : EN noA s s.heap := hEA.narrow (fun _ h => h.elim)
  have hS : va_S (AM am) s.heap s.heap [] := va_S.rf
  have hD : va_D (AM am) (mW cI cZ am th n now told v) := vd6 hinj
  have hP : va_P D vwCl (mW cI cZ am th n now told v) s.heap := hP
  have hx := B.exec
  have hb := B.bytes
  have hr := B.returns
  have hts := atoms_spec (ws := wsX2_momentsUntilCollision) B.pre
  have hown : s.vm.findClass RX2 = some m.cls := findClass_of_methodNamed B.named
  have hlocks := B.notSynchronized
  have hNF := hE.2.1.1
  have hin2 : ∀ w ∈ wsX20, w ∈ wsX2_momentsUntilCollision := by decide +kernel
  have hl := lv_entry ([.ref (am 0), .int k, .int q]) (n := 4) (Nat.le_of_ble_eq_true rfl)
  rw [lg_entry_eq]
  generalize (lg_sl ([.ref (am 0), .int k, .int q]) ++ List.replicate (4 - (lg_sl ([.ref (am 0), .int k, .int q])).length) Slot.unset).toArray = ls at hl ⊢
  have hl : lv_has ls 4 [(0, .ref (am 0)), (1, .int k), (2, .int q)] := hl
  refine lv_aload_n hx hb dX2_momentsUntilCollision_0 rfl (lv_at hl 0 rfl) ?_
  refine lv_aload_n hx hb dX2_momentsUntilCollision_1 rfl (lv_at hl 0 rfl) ?_
  refine lv_iload_n hx hb dX2_momentsUntilCollision_2 rfl (lv_at hl 1 rfl) ?_
  refine lv_iload_n hx hb dX2_momentsUntilCollision_3 rfl (lv_at hl 2 rfl) ?_
  refine rV (r := nI (cd2 (lpOk n k && lpOk n q) (decide (¬ k = q)))) (As := [.int k, .int q]) (rest := [.ref (am 0)]) ⟨hx, hb, hml, hown, hts⟩ (c_X2_wrongPair l D cI cZ cL cJ am th n now told v ⟨hn8, hnow, hwl⟩ k q) (cwV 2 hts gX2_momentsUntilCollision_X2_wrongPair rfl rfl rfl (by decide +kernel) ⟨(Nat.le_of_ble_eq_true rfl), (Nat.le_of_ble_eq_true rfl)⟩) hK hE hP (RC_of (q := (RX2, TX2, 9)) (ci := 2) hK rfl (vpa hP 0 rfl)) rfl hl.1 rfl (Nat.le_of_ble_eq_true rfl) dX2_momentsUntilCollision_4 ⟨(Nat.le_of_ble_eq_true rfl), (Nat.le_of_ble_eq_true rfl)⟩ ?_
  refine va_put (D := D) (ci := 2) (v := .int (nI (cd2 (lpOk n k && lpOk n q) (decide (¬ k = q))))) (ty := .int) (C := RX2) (T := TX2) (N := 9) hx hb hts hin2 tyX2 tyX2_ok nmX2 hown hK hP hD hS 0 rfl rfl 0 (by decide) (hts (.fieldLink RX2 26 "LanternPrimesModel" "thrown" "I") (List.mem_of_getElem? (i := 1) rfl)) (fun _ h9 => h9) rfl (by decide +kernel) rfl rfl (Nat.le_of_ble_eq_true rfl) dX2_momentsUntilCollision_7 (fun H locs hP hD hS => ?_)
  have hP : va_P D vwCl [(am 0, .inr (2, [.int (nI (cd2 (lpOk n k && lpOk n q) (decide (¬ k = q)))), .int (nI now), .int told, .int (nI n), .ref (am 1), .ref (am 2), .ref (am 3), .ref (am 4), .ref (am 5)])), (am 1, .inl (cZ, 8, .inl (fun j => bI (lon (v j))))), (am 2, .inl (cZ, 8, .inl (fun j => bI (lcv (v j))))), (am 3, .inl (cI, 8, .inl (fun j => nI (lbc (v j))))), (am 4, .inl (cI, 32, .inl (fun z => nI (lnu (v (z / 4)) (z % 4))))), (am 5, .inl (cI, 32, .inl (fun z => nI (lof (v (z / 4)) (z % 4)))))] H := hP
  have hD : va_D (AM am) [(am 0, .inr (2, [.int (nI (cd2 (lpOk n k && lpOk n q) (decide (¬ k = q)))), .int (nI now), .int told, .int (nI n), .ref (am 1), .ref (am 2), .ref (am 3), .ref (am 4), .ref (am 5)])), (am 1, .inl (cZ, 8, .inl (fun j => bI (lon (v j))))), (am 2, .inl (cZ, 8, .inl (fun j => bI (lcv (v j))))), (am 3, .inl (cI, 8, .inl (fun j => nI (lbc (v j))))), (am 4, .inl (cI, 32, .inl (fun z => nI (lnu (v (z / 4)) (z % 4))))), (am 5, .inl (cI, 32, .inl (fun z => nI (lof (v (z / 4)) (z % 4)))))] := hD
  refine lv_aload_n hx hb dX2_momentsUntilCollision_10 rfl (lv_at hl 0 rfl) ?_
  refine va_get (D := D) (ci := 2) (v := .int (nI (cd2 (lpOk n k && lpOk n q) (decide (¬ k = q))))) (C := RX2) (T := TX2) (N := 9) hx hb hts hin2 hown hK hP 0 rfl rfl 0 (by decide) (hts (.fieldLink RX2 26 "LanternPrimesModel" "thrown" "I") (List.mem_of_getElem? (i := 1) rfl)) (fun _ h9 => h9) rfl dX2_momentsUntilCollision_11 ?_
  refine n_if_le (a := cd2 (lpOk n k && lpOk n q) (decide (¬ k = q))) (tgt := 19) hx hb (cd2_lt _ _) dX2_momentsUntilCollision_14 (by decide) (fun c_14 => ?_) (fun c_14 => ?_)
  · obtain ⟨i, j, hi, hj, hij, rfl, rfl⟩ := pair_j hn8 c_14
    refine lv_iconst (v := nI 1) hx hb dX2_momentsUntilCollision_19 (by decide) ?_
    refine lv_istore_n (lv' := [(3, .int (nI 1)), (0, .ref (am 0)), (1, .int (nI i)), (2, .int (nI j))]) hx hb dX2_momentsUntilCollision_20 rfl hl (by decide) rfl (fun ls hl => ?_)
    have loop_21 : ∀ (fu : Nat) (y : Nat), 1002 - y ≤ fu → 1 ≤ y → y ≤ 1001 → fnd (fun z => colB v i j (now + z)) y (1001 - y) = fnd (fun z => colB v i j (now + z)) 1 1000 → ∀ (ls : Array Slot), lv_has ls 4 [(3, .int (nI y)), (0, .ref (am 0)), (1, .int (nI i)), (2, .int (nI j))] → W p l e (headSpec wsX2_momentsUntilCollision ({ frames := 3, cells := 0, slots := 0, locals := 69 } : Room)).room s m [.ref (am 0), .int (nI i), .int (nI j)].toArray below meth c H locs 0 0 (MQ below (QW (AM am) True ((mrI (cd2 (lpOk n (nI i) && lpOk n (nI j)) (decide (¬ (nI i) = (nI j)))) (oI (fnd (fun z => colB v (ixx (nI i)) (ixx (nI j)) (now + z)) 1 1000)))) (fun H => PM D cI cZ am (nI (cd2 (lpOk n (nI i) && lpOk n (nI j)) (decide (¬ (nI i) = (nI j))))) n (now) (told) (v) H)) [.ref (am 0), .int (nI i), .int (nI j)].toArray s 0 0 (AM am)) (F0 m 21 ls []) := by
      intro fu
      induction fu with
      | zero => intro y hn_21 hy1 hy2 hf; exact absurd hn_21 (by omega)
      | succ fu ih_21 =>
        intro y hn_21 hy1 hy2 hf ls hl
        refine lv_iload_n hx hb dX2_momentsUntilCollision_21 rfl (lv_at hl 0 rfl) ?_
        refine lv_sipush (v := nI 1000) hx hb dX2_momentsUntilCollision_22 (by decide) ?_
        refine n_icmp_gt (a := y) (b := 1000) (tgt := 51) hx hb (by omega) (by omega) dX2_momentsUntilCollision_25 (by decide) (fun c_25 => ?_) (fun c_25 => ?_)
        · refine lv_iconst (v := (-1)) hx hb dX2_momentsUntilCollision_51 (by decide) ?_
          have hcd : cd2 (lpOk n (nI i) && lpOk n (nI j)) (decide (¬ (nI i) = (nI j))) = 0 := c_14
          have hend : PM D cI cZ am (nI (cd2 (lpOk n (nI i) && lpOk n (nI j)) (decide (¬ (nI i) = (nI j))))) n (now) (told) (v) H := by
            exact hP
          refine n_ti (y := (mrI (cd2 (lpOk n (nI i) && lpOk n (nI j)) (decide (¬ (nI i) = (nI j)))) (oI (fnd (fun z => colB v (ixx (nI i)) (ixx (nI j)) (now + z)) 1 1000)))) (by rw [hcd, ixx_nI (by omega), ixx_nI (by omega), ← hf, show 1001 - y = 0 by omega]; rfl) ?_
          exact W.iret (v := (mrI (cd2 (lpOk n (nI i) && lpOk n (nI j)) (decide (¬ (nI i) = (nI j)))) (oI (fnd (fun z => colB v (ixx (nI i)) (ixx (nI j)) (now + z)) 1 1000)))) hx hb hr (fun t ht hW => ⟨trivial, rfl, by rw [ht]; exact hend, hS.F ht⟩) hS.2.2 dX2_momentsUntilCollision_52
        · refine lv_aload_n hx hb dX2_momentsUntilCollision_28 rfl (lv_at hl 1 rfl) ?_
          refine lv_iload_n hx hb dX2_momentsUntilCollision_29 rfl (lv_at hl 2 rfl) ?_
          refine lv_iload_n hx hb dX2_momentsUntilCollision_30 rfl (lv_at hl 3 rfl) ?_
          refine lv_aload_n hx hb dX2_momentsUntilCollision_31 rfl (lv_at hl 1 rfl) ?_
          refine va_get (D := D) (ci := 2) (v := .int (nI now)) (C := RX2) (T := TX2) (N := 9) hx hb hts hin2 hown hK hP 0 rfl rfl 1 (by decide) (hts (.fieldLink RX2 59 "LanternPrimesModel" "now" "I") (List.mem_of_getElem? (i := 2) rfl)) (fun _ h9 => h9) rfl dX2_momentsUntilCollision_32 ?_
          refine lv_iload_n hx hb dX2_momentsUntilCollision_35 rfl (lv_at hl 0 rfl) ?_
          refine n_iadd (v := nI (now + y)) hx hb dX2_momentsUntilCollision_36 (nI_add _ _) ?_
          refine rV (r := bI (colB v i j (now + y))) (As := [.int (nI i), .int (nI j), .int (nI (now + y))]) (rest := []) ⟨hx, hb, hml, hown, hts⟩ (c_X2_collide l D cI cZ cL cJ am (nI (cd2 (lpOk n (nI i) && lpOk n (nI j)) (decide (¬ (nI i) = (nI j))))) n now told v ⟨hn8, hnow, hwl⟩ i j (now + y) hi hj (by omega)) (cwV 3 hts gX2_momentsUntilCollision_X2_collide rfl rfl rfl (by decide +kernel) ⟨(Nat.le_of_ble_eq_true rfl), (Nat.le_of_ble_eq_true rfl)⟩) hK ((hEA.kept hS.2.1).narrow (fun _ h => h.elim)) hP (RC_of (q := (RX2, TX2, 9)) (ci := 2) hK rfl (vpa hP 0 rfl)) rfl hl.1 rfl (Nat.le_of_ble_eq_true rfl) dX2_momentsUntilCollision_37 ⟨(Nat.le_of_ble_eq_true rfl), (Nat.le_of_ble_eq_true rfl)⟩ ?_
          refine b_if_eq (b := colB v i j (now + y)) (tgt := 45) hx hb dX2_momentsUntilCollision_40 (by decide) (fun c_40 => ?_) (fun c_40 => ?_)
          · refine lv_iinc (v := nI (y + 1)) (lv' := [(3, .int (nI (y + 1))), (0, .ref (am 0)), (1, .int (nI i)), (2, .int (nI j))]) hx hb dX2_momentsUntilCollision_45 hl (k := 0) rfl (nI_inc _) (by decide) rfl (fun ls hl => ?_)
            refine lv_goto (tgt := 21) hx hb dX2_momentsUntilCollision_48 (by decide) ?_
            exact ih_21 (y + 1) (by omega) (by omega) (by omega) (by rw [← hf, fnd_f (f := (fun z => colB v i j (now + z))) (lo := y) c_40 (by omega), show 1001 - y - 1 = 1001 - (y + 1) by omega]) ls (lv_sub hl [0, 1, 2, 3] rfl)
          · refine lv_iload_n hx hb dX2_momentsUntilCollision_43 rfl (lv_at hl 0 rfl) ?_
            have hcd : cd2 (lpOk n (nI i) && lpOk n (nI j)) (decide (¬ (nI i) = (nI j))) = 0 := c_14
            have hend : PM D cI cZ am (nI (cd2 (lpOk n (nI i) && lpOk n (nI j)) (decide (¬ (nI i) = (nI j))))) n (now) (told) (v) H := by
              exact hP
            refine n_ti (y := (mrI (cd2 (lpOk n (nI i) && lpOk n (nI j)) (decide (¬ (nI i) = (nI j)))) (oI (fnd (fun z => colB v (ixx (nI i)) (ixx (nI j)) (now + z)) 1 1000)))) (by rw [hcd, ixx_nI (by omega), ixx_nI (by omega), ← hf, fnd_t (f := (fun z => colB v i j (now + z))) (lo := y) c_40 (by omega)]; rfl) ?_
            exact W.iret (v := (mrI (cd2 (lpOk n (nI i) && lpOk n (nI j)) (decide (¬ (nI i) = (nI j)))) (oI (fnd (fun z => colB v (ixx (nI i)) (ixx (nI j)) (now + z)) 1 1000)))) hx hb hr (fun t ht hW => ⟨trivial, rfl, by rw [ht]; exact hend, hS.F ht⟩) hS.2.2 dX2_momentsUntilCollision_44
    exact loop_21 1002 1 (by omega) (by omega) (by omega) rfl ls (lv_sub hl [0, 1, 2, 3] rfl)
  · have hpos := c_14
    refine lv_iconst (v := nI 0) hx hb dX2_momentsUntilCollision_17 (by decide) ?_
    have hcd : cd2 (lpOk n k && lpOk n q) (decide (¬ k = q)) = cd2 (lpOk n k && lpOk n q) (decide (¬ k = q)) := rfl
    have hend : PM D cI cZ am (nI (cd2 (lpOk n k && lpOk n q) (decide (¬ k = q)))) n (now) (told) (v) H := by
      exact hP
    refine n_ti (y := (mrI (cd2 (lpOk n k && lpOk n q) (decide (¬ k = q))) (oI (fnd (fun z => colB v (ixx k) (ixx q) (now + z)) 1 1000)))) (mrI_0 hpos).symm ?_
    exact W.iret (v := (mrI (cd2 (lpOk n k && lpOk n q) (decide (¬ k = q))) (oI (fnd (fun z => colB v (ixx k) (ixx q) (now + z)) 1 1000)))) hx hb hr (fun t ht hW => ⟨trivial, rfl, by rw [ht]; exact hend, hS.F ht⟩) hS.2.2 dX2_momentsUntilCollision_18
set_option maxHeartbeats 4000000 in
set_option maxRecDepth 100000 in
/-- momentsUntilToldApart -/
theorem c_X2_momentsUntilToldApart (l : Launch) (D : va_G) (cI cZ cL cJ : ClassId) (am : Nat → Nat) (th : Int32) (n now : Nat) (told : Int32) (v : Nat → LV) (hwf : WFX n now v) (hinj : Inj 6 am) (k q : Int32) : Met l yX2_momentsUntilToldApart wsX2_momentsUntilToldApart ({ frames := 3, cells := 0, slots := 0, locals := 65 } : Room) (PC D (TY cI cZ cL cJ) (AM am) [.ref (am 0), .int k, .int q] (fun H => PM D cI cZ am th n now told v H)) (QW (AM am) True ((mrI (cd2 (lpOk n k && lpOk n q) (decide (¬ k = q))) (tldI v (ixx k) (ixx q) now))) (fun H => PM D cI cZ am (nI (cd2 (lpOk n k && lpOk n q) (decide (¬ k = q)))) n (now) (told) (v) H)) 0 0 (AM am) := by
  refine Met.ofW (cc := cX2_momentsUntilToldApart) (maxL := 4) (ret := (some .int)) (by decide) rfl ?_
  intro p e s m args below meth c s₁ B hml hv
  obtain ⟨rfl, hK, hEA, hP⟩ := hv
  obtain ⟨hn8, hnow, hwl⟩ := hwf
  have hE : EN noA s s.heap := hEA.narrow (fun _ h => h.elim)
  have hS : va_S (AM am) s.heap s.heap [] := va_S.rf
  have hD : va_D (AM am) (mW cI cZ am th n now told v) := vd6 hinj
  have hP : va_P D vwCl (mW cI cZ am th n now told v) s.heap := hP
  have hx := B.exec
  have hb := B.bytes
  have hr := B.returns
  have hts := atoms_spec (ws := wsX2_momentsUntilToldApart) B.pre
  have hown : s.vm.findClass RX2 = some m.cls := findClass_of_methodNamed B.named
  have hlocks := B.notSynchronized
  have hNF := hE.2.1.1
  have hin2 : ∀ w ∈ wsX20, w ∈ wsX2_momentsUntilToldApart := by decide +kernel
  have hl := lv_entry ([.ref (am 0), .int k, .int q]) (n := 4) (Nat.le_of_ble_eq_true rfl)
  rw [lg_entry_eq]
  generalize (lg_sl ([.ref (am 0), .int k, .int q]) ++ List.replicate (4 - (lg_sl ([.ref (am 0), .int k, .int q])).length) Slot.unset).toArray = ls at hl ⊢
  have hl : lv_has ls 4 [(0, .ref (am 0)), (1, .int k), (2, .int q)] := hl
  refine lv_aload_n hx hb dX2_momentsUntilToldApart_0 rfl (lv_at hl 0 rfl) ?_
  refine lv_aload_n hx hb dX2_momentsUntilToldApart_1 rfl (lv_at hl 0 rfl) ?_
  refine lv_iload_n hx hb dX2_momentsUntilToldApart_2 rfl (lv_at hl 1 rfl) ?_
  refine lv_iload_n hx hb dX2_momentsUntilToldApart_3 rfl (lv_at hl 2 rfl) ?_
  refine rV (r := nI (cd2 (lpOk n k && lpOk n q) (decide (¬ k = q)))) (As := [.int k, .int q]) (rest := [.ref (am 0)]) ⟨hx, hb, hml, hown, hts⟩ (c_X2_wrongPair l D cI cZ cL cJ am th n now told v ⟨hn8, hnow, hwl⟩ k q) (cwV 2 hts gX2_momentsUntilToldApart_X2_wrongPair rfl rfl rfl (by decide +kernel) ⟨(Nat.le_of_ble_eq_true rfl), (Nat.le_of_ble_eq_true rfl)⟩) hK hE hP (RC_of (q := (RX2, TX2, 9)) (ci := 2) hK rfl (vpa hP 0 rfl)) rfl hl.1 rfl (Nat.le_of_ble_eq_true rfl) dX2_momentsUntilToldApart_4 ⟨(Nat.le_of_ble_eq_true rfl), (Nat.le_of_ble_eq_true rfl)⟩ ?_
  refine va_put (D := D) (ci := 2) (v := .int (nI (cd2 (lpOk n k && lpOk n q) (decide (¬ k = q))))) (ty := .int) (C := RX2) (T := TX2) (N := 9) hx hb hts hin2 tyX2 tyX2_ok nmX2 hown hK hP hD hS 0 rfl rfl 0 (by decide) (hts (.fieldLink RX2 26 "LanternPrimesModel" "thrown" "I") (List.mem_of_getElem? (i := 1) rfl)) (fun _ h9 => h9) rfl (by decide +kernel) rfl rfl (Nat.le_of_ble_eq_true rfl) dX2_momentsUntilToldApart_7 (fun H locs hP hD hS => ?_)
  have hP : va_P D vwCl [(am 0, .inr (2, [.int (nI (cd2 (lpOk n k && lpOk n q) (decide (¬ k = q)))), .int (nI now), .int told, .int (nI n), .ref (am 1), .ref (am 2), .ref (am 3), .ref (am 4), .ref (am 5)])), (am 1, .inl (cZ, 8, .inl (fun j => bI (lon (v j))))), (am 2, .inl (cZ, 8, .inl (fun j => bI (lcv (v j))))), (am 3, .inl (cI, 8, .inl (fun j => nI (lbc (v j))))), (am 4, .inl (cI, 32, .inl (fun z => nI (lnu (v (z / 4)) (z % 4))))), (am 5, .inl (cI, 32, .inl (fun z => nI (lof (v (z / 4)) (z % 4)))))] H := hP
  have hD : va_D (AM am) [(am 0, .inr (2, [.int (nI (cd2 (lpOk n k && lpOk n q) (decide (¬ k = q)))), .int (nI now), .int told, .int (nI n), .ref (am 1), .ref (am 2), .ref (am 3), .ref (am 4), .ref (am 5)])), (am 1, .inl (cZ, 8, .inl (fun j => bI (lon (v j))))), (am 2, .inl (cZ, 8, .inl (fun j => bI (lcv (v j))))), (am 3, .inl (cI, 8, .inl (fun j => nI (lbc (v j))))), (am 4, .inl (cI, 32, .inl (fun z => nI (lnu (v (z / 4)) (z % 4))))), (am 5, .inl (cI, 32, .inl (fun z => nI (lof (v (z / 4)) (z % 4)))))] := hD
  refine lv_aload_n hx hb dX2_momentsUntilToldApart_10 rfl (lv_at hl 0 rfl) ?_
  refine va_get (D := D) (ci := 2) (v := .int (nI (cd2 (lpOk n k && lpOk n q) (decide (¬ k = q))))) (C := RX2) (T := TX2) (N := 9) hx hb hts hin2 hown hK hP 0 rfl rfl 0 (by decide) (hts (.fieldLink RX2 26 "LanternPrimesModel" "thrown" "I") (List.mem_of_getElem? (i := 1) rfl)) (fun _ h9 => h9) rfl dX2_momentsUntilToldApart_11 ?_
  refine n_if_le (a := cd2 (lpOk n k && lpOk n q) (decide (¬ k = q))) (tgt := 19) hx hb (cd2_lt _ _) dX2_momentsUntilToldApart_14 (by decide) (fun c_14 => ?_) (fun c_14 => ?_)
  · obtain ⟨i, j, hi, hj, hij, rfl, rfl⟩ := pair_j hn8 c_14
    refine lv_iconst (v := nI 0) hx hb dX2_momentsUntilToldApart_19 (by decide) ?_
    refine lv_istore_n (lv' := [(3, .int (nI 0)), (0, .ref (am 0)), (1, .int (nI i)), (2, .int (nI j))]) hx hb dX2_momentsUntilToldApart_20 rfl hl (by decide) rfl (fun ls hl => ?_)
    have loop_21 : ∀ (fu : Nat) (y : Nat), 60062 - y ≤ fu → y ≤ 60061 → fnd (tldF (v i) (v j) now) y (60061 - y) = fnd (tldF (v i) (v j) now) 0 60061 → ∀ (ls : Array Slot), lv_has ls 4 [(3, .int (nI y)), (0, .ref (am 0)), (1, .int (nI i)), (2, .int (nI j))] → W p l e (headSpec wsX2_momentsUntilToldApart ({ frames := 3, cells := 0, slots := 0, locals := 65 } : Room)).room s m [.ref (am 0), .int (nI i), .int (nI j)].toArray below meth c H locs 0 0 (MQ below (QW (AM am) True ((mrI (cd2 (lpOk n (nI i) && lpOk n (nI j)) (decide (¬ (nI i) = (nI j)))) (tldI v (ixx (nI i)) (ixx (nI j)) now))) (fun H => PM D cI cZ am (nI (cd2 (lpOk n (nI i) && lpOk n (nI j)) (decide (¬ (nI i) = (nI j))))) n (now) (told) (v) H)) [.ref (am 0), .int (nI i), .int (nI j)].toArray s 0 0 (AM am)) (F0 m 21 ls []) := by
      intro fu
      induction fu with
      | zero => intro y hn_21 hy2 hf; exact absurd hn_21 (by omega)
      | succ fu ih_21 =>
        intro y hn_21 hy2 hf ls hl
        refine lv_iload_n hx hb dX2_momentsUntilToldApart_21 rfl (lv_at hl 0 rfl) ?_
        refine lv_ldc (v := nI 60060) hx hb hown (hts (.constant RX2 96 (60060)) (List.mem_of_getElem? (i := 2) rfl)) dX2_momentsUntilToldApart_22 ?_
        refine n_icmp_gt (a := y) (b := 60060) (tgt := 60) hx hb (by omega) (by omega) dX2_momentsUntilToldApart_24 (by decide) (fun c_24 => ?_) (fun c_24 => ?_)
        · refine lv_iconst (v := (-1)) hx hb dX2_momentsUntilToldApart_60 (by decide) ?_
          have hcd : cd2 (lpOk n (nI i) && lpOk n (nI j)) (decide (¬ (nI i) = (nI j))) = 0 := c_14
          have hend : PM D cI cZ am (nI (cd2 (lpOk n (nI i) && lpOk n (nI j)) (decide (¬ (nI i) = (nI j))))) n (now) (told) (v) H := by
            exact hP
          refine n_ti (y := (mrI (cd2 (lpOk n (nI i) && lpOk n (nI j)) (decide (¬ (nI i) = (nI j)))) (tldI v (ixx (nI i)) (ixx (nI j)) now))) (by rw [hcd, ixx_nI (by omega), ixx_nI (by omega)]; unfold tldI; rw [← told_eq (hwl i (by omega)) (hwl j (by omega)), ← hf, show 60061 - y = 0 by omega]; rfl) ?_
          exact W.iret (v := (mrI (cd2 (lpOk n (nI i) && lpOk n (nI j)) (decide (¬ (nI i) = (nI j)))) (tldI v (ixx (nI i)) (ixx (nI j)) now))) hx hb hr (fun t ht hW => ⟨trivial, rfl, by rw [ht]; exact hend, hS.F ht⟩) hS.2.2 dX2_momentsUntilToldApart_61
        · refine lv_aload_n hx hb dX2_momentsUntilToldApart_27 rfl (lv_at hl 1 rfl) ?_
          refine lv_iload_n hx hb dX2_momentsUntilToldApart_28 rfl (lv_at hl 2 rfl) ?_
          refine lv_aload_n hx hb dX2_momentsUntilToldApart_29 rfl (lv_at hl 1 rfl) ?_
          refine va_get (D := D) (ci := 2) (v := .int (nI now)) (C := RX2) (T := TX2) (N := 9) hx hb hts hin2 hown hK hP 0 rfl rfl 1 (by decide) (hts (.fieldLink RX2 59 "LanternPrimesModel" "now" "I") (List.mem_of_getElem? (i := 3) rfl)) (fun _ h9 => h9) rfl dX2_momentsUntilToldApart_30 ?_
          refine lv_iload_n hx hb dX2_momentsUntilToldApart_33 rfl (lv_at hl 0 rfl) ?_
          refine n_iadd (v := nI (now + y)) hx hb dX2_momentsUntilToldApart_34 (nI_add _ _) ?_
          refine rV (r := bI (onB (v i) (now + y))) (As := [.int (nI i), .int (nI (now + y))]) (rest := []) ⟨hx, hb, hml, hown, hts⟩ (c_X2_onAt l D cI cZ cL cJ am (nI (cd2 (lpOk n (nI i) && lpOk n (nI j)) (decide (¬ (nI i) = (nI j))))) n now told v ⟨hn8, hnow, hwl⟩ i hi (now + y) (by omega)) (cwV 2 hts gX2_momentsUntilToldApart_X2_onAt rfl rfl rfl (by decide +kernel) ⟨(Nat.le_of_ble_eq_true rfl), (Nat.le_of_ble_eq_true rfl)⟩) hK ((hEA.kept hS.2.1).narrow (fun _ h => h.elim)) hP (RC_of (q := (RX2, TX2, 9)) (ci := 2) hK rfl (vpa hP 0 rfl)) rfl hl.1 rfl (Nat.le_of_ble_eq_true rfl) dX2_momentsUntilToldApart_35 ⟨(Nat.le_of_ble_eq_true rfl), (Nat.le_of_ble_eq_true rfl)⟩ ?_
          refine lv_aload_n hx hb dX2_momentsUntilToldApart_38 rfl (lv_at hl 1 rfl) ?_
          refine lv_iload_n hx hb dX2_momentsUntilToldApart_39 rfl (lv_at hl 3 rfl) ?_
          refine lv_aload_n hx hb dX2_momentsUntilToldApart_40 rfl (lv_at hl 1 rfl) ?_
          refine va_get (D := D) (ci := 2) (v := .int (nI now)) (C := RX2) (T := TX2) (N := 9) hx hb hts hin2 hown hK hP 0 rfl rfl 1 (by decide) (hts (.fieldLink RX2 59 "LanternPrimesModel" "now" "I") (List.mem_of_getElem? (i := 3) rfl)) (fun _ h9 => h9) rfl dX2_momentsUntilToldApart_41 ?_
          refine lv_iload_n hx hb dX2_momentsUntilToldApart_44 rfl (lv_at hl 0 rfl) ?_
          refine n_iadd (v := nI (now + y)) hx hb dX2_momentsUntilToldApart_45 (nI_add _ _) ?_
          refine rV (r := bI (onB (v j) (now + y))) (As := [.int (nI j), .int (nI (now + y))]) (rest := [.int (bI (onB (v i) (now + y)))]) ⟨hx, hb, hml, hown, hts⟩ (c_X2_onAt l D cI cZ cL cJ am (nI (cd2 (lpOk n (nI i) && lpOk n (nI j)) (decide (¬ (nI i) = (nI j))))) n now told v ⟨hn8, hnow, hwl⟩ j hj (now + y) (by omega)) (cwV 2 hts gX2_momentsUntilToldApart_X2_onAt rfl rfl rfl (by decide +kernel) ⟨(Nat.le_of_ble_eq_true rfl), (Nat.le_of_ble_eq_true rfl)⟩) hK ((hEA.kept hS.2.1).narrow (fun _ h => h.elim)) hP (RC_of (q := (RX2, TX2, 9)) (ci := 2) hK rfl (vpa hP 0 rfl)) rfl hl.1 rfl (Nat.le_of_ble_eq_true rfl) dX2_momentsUntilToldApart_46 ⟨(Nat.le_of_ble_eq_true rfl), (Nat.le_of_ble_eq_true rfl)⟩ ?_
          refine lv_icmp_eq (tgt := 54) hx hb dX2_momentsUntilToldApart_49 (by decide) (fun c_49 => ?_) (fun c_49 => ?_)
          · have e_1 : tldF (v i) (v j) now y = false := bI_bneF c_49
            refine lv_iinc (v := nI (y + 1)) (lv' := [(3, .int (nI (y + 1))), (0, .ref (am 0)), (1, .int (nI i)), (2, .int (nI j))]) hx hb dX2_momentsUntilToldApart_54 hl (k := 0) rfl (nI_inc _) (by decide) rfl (fun ls hl => ?_)
            refine lv_goto (tgt := 21) hx hb dX2_momentsUntilToldApart_57 (by decide) ?_
            exact ih_21 (y + 1) (by omega) (by omega) (by rw [← hf, fnd_f (f := tldF (v i) (v j) now) (lo := y) e_1 (by omega), show 60061 - y - 1 = 60061 - (y + 1) by omega]) ls (lv_sub hl [0, 1, 2, 3] rfl)
          · have e_1 : tldF (v i) (v j) now y = true := bI_bneT c_49
            refine lv_iload_n hx hb dX2_momentsUntilToldApart_52 rfl (lv_at hl 0 rfl) ?_
            have hcd : cd2 (lpOk n (nI i) && lpOk n (nI j)) (decide (¬ (nI i) = (nI j))) = 0 := c_14
            have hend : PM D cI cZ am (nI (cd2 (lpOk n (nI i) && lpOk n (nI j)) (decide (¬ (nI i) = (nI j))))) n (now) (told) (v) H := by
              exact hP
            refine n_ti (y := (mrI (cd2 (lpOk n (nI i) && lpOk n (nI j)) (decide (¬ (nI i) = (nI j)))) (tldI v (ixx (nI i)) (ixx (nI j)) now))) (by rw [hcd, ixx_nI (by omega), ixx_nI (by omega)]; unfold tldI; rw [← told_eq (hwl i (by omega)) (hwl j (by omega)), ← hf, fnd_t (f := tldF (v i) (v j) now) (lo := y) e_1 (by omega)]; rfl) ?_
            exact W.iret (v := (mrI (cd2 (lpOk n (nI i) && lpOk n (nI j)) (decide (¬ (nI i) = (nI j)))) (tldI v (ixx (nI i)) (ixx (nI j)) now))) hx hb hr (fun t ht hW => ⟨trivial, rfl, by rw [ht]; exact hend, hS.F ht⟩) hS.2.2 dX2_momentsUntilToldApart_53
    exact loop_21 60062 0 (by omega) (by omega) rfl ls (lv_sub hl [0, 1, 2, 3] rfl)
  · have hpos := c_14
    refine lv_iconst (v := nI 0) hx hb dX2_momentsUntilToldApart_17 (by decide) ?_
    have hcd : cd2 (lpOk n k && lpOk n q) (decide (¬ k = q)) = cd2 (lpOk n k && lpOk n q) (decide (¬ k = q)) := rfl
    have hend : PM D cI cZ am (nI (cd2 (lpOk n k && lpOk n q) (decide (¬ k = q)))) n (now) (told) (v) H := by
      exact hP
    refine n_ti (y := (mrI (cd2 (lpOk n k && lpOk n q) (decide (¬ k = q))) (tldI v (ixx k) (ixx q) now))) (mrI_0 hpos).symm ?_
    exact W.iret (v := (mrI (cd2 (lpOk n k && lpOk n q) (decide (¬ k = q))) (tldI v (ixx k) (ixx q) now))) hx hb hr (fun t ht hW => ⟨trivial, rfl, by rw [ht]; exact hend, hS.F ht⟩) hS.2.2 dX2_momentsUntilToldApart_18
set_option maxHeartbeats 4000000 in
set_option maxRecDepth 100000 in
/-- collisionsWithin -/
theorem c_X2_collisionsWithin (l : Launch) (D : va_G) (cI cZ cL cJ : ClassId) (am : Nat → Nat) (th : Int32) (n now : Nat) (told : Int32) (v : Nat → LV) (hwf : WFX n now v) (hinj : Inj 6 am) (k q x : Int32) : Met l yX2_collisionsWithin wsX2_collisionsWithin ({ frames := 3, cells := 0, slots := 0, locals := 69 } : Room) (PC D (TY cI cZ cL cJ) (AM am) [.ref (am 0), .int k, .int q, .int x] (fun H => PM D cI cZ am th n now told v H)) (QW (AM am) True ((mrI (cd2 (lpOk n k && lpOk n q) (decide (¬ k = q) && inB (nI 1) (nI 500) x)) (nI (cnt (fun s => colB v (ixx k) (ixx q) (now + (s + 1))) (ixx x))))) (fun H => PM D cI cZ am (nI (cd2 (lpOk n k && lpOk n q) (decide (¬ k = q) && inB (nI 1) (nI 500) x))) n (now) (told) (v) H)) 0 0 (AM am) := by
  refine Met.ofW (cc := cX2_collisionsWithin) (maxL := 6) (ret := (some .int)) (by decide) rfl ?_
  intro p e s m args below meth c s₁ B hml hv
  obtain ⟨rfl, hK, hEA, hP⟩ := hv
  obtain ⟨hn8, hnow, hwl⟩ := hwf
  have hE : EN noA s s.heap := hEA.narrow (fun _ h => h.elim)
  have hS : va_S (AM am) s.heap s.heap [] := va_S.rf
  have hD : va_D (AM am) (mW cI cZ am th n now told v) := vd6 hinj
  have hP : va_P D vwCl (mW cI cZ am th n now told v) s.heap := hP
  have hx := B.exec
  have hb := B.bytes
  have hr := B.returns
  have hts := atoms_spec (ws := wsX2_collisionsWithin) B.pre
  have hown : s.vm.findClass RX2 = some m.cls := findClass_of_methodNamed B.named
  have hlocks := B.notSynchronized
  have hNF := hE.2.1.1
  have hin2 : ∀ w ∈ wsX20, w ∈ wsX2_collisionsWithin := by decide +kernel
  have hl := lv_entry ([.ref (am 0), .int k, .int q, .int x]) (n := 6) (Nat.le_of_ble_eq_true rfl)
  rw [lg_entry_eq]
  generalize (lg_sl ([.ref (am 0), .int k, .int q, .int x]) ++ List.replicate (6 - (lg_sl ([.ref (am 0), .int k, .int q, .int x])).length) Slot.unset).toArray = ls at hl ⊢
  have hl : lv_has ls 6 [(0, .ref (am 0)), (1, .int k), (2, .int q), (3, .int x)] := hl
  refine lv_aload_n hx hb dX2_collisionsWithin_0 rfl (lv_at hl 0 rfl) ?_
  refine lv_aload_n hx hb dX2_collisionsWithin_1 rfl (lv_at hl 0 rfl) ?_
  refine lv_iload_n hx hb dX2_collisionsWithin_2 rfl (lv_at hl 1 rfl) ?_
  refine lv_iload_n hx hb dX2_collisionsWithin_3 rfl (lv_at hl 2 rfl) ?_
  refine rV (r := nI (cd2 (lpOk n k && lpOk n q) (decide (¬ k = q)))) (As := [.int k, .int q]) (rest := [.ref (am 0)]) ⟨hx, hb, hml, hown, hts⟩ (c_X2_wrongPair l D cI cZ cL cJ am th n now told v ⟨hn8, hnow, hwl⟩ k q) (cwV 2 hts gX2_collisionsWithin_X2_wrongPair rfl rfl rfl (by decide +kernel) ⟨(Nat.le_of_ble_eq_true rfl), (Nat.le_of_ble_eq_true rfl)⟩) hK hE hP (RC_of (q := (RX2, TX2, 9)) (ci := 2) hK rfl (vpa hP 0 rfl)) rfl hl.1 rfl (Nat.le_of_ble_eq_true rfl) dX2_collisionsWithin_4 ⟨(Nat.le_of_ble_eq_true rfl), (Nat.le_of_ble_eq_true rfl)⟩ ?_
  refine va_put (D := D) (ci := 2) (v := .int (nI (cd2 (lpOk n k && lpOk n q) (decide (¬ k = q))))) (ty := .int) (C := RX2) (T := TX2) (N := 9) hx hb hts hin2 tyX2 tyX2_ok nmX2 hown hK hP hD hS 0 rfl rfl 0 (by decide) (hts (.fieldLink RX2 26 "LanternPrimesModel" "thrown" "I") (List.mem_of_getElem? (i := 1) rfl)) (fun _ h9 => h9) rfl (by decide +kernel) rfl rfl (Nat.le_of_ble_eq_true rfl) dX2_collisionsWithin_7 (fun H locs hP hD hS => ?_)
  have hP : va_P D vwCl [(am 0, .inr (2, [.int (nI (cd2 (lpOk n k && lpOk n q) (decide (¬ k = q)))), .int (nI now), .int told, .int (nI n), .ref (am 1), .ref (am 2), .ref (am 3), .ref (am 4), .ref (am 5)])), (am 1, .inl (cZ, 8, .inl (fun j => bI (lon (v j))))), (am 2, .inl (cZ, 8, .inl (fun j => bI (lcv (v j))))), (am 3, .inl (cI, 8, .inl (fun j => nI (lbc (v j))))), (am 4, .inl (cI, 32, .inl (fun z => nI (lnu (v (z / 4)) (z % 4))))), (am 5, .inl (cI, 32, .inl (fun z => nI (lof (v (z / 4)) (z % 4)))))] H := hP
  have hD : va_D (AM am) [(am 0, .inr (2, [.int (nI (cd2 (lpOk n k && lpOk n q) (decide (¬ k = q)))), .int (nI now), .int told, .int (nI n), .ref (am 1), .ref (am 2), .ref (am 3), .ref (am 4), .ref (am 5)])), (am 1, .inl (cZ, 8, .inl (fun j => bI (lon (v j))))), (am 2, .inl (cZ, 8, .inl (fun j => bI (lcv (v j))))), (am 3, .inl (cI, 8, .inl (fun j => nI (lbc (v j))))), (am 4, .inl (cI, 32, .inl (fun z => nI (lnu (v (z / 4)) (z % 4))))), (am 5, .inl (cI, 32, .inl (fun z => nI (lof (v (z / 4)) (z % 4)))))] := hD
  refine lv_aload_n hx hb dX2_collisionsWithin_10 rfl (lv_at hl 0 rfl) ?_
  refine va_get (D := D) (ci := 2) (v := .int (nI (cd2 (lpOk n k && lpOk n q) (decide (¬ k = q))))) (C := RX2) (T := TX2) (N := 9) hx hb hts hin2 hown hK hP 0 rfl rfl 0 (by decide) (hts (.fieldLink RX2 26 "LanternPrimesModel" "thrown" "I") (List.mem_of_getElem? (i := 1) rfl)) (fun _ h9 => h9) rfl dX2_collisionsWithin_11 ?_
  refine n_if_le (a := cd2 (lpOk n k && lpOk n q) (decide (¬ k = q))) (tgt := 19) hx hb (cd2_lt _ _) dX2_collisionsWithin_14 (by decide) (fun c_14 => ?_) (fun c_14 => ?_)
  · obtain ⟨i, j, hi, hj, hij, rfl, rfl⟩ := pair_j hn8 c_14
    refine lv_iload_n hx hb dX2_collisionsWithin_19 rfl (lv_at hl 3 rfl) ?_
    refine lv_iconst (v := nI 1) hx hb dX2_collisionsWithin_20 (by decide) ?_
    refine lv_sipush (v := nI 500) hx hb dX2_collisionsWithin_21 (by decide) ?_
    refine rS (r := bI (inB (nI 1) (nI 500) x)) (As := [.int x, .int (nI 1), .int (nI 500)]) (rest := []) ⟨hx, hb, hml, hown, hts⟩ (c_X2_isIn l D cI cZ cL cJ x (nI 1) (nI 500)) (va_cwS 3 hts gX2_collisionsWithin_X2_isIn rfl rfl rfl (by decide +kernel) ⟨(Nat.le_of_ble_eq_true rfl), (Nat.le_of_ble_eq_true rfl)⟩) hK ((hEA.kept hS.2.1).narrow (fun _ h => h.elim)) trivial rfl hl.1 rfl (Nat.le_of_ble_eq_true rfl) dX2_collisionsWithin_24 ⟨(Nat.le_of_ble_eq_true rfl), (Nat.le_of_ble_eq_true rfl)⟩ ?_
    refine b_if_ne (b := inB (nI 1) (nI 500) x) (tgt := 36) hx hb dX2_collisionsWithin_27 (by decide) (fun c_27 => ?_) (fun c_27 => ?_)
    · obtain ⟨y, hy1, hy2, rfl⟩ := inB_j (by decide) (by decide) c_27
      refine lv_iconst (v := nI 0) hx hb dX2_collisionsWithin_36 (by decide) ?_
      refine lv_istore (lv' := [(4, .int (nI 0)), (0, .ref (am 0)), (1, .int (nI i)), (2, .int (nI j)), (3, .int (nI y))]) hx hb dX2_collisionsWithin_37 hl (by decide) rfl (fun ls hl => ?_)
      refine lv_iconst (v := nI 1) hx hb dX2_collisionsWithin_39 (by decide) ?_
      refine lv_istore (lv' := [(5, .int (nI 1)), (4, .int (nI 0)), (0, .ref (am 0)), (1, .int (nI i)), (2, .int (nI j)), (3, .int (nI y))]) hx hb dX2_collisionsWithin_40 hl (by decide) rfl (fun ls hl => ?_)
      have loop_42 : ∀ (fu : Nat) (r : Nat), y + 1 - r ≤ fu → r ≤ y → ∀ (ls : Array Slot), lv_has ls 6 [(5, .int (nI (r + 1))), (4, .int (nI (cnt (fun s => colB v i j (now + (s + 1))) r))), (0, .ref (am 0)), (1, .int (nI i)), (2, .int (nI j)), (3, .int (nI y))] → W p l e (headSpec wsX2_collisionsWithin ({ frames := 3, cells := 0, slots := 0, locals := 69 } : Room)).room s m [.ref (am 0), .int (nI i), .int (nI j), .int (nI y)].toArray below meth c H locs 0 0 (MQ below (QW (AM am) True ((mrI (cd2 (lpOk n (nI i) && lpOk n (nI j)) (decide (¬ (nI i) = (nI j)) && inB (nI 1) (nI 500) (nI y))) (nI (cnt (fun s => colB v (ixx (nI i)) (ixx (nI j)) (now + (s + 1))) (ixx (nI y)))))) (fun H => PM D cI cZ am (nI (cd2 (lpOk n (nI i) && lpOk n (nI j)) (decide (¬ (nI i) = (nI j)) && inB (nI 1) (nI 500) (nI y)))) n (now) (told) (v) H)) [.ref (am 0), .int (nI i), .int (nI j), .int (nI y)].toArray s 0 0 (AM am)) (F0 m 42 ls []) := by
        intro fu
        induction fu with
        | zero => intro r hn_42 hr9; exact absurd hn_42 (by omega)
        | succ fu ih_42 =>
          intro r hn_42 hr9 ls hl
          refine lv_iload hx hb dX2_collisionsWithin_42 (lv_at hl 0 rfl) ?_
          refine lv_iload_n hx hb dX2_collisionsWithin_44 rfl (lv_at hl 5 rfl) ?_
          refine n_icmp_gt (a := r + 1) (b := y) (tgt := 80) hx hb (by omega) (by omega) dX2_collisionsWithin_45 (by decide) (fun c_45 => ?_) (fun c_45 => ?_)
          · refine lv_iload hx hb dX2_collisionsWithin_80 (lv_at hl 1 rfl) ?_
            have hcd : cd2 (lpOk n (nI i) && lpOk n (nI j)) (decide (¬ (nI i) = (nI j)) && inB (nI 1) (nI 500) (nI y)) = 0 := (cd2_t (pair_ok c_14).1 (and_t (pair_ok c_14).2 c_27))
            have hend : PM D cI cZ am (nI (cd2 (lpOk n (nI i) && lpOk n (nI j)) (decide (¬ (nI i) = (nI j)) && inB (nI 1) (nI 500) (nI y)))) n (now) (told) (v) H := by
              rw [hcd, ← c_14]; exact hP
            refine n_ti (y := (mrI (cd2 (lpOk n (nI i) && lpOk n (nI j)) (decide (¬ (nI i) = (nI j)) && inB (nI 1) (nI 500) (nI y))) (nI (cnt (fun s => colB v (ixx (nI i)) (ixx (nI j)) (now + (s + 1))) (ixx (nI y)))))) (by rw [hcd, ixx_nI (by omega), ixx_nI (by omega), ixx_nI (by omega), show r = y by omega]; rfl) ?_
            exact W.iret (v := (mrI (cd2 (lpOk n (nI i) && lpOk n (nI j)) (decide (¬ (nI i) = (nI j)) && inB (nI 1) (nI 500) (nI y))) (nI (cnt (fun s => colB v (ixx (nI i)) (ixx (nI j)) (now + (s + 1))) (ixx (nI y)))))) hx hb hr (fun t ht hW => ⟨trivial, rfl, by rw [ht]; exact hend, hS.F ht⟩) hS.2.2 dX2_collisionsWithin_82
          · have join_71 : ∀ (ls : Array Slot), lv_has ls 6 [(5, .int (nI (r + 1))), (4, .int (nI (cnt (fun s => colB v i j (now + (s + 1))) r))), (0, .ref (am 0)), (1, .int (nI i)), (2, .int (nI j)), (3, .int (nI y))] → W p l e (headSpec wsX2_collisionsWithin ({ frames := 3, cells := 0, slots := 0, locals := 69 } : Room)).room s m [.ref (am 0), .int (nI i), .int (nI j), .int (nI y)].toArray below meth c H locs 0 0 (MQ below (QW (AM am) True ((mrI (cd2 (lpOk n (nI i) && lpOk n (nI j)) (decide (¬ (nI i) = (nI j)) && inB (nI 1) (nI 500) (nI y))) (nI (cnt (fun s => colB v (ixx (nI i)) (ixx (nI j)) (now + (s + 1))) (ixx (nI y)))))) (fun H => PM D cI cZ am (nI (cd2 (lpOk n (nI i) && lpOk n (nI j)) (decide (¬ (nI i) = (nI j)) && inB (nI 1) (nI 500) (nI y)))) n (now) (told) (v) H)) [.ref (am 0), .int (nI i), .int (nI j), .int (nI y)].toArray s 0 0 (AM am)) (F0 m 71 ls [.int (nI (if colB v i j (now + (r + 1)) = true then 1 else 0)), .int (nI (cnt (fun s => colB v i j (now + (s + 1))) r))]) := by
              intro   ls hl
              refine n_iadd (v := nI (cnt (fun s => colB v i j (now + (s + 1))) (r + 1))) hx hb dX2_collisionsWithin_71 (nI_add _ _) ?_
              refine lv_istore (lv' := [(4, .int (nI (cnt (fun s => colB v i j (now + (s + 1))) (r + 1)))), (5, .int (nI (r + 1))), (0, .ref (am 0)), (1, .int (nI i)), (2, .int (nI j)), (3, .int (nI y))]) hx hb dX2_collisionsWithin_72 hl (by decide) rfl (fun ls hl => ?_)
              refine lv_iinc (v := nI ((r + 1) + 1)) (lv' := [(5, .int (nI ((r + 1) + 1))), (4, .int (nI (cnt (fun s => colB v i j (now + (s + 1))) (r + 1)))), (0, .ref (am 0)), (1, .int (nI i)), (2, .int (nI j)), (3, .int (nI y))]) hx hb dX2_collisionsWithin_74 hl (k := 1) rfl (nI_inc _) (by decide) rfl (fun ls hl => ?_)
              refine lv_goto (tgt := 42) hx hb dX2_collisionsWithin_77 (by decide) ?_
              exact ih_42 (r + 1) (by omega) (by omega) ls (lv_sub hl [0, 1, 2, 3, 4, 5] rfl)
            refine lv_iload hx hb dX2_collisionsWithin_48 (lv_at hl 1 rfl) ?_
            refine lv_aload_n hx hb dX2_collisionsWithin_50 rfl (lv_at hl 2 rfl) ?_
            refine lv_iload_n hx hb dX2_collisionsWithin_51 rfl (lv_at hl 3 rfl) ?_
            refine lv_iload_n hx hb dX2_collisionsWithin_52 rfl (lv_at hl 4 rfl) ?_
            refine lv_aload_n hx hb dX2_collisionsWithin_53 rfl (lv_at hl 2 rfl) ?_
            refine va_get (D := D) (ci := 2) (v := .int (nI now)) (C := RX2) (T := TX2) (N := 9) hx hb hts hin2 hown hK hP 0 rfl rfl 1 (by decide) (hts (.fieldLink RX2 59 "LanternPrimesModel" "now" "I") (List.mem_of_getElem? (i := 2) rfl)) (fun _ h9 => h9) rfl dX2_collisionsWithin_54 ?_
            refine lv_iload hx hb dX2_collisionsWithin_57 (lv_at hl 0 rfl) ?_
            refine n_iadd (v := nI (now + (r + 1))) hx hb dX2_collisionsWithin_59 (nI_add _ _) ?_
            refine rV (r := bI (colB v i j (now + (r + 1)))) (As := [.int (nI i), .int (nI j), .int (nI (now + (r + 1)))]) (rest := [.int (nI (cnt (fun s => colB v i j (now + (s + 1))) r))]) ⟨hx, hb, hml, hown, hts⟩ (c_X2_collide l D cI cZ cL cJ am (nI (cd2 (lpOk n (nI i) && lpOk n (nI j)) (decide (¬ (nI i) = (nI j))))) n now told v ⟨hn8, hnow, hwl⟩ i j (now + (r + 1)) hi hj (by omega)) (cwV 3 hts gX2_collisionsWithin_X2_collide rfl rfl rfl (by decide +kernel) ⟨(Nat.le_of_ble_eq_true rfl), (Nat.le_of_ble_eq_true rfl)⟩) hK ((hEA.kept hS.2.1).narrow (fun _ h => h.elim)) hP (RC_of (q := (RX2, TX2, 9)) (ci := 2) hK rfl (vpa hP 0 rfl)) rfl hl.1 rfl (Nat.le_of_ble_eq_true rfl) dX2_collisionsWithin_60 ⟨(Nat.le_of_ble_eq_true rfl), (Nat.le_of_ble_eq_true rfl)⟩ ?_
            refine b_if_eq (b := colB v i j (now + (r + 1))) (tgt := 70) hx hb dX2_collisionsWithin_63 (by decide) (fun c_63 => ?_) (fun c_63 => ?_)
            · refine lv_iconst (v := nI 0) hx hb dX2_collisionsWithin_70 (by decide) ?_
              refine n_ti (y := nI (if colB v i j (now + (r + 1)) = true then 1 else 0)) (by rw [c_63]; rfl) ?_
              exact join_71 ls (lv_sub hl [0, 1, 2, 3, 4, 5] rfl)
            · refine lv_iconst (v := nI 1) hx hb dX2_collisionsWithin_66 (by decide) ?_
              refine lv_goto (tgt := 71) hx hb dX2_collisionsWithin_67 (by decide) ?_
              refine n_ti (y := nI (if colB v i j (now + (r + 1)) = true then 1 else 0)) (by rw [c_63]; rfl) ?_
              exact join_71 ls (lv_sub hl [0, 1, 2, 3, 4, 5] rfl)
      exact loop_42 (y + 1) 0 (by omega) (Nat.zero_le _) ls (lv_sub hl [0, 1, 2, 3, 4, 5] rfl)
    · refine lv_aload_n hx hb dX2_collisionsWithin_30 rfl (lv_at hl 0 rfl) ?_
      refine lv_iconst (v := nI 2) hx hb dX2_collisionsWithin_31 (by decide) ?_
      refine wV (As := [.int (nI 2)]) (rest := []) ⟨hx, hb, hml, hown, hts⟩ (c_X2_no l D cI cZ cL cJ am (nI (cd2 (lpOk n (nI i) && lpOk n (nI j)) (decide (¬ (nI i) = (nI j))))) n now told v ⟨hn8, hnow, hwl⟩ hinj (nI 2)) (cwV 1 hts gX2_collisionsWithin_X2_no rfl rfl rfl (by decide +kernel) ⟨(Nat.le_of_ble_eq_true rfl), (Nat.le_of_ble_eq_true rfl)⟩) hK (hEA.kept hS.2.1) hP (RC_of (q := (RX2, TX2, 9)) (ci := 2) hK rfl (vpa hP 0 rfl)) rfl hl.1 rfl (Nat.le_of_ble_eq_true rfl) dX2_collisionsWithin_32 ⟨(Nat.le_of_ble_eq_true rfl), (Nat.le_of_ble_eq_true rfl)⟩ hS (fun q h => h) (fun H locs _ hP _ hk hS => ?_)
      have hP : va_P D vwCl [(am 0, .inr (2, [.int (nI 2), .int (nI now), .int told, .int (nI n), .ref (am 1), .ref (am 2), .ref (am 3), .ref (am 4), .ref (am 5)])), (am 1, .inl (cZ, 8, .inl (fun j => bI (lon (v j))))), (am 2, .inl (cZ, 8, .inl (fun j => bI (lcv (v j))))), (am 3, .inl (cI, 8, .inl (fun j => nI (lbc (v j))))), (am 4, .inl (cI, 32, .inl (fun z => nI (lnu (v (z / 4)) (z % 4))))), (am 5, .inl (cI, 32, .inl (fun z => nI (lof (v (z / 4)) (z % 4)))))] H := hP
      have hD : va_D (AM am) [(am 0, .inr (2, [.int (nI 2), .int (nI now), .int told, .int (nI n), .ref (am 1), .ref (am 2), .ref (am 3), .ref (am 4), .ref (am 5)])), (am 1, .inl (cZ, 8, .inl (fun j => bI (lon (v j))))), (am 2, .inl (cZ, 8, .inl (fun j => bI (lcv (v j))))), (am 3, .inl (cI, 8, .inl (fun j => nI (lbc (v j))))), (am 4, .inl (cI, 32, .inl (fun z => nI (lnu (v (z / 4)) (z % 4))))), (am 5, .inl (cI, 32, .inl (fun z => nI (lof (v (z / 4)) (z % 4)))))] := vd6 hinj
      have hcd : cd2 (lpOk n (nI i) && lpOk n (nI j)) (decide (¬ (nI i) = (nI j)) && inB (nI 1) (nI 500) x) = 2 := (by rw [(pair_ok c_14).1, c_27, Bool.and_false]; rfl)
      have hend : PM D cI cZ am (nI (cd2 (lpOk n (nI i) && lpOk n (nI j)) (decide (¬ (nI i) = (nI j)) && inB (nI 1) (nI 500) x))) n (now) (told) (v) H := by
        rw [hcd]; exact hP
      refine n_ti (y := (mrI (cd2 (lpOk n (nI i) && lpOk n (nI j)) (decide (¬ (nI i) = (nI j)) && inB (nI 1) (nI 500) x)) (nI (cnt (fun s => colB v (ixx (nI i)) (ixx (nI j)) (now + (s + 1))) (ixx x))))) (by rw [hcd]; rfl) ?_
      exact W.iret (v := (mrI (cd2 (lpOk n (nI i) && lpOk n (nI j)) (decide (¬ (nI i) = (nI j)) && inB (nI 1) (nI 500) x)) (nI (cnt (fun s => colB v (ixx (nI i)) (ixx (nI j)) (now + (s + 1))) (ixx x))))) hx hb hr (fun t ht hW => ⟨trivial, rfl, by rw [ht]; exact hend, hS.F ht⟩) hS.2.2 dX2_collisionsWithin_35
  · have hpos := c_14
    refine lv_iconst (v := nI 0) hx hb dX2_collisionsWithin_17 (by decide) ?_
    have hcd : cd2 (lpOk n k && lpOk n q) (decide (¬ k = q) && inB (nI 1) (nI 500) x) = cd2 (lpOk n k && lpOk n q) (decide (¬ k = q)) := (cd2_pos c_14)
    have hend : PM D cI cZ am (nI (cd2 (lpOk n k && lpOk n q) (decide (¬ k = q) && inB (nI 1) (nI 500) x))) n (now) (told) (v) H := by
      rw [hcd]; exact hP
    refine n_ti (y := (mrI (cd2 (lpOk n k && lpOk n q) (decide (¬ k = q) && inB (nI 1) (nI 500) x)) (nI (cnt (fun s => colB v (ixx k) (ixx q) (now + (s + 1))) (ixx x))))) (by rw [hcd]; exact (mrI_0 hpos).symm) ?_
    exact W.iret (v := (mrI (cd2 (lpOk n k && lpOk n q) (decide (¬ k = q) && inB (nI 1) (nI 500) x)) (nI (cnt (fun s => colB v (ixx k) (ixx q) (now + (s + 1))) (ixx x))))) hx hb hr (fun t ht hW => ⟨trivial, rfl, by rw [ht]; exact hend, hS.F ht⟩) hS.2.2 dX2_collisionsWithin_18
set_option maxHeartbeats 4000000 in
set_option maxRecDepth 100000 in
/-- momentsUntilDark -/
theorem c_X2_momentsUntilDark (l : Launch) (D : va_G) (cI cZ cL cJ : ClassId) (am : Nat → Nat) (th : Int32) (n now : Nat) (told : Int32) (v : Nat → LV) (hwf : WFX n now v) (hinj : Inj 6 am)  : Met l yX2_momentsUntilDark wsX2_momentsUntilDark ({ frames := 2, cells := 0, slots := 0, locals := 48 } : Room) (PC D (TY cI cZ cL cJ) (AM am) [.ref (am 0)] (fun H => PM D cI cZ am th n now told v H)) (QW (AM am) True ((oI (fnd (fun q => dkB v n (-1) (now + q)) 0 2001))) (fun H => PM D cI cZ am (nI (0)) n (now) (told) (v) H)) 0 0 (AM am) := by
  refine Met.ofW (cc := cX2_momentsUntilDark) (maxL := 2) (ret := (some .int)) (by decide) rfl ?_
  intro p e s m args below meth c s₁ B hml hv
  obtain ⟨rfl, hK, hEA, hP⟩ := hv
  obtain ⟨hn8, hnow, hwl⟩ := hwf
  have hE : EN noA s s.heap := hEA.narrow (fun _ h => h.elim)
  have hS : va_S (AM am) s.heap s.heap [] := va_S.rf
  have hD : va_D (AM am) (mW cI cZ am th n now told v) := vd6 hinj
  have hP : va_P D vwCl (mW cI cZ am th n now told v) s.heap := hP
  have hx := B.exec
  have hb := B.bytes
  have hr := B.returns
  have hts := atoms_spec (ws := wsX2_momentsUntilDark) B.pre
  have hown : s.vm.findClass RX2 = some m.cls := findClass_of_methodNamed B.named
  have hlocks := B.notSynchronized
  have hNF := hE.2.1.1
  have hin2 : ∀ w ∈ wsX20, w ∈ wsX2_momentsUntilDark := by decide +kernel
  have hl := lv_entry ([.ref (am 0)]) (n := 2) (Nat.le_of_ble_eq_true rfl)
  rw [lg_entry_eq]
  generalize (lg_sl ([.ref (am 0)]) ++ List.replicate (2 - (lg_sl ([.ref (am 0)])).length) Slot.unset).toArray = ls at hl ⊢
  have hl : lv_has ls 2 [(0, .ref (am 0))] := hl
  refine lv_aload_n hx hb dX2_momentsUntilDark_0 rfl (lv_at hl 0 rfl) ?_
  refine lv_iconst (v := nI 0) hx hb dX2_momentsUntilDark_1 (by decide) ?_
  refine va_put (D := D) (ci := 2) (v := .int (nI 0)) (ty := .int) (C := RX2) (T := TX2) (N := 9) hx hb hts hin2 tyX2 tyX2_ok nmX2 hown hK hP hD hS 0 rfl rfl 0 (by decide) (hts (.fieldLink RX2 26 "LanternPrimesModel" "thrown" "I") (List.mem_of_getElem? (i := 1) rfl)) (fun _ h9 => h9) rfl (by decide +kernel) rfl rfl (Nat.le_of_ble_eq_true rfl) dX2_momentsUntilDark_2 (fun H locs hP hD hS => ?_)
  have hP : va_P D vwCl [(am 0, .inr (2, [.int (nI 0), .int (nI now), .int told, .int (nI n), .ref (am 1), .ref (am 2), .ref (am 3), .ref (am 4), .ref (am 5)])), (am 1, .inl (cZ, 8, .inl (fun j => bI (lon (v j))))), (am 2, .inl (cZ, 8, .inl (fun j => bI (lcv (v j))))), (am 3, .inl (cI, 8, .inl (fun j => nI (lbc (v j))))), (am 4, .inl (cI, 32, .inl (fun z => nI (lnu (v (z / 4)) (z % 4))))), (am 5, .inl (cI, 32, .inl (fun z => nI (lof (v (z / 4)) (z % 4)))))] H := hP
  have hD : va_D (AM am) [(am 0, .inr (2, [.int (nI 0), .int (nI now), .int told, .int (nI n), .ref (am 1), .ref (am 2), .ref (am 3), .ref (am 4), .ref (am 5)])), (am 1, .inl (cZ, 8, .inl (fun j => bI (lon (v j))))), (am 2, .inl (cZ, 8, .inl (fun j => bI (lcv (v j))))), (am 3, .inl (cI, 8, .inl (fun j => nI (lbc (v j))))), (am 4, .inl (cI, 32, .inl (fun z => nI (lnu (v (z / 4)) (z % 4))))), (am 5, .inl (cI, 32, .inl (fun z => nI (lof (v (z / 4)) (z % 4)))))] := hD
  refine lv_iconst (v := nI 0) hx hb dX2_momentsUntilDark_5 (by decide) ?_
  refine lv_istore_n (lv' := [(1, .int (nI 0)), (0, .ref (am 0))]) hx hb dX2_momentsUntilDark_6 rfl hl (by decide) rfl (fun ls hl => ?_)
  have loop_7 : ∀ (fu : Nat) (q : Nat), 2002 - q ≤ fu → q ≤ 2001 → fnd (fun q => dkB v n (-1) (now + q)) q (2001 - q) = fnd (fun q => dkB v n (-1) (now + q)) 0 2001 → ∀ (ls : Array Slot), lv_has ls 2 [(1, .int (nI q)), (0, .ref (am 0))] → W p l e (headSpec wsX2_momentsUntilDark ({ frames := 2, cells := 0, slots := 0, locals := 48 } : Room)).room s m [.ref (am 0)].toArray below meth c H locs 0 0 (MQ below (QW (AM am) True ((oI (fnd (fun q => dkB v n (-1) (now + q)) 0 2001))) (fun H => PM D cI cZ am (nI (0)) n (now) (told) (v) H)) [.ref (am 0)].toArray s 0 0 (AM am)) (F0 m 7 ls []) := by
    intro fu
    induction fu with
    | zero => intro q hn_7 hq hf; exact absurd hn_7 (by omega)
    | succ fu ih_7 =>
      intro q hn_7 hq hf ls hl
      refine lv_iload_n hx hb dX2_momentsUntilDark_7 rfl (lv_at hl 0 rfl) ?_
      refine lv_sipush (v := nI 2000) hx hb dX2_momentsUntilDark_8 (by decide) ?_
      refine n_icmp_gt (a := q) (b := 2000) (tgt := 36) hx hb (by omega) (by omega) dX2_momentsUntilDark_11 (by decide) (fun c_11 => ?_) (fun c_11 => ?_)
      · refine lv_iconst (v := (-1)) hx hb dX2_momentsUntilDark_36 (by decide) ?_
        have hcd : 0 = 0 := rfl
        have hend : PM D cI cZ am (nI (0)) n (now) (told) (v) H := by
          exact hP
        refine n_ti (y := (oI (fnd (fun q => dkB v n (-1) (now + q)) 0 2001))) (by rw [← hf, show 2001 - q = 0 by omega]; rfl) ?_
        exact W.iret (v := (oI (fnd (fun q => dkB v n (-1) (now + q)) 0 2001))) hx hb hr (fun t ht hW => ⟨trivial, rfl, by rw [ht]; exact hend, hS.F ht⟩) hS.2.2 dX2_momentsUntilDark_37
      · refine lv_aload_n hx hb dX2_momentsUntilDark_14 rfl (lv_at hl 1 rfl) ?_
        refine lv_aload_n hx hb dX2_momentsUntilDark_15 rfl (lv_at hl 1 rfl) ?_
        refine va_get (D := D) (ci := 2) (v := .int (nI now)) (C := RX2) (T := TX2) (N := 9) hx hb hts hin2 hown hK hP 0 rfl rfl 1 (by decide) (hts (.fieldLink RX2 59 "LanternPrimesModel" "now" "I") (List.mem_of_getElem? (i := 2) rfl)) (fun _ h9 => h9) rfl dX2_momentsUntilDark_16 ?_
        refine lv_iload_n hx hb dX2_momentsUntilDark_19 rfl (lv_at hl 0 rfl) ?_
        refine n_iadd (v := nI (now + q)) hx hb dX2_momentsUntilDark_20 (nI_add _ _) ?_
        refine lv_iconst (v := (-1)) hx hb dX2_momentsUntilDark_21 (by decide) ?_
        refine rV (r := nI (ltN v n (-1) (now + q))) (As := [.int (nI (now + q)), .int (-1)]) (rest := []) ⟨hx, hb, hml, hown, hts⟩ (c_X2_litAt l D cI cZ cL cJ am (nI 0) n now told v ⟨hn8, hnow, hwl⟩ (now + q) (by omega) (-1)) (cwV 2 hts gX2_momentsUntilDark_X2_litAt rfl rfl rfl (by decide +kernel) ⟨(Nat.le_of_ble_eq_true rfl), (Nat.le_of_ble_eq_true rfl)⟩) hK ((hEA.kept hS.2.1).narrow (fun _ h => h.elim)) hP (RC_of (q := (RX2, TX2, 9)) (ci := 2) hK rfl (vpa hP 0 rfl)) rfl hl.1 rfl (Nat.le_of_ble_eq_true rfl) dX2_momentsUntilDark_22 ⟨(Nat.le_of_ble_eq_true rfl), (Nat.le_of_ble_eq_true rfl)⟩ ?_
        refine n_if_ne (a := ltN v n (-1) (now + q)) (tgt := 30) hx hb (Nat.lt_of_le_of_lt (cnt_le _ _) (by omega)) dX2_momentsUntilDark_25 (by decide) (fun c_25 => ?_) (fun c_25 => ?_)
        · have e_1 : dkB v n (-1) (now + q) = false := decide_eq_false c_25
          refine lv_iinc (v := nI (q + 1)) (lv' := [(1, .int (nI (q + 1))), (0, .ref (am 0))]) hx hb dX2_momentsUntilDark_30 hl (k := 0) rfl (nI_inc _) (by decide) rfl (fun ls hl => ?_)
          refine lv_goto (tgt := 7) hx hb dX2_momentsUntilDark_33 (by decide) ?_
          exact ih_7 (q + 1) (by omega) (by omega) (by rw [← hf, fnd_f (f := (fun q => dkB v n (-1) (now + q))) (lo := q) e_1 (by omega), show 2001 - q - 1 = 2001 - (q + 1) by omega]) ls (lv_sub hl [0, 1] rfl)
        · have e_1 : dkB v n (-1) (now + q) = true := decide_eq_true c_25
          refine lv_iload_n hx hb dX2_momentsUntilDark_28 rfl (lv_at hl 0 rfl) ?_
          have hcd : 0 = 0 := rfl
          have hend : PM D cI cZ am (nI (0)) n (now) (told) (v) H := by
            exact hP
          refine n_ti (y := (oI (fnd (fun q => dkB v n (-1) (now + q)) 0 2001))) (by rw [← hf, fnd_t (f := (fun q => dkB v n (-1) (now + q))) (lo := q) e_1 (by omega)]; rfl) ?_
          exact W.iret (v := (oI (fnd (fun q => dkB v n (-1) (now + q)) 0 2001))) hx hb hr (fun t ht hW => ⟨trivial, rfl, by rw [ht]; exact hend, hS.F ht⟩) hS.2.2 dX2_momentsUntilDark_29
  exact loop_7 2002 0 (by omega) (by omega) rfl ls (lv_sub hl [0, 1] rfl)
set_option maxHeartbeats 4000000 in
set_option maxRecDepth 100000 in
/-- darkWithin -/
theorem c_X2_darkWithin (l : Launch) (D : va_G) (cI cZ cL cJ : ClassId) (am : Nat → Nat) (th : Int32) (n now : Nat) (told : Int32) (v : Nat → LV) (hwf : WFX n now v) (hinj : Inj 6 am) (x : Int32) : Met l yX2_darkWithin wsX2_darkWithin ({ frames := 3, cells := 0, slots := 0, locals := 72 } : Room) (PC D (TY cI cZ cL cJ) (AM am) [.ref (am 0), .int x] (fun H => PM D cI cZ am th n now told v H)) (QW (AM am) True ((mrI (cd1 (inB (nI 1) (nI 500) x)) (nI (dkN v n now (-1) (ixx x))))) (fun H => PM D cI cZ am (nI (cd1 (inB (nI 1) (nI 500) x))) n (now) (told) (v) H)) 0 0 (AM am) := by
  refine Met.ofW (cc := cX2_darkWithin) (maxL := 2) (ret := (some .int)) (by decide) rfl ?_
  intro p e s m args below meth c s₁ B hml hv
  obtain ⟨rfl, hK, hEA, hP⟩ := hv
  obtain ⟨hn8, hnow, hwl⟩ := hwf
  have hE : EN noA s s.heap := hEA.narrow (fun _ h => h.elim)
  have hS : va_S (AM am) s.heap s.heap [] := va_S.rf
  have hD : va_D (AM am) (mW cI cZ am th n now told v) := vd6 hinj
  have hP : va_P D vwCl (mW cI cZ am th n now told v) s.heap := hP
  have hx := B.exec
  have hb := B.bytes
  have hr := B.returns
  have hts := atoms_spec (ws := wsX2_darkWithin) B.pre
  have hown : s.vm.findClass RX2 = some m.cls := findClass_of_methodNamed B.named
  have hlocks := B.notSynchronized
  have hNF := hE.2.1.1
  have hin2 : ∀ w ∈ wsX20, w ∈ wsX2_darkWithin := by decide +kernel
  have hl := lv_entry ([.ref (am 0), .int x]) (n := 2) (Nat.le_of_ble_eq_true rfl)
  rw [lg_entry_eq]
  generalize (lg_sl ([.ref (am 0), .int x]) ++ List.replicate (2 - (lg_sl ([.ref (am 0), .int x])).length) Slot.unset).toArray = ls at hl ⊢
  have hl : lv_has ls 2 [(0, .ref (am 0)), (1, .int x)] := hl
  refine lv_aload_n hx hb dX2_darkWithin_0 rfl (lv_at hl 0 rfl) ?_
  refine lv_iconst (v := nI 0) hx hb dX2_darkWithin_1 (by decide) ?_
  refine va_put (D := D) (ci := 2) (v := .int (nI 0)) (ty := .int) (C := RX2) (T := TX2) (N := 9) hx hb hts hin2 tyX2 tyX2_ok nmX2 hown hK hP hD hS 0 rfl rfl 0 (by decide) (hts (.fieldLink RX2 26 "LanternPrimesModel" "thrown" "I") (List.mem_of_getElem? (i := 1) rfl)) (fun _ h9 => h9) rfl (by decide +kernel) rfl rfl (Nat.le_of_ble_eq_true rfl) dX2_darkWithin_2 (fun H locs hP hD hS => ?_)
  have hP : va_P D vwCl [(am 0, .inr (2, [.int (nI 0), .int (nI now), .int told, .int (nI n), .ref (am 1), .ref (am 2), .ref (am 3), .ref (am 4), .ref (am 5)])), (am 1, .inl (cZ, 8, .inl (fun j => bI (lon (v j))))), (am 2, .inl (cZ, 8, .inl (fun j => bI (lcv (v j))))), (am 3, .inl (cI, 8, .inl (fun j => nI (lbc (v j))))), (am 4, .inl (cI, 32, .inl (fun z => nI (lnu (v (z / 4)) (z % 4))))), (am 5, .inl (cI, 32, .inl (fun z => nI (lof (v (z / 4)) (z % 4)))))] H := hP
  have hD : va_D (AM am) [(am 0, .inr (2, [.int (nI 0), .int (nI now), .int told, .int (nI n), .ref (am 1), .ref (am 2), .ref (am 3), .ref (am 4), .ref (am 5)])), (am 1, .inl (cZ, 8, .inl (fun j => bI (lon (v j))))), (am 2, .inl (cZ, 8, .inl (fun j => bI (lcv (v j))))), (am 3, .inl (cI, 8, .inl (fun j => nI (lbc (v j))))), (am 4, .inl (cI, 32, .inl (fun z => nI (lnu (v (z / 4)) (z % 4))))), (am 5, .inl (cI, 32, .inl (fun z => nI (lof (v (z / 4)) (z % 4)))))] := hD
  refine lv_iload_n hx hb dX2_darkWithin_5 rfl (lv_at hl 1 rfl) ?_
  refine lv_iconst (v := nI 1) hx hb dX2_darkWithin_6 (by decide) ?_
  refine lv_sipush (v := nI 500) hx hb dX2_darkWithin_7 (by decide) ?_
  refine rS (r := bI (inB (nI 1) (nI 500) x)) (As := [.int x, .int (nI 1), .int (nI 500)]) (rest := []) ⟨hx, hb, hml, hown, hts⟩ (c_X2_isIn l D cI cZ cL cJ x (nI 1) (nI 500)) (va_cwS 3 hts gX2_darkWithin_X2_isIn rfl rfl rfl (by decide +kernel) ⟨(Nat.le_of_ble_eq_true rfl), (Nat.le_of_ble_eq_true rfl)⟩) hK ((hEA.kept hS.2.1).narrow (fun _ h => h.elim)) trivial rfl hl.1 rfl (Nat.le_of_ble_eq_true rfl) dX2_darkWithin_10 ⟨(Nat.le_of_ble_eq_true rfl), (Nat.le_of_ble_eq_true rfl)⟩ ?_
  refine b_if_eq (b := inB (nI 1) (nI 500) x) (tgt := 25) hx hb dX2_darkWithin_13 (by decide) (fun c_13 => ?_) (fun c_13 => ?_)
  · refine lv_aload_n hx hb dX2_darkWithin_25 rfl (lv_at hl 0 rfl) ?_
    refine lv_iconst (v := nI 1) hx hb dX2_darkWithin_26 (by decide) ?_
    refine wV (As := [.int (nI 1)]) (rest := []) ⟨hx, hb, hml, hown, hts⟩ (c_X2_no l D cI cZ cL cJ am (nI 0) n now told v ⟨hn8, hnow, hwl⟩ hinj (nI 1)) (cwV 1 hts gX2_darkWithin_X2_no rfl rfl rfl (by decide +kernel) ⟨(Nat.le_of_ble_eq_true rfl), (Nat.le_of_ble_eq_true rfl)⟩) hK (hEA.kept hS.2.1) hP (RC_of (q := (RX2, TX2, 9)) (ci := 2) hK rfl (vpa hP 0 rfl)) rfl hl.1 rfl (Nat.le_of_ble_eq_true rfl) dX2_darkWithin_27 ⟨(Nat.le_of_ble_eq_true rfl), (Nat.le_of_ble_eq_true rfl)⟩ hS (fun q h => h) (fun H locs _ hP _ hk hS => ?_)
    have hP : va_P D vwCl [(am 0, .inr (2, [.int (nI 1), .int (nI now), .int told, .int (nI n), .ref (am 1), .ref (am 2), .ref (am 3), .ref (am 4), .ref (am 5)])), (am 1, .inl (cZ, 8, .inl (fun j => bI (lon (v j))))), (am 2, .inl (cZ, 8, .inl (fun j => bI (lcv (v j))))), (am 3, .inl (cI, 8, .inl (fun j => nI (lbc (v j))))), (am 4, .inl (cI, 32, .inl (fun z => nI (lnu (v (z / 4)) (z % 4))))), (am 5, .inl (cI, 32, .inl (fun z => nI (lof (v (z / 4)) (z % 4)))))] H := hP
    have hD : va_D (AM am) [(am 0, .inr (2, [.int (nI 1), .int (nI now), .int told, .int (nI n), .ref (am 1), .ref (am 2), .ref (am 3), .ref (am 4), .ref (am 5)])), (am 1, .inl (cZ, 8, .inl (fun j => bI (lon (v j))))), (am 2, .inl (cZ, 8, .inl (fun j => bI (lcv (v j))))), (am 3, .inl (cI, 8, .inl (fun j => nI (lbc (v j))))), (am 4, .inl (cI, 32, .inl (fun z => nI (lnu (v (z / 4)) (z % 4))))), (am 5, .inl (cI, 32, .inl (fun z => nI (lof (v (z / 4)) (z % 4)))))] := vd6 hinj
    have hcd : cd1 (inB (nI 1) (nI 500) x) = 1 := (by rw [c_13]; rfl)
    have hend : PM D cI cZ am (nI (cd1 (inB (nI 1) (nI 500) x))) n (now) (told) (v) H := by
      rw [hcd]; exact hP
    refine n_ti (y := (mrI (cd1 (inB (nI 1) (nI 500) x)) (nI (dkN v n now (-1) (ixx x))))) (by rw [hcd]; rfl) ?_
    exact W.iret (v := (mrI (cd1 (inB (nI 1) (nI 500) x)) (nI (dkN v n now (-1) (ixx x))))) hx hb hr (fun t ht hW => ⟨trivial, rfl, by rw [ht]; exact hend, hS.F ht⟩) hS.2.2 dX2_darkWithin_30
  · obtain ⟨y, hy1, hy2, rfl⟩ := inB_j (by decide) (by decide) c_13
    refine lv_aload_n hx hb dX2_darkWithin_16 rfl (lv_at hl 0 rfl) ?_
    refine lv_iload_n hx hb dX2_darkWithin_17 rfl (lv_at hl 1 rfl) ?_
    refine lv_iconst (v := (-1)) hx hb dX2_darkWithin_18 (by decide) ?_
    refine rV (r := nI (dkN v n now (-1) y)) (As := [.int (nI y), .int (-1)]) (rest := []) ⟨hx, hb, hml, hown, hts⟩ (c_X2_darkWith l D cI cZ cL cJ am (nI 0) n now told v ⟨hn8, hnow, hwl⟩ y (by omega) (-1)) (cwV 2 hts gX2_darkWithin_X2_darkWith rfl rfl rfl (by decide +kernel) ⟨(Nat.le_of_ble_eq_true rfl), (Nat.le_of_ble_eq_true rfl)⟩) hK ((hEA.kept hS.2.1).narrow (fun _ h => h.elim)) hP (RC_of (q := (RX2, TX2, 9)) (ci := 2) hK rfl (vpa hP 0 rfl)) rfl hl.1 rfl (Nat.le_of_ble_eq_true rfl) dX2_darkWithin_19 ⟨(Nat.le_of_ble_eq_true rfl), (Nat.le_of_ble_eq_true rfl)⟩ ?_
    refine lv_goto (tgt := 30) hx hb dX2_darkWithin_22 (by decide) ?_
    have hcd : cd1 (inB (nI 1) (nI 500) (nI y)) = 0 := (cd1_t c_13)
    have hend : PM D cI cZ am (nI (cd1 (inB (nI 1) (nI 500) (nI y)))) n (now) (told) (v) H := by
      rw [hcd]; exact hP
    refine n_ti (y := (mrI (cd1 (inB (nI 1) (nI 500) (nI y))) (nI (dkN v n now (-1) (ixx (nI y)))))) (by rw [hcd, ixx_nI (by omega)]; rfl) ?_
    exact W.iret (v := (mrI (cd1 (inB (nI 1) (nI 500) (nI y))) (nI (dkN v n now (-1) (ixx (nI y)))))) hx hb hr (fun t ht hW => ⟨trivial, rfl, by rw [ht]; exact hend, hS.F ht⟩) hS.2.2 dX2_darkWithin_30
set_option maxHeartbeats 4000000 in
set_option maxRecDepth 100000 in
/-- brightestWithin -/
theorem c_X2_brightestWithin (l : Launch) (D : va_G) (cI cZ cL cJ : ClassId) (am : Nat → Nat) (th : Int32) (n now : Nat) (told : Int32) (v : Nat → LV) (hwf : WFX n now v) (hinj : Inj 6 am) (x : Int32) : Met l yX2_brightestWithin wsX2_brightestWithin ({ frames := 2, cells := 0, slots := 0, locals := 48 } : Room) (PC D (TY cI cZ cL cJ) (AM am) [.ref (am 0), .int x] (fun H => PM D cI cZ am th n now told v H)) (QW (AM am) True ((mrI (cd1 (inB (nI 1) (nI 500) x)) (nI (brtN v n now (ixx x))))) (fun H => PM D cI cZ am (nI (cd1 (inB (nI 1) (nI 500) x))) n (now) (told) (v) H)) 0 0 (AM am) := by
  refine Met.ofW (cc := cX2_brightestWithin) (maxL := 4) (ret := (some .int)) (by decide) rfl ?_
  intro p e s m args below meth c s₁ B hml hv
  obtain ⟨rfl, hK, hEA, hP⟩ := hv
  obtain ⟨hn8, hnow, hwl⟩ := hwf
  have hE : EN noA s s.heap := hEA.narrow (fun _ h => h.elim)
  have hS : va_S (AM am) s.heap s.heap [] := va_S.rf
  have hD : va_D (AM am) (mW cI cZ am th n now told v) := vd6 hinj
  have hP : va_P D vwCl (mW cI cZ am th n now told v) s.heap := hP
  have hx := B.exec
  have hb := B.bytes
  have hr := B.returns
  have hts := atoms_spec (ws := wsX2_brightestWithin) B.pre
  have hown : s.vm.findClass RX2 = some m.cls := findClass_of_methodNamed B.named
  have hlocks := B.notSynchronized
  have hNF := hE.2.1.1
  have hin2 : ∀ w ∈ wsX20, w ∈ wsX2_brightestWithin := by decide +kernel
  have hl := lv_entry ([.ref (am 0), .int x]) (n := 4) (Nat.le_of_ble_eq_true rfl)
  rw [lg_entry_eq]
  generalize (lg_sl ([.ref (am 0), .int x]) ++ List.replicate (4 - (lg_sl ([.ref (am 0), .int x])).length) Slot.unset).toArray = ls at hl ⊢
  have hl : lv_has ls 4 [(0, .ref (am 0)), (1, .int x)] := hl
  refine lv_aload_n hx hb dX2_brightestWithin_0 rfl (lv_at hl 0 rfl) ?_
  refine lv_iconst (v := nI 0) hx hb dX2_brightestWithin_1 (by decide) ?_
  refine va_put (D := D) (ci := 2) (v := .int (nI 0)) (ty := .int) (C := RX2) (T := TX2) (N := 9) hx hb hts hin2 tyX2 tyX2_ok nmX2 hown hK hP hD hS 0 rfl rfl 0 (by decide) (hts (.fieldLink RX2 26 "LanternPrimesModel" "thrown" "I") (List.mem_of_getElem? (i := 1) rfl)) (fun _ h9 => h9) rfl (by decide +kernel) rfl rfl (Nat.le_of_ble_eq_true rfl) dX2_brightestWithin_2 (fun H locs hP hD hS => ?_)
  have hP : va_P D vwCl [(am 0, .inr (2, [.int (nI 0), .int (nI now), .int told, .int (nI n), .ref (am 1), .ref (am 2), .ref (am 3), .ref (am 4), .ref (am 5)])), (am 1, .inl (cZ, 8, .inl (fun j => bI (lon (v j))))), (am 2, .inl (cZ, 8, .inl (fun j => bI (lcv (v j))))), (am 3, .inl (cI, 8, .inl (fun j => nI (lbc (v j))))), (am 4, .inl (cI, 32, .inl (fun z => nI (lnu (v (z / 4)) (z % 4))))), (am 5, .inl (cI, 32, .inl (fun z => nI (lof (v (z / 4)) (z % 4)))))] H := hP
  have hD : va_D (AM am) [(am 0, .inr (2, [.int (nI 0), .int (nI now), .int told, .int (nI n), .ref (am 1), .ref (am 2), .ref (am 3), .ref (am 4), .ref (am 5)])), (am 1, .inl (cZ, 8, .inl (fun j => bI (lon (v j))))), (am 2, .inl (cZ, 8, .inl (fun j => bI (lcv (v j))))), (am 3, .inl (cI, 8, .inl (fun j => nI (lbc (v j))))), (am 4, .inl (cI, 32, .inl (fun z => nI (lnu (v (z / 4)) (z % 4))))), (am 5, .inl (cI, 32, .inl (fun z => nI (lof (v (z / 4)) (z % 4)))))] := hD
  refine lv_iload_n hx hb dX2_brightestWithin_5 rfl (lv_at hl 1 rfl) ?_
  refine lv_iconst (v := nI 1) hx hb dX2_brightestWithin_6 (by decide) ?_
  refine lv_sipush (v := nI 500) hx hb dX2_brightestWithin_7 (by decide) ?_
  refine rS (r := bI (inB (nI 1) (nI 500) x)) (As := [.int x, .int (nI 1), .int (nI 500)]) (rest := []) ⟨hx, hb, hml, hown, hts⟩ (c_X2_isIn l D cI cZ cL cJ x (nI 1) (nI 500)) (va_cwS 3 hts gX2_brightestWithin_X2_isIn rfl rfl rfl (by decide +kernel) ⟨(Nat.le_of_ble_eq_true rfl), (Nat.le_of_ble_eq_true rfl)⟩) hK ((hEA.kept hS.2.1).narrow (fun _ h => h.elim)) trivial rfl hl.1 rfl (Nat.le_of_ble_eq_true rfl) dX2_brightestWithin_10 ⟨(Nat.le_of_ble_eq_true rfl), (Nat.le_of_ble_eq_true rfl)⟩ ?_
  refine b_if_ne (b := inB (nI 1) (nI 500) x) (tgt := 22) hx hb dX2_brightestWithin_13 (by decide) (fun c_13 => ?_) (fun c_13 => ?_)
  · obtain ⟨y, hy1, hy2, rfl⟩ := inB_j (by decide) (by decide) c_13
    refine lv_iconst (v := nI 1) hx hb dX2_brightestWithin_22 (by decide) ?_
    refine lv_istore_n (lv' := [(2, .int (nI 1)), (0, .ref (am 0)), (1, .int (nI y))]) hx hb dX2_brightestWithin_23 rfl hl (by decide) rfl (fun ls hl => ?_)
    refine lv_iconst (v := nI 2) hx hb dX2_brightestWithin_24 (by decide) ?_
    refine lv_istore_n (lv' := [(3, .int (nI 2)), (2, .int (nI 1)), (0, .ref (am 0)), (1, .int (nI y))]) hx hb dX2_brightestWithin_25 rfl hl (by decide) rfl (fun ls hl => ?_)
    have loop_26 : ∀ (fu : Nat) (r : Nat), y + 1 - r ≤ fu → 1 ≤ r → r ≤ y → ∀ (ls : Array Slot), lv_has ls 4 [(3, .int (nI (r + 1))), (2, .int (nI (brtN v n now r))), (0, .ref (am 0)), (1, .int (nI y))] → W p l e (headSpec wsX2_brightestWithin ({ frames := 2, cells := 0, slots := 0, locals := 48 } : Room)).room s m [.ref (am 0), .int (nI y)].toArray below meth c H locs 0 0 (MQ below (QW (AM am) True ((mrI (cd1 (inB (nI 1) (nI 500) (nI y))) (nI (brtN v n now (ixx (nI y)))))) (fun H => PM D cI cZ am (nI (cd1 (inB (nI 1) (nI 500) (nI y)))) n (now) (told) (v) H)) [.ref (am 0), .int (nI y)].toArray s 0 0 (AM am)) (F0 m 26 ls []) := by
      intro fu
      induction fu with
      | zero => intro r hn_26 hr1 hr9; exact absurd hn_26 (by omega)
      | succ fu ih_26 =>
        intro r hn_26 hr1 hr9 ls hl
        refine lv_iload_n hx hb dX2_brightestWithin_26 rfl (lv_at hl 0 rfl) ?_
        refine lv_iload_n hx hb dX2_brightestWithin_27 rfl (lv_at hl 3 rfl) ?_
        refine n_icmp_gt (a := r + 1) (b := y) (tgt := 64) hx hb (by omega) (by omega) dX2_brightestWithin_28 (by decide) (fun c_28 => ?_) (fun c_28 => ?_)
        · refine lv_iload_n hx hb dX2_brightestWithin_64 rfl (lv_at hl 1 rfl) ?_
          have hcd : cd1 (inB (nI 1) (nI 500) (nI y)) = 0 := (cd1_t c_13)
          have hend : PM D cI cZ am (nI (cd1 (inB (nI 1) (nI 500) (nI y)))) n (now) (told) (v) H := by
            rw [hcd]; exact hP
          refine n_ti (y := (mrI (cd1 (inB (nI 1) (nI 500) (nI y))) (nI (brtN v n now (ixx (nI y)))))) (by rw [hcd, ixx_nI (by omega), show r = y by omega]; rfl) ?_
          exact W.iret (v := (mrI (cd1 (inB (nI 1) (nI 500) (nI y))) (nI (brtN v n now (ixx (nI y)))))) hx hb hr (fun t ht hW => ⟨trivial, rfl, by rw [ht]; exact hend, hS.F ht⟩) hS.2.2 dX2_brightestWithin_65
        · have hbr := brtN_le (v := v) (n := n) (now := now) r
          refine lv_aload_n hx hb dX2_brightestWithin_31 rfl (lv_at hl 2 rfl) ?_
          refine lv_aload_n hx hb dX2_brightestWithin_32 rfl (lv_at hl 2 rfl) ?_
          refine va_get (D := D) (ci := 2) (v := .int (nI now)) (C := RX2) (T := TX2) (N := 9) hx hb hts hin2 hown hK hP 0 rfl rfl 1 (by decide) (hts (.fieldLink RX2 59 "LanternPrimesModel" "now" "I") (List.mem_of_getElem? (i := 2) rfl)) (fun _ h9 => h9) rfl dX2_brightestWithin_33 ?_
          refine lv_iload_n hx hb dX2_brightestWithin_36 rfl (lv_at hl 0 rfl) ?_
          refine n_iadd (v := nI (now + (r + 1))) hx hb dX2_brightestWithin_37 (nI_add _ _) ?_
          refine lv_iconst (v := (-1)) hx hb dX2_brightestWithin_38 (by decide) ?_
          refine rV (r := nI (ltN v n (-1) (now + (r + 1)))) (As := [.int (nI (now + (r + 1))), .int (-1)]) (rest := []) ⟨hx, hb, hml, hown, hts⟩ (c_X2_litAt l D cI cZ cL cJ am (nI 0) n now told v ⟨hn8, hnow, hwl⟩ (now + (r + 1)) (by omega) (-1)) (cwV 2 hts gX2_brightestWithin_X2_litAt rfl rfl rfl (by decide +kernel) ⟨(Nat.le_of_ble_eq_true rfl), (Nat.le_of_ble_eq_true rfl)⟩) hK ((hEA.kept hS.2.1).narrow (fun _ h => h.elim)) hP (RC_of (q := (RX2, TX2, 9)) (ci := 2) hK rfl (vpa hP 0 rfl)) rfl hl.1 rfl (Nat.le_of_ble_eq_true rfl) dX2_brightestWithin_39 ⟨(Nat.le_of_ble_eq_true rfl), (Nat.le_of_ble_eq_true rfl)⟩ ?_
          refine lv_aload_n hx hb dX2_brightestWithin_42 rfl (lv_at hl 2 rfl) ?_
          refine lv_aload_n hx hb dX2_brightestWithin_43 rfl (lv_at hl 2 rfl) ?_
          refine va_get (D := D) (ci := 2) (v := .int (nI now)) (C := RX2) (T := TX2) (N := 9) hx hb hts hin2 hown hK hP 0 rfl rfl 1 (by decide) (hts (.fieldLink RX2 59 "LanternPrimesModel" "now" "I") (List.mem_of_getElem? (i := 2) rfl)) (fun _ h9 => h9) rfl dX2_brightestWithin_44 ?_
          refine lv_iload_n hx hb dX2_brightestWithin_47 rfl (lv_at hl 1 rfl) ?_
          refine n_iadd (v := nI (now + (brtN v n now r))) hx hb dX2_brightestWithin_48 (nI_add _ _) ?_
          refine lv_iconst (v := (-1)) hx hb dX2_brightestWithin_49 (by decide) ?_
          refine rV (r := nI (ltN v n (-1) (now + brtN v n now r))) (As := [.int (nI (now + brtN v n now r)), .int (-1)]) (rest := [.int (nI (ltN v n (-1) (now + (r + 1))))]) ⟨hx, hb, hml, hown, hts⟩ (c_X2_litAt l D cI cZ cL cJ am (nI 0) n now told v ⟨hn8, hnow, hwl⟩ (now + brtN v n now r) (by omega) (-1)) (cwV 2 hts gX2_brightestWithin_X2_litAt rfl rfl rfl (by decide +kernel) ⟨(Nat.le_of_ble_eq_true rfl), (Nat.le_of_ble_eq_true rfl)⟩) hK ((hEA.kept hS.2.1).narrow (fun _ h => h.elim)) hP (RC_of (q := (RX2, TX2, 9)) (ci := 2) hK rfl (vpa hP 0 rfl)) rfl hl.1 rfl (Nat.le_of_ble_eq_true rfl) dX2_brightestWithin_50 ⟨(Nat.le_of_ble_eq_true rfl), (Nat.le_of_ble_eq_true rfl)⟩ ?_
          refine n_icmp_le (a := ltN v n (-1) (now + (r + 1))) (b := ltN v n (-1) (now + brtN v n now r)) (tgt := 58) hx hb (Nat.lt_of_le_of_lt (cnt_le _ _) (by omega)) (Nat.lt_of_le_of_lt (cnt_le _ _) (by omega)) dX2_brightestWithin_53 (by decide) (fun c_53 => ?_) (fun c_53 => ?_)
          · have e_1 : brtN v n now (r + 1) = brtN v n now r := by rw [ltN_all hn8, ltN_all hn8] at c_53; simp only [brtN]; rw [if_neg (by omega)]
            refine lv_iinc (v := nI ((r + 1) + 1)) (lv' := [(3, .int (nI ((r + 1) + 1))), (2, .int (nI (brtN v n now r))), (0, .ref (am 0)), (1, .int (nI y))]) hx hb dX2_brightestWithin_58 hl (k := 0) rfl (nI_inc _) (by decide) rfl (fun ls hl => ?_)
            refine lv_goto (tgt := 26) hx hb dX2_brightestWithin_61 (by decide) ?_
            exact ih_26 (r + 1) (by omega) (by omega) (by omega) ls (by rw [e_1]; exact (lv_sub hl [0, 1, 2, 3] rfl))
          · have e_1 : brtN v n now (r + 1) = r + 1 := by rw [ltN_all hn8, ltN_all hn8] at c_53; simp only [brtN]; rw [if_pos c_53]
            refine lv_iload_n hx hb dX2_brightestWithin_56 rfl (lv_at hl 0 rfl) ?_
            refine lv_istore_n (lv' := [(2, .int (nI (r + 1))), (3, .int (nI (r + 1))), (0, .ref (am 0)), (1, .int (nI y))]) hx hb dX2_brightestWithin_57 rfl hl (by decide) rfl (fun ls hl => ?_)
            refine lv_iinc (v := nI ((r + 1) + 1)) (lv' := [(3, .int (nI ((r + 1) + 1))), (2, .int (nI (r + 1))), (0, .ref (am 0)), (1, .int (nI y))]) hx hb dX2_brightestWithin_58 hl (k := 1) rfl (nI_inc _) (by decide) rfl (fun ls hl => ?_)
            refine lv_goto (tgt := 26) hx hb dX2_brightestWithin_61 (by decide) ?_
            exact ih_26 (r + 1) (by omega) (by omega) (by omega) ls (by rw [e_1]; exact (lv_sub hl [0, 1, 2, 3] rfl))
    exact loop_26 (y + 1) 1 (by omega) (by omega) (by omega) ls (by rw [brtN_1]; exact (lv_sub hl [0, 1, 2, 3] rfl))
  · refine lv_aload_n hx hb dX2_brightestWithin_16 rfl (lv_at hl 0 rfl) ?_
    refine lv_iconst (v := nI 1) hx hb dX2_brightestWithin_17 (by decide) ?_
    refine wV (As := [.int (nI 1)]) (rest := []) ⟨hx, hb, hml, hown, hts⟩ (c_X2_no l D cI cZ cL cJ am (nI 0) n now told v ⟨hn8, hnow, hwl⟩ hinj (nI 1)) (cwV 1 hts gX2_brightestWithin_X2_no rfl rfl rfl (by decide +kernel) ⟨(Nat.le_of_ble_eq_true rfl), (Nat.le_of_ble_eq_true rfl)⟩) hK (hEA.kept hS.2.1) hP (RC_of (q := (RX2, TX2, 9)) (ci := 2) hK rfl (vpa hP 0 rfl)) rfl hl.1 rfl (Nat.le_of_ble_eq_true rfl) dX2_brightestWithin_18 ⟨(Nat.le_of_ble_eq_true rfl), (Nat.le_of_ble_eq_true rfl)⟩ hS (fun q h => h) (fun H locs _ hP _ hk hS => ?_)
    have hP : va_P D vwCl [(am 0, .inr (2, [.int (nI 1), .int (nI now), .int told, .int (nI n), .ref (am 1), .ref (am 2), .ref (am 3), .ref (am 4), .ref (am 5)])), (am 1, .inl (cZ, 8, .inl (fun j => bI (lon (v j))))), (am 2, .inl (cZ, 8, .inl (fun j => bI (lcv (v j))))), (am 3, .inl (cI, 8, .inl (fun j => nI (lbc (v j))))), (am 4, .inl (cI, 32, .inl (fun z => nI (lnu (v (z / 4)) (z % 4))))), (am 5, .inl (cI, 32, .inl (fun z => nI (lof (v (z / 4)) (z % 4)))))] H := hP
    have hD : va_D (AM am) [(am 0, .inr (2, [.int (nI 1), .int (nI now), .int told, .int (nI n), .ref (am 1), .ref (am 2), .ref (am 3), .ref (am 4), .ref (am 5)])), (am 1, .inl (cZ, 8, .inl (fun j => bI (lon (v j))))), (am 2, .inl (cZ, 8, .inl (fun j => bI (lcv (v j))))), (am 3, .inl (cI, 8, .inl (fun j => nI (lbc (v j))))), (am 4, .inl (cI, 32, .inl (fun z => nI (lnu (v (z / 4)) (z % 4))))), (am 5, .inl (cI, 32, .inl (fun z => nI (lof (v (z / 4)) (z % 4)))))] := vd6 hinj
    have hcd : cd1 (inB (nI 1) (nI 500) x) = 1 := (by rw [c_13]; rfl)
    have hend : PM D cI cZ am (nI (cd1 (inB (nI 1) (nI 500) x))) n (now) (told) (v) H := by
      rw [hcd]; exact hP
    refine n_ti (y := (mrI (cd1 (inB (nI 1) (nI 500) x)) (nI (brtN v n now (ixx x))))) (by rw [hcd]; rfl) ?_
    exact W.iret (v := (mrI (cd1 (inB (nI 1) (nI 500) x)) (nI (brtN v n now (ixx x))))) hx hb hr (fun t ht hW => ⟨trivial, rfl, by rw [ht]; exact hend, hS.F ht⟩) hS.2.2 dX2_brightestWithin_21
set_option maxHeartbeats 4000000 in
set_option maxRecDepth 100000 in
/-- bestCover -/
theorem c_X2_bestCover (l : Launch) (D : va_G) (cI cZ cL cJ : ClassId) (am : Nat → Nat) (th : Int32) (n now : Nat) (told : Int32) (v : Nat → LV) (hwf : WFX n now v) (hinj : Inj 6 am) (x : Int32) : Met l yX2_bestCover wsX2_bestCover ({ frames := 3, cells := 0, slots := 0, locals := 72 } : Room) (PC D (TY cI cZ cL cJ) (AM am) [.ref (am 0), .int x] (fun H => PM D cI cZ am th n now told v H)) (QW (AM am) True ((mrI (cd1 (inB (nI 1) (nI 200) x)) (oI1 (bcvN v n now (ixx x) n)))) (fun H => PM D cI cZ am (nI (cd1 (inB (nI 1) (nI 200) x))) n (now) (told) (v) H)) 0 0 (AM am) := by
  refine Met.ofW (cc := cX2_bestCover) (maxL := 6) (ret := (some .int)) (by decide) rfl ?_
  intro p e s m args below meth c s₁ B hml hv
  obtain ⟨rfl, hK, hEA, hP⟩ := hv
  obtain ⟨hn8, hnow, hwl⟩ := hwf
  have hE : EN noA s s.heap := hEA.narrow (fun _ h => h.elim)
  have hS : va_S (AM am) s.heap s.heap [] := va_S.rf
  have hD : va_D (AM am) (mW cI cZ am th n now told v) := vd6 hinj
  have hP : va_P D vwCl (mW cI cZ am th n now told v) s.heap := hP
  have hx := B.exec
  have hb := B.bytes
  have hr := B.returns
  have hts := atoms_spec (ws := wsX2_bestCover) B.pre
  have hown : s.vm.findClass RX2 = some m.cls := findClass_of_methodNamed B.named
  have hlocks := B.notSynchronized
  have hNF := hE.2.1.1
  have hin2 : ∀ w ∈ wsX20, w ∈ wsX2_bestCover := by decide +kernel
  have hl := lv_entry ([.ref (am 0), .int x]) (n := 6) (Nat.le_of_ble_eq_true rfl)
  rw [lg_entry_eq]
  generalize (lg_sl ([.ref (am 0), .int x]) ++ List.replicate (6 - (lg_sl ([.ref (am 0), .int x])).length) Slot.unset).toArray = ls at hl ⊢
  have hl : lv_has ls 6 [(0, .ref (am 0)), (1, .int x)] := hl
  refine lv_aload_n hx hb dX2_bestCover_0 rfl (lv_at hl 0 rfl) ?_
  refine lv_iconst (v := nI 0) hx hb dX2_bestCover_1 (by decide) ?_
  refine va_put (D := D) (ci := 2) (v := .int (nI 0)) (ty := .int) (C := RX2) (T := TX2) (N := 9) hx hb hts hin2 tyX2 tyX2_ok nmX2 hown hK hP hD hS 0 rfl rfl 0 (by decide) (hts (.fieldLink RX2 26 "LanternPrimesModel" "thrown" "I") (List.mem_of_getElem? (i := 1) rfl)) (fun _ h9 => h9) rfl (by decide +kernel) rfl rfl (Nat.le_of_ble_eq_true rfl) dX2_bestCover_2 (fun H locs hP hD hS => ?_)
  have hP : va_P D vwCl [(am 0, .inr (2, [.int (nI 0), .int (nI now), .int told, .int (nI n), .ref (am 1), .ref (am 2), .ref (am 3), .ref (am 4), .ref (am 5)])), (am 1, .inl (cZ, 8, .inl (fun j => bI (lon (v j))))), (am 2, .inl (cZ, 8, .inl (fun j => bI (lcv (v j))))), (am 3, .inl (cI, 8, .inl (fun j => nI (lbc (v j))))), (am 4, .inl (cI, 32, .inl (fun z => nI (lnu (v (z / 4)) (z % 4))))), (am 5, .inl (cI, 32, .inl (fun z => nI (lof (v (z / 4)) (z % 4)))))] H := hP
  have hD : va_D (AM am) [(am 0, .inr (2, [.int (nI 0), .int (nI now), .int told, .int (nI n), .ref (am 1), .ref (am 2), .ref (am 3), .ref (am 4), .ref (am 5)])), (am 1, .inl (cZ, 8, .inl (fun j => bI (lon (v j))))), (am 2, .inl (cZ, 8, .inl (fun j => bI (lcv (v j))))), (am 3, .inl (cI, 8, .inl (fun j => nI (lbc (v j))))), (am 4, .inl (cI, 32, .inl (fun z => nI (lnu (v (z / 4)) (z % 4))))), (am 5, .inl (cI, 32, .inl (fun z => nI (lof (v (z / 4)) (z % 4)))))] := hD
  refine lv_iload_n hx hb dX2_bestCover_5 rfl (lv_at hl 1 rfl) ?_
  refine lv_iconst (v := nI 1) hx hb dX2_bestCover_6 (by decide) ?_
  refine lv_sipush (v := nI 200) hx hb dX2_bestCover_7 (by decide) ?_
  refine rS (r := bI (inB (nI 1) (nI 200) x)) (As := [.int x, .int (nI 1), .int (nI 200)]) (rest := []) ⟨hx, hb, hml, hown, hts⟩ (c_X2_isIn l D cI cZ cL cJ x (nI 1) (nI 200)) (va_cwS 3 hts gX2_bestCover_X2_isIn rfl rfl rfl (by decide +kernel) ⟨(Nat.le_of_ble_eq_true rfl), (Nat.le_of_ble_eq_true rfl)⟩) hK ((hEA.kept hS.2.1).narrow (fun _ h => h.elim)) trivial rfl hl.1 rfl (Nat.le_of_ble_eq_true rfl) dX2_bestCover_10 ⟨(Nat.le_of_ble_eq_true rfl), (Nat.le_of_ble_eq_true rfl)⟩ ?_
  refine b_if_ne (b := inB (nI 1) (nI 200) x) (tgt := 22) hx hb dX2_bestCover_13 (by decide) (fun c_13 => ?_) (fun c_13 => ?_)
  · obtain ⟨y, hy1, hy2, rfl⟩ := inB_j (by decide) (by decide) c_13
    refine lv_iconst (v := (-1)) hx hb dX2_bestCover_22 (by decide) ?_
    refine lv_istore_n (lv' := [(2, .int (-1)), (0, .ref (am 0)), (1, .int (nI y))]) hx hb dX2_bestCover_23 rfl hl (by decide) rfl (fun ls hl => ?_)
    refine lv_iconst (v := (-1)) hx hb dX2_bestCover_24 (by decide) ?_
    refine lv_istore_n (lv' := [(3, .int (-1)), (2, .int (-1)), (0, .ref (am 0)), (1, .int (nI y))]) hx hb dX2_bestCover_25 rfl hl (by decide) rfl (fun ls hl => ?_)
    refine lv_iconst (v := nI 0) hx hb dX2_bestCover_26 (by decide) ?_
    refine lv_istore (lv' := [(4, .int (nI 0)), (3, .int (-1)), (2, .int (-1)), (0, .ref (am 0)), (1, .int (nI y))]) hx hb dX2_bestCover_27 hl (by decide) rfl (fun ls hl => ?_)
    have loop_29 : ∀ (fu : Nat) (j : Nat), n + 1 - j ≤ fu → j ≤ n → ∀ (ls : Array Slot), lv_has ls 6 [(4, .int (nI j)), (3, .int (oI2 (bcvN v n now y j))), (2, .int (oI1 (bcvN v n now y j))), (0, .ref (am 0)), (1, .int (nI y))] → W p l e (headSpec wsX2_bestCover ({ frames := 3, cells := 0, slots := 0, locals := 72 } : Room)).room s m [.ref (am 0), .int (nI y)].toArray below meth c H locs 0 0 (MQ below (QW (AM am) True ((mrI (cd1 (inB (nI 1) (nI 200) (nI y))) (oI1 (bcvN v n now (ixx (nI y)) n)))) (fun H => PM D cI cZ am (nI (cd1 (inB (nI 1) (nI 200) (nI y)))) n (now) (told) (v) H)) [.ref (am 0), .int (nI y)].toArray s 0 0 (AM am)) (F0 m 29 ls []) := by
      intro fu
      induction fu with
      | zero => intro j hn_29 hj; exact absurd hn_29 (by omega)
      | succ fu ih_29 =>
        intro j hn_29 hj ls hl
        refine lv_iload hx hb dX2_bestCover_29 (lv_at hl 0 rfl) ?_
        refine lv_aload_n hx hb dX2_bestCover_31 rfl (lv_at hl 3 rfl) ?_
        refine va_get (D := D) (ci := 2) (v := .int (nI n)) (C := RX2) (T := TX2) (N := 9) hx hb hts hin2 hown hK hP 0 rfl rfl 3 (by decide) (hts (.fieldLink RX2 30 "LanternPrimesModel" "lamps" "I") (List.mem_of_getElem? (i := 2) rfl)) (fun _ h9 => h9) rfl dX2_bestCover_32 ?_
        refine n_icmp_ge (a := j) (b := n) (tgt := 81) hx hb (by omega) (by omega) dX2_bestCover_35 (by decide) (fun c_35 => ?_) (fun c_35 => ?_)
        · refine lv_iload_n hx hb dX2_bestCover_81 rfl (lv_at hl 2 rfl) ?_
          have hcd : cd1 (inB (nI 1) (nI 200) (nI y)) = 0 := (cd1_t c_13)
          have hend : PM D cI cZ am (nI (cd1 (inB (nI 1) (nI 200) (nI y)))) n (now) (told) (v) H := by
            rw [hcd]; exact hP
          refine n_ti (y := (mrI (cd1 (inB (nI 1) (nI 200) (nI y))) (oI1 (bcvN v n now (ixx (nI y)) n)))) (by rw [hcd, ixx_nI (by omega), show j = n by omega]; rfl) ?_
          exact W.iret (v := (mrI (cd1 (inB (nI 1) (nI 200) (nI y))) (oI1 (bcvN v n now (ixx (nI y)) n)))) hx hb hr (fun t ht hW => ⟨trivial, rfl, by rw [ht]; exact hend, hS.F ht⟩) hS.2.2 dX2_bestCover_82
        · refine lv_aload_n hx hb dX2_bestCover_38 rfl (lv_at hl 3 rfl) ?_
          refine va_get (D := D) (ci := 2) (v := .ref (am 2)) (C := RX2) (T := TX2) (N := 9) hx hb hts hin2 hown hK hP 0 rfl rfl 5 (by decide) (hts (.fieldLink RX2 13 "LanternPrimesModel" "covered" "[Z") (List.mem_of_getElem? (i := 3) rfl)) (fun _ h9 => h9) rfl dX2_bestCover_39 ?_
          refine lv_iload hx hb dX2_bestCover_42 (lv_at hl 0 rfl) ?_
          refine n_zald (v := bI (lcv (v j))) (j := j) hx hb hK hP 2 1 rfl rfl (by omega) (by decide) rfl dX2_bestCover_44 ?_
          refine b_if_eq (b := lcv (v j)) (tgt := 51) hx hb dX2_bestCover_45 (by decide) (fun c_45 => ?_) (fun c_45 => ?_)
          · refine lv_aload_n hx hb dX2_bestCover_51 rfl (lv_at hl 3 rfl) ?_
            refine lv_iload_n hx hb dX2_bestCover_52 rfl (lv_at hl 4 rfl) ?_
            refine lv_iload hx hb dX2_bestCover_53 (lv_at hl 0 rfl) ?_
            refine rV (r := nI (dkN v n now (nI j) y)) (As := [.int (nI y), .int (nI j)]) (rest := []) ⟨hx, hb, hml, hown, hts⟩ (c_X2_darkWith l D cI cZ cL cJ am (nI 0) n now told v ⟨hn8, hnow, hwl⟩ y (by omega) (nI j)) (cwV 2 hts gX2_bestCover_X2_darkWith rfl rfl rfl (by decide +kernel) ⟨(Nat.le_of_ble_eq_true rfl), (Nat.le_of_ble_eq_true rfl)⟩) hK ((hEA.kept hS.2.1).narrow (fun _ h => h.elim)) hP (RC_of (q := (RX2, TX2, 9)) (ci := 2) hK rfl (vpa hP 0 rfl)) rfl hl.1 rfl (Nat.le_of_ble_eq_true rfl) dX2_bestCover_55 ⟨(Nat.le_of_ble_eq_true rfl), (Nat.le_of_ble_eq_true rfl)⟩ ?_
            refine lv_istore (lv' := [(5, .int (nI (dkN v n now (nI j) y))), (4, .int (nI j)), (3, .int (oI2 (bcvN v n now y j))), (2, .int (oI1 (bcvN v n now y j))), (0, .ref (am 0)), (1, .int (nI y))]) hx hb dX2_bestCover_58 hl (by decide) rfl (fun ls hl => ?_)
            refine lv_iload hx hb dX2_bestCover_60 (lv_at hl 0 rfl) ?_
            refine lv_iload_n hx hb dX2_bestCover_62 rfl (lv_at hl 2 rfl) ?_
            refine lv_icmp_gt (tgt := 69) hx hb dX2_bestCover_63 (by decide) (fun c_63 => ?_) (fun c_63 => ?_)
            · have e_1 : bcvN v n now y (j + 1) = some (j, dkN v n now (nI j) y) := bcv_gt (by omega) c_45 (Int32.not_le.mpr c_63)
              refine lv_iload hx hb dX2_bestCover_69 (lv_at hl 1 rfl) ?_
              refine lv_istore_n (lv' := [(2, .int (nI j)), (5, .int (nI (dkN v n now (nI j) y))), (4, .int (nI j)), (3, .int (oI2 (bcvN v n now y j))), (0, .ref (am 0)), (1, .int (nI y))]) hx hb dX2_bestCover_71 rfl hl (by decide) rfl (fun ls hl => ?_)
              refine lv_iload hx hb dX2_bestCover_72 (lv_at hl 1 rfl) ?_
              refine lv_istore_n (lv' := [(3, .int (nI (dkN v n now (nI j) y))), (2, .int (nI j)), (5, .int (nI (dkN v n now (nI j) y))), (4, .int (nI j)), (0, .ref (am 0)), (1, .int (nI y))]) hx hb dX2_bestCover_74 rfl hl (by decide) rfl (fun ls hl => ?_)
              refine lv_iinc (v := nI (j + 1)) (lv' := [(4, .int (nI (j + 1))), (3, .int (nI (dkN v n now (nI j) y))), (2, .int (nI j)), (5, .int (nI (dkN v n now (nI j) y))), (0, .ref (am 0)), (1, .int (nI y))]) hx hb dX2_bestCover_75 hl (k := 3) rfl (nI_inc _) (by decide) rfl (fun ls hl => ?_)
              refine lv_goto (tgt := 29) hx hb dX2_bestCover_78 (by decide) ?_
              exact ih_29 (j + 1) (by omega) (by omega) ls (by rw [e_1]; exact (lv_sub hl [0, 1, 2, 4, 5] rfl))
            · have e_1 : bcvN v n now y (j + 1) = bcvN v n now y j := bcv_le (by omega) c_45 (Int32.not_lt.mp c_63)
              refine lv_goto (tgt := 75) hx hb dX2_bestCover_66 (by decide) ?_
              refine lv_iinc (v := nI (j + 1)) (lv' := [(4, .int (nI (j + 1))), (5, .int (nI (dkN v n now (nI j) y))), (3, .int (oI2 (bcvN v n now y j))), (2, .int (oI1 (bcvN v n now y j))), (0, .ref (am 0)), (1, .int (nI y))]) hx hb dX2_bestCover_75 hl (k := 1) rfl (nI_inc _) (by decide) rfl (fun ls hl => ?_)
              refine lv_goto (tgt := 29) hx hb dX2_bestCover_78 (by decide) ?_
              exact ih_29 (j + 1) (by omega) (by omega) ls (by rw [e_1]; exact (lv_sub hl [0, 2, 3, 4, 5] rfl))
          · have e_1 : bcvN v n now y (j + 1) = bcvN v n now y j := by simp only [bcvN]; rw [if_pos c_45]
            refine lv_goto (tgt := 75) hx hb dX2_bestCover_48 (by decide) ?_
            refine lv_iinc (v := nI (j + 1)) (lv' := [(4, .int (nI (j + 1))), (3, .int (oI2 (bcvN v n now y j))), (2, .int (oI1 (bcvN v n now y j))), (0, .ref (am 0)), (1, .int (nI y))]) hx hb dX2_bestCover_75 hl (k := 0) rfl (nI_inc _) (by decide) rfl (fun ls hl => ?_)
            refine lv_goto (tgt := 29) hx hb dX2_bestCover_78 (by decide) ?_
            exact ih_29 (j + 1) (by omega) (by omega) ls (by rw [e_1]; exact (lv_sub hl [0, 1, 2, 3, 4] rfl))
    exact loop_29 (n + 1) 0 (by omega) (Nat.zero_le _) ls (lv_sub hl [0, 1, 2, 3, 4] rfl)
  · refine lv_aload_n hx hb dX2_bestCover_16 rfl (lv_at hl 0 rfl) ?_
    refine lv_iconst (v := nI 1) hx hb dX2_bestCover_17 (by decide) ?_
    refine wV (As := [.int (nI 1)]) (rest := []) ⟨hx, hb, hml, hown, hts⟩ (c_X2_no l D cI cZ cL cJ am (nI 0) n now told v ⟨hn8, hnow, hwl⟩ hinj (nI 1)) (cwV 1 hts gX2_bestCover_X2_no rfl rfl rfl (by decide +kernel) ⟨(Nat.le_of_ble_eq_true rfl), (Nat.le_of_ble_eq_true rfl)⟩) hK (hEA.kept hS.2.1) hP (RC_of (q := (RX2, TX2, 9)) (ci := 2) hK rfl (vpa hP 0 rfl)) rfl hl.1 rfl (Nat.le_of_ble_eq_true rfl) dX2_bestCover_18 ⟨(Nat.le_of_ble_eq_true rfl), (Nat.le_of_ble_eq_true rfl)⟩ hS (fun q h => h) (fun H locs _ hP _ hk hS => ?_)
    have hP : va_P D vwCl [(am 0, .inr (2, [.int (nI 1), .int (nI now), .int told, .int (nI n), .ref (am 1), .ref (am 2), .ref (am 3), .ref (am 4), .ref (am 5)])), (am 1, .inl (cZ, 8, .inl (fun j => bI (lon (v j))))), (am 2, .inl (cZ, 8, .inl (fun j => bI (lcv (v j))))), (am 3, .inl (cI, 8, .inl (fun j => nI (lbc (v j))))), (am 4, .inl (cI, 32, .inl (fun z => nI (lnu (v (z / 4)) (z % 4))))), (am 5, .inl (cI, 32, .inl (fun z => nI (lof (v (z / 4)) (z % 4)))))] H := hP
    have hD : va_D (AM am) [(am 0, .inr (2, [.int (nI 1), .int (nI now), .int told, .int (nI n), .ref (am 1), .ref (am 2), .ref (am 3), .ref (am 4), .ref (am 5)])), (am 1, .inl (cZ, 8, .inl (fun j => bI (lon (v j))))), (am 2, .inl (cZ, 8, .inl (fun j => bI (lcv (v j))))), (am 3, .inl (cI, 8, .inl (fun j => nI (lbc (v j))))), (am 4, .inl (cI, 32, .inl (fun z => nI (lnu (v (z / 4)) (z % 4))))), (am 5, .inl (cI, 32, .inl (fun z => nI (lof (v (z / 4)) (z % 4)))))] := vd6 hinj
    have hcd : cd1 (inB (nI 1) (nI 200) x) = 1 := (by rw [c_13]; rfl)
    have hend : PM D cI cZ am (nI (cd1 (inB (nI 1) (nI 200) x))) n (now) (told) (v) H := by
      rw [hcd]; exact hP
    refine n_ti (y := (mrI (cd1 (inB (nI 1) (nI 200) x)) (oI1 (bcvN v n now (ixx x) n)))) (by rw [hcd]; rfl) ?_
    exact W.iret (v := (mrI (cd1 (inB (nI 1) (nI 200) x)) (oI1 (bcvN v n now (ixx x) n)))) hx hb hr (fun t ht hW => ⟨trivial, rfl, by rw [ht]; exact hend, hS.F ht⟩) hS.2.2 dX2_bestCover_21
