section SCalls
variable {p : Program} {l : Launch} {e : Env} {R : Room} {s : State} {m : MethodId} {args : Array Value} {below : List Frame} {meth : Method} {c : Code} {H H0 : Heap} {locs : List Loc} {cells slots : Nat} {Q : State → Prop}
variable {y : MethodName} {bytes cc : ByteArray} {maxL nL n index pc mc ms : Nat} {ret : Option FieldType} {ws : List Cond} {rm : Room} {Ts : List Cond} {own C : String} {b : Addr} {As rest st : List Value} {ls : Array Slot}
variable {D : va_G} {cB : ClassId} {T : List (ClassId × FieldType)} {A1 A0 : Nat → Prop} {Ph Pn : Heap → Prop}
theorem rVs {r : Int32} (S : CallFix p m c cc nL s args Ts own) (hM : Met l y ws rm (PCS D cB T A1 (.ref b :: As) Ph) (QcRead r) 0 0 (fun _ => False)) (cw : CallW R s args own C index y bytes maxL ret ws rm 0 0 n) (hK : va_K D vwCl T s) (hEA : EA D cB s) (hE : EN A1 s H) (hPh : Ph H) (hr : RC s H C b)
    (hn : As.length = n) (hsize : ls.size = nL) (hst : st = As.reverse ++ .ref b :: rest) (hW : (rest.map fun v => v.category).sum ≤ 8) (hdg : decode cc pc = .ok (.invokevirtual index, 3)) (hf : cells ≤ R.cells ∧ slots ≤ R.slots)
    (kk : W p l e R s m args below meth c H locs cells slots Q (F0 m (pc + 3) ls (.int r :: rest))) : W p l e R s m args below meth c H locs cells slots Q (F0 m pc ls st) :=
  W.callR (g := F0 m pc ls st) (W.runV S hM cw ⟨PCS_blind, hr, PCSuse hK hE hEA hPh⟩ rfl hn hsize hst (lv_room hW) hdg hf) kk
theorem wVs {r : Int32} {ok : Prop} (S : CallFix p m c cc nL s args Ts own) (hM : Met l y ws rm (PCS D cB T A1 (.ref b :: As) Ph) (QW A1 ok r Pn) 0 0 A1) (cw : CallW R s args own C index y bytes maxL ret ws rm 0 0 n) (hK : va_K D vwCl T s) (hEA : EA D cB s) (hE : EN A1 s H) (hPh : Ph H) (hr : RC s H C b)
    (hn : As.length = n) (hsize : ls.size = nL) (hst : st = As.reverse ++ .ref b :: rest) (hW : (rest.map fun v => v.category).sum ≤ 8) (hdg : decode cc pc = .ok (.invokevirtual index, 3)) (hf : cells ≤ R.cells ∧ slots ≤ R.slots) (hS : va_S A0 H0 H locs) (hA : ∀ q, A1 q → A0 q)
    (kk : ∀ (H1 : Heap) (locs1 : List Loc), ok → Pn H1 → H.size ≤ H1.size → (∀ q : Nat, q < H.size → ¬ A1 q → H1[q]? = H[q]?) → va_S A0 H0 H1 locs1 → W p l e R s m args below meth c H1 locs1 cells slots Q (F0 m (pc + 3) ls (.int r :: rest))) : W p l e R s m args below meth c H locs cells slots Q (F0 m pc ls st) :=
  callW' (g := F0 m pc ls st) (W.runV S hM cw ⟨PCS_blind, hr, PCSuse hK hE hEA hPh⟩ rfl hn hsize hst (lv_room hW) hdg hf) hS hA kk
end SCalls
theorem vd1A {A : Nat → Prop} {a : Nat} {x : va_E} (h : A a) : va_D A [(a, x)] := by
  refine ⟨fun i j p q hi hj _ => ?_, fun k q hk => ?_⟩
  · match i, j, hi, hj with
    | 0, 0, _, _ => rfl
  · match k, hk with
    | 0, hk => cases hk; exact h
def onP (L : LV) : Nat → Bool
  | 0 => lon L
  | t + 1 => onB L t
theorem onP_s {L : LV} (hw : WFb L) (t : Nat) : onB L t = (onP L t ^^ chgB L t) := by
  cases t with
  | zero => exact onB_0 hw
  | succ t => exact onB_succ hw t
def rwF (L : LV) (t : Nat) : Nat → Int32 := fun x => if x < t then bI (onB L x) else 0
theorem rwF_s (L : LV) (t : Nat) : upd (rwF L t) t (bI (onB L t)) = rwF L (t + 1) := by
  funext x
  unfold upd rwF
  by_cases h : x = t
  · subst h; rw [if_pos rfl, if_pos (by omega)]
  · rw [if_neg h]
    by_cases h2 : x < t
    · rw [if_pos h2, if_pos (by omega)]
    · rw [if_neg h2, if_neg (by omega)]
theorem rwF_0 (L : LV) : rwF L 0 = fun _ => 0 := funext fun x => if_neg (Nat.not_lt_zero x)
set_option maxHeartbeats 4000000 in
set_option maxRecDepth 100000 in
/-- strikes -/
theorem c_X2_strikes (l : Launch) (D : va_G) (cI cZ cL cJ : ClassId) (cB : ClassId) (as : Nat → Nat) (n now : Nat) (told : Int32) (v : Nat → LV) (hwf : WFX n now v) (j : Nat) (hj : j < 8) (t : Nat) (ht : t < 2 ^ 25) : Met l yX2_strikes wsX2_strikes ({ frames := 0, cells := 0, slots := 0, locals := 0 } : Room) (PCS D cB (TY cI cZ cL cJ) noA [.ref (as 0), .int (nI j), .int (nI t)] (fun H => SP D cI cZ cJ cB as n now told v H)) (QcRead (nI (strk (v j) t (lbc (v j))))) 0 0 (fun _ => False) := by
  refine Met.ofW (cc := cX2_strikes) (maxL := 8) (ret := (some .int)) (by decide) rfl ?_
  intro p e s m args below meth c s₁ B hml hv
  obtain ⟨⟨rfl, hK, hE, hS0, hSL⟩, hEA⟩ := hv
  obtain ⟨hn8, hnow, hwl⟩ := hwf
  have hKB := hEA.2
  have hwj := hwl j hj
  have hw4 := hwj.1
  have hx := B.exec
  have hb := B.bytes
  have hr := B.returns
  have hts := atoms_spec (ws := wsX2_strikes) B.pre
  have hown : s.vm.findClass RX2 = some m.cls := findClass_of_methodNamed B.named
  have hlocks := B.notSynchronized
  have hNF := hE.2.1.1
  have hin2 : ∀ w ∈ wsX20, w ∈ wsX2_strikes := by decide +kernel
  have hl := lv_entry ([.ref (as 0), .int (nI j), .int (nI t)]) (n := 8) (Nat.le_of_ble_eq_true rfl)
  rw [lg_entry_eq]
  generalize (lg_sl ([.ref (as 0), .int (nI j), .int (nI t)]) ++ List.replicate (8 - (lg_sl ([.ref (as 0), .int (nI j), .int (nI t)])).length) Slot.unset).toArray = ls at hl ⊢
  have hl : lv_has ls 8 [(0, .ref (as 0)), (1, .int (nI j)), (2, .int (nI t))] := hl
  refine lv_iconst (v := nI 0) hx hb dX2_strikes_0 (by decide) ?_
  refine lv_istore_n (lv' := [(3, .int (nI 0)), (0, .ref (as 0)), (1, .int (nI j)), (2, .int (nI t))]) hx hb dX2_strikes_1 rfl hl (by decide) rfl (fun ls hl => ?_)
  refine lv_aload_n hx hb dX2_strikes_2 rfl (lv_at hl 1 rfl) ?_
  refine va_get (D := D) (ci := 2) (v := .ref (as 3)) (C := RX2) (T := TX2) (N := 6) hx hb hts hin2 hown hK hS0 0 rfl rfl 5 (by decide) (hts (.fieldLink RX2 18 "LanternPrimesLaw$Sim" "beats" "[[[I") (List.mem_of_getElem? (i := 1) rfl)) (fun _ h9 => h9) rfl dX2_strikes_3 ?_
  refine lv_iload_n hx hb dX2_strikes_6 rfl (lv_at hl 2 rfl) ?_
  refine n_aaldA (v := as (4 + 5 * j)) (j := j) hx hb hKB hS0 3 0 rfl rfl hj (by decide) rfl dX2_strikes_7 ?_
  refine lv_astore (lv' := [(4, .ref (as (4 + 5 * j))), (3, .int (nI 0)), (0, .ref (as 0)), (1, .int (nI j)), (2, .int (nI t))]) hx hb dX2_strikes_8 hl (by decide) rfl (fun ls hl => ?_)
  refine lv_aload hx hb dX2_strikes_10 (lv_at hl 0 rfl) ?_
  refine va_alen (v := nI (lbc (v j))) hx hb hK (vp1 (hSL j hj).1) 0 3 rfl rfl rfl dX2_strikes_12 ?_
  refine lv_istore (lv' := [(5, .int (nI (lbc (v j)))), (4, .ref (as (4 + 5 * j))), (3, .int (nI 0)), (0, .ref (as 0)), (1, .int (nI j)), (2, .int (nI t))]) hx hb dX2_strikes_13 hl (by decide) rfl (fun ls hl => ?_)
  refine lv_iconst (v := nI 0) hx hb dX2_strikes_15 (by decide) ?_
  refine lv_istore (lv' := [(6, .int (nI 0)), (5, .int (nI (lbc (v j)))), (4, .ref (as (4 + 5 * j))), (3, .int (nI 0)), (0, .ref (as 0)), (1, .int (nI j)), (2, .int (nI t))]) hx hb dX2_strikes_16 hl (by decide) rfl (fun ls hl => ?_)
  have loop_18 : ∀ (fu : Nat) (i : Nat), lbc (v j) + 1 - i ≤ fu → i ≤ lbc (v j) → ∀ (ls : Array Slot), lv_has ls 8 [(6, .int (nI i)), (5, .int (nI (lbc (v j)))), (4, .ref (as (4 + 5 * j))), (3, .int (nI (strk (v j) t i))), (0, .ref (as 0)), (1, .int (nI j)), (2, .int (nI t))] → W p l e (headSpec wsX2_strikes ({ frames := 0, cells := 0, slots := 0, locals := 0 } : Room)).room s m [.ref (as 0), .int (nI j), .int (nI t)].toArray below meth c s.heap [] 0 0 (MQ below (QcRead (nI (strk (v j) t (lbc (v j))))) [.ref (as 0), .int (nI j), .int (nI t)].toArray s 0 0 (fun _ => False)) (F0 m 18 ls []) := by
    intro fu
    induction fu with
    | zero => intro i hn_18 hi; exact absurd hn_18 (by omega)
    | succ fu ih_18 =>
      intro i hn_18 hi ls hl
      refine lv_iload hx hb dX2_strikes_18 (lv_at hl 0 rfl) ?_
      refine lv_iload hx hb dX2_strikes_20 (lv_at hl 1 rfl) ?_
      refine n_icmp_ge (a := i) (b := lbc (v j)) (tgt := 55) hx hb (by omega) (by omega) dX2_strikes_22 (by decide) (fun c_22 => ?_) (fun c_22 => ?_)
      · refine lv_iload_n hx hb dX2_strikes_55 rfl (lv_at hl 3 rfl) ?_
        refine n_ti (y := nI (strk (v j) t (lbc (v j)))) (by rw [show i = lbc (v j) by omega]) ?_
        exact W.iret (v := nI (strk (v j) t (lbc (v j)))) hx hb hr (fun t ht hW => ⟨rfl, ht⟩) (fun _ h => by cases h) dX2_strikes_56
      · refine lv_aload hx hb dX2_strikes_25 (lv_at hl 2 rfl) ?_
        refine lv_iload hx hb dX2_strikes_27 (lv_at hl 0 rfl) ?_
        refine n_aaldA (v := as (5 + 5 * j + i)) (j := i) hx hb hK (vp1 (hSL j hj).1) 0 3 rfl rfl (by omega) (by omega) rfl dX2_strikes_29 ?_
        have hni := hwj.2 i (by omega)
        have hp13 := isP_le hni.1
        refine lv_astore (lv' := [(7, .ref (as (5 + 5 * j + i))), (6, .int (nI i)), (5, .int (nI (lbc (v j)))), (4, .ref (as (4 + 5 * j))), (3, .int (nI (strk (v j) t i))), (0, .ref (as 0)), (1, .int (nI j)), (2, .int (nI t))]) hx hb dX2_strikes_30 hl (by decide) rfl (fun ls hl => ?_)
        refine lv_iload_n hx hb dX2_strikes_32 rfl (lv_at hl 7 rfl) ?_
        refine lv_aload hx hb dX2_strikes_33 (lv_at hl 0 rfl) ?_
        refine lv_iconst (v := nI 1) hx hb dX2_strikes_35 (by decide) ?_
        refine n_iald (v := nI (lof (v j) i)) (j := 1) hx hb hK (vp1 ((hSL j hj).2 i (by omega))) 0 0 rfl rfl (by decide) (by decide) rfl dX2_strikes_36 ?_
        refine n_isub (v := (nI t - nI (lof (v j) i))) hx hb dX2_strikes_37 rfl ?_
        refine lv_aload hx hb dX2_strikes_38 (lv_at hl 0 rfl) ?_
        refine lv_iconst (v := nI 0) hx hb dX2_strikes_40 (by decide) ?_
        refine n_iald (v := nI (lnu (v j) i)) (j := 0) hx hb hK (vp1 ((hSL j hj).2 i (by omega))) 0 0 rfl rfl (by decide) (by decide) rfl dX2_strikes_41 ?_
        refine lv_irem hx hb dX2_strikes_42 (nI_ne0 (by omega) (by omega)) ?_
        refine lv_if_ne (tgt := 49) hx hb dX2_strikes_43 (by decide) (fun c_43 => ?_) (fun c_43 => ?_)
        · have e_1 : strk (v j) t (i + 1) = strk (v j) t i := by simp only [strk]; rw [if_neg (fun z => c_43 ((rem0 ht hni.1 hni.2).mpr z))]; rfl
          rw [← e_1] at hl
          refine lv_iinc (v := nI (i + 1)) (lv' := [(6, .int (nI (i + 1))), (7, .ref (as (5 + 5 * j + i))), (5, .int (nI (lbc (v j)))), (4, .ref (as (4 + 5 * j))), (3, .int (nI (strk (v j) t (i + 1)))), (0, .ref (as 0)), (1, .int (nI j)), (2, .int (nI t))]) hx hb dX2_strikes_49 hl (k := 1) rfl (nI_inc _) (by decide) rfl (fun ls hl => ?_)
          refine lv_goto (tgt := 18) hx hb dX2_strikes_52 (by decide) ?_
          exact ih_18 (i + 1) (by omega) (by omega) ls (lv_sub hl [0, 2, 3, 4, 5, 6, 7] rfl)
        · have e_1 : strk (v j) t (i + 1) = strk (v j) t i + 1 := by simp only [strk]; rw [if_pos ((rem0 ht hni.1 hni.2).mp c_43)]
          refine lv_iinc (v := nI (strk (v j) t (i + 1))) (lv' := [(3, .int (nI (strk (v j) t (i + 1)))), (7, .ref (as (5 + 5 * j + i))), (6, .int (nI i)), (5, .int (nI (lbc (v j)))), (4, .ref (as (4 + 5 * j))), (0, .ref (as 0)), (1, .int (nI j)), (2, .int (nI t))]) hx hb dX2_strikes_46 hl (k := 4) rfl (by rw [e_1]; exact nI_inc _) (by decide) rfl (fun ls hl => ?_)
          refine lv_iinc (v := nI (i + 1)) (lv' := [(6, .int (nI (i + 1))), (3, .int (nI (strk (v j) t (i + 1)))), (7, .ref (as (5 + 5 * j + i))), (5, .int (nI (lbc (v j)))), (4, .ref (as (4 + 5 * j))), (0, .ref (as 0)), (1, .int (nI j)), (2, .int (nI t))]) hx hb dX2_strikes_49 hl (k := 2) rfl (nI_inc _) (by decide) rfl (fun ls hl => ?_)
          refine lv_goto (tgt := 18) hx hb dX2_strikes_52 (by decide) ?_
          exact ih_18 (i + 1) (by omega) (by omega) ls (lv_sub hl [0, 3, 4, 1, 5, 6, 7] rfl)
  exact loop_18 (lbc (v j) + 1) 0 (by omega) (Nat.zero_le _) ls (lv_sub hl [0, 1, 2, 3, 4, 5, 6] rfl)
set_option maxHeartbeats 4000000 in
set_option maxRecDepth 100000 in
/-- changes -/
theorem c_X2_changes (l : Launch) (D : va_G) (cI cZ cL cJ : ClassId) (cB : ClassId) (as : Nat → Nat) (n now : Nat) (told : Int32) (v : Nat → LV) (hwf : WFX n now v) (j : Nat) (hj : j < 8) (t : Nat) (ht : t < 2 ^ 25) : Met l yX2_changes wsX2_changes ({ frames := 1, cells := 0, slots := 0, locals := 27 } : Room) (PCS D cB (TY cI cZ cL cJ) noA [.ref (as 0), .int (nI j), .int (nI t)] (fun H => SP D cI cZ cJ cB as n now told v H)) (QcRead (bI (chgB (v j) t))) 0 0 (fun _ => False) := by
  refine Met.ofW (cc := cX2_changes) (maxL := 3) (ret := (some .boolean)) (by decide) rfl ?_
  intro p e s m args below meth c s₁ B hml hv
  obtain ⟨⟨rfl, hK, hE, hS0, hSL⟩, hEA⟩ := hv
  obtain ⟨hn8, hnow, hwl⟩ := hwf
  have hKB := hEA.2
  have hwj := hwl j hj
  have hw4 := hwj.1
  have hs4 := strk_le (v j) t (lbc (v j))
  have hx := B.exec
  have hb := B.bytes
  have hr := B.returns
  have hts := atoms_spec (ws := wsX2_changes) B.pre
  have hown : s.vm.findClass RX2 = some m.cls := findClass_of_methodNamed B.named
  have hlocks := B.notSynchronized
  have hNF := hE.2.1.1
  have hin2 : ∀ w ∈ wsX20, w ∈ wsX2_changes := by decide +kernel
  have hl := lv_entry ([.ref (as 0), .int (nI j), .int (nI t)]) (n := 3) (Nat.le_of_ble_eq_true rfl)
  rw [lg_entry_eq]
  generalize (lg_sl ([.ref (as 0), .int (nI j), .int (nI t)]) ++ List.replicate (3 - (lg_sl ([.ref (as 0), .int (nI j), .int (nI t)])).length) Slot.unset).toArray = ls at hl ⊢
  have hl : lv_has ls 3 [(0, .ref (as 0)), (1, .int (nI j)), (2, .int (nI t))] := hl
  refine lv_aload_n hx hb dX2_changes_0 rfl (lv_at hl 0 rfl) ?_
  refine lv_iload_n hx hb dX2_changes_1 rfl (lv_at hl 1 rfl) ?_
  refine lv_iload_n hx hb dX2_changes_2 rfl (lv_at hl 2 rfl) ?_
  refine rVs (r := nI (strk (v j) t (lbc (v j)))) (As := [.int (nI j), .int (nI t)]) (rest := []) ⟨hx, hb, hml, hown, hts⟩ (c_X2_strikes l D cI cZ cL cJ cB as n now told v ⟨hn8, hnow, hwl⟩ j hj t ht) (cwV 2 hts gX2_changes_X2_strikes rfl rfl rfl (by decide +kernel) ⟨(Nat.le_of_ble_eq_true rfl), (Nat.le_of_ble_eq_true rfl)⟩) hK hEA hE ⟨hS0, hSL⟩ (RC_of (q := (RX2, TX2, 6)) (ci := 2) hK rfl (vpa hS0 0 rfl)) rfl hl.1 rfl (Nat.le_of_ble_eq_true rfl) dX2_changes_3 ⟨(Nat.le_of_ble_eq_true rfl), (Nat.le_of_ble_eq_true rfl)⟩ ?_
  refine lv_iconst (v := nI 2) hx hb dX2_changes_6 (by decide) ?_
  refine n_irem (a := strk (v j) t (lbc (v j))) (d := 2) hx hb dX2_changes_7 (by omega) (by decide) (by decide) ?_
  refine n_if_eq (a := (strk (v j) t (lbc (v j))) % 2) (tgt := 15) hx hb (by omega) dX2_changes_8 (by decide) (fun c_8 => ?_) (fun c_8 => ?_)
  · refine lv_iconst (v := nI 0) hx hb dX2_changes_15 (by decide) ?_
    refine n_ti (y := bI (chgB (v j) t)) (by unfold chgB; first | (rw [decide_eq_true (by omega)]; rfl) | (rw [decide_eq_false (by omega)]; rfl)) ?_
    exact W.zret (v := bI (chgB (v j) t)) hx hb hr (bI_narrow _) (fun t ht hW => ⟨rfl, ht⟩) (fun _ h => by cases h) dX2_changes_16
  · refine lv_iconst (v := nI 1) hx hb dX2_changes_11 (by decide) ?_
    refine lv_goto (tgt := 16) hx hb dX2_changes_12 (by decide) ?_
    refine n_ti (y := bI (chgB (v j) t)) (by unfold chgB; first | (rw [decide_eq_true (by omega)]; rfl) | (rw [decide_eq_false (by omega)]; rfl)) ?_
    exact W.zret (v := bI (chgB (v j) t)) hx hb hr (bI_narrow _) (fun t ht hW => ⟨rfl, ht⟩) (fun _ h => by cases h) dX2_changes_16
