/-! the reference's searches, and the class's -/
theorem WFL.b {k : Nat} {L : LV} (h : WFL k L) : WFb L := h.2
theorem prd_dvd {L : LV} : ∀ k i, i < k → lnu L i ∣ prdL L k
  | 0, i, h => absurd h (Nat.not_lt_zero i)
  | k + 1, i, h => by
    simp only [prdL]
    rcases Nat.lt_or_ge i k with q | q
    · have ih := prd_dvd (L := L) k i q
      split
      · exact Nat.dvd_mul_right_of_dvd ih _
      · exact ih
    · have : i = k := by omega
      subst this
      split
      · exact Nat.dvd_mul_left _ _
      · rename_i hh
        exact Nat.dvd_of_mod_eq_zero (Decidable.byContradiction fun z => hh z)
theorem strk_per {L : LV} {P : Nat} (t : Nat) : ∀ k, (∀ i, i < k → lnu L i ∣ P) → strk L (t + P) k = strk L t k
  | 0, _ => rfl
  | k + 1, h => by
    simp only [strk]
    rw [strk_per t k (fun i hi => h i (by omega)), add_mod_dvd (h k (by omega))]
theorem per_prd (L : LV) : Per L (prdA L) := fun t => by
  unfold chgB
  rw [strk_per t _ (fun i hi => prd_dvd _ i hi)]
theorem per_mod {L : LV} {m : Nat} (hm : Per L m) (t : Nat) : chgB L (t % m) = chgB L t := by
  have h := hm.mul (t / m) (t % m)
  rw [← h]
  congr 1
  have := Nat.mod_add_div t m
  rw [Nat.mul_comm] at this
  exact this.symm ▸ rfl
theorem ccy_prd {L : LV} (hw : WFb L) : ccy L ∣ prdA L := ccy_min hw (per_prd L)
theorem cyc_prd {L : LV} (hw : WFb L) : cyc L ∣ 2 * prdA L := by
  rw [cyc_eq hw]
  split
  · exact Nat.mul_dvd_mul_left 2 (ccy_prd hw)
  · exact Nat.dvd_mul_left_of_dvd (ccy_prd hw) 2
theorem steady_eq {L : LV} (hw : WFb L) (hP : 1 ≤ prdA L) : decide (fnd (chgB L) 0 (prdA L) = none) = decide (cyc L = 1) := by
  have key : fnd (chgB L) 0 (prdA L) = none ↔ cyc L = 1 := by
    constructor
    · intro h
      have h0 := fnd_none.mp h
      have hall : ∀ t, chgB L t = false := fun t => by
        rw [← per_mod (per_prd L) t]
        exact h0 _ (Nat.zero_le _) (by have := Nat.mod_lt t (show 0 < prdA L by omega); omega)
      have h1 : Per L 1 := fun t => by rw [hall, hall]
      have h2 : onB L 0 = onB L 1 := by
        have := onB_succ hw 0
        rw [Nat.zero_add, hall] at this
        rw [this]; cases onB L 0 <;> rfl
      exact Nat.eq_one_of_dvd_one ((cyc_iff hw).mp ⟨h1, h2⟩)
    · intro h
      obtain ⟨h1, h2⟩ := (cyc_iff hw (m := 1)).mpr (by rw [h]; exact Nat.dvd_refl 1)
      have h3 := onB_succ hw 0
      rw [Nat.zero_add, ← h2] at h3
      have h4 : chgB L 1 = false := by revert h3; cases onB L 0 <;> cases chgB L 1 <;> decide
      have h5 : chgB L 0 = false := by rw [← h4]; exact (h1 0).symm
      refine fnd_none.mpr (fun j _ _ => ?_)
      have := h1.mul j 0
      rw [Nat.mul_one, Nat.zero_add] at this
      rw [this]; exact h5
  by_cases h : cyc L = 1
  · rw [decide_eq_true h, decide_eq_true (key.mpr h)]
  · rw [decide_eq_false h, decide_eq_false (fun z => h (key.mp z))]
theorem isCy_iff {L : LV} (hP : 1 ≤ prdA L) (m : Nat) : isCyR L m (prdA L) = true ↔ (Per L m ∧ onB L 0 = onB L m) := by
  unfold isCyR
  rw [Bool.and_eq_true, beq_iff_eq, decide_eq_true_iff]
  constructor
  · rintro ⟨h1, h2⟩
    refine ⟨fun t => ?_, h1⟩
    have h0 := fnd_none.mp h2
    have hq : ∀ u, 1 ≤ u → u ≤ prdA L → chgB L (u + m) = chgB L u := fun u a b => by
      have := h0 u a (by omega)
      unfold isCyF at this
      revert this
      cases chgB L u <;> cases chgB L (u + m) <;> decide
    have hlt := Nat.mod_lt t (show 0 < prdA L by omega)
    have e1 : chgB L ((t % prdA L) + m) = chgB L (t + m) := by
      have h3 := (per_prd L).mul (t / prdA L) (t % prdA L + m)
      have h4 := Nat.mod_add_div t (prdA L)
      rw [Nat.mul_comm] at h4
      rw [← h3, show t % prdA L + m + t / prdA L * prdA L = (t % prdA L + t / prdA L * prdA L) + m by omega, h4]
    rw [← e1, ← per_mod (per_prd L) t]
    rcases Nat.eq_zero_or_pos (t % prdA L) with q | q
    · rw [q]
      have h5 := hq (prdA L) hP (Nat.le_refl _)
      have h6 := per_prd L m
      have h7 := per_prd L 0
      rw [Nat.add_comm] at h6
      rw [Nat.zero_add] at h7 ⊢
      rw [← h6, h5, h7]
    · exact hq _ q (by omega)
  · rintro ⟨h1, h2⟩
    refine ⟨h2, fnd_none.mpr (fun j _ _ => ?_)⟩
    unfold isCyF
    rw [h1 j]
    cases chgB L j <;> rfl
theorem cycR_eq {L : LV} (hw : WFb L) (hP : 1 ≤ prdA L) : cycR L = cyc L := by
  have hd := cyc_prd hw
  have hcb := cyc_bd L
  have hF : ∀ m, 1 ≤ m → (cycF L m = true ↔ (m ∣ 2 * prdA L ∧ cyc L ∣ m)) := by
    intro m hm
    unfold cycF
    rw [Bool.and_eq_true, isCy_iff hP, cyc_iff hw, decide_eq_true_iff]
    exact ⟨fun h => ⟨Nat.dvd_of_mod_eq_zero h.1, h.2⟩, fun h => ⟨Nat.mod_eq_zero_of_dvd h.1, h.2⟩⟩
  have hsm : ∀ j, 1 ≤ j → j < cyc L → cycF L j = false := fun j a b => by
    cases h : cycF L j
    · rfl
    · exact absurd (Nat.le_of_dvd (by omega) ((hF j a).mp h).2) (by omega)
  have hle : cyc L ≤ 2 * prdA L := Nat.le_of_dvd (by omega) hd
  unfold cycR
  rcases Nat.lt_or_ge (cyc L) (2 * prdA L) with q | q
  · rw [fnd_some hcb.1 (by omega) ((hF _ hcb.1).mpr ⟨hd, Nat.dvd_refl _⟩) hsm]
  · rw [fnd_none.mpr (fun j a b => hsm j a (by omega))]
    show 2 * prdA L = cyc L
    omega
theorem until_eq {L : LV} (hw : WFb L) (hP : 1 ≤ prdA L) (t : Nat) : oI (fnd (fun q => chgB L (t + q)) 1 (prdA L)) = untC L t := by
  unfold untC
  rw [fnd_per (c := ccy L) (ccy_bd L).1 (Nat.le_of_dvd (by omega) (ccy_prd hw)) (fun q => by rw [← Nat.add_assoc]; exact per_ccy hw _)]
/-! the lamp by which two are compared -/
theorem trn_congr {L M : LV} (t : Nat) : ∀ k, (∀ i, i < k → lnu L i = lnu M i ∧ lof L i = lof M i) → trn L t k = trn M t k
  | 0, _ => rfl
  | k + 1, h => by
    simp only [trn]
    rw [trn_congr t k (fun i hi => h i (by omega)), (h k (by omega)).1, (h k (by omega)).2]
theorem trn_addL (L : LV) (n o t : Nat) : trn (addL L n o) t (lbc L + 1) = trn L t (lbc L) + sut t n o := by
  simp only [trn]
  rw [trn_congr (M := L) t (lbc L) (fun i hi => ⟨if_neg (by omega), if_neg (by omega)⟩)]
  show _ + sut t (if lbc L = lbc L then n else _) (if lbc L = lbc L then o else _) = _
  rw [if_pos rfl, if_pos rfl]
theorem trn_appK (L O : LV) (t : Nat) : ∀ k, trn (appK L O k) t (lbc L + k) = trn L t (lbc L) + trn O t k
  | 0 => rfl
  | k + 1 => by
    have ih := trn_appK L O t k
    have h := trn_addL (appK L O k) (lnu O k) (lof O k) t
    rw [appK_bc] at h
    show trn (addL (appK L O k) (lnu O k) (lof O k)) t (lbc L + k + 1) = trn L t (lbc L) + (trn O t k + sut t (lnu O k) (lof O k))
    rw [h, ih, Nat.add_assoc]
theorem lon_appK (L O : LV) : ∀ k, lon (appK L O k) = lon L
  | 0 => rfl
  | k + 1 => lon_appK L O k
theorem onB_diff (Z A B : LV) (t : Nat) : onB (diffL Z A B) t = (onB A t != onB B t) := by
  have hb : lbc (diffL Z A B) = (0 + lbc A) + lbc B := by
    unfold diffL
    rw [appK_bc, appK_bc]
  have ht : trn (diffL Z A B) t (lbc (diffL Z A B)) = trn A t (lbc A) + trn B t (lbc B) := by
    rw [hb]
    unfold diffL
    have h1 := trn_appK (appK ((0, lnu Z, lof Z, lon A != lon B, lcv Z) : LV) A (lbc A)) B t (lbc B)
    have h2 := trn_appK ((0, lnu Z, lof Z, lon A != lon B, lcv Z) : LV) A t (lbc A)
    rw [appK_bc] at h1
    have e0 : lbc ((0, lnu Z, lof Z, lon A != lon B, lcv Z) : LV) = 0 := rfl
    rw [e0] at h1 h2
    rw [h1, h2]
    show 0 + trn A t (lbc A) + trn B t (lbc B) = _
    omega
  have hl : lon (diffL Z A B) = (lon A != lon B) := by
    unfold diffL
    rw [lon_appK, lon_appK]
  unfold onB
  rw [ht, hl]
  generalize trn A t (lbc A) = x
  generalize trn B t (lbc B) = y
  by_cases hx : x % 2 = 1 <;> by_cases hy : y % 2 = 1
  · rw [decide_eq_false (by omega), decide_eq_true hx, decide_eq_true hy]; cases lon A <;> cases lon B <;> rfl
  · rw [decide_eq_true (by omega), decide_eq_true hx, decide_eq_false hy]; cases lon A <;> cases lon B <;> rfl
  · rw [decide_eq_true (by omega), decide_eq_false hx, decide_eq_true hy]; cases lon A <;> cases lon B <;> rfl
  · rw [decide_eq_false (by omega), decide_eq_false hx, decide_eq_false hy]; cases lon A <;> cases lon B <;> rfl
def tldF (A B : LV) (t q : Nat) : Bool := onB A (t + q) != onB B (t + q)
theorem told_eq {Z A B : LV} (hA : WFL 4 A) (hB : WFL 4 B) (t : Nat) : oI (fnd (tldF A B t) 0 60061) = if onB (diffL Z A B) t = true then nI 0 else untC (diffL Z A B) t := by
  have hD : WFb (diffL Z A B) := (diffL_wf hA hB).b
  have e : tldF A B t = fun q => onB (diffL Z A B) (t + q) := funext fun q => (onB_diff Z A B (t + q)).symm
  rw [e]
  generalize diffL Z A B = M at hD
  have hb := ccy_bd M
  cases h0 : onB M t
  · rw [if_neg (by decide), fnd_f (by rw [Nat.add_zero]; exact h0) (by decide)]
    show oI (fnd (fun q => onB M (t + q)) 1 60060) = untC M t
    rw [fnd_like (g := fun q => chgB M (t + q)) (fun j hj hh => ?_)]
    · unfold untC
      rw [fnd_per (c := ccy M) hb.1 (by omega) (fun q => by rw [← Nat.add_assoc]; exact per_ccy hD _)]
    · have key : ∀ i, i < j → onB M (t + i) = false := by
        intro i
        induction i with
        | zero => intro _; exact h0
        | succ i ih =>
          intro hi
          have := onB_succ hD (t + i)
          rw [ih (by omega)] at this
          have h2 := hh (i + 1) (by omega) hi
          rw [show t + (i + 1) = t + i + 1 by omega] at h2 ⊢
          rw [this, h2]; rfl
      have h3 := onB_succ hD (t + (j - 1))
      rw [key (j - 1) (by omega), show t + (j - 1) + 1 = t + j by omega] at h3
      show onB M (t + j) = chgB M (t + j)
      rw [h3]
      cases chgB M (t + j) <;> rfl
  · rw [if_pos rfl, fnd_t (by rw [Nat.add_zero]; exact h0) (by decide)]
    rfl
