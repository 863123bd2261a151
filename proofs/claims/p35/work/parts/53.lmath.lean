/-! what the law holds against the class, in numbers -/
def prdL (L : LV) : Nat → Nat
  | 0 => 1
  | k + 1 => if ¬ prdL L k % lnu L k = 0 then prdL L k * lnu L k else prdL L k
theorem prdL_bd {L : LV} : ∀ k, (∀ i, i < k → 2 ≤ lnu L i ∧ lnu L i ≤ 13) → 1 ≤ prdL L k ∧ prdL L k ≤ 13 ^ k
  | 0, _ => ⟨Nat.le_refl 1, Nat.le_refl 1⟩
  | k + 1, h => by
    obtain ⟨h1, h2⟩ := prdL_bd k (fun i hi => h i (by omega))
    have h3 := h k (by omega)
    simp only [prdL]
    rw [Nat.pow_succ]
    split
    · exact ⟨Nat.mul_pos h1 (by omega), Nat.mul_le_mul h2 h3.2⟩
    · exact ⟨h1, Nat.le_trans h2 (Nat.le_mul_of_pos_right _ (by omega))⟩
abbrev prdA (L : LV) : Nat := prdL L (lbc L)
theorem prdA_bd {L : LV} (h : WFL 4 L) : 1 ≤ prdA L ∧ prdA L ≤ 28561 := by
  obtain ⟨h1, h2⟩ := prdL_bd (lbc L) (fun i hi => isP_le (h.2 i hi).1)
  exact ⟨h1, Nat.le_trans h2 (Nat.le_trans (Nat.pow_le_pow_right (by decide) h.1) (by decide))⟩
theorem prd_dvd {L : LV} : ∀ k i, i < k → lnu L i ∣ prdL L k
  | 0, i, h => absurd h (Nat.not_lt_zero i)
  | k + 1, i, h => by
    simp only [prdL]
    rcases Nat.lt_or_ge i k with q | q
    · have ih := prd_dvd (L := L) k i q
      split
      · exact Nat.dvd_mul_right_of_dvd ih _
      · exact ih
    · have : i = k := by omega
      subst this
      split
      · exact Nat.dvd_mul_left _ _
      · rename_i hh
        exact Nat.dvd_of_mod_eq_zero (Decidable.byContradiction fun z => hh z)
theorem strk_per {L : LV} {P : Nat} (t : Nat) : ∀ k, (∀ i, i < k → lnu L i ∣ P) → strk L (t + P) k = strk L t k
  | 0, _ => rfl
  | k + 1, h => by
    simp only [strk]
    rw [strk_per t k (fun i hi => h i (by omega)), add_mod_dvd (h k (by omega))]
theorem per_prd (L : LV) : Per L (prdA L) := fun t => by
  unfold chgB
  rw [strk_per t _ (fun i hi => prd_dvd _ i hi)]
theorem ccy_prd {L : LV} (hw : WFb L) : ccy L ∣ prdA L := ccy_min hw (per_prd L)
theorem ccy_bd4 {L : LV} (h : WFL 4 L) : 1 ≤ ccy L ∧ ccy L ≤ 28561 := by
  have h1 := (ccy_bd L).1
  have h2 := prdA_bd h
  exact ⟨h1, Nat.le_trans (Nat.le_of_dvd (by omega) (ccy_prd h.b)) h2.2⟩
theorem cyc_bd4 {L : LV} (h : WFL 4 L) : 1 ≤ cyc L ∧ cyc L ≤ 57122 := by
  have h1 := ccy_bd4 h
  rw [cyc_eq h.b]
  split <;> omega
theorem onB_cyc {L : LV} (hw : WFb L) (t : Nat) : onB L (t + cyc L) = onB L t := by
  obtain ⟨h1, h2⟩ := (cyc_iff hw (m := cyc L)).mpr (Nat.dvd_refl _)
  rw [rnd_t hw h1 t]
  unfold rnd
  rw [← h2]
  cases onB L t <;> cases onB L 0 <;> rfl
theorem steady_all {L : LV} (hw : WFb L) (h : cyc L = 1) (t : Nat) : chgB L t = false := by
  obtain ⟨h1, h2⟩ := (cyc_iff hw (m := 1)).mpr (by rw [h]; exact Nat.dvd_refl 1)
  have h3 := onB_succ hw 0
  rw [Nat.zero_add, ← h2] at h3
  have h4 : chgB L 1 = false := by revert h3; cases onB L 0 <;> cases chgB L 1 <;> decide
  have h5 : chgB L 0 = false := by rw [← h4]; exact (h1 0).symm
  have h6 := h1.mul t 0
  rw [Nat.mul_one, Nat.zero_add] at h6
  rw [h6]; exact h5
theorem steady_of {L : LV} (hw : WFb L) (h : ∀ t, chgB L t = false) : cyc L = 1 := by
  have h1 : Per L 1 := fun t => by rw [h, h]
  have h2 : onB L 0 = onB L 1 := by
    have h3 := onB_succ hw 0
    rw [Nat.zero_add, h] at h3
    rw [h3]; cases onB L 0 <;> rfl
  exact Nat.eq_one_of_dvd_one ((cyc_iff hw).mp ⟨h1, h2⟩)
/-- the next change, or none -/
abbrev uNx (L : LV) (t : Nat) : Option Nat := fnd (fun q => chgB L (t + q)) 1 (ccy L)
theorem unt_none {L : LV} (hw : WFb L) (t : Nat) : uNx L t = none ↔ cyc L = 1 := by
  have hc := ccy_bd L
  constructor
  · intro h
    have h0 := fnd_none.mp h
    have key : ∀ q, 1 ≤ q → chgB L (t + q) = false := by
      intro q
      induction q using Nat.strongRecOn with
      | _ q ih =>
        intro hq
        rcases Nat.lt_or_ge (ccy L) q with h1 | h1
        · have h2 := ih (q - ccy L) (by omega) (by omega)
          have h3 := per_ccy hw (t + (q - ccy L))
          rw [show t + (q - ccy L) + ccy L = t + q by omega] at h3
          rw [h3]; exact h2
        · exact h0 q hq (by omega)
    refine steady_of hw (fun u => ?_)
    have h1 := (per_ccy hw).mul (t + 1) u
    have h2 : t + 1 ≤ (t + 1) * ccy L := Nat.le_mul_of_pos_right _ (by omega)
    have h3 := key (u + (t + 1) * ccy L - t) (by omega)
    rw [show t + (u + (t + 1) * ccy L - t) = u + (t + 1) * ccy L by omega] at h3
    rw [← h1]; exact h3
  · intro h
    exact fnd_none.mpr (fun j _ _ => steady_all hw h _)
def lookN (L : LV) (t : Nat) : Nat := match uNx L t with
  | none => 20
  | some u => u
theorem unt_cases {L : LV} (h : WFL 4 L) (t : Nat) : (cyc L = 1 ∧ untC L t = -1 ∧ lookN L t = 20) ∨ ∃ u, 1 ≤ u ∧ u ≤ 28561 ∧ ¬ cyc L = 1 ∧ uNx L t = some u ∧ untC L t = nI u ∧ lookN L t = u := by
  have hc := ccy_bd4 h
  cases hu : uNx L t with
  | none => exact Or.inl ⟨(unt_none h.b t).mp hu, by show oI (uNx L t) = -1; rw [hu]; rfl, by unfold lookN; rw [hu]⟩
  | some u =>
    obtain ⟨h1, h2, h3, h4⟩ := fnd_spec hu
    have hns : ¬ cyc L = 1 := by
      intro z
      rw [(unt_none h.b t).mpr z] at hu
      cases hu
    exact Or.inr ⟨u, h1, by omega, hns, rfl, by show oI (uNx L t) = nI u; rw [hu]; rfl, by unfold lookN; rw [hu]⟩
theorem lookF {L : LV} (h : WFL 4 L) {t d : Nat} (h1 : 1 ≤ d) (hd : d ≤ lookN L t) : chgB L (t + d) = decide (nI d = untC L t) := by
  rcases unt_cases h t with ⟨c1, c2, c3⟩ | ⟨u, u1, u2, u3, u4, u5, u6⟩
  · rw [steady_all h.b c1, c2, decide_eq_false]
    intro z
    have h2 : ∀ d, d ≤ 20 → ¬ nI d = -1 := by decide
    exact h2 d (by omega) z
  · obtain ⟨f1, f2, f3, f4⟩ := fnd_spec u4
    rw [u5]
    rw [u6] at hd
    rcases Nat.eq_or_lt_of_le hd with q | q
    · rw [q, decide_eq_true rfl]; exact f3
    · rw [decide_eq_false (fun z => by have := nI_inj (by omega) (by omega) z; omega)]
      exact f4 d h1 q
/-- the bits of what is shown -/
theorem shwN_bit (L : LV) (t : Nat) : ∀ m d, d < m → shwN L t m / 2 ^ (m - 1 - d) % 2 = if onB L (t + d) = true then 1 else 0
  | 0, d, h => absurd h (Nat.not_lt_zero d)
  | m + 1, d, h => by
    have hb : (if onB L (t + m) = true then 1 else 0) ≤ 1 := by split <;> omega
    simp only [shwN]
    by_cases e : d = m
    · subst e
      rw [show d + 1 - 1 - d = 0 by omega, Nat.pow_zero, Nat.div_one]
      omega
    · have ih := shwN_bit L t m d (by omega)
      have e2 : (2 * shwN L t m + if onB L (t + m) = true then 1 else 0) / 2 ^ (m + 1 - 1 - d) = shwN L t m / 2 ^ (m - 1 - d) := by
        rw [show m + 1 - 1 - d = (m - 1 - d) + 1 by omega, Nat.pow_succ, Nat.mul_comm (2 ^ (m - 1 - d)) 2, ← Nat.div_div_eq_div_mul]
        rw [show (2 * shwN L t m + if onB L (t + m) = true then 1 else 0) / 2 = shwN L t m by omega]
      rw [e2]
      exact ih
theorem shrE {S e : Nat} (hS : S < 2 ^ 31) (he : e < 30) : nI S >>> (nI e &&& 31) = nI (S / 2 ^ e) := by
  have h : ∀ e, e < 30 → ((nI e &&& 31).toBitVec.smod 32).toNat = e := by decide
  exact pk_shrN hS _ e (h e he)
/-! dark moments, and covers -/
theorem cnt_imp {f g : Nat → Bool} : ∀ k, (∀ i, i < k → f i = true → g i = true) → cnt f k ≤ cnt g k
  | 0, _ => Nat.le_refl 0
  | k + 1, h => by
    have ih := cnt_imp k (fun i hi => h i (by omega))
    simp only [cnt]
    cases hf : f k
    · rw [if_neg (by decide)]; omega
    · rw [h k (by omega) hf]; rw [if_pos rfl]; omega
theorem cnt_0 {f : Nat → Bool} : ∀ k, (∀ i, i < k → f i = false) → cnt f k = 0
  | 0, _ => rfl
  | k + 1, h => by
    have ih := cnt_0 k (fun i hi => h i (by omega))
    simp only [cnt]
    rw [ih, h k (by omega), if_neg (by decide)]
def cvr (v : Nat → LV) (k : Nat) (b : Bool) : Nat → LV := updv v k (setCv (v k) b)
theorem nI_m1 : ∀ i, i < 8 → ¬ nI i = -1 := by decide
theorem ltB_cov {v : Nat → LV} {k t j : Nat} (hk : k < 8) (hj : j < 8) : ltB (cvr v k true) (-1) t j = ltB v (nI k) t j := by
  unfold ltB
  rw [decide_eq_false (nI_m1 j hj)]
  by_cases e : j = k
  · subst e
    rw [decide_eq_true rfl, show cvr v j true j = setCv (v j) true from if_pos rfl]
    rfl
  · rw [decide_eq_false (fun z => e (nI_inj (by omega) (by omega) z)), show cvr v k true j = v j from if_neg e]
theorem dkN_cov {v : Nat → LV} {n now k m : Nat} (hn : n ≤ 8) (hk : k < 8) : dkN (cvr v k true) n now (-1) m = dkN v n now (nI k) m := by
  refine cnt_congr m (fun i _ => ?_)
  unfold dkB ltN
  rw [cnt_congr n (fun j hj => ltB_cov (v := v) (t := now + (i + 1)) hk (show j < 8 by omega))]
theorem dkN_mono {v : Nat → LV} {n now m : Nat} {x : Int32} (hn : n ≤ 8) : dkN v n now (-1) m ≤ dkN v n now x m := by
  refine cnt_imp m (fun i _ h => ?_)
  unfold dkB at h ⊢
  have h1 := of_decide_eq_true h
  have h2 : ltN v n x (now + (i + 1)) ≤ ltN v n (-1) (now + (i + 1)) := cnt_imp n (fun j hj h3 => by
    unfold ltB at h3 ⊢
    rw [decide_eq_false (nI_m1 j (by omega))]
    rw [Bool.and_eq_true] at h3
    exact h3.2)
  exact decide_eq_true (by omega)
/-- whether one of the first k isn't covered -/
def anyO (v : Nat → LV) : Nat → Bool
  | 0 => false
  | k + 1 => anyO v k || !(lcv (v k))
theorem bcv_spec {v : Nat → LV} {n now m : Nat} : ∀ k, (bcvN v n now m k = none ∧ anyO v k = false) ∨ ∃ b, bcvN v n now m k = some (b, dkN v n now (nI b) m) ∧ anyO v k = true ∧ b < k ∧ ∀ c, c < k → lcv (v c) = false → dkN v n now (nI c) m ≤ dkN v n now (nI b) m ∧ (c < b → dkN v n now (nI c) m < dkN v n now (nI b) m)
  | 0 => Or.inl ⟨rfl, rfl⟩
  | k + 1 => by
    have ih := bcv_spec (v := v) (n := n) (now := now) (m := m) k
    simp only [bcvN, anyO]
    cases hc : lcv (v k)
    · rw [if_neg (by decide)]
      rcases ih with ⟨h1, h2⟩ | ⟨b, h1, h2, h3, h4⟩
      · rw [h1]
        refine Or.inr ⟨k, rfl, by rw [h2]; rfl, by omega, fun c hck hcc => ?_⟩
        have hany : ∀ j, anyO v j = false → ∀ c, c < j → lcv (v c) = true := by
          intro j
          induction j with
          | zero => intro _ c h; exact absurd h (Nat.not_lt_zero c)
          | succ j ihj =>
            intro hj c hcj
            simp only [anyO, Bool.or_eq_false_iff] at hj
            by_cases e : c = j
            · subst e; revert hj; cases lcv (v c) <;> simp
            · exact ihj hj.1 c (by omega)
        by_cases e : c = k
        · subst e; exact ⟨Nat.le_refl _, fun z => absurd z (Nat.lt_irrefl c)⟩
        · have := hany k h2 c (by omega)
          rw [hcc] at this
          cases this
      · rw [h1]
        show (if dkN v n now (nI b) m < dkN v n now (nI k) m then some (k, dkN v n now (nI k) m) else some (b, dkN v n now (nI b) m)) = none ∧ _ ∨ _
        right
        by_cases hlt : dkN v n now (nI b) m < dkN v n now (nI k) m
        · refine ⟨k, if_pos hlt, by rw [h2]; rfl, by omega, fun c hck hcc => ?_⟩
          by_cases e : c = k
          · subst e; exact ⟨Nat.le_refl _, fun z => absurd z (Nat.lt_irrefl c)⟩
          · have h5 := h4 c (by omega) hcc
            exact ⟨by omega, fun _ => by omega⟩
        · refine ⟨b, if_neg hlt, by rw [h2]; rfl, by omega, fun c hck hcc => ?_⟩
          by_cases e : c = k
          · subst e; exact ⟨by omega, fun z => by omega⟩
          · exact h4 c (by omega) hcc
    · rw [if_pos rfl]
      rcases ih with ⟨h1, h2⟩ | ⟨b, h1, h2, h3, h4⟩
      · exact Or.inl ⟨h1, by rw [h2]; rfl⟩
      · refine Or.inr ⟨b, h1, by rw [h2]; rfl, by omega, fun c hck hcc => ?_⟩
        by_cases e : c = k
        · subst e; rw [hc] at hcc; cases hcc
        · exact h4 c (by omega) hcc
/-! collisions -/
theorem col_some {v : Nat → LV} {a b now u : Nat} (h : fnd (fun z => colB v a b (now + z)) 1 1000 = some u) : 1 ≤ u ∧ u ≤ 1000 ∧ colB v a b (now + u) = true ∧ cnt (fun s => colB v a b (now + (s + 1))) u = 1 ∧ cnt (fun s => colB v a b (now + (s + 1))) (u - 1) = 0 := by
  obtain ⟨h1, h2, h3, h4⟩ := fnd_spec h
  have h5 : cnt (fun s => colB v a b (now + (s + 1))) (u - 1) = 0 := cnt_0 _ (fun i hi => h4 (i + 1) (by omega) (by omega))
  refine ⟨h1, by omega, h3, ?_, h5⟩
  obtain ⟨w, rfl⟩ : ∃ w, u = w + 1 := ⟨u - 1, by omega⟩
  rw [Nat.add_sub_cancel] at h5
  simp only [cnt]
  rw [h5, if_pos h3]
theorem col_none {v : Nat → LV} {a b now : Nat} (h : fnd (fun z => colB v a b (now + z)) 1 1000 = none) : cnt (fun s => colB v a b (now + (s + 1))) 500 = 0 := cnt_0 _ (fun i hi => fnd_none.mp h (i + 1) (by omega) (by omega))
theorem pair_ne {n a c : Nat} (ha : a < n) (hc : c < n - 1) : ¬ a = (a + 1 + c) % n := by
  rcases Nat.lt_or_ge (a + 1 + c) n with h | h
  · rw [Nat.mod_eq_of_lt h]; omega
  · rw [Nat.mod_eq_sub_mod h, Nat.mod_eq_of_lt (by omega)]; omega
/-! the digest speaks of the lamps that there are; sums -/
theorem dgst_congr {n now : Nat} {told : Int32} {v w : Nat → LV} (h : ∀ j, j < n → v j = w j) : dgst n now told v = dgst n now told w := by
  have h1 : litN v n now = litN w n now := cnt_congr n (fun i hi => by rw [h i hi])
  have h2 : ∀ d k, k ≤ n → dgK v now d k = dgK w now d k := by
    intro d k
    induction k with
    | zero => intro _; rfl
    | succ k ih =>
      intro hk
      simp only [dgK]
      rw [ih (by omega), h k (by omega)]
  unfold dgst dgA
  rw [h1, h2 _ n (Nat.le_refl n)]
theorem chg_one (L : LV) (t : Nat) : (if chgB L t = true then 1 else 0) = strk L t (lbc L) % 2 := by
  unfold chgB
  by_cases e : strk L t (lbc L) % 2 = 1
  · simp [e]
  · rw [if_neg (by simp [e])]; omega
theorem chg_sum (v : Nat → LV) (t k : Nat) : cnt (fun j => chgB (v j) t) (k + 1) = cnt (fun j => chgB (v j) t) k + strk (v k) t (lbc (v k)) % 2 := by
  rw [← chg_one (v k) t]
  rfl
theorem ps_1 (v : Nat → LV) (n t : Nat) : psN v n t 1 = chgN v n (t + 1) := by
  show 0 + chgN v n (t + (0 + 1)) = chgN v n (t + 1)
  rw [Nat.zero_add]
theorem fnd_0 {f : Nat → Bool} {n : Nat} (hn : n < 2 ^ 30) : decide (oI (fnd f 0 (n + 1)) = nI 0) = f 0 := by
  cases h : f 0 with
  | true =>
    rw [fnd_t h (by omega)]
    exact decide_eq_true rfl
  | false =>
    have e : fnd f 0 (n + 1) = fnd f (0 + 1) n := by rw [fnd_f h (by omega), Nat.add_sub_cancel]
    rw [e]
    refine decide_eq_false ?_
    cases hu : fnd f (0 + 1) n with
    | none => decide
    | some u =>
      obtain ⟨h1, h2, -, -⟩ := fnd_spec hu
      intro z
      have := nI_inj (by omega) (by decide) (show nI u = nI 0 from z)
      omega
