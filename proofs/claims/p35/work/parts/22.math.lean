/-! THE MATHEMATICS: what changes begins anew behind ccy moments and no sooner; a lamp behind cyc -/
def WFb (L : LV) : Prop := ∀ i, i < lbc L → isP (lnu L i) ∧ lof L i < lnu L i
/-- an odd number of the beats of p strikes at t -/
def FB (L : LV) (t p : Nat) : Bool := (trb L p (lbc L)).testBit (t % p)
def X6 (g : Nat → Bool) : Bool := g 2 ^^ (g 3 ^^ (g 5 ^^ (g 7 ^^ (g 11 ^^ g 13))))
theorem X6_xor (f g : Nat → Bool) : X6 (fun p => f p ^^ g p) = (X6 f ^^ X6 g) := by
  have x4 : ∀ a b c d : Bool, ((a ^^ b) ^^ (c ^^ d)) = ((a ^^ c) ^^ (b ^^ d)) := by decide
  symm
  unfold X6
  rw [x4 (f 2) _ (g 2), x4 (f 3) _ (g 3), x4 (f 5) _ (g 5), x4 (f 7) _ (g 7), x4 (f 11) _ (g 11)]
theorem X6_congr {f g : Nat → Bool} (h : ∀ p, isP p → f p = g p) : X6 f = X6 g := by
  unfold X6
  rw [h 2 (Or.inl rfl), h 3 (Or.inr (Or.inl rfl)), h 5 (Or.inr (Or.inr (Or.inl rfl))), h 7 (Or.inr (Or.inr (Or.inr (Or.inl rfl)))), h 11 (Or.inr (Or.inr (Or.inr (Or.inr (Or.inl rfl))))), h 13 (Or.inr (Or.inr (Or.inr (Or.inr (Or.inr rfl)))))]
theorem X6_one {q : Nat} (hq : isP q) (c : Nat → Bool) : X6 (fun p => decide (q = p) && c p) = c q := by
  unfold X6
  rcases hq with rfl | rfl | rfl | rfl | rfl | rfl <;> simp
theorem trb_step (L : LV) (t p k : Nat) : (trb L p (k + 1)).testBit (t % p) = ((trb L p k).testBit (t % p) ^^ (decide (lnu L k = p) && decide (t % p = lof L k))) := by
  simp only [trb]
  by_cases h : lnu L k = p
  · rw [if_pos h, Nat.testBit_xor, Nat.testBit_two_pow, decide_eq_true h, Bool.true_and]
    congr 1
    by_cases e : lof L k = t % p
    · rw [decide_eq_true e, decide_eq_true e.symm]
    · rw [decide_eq_false e, decide_eq_false (fun z => e z.symm)]
  · rw [if_neg h, decide_eq_false h, Bool.false_and, Bool.xor_false]
theorem odd_add (a : Nat) (c : Prop) [Decidable c] : decide ((a + (if c then 1 else 0)) % 2 = 1) = (decide (a % 2 = 1) ^^ decide c) := by
  by_cases hc : c
  · rw [if_pos hc, decide_eq_true hc]
    by_cases h : a % 2 = 1
    · rw [decide_eq_true h, decide_eq_false (by omega)]; rfl
    · rw [decide_eq_false h, decide_eq_true (by omega)]; rfl
  · rw [if_neg hc, decide_eq_false hc, Nat.add_zero, Bool.xor_false]
theorem strk_X6 {L : LV} (t : Nat) : ∀ k, (∀ i, i < k → isP (lnu L i) ∧ lof L i < lnu L i) → decide (strk L t k % 2 = 1) = X6 (fun p => (trb L p k).testBit (t % p))
  | 0, _ => by simp [strk, trb, X6]
  | k + 1, h => by
    have ih := strk_X6 (L := L) t k (fun i hi => h i (by omega))
    have e0 : strk L t (k + 1) = strk L t k + (if t % lnu L k = lof L k then 1 else 0) := rfl
    rw [e0, odd_add, ih]
    have e : X6 (fun p => (trb L p (k + 1)).testBit (t % p)) = X6 (fun p => (trb L p k).testBit (t % p) ^^ (decide (lnu L k = p) && decide (t % p = lof L k))) := X6_congr (fun p _ => trb_step L t p k)
    rw [e, X6_xor, X6_one (h k (by omega)).1]
theorem chg_X6 {L : LV} (h : WFb L) (t : Nat) : chgB L t = X6 (FB L t) := strk_X6 t (lbc L) h
theorem trb_ltA {L : LV} (h : WFb L) (p : Nat) : trb L p (lbc L) < 2 ^ p := trb_lt _ (fun i hi => (h i hi).2)
theorem alike_F {L : LV} {p : Nat} (hp : 0 < p) (h : alike L p = true) (t u : Nat) : FB L t p = FB L u p := by
  unfold alike at h
  unfold FB
  rcases (Bool.or_eq_true _ _).mp h with h | h
  · rw [of_decide_eq_true h, Nat.zero_testBit, Nat.zero_testBit]
  · rw [of_decide_eq_true h, Nat.testBit_two_pow_sub_one, Nat.testBit_two_pow_sub_one, decide_eq_true (Nat.mod_lt _ hp), decide_eq_true (Nat.mod_lt _ hp)]
theorem F_alike {L : LV} (hw : WFb L) {p : Nat} (h : ∀ r, r < p → (trb L p (lbc L)).testBit r = (trb L p (lbc L)).testBit 0) : alike L p = true := by
  unfold alike
  have hlt := trb_ltA hw p
  have hbig : ∀ i, p ≤ i → (trb L p (lbc L)).testBit i = false := fun i hi => Nat.testBit_lt_two_pow (Nat.lt_of_lt_of_le hlt (Nat.pow_le_pow_right (by decide) hi))
  cases h0 : (trb L p (lbc L)).testBit 0
  · have : trb L p (lbc L) = 0 := by
      apply Nat.eq_of_testBit_eq
      intro i
      rw [Nat.zero_testBit]
      rcases Nat.lt_or_ge i p with q | q
      · rw [h i q, h0]
      · exact hbig i q
    rw [decide_eq_true this]; rfl
  · have : trb L p (lbc L) = 2 ^ p - 1 := by
      apply Nat.eq_of_testBit_eq
      intro i
      rw [Nat.testBit_two_pow_sub_one]
      rcases Nat.lt_or_ge i p with q | q
      · rw [h i q, h0, decide_eq_true q]
      · rw [hbig i q, decide_eq_false (by omega)]
    rw [decide_eq_true this, Bool.or_true]
theorem ccyk_dvd {L : LV} {k : Nat} (h : ¬ alike L (NUMf k) = true) : ∀ m, k < m → NUMf k ∣ ccyk L m
  | 0, hk => absurd hk (Nat.not_lt_zero _)
  | m + 1, hk => by
    simp only [ccyk]
    rcases Nat.lt_or_ge k m with q | q
    · have ih := ccyk_dvd h m q
      split
      · exact ih
      · exact Nat.dvd_mul_right_of_dvd ih _
    · have : k = m := by omega
      subst this
      rw [if_neg h]
      exact Nat.dvd_mul_left _ _
theorem isP_NUM {p : Nat} (h : isP p) : ∃ k, k < 6 ∧ NUMf k = p := by
  rcases h with rfl | rfl | rfl | rfl | rfl | rfl
  · exact ⟨0, by decide, rfl⟩
  · exact ⟨1, by decide, rfl⟩
  · exact ⟨2, by decide, rfl⟩
  · exact ⟨3, by decide, rfl⟩
  · exact ⟨4, by decide, rfl⟩
  · exact ⟨5, by decide, rfl⟩
theorem ccy_dvd {L : LV} {p : Nat} (hp : isP p) (h : ¬ alike L p = true) : p ∣ ccy L := by
  obtain ⟨k, hk, rfl⟩ := isP_NUM hp
  exact ccyk_dvd h 6 hk
theorem add_mod_dvd {t m p : Nat} (h : p ∣ m) : (t + m) % p = t % p := by
  obtain ⟨c, rfl⟩ := h
  exact Nat.add_mul_mod_self_left t p c
/-- m is a period of the changes -/
def Per (L : LV) (m : Nat) : Prop := ∀ t, chgB L (t + m) = chgB L t
theorem per_ccy {L : LV} (hw : WFb L) : Per L (ccy L) := by
  intro t
  rw [chg_X6 hw, chg_X6 hw]
  refine X6_congr (fun p hp => ?_)
  by_cases h : alike L p = true
  · exact alike_F (by have := isP_le hp; omega) h _ _
  · unfold FB
    rw [add_mod_dvd (ccy_dvd hp h)]
theorem Per.mul {L : LV} {m : Nat} (h : Per L m) : ∀ k, Per L (k * m)
  | 0 => fun t => by rw [Nat.zero_mul, Nat.add_zero]
  | k + 1 => fun t => by
    rw [Nat.succ_mul, ← Nat.add_assoc, h, h.mul k]
/-- the product of the other five -/
theorem others {p : Nat} (hp : isP p) : ∃ Q, (∀ q, isP q → q ≠ p → q ∣ Q) ∧ Q % p ≠ 0 := by
  refine ⟨30030 / p, ?_, ?_⟩
  · rintro q (rfl | rfl | rfl | rfl | rfl | rfl) hq <;> rcases hp with rfl | rfl | rfl | rfl | rfl | rfl <;> first | exact absurd rfl hq | decide
  · rcases hp with rfl | rfl | rfl | rfl | rfl | rfl <;> decide
theorem nz_mul {p : Nat} (hp : isP p) {a b : Nat} (ha : a % p ≠ 0) (hb : b % p ≠ 0) : (a * b) % p ≠ 0 := by
  rw [Nat.mul_mod]
  have key : ∀ p, (p = 2 ∨ p = 3 ∨ p = 5 ∨ p = 7 ∨ p = 11 ∨ p = 13) → ∀ x, x < p → ∀ y, y < p → x ≠ 0 → y ≠ 0 → (x * y) % p ≠ 0 := by
    rintro p (rfl | rfl | rfl | rfl | rfl | rfl) <;> decide +kernel
  have h0 : 0 < p := by have := isP_le hp; omega
  exact key p hp _ (Nat.mod_lt _ h0) _ (Nat.mod_lt _ h0) ha hb
theorem inv_mod {p : Nat} (hp : isP p) {a : Nat} (ha : a % p ≠ 0) : ∃ k, (k * a) % p = 1 := by
  have key : ∀ p, (p = 2 ∨ p = 3 ∨ p = 5 ∨ p = 7 ∨ p = 11 ∨ p = 13) → ∀ x, x < p → x ≠ 0 → ∃ k, k < p ∧ (k * x) % p = 1 := by
    rintro p (rfl | rfl | rfl | rfl | rfl | rfl) <;> decide +kernel
  have h0 : 0 < p := by have := isP_le hp; omega
  obtain ⟨k, -, hk⟩ := key p hp _ (Nat.mod_lt _ h0) ha
  refine ⟨k, ?_⟩
  rw [Nat.mul_mod, Nat.mod_mod] at hk
  rw [Nat.mul_mod, ← hk]
theorem X6_cancel {f g : Nat → Bool} {p : Nat} (hp : isP p) (h : ∀ q, isP q → q ≠ p → f q = g q) (hx : X6 f = X6 g) : f p = g p := by
  unfold X6 at hx
  rcases hp with rfl | rfl | rfl | rfl | rfl | rfl
  · rw [h 3 (by simp [isP]) (by decide), h 5 (by simp [isP]) (by decide), h 7 (by simp [isP]) (by decide), h 11 (by simp [isP]) (by decide), h 13 (by simp [isP]) (by decide)] at hx
    revert hx; cases f 2 <;> cases g 2 <;> cases g 3 <;> cases g 5 <;> cases g 7 <;> cases g 11 <;> cases g 13 <;> decide
  · rw [h 2 (by simp [isP]) (by decide), h 5 (by simp [isP]) (by decide), h 7 (by simp [isP]) (by decide), h 11 (by simp [isP]) (by decide), h 13 (by simp [isP]) (by decide)] at hx
    revert hx; cases f 3 <;> cases g 2 <;> cases g 3 <;> cases g 5 <;> cases g 7 <;> cases g 11 <;> cases g 13 <;> decide
  · rw [h 2 (by simp [isP]) (by decide), h 3 (by simp [isP]) (by decide), h 7 (by simp [isP]) (by decide), h 11 (by simp [isP]) (by decide), h 13 (by simp [isP]) (by decide)] at hx
    revert hx; cases f 5 <;> cases g 2 <;> cases g 3 <;> cases g 5 <;> cases g 7 <;> cases g 11 <;> cases g 13 <;> decide
  · rw [h 2 (by simp [isP]) (by decide), h 3 (by simp [isP]) (by decide), h 5 (by simp [isP]) (by decide), h 11 (by simp [isP]) (by decide), h 13 (by simp [isP]) (by decide)] at hx
    revert hx; cases f 7 <;> cases g 2 <;> cases g 3 <;> cases g 5 <;> cases g 7 <;> cases g 11 <;> cases g 13 <;> decide
  · rw [h 2 (by simp [isP]) (by decide), h 3 (by simp [isP]) (by decide), h 5 (by simp [isP]) (by decide), h 7 (by simp [isP]) (by decide), h 13 (by simp [isP]) (by decide)] at hx
    revert hx; cases f 11 <;> cases g 2 <;> cases g 3 <;> cases g 5 <;> cases g 7 <;> cases g 11 <;> cases g 13 <;> decide
  · rw [h 2 (by simp [isP]) (by decide), h 3 (by simp [isP]) (by decide), h 5 (by simp [isP]) (by decide), h 7 (by simp [isP]) (by decide), h 11 (by simp [isP]) (by decide)] at hx
    revert hx; cases f 13 <;> cases g 2 <;> cases g 3 <;> cases g 5 <;> cases g 7 <;> cases g 11 <;> cases g 13 <;> decide
theorem per_dvd {L : LV} (hw : WFb L) {m p : Nat} (hm : Per L m) (hp : isP p) (ha : ¬ alike L p = true) : p ∣ m := by
  refine Decidable.byContradiction fun hnd => ha ?_
  have h0 : 0 < p := by have := isP_le hp; omega
  have hmp : m % p ≠ 0 := fun z => hnd (Nat.dvd_of_mod_eq_zero z)
  obtain ⟨Q, hQ, hQp⟩ := others hp
  obtain ⟨k, hk⟩ := inv_mod hp (nz_mul hp hQp hmp)
  have hstep : ∀ t, FB L (t + k * (Q * m)) p = FB L t p := by
    intro t
    refine X6_cancel (f := FB L (t + k * (Q * m))) (g := FB L t) hp (fun q hq hqp => ?_) ?_
    · unfold FB
      rw [add_mod_dvd (Nat.dvd_mul_left_of_dvd (Nat.dvd_mul_right_of_dvd (hQ q hq hqp) m) k)]
    · rw [← chg_X6 hw, ← chg_X6 hw, ← Nat.mul_assoc]
      exact hm.mul (k * Q) t
  refine F_alike hw (fun r hr => ?_)
  induction r with
  | zero => rfl
  | succ r ih =>
    rw [← ih (by omega)]
    have h1 := hstep r
    unfold FB at h1
    have e1 : (r + k * (Q * m)) % p = r + 1 := by
      rw [Nat.add_mod, hk, Nat.mod_eq_of_lt (show r < p by omega)]
      exact Nat.mod_eq_of_lt hr
    rw [e1, Nat.mod_eq_of_lt (show r < p by omega)] at h1
    exact h1
theorem ccyk_cop (L : LV) : ∀ k, k < 6 → Nat.Coprime (ccyk L k) (NUMf k) := by
  have base : ∀ k, k < 6 → ∀ j, j < k → Nat.Coprime (NUMf j) (NUMf k) := by decide +kernel
  have key : ∀ k m, m < 6 → k ≤ m → Nat.Coprime (ccyk L k) (NUMf m) := by
    intro k
    induction k with
    | zero => intro m _ _; exact Nat.coprime_one_left _
    | succ k ih =>
      intro m hm hk
      simp only [ccyk]
      split
      · exact ih m hm (by omega)
      · exact Nat.Coprime.mul_left (ih m hm (by omega)) (base m hm k (by omega))
  exact fun k hk => key k k hk (Nat.le_refl k)
theorem ccy_min {L : LV} (hw : WFb L) {m : Nat} (hm : Per L m) : ccy L ∣ m := by
  have key : ∀ k, k ≤ 6 → ccyk L k ∣ m := by
    intro k
    induction k with
    | zero => intro _; exact Nat.one_dvd m
    | succ k ih =>
      intro hk
      simp only [ccyk]
      split
      · exact ih (by omega)
      · rename_i h
        exact Nat.Coprime.mul_dvd_of_dvd_of_dvd (ccyk_cop L k (by omega)) (ih (by omega)) (per_dvd hw hm (NUMf_P (by omega)) h)
  exact key 6 (Nat.le_refl 6)
/-! on and off -/
theorem sut_succ {t n o : Nat} (hn : 0 < n) (ho : o < n) : sut (t + 1) n o = sut t n o + (if (t + 1) % n = o then 1 else 0) := by
  unfold sut
  by_cases h1 : t + 1 < o
  · rw [if_pos h1, if_pos (by omega), if_neg]
    rw [Nat.mod_eq_of_lt (by omega)]; omega
  · rw [if_neg h1]
    by_cases h2 : t < o
    · have : t + 1 = o := by omega
      rw [if_pos h2, this, Nat.sub_self, Nat.zero_div, Nat.mod_eq_of_lt ho, if_pos rfl]
    · rw [if_neg h2]
      have e : t + 1 - o = (t - o) + 1 := by omega
      rw [e, Nat.succ_div]
      have hd : (n ∣ t - o + 1) ↔ (t + 1) % n = o := by
        constructor
        · rintro ⟨c, hc⟩
          have : t + 1 = o + n * c := by omega
          rw [this, Nat.add_mul_mod_self_left, Nat.mod_eq_of_lt ho]
        · intro hm
          have := Nat.div_add_mod (t + 1) n
          exact ⟨(t + 1) / n, by omega⟩
      by_cases h3 : n ∣ t - o + 1
      · rw [if_pos h3, if_pos (hd.mp h3)]
      · rw [if_neg h3, if_neg (fun z => h3 (hd.mpr z))]
theorem trn_succ {L : LV} (t : Nat) : ∀ k, (∀ i, i < k → isP (lnu L i) ∧ lof L i < lnu L i) → trn L (t + 1) k = trn L t k + strk L (t + 1) k
  | 0, _ => rfl
  | k + 1, h => by
    have ih := trn_succ (L := L) t k (fun i hi => h i (by omega))
    have hk := h k (by omega)
    have := isP_le hk.1
    simp only [trn, strk]
    rw [ih, sut_succ (by omega) hk.2]
    omega
theorem onB_succ {L : LV} (hw : WFb L) (t : Nat) : onB L (t + 1) = (onB L t ^^ chgB L (t + 1)) := by
  unfold onB chgB
  rw [trn_succ t _ hw]
  generalize trn L t (lbc L) = a
  generalize strk L (t + 1) (lbc L) = b
  have e : decide ((a + b) % 2 = 1) = (decide (a % 2 = 1) ^^ decide (b % 2 = 1)) := by
    by_cases ha : a % 2 = 1 <;> by_cases hb : b % 2 = 1 <;> simp only [ha, hb, decide_true, decide_false] <;> simp <;> omega
  rw [e]
  cases lon L <;> cases decide (a % 2 = 1) <;> cases decide (b % 2 = 1) <;> rfl
theorem trn_0 {L : LV} : ∀ k, (∀ i, i < k → isP (lnu L i) ∧ lof L i < lnu L i) → trn L 0 k = strk L 0 k
  | 0, _ => rfl
  | k + 1, h => by
    have ih := trn_0 (L := L) k (fun i hi => h i (by omega))
    have hk := h k (by omega)
    have := isP_le hk.1
    simp only [trn, strk]
    rw [ih]
    congr 1
    unfold sut
    rw [Nat.zero_mod]
    by_cases h0 : lof L k = 0
    · rw [if_neg (by omega), if_pos h0.symm]; simp
    · rw [if_pos (by omega), if_neg (fun z => h0 z.symm)]
theorem onB_0 {L : LV} (hw : WFb L) : onB L 0 = (lon L ^^ chgB L 0) := by
  unfold onB chgB
  rw [trn_0 _ hw]
/-- whether it is the other way round behind m moments -/
def rnd (L : LV) (m : Nat) : Bool := onB L m ^^ onB L 0
theorem rnd_t {L : LV} (hw : WFb L) {m : Nat} (hm : Per L m) : ∀ t, onB L (t + m) = (onB L t ^^ rnd L m)
  | 0 => by
    unfold rnd
    rw [Nat.zero_add]
    cases onB L m <;> cases onB L 0 <;> rfl
  | t + 1 => by
    rw [show t + 1 + m = (t + m) + 1 by omega, onB_succ hw, rnd_t hw hm t, onB_succ hw, show t + m + 1 = t + 1 + m by omega, hm]
    cases onB L t <;> cases rnd L m <;> cases chgB L (t + 1) <;> rfl
theorem rnd_mul {L : LV} (hw : WFb L) {m : Nat} (hm : Per L m) : ∀ k, rnd L (k * m) = (decide (k % 2 = 1) && rnd L m)
  | 0 => by simp [rnd]
  | k + 1 => by
    have ih := rnd_mul hw hm k
    have h1 := rnd_t hw hm (k * m)
    have e : rnd L ((k + 1) * m) = (rnd L (k * m) ^^ rnd L m) := by
      unfold rnd at h1 ⊢
      rw [Nat.succ_mul, h1]
      cases onB L (k * m) <;> cases onB L m <;> cases onB L 0 <;> rfl
    rw [e, ih]
    by_cases hk : k % 2 = 1
    · rw [decide_eq_true hk, decide_eq_false (by omega)]; cases rnd L m <;> rfl
    · rw [decide_eq_false hk, decide_eq_true (by omega)]; cases rnd L m <;> rfl
theorem rnd_ccy {L : LV} (hw : WFb L) : rnd L (ccy L) = (onB L (ccy L - 1) ^^ lon L) := by
  have h1 := (ccy_bd L).1
  have h2 := onB_succ hw (ccy L - 1)
  rw [show ccy L - 1 + 1 = ccy L by omega] at h2
  have h3 := per_ccy hw 0
  rw [Nat.zero_add] at h3
  unfold rnd
  rw [h2, onB_0 hw, h3]
  cases onB L (ccy L - 1) <;> cases chgB L 0 <;> cases lon L <;> rfl
theorem cyc_eq {L : LV} (hw : WFb L) : cyc L = if rnd L (ccy L) = true then 2 * ccy L else ccy L := by
  rw [rnd_ccy hw]
  unfold cyc
  cases onB L (ccy L - 1) <;> cases lon L <;> rfl
/-- behind m moments it always is as it was, just if m is a multiple of cyc -/
theorem cyc_iff {L : LV} (hw : WFb L) {m : Nat} : (Per L m ∧ onB L 0 = onB L m) ↔ cyc L ∣ m := by
  have hr : ∀ m, onB L 0 = onB L m ↔ rnd L m = false := fun m => by unfold rnd; cases onB L 0 <;> cases onB L m <;> decide
  have h1 := (ccy_bd L).1
  rw [cyc_eq hw, hr]
  constructor
  · rintro ⟨hp, hm⟩
    obtain ⟨k, rfl⟩ := ccy_min hw hp
    rw [Nat.mul_comm, rnd_mul hw (per_ccy hw)] at hm
    by_cases h : rnd L (ccy L) = true
    · rw [if_pos h]
      rw [h, Bool.and_true] at hm
      have : k % 2 = 0 := by have := of_decide_eq_false hm; omega
      obtain ⟨j, rfl⟩ := Nat.dvd_of_mod_eq_zero this
      exact ⟨j, by rw [Nat.mul_left_comm, Nat.mul_assoc]⟩
    · rw [if_neg h]
      exact Nat.dvd_mul_right _ _
  · intro hd
    by_cases h : rnd L (ccy L) = true
    · rw [if_pos h] at hd
      obtain ⟨j, rfl⟩ := hd
      have e : 2 * ccy L * j = (2 * j) * ccy L := by rw [Nat.mul_right_comm]
      rw [e]
      refine ⟨(per_ccy hw).mul _, ?_⟩
      rw [rnd_mul hw (per_ccy hw), decide_eq_false (by omega)]; rfl
    · rw [if_neg h] at hd
      obtain ⟨j, rfl⟩ := hd
      rw [Nat.mul_comm]
      refine ⟨(per_ccy hw).mul _, ?_⟩
      rw [rnd_mul hw (per_ccy hw)]
      cases hq : rnd L (ccy L)
      · exact Bool.and_false _
      · exact absurd hq h
/-! searches -/
theorem fnd_none {f : Nat → Bool} : ∀ {n lo : Nat}, fnd f lo n = none ↔ ∀ j, lo ≤ j → j < lo + n → f j = false
  | 0, lo => ⟨fun _ j h1 h2 => absurd h2 (by omega), fun _ => rfl⟩
  | n + 1, lo => by
    simp only [fnd]
    cases h : f lo
    · rw [if_neg (by decide), fnd_none]
      constructor
      · intro hh j h1 h2
        rcases Nat.eq_or_lt_of_le h1 with q | q
        · rw [← q]; exact h
        · exact hh j q (by omega)
      · exact fun hh j h1 h2 => hh j (by omega) (by omega)
    · rw [if_pos rfl]
      constructor
      · intro hh; cases hh
      · intro hh; rw [hh lo (Nat.le_refl lo) (by omega)] at h; cases h
theorem fnd_some {f : Nat → Bool} : ∀ {n lo k : Nat}, lo ≤ k → k < lo + n → f k = true → (∀ j, lo ≤ j → j < k → f j = false) → fnd f lo n = some k
  | 0, lo, k, h1, h2, _, _ => absurd h2 (by omega)
  | n + 1, lo, k, h1, h2, h3, h4 => by
    simp only [fnd]
    rcases Nat.eq_or_lt_of_le h1 with q | q
    · subst q; rw [if_pos h3]
    · rw [h4 lo (Nat.le_refl lo) q, if_neg (by decide)]
      exact fnd_some q (by omega) h3 (fun j a b => h4 j (by omega) b)
theorem fnd_spec {f : Nat → Bool} : ∀ {n lo k : Nat}, fnd f lo n = some k → lo ≤ k ∧ k < lo + n ∧ f k = true ∧ ∀ j, lo ≤ j → j < k → f j = false
  | 0, lo, k, h => by cases h
  | n + 1, lo, k, h => by
    simp only [fnd] at h
    cases hf : f lo
    · rw [hf, if_neg (by decide)] at h
      obtain ⟨a, b, c, d⟩ := fnd_spec h
      refine ⟨by omega, by omega, c, fun j h1 h2 => ?_⟩
      rcases Nat.eq_or_lt_of_le h1 with q | q
      · rw [← q]; exact hf
      · exact d j q h2
    · rw [hf, if_pos rfl] at h
      cases h
      exact ⟨Nat.le_refl _, by omega, hf, fun j a b => absurd b (by omega)⟩
theorem fnd_per {g : Nat → Bool} {c n : Nat} (hc : 1 ≤ c) (hn : c ≤ n) (hp : ∀ q, g (q + c) = g q) : fnd g 1 n = fnd g 1 c := by
  cases h : fnd g 1 c with
  | some k =>
    obtain ⟨h1, h2, h3, h4⟩ := fnd_spec h
    exact fnd_some h1 (by omega) h3 h4
  | none =>
    have h0 := fnd_none.mp h
    refine fnd_none.mpr (fun j hj _ => ?_)
    have key : ∀ m j, j ≤ m → 1 ≤ j → g j = false := by
      intro m
      induction m with
      | zero => intro j h1 h2; omega
      | succ m ih =>
        intro j h1 h2
        rcases Nat.lt_or_ge c j with q | q
        · have := ih (j - c) (by omega) (by omega)
          rw [← hp, show j - c + c = j by omega] at this
          exact this
        · exact h0 j h2 (by omega)
    exact key j j (Nat.le_refl j) hj
theorem fnd_like {f g : Nat → Bool} : ∀ {n lo : Nat}, (∀ j, lo ≤ j → (∀ i, lo ≤ i → i < j → g i = false) → f j = g j) → fnd f lo n = fnd g lo n
  | 0, lo, _ => rfl
  | n + 1, lo, h => by
    have h0 := h lo (Nat.le_refl lo) (fun i a b => absurd b (by omega))
    simp only [fnd]
    rw [h0]
    cases hg : g lo
    · rw [if_neg (by decide), if_neg (by decide)]
      refine fnd_like (fun j hj hh => h j (by omega) (fun i a b => ?_))
      rcases Nat.eq_or_lt_of_le a with q | q
      · rw [← q]; exact hg
      · exact hh i q b
    · rw [if_pos rfl, if_pos rfl]
theorem WFL.b {k : Nat} {L : LV} (h : WFL k L) : WFb L := h.2
theorem per_mod {L : LV} {m : Nat} (hm : Per L m) (t : Nat) : chgB L (t % m) = chgB L t := by
  have h := hm.mul (t / m) (t % m)
  rw [← h]
  congr 1
  have := Nat.mod_add_div t m
  rw [Nat.mul_comm] at this
  exact this.symm ▸ rfl
/-! the lamp by which two are compared -/
theorem trn_congr {L M : LV} (t : Nat) : ∀ k, (∀ i, i < k → lnu L i = lnu M i ∧ lof L i = lof M i) → trn L t k = trn M t k
  | 0, _ => rfl
  | k + 1, h => by
    simp only [trn]
    rw [trn_congr t k (fun i hi => h i (by omega)), (h k (by omega)).1, (h k (by omega)).2]
theorem trn_addL (L : LV) (n o t : Nat) : trn (addL L n o) t (lbc L + 1) = trn L t (lbc L) + sut t n o := by
  simp only [trn]
  rw [trn_congr (M := L) t (lbc L) (fun i hi => ⟨if_neg (by omega), if_neg (by omega)⟩)]
  show _ + sut t (if lbc L = lbc L then n else _) (if lbc L = lbc L then o else _) = _
  rw [if_pos rfl, if_pos rfl]
theorem trn_appK (L O : LV) (t : Nat) : ∀ k, trn (appK L O k) t (lbc L + k) = trn L t (lbc L) + trn O t k
  | 0 => rfl
  | k + 1 => by
    have ih := trn_appK L O t k
    have h := trn_addL (appK L O k) (lnu O k) (lof O k) t
    rw [appK_bc] at h
    show trn (addL (appK L O k) (lnu O k) (lof O k)) t (lbc L + k + 1) = trn L t (lbc L) + (trn O t k + sut t (lnu O k) (lof O k))
    rw [h, ih, Nat.add_assoc]
theorem lon_appK (L O : LV) : ∀ k, lon (appK L O k) = lon L
  | 0 => rfl
  | k + 1 => lon_appK L O k
theorem onB_diff (Z A B : LV) (t : Nat) : onB (diffL Z A B) t = (onB A t != onB B t) := by
  have hb : lbc (diffL Z A B) = (0 + lbc A) + lbc B := by
    unfold diffL
    rw [appK_bc, appK_bc]
  have ht : trn (diffL Z A B) t (lbc (diffL Z A B)) = trn A t (lbc A) + trn B t (lbc B) := by
    rw [hb]
    unfold diffL
    have h1 := trn_appK (appK ((0, lnu Z, lof Z, lon A != lon B, lcv Z) : LV) A (lbc A)) B t (lbc B)
    have h2 := trn_appK ((0, lnu Z, lof Z, lon A != lon B, lcv Z) : LV) A t (lbc A)
    rw [appK_bc] at h1
    have e0 : lbc ((0, lnu Z, lof Z, lon A != lon B, lcv Z) : LV) = 0 := rfl
    rw [e0] at h1 h2
    rw [h1, h2]
    show 0 + trn A t (lbc A) + trn B t (lbc B) = _
    omega
  have hl : lon (diffL Z A B) = (lon A != lon B) := by
    unfold diffL
    rw [lon_appK, lon_appK]
  unfold onB
  rw [ht, hl]
  generalize trn A t (lbc A) = x
  generalize trn B t (lbc B) = y
  by_cases hx : x % 2 = 1 <;> by_cases hy : y % 2 = 1
  · rw [decide_eq_false (by omega), decide_eq_true hx, decide_eq_true hy]; cases lon A <;> cases lon B <;> rfl
  · rw [decide_eq_true (by omega), decide_eq_true hx, decide_eq_false hy]; cases lon A <;> cases lon B <;> rfl
  · rw [decide_eq_true (by omega), decide_eq_false hx, decide_eq_true hy]; cases lon A <;> cases lon B <;> rfl
  · rw [decide_eq_false (by omega), decide_eq_false hx, decide_eq_false hy]; cases lon A <;> cases lon B <;> rfl
def tldF (A B : LV) (t q : Nat) : Bool := onB A (t + q) != onB B (t + q)
theorem told_eq {Z A B : LV} (hA : WFL 4 A) (hB : WFL 4 B) (t : Nat) : oI (fnd (tldF A B t) 0 60061) = if onB (diffL Z A B) t = true then nI 0 else untC (diffL Z A B) t := by
  have hD : WFb (diffL Z A B) := (diffL_wf hA hB).b
  have e : tldF A B t = fun q => onB (diffL Z A B) (t + q) := funext fun q => (onB_diff Z A B (t + q)).symm
  rw [e]
  generalize diffL Z A B = M at hD
  have hb := ccy_bd M
  cases h0 : onB M t
  · rw [if_neg (by decide), fnd_f (by rw [Nat.add_zero]; exact h0) (by decide)]
    show oI (fnd (fun q => onB M (t + q)) 1 60060) = untC M t
    rw [fnd_like (g := fun q => chgB M (t + q)) (fun j hj hh => ?_)]
    · unfold untC
      rw [fnd_per (c := ccy M) hb.1 (by omega) (fun q => by rw [← Nat.add_assoc]; exact per_ccy hD _)]
    · have key : ∀ i, i < j → onB M (t + i) = false := by
        intro i
        induction i with
        | zero => intro _; exact h0
        | succ i ih =>
          intro hi
          have := onB_succ hD (t + i)
          rw [ih (by omega)] at this
          have h2 := hh (i + 1) (by omega) hi
          rw [show t + (i + 1) = t + i + 1 by omega] at h2 ⊢
          rw [this, h2]; rfl
      have h3 := onB_succ hD (t + (j - 1))
      rw [key (j - 1) (by omega), show t + (j - 1) + 1 = t + j by omega] at h3
      show onB M (t + j) = chgB M (t + j)
      rw [h3]
      cases chgB M (t + j) <;> rfl
  · rw [if_pos rfl, fnd_t (by rw [Nat.add_zero]; exact h0) (by decide)]
    rfl
