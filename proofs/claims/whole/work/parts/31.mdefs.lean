/-! the reference's picture -/
abbrev mW (cI cZ : ClassId) (am : Nat → Nat) (th : Int32) (n now : Nat) (told : Int32) (v : Nat → LV) : va_W := [(am 0, .inr (2, [.int th, .int (nI now), .int told, .int (nI n), .ref (am 1), .ref (am 2), .ref (am 3), .ref (am 4), .ref (am 5)])), (am 1, .inl (cZ, 8, .inl (fun j => bI (lon (v j))))), (am 2, .inl (cZ, 8, .inl (fun j => bI (lcv (v j))))), (am 3, .inl (cI, 8, .inl (fun j => nI (lbc (v j))))), (am 4, .inl (cI, 32, .inl (fun z => nI (lnu (v (z / 4)) (z % 4))))), (am 5, .inl (cI, 32, .inl (fun z => nI (lof (v (z / 4)) (z % 4)))))]
theorem idx4 {k i : Nat} (h : i < 4) : (4 * k + i) / 4 = k ∧ (4 * k + i) % 4 = i := by omega
theorem rg_in {t : Nat} (ht : t < 2 ^ 31) (k : Int32) : inB (nI 0) (nI t - nI 1) k = rgOk k (nI t) := by
  unfold inB rgOk
  by_cases h0 : k < 0
  · rw [decide_eq_true (show k < nI 0 from h0), decide_eq_true h0]; rfl
  · rw [decide_eq_false (show ¬ k < nI 0 from h0), decide_eq_false h0]
    obtain ⟨j, hj, rfl⟩ := nI_of h0
    rcases Nat.eq_zero_or_pos t with rfl | hp
    · have h1 : nI 0 - nI 1 < nI j := Int32.lt_of_lt_of_le (show nI 0 - nI 1 < nI 0 by decide) (nI_le (Nat.zero_le j) hj)
      rw [decide_eq_true h1, decide_eq_false (fun z => absurd ((nI_ltI hj ht).mp z) (by omega))]; rfl
    · rw [pk_sub hp]
      by_cases h2 : j < t
      · rw [decide_eq_false (fun z => absurd ((nI_ltI (by omega) hj).mp z) (by omega)), decide_eq_true ((nI_ltI hj ht).mpr h2)]; rfl
      · rw [decide_eq_true ((nI_ltI (by omega) hj).mpr (by omega)), decide_eq_false (fun z => h2 ((nI_ltI hj ht).mp z))]; rfl
theorem sut_eq {t n o : Nat} (hn : 0 < n) (ho : o < n) : (t + n - o) / n = sut t n o := by
  unfold sut
  by_cases h : t < o
  · rw [if_pos h]
    exact Nat.div_eq_of_lt (by omega)
  · rw [if_neg h, show t + n - o = (t - o) + n by omega, Nat.add_div_right _ hn]
def on0 (L : LV) : Nat := if lon L = true then 1 else 0
theorem onB_par (L : LV) (t : Nat) : onB L t = decide ((on0 L + trn L t (lbc L)) % 2 = 1) := by
  unfold onB on0
  cases lon L
  · simp
  · simp
    by_cases h : trn L t (lbc L) % 2 = 1
    · rw [show (1 + trn L t (lbc L)) % 2 = 0 by omega]; simp [h]
    · rw [show (1 + trn L t (lbc L)) % 2 = 1 by omega]; simp [h]
/-- the product of the numbers of the first k beats, each taken once -/
def prdL (L : LV) : Nat → Nat
  | 0 => 1
  | k + 1 => if ¬ prdL L k % lnu L k = 0 then prdL L k * lnu L k else prdL L k
theorem prdL_bd {L : LV} : ∀ k, (∀ i, i < k → 2 ≤ lnu L i ∧ lnu L i ≤ 13) → 1 ≤ prdL L k ∧ prdL L k ≤ 13 ^ k
  | 0, _ => ⟨Nat.le_refl 1, Nat.le_refl 1⟩
  | k + 1, h => by
    obtain ⟨h1, h2⟩ := prdL_bd k (fun i hi => h i (by omega))
    have h3 := h k (by omega)
    simp only [prdL]
    rw [Nat.pow_succ]
    split
    · exact ⟨Nat.mul_pos h1 (by omega), Nat.mul_le_mul h2 h3.2⟩
    · exact ⟨h1, Nat.le_trans h2 (Nat.le_mul_of_pos_right _ (by omega))⟩
abbrev prdA (L : LV) : Nat := prdL L (lbc L)
theorem prdA_bd {L : LV} (h : WFL 4 L) : 1 ≤ prdA L ∧ prdA L ≤ 28561 := by
  obtain ⟨h1, h2⟩ := prdL_bd (lbc L) (fun i hi => isP_le (h.2 i hi).1)
  exact ⟨h1, Nat.le_trans h2 (Nat.le_trans (Nat.pow_le_pow_right (by decide) h.1) (by decide))⟩
def isCyF (L : LV) (m t : Nat) : Bool := chgB L t != chgB L (t + m)
/-- behind m moments it changes as it did, and is turned evenly by them, as far as P moments tell -/
def isCyR (L : LV) (m P : Nat) : Bool := (onB L 0 == onB L m) && decide (fnd (isCyF L m) 1 P = none)
def cycF (L : LV) (m : Nat) : Bool := decide (2 * prdA L % m = 0) && isCyR L m (prdA L)
def cycR (L : LV) : Nat := match fnd (cycF L) 1 (2 * prdA L - 1) with
  | none => 2 * prdA L
  | some m => m
def PM (D : va_G) (cI cZ : ClassId) (am : Nat → Nat) (th : Int32) (n now : Nat) (told : Int32) (v : Nat → LV) (H : Heap) : Prop := va_P D vwCl (mW cI cZ am th n now told v) H
theorem on0_le (L : LV) : on0 L ≤ 1 := by
  unfold on0
  split <;> omega
theorem prB_no {x : Int32} (h0 : ¬ x = nI 2) (h1 : ¬ x = nI 3) (h2 : ¬ x = nI 5) (h3 : ¬ x = nI 7) (h4 : ¬ x = nI 11) (h5 : ¬ x = nI 13) : prB x = false := by
  cases hpr : prB x with
  | false => rfl
  | true =>
    obtain ⟨i, hi, hx⟩ := prB_t.mp hpr
    match i, hi with
    | 0, _ => exact absurd hx h0
    | 1, _ => exact absurd hx h1
    | 2, _ => exact absurd hx h2
    | 3, _ => exact absurd hx h3
    | 4, _ => exact absurd hx h4
    | 5, _ => exact absurd hx h5
