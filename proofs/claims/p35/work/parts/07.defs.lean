/-! a lamp's value: how many beats, their numbers, their offsets, on at its start, covered; and what is reckoned of it -/
abbrev LV : Type := Nat × (Nat → Nat) × (Nat → Nat) × Bool × Bool
abbrev lbc (L : LV) : Nat := L.1
abbrev lnu (L : LV) : Nat → Nat := L.2.1
abbrev lof (L : LV) : Nat → Nat := L.2.2.1
abbrev lon (L : LV) : Bool := L.2.2.2.1
abbrev lcv (L : LV) : Bool := L.2.2.2.2
def isP (n : Nat) : Prop := n = 2 ∨ n = 3 ∨ n = 5 ∨ n = 7 ∨ n = 11 ∨ n = 13
def WFL (k : Nat) (L : LV) : Prop := lbc L ≤ k ∧ ∀ i, i < lbc L → isP (lnu L i) ∧ lof L i < lnu L i
theorem isP_le {n : Nat} (h : isP n) : 2 ≤ n ∧ n ≤ 13 := by rcases h with h | h | h | h | h | h <;> omega
/-- how many of the first k beats strike at t -/
def strk (L : LV) (t : Nat) : Nat → Nat
  | 0 => 0
  | k + 1 => strk L t k + (if t % lnu L k = lof L k then 1 else 0)
def chgB (L : LV) (t : Nat) : Bool := decide (strk L t (lbc L) % 2 = 1)
/-- how often a beat strikes at 0 .. t -/
def sut (t n o : Nat) : Nat := if t < o then 0 else (t - o) / n + 1
def trn (L : LV) (t : Nat) : Nat → Nat
  | 0 => 0
  | k + 1 => trn L t k + sut t (lnu L k) (lof L k)
def onB (L : LV) (t : Nat) : Bool := lon L != decide (trn L t (lbc L) % 2 = 1)
/-- the remainders by p at which an odd number of the first k beats strikes, as bits -/
def trb (L : LV) (p : Nat) : Nat → Nat
  | 0 => 0
  | k + 1 => if lnu L k = p then trb L p k ^^^ 2 ^ lof L k else trb L p k
def alike (L : LV) (p : Nat) : Bool := decide (trb L p (lbc L) = 0) || decide (trb L p (lbc L) = 2 ^ p - 1)
def ccyk (L : LV) : Nat → Nat
  | 0 => 1
  | k + 1 => if alike L (NUMf k) = true then ccyk L k else ccyk L k * NUMf k
def ccy (L : LV) : Nat := ccyk L 6
def cyc (L : LV) : Nat := if onB L (ccy L - 1) = lon L then ccy L else 2 * ccy L
/-- the first of lo, lo + 1, .. (n of them) with f -/
def fnd (f : Nat → Bool) : Nat → Nat → Option Nat
  | _, 0 => none
  | lo, n + 1 => if f lo = true then some lo else fnd f (lo + 1) n
def oI (o : Option Nat) : Int32 := match o with
  | none => -1
  | some k => nI k
/-- how many of the first k have f -/
def cnt (f : Nat → Bool) : Nat → Nat
  | 0 => 0
  | k + 1 => cnt f k + (if f k = true then 1 else 0)
def untC (L : LV) (from' : Nat) : Int32 := oI (fnd (fun k => chgB L (from' + k)) 1 (ccy L))
/-- the cells of a lamp -/
abbrev lampW (cI : ClassId) (a an ao : Nat) (L : LV) : va_W := [(a, .inr (0, [.ref an, .ref ao, .int (nI (lbc L)), .int (bI (lon L)), .int (bI (lcv L))])), (an, .inl (cI, 8, .inl (fun i => nI (lnu L i)))), (ao, .inl (cI, 8, .inl (fun i => nI (lof L i))))]
abbrev TY (cI cZ cL cJ : ClassId) : List (ClassId × FieldType) := [(cI, .int), (cZ, .boolean), (cL, .object "LanternPrimes$Lamp"), (cJ, .array .int)]
theorem strk_le (L : LV) (t : Nat) : ∀ k, strk L t k ≤ k
  | 0 => Nat.le_refl 0
  | k + 1 => by
    have h := strk_le L t k
    simp only [strk]
    split <;> omega
theorem sut_le {t n o : Nat} : sut t n o ≤ t + 1 := by
  unfold sut
  split
  · omega
  · have := Nat.div_le_self (t - o) n
    omega
theorem trn_le (L : LV) (t : Nat) : ∀ k, trn L t k ≤ k * (t + 1)
  | 0 => Nat.zero_le _
  | k + 1 => by
    have h := trn_le L t k
    have h2 := @sut_le t (lnu L k) (lof L k)
    simp only [trn]
    have e : (k + 1) * (t + 1) = k * (t + 1) + (t + 1) := by rw [Nat.succ_mul]
    omega
theorem NUMf_P {k : Nat} (h : k < 6) : isP (NUMf k) := by
  match k, h with
  | 0, _ => exact Or.inl rfl
  | 1, _ => exact Or.inr (Or.inl rfl)
  | 2, _ => exact Or.inr (Or.inr (Or.inl rfl))
  | 3, _ => exact Or.inr (Or.inr (Or.inr (Or.inl rfl)))
  | 4, _ => exact Or.inr (Or.inr (Or.inr (Or.inr (Or.inl rfl))))
  | 5, _ => exact Or.inr (Or.inr (Or.inr (Or.inr (Or.inr rfl))))
def litB (L : LV) (t : Nat) : Bool := !(lcv L) && onB L t
theorem trn_lt {L : LV} {t k : Nat} (ht : t < 2 ^ 25) (hk : k ≤ 8) : trn L t k < 2 ^ 31 := by
  have h := trn_le L t k
  have h2 : k * (t + 1) ≤ 8 * (t + 1) := Nat.mul_le_mul_right _ hk
  omega
theorem bI_bne0 {a b : Bool} (h : bI a = bI b) : nI 0 = bI (a != b) := by revert h; cases a <;> cases b <;> decide
theorem bI_bne1 {a b : Bool} (h : ¬ bI a = bI b) : nI 1 = bI (a != b) := by revert h; cases a <;> cases b <;> decide
theorem trb_lt {L : LV} {p : Nat} : ∀ k, (∀ i, i < k → lof L i < lnu L i) → trb L p k < 2 ^ p
  | 0, _ => Nat.two_pow_pos p
  | k + 1, h => by
    have ih := trb_lt (L := L) (p := p) k (fun i hi => h i (by omega))
    simp only [trb]
    split
    · rename_i e
      have := h k (by omega)
      exact Nat.xor_lt_two_pow ih (Nat.pow_lt_pow_right (by decide) (by omega))
    · exact ih
def prd : Nat → Nat
  | 0 => 1
  | k + 1 => prd k * NUMf k
theorem NUMf_pos (k : Nat) : 1 ≤ NUMf k := by
  unfold NUMf
  split <;> decide
theorem ccyk_bd (L : LV) : ∀ k, 1 ≤ ccyk L k ∧ ccyk L k ≤ prd k
  | 0 => ⟨Nat.le_refl 1, Nat.le_refl 1⟩
  | k + 1 => by
    obtain ⟨h1, h2⟩ := ccyk_bd L k
    have h3 := NUMf_pos k
    simp only [ccyk, prd]
    split
    · exact ⟨h1, Nat.le_trans h2 (Nat.le_mul_of_pos_right _ h3)⟩
    · exact ⟨Nat.mul_pos h1 h3, Nat.mul_le_mul_right _ h2⟩
theorem ccy_bd (L : LV) : 1 ≤ ccy L ∧ ccy L ≤ 30030 := ⟨(ccyk_bd L 6).1, Nat.le_trans (ccyk_bd L 6).2 (by decide)⟩
theorem cyc_bd (L : LV) : 1 ≤ cyc L ∧ cyc L ≤ 60060 := by
  have := ccy_bd L
  unfold cyc
  split <;> omega
theorem fnd_t {f : Nat → Bool} {lo n : Nat} (hf : f lo = true) (hn : 0 < n) : fnd f lo n = some lo := by
  obtain ⟨m, rfl⟩ : ∃ m, n = m + 1 := ⟨n - 1, by omega⟩
  simp [fnd, hf]
theorem fnd_f {f : Nat → Bool} {lo n : Nat} (hf : f lo = false) (hn : 0 < n) : fnd f lo n = fnd f (lo + 1) (n - 1) := by
  obtain ⟨m, rfl⟩ : ∃ m, n = m + 1 := ⟨n - 1, by omega⟩
  simp [fnd, hf]
/-- a lamp with one beat more, with one less, with the beats of another one behind its own -/
def addL (L : LV) (n o : Nat) : LV := (lbc L + 1, fun i => if i = lbc L then n else lnu L i, fun i => if i = lbc L then o else lof L i, lon L, lcv L)
def shf (f : Nat → Nat) (b k : Nat) : Nat → Nat := fun j => if b ≤ j ∧ j + 1 < k then f (j + 1) else f j
def shL (L : LV) (b k : Nat) : LV := (lbc L, shf (lnu L) b k, shf (lof L) b k, lon L, lcv L)
def remL (L : LV) (b : Nat) : LV := (lbc L - 1, shf (lnu L) b (lbc L), shf (lof L) b (lbc L), lon L, lcv L)
def appK (L O : LV) : Nat → LV
  | 0 => L
  | k + 1 => addL (appK L O k) (lnu O k) (lof O k)
theorem appK_bc (L O : LV) : ∀ k, lbc (appK L O k) = lbc L + k
  | 0 => rfl
  | k + 1 => by
    have := appK_bc L O k
    show lbc (appK L O k) + 1 = _
    omega
theorem shf_0 (f : Nat → Nat) (b : Nat) : shf f b (b + 1) = f := by
  funext j
  unfold shf
  rw [if_neg (by omega)]
theorem shf_s (f : Nat → Nat) (b k : Nat) (h : b < k) : (fun i => if i = k - 1 then f k else shf f b k i) = shf f b (k + 1) := by
  funext j
  unfold shf
  by_cases hj : j = k - 1
  · subst hj
    rw [if_pos rfl, if_pos (by omega), show k - 1 + 1 = k by omega]
  · rw [if_neg hj]
    by_cases h2 : b ≤ j ∧ j + 1 < k
    · rw [if_pos h2, if_pos (by omega)]
    · rw [if_neg h2, if_neg (by omega)]
def diffL (Z A B : LV) : LV := appK (appK (0, lnu Z, lof Z, lon A != lon B, lcv Z) A (lbc A)) B (lbc B)
theorem bI_inj {a b : Bool} (h : bI a = bI b) : a = b := by revert h; cases a <;> cases b <;> decide
theorem shf_i (f : Nat → Nat) (b i : Nat) : shf f b i i = f i := by
  unfold shf
  rw [if_neg (by omega)]
/-- what isn't in A stays -/
theorem cellsKeep {D : va_G} {ws : va_W} {A : Nat → Prop} {H0 H : Heap} (hP : va_P D vwCl ws H0) (hno : ∀ q ∈ ws, ¬ A q.1) (hk : ∀ q : Nat, q < H0.size → ¬ A q → H[q]? = H0[q]?) : va_P D vwCl ws H :=
  hP.kept (fun k q hq => hk q.1 (hP k q hq).lt (hno q (List.mem_of_getElem? hq)))
theorem lampKeep {D : va_G} {cI : ClassId} {a an ao : Nat} {L : LV} {A : Nat → Prop} {H0 H : Heap} (hP : va_P D vwCl (lampW cI a an ao L) H0) (hno : ∀ x ∈ [a, an, ao], ¬ A x) (hk : ∀ q : Nat, q < H0.size → ¬ A q → H[q]? = H0[q]?) : va_P D vwCl (lampW cI a an ao L) H :=
  cellsKeep hP (fun q hq => by
    simp only [lampW, List.mem_cons, List.not_mem_nil, or_false] at hq
    rcases hq with rfl | rfl | rfl
    · exact hno _ (by simp)
    · exact hno _ (by simp)
    · exact hno _ (by simp)) hk
