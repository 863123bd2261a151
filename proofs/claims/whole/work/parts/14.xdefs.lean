/-! the class's picture: its object, the row of lamps, nine lamps (the ninth by which two are compared) -/
abbrev xW (cL : ClassId) (ad : Nat → Nat) (n now : Nat) (told : Int32) : va_W := [(ad 0, .inr (1, [.ref (ad 1), .ref (ad 26), .int (nI n), .int (nI now), .int told])), (ad 1, .inl (cL, 8, .inr (.inr (.inr (.inr (fun j => some (ad (2 + 3 * j))))))))]
abbrev lpW (cI : ClassId) (ad : Nat → Nat) (v : Nat → LV) (j : Nat) : va_W := lampW cI (ad (2 + 3 * j)) (ad (3 + 3 * j)) (ad (4 + 3 * j)) (v j)
def PX (D : va_G) (cI cL : ClassId) (ad : Nat → Nat) (n now : Nat) (told : Int32) (v : Nat → LV) (H : Heap) : Prop := va_P D vwCl (xW cL ad n now told) H ∧ ∀ j, j < 9 → va_P D vwCl (lpW cI ad v j) H
def WFX (n now : Nat) (v : Nat → LV) : Prop := n ≤ 8 ∧ now ≤ 2 ^ 20 ∧ ∀ j, j < 8 → WFL 4 (v j)
theorem WFL.up {L : LV} (h : WFL 4 L) : WFL 8 L := ⟨Nat.le_trans h.1 (by decide), h.2⟩
/-- what is refused -/
def rgOk (k m : Int32) : Bool := !decide (k < 0) && decide (k < m)
def lpOk (n : Nat) (k : Int32) : Bool := rgOk k (nI n)
def inB (lo hi v : Int32) : Bool := !decide (v < lo) && !decide (hi < v)
def prB (x : Int32) : Bool := (List.range 6).any (fun i => decide (x = nI (NUMf i)))
def ixx (k : Int32) : Nat := k.toNatClampNeg
def btOk (n : Nat) (v : Nat → LV) (k b : Int32) : Bool := lpOk n k && lpOk (lbc (v (ixx k))) b
def cd1 (a : Bool) : Nat := if a = false then 1 else 0
def cd2 (a b : Bool) : Nat := if a = false then 1 else if b = false then 2 else 0
def cd3 (a b c : Bool) : Nat := if a = false then 1 else if b = false then 2 else if c = false then 3 else 0
def exC (cat : List String) (cd : Nat) (E : String) : Prop := ∃ i, cd = i + 1 ∧ cat[i]? = some E
theorem ixx_nI {j : Nat} (h : j < 2 ^ 31) : ixx (nI j) = j := nI_clamp h
theorem rgOk_j {k : Int32} {n : Nat} (hn : n < 2 ^ 31) (h : rgOk k (nI n) = true) : ∃ j, j < n ∧ k = nI j := by
  unfold rgOk at h
  simp only [Bool.and_eq_true, Bool.not_eq_true', decide_eq_false_iff_not, decide_eq_true_eq] at h
  obtain ⟨j, hj, rfl⟩ := nI_of h.1
  exact ⟨j, (nI_ltI hj hn).mp h.2, rfl⟩
theorem lpOk_j {k : Int32} {n : Nat} (hn : n < 2 ^ 31) (h : lpOk n k = true) : ∃ j, j < n ∧ k = nI j := rgOk_j hn h
theorem inB_j {v : Int32} {lo hi : Nat} (hlo : lo < 2 ^ 31) (hhi : hi < 2 ^ 31) (h : inB (nI lo) (nI hi) v = true) : ∃ j, lo ≤ j ∧ j ≤ hi ∧ v = nI j := by
  unfold inB at h
  simp only [Bool.and_eq_true, Bool.not_eq_true', decide_eq_false_iff_not] at h
  have h0 : ¬ v < 0 := fun z => h.1 (by
    have hz : (0 : Int32) ≤ nI lo := nI_pos' hlo
    exact Int32.lt_of_lt_of_le z hz)
  obtain ⟨j, hj, rfl⟩ := nI_of h0
  refine ⟨j, ?_, ?_, rfl⟩
  · exact Nat.le_of_not_lt fun z => h.1 ((nI_ltI hj hlo).mpr z)
  · exact Nat.le_of_not_lt fun z => h.2 ((nI_ltI hhi hj).mpr z)
theorem prB_t {x : Int32} : prB x = true ↔ ∃ i, i < 6 ∧ x = nI (NUMf i) := by
  unfold prB
  simp only [List.any_eq_true, List.mem_range, decide_eq_true_eq]
theorem cd1_t {a : Bool} (h : a = true) : cd1 a = 0 := by rw [h]; rfl
theorem cd2_t {a b : Bool} (h : a = true) (h2 : b = true) : cd2 a b = 0 := by rw [h, h2]; rfl
theorem cd3_t {a b c : Bool} (h : a = true) (h2 : b = true) (h3 : c = true) : cd3 a b c = 0 := by rw [h, h2, h3]; rfl
theorem ex1 {a : Bool} {t : String} {r : List String} (h : a = false) : exC (t :: r) (cd1 a) t := ⟨0, by rw [h]; rfl, rfl⟩
theorem ex2a {a b : Bool} {t : String} {r : List String} (h : a = false) : exC (t :: r) (cd2 a b) t := ⟨0, by rw [h]; rfl, rfl⟩
theorem ex2b {a b : Bool} {t u : String} {r : List String} (h : a = true) (h2 : b = false) : exC (t :: u :: r) (cd2 a b) u := ⟨1, by rw [h, h2]; rfl, rfl⟩
theorem ex3a {a b c : Bool} {t : String} {r : List String} (h : a = false) : exC (t :: r) (cd3 a b c) t := ⟨0, by rw [h]; rfl, rfl⟩
theorem ex3b {a b c : Bool} {t u : String} {r : List String} (h : a = true) (h2 : b = false) : exC (t :: u :: r) (cd3 a b c) u := ⟨1, by rw [h, h2]; rfl, rfl⟩
theorem ex3c {a b c : Bool} {t u w : String} {r : List String} (h : a = true) (h2 : b = true) (h3 : c = false) : exC (t :: u :: w :: r) (cd3 a b c) w := ⟨2, by rw [h, h2, h3]; rfl, rfl⟩
theorem and_f1 {a b : Bool} (h : a = false) : (a && b) = false := by rw [h]; rfl
theorem and_f2 {a b : Bool} (h : b = false) : (a && b) = false := by rw [h]; cases a <;> rfl
theorem and_t {a b : Bool} (h : a = true) (h2 : b = true) : (a && b) = true := by rw [h, h2]; rfl
