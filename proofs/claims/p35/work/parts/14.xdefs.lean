/-! the class's picture: its object, the row of lamps, nine lamps (the ninth by which two are compared) -/
abbrev xW (cL : ClassId) (ad : Nat → Nat) (n now : Nat) (told : Int32) : va_W := [(ad 0, .inr (1, [.ref (ad 1), .ref (ad 26), .int (nI n), .int (nI now), .int told])), (ad 1, .inl (cL, 8, .inr (.inr (.inr (.inr (fun j => some (ad (2 + 3 * j))))))))]
abbrev lpW (cI : ClassId) (ad : Nat → Nat) (v : Nat → LV) (j : Nat) : va_W := lampW cI (ad (2 + 3 * j)) (ad (3 + 3 * j)) (ad (4 + 3 * j)) (v j)
def PX (D : va_G) (cI cL : ClassId) (ad : Nat → Nat) (n now : Nat) (told : Int32) (v : Nat → LV) (H : Heap) : Prop := va_P D vwCl (xW cL ad n now told) H ∧ ∀ j, j < 9 → va_P D vwCl (lpW cI ad v j) H
def WFX (n now : Nat) (v : Nat → LV) : Prop := n ≤ 8 ∧ now ≤ 2 ^ 20 ∧ ∀ j, j < 8 → WFL 4 (v j)
theorem WFL.up {L : LV} (h : WFL 4 L) : WFL 8 L := ⟨Nat.le_trans h.1 (by decide), h.2⟩
/-- what is refused -/
def rgOk (k m : Int32) : Bool := !decide (k < 0) && decide (k < m)
def lpOk (n : Nat) (k : Int32) : Bool := rgOk k (nI n)
def inB (lo hi v : Int32) : Bool := !decide (v < lo) && !decide (hi < v)
def prB (x : Int32) : Bool := (List.range 6).any (fun i => decide (x = nI (NUMf i)))
def ixx (k : Int32) : Nat := k.toNatClampNeg
def btOk (n : Nat) (v : Nat → LV) (k b : Int32) : Bool := lpOk n k && lpOk (lbc (v (ixx k))) b
def cd1 (a : Bool) : Nat := if a = false then 1 else 0
def cd2 (a b : Bool) : Nat := if a = false then 1 else if b = false then 2 else 0
def cd3 (a b c : Bool) : Nat := if a = false then 1 else if b = false then 2 else if c = false then 3 else 0
def exC (cat : List String) (cd : Nat) (E : String) : Prop := ∃ i, cd = i + 1 ∧ cat[i]? = some E
theorem ixx_nI {j : Nat} (h : j < 2 ^ 31) : ixx (nI j) = j := nI_clamp h
theorem rgOk_j {k : Int32} {n : Nat} (hn : n < 2 ^ 31) (h : rgOk k (nI n) = true) : ∃ j, j < n ∧ k = nI j := by
  unfold rgOk at h
  simp only [Bool.and_eq_true, Bool.not_eq_true', decide_eq_false_iff_not, decide_eq_true_eq] at h
  obtain ⟨j, hj, rfl⟩ := nI_of h.1
  exact ⟨j, (nI_ltI hj hn).mp h.2, rfl⟩
theorem lpOk_j {k : Int32} {n : Nat} (hn : n < 2 ^ 31) (h : lpOk n k = true) : ∃ j, j < n ∧ k = nI j := rgOk_j hn h
theorem inB_j {v : Int32} {lo hi : Nat} (hlo : lo < 2 ^ 31) (hhi : hi < 2 ^ 31) (h : inB (nI lo) (nI hi) v = true) : ∃ j, lo ≤ j ∧ j ≤ hi ∧ v = nI j := by
  unfold inB at h
  simp only [Bool.and_eq_true, Bool.not_eq_true', decide_eq_false_iff_not] at h
  have h0 : ¬ v < 0 := fun z => h.1 (by
    have hz : (0 : Int32) ≤ nI lo := nI_pos' hlo
    exact Int32.lt_of_lt_of_le z hz)
  obtain ⟨j, hj, rfl⟩ := nI_of h0
  refine ⟨j, ?_, ?_, rfl⟩
  · exact Nat.le_of_not_lt fun z => h.1 ((nI_ltI hj hlo).mpr z)
  · exact Nat.le_of_not_lt fun z => h.2 ((nI_ltI hhi hj).mpr z)
theorem prB_t {x : Int32} : prB x = true ↔ ∃ i, i < 6 ∧ x = nI (NUMf i) := by
  unfold prB
  simp only [List.any_eq_true, List.mem_range, decide_eq_true_eq]
theorem cd1_t {a : Bool} (h : a = true) : cd1 a = 0 := by rw [h]; rfl
theorem cd2_t {a b : Bool} (h : a = true) (h2 : b = true) : cd2 a b = 0 := by rw [h, h2]; rfl
theorem cd3_t {a b c : Bool} (h : a = true) (h2 : b = true) (h3 : c = true) : cd3 a b c = 0 := by rw [h, h2, h3]; rfl
theorem ex1 {a : Bool} {t : String} {r : List String} (h : a = false) : exC (t :: r) (cd1 a) t := ⟨0, by rw [h]; rfl, rfl⟩
theorem ex2a {a b : Bool} {t : String} {r : List String} (h : a = false) : exC (t :: r) (cd2 a b) t := ⟨0, by rw [h]; rfl, rfl⟩
theorem ex2b {a b : Bool} {t u : String} {r : List String} (h : a = true) (h2 : b = false) : exC (t :: u :: r) (cd2 a b) u := ⟨1, by rw [h, h2]; rfl, rfl⟩
theorem ex3a {a b c : Bool} {t : String} {r : List String} (h : a = false) : exC (t :: r) (cd3 a b c) t := ⟨0, by rw [h]; rfl, rfl⟩
theorem ex3b {a b c : Bool} {t u : String} {r : List String} (h : a = true) (h2 : b = false) : exC (t :: u :: r) (cd3 a b c) u := ⟨1, by rw [h, h2]; rfl, rfl⟩
theorem ex3c {a b c : Bool} {t u w : String} {r : List String} (h : a = true) (h2 : b = true) (h3 : c = false) : exC (t :: u :: w :: r) (cd3 a b c) w := ⟨2, by rw [h, h2, h3]; rfl, rfl⟩
theorem and_f1 {a b : Bool} (h : a = false) : (a && b) = false := by rw [h]; rfl
theorem and_f2 {a b : Bool} (h : b = false) : (a && b) = false := by rw [h]; cases a <;> rfl
theorem and_t {a b : Bool} (h : a = true) (h2 : b = true) : (a && b) = true := by rw [h, h2]; rfl
/-! what is told of all lamps -/
theorem cnt_le (f : Nat → Bool) : ∀ k, cnt f k ≤ k
  | 0 => Nat.le_refl 0
  | k + 1 => by
    have := cnt_le f k
    simp only [cnt]
    split <;> omega
theorem cnt_t {f : Nat → Bool} {k : Nat} (h : f k = true) : cnt f (k + 1) = cnt f k + 1 := by simp [cnt, h]
theorem cnt_f {f : Nat → Bool} {k : Nat} (h : f k = false) : cnt f (k + 1) = cnt f k := by simp [cnt, h]
theorem cnt_mono (f : Nat → Bool) {a b : Nat} (h : a ≤ b) : cnt f a ≤ cnt f b := by
  induction b with
  | zero => rw [Nat.le_zero.mp h]; exact Nat.le_refl _
  | succ b ih =>
    rcases Nat.lt_or_ge a (b + 1) with q | q
    · refine Nat.le_trans (ih (by omega)) ?_
      simp only [cnt]
      split <;> omega
    · rw [show a = b + 1 by omega]; exact Nat.le_refl _
theorem cnt_congr {f g : Nat → Bool} : ∀ (k : Nat), (∀ i, i < k → f i = g i) → cnt f k = cnt g k
  | 0, _ => rfl
  | k + 1, h => by
    simp only [cnt]
    rw [cnt_congr k (fun i hi => h i (by omega)), h k (by omega)]
/-- the sum of the first k -/
def smN (f : Nat → Nat) : Nat → Nat
  | 0 => 0
  | k + 1 => smN f k + f k
theorem smN_le {f : Nat → Nat} {m : Nat} (h : ∀ i, f i ≤ m) : ∀ k, smN f k ≤ k * m
  | 0 => Nat.zero_le _
  | k + 1 => by
    have := smN_le h k
    have := h k
    simp only [smN]
    rw [Nat.succ_mul]
    omega
def chgN (v : Nat → LV) (n t : Nat) : Nat := cnt (fun j => chgB (v j) t) n
def litN (v : Nat → LV) (n t : Nat) : Nat := cnt (fun j => litB (v j) t) n
/-- lit, but for the lamp x -/
def ltB (v : Nat → LV) (x : Int32) (t j : Nat) : Bool := !decide (nI j = x) && litB (v j) t
def ltN (v : Nat → LV) (n : Nat) (x : Int32) (t : Nat) : Nat := cnt (ltB v x t) n
def dkB (v : Nat → LV) (n : Nat) (x : Int32) (t : Nat) : Bool := decide (ltN v n x t = 0)
def dkN (v : Nat → LV) (n now : Nat) (x : Int32) (k : Nat) : Nat := cnt (fun s => dkB v n x (now + (s + 1))) k
def colB (v : Nat → LV) (a b t : Nat) : Bool := chgB (v a) t && chgB (v b) t
theorem ltN_all {v : Nat → LV} {n : Nat} (hn : n ≤ 8) (t : Nat) : ltN v n (-1) t = litN v n t := by
  refine cnt_congr n (fun i hi => ?_)
  unfold ltB
  have : ∀ i, i < 8 → ¬ nI i = -1 := by decide
  rw [decide_eq_false (this i (by omega))]
  rfl
/-- the cycle of what is shown -/
def shwN (L : LV) (t : Nat) : Nat → Nat
  | 0 => 0
  | k + 1 => 2 * shwN L t k + (if onB L (t + k) = true then 1 else 0)
theorem shwN_lt (L : LV) (t : Nat) : ∀ k, shwN L t k < 2 ^ k
  | 0 => by simp [shwN]
  | k + 1 => by
    have h := shwN_lt L t k
    simp only [shwN]
    rw [Nat.pow_succ]
    split <;> omega
/-- the brightest of the steps 1 .. k -/
def brtN (v : Nat → LV) (n now : Nat) : Nat → Nat
  | 0 => 1
  | k + 1 => if litN v n (now + brtN v n now k) < litN v n (now + (k + 1)) then k + 1 else brtN v n now k
/-- the best cover of the first k lamps, and how many dark moments it leaves: none, if all are covered -/
def bcvN (v : Nat → LV) (n now m : Nat) : Nat → Option (Nat × Nat)
  | 0 => none
  | k + 1 => if lcv (v k) = true then bcvN v n now m k else
      match bcvN v n now m k with
      | none => some (k, dkN v n now (nI k) m)
      | some (b, d) => if d < dkN v n now (nI k) m then some (k, dkN v n now (nI k) m) else some (b, d)
def oI1 (o : Option (Nat × Nat)) : Int32 := match o with
  | none => -1
  | some q => nI q.1
def oI2 (o : Option (Nat × Nat)) : Int32 := match o with
  | none => -1
  | some q => nI q.2
def btsN (v : Nat → LV) (n : Nat) : Nat := smN (fun j => lbc (v j)) n
theorem btOk_j {n : Nat} {v : Nat → LV} {k b : Int32} (hn : n ≤ 8) (hw : ∀ j, j < 8 → WFL 4 (v j)) (h : btOk n v k b = true) : ∃ j i, j < n ∧ i < lbc (v j) ∧ k = nI j ∧ b = nI i := by
  unfold btOk at h
  simp only [Bool.and_eq_true] at h
  obtain ⟨j, hj, rfl⟩ := lpOk_j (by omega) h.1
  rw [ixx_nI (by omega)] at h
  have := (hw j (by omega)).1
  obtain ⟨i, hi, rfl⟩ := lpOk_j (by omega) h.2
  exact ⟨j, i, hj, hi, rfl, rfl⟩
def bJ (b : Bool) : Int64 := if b = true then 1 else 0
def mxL (d x : Int64) : Int64 := d * 31 + x
def dg1 (L : LV) (d : Int64) : Int64 := mxL d (nI (lbc L)).toInt64
def dg2 (L : LV) (d : Int64) : Int64 := mxL (dg1 L d) (bJ (lcv L))
def dg3 (L : LV) (now : Nat) (d : Int64) : Int64 := mxL (dg2 L d) (bJ (onB L now))
def dg4 (L : LV) (now : Nat) (d : Int64) : Int64 := mxL (dg3 L now d) (bJ (decide (cyc L = 1)))
def dg5 (L : LV) (now : Nat) (d : Int64) : Int64 := mxL (dg4 L now d) (nI (cyc L)).toInt64
def dg6 (L : LV) (now : Nat) (d : Int64) : Int64 := mxL (dg5 L now d) (untC L now).toInt64
def dgB (L : LV) (d : Int64) : Nat → Int64
  | 0 => d
  | k + 1 => mxL (mxL (dgB L d k) (nI (lnu L k)).toInt64) (nI (lof L k)).toInt64
def dgP (L : LV) (now : Nat) (d : Int64) : Int64 := dgB L (dg6 L now d) (lbc L)
def dgK (v : Nat → LV) (now : Nat) (d : Int64) : Nat → Int64
  | 0 => d
  | k + 1 => dgP (v k) now (dgK v now d k)
def dgA (n now : Nat) (told : Int32) (v : Nat → LV) : Int64 := mxL (mxL (mxL (mxL 1889 (nI n).toInt64) (nI now).toInt64) told.toInt64) (nI (litN v n now)).toInt64
def dgst (n now : Nat) (told : Int32) (v : Nat → LV) : Int64 := dgK v now (dgA n now told v) n
def meanF (s n : Nat) : UInt64 := if n = 0 then FP.dconst0 else FP.ddiv (FP.i2d (nI s)) (FP.i2d (nI n))
def QDb (r : UInt64) : Array Value → State → Outcome → State → Prop := fun _ st o t => o = .returned (some (.double r)) ∧ t.heap = st.heap
theorem n_tl {p : Program} {l : Launch} {e : Env} {R : Room} {s : State} {m : MethodId} {args : Array Value} {below : List Frame} {meth : Method} {c : Code} {H : Heap} {locs : List Loc} {cells slots : Nat} {Q : State → Prop} {pc : Nat} {ls : Array Slot} {rest : List Value} {x y : Int64} (h : x = y) (k : W p l e R s m args below meth c H locs cells slots Q (F0 m pc ls (.long y :: rest))) : W p l e R s m args below meth c H locs cells slots Q (F0 m pc ls (.long x :: rest)) := by
  subst h; exact k
theorem cd2_0 {a b : Bool} (h : cd2 a b = 0) : a = true ∧ b = true := by revert h; cases a <;> cases b <;> decide
theorem pair_ok {n : Nat} {k q : Int32} (h : cd2 (lpOk n k && lpOk n q) (decide (¬ k = q)) = 0) : (lpOk n k && lpOk n q) = true ∧ decide (¬ k = q) = true := cd2_0 h
theorem pair_j {n : Nat} {k q : Int32} (hn : n ≤ 8) (h : cd2 (lpOk n k && lpOk n q) (decide (¬ k = q)) = 0) : ∃ i j, i < n ∧ j < n ∧ ¬ i = j ∧ k = nI i ∧ q = nI j := by
  obtain ⟨h1, h2⟩ := cd2_0 h
  simp only [Bool.and_eq_true] at h1
  obtain ⟨i, hi, rfl⟩ := lpOk_j (by omega) h1.1
  obtain ⟨j, hj, rfl⟩ := lpOk_j (by omega) h1.2
  exact ⟨i, j, hi, hj, fun z => (of_decide_eq_true h2) (by rw [z]), rfl, rfl⟩
theorem exP {n : Nat} {k q : Int32} {c : Bool} {E : String} {t u : String} (h : exC [t, u] (cd2 (lpOk n k && lpOk n q) (decide (¬ k = q))) E) : exC [t, u] (cd2 (lpOk n k && lpOk n q) (decide (¬ k = q) && c)) E := by
  revert h
  cases lpOk n k && lpOk n q
  · exact fun h => h
  · cases decide (¬ k = q)
    · exact fun h => h
    · rintro ⟨i, h, -⟩
      exact absurd h (by simp [cd2])
theorem brtN_1 {v : Nat → LV} {n now : Nat} : brtN v n now 1 = 1 := by
  show (if litN v n (now + brtN v n now 0) < litN v n (now + (0 + 1)) then 0 + 1 else brtN v n now 0) = 1
  split <;> rfl
theorem bcvN_bd {v : Nat → LV} {n now m : Nat} : ∀ k, ∀ q, bcvN v n now m k = some q → q.1 < k ∧ q.2 ≤ m
  | 0, q, h => by cases h
  | k + 1, q, h => by
    have ih := bcvN_bd (v := v) (n := n) (now := now) (m := m) k
    simp only [bcvN] at h
    split at h
    · have := ih q h
      exact ⟨by omega, this.2⟩
    · split at h
      · cases h
        exact ⟨by omega, cnt_le _ _⟩
      · rename_i b d hb
        have := ih _ hb
        split at h
        · cases h
          exact ⟨by omega, cnt_le _ _⟩
        · cases h
          exact ⟨by have := this.1; simp at this; omega, this.2⟩
theorem bcv_le {v : Nat → LV} {n now m k : Nat} (hm : m < 2 ^ 31) (hc : lcv (v k) = false) (h : nI (dkN v n now (nI k) m) ≤ oI2 (bcvN v n now m k)) : bcvN v n now m (k + 1) = bcvN v n now m k := by
  simp only [bcvN]
  rw [if_neg (by rw [hc]; decide)]
  have hd : dkN v n now (nI k) m ≤ m := cnt_le _ _
  split
  · rename_i h0
    rw [h0] at h
    exact absurd (show (0 : Int32) ≤ -1 from Int32.le_trans (nI_pos' (by omega)) h) (by decide)
  · rename_i b d h0
    rw [h0] at h
    have hb := (bcvN_bd k _ h0).2
    have : dkN v n now (nI k) m ≤ d := (nI_leI (by omega) (by simp at hb; omega)).mp h
    rw [if_neg (by omega), h0]
theorem bcv_gt {v : Nat → LV} {n now m k : Nat} (hm : m < 2 ^ 31) (hc : lcv (v k) = false) (h : ¬ nI (dkN v n now (nI k) m) ≤ oI2 (bcvN v n now m k)) : bcvN v n now m (k + 1) = some (k, dkN v n now (nI k) m) := by
  simp only [bcvN]
  rw [if_neg (by rw [hc]; decide)]
  have hd : dkN v n now (nI k) m ≤ m := cnt_le _ _
  split
  · rfl
  · rename_i b d h0
    rw [h0] at h
    have hb := (bcvN_bd k _ h0).2
    have : ¬ dkN v n now (nI k) m ≤ d := fun z => h ((nI_leI (by omega) (by simp at hb; omega)).mpr z)
    rw [if_pos (by omega)]
theorem btsN_le {v : Nat → LV} (hw : ∀ j, j < 8 → WFL 4 (v j)) : ∀ k, k ≤ 8 → btsN v k ≤ k * 4
  | 0, _ => Nat.zero_le _
  | k + 1, h => by
    have ih := btsN_le hw k (by omega)
    have := (hw k (by omega)).1
    have e : btsN v (k + 1) = btsN v k + lbc (v k) := rfl
    omega
theorem meanOK {s n : Nat} (hs : s ≤ 32) (h0 : 0 < n) (hn : n ≤ 8) : vf_n64 (FP.ddiv (FP.i2d (nI s)) (FP.i2d (nI n))) := by
  have : ∀ s, s < 33 → ∀ n, n < 9 → 0 < n → (FP.ddiv (FP.i2d (nI s)) (FP.i2d (nI n))) &&& 0x7fffffffffffffff ≤ 0x7ff0000000000000 := by decide +kernel
  exact this s (by omega) n (by omega) h0
