/-! what the class's writes need: which cells, apart; the picture behind them -/
def AX (ad : Nat → Nat) : Nat → Prop := fun q => ∃ i, i < 29 ∧ q = ad i
def AJ (ad : Nat → Nat) (j : Nat) : Nat → Prop := fun q => q ∈ [ad 0, ad (2 + 3 * j), ad (3 + 3 * j), ad (4 + 3 * j)]
def Inj (N : Nat) (ad : Nat → Nat) : Prop := ∀ i j, i < N → j < N → ad i = ad j → i = j
def updv (v : Nat → LV) (j : Nat) (L : LV) : Nat → LV := fun i => if i = j then L else v i
def setOn (L : LV) (b : Bool) : LV := (lbc L, lnu L, lof L, b, lcv L)
def setCv (L : LV) (b : Bool) : LV := (lbc L, lnu L, lof L, lon L, b)
def setOf (L : LV) (i o : Nat) : LV := (lbc L, lnu L, fun z => if z = i then o else lof L z, lon L, lcv L)
theorem Inj.ne {N : Nat} {ad : Nat → Nat} (h : Inj N ad) {i j : Nat} (hi : i < N) (hj : j < N) (hn : i ≠ j) : ad i ≠ ad j := fun e => hn (h i j hi hj e)
theorem AJ_AX {ad : Nat → Nat} {j : Nat} (hj : j < 9) : ∀ q, AJ ad j q → AX ad q := by
  intro q h
  simp only [AJ, List.mem_cons, List.not_mem_nil, or_false] at h
  rcases h with rfl | rfl | rfl | rfl
  · exact ⟨0, by omega, rfl⟩
  · exact ⟨2 + 3 * j, by omega, rfl⟩
  · exact ⟨3 + 3 * j, by omega, rfl⟩
  · exact ⟨4 + 3 * j, by omega, rfl⟩
theorem AJ_lp {ad : Nat → Nat} {j : Nat} : ∀ q, q ∈ [ad (2 + 3 * j), ad (3 + 3 * j), ad (4 + 3 * j)] → AJ ad j q := fun q h => List.mem_cons_of_mem _ h
theorem AJ_no {ad : Nat → Nat} {j i : Nat} (h : Inj 29 ad) (hj : j < 9) (hi : i < 29) (h0 : i ≠ 0) (h2 : i ≠ 2 + 3 * j) (h3 : i ≠ 3 + 3 * j) (h4 : i ≠ 4 + 3 * j) : ¬ AJ ad j (ad i) := by
  intro q
  simp only [AJ, List.mem_cons, List.not_mem_nil, or_false] at q
  rcases q with q | q | q | q
  · exact h0 (h _ _ hi (by omega) q)
  · exact h2 (h _ _ hi (by omega) q)
  · exact h3 (h _ _ hi (by omega) q)
  · exact h4 (h _ _ hi (by omega) q)
theorem vd4 {ad : Nat → Nat} {j : Nat} {x y z w : va_E} (h : Inj 29 ad) (hj : j < 9) : va_D (AJ ad j) [(ad 0, x), (ad (2 + 3 * j), y), (ad (3 + 3 * j), z), (ad (4 + 3 * j), w)] := by
  have n1 := h.ne (i := 0) (j := 2 + 3 * j) (by omega) (by omega) (by omega)
  have n2 := h.ne (i := 0) (j := 3 + 3 * j) (by omega) (by omega) (by omega)
  have n3 := h.ne (i := 0) (j := 4 + 3 * j) (by omega) (by omega) (by omega)
  have n4 := h.ne (i := 2 + 3 * j) (j := 3 + 3 * j) (by omega) (by omega) (by omega)
  have n5 := h.ne (i := 2 + 3 * j) (j := 4 + 3 * j) (by omega) (by omega) (by omega)
  have n6 := h.ne (i := 3 + 3 * j) (j := 4 + 3 * j) (by omega) (by omega) (by omega)
  exact vdN (ws := [(ad 0, x), (ad (2 + 3 * j), y), (ad (3 + 3 * j), z), (ad (4 + 3 * j), w)]) (by simp [n1, n2, n3, n4, n5, n6])
theorem lpN3 {ad : Nat → Nat} {j : Nat} (h : Inj 29 ad) (hj : j < 9) : ad (2 + 3 * j) ≠ ad (3 + 3 * j) ∧ ad (2 + 3 * j) ≠ ad (4 + 3 * j) ∧ ad (3 + 3 * j) ≠ ad (4 + 3 * j) :=
  ⟨h.ne (by omega) (by omega) (by omega), h.ne (by omega) (by omega) (by omega), h.ne (by omega) (by omega) (by omega)⟩
theorem va_F_mono {A B : Nat → Prop} {s t : State} (h : va_F A s t) (hAB : ∀ q, A q → B q) : va_F B s t := ⟨h.1, fun q h1 h2 => h.2 q h1 (fun z => h2 (hAB q z))⟩
theorem PX_end {D : va_G} {cI cL : ClassId} {ad : Nat → Nat} {n now n' now' : Nat} {told told' : Int32} {v : Nat → LV} {H0 H : Heap} {locs : List Loc} {L' : LV} (hinj : Inj 29 ad) {j : Nat} (hj : j < 9) (h0 : PX D cI cL ad n now told v H0)
    (hP : va_P D vwCl ((ad 0, .inr (1, [.ref (ad 1), .ref (ad 26), .int (nI n'), .int (nI now'), .int told'])) :: lampW cI (ad (2 + 3 * j)) (ad (3 + 3 * j)) (ad (4 + 3 * j)) L') H) (hS : va_S (AJ ad j) H0 H locs) :
    PX D cI cL ad n' now' told' (updv v j L') H := by
  obtain ⟨h1, h2⟩ := h0
  have hk : ∀ i, i < 29 → i ≠ 0 → i ≠ 2 + 3 * j → i ≠ 3 + 3 * j → i ≠ 4 + 3 * j → ∀ e, va_at D vwCl (ad i, e) H0 → va_at D vwCl (ad i, e) H := fun i a b c d e' e h => h.kept (hS.2.1 _ h.lt (AJ_no hinj hj a b c d e'))
  refine ⟨vpc (hP 0 _ rfl) (vp1 (hk 1 (by omega) (by omega) (by omega) (by omega) (by omega) _ (h1 1 _ rfl))), fun i hi => ?_⟩
  by_cases e : i = j
  · subst e
    show va_P D vwCl (lampW cI (ad (2 + 3 * i)) (ad (3 + 3 * i)) (ad (4 + 3 * i)) (updv v i L' i)) H
    rw [show updv v i L' i = L' from if_pos rfl]
    exact fun k q hq => hP (k + 1) q hq
  · show va_P D vwCl (lampW cI (ad (2 + 3 * i)) (ad (3 + 3 * i)) (ad (4 + 3 * i)) (updv v j L' i)) H
    rw [show updv v j L' i = v i from if_neg e]
    have h3 := h2 i hi
    exact vpc (hk (2 + 3 * i) (by omega) (by omega) (by omega) (by omega) (by omega) _ (h3 0 _ rfl)) (vpc (hk (3 + 3 * i) (by omega) (by omega) (by omega) (by omega) (by omega) _ (h3 1 _ rfl)) (vp1 (hk (4 + 3 * i) (by omega) (by omega) (by omega) (by omega) (by omega) _ (h3 2 _ rfl))))
theorem addL_wf {k : Nat} {L : LV} {n o : Nat} (h : WFL k L) (hk : lbc L < k) (hp : isP n) (ho : o < n) : WFL k (addL L n o) := by
  refine ⟨hk, fun i hi => ?_⟩
  show isP (if i = lbc L then n else lnu L i) ∧ (if i = lbc L then o else lof L i) < (if i = lbc L then n else lnu L i)
  by_cases e : i = lbc L
  · rw [if_pos e, if_pos e]; exact ⟨hp, ho⟩
  · rw [if_neg e, if_neg e]
    have hi' : i < lbc L + 1 := hi
    exact h.2 i (by omega)
theorem appK_wf {m : Nat} {L O : LV} (hL : WFL m L) (hO : WFL m O) : ∀ k, k ≤ lbc O → lbc L + k ≤ m → WFL m (appK L O k)
  | 0, _, _ => hL
  | k + 1, hk, hm => by
    have ih := appK_wf hL hO k (by omega) (by omega)
    have := hO.2 k (by omega)
    exact addL_wf ih (by rw [appK_bc]; omega) this.1 this.2
theorem diffL_wf {Z A B : LV} (hA : WFL 4 A) (hB : WFL 4 B) : WFL 8 (diffL Z A B) := by
  have h1 : WFL 8 ((0, lnu Z, lof Z, lon A != lon B, lcv Z) : LV) := ⟨Nat.zero_le _, fun i hi => absurd hi (Nat.not_lt_zero i)⟩
  have hA4 := hA.1
  have hB4 := hB.1
  have h2 := appK_wf h1 hA.up (lbc A) (Nat.le_refl _) (by show 0 + lbc A ≤ 8; omega)
  exact appK_wf h2 hB.up (lbc B) (Nat.le_refl _) (by rw [appK_bc]; show 0 + lbc A + lbc B ≤ 8; omega)
def tldI (v : Nat → LV) (i j now : Nat) : Int32 := if onB (diffL (v 8) (v i) (v j)) now = true then nI 0 else untC (diffL (v 8) (v i) (v j)) now
def psN (v : Nat → LV) (n now k : Nat) : Nat := smN (fun s => chgN v n (now + (s + 1))) k
theorem psN_le (v : Nat → LV) {n : Nat} (hn : n ≤ 8) (now k : Nat) : psN v n now k ≤ k * 8 := smN_le (fun i => Nat.le_trans (cnt_le _ _) hn) k
theorem NUMf_lt (z : Nat) : NUMf z ≤ 13 := by
  unfold NUMf
  split <;> decide
theorem A0_AX {ad : Nat → Nat} : ∀ q, q ∈ [ad 0] → AX ad q := fun q h => by
  rw [List.mem_singleton.mp h]
  exact ⟨0, by omega, rfl⟩
theorem PX_now {D : va_G} {cI cL : ClassId} {ad : Nat → Nat} {n now n' now' : Nat} {told told' : Int32} {v : Nat → LV} {H0 H : Heap} {locs : List Loc} (hinj : Inj 29 ad) (h0 : PX D cI cL ad n now told v H0)
    (hP : va_P D vwCl [(ad 0, .inr (1, [.ref (ad 1), .ref (ad 26), .int (nI n'), .int (nI now'), .int told']))] H) (hS : va_S (fun q => q ∈ [ad 0]) H0 H locs) : PX D cI cL ad n' now' told' v H := by
  obtain ⟨h1, h2⟩ := h0
  have hk : ∀ i, i < 29 → i ≠ 0 → ∀ e, va_at D vwCl (ad i, e) H0 → va_at D vwCl (ad i, e) H := fun i hi h0 e h => h.kept (hS.2.1 _ h.lt (fun z => (hinj.ne hi (by omega) h0) (List.mem_singleton.mp z)))
  refine ⟨vpc (hP 0 _ rfl) (vp1 (hk 1 (by omega) (by omega) _ (h1 1 _ rfl))), fun i hi => ?_⟩
  have h3 := h2 i hi
  exact vpc (hk (2 + 3 * i) (by omega) (by omega) _ (h3 0 _ rfl)) (vpc (hk (3 + 3 * i) (by omega) (by omega) _ (h3 1 _ rfl)) (vp1 (hk (4 + 3 * i) (by omega) (by omega) _ (h3 2 _ rfl))))
theorem no8 {ad : Nat → Nat} (h : Inj 29 ad) {i : Nat} (hi : i < 8) : ∀ x ∈ [ad (2 + 3 * i), ad (3 + 3 * i), ad (4 + 3 * i)], ¬ x ∈ [ad 26, ad 27, ad 28] := by
  have key : ∀ a, 2 ≤ a → a < 26 → ¬ ad a ∈ [ad 26, ad 27, ad 28] := by
    intro a h2 h26 q
    simp only [List.mem_cons, List.not_mem_nil, or_false] at q
    rcases q with q | q | q
    · exact absurd (h _ _ (by omega) (by omega) q) (by omega)
    · exact absurd (h _ _ (by omega) (by omega) q) (by omega)
    · exact absurd (h _ _ (by omega) (by omega) q) (by omega)
  intro x hx
  simp only [List.mem_cons, List.not_mem_nil, or_false] at hx
  rcases hx with rfl | rfl | rfl
  · exact key _ (by omega) (by omega)
  · exact key _ (by omega) (by omega)
  · exact key _ (by omega) (by omega)
