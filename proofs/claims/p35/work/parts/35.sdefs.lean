/-! a lamp's row of beats anew -/
theorem va_S_mono {A B : Nat → Prop} {H0 H : Heap} {locs : List Loc} (h : va_S A H0 H locs) (hAB : ∀ q, A q → B q) : va_S B H0 H locs := ⟨h.1, fun q h1 h2 => h.2.1 q h1 (fun z => h2 (hAB q z)), fun q hq => hAB _ (h.2.2 q hq)⟩
section SRow
variable {D : va_G} {cI cZ cJ cB : ClassId} {as as' : Nat → Nat} {n now : Nat} {told : Int32} {v : Nat → LV} {H H1 : Heap} {j : Nat} {L' : LV}
theorem SP_row (hinj : InjS v as) (hj : j < 8) (hw4 : ∀ i, i < 8 → lbc (v i) ≤ 4) (hlon : lon L' = lon (v j)) (hlcv : lcv L' = lcv (v j)) (hs : ∀ u, u < 4 + 5 * j ∨ 9 + 5 * j ≤ u → as' u = as u) (h : SP D cI cZ cJ cB as n now told v H) (hk : ∀ q : Nat, q ≠ as 3 → H1[q]? = H[q]?)
    (h3 : va_at D vwCl (as 3, .inl (cB, 8, qA (va_up (fun i => some (as (4 + 5 * i))) j (some (as' (4 + 5 * j)))))) H1) (hrow : va_at D vwCl (as' (4 + 5 * j), .inl (cJ, lbc L', qA (fun i => some (as' (5 + 5 * j + i))))) H1)
    (hbts : ∀ i, i < lbc L' → va_at D vwCl (as' (5 + 5 * j + i), .inl (cI, 2, .inl (btF L' i))) H1) : SP D cI cZ cJ cB as' n now told (updv v j L') H1 := by
  have e0 : as' 0 = as 0 := hs 0 (by omega)
  have e1 : as' 1 = as 1 := hs 1 (by omega)
  have e2 : as' 2 = as 2 := hs 2 (by omega)
  have e3 : as' 3 = as 3 := hs 3 (by omega)
  have hne : ∀ u, Us v u → u ≠ 3 → as u ≠ as 3 := fun u hu h0 e => h0 (hinj u 3 hu (Us.lo (by decide)) e)
  have ejj : updv v j L' j = L' := if_pos rfl
  have ej : ∀ i, i ≠ j → updv v j L' i = v i := fun i hi => if_neg hi
  refine ⟨fun k q hq => ?_, fun i hi => ?_⟩
  · match k, hq with
    | 0, hq =>
      cases hq
      rw [e0, e1, e2, e3]
      exact (h.1 0 _ rfl).kept (hk _ (hne 0 (Us.lo (by decide)) (by decide)))
    | 1, hq =>
      cases hq
      have e : (fun i => bI (lon (updv v j L' i))) = fun i => bI (lon (v i)) := by
        funext i
        by_cases hi : i = j
        · rw [hi, ejj, hlon]
        · rw [ej i hi]
      rw [e, e1]
      exact (h.1 1 _ rfl).kept (hk _ (hne 1 (Us.lo (by decide)) (by decide)))
    | 2, hq =>
      cases hq
      have e : (fun i => bI (lcv (updv v j L' i))) = fun i => bI (lcv (v i)) := by
        funext i
        by_cases hi : i = j
        · rw [hi, ejj, hlcv]
        · rw [ej i hi]
      rw [e, e2]
      exact (h.1 2 _ rfl).kept (hk _ (hne 2 (Us.lo (by decide)) (by decide)))
    | 3, hq =>
      cases hq
      have e : (fun i => some (as' (4 + 5 * i))) = va_up (fun i => some (as (4 + 5 * i))) j (some (as' (4 + 5 * j))) := by
        funext i
        unfold va_up
        by_cases hi : i = j
        · rw [if_pos hi, hi]
        · rw [if_neg hi, hs _ (by omega)]
      rw [e, e3]
      exact h3
  · by_cases hij : i = j
    · subst hij
      unfold sRow sBt
      rw [ejj]
      exact ⟨hrow, hbts⟩
    · obtain ⟨hr, hb⟩ := h.2 i hi
      have h4 := hw4 i hi
      refine ⟨?_, fun b hb' => ?_⟩
      · show H1[as' (4 + 5 * i)]? = some (arrV cJ (lbc (updv v j L' i)) (fun x => va_rf (some (as' (5 + 5 * i + x)))))
        rw [ej i hij, hs _ (by omega), arrV_congr (g := fun x => va_rf (some (as (5 + 5 * i + x)))) (fun x hx => by rw [hs _ (by omega)])]
        exact hr.kept (hk _ (hne _ (Us.row hi) (by omega)))
      · rw [ej i hij] at hb'
        show va_at D vwCl (as' (5 + 5 * i + b), .inl (cI, 2, .inl (btF (updv v j L' i) b))) H1
        rw [ej i hij, hs _ (by omega)]
        exact (hb b hb').kept (hk _ (hne _ (Us.bt hi hb') (by omega)))
end SRow
/-- the row of beats while it is copied -/
def pfx (as : Nat → Nat) (j i : Nat) : Nat → Option Nat := fun x => if x < i then some (as (5 + 5 * j + x)) else none
theorem pfx_0 (as : Nat → Nat) (j : Nat) : pfx as j 0 = fun _ => none := funext fun x => if_neg (Nat.not_lt_zero x)
theorem pfx_s (as : Nat → Nat) (j i : Nat) : va_up (pfx as j i) i (some (as (5 + 5 * j + i))) = pfx as j (i + 1) := by
  funext x
  unfold va_up pfx
  by_cases h : x = i
  · subst h; rw [if_pos rfl, if_pos (by omega)]
  · rw [if_neg h]
    by_cases h2 : x < i
    · rw [if_pos h2, if_pos (by omega)]
    · rw [if_neg h2, if_neg (by omega)]
def bsk (b i : Nat) : Nat := if i < b then i else i + 1
def pfy (as : Nat → Nat) (j b i : Nat) : Nat → Option Nat := fun x => if x < i then some (as (5 + 5 * j + bsk b x)) else none
theorem pfy_0 (as : Nat → Nat) (j b : Nat) : pfy as j b 0 = fun _ => none := funext fun x => if_neg (Nat.not_lt_zero x)
theorem pfy_s (as : Nat → Nat) (j b i : Nat) : va_up (pfy as j b i) i (some (as (5 + 5 * j + bsk b i))) = pfy as j b (i + 1) := by
  funext x
  unfold va_up pfy
  by_cases h : x = i
  · subst h; rw [if_pos rfl, if_pos (by omega)]
  · rw [if_neg h]
    by_cases h2 : x < i
    · rw [if_pos h2, if_pos (by omega)]
    · rw [if_neg h2, if_neg (by omega)]
/-- the addresses behind a beat more; behind one less -/
def asA (as : Nat → Nat) (j k z y : Nat) : Nat → Nat := fun u => if u = 4 + 5 * j then z else if u = 5 + 5 * j + k then y else as u
def asT (as : Nat → Nat) (j b z : Nat) : Nat → Nat := fun u => if u = 4 + 5 * j then z else if 5 + 5 * j + b ≤ u ∧ u < 9 + 5 * j then as (u + 1) else as u
theorem asT_bt {as : Nat → Nat} {j b z x : Nat} (hx : x < 4) : asT as j b z (5 + 5 * j + x) = as (5 + 5 * j + bsk b x) := by
  unfold asT bsk
  rw [if_neg (by omega)]
  by_cases e : x < b
  · rw [if_pos e, if_neg (by omega)]
  · rw [if_neg e, if_pos (by omega), show 5 + 5 * j + (x + 1) = 5 + 5 * j + x + 1 by omega]
theorem Us_upd {v : Nat → LV} {j : Nat} {L' : LV} {u : Nat} (h : Us (updv v j L') u) : (u < 4 + 5 * j ∨ 9 + 5 * j ≤ u) ∧ Us v u ∨ u = 4 + 5 * j ∨ (∃ i, i < lbc L' ∧ u = 5 + 5 * j + i) ∨ ∃ k i, k ≠ j ∧ k < 8 ∧ i < lbc (v k) ∧ u = 5 + 5 * k + i := by
  rcases h with h | ⟨k, hk, h | ⟨i, hi, h⟩⟩
  · exact Or.inl ⟨Or.inl (by omega), Or.inl h⟩
  · by_cases e : k = j
    · exact Or.inr (Or.inl (by rw [h, e]))
    · exact Or.inl ⟨by omega, Or.inr ⟨k, hk, Or.inl h⟩⟩
  · by_cases e : k = j
    · subst e
      rw [show updv v k L' k = L' from if_pos rfl] at hi
      exact Or.inr (Or.inr (Or.inl ⟨i, hi, h⟩))
    · rw [show updv v j L' k = v k from if_neg e] at hi
      exact Or.inr (Or.inr (Or.inr ⟨k, i, e, hk, hi, h⟩))
theorem Us_upd4 {v : Nat → LV} {j : Nat} {L' : LV} {u : Nat} (hw4 : ∀ i, i < 8 → lbc (v i) ≤ 4) (h : Us (updv v j L') u) : (u < 4 + 5 * j ∨ 9 + 5 * j ≤ u) ∧ Us v u ∨ u = 4 + 5 * j ∨ ∃ i, i < lbc L' ∧ u = 5 + 5 * j + i := by
  rcases Us_upd h with h | h | h | ⟨k, i, e, hk, hi, h⟩
  · exact Or.inl h
  · exact Or.inr (Or.inl h)
  · exact Or.inr (Or.inr h)
  · have := hw4 k hk
    exact Or.inl ⟨by omega, Or.inr ⟨k, hk, Or.inr ⟨i, hi, h⟩⟩⟩
section SAdd
variable {as : Nat → Nat} {v : Nat → LV} {j z y sz num o b : Nat}
theorem asA_src (hj : j < 8) (hw4 : ∀ i, i < 8 → lbc (v i) ≤ 4) (h4 : lbc (v j) < 4) (hz : sz ≤ z) (hy : sz ≤ y) : ∀ u, Us (updv v j (addL (v j) num o)) u → (Us v u ∧ asA as j (lbc (v j)) z y u = as u) ∨ (u = 4 + 5 * j ∧ asA as j (lbc (v j)) z y u = z) ∨ (u = 5 + 5 * j + lbc (v j) ∧ asA as j (lbc (v j)) z y u = y) := by
  intro u hu
  unfold asA
  rcases Us_upd4 hw4 hu with ⟨h, h2⟩ | h | ⟨i, hi, h⟩
  · exact Or.inl ⟨h2, by rw [if_neg (by omega), if_neg (by omega)]⟩
  · exact Or.inr (Or.inl ⟨h, if_pos h⟩)
  · have hi' : i < lbc (v j) + 1 := hi
    by_cases e : i = lbc (v j)
    · exact Or.inr (Or.inr ⟨by rw [h, e], by rw [if_neg (by omega), if_pos (by omega)]⟩)
    · exact Or.inl ⟨by rw [h]; exact Us.bt hj (by omega), by rw [if_neg (by omega), if_neg (by omega)]⟩
theorem asA_inj (hinj : InjS v as) (hlt : ∀ u, Us v u → as u < sz) (hj : j < 8) (hw4 : ∀ i, i < 8 → lbc (v i) ≤ 4) (h4 : lbc (v j) < 4) (hz : sz ≤ z) (hy : sz ≤ y) (hzy : z ≠ y) : InjS (updv v j (addL (v j) num o)) (asA as j (lbc (v j)) z y) := by
  intro x w hx hw e
  rcases asA_src (as := as) (num := num) (o := o) hj hw4 h4 hz hy x hx with ⟨a1, a2⟩ | ⟨a1, a2⟩ | ⟨a1, a2⟩ <;> rcases asA_src (as := as) (num := num) (o := o) hj hw4 h4 hz hy w hw with ⟨b1, b2⟩ | ⟨b1, b2⟩ | ⟨b1, b2⟩ <;> rw [a2, b2] at e
  · exact hinj x w a1 b1 e
  · have := hlt x a1; omega
  · have := hlt x a1; omega
  · have := hlt w b1; omega
  · omega
  · exact absurd e hzy
  · have := hlt w b1; omega
  · exact absurd e.symm hzy
  · omega
theorem asT_src (hj : j < 8) (hw4 : ∀ i, i < 8 → lbc (v i) ≤ 4) (hb : b < lbc (v j)) (hz : sz ≤ z) : ∀ u, Us (updv v j (remL (v j) b)) u → (∃ w, Us v w ∧ asT as j b z u = as w ∧ ((u < 5 + 5 * j + b ∨ 9 + 5 * j ≤ u) ∧ w = u ∨ 5 + 5 * j + b ≤ u ∧ u + 1 < 9 + 5 * j ∧ w = u + 1) ∧ w ≠ 4 + 5 * j) ∨ (u = 4 + 5 * j ∧ asT as j b z u = z) := by
  intro u hu
  have h4 := hw4 j hj
  unfold asT
  rcases Us_upd4 hw4 hu with ⟨h, h2⟩ | h | ⟨i, hi, h⟩
  · exact Or.inl ⟨u, h2, by rw [if_neg (by omega), if_neg (by omega)], Or.inl ⟨by omega, rfl⟩, by omega⟩
  · exact Or.inr ⟨h, if_pos h⟩
  · have hi' : i < lbc (v j) - 1 := hi
    by_cases e : i < b
    · exact Or.inl ⟨u, by rw [h]; exact Us.bt hj (by omega), by rw [if_neg (by omega), if_neg (by omega)], Or.inl ⟨by omega, rfl⟩, by omega⟩
    · exact Or.inl ⟨u + 1, by rw [h, show 5 + 5 * j + i + 1 = 5 + 5 * j + (i + 1) by omega]; exact Us.bt hj (by omega), by rw [if_neg (by omega), if_pos (by omega)], Or.inr ⟨by omega, by omega, rfl⟩, by omega⟩
theorem asT_inj (hinj : InjS v as) (hlt : ∀ u, Us v u → as u < sz) (hj : j < 8) (hw4 : ∀ i, i < 8 → lbc (v i) ≤ 4) (hb : b < lbc (v j)) (hz : sz ≤ z) : InjS (updv v j (remL (v j) b)) (asT as j b z) := by
  intro x w hx hw e
  rcases asT_src (as := as) hj hw4 hb hz x hx with ⟨x', a1, a2, a3, a4⟩ | ⟨a1, a2⟩ <;> rcases asT_src (as := as) hj hw4 hb hz w hw with ⟨w', b1, b2, b3, b4⟩ | ⟨b1, b2⟩ <;> rw [a2, b2] at e
  · have := hinj x' w' a1 b1 e
    omega
  · have := hlt x' a1; omega
  · have := hlt w' b1; omega
  · omega
end SAdd
