theorem cd2_lt (a b : Bool) : cd2 a b < 2 ^ 31 := by cases a <;> cases b <;> decide
theorem mrI_0 {cd : Nat} {x : Int32} (h : 0 < cd) : mrI cd x = nI 0 := if_neg (by omega)
theorem cd2_pos {a b c : Bool} (h : 0 < cd2 a b) : cd2 a (b && c) = cd2 a b := by
  revert h
  cases a
  · exact fun _ => rfl
  · cases b
    · exact fun _ => rfl
    · exact fun h => absurd h (by decide)
theorem brtN_le {v : Nat → LV} {n now : Nat} : ∀ r, brtN v n now r ≤ r + 1
  | 0 => Nat.le_refl 1
  | r + 1 => by
    have ih := brtN_le (v := v) (n := n) (now := now) r
    simp only [brtN]
    split <;> omega
theorem updB (f : Nat → Bool) (k : Nat) (b : Bool) : upd (fun i => bI (f i)) k (bI b) = fun i => bI (if i = k then b else f i) := by
  funext j
  unfold upd
  split <;> rfl
theorem updv_g {α : Type} (g : LV → α) (v : Nat → LV) (j : Nat) (L : LV) (i : Nat) : g (updv v j L i) = if i = j then g L else g (v i) := by
  unfold updv
  split <;> rfl
theorem updv_s {α : Type} (g : LV → α) {v : Nat → LV} {j : Nat} {L : LV} (h : g L = g (v j)) (i : Nat) : g (v i) = g (updv v j L i) := by
  rw [updv_g g]
  split
  · rename_i e; rw [e, h]
  · rfl
theorem updv_j (v : Nat → LV) (j : Nat) (L : LV) : updv v j L j = L := if_pos rfl
theorem updv_n {v : Nat → LV} {j i : Nat} {L : LV} (h : ¬ i = j) : updv v j L i = v i := if_neg h
/-- a place of number, offset that is written -/
theorem num_set {v : Nat → LV} {j i x : Nat} {L : LV} (g : LV → Nat → Nat) (hi : i < 4) (h : ∀ t, g L t = if t = i then x else g (v j) t) (z : Nat) : (if z = 4 * j + i then x else g (v (z / 4)) (z % 4)) = g (updv v j L (z / 4)) (z % 4) := by
  by_cases e : z / 4 = j
  · rw [e, updv_j, h]
    by_cases e2 : z % 4 = i
    · rw [if_pos e2, if_pos (by omega)]
    · rw [if_neg e2, if_neg (by omega)]
  · rw [updv_n e, if_neg (by omega)]
theorem num_shift {v : Nat → LV} {j b i : Nat} (hb : b ≤ i) (hi : i < 4) (f : LV → Nat → Nat) (hf : ∀ k, f (shL (v j) b k) = shf (f (v j)) b k) : (fun z => nI (if z = 4 * j + i then f (v j) (i + 1) else f (updv v j (shL (v j) b (i + 1)) (z / 4)) (z % 4))) = fun z => nI (f (updv v j (shL (v j) b (i + 1 + 1)) (z / 4)) (z % 4)) := by
  funext z
  congr 1
  by_cases e : z / 4 = j
  · rw [e, updv_j, updv_j, hf, hf]
    unfold shf
    by_cases e2 : z % 4 = i
    · rw [if_pos (by omega), if_pos (by omega), e2]
    · rw [if_neg (by omega)]
      by_cases h3 : b ≤ z % 4 ∧ z % 4 + 1 < i + 1
      · rw [if_pos h3, if_pos (by omega)]
      · rw [if_neg h3, if_neg (by omega)]
  · rw [updv_n e, updv_n e, if_neg (by omega)]
theorem told_add (t : Int32) (a b : Nat) : t + nI a + nI b = t + nI (a + b) := by rw [Int32.add_assoc, nI_add]
theorem told_sub (t : Int32) (a : Nat) : t + nI a - t = nI a := by rw [Int32.add_comm, Int32.add_sub_cancel]
theorem told_0 (t : Int32) : t + nI 0 = t := Int32.add_zero t
theorem wf_now {n now now' : Nat} {v : Nat → LV} (h : WFX n now v) (h2 : now' ≤ 2 ^ 20) : WFX n now' v := ⟨h.1, h2, h.2.2⟩
theorem mxA (d x y : Int64) : (d * 31 + x) * 31 + y = mxL (mxL d x) y := rfl
theorem i2lB (b : Bool) : (nI (if b = true then 1 else 0)).toInt64 = bJ b := by cases b <;> rfl
theorem i2lb (b : Bool) : (bI b).toInt64 = bJ b := by cases b <;> rfl
theorem dgA_eq (n now : Nat) (told : Int32) (x : Int64) : ((((58559 : Int64) + (nI n).toInt64) * 31 + (nI now).toInt64) * 31 + told.toInt64) * 31 + x = mxL (mxL (mxL (mxL 1889 (nI n).toInt64) (nI now).toInt64) told.toInt64) x := rfl
theorem shL_0 (L : LV) (b : Nat) : shL L b (b + 1) = L := by
  unfold shL
  rw [shf_0, shf_0]
theorem updv_id (v : Nat → LV) (j : Nat) : updv v j (v j) = v := by
  funext i
  unfold updv
  split
  · rename_i e; rw [e]
  · rfl
theorem tb_start {D : va_G} {H : Heap} {v : Nat → LV} {j : Nat} {ws : (Nat → LV) → va_W} (h : va_P D vwCl (ws v) H) : va_P D vwCl (ws (updv v j (v j))) H := by rw [updv_id]; exact h
