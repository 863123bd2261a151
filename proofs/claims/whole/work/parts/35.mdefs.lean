theorem bI_bneT {a b : Bool} (h : ¬ bI a = bI b) : (a != b) = true := by revert h; cases a <;> cases b <;> decide
theorem bI_bneF {a b : Bool} (h : bI a = bI b) : (a != b) = false := by revert h; cases a <;> cases b <;> decide
theorem cycR_some {L : LV} {m : Nat} (h : fnd (cycF L) 1 (2 * prdA L - 1) = some m) : cycR L = m := by
  unfold cycR
  rw [h]
theorem cycR_none {L : LV} (h : fnd (cycF L) 1 (2 * prdA L - 1) = none) : cycR L = 2 * prdA L := by
  unfold cycR
  rw [h]
/-! the reference's cells, apart; its answers where it refuses -/
def AM (am : Nat → Nat) : Nat → Prop := fun q => q ∈ [am 0, am 1, am 2, am 3, am 4, am 5]
theorem vd6 {am : Nat → Nat} {a b c d e f : va_E} (h : Inj 6 am) : va_D (AM am) [(am 0, a), (am 1, b), (am 2, c), (am 3, d), (am 4, e), (am 5, f)] := by
  have n01 := h.ne (i := 0) (j := 1) (by omega) (by omega) (by omega)
  have n02 := h.ne (i := 0) (j := 2) (by omega) (by omega) (by omega)
  have n03 := h.ne (i := 0) (j := 3) (by omega) (by omega) (by omega)
  have n04 := h.ne (i := 0) (j := 4) (by omega) (by omega) (by omega)
  have n05 := h.ne (i := 0) (j := 5) (by omega) (by omega) (by omega)
  have n12 := h.ne (i := 1) (j := 2) (by omega) (by omega) (by omega)
  have n13 := h.ne (i := 1) (j := 3) (by omega) (by omega) (by omega)
  have n14 := h.ne (i := 1) (j := 4) (by omega) (by omega) (by omega)
  have n15 := h.ne (i := 1) (j := 5) (by omega) (by omega) (by omega)
  have n23 := h.ne (i := 2) (j := 3) (by omega) (by omega) (by omega)
  have n24 := h.ne (i := 2) (j := 4) (by omega) (by omega) (by omega)
  have n25 := h.ne (i := 2) (j := 5) (by omega) (by omega) (by omega)
  have n34 := h.ne (i := 3) (j := 4) (by omega) (by omega) (by omega)
  have n35 := h.ne (i := 3) (j := 5) (by omega) (by omega) (by omega)
  have n45 := h.ne (i := 4) (j := 5) (by omega) (by omega) (by omega)
  exact vdN (ws := [(am 0, a), (am 1, b), (am 2, c), (am 3, d), (am 4, e), (am 5, f)]) (by simp [n01, n02, n03, n04, n05, n12, n13, n14, n15, n23, n24, n25, n34, n35, n45])
def mrI (cd : Nat) (x : Int32) : Int32 := if cd = 0 then x else nI 0
def mrB (cd : Nat) (b : Bool) : Bool := decide (cd = 0) && b
theorem mW_eq {D : va_G} {cI cZ : ClassId} {am : Nat → Nat} {th told : Int32} {n now : Nat} {v : Nat → LV} {f1 f2 f3 f4 f5 : Nat → Int32} {H : Heap} (h1 : ∀ j, f1 j = bI (lon (v j))) (h2 : ∀ j, f2 j = bI (lcv (v j))) (h3 : ∀ j, f3 j = nI (lbc (v j))) (h4 : ∀ z, f4 z = nI (lnu (v (z / 4)) (z % 4))) (h5 : ∀ z, f5 z = nI (lof (v (z / 4)) (z % 4)))
    (hP : va_P D vwCl [(am 0, .inr (2, [.int th, .int (nI now), .int told, .int (nI n), .ref (am 1), .ref (am 2), .ref (am 3), .ref (am 4), .ref (am 5)])), (am 1, .inl (cZ, 8, .inl f1)), (am 2, .inl (cZ, 8, .inl f2)), (am 3, .inl (cI, 8, .inl f3)), (am 4, .inl (cI, 32, .inl f4)), (am 5, .inl (cI, 32, .inl f5))] H) : PM D cI cZ am th n now told v H := by
  rw [funext h1, funext h2, funext h3, funext h4, funext h5] at hP
  exact hP
def QWl (A : Nat → Prop) (ok : Prop) (r : Int64) (Ph : Heap → Prop) : Array Value → State → Outcome → State → Prop := fun _ st o t => ok ∧ o = .returned (some (.long r)) ∧ Ph t.heap ∧ va_F A st t
def QWd (A : Nat → Prop) (ok : Prop) (r : UInt64) (Ph : Heap → Prop) : Array Value → State → Outcome → State → Prop := fun _ st o t => ok ∧ o = .returned (some (.double r)) ∧ Ph t.heap ∧ va_F A st t
