/-! the law's entry: its surroundings, the classes, the arrays -/
theorem eqI {t : Term} {n : Int32} {args : Array Value} {s : State} (h : (Cond.eq t (.int n)).before args s = true) : t.eval args s none [] s = some (.int n) := by
  simp only [Cond.before, Cond.holds, Cond.value] at h
  rw [show (Term.int n).eval args s none [] s = some (.int n) from rfl] at h
  cases hv : t.eval args s none [] s with
  | none => simp [hv] at h
  | some v =>
    cases v with
    | int x => simp [hv] at h; rw [h]
    | _ => simp [hv] at h
abbrev flatG : List Cond := flatC (Cond.and given_1 narrow_1)
theorem nest_in : ∀ q ∈ nestF, Cond.fieldLinkNest q.1 q.2.1 q.2.2.1 q.2.2.2.1 q.2.2.2.2 "LanternPrimes" ∈ lw_tbl := by decide +kernel
theorem str_in : ∀ q ∈ strWs, Cond.stringRef "LanternPrimes" q.1 q.2 ∈ lw_tbl := by decide +kernel
theorem thr_in : ∀ Y ∈ thrY, Cond.declares (Bundle.initS Y) ∈ lw_tbl := by decide +kernel
theorem cast_in : ∀ X ∈ excX, Cond.castable X X ∈ lw_tbl := by decide +kernel
theorem nc_in : ∀ q ∈ ncWs, Cond.not (.castable q.1 q.2) ∈ flatG := by decide +kernel
theorem ex_in : ∀ q ∈ strWs, Cond.exactly (.string "LanternPrimes" q.1) "java/lang/String" ∈ flatG := by decide +kernel
abbrev tNUM : Term := .static "LanternPrimes" "NUMBERS" "[I"
theorem num_in : ∀ j ∈ [0, 1, 2, 3, 4, 5], Cond.eq (.elem tNUM (.int (Int32.ofNat j))) (.int (nI (NUMf j))) ∈ flatG := by decide +kernel
theorem entry_EN {args : Array Value} {s : State} (hts0 : ∀ w ∈ lw_tbl, w.before args s = true) (hgv : (Cond.and given_1 narrow_1).before args s = true) : EN (AH s) s s.heap := by
  have hs : ∀ w ∈ flatG, w.before args s = true := flat_of_before _ hgv
  have hold : ∀ a : Nat, a < s.heap.size → ¬ AH s a := fun a h => Nat.not_le.mpr h
  have hT : (Cond.initialized Bundle.tN).before args s = true := hts0 _ (by decide +kernel)
  refine ⟨⟨vx_Zqof (hts0 _ (by decide +kernel)) hT (hs _ (by decide +kernel)) hold, vx_Zqof (hts0 _ (by decide +kernel)) hT (hs _ (by decide +kernel)) hold⟩, ⟨fun q hq => va_Nw.of rfl (hts0 _ (nest_in q hq)), va_Nw.of rfl (hts0 (.methodLinkNest "LanternPrimes" 15 yX0_init "LanternPrimes") (by decide +kernel))⟩, ⟨⟨fun q hq => ?_, fun q hq => va_Nc.of (hs _ (nc_in q hq))⟩, fun Y hY => va_Nw.of rfl (hts0 _ (thr_in Y hY)), fun X hX => va_Nw.of rfl (hts0 _ (cast_in X hX))⟩, ?_⟩
  · obtain ⟨a, _, _, _, h, _⟩ := Cond.exactly_spec (hs _ (ex_in q hq))
    exact ⟨a, vk_R.of (hts0 _ (str_in q hq)) h⟩
  · obtain ⟨t, h1, h2⟩ := va_Tof (N := 6) (tm := tNUM) (ty := .int) (f := fun j => .int (nI (NUMf j))) (by decide) (hs (.arrayOf tNUM .int) (by decide +kernel)) (eqI (hs (.eq (.length tNUM) (.int 6)) (by decide +kernel)))
      (fun j hj => eqI (hs _ (num_in j (by rcases (show j = 0 ∨ j = 1 ∨ j = 2 ∨ j = 3 ∨ j = 4 ∨ j = 5 by omega) with rfl | rfl | rfl | rfl | rfl | rfl <;> decide)))) hold
    exact ⟨t, va_Zref (hts0 (.laysStatic "LanternPrimes" "NUMBERS" "[I") (by decide +kernel)) (hts0 (.initialized "LanternPrimes") (by decide +kernel)) h1 hold, h2⟩
theorem entry_K {args : Array Value} {s : State} (hts0 : ∀ w ∈ lw_tbl, w.before args s = true) : ∃ (D : va_G) (cI cZ cL cJ : ClassId), va_K D vwCl (TY cI cZ cL cJ) s := by
  obtain ⟨c0, i0, h0⟩ := u_known (C := RX0) (T := TX0) (N := 5) (n := 5) hts0 inU0 (hts0 (.instantiable RX0 5) (by decide +kernel))
  obtain ⟨c1, i1, h1⟩ := u_known (C := RX1) (T := TX1) (N := 5) (n := 5) hts0 inU1 (hts0 (.instantiable RX1 5) (by decide +kernel))
  obtain ⟨c2, i2, h2⟩ := u_known (C := RX2) (T := TX2) (N := 9) (n := 9) hts0 inU2 (hts0 (.instantiable RX2 9) (by decide +kernel))
  obtain ⟨cI, kI, mI, a1, a2, a3⟩ := Cond.arrayClass_spec (hts0 (.arrayClass .int) (by decide +kernel))
  obtain ⟨cZ, kZ, mZ, b1, b2, b3⟩ := Cond.arrayClass_spec (hts0 (.arrayClass .boolean) (by decide +kernel))
  obtain ⟨cJ, kJ, mJ, d1, d2, d3⟩ := Cond.arrayClass_spec (hts0 (.arrayClass .long) (by decide +kernel))
  obtain ⟨mL, cL, kL, e1, e2, e3, e4, e5⟩ := Cond.arrayOver_spec (hts0 (.arrayOver (.object "LanternPrimes$Lamp")) (by decide +kernel))
  refine ⟨(fun k => if k = 0 then c0 else if k = 1 then c1 else c2, fun k => if k = 0 then i0 else if k = 1 then i1 else i2), cI, cZ, cL, cJ, fun k q hq => ?_, fun k q hq => ?_⟩
  · match k, hq with
    | 0, hq => cases hq; exact h0
    | 1, hq => cases hq; exact h1
    | 2, hq => cases hq; exact h2
  · match k, hq with
    | 0, hq => cases hq; exact ⟨fun n z => ⟨fun k h => (by cases h), kI, a2, mI, a3⟩, a1⟩
    | 1, hq => cases hq; exact ⟨fun n z => ⟨fun k h => (by cases h), kZ, b2, mZ, b3⟩, b1⟩
    | 2, hq => cases hq; exact ⟨fun n z => ⟨fun k h => (by cases h), kL, e3, mL, e4⟩, kL, mL, e3, e4, e1, e5⟩
    | 3, hq => cases hq; exact ⟨fun n z => ⟨fun k h => (by cases h), kJ, d2, mJ, d3⟩, d1⟩
theorem KJ {D : va_G} {cI cZ cL cJ cA : ClassId} {U : State} (hK : va_K D vwCl (TY cI cZ cL cJ ++ [(cA, .long)]) U) : cA = cJ := by
  have h1 : U.vm.findClass ("[" ++ FieldType.long.toString) = some cA := (hK.2 4 (cA, .long) rfl).2
  have h2 : U.vm.findClass ("[" ++ FieldType.long.toString) = some cJ := (hK.2 3 (cJ, .long) rfl).2
  exact Option.some.inj (h1.symm.trans h2)
theorem and31 (x : Int32) : ∃ k, k < 32 ∧ x &&& nI 31 = nI k := by
  refine ⟨(x &&& nI 31).toBitVec.toNat, ?_, ?_⟩
  · have h : (x &&& nI 31).toBitVec = x.toBitVec &&& 31#32 := rfl
    rw [h, BitVec.toNat_and]
    exact Nat.lt_of_le_of_lt Nat.and_le_right (by decide)
  · apply Int32.toBitVec_inj.mp
    show _ = BitVec.ofNat 32 (x &&& nI 31).toBitVec.toNat
    rw [BitVec.ofNat_toNat, BitVec.setWidth_eq]
theorem gt4 {a L : Nat} (ha : a < 2 ^ 30) (hL : L ≤ 2048) : (nI L - nI 4 < nI a) ↔ ¬ a + 4 ≤ L := by
  by_cases h : 4 ≤ L
  · rw [pk_sub h, nI_ltI (by omega) (by omega)]
    omega
  · refine ⟨fun _ => by omega, fun _ => ?_⟩
    rw [Int32.lt_iff_toInt_lt, nI_toInt (by omega)]
    rcases (show L = 0 ∨ L = 1 ∨ L = 2 ∨ L = 3 by omega) with rfl | rfl | rfl | rfl
    · have : (nI 0 - nI 4).toInt = -4 := by decide
      omega
    · have : (nI 1 - nI 4).toInt = -3 := by decide
      omega
    · have : (nI 2 - nI 4).toInt = -2 := by decide
      omega
    · have : (nI 3 - nI 4).toInt = -1 := by decide
      omega
theorem PX_lt {D : va_G} {cI cL : ClassId} {ad : Nat → Nat} {n now : Nat} {told : Int32} {v : Nat → LV} {H : Heap} (h : PX D cI cL ad n now told v H) : ∀ i, i < 29 → ad i < H.size := by
  intro i hi
  by_cases h0 : i = 0
  · rw [h0]; exact (h.1 0 _ rfl).lt
  by_cases h1 : i = 1
  · rw [h1]; exact (h.1 1 _ rfl).lt
  obtain ⟨j, hj, hij⟩ : ∃ j, j < 9 ∧ (i = 2 + 3 * j ∨ i = 3 + 3 * j ∨ i = 4 + 3 * j) := ⟨(i - 2) / 3, by omega, by omega⟩
  rcases hij with e1 | e1 | e1
  · rw [e1]; exact (h.2 j hj 0 _ rfl).lt
  · rw [e1]; exact (h.2 j hj 1 _ rfl).lt
  · rw [e1]; exact (h.2 j hj 2 _ rfl).lt
theorem PM_lt {D : va_G} {cI cZ : ClassId} {am : Nat → Nat} {th told : Int32} {n now : Nat} {v : Nat → LV} {H : Heap} (h : PM D cI cZ am th n now told v H) : ∀ i, i < 6 → am i < H.size := by
  intro i hi
  rcases (show i = 0 ∨ i = 1 ∨ i = 2 ∨ i = 3 ∨ i = 4 ∨ i = 5 by omega) with rfl | rfl | rfl | rfl | rfl | rfl
  · exact (h 0 _ rfl).lt
  · exact (h 1 _ rfl).lt
  · exact (h 2 _ rfl).lt
  · exact (h 3 _ rfl).lt
  · exact (h 4 _ rfl).lt
  · exact (h 5 _ rfl).lt
theorem va_S_trans {s : State} {A : Nat → Prop} {H1 H2 : Heap} {l1 : List Loc} (h1 : va_S (AH s) s.heap H1 l1) (h2 : va_S A H1 H2 []) (hA : ∀ q, A q → AH s q) : va_S (AH s) s.heap H2 [] :=
  ⟨Nat.le_trans h1.1 h2.1, fun q hq hn => (h2.2.1 q (Nat.lt_of_lt_of_le hq h1.1) (fun z => hn (hA q z))).trans (h1.2.1 q hq hn), fun q hq => by cases hq⟩
theorem WFX_0 : WFX 0 0 (fun _ => L0) := ⟨by decide, by decide, fun j _ => ⟨(Nat.zero_le 4 : (0 : Nat) ≤ 4), fun i hi => absurd (show i < 0 from hi) (Nat.not_lt_zero i)⟩⟩
