/-! the law's entry: its surroundings, the classes, the arrays -/
theorem eqI {t : Term} {n : Int32} {args : Array Value} {s : State} (h : (Cond.eq t (.int n)).before args s = true) : t.eval args s none [] s = some (.int n) := by
  simp only [Cond.before, Cond.holds, Cond.value] at h
  rw [show (Term.int n).eval args s none [] s = some (.int n) from rfl] at h
  cases hv : t.eval args s none [] s with
  | none => simp [hv] at h
  | some v =>
    cases v with
    | int x => simp [hv] at h; rw [h]
    | _ => simp [hv] at h
abbrev flatG : List Cond := flatC (Cond.and given_1 narrow_1)
theorem nest_in : ∀ q ∈ nestF, Cond.fieldLinkNest q.1 q.2.1 q.2.2.1 q.2.2.2.1 q.2.2.2.2 "LanternPrimes" ∈ lw_tbl := by decide +kernel
theorem str_in : ∀ q ∈ strWs, Cond.stringRef "LanternPrimes" q.1 q.2 ∈ lw_tbl := by decide +kernel
theorem thr_in : ∀ Y ∈ thrY, Cond.declares (Bundle.initS Y) ∈ lw_tbl := by decide +kernel
theorem cast_in : ∀ X ∈ excX, Cond.castable X X ∈ lw_tbl := by decide +kernel
theorem nc_in : ∀ q ∈ ncWs, Cond.not (.castable q.1 q.2) ∈ flatG := by decide +kernel
theorem ex_in : ∀ q ∈ strWs, Cond.exactly (.string "LanternPrimes" q.1) "java/lang/String" ∈ flatG := by decide +kernel
abbrev tNUM : Term := .static "LanternPrimes" "NUMBERS" "[I"
theorem num_in : ∀ j ∈ [0, 1, 2, 3, 4, 5], Cond.eq (.elem tNUM (.int (Int32.ofNat j))) (.int (nI (NUMf j))) ∈ flatG := by decide +kernel
theorem entry_EN {args : Array Value} {s : State} (hts0 : ∀ w ∈ lw_tbl, w.before args s = true) (hgv : (Cond.and given_1 narrow_1).before args s = true) : EN (fun q => s.heap.size ≤ q) s s.heap := by
  have hs : ∀ w ∈ flatG, w.before args s = true := flat_of_before _ hgv
  have hold : ∀ a : Nat, a < s.heap.size → ¬ (fun q => s.heap.size ≤ q) a := fun a h => Nat.not_le.mpr h
  have hT : (Cond.initialized Bundle.tN).before args s = true := hts0 _ (by decide +kernel)
  refine ⟨⟨vx_Zqof (hts0 _ (by decide +kernel)) hT (hs _ (by decide +kernel)) hold, vx_Zqof (hts0 _ (by decide +kernel)) hT (hs _ (by decide +kernel)) hold⟩, ⟨fun q hq => va_Nw.of rfl (hts0 _ (nest_in q hq)), va_Nw.of rfl (hts0 (.methodLinkNest "LanternPrimes" 15 yX0_init "LanternPrimes") (by decide +kernel))⟩, ⟨⟨fun q hq => ?_, fun q hq => va_Nc.of (hs _ (nc_in q hq))⟩, fun Y hY => va_Nw.of rfl (hts0 _ (thr_in Y hY)), fun X hX => va_Nw.of rfl (hts0 _ (cast_in X hX))⟩, ?_⟩
  · obtain ⟨a, _, _, _, h, _⟩ := Cond.exactly_spec (hs _ (ex_in q hq))
    exact ⟨a, vk_R.of (hts0 _ (str_in q hq)) h⟩
  · obtain ⟨t, h1, h2⟩ := va_Tof (N := 6) (tm := tNUM) (ty := .int) (f := fun j => .int (nI (NUMf j))) (by decide) (hs (.arrayOf tNUM .int) (by decide +kernel)) (eqI (hs (.eq (.length tNUM) (.int 6)) (by decide +kernel)))
      (fun j hj => eqI (hs _ (num_in j (by rcases (show j = 0 ∨ j = 1 ∨ j = 2 ∨ j = 3 ∨ j = 4 ∨ j = 5 by omega) with rfl | rfl | rfl | rfl | rfl | rfl <;> decide)))) hold
    exact ⟨t, va_Zref (hts0 (.laysStatic "LanternPrimes" "NUMBERS" "[I") (by decide +kernel)) (hts0 (.initialized "LanternPrimes") (by decide +kernel)) h1 hold, h2⟩
abbrev tNUMS : Term := .static "LanternPrimesLaw$Sim" "NUMBERS" "[I"
theorem nums_in : ∀ j ∈ [0, 1, 2, 3, 4, 5], Cond.eq (.elem tNUMS (.int (Int32.ofNat j))) (.int (nI (NUMf j))) ∈ flatG := by decide +kernel
theorem entry_EL {args : Array Value} {s : State} (hts0 : ∀ w ∈ lw_tbl, w.before args s = true) (hgv : (Cond.and given_1 narrow_1).before args s = true) : EL (fun q => s.heap.size ≤ q) s s.heap := by
  have hs : ∀ w ∈ flatG, w.before args s = true := flat_of_before _ hgv
  have hold : ∀ a : Nat, a < s.heap.size → ¬ (fun q => s.heap.size ≤ q) a := fun a h => Nat.not_le.mpr h
  obtain ⟨t, h1, h2⟩ := va_Tof (N := 6) (tm := tNUMS) (ty := .int) (f := fun j => .int (nI (NUMf j))) (by decide) (hs (.arrayOf tNUMS .int) (by decide +kernel)) (eqI (hs (.eq (.length tNUMS) (.int 6)) (by decide +kernel)))
      (fun j hj => eqI (hs _ (nums_in j (by rcases (show j = 0 ∨ j = 1 ∨ j = 2 ∨ j = 3 ∨ j = 4 ∨ j = 5 by omega) with rfl | rfl | rfl | rfl | rfl | rfl <;> decide)))) hold
  exact ⟨t, va_Zref (hts0 (.laysStatic "LanternPrimesLaw$Sim" "NUMBERS" "[I") (by decide +kernel)) (hts0 (.initialized "LanternPrimesLaw$Sim") (by decide +kernel)) h1 hold, h2⟩
theorem entry_K {args : Array Value} {s : State} (hts0 : ∀ w ∈ lw_tbl, w.before args s = true) : ∃ (D : va_G) (cI cZ cL cJ cB : ClassId), va_K D vwCl (TY cI cZ cL cJ) s ∧ EA D cB s := by
  obtain ⟨c0, i0, h0⟩ := u_known (C := RX0) (T := TX0) (N := 5) (n := 5) hts0 inU0 (hts0 (.instantiable RX0 5) (by decide +kernel))
  obtain ⟨c1, i1, h1⟩ := u_known (C := RX1) (T := TX1) (N := 5) (n := 5) hts0 inU1 (hts0 (.instantiable RX1 5) (by decide +kernel))
  obtain ⟨c2, i2, h2⟩ := u_known (C := RX2) (T := TX2) (N := 6) (n := 6) hts0 inU2 (hts0 (.instantiable RX2 6) (by decide +kernel))
  obtain ⟨cI, kI, mI, a1, a2, a3⟩ := Cond.arrayClass_spec (hts0 (.arrayClass .int) (by decide +kernel))
  obtain ⟨cZ, kZ, mZ, b1, b2, b3⟩ := Cond.arrayClass_spec (hts0 (.arrayClass .boolean) (by decide +kernel))
  obtain ⟨mL, cL, kL, e1, e2, e3, e4, e5⟩ := Cond.arrayOver_spec (hts0 (.arrayOver (.object "LanternPrimes$Lamp")) (by decide +kernel))
  have hJ : (Cond.arrayOver (.array .int)).before #[] s = true := hts0 (.arrayOver (.array .int)) (by decide +kernel)
  have hB : (Cond.arrayOver (.array (.array .int))).before #[] s = true := hts0 (.arrayOver (.array (.array .int))) (by decide +kernel)
  obtain ⟨mJ, cJ, kJ, j1, j2, j3, j4, j5⟩ := arrayOverA_spec hJ
  obtain ⟨mB, cB, kB, f1, f2, f3, f4, f5⟩ := arrayOverA_spec hB
  have hcl : ∀ (k : Nat) (q : vw_C), vwCl[k]? = some q → u_Kn s q.1 q.2.1 q.2.2 ((fun k => if k = 0 then c0 else if k = 1 then c1 else c2) k) ((fun k => if k = 0 then i0 else if k = 1 then i1 else i2) k) := fun k q hq => by
    match k, hq with
    | 0, hq => cases hq; exact h0
    | 1, hq => cases hq; exact h1
    | 2, hq => cases hq; exact h2
  refine ⟨(fun k => if k = 0 then c0 else if k = 1 then c1 else c2, fun k => if k = 0 then i0 else if k = 1 then i1 else i2), cI, cZ, cL, cJ, cB, ⟨hcl, fun k q hq => ?_⟩, ⟨hJ, hB⟩, hcl, fun k q hq => ?_⟩
  · match k, hq with
    | 0, hq => cases hq; exact ⟨fun n z => ⟨fun k h => (by cases h), kI, a2, mI, a3⟩, a1⟩
    | 1, hq => cases hq; exact ⟨fun n z => ⟨fun k h => (by cases h), kZ, b2, mZ, b3⟩, b1⟩
    | 2, hq => cases hq; exact ⟨fun n z => ⟨fun k h => (by cases h), kL, e3, mL, e4⟩, kL, mL, e3, e4, e1, e5⟩
    | 3, hq => cases hq; exact ⟨fun n z => ⟨fun k h => (by cases h), kJ, j3, mJ, j4⟩, j5⟩
  · match k, hq with
    | 0, hq => cases hq; exact ⟨fun n z => ⟨fun k h => (by cases h), kB, f3, mB, f4⟩, f5⟩
theorem gK_law_build : GoodIn (.classLink RX2 16 "[[[I" :: wsL_law) (va_wsS RL 75 yL_build wsK_build) := fun w h => by
  have up : ∀ w, w ∈ va_wsS RL 75 yL_build wsL_build → w ∈ (.classLink RX2 16 "[[[I" :: wsL_law : List Cond) := fun w h => List.mem_cons_of_mem _ (gL_law_L_build w h).1
  rcases List.mem_append.mp h with h | h
  · exact ⟨up w (List.mem_append_left _ h), (gL_law_L_build w (List.mem_append_left _ h)).2⟩
  · rcases List.mem_cons.mp h with h | h
    · have hc : w ∈ va_wsS RL 75 yL_build wsL_build := List.mem_append_right _ (by rw [h]; exact List.mem_cons_self)
      exact ⟨up w hc, (gL_law_L_build w hc).2⟩
    · rcases List.mem_cons.mp h with h | h
      · exact ⟨by rw [h]; exact List.mem_cons_self, (goodIn_r (big := [.classLink RX2 16 "[[[I"]) [.classLink RX2 16 "[[[I"] [0] (by decide +kernel) (by decide +kernel) w (by rw [h]; exact List.mem_cons_self)).2⟩
      · have hc : w ∈ va_wsS RL 75 yL_build wsL_build := List.mem_append_right _ h
        exact ⟨up w hc, (gL_law_L_build w hc).2⟩
theorem law_link : Cond.classLink RX2 16 "[[[I" ∈ lw_tbl := by decide +kernel
theorem law_nest : Cond.methodLinkNest "LanternPrimesLaw" 69 yX2_init "LanternPrimesLaw" ∈ lw_tbl := by decide +kernel
theorem WFX_0 : WFX 0 0 (fun _ => L0) := ⟨by decide, by decide, fun j _ => ⟨(Nat.zero_le 4 : (0 : Nat) ≤ 4), fun i hi => absurd (show i < 0 from hi) (Nat.not_lt_zero i)⟩⟩
