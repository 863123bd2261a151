/-! a call that may throw, caught; what is kept of a lamp; the law's own lamps behind a write -/
theorem MetWH {l : Launch} {y : MethodName} {ws ws' : List Cond} {rm : Room} {Pc : Array Value → State → Prop} {Qc : Array Value → State → Outcome → State → Prop} {mc ms : Nat} {free : Addr → Prop} {cc : ByteArray} {maxL : Nat} {ret : Option FieldType} {hh : List (Nat × Nat × Nat × Nat)}
    (hy : plainName y.cls = true) (hw : ws = Cond.codeWith y cc maxL ret hh :: ws')
    (body : ∀ p e s m args below meth c s₁, BodyLoose p l y (headSpec ws rm) cc maxL ret e s m args below meth c s₁ → c.maxLocals = maxL → c.exceptionTable.toList = tableOf hh → Pc args s →
      W p l e (headSpec ws rm).room s m args below meth c s.heap [] 0 0 (MQ below Qc args s mc ms free) (entryFrame m args maxL)) : Met l y ws rm Pc Qc mc ms free := by
  refine MetFree.of_bodyS (code := cc) (maxLocals := maxL) (ret := ret) hy ?_ ?_
  · intro args s m h hn
    obtain ⟨m9, meth, c, hn9, h1, h2, h3, h4, -, h5, h6, -⟩ := Cond.codeWith_spec (atoms_spec (ws := ws) h _ (by rw [hw]; exact List.mem_cons_self))
    cases hn.symm.trans hn9
    exact ⟨meth, c, h1, h2, h3, h4, h5, h6⟩
  · intro p e s m args below meth c s₁ B hml hP _
    have hh0 : s₁.heap = s.heap := by rw [B.state]; rfl
    have ht : c.exceptionTable.toList = tableOf hh := vx_table (x := y) B (atoms_spec (ws := ws) B.pre _ (by rw [hw]; exact List.mem_cons_self))
    obtain ⟨t, a1, o, b1, b2, b3⟩ := body p e s m args below meth c s₁ B hml ht hP s₁ hh0 (Stand.of_body B)
    exact ⟨t, o, a1, b1, b2, ⟨b3.1, b3.2⟩⟩
theorem exC3 {a b d : String} {cd : Nat} {E : String} (h : exC [a, b, d] cd E) : (cd = 1 ∧ E = a) ∨ (cd = 2 ∧ E = b) ∨ (cd = 3 ∧ E = d) := by
  obtain ⟨i, rfl, hi⟩ := h
  match i, hi with
  | 0, hi => exact Or.inl ⟨rfl, (Option.some.inj hi).symm⟩
  | 1, hi => exact Or.inr (Or.inl ⟨rfl, (Option.some.inj hi).symm⟩)
  | 2, hi => exact Or.inr (Or.inr ⟨rfl, (Option.some.inj hi).symm⟩)
section LCalls
variable {p : Program} {l : Launch} {e : Env} {R : Room} {s : State} {m : MethodId} {args : Array Value} {below : List Frame} {meth : Method} {c : Code} {H H0 : Heap} {locs : List Loc} {cells slots : Nat} {Q : State → Prop}
variable {y : MethodName} {bytes cc : ByteArray} {maxL nL n index pc mc ms : Nat} {ret : Option FieldType} {ws : List Cond} {rm : Room} {Ts : List Cond} {own C : String} {b : Addr} {As rest st : List Value} {ls : Array Slot}
variable {D : va_G} {T : List (ClassId × FieldType)} {A1 A0 A : Nat → Prop} {Ph Pn : Heap → Prop} {ok : Prop} {px : String → Prop} {r : Int32} {a : Array Value}
theorem lcoreW (hr : vx_Run p l e R s m args below meth c H locs cells slots mc ms (F0 m pc ls st) rest (QW A1 ok r Pn a) (XC1 px) A1) (hS : va_S A0 H0 H locs) (hA : ∀ q, A1 q → A0 q)
    (kx : ∀ (E : String) (ce : Cell) (q9 : Addr) (H1 : Heap) (locs1 : List Loc), px E → H.size ≤ H1.size → (∀ q : Nat, q < H.size → H1[q]? = H[q]?) → va_S A0 H0 H1 locs1 → H1[q9]? = some ce → ce.vm = .none → s.vm.findClass E = some ce.cls → vx_W p l e R s m args below meth c H1 locs1 (cells + mc) (slots + ms) Q (F0 m pc ls rest) q9)
    (kk : ∀ (H1 : Heap) (locs1 : List Loc), ok → Pn H1 → H.size ≤ H1.size → (∀ q : Nat, q < H.size → ¬ A1 q → H1[q]? = H[q]?) → va_S A0 H0 H1 locs1 → W p l e R s m args below meth c H1 locs1 (cells + mc) (slots + ms) Q (F0 m (pc + 3) ls (.int r :: rest))) : W p l e R s m args below meth c H locs cells slots Q (F0 m pc ls st) := by
  intro T hT X
  rcases hr T hT X with ⟨v, st₀, t, T', L, h0, X', hL, e1, e2, ⟨hok, hv, hp, hz, hk⟩, st⟩ | ⟨q, st₀, t, T', L, E, ce, h0, X', hL, e1, e2, ⟨hp, hz, hk⟩, hce, hcv, hcl, st⟩
  · cases hv
    rw [h0] at hz hk
    obtain ⟨t2, a1, b1⟩ := kk t.heap (locs ++ L) hok hp hz hk ⟨Nat.le_trans hS.1 hz, fun q h1 h2 => by rw [hk q (Nat.lt_of_lt_of_le h1 hS.1) (fun z => h2 (hA q z))]; exact hS.2.1 q h1 h2, fun q hq => by
        rcases List.mem_append.mp hq with h | h
        · exact hS.2.2 q h
        · exact hA _ (hL q h)⟩ T' e1 X'
    exact ⟨t2, st t2 a1, b1⟩
  · rw [h0] at hz hk
    obtain ⟨t2, a1, b1⟩ := kx E ce q t.heap (locs ++ L) hp hz hk ⟨Nat.le_trans hS.1 hz, fun q h1 h2 => by rw [hk q (Nat.lt_of_lt_of_le h1 hS.1)]; exact hS.2.1 q h1 h2, fun q hq => by
        rcases List.mem_append.mp hq with h | h
        · exact hS.2.2 q h
        · exact hA _ (hL q h)⟩ hce hcv hcl T' e1 X'
    exact ⟨t2, st.trans a1, b1⟩
theorem lxW (S : CallFix p m c cc nL s args Ts own) (hM : vx_Met l y ws rm (PC D T A1 (.ref b :: As) Ph) (QW A1 ok r Pn) (XC1 px) mc ms A1) (cw : CallW R s args own C index y bytes maxL ret ws rm mc ms n) (hK : va_K D vwCl T s) (hE : EN A1 s H) (hPh : Ph H) (hr : RC s H C b)
    (hn : As.length = n) (hsize : ls.size = nL) (hst : st = As.reverse ++ .ref b :: rest) (hW : (rest.map fun v => v.category).sum ≤ 8) (hdg : decode cc pc = .ok (.invokevirtual index, 3)) (hf : cells + mc ≤ R.cells ∧ slots + ms ≤ R.slots) (hS : va_S A0 H0 H locs) (hA : ∀ q, A1 q → A0 q)
    (kx : ∀ (E : String) (ce : Cell) (q9 : Addr) (H1 : Heap) (locs1 : List Loc), px E → H.size ≤ H1.size → (∀ q : Nat, q < H.size → H1[q]? = H[q]?) → va_S A0 H0 H1 locs1 → H1[q9]? = some ce → ce.vm = .none → s.vm.findClass E = some ce.cls → vx_W p l e R s m args below meth c H1 locs1 (cells + mc) (slots + ms) Q (F0 m pc ls rest) q9)
    (kk : ∀ (H1 : Heap) (locs1 : List Loc), ok → Pn H1 → H.size ≤ H1.size → (∀ q : Nat, q < H.size → ¬ A1 q → H1[q]? = H[q]?) → va_S A0 H0 H1 locs1 → W p l e R s m args below meth c H1 locs1 (cells + mc) (slots + ms) Q (F0 m (pc + 3) ls (.int r :: rest))) : W p l e R s m args below meth c H locs cells slots Q (F0 m pc ls st) :=
  lcoreW (vx_runV (g := F0 m pc ls st) S hM cw ⟨PC_blind, hr, PCuse hK hE hPh⟩ rfl hn hsize hst (lv_room hW) hdg hf) hS hA kx kk
end LCalls
theorem wf_upd {n now j : Nat} {v : Nat → LV} {L : LV} (h : WFX n now v) (hL : j < 8 → WFL 4 L) : WFX n now (updv v j L) := by
  refine ⟨h.1, h.2.1, fun i hi => ?_⟩
  unfold updv
  split
  · rename_i hij
    exact hL (by omega)
  · exact h.2.2 i hi
theorem wf_n {n m now : Nat} {v : Nat → LV} (h : WFX n now v) (hm : m ≤ 8) : WFX m now v := ⟨hm, h.2.1, h.2.2⟩
theorem wfl_on {L : LV} {b : Bool} (h : WFL 4 L) : WFL 4 (setOn L b) := h
theorem wfl_cv {L : LV} {b : Bool} (h : WFL 4 L) : WFL 4 (setCv L b) := h
theorem wfl_of {L : LV} {i o : Nat} (h : WFL 4 L) (ho : o < lnu L i) : WFL 4 (setOf L i o) := by
  refine ⟨h.1, fun q hq => ⟨(h.2 q hq).1, ?_⟩⟩
  show (if q = i then o else lof L q) < lnu L q
  split
  · rename_i e1
    rw [e1]; exact ho
  · exact (h.2 q hq).2
theorem wfl_add {L : LV} {x o : Nat} (h : WFL 4 L) (hb : lbc L < 4) (hx : isP x) (ho : o < x) : WFL 4 (addL L x o) := by
  refine ⟨hb, fun q hq => ?_⟩
  have hq2 : q < lbc L + 1 := hq
  show isP (if q = lbc L then x else lnu L q) ∧ (if q = lbc L then o else lof L q) < (if q = lbc L then x else lnu L q)
  by_cases e1 : q = lbc L
  · rw [if_pos e1, if_pos e1]; exact ⟨hx, ho⟩
  · rw [if_neg e1, if_neg e1]; exact h.2 q (by omega)
theorem wfl_rem {L : LV} {i : Nat} (h : WFL 4 L) : WFL 4 (remL L i) := by
  refine ⟨Nat.le_trans (Nat.sub_le _ _) h.1, fun q hq => ?_⟩
  have hq2 : q < lbc L - 1 := hq
  show isP (shf (lnu L) i (lbc L) q) ∧ shf (lof L) i (lbc L) q < shf (lnu L) i (lbc L) q
  unfold shf
  split
  · exact h.2 (q + 1) (by omega)
  · exact h.2 q (by omega)
def PCL (D : va_G) (cB : ClassId) (T : List (ClassId × FieldType)) (A : Nat → Prop) (av : List Value) (Ph : Heap → Prop) : Array Value → State → Prop := fun a U => PCS D cB T A av Ph a U ∧ EL A U U.heap
theorem PCL_blind {D : va_G} {cB : ClassId} {T : List (ClassId × FieldType)} {A : Nat → Prop} {av : List Value} {Ph : Heap → Prop} : FrameBlind (PCL D cB T A av Ph) := fun a U g mk q => ⟨PCS_blind a U g mk q.1, q.2.moved (u := U) (U := U.calling g mk a) (Vm.Alike.refl U.vm)⟩
theorem PCLuse {D : va_G} {cB : ClassId} {T : List (ClassId × FieldType)} {A : Nat → Prop} {As : List Value} {Ph : Heap → Prop} {s : State} {H : Heap} (hK : va_K D vwCl T s) (hE : EN A s H) (hEA : EA D cB s) (hEL : EL A s H) (hPh : Ph H) : ∀ U : State, U.heap = H → s.WarmedH U.vm → PCL D cB T A As Ph As.toArray U := fun U hU hW => ⟨PCSuse hK hE hEA hPh U hU hW, by rw [hU]; exact hEL.moved hW.alike⟩
/-- behind writes of the object and the two rows of Booleans -/
theorem SP_012 {D : va_G} {cI cZ cJ cB : ClassId} {as : Nat → Nat} {n now n' now' : Nat} {told told' : Int32} {v v' : Nat → LV} {H H0 : Heap} (hinj : InjS v as) (h : SP D cI cZ cJ cB as n now told v H0) (hv : ∀ j, j < 8 → lbc (v' j) = lbc (v j) ∧ lnu (v' j) = lnu (v j) ∧ lof (v' j) = lof (v j))
    (hk : ∀ q : Nat, q < H0.size → q ≠ as 0 → q ≠ as 1 → q ≠ as 2 → H[q]? = H0[q]?) (h0 : va_at D vwCl (as 0, .inr (2, [.int (nI now'), .int told', .int (nI n'), .ref (as 1), .ref (as 2), .ref (as 3)])) H)
    (h1 : va_at D vwCl (as 1, .inl (cZ, 8, .inl (fun j => bI (lon (v' j))))) H) (h2 : va_at D vwCl (as 2, .inl (cZ, 8, .inl (fun j => bI (lcv (v' j))))) H) : SP D cI cZ cJ cB as n' now' told' v' H := by
  have hne : ∀ u w, Us v u → w < 3 → u ≠ w → as u ≠ as w := fun u w hu hw h9 e => h9 (hinj u w hu (Us.lo (by omega)) e)
  have key : ∀ u, Us v u → 3 ≤ u → as u < H0.size → H[as u]? = H0[as u]? := fun u hu h3 hlt => hk _ hlt (hne u 0 hu (by decide) (by omega)) (hne u 1 hu (by decide) (by omega)) (hne u 2 hu (by decide) (by omega))
  refine ⟨fun k q hq => ?_, fun j hj => ?_⟩
  · match k, hq with
    | 0, hq => cases hq; exact h0
    | 1, hq => cases hq; exact h1
    | 2, hq => cases hq; exact h2
    | 3, hq => cases hq; exact (h.1 3 _ rfl).kept (key 3 (Us.lo (by decide)) (by decide) (h.1 3 _ rfl).lt)
  · obtain ⟨e1, e2, e3⟩ := hv j hj
    obtain ⟨hr, hb⟩ := h.2 j hj
    unfold sRow sBt btF
    rw [e1, e2, e3]
    exact ⟨hr.kept (key _ (Us.row hj) (by omega) hr.lt), fun i hi => (hb i hi).kept (key _ (Us.bt hj hi) (by omega) (hb i hi).lt)⟩
/-- behind another offset of a beat -/
theorem SP_bt {D : va_G} {cI cZ cJ cB : ClassId} {as : Nat → Nat} {n now : Nat} {told : Int32} {v : Nat → LV} {H H0 : Heap} {j b o : Nat} (hinj : InjS v as) (hj : j < 8) (hb4 : b < lbc (v j)) (hw4 : ∀ i, i < 8 → lbc (v i) ≤ 4) (h : SP D cI cZ cJ cB as n now told v H0) (hk : ∀ q : Nat, q < H0.size → q ≠ as (5 + 5 * j + b) → H[q]? = H0[q]?)
    (h1 : va_at D vwCl (as (5 + 5 * j + b), .inl (cI, 2, .inl (upd (btF (v j) b) 1 (nI o)))) H) : SP D cI cZ cJ cB as n now told (updv v j (setOf (v j) b o)) H := by
  have key : ∀ u, Us v u → u ≠ 5 + 5 * j + b → as u < H0.size → H[as u]? = H0[as u]? := fun u hu h3 hlt => hk _ hlt (fun e => h3 (hinj u _ hu (Us.bt hj hb4) e))
  have ejj : updv v j (setOf (v j) b o) j = setOf (v j) b o := if_pos rfl
  have ej : ∀ i, i ≠ j → updv v j (setOf (v j) b o) i = v i := fun i hi => if_neg hi
  have hon : ∀ i, lon (updv v j (setOf (v j) b o) i) = lon (v i) := fun i => by
    by_cases e : i = j
    · rw [e, ejj]; rfl
    · rw [ej i e]
  have hcv : ∀ i, lcv (updv v j (setOf (v j) b o) i) = lcv (v i) := fun i => by
    by_cases e : i = j
    · rw [e, ejj]; rfl
    · rw [ej i e]
  refine ⟨fun k q hq => ?_, fun i hi => ?_⟩
  · match k, hq with
    | 0, hq => cases hq; exact (h.1 0 _ rfl).kept (key 0 (Us.lo (by decide)) (by omega) (h.1 0 _ rfl).lt)
    | 1, hq =>
      cases hq
      rw [show (fun i => bI (lon (updv v j (setOf (v j) b o) i))) = fun i => bI (lon (v i)) from funext fun i => by rw [hon]]
      exact (h.1 1 _ rfl).kept (key 1 (Us.lo (by decide)) (by omega) (h.1 1 _ rfl).lt)
    | 2, hq =>
      cases hq
      rw [show (fun i => bI (lcv (updv v j (setOf (v j) b o) i))) = fun i => bI (lcv (v i)) from funext fun i => by rw [hcv]]
      exact (h.1 2 _ rfl).kept (key 2 (Us.lo (by decide)) (by omega) (h.1 2 _ rfl).lt)
    | 3, hq => cases hq; exact (h.1 3 _ rfl).kept (key 3 (Us.lo (by decide)) (by omega) (h.1 3 _ rfl).lt)
  · obtain ⟨hr, hbt⟩ := h.2 i hi
    have h4 := hw4 i hi
    have h4j := hw4 j hj
    by_cases e : i = j
    · subst e
      unfold sRow sBt
      rw [ejj]
      refine ⟨hr.kept (key _ (Us.row hi) (by omega) hr.lt), fun x hx => ?_⟩
      by_cases ex : x = b
      · subst ex
        show H[as (5 + 5 * i + x)]? = some (arrV cI 2 (fun y => .int (btF (setOf (v i) x o) x y)))
        have h2 : H[as (5 + 5 * i + x)]? = some (arrV cI 2 (fun y => .int (upd (btF (v i) x) 1 (nI o) y))) := h1
        rw [h2]
        refine congrArg some (arrV_congr (fun y hy => ?_))
        have e3 : lof (setOf (v i) x o) x = o := if_pos rfl
        unfold btF upd
        rw [e3]
        rcases (show y = 0 ∨ y = 1 by omega) with rfl | rfl <;> rfl
      · have e1 : btF (setOf (v i) b o) x = btF (v i) x := by
          have e3 : lof (setOf (v i) b o) x = lof (v i) x := if_neg ex
          unfold btF
          rw [e3]
          rfl
        rw [e1]
        exact (hbt x hx).kept (key _ (Us.bt hi hx) (by omega) (hbt x hx).lt)
    · unfold sRow sBt
      rw [ej i e]
      exact ⟨hr.kept (key _ (Us.row hi) (by omega) hr.lt), fun x hx => (hbt x hx).kept (key _ (Us.bt hi hx) (by omega) (hbt x hx).lt)⟩
