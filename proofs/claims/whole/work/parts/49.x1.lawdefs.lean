/-! the law: what holds between two commands -/
def AH (s : State) : Nat → Prop := fun q => s.heap.size ≤ q
def GG (s : State) (ad am : Nat → Nat) (z : Nat) : Prop := (Inj 29 ad ∧ Inj 6 am) ∧ ((∀ i, i < 29 → s.heap.size ≤ ad i) ∧ (∀ i, i < 6 → s.heap.size ≤ am i) ∧ s.heap.size ≤ z) ∧ (∀ i j, i < 29 → j < 6 → ad i ≠ am j) ∧ (∀ i, i < 29 → ad i ≠ z) ∧ ∀ j, j < 6 → am j ≠ z
theorem GG.toAL {s : State} {ad am : Nat → Nat} {z : Nat} (h : GG s ad am z) : ∀ q, AL ad z q → AH s q := fun q hq => hq.elim (fun ⟨i, hi, hqi⟩ => by rw [hqi]; exact h.2.1.1 i hi) (fun hqz => by rw [hqz]; exact h.2.1.2.2)
theorem AM_of {am : Nat → Nat} {q : Nat} (h : AM am q) : ∃ i, i < 6 ∧ q = am i := by
  unfold AM at h
  simp only [List.mem_cons, List.not_mem_nil, or_false] at h
  rcases h with h | h | h | h | h | h
  · exact ⟨0, by omega, h⟩
  · exact ⟨1, by omega, h⟩
  · exact ⟨2, by omega, h⟩
  · exact ⟨3, by omega, h⟩
  · exact ⟨4, by omega, h⟩
  · exact ⟨5, by omega, h⟩
theorem GG.toAM {s : State} {ad am : Nat → Nat} {z : Nat} (h : GG s ad am z) : ∀ q, AM am q → AH s q := fun q hq => by
  obtain ⟨i, hi, hqi⟩ := AM_of hq
  rw [hqi]; exact h.2.1.2.1 i hi
theorem GG.am_AL {s : State} {ad am : Nat → Nat} {z : Nat} (h : GG s ad am z) : ∀ j, j < 6 → ¬ AL ad z (am j) := fun j hj hq => hq.elim (fun ⟨i, hi, hqi⟩ => h.2.2.1 i j hi hj hqi.symm) (fun hqz => h.2.2.2.2 j hj hqz)
theorem GG.ad_AM {s : State} {ad am : Nat → Nat} {z : Nat} (h : GG s ad am z) : ∀ i, i < 29 → ¬ AM am (ad i) := fun i hi hq => by
  obtain ⟨j, hj, hqj⟩ := AM_of hq
  exact h.2.2.1 i j hi hj hqj
theorem GG.z_AM {s : State} {ad am : Nat → Nat} {z : Nat} (h : GG s ad am z) : ¬ AM am z := fun hq => by
  obtain ⟨j, hj, hqj⟩ := AM_of hq
  exact h.2.2.2.2 j hj hqj.symm
theorem GG.z_AX {s : State} {ad am : Nat → Nat} {z : Nat} (h : GG s ad am z) : ¬ AX ad z := fun ⟨i, hi, hqi⟩ => h.2.2.2.1 i hi hqi.symm
theorem PM_keep {D : va_G} {cI cZ : ClassId} {am : Nat → Nat} {th told : Int32} {n now : Nat} {v : Nat → LV} {A : Nat → Prop} {H0 H : Heap} (hP : PM D cI cZ am th n now told v H0) (hno : ∀ i, i < 6 → ¬ A (am i)) (hk : ∀ q : Nat, q < H0.size → ¬ A q → H[q]? = H0[q]?) : PM D cI cZ am th n now told v H :=
  va_P.kept hP (fun i x hx => hk x.1 (hP i x hx).lt (by
    match i, hx with
    | 0, hx => cases hx; exact hno 0 (by omega)
    | 1, hx => cases hx; exact hno 1 (by omega)
    | 2, hx => cases hx; exact hno 2 (by omega)
    | 3, hx => cases hx; exact hno 3 (by omega)
    | 4, hx => cases hx; exact hno 4 (by omega)
    | 5, hx => cases hx; exact hno 5 (by omega)))
theorem arr_congr {cA : ClassId} {N : Nat} {f g : Nat → Int32} (h : ∀ j, j < N → f j = g j) : vp_cell cA (N, .inl f) = vp_cell cA (N, .inl g) := by
  rw [vp_cell_i, vp_cell_i]
  have h1 : (fun j : Fin N => Value.int (f j.val)) = (fun j : Fin N => Value.int (g j.val)) := by
    funext j
    rw [h j.val j.isLt]
  show ({ cls := cA, slots := Array.ofFn (n := N) (fun j : Fin N => Value.int (f j.val)), vm := .none } : Cell) = { cls := cA, slots := Array.ofFn (n := N) (fun j : Fin N => Value.int (g j.val)), vm := .none }
  rw [h1]
theorem at_congr {D : va_G} {cl : List vw_C} {cA : ClassId} {a N : Nat} {f g : Nat → Int32} {H : Heap} (h : ∀ j, j < N → f j = g j) (hP : va_at D cl (a, .inl (cA, N, .inl f)) H) : va_at D cl (a, .inl (cA, N, .inl g)) H := by
  have h1 : H[a]? = some (vp_cell cA (N, .inl f)) := hP
  show H[a]? = some (vp_cell cA (N, .inl g))
  rw [h1, arr_congr h]
/-- the ninth lamp is no lamp of the reference -/
theorem PM_8 {D : va_G} {cI cZ : ClassId} {am : Nat → Nat} {th told : Int32} {n now : Nat} {v : Nat → LV} {L : LV} {H : Heap} (h : PM D cI cZ am th n now told v H) : PM D cI cZ am th n now told (updv v 8 L) H := by
  have e8 : ∀ j, j < 8 → v j = updv v 8 L j := fun j hj => (updv_n (by omega)).symm
  intro k q hk
  match k, hk with
  | 0, hk => cases hk; exact h 0 _ rfl
  | 1, hk => cases hk; exact at_congr (fun j hj => by rw [e8 j hj]) (h 1 _ rfl)
  | 2, hk => cases hk; exact at_congr (fun j hj => by rw [e8 j hj]) (h 2 _ rfl)
  | 3, hk => cases hk; exact at_congr (fun j hj => by rw [e8 j hj]) (h 3 _ rfl)
  | 4, hk => cases hk; exact at_congr (fun j hj => by rw [e8 (j / 4) (by omega)]) (h 4 _ rfl)
  | 5, hk => cases hk; exact at_congr (fun j hj => by rw [e8 (j / 4) (by omega)]) (h 5 _ rfl)
/-! a lamp that is changed is a lamp still -/
theorem wf_upd {n now j : Nat} {v : Nat → LV} {L : LV} (h : WFX n now v) (hL : j < 8 → WFL 4 L) : WFX n now (updv v j L) := by
  refine ⟨h.1, h.2.1, fun i hi => ?_⟩
  unfold updv
  split
  · rename_i hij
    exact hL (by omega)
  · exact h.2.2 i hi
theorem wf_n {n m now : Nat} {v : Nat → LV} (h : WFX n now v) (hm : m ≤ 8) : WFX m now v := ⟨hm, h.2.1, h.2.2⟩
theorem wfl_on {L : LV} {b : Bool} (h : WFL 4 L) : WFL 4 (setOn L b) := h
theorem wfl_cv {L : LV} {b : Bool} (h : WFL 4 L) : WFL 4 (setCv L b) := h
theorem wfl_of {L : LV} {i o : Nat} (h : WFL 4 L) (ho : o < lnu L i) : WFL 4 (setOf L i o) := by
  refine ⟨h.1, fun q hq => ⟨(h.2 q hq).1, ?_⟩⟩
  show (if q = i then o else lof L q) < lnu L q
  split
  · rename_i e1
    rw [e1]; exact ho
  · exact (h.2 q hq).2
theorem wfl_add {L : LV} {x o : Nat} (h : WFL 4 L) (hb : lbc L < 4) (hx : isP x) (ho : o < x) : WFL 4 (addL L x o) := by
  refine ⟨hb, fun q hq => ?_⟩
  have hq2 : q < lbc L + 1 := hq
  show isP (if q = lbc L then x else lnu L q) ∧ (if q = lbc L then o else lof L q) < (if q = lbc L then x else lnu L q)
  by_cases e1 : q = lbc L
  · rw [if_pos e1, if_pos e1]; exact ⟨hx, ho⟩
  · rw [if_neg e1, if_neg e1]; exact h.2 q (by omega)
theorem wfl_rem {L : LV} {i : Nat} (h : WFL 4 L) : WFL 4 (remL L i) := by
  refine ⟨Nat.le_trans (Nat.sub_le _ _) h.1, fun q hq => ?_⟩
  have hq2 : q < lbc L - 1 := hq
  show isP (shf (lnu L) i (lbc L) q) ∧ shf (lof L) i (lbc L) q < shf (lnu L) i (lbc L) q
  unfold shf
  split
  · exact h.2 (q + 1) (by omega)
  · exact h.2 q (by omega)
theorem cd1_lt (a : Bool) : cd1 a < 2 ^ 31 := by cases a <;> decide
theorem cd3_lt (a b c : Bool) : cd3 a b c < 2 ^ 31 := by cases a <;> cases b <;> cases c <;> decide
theorem cd1_0 {a : Bool} (h : cd1 a = 0) : a = true := by revert h; cases a <;> decide
theorem cd3_0 {a b c : Bool} (h : cd3 a b c = 0) : a = true ∧ b = true ∧ c = true := by revert h; cases a <;> cases b <;> cases c <;> decide
theorem mrI_t {cd : Nat} {x : Int32} (h : cd = 0) : mrI cd x = x := if_pos h
theorem mrB_t {cd : Nat} {b : Bool} (h : cd = 0) : mrB cd b = b := by unfold mrB; rw [decide_eq_true h, Bool.true_and]
theorem lgc {a b : Int64} (h : a = b) : lg_cmp a b = 0 := by
  subst h
  unfold lg_cmp
  rw [if_neg (by simp), if_pos rfl]
section LawCalls2
variable {p : Program} {l : Launch} {e : Env} {R : Room} {s : State} {m : MethodId} {args : Array Value} {below : List Frame} {meth : Method} {c : Code} {H H0 : Heap} {locs : List Loc} {cells slots : Nat} {Q : State → Prop}
variable {y : MethodName} {bytes cc : ByteArray} {maxL nL n index pc mc ms : Nat} {ret : Option FieldType} {ws : List Cond} {rm : Room} {Ts : List Cond} {own C : String} {b : Addr} {As rest st : List Value} {ls : Array Slot} {hh : List (Nat × Nat × Nat × Nat)}
variable {D : va_G} {T : List (ClassId × FieldType)} {A1 A0 A : Nat → Prop} {Ph Pn : Heap → Prop} {ok : Prop} {px : String → Prop} {r : Int32} {a : Array Value}
theorem vcallW (hr : va_Run p l e R s m args below meth c H locs cells slots mc ms (F0 m pc ls st) rest (QW A1 ok r Pn a) A1) (hS : va_S A0 H0 H locs) (hA : ∀ q, A1 q → A0 q)
    (kk : ∀ (H1 : Heap) (locs1 : List Loc), ok → Pn H1 → H.size ≤ H1.size → (∀ q : Nat, q < H.size → ¬ A1 q → H1[q]? = H[q]?) → va_S A0 H0 H1 locs1 → W p l e R s m args below meth c H1 locs1 (cells + mc) (slots + ms) Q (F0 m (pc + 3) ls (.int r :: rest))) : W p l e R s m args below meth c H locs cells slots Q (F0 m pc ls st) := by
  intro T hT X
  obtain ⟨v, st₀, t, T', L, h0, X', hL, e1, e2, ⟨hok, hv, hp, hz, hk⟩, st⟩ := hr T hT X
  cases hv
  rw [h0] at hz hk
  obtain ⟨t2, a1, b1⟩ := kk t.heap (locs ++ L) hok hp hz hk ⟨Nat.le_trans hS.1 hz, fun q h1 h2 => by rw [hk q (Nat.lt_of_lt_of_le h1 hS.1) (fun z => h2 (hA q z))]; exact hS.2.1 q h1 h2, fun q hq => by
      rcases List.mem_append.mp hq with h | h
      · exact hS.2.2 q h
      · exact hA _ (hL q h)⟩ T' e1 X'
  exact ⟨t2, st t2 a1, b1⟩
theorem lsS (S : CallFix p m c cc nL s args Ts own) (hM : Met l y ws rm (PC D T A1 As Ph) (QW A1 ok r Pn) mc ms A1) (cw : vx_CSW R s args own index y bytes maxL ret hh ws rm mc ms n) (hK : va_K D vwCl T s) (hE : EN A1 s H) (hPh : Ph H)
    (hn : As.length = n) (hsize : ls.size = nL) (hst : st = As.reverse ++ rest) (hW : (rest.map fun v => v.category).sum ≤ 8) (hdg : decode cc pc = .ok (.invokestatic index, 3)) (hf : cells + mc ≤ R.cells ∧ slots + ms ≤ R.slots) (hS : va_S A0 H0 H locs) (hA : ∀ q, A1 q → A0 q)
    (kk : ∀ (H1 : Heap) (locs1 : List Loc), ok → Pn H1 → H.size ≤ H1.size → (∀ q : Nat, q < H.size → ¬ A1 q → H1[q]? = H[q]?) → va_S A0 H0 H1 locs1 → W p l e R s m args below meth c H1 locs1 (cells + mc) (slots + ms) Q (F0 m (pc + 3) ls (.int r :: rest))) : W p l e R s m args below meth c H locs cells slots Q (F0 m pc ls st) :=
  vcallW (vx_runSW (g := F0 m pc ls st) S hM cw ⟨PC_blind, PCuse hK hE hPh⟩ rfl hn hsize hst (lv_room hW) hdg hf) hS hA kk
theorem callWl' {A0 : Nat → Prop} {H0 : Heap} {ok : Prop} {r : Int64} {Pn : Heap → Prop} {a : Array Value} {g : JFrame} {mc ms : Nat} (hr : CallRun p l e R s m args below meth c H locs cells slots mc ms g rest (QWl A1 ok r Pn a) A1) (hS : va_S A0 H0 H locs) (hA : ∀ q, A1 q → A0 q)
    (kk : ∀ (H1 : Heap) (locs1 : List Loc), ok → Pn H1 → H.size ≤ H1.size → (∀ q : Nat, q < H.size → ¬ A1 q → H1[q]? = H[q]?) → va_S A0 H0 H1 locs1 → W p l e R s m args below meth c H1 locs1 (cells + mc) (slots + ms) Q { g with pc := g.pc + 3, stack := .long r :: rest }) : W p l e R s m args below meth c H locs cells slots Q g := by
  intro T hT X
  obtain ⟨v, st₀, t, T', L, h0, X', hL, e1, ⟨hok, hv, hp, hz, hk⟩, st⟩ := hr T hT X
  cases hv
  rw [h0] at hz hk
  obtain ⟨t2, a1, b1⟩ := kk t.heap (locs ++ L) hok hp hz hk ⟨Nat.le_trans hS.1 hz, fun q h1 h2 => by rw [hk q (Nat.lt_of_lt_of_le h1 hS.1) (fun z => h2 (hA q z))]; exact hS.2.1 q h1 h2, fun q hq => by
      rcases List.mem_append.mp hq with h | h
      · exact hS.2.2 q h
      · exact hA _ (hL q h)⟩ T' e1 X'
  exact ⟨t2, st t2 a1, b1⟩
theorem callWd' {A0 : Nat → Prop} {H0 : Heap} {ok : Prop} {r : UInt64} {Pn : Heap → Prop} {a : Array Value} {g : JFrame} {mc ms : Nat} (hr : CallRun p l e R s m args below meth c H locs cells slots mc ms g rest (QWd A1 ok r Pn a) A1) (hS : va_S A0 H0 H locs) (hA : ∀ q, A1 q → A0 q)
    (kk : ∀ (H1 : Heap) (locs1 : List Loc), ok → Pn H1 → H.size ≤ H1.size → (∀ q : Nat, q < H.size → ¬ A1 q → H1[q]? = H[q]?) → va_S A0 H0 H1 locs1 → W p l e R s m args below meth c H1 locs1 (cells + mc) (slots + ms) Q { g with pc := g.pc + 3, stack := .double r :: rest }) : W p l e R s m args below meth c H locs cells slots Q g := by
  intro T hT X
  obtain ⟨v, st₀, t, T', L, h0, X', hL, e1, ⟨hok, hv, hp, hz, hk⟩, st⟩ := hr T hT X
  cases hv
  rw [h0] at hz hk
  obtain ⟨t2, a1, b1⟩ := kk t.heap (locs ++ L) hok hp hz hk ⟨Nat.le_trans hS.1 hz, fun q h1 h2 => by rw [hk q (Nat.lt_of_lt_of_le h1 hS.1) (fun z => h2 (hA q z))]; exact hS.2.1 q h1 h2, fun q hq => by
      rcases List.mem_append.mp hq with h | h
      · exact hS.2.2 q h
      · exact hA _ (hL q h)⟩ T' e1 X'
  exact ⟨t2, st t2 a1, b1⟩
theorem callDb {r : UInt64} {a : Array Value} {g : JFrame} (hr : CallRun p l e R s m args below meth c H locs cells slots 0 0 g rest (QDb r a) (fun _ => False)) (kk : W p l e R s m args below meth c H locs cells slots Q { g with pc := g.pc + 3, stack := .double r :: rest }) : W p l e R s m args below meth c H locs cells slots Q g := by
  intro T hT X
  obtain ⟨v, st₀, t, T', L, h0, X', hL, e1, ⟨hv, hh⟩, st⟩ := hr T hT X
  cases hv
  obtain ⟨t2, a1, b1⟩ := kk T' (by rw [e1, hh, h0]) (Stand.forget X' (fun q h => (hL q h).elim))
  exact ⟨t2, st t2 a1, b1⟩
theorem rVd {r : UInt64} (S : CallFix p m c cc nL s args Ts own) (hM : Met l y ws rm (PC D T A1 (.ref b :: As) Ph) (QDb r) 0 0 (fun _ => False)) (cw : CallW R s args own C index y bytes maxL ret ws rm 0 0 n) (hK : va_K D vwCl T s) (hE : EN A1 s H) (hPh : Ph H) (hr : RC s H C b)
    (hn : As.length = n) (hsize : ls.size = nL) (hst : st = As.reverse ++ .ref b :: rest) (hW : (rest.map fun v => v.category).sum ≤ 8) (hdg : decode cc pc = .ok (.invokevirtual index, 3)) (hf : cells ≤ R.cells ∧ slots ≤ R.slots)
    (kk : W p l e R s m args below meth c H locs cells slots Q (F0 m (pc + 3) ls (.double r :: rest))) : W p l e R s m args below meth c H locs cells slots Q (F0 m pc ls st) :=
  callDb (g := F0 m pc ls st) (W.runV S hM cw ⟨PC_blind, hr, PCuse hK hE hPh⟩ rfl hn hsize hst (lv_room hW) hdg hf) kk
theorem wVl {r : Int64} (S : CallFix p m c cc nL s args Ts own) (hM : Met l y ws rm (PC D T A1 (.ref b :: As) Ph) (QWl A1 ok r Pn) 0 0 A1) (cw : CallW R s args own C index y bytes maxL ret ws rm 0 0 n) (hK : va_K D vwCl T s) (hE : EN A1 s H) (hPh : Ph H) (hr : RC s H C b)
    (hn : As.length = n) (hsize : ls.size = nL) (hst : st = As.reverse ++ .ref b :: rest) (hW : (rest.map fun v => v.category).sum ≤ 8) (hdg : decode cc pc = .ok (.invokevirtual index, 3)) (hf : cells ≤ R.cells ∧ slots ≤ R.slots) (hS : va_S A0 H0 H locs) (hA : ∀ q, A1 q → A0 q)
    (kk : ∀ (H1 : Heap) (locs1 : List Loc), ok → Pn H1 → H.size ≤ H1.size → (∀ q : Nat, q < H.size → ¬ A1 q → H1[q]? = H[q]?) → va_S A0 H0 H1 locs1 → W p l e R s m args below meth c H1 locs1 cells slots Q (F0 m (pc + 3) ls (.long r :: rest))) : W p l e R s m args below meth c H locs cells slots Q (F0 m pc ls st) :=
  callWl' (g := F0 m pc ls st) (W.runV S hM cw ⟨PC_blind, hr, PCuse hK hE hPh⟩ rfl hn hsize hst (lv_room hW) hdg hf) hS hA kk
theorem wVd {r : UInt64} (S : CallFix p m c cc nL s args Ts own) (hM : Met l y ws rm (PC D T A1 (.ref b :: As) Ph) (QWd A1 ok r Pn) 0 0 A1) (cw : CallW R s args own C index y bytes maxL ret ws rm 0 0 n) (hK : va_K D vwCl T s) (hE : EN A1 s H) (hPh : Ph H) (hr : RC s H C b)
    (hn : As.length = n) (hsize : ls.size = nL) (hst : st = As.reverse ++ .ref b :: rest) (hW : (rest.map fun v => v.category).sum ≤ 8) (hdg : decode cc pc = .ok (.invokevirtual index, 3)) (hf : cells ≤ R.cells ∧ slots ≤ R.slots) (hS : va_S A0 H0 H locs) (hA : ∀ q, A1 q → A0 q)
    (kk : ∀ (H1 : Heap) (locs1 : List Loc), ok → Pn H1 → H.size ≤ H1.size → (∀ q : Nat, q < H.size → ¬ A1 q → H1[q]? = H[q]?) → va_S A0 H0 H1 locs1 → W p l e R s m args below meth c H1 locs1 cells slots Q (F0 m (pc + 3) ls (.double r :: rest))) : W p l e R s m args below meth c H locs cells slots Q (F0 m pc ls st) :=
  callWd' (g := F0 m pc ls st) (W.runV S hM cw ⟨PC_blind, hr, PCuse hK hE hPh⟩ rfl hn hsize hst (lv_room hW) hdg hf) hS hA kk
theorem n_sld {bb L j : Nat} {xs : Nat → Int32} (hexec : p.tables.exec = Jvm.exec) (hb : c.code = cc) (hX : va_X bb L xs s H0) (hbl : bb < H0.size) (hbA : ¬ A bb) (hS : va_S A H0 H locs) (hj : j < L) (hL : L < 2 ^ 31) (hdg : decode cc pc = .ok (.iaload, 1))
    (kk : W p l e R s m args below meth c H locs cells slots Q (F0 m (pc + 1) ls (.int (xs j) :: rest))) : W p l e R s m args below meth c H locs cells slots Q (F0 m pc ls (.int (nI j) :: .ref bb :: rest)) :=
  va_sld hexec hb hX hbl hbA hS (vp_in_nI hj hL) hdg (by rw [nI_clamp (Nat.lt_trans hj hL)]; exact kk)
end LawCalls2
