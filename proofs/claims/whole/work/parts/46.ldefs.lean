/-! the law's helpers: what they hold, what they answer -/
theorem MetWH {l : Launch} {y : MethodName} {ws ws' : List Cond} {rm : Room} {Pc : Array Value → State → Prop} {Qc : Array Value → State → Outcome → State → Prop} {mc ms : Nat} {free : Addr → Prop} {cc : ByteArray} {maxL : Nat} {ret : Option FieldType} {hh : List (Nat × Nat × Nat × Nat)}
    (hy : plainName y.cls = true) (hw : ws = Cond.codeWith y cc maxL ret hh :: ws')
    (body : ∀ p e s m args below meth c s₁, BodyLoose p l y (headSpec ws rm) cc maxL ret e s m args below meth c s₁ → c.maxLocals = maxL → c.exceptionTable.toList = tableOf hh → Pc args s →
      W p l e (headSpec ws rm).room s m args below meth c s.heap [] 0 0 (MQ below Qc args s mc ms free) (entryFrame m args maxL)) : Met l y ws rm Pc Qc mc ms free := by
  refine MetFree.of_bodyS (code := cc) (maxLocals := maxL) (ret := ret) hy ?_ ?_
  · intro args s m h hn
    obtain ⟨m9, meth, c, hn9, h1, h2, h3, h4, -, h5, h6, -⟩ := Cond.codeWith_spec (atoms_spec (ws := ws) h _ (by rw [hw]; exact List.mem_cons_self))
    cases hn.symm.trans hn9
    exact ⟨meth, c, h1, h2, h3, h4, h5, h6⟩
  · intro p e s m args below meth c s₁ B hml hP _
    have hh0 : s₁.heap = s.heap := by rw [B.state]; rfl
    have ht : c.exceptionTable.toList = tableOf hh := vx_table (x := y) B (atoms_spec (ws := ws) B.pre _ (by rw [hw]; exact List.mem_cons_self))
    obtain ⟨t, a1, o, b1, b2, b3⟩ := body p e s m args below meth c s₁ B hml ht hP s₁ hh0 (Stand.of_body B)
    exact ⟨t, o, a1, b1, b2, ⟨b3.1, b3.2⟩⟩
abbrev outW (cJ : ClassId) (z : Nat) (f : Nat → Int64) : va_W := [(z, .inl (cJ, 1, .inr (.inl f)))]
def AL (ad : Nat → Nat) (z : Nat) : Nat → Prop := fun q => AX ad q ∨ q = z
def LEnd (D : va_G) (cI cL cJ : ClassId) (ad : Nat → Nat) (z n now : Nat) (told : Int32) (v : Nat → LV) (cd : Nat) (x : Int64) (H : Heap) : Prop := PX D cI cL ad n now told v H ∧ ∃ f : Nat → Int64, va_P D vwCl (outW cJ z f) H ∧ (cd = 0 → f 0 = x)
theorem PX_keep {D : va_G} {cI cL : ClassId} {ad : Nat → Nat} {n now : Nat} {told : Int32} {v : Nat → LV} {A : Nat → Prop} {H0 H : Heap} (hP : PX D cI cL ad n now told v H0) (hno : ∀ i, i < 29 → ¬ A (ad i)) (hk : ∀ q : Nat, q < H0.size → ¬ A q → H[q]? = H0[q]?) : PX D cI cL ad n now told v H := by
  refine ⟨hP.1.kept (fun i x hx => hk x.1 (hP.1 i x hx).lt ?_), fun j hj => (hP.2 j hj).kept (fun i x hx => hk x.1 (hP.2 j hj i x hx).lt ?_)⟩
  · match i, hx with
    | 0, hx => cases hx; exact hno 0 (by omega)
    | 1, hx => cases hx; exact hno 1 (by omega)
  · match i, hx with
    | 0, hx => cases hx; exact hno (2 + 3 * j) (by omega)
    | 1, hx => cases hx; exact hno (3 + 3 * j) (by omega)
    | 2, hx => cases hx; exact hno (4 + 3 * j) (by omega)
theorem outK {D : va_G} {cJ : ClassId} {z : Nat} {f : Nat → Int64} {A : Nat → Prop} {H0 H : Heap} (hP : va_P D vwCl (outW cJ z f) H0) (hz : ¬ A z) (hk : ∀ q : Nat, q < H0.size → ¬ A q → H[q]? = H0[q]?) : va_P D vwCl (outW cJ z f) H :=
  hP.kept (fun i x hx => hk x.1 (hP i x hx).lt (by
    match i, hx with
    | 0, hx => cases hx; exact hz))
theorem va_S_old {A : Nat → Prop} {H0 H1 : Heap} (hz : H0.size ≤ H1.size) (hk : ∀ q : Nat, q < H0.size → H1[q]? = H0[q]?) : va_S A H0 H1 [] := ⟨hz, fun q h _ => hk q h, fun q h => by cases h⟩
theorem exC1 {a : String} {cd : Nat} {E : String} (h : exC [a] cd E) : cd = 1 ∧ E = a := by
  obtain ⟨i, rfl, hi⟩ := h
  match i, hi with
  | 0, hi => exact ⟨rfl, (Option.some.inj hi).symm⟩
theorem exC2 {a b : String} {cd : Nat} {E : String} (h : exC [a, b] cd E) : (cd = 1 ∧ E = a) ∨ (cd = 2 ∧ E = b) := by
  obtain ⟨i, rfl, hi⟩ := h
  match i, hi with
  | 0, hi => exact Or.inl ⟨rfl, (Option.some.inj hi).symm⟩
  | 1, hi => exact Or.inr ⟨rfl, (Option.some.inj hi).symm⟩
theorem exC3 {a b d : String} {cd : Nat} {E : String} (h : exC [a, b, d] cd E) : (cd = 1 ∧ E = a) ∨ (cd = 2 ∧ E = b) ∨ (cd = 3 ∧ E = d) := by
  obtain ⟨i, rfl, hi⟩ := h
  match i, hi with
  | 0, hi => exact Or.inl ⟨rfl, (Option.some.inj hi).symm⟩
  | 1, hi => exact Or.inr (Or.inl ⟨rfl, (Option.some.inj hi).symm⟩)
  | 2, hi => exact Or.inr (Or.inr ⟨rfl, (Option.some.inj hi).symm⟩)
section LCalls
variable {p : Program} {l : Launch} {e : Env} {R : Room} {s : State} {m : MethodId} {args : Array Value} {below : List Frame} {meth : Method} {c : Code} {H H0 : Heap} {locs : List Loc} {cells slots : Nat} {Q : State → Prop}
variable {y : MethodName} {bytes cc : ByteArray} {maxL nL n index pc mc ms : Nat} {ret : Option FieldType} {ws : List Cond} {rm : Room} {Ts : List Cond} {own C : String} {b : Addr} {As rest st : List Value} {ls : Array Slot}
variable {D : va_G} {T : List (ClassId × FieldType)} {A1 A0 A : Nat → Prop} {Ph Pn : Heap → Prop} {ok : Prop} {px : String → Prop} {r : Int32} {a : Array Value}
theorem lcoreR (hr : vx_Run p l e R s m args below meth c H locs cells slots mc ms (F0 m pc ls st) rest (QOk ok r a) (XC1 px) (fun _ => False))
    (kx : ∀ (E : String) (ce : Cell) (q9 : Addr) (H1 : Heap), px E → H.size ≤ H1.size → (∀ q : Nat, q < H.size → H1[q]? = H[q]?) → H1[q9]? = some ce → ce.vm = .none → s.vm.findClass E = some ce.cls → vx_W p l e R s m args below meth c H1 locs (cells + mc) (slots + ms) Q (F0 m pc ls rest) q9)
    (kk : ok → W p l e R s m args below meth c H locs (cells + mc) (slots + ms) Q (F0 m (pc + 3) ls (.int r :: rest))) : W p l e R s m args below meth c H locs cells slots Q (F0 m pc ls st) := by
  intro T hT X
  rcases hr T hT X with ⟨v, st₀, t, T', L, h0, X', hL, e1, e2, ⟨hok, hv, hh⟩, st⟩ | ⟨q, st₀, t, T', L, E, ce, h0, X', hL, e1, e2, ⟨hp, hz, hk⟩, hce, hcv, hcl, st⟩
  · cases hv
    obtain ⟨t2, a1, b1⟩ := kk hok T' (by rw [e1, hh, h0]) (Stand.forget X' (fun q h => (hL q h).elim))
    exact ⟨t2, st t2 a1, b1⟩
  · rw [h0] at hz hk
    obtain ⟨t2, a1, b1⟩ := kx E ce q T'.heap hp (by rw [e1]; exact hz) (fun q hq => by rw [e1]; exact hk q hq) (by rw [e1]; exact hce) hcv hcl T' rfl (Stand.forget X' (fun q h => (hL q h).elim))
    exact ⟨t2, st.trans a1, b1⟩
theorem lcoreW (hr : vx_Run p l e R s m args below meth c H locs cells slots mc ms (F0 m pc ls st) rest (QW A1 ok r Pn a) (XC1 px) A1) (hS : va_S A0 H0 H locs) (hA : ∀ q, A1 q → A0 q)
    (kx : ∀ (E : String) (ce : Cell) (q9 : Addr) (H1 : Heap) (locs1 : List Loc), px E → H.size ≤ H1.size → (∀ q : Nat, q < H.size → H1[q]? = H[q]?) → va_S A0 H0 H1 locs1 → H1[q9]? = some ce → ce.vm = .none → s.vm.findClass E = some ce.cls → vx_W p l e R s m args below meth c H1 locs1 (cells + mc) (slots + ms) Q (F0 m pc ls rest) q9)
    (kk : ∀ (H1 : Heap) (locs1 : List Loc), ok → Pn H1 → H.size ≤ H1.size → (∀ q : Nat, q < H.size → ¬ A1 q → H1[q]? = H[q]?) → va_S A0 H0 H1 locs1 → W p l e R s m args below meth c H1 locs1 (cells + mc) (slots + ms) Q (F0 m (pc + 3) ls (.int r :: rest))) : W p l e R s m args below meth c H locs cells slots Q (F0 m pc ls st) := by
  intro T hT X
  rcases hr T hT X with ⟨v, st₀, t, T', L, h0, X', hL, e1, e2, ⟨hok, hv, hp, hz, hk⟩, st⟩ | ⟨q, st₀, t, T', L, E, ce, h0, X', hL, e1, e2, ⟨hp, hz, hk⟩, hce, hcv, hcl, st⟩
  · cases hv
    rw [h0] at hz hk
    obtain ⟨t2, a1, b1⟩ := kk t.heap (locs ++ L) hok hp hz hk ⟨Nat.le_trans hS.1 hz, fun q h1 h2 => by rw [hk q (Nat.lt_of_lt_of_le h1 hS.1) (fun z => h2 (hA q z))]; exact hS.2.1 q h1 h2, fun q hq => by
        rcases List.mem_append.mp hq with h | h
        · exact hS.2.2 q h
        · exact hA _ (hL q h)⟩ T' e1 X'
    exact ⟨t2, st t2 a1, b1⟩
  · rw [h0] at hz hk
    obtain ⟨t2, a1, b1⟩ := kx E ce q t.heap (locs ++ L) hp hz hk ⟨Nat.le_trans hS.1 hz, fun q h1 h2 => by rw [hk q (Nat.lt_of_lt_of_le h1 hS.1)]; exact hS.2.1 q h1 h2, fun q hq => by
        rcases List.mem_append.mp hq with h | h
        · exact hS.2.2 q h
        · exact hA _ (hL q h)⟩ hce hcv hcl T' e1 X'
    exact ⟨t2, st.trans a1, b1⟩
theorem lxR (S : CallFix p m c cc nL s args Ts own) (hM : vx_Met l y ws rm (PC D T A1 (.ref b :: As) Ph) (QOk ok r) (XC1 px) mc ms (fun _ => False)) (cw : CallW R s args own C index y bytes maxL ret ws rm mc ms n) (hK : va_K D vwCl T s) (hE : EN A1 s H) (hPh : Ph H) (hr : RC s H C b)
    (hn : As.length = n) (hsize : ls.size = nL) (hst : st = As.reverse ++ .ref b :: rest) (hW : (rest.map fun v => v.category).sum ≤ 8) (hdg : decode cc pc = .ok (.invokevirtual index, 3)) (hf : cells + mc ≤ R.cells ∧ slots + ms ≤ R.slots)
    (kx : ∀ (E : String) (ce : Cell) (q9 : Addr) (H1 : Heap), px E → H.size ≤ H1.size → (∀ q : Nat, q < H.size → H1[q]? = H[q]?) → H1[q9]? = some ce → ce.vm = .none → s.vm.findClass E = some ce.cls → vx_W p l e R s m args below meth c H1 locs (cells + mc) (slots + ms) Q (F0 m pc ls rest) q9)
    (kk : ok → W p l e R s m args below meth c H locs (cells + mc) (slots + ms) Q (F0 m (pc + 3) ls (.int r :: rest))) : W p l e R s m args below meth c H locs cells slots Q (F0 m pc ls st) :=
  lcoreR (vx_runV (g := F0 m pc ls st) S hM cw ⟨PC_blind, hr, PCuse hK hE hPh⟩ rfl hn hsize hst (lv_room hW) hdg hf) kx kk
theorem lxW (S : CallFix p m c cc nL s args Ts own) (hM : vx_Met l y ws rm (PC D T A1 (.ref b :: As) Ph) (QW A1 ok r Pn) (XC1 px) mc ms A1) (cw : CallW R s args own C index y bytes maxL ret ws rm mc ms n) (hK : va_K D vwCl T s) (hE : EN A1 s H) (hPh : Ph H) (hr : RC s H C b)
    (hn : As.length = n) (hsize : ls.size = nL) (hst : st = As.reverse ++ .ref b :: rest) (hW : (rest.map fun v => v.category).sum ≤ 8) (hdg : decode cc pc = .ok (.invokevirtual index, 3)) (hf : cells + mc ≤ R.cells ∧ slots + ms ≤ R.slots) (hS : va_S A0 H0 H locs) (hA : ∀ q, A1 q → A0 q)
    (kx : ∀ (E : String) (ce : Cell) (q9 : Addr) (H1 : Heap) (locs1 : List Loc), px E → H.size ≤ H1.size → (∀ q : Nat, q < H.size → H1[q]? = H[q]?) → va_S A0 H0 H1 locs1 → H1[q9]? = some ce → ce.vm = .none → s.vm.findClass E = some ce.cls → vx_W p l e R s m args below meth c H1 locs1 (cells + mc) (slots + ms) Q (F0 m pc ls rest) q9)
    (kk : ∀ (H1 : Heap) (locs1 : List Loc), ok → Pn H1 → H.size ≤ H1.size → (∀ q : Nat, q < H.size → ¬ A1 q → H1[q]? = H[q]?) → va_S A0 H0 H1 locs1 → W p l e R s m args below meth c H1 locs1 (cells + mc) (slots + ms) Q (F0 m (pc + 3) ls (.int r :: rest))) : W p l e R s m args below meth c H locs cells slots Q (F0 m pc ls st) :=
  lcoreW (vx_runV (g := F0 m pc ls st) S hM cw ⟨PC_blind, hr, PCuse hK hE hPh⟩ rfl hn hsize hst (lv_room hW) hdg hf) hS hA kx kk
theorem n_lastK {z : Nat} {cA : ClassId} {f : Nat → Int64} {x : Int64} (hexec : p.tables.exec = Jvm.exec) (hb : c.code = cc) (hK : va_K D vwCl T s) (hP : va_P D vwCl (outW cA z f) H) (hS : va_S A H0 H locs) (hA : A z) (t0 : Nat) (ht : T[t0]? = some (cA, .long)) (hdg : decode cc pc = .ok (.lastore, 1))
    (kk : ∀ (H1 : Heap) (locs1 : List Loc), va_P D vwCl (outW cA z (fun _ => x)) H1 → H1.size = H.size → (∀ q : Nat, q ≠ z → H1[q]? = H[q]?) → va_S A H0 H1 locs1 → W p l e R s m args below meth c H1 locs1 cells slots Q (F0 m (pc + 1) ls rest)) : W p l e R s m args below meth c H locs cells slots Q (F0 m pc ls (.long x :: .int (nI 0) :: .ref z :: rest)) := by
  refine W.last hexec hb (hP 0 _ rfl) ((hK.2 t0 _ ht).1 1 (fun j => .long (f j))) (fun q => by cases q) (by show ¬ (nI 0 < 0 ∨ (arrV _ _ _).slots.size ≤ _); rw [arrV_size]; exact (show vp_in (nI 0) 1 from vp_in_nI (by decide) (by decide))) rfl rfl hdg fun H1 e1 z1 oq => ?_
  refine kk H1 _ (vp1 ?_) z1 oq (hS.put z1 oq hA)
  show H1[z]? = some (vp_cell cA (1, .inr (.inl (fun _ => x))))
  rw [e1]
  rw [vp_cell_l, vp_cell_l, arrV_store, nI_clamp (by decide)]
  have hz : (fun j : Fin 1 => updV (fun j => Value.long (f j)) 0 (Value.long x) j.val) = (fun _ => Value.long x) := by
    funext j
    unfold updV
    rw [if_pos (by omega)]
  show some ({ cls := cA, slots := Array.ofFn (n := 1) (fun j : Fin 1 => updV (fun j => Value.long (f j)) 0 (Value.long x) j.val), vm := .none } : Cell) = _
  rw [hz]
  rfl
end LCalls
