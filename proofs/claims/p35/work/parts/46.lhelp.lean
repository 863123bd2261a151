/-! the law's helpers: writes that say that all else stays; below, cell; what class and Sim are apart by -/
section KRows
variable {p : Program} {l : Launch} {e : Env} {R : Room} {s : State} {m : MethodId} {args : Array Value} {below : List Frame} {meth : Method} {c : Code} {H H0 : Heap} {locs : List Loc} {cells slots : Nat} {Q : State → Prop}
variable {cc : ByteArray} {pc : Nat} {ls : Array Slot} {rest : List Value} {D : va_G} {A : Nat → Prop} {a : Nat} {T : List (ClassId × FieldType)}
theorem n_zastK {cA : ClassId} {N j : Nat} {f f' : Nat → Int32} {b : Bool} (hexec : p.tables.exec = Jvm.exec) (hb : c.code = cc) (hK : va_K D vwCl T s) (h0 : va_at D vwCl (a, .inl (cA, N, .inl f)) H) (hS : va_S A H0 H locs) (hA : A a) (t0 : Nat) (ht : T[t0]? = some (cA, .boolean)) (hj : j < N) (hN : N < 2 ^ 31) (hf : upd f j (bI b) = f') (hdg : decode cc pc = .ok (.bastore, 1))
    (kk : ∀ (H1 : Heap) (locs1 : List Loc), va_at D vwCl (a, .inl (cA, N, .inl f')) H1 → va_S A H0 H1 locs1 → H1.size = H.size → (∀ q : Nat, q ≠ a → H1[q]? = H[q]?) → W p l e R s m args below meth c H1 locs1 cells slots Q (F0 m (pc + 1) ls rest)) : W p l e R s m args below meth c H locs cells slots Q (F0 m pc ls (.int (bI b) :: .int (nI j) :: .ref a :: rest)) := by
  have hcl : (nI j).toNatClampNeg = j := nI_clamp (Nat.lt_trans hj hN)
  refine W.zast hexec hb h0 ((hK.2 t0 _ ht).1 N (fun j => .int (f j))) (fun q => by cases q) (by show ¬ (nI j < 0 ∨ (arrV _ _ _).slots.size ≤ _); rw [arrV_size]; exact vp_in_nI hj hN) rfl rfl hdg fun H1 e1 z1 oq => ?_
  refine kk H1 _ ?_ (hS.put z1 oq hA) z1 oq
  show H1[a]? = some (arrV cA N (fun j => .int (f' j)))
  rw [e1, vp_cell_i, arrV_store, hcl]
  refine congrArg some (arrV_congr (fun x _ => ?_))
  rw [← hf]
  unfold updV upd
  by_cases h : x = j
  · rw [if_pos h, if_pos h]; cases b <;> rfl
  · rw [if_neg h, if_neg h]
theorem n_iastK {cA : ClassId} {N j : Nat} {f f' : Nat → Int32} {x : Int32} (hexec : p.tables.exec = Jvm.exec) (hb : c.code = cc) (hK : va_K D vwCl T s) (h0 : va_at D vwCl (a, .inl (cA, N, .inl f)) H) (hS : va_S A H0 H locs) (hA : A a) (t0 : Nat) (ht : T[t0]? = some (cA, .int)) (hj : j < N) (hN : N < 2 ^ 31) (hf : upd f j x = f') (hdg : decode cc pc = .ok (.iastore, 1))
    (kk : ∀ (H1 : Heap) (locs1 : List Loc), va_at D vwCl (a, .inl (cA, N, .inl f')) H1 → va_S A H0 H1 locs1 → H1.size = H.size → (∀ q : Nat, q ≠ a → H1[q]? = H[q]?) → W p l e R s m args below meth c H1 locs1 cells slots Q (F0 m (pc + 1) ls rest)) : W p l e R s m args below meth c H locs cells slots Q (F0 m pc ls (.int x :: .int (nI j) :: .ref a :: rest)) := by
  have hcl : (nI j).toNatClampNeg = j := nI_clamp (Nat.lt_trans hj hN)
  refine W.iast hexec hb h0 ((hK.2 t0 _ ht).1 N (fun j => .int (f j))) (fun q => by cases q) (by show ¬ (nI j < 0 ∨ (arrV _ _ _).slots.size ≤ _); rw [arrV_size]; exact vp_in_nI hj hN) rfl rfl hdg fun H1 e1 z1 oq => ?_
  refine kk H1 _ ?_ (hS.put z1 oq hA) z1 oq
  show H1[a]? = some (arrV cA N (fun j => .int (f' j)))
  rw [e1, vp_cell_i, arrV_store, hcl]
  refine congrArg some (arrV_congr (fun y _ => ?_))
  rw [← hf]
  unfold updV upd
  by_cases h : y = j
  · rw [if_pos h, if_pos h]
  · rw [if_neg h, if_neg h]
/-- a whole number into a field of Sim -/
theorem n_putS {own : String} {index k : Nat} {Ts : List Cond} {fs : List Value} {x : Int32} (hexec : p.tables.exec = Jvm.exec) (hb : c.code = cc) (hts : ∀ w ∈ Ts, w.before args s = true) (hin : ∀ w ∈ u_ws RX2 TX2 6, w ∈ Ts) (hown : s.vm.findClass own = some m.cls) (hK : va_K D vwCl T s) (h0 : va_at D vwCl (a, .inr (2, fs)) H) (hS : va_S A H0 H locs) (hA : A a)
    (hk : k < 6) (hlink : (Cond.fieldLink own index RX2 (TX2 k).2.1 (TX2 k).2.2.1).before args s = true) (hc2 : (TX2 k).1 = RX2) (hfin : ¬ (TX2 k).2.2.2 = true) (hd : parseFieldDescriptor (TX2 k).2.2.1 = some .int) (hlen : k < fs.length) (hdg : decode cc pc = .ok (.putfield index, 3))
    (kk : ∀ (H1 : Heap) (locs1 : List Loc), va_at D vwCl (a, .inr (2, fs.set k (.int x))) H1 → va_S A H0 H1 locs1 → H1.size = H.size → (∀ q : Nat, q ≠ a → H1[q]? = H[q]?) → W p l e R s m args below meth c H1 locs1 cells slots Q (F0 m (pc + 3) ls rest)) : W p l e R s m args below meth c H locs cells slots Q (F0 m pc ls (.int x :: .ref a :: rest)) := by
  have hap := va_apart (own := own) hts hin tyX2 tyX2_ok nmX2 hK (ci := 2) rfl
  obtain ⟨r, h1, cell, q1, q2, q3, q4⟩ := h0
  cases h1
  obtain ⟨hSl, hfc, kC, hkC, hkind⟩ := hK.1 2 (RX2, TX2, 6) rfl
  obtain ⟨cf, kf, fi, f, hi, hsl⟩ := hSl k hk
  have hlay := hts _ (hin _ (u_in_lay hk))
  unfold u_lay at hlay
  rw [if_neg hfin] at hlay
  have hst := (u_facts hfc hkC (u_lays hts hin hk) hi).1
  have h6 := u_store (v := .int x) hfc hkC hkind hlay hi hd rfl rfl
  rw [hc2] at hi
  refine W.putK hexec hb (f := f) ⟨hown, hlink, ⟨_, _, _, hi⟩, hst⟩ (by rw [q2]; exact h6) q1 q3 (by rw [hsl]; exact k2_hasslot (q4 k hk)) rfl rfl hdg fun H' e1 e2 e3 => ?_
  rw [hsl] at e1 ⊢
  exact kk H' _ ⟨_, rfl, t_OB.to (V := updV (vp_V fs) k (.int x)) ⟨_, e1, q2, q3, t_set q4 hap hk (.int x)⟩ (fun j _ => vp_updV_set hlen _ j)⟩ (hS.put e2 e3 hA) e2 e3
end KRows
/-! below -/
def m31 (x : Int32) : Nat := (x &&& nI 2147483647).toBitVec.toNat
theorem m31_lt (x : Int32) : m31 x < 2 ^ 31 := by
  unfold m31
  have h : (x &&& nI 2147483647).toBitVec = x.toBitVec &&& 2147483647#32 := rfl
  rw [h, BitVec.toNat_and]
  exact Nat.lt_of_le_of_lt Nat.and_le_right (by decide)
theorem m31_eq (x : Int32) : x &&& nI 2147483647 = nI (m31 x) := by
  apply Int32.toBitVec_inj.mp
  show _ = BitVec.ofNat 32 (x &&& nI 2147483647).toBitVec.toNat
  rw [BitVec.ofNat_toNat, BitVec.setWidth_eq]
def blw (x : Int32) (n : Nat) : Nat := m31 x % n
theorem blw_lt (x : Int32) {n : Nat} (h : 0 < n) : blw x n < n := Nat.mod_lt _ h
set_option maxHeartbeats 4000000 in
set_option maxRecDepth 100000 in
theorem c_L_below (l : Launch) (D : va_G) (cI cZ cL cJ : ClassId) (x : Int32) (n : Nat) (hn : 0 < n) (hn2 : n < 2 ^ 31) : Met l yL_below wsL_below ({ frames := 0, cells := 0, slots := 0, locals := 0 } : Room) (PC D (TY cI cZ cL cJ) noA [.int x, .int (nI n)] (fun _ => True)) (QcRead (nI (blw x n))) 0 0 (fun _ => False) := by
  refine Met.ofW (cc := cL_below) (maxL := 2) (ret := (some .int)) (by decide) rfl ?_
  intro p e s m args below meth c s₁ B hml hv
  obtain ⟨rfl, hK, hE, -⟩ := hv
  have hx := B.exec
  have hb := B.bytes
  have hr := B.returns
  have hts := atoms_spec (ws := wsL_below) B.pre
  have hown : s.vm.findClass RL = some m.cls := findClass_of_methodNamed B.named
  have hlocks := B.notSynchronized
  have hl := lv_entry ([.int x, .int (nI n)]) (n := 2) (Nat.le_of_ble_eq_true rfl)
  rw [lg_entry_eq]
  generalize (lg_sl ([.int x, .int (nI n)]) ++ List.replicate (2 - (lg_sl ([.int x, .int (nI n)])).length) Slot.unset).toArray = ls at hl ⊢
  have hl : lv_has ls 2 [(0, .int x), (1, .int (nI n))] := hl
  refine lv_iload_n hx hb dL_below_0 rfl (lv_at hl 0 rfl) ?_
  refine lv_ldc (v := nI 2147483647) hx hb hown (hts (.constant RL 7 (2147483647)) (List.mem_of_getElem? (i := 1) rfl)) dL_below_1 ?_
  refine n_iand (v := nI (m31 x)) hx hb dL_below_3 (m31_eq x) ?_
  refine lv_iload_n hx hb dL_below_4 rfl (lv_at hl 1 rfl) ?_
  refine n_irem (a := m31 x) (d := n) hx hb dL_below_5 (m31_lt x) hn hn2 ?_
  exact W.iret (v := nI (blw x n)) hx hb hr (fun t ht hW => ⟨rfl, ht⟩) (fun _ h => by cases h) dL_below_6
/-! cell -/
def celV (xs : Nat → Int32) (L k : Nat) : Int32 := if k < L then xs k else nI 790386105 * nI (k + 3)
def PX9 (b L : Nat) (xs : Nat → Int32) (av : List Value) : Array Value → State → Prop := fun a U => a = av.toArray ∧ va_X b L xs U U.heap ∧ b < U.heap.size
theorem PX9_blind {b L : Nat} {xs : Nat → Int32} {av : List Value} : FrameBlind (PX9 b L xs av) := fun a U g mk q => ⟨q.1, va_X.moved (u := U) (U := U.calling g mk a) (Vm.Alike.refl U.vm) q.2.1, q.2.2⟩
theorem PX9use {b L : Nat} {xs : Nat → Int32} {As : List Value} {s : State} {H : Heap} (hX : va_X b L xs s H) (hb : b < H.size) : ∀ U : State, U.heap = H → s.WarmedH U.vm → PX9 b L xs As As.toArray U := fun U hU hW => ⟨rfl, by rw [hU]; exact hX.moved hW.alike, by rw [hU]; exact hb⟩
set_option maxHeartbeats 4000000 in
set_option maxRecDepth 100000 in
theorem c_L_cell (l : Launch) (b L : Nat) (xs : Nat → Int32) (k : Nat) (hL : L < 2 ^ 30) (hk : k < 2 ^ 30) : Met l yL_cell wsL_cell ({ frames := 0, cells := 0, slots := 0, locals := 0 } : Room) (PX9 b L xs [.ref b, .int (nI k)]) (QcRead (celV xs L k)) 0 0 (fun _ => False) := by
  refine Met.ofW (cc := cL_cell) (maxL := 2) (ret := (some .int)) (by decide) rfl ?_
  intro p e s m args below meth c s₁ B hml hv
  obtain ⟨rfl, hX, hbl⟩ := hv
  have hx := B.exec
  have hb := B.bytes
  have hr := B.returns
  have hts := atoms_spec (ws := wsL_cell) B.pre
  have hown : s.vm.findClass RL = some m.cls := findClass_of_methodNamed B.named
  have hlocks := B.notSynchronized
  have hl := lv_entry ([.ref b, .int (nI k)]) (n := 2) (Nat.le_of_ble_eq_true rfl)
  rw [lg_entry_eq]
  generalize (lg_sl ([.ref b, .int (nI k)]) ++ List.replicate (2 - (lg_sl ([.ref b, .int (nI k)])).length) Slot.unset).toArray = ls at hl ⊢
  have hl : lv_has ls 2 [(0, .ref b), (1, .int (nI k))] := hl
  have hS : va_S noA s.heap s.heap [] := va_S.rf
  refine lv_iload_n hx hb dL_cell_0 rfl (lv_at hl 1 rfl) ?_
  refine lv_aload_n hx hb dL_cell_1 rfl (lv_at hl 0 rfl) ?_
  refine va_slen hx hb hX hbl (fun h => h.elim) hS dL_cell_2 ?_
  refine n_icmp_ge (a := k) (b := L) (tgt := 12) hx hb (by omega) (by omega) dL_cell_3 (by decide) (fun c_3 => ?_) (fun c_3 => ?_)
  · refine lv_ldc (v := nI 790386105) hx hb hown (hts (.constant RL 8 (790386105)) (List.mem_of_getElem? (i := 1) rfl)) dL_cell_12 ?_
    refine lv_iload_n hx hb dL_cell_14 rfl (lv_at hl 1 rfl) ?_
    refine lv_iconst (v := nI 3) hx hb dL_cell_15 (by decide) ?_
    refine n_iadd (v := nI (k + 3)) hx hb dL_cell_16 (nI_add _ _) ?_
    refine n_imul (v := nI 790386105 * nI (k + 3)) hx hb dL_cell_17 rfl ?_
    refine n_ti (y := celV xs L k) (by unfold celV; rw [if_neg (by omega)]) ?_
    exact W.iret (v := celV xs L k) hx hb hr (fun t ht hW => ⟨rfl, ht⟩) (fun _ h => by cases h) dL_cell_18
  · refine lv_aload_n hx hb dL_cell_6 rfl (lv_at hl 0 rfl) ?_
    refine lv_iload_n hx hb dL_cell_7 rfl (lv_at hl 1 rfl) ?_
    refine va_sld hx hb hX hbl (fun h => h.elim) hS (vp_in_nI c_3 (by omega)) dL_cell_8 ?_
    refine lv_goto (tgt := 18) hx hb dL_cell_9 (by decide) ?_
    refine n_ti (y := celV xs L k) (by rw [nI_clamp (by omega)]; unfold celV; rw [if_pos c_3]) ?_
    exact W.iret (v := celV xs L k) hx hb hr (fun t ht hW => ⟨rfl, ht⟩) (fun _ h => by cases h) dL_cell_18
/-! what class and Sim are apart by; the law's Sim.NUMBERS -/
def GW (lo : Nat) (ad as : Nat → Nat) (v : Nat → LV) : Prop := (Inj 29 ad ∧ InjS v as) ∧ ((∀ i, i < 29 → lo ≤ ad i) ∧ ∀ u, Us v u → lo ≤ as u) ∧ ∀ i u, i < 29 → Us v u → ad i ≠ as u
def EL (A : Nat → Prop) (U : State) (H : Heap) : Prop := ∃ ns, va_Z "LanternPrimesLaw$Sim" "NUMBERS" "[I" (.ref ns) A U H ∧ va_T .int ns 6 (fun j => .int (nI (NUMf j))) A U H
theorem EL.moved {A : Nat → Prop} {u U : State} {H : Heap} (hvm : u.vm.Alike U.vm) (h : EL A u H) : EL A U H := by
  obtain ⟨ns, h1, h2⟩ := h
  exact ⟨ns, va_Z.moved hvm h1, va_T.moved hvm h2⟩
theorem EL.kept {A : Nat → Prop} {U : State} {H H1 : Heap} (h : EL A U H) (hq : ∀ a : Nat, a < H.size → ¬ A a → H1[a]? = H[a]?) : EL A U H1 := by
  obtain ⟨ns, h1, h2⟩ := h
  exact ⟨ns, h1.kept hq, h2.kept hq⟩
theorem EL.narrow {A B : Nat → Prop} {U : State} {H : Heap} (h : EL A U H) (hAB : ∀ q, B q → A q) : EL B U H := by
  obtain ⟨ns, h1, h2⟩ := h
  exact ⟨ns, h1.narrow hAB, h2.narrow hAB⟩
section Keep
variable {D : va_G} {cI cZ cL cJ cB : ClassId} {lo : Nat} {ad as : Nat → Nat} {n n2 now now2 : Nat} {told told2 : Int32} {v v2 : Nat → LV} {H H1 : Heap}
/-- the class's own writes leave Sim, Sim's writes leave the class -/
theorem SP_x (hG : GW lo ad as v) (h : SP D cI cZ cJ cB as n now told v H) (hk : ∀ q : Nat, q < H.size → ¬ AX ad q → H1[q]? = H[q]?) : SP D cI cZ cJ cB as n now told v H1 :=
  SP_keep h (fun u hu ⟨i, hi, e⟩ => hG.2.2 i u hi hu e.symm) hk
theorem PX_s {A : Nat → Prop} (h : PX D cI cL ad n now told v H) (hA : ∀ q, A q → ∀ i, i < 29 → q ≠ ad i) (hk : ∀ q : Nat, q < H.size → ¬ A q → H1[q]? = H[q]?) : PX D cI cL ad n now told v H1 :=
  PX_keep h (fun i hi h9 => hA _ h9 i hi rfl) hk
theorem AX_lo (hG : GW lo ad as v) : ∀ q, AX ad q → lo ≤ q := fun q ⟨i, hi, e⟩ => by rw [e]; exact hG.2.1.1 i hi
/-- other addresses for Sim, of the old ones or new -/
theorem GW_step {as' : Nat → Nat} {sz : Nat} (hG : GW lo ad as v) (hlt : ∀ i, i < 29 → ad i < sz) (hlo : lo ≤ sz) (hI : InjS v2 as') (hsrc : ∀ u, Us v2 u → (∃ w, Us v w ∧ as' u = as w) ∨ sz ≤ as' u) : GW lo ad as' v2 := by
  refine ⟨⟨hG.1.1, hI⟩, ⟨hG.2.1.1, fun u hu => ?_⟩, fun i u hi hu e => ?_⟩
  · rcases hsrc u hu with ⟨w, hw, h⟩ | h
    · rw [h]; exact hG.2.1.2 w hw
    · omega
  · rcases hsrc u hu with ⟨w, hw, h⟩ | h
    · exact hG.2.2 i w hi hw (e.trans h)
    · have := hlt i hi; omega
/-- the same places in use -/
theorem GW_use (hG : GW lo ad as v) (h : ∀ u, Us v2 u → Us v u) : GW lo ad as v2 := ⟨⟨hG.1.1, fun x y hx hy => hG.1.2 x y (h x hx) (h y hy)⟩, ⟨hG.2.1.1, fun u hu => hG.2.1.2 u (h u hu)⟩, fun i u hi hu => hG.2.2 i u hi (h u hu)⟩
end Keep
theorem Us_same {v : Nat → LV} {j : Nat} {L' : LV} (h : lbc L' = lbc (v j)) : ∀ u, Us (updv v j L') u → Us v u := by
  rintro u (hu | ⟨k, hk, hu | ⟨i, hi, hu⟩⟩)
  · exact Or.inl hu
  · exact Or.inr ⟨k, hk, Or.inl hu⟩
  · refine Or.inr ⟨k, hk, Or.inr ⟨i, ?_, hu⟩⟩
    by_cases e : k = j
    · subst e
      rw [show updv v k L' k = L' from if_pos rfl, h] at hi
      exact hi
    · rw [show updv v j L' k = v k from if_neg e] at hi
      exact hi
