/-! MY WORDS: what is taken of the machine's surroundings (EN), a contract's start (PC), ends (QcRead, QV, QOk, QOkv, QW), calls in short rows -/
def NUMf : Nat → Nat := fun j => match j with
  | 0 => 2
  | 1 => 3
  | 2 => 5
  | 3 => 7
  | 4 => 11
  | _ => 13
def bI (b : Bool) : Int32 := if b = true then 1 else 0
def nestF : List (String × Nat × String × String × String) := [("LanternPrimes", 31, "LanternPrimes$Lamp", "onAtStart", "Z"), ("LanternPrimes", 46, "LanternPrimes$Lamp", "beatCount", "I"), ("LanternPrimes", 57, "LanternPrimes$Lamp", "numbers", "[I"), ("LanternPrimes", 61, "LanternPrimes$Lamp", "offsets", "[I"), ("LanternPrimes", 67, "LanternPrimes$Lamp", "covered", "Z"), ("LanternPrimes$Lamp", 59, "LanternPrimes", "NUMBERS", "[I")]
def strWs : List (Nat × String) := [(26, "there are 8 lamps"), (49, "the lamp has 4 beats"), (143, "there is no such lamp"), (146, "there is no such beat"), (150, "both lamps are the same"), (156, "the number is none of 2, 3, 5, 7, 11 and 13"), (158, "the offset is not 0 to the number less 1"), (161, "the moment is not 0 to 60000"), (163, "the moments are too few or too many")]
abbrev tISE : String := "java/lang/IllegalStateException"
abbrev tIOB : String := "java/lang/IndexOutOfBoundsException"
abbrev tIAE : String := "java/lang/IllegalArgumentException"
def ncWs : List (String × String) := [(tIAE, tISE), (tIOB, tISE)]
def thrY : List String := ["java/lang/RuntimeException", "java/lang/Exception", "java/lang/Throwable"]
def excX : List String := [tISE, tIOB, tIAE]
theorem castWarm {X : String} {s U : State} (hW : s.WarmedH U.vm) (hZ : va_Nw (.castable X X) s) : va_Nw (.castable X X) U := va_tabs rfl (rfl : (s.setVm U.vm).vm = U.vm) (by rw [Cond.castable_setVm hW.alike]; exact hZ)
/-- the surroundings: Throwable's two statics, the links of nest mates, the texts, the array NUMBERS, what isn't castable; none of it in A -/
def EN (A : Nat → Prop) (U : State) (H : Heap) : Prop :=
  (vx_Zq Bundle.tN "UNASSIGNED_STACK" Bundle.steD A U H ∧ vx_Zq Bundle.tN "SUPPRESSED_SENTINEL" Bundle.listD A U H) ∧
  ((∀ q ∈ nestF, va_Nw (.fieldLinkNest q.1 q.2.1 q.2.2.1 q.2.2.2.1 q.2.2.2.2 "LanternPrimes") U) ∧ va_Nw (.methodLinkNest "LanternPrimes" 15 yX0_init "LanternPrimes") U) ∧
  (((∀ q ∈ strWs, ∃ sa, vk_R "LanternPrimes" q.1 q.2 sa U) ∧ ∀ q ∈ ncWs, va_Nc q.1 q.2 U) ∧ (∀ Y ∈ thrY, va_Nw (.declares (Bundle.initS Y)) U) ∧ ∀ X ∈ excX, va_Nw (.castable X X) U) ∧
  ∃ na, va_Z "LanternPrimes" "NUMBERS" "[I" (.ref na) A U H ∧ va_T .int na 6 (fun j => .int (nI (NUMf j))) A U H
theorem EN.warm {A : Nat → Prop} {s U : State} {H : Heap} (hW : s.WarmedH U.vm) (h : EN A s H) : EN A U H := by
  obtain ⟨⟨h1, h2⟩, ⟨h3, h4⟩, ⟨⟨h5, h6⟩, h9, h10⟩, na, h7, h8⟩ := h
  refine ⟨⟨vx_Zq.moved hW.alike h1, vx_Zq.moved hW.alike h2⟩, ⟨fun q hq => va_Nw.warmF hW (h3 q hq), va_Nw.warmM hW h4⟩, ⟨⟨fun q hq => ?_, fun q hq => ?_⟩, fun Y hY => va_Nw.warmD hW (h9 Y hY), fun X hX => castWarm hW (h10 X hX)⟩, na, va_Z.moved hW.alike h7, va_T.moved hW.alike h8⟩
  · obtain ⟨sa, ha⟩ := h5 q hq
    exact ⟨sa, vk_R.warm hW ha⟩
  · exact va_Nc.moved hW.alike (h6 q hq)
theorem EN.same {A : Nat → Prop} {u U : State} {H : Heap} (h : u.vm = U.vm) (hE : EN A u H) : EN A U H := by
  have hW : u.WarmedH U.vm := by rw [← h]; exact State.WarmedH.refl u
  exact hE.warm hW
theorem EN.kept {A : Nat → Prop} {U : State} {H H1 : Heap} (h : EN A U H) (hq : ∀ a : Nat, a < H.size → ¬ A a → H1[a]? = H[a]?) : EN A U H1 := by
  obtain ⟨⟨h1, h2⟩, h3, h5, na, h7, h8⟩ := h
  exact ⟨⟨h1.kept hq, h2.kept hq⟩, h3, h5, na, h7.kept hq, h8.kept hq⟩
theorem EN.narrow {A B : Nat → Prop} {U : State} {H : Heap} (h : EN A U H) (hAB : ∀ q, B q → A q) : EN B U H := by
  obtain ⟨⟨h1, h2⟩, h3, h5, na, h7, h8⟩ := h
  exact ⟨⟨h1.narrow hAB, h2.narrow hAB⟩, h3, h5, na, h7.narrow hAB, h8.narrow hAB⟩
/-- a contract's start -/
def PC (D : va_G) (T : List (ClassId × FieldType)) (A : Nat → Prop) (av : List Value) (Ph : Heap → Prop) : Array Value → State → Prop := fun a U => a = av.toArray ∧ va_K D vwCl T U ∧ EN A U U.heap ∧ Ph U.heap
theorem PC_blind {D : va_G} {T : List (ClassId × FieldType)} {A : Nat → Prop} {av : List Value} {Ph : Heap → Prop} : FrameBlind (PC D T A av Ph) := fun a U g mk q =>
  ⟨q.1, va_K.moved (u := U) (U := U.calling g mk a) (Vm.Alike.refl U.vm) q.2.1, EN.same (u := U) (U := U.calling g mk a) rfl q.2.2.1, q.2.2.2⟩
def noA : Nat → Prop := fun _ => False
/-- an end that reads only, and answers nothing -/
def QV : Array Value → State → Outcome → State → Prop := fun _ st o t => o = .returned none ∧ t.heap = st.heap
def QLg (r : Int64) : Array Value → State → Outcome → State → Prop := fun _ st o t => o = .returned (some (.long r)) ∧ t.heap = st.heap
/-- .. that returns only if .. -/
def QOk (ok : Prop) (r : Int32) : Array Value → State → Outcome → State → Prop := fun _ st o t => ok ∧ o = .returned (some (.int r)) ∧ t.heap = st.heap
def QOkv (ok : Prop) : Array Value → State → Outcome → State → Prop := fun _ st o t => ok ∧ o = .returned none ∧ t.heap = st.heap
/-- a throw: which, and every old cell is as it was -/
def XC1 (px : String → Prop) : String → State → State → Prop := fun E st t => px E ∧ st.heap.size ≤ t.heap.size ∧ ∀ q : Nat, q < st.heap.size → t.heap[q]? = st.heap[q]?
/-- an end that writes: the answer, the new heap, what isn't in A stays -/
def QW (A : Nat → Prop) (ok : Prop) (r : Int32) (Ph : Heap → Prop) : Array Value → State → Outcome → State → Prop := fun _ st o t => ok ∧ o = .returned (some (.int r)) ∧ Ph t.heap ∧ va_F A st t
def QWv (A : Nat → Prop) (Ph : Heap → Prop) : Array Value → State → Outcome → State → Prop := fun _ st o t => o = .returned none ∧ Ph t.heap ∧ va_F A st t
section MyCalls
variable {p : Program} {l : Launch} {e : Env} {R : Room} {s : State} {m : MethodId} {args : Array Value} {below : List Frame} {meth : Method} {c : Code} {H : Heap} {locs : List Loc} {cells slots : Nat} {Q : State → Prop}
variable {y : MethodName} {bytes cc : ByteArray} {maxL nL n index pc : Nat} {ret : Option FieldType} {ws : List Cond} {rm : Room} {Ts : List Cond} {own C : String} {b : Addr} {As rest st : List Value} {ls : Array Slot}
variable {D : va_G} {T : List (ClassId × FieldType)} {A1 : Nat → Prop} {Ph : Heap → Prop}
/-- a receiver -/
def RC (s : State) (H : Heap) (C : String) (b : Addr) : Prop := ∃ cellB : Cell, H[b]? = some cellB ∧ cellB.vm.isStatics = false ∧ s.vm.findClass C = some cellB.cls
theorem PCuse (hK : va_K D vwCl T s) (hE : EN A1 s H) (hPh : Ph H) : ∀ U : State, U.heap = H → s.WarmedH U.vm → PC D T A1 As Ph As.toArray U := fun U hU hW =>
  ⟨rfl, va_K.moved hW.alike hK, by rw [hU]; exact hE.warm hW, by rw [hU]; exact hPh⟩
theorem rV {r : Int32} (S : CallFix p m c cc nL s args Ts own) (hM : Met l y ws rm (PC D T A1 (.ref b :: As) Ph) (QcRead r) 0 0 (fun _ => False)) (cw : CallW R s args own C index y bytes maxL ret ws rm 0 0 n) (hK : va_K D vwCl T s) (hE : EN A1 s H) (hPh : Ph H) (hr : RC s H C b)
    (hn : As.length = n) (hsize : ls.size = nL) (hst : st = As.reverse ++ .ref b :: rest) (hW : (rest.map fun v => v.category).sum ≤ 8) (hdg : decode cc pc = .ok (.invokevirtual index, 3)) (hf : cells ≤ R.cells ∧ slots ≤ R.slots)
    (kk : W p l e R s m args below meth c H locs cells slots Q (F0 m (pc + 3) ls (.int r :: rest))) : W p l e R s m args below meth c H locs cells slots Q (F0 m pc ls st) :=
  W.callR (g := F0 m pc ls st) (W.runV S hM cw ⟨PC_blind, hr, PCuse hK hE hPh⟩ rfl hn hsize hst (lv_room hW) hdg hf) kk
theorem rS {r : Int32} (S : CallFix p m c cc nL s args Ts own) (hM : Met l y ws rm (PC D T A1 As Ph) (QcRead r) 0 0 (fun _ => False)) (cw : CallB R s args own index y bytes maxL ret ws rm 0 0 n ∧ (Cond.static y).before args s = true) (hK : va_K D vwCl T s) (hE : EN A1 s H) (hPh : Ph H)
    (hn : As.length = n) (hsize : ls.size = nL) (hst : st = As.reverse ++ rest) (hW : (rest.map fun v => v.category).sum ≤ 8) (hdg : decode cc pc = .ok (.invokestatic index, 3)) (hf : cells ≤ R.cells ∧ slots ≤ R.slots)
    (kk : W p l e R s m args below meth c H locs cells slots Q (F0 m (pc + 3) ls (.int r :: rest))) : W p l e R s m args below meth c H locs cells slots Q (F0 m pc ls st) :=
  W.callR (g := F0 m pc ls st) (W.runS S hM cw ⟨PC_blind, PCuse hK hE hPh⟩ rfl hn hsize hst (lv_room hW) hdg hf) kk
theorem callLg {r : Int64} {a : Array Value} {g : JFrame} (hr : CallRun p l e R s m args below meth c H locs cells slots 0 0 g rest (QLg r a) (fun _ => False)) (kk : W p l e R s m args below meth c H locs cells slots Q { g with pc := g.pc + 3, stack := .long r :: rest }) : W p l e R s m args below meth c H locs cells slots Q g := by
  intro T hT X
  obtain ⟨v, st₀, t, T', L, h0, X', hL, e1, ⟨hv, hh⟩, st⟩ := hr T hT X
  cases hv
  obtain ⟨t2, a1, b1⟩ := kk T' (by rw [e1, hh, h0]) (Stand.forget X' (fun q h => (hL q h).elim))
  exact ⟨t2, st t2 a1, b1⟩
theorem rVl {r : Int64} (S : CallFix p m c cc nL s args Ts own) (hM : Met l y ws rm (PC D T A1 (.ref b :: As) Ph) (QLg r) 0 0 (fun _ => False)) (cw : CallW R s args own C index y bytes maxL ret ws rm 0 0 n) (hK : va_K D vwCl T s) (hE : EN A1 s H) (hPh : Ph H) (hr : RC s H C b)
    (hn : As.length = n) (hsize : ls.size = nL) (hst : st = As.reverse ++ .ref b :: rest) (hW : (rest.map fun v => v.category).sum ≤ 8) (hdg : decode cc pc = .ok (.invokevirtual index, 3)) (hf : cells ≤ R.cells ∧ slots ≤ R.slots)
    (kk : W p l e R s m args below meth c H locs cells slots Q (F0 m (pc + 3) ls (.long r :: rest))) : W p l e R s m args below meth c H locs cells slots Q (F0 m pc ls st) :=
  callLg (g := F0 m pc ls st) (W.runV S hM cw ⟨PC_blind, hr, PCuse hK hE hPh⟩ rfl hn hsize hst (lv_room hW) hdg hf) kk
theorem rSl {r : Int64} (S : CallFix p m c cc nL s args Ts own) (hM : Met l y ws rm (PC D T A1 As Ph) (QLg r) 0 0 (fun _ => False)) (cw : CallB R s args own index y bytes maxL ret ws rm 0 0 n ∧ (Cond.static y).before args s = true) (hK : va_K D vwCl T s) (hE : EN A1 s H) (hPh : Ph H)
    (hn : As.length = n) (hsize : ls.size = nL) (hst : st = As.reverse ++ rest) (hW : (rest.map fun v => v.category).sum ≤ 8) (hdg : decode cc pc = .ok (.invokestatic index, 3)) (hf : cells ≤ R.cells ∧ slots ≤ R.slots)
    (kk : W p l e R s m args below meth c H locs cells slots Q (F0 m (pc + 3) ls (.long r :: rest))) : W p l e R s m args below meth c H locs cells slots Q (F0 m pc ls st) :=
  callLg (g := F0 m pc ls st) (W.runS S hM cw ⟨PC_blind, PCuse hK hE hPh⟩ rfl hn hsize hst (lv_room hW) hdg hf) kk
/-- a callee that writes: its cells are in A0 -/
theorem callW' {A0 : Nat → Prop} {H0 : Heap} {ok : Prop} {r : Int32} {Pn : Heap → Prop} {a : Array Value} {g : JFrame} {mc ms : Nat} (hr : CallRun p l e R s m args below meth c H locs cells slots mc ms g rest (QW A1 ok r Pn a) A1) (hS : va_S A0 H0 H locs) (hA : ∀ q, A1 q → A0 q)
    (kk : ∀ (H1 : Heap) (locs1 : List Loc), ok → Pn H1 → H.size ≤ H1.size → (∀ q : Nat, q < H.size → ¬ A1 q → H1[q]? = H[q]?) → va_S A0 H0 H1 locs1 → W p l e R s m args below meth c H1 locs1 (cells + mc) (slots + ms) Q { g with pc := g.pc + 3, stack := .int r :: rest }) : W p l e R s m args below meth c H locs cells slots Q g := by
  intro T hT X
  obtain ⟨v, st₀, t, T', L, h0, X', hL, e1, ⟨hok, hv, hp, hz, hk⟩, st⟩ := hr T hT X
  cases hv
  rw [h0] at hz hk
  obtain ⟨t2, a1, b1⟩ := kk t.heap (locs ++ L) hok hp hz hk ⟨Nat.le_trans hS.1 hz, fun q h1 h2 => by rw [hk q (Nat.lt_of_lt_of_le h1 hS.1) (fun z => h2 (hA q z))]; exact hS.2.1 q h1 h2, fun q hq => by
      rcases List.mem_append.mp hq with h | h
      · exact hS.2.2 q h
      · exact hA _ (hL q h)⟩ T' e1 X'
  exact ⟨t2, st t2 a1, b1⟩
theorem callWv {A0 : Nat → Prop} {H0 : Heap} {Pn : Heap → Prop} {a : Array Value} {g : JFrame} {mc ms : Nat} (hr : CallRun p l e R s m args below meth c H locs cells slots mc ms g rest (QWv A1 Pn a) A1) (hS : va_S A0 H0 H locs) (hA : ∀ q, A1 q → A0 q)
    (kk : ∀ (H1 : Heap) (locs1 : List Loc), Pn H1 → H.size ≤ H1.size → (∀ q : Nat, q < H.size → ¬ A1 q → H1[q]? = H[q]?) → va_S A0 H0 H1 locs1 → W p l e R s m args below meth c H1 locs1 (cells + mc) (slots + ms) Q { g with pc := g.pc + 3, stack := rest }) : W p l e R s m args below meth c H locs cells slots Q g := by
  intro T hT X
  obtain ⟨v, st₀, t, T', L, h0, X', hL, e1, ⟨hv, hp, hz, hk⟩, st⟩ := hr T hT X
  cases hv
  rw [h0] at hz hk
  obtain ⟨t2, a1, b1⟩ := kk t.heap (locs ++ L) hp hz hk ⟨Nat.le_trans hS.1 hz, fun q h1 h2 => by rw [hk q (Nat.lt_of_lt_of_le h1 hS.1) (fun z => h2 (hA q z))]; exact hS.2.1 q h1 h2, fun q hq => by
      rcases List.mem_append.mp hq with h | h
      · exact hS.2.2 q h
      · exact hA _ (hL q h)⟩ T' e1 X'
  exact ⟨t2, st t2 a1, b1⟩
/-- named values behind the arithmetic -/
theorem n_iadd {x y v : Int32} (hexec : p.tables.exec = Jvm.exec) (hb : c.code = cc) (hdg : decode cc pc = .ok (.iadd, 1)) (hv : x + y = v) (k : W p l e R s m args below meth c H locs cells slots Q (F0 m (pc + 1) ls (.int v :: rest))) : W p l e R s m args below meth c H locs cells slots Q (F0 m pc ls (.int y :: .int x :: rest)) := by
  subst hv; exact lv_iadd hexec hb hdg k
theorem n_isub {x y v : Int32} (hexec : p.tables.exec = Jvm.exec) (hb : c.code = cc) (hdg : decode cc pc = .ok (.isub, 1)) (hv : x - y = v) (k : W p l e R s m args below meth c H locs cells slots Q (F0 m (pc + 1) ls (.int v :: rest))) : W p l e R s m args below meth c H locs cells slots Q (F0 m pc ls (.int y :: .int x :: rest)) := by
  subst hv; exact lv_isub hexec hb hdg k
theorem n_imul {x y v : Int32} (hexec : p.tables.exec = Jvm.exec) (hb : c.code = cc) (hdg : decode cc pc = .ok (.imul, 1)) (hv : x * y = v) (k : W p l e R s m args below meth c H locs cells slots Q (F0 m (pc + 1) ls (.int v :: rest))) : W p l e R s m args below meth c H locs cells slots Q (F0 m pc ls (.int y :: .int x :: rest)) := by
  subst hv; exact lv_imul hexec hb hdg k
theorem n_iand {x y v : Int32} (hexec : p.tables.exec = Jvm.exec) (hb : c.code = cc) (hdg : decode cc pc = .ok (.iand, 1)) (hv : x &&& y = v) (k : W p l e R s m args below meth c H locs cells slots Q (F0 m (pc + 1) ls (.int v :: rest))) : W p l e R s m args below meth c H locs cells slots Q (F0 m pc ls (.int y :: .int x :: rest)) := by
  subst hv; exact lv_iand hexec hb hdg k
theorem n_ixor {x y v : Int32} (hexec : p.tables.exec = Jvm.exec) (hb : c.code = cc) (hdg : decode cc pc = .ok (.ixor, 1)) (hv : x ^^^ y = v) (k : W p l e R s m args below meth c H locs cells slots Q (F0 m (pc + 1) ls (.int v :: rest))) : W p l e R s m args below meth c H locs cells slots Q (F0 m pc ls (.int y :: .int x :: rest)) := by
  subst hv; exact lv_ixor hexec hb hdg k
theorem n_idiv {a d : Nat} (hexec : p.tables.exec = Jvm.exec) (hb : c.code = cc) (hdg : decode cc pc = .ok (.idiv, 1)) (ha : a < 2 ^ 31) (h0 : 0 < d) (hd : d < 2 ^ 31) (k : W p l e R s m args below meth c H locs cells slots Q (F0 m (pc + 1) ls (.int (nI (a / d)) :: rest))) : W p l e R s m args below meth c H locs cells slots Q (F0 m pc ls (.int (nI d) :: .int (nI a) :: rest)) :=
  lv_idiv hexec hb hdg (nI_ne0 h0 hd) (by rw [pk_div ha h0 hd]; exact k)
theorem n_irem {a d : Nat} (hexec : p.tables.exec = Jvm.exec) (hb : c.code = cc) (hdg : decode cc pc = .ok (.irem, 1)) (ha : a < 2 ^ 31) (h0 : 0 < d) (hd : d < 2 ^ 31) (k : W p l e R s m args below meth c H locs cells slots Q (F0 m (pc + 1) ls (.int (nI (a % d)) :: rest))) : W p l e R s m args below meth c H locs cells slots Q (F0 m pc ls (.int (nI d) :: .int (nI a) :: rest)) :=
  lv_irem hexec hb hdg (nI_ne0 h0 hd) (by rw [pk_rem ha h0 hd]; exact k)
theorem n_ti {x y : Int32} (h : x = y) (k : W p l e R s m args below meth c H locs cells slots Q (F0 m pc ls (.int y :: rest))) : W p l e R s m args below meth c H locs cells slots Q (F0 m pc ls (.int x :: rest)) := by
  subst h; exact k
/-- reads of an array at a known place -/
theorem n_iald {cl : List vw_C} {W1 : va_W} {a : Nat} (hexec : p.tables.exec = Jvm.exec) (hb : c.code = cc) (hK : va_K D cl T s) (hP : va_P D cl W1 H) (q0 t0 : Nat) {cA : ClassId} {N : Nat} {f : Nat → Int32} (ha : W1[q0]? = some (a, .inl (cA, N, .inl f))) (ht : T[t0]? = some (cA, .int)) {j : Nat} (hj : j < N) (hN : N < 2 ^ 31) {v : Int32} (hv : f j = v) (hdg : decode cc pc = .ok (.iaload, 1))
    (kk : W p l e R s m args below meth c H locs cells slots Q (F0 m (pc + 1) ls (.int v :: rest))) : W p l e R s m args below meth c H locs cells slots Q (F0 m pc ls (.int (nI j) :: .ref a :: rest)) :=
  va_iald hexec hb hK hP q0 t0 ha ht (vp_in_nI hj hN) hdg (by rw [nI_clamp (Nat.lt_trans hj hN), hv]; exact kk)
theorem n_zald {cl : List vw_C} {W1 : va_W} {a : Nat} (hexec : p.tables.exec = Jvm.exec) (hb : c.code = cc) (hK : va_K D cl T s) (hP : va_P D cl W1 H) (q0 t0 : Nat) {cA : ClassId} {N : Nat} {f : Nat → Int32} (ha : W1[q0]? = some (a, .inl (cA, N, .inl f))) (ht : T[t0]? = some (cA, .boolean)) {j : Nat} (hj : j < N) (hN : N < 2 ^ 31) {v : Int32} (hv : f j = v) (hdg : decode cc pc = .ok (.baload, 1))
    (kk : W p l e R s m args below meth c H locs cells slots Q (F0 m (pc + 1) ls (.int v :: rest))) : W p l e R s m args below meth c H locs cells slots Q (F0 m pc ls (.int (nI j) :: .ref a :: rest)) :=
  va_zald hexec hb hK hP q0 t0 ha ht (vp_in_nI hj hN) hdg (by rw [nI_clamp (Nat.lt_trans hj hN), hv]; exact kk)
theorem n_aald {cl : List vw_C} {W1 : va_W} {a : Nat} {Cn : String} (hexec : p.tables.exec = Jvm.exec) (hb : c.code = cc) (hK : va_K D cl T s) (hP : va_P D cl W1 H) (q0 t0 : Nat) {cA : ClassId} {N : Nat} {f : Nat → Option Nat} (ha : W1[q0]? = some (a, .inl (cA, N, .inr (.inr (.inr (.inr f)))))) (ht : T[t0]? = some (cA, .object Cn)) {j : Nat} (hj : j < N) (hN : N < 2 ^ 31) {v : Nat} (hv : f j = some v) (hdg : decode cc pc = .ok (.aaload, 1))
    (kk : W p l e R s m args below meth c H locs cells slots Q (F0 m (pc + 1) ls (.ref v :: rest))) : W p l e R s m args below meth c H locs cells slots Q (F0 m pc ls (.int (nI j) :: .ref a :: rest)) :=
  va_aldq hexec hb hK hP q0 t0 ha ht (vp_in_nI hj hN) hdg (by rw [nI_clamp (Nat.lt_trans hj hN), hv]; exact kk)
end MyCalls
/-- worlds of few cells out of single ones -/
theorem vp1 {D : va_G} {cl : List vw_C} {q : Nat × va_E} {H : Heap} (h : va_at D cl q H) : va_P D cl [q] H := by
  intro k r hk
  match k, hk with
  | 0, hk => cases hk; exact h
theorem vpc {D : va_G} {cl : List vw_C} {q : Nat × va_E} {ws : va_W} {H : Heap} (h : va_at D cl q H) (h2 : va_P D cl ws H) : va_P D cl (q :: ws) H := by
  intro k r hk
  match k, hk with
  | 0, hk => cases hk; exact h
  | k + 1, hk => exact h2 k r hk
theorem vpa {D : va_G} {cl : List vw_C} {ws : va_W} {H : Heap} (h : va_P D cl ws H) (k : Nat) {q : Nat × va_E} (hk : ws[k]? = some q) : va_at D cl q H := h k q hk
theorem RC_of {s : State} {H : Heap} {D : va_G} {T : List (ClassId × FieldType)} {a ci : Nat} {q : vw_C} {fs : List Value} (hK : va_K D vwCl T s) (hc : vwCl[ci]? = some q) (h : va_at D vwCl (a, .inr (ci, fs)) H) : RC s H q.1 a := va_recv (q0 := 0) hK (vp1 h) hc rfl
theorem nI_inj {a b : Nat} (ha : a < 2 ^ 31) (hb : b < 2 ^ 31) (h : nI a = nI b) : a = b := (nI_eq ha hb).mp h
theorem bI_t : bI true = 1 := rfl
theorem bI_f : bI false = 0 := rfl
theorem bI_narrow (b : Bool) : narrow .boolean (.int (bI b)) = .int (bI b) := by cases b <;> rfl
theorem bI_0 {b : Bool} : bI b = 0 ↔ b = false := by cases b <;> decide
theorem bI_ne0 {b : Bool} : ¬ bI b = 0 ↔ b = true := by cases b <;> decide
theorem one_nI : (1 : Int32) = nI 1 := rfl
theorem and1 {k : Nat} (h : k < 2 ^ 31) : nI k &&& 1 = nI (k % 2) := pk_andN (k := 1) (Nat.lt_trans h (by decide)) (by decide)
section MyBranches
variable {p : Program} {l : Launch} {e : Env} {R : Room} {s : State} {m : MethodId} {args : Array Value} {below : List Frame} {meth : Method} {c : Code} {H : Heap} {locs : List Loc} {cells slots : Nat} {Q : State → Prop}
variable {cc : ByteArray} {pc tgt : Nat} {off : Int} {rest : List Value} {ls : Array Slot} {a b : Nat}
theorem n_icmp_ge (hexec : p.tables.exec = Jvm.exec) (hb' : c.code = cc) (ha : a < 2 ^ 31) (hb : b < 2 ^ 31) (hdg : decode cc pc = .ok (.if_icmp .ge off, 3)) (ht : (pc : Int) + off = (tgt : Int))
    (kt : b ≤ a → W p l e R s m args below meth c H locs cells slots Q (F0 m tgt ls rest)) (kf : a < b → W p l e R s m args below meth c H locs cells slots Q (F0 m (pc + 3) ls rest)) : W p l e R s m args below meth c H locs cells slots Q (F0 m pc ls (.int (nI b) :: .int (nI a) :: rest)) :=
  lv_icmp_ge hexec hb' hdg ht (fun h => kt ((nI_leI hb ha).mp h)) (fun h => kf (Nat.lt_of_not_le fun z => h ((nI_leI hb ha).mpr z)))
theorem n_icmp_le (hexec : p.tables.exec = Jvm.exec) (hb' : c.code = cc) (ha : a < 2 ^ 31) (hb : b < 2 ^ 31) (hdg : decode cc pc = .ok (.if_icmp .le off, 3)) (ht : (pc : Int) + off = (tgt : Int))
    (kt : a ≤ b → W p l e R s m args below meth c H locs cells slots Q (F0 m tgt ls rest)) (kf : b < a → W p l e R s m args below meth c H locs cells slots Q (F0 m (pc + 3) ls rest)) : W p l e R s m args below meth c H locs cells slots Q (F0 m pc ls (.int (nI b) :: .int (nI a) :: rest)) :=
  lv_icmp_le hexec hb' hdg ht (fun h => kt ((nI_leI ha hb).mp h)) (fun h => kf (Nat.lt_of_not_le fun z => h ((nI_leI ha hb).mpr z)))
theorem n_icmp_lt (hexec : p.tables.exec = Jvm.exec) (hb' : c.code = cc) (ha : a < 2 ^ 31) (hb : b < 2 ^ 31) (hdg : decode cc pc = .ok (.if_icmp .lt off, 3)) (ht : (pc : Int) + off = (tgt : Int))
    (kt : a < b → W p l e R s m args below meth c H locs cells slots Q (F0 m tgt ls rest)) (kf : b ≤ a → W p l e R s m args below meth c H locs cells slots Q (F0 m (pc + 3) ls rest)) : W p l e R s m args below meth c H locs cells slots Q (F0 m pc ls (.int (nI b) :: .int (nI a) :: rest)) :=
  lv_icmp_lt hexec hb' hdg ht (fun h => kt ((nI_ltI ha hb).mp h)) (fun h => kf (Nat.le_of_not_lt fun z => h ((nI_ltI ha hb).mpr z)))
theorem n_icmp_gt (hexec : p.tables.exec = Jvm.exec) (hb' : c.code = cc) (ha : a < 2 ^ 31) (hb : b < 2 ^ 31) (hdg : decode cc pc = .ok (.if_icmp .gt off, 3)) (ht : (pc : Int) + off = (tgt : Int))
    (kt : b < a → W p l e R s m args below meth c H locs cells slots Q (F0 m tgt ls rest)) (kf : a ≤ b → W p l e R s m args below meth c H locs cells slots Q (F0 m (pc + 3) ls rest)) : W p l e R s m args below meth c H locs cells slots Q (F0 m pc ls (.int (nI b) :: .int (nI a) :: rest)) :=
  lv_icmp_gt hexec hb' hdg ht (fun h => kt ((nI_ltI hb ha).mp h)) (fun h => kf (Nat.le_of_not_lt fun z => h ((nI_ltI hb ha).mpr z)))
theorem n_icmp_eq (hexec : p.tables.exec = Jvm.exec) (hb' : c.code = cc) (ha : a < 2 ^ 31) (hb : b < 2 ^ 31) (hdg : decode cc pc = .ok (.if_icmp .eq off, 3)) (ht : (pc : Int) + off = (tgt : Int))
    (kt : a = b → W p l e R s m args below meth c H locs cells slots Q (F0 m tgt ls rest)) (kf : ¬ a = b → W p l e R s m args below meth c H locs cells slots Q (F0 m (pc + 3) ls rest)) : W p l e R s m args below meth c H locs cells slots Q (F0 m pc ls (.int (nI b) :: .int (nI a) :: rest)) :=
  lv_icmp_eq hexec hb' hdg ht (fun h => kt ((nI_eq ha hb).mp h)) (fun h => kf fun z => h ((nI_eq ha hb).mpr z))
theorem n_icmp_ne (hexec : p.tables.exec = Jvm.exec) (hb' : c.code = cc) (ha : a < 2 ^ 31) (hb : b < 2 ^ 31) (hdg : decode cc pc = .ok (.if_icmp .ne off, 3)) (ht : (pc : Int) + off = (tgt : Int))
    (kt : ¬ a = b → W p l e R s m args below meth c H locs cells slots Q (F0 m tgt ls rest)) (kf : a = b → W p l e R s m args below meth c H locs cells slots Q (F0 m (pc + 3) ls rest)) : W p l e R s m args below meth c H locs cells slots Q (F0 m pc ls (.int (nI b) :: .int (nI a) :: rest)) :=
  lv_icmp_ne hexec hb' hdg ht (fun h => kt fun z => h ((nI_eq ha hb).mpr z)) (fun h => kf ((nI_eq ha hb).mp h))
theorem n_if_eq (hexec : p.tables.exec = Jvm.exec) (hb' : c.code = cc) (ha : a < 2 ^ 31) (hdg : decode cc pc = .ok (.ifCond .eq off, 3)) (ht : (pc : Int) + off = (tgt : Int))
    (kt : a = 0 → W p l e R s m args below meth c H locs cells slots Q (F0 m tgt ls rest)) (kf : ¬ a = 0 → W p l e R s m args below meth c H locs cells slots Q (F0 m (pc + 3) ls rest)) : W p l e R s m args below meth c H locs cells slots Q (F0 m pc ls (.int (nI a) :: rest)) :=
  lv_if_eq hexec hb' hdg ht (fun h => kt ((nI_eq ha (by decide)).mp h)) (fun h => kf fun z => h ((nI_eq ha (by decide)).mpr z))
theorem n_if_ne (hexec : p.tables.exec = Jvm.exec) (hb' : c.code = cc) (ha : a < 2 ^ 31) (hdg : decode cc pc = .ok (.ifCond .ne off, 3)) (ht : (pc : Int) + off = (tgt : Int))
    (kt : ¬ a = 0 → W p l e R s m args below meth c H locs cells slots Q (F0 m tgt ls rest)) (kf : a = 0 → W p l e R s m args below meth c H locs cells slots Q (F0 m (pc + 3) ls rest)) : W p l e R s m args below meth c H locs cells slots Q (F0 m pc ls (.int (nI a) :: rest)) :=
  lv_if_ne hexec hb' hdg ht (fun h => kt fun z => h ((nI_eq ha (by decide)).mpr z)) (fun h => kf ((nI_eq ha (by decide)).mp h))
theorem n_if_le (hexec : p.tables.exec = Jvm.exec) (hb' : c.code = cc) (ha : a < 2 ^ 31) (hdg : decode cc pc = .ok (.ifCond .le off, 3)) (ht : (pc : Int) + off = (tgt : Int))
    (kt : a = 0 → W p l e R s m args below meth c H locs cells slots Q (F0 m tgt ls rest)) (kf : 0 < a → W p l e R s m args below meth c H locs cells slots Q (F0 m (pc + 3) ls rest)) : W p l e R s m args below meth c H locs cells slots Q (F0 m pc ls (.int (nI a) :: rest)) :=
  lv_if_le hexec hb' hdg ht (fun h => kt (Nat.le_zero.mp ((nI_leI ha (by decide)).mp (show nI a ≤ nI 0 from h)))) (fun h => kf (Nat.pos_of_ne_zero fun z => h (by rw [z]; decide)))
theorem n_if_gt (hexec : p.tables.exec = Jvm.exec) (hb' : c.code = cc) (ha : a < 2 ^ 31) (hdg : decode cc pc = .ok (.ifCond .gt off, 3)) (ht : (pc : Int) + off = (tgt : Int))
    (kt : 0 < a → W p l e R s m args below meth c H locs cells slots Q (F0 m tgt ls rest)) (kf : a = 0 → W p l e R s m args below meth c H locs cells slots Q (F0 m (pc + 3) ls rest)) : W p l e R s m args below meth c H locs cells slots Q (F0 m pc ls (.int (nI a) :: rest)) :=
  lv_if_gt hexec hb' hdg ht (fun h => kt ((nI_ltI (by decide) ha).mp (show nI 0 < nI a from h))) (fun h => kf (Nat.eq_zero_of_not_pos fun z => h (show nI 0 < nI a from (nI_ltI (by decide) ha).mpr z)))
theorem n_if_lt (hexec : p.tables.exec = Jvm.exec) (hb' : c.code = cc) (ha : a < 2 ^ 31) (hdg : decode cc pc = .ok (.ifCond .lt off, 3)) (ht : (pc : Int) + off = (tgt : Int))
    (kf : W p l e R s m args below meth c H locs cells slots Q (F0 m (pc + 3) ls rest)) : W p l e R s m args below meth c H locs cells slots Q (F0 m pc ls (.int (nI a) :: rest)) :=
  lv_if_lt hexec hb' hdg ht (fun h => absurd h (nI_pos ha)) (fun _ => kf)
theorem b_if_eq {b : Bool} (hexec : p.tables.exec = Jvm.exec) (hb' : c.code = cc) (hdg : decode cc pc = .ok (.ifCond .eq off, 3)) (ht : (pc : Int) + off = (tgt : Int))
    (kt : b = false → W p l e R s m args below meth c H locs cells slots Q (F0 m tgt ls rest)) (kf : b = true → W p l e R s m args below meth c H locs cells slots Q (F0 m (pc + 3) ls rest)) : W p l e R s m args below meth c H locs cells slots Q (F0 m pc ls (.int (bI b) :: rest)) :=
  lv_if_eq hexec hb' hdg ht (fun h => kt (bI_0.mp h)) (fun h => kf (bI_ne0.mp h))
theorem b_if_ne {b : Bool} (hexec : p.tables.exec = Jvm.exec) (hb' : c.code = cc) (hdg : decode cc pc = .ok (.ifCond .ne off, 3)) (ht : (pc : Int) + off = (tgt : Int))
    (kt : b = true → W p l e R s m args below meth c H locs cells slots Q (F0 m tgt ls rest)) (kf : b = false → W p l e R s m args below meth c H locs cells slots Q (F0 m (pc + 3) ls rest)) : W p l e R s m args below meth c H locs cells slots Q (F0 m pc ls (.int (bI b) :: rest)) :=
  lv_if_ne hexec hb' hdg ht (fun h => kt (bI_ne0.mp h)) (fun h => kf (bI_0.mp h))
end MyBranches
/-! calls of what may throw -/
section MyThrows
variable {p : Program} {l : Launch} {e : Env} {R : Room} {s : State} {m : MethodId} {args : Array Value} {below : List Frame} {meth : Method} {c : Code} {H : Heap} {locs : List Loc} {cells slots : Nat} {Q : State → Prop}
variable {y : MethodName} {bytes cc : ByteArray} {maxL nL n index pc : Nat} {ret : Option FieldType} {ws : List Cond} {rm : Room} {Ts : List Cond} {own C : String} {b : Addr} {As rest st : List Value} {ls : Array Slot}
variable {D : va_G} {T : List (ClassId × FieldType)} {A1 : Nat → Prop} {Ph : Heap → Prop} {ok : Prop} {px px' : String → Prop} {mc ms MC MS : Nat} {a : Array Value} {Qc : Array Value → State → Outcome → State → Prop} {free : Addr → Prop}
theorem xcorev (hr : vx_Run p l e R s m args below meth c H locs cells slots mc ms (F0 m pc ls st) rest (QOkv ok a) (XC1 px) (fun _ => False))
    (kx : ∀ (E : String) (ce : Cell) (q9 : Addr) (H1 : Heap), px E → H.size ≤ H1.size → (∀ q : Nat, q < H.size → H1[q]? = H[q]?) → H1[q9]? = some ce → ce.vm = .none → s.vm.findClass E = some ce.cls → vx_W p l e R s m args below meth c H1 locs (cells + mc) (slots + ms) Q (F0 m pc ls rest) q9)
    (kk : ok → W p l e R s m args below meth c H locs (cells + mc) (slots + ms) Q (F0 m (pc + 3) ls rest)) : W p l e R s m args below meth c H locs cells slots Q (F0 m pc ls st) := by
  intro T hT X
  rcases hr T hT X with ⟨v, st₀, t, T', L, h0, X', hL, e1, e2, ⟨hok, hv, hh⟩, st⟩ | ⟨q, st₀, t, T', L, E, ce, h0, X', hL, e1, e2, ⟨hp, hz, hk⟩, hce, hcv, hcl, st⟩
  · cases hv
    obtain ⟨t2, a1, b1⟩ := kk hok T' (by rw [e1, hh, h0]) (Stand.forget X' (fun q h => (hL q h).elim))
    exact ⟨t2, st t2 a1, b1⟩
  · rw [h0] at hz hk
    obtain ⟨t2, a1, b1⟩ := kx E ce q T'.heap hp (by rw [e1]; exact hz) (fun q hq => by rw [e1]; exact hk q hq) (by rw [e1]; exact hce) hcv hcl T' rfl (Stand.forget X' (fun q h => (hL q h).elim))
    exact ⟨t2, st.trans a1, b1⟩
/-- it goes on to the caller: nothing was written -/
theorem xpass {E : String} {ce : Cell} {q9 : Addr} {H1 : Heap} (hex : ∀ x ∈ c.exceptionTable.toList, False) (hlocks : meth.locks = false) (hp : px' E) (hz : s.heap.size ≤ H1.size) (hk : ∀ q : Nat, q < s.heap.size → H1[q]? = s.heap[q]?) (hce : H1[q9]? = some ce) (hcv : ce.vm = .none) (hcl : s.vm.findClass E = some ce.cls) (hc : cells ≤ MC) (hs : slots ≤ MS) :
    vx_W p l e R s m args below meth c H1 [] cells slots (vx_MQ below Qc (XC1 px') args s MC MS free) (F0 m pc ls rest) q9 :=
  vx_out (fun x hx => (hex x hx).elim) hlocks hce hcv hcl (fun t ht _ => ⟨hp, by rw [ht]; exact hz, fun q hq => by rw [ht]; exact hk q hq⟩) (fun z hz => by cases hz) hc hs
theorem xVp (S : CallFix p m c cc nL s args Ts own) (hM : vx_Met l y ws rm (PC D T A1 (.ref b :: As) Ph) (QOkv ok) (XC1 px) mc ms (fun _ => False)) (cw : CallW R s args own C index y bytes maxL ret ws rm mc ms n) (hK : va_K D vwCl T s) (hE : EN A1 s s.heap) (hPh : Ph s.heap) (hr : RC s s.heap C b)
    (hn : As.length = n) (hsize : ls.size = nL) (hst : st = As.reverse ++ .ref b :: rest) (hW : (rest.map fun v => v.category).sum ≤ 8) (hdg : decode cc pc = .ok (.invokevirtual index, 3)) (hf : cells + mc ≤ R.cells ∧ slots + ms ≤ R.slots)
    (hex : ∀ x ∈ c.exceptionTable.toList, False) (hlocks : meth.locks = false) (hpx : ∀ E, px E → px' E) (hc : cells + mc ≤ MC) (hs : slots + ms ≤ MS)
    (kk : ok → W p l e R s m args below meth c s.heap [] (cells + mc) (slots + ms) (vx_MQ below Qc (XC1 px') args s MC MS free) (F0 m (pc + 3) ls rest)) :
    W p l e R s m args below meth c s.heap [] cells slots (vx_MQ below Qc (XC1 px') args s MC MS free) (F0 m pc ls st) :=
  xcorev (vx_runV (g := F0 m pc ls st) S hM cw ⟨PC_blind, hr, PCuse hK hE hPh⟩ rfl hn hsize hst (lv_room hW) hdg hf) (fun E ce q9 H1 hp hz hk hce hcv hcl => xpass hex hlocks (hpx E hp) hz hk hce hcv hcl hc hs) kk
theorem xSp (S : CallFix p m c cc nL s args Ts own) (hM : vx_Met l y ws rm (PC D T A1 As Ph) (QOkv ok) (XC1 px) mc ms (fun _ => False)) (cw : CallB R s args own index y bytes maxL ret ws rm mc ms n ∧ (Cond.static y).before args s = true) (hK : va_K D vwCl T s) (hE : EN A1 s s.heap) (hPh : Ph s.heap)
    (hn : As.length = n) (hsize : ls.size = nL) (hst : st = As.reverse ++ rest) (hW : (rest.map fun v => v.category).sum ≤ 8) (hdg : decode cc pc = .ok (.invokestatic index, 3)) (hf : cells + mc ≤ R.cells ∧ slots + ms ≤ R.slots)
    (hex : ∀ x ∈ c.exceptionTable.toList, False) (hlocks : meth.locks = false) (hpx : ∀ E, px E → px' E) (hc : cells + mc ≤ MC) (hs : slots + ms ≤ MS)
    (kk : ok → W p l e R s m args below meth c s.heap [] (cells + mc) (slots + ms) (vx_MQ below Qc (XC1 px') args s MC MS free) (F0 m (pc + 3) ls rest)) :
    W p l e R s m args below meth c s.heap [] cells slots (vx_MQ below Qc (XC1 px') args s MC MS free) (F0 m pc ls st) :=
  xcorev (vx_runS (g := F0 m pc ls st) S hM cw ⟨PC_blind, PCuse hK hE hPh⟩ rfl hn hsize hst (lv_room hW) hdg hf) (fun E ce q9 H1 hp hz hk hce hcv hcl => xpass hex hlocks (hpx E hp) hz hk hce hcv hcl hc hs) kk
/-- throw new X("a text"), nothing written yet -/
def thrB (X : String) : List Cond := [.declares (Bundle.initS "java/lang/RuntimeException"), .declares (Bundle.initS "java/lang/Exception"), .declares (Bundle.initS "java/lang/Throwable"), .castable X X]
abbrev atX (ic : Nat) (X : String) : List Cond := vx_atS RX1 ic X ["java/lang/RuntimeException", "java/lang/Exception"]
theorem xthrow {pc : Nat} {cls text : String} {ik is ic : Nat} (hX : cls ∈ excX) (hcls : Bundle.fit cls = true)
    (hgood : ∀ w ∈ Cond.classLink RX1 ik cls :: Cond.initialized cls :: atX ic cls, vx_ot w = true) (hnb : ∀ w ∈ (atX ic cls).filter (fun w => !goodWord w), w ∈ thrB cls)
    (hexec : p.tables.exec = Jvm.exec) (hb : c.code = cc) (hl : l.stackTraces = false)
    (hown : s.vm.findClass RX1 = some m.cls)
    (hk : (Cond.classLink RX1 ik cls).before args s = true) (hini : (Cond.initialized cls).before args s = true) (hstr : (is, text) ∈ strWs) (hg : ∀ w ∈ (atX ic cls).filter goodWord, w.before args s = true)
    (hE : EN noA s s.heap) (hsize : ls.size = c.maxLocals)
    (d0 : decode cc pc = .ok (.new ik, 3)) (d3 : decode cc (pc + 3) = .ok (.dup, 1)) (d4 : decode cc (pc + 4) = .ok (.ldc is, 2)) (d6 : decode cc (pc + 6) = .ok (.invokespecial ic, 3)) (d9 : decode cc (pc + 9) = .ok (.athrow, 1))
    (hex : ∀ x ∈ c.exceptionTable.toList, False)
    (hRframes : 5 < R.frames) (hRlocals : (rest.map fun v => v.category).sum + 82 ≤ R.locals) (hRcells : cells + 1 ≤ R.cells) (hRslots : slots + 6 ≤ R.slots) (hlocks : meth.locks = false)
    (hp : px' cls) (hc : cells + 1 ≤ MC) (hs : slots + 6 ≤ MS) :
    W p l e R s m args below meth c s.heap [] cells slots (vx_MQ below Qc (XC1 px') args s MC MS free) (F0 m pc ls rest) := by
  obtain ⟨⟨hU, hN⟩, -, ⟨⟨h5, -⟩, h9, h10⟩, -⟩ := hE
  obtain ⟨sa, hsa⟩ := h5 _ hstr
  have hB : ∀ w ∈ thrB cls, w.before args s = true := vx_c (va_Nw.use rfl (h9 _ (List.mem_of_getElem? (i := 0) rfl))) (vx_c (va_Nw.use rfl (h9 _ (List.mem_of_getElem? (i := 1) rfl))) (vx_c (va_Nw.use rfl (h9 _ (List.mem_of_getElem? (i := 2) rfl))) (vx_c (va_Nw.use rfl (h10 _ hX)) vx_n)))
  exact vx_throwS hexec hb hl hown hcls (by decide +kernel) hk hini hsa (vx_hat hg hnb hB) hgood hU hN va_S.rf hsize d0 d3 d4 d6 d9 (fun x hx => (hex x hx).elim) hRframes hRlocals hRcells hRslots hlocks
    (fun t _ hz hk2 => ⟨hp, hz, hk2⟩) (fun z hz => by cases hz) hc hs
theorem gISE : ∀ w ∈ Cond.classLink RX1 24 tISE :: Cond.initialized tISE :: atX 28 tISE, vx_ot w = true := by decide +kernel
theorem nISE : ∀ w ∈ (atX 28 tISE).filter (fun w => !goodWord w), w ∈ thrB tISE := by decide +kernel
theorem gIOB : ∀ w ∈ Cond.classLink RX1 141 tIOB :: Cond.initialized tIOB :: atX 145 tIOB, vx_ot w = true := by decide +kernel
theorem nIOB : ∀ w ∈ (atX 145 tIOB).filter (fun w => !goodWord w), w ∈ thrB tIOB := by decide +kernel
theorem gIAE : ∀ w ∈ Cond.classLink RX1 148 tIAE :: Cond.initialized tIAE :: atX 152 tIAE, vx_ot w = true := by decide +kernel
theorem nIAE : ∀ w ∈ (atX 152 tIAE).filter (fun w => !goodWord w), w ∈ thrB tIAE := by decide +kernel
theorem fISE : Bundle.fit tISE = true := by decide +kernel
theorem fIOB : Bundle.fit tIOB = true := by decide +kernel
theorem fIAE : Bundle.fit tIAE = true := by decide +kernel
theorem xISE : tISE ∈ excX := List.mem_of_getElem? (i := 0) rfl
theorem xIOB : tIOB ∈ excX := List.mem_of_getElem? (i := 1) rfl
theorem xIAE : tIAE ∈ excX := List.mem_of_getElem? (i := 2) rfl
end MyThrows
theorem nI_inc (a : Nat) : nI a + Int32.ofInt 1 = nI (a + 1) := nI_1 a
theorem bI_fits (b : Bool) : fits .boolean (.int (bI b)) = true := by cases b <;> rfl
theorem bI_nar (b : Bool) : vp_nar .boolean (bI b) = bI b := by cases b <;> rfl
section MyStores
variable {p : Program} {l : Launch} {e : Env} {R : Room} {s : State} {m : MethodId} {args : Array Value} {below : List Frame} {meth : Method} {c : Code} {H : Heap} {locs : List Loc} {cells slots : Nat} {Q : State → Prop}
variable {cc : ByteArray} {pc : Nat} {ls : Array Slot} {rest : List Value} {D : va_G} {cl : List vw_C} {A : Nat → Prop} {a : Nat} {T : List (ClassId × FieldType)} {W1 : va_W} {H0 : Heap}
theorem n_iast (hexec : p.tables.exec = Jvm.exec) (hb : c.code = cc) (hK : va_K D cl T s) (hP : va_P D cl W1 H) (hD : va_D A W1) (hS : va_S A H0 H locs) (q0 t0 : Nat) {cA : ClassId} {N : Nat} {f f' : Nat → Int32} (ha : W1[q0]? = some (a, .inl (cA, N, .inl f))) (ht : T[t0]? = some (cA, .int)) {j : Nat} {x : Int32} (hj : j < N) (hN : N < 2 ^ 31) (hf : upd f j x = f') (hdg : decode cc pc = .ok (.iastore, 1))
    (kk : ∀ (H1 : Heap) (locs1 : List Loc), va_P D cl (W1.set q0 (a, .inl (cA, N, .inl f'))) H1 → va_D A (W1.set q0 (a, .inl (cA, N, .inl f'))) → va_S A H0 H1 locs1 → W p l e R s m args below meth c H1 locs1 cells slots Q (F0 m (pc + 1) ls rest)) : W p l e R s m args below meth c H locs cells slots Q (F0 m pc ls (.int x :: .int (nI j) :: .ref a :: rest)) :=
  va_iast hexec hb hK hP hD hS q0 t0 ha ht (vp_in_nI hj hN) hdg (by rw [nI_clamp (Nat.lt_trans hj hN), hf]; exact kk)
theorem n_zast (hexec : p.tables.exec = Jvm.exec) (hb : c.code = cc) (hK : va_K D cl T s) (hP : va_P D cl W1 H) (hD : va_D A W1) (hS : va_S A H0 H locs) (q0 t0 : Nat) {cA : ClassId} {N : Nat} {f f' : Nat → Int32} (ha : W1[q0]? = some (a, .inl (cA, N, .inl f))) (ht : T[t0]? = some (cA, .boolean)) {j : Nat} {b : Bool} (hj : j < N) (hN : N < 2 ^ 31) (hf : upd f j (bI b) = f') (hdg : decode cc pc = .ok (.bastore, 1))
    (kk : ∀ (H1 : Heap) (locs1 : List Loc), va_P D cl (W1.set q0 (a, .inl (cA, N, .inl f'))) H1 → va_D A (W1.set q0 (a, .inl (cA, N, .inl f'))) → va_S A H0 H1 locs1 → W p l e R s m args below meth c H1 locs1 cells slots Q (F0 m (pc + 1) ls rest)) : W p l e R s m args below meth c H locs cells slots Q (F0 m pc ls (.int (bI b) :: .int (nI j) :: .ref a :: rest)) :=
  va_zast hexec hb hK hP hD hS q0 t0 ha ht (vp_in_nI hj hN) hdg (by rw [nI_clamp (Nat.lt_trans hj hN), bI_nar, hf]; exact kk)
theorem n_last (hexec : p.tables.exec = Jvm.exec) (hb : c.code = cc) (hK : va_K D cl T s) (hP : va_P D cl W1 H) (hD : va_D A W1) (hS : va_S A H0 H locs) (q0 t0 : Nat) {cA : ClassId} {N : Nat} {f f' : Nat → Int64} (ha : W1[q0]? = some (a, .inl (cA, N, .inr (.inl f)))) (ht : T[t0]? = some (cA, .long)) {j : Nat} {x : Int64} (hj : j < N) (hN : N < 2 ^ 31) (hf : vp_updL f j x = f') (hdg : decode cc pc = .ok (.lastore, 1))
    (kk : ∀ (H1 : Heap) (locs1 : List Loc), va_P D cl (W1.set q0 (a, .inl (cA, N, .inr (.inl f')))) H1 → va_D A (W1.set q0 (a, .inl (cA, N, .inr (.inl f')))) → va_S A H0 H1 locs1 → W p l e R s m args below meth c H1 locs1 cells slots Q (F0 m (pc + 1) ls rest)) : W p l e R s m args below meth c H locs cells slots Q (F0 m pc ls (.long x :: .int (nI j) :: .ref a :: rest)) :=
  va_last hexec hb hK hP hD hS q0 t0 ha ht (vp_in_nI hj hN) hdg (by rw [nI_clamp (Nat.lt_trans hj hN), hf]; exact kk)
theorem n_ti6 {t : Nat} (hexec : p.tables.exec = Jvm.exec) (hb : c.code = cc) (hT : va_T .int t 6 (fun j => .int (nI (NUMf j))) A s s.heap) (hS : va_S A s.heap H locs) {j : Nat} (hj : j < 6) (hdg : decode cc pc = .ok (.iaload, 1))
    (kk : W p l e R s m args below meth c H locs cells slots Q (F0 m (pc + 1) ls (.int (nI (NUMf j)) :: rest))) : W p l e R s m args below meth c H locs cells slots Q (F0 m pc ls (.int (nI j) :: .ref t :: rest)) :=
  va_ti hexec hb hT hS (vp_in_nI hj (by decide)) (v := .int (nI (NUMf j))) (by rw [nI_clamp (Nat.lt_trans hj (by decide))]) hdg kk
end MyStores
/-- worlds of few cells, apart -/
theorem vd1 {a : Nat} {x : va_E} : va_D (fun q => q ∈ [a]) [(a, x)] := by
  refine ⟨fun i j p q hi hj _ => ?_, fun k q hk => ?_⟩
  · match i, j, hi, hj with
    | 0, 0, _, _ => rfl
  · match k, hk with
    | 0, hk => cases hk; exact List.mem_cons_self
theorem vdN {ws : va_W} (h : (ws.map (fun q => q.1)).Nodup) : va_D (fun q => q ∈ ws.map (fun q => q.1)) ws := by
  refine ⟨fun i j p q hi hj hpq => ?_, fun k q hk => ?_⟩
  · have h1 : (ws.map (fun q => q.1))[i]? = some p.1 := by rw [List.getElem?_map, hi]; rfl
    have h2 : (ws.map (fun q => q.1))[j]? = some p.1 := by rw [List.getElem?_map, hj, hpq]; rfl
    obtain ⟨li, e1⟩ := List.getElem?_eq_some_iff.mp h1
    obtain ⟨lj, e2⟩ := List.getElem?_eq_some_iff.mp h2
    have hh := List.pairwise_iff_getElem.mp h
    rcases Nat.lt_trichotomy i j with q | q | q
    · exact absurd (e1.trans e2.symm) (hh i j li lj q)
    · exact q
    · exact absurd (e2.trans e1.symm) (hh j i lj li q)
  · exact List.mem_map.mpr ⟨q, List.mem_of_getElem? hk, rfl⟩
theorem vd3 {a b c : Nat} {x y z : va_E} (h1 : a ≠ b) (h2 : a ≠ c) (h3 : b ≠ c) : va_D (fun q => q ∈ [a, b, c]) [(a, x), (b, y), (c, z)] :=
  vdN (ws := [(a, x), (b, y), (c, z)]) (by simp [h1, h2, h3])
theorem nI_xor (a b : Nat) : nI a ^^^ nI b = nI (a ^^^ b) := by
  apply Int32.toBitVec_inj.mp
  simp [nI]
theorem shl1 {o : Nat} (h : o < 14) : (nI 1) <<< (nI o &&& 31) = nI (2 ^ o) := by
  have : ∀ o, o < 14 → (nI 1) <<< (nI o &&& 31) = nI (2 ^ o) := by decide +kernel
  exact this o h
theorem updI (f : Nat → Nat) (k x : Nat) : upd (fun i => nI (f i)) k (nI x) = fun i => nI (if i = k then x else f i) := by
  funext j
  unfold upd
  split <;> rfl
section MyWrites
variable {p : Program} {l : Launch} {e : Env} {R : Room} {s : State} {m : MethodId} {args : Array Value} {below : List Frame} {meth : Method} {c : Code} {H : Heap} {locs : List Loc} {cells slots : Nat} {Q : State → Prop}
variable {y : MethodName} {bytes cc : ByteArray} {maxL nL n index pc : Nat} {ret : Option FieldType} {ws : List Cond} {rm : Room} {Ts : List Cond} {own C : String} {b : Addr} {As rest st : List Value} {ls : Array Slot}
variable {D : va_G} {T : List (ClassId × FieldType)} {A0 A1 : Nat → Prop} {Ph Pn : Heap → Prop} {H0 : Heap} {mc ms : Nat}
theorem wVv (S : CallFix p m c cc nL s args Ts own) (hM : Met l y ws rm (PC D T A1 (.ref b :: As) Ph) (QWv A1 Pn) 0 0 A1) (cw : CallW R s args own C index y bytes maxL ret ws rm 0 0 n) (hK : va_K D vwCl T s) (hE : EN A1 s H) (hPh : Ph H) (hr : RC s H C b)
    (hn : As.length = n) (hsize : ls.size = nL) (hst : st = As.reverse ++ .ref b :: rest) (hW : (rest.map fun v => v.category).sum ≤ 8) (hdg : decode cc pc = .ok (.invokevirtual index, 3)) (hf : cells ≤ R.cells ∧ slots ≤ R.slots) (hS : va_S A0 H0 H locs) (hA : ∀ q, A1 q → A0 q)
    (kk : ∀ (H1 : Heap) (locs1 : List Loc), Pn H1 → H.size ≤ H1.size → (∀ q : Nat, q < H.size → ¬ A1 q → H1[q]? = H[q]?) → va_S A0 H0 H1 locs1 → W p l e R s m args below meth c H1 locs1 cells slots Q (F0 m (pc + 3) ls rest)) : W p l e R s m args below meth c H locs cells slots Q (F0 m pc ls st) :=
  callWv (g := F0 m pc ls st) (W.runV S hM cw ⟨PC_blind, hr, PCuse hK hE hPh⟩ rfl hn hsize hst (lv_room hW) hdg hf) hS hA kk
theorem wV {ok : Prop} {r : Int32} (S : CallFix p m c cc nL s args Ts own) (hM : Met l y ws rm (PC D T A1 (.ref b :: As) Ph) (QW A1 ok r Pn) 0 0 A1) (cw : CallW R s args own C index y bytes maxL ret ws rm 0 0 n) (hK : va_K D vwCl T s) (hE : EN A1 s H) (hPh : Ph H) (hr : RC s H C b)
    (hn : As.length = n) (hsize : ls.size = nL) (hst : st = As.reverse ++ .ref b :: rest) (hW : (rest.map fun v => v.category).sum ≤ 8) (hdg : decode cc pc = .ok (.invokevirtual index, 3)) (hf : cells ≤ R.cells ∧ slots ≤ R.slots) (hS : va_S A0 H0 H locs) (hA : ∀ q, A1 q → A0 q)
    (kk : ∀ (H1 : Heap) (locs1 : List Loc), ok → Pn H1 → H.size ≤ H1.size → (∀ q : Nat, q < H.size → ¬ A1 q → H1[q]? = H[q]?) → va_S A0 H0 H1 locs1 → W p l e R s m args below meth c H1 locs1 cells slots Q (F0 m (pc + 3) ls (.int r :: rest))) : W p l e R s m args below meth c H locs cells slots Q (F0 m pc ls st) :=
  callW' (g := F0 m pc ls st) (W.runV S hM cw ⟨PC_blind, hr, PCuse hK hE hPh⟩ rfl hn hsize hst (lv_room hW) hdg hf) hS hA kk
end MyWrites
