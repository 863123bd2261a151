section
-- ===== PART A: goes FIRST, ahead of the names: the tables' words, and 'selects' of the private methods out of them =====
/-- a private method of a class that the tables say can be made, by its rows of tables_1 -/
def lw_okq (q : MethodName × Nat) : Prop := (q.1.cls ≠ "java/lang/invoke/MethodHandle" ∧ q.1.cls ≠ "java/lang/invoke/VarHandle") ∧ Cond.instantiable q.1.cls q.2 ∈ tables_1 ∧ Cond.privateMethod q.1 ∈ tables_1 ∧ Cond.instanceMethod q.1 ∈ tables_1
theorem lw_p0 : lw_okq (⟨"LanternPrimes", "needLamp", "(I)V"⟩, 5) := ⟨⟨by decide +kernel, by decide +kernel⟩, List.mem_of_getElem? (i := 11) (by decide +kernel), List.mem_of_getElem? (i := 68) (by decide +kernel), List.mem_of_getElem? (i := 69) (by decide +kernel)⟩
theorem lw_p1 : lw_okq (⟨"java/lang/Throwable", "fillInStackTrace", "(I)Ljava/lang/Throwable;"⟩, 6) := ⟨⟨by decide +kernel, by decide +kernel⟩, List.mem_of_getElem? (i := 110) (by decide +kernel), List.mem_of_getElem? (i := 108) (by decide +kernel), List.mem_of_getElem? (i := 109) (by decide +kernel)⟩
theorem lw_p2 : lw_okq (⟨"LanternPrimes", "changesOfLamps", "(I)I"⟩, 5) := ⟨⟨by decide +kernel, by decide +kernel⟩, List.mem_of_getElem? (i := 11) (by decide +kernel), List.mem_of_getElem? (i := 163) (by decide +kernel), List.mem_of_getElem? (i := 164) (by decide +kernel)⟩
theorem lw_p3 : lw_okq (⟨"LanternPrimes", "litCount", "(I)I"⟩, 5) := ⟨⟨by decide +kernel, by decide +kernel⟩, List.mem_of_getElem? (i := 11) (by decide +kernel), List.mem_of_getElem? (i := 214) (by decide +kernel), List.mem_of_getElem? (i := 215) (by decide +kernel)⟩
theorem lw_p4 : lw_okq (⟨"LanternPrimes", "darkAt", "(II)Z"⟩, 5) := ⟨⟨by decide +kernel, by decide +kernel⟩, List.mem_of_getElem? (i := 11) (by decide +kernel), List.mem_of_getElem? (i := 222) (by decide +kernel), List.mem_of_getElem? (i := 223) (by decide +kernel)⟩
theorem lw_p5 : lw_okq (⟨"LanternPrimes$Lamp", "changeCycle", "()I"⟩, 5) := ⟨⟨by decide +kernel, by decide +kernel⟩, List.mem_of_getElem? (i := 20) (by decide +kernel), List.mem_of_getElem? (i := 252) (by decide +kernel), List.mem_of_getElem? (i := 253) (by decide +kernel)⟩
theorem lw_p6 : lw_okq (⟨"LanternPrimes$Lamp", "turningRemainders", "(I)I"⟩, 5) := ⟨⟨by decide +kernel, by decide +kernel⟩, List.mem_of_getElem? (i := 20) (by decide +kernel), List.mem_of_getElem? (i := 258) (by decide +kernel), List.mem_of_getElem? (i := 259) (by decide +kernel)⟩
theorem lw_p7 : lw_okq (⟨"LanternPrimes", "needPair", "(II)V"⟩, 5) := ⟨⟨by decide +kernel, by decide +kernel⟩, List.mem_of_getElem? (i := 11) (by decide +kernel), List.mem_of_getElem? (i := 284) (by decide +kernel), List.mem_of_getElem? (i := 285) (by decide +kernel)⟩
theorem lw_p8 : lw_okq (⟨"LanternPrimes", "collideAt", "(III)Z"⟩, 5) := ⟨⟨by decide +kernel, by decide +kernel⟩, List.mem_of_getElem? (i := 11) (by decide +kernel), List.mem_of_getElem? (i := 289) (by decide +kernel), List.mem_of_getElem? (i := 290) (by decide +kernel)⟩
theorem lw_p9 : lw_okq (⟨"LanternPrimes$Lamp", "appendBeatsOf", "(LLanternPrimes$Lamp;)V"⟩, 5) := ⟨⟨by decide +kernel, by decide +kernel⟩, List.mem_of_getElem? (i := 20) (by decide +kernel), List.mem_of_getElem? (i := 305) (by decide +kernel), List.mem_of_getElem? (i := 306) (by decide +kernel)⟩
theorem lw_p10 : lw_okq (⟨"LanternPrimes", "darkMoments", "(II)I"⟩, 5) := ⟨⟨by decide +kernel, by decide +kernel⟩, List.mem_of_getElem? (i := 11) (by decide +kernel), List.mem_of_getElem? (i := 321) (by decide +kernel), List.mem_of_getElem? (i := 322) (by decide +kernel)⟩
theorem lw_p11 : lw_okq (⟨"LanternPrimes", "mixedWithLamp", "(JLLanternPrimes$Lamp;)J"⟩, 5) := ⟨⟨by decide +kernel, by decide +kernel⟩, List.mem_of_getElem? (i := 11) (by decide +kernel), List.mem_of_getElem? (i := 338) (by decide +kernel), List.mem_of_getElem? (i := 339) (by decide +kernel)⟩
theorem lw_p12 : lw_okq (⟨"LanternPrimes", "needBeat", "(II)V"⟩, 5) := ⟨⟨by decide +kernel, by decide +kernel⟩, List.mem_of_getElem? (i := 11) (by decide +kernel), List.mem_of_getElem? (i := 375) (by decide +kernel), List.mem_of_getElem? (i := 376) (by decide +kernel)⟩
def lw_privs_1 : List (MethodName × Nat) := [(⟨"LanternPrimes", "needLamp", "(I)V"⟩, 5), (⟨"java/lang/Throwable", "fillInStackTrace", "(I)Ljava/lang/Throwable;"⟩, 6), (⟨"LanternPrimes", "changesOfLamps", "(I)I"⟩, 5), (⟨"LanternPrimes", "litCount", "(I)I"⟩, 5), (⟨"LanternPrimes", "darkAt", "(II)Z"⟩, 5), (⟨"LanternPrimes$Lamp", "changeCycle", "()I"⟩, 5), (⟨"LanternPrimes$Lamp", "turningRemainders", "(I)I"⟩, 5), (⟨"LanternPrimes", "needPair", "(II)V"⟩, 5), (⟨"LanternPrimes", "collideAt", "(III)Z"⟩, 5), (⟨"LanternPrimes$Lamp", "appendBeatsOf", "(LLanternPrimes$Lamp;)V"⟩, 5), (⟨"LanternPrimes", "darkMoments", "(II)I"⟩, 5), (⟨"LanternPrimes", "mixedWithLamp", "(JLLanternPrimes$Lamp;)J"⟩, 5), (⟨"LanternPrimes", "needBeat", "(II)V"⟩, 5)]
theorem lw_r1 : ∀ q ∈ lw_privs_1, lw_okq q := List.forall_mem_cons.mpr ⟨lw_p0, List.forall_mem_cons.mpr ⟨lw_p1, List.forall_mem_cons.mpr ⟨lw_p2, List.forall_mem_cons.mpr ⟨lw_p3, List.forall_mem_cons.mpr ⟨lw_p4, List.forall_mem_cons.mpr ⟨lw_p5, List.forall_mem_cons.mpr ⟨lw_p6, List.forall_mem_cons.mpr ⟨lw_p7, List.forall_mem_cons.mpr ⟨lw_p8, List.forall_mem_cons.mpr ⟨lw_p9, List.forall_mem_cons.mpr ⟨lw_p10, List.forall_mem_cons.mpr ⟨lw_p11, List.forall_mem_cons.mpr ⟨lw_p12, fun _ h => absurd h List.not_mem_nil⟩⟩⟩⟩⟩⟩⟩⟩⟩⟩⟩⟩⟩
def lw_privs : List (MethodName × Nat) := lw_privs_1
def lw_tbl : List Cond := k2_sels lw_privs ++ tables_1
theorem lw_privs_ok : ∀ q ∈ lw_privs, lw_okq q := lw_r1
/-- the streams that the claim lets the run draw from -/
abbrev lw_cs : List Choice := [Jvm.Choice.named "NaN.bits"]
theorem lw_bits : nanBits ∈ lw_cs := by first | decide | exact List.mem_cons_self | simp [lw_cs, nanBits]
/-! ===== BEGIN words of one list among another's, by their places ===== -/
theorem goodIn_r {big : List Cond} (ws : List Cond) (ps : List Nat) (hp : ws = ps.filterMap (fun i => big[i]?)) (h : ws.all goodWord = true) : GoodIn big ws := by
  intro w hw
  have h1 := List.all_eq_true.mp h w hw
  rw [hp] at hw
  obtain ⟨i, -, hi⟩ := List.mem_filterMap.mp hw
  have hm : w ∈ big := by first | exact List.mem_of_getElem? hi | exact List.getElem?_mem hi
  exact ⟨hm, good_of_word h1⟩
theorem goodIn_app {big a b : List Cond} (ha : GoodIn big a) (hb : GoodIn big b) : GoodIn big (a ++ b) := fun w h => (List.mem_append.mp h).elim (ha w) (hb w)
theorem goodIn_ca {big a b : List Cond} {c : Cond} (ha : GoodIn big (c :: a)) (hb : GoodIn big b) : GoodIn big (c :: (a ++ b)) := fun w h => (List.mem_cons.mp h).elim (fun e => ha w (List.mem_cons.mpr (Or.inl e))) (fun h => (List.mem_append.mp h).elim (fun h => ha w (List.mem_cons.mpr (Or.inr h))) (hb w))
theorem goodIn_sub {big ws : List Cond} (hm : ∀ w ∈ ws, w ∈ big) (h : ws.all goodWord = true) : GoodIn big ws := fun w hw => ⟨hm w hw, good_of_word (List.all_eq_true.mp h w hw)⟩
/-! ===== END ===== -/

/-! ===== BEGIN exceptions that leave a method, and their catching by the caller (launches without stack traces) ===== -/
section VXA
/-! The laws vx_back, vx_callV, vx_callS, vx_callSW, vx_throw0, vx_throwS follow proofs of the library, with one case more: JvmDerived/Free/Laws.lean (Back.of_free), Shelf42/LK1.lean (callV, callS), Shelf/KitTraced.lean (throwNew0V, throwNewS). -/
/-- where a method has thrown q: the class by its name, the cell, what was written, the world -/
def vx_T (XC : String → State → State → Prop) (st : State) (q : Addr) (t : State) (mc ms : Nat) (free : Addr → Prop) : Prop :=
  ∃ (E : String) (ce : Cell) (L : List Loc), XC E st t ∧ t.heap[q]? = some ce ∧ ce.vm = .none ∧ st.vm.findClass E = some ce.cls ∧ st.WarmedH t.vm ∧ st.sameButNew ({ t with vm := st.vm } : State) L mc ms ∧ ∀ z ∈ L, free z.base
def vx_Q (Qc : Array Value → State → Outcome → State → Prop) (XC : String → State → State → Prop) (mc ms : Nat) (free : Addr → Prop) : Array Value → State → Outcome → State → Prop := fun a st o t =>
  (Qc a st o t ∧ ∃ L, FrameEnd st o t L mc ms ∧ ∀ q ∈ L, free q.base) ∨ ∃ q, o = .threw q ∧ vx_T XC st q t mc ms free
/-- a callee that returns or throws -/
def vx_Met (l : Launch) (y : MethodName) (ws : List Cond) (rm : Room) (Pc : Array Value → State → Prop) (Qc : Array Value → State → Outcome → State → Prop) (XC : String → State → State → Prop) (mc ms : Nat) (free : Addr → Prop) : Prop :=
  MetFree l y (headSpec ws rm) Pc (fun _ _ _ _ _ => True) (vx_Q Qc XC mc ms free)
def vx_Post (XC : String → State → State → Prop) (mc ms : Nat) (free : Addr → Prop) : Pt → Array Value → Addr → Pt → Prop := fun A a q B =>
  ∃ (g : JFrame) (mk : MethodId) (t : State) (L : List Loc) (E : String) (ce : Cell), B.U.heap = t.heap ∧ B.U.vm = t.vm ∧ XC E (A.U.calling g mk a) t ∧ t.heap[q]? = some ce ∧ ce.vm = .none ∧ A.U.vm.findClass E = some ce.cls ∧ B.locs = A.locs ++ L ∧ (∀ z ∈ L, free z.base) ∧ B.cells = A.cells + mc ∧ B.slots = A.slots + ms
def vx_Back (l : Launch) (R : Room) (p : Program) (e : Env) (below : List Frame) (s : State) (sargs : Array Value) (y : MethodName) (len W9 : Nat)
    (Pre : Pt → Array Value → Prop) (Post : Pt → Array Value → Option Value → Pt → Prop) (PostX : Pt → Array Value → Addr → Pt → Prop) : Prop :=
  ∀ (m : MethodId) (meth : Method) (c : Code) (A : Pt) (g : JFrame) (ig : Instr) (mk : MethodId) (a : Array Value),
    Stand p l e R s m sargs below meth c A.U A.locs A.cells A.slots → g.method = m → g.locals.size = c.maxLocals → decode c.code g.pc = .ok (ig, len) →
    2 * g.monitorRoom + (g.stack.map fun v => v.category).sum ≤ W9 → A.U.methodNamed? y = some mk → Pre A a →
    (∃ (v : Option Value) (B : Pt), Stand p l e R s m sargs below meth c B.U B.locs B.cells B.slots ∧ Post A a v B ∧
      Steps p.tables e below (doInvoke e (A.U.setTop g) [] mk a).1 (B.U.setTop { g with pc := g.pc + len, stack := v.toList ++ g.stack })) ∨
    (∃ (q : Addr) (B : Pt), Stand p l e R s m sargs below meth c B.U B.locs B.cells B.slots ∧ PostX A a q B ∧
      Steps p.tables e below (doInvoke e (A.U.setTop g) [] mk a).1 ((B.U.setTop g).pushFrame (.throwing q)))
section Payer
variable {l : Launch} {R : Room} {p : Program} {e : Env} {below : List Frame} {s : State} {sargs : Array Value} {y : MethodName} {len W9 : Nat}
theorem vx_back {ws : List Cond} {rm : Room} {Pc : Array Value → State → Prop} {Qc : Array Value → State → Outcome → State → Prop} {XC : String → State → State → Prop} {mc ms : Nat} {free : Addr → Prop} {bytes : ByteArray} {maxL : Nat} {ret : Option FieldType}
    (hM : vx_Met l y ws rm Pc Qc XC mc ms free) (hblind : FrameBlind Pc) (hrc : rm.cells = mc) (hrs : rm.slots = ms)
    (hframes : rm.frames + 1 ≤ R.frames) (hlocals : W9 + (maxL + 11) + rm.locals ≤ R.locals)
    (hws : ∀ w ∈ ws, ∀ a' U, s.WarmedH U.vm → w.before a' U = true) (hcode : Cond.code y bytes maxL ret ∈ ws) (hinit : ∀ a' U, s.WarmedH U.vm → (Cond.initialized y.cls).before a' U = true) :
    vx_Back l R p e below s sargs y len W9 (PreOf R mc ms Pc) (PostOf Qc mc ms free) (vx_Post XC mc ms free) := by
  intro m meth c A g ig mk a X hg hsize hdg hW hn hp
  have h1 : (headSpec ws rm).pre.before a A.U = true := atoms_intro fun w hw => hws w hw _ _ X.warmed
  have h2 : (Cond.code y bytes maxL ret).before a A.U = true := hws _ hcode _ _ X.warmed
  have h3 : (Cond.initialized y.cls).before a A.U = true := hinit _ _ X.warmed
  have h4 : A.cells + (headSpec ws rm).room.cells ≤ R.cells := by rw [show (headSpec ws rm).room.cells = mc from hrc]; exact hp.1
  have h5 : A.slots + (headSpec ws rm).room.slots ≤ R.slots := by rw [show (headSpec ws rm).room.slots = ms from hrs]; exact hp.2.1
  have hPc : Pc a (A.U.calling g mk a) := hblind _ _ _ _ hp.2.2
  obtain ⟨U, Ls, c0, s0⟩ := A
  dsimp only [Pt.U, Pt.locs, Pt.cells, Pt.slots] at h1 h2 h3 h4 h5 X hn hPc ⊢
  obtain ⟨methY, cY, hmY, hcY, -, hlY, -, -, -, -⟩ := Cond.code_spec hn h2
  obtain ⟨kY, hkY, -⟩ := className_of_methodNamed hn
  have hinitY : kY.init = .initialized := Cond.initialized_spec (findClass_of_methodNamed hn) hkY h3
  have h : At U g.method c below := by rw [hg]; exact X.here
  have hlocals9 : W9 + (maxL + 11) + (headSpec ws rm).room.locals ≤ R.locals := hlocals
  have happ : (headSpec ws rm).appliesLoose y e.platform (U.calling g mk a) = true :=
    Spec.appliesLoose_calling (g := g) h hdg hn hkY hinitY
      (X.room_calling (g := g) (R' := (headSpec ws rm).room) hsize hmY hcY hframes (by rw [hlY]; omega) h4 h5) h1
  obtain ⟨mid, hmid⟩ := h.above
  have hfr : (U.setTop g).frames = (.java g :: mid) ++ below := by rw [State.frames_setTop' g h.top, hmid]; rfl
  obtain ⟨o, s₂, hsteps, -, hend, hq⟩ := Steps.callFree hM p X.admits X.cas X.clock (acts := []) hfr happ hPc trivial
  have hq' : vx_Q Qc XC mc ms free a (U.calling g mk a) o s₂ := hq
  rw [State.frames_setTop' g h.top] at hend
  obtain ⟨g₀, hg0⟩ := Option.isSome_iff_exists.mp h.top
  obtain ⟨r, hr⟩ := State.topJava?_eq_some.mp hg0
  have hr' : (({ U with heap := s₂.heap, slotsUsed := s₂.slotsUsed } : State).setVm s₂.vm).frames = .java g₀ :: r := hr
  rcases hq' with ⟨hqc, L, hfe, hL⟩ | ⟨q, rfl, E, ce, L, hx, hce, hcv, hcl, hW₂, hsm, hL⟩
  · obtain ⟨⟨v, rfl⟩, hW₂, e2, q2, q3, q4, q5, q6⟩ := id hfe
    have e3 : s₂ = ({ (U.calling g mk a).setFrames s₂.frames with heap := s₂.heap, slotsUsed := s₂.slotsUsed } : State).setVm s₂.vm := by
      have : s₂ = ({ s₂ with vm := (U.calling g mk a).vm } : State).setVm s₂.vm := rfl
      rw [e2] at this
      exact this
    obtain ⟨c₂, i₂, len₂, hc₂, hd₂, hf₂⟩ := hend
    have hW' : U.WarmedH s₂.vm := hW₂
    have hcc : c₂ = c := by
      have h1 : s₂.code? g.method = U.code? g.method := by
        rw [State.code?_eq, State.code?_eq, hW'.alike.method?]
      exact Option.some.inj (hc₂.symm.trans (h1.trans h.code))
    subst hcc
    have hlen : len₂ = len := by rw [hdg] at hd₂; cases hd₂; rfl
    subst hlen
    have hs₂ : s₂ = (({ U with heap := s₂.heap, slotsUsed := s₂.slotsUsed } : State).setVm s₂.vm).setTop { g with pc := g.pc + len₂, stack := v.toList ++ g.stack } := by
      refine e3.trans ?_
      rw [hf₂, State.calling_eq h.top, State.setFrames_setFrames, State.setTop_of_frames _ hr', hr]
      rfl
    have hsame : U.sameButNew ({ U with heap := s₂.heap, slotsUsed := s₂.slotsUsed } : State) L mc ms := by
      refine ⟨?_, q2, q3, q4, q5, q6⟩
      obtain ⟨t, ht, -⟩ := State.frames_cons hr
      show ({ U with heap := s₂.heap, slotsUsed := s₂.slotsUsed } : State) = { U.setFrames U.frames with heap := s₂.heap, slotsUsed := s₂.slotsUsed }
      rw [State.setFrames_self ht]
    subst hg
    refine Or.inl ⟨v, ⟨(({ U with heap := s₂.heap, slotsUsed := s₂.slotsUsed } : State).setVm s₂.vm), Ls ++ L, c0 + mc, s0 + ms⟩,
      ⟨X.admits, X.cas, X.clock, X.frames, X.room, X.hears, X.method, X.code, (X.here.setHeapUsed s₂.heap s₂.slotsUsed).setVm hW'.alike, X.tail, State.WarmedH.trans X.warmed hW', X.limits, X.bytes, X.same.trans (hsame.setVm s.vm)⟩,
      ⟨g, mk, s₂, L, rfl, rfl, hqc, rfl, hL, rfl, rfl⟩, ?_⟩
    show Steps p.tables e below _ ((({ U with heap := s₂.heap, slotsUsed := s₂.slotsUsed } : State).setVm s₂.vm).setTop { g with pc := g.pc + len₂, stack := v.toList ++ g.stack })
    rw [← hs₂]
    exact hsteps
  · obtain ⟨e2, q2, q3, q4, q5, q6⟩ := id hsm
    have e3 : s₂ = ({ (U.calling g mk a).setFrames s₂.frames with heap := s₂.heap, slotsUsed := s₂.slotsUsed } : State).setVm s₂.vm := by
      have : s₂ = ({ s₂ with vm := (U.calling g mk a).vm } : State).setVm s₂.vm := rfl
      rw [e2] at this
      exact this
    have hf₂ : s₂.frames = .throwing q :: .java g :: U.frames.tail := hend
    have hW' : U.WarmedH s₂.vm := hW₂
    have hs₂ : s₂ = ((({ U with heap := s₂.heap, slotsUsed := s₂.slotsUsed } : State).setVm s₂.vm).setTop g).pushFrame (.throwing q) := by
      refine e3.trans ?_
      rw [hf₂, State.calling_eq h.top, State.setFrames_setFrames, State.pushFrame, State.frames_setTop _ hr', State.setTop_of_frames _ hr', State.setFrames_setFrames, hr]
      rfl
    have hsame : U.sameButNew ({ U with heap := s₂.heap, slotsUsed := s₂.slotsUsed } : State) L mc ms := by
      refine ⟨?_, q2, q3, q4, q5, q6⟩
      obtain ⟨t, ht, -⟩ := State.frames_cons hr
      show ({ U with heap := s₂.heap, slotsUsed := s₂.slotsUsed } : State) = { U.setFrames U.frames with heap := s₂.heap, slotsUsed := s₂.slotsUsed }
      rw [State.setFrames_self ht]
    subst hg
    refine Or.inr ⟨q, ⟨(({ U with heap := s₂.heap, slotsUsed := s₂.slotsUsed } : State).setVm s₂.vm), Ls ++ L, c0 + mc, s0 + ms⟩,
      ⟨X.admits, X.cas, X.clock, X.frames, X.room, X.hears, X.method, X.code, (X.here.setHeapUsed s₂.heap s₂.slotsUsed).setVm hW'.alike, X.tail, State.WarmedH.trans X.warmed hW', X.limits, X.bytes, X.same.trans (hsame.setVm s.vm)⟩,
      ⟨g, mk, s₂, L, E, ce, rfl, rfl, hx, hce, hcv, hcl, rfl, hL, rfl, rfl⟩, ?_⟩
    show Steps p.tables e below _ (((({ U with heap := s₂.heap, slotsUsed := s₂.slotsUsed } : State).setVm s₂.vm).setTop g).pushFrame (.throwing q))
    rw [← hs₂]
    exact hsteps
end Payer
section Calls
variable {p : Program} {l : Launch} {e : Env} {R : Room} {s : State} {m : MethodId} {args : Array Value} {below : List Frame} {meth : Method} {c : Code} {T : State} {locs : List Loc} {cells slots : Nat}
theorem vx_callV (X : Stand p l e R s m args below meth c T locs cells slots) (hexec : p.tables.exec = Jvm.exec) {own C : String} {index : Nat} {y : MethodName} {bytes : ByteArray} {maxL : Nat} {ret : Option FieldType}
    (hown : s.vm.findClass own = some m.cls) (hlink : (Cond.methodLink own index y).before args s = true) (hinst : (Cond.instanceMethod y).before args s = true) (hsel : (Cond.selects C y y).before args s = true)
    (hcode : (Cond.code y bytes maxL ret).before args s = true) (hy : y.cls ≠ "java/lang/invoke/MethodHandle" ∧ y.cls ≠ "java/lang/invoke/VarHandle")
    {W9 : Nat} {Pre : Pt → Array Value → Prop} {Post : Pt → Array Value → Option Value → Pt → Prop} {PostX : Pt → Array Value → Addr → Pt → Prop} (hK : vx_Back l R p e below s args y 3 W9 Pre Post PostX)
    {b : Addr} {cellB : Cell} (hcell : T.heap[b]? = some cellB) (hobj : cellB.vm.isStatics = false) (hcls : s.vm.findClass C = some cellB.cls)
    {g : JFrame} (hg : g.method = m) (hsize : g.locals.size = c.maxLocals) {argsL rest : List Value} (hlen : ∀ sig, parseMethodDescriptor y.desc = some sig → argsL.length = sig.parameters.length)
    (hstack : g.stack = argsL.reverse ++ .ref b :: rest) (hW : 2 * g.monitorRoom + (rest.map fun v => v.category).sum ≤ W9) (hdg : decode c.code g.pc = .ok (.invokevirtual index, 3))
    (hpre : ∀ vm₁, s.WarmedH vm₁ → Pre ⟨T.setVm vm₁, locs, cells, slots⟩ (Value.ref b :: argsL).toArray) :
    (∃ (v : Option Value) (vm₁ : Vm) (B : Pt), s.WarmedH vm₁ ∧ Stand p l e R s m args below meth c B.U B.locs B.cells B.slots ∧ Post ⟨T.setVm vm₁, locs, cells, slots⟩ (Value.ref b :: argsL).toArray v B ∧
      ∀ target, Steps p.tables e below (B.U.setTop { g with pc := g.pc + 3, stack := v.toList ++ rest }) target → Steps p.tables e below (T.setTop g) target) ∨
    (∃ (q : Addr) (vm₁ : Vm) (B : Pt), s.WarmedH vm₁ ∧ Stand p l e R s m args below meth c B.U B.locs B.cells B.slots ∧ PostX ⟨T.setVm vm₁, locs, cells, slots⟩ (Value.ref b :: argsL).toArray q B ∧
      Steps p.tables e below (T.setTop g) ((B.U.setTop { g with stack := rest }).pushFrame (.throwing q))) := by
  obtain ⟨mk, methM, hnamed, hmethM, hstM, habM⟩ := Cond.instanceMethod_spec hinst
  obtain ⟨methM', cM, hmethM', -, -, -, -, -, -, hsigM⟩ := Cond.code_spec hnamed hcode
  cases hmethM.symm.trans hmethM'
  obtain ⟨c2, r2, m2, q1, q2, q3, q4, kP, hkP, hkPi⟩ := Cond.selects_spec hsel
  cases hcls.symm.trans q1
  cases (State.methodFound?_of_named hnamed hy).symm.trans q2
  cases hnamed.symm.trans q3
  have hselP : selectMethod e.platform s.vm cellB.cls mk = .method mk := by rw [Launch.admits_selectMethod X.admits]; exact q4
  obtain ⟨vm₁, X₁, hstep₁⟩ := X.invokevirtual hexec hown hlink hnamed hmethM hstM hkP hkPi hy (a := b) (cell := cellB) hcell
    (fun z h => by rw [h] at hobj; cases hobj) hselP hmethM habM hkP hkPi (g := g) hg (argsL := argsL) (rest := rest) (hlen _ hsigM) hstack hdg
  rcases hK m meth c ⟨T.setVm vm₁, locs, cells, slots⟩ { g with stack := rest } (.invokevirtual index) mk (Value.ref b :: argsL).toArray X₁ hg hsize hdg hW (X₁.named hnamed) (hpre vm₁ X₁.warmed) with ⟨v, B, X', hpost, hsteps⟩ | ⟨q, B, X', hpost, hsteps⟩
  · exact Or.inl ⟨v, vm₁, B, X₁.warmed, X', hpost, fun target h => hstep₁ _ fun acts => by rw [doInvoke_state]; exact hsteps.trans h⟩
  · exact Or.inr ⟨q, vm₁, B, X₁.warmed, X', hpost, hstep₁ _ fun acts => by rw [doInvoke_state]; exact hsteps⟩
theorem vx_callS (X : Stand p l e R s m args below meth c T locs cells slots) (hexec : p.tables.exec = Jvm.exec) {own : String} {index : Nat} {y : MethodName} {bytes : ByteArray} {maxL : Nat} {ret : Option FieldType}
    (hown : s.vm.findClass own = some m.cls) (hlink : (Cond.methodLink own index y).before args s = true) (hstat : (Cond.static y).before args s = true) (hinit : (Cond.initialized y.cls).before args s = true)
    (hcode : (Cond.code y bytes maxL ret).before args s = true) (hy : y.cls ≠ "java/lang/invoke/MethodHandle" ∧ y.cls ≠ "java/lang/invoke/VarHandle")
    {W9 : Nat} {Pre : Pt → Array Value → Prop} {Post : Pt → Array Value → Option Value → Pt → Prop} {PostX : Pt → Array Value → Addr → Pt → Prop} (hK : vx_Back l R p e below s args y 3 W9 Pre Post PostX)
    {g : JFrame} (hg : g.method = m) (hsize : g.locals.size = c.maxLocals) {argsL rest : List Value} (hlen : ∀ sig, parseMethodDescriptor y.desc = some sig → argsL.length = sig.parameters.length)
    (hstack : g.stack = argsL.reverse ++ rest) (hW : 2 * g.monitorRoom + (rest.map fun v => v.category).sum ≤ W9) (hdg : decode c.code g.pc = .ok (.invokestatic index, 3))
    (hpre : ∀ vm₁, s.WarmedH vm₁ → Pre ⟨T.setVm vm₁, locs, cells, slots⟩ argsL.toArray) :
    (∃ (v : Option Value) (vm₁ : Vm) (B : Pt), s.WarmedH vm₁ ∧ Stand p l e R s m args below meth c B.U B.locs B.cells B.slots ∧ Post ⟨T.setVm vm₁, locs, cells, slots⟩ argsL.toArray v B ∧
      ∀ target, Steps p.tables e below (B.U.setTop { g with pc := g.pc + 3, stack := v.toList ++ rest }) target → Steps p.tables e below (T.setTop g) target) ∨
    (∃ (q : Addr) (vm₁ : Vm) (B : Pt), s.WarmedH vm₁ ∧ Stand p l e R s m args below meth c B.U B.locs B.cells B.slots ∧ PostX ⟨T.setVm vm₁, locs, cells, slots⟩ argsL.toArray q B ∧
      Steps p.tables e below (T.setTop g) ((B.U.setTop { g with stack := rest }).pushFrame (.throwing q))) := by
  obtain ⟨mk, hnamed⟩ := Cond.code_named hcode
  obtain ⟨methM, cM, hmethM, -, -, -, -, -, -, hsigM⟩ := Cond.code_spec hnamed hcode
  have hstatic : methM.isStatic = true := Cond.static_spec hnamed hmethM hstat
  obtain ⟨kP, hkP, -⟩ := className_of_methodNamed hnamed
  have hinitP : kP.init = .initialized := Cond.initialized_spec (findClass_of_methodNamed hnamed) hkP hinit
  obtain ⟨vm₁, X₁, hstep₁⟩ := X.invokestatic hexec hown hlink hnamed hmethM hstatic hkP hinitP hy (g := g) hg (argsL := argsL) (rest := rest) (hlen _ hsigM) hstack hdg
  rcases hK m meth c ⟨T.setVm vm₁, locs, cells, slots⟩ { g with stack := rest } (.invokestatic index) mk argsL.toArray X₁ hg hsize hdg hW (X₁.named hnamed) (hpre vm₁ X₁.warmed) with ⟨v, B, X', hpost, hsteps⟩ | ⟨q, B, X', hpost, hsteps⟩
  · exact Or.inl ⟨v, vm₁, B, X₁.warmed, X', hpost, fun target h => hstep₁ _ fun acts => by rw [doInvoke_state]; exact hsteps.trans h⟩
  · exact Or.inr ⟨q, vm₁, B, X₁.warmed, X', hpost, hstep₁ _ fun acts => by rw [doInvoke_state]; exact hsteps⟩
end Calls
theorem vx_cls {s : State} {T : State} {vm₁ : Vm} {E : String} {k : ClassId} (hW : s.WarmedH vm₁) (h : (T.setVm vm₁).vm.findClass E = some k) : s.vm.findClass E = some k := by
  have h1 : vm₁.findClass E = some k := h
  rw [hW.alike.findClass] at h1
  exact h1
/-- the method's frame g, with q thrown over it -/
def vx_W (p : Program) (l : Launch) (e : Env) (R : Room) (s : State) (m : MethodId) (args : Array Value) (below : List Frame) (meth : Method) (c : Code) (H : Heap) (locs : List Loc) (cells slots : Nat) (Q : State → Prop) (g : JFrame) (q : Addr) : Prop :=
  ∀ T : State, T.heap = H → Stand p l e R s m args below meth c T locs cells slots → ∃ t, Steps p.tables e below ((T.setTop g).pushFrame (.throwing q)) t ∧ Q t
def vx_Run (p : Program) (l : Launch) (e : Env) (R : Room) (s : State) (m : MethodId) (args : Array Value) (below : List Frame) (meth : Method) (c : Code) (H : Heap) (locs : List Loc) (cells slots mc ms : Nat) (g : JFrame) (rest : List Value) (Qa : State → Outcome → State → Prop) (XC : String → State → State → Prop) (free : Addr → Prop) : Prop :=
  ∀ T : State, T.heap = H → Stand p l e R s m args below meth c T locs cells slots →
    (∃ (v : Option Value) (st₀ t T' : State) (L : List Loc), st₀.heap = H ∧ Stand p l e R s m args below meth c T' (locs ++ L) (cells + mc) (slots + ms) ∧ (∀ q ∈ L, free q.base) ∧ T'.heap = t.heap ∧ T'.vm = t.vm ∧ Qa st₀ (.returned v) t ∧
      Goes p e below T g T' { g with pc := g.pc + 3, stack := v.toList ++ rest }) ∨
    (∃ (q : Addr) (st₀ t T' : State) (L : List Loc) (E : String) (ce : Cell), st₀.heap = H ∧ Stand p l e R s m args below meth c T' (locs ++ L) (cells + mc) (slots + ms) ∧ (∀ z ∈ L, free z.base) ∧ T'.heap = t.heap ∧ T'.vm = t.vm ∧ XC E st₀ t ∧ t.heap[q]? = some ce ∧ ce.vm = .none ∧ s.vm.findClass E = some ce.cls ∧
      Steps p.tables e below (T.setTop g) ((T'.setTop { g with stack := rest }).pushFrame (.throwing q)))
def vx_X {S : Type} (px : S → Prop) (B : String → S → State → Prop) (A : Nat → Prop) : String → State → State → Prop := fun E st t => ∃ u : S, px u ∧ B E u t ∧ va_F A st t
section Runs
variable {p : Program} {l : Launch} {e : Env} {R : Room} {s : State} {m : MethodId} {args : Array Value} {below : List Frame} {meth : Method} {c : Code} {H : Heap} {locs : List Loc} {cells slots : Nat}
variable {y : MethodName} {bytes cc : ByteArray} {maxL nL mc ms n index : Nat} {ret : Option FieldType} {ws : List Cond} {rm : Room} {Pc : Array Value → State → Prop} {Qc : Array Value → State → Outcome → State → Prop} {XC : String → State → State → Prop} {free : Addr → Prop} {Ts : List Cond} {own C : String} {b : Addr} {As rest : List Value} {g : JFrame}
theorem vx_callBack (cb : CallB R s args own index y bytes maxL ret ws rm mc ms n) (hM : vx_Met l y ws rm Pc Qc XC mc ms free) (hbl : FrameBlind Pc) : vx_Back l R p e below s args y 3 8 (PreOf R mc ms Pc) (PostOf Qc mc ms free) (vx_Post XC mc ms free) := by
  obtain ⟨hrc, hrs, hfr, hlo, hws, hcw, -, hini, -⟩ := cb
  exact vx_back (bytes := bytes) (maxL := maxL) (ret := ret) hM hbl hrc hrs hfr hlo hws hcw (fun a' U hW => word_at hW (Or.inl (by first | rfl | simp [Cond.onTables, Cond.keeps, Cond.steady])) hini)
theorem vx_runV (S : CallFix p m c cc nL s args Ts own) (hM : vx_Met l y ws rm Pc Qc XC mc ms free) (cw : CallW R s args own C index y bytes maxL ret ws rm mc ms n) (hp : PreV s H C b Pc As)
    (hg : g.method = m) (hn : As.length = n) (hsize : g.locals.size = nL) (hstack : g.stack = As.reverse ++ .ref b :: rest) (hW : 2 * g.monitorRoom + (rest.map fun v => v.category).sum ≤ 8) (hdg : decode cc g.pc = .ok (.invokevirtual index, 3)) (hf : cells + mc ≤ R.cells ∧ slots + ms ≤ R.slots) :
    vx_Run p l e R s m args below meth c H locs cells slots mc ms g rest (Qc (Value.ref b :: As).toArray) XC free := by
  have hK : vx_Back l R p e below s args y 3 8 (PreOf R mc ms Pc) (PostOf Qc mc ms free) (vx_Post XC mc ms free) := vx_callBack cw.1 hM hp.1
  obtain ⟨⟨-, -, -, -, -, -, hcode, -, hy, hlen, hl⟩, hin, hse⟩ := cw
  obtain ⟨hx, hb, hml, ho, -⟩ := S
  obtain ⟨-, ⟨cellB, hcB, hoB, hclB⟩, hPc⟩ := hp
  intro T hT X
  rcases vx_callV X hx (C := C) (bytes := bytes) (maxL := maxL) (ret := ret) ho hl hin hse hcode hy hK (by rw [hT]; exact hcB) hoB hclB hg (hsize.trans hml.symm) (argsL := As) (rest := rest) (fun sig h => hn.trans (hlen sig h)) hstack hW (by rw [hb]; exact hdg)
    (fun vm₁ hW₁ => ⟨hf.1, hf.2, hPc (T.setVm vm₁) hT hW₁⟩) with ⟨v, vm₁, ⟨U', l2, c2, s2⟩, hW₁, X', ⟨g', mk, t, L, e1, e2, hq, h1, hL, h2, h3⟩, st⟩ | ⟨q, vm₁, ⟨U', l2, c2, s2⟩, hW₁, X', ⟨g', mk, t, L, E, ce, e1, e2, hq, hce, hcv, hcl, h1, hL, h2, h3⟩, st⟩
  · dsimp only [Pt.U, Pt.locs, Pt.cells, Pt.slots] at X' e1 e2 h1 h2 h3 st
    subst h1; subst h2; subst h3
    exact Or.inl ⟨v, (T.setVm vm₁).calling g' mk (Value.ref b :: As).toArray, t, U', L, hT, X', hL, e1, e2, hq, st⟩
  · dsimp only [Pt.U, Pt.locs, Pt.cells, Pt.slots] at X' e1 e2 h1 h2 h3 st hcl
    subst h1; subst h2; subst h3
    exact Or.inr ⟨q, (T.setVm vm₁).calling g' mk (Value.ref b :: As).toArray, t, U', L, E, ce, hT, X', hL, e1, e2, hq, hce, hcv, vx_cls hW₁ hcl, st⟩
theorem vx_runS (S : CallFix p m c cc nL s args Ts own) (hM : vx_Met l y ws rm Pc Qc XC mc ms free) (cw : CallB R s args own index y bytes maxL ret ws rm mc ms n ∧ (Cond.static y).before args s = true) (hp : PreS s H Pc As)
    (hg : g.method = m) (hn : As.length = n) (hsize : g.locals.size = nL) (hstack : g.stack = As.reverse ++ rest) (hW : 2 * g.monitorRoom + (rest.map fun v => v.category).sum ≤ 8) (hdg : decode cc g.pc = .ok (.invokestatic index, 3)) (hf : cells + mc ≤ R.cells ∧ slots + ms ≤ R.slots) :
    vx_Run p l e R s m args below meth c H locs cells slots mc ms g rest (Qc As.toArray) XC free := by
  have hK : vx_Back l R p e below s args y 3 8 (PreOf R mc ms Pc) (PostOf Qc mc ms free) (vx_Post XC mc ms free) := vx_callBack cw.1 hM hp.1
  obtain ⟨⟨-, -, -, -, -, -, hcode, hini, hy, hlen, hl⟩, hstt⟩ := cw
  obtain ⟨hx, hb, hml, ho, -⟩ := S
  intro T hT X
  rcases vx_callS X hx (bytes := bytes) (maxL := maxL) (ret := ret) ho hl hstt hini hcode hy hK hg (hsize.trans hml.symm) (argsL := As) (rest := rest) (fun sig h => hn.trans (hlen sig h)) hstack hW (by rw [hb]; exact hdg)
    (fun vm₁ hW₁ => ⟨hf.1, hf.2, hp.2 (T.setVm vm₁) hT hW₁⟩) with ⟨v, vm₁, ⟨U', l2, c2, s2⟩, hW₁, X', ⟨g', mk, t, L, e1, e2, hq, h1, hL, h2, h3⟩, st⟩ | ⟨q, vm₁, ⟨U', l2, c2, s2⟩, hW₁, X', ⟨g', mk, t, L, E, ce, e1, e2, hq, hce, hcv, hcl, h1, hL, h2, h3⟩, st⟩
  · dsimp only [Pt.U, Pt.locs, Pt.cells, Pt.slots] at X' e1 e2 h1 h2 h3 st
    subst h1; subst h2; subst h3
    exact Or.inl ⟨v, (T.setVm vm₁).calling g' mk As.toArray, t, U', L, hT, X', hL, e1, e2, hq, st⟩
  · dsimp only [Pt.U, Pt.locs, Pt.cells, Pt.slots] at X' e1 e2 h1 h2 h3 st hcl
    subst h1; subst h2; subst h3
    exact Or.inr ⟨q, (T.setVm vm₁).calling g' mk As.toArray, t, U', L, E, ce, hT, X', hL, e1, e2, hq, hce, hcv, vx_cls hW₁ hcl, st⟩
end Runs
section Rows
variable {p : Program} {l : Launch} {e : Env} {R : Room} {s : State} {m : MethodId} {args : Array Value} {below : List Frame} {meth : Method} {c : Code} {H : Heap} {locs : List Loc} {cells slots : Nat} {Q : State → Prop}
variable {mc ms : Nat} {free : Addr → Prop} {A0 A1 : Nat → Prop} {H0 : Heap} {a : Array Value} {pc : Nat} {ls : Array Slot} {st0 rest : List Value}
theorem vx_keep {st₀ t T' : State} {L : List Loc} (h0 : st₀.heap = H) (e1 : T'.heap = t.heap) (hS : va_S A0 H0 H locs) (hA : ∀ q, q < H.size → A1 q → A0 q) (hf : ∀ q, free q → A0 q) (hL : ∀ q ∈ L, free q.base) (hF : va_F A1 st₀ t) :
    H.size ≤ T'.heap.size ∧ (∀ q : Nat, q < H.size → ¬ A1 q → T'.heap[q]? = H[q]?) ∧ va_S A0 H0 T'.heap (locs ++ L) := by
  obtain ⟨hz, hk⟩ := hF
  rw [h0] at hz hk
  exact ⟨by rw [e1]; exact hz, fun q h1 h2 => by rw [e1]; exact hk q h1 h2,
    ⟨Nat.le_trans hS.1 (by rw [e1]; exact hz), fun q h1 h2 => by rw [e1, hk q (Nat.lt_of_lt_of_le h1 hS.1) (fun z => h2 (hA q (Nat.lt_of_lt_of_le h1 hS.1) z))]; exact hS.2.1 q h1 h2, fun q hq => by
      rcases List.mem_append.mp hq with h | h
      · exact hS.2.2 q h
      · exact hf _ (hL q h)⟩⟩
theorem vx_calli {S SX : Type} {post : Int32 → S → Prop} {px : SX → Prop} {B : S → State → Prop} {BX : String → SX → State → Prop} {AX : Nat → Prop} (hr : vx_Run p l e R s m args below meth c H locs cells slots mc ms (F0 m pc ls st0) rest (va_Qi post B A1 a) (vx_X px BX AX) free) (hS : va_S A0 H0 H locs) (hA : ∀ q, q < H.size → A1 q → A0 q) (hf : ∀ q, free q → A0 q) (hAX : ∀ q, q < H.size → AX q → A0 q)
    (kx : ∀ (E : String) (ce : Cell) (q9 : Addr) (u : SX) (t : State) (H1 : Heap) (locs1 : List Loc), t.heap = H1 → s.vm.Alike t.vm → px u → BX E u t → H.size ≤ H1.size → (∀ q : Nat, q < H.size → ¬ AX q → H1[q]? = H[q]?) → va_S A0 H0 H1 locs1 → H1[q9]? = some ce → ce.vm = .none → s.vm.findClass E = some ce.cls → vx_W p l e R s m args below meth c H1 locs1 (cells + mc) (slots + ms) Q (F0 m pc ls rest) q9)
    (kk : ∀ (r : Int32) (u : S) (t : State) (H1 : Heap) (locs1 : List Loc), t.heap = H1 → s.vm.Alike t.vm → post r u → B u t → H.size ≤ H1.size → (∀ q : Nat, q < H.size → ¬ A1 q → H1[q]? = H[q]?) → va_S A0 H0 H1 locs1 → W p l e R s m args below meth c H1 locs1 (cells + mc) (slots + ms) Q (F0 m (pc + 3) ls (.int r :: rest))) : W p l e R s m args below meth c H locs cells slots Q (F0 m pc ls st0) := by
  intro T hT X
  rcases hr T hT X with ⟨v, st₀, t, T', L, h0, X', hL, e1, e2, ⟨⟨r, u, hv, hp, hb⟩, hF⟩, st⟩ | ⟨q, st₀, t, T', L, E, ce, h0, X', hL, e1, e2, ⟨u, hp, hb, hF⟩, hce, hcv, hcl, st⟩
  · cases hv
    obtain ⟨k1, k2, k3⟩ := vx_keep h0 e1 hS hA hf hL hF
    obtain ⟨t2, a1, b1⟩ := kk r u t T'.heap (locs ++ L) e1.symm (by rw [← e2]; exact X'.warmed.alike) hp hb k1 k2 k3 T' rfl X'
    exact ⟨t2, st t2 a1, b1⟩
  · obtain ⟨k1, k2, k3⟩ := vx_keep h0 e1 hS hAX hf hL hF
    obtain ⟨t2, a1, b1⟩ := kx E ce q u t T'.heap (locs ++ L) e1.symm (by rw [← e2]; exact X'.warmed.alike) hp hb k1 k2 k3 (by rw [e1]; exact hce) hcv hcl T' rfl X'
    exact ⟨t2, st.trans a1, b1⟩
theorem vx_calll {S SX : Type} {post : Int64 → S → Prop} {px : SX → Prop} {B : S → State → Prop} {BX : String → SX → State → Prop} {AX : Nat → Prop} (hr : vx_Run p l e R s m args below meth c H locs cells slots mc ms (F0 m pc ls st0) rest (va_Ql post B A1 a) (vx_X px BX AX) free) (hS : va_S A0 H0 H locs) (hA : ∀ q, q < H.size → A1 q → A0 q) (hf : ∀ q, free q → A0 q) (hAX : ∀ q, q < H.size → AX q → A0 q)
    (kx : ∀ (E : String) (ce : Cell) (q9 : Addr) (u : SX) (t : State) (H1 : Heap) (locs1 : List Loc), t.heap = H1 → s.vm.Alike t.vm → px u → BX E u t → H.size ≤ H1.size → (∀ q : Nat, q < H.size → ¬ AX q → H1[q]? = H[q]?) → va_S A0 H0 H1 locs1 → H1[q9]? = some ce → ce.vm = .none → s.vm.findClass E = some ce.cls → vx_W p l e R s m args below meth c H1 locs1 (cells + mc) (slots + ms) Q (F0 m pc ls rest) q9)
    (kk : ∀ (r : Int64) (u : S) (t : State) (H1 : Heap) (locs1 : List Loc), t.heap = H1 → s.vm.Alike t.vm → post r u → B u t → H.size ≤ H1.size → (∀ q : Nat, q < H.size → ¬ A1 q → H1[q]? = H[q]?) → va_S A0 H0 H1 locs1 → W p l e R s m args below meth c H1 locs1 (cells + mc) (slots + ms) Q (F0 m (pc + 3) ls (.long r :: rest))) : W p l e R s m args below meth c H locs cells slots Q (F0 m pc ls st0) := by
  intro T hT X
  rcases hr T hT X with ⟨v, st₀, t, T', L, h0, X', hL, e1, e2, ⟨⟨r, u, hv, hp, hb⟩, hF⟩, st⟩ | ⟨q, st₀, t, T', L, E, ce, h0, X', hL, e1, e2, ⟨u, hp, hb, hF⟩, hce, hcv, hcl, st⟩
  · cases hv
    obtain ⟨k1, k2, k3⟩ := vx_keep h0 e1 hS hA hf hL hF
    obtain ⟨t2, a1, b1⟩ := kk r u t T'.heap (locs ++ L) e1.symm (by rw [← e2]; exact X'.warmed.alike) hp hb k1 k2 k3 T' rfl X'
    exact ⟨t2, st t2 a1, b1⟩
  · obtain ⟨k1, k2, k3⟩ := vx_keep h0 e1 hS hAX hf hL hF
    obtain ⟨t2, a1, b1⟩ := kx E ce q u t T'.heap (locs ++ L) e1.symm (by rw [← e2]; exact X'.warmed.alike) hp hb k1 k2 k3 (by rw [e1]; exact hce) hcv hcl T' rfl X'
    exact ⟨t2, st.trans a1, b1⟩
theorem vx_callf {S SX : Type} {post : UInt32 → S → Prop} {px : SX → Prop} {B : S → State → Prop} {BX : String → SX → State → Prop} {AX : Nat → Prop} (hr : vx_Run p l e R s m args below meth c H locs cells slots mc ms (F0 m pc ls st0) rest (va_Qf post B A1 a) (vx_X px BX AX) free) (hS : va_S A0 H0 H locs) (hA : ∀ q, q < H.size → A1 q → A0 q) (hf : ∀ q, free q → A0 q) (hAX : ∀ q, q < H.size → AX q → A0 q)
    (kx : ∀ (E : String) (ce : Cell) (q9 : Addr) (u : SX) (t : State) (H1 : Heap) (locs1 : List Loc), t.heap = H1 → s.vm.Alike t.vm → px u → BX E u t → H.size ≤ H1.size → (∀ q : Nat, q < H.size → ¬ AX q → H1[q]? = H[q]?) → va_S A0 H0 H1 locs1 → H1[q9]? = some ce → ce.vm = .none → s.vm.findClass E = some ce.cls → vx_W p l e R s m args below meth c H1 locs1 (cells + mc) (slots + ms) Q (F0 m pc ls rest) q9)
    (kk : ∀ (r : UInt32) (u : S) (t : State) (H1 : Heap) (locs1 : List Loc), t.heap = H1 → s.vm.Alike t.vm → post r u → B u t → H.size ≤ H1.size → (∀ q : Nat, q < H.size → ¬ A1 q → H1[q]? = H[q]?) → va_S A0 H0 H1 locs1 → W p l e R s m args below meth c H1 locs1 (cells + mc) (slots + ms) Q (F0 m (pc + 3) ls (.float r :: rest))) : W p l e R s m args below meth c H locs cells slots Q (F0 m pc ls st0) := by
  intro T hT X
  rcases hr T hT X with ⟨v, st₀, t, T', L, h0, X', hL, e1, e2, ⟨⟨r, u, hv, hp, hb⟩, hF⟩, st⟩ | ⟨q, st₀, t, T', L, E, ce, h0, X', hL, e1, e2, ⟨u, hp, hb, hF⟩, hce, hcv, hcl, st⟩
  · cases hv
    obtain ⟨k1, k2, k3⟩ := vx_keep h0 e1 hS hA hf hL hF
    obtain ⟨t2, a1, b1⟩ := kk r u t T'.heap (locs ++ L) e1.symm (by rw [← e2]; exact X'.warmed.alike) hp hb k1 k2 k3 T' rfl X'
    exact ⟨t2, st t2 a1, b1⟩
  · obtain ⟨k1, k2, k3⟩ := vx_keep h0 e1 hS hAX hf hL hF
    obtain ⟨t2, a1, b1⟩ := kx E ce q u t T'.heap (locs ++ L) e1.symm (by rw [← e2]; exact X'.warmed.alike) hp hb k1 k2 k3 (by rw [e1]; exact hce) hcv hcl T' rfl X'
    exact ⟨t2, st.trans a1, b1⟩
theorem vx_calld {S SX : Type} {post : UInt64 → S → Prop} {px : SX → Prop} {B : S → State → Prop} {BX : String → SX → State → Prop} {AX : Nat → Prop} (hr : vx_Run p l e R s m args below meth c H locs cells slots mc ms (F0 m pc ls st0) rest (va_Qd post B A1 a) (vx_X px BX AX) free) (hS : va_S A0 H0 H locs) (hA : ∀ q, q < H.size → A1 q → A0 q) (hf : ∀ q, free q → A0 q) (hAX : ∀ q, q < H.size → AX q → A0 q)
    (kx : ∀ (E : String) (ce : Cell) (q9 : Addr) (u : SX) (t : State) (H1 : Heap) (locs1 : List Loc), t.heap = H1 → s.vm.Alike t.vm → px u → BX E u t → H.size ≤ H1.size → (∀ q : Nat, q < H.size → ¬ AX q → H1[q]? = H[q]?) → va_S A0 H0 H1 locs1 → H1[q9]? = some ce → ce.vm = .none → s.vm.findClass E = some ce.cls → vx_W p l e R s m args below meth c H1 locs1 (cells + mc) (slots + ms) Q (F0 m pc ls rest) q9)
    (kk : ∀ (r : UInt64) (u : S) (t : State) (H1 : Heap) (locs1 : List Loc), t.heap = H1 → s.vm.Alike t.vm → post r u → B u t → H.size ≤ H1.size → (∀ q : Nat, q < H.size → ¬ A1 q → H1[q]? = H[q]?) → va_S A0 H0 H1 locs1 → W p l e R s m args below meth c H1 locs1 (cells + mc) (slots + ms) Q (F0 m (pc + 3) ls (.double r :: rest))) : W p l e R s m args below meth c H locs cells slots Q (F0 m pc ls st0) := by
  intro T hT X
  rcases hr T hT X with ⟨v, st₀, t, T', L, h0, X', hL, e1, e2, ⟨⟨r, u, hv, hp, hb⟩, hF⟩, st⟩ | ⟨q, st₀, t, T', L, E, ce, h0, X', hL, e1, e2, ⟨u, hp, hb, hF⟩, hce, hcv, hcl, st⟩
  · cases hv
    obtain ⟨k1, k2, k3⟩ := vx_keep h0 e1 hS hA hf hL hF
    obtain ⟨t2, a1, b1⟩ := kk r u t T'.heap (locs ++ L) e1.symm (by rw [← e2]; exact X'.warmed.alike) hp hb k1 k2 k3 T' rfl X'
    exact ⟨t2, st t2 a1, b1⟩
  · obtain ⟨k1, k2, k3⟩ := vx_keep h0 e1 hS hAX hf hL hF
    obtain ⟨t2, a1, b1⟩ := kx E ce q u t T'.heap (locs ++ L) e1.symm (by rw [← e2]; exact X'.warmed.alike) hp hb k1 k2 k3 (by rw [e1]; exact hce) hcv hcl T' rfl X'
    exact ⟨t2, st.trans a1, b1⟩
theorem vx_callv {S SX : Type} {post : S → Prop} {px : SX → Prop} {B : S → State → Prop} {BX : String → SX → State → Prop} {AX : Nat → Prop} (hr : vx_Run p l e R s m args below meth c H locs cells slots mc ms (F0 m pc ls st0) rest (va_Qv post B A1 a) (vx_X px BX AX) free) (hS : va_S A0 H0 H locs) (hA : ∀ q, q < H.size → A1 q → A0 q) (hf : ∀ q, free q → A0 q) (hAX : ∀ q, q < H.size → AX q → A0 q)
    (kx : ∀ (E : String) (ce : Cell) (q9 : Addr) (u : SX) (t : State) (H1 : Heap) (locs1 : List Loc), t.heap = H1 → s.vm.Alike t.vm → px u → BX E u t → H.size ≤ H1.size → (∀ q : Nat, q < H.size → ¬ AX q → H1[q]? = H[q]?) → va_S A0 H0 H1 locs1 → H1[q9]? = some ce → ce.vm = .none → s.vm.findClass E = some ce.cls → vx_W p l e R s m args below meth c H1 locs1 (cells + mc) (slots + ms) Q (F0 m pc ls rest) q9)
    (kk : ∀ (u : S) (t : State) (H1 : Heap) (locs1 : List Loc), t.heap = H1 → s.vm.Alike t.vm → post u → B u t → H.size ≤ H1.size → (∀ q : Nat, q < H.size → ¬ A1 q → H1[q]? = H[q]?) → va_S A0 H0 H1 locs1 → W p l e R s m args below meth c H1 locs1 (cells + mc) (slots + ms) Q (F0 m (pc + 3) ls (rest))) : W p l e R s m args below meth c H locs cells slots Q (F0 m pc ls st0) := by
  intro T hT X
  rcases hr T hT X with ⟨v, st₀, t, T', L, h0, X', hL, e1, e2, ⟨⟨u, hv, hp, hb⟩, hF⟩, st⟩ | ⟨q, st₀, t, T', L, E, ce, h0, X', hL, e1, e2, ⟨u, hp, hb, hF⟩, hce, hcv, hcl, st⟩
  · cases hv
    obtain ⟨k1, k2, k3⟩ := vx_keep h0 e1 hS hA hf hL hF
    obtain ⟨t2, a1, b1⟩ := kk u t T'.heap (locs ++ L) e1.symm (by rw [← e2]; exact X'.warmed.alike) hp hb k1 k2 k3 T' rfl X'
    exact ⟨t2, st t2 a1, b1⟩
  · obtain ⟨k1, k2, k3⟩ := vx_keep h0 e1 hS hAX hf hL hF
    obtain ⟨t2, a1, b1⟩ := kx E ce q u t T'.heap (locs ++ L) e1.symm (by rw [← e2]; exact X'.warmed.alike) hp hb k1 k2 k3 (by rw [e1]; exact hce) hcv hcl T' rfl X'
    exact ⟨t2, st.trans a1, b1⟩
/-- caught by the row x of this method's table; the rows ahead don't take it -/
theorem vx_catch {own name : String} {E : String} {ce : Cell} {q : Addr} (hown : s.vm.findClass own = some m.cls) (pre : List ExceptionTableEntry) (x : ExceptionTableEntry) (suf : List ExceptionTableEntry) (hsplit : c.exceptionTable.toList = pre ++ x :: suf)
    (hpass : ∀ z ∈ pre, covers z pc = false ∨ (z.catchType ≠ 0 ∧ ∃ nm : String, (Cond.classLink own z.catchType nm).before args s = true ∧ va_Nc E nm s)) (hx : covers x pc = true) (h0 : x.catchType ≠ 0)
    (hlink : (Cond.classLink own x.catchType name).before args s = true) (hcast : (Cond.castable E name).before args s = true) (hcell : H[q]? = some ce) (hv : ce.vm = .none) (hcl : s.vm.findClass E = some ce.cls)
    (kk : W p l e R s m args below meth c H locs cells slots Q (F0 m x.handlerPc ls [.ref q])) : vx_W p l e R s m args below meth c H locs cells slots Q (F0 m pc ls rest) q := by
  intro T hT X
  have hpl : e.platform.magicAccessors = ({} : Platform).magicAccessors := by rw [X.admits.platform]
  obtain ⟨c3, c4, hc3, hc4, hasg⟩ := Cond.castable_spec hcast
  cases Option.some.inj (hc3.symm.trans hcl)
  obtain ⟨c5, hc5, hcl5⟩ := Cond.classLink_spec hown hlink e.platform hpl
  cases Option.some.inj (hc4.symm.trans hc5)
  obtain ⟨vm', X', st⟩ := X.thenCaughtThrough q (g := F0 m pc ls rest) rfl (Steps.refl _) (by rw [hT]; exact hcell) (by rw [hv]; rfl) (by obtain ⟨k9, h9, -⟩ := Vm.findClass_spec hcl; exact ⟨k9, h9⟩) pre x suf hsplit
    (fun z hz => by
      rcases hpass z hz with h | ⟨hz0, nm, hl1, hn1⟩
      · exact Or.inl h
      · obtain ⟨c6, hc6, hcl6⟩ := Cond.classLink_spec hown hl1 e.platform hpl
        obtain ⟨a8, b8, h1, h2, h3⟩ := hn1
        cases Option.some.inj (h1.symm.trans hcl)
        cases Option.some.inj (h2.symm.trans hc6)
        exact Or.inr ⟨hz0, _, hcl6, h3⟩) hx (Or.inr ⟨h0, c4, hcl5, hasg⟩)
  obtain ⟨t, a1, b1⟩ := kk (T.setVm vm') hT X'
  exact ⟨t, st.trans a1, b1⟩
end Rows
section Ends
variable {p : Program} {l : Launch} {e : Env} {R : Room} {s : State} {m : MethodId} {args : Array Value} {below : List Frame} {meth : Method} {c : Code} {H : Heap} {locs : List Loc} {cells slots : Nat} {Q : State → Prop}
variable {mc ms : Nat} {free : Addr → Prop} {A0 A1 : Nat → Prop} {H0 : Heap} {a : Array Value} {ls : Array Slot} {st0 rest : List Value}
variable {Qc : Array Value → State → Outcome → State → Prop} {XC : String → State → State → Prop}
/-- what a body that may throw owes at its end -/
def vx_MQ (below : List Frame) (Qc : Array Value → State → Outcome → State → Prop) (XC : String → State → State → Prop) (a : Array Value) (s : State) (mc ms : Nat) (free : Addr → Prop) : State → Prop := fun t =>
  ∃ o, t.status = .running ∧ Ended t below o ∧ vx_Q Qc XC mc ms free a s o t
theorem vx_ret {g : JFrame} {mc ms : Nat} (k : W p l e R s m args below meth c H locs cells slots (MQ below Qc args s mc ms free) g) : W p l e R s m args below meth c H locs cells slots (vx_MQ below Qc XC args s mc ms free) g := by
  intro T hT X
  obtain ⟨t, a1, o, b1, b2, b3, b4⟩ := k T hT X
  exact ⟨t, a1, o, b1, b2, Or.inl ⟨b3, b4⟩⟩
/-- not caught here: it goes on to the caller -/
theorem vx_widen {g : JFrame} {q : Addr} {k n : Nat} (h1 : cells ≤ k) (h2 : slots ≤ n) (kk : vx_W p l e R s m args below meth c H locs k n Q g q) : vx_W p l e R s m args below meth c H locs cells slots Q g q := fun T hT X => kk T hT (stand_widen X h1 h2)
theorem vx_out {pc : Nat} {E : String} {ce : Cell} {q : Addr} {mc ms : Nat} (hout : ∀ x ∈ c.exceptionTable.toList, covers x pc = false) (hlocks : meth.locks = false) (hcell : H[q]? = some ce) (hv : ce.vm = .none) (hcl : s.vm.findClass E = some ce.cls)
    (hx : ∀ t : State, t.heap = H → s.vm.Alike t.vm → XC E s t) (hf : ∀ z ∈ locs, free z.base) (hc : cells ≤ mc) (hs : slots ≤ ms) :
    vx_W p l e R s m args below meth c H locs cells slots (vx_MQ below Qc XC args s mc ms free) (F0 m pc ls rest) q := by
  intro T hT X
  obtain ⟨st1, hrun, hend, hW, hsm⟩ := X.leaveThrown q (g := F0 m pc ls rest) rfl rfl rfl hout hlocks
  have hcell9 : (T.setFrames (.throwing q :: below)).heap[q]? = some ce := by
    show T.heap[q]? = some ce
    rw [hT]; exact hcell
  exact ⟨_, st1, .threw q, hrun, hend, Or.inr ⟨q, rfl, E, ce, locs, hx _ hT hW.alike, hcell9, hv, hcl, hW, hsm.mono hc hs, hf⟩⟩
theorem vx_frame {U : State} {k n : Nat} (h : s.sameButNew ({ U with vm := s.vm } : State) locs k n) : s.heap.size ≤ U.heap.size ∧ ∀ q : Nat, q < s.heap.size → (∀ z ∈ locs, z.base ≠ q) → U.heap[q]? = s.heap[q]? := by
  obtain ⟨-, h2, -, -, -, h6⟩ := h
  refine ⟨h2, fun q hq hz => ?_⟩
  obtain ⟨c9, e1, e2, e3, e4⟩ := h6 q _ (Array.getElem?_eq_getElem hq)
  have hs : c9.slots = (s.heap[q]).slots := Array.ext_getElem? fun i => e4 i fun hm => hz _ hm rfl
  have h9 : c9 = s.heap[q] := by
    rw [hs] at e2
    exact e2
  have e5 : U.heap[q]? = some c9 := e1
  rw [e5, h9, Array.getElem?_eq_getElem hq]
/-- the words of a throw but the four that speak of the heap -/
def vx_no (w : Cond) : Bool := decide (w ≠ .isRef (.static Bundle.tN "UNASSIGNED_STACK" Bundle.steD)) && decide (w ≠ .isRef (.static Bundle.tN "SUPPRESSED_SENTINEL" Bundle.listD)) && decide (w ≠ .laysStatic Bundle.tN "UNASSIGNED_STACK" Bundle.steD) && decide (w ≠ .laysStatic Bundle.tN "SUPPRESSED_SENTINEL" Bundle.listD)
def vx_at0 (own : String) (ic : Nat) (X : String) (names : List String) : List Cond := (Bundle.ownAtoms0 own ic X names).filter vx_no
def vx_atS (own : String) (ic : Nat) (X : String) (names : List String) : List Cond := (Bundle.ownAtoms own ic X names).filter vx_no
/-- a word that the tables alone decide, or a good one -/
def vx_ot (w : Cond) : Bool := w.onTables || goodWord w
theorem vx_ot_at {args a' : Array Value} {s U : State} {w : Cond} (hW : s.WarmedH U.vm) (hvm : s.vm = U.vm) (hg : vx_ot w = true) (h : w.before args s = true) : w.before a' U = true := by
  simp only [vx_ot, Bool.or_eq_true] at hg
  rcases hg with hg | hg
  · exact va_tabs hg hvm h
  · exact word_at hW (good_of_word hg) h
/-- a list's words: the good ones out of the method's own list, the others by premises of their own -/
theorem vx_hat {args : Array Value} {s : State} {L B : List Cond} (h1 : ∀ w ∈ L.filter goodWord, w.before args s = true) (h2 : ∀ w ∈ L.filter (fun w => !goodWord w), w ∈ B) (h3 : ∀ w ∈ B, w.before args s = true) : ∀ w ∈ L, w.before args s = true := by
  intro w hw
  by_cases g : goodWord w = true
  · exact h1 w (List.mem_filter.mpr ⟨hw, g⟩)
  · refine h3 w (h2 w (List.mem_filter.mpr ⟨hw, ?_⟩))
    show (!goodWord w) = true
    cases hgw : goodWord w
    · rfl
    · exact absurd hgw g
theorem vx_c {args : Array Value} {s : State} {w : Cond} {B : List Cond} (h : w.before args s = true) (t : ∀ w ∈ B, w.before args s = true) : ∀ w' ∈ w :: B, w'.before args s = true := fun w' h' => (List.mem_cons.mp h').elim (fun e => by rw [e]; exact h) (t w')
theorem vx_n {args : Array Value} {s : State} : ∀ w ∈ ([] : List Cond), w.before args s = true := fun _ h => nomatch h
theorem vx_own {args : Array Value} {s : State} {L : List Cond} (h1 : ∀ w ∈ L.filter vx_no, w.before args s = true)
    (hU : (Cond.isRef (.static Bundle.tN "UNASSIGNED_STACK" Bundle.steD)).before args s = true) (hN : (Cond.isRef (.static Bundle.tN "SUPPRESSED_SENTINEL" Bundle.listD)).before args s = true)
    (lU : (Cond.laysStatic Bundle.tN "UNASSIGNED_STACK" Bundle.steD).before args s = true) (lN : (Cond.laysStatic Bundle.tN "SUPPRESSED_SENTINEL" Bundle.listD).before args s = true) : ∀ w ∈ L, w.before args s = true := by
  intro w hw
  by_cases e1 : w = .isRef (.static Bundle.tN "UNASSIGNED_STACK" Bundle.steD)
  · rw [e1]; exact hU
  · by_cases e2 : w = .isRef (.static Bundle.tN "SUPPRESSED_SENTINEL" Bundle.listD)
    · rw [e2]; exact hN
    · by_cases e3 : w = .laysStatic Bundle.tN "UNASSIGNED_STACK" Bundle.steD
      · rw [e3]; exact lU
      · by_cases e4 : w = .laysStatic Bundle.tN "SUPPRESSED_SENTINEL" Bundle.listD
        · rw [e4]; exact lN
        · exact h1 w (List.mem_filter.mpr ⟨hw, by unfold vx_no; rw [decide_eq_true e1, decide_eq_true e2, decide_eq_true e3, decide_eq_true e4]; rfl⟩)
/-- where a static field lies, its class's statics cell in H -/
def vx_L (C n d : String) (A : Nat → Prop) (U : State) (H : Heap) : Prop := ∃ (c : ClassId) (k : Class) (i : Nat) (f : Field) (a : Nat) (cell : Cell), U.vm.findClass C = some c ∧ U.fieldFound? C n d = some (c, k, i, f) ∧ f.isStatic = true ∧ k.statics = some a ∧ H[a]? = some cell ∧ cell.vm.isStatics = true ∧ cell.cls = c ∧ f.slot < cell.slots.size ∧ k.staticTypes[f.slot]? = some f.type ∧ ¬ A a
theorem vx_L.moved {C n d : String} {A : Nat → Prop} {u U : State} {H : Heap} (hvm : u.vm.Alike U.vm) (h : vx_L C n d A u H) : vx_L C n d A U H := by
  obtain ⟨c, k, i, f, a, cell, h1, h2, h3, h4, h5, h6, h7, h8, h9, h10⟩ := h
  obtain ⟨k', hi', he⟩ := State.fieldFound?_setVm hvm h2
  exact ⟨c, k', i, f, a, cell, by rw [hvm.findClass]; exact h1, hi', h3, by rw [he]; exact h4, h5, h6, h7, h8, by rw [he]; exact h9, h10⟩
theorem vx_L.kept {C n d : String} {A : Nat → Prop} {U : State} {H H1 : Heap} (h : vx_L C n d A U H) (hq : ∀ a : Nat, a < H.size → ¬ A a → H1[a]? = H[a]?) : vx_L C n d A U H1 := by
  obtain ⟨c, k, i, f, a, cell, h1, h2, h3, h4, h5, h6, h7, h8, h9, h10⟩ := h
  exact ⟨c, k, i, f, a, cell, h1, h2, h3, h4, by rw [hq a (Array.getElem?_eq_some_iff.mp h5).1 h10]; exact h5, h6, h7, h8, h9, h10⟩
theorem vx_L.narrow {C n d : String} {A B : Nat → Prop} {U : State} {H : Heap} (h : vx_L C n d A U H) (hAB : ∀ q, B q → A q) : vx_L C n d B U H := by
  obtain ⟨c, k, i, f, a, cell, h1, h2, h3, h4, h5, h6, h7, h8, h9, h10⟩ := h
  exact ⟨c, k, i, f, a, cell, h1, h2, h3, h4, h5, h6, h7, h8, h9, fun z => h10 (hAB _ z)⟩
theorem vx_L.word {C n d : String} {A : Nat → Prop} {s : State} {args : Array Value} (h : vx_L C n d A s s.heap) : (Cond.laysStatic C n d).before args s = true := by
  obtain ⟨c, k, i, f, a, cell, h1, h2, h3, h4, h5, h6, h7, h8, h9, -⟩ := h
  show (Cond.laysStatic C n d).holds args s none s [] = true
  exact Cond.laysStatic_of h1 h2 h3 h4 h5 h6 h7 h8 h9
/-- .. and what it holds: null or some reference -/
def vx_Zq (C n d : String) (A : Nat → Prop) (U : State) (H : Heap) : Prop := va_Zq C n d A U H ∧ vx_L C n d A U H
theorem vx_Zq.moved {C n d : String} {A : Nat → Prop} {u U : State} {H : Heap} (hvm : u.vm.Alike U.vm) (h : vx_Zq C n d A u H) : vx_Zq C n d A U H := ⟨va_Zq.moved hvm h.1, vx_L.moved hvm h.2⟩
theorem vx_Zq.kept {C n d : String} {A : Nat → Prop} {U : State} {H H1 : Heap} (h : vx_Zq C n d A U H) (hq : ∀ a : Nat, a < H.size → ¬ A a → H1[a]? = H[a]?) : vx_Zq C n d A U H1 := ⟨va_Zq.kept h.1 hq, vx_L.kept h.2 hq⟩
theorem vx_Zq.narrow {C n d : String} {A B : Nat → Prop} {U : State} {H : Heap} (h : vx_Zq C n d A U H) (hAB : ∀ q, B q → A q) : vx_Zq C n d B U H := ⟨va_Zq.narrow h.1 hAB, vx_L.narrow h.2 hAB⟩
theorem vx_Zqof {args : Array Value} {s : State} {C n d : String} {A : Nat → Prop} (hl : (Cond.laysStatic C n d).before args s = true) (hini : (Cond.initialized C).before args s = true) (h : (Cond.isRef (.static C n d)).before args s = true) (hA : ∀ a : Nat, a < s.heap.size → ¬ A a) : vx_Zq C n d A s s.heap := by
  refine ⟨va_Zqof hl hini h hA, ?_⟩
  obtain ⟨c, k, i, f, a, cell, h1, h2, h3, h4, h5, h6, h7, h8, h9⟩ := Cond.laysStatic_spec hl
  exact ⟨c, k, i, f, a, cell, h1, h2, h3, h4, h5, h6, h7, h8, h9, hA a (Array.getElem?_eq_some_iff.mp h5).1⟩
theorem vx_isRef {C n d : String} {v : Value} {A : Nat → Prop} {s : State} {args : Array Value} (h : va_Z C n d v A s s.heap) (hv : v.isRef = true) : (Cond.isRef (.static C n d)).before args s = true := by
  obtain ⟨cf, kf, fi, f, a, cell, h1, h2, h3, h4, h5, h6, h7, -⟩ := h
  have he : (Term.static C n d).eval args s none [] s = some v := by
    simp [Term.eval, State.fieldNamed?, h1, h2, h4, h5, h6, h7]
  simp only [Cond.before, Cond.holds, Cond.value, he]
  cases v <;> simp_all [Value.isRef]
theorem vx_isRefq {C n d : String} {A : Nat → Prop} {s : State} {args : Array Value} (h : va_Zq C n d A s s.heap) : (Cond.isRef (.static C n d)).before args s = true := by
  rcases h with h | ⟨t, h⟩
  · exact vx_isRef h rfl
  · exact vx_isRef h rfl
/-- the same frame, seen from here: as if the method were called anew in this heap -/
theorem vx_rebase {T : State} (X : Stand p l e R s m args below meth c T locs cells slots) {R' : Room} (hf : R'.frames ≤ R.frames) (hl : R'.locals ≤ R.locals) (hc : cells + R'.cells ≤ R.cells) (hs : slots + R'.slots ≤ R.slots) :
    Stand p l e R' ((T.setVm s.vm).setFrames (.invoking m args :: below)) m args below meth c T [] 0 0 := by
  have htop : (T.setVm s.vm).topJava?.isSome := X.here.top
  have hF : ((T.setVm s.vm).setFrames (.invoking m args :: below)).frames = .invoking m args :: below := State.frames_setFrames _ (State.cur_lt_of_top htop)
  obtain ⟨g₀, hg0⟩ := Option.isSome_iff_exists.mp htop
  obtain ⟨r, hr⟩ := State.topJava?_eq_some.mp hg0
  have hl9 : e.platform.stackLimits (T.setVm s.vm).me = e.platform.stackLimits s.me := X.limits
  have hb9 : (T.setVm s.vm).me.stackBytes = s.me.stackBytes := X.bytes
  refine ⟨X.admits, X.cas, X.clock, hF, ?_, X.hears, X.method, X.code, X.here, X.tail, X.warmed, ?_, ?_, ?_⟩
  · have h := X.room
    have hU : ((T.setVm s.vm).setFrames (.invoking m args :: below)).localsInUse = s.localsInUse := by
      rw [State.localsInUse_invoking hF (meth := meth) (c := c) X.method X.code, State.localsInUse_invoking X.frames X.method X.code]
    simp only [State.hasRoom, Bool.and_eq_true, decide_eq_true_eq] at h ⊢
    obtain ⟨⟨⟨⟨h1, h2, h3, h4, h5, h6⟩, h7⟩, h8⟩, h9⟩ := h
    rw [X.frames, List.length_cons] at h2 h3
    have q1 := X.heapSize
    have q2 := X.used
    simp only [hF, hU, List.length_cons, State.stackLimits_setFrames, State.stackBytes_setFrames, hl9, hb9]
    refine ⟨⟨⟨⟨by omega, by omega, by omega, by omega, by omega, h6⟩, ?_⟩, ?_⟩, X.book⟩
    · show T.heap.size + R'.cells ≤ e.platform.maxCells
      omega
    · show T.slotsUsed + R'.slots ≤ e.platform.maxSlots
      omega
  · rw [State.stackLimits_setFrames]; rfl
  · rw [State.stackBytes_setFrames]; rfl
  · refine ⟨?_, Nat.le_refl _, Nat.le_refl _, ?_, ?_, fun a c9 h9 => ⟨c9, h9, rfl, rfl, fun _ _ => rfl⟩⟩
    · obtain ⟨t, ht, -⟩ := State.frames_cons hr
      show T.setVm s.vm = { ((T.setVm s.vm).setFrames (.invoking m args :: below)).setFrames (T.setVm s.vm).frames with heap := T.heap, slotsUsed := T.slotsUsed }
      rw [State.setFrames_setFrames, State.setFrames_self ht]
      rfl
    · show T.slotsUsed = T.slotsUsed + ((T.heap.toList.drop T.heap.size).map (·.slots.size)).sum
      rw [List.drop_eq_nil_of_le (Nat.le_of_eq Array.length_toList)]
      rfl
    · show ((T.heap.toList.drop T.heap.size).map (·.slots.size)).sum ≤ 0
      rw [List.drop_eq_nil_of_le (Nat.le_of_eq Array.length_toList)]
      exact Nat.le_refl _
/-- 'throw new E()': new; dup; invokespecial; athrow -/
theorem vx_throw0 {cc : ByteArray} {pc : Nat} (hexec : p.tables.exec = Jvm.exec) (hb : c.code = cc) (hl : l.stackTraces = false) {own cls : String} {names : List String} {ik ic mc ms : Nat} {A : Nat → Prop}
    (hown : s.vm.findClass own = some m.cls) (hcls : Bundle.fit cls = true) (hnames : ∀ n ∈ names, Bundle.fit n = true)
    (hk : (Cond.classLink own ik cls).before args s = true) (hini : (Cond.initialized cls).before args s = true) (hat : ∀ w ∈ vx_at0 own ic cls names, w.before args s = true)
    (hgood : ∀ w ∈ Cond.classLink own ik cls :: Cond.initialized cls :: vx_at0 own ic cls names, vx_ot w = true)
    (hU : vx_Zq Bundle.tN "UNASSIGNED_STACK" Bundle.steD A s s.heap) (hN : vx_Zq Bundle.tN "SUPPRESSED_SENTINEL" Bundle.listD A s s.heap) (hS : va_S A s.heap H locs) (hsize : ls.size = c.maxLocals)
    (d0 : decode cc pc = .ok (.new ik, 3)) (d3 : decode cc (pc + 3) = .ok (.dup, 1)) (d4 : decode cc (pc + 4) = .ok (.invokespecial ic, 3)) (d7 : decode cc (pc + 7) = .ok (.athrow, 1))
    (hout : ∀ x ∈ c.exceptionTable.toList, covers x (pc + 7) = false)
    (hRframes : names.length + 3 < R.frames) (hRlocals : (rest.map fun v => v.category).sum + (13 * (names.length + 1) + 42) ≤ R.locals) (hRcells : cells + 1 ≤ R.cells) (hRslots : slots + 6 ≤ R.slots) (hlocks : meth.locks = false)
    (hx : ∀ t : State, s.vm.Alike t.vm → H.size ≤ t.heap.size → (∀ q : Nat, q < H.size → t.heap[q]? = H[q]?) → XC cls s t)
    (hf : ∀ z ∈ locs, free z.base) (hc : cells + 1 ≤ mc) (hs : slots + 6 ≤ ms) :
    W p l e R s m args below meth c H locs cells slots (vx_MQ below Qc XC args s mc ms free) (F0 m pc ls rest) := by
  intro T hT X
  have htr : e.platform.stackTraces = false := (show e.platform.stackTraces = l.stackTraces by rw [X.admits.platform]).trans hl
  have Y := vx_rebase X (R' := { frames := R.frames, locals := R.locals, cells := 1, slots := 6 }) (Nat.le_refl _) (Nat.le_refl _) hRcells hRslots
  obtain ⟨s', hA⟩ : ∃ z, z = (T.setVm s.vm).setFrames (.invoking m args :: below) := ⟨_, rfl⟩
  rw [← hA] at Y
  have hvm : s'.vm = s.vm := by rw [hA]; rfl
  have hhp : s'.heap = H := by rw [hA]; exact hT
  have hW0 : s.WarmedH s'.vm := by rw [hvm]; exact State.WarmedH.refl s
  have hat' : ∀ w ∈ vx_at0 own ic cls names, w.before args s' = true := fun w hw => vx_ot_at hW0 hvm.symm (hgood w (List.mem_cons_of_mem _ (List.mem_cons_of_mem _ hw))) (hat w hw)
  have hk' : (Cond.classLink own ik cls).before args s' = true := vx_ot_at hW0 hvm.symm (hgood _ List.mem_cons_self) hk
  have hini' : (Cond.initialized cls).before args s' = true := vx_ot_at hW0 hvm.symm (hgood _ (List.mem_cons_of_mem _ List.mem_cons_self)) hini
  have hU' : vx_Zq Bundle.tN "UNASSIGNED_STACK" Bundle.steD A s' s'.heap := by rw [hhp]; exact vx_Zq.moved hW0.alike (hU.kept hS.2.1)
  have hN' : vx_Zq Bundle.tN "SUPPRESSED_SENTINEL" Bundle.listD A s' s'.heap := by rw [hhp]; exact vx_Zq.moved hW0.alike (hN.kept hS.2.1)
  have h : ∀ w ∈ Bundle.ownAtoms0 own ic cls names, w.before args s' = true := vx_own hat' (vx_isRefq hU'.1) (vx_isRefq hN'.1) hU'.2.word hN'.2.word
  have hown' : s'.vm.findClass own = some m.cls := by rw [hvm]; exact hown
  have hins : (Cond.instantiable cls 6).before args s' = true := h _ (by simp [Bundle.ownAtoms0])
  obtain ⟨vm₁, cX, kX, hfX, hkX, -, -, X₁, st1⟩ := Y.newCold hexec (own := own) (C := cls) (index := ik) (n := 6) hown' hk' hins hini'
    (g := F0 m pc ls rest) rfl (by rw [hb]; exact d0) (Nat.le_refl _) (Nat.le_refl _)
  generalize hT1 : (T.setVm vm₁).pushCell { cls := cX, slots := kX.instanceTypes.map defaultValue, vm := .none } = T1 at X₁ st1
  have hcat : (Value.ref T.heap.size).category = 1 := rfl
  have hcellA : T1.heap[T.heap.size]? = some (freshCell cX kX) := by rw [← hT1]; exact State.heap_pushCell_size _ _
  have d3' : decode c.code (pc + 3) = .ok (.dup, 1) := by rw [hb]; exact d3
  obtain ⟨U, hsteps, hrun, hend, hW, hsame, ce, hce, hO⟩ := X₁.ctorThrow0 hexec htr (own := own) (cls := cls) (names := names) (ic := ic) hown' hcls hnames h (fun x hx => nomatch hx) hfX hkX hcellA (by rw [hhp, hT]; exact Nat.le_refl _)
    (g := { method := m, pc := pc + 4, locals := ls, stack := .ref T.heap.size :: .ref T.heap.size :: rest, locked := none }) rfl hsize rfl rfl (rest := rest) rfl
    (by rw [hb]; exact d4) (by rw [hb]; exact d7) hout hRframes (by simp only [List.map_cons, List.sum_cons, hcat]; omega) hlocks
  obtain ⟨f1, f2⟩ := vx_frame hsame
  rw [hhp] at f1 f2
  have hWs : s.WarmedH U.vm := State.WarmedH.trans hW0 hW
  have hcl : s.vm.findClass cls = some ce.cls := by
    have h9 := hO.cls
    rw [hvm] at h9
    exact h9
  have hall : s.sameButNew ({ U with vm := s.vm } : State) locs mc ms := by
    subst hA
    obtain ⟨e1, e2⟩ := hsame
    rw [State.setFrames_setFrames] at e1
    have h2 : (T.setVm s.vm).sameButNew ({ U with vm := s.vm } : State) [] (0 + 1) (0 + 6) := ⟨e1, e2⟩
    have h3 := X.same.trans h2
    rw [List.append_nil] at h3
    exact h3.mono hc hs
  refine ⟨U, ?_, .threw T.heap.size, hrun, hend, Or.inr ⟨T.heap.size, rfl, cls, ce, locs, hx U hWs.alike f1 (fun q hq => f2 q hq (fun z hz => nomatch hz)), hce, hO.vm, hcl, hWs, hall, hf⟩⟩
  refine st1 _ ?_
  show Steps p.tables e below (T1.setTop { method := m, pc := pc + 3, locals := ls, stack := .ref T.heap.size :: rest, locked := none }) _
  jvm_step X₁.here [X₁.here.top, hexec, d3', Value.category]
  exact hsteps
/-- 'throw new E("text")': new; dup; ldc; invokespecial; athrow -/
theorem vx_throwS {cc : ByteArray} {pc : Nat} (hexec : p.tables.exec = Jvm.exec) (hb : c.code = cc) (hl : l.stackTraces = false) {own cls text : String} {names : List String} {ik is ic mc ms sa : Nat} {A : Nat → Prop}
    (hown : s.vm.findClass own = some m.cls) (hcls : Bundle.fit cls = true) (hnames : ∀ n ∈ names, Bundle.fit n = true)
    (hk : (Cond.classLink own ik cls).before args s = true) (hini : (Cond.initialized cls).before args s = true) (hstr : vk_R own is text sa s) (hat : ∀ w ∈ vx_atS own ic cls names, w.before args s = true)
    (hgood : ∀ w ∈ Cond.classLink own ik cls :: Cond.initialized cls :: vx_atS own ic cls names, vx_ot w = true)
    (hU : vx_Zq Bundle.tN "UNASSIGNED_STACK" Bundle.steD A s s.heap) (hN : vx_Zq Bundle.tN "SUPPRESSED_SENTINEL" Bundle.listD A s s.heap) (hS : va_S A s.heap H locs) (hsize : ls.size = c.maxLocals)
    (d0 : decode cc pc = .ok (.new ik, 3)) (d3 : decode cc (pc + 3) = .ok (.dup, 1)) (d4 : decode cc (pc + 4) = .ok (.ldc is, 2)) (d6 : decode cc (pc + 6) = .ok (.invokespecial ic, 3)) (d9 : decode cc (pc + 9) = .ok (.athrow, 1))
    (hout : ∀ x ∈ c.exceptionTable.toList, covers x (pc + 9) = false)
    (hRframes : names.length + 3 < R.frames) (hRlocals : (rest.map fun v => v.category).sum + (13 * (names.length + 1) + 43) ≤ R.locals) (hRcells : cells + 1 ≤ R.cells) (hRslots : slots + 6 ≤ R.slots) (hlocks : meth.locks = false)
    (hx : ∀ t : State, s.vm.Alike t.vm → H.size ≤ t.heap.size → (∀ q : Nat, q < H.size → t.heap[q]? = H[q]?) → XC cls s t)
    (hf : ∀ z ∈ locs, free z.base) (hc : cells + 1 ≤ mc) (hs : slots + 6 ≤ ms) :
    W p l e R s m args below meth c H locs cells slots (vx_MQ below Qc XC args s mc ms free) (F0 m pc ls rest) := by
  intro T hT X
  have htr : e.platform.stackTraces = false := (show e.platform.stackTraces = l.stackTraces by rw [X.admits.platform]).trans hl
  have Y := vx_rebase X (R' := { frames := R.frames, locals := R.locals, cells := 1, slots := 6 }) (Nat.le_refl _) (Nat.le_refl _) hRcells hRslots
  obtain ⟨s', hA⟩ : ∃ z, z = (T.setVm s.vm).setFrames (.invoking m args :: below) := ⟨_, rfl⟩
  rw [← hA] at Y
  have hvm : s'.vm = s.vm := by rw [hA]; rfl
  have hhp : s'.heap = H := by rw [hA]; exact hT
  have hW0 : s.WarmedH s'.vm := by rw [hvm]; exact State.WarmedH.refl s
  have hat' : ∀ w ∈ vx_atS own ic cls names, w.before args s' = true := fun w hw => vx_ot_at hW0 hvm.symm (hgood w (List.mem_cons_of_mem _ (List.mem_cons_of_mem _ hw))) (hat w hw)
  have hk' : (Cond.classLink own ik cls).before args s' = true := vx_ot_at hW0 hvm.symm (hgood _ List.mem_cons_self) hk
  have hini' : (Cond.initialized cls).before args s' = true := vx_ot_at hW0 hvm.symm (hgood _ (List.mem_cons_of_mem _ List.mem_cons_self)) hini
  have hU' : vx_Zq Bundle.tN "UNASSIGNED_STACK" Bundle.steD A s' s'.heap := by rw [hhp]; exact vx_Zq.moved hW0.alike (hU.kept hS.2.1)
  have hN' : vx_Zq Bundle.tN "SUPPRESSED_SENTINEL" Bundle.listD A s' s'.heap := by rw [hhp]; exact vx_Zq.moved hW0.alike (hN.kept hS.2.1)
  have h : ∀ w ∈ Bundle.ownAtoms own ic cls names, w.before args s' = true := vx_own hat' (vx_isRefq hU'.1) (vx_isRefq hN'.1) hU'.2.word hN'.2.word
  have hown' : s'.vm.findClass own = some m.cls := by rw [hvm]; exact hown
  have hins : (Cond.instantiable cls 6).before args s' = true := h _ (by simp [Bundle.ownAtoms])
  obtain ⟨vm₁, cX, kX, hfX, hkX, -, -, X₁, st1⟩ := Y.newCold hexec (own := own) (C := cls) (index := ik) (n := 6) hown' hk' hins hini'
    (g := F0 m pc ls rest) rfl (by rw [hb]; exact d0) (Nat.le_refl _) (Nat.le_refl _)
  generalize hT1 : (T.setVm vm₁).pushCell { cls := cX, slots := kX.instanceTypes.map defaultValue, vm := .none } = T1 at X₁ st1
  have hcat : (Value.ref T.heap.size).category = 1 := rfl
  have hcellA : T1.heap[T.heap.size]? = some (freshCell cX kX) := by rw [← hT1]; exact State.heap_pushCell_size _ _
  have d3' : decode c.code (pc + 3) = .ok (.dup, 1) := by rw [hb]; exact d3
  have d4' : decode c.code (pc + 4) = .ok (.ldc is, 2) := by rw [hb]; exact d4
  have hstr' : vk_R own is text sa s' := vk_R.warm hW0 hstr
  obtain ⟨U, hsteps, hrun, hend, hW, hsame, ce, hce, hO⟩ := X₁.ctorThrowS hexec htr (own := own) (cls := cls) (names := names) (ic := ic) hown' hcls hnames h (fun x hx => nomatch hx) hfX hkX hcellA (by rw [hhp, hT]; exact Nat.le_refl _) (msg := .ref sa) rfl
    (g := { method := m, pc := pc + 6, locals := ls, stack := .ref sa :: .ref T.heap.size :: .ref T.heap.size :: rest, locked := none }) rfl hsize rfl rfl (rest := rest) rfl
    (by rw [hb]; exact d6) (by rw [hb]; exact d9) hout hRframes (by simp only [List.map_cons, List.sum_cons, hcat]; omega) hlocks
  obtain ⟨f1, f2⟩ := vx_frame hsame
  rw [hhp] at f1 f2
  have hWs : s.WarmedH U.vm := State.WarmedH.trans hW0 hW
  have hcl : s.vm.findClass cls = some ce.cls := by
    have h9 := hO.cls
    rw [hvm] at h9
    exact h9
  have hall : s.sameButNew ({ U with vm := s.vm } : State) locs mc ms := by
    subst hA
    obtain ⟨e1, e2⟩ := hsame
    rw [State.setFrames_setFrames] at e1
    have h2 : (T.setVm s.vm).sameButNew ({ U with vm := s.vm } : State) [] (0 + 1) (0 + 6) := ⟨e1, e2⟩
    have h3 := X.same.trans h2
    rw [List.append_nil] at h3
    exact h3.mono hc hs
  refine ⟨U, ?_, .threw T.heap.size, hrun, hend, Or.inr ⟨T.heap.size, rfl, cls, ce, locs, hx U hWs.alike f1 (fun q hq => f2 q hq (fun z hz => nomatch hz)), hce, hO.vm, hcl, hWs, hall, hf⟩⟩
  refine st1 _ ?_
  show Steps p.tables e below (T1.setTop { method := m, pc := pc + 3, locals := ls, stack := .ref T.heap.size :: rest, locked := none }) _
  jvm_step X₁.here [X₁.here.top, hexec, d3', Value.category]
  exact X₁.ldcString hexec (own := own) (text := text) (index := is) (a := sa) hown' hstr'.1 hstr'.2
    (g := { method := m, pc := pc + 4, locals := ls, stack := .ref T.heap.size :: .ref T.heap.size :: rest, locked := none }) rfl d4' _ hsteps
/-- 'throw new E("text")', the text by a wide index -/
theorem vx_throwSW {cc : ByteArray} {pc : Nat} (hexec : p.tables.exec = Jvm.exec) (hb : c.code = cc) (hl : l.stackTraces = false) {own cls text : String} {names : List String} {ik is ic mc ms sa : Nat} {A : Nat → Prop}
    (hown : s.vm.findClass own = some m.cls) (hcls : Bundle.fit cls = true) (hnames : ∀ n ∈ names, Bundle.fit n = true)
    (hk : (Cond.classLink own ik cls).before args s = true) (hini : (Cond.initialized cls).before args s = true) (hstr : vk_R own is text sa s) (hat : ∀ w ∈ vx_atS own ic cls names, w.before args s = true)
    (hgood : ∀ w ∈ Cond.classLink own ik cls :: Cond.initialized cls :: vx_atS own ic cls names, vx_ot w = true)
    (hU : vx_Zq Bundle.tN "UNASSIGNED_STACK" Bundle.steD A s s.heap) (hN : vx_Zq Bundle.tN "SUPPRESSED_SENTINEL" Bundle.listD A s s.heap) (hS : va_S A s.heap H locs) (hsize : ls.size = c.maxLocals)
    (d0 : decode cc pc = .ok (.new ik, 3)) (d3 : decode cc (pc + 3) = .ok (.dup, 1)) (d4 : decode cc (pc + 4) = .ok (.ldc_w is, 3)) (d7 : decode cc (pc + 7) = .ok (.invokespecial ic, 3)) (d10 : decode cc (pc + 10) = .ok (.athrow, 1))
    (hout : ∀ x ∈ c.exceptionTable.toList, covers x (pc + 10) = false)
    (hRframes : names.length + 3 < R.frames) (hRlocals : (rest.map fun v => v.category).sum + (13 * (names.length + 1) + 43) ≤ R.locals) (hRcells : cells + 1 ≤ R.cells) (hRslots : slots + 6 ≤ R.slots) (hlocks : meth.locks = false)
    (hx : ∀ t : State, s.vm.Alike t.vm → H.size ≤ t.heap.size → (∀ q : Nat, q < H.size → t.heap[q]? = H[q]?) → XC cls s t)
    (hf : ∀ z ∈ locs, free z.base) (hc : cells + 1 ≤ mc) (hs : slots + 6 ≤ ms) :
    W p l e R s m args below meth c H locs cells slots (vx_MQ below Qc XC args s mc ms free) (F0 m pc ls rest) := by
  intro T hT X
  have htr : e.platform.stackTraces = false := (show e.platform.stackTraces = l.stackTraces by rw [X.admits.platform]).trans hl
  have Y := vx_rebase X (R' := { frames := R.frames, locals := R.locals, cells := 1, slots := 6 }) (Nat.le_refl _) (Nat.le_refl _) hRcells hRslots
  obtain ⟨s', hA⟩ : ∃ z, z = (T.setVm s.vm).setFrames (.invoking m args :: below) := ⟨_, rfl⟩
  rw [← hA] at Y
  have hvm : s'.vm = s.vm := by rw [hA]; rfl
  have hhp : s'.heap = H := by rw [hA]; exact hT
  have hW0 : s.WarmedH s'.vm := by rw [hvm]; exact State.WarmedH.refl s
  have hat' : ∀ w ∈ vx_atS own ic cls names, w.before args s' = true := fun w hw => vx_ot_at hW0 hvm.symm (hgood w (List.mem_cons_of_mem _ (List.mem_cons_of_mem _ hw))) (hat w hw)
  have hk' : (Cond.classLink own ik cls).before args s' = true := vx_ot_at hW0 hvm.symm (hgood _ List.mem_cons_self) hk
  have hini' : (Cond.initialized cls).before args s' = true := vx_ot_at hW0 hvm.symm (hgood _ (List.mem_cons_of_mem _ List.mem_cons_self)) hini
  have hU' : vx_Zq Bundle.tN "UNASSIGNED_STACK" Bundle.steD A s' s'.heap := by rw [hhp]; exact vx_Zq.moved hW0.alike (hU.kept hS.2.1)
  have hN' : vx_Zq Bundle.tN "SUPPRESSED_SENTINEL" Bundle.listD A s' s'.heap := by rw [hhp]; exact vx_Zq.moved hW0.alike (hN.kept hS.2.1)
  have h : ∀ w ∈ Bundle.ownAtoms own ic cls names, w.before args s' = true := vx_own hat' (vx_isRefq hU'.1) (vx_isRefq hN'.1) hU'.2.word hN'.2.word
  have hown' : s'.vm.findClass own = some m.cls := by rw [hvm]; exact hown
  have hins : (Cond.instantiable cls 6).before args s' = true := h _ (by simp [Bundle.ownAtoms])
  obtain ⟨vm₁, cX, kX, hfX, hkX, -, -, X₁, st1⟩ := Y.newCold hexec (own := own) (C := cls) (index := ik) (n := 6) hown' hk' hins hini'
    (g := F0 m pc ls rest) rfl (by rw [hb]; exact d0) (Nat.le_refl _) (Nat.le_refl _)
  generalize hT1 : (T.setVm vm₁).pushCell { cls := cX, slots := kX.instanceTypes.map defaultValue, vm := .none } = T1 at X₁ st1
  have hcat : (Value.ref T.heap.size).category = 1 := rfl
  have hcellA : T1.heap[T.heap.size]? = some (freshCell cX kX) := by rw [← hT1]; exact State.heap_pushCell_size _ _
  have d3' : decode c.code (pc + 3) = .ok (.dup, 1) := by rw [hb]; exact d3
  have d4' : decode c.code (pc + 4) = .ok (.ldc_w is, 3) := by rw [hb]; exact d4
  have hstr' : vk_R own is text sa s' := vk_R.warm hW0 hstr
  obtain ⟨U, hsteps, hrun, hend, hW, hsame, ce, hce, hO⟩ := X₁.ctorThrowS hexec htr (own := own) (cls := cls) (names := names) (ic := ic) hown' hcls hnames h (fun x hx => nomatch hx) hfX hkX hcellA (by rw [hhp, hT]; exact Nat.le_refl _) (msg := .ref sa) rfl
    (g := { method := m, pc := pc + 7, locals := ls, stack := .ref sa :: .ref T.heap.size :: .ref T.heap.size :: rest, locked := none }) rfl hsize rfl rfl (rest := rest) rfl
    (by rw [hb]; exact d7) (by rw [hb]; exact d10) hout hRframes (by simp only [List.map_cons, List.sum_cons, hcat]; omega) hlocks
  obtain ⟨f1, f2⟩ := vx_frame hsame
  rw [hhp] at f1 f2
  have hWs : s.WarmedH U.vm := State.WarmedH.trans hW0 hW
  have hcl : s.vm.findClass cls = some ce.cls := by
    have h9 := hO.cls
    rw [hvm] at h9
    exact h9
  have hall : s.sameButNew ({ U with vm := s.vm } : State) locs mc ms := by
    subst hA
    obtain ⟨e1, e2⟩ := hsame
    rw [State.setFrames_setFrames] at e1
    have h2 : (T.setVm s.vm).sameButNew ({ U with vm := s.vm } : State) [] (0 + 1) (0 + 6) := ⟨e1, e2⟩
    have h3 := X.same.trans h2
    rw [List.append_nil] at h3
    exact h3.mono hc hs
  refine ⟨U, ?_, .threw T.heap.size, hrun, hend, Or.inr ⟨T.heap.size, rfl, cls, ce, locs, hx U hWs.alike f1 (fun q hq => f2 q hq (fun z hz => nomatch hz)), hce, hO.vm, hcl, hWs, hall, hf⟩⟩
  refine st1 _ ?_
  show Steps p.tables e below (T1.setTop { method := m, pc := pc + 3, locals := ls, stack := .ref T.heap.size :: rest, locked := none }) _
  jvm_step X₁.here [X₁.here.top, hexec, d3', Value.category]
  exact X₁.ldcStringW hexec (own := own) (text := text) (index := is) (a := sa) hown' hstr'.1 hstr'.2
    (g := { method := m, pc := pc + 4, locals := ls, stack := .ref T.heap.size :: .ref T.heap.size :: rest, locked := none }) rfl d4' _ hsteps
end Ends
section Bodies
variable {l : Launch}
theorem vx_ofW {y : MethodName} {ws ws' : List Cond} {rm : Room} {Pc : Array Value → State → Prop} {Qc : Array Value → State → Outcome → State → Prop} {XC : String → State → State → Prop} {mc ms : Nat} {free : Addr → Prop} {cc : ByteArray} {maxL : Nat} {ret : Option FieldType}
    (hy : plainName y.cls = true) (hw : ws = Cond.code y cc maxL ret :: ws')
    (body : ∀ p e s m args below meth c s₁, BodyLoose p l y (headSpec ws rm) cc maxL ret e s m args below meth c s₁ → c.maxLocals = maxL → (∀ x ∈ c.exceptionTable.toList, False) → Pc args s →
      W p l e (headSpec ws rm).room s m args below meth c s.heap [] 0 0 (vx_MQ below Qc XC args s mc ms free) (entryFrame m args maxL)) : vx_Met l y ws rm Pc Qc XC mc ms free := by
  refine MetFree.of_bodyS (code := cc) (maxLocals := maxL) (ret := ret) hy ?_ ?_
  · intro args s m h hn
    obtain ⟨meth, c, h1, h2, h3, h4, h5, h6, -, -⟩ := Cond.code_spec hn (atoms_spec (ws := ws) h _ (by rw [hw]; exact List.mem_cons_self))
    exact ⟨meth, c, h1, h2, h3, h4, h5, h6⟩
  · intro p e s m args below meth c s₁ B hml hP _
    have hh0 : s₁.heap = s.heap := by rw [B.state]; rfl
    have ht : ∀ x ∈ c.exceptionTable.toList, False := by
      obtain ⟨meth9, c9, h1, h2, -, -, -, -, h7, -⟩ := Cond.code_spec B.named (atoms_spec (ws := ws) B.pre _ (by rw [hw]; exact List.mem_cons_self))
      cases Option.some.inj (h1.symm.trans B.method)
      cases Option.some.inj (h2.symm.trans (Stand.of_body B).code)
      intro x hx
      rw [Array.isEmpty_iff.mp h7] at hx
      cases hx
    obtain ⟨t, a1, o, b1, b2, b3⟩ := body p e s m args below meth c s₁ B hml ht hP s₁ hh0 (Stand.of_body B)
    exact ⟨t, o, a1, b1, b2, b3⟩
/-- the table of a body with handlers -/
theorem vx_table {p : Program} {x y : MethodName} {S : Spec} {cc bytes : ByteArray} {maxL maxL' : Nat} {ret ret' : Option FieldType} {e : Env} {s s₁ : State} {m : MethodId} {args : Array Value} {below : List Frame} {meth : Method} {c : Code} {hh : List (Nat × Nat × Nat × Nat)}
    (B : BodyLoose p l y S cc maxL ret e s m args below meth c s₁) (h : (Cond.codeWith y bytes maxL' ret' hh).before args s = true) : c.exceptionTable.toList = tableOf hh := by
  obtain ⟨m9, meth9, c9, hn9, h1, h2, -, -, h6, -⟩ := Cond.codeWith_spec h
  cases Option.some.inj (hn9.symm.trans B.named)
  cases Option.some.inj (h1.symm.trans B.method)
  cases Option.some.inj (h2.symm.trans (Stand.of_body B).code)
  rw [← h6, table_eq]
end Bodies
end VXA
/-! ===== END ===== -/
/-! ===== BEGIN a static call of a method with an exception table ===== -/
section VXS
variable {p : Program} {l : Launch} {e : Env} {R : Room} {s : State} {m : MethodId} {args : Array Value} {below : List Frame} {meth : Method} {c : Code} {T : State} {H : Heap} {locs : List Loc} {cells slots : Nat}
abbrev vx_CSW (R : Room) (s : State) (args : Array Value) (own : String) (index : Nat) (y : MethodName) (bytes : ByteArray) (maxL : Nat) (ret : Option FieldType) (hh : List (Nat × Nat × Nat × Nat)) (ws : List Cond) (rm : Room) (mc ms n : Nat) : Prop :=
  (rm.cells = mc ∧ rm.slots = ms ∧ rm.frames + 1 ≤ R.frames ∧ 8 + (maxL + 11) + rm.locals ≤ R.locals ∧ (∀ w ∈ ws, ∀ (a' : Array Value) (U : State), s.WarmedH U.vm → w.before a' U = true) ∧ Cond.codeWith y bytes maxL ret hh ∈ ws) ∧
  (Cond.codeWith y bytes maxL ret hh).before args s = true ∧ (Cond.initialized y.cls).before args s = true ∧ (y.cls ≠ "java/lang/invoke/MethodHandle" ∧ y.cls ≠ "java/lang/invoke/VarHandle") ∧
  (∀ sig, parseMethodDescriptor y.desc = some sig → n = sig.parameters.length) ∧ (Cond.methodLink own index y).before args s = true ∧ (Cond.static y).before args s = true
theorem vx_cwSW {own : String} {index maxL mc ms : Nat} {y : MethodName} {bytes : ByteArray} {ret : Option FieldType} {hh : List (Nat × Nat × Nat × Nat)} {Ts ws ws' : List Cond} {rm : Room} (n : Nat) (ht : ∀ w ∈ Ts, w.before args s = true) (hT : GoodIn Ts (va_wsS own index y ws)) (hw : ws = Cond.codeWith y bytes maxL ret hh :: ws') (hrc : rm.cells = mc) (hrs : rm.slots = ms)
    (hd : y.cls ≠ "java/lang/invoke/MethodHandle" ∧ y.cls ≠ "java/lang/invoke/VarHandle" ∧ (parseMethodDescriptor y.desc).map (fun d => d.parameters.length) = some n) (hR : rm.frames + 1 ≤ R.frames ∧ 8 + (maxL + 11) + rm.locals ≤ R.locals) :
    vx_CSW R s args own index y bytes maxL ret hh ws rm mc ms n := by
  have ok : ∀ w ∈ va_wsS own index y ws, w.before args s = true := fun w h => ht w (hT w h).1
  have hG : GoodIn Ts ws := fun w h => hT w (by unfold va_wsS; exact List.mem_append_right _ h)
  have hc : Cond.codeWith y bytes maxL ret hh ∈ ws := by rw [hw]; exact List.mem_cons_self
  refine ⟨⟨hrc, hrs, hR.1, hR.2, pay_in ht hG, hc⟩, ht _ (hG _ hc).1, ok _ (by simp [va_wsS]), ⟨hd.1, hd.2.1⟩, fun sig h => ?_, ok _ (by simp [va_wsS]), ok _ (by simp [va_wsS])⟩
  have h2 := hd.2.2
  rw [h] at h2
  exact (Option.some.inj h2).symm
theorem vx_callSW (X : Stand p l e R s m args below meth c T locs cells slots) (hexec : p.tables.exec = Jvm.exec) {own : String} {index : Nat} {y : MethodName} {bytes : ByteArray} {maxL : Nat} {ret : Option FieldType} {hh : List (Nat × Nat × Nat × Nat)}
    (hown : s.vm.findClass own = some m.cls) (hlink : (Cond.methodLink own index y).before args s = true) (hstat : (Cond.static y).before args s = true) (hinit : (Cond.initialized y.cls).before args s = true)
    (hcode : (Cond.codeWith y bytes maxL ret hh).before args s = true) (hy : y.cls ≠ "java/lang/invoke/MethodHandle" ∧ y.cls ≠ "java/lang/invoke/VarHandle")
    {W9 : Nat} {Pre : Pt → Array Value → Prop} {Post : Pt → Array Value → Option Value → Pt → Prop} (hK : Back l R p e below s args y 3 W9 Pre Post)
    {g : JFrame} (hg : g.method = m) (hsize : g.locals.size = c.maxLocals) {argsL rest : List Value} (hlen : ∀ sig, parseMethodDescriptor y.desc = some sig → argsL.length = sig.parameters.length)
    (hstack : g.stack = argsL.reverse ++ rest) (hW : 2 * g.monitorRoom + (rest.map fun v => v.category).sum ≤ W9) (hdg : decode c.code g.pc = .ok (.invokestatic index, 3))
    (hpre : ∀ vm₁, s.WarmedH vm₁ → Pre ⟨T.setVm vm₁, locs, cells, slots⟩ argsL.toArray) :
    ∃ (v : Option Value) (vm₁ : Vm) (B : Pt), s.WarmedH vm₁ ∧ Stand p l e R s m args below meth c B.U B.locs B.cells B.slots ∧ Post ⟨T.setVm vm₁, locs, cells, slots⟩ argsL.toArray v B ∧
      ∀ target, Steps p.tables e below (B.U.setTop { g with pc := g.pc + 3, stack := v.toList ++ rest }) target → Steps p.tables e below (T.setTop g) target := by
  obtain ⟨mk, methM, cM, hnamed, hmethM, -, -, -, -, -, -, hsigM⟩ := Cond.codeWith_spec hcode
  have hstatic : methM.isStatic = true := Cond.static_spec hnamed hmethM hstat
  obtain ⟨kP, hkP, -⟩ := className_of_methodNamed hnamed
  have hinitP : kP.init = .initialized := Cond.initialized_spec (findClass_of_methodNamed hnamed) hkP hinit
  obtain ⟨vm₁, X₁, hstep₁⟩ := X.invokestatic hexec hown hlink hnamed hmethM hstatic hkP hinitP hy (g := g) hg (argsL := argsL) (rest := rest) (hlen _ hsigM) hstack hdg
  obtain ⟨v, B, X', hpost, hsteps⟩ := hK m meth c ⟨T.setVm vm₁, locs, cells, slots⟩ { g with stack := rest } (.invokestatic index) mk argsL.toArray X₁ hg hsize hdg hW (X₁.named hnamed) (hpre vm₁ X₁.warmed)
  exact ⟨v, vm₁, B, X₁.warmed, X', hpost, fun target h => hstep₁ _ fun acts => by rw [doInvoke_state]; exact hsteps.trans h⟩
theorem vx_runSW {y : MethodName} {bytes cc : ByteArray} {maxL nL mc ms n index : Nat} {ret : Option FieldType} {hh : List (Nat × Nat × Nat × Nat)} {ws : List Cond} {rm : Room} {Pc : Array Value → State → Prop} {Qc : Array Value → State → Outcome → State → Prop} {free : Addr → Prop} {Ts : List Cond} {own : String} {As rest : List Value} {g : JFrame}
    (S : CallFix p m c cc nL s args Ts own) (hM : Met l y ws rm Pc Qc mc ms free) (cw : vx_CSW R s args own index y bytes maxL ret hh ws rm mc ms n) (hp : PreS s H Pc As)
    (hg : g.method = m) (hn : As.length = n) (hsize : g.locals.size = nL) (hstack : g.stack = As.reverse ++ rest) (hW : 2 * g.monitorRoom + (rest.map fun v => v.category).sum ≤ 8) (hdg : decode cc g.pc = .ok (.invokestatic index, 3)) (hf : cells + mc ≤ R.cells ∧ slots + ms ≤ R.slots) :
    va_Run p l e R s m args below meth c H locs cells slots mc ms g rest (Qc As.toArray) (free) := by
  obtain ⟨⟨hrc, hrs, hfr, hlo, hws, hcw⟩, hcode, hini, hy, hlen, hl, hstt⟩ := cw
  have hK : Back l R p e below s args y 3 8 (PreOf R mc ms Pc) (PostOf Qc mc ms free) := va_backW (hh := hh) (bytes := bytes) (maxL := maxL) (ret := ret) hM hp.1 hrc hrs hfr hlo hws hcw (fun a' U hW => word_at hW (Or.inl (by first | rfl | simp [Cond.onTables, Cond.keeps, Cond.steady])) hini)
  obtain ⟨hx, hb, hml, ho, -⟩ := S
  intro T hT X
  obtain ⟨v, vm₁, ⟨U', l2, c2, s2⟩, hW₁, X', ⟨g', mk, t, L, e1, e2, hq, h1, hL, h2, h3⟩, st⟩ := vx_callSW X hx (hh := hh) (bytes := bytes) (maxL := maxL) (ret := ret) ho hl hstt hini hcode hy hK hg (hsize.trans hml.symm) (argsL := As) (rest := rest) (fun sig h => hn.trans (hlen sig h)) hstack hW (by rw [hb]; exact hdg)
    (fun vm₁ hW₁ => ⟨hf.1, hf.2, hp.2 (T.setVm vm₁) hT hW₁⟩)
  dsimp only [Pt.U, Pt.locs, Pt.cells, Pt.slots] at X' e1 e2 h1 h2 h3 st
  subst h1; subst h2; subst h3
  exact ⟨v, (T.setVm vm₁).calling g' mk As.toArray, t, U', L, hT, X', hL, e1, e2, hq, st⟩
/-- not caught here, past rows that name other classes: it goes on to the caller -/
theorem vx_outP {p : Program} {l : Launch} {e : Env} {R : Room} {s : State} {m : MethodId} {args : Array Value} {below : List Frame} {meth : Method} {c : Code} {H : Heap} {locs : List Loc} {cells slots : Nat} {free : Addr → Prop} {ls : Array Slot} {rest : List Value} {Qc : Array Value → State → Outcome → State → Prop} {XC : String → State → State → Prop}
    {pc : Nat} {own E : String} {ce : Cell} {q : Addr} {mc ms : Nat} (hown : s.vm.findClass own = some m.cls) (hlocks : meth.locks = false)
    (hpass : ∀ z ∈ c.exceptionTable.toList, covers z pc = false ∨ (z.catchType ≠ 0 ∧ ∃ nm : String, (Cond.classLink own z.catchType nm).before args s = true ∧ va_Nc E nm s)) (hcell : H[q]? = some ce) (hv : ce.vm = .none) (hcl : s.vm.findClass E = some ce.cls)
    (hx : ∀ t : State, t.heap = H → s.vm.Alike t.vm → XC E s t) (hf : ∀ z ∈ locs, free z.base) (hc : cells ≤ mc) (hs : slots ≤ ms) :
    vx_W p l e R s m args below meth c H locs cells slots (vx_MQ below Qc XC args s mc ms free) (F0 m pc ls rest) q := by
  intro T hT X
  have hpl : e.platform.magicAccessors = ({} : Platform).magicAccessors := by rw [X.admits.platform]
  obtain ⟨vm', hW', X', st⟩ := X.outThrough hlocks q (g := F0 m pc ls rest) rfl rfl rfl (cell := ce) (by rw [hT]; exact hcell) (by rw [hv]; rfl)
    (by obtain ⟨k9, h9, -⟩ := Vm.findClass_spec hcl; exact ⟨k9, h9⟩) (fun z hz => by
      rcases hpass z hz with h | ⟨hz0, nm, hl1, hn1⟩
      · exact Or.inl h
      · obtain ⟨c6, hc6, hcl6⟩ := Cond.classLink_spec hown hl1 e.platform hpl
        obtain ⟨a8, b8, h1, h2, h3⟩ := hn1
        cases Option.some.inj (h1.symm.trans hcl)
        cases Option.some.inj (h2.symm.trans hc6)
        exact Or.inr ⟨hz0, _, hcl6, h3⟩)
  obtain ⟨g₀, hfr⟩ := X'.frames_eq
  have hcell9 : ((T.setVm vm').setFrames (.throwing q :: below)).heap[q]? = some ce := by
    show T.heap[q]? = some ce
    rw [hT]; exact hcell
  have hend : Ended ((T.setVm vm').setFrames (.throwing q :: below)) below (.threw q) := State.frames_setFrames _ (State.cur_lt_of_frames hfr)
  refine ⟨(T.setVm vm').setFrames (.throwing q :: below), ?_, .threw q, X'.here.running, hend, Or.inr ⟨q, rfl, E, ce, locs, hx _ hT (X'.ends _).1.alike, hcell9, hv, hcl, (X'.ends _).1, (X'.ends _).2.mono hc hs, hf⟩⟩
  rw [X.pushThrowing_eq]
  exact st
/-- a thing of a world lies in the heap -/
theorem vx_lt {D : va_G} {cl : List vw_C} {ws : va_W} {H1 : Heap} (h : va_P D cl ws H1) {k : Nat} {q : Nat × va_E} (hk : ws[k]? = some q) : q.1 < H1.size := (h k q hk).lt
end VXS
/-! ===== END ===== -/
/-! ===== BEGIN methods with a table of their own: called by a name, returning or throwing ===== -/
section VXH
/-! vx_backW, vx_callVX, vx_callSX, vx_callVW, vx_runVW, vx_runVX, vx_runSX, vx_ofWH follow the same proofs as their sisters above (Free/Laws.lean, Shelf42/LK1.lean); vx_outP calls Shelf42/NT130.lean (outThrough). -/
section
variable {l : Launch} {R : Room} {p : Program} {e : Env} {below : List Frame} {s : State} {sargs : Array Value} {y : MethodName} {len W9 : Nat}
theorem vx_backW {ws : List Cond} {rm : Room} {Pc : Array Value → State → Prop} {Qc : Array Value → State → Outcome → State → Prop} {XC : String → State → State → Prop} {mc ms : Nat} {free : Addr → Prop} {bytes : ByteArray} {maxL : Nat} {ret : Option FieldType} {hh : List (Nat × Nat × Nat × Nat)}
    (hM : vx_Met l y ws rm Pc Qc XC mc ms free) (hblind : FrameBlind Pc) (hrc : rm.cells = mc) (hrs : rm.slots = ms)
    (hframes : rm.frames + 1 ≤ R.frames) (hlocals : W9 + (maxL + 11) + rm.locals ≤ R.locals)
    (hws : ∀ w ∈ ws, ∀ a' U, s.WarmedH U.vm → w.before a' U = true) (hcode : Cond.codeWith y bytes maxL ret hh ∈ ws) (hinit : ∀ a' U, s.WarmedH U.vm → (Cond.initialized y.cls).before a' U = true) :
    vx_Back l R p e below s sargs y len W9 (PreOf R mc ms Pc) (PostOf Qc mc ms free) (vx_Post XC mc ms free) := by
  intro m meth c A g ig mk a X hg hsize hdg hW hn hp
  have h1 : (headSpec ws rm).pre.before a A.U = true := atoms_intro fun w hw => hws w hw _ _ X.warmed
  have h2 : (Cond.codeWith y bytes maxL ret hh).before a A.U = true := hws _ hcode _ _ X.warmed
  have h3 : (Cond.initialized y.cls).before a A.U = true := hinit _ _ X.warmed
  have h4 : A.cells + (headSpec ws rm).room.cells ≤ R.cells := by rw [show (headSpec ws rm).room.cells = mc from hrc]; exact hp.1
  have h5 : A.slots + (headSpec ws rm).room.slots ≤ R.slots := by rw [show (headSpec ws rm).room.slots = ms from hrs]; exact hp.2.1
  have hPc : Pc a (A.U.calling g mk a) := hblind _ _ _ _ hp.2.2
  obtain ⟨U, Ls, c0, s0⟩ := A
  dsimp only [Pt.U, Pt.locs, Pt.cells, Pt.slots] at h1 h2 h3 h4 h5 X hn hPc ⊢
  obtain ⟨m9, methY, cY, hn9, hmY, hcY, -, hlY, -⟩ := Cond.codeWith_spec h2
  cases Option.some.inj (hn9.symm.trans hn)
  obtain ⟨kY, hkY, -⟩ := className_of_methodNamed hn
  have hinitY : kY.init = .initialized := Cond.initialized_spec (findClass_of_methodNamed hn) hkY h3
  have h : At U g.method c below := by rw [hg]; exact X.here
  have hlocals9 : W9 + (maxL + 11) + (headSpec ws rm).room.locals ≤ R.locals := hlocals
  have happ : (headSpec ws rm).appliesLoose y e.platform (U.calling g mk a) = true :=
    Spec.appliesLoose_calling (g := g) h hdg hn hkY hinitY
      (X.room_calling (g := g) (R' := (headSpec ws rm).room) hsize hmY hcY hframes (by rw [hlY]; omega) h4 h5) h1
  obtain ⟨mid, hmid⟩ := h.above
  have hfr : (U.setTop g).frames = (.java g :: mid) ++ below := by rw [State.frames_setTop' g h.top, hmid]; rfl
  obtain ⟨o, s₂, hsteps, -, hend, hq⟩ := Steps.callFree hM p X.admits X.cas X.clock (acts := []) hfr happ hPc trivial
  have hq' : vx_Q Qc XC mc ms free a (U.calling g mk a) o s₂ := hq
  rw [State.frames_setTop' g h.top] at hend
  obtain ⟨g₀, hg0⟩ := Option.isSome_iff_exists.mp h.top
  obtain ⟨r, hr⟩ := State.topJava?_eq_some.mp hg0
  have hr' : (({ U with heap := s₂.heap, slotsUsed := s₂.slotsUsed } : State).setVm s₂.vm).frames = .java g₀ :: r := hr
  rcases hq' with ⟨hqc, L, hfe, hL⟩ | ⟨q, rfl, E, ce, L, hx, hce, hcv, hcl, hW₂, hsm, hL⟩
  · obtain ⟨⟨v, rfl⟩, hW₂, e2, q2, q3, q4, q5, q6⟩ := id hfe
    have e3 : s₂ = ({ (U.calling g mk a).setFrames s₂.frames with heap := s₂.heap, slotsUsed := s₂.slotsUsed } : State).setVm s₂.vm := by
      have : s₂ = ({ s₂ with vm := (U.calling g mk a).vm } : State).setVm s₂.vm := rfl
      rw [e2] at this
      exact this
    obtain ⟨c₂, i₂, len₂, hc₂, hd₂, hf₂⟩ := hend
    have hW' : U.WarmedH s₂.vm := hW₂
    have hcc : c₂ = c := by
      have h1 : s₂.code? g.method = U.code? g.method := by
        rw [State.code?_eq, State.code?_eq, hW'.alike.method?]
      exact Option.some.inj (hc₂.symm.trans (h1.trans h.code))
    subst hcc
    have hlen : len₂ = len := by rw [hdg] at hd₂; cases hd₂; rfl
    subst hlen
    have hs₂ : s₂ = (({ U with heap := s₂.heap, slotsUsed := s₂.slotsUsed } : State).setVm s₂.vm).setTop { g with pc := g.pc + len₂, stack := v.toList ++ g.stack } := by
      refine e3.trans ?_
      rw [hf₂, State.calling_eq h.top, State.setFrames_setFrames, State.setTop_of_frames _ hr', hr]
      rfl
    have hsame : U.sameButNew ({ U with heap := s₂.heap, slotsUsed := s₂.slotsUsed } : State) L mc ms := by
      refine ⟨?_, q2, q3, q4, q5, q6⟩
      obtain ⟨t, ht, -⟩ := State.frames_cons hr
      show ({ U with heap := s₂.heap, slotsUsed := s₂.slotsUsed } : State) = { U.setFrames U.frames with heap := s₂.heap, slotsUsed := s₂.slotsUsed }
      rw [State.setFrames_self ht]
    subst hg
    refine Or.inl ⟨v, ⟨(({ U with heap := s₂.heap, slotsUsed := s₂.slotsUsed } : State).setVm s₂.vm), Ls ++ L, c0 + mc, s0 + ms⟩,
      ⟨X.admits, X.cas, X.clock, X.frames, X.room, X.hears, X.method, X.code, (X.here.setHeapUsed s₂.heap s₂.slotsUsed).setVm hW'.alike, X.tail, State.WarmedH.trans X.warmed hW', X.limits, X.bytes, X.same.trans (hsame.setVm s.vm)⟩,
      ⟨g, mk, s₂, L, rfl, rfl, hqc, rfl, hL, rfl, rfl⟩, ?_⟩
    show Steps p.tables e below _ ((({ U with heap := s₂.heap, slotsUsed := s₂.slotsUsed } : State).setVm s₂.vm).setTop { g with pc := g.pc + len₂, stack := v.toList ++ g.stack })
    rw [← hs₂]
    exact hsteps
  · obtain ⟨e2, q2, q3, q4, q5, q6⟩ := id hsm
    have e3 : s₂ = ({ (U.calling g mk a).setFrames s₂.frames with heap := s₂.heap, slotsUsed := s₂.slotsUsed } : State).setVm s₂.vm := by
      have : s₂ = ({ s₂ with vm := (U.calling g mk a).vm } : State).setVm s₂.vm := rfl
      rw [e2] at this
      exact this
    have hf₂ : s₂.frames = .throwing q :: .java g :: U.frames.tail := hend
    have hW' : U.WarmedH s₂.vm := hW₂
    have hs₂ : s₂ = ((({ U with heap := s₂.heap, slotsUsed := s₂.slotsUsed } : State).setVm s₂.vm).setTop g).pushFrame (.throwing q) := by
      refine e3.trans ?_
      rw [hf₂, State.calling_eq h.top, State.setFrames_setFrames, State.pushFrame, State.frames_setTop _ hr', State.setTop_of_frames _ hr', State.setFrames_setFrames, hr]
      rfl
    have hsame : U.sameButNew ({ U with heap := s₂.heap, slotsUsed := s₂.slotsUsed } : State) L mc ms := by
      refine ⟨?_, q2, q3, q4, q5, q6⟩
      obtain ⟨t, ht, -⟩ := State.frames_cons hr
      show ({ U with heap := s₂.heap, slotsUsed := s₂.slotsUsed } : State) = { U.setFrames U.frames with heap := s₂.heap, slotsUsed := s₂.slotsUsed }
      rw [State.setFrames_self ht]
    subst hg
    refine Or.inr ⟨q, ⟨(({ U with heap := s₂.heap, slotsUsed := s₂.slotsUsed } : State).setVm s₂.vm), Ls ++ L, c0 + mc, s0 + ms⟩,
      ⟨X.admits, X.cas, X.clock, X.frames, X.room, X.hears, X.method, X.code, (X.here.setHeapUsed s₂.heap s₂.slotsUsed).setVm hW'.alike, X.tail, State.WarmedH.trans X.warmed hW', X.limits, X.bytes, X.same.trans (hsame.setVm s.vm)⟩,
      ⟨g, mk, s₂, L, E, ce, rfl, rfl, hx, hce, hcv, hcl, rfl, hL, rfl, rfl⟩, ?_⟩
    show Steps p.tables e below _ (((({ U with heap := s₂.heap, slotsUsed := s₂.slotsUsed } : State).setVm s₂.vm).setTop g).pushFrame (.throwing q))
    rw [← hs₂]
    exact hsteps
end
variable {p : Program} {l : Launch} {e : Env} {R : Room} {s : State} {m : MethodId} {args : Array Value} {below : List Frame} {meth : Method} {c : Code} {T : State} {H : Heap} {locs : List Loc} {cells slots : Nat}
theorem vx_callVX (X : Stand p l e R s m args below meth c T locs cells slots) (hexec : p.tables.exec = Jvm.exec) {own C : String} {index : Nat} {y : MethodName} {bytes : ByteArray} {maxL : Nat} {ret : Option FieldType} {hh : List (Nat × Nat × Nat × Nat)}
    (hown : s.vm.findClass own = some m.cls) (hlink : (Cond.methodLink own index y).before args s = true) (hinst : (Cond.instanceMethod y).before args s = true) (hsel : (Cond.selects C y y).before args s = true)
    (hcode : (Cond.codeWith y bytes maxL ret hh).before args s = true) (hy : y.cls ≠ "java/lang/invoke/MethodHandle" ∧ y.cls ≠ "java/lang/invoke/VarHandle")
    {W9 : Nat} {Pre : Pt → Array Value → Prop} {Post : Pt → Array Value → Option Value → Pt → Prop} {PostX : Pt → Array Value → Addr → Pt → Prop} (hK : vx_Back l R p e below s args y 3 W9 Pre Post PostX)
    {b : Addr} {cellB : Cell} (hcell : T.heap[b]? = some cellB) (hobj : cellB.vm.isStatics = false) (hcls : s.vm.findClass C = some cellB.cls)
    {g : JFrame} (hg : g.method = m) (hsize : g.locals.size = c.maxLocals) {argsL rest : List Value} (hlen : ∀ sig, parseMethodDescriptor y.desc = some sig → argsL.length = sig.parameters.length)
    (hstack : g.stack = argsL.reverse ++ .ref b :: rest) (hW : 2 * g.monitorRoom + (rest.map fun v => v.category).sum ≤ W9) (hdg : decode c.code g.pc = .ok (.invokevirtual index, 3))
    (hpre : ∀ vm₁, s.WarmedH vm₁ → Pre ⟨T.setVm vm₁, locs, cells, slots⟩ (Value.ref b :: argsL).toArray) :
    (∃ (v : Option Value) (vm₁ : Vm) (B : Pt), s.WarmedH vm₁ ∧ Stand p l e R s m args below meth c B.U B.locs B.cells B.slots ∧ Post ⟨T.setVm vm₁, locs, cells, slots⟩ (Value.ref b :: argsL).toArray v B ∧
      ∀ target, Steps p.tables e below (B.U.setTop { g with pc := g.pc + 3, stack := v.toList ++ rest }) target → Steps p.tables e below (T.setTop g) target) ∨
    (∃ (q : Addr) (vm₁ : Vm) (B : Pt), s.WarmedH vm₁ ∧ Stand p l e R s m args below meth c B.U B.locs B.cells B.slots ∧ PostX ⟨T.setVm vm₁, locs, cells, slots⟩ (Value.ref b :: argsL).toArray q B ∧
      Steps p.tables e below (T.setTop g) ((B.U.setTop { g with stack := rest }).pushFrame (.throwing q))) := by
  obtain ⟨mk, methM, hnamed, hmethM, hstM, habM⟩ := Cond.instanceMethod_spec hinst
  obtain ⟨m8, methM', cM, hn8, hmethM', -, -, -, -, -, -, hsigM⟩ := Cond.codeWith_spec hcode
  cases Option.some.inj (hn8.symm.trans hnamed)
  cases hmethM.symm.trans hmethM'
  obtain ⟨c2, r2, m2, q1, q2, q3, q4, kP, hkP, hkPi⟩ := Cond.selects_spec hsel
  cases hcls.symm.trans q1
  cases (State.methodFound?_of_named hnamed hy).symm.trans q2
  cases hnamed.symm.trans q3
  have hselP : selectMethod e.platform s.vm cellB.cls mk = .method mk := by rw [Launch.admits_selectMethod X.admits]; exact q4
  obtain ⟨vm₁, X₁, hstep₁⟩ := X.invokevirtual hexec hown hlink hnamed hmethM hstM hkP hkPi hy (a := b) (cell := cellB) hcell
    (fun z h => by rw [h] at hobj; cases hobj) hselP hmethM habM hkP hkPi (g := g) hg (argsL := argsL) (rest := rest) (hlen _ hsigM) hstack hdg
  rcases hK m meth c ⟨T.setVm vm₁, locs, cells, slots⟩ { g with stack := rest } (.invokevirtual index) mk (Value.ref b :: argsL).toArray X₁ hg hsize hdg hW (X₁.named hnamed) (hpre vm₁ X₁.warmed) with ⟨v, B, X', hpost, hsteps⟩ | ⟨q, B, X', hpost, hsteps⟩
  · exact Or.inl ⟨v, vm₁, B, X₁.warmed, X', hpost, fun target h => hstep₁ _ fun acts => by rw [doInvoke_state]; exact hsteps.trans h⟩
  · exact Or.inr ⟨q, vm₁, B, X₁.warmed, X', hpost, hstep₁ _ fun acts => by rw [doInvoke_state]; exact hsteps⟩
theorem vx_callSX (X : Stand p l e R s m args below meth c T locs cells slots) (hexec : p.tables.exec = Jvm.exec) {own : String} {index : Nat} {y : MethodName} {bytes : ByteArray} {maxL : Nat} {ret : Option FieldType} {hh : List (Nat × Nat × Nat × Nat)}
    (hown : s.vm.findClass own = some m.cls) (hlink : (Cond.methodLink own index y).before args s = true) (hstat : (Cond.static y).before args s = true) (hinit : (Cond.initialized y.cls).before args s = true)
    (hcode : (Cond.codeWith y bytes maxL ret hh).before args s = true) (hy : y.cls ≠ "java/lang/invoke/MethodHandle" ∧ y.cls ≠ "java/lang/invoke/VarHandle")
    {W9 : Nat} {Pre : Pt → Array Value → Prop} {Post : Pt → Array Value → Option Value → Pt → Prop} {PostX : Pt → Array Value → Addr → Pt → Prop} (hK : vx_Back l R p e below s args y 3 W9 Pre Post PostX)
    {g : JFrame} (hg : g.method = m) (hsize : g.locals.size = c.maxLocals) {argsL rest : List Value} (hlen : ∀ sig, parseMethodDescriptor y.desc = some sig → argsL.length = sig.parameters.length)
    (hstack : g.stack = argsL.reverse ++ rest) (hW : 2 * g.monitorRoom + (rest.map fun v => v.category).sum ≤ W9) (hdg : decode c.code g.pc = .ok (.invokestatic index, 3))
    (hpre : ∀ vm₁, s.WarmedH vm₁ → Pre ⟨T.setVm vm₁, locs, cells, slots⟩ argsL.toArray) :
    (∃ (v : Option Value) (vm₁ : Vm) (B : Pt), s.WarmedH vm₁ ∧ Stand p l e R s m args below meth c B.U B.locs B.cells B.slots ∧ Post ⟨T.setVm vm₁, locs, cells, slots⟩ argsL.toArray v B ∧
      ∀ target, Steps p.tables e below (B.U.setTop { g with pc := g.pc + 3, stack := v.toList ++ rest }) target → Steps p.tables e below (T.setTop g) target) ∨
    (∃ (q : Addr) (vm₁ : Vm) (B : Pt), s.WarmedH vm₁ ∧ Stand p l e R s m args below meth c B.U B.locs B.cells B.slots ∧ PostX ⟨T.setVm vm₁, locs, cells, slots⟩ argsL.toArray q B ∧
      Steps p.tables e below (T.setTop g) ((B.U.setTop { g with stack := rest }).pushFrame (.throwing q))) := by
  obtain ⟨mk, methM, cM, hnamed, hmethM, -, -, -, -, -, -, hsigM⟩ := Cond.codeWith_spec hcode
  have hstatic : methM.isStatic = true := Cond.static_spec hnamed hmethM hstat
  obtain ⟨kP, hkP, -⟩ := className_of_methodNamed hnamed
  have hinitP : kP.init = .initialized := Cond.initialized_spec (findClass_of_methodNamed hnamed) hkP hinit
  obtain ⟨vm₁, X₁, hstep₁⟩ := X.invokestatic hexec hown hlink hnamed hmethM hstatic hkP hinitP hy (g := g) hg (argsL := argsL) (rest := rest) (hlen _ hsigM) hstack hdg
  rcases hK m meth c ⟨T.setVm vm₁, locs, cells, slots⟩ { g with stack := rest } (.invokestatic index) mk argsL.toArray X₁ hg hsize hdg hW (X₁.named hnamed) (hpre vm₁ X₁.warmed) with ⟨v, B, X', hpost, hsteps⟩ | ⟨q, B, X', hpost, hsteps⟩
  · exact Or.inl ⟨v, vm₁, B, X₁.warmed, X', hpost, fun target h => hstep₁ _ fun acts => by rw [doInvoke_state]; exact hsteps.trans h⟩
  · exact Or.inr ⟨q, vm₁, B, X₁.warmed, X', hpost, hstep₁ _ fun acts => by rw [doInvoke_state]; exact hsteps⟩
theorem vx_callVW (X : Stand p l e R s m args below meth c T locs cells slots) (hexec : p.tables.exec = Jvm.exec) {own C : String} {index : Nat} {y : MethodName} {bytes : ByteArray} {maxL : Nat} {ret : Option FieldType} {hh : List (Nat × Nat × Nat × Nat)}
    (hown : s.vm.findClass own = some m.cls) (hlink : (Cond.methodLink own index y).before args s = true) (hinst : (Cond.instanceMethod y).before args s = true) (hsel : (Cond.selects C y y).before args s = true)
    (hcode : (Cond.codeWith y bytes maxL ret hh).before args s = true) (hy : y.cls ≠ "java/lang/invoke/MethodHandle" ∧ y.cls ≠ "java/lang/invoke/VarHandle")
    {W9 : Nat} {Pre : Pt → Array Value → Prop} {Post : Pt → Array Value → Option Value → Pt → Prop} (hK : Back l R p e below s args y 3 W9 Pre Post)
    {b : Addr} {cellB : Cell} (hcell : T.heap[b]? = some cellB) (hobj : cellB.vm.isStatics = false) (hcls : s.vm.findClass C = some cellB.cls)
    {g : JFrame} (hg : g.method = m) (hsize : g.locals.size = c.maxLocals) {argsL rest : List Value} (hlen : ∀ sig, parseMethodDescriptor y.desc = some sig → argsL.length = sig.parameters.length)
    (hstack : g.stack = argsL.reverse ++ .ref b :: rest) (hW : 2 * g.monitorRoom + (rest.map fun v => v.category).sum ≤ W9) (hdg : decode c.code g.pc = .ok (.invokevirtual index, 3))
    (hpre : ∀ vm₁, s.WarmedH vm₁ → Pre ⟨T.setVm vm₁, locs, cells, slots⟩ (Value.ref b :: argsL).toArray) :
    ∃ (v : Option Value) (vm₁ : Vm) (B : Pt), s.WarmedH vm₁ ∧ Stand p l e R s m args below meth c B.U B.locs B.cells B.slots ∧ Post ⟨T.setVm vm₁, locs, cells, slots⟩ (Value.ref b :: argsL).toArray v B ∧
      ∀ target, Steps p.tables e below (B.U.setTop { g with pc := g.pc + 3, stack := v.toList ++ rest }) target → Steps p.tables e below (T.setTop g) target := by
  obtain ⟨mk, methM, hnamed, hmethM, hstM, habM⟩ := Cond.instanceMethod_spec hinst
  obtain ⟨m8, methM', cM, hn8, hmethM', -, -, -, -, -, -, hsigM⟩ := Cond.codeWith_spec hcode
  cases Option.some.inj (hn8.symm.trans hnamed)
  cases hmethM.symm.trans hmethM'
  obtain ⟨c2, r2, m2, q1, q2, q3, q4, kP, hkP, hkPi⟩ := Cond.selects_spec hsel
  cases hcls.symm.trans q1
  cases (State.methodFound?_of_named hnamed hy).symm.trans q2
  cases hnamed.symm.trans q3
  have hselP : selectMethod e.platform s.vm cellB.cls mk = .method mk := by rw [Launch.admits_selectMethod X.admits]; exact q4
  obtain ⟨vm₁, X₁, hstep₁⟩ := X.invokevirtual hexec hown hlink hnamed hmethM hstM hkP hkPi hy (a := b) (cell := cellB) hcell
    (fun z h => by rw [h] at hobj; cases hobj) hselP hmethM habM hkP hkPi (g := g) hg (argsL := argsL) (rest := rest) (hlen _ hsigM) hstack hdg
  obtain ⟨v, B, X', hpost, hsteps⟩ := hK m meth c ⟨T.setVm vm₁, locs, cells, slots⟩ { g with stack := rest } (.invokevirtual index) mk (Value.ref b :: argsL).toArray X₁ hg hsize hdg hW (X₁.named hnamed) (hpre vm₁ X₁.warmed)
  exact ⟨v, vm₁, B, X₁.warmed, X', hpost, fun target h => hstep₁ _ fun acts => by rw [doInvoke_state]; exact hsteps.trans h⟩
abbrev vx_CVW (R : Room) (s : State) (args : Array Value) (own C : String) (index : Nat) (y : MethodName) (bytes : ByteArray) (maxL : Nat) (ret : Option FieldType) (hh : List (Nat × Nat × Nat × Nat)) (ws : List Cond) (rm : Room) (mc ms n : Nat) : Prop :=
  (rm.cells = mc ∧ rm.slots = ms ∧ rm.frames + 1 ≤ R.frames ∧ 8 + (maxL + 11) + rm.locals ≤ R.locals ∧ (∀ w ∈ ws, ∀ (a' : Array Value) (U : State), s.WarmedH U.vm → w.before a' U = true) ∧ Cond.codeWith y bytes maxL ret hh ∈ ws) ∧
  (Cond.codeWith y bytes maxL ret hh).before args s = true ∧ (Cond.initialized y.cls).before args s = true ∧ (y.cls ≠ "java/lang/invoke/MethodHandle" ∧ y.cls ≠ "java/lang/invoke/VarHandle") ∧
  (∀ sig, parseMethodDescriptor y.desc = some sig → n = sig.parameters.length) ∧ (Cond.methodLink own index y).before args s = true ∧ (Cond.instanceMethod y).before args s = true ∧ (Cond.selects C y y).before args s = true
theorem vx_cwVW {own C : String} {index maxL mc ms : Nat} {y : MethodName} {bytes : ByteArray} {ret : Option FieldType} {hh : List (Nat × Nat × Nat × Nat)} {Ts ws ws' : List Cond} {rm : Room} (n : Nat) (ht : ∀ w ∈ Ts, w.before args s = true) (hT : GoodIn Ts (wsV own index C y ws)) (hw : ws = Cond.codeWith y bytes maxL ret hh :: ws') (hrc : rm.cells = mc) (hrs : rm.slots = ms)
    (hd : y.cls = C ∧ y.cls ≠ "java/lang/invoke/MethodHandle" ∧ y.cls ≠ "java/lang/invoke/VarHandle" ∧ (parseMethodDescriptor y.desc).map (fun d => d.parameters.length) = some n) (hR : rm.frames + 1 ≤ R.frames ∧ 8 + (maxL + 11) + rm.locals ≤ R.locals) :
    vx_CVW R s args own C index y bytes maxL ret hh ws rm mc ms n := by
  obtain ⟨hC, hd⟩ := hd
  subst hC
  have ok : ∀ w ∈ wsV own index y.cls y ws, w.before args s = true := fun w h => ht w (hT w h).1
  have hG : GoodIn Ts ws := fun w h => hT w (by unfold wsV; exact List.mem_append_right _ h)
  have hc : Cond.codeWith y bytes maxL ret hh ∈ ws := by rw [hw]; exact List.mem_cons_self
  refine ⟨⟨hrc, hrs, hR.1, hR.2, pay_in ht hG, hc⟩, ht _ (hG _ hc).1, ok _ (by simp [wsV]), ⟨hd.1, hd.2.1⟩, fun sig h => ?_, ok _ (by simp [wsV]), ok _ (by simp [wsV]), ok _ (by simp [wsV])⟩
  have h2 := hd.2.2
  rw [h] at h2
  exact (Option.some.inj h2).symm
theorem vx_runVW {y : MethodName} {bytes cc : ByteArray} {maxL nL mc ms n index : Nat} {ret : Option FieldType} {hh : List (Nat × Nat × Nat × Nat)} {ws : List Cond} {rm : Room} {Pc : Array Value → State → Prop} {Qc : Array Value → State → Outcome → State → Prop} {free : Addr → Prop} {Ts : List Cond} {own C : String} {b : Addr} {As rest : List Value} {g : JFrame}
    (S : CallFix p m c cc nL s args Ts own) (hM : Met l y ws rm Pc Qc mc ms free) (cw : vx_CVW R s args own C index y bytes maxL ret hh ws rm mc ms n) (hp : PreV s H C b Pc As)
    (hg : g.method = m) (hn : As.length = n) (hsize : g.locals.size = nL) (hstack : g.stack = As.reverse ++ .ref b :: rest) (hW : 2 * g.monitorRoom + (rest.map fun v => v.category).sum ≤ 8) (hdg : decode cc g.pc = .ok (.invokevirtual index, 3)) (hf : cells + mc ≤ R.cells ∧ slots + ms ≤ R.slots) :
    va_Run p l e R s m args below meth c H locs cells slots mc ms g rest (Qc (Value.ref b :: As).toArray) free := by
  obtain ⟨⟨hrc, hrs, hfr, hlo, hws, hcw⟩, hcode, hini, hy, hlen, hl, hin, hse⟩ := cw
  have hK : Back l R p e below s args y 3 8 (PreOf R mc ms Pc) (PostOf Qc mc ms free) := va_backW (hh := hh) (bytes := bytes) (maxL := maxL) (ret := ret) hM hp.1 hrc hrs hfr hlo hws hcw (fun a' U hW => word_at hW (Or.inl (by first | rfl | simp [Cond.onTables, Cond.keeps, Cond.steady])) hini)
  obtain ⟨hx, hb, hml, ho, -⟩ := S
  obtain ⟨-, ⟨cellB, hcB, hoB, hclB⟩, hPc⟩ := hp
  intro T hT X
  obtain ⟨v, vm₁, ⟨U', l2, c2, s2⟩, hW₁, X', ⟨g', mk, t, L, e1, e2, hq, h1, hL, h2, h3⟩, st⟩ := vx_callVW X hx (C := C) (hh := hh) (bytes := bytes) (maxL := maxL) (ret := ret) ho hl hin hse hcode hy hK (by rw [hT]; exact hcB) hoB hclB hg (hsize.trans hml.symm) (argsL := As) (rest := rest) (fun sig h => hn.trans (hlen sig h)) hstack hW (by rw [hb]; exact hdg)
    (fun vm₁ hW₁ => ⟨hf.1, hf.2, hPc (T.setVm vm₁) hT hW₁⟩)
  dsimp only [Pt.U, Pt.locs, Pt.cells, Pt.slots] at X' e1 e2 h1 h2 h3 st
  subst h1; subst h2; subst h3
  exact ⟨v, (T.setVm vm₁).calling g' mk (Value.ref b :: As).toArray, t, U', L, hT, X', hL, e1, e2, hq, st⟩
section
variable {y : MethodName} {bytes cc : ByteArray} {maxL nL mc ms n index : Nat} {ret : Option FieldType} {ws : List Cond} {rm : Room} {Pc : Array Value → State → Prop} {Qc : Array Value → State → Outcome → State → Prop} {XC : String → State → State → Prop} {free : Addr → Prop} {Ts : List Cond} {own C : String} {b : Addr} {As rest : List Value} {g : JFrame}
theorem vx_runVX {hh : List (Nat × Nat × Nat × Nat)} (S : CallFix p m c cc nL s args Ts own) (hM : vx_Met l y ws rm Pc Qc XC mc ms free) (cw : vx_CVW R s args own C index y bytes maxL ret hh ws rm mc ms n) (hp : PreV s H C b Pc As)
    (hg : g.method = m) (hn : As.length = n) (hsize : g.locals.size = nL) (hstack : g.stack = As.reverse ++ .ref b :: rest) (hW : 2 * g.monitorRoom + (rest.map fun v => v.category).sum ≤ 8) (hdg : decode cc g.pc = .ok (.invokevirtual index, 3)) (hf : cells + mc ≤ R.cells ∧ slots + ms ≤ R.slots) :
    vx_Run p l e R s m args below meth c H locs cells slots mc ms g rest (Qc (Value.ref b :: As).toArray) XC free := by
  obtain ⟨⟨hrc, hrs, hfr, hlo, hws, hcw⟩, hcode, hini, hy, hlen, hl, hin, hse⟩ := cw
  have hK : vx_Back l R p e below s args y 3 8 (PreOf R mc ms Pc) (PostOf Qc mc ms free) (vx_Post XC mc ms free) := vx_backW (hh := hh) (bytes := bytes) (maxL := maxL) (ret := ret) hM hp.1 hrc hrs hfr hlo hws hcw (fun a' U hW => word_at hW (Or.inl (by first | rfl | simp [Cond.onTables, Cond.keeps, Cond.steady])) hini)
  obtain ⟨hx, hb, hml, ho, -⟩ := S
  obtain ⟨-, ⟨cellB, hcB, hoB, hclB⟩, hPc⟩ := hp
  intro T hT X
  rcases vx_callVX X hx (C := C) (hh := hh) (bytes := bytes) (maxL := maxL) (ret := ret) ho hl hin hse hcode hy hK (by rw [hT]; exact hcB) hoB hclB hg (hsize.trans hml.symm) (argsL := As) (rest := rest) (fun sig h => hn.trans (hlen sig h)) hstack hW (by rw [hb]; exact hdg)
    (fun vm₁ hW₁ => ⟨hf.1, hf.2, hPc (T.setVm vm₁) hT hW₁⟩) with ⟨v, vm₁, ⟨U', l2, c2, s2⟩, hW₁, X', ⟨g', mk, t, L, e1, e2, hq, h1, hL, h2, h3⟩, st⟩ | ⟨q, vm₁, ⟨U', l2, c2, s2⟩, hW₁, X', ⟨g', mk, t, L, E, ce, e1, e2, hq, hce, hcv, hcl, h1, hL, h2, h3⟩, st⟩
  · dsimp only [Pt.U, Pt.locs, Pt.cells, Pt.slots] at X' e1 e2 h1 h2 h3 st
    subst h1; subst h2; subst h3
    exact Or.inl ⟨v, (T.setVm vm₁).calling g' mk (Value.ref b :: As).toArray, t, U', L, hT, X', hL, e1, e2, hq, st⟩
  · dsimp only [Pt.U, Pt.locs, Pt.cells, Pt.slots] at X' e1 e2 h1 h2 h3 st hcl
    subst h1; subst h2; subst h3
    exact Or.inr ⟨q, (T.setVm vm₁).calling g' mk (Value.ref b :: As).toArray, t, U', L, E, ce, hT, X', hL, e1, e2, hq, hce, hcv, vx_cls hW₁ hcl, st⟩
theorem vx_runSX {hh : List (Nat × Nat × Nat × Nat)} (S : CallFix p m c cc nL s args Ts own) (hM : vx_Met l y ws rm Pc Qc XC mc ms free) (cw : vx_CSW R s args own index y bytes maxL ret hh ws rm mc ms n) (hp : PreS s H Pc As)
    (hg : g.method = m) (hn : As.length = n) (hsize : g.locals.size = nL) (hstack : g.stack = As.reverse ++ rest) (hW : 2 * g.monitorRoom + (rest.map fun v => v.category).sum ≤ 8) (hdg : decode cc g.pc = .ok (.invokestatic index, 3)) (hf : cells + mc ≤ R.cells ∧ slots + ms ≤ R.slots) :
    vx_Run p l e R s m args below meth c H locs cells slots mc ms g rest (Qc As.toArray) XC free := by
  obtain ⟨⟨hrc, hrs, hfr, hlo, hws, hcw⟩, hcode, hini, hy, hlen, hl, hstt⟩ := cw
  have hK : vx_Back l R p e below s args y 3 8 (PreOf R mc ms Pc) (PostOf Qc mc ms free) (vx_Post XC mc ms free) := vx_backW (hh := hh) (bytes := bytes) (maxL := maxL) (ret := ret) hM hp.1 hrc hrs hfr hlo hws hcw (fun a' U hW => word_at hW (Or.inl (by first | rfl | simp [Cond.onTables, Cond.keeps, Cond.steady])) hini)
  obtain ⟨hx, hb, hml, ho, -⟩ := S
  intro T hT X
  rcases vx_callSX X hx (hh := hh) (bytes := bytes) (maxL := maxL) (ret := ret) ho hl hstt hini hcode hy hK hg (hsize.trans hml.symm) (argsL := As) (rest := rest) (fun sig h => hn.trans (hlen sig h)) hstack hW (by rw [hb]; exact hdg)
    (fun vm₁ hW₁ => ⟨hf.1, hf.2, hp.2 (T.setVm vm₁) hT hW₁⟩) with ⟨v, vm₁, ⟨U', l2, c2, s2⟩, hW₁, X', ⟨g', mk, t, L, e1, e2, hq, h1, hL, h2, h3⟩, st⟩ | ⟨q, vm₁, ⟨U', l2, c2, s2⟩, hW₁, X', ⟨g', mk, t, L, E, ce, e1, e2, hq, hce, hcv, hcl, h1, hL, h2, h3⟩, st⟩
  · dsimp only [Pt.U, Pt.locs, Pt.cells, Pt.slots] at X' e1 e2 h1 h2 h3 st
    subst h1; subst h2; subst h3
    exact Or.inl ⟨v, (T.setVm vm₁).calling g' mk As.toArray, t, U', L, hT, X', hL, e1, e2, hq, st⟩
  · dsimp only [Pt.U, Pt.locs, Pt.cells, Pt.slots] at X' e1 e2 h1 h2 h3 st hcl
    subst h1; subst h2; subst h3
    exact Or.inr ⟨q, (T.setVm vm₁).calling g' mk As.toArray, t, U', L, E, ce, hT, X', hL, e1, e2, hq, hce, hcv, vx_cls hW₁ hcl, st⟩
end
end VXH
theorem vx_ofWH {l : Launch} {y : MethodName} {ws ws' : List Cond} {rm : Room} {Pc : Array Value → State → Prop} {Qc : Array Value → State → Outcome → State → Prop} {XC : String → State → State → Prop} {mc ms : Nat} {free : Addr → Prop} {cc : ByteArray} {maxL : Nat} {ret : Option FieldType} {hh : List (Nat × Nat × Nat × Nat)}
    (hy : plainName y.cls = true) (hw : ws = Cond.codeWith y cc maxL ret hh :: ws')
    (body : ∀ p e s m args below meth c s₁, BodyLoose p l y (headSpec ws rm) cc maxL ret e s m args below meth c s₁ → c.maxLocals = maxL → Pc args s →
      W p l e (headSpec ws rm).room s m args below meth c s.heap [] 0 0 (vx_MQ below Qc XC args s mc ms free) (entryFrame m args maxL)) : vx_Met l y ws rm Pc Qc XC mc ms free := by
  refine MetFree.of_bodyS (code := cc) (maxLocals := maxL) (ret := ret) hy ?_ ?_
  · intro args s m h hn
    obtain ⟨m9, meth, c, hn9, h1, h2, h3, h4, -, h5, h6, -⟩ := Cond.codeWith_spec (atoms_spec (ws := ws) h _ (by rw [hw]; exact List.mem_cons_self))
    cases hn.symm.trans hn9
    exact ⟨meth, c, h1, h2, h3, h4, h5, h6⟩
  · intro p e s m args below meth c s₁ B hml hP _
    have hh0 : s₁.heap = s.heap := by rw [B.state]; rfl
    obtain ⟨t, a1, o, b1, b2, b3⟩ := body p e s m args below meth c s₁ B hml hP s₁ hh0 (Stand.of_body B)
    exact ⟨t, o, a1, b1, b2, b3⟩
/-! ===== END ===== -/
end
section
/-! ===== BEGIN printed: names, fields, word lists, decode rows ===== -/
def RX0 : String := "LanternPrimes$Lamp"
def TX0 : u_T := fun k => match k with
  | 0 => ("LanternPrimes$Lamp", "numbers", "[I", true)
  | 1 => ("LanternPrimes$Lamp", "offsets", "[I", true)
  | 2 => ("LanternPrimes$Lamp", "beatCount", "I", false)
  | 3 => ("LanternPrimes$Lamp", "onAtStart", "Z", false)
  | _ => ("LanternPrimes$Lamp", "covered", "Z", false)
def tyX0 : Nat → FieldType := fun k => match k with
  | 0 => .array .int
  | 1 => .array .int
  | 2 => .int
  | 3 => .boolean
  | _ => .boolean
abbrev wsX00 : List Cond := u_ws RX0 TX0 5
theorem nmX0 : ∀ a, a < 5 → ∀ b, b < 5 → a ≠ b → (TX0 a).2.1 ≠ (TX0 b).2.1 := by decide +kernel
theorem tyX0_ok : ∀ k, k < 5 → parseFieldDescriptor (TX0 k).2.2.1 = some (tyX0 k) := by decide +kernel
abbrev cX0_init : ByteArray := prog_2_method_1_code
def yX0_init : MethodName := ⟨RX0, "<init>", "()V"⟩
abbrev cX0_append : ByteArray := prog_2_method_2_code
def yX0_append : MethodName := ⟨RX0, "append", "(II)V"⟩
abbrev cX0_remove : ByteArray := prog_2_method_3_code
def yX0_remove : MethodName := ⟨RX0, "remove", "(I)V"⟩
abbrev cX0_becomeDifference : ByteArray := prog_2_method_4_code
def yX0_becomeDifference : MethodName := ⟨RX0, "becomeDifference", "(LLanternPrimes$Lamp;LLanternPrimes$Lamp;)V"⟩
abbrev cX0_appendBeatsOf : ByteArray := prog_2_method_5_code
def yX0_appendBeatsOf : MethodName := ⟨RX0, "appendBeatsOf", "(LLanternPrimes$Lamp;)V"⟩
abbrev cX0_strikes : ByteArray := prog_2_method_6_code
def yX0_strikes : MethodName := ⟨RX0, "strikes", "(I)I"⟩
abbrev cX0_changesAt : ByteArray := prog_2_method_7_code
def yX0_changesAt : MethodName := ⟨RX0, "changesAt", "(I)Z"⟩
abbrev cX0_litAt : ByteArray := prog_2_method_8_code
def yX0_litAt : MethodName := ⟨RX0, "litAt", "(I)Z"⟩
abbrev cX0_onAt : ByteArray := prog_2_method_9_code
def yX0_onAt : MethodName := ⟨RX0, "onAt", "(I)Z"⟩
abbrev cX0_strikesUpTo : ByteArray := prog_2_method_10_code
def yX0_strikesUpTo : MethodName := ⟨RX0, "strikesUpTo", "(III)I"⟩
abbrev cX0_neverChanges : ByteArray := prog_2_method_11_code
def yX0_neverChanges : MethodName := ⟨RX0, "neverChanges", "()Z"⟩
abbrev cX0_cycle : ByteArray := prog_2_method_12_code
def yX0_cycle : MethodName := ⟨RX0, "cycle", "()I"⟩
abbrev cX0_changeCycle : ByteArray := prog_2_method_13_code
def yX0_changeCycle : MethodName := ⟨RX0, "changeCycle", "()I"⟩
abbrev cX0_turningRemainders : ByteArray := prog_2_method_14_code
def yX0_turningRemainders : MethodName := ⟨RX0, "turningRemainders", "(I)I"⟩
abbrev cX0_untilChange : ByteArray := prog_2_method_15_code
def yX0_untilChange : MethodName := ⟨RX0, "untilChange", "(I)I"⟩
abbrev cX0_isOdd : ByteArray := prog_2_method_16_code
def yX0_isOdd : MethodName := ⟨RX0, "isOdd", "(I)Z"⟩
def RX1 : String := "LanternPrimes"
def TX1 : u_T := fun k => match k with
  | 0 => ("LanternPrimes", "row", "[LLanternPrimes$Lamp;", true)
  | 1 => ("LanternPrimes", "difference", "LLanternPrimes$Lamp;", true)
  | 2 => ("LanternPrimes", "lampCount", "I", false)
  | 3 => ("LanternPrimes", "present", "I", false)
  | _ => ("LanternPrimes", "changesTold", "I", false)
def tyX1 : Nat → FieldType := fun k => match k with
  | 0 => .array (.object "LanternPrimes$Lamp")
  | 1 => .object "LanternPrimes$Lamp"
  | 2 => .int
  | 3 => .int
  | _ => .int
abbrev wsX10 : List Cond := u_ws RX1 TX1 5
theorem nmX1 : ∀ a, a < 5 → ∀ b, b < 5 → a ≠ b → (TX1 a).2.1 ≠ (TX1 b).2.1 := by decide +kernel
theorem tyX1_ok : ∀ k, k < 5 → parseFieldDescriptor (TX1 k).2.2.1 = some (tyX1 k) := by decide +kernel
abbrev cX1_init : ByteArray := prog_1_method_1_code
def yX1_init : MethodName := ⟨RX1, "<init>", "()V"⟩
abbrev cX1_addLamp : ByteArray := prog_1_method_2_code
def yX1_addLamp : MethodName := ⟨RX1, "addLamp", "(Z)I"⟩
abbrev cX1_addBeat : ByteArray := prog_1_method_3_code
def yX1_addBeat : MethodName := ⟨RX1, "addBeat", "(III)I"⟩
abbrev cX1_moveBeat : ByteArray := prog_1_method_4_code
def yX1_moveBeat : MethodName := ⟨RX1, "moveBeat", "(III)I"⟩
abbrev cX1_takeBeat : ByteArray := prog_1_method_5_code
def yX1_takeBeat : MethodName := ⟨RX1, "takeBeat", "(II)I"⟩
abbrev cX1_turnShutter : ByteArray := prog_1_method_6_code
def yX1_turnShutter : MethodName := ⟨RX1, "turnShutter", "(I)Z"⟩
abbrev cX1_pass : ByteArray := prog_1_method_7_code
def yX1_pass : MethodName := ⟨RX1, "pass", "(I)I"⟩
abbrev cX1_lamps : ByteArray := prog_1_method_8_code
def yX1_lamps : MethodName := ⟨RX1, "lamps", "()I"⟩
abbrev cX1_now : ByteArray := prog_1_method_9_code
def yX1_now : MethodName := ⟨RX1, "now", "()I"⟩
abbrev cX1_changesSeen : ByteArray := prog_1_method_10_code
def yX1_changesSeen : MethodName := ⟨RX1, "changesSeen", "()I"⟩
abbrev cX1_beatsOf : ByteArray := prog_1_method_11_code
def yX1_beatsOf : MethodName := ⟨RX1, "beatsOf", "(I)I"⟩
abbrev cX1_numberOf : ByteArray := prog_1_method_12_code
def yX1_numberOf : MethodName := ⟨RX1, "numberOf", "(II)I"⟩
abbrev cX1_offsetOf : ByteArray := prog_1_method_13_code
def yX1_offsetOf : MethodName := ⟨RX1, "offsetOf", "(II)I"⟩
abbrev cX1_isCovered : ByteArray := prog_1_method_14_code
def yX1_isCovered : MethodName := ⟨RX1, "isCovered", "(I)Z"⟩
abbrev cX1_isOn : ByteArray := prog_1_method_15_code
def yX1_isOn : MethodName := ⟨RX1, "isOn", "(I)Z"⟩
abbrev cX1_isLit : ByteArray := prog_1_method_16_code
def yX1_isLit : MethodName := ⟨RX1, "isLit", "(I)Z"⟩
abbrev cX1_litLamps : ByteArray := prog_1_method_17_code
def yX1_litLamps : MethodName := ⟨RX1, "litLamps", "()I"⟩
abbrev cX1_isDark : ByteArray := prog_1_method_18_code
def yX1_isDark : MethodName := ⟨RX1, "isDark", "()Z"⟩
abbrev cX1_isOnAt : ByteArray := prog_1_method_19_code
def yX1_isOnAt : MethodName := ⟨RX1, "isOnAt", "(II)Z"⟩
abbrev cX1_strikesAt : ByteArray := prog_1_method_20_code
def yX1_strikesAt : MethodName := ⟨RX1, "strikesAt", "(II)I"⟩
abbrev cX1_isSteady : ByteArray := prog_1_method_21_code
def yX1_isSteady : MethodName := ⟨RX1, "isSteady", "(I)Z"⟩
abbrev cX1_cycleOf : ByteArray := prog_1_method_22_code
def yX1_cycleOf : MethodName := ⟨RX1, "cycleOf", "(I)I"⟩
abbrev cX1_momentsUntilChange : ByteArray := prog_1_method_23_code
def yX1_momentsUntilChange : MethodName := ⟨RX1, "momentsUntilChange", "(I)I"⟩
abbrev cX1_shows : ByteArray := prog_1_method_24_code
def yX1_shows : MethodName := ⟨RX1, "shows", "(II)I"⟩
abbrev cX1_momentsUntilCollision : ByteArray := prog_1_method_25_code
def yX1_momentsUntilCollision : MethodName := ⟨RX1, "momentsUntilCollision", "(II)I"⟩
abbrev cX1_collisionsWithin : ByteArray := prog_1_method_26_code
def yX1_collisionsWithin : MethodName := ⟨RX1, "collisionsWithin", "(III)I"⟩
abbrev cX1_momentsUntilToldApart : ByteArray := prog_1_method_27_code
def yX1_momentsUntilToldApart : MethodName := ⟨RX1, "momentsUntilToldApart", "(II)I"⟩
abbrev cX1_momentsUntilDark : ByteArray := prog_1_method_28_code
def yX1_momentsUntilDark : MethodName := ⟨RX1, "momentsUntilDark", "()I"⟩
abbrev cX1_darkWithin : ByteArray := prog_1_method_29_code
def yX1_darkWithin : MethodName := ⟨RX1, "darkWithin", "(I)I"⟩
abbrev cX1_bestCover : ByteArray := prog_1_method_31_code
def yX1_bestCover : MethodName := ⟨RX1, "bestCover", "(I)I"⟩
abbrev cX1_meanBeats : ByteArray := prog_1_method_32_code
def yX1_meanBeats : MethodName := ⟨RX1, "meanBeats", "()D"⟩
abbrev cX1_digest : ByteArray := prog_1_method_33_code
def yX1_digest : MethodName := ⟨RX1, "digest", "()J"⟩
abbrev cX1_mixedWithLamp : ByteArray := prog_1_method_34_code
def yX1_mixedWithLamp : MethodName := ⟨RX1, "mixedWithLamp", "(JLLanternPrimes$Lamp;)J"⟩
abbrev cX1_mixed : ByteArray := prog_1_method_35_code
def yX1_mixed : MethodName := ⟨RX1, "mixed", "(JJ)J"⟩
abbrev cX1_needLamp : ByteArray := prog_1_method_36_code
def yX1_needLamp : MethodName := ⟨RX1, "needLamp", "(I)V"⟩
abbrev cX1_needBeat : ByteArray := prog_1_method_37_code
def yX1_needBeat : MethodName := ⟨RX1, "needBeat", "(II)V"⟩
abbrev cX1_needPair : ByteArray := prog_1_method_38_code
def yX1_needPair : MethodName := ⟨RX1, "needPair", "(II)V"⟩
abbrev cX1_needNumber : ByteArray := prog_1_method_39_code
def yX1_needNumber : MethodName := ⟨RX1, "needNumber", "(I)V"⟩
abbrev cX1_needOffset : ByteArray := prog_1_method_40_code
def yX1_needOffset : MethodName := ⟨RX1, "needOffset", "(II)V"⟩
abbrev cX1_needMoment : ByteArray := prog_1_method_41_code
def yX1_needMoment : MethodName := ⟨RX1, "needMoment", "(I)V"⟩
abbrev cX1_needMoments : ByteArray := prog_1_method_42_code
def yX1_needMoments : MethodName := ⟨RX1, "needMoments", "(II)V"⟩
abbrev cX1_changesOfLamps : ByteArray := prog_1_method_43_code
def yX1_changesOfLamps : MethodName := ⟨RX1, "changesOfLamps", "(I)I"⟩
abbrev cX1_litCount : ByteArray := prog_1_method_44_code
def yX1_litCount : MethodName := ⟨RX1, "litCount", "(I)I"⟩
abbrev cX1_darkAt : ByteArray := prog_1_method_45_code
def yX1_darkAt : MethodName := ⟨RX1, "darkAt", "(II)Z"⟩
abbrev cX1_darkMoments : ByteArray := prog_1_method_46_code
def yX1_darkMoments : MethodName := ⟨RX1, "darkMoments", "(II)I"⟩
abbrev cX1_collideAt : ByteArray := prog_1_method_47_code
def yX1_collideAt : MethodName := ⟨RX1, "collideAt", "(III)Z"⟩
def RX2 : String := "LanternPrimesLaw$Sim"
def TX2 : u_T := fun k => match k with
  | 0 => ("LanternPrimesLaw$Sim", "now", "I", false)
  | 1 => ("LanternPrimesLaw$Sim", "seen", "I", false)
  | 2 => ("LanternPrimesLaw$Sim", "lamps", "I", false)
  | 3 => ("LanternPrimesLaw$Sim", "begins", "[Z", true)
  | 4 => ("LanternPrimesLaw$Sim", "covered", "[Z", true)
  | _ => ("LanternPrimesLaw$Sim", "beats", "[[[I", true)
def tyX2 : Nat → FieldType := fun k => match k with
  | 0 => .int
  | 1 => .int
  | 2 => .int
  | 3 => .array .boolean
  | 4 => .array .boolean
  | _ => .array (.array (.array .int))
abbrev wsX20 : List Cond := u_ws RX2 TX2 6
theorem nmX2 : ∀ a, a < 6 → ∀ b, b < 6 → a ≠ b → (TX2 a).2.1 ≠ (TX2 b).2.1 := by decide +kernel
theorem tyX2_ok : ∀ k, k < 6 → parseFieldDescriptor (TX2 k).2.2.1 = some (tyX2 k) := by decide +kernel
abbrev cX2_init : ByteArray := prog_4_method_1_code
def yX2_init : MethodName := ⟨RX2, "<init>", "()V"⟩
abbrev cX2_addBeat : ByteArray := prog_4_method_2_code
def yX2_addBeat : MethodName := ⟨RX2, "addBeat", "(III)V"⟩
abbrev cX2_takeBeat : ByteArray := prog_4_method_3_code
def yX2_takeBeat : MethodName := ⟨RX2, "takeBeat", "(II)V"⟩
abbrev cX2_strikes : ByteArray := prog_4_method_4_code
def yX2_strikes : MethodName := ⟨RX2, "strikes", "(II)I"⟩
abbrev cX2_changes : ByteArray := prog_4_method_5_code
def yX2_changes : MethodName := ⟨RX2, "changes", "(II)Z"⟩
abbrev cX2_row : ByteArray := prog_4_method_6_code
def yX2_row : MethodName := ⟨RX2, "row", "(II)[Z"⟩
abbrev cX2_pass : ByteArray := prog_4_method_12_code
def yX2_pass : MethodName := ⟨RX2, "pass", "(I)I"⟩
abbrev cX2_isSame : ByteArray := prog_4_method_13_code
def yX2_isSame : MethodName := ⟨RX2, "isSame", "(LLanternPrimes;)Z"⟩
def RX3 : String := "LanternPrimesModel"
def TX3 : u_T := fun k => match k with
  | _ => ("", "", "", false)
def tyX3 : Nat → FieldType := fun k => match k with
  | _ => .int
abbrev wsX30 : List Cond := u_ws RX3 TX3 0
theorem nmX3 : ∀ a, a < 0 → ∀ b, b < 0 → a ≠ b → (TX3 a).2.1 ≠ (TX3 b).2.1 := by decide +kernel
theorem tyX3_ok : ∀ k, k < 0 → parseFieldDescriptor (TX3 k).2.2.1 = some (tyX3 k) := by decide +kernel
def RJ0 : String := "java/lang/String"
def TJ0 : u_T := fun k => match k with
  | _ => ("", "", "", false)
def tyJ0 : Nat → FieldType := fun k => match k with
  | _ => .int
abbrev wsJ00 : List Cond := u_ws RJ0 TJ0 0
theorem nmJ0 : ∀ a, a < 0 → ∀ b, b < 0 → a ≠ b → (TJ0 a).2.1 ≠ (TJ0 b).2.1 := by decide +kernel
theorem tyJ0_ok : ∀ k, k < 0 → parseFieldDescriptor (TJ0 k).2.2.1 = some (tyJ0 k) := by decide +kernel
def RL : String := "LanternPrimesLaw"
abbrev cL_below : ByteArray := method_2_code
def yL_below : MethodName := ⟨RL, "below", "(II)I"⟩
abbrev cL_cell : ByteArray := method_3_code
def yL_cell : MethodName := ⟨RL, "cell", "([II)I"⟩
abbrev cL_act : ByteArray := method_4_code
def yL_act : MethodName := ⟨RL, "act", "(LLanternPrimes;LLanternPrimesLaw$Sim;I)Z"⟩
abbrev cL_build : ByteArray := method_5_code
def yL_build : MethodName := ⟨RL, "build", "(LLanternPrimes;[I)LLanternPrimesLaw$Sim;"⟩
abbrev cL_law : ByteArray := code
def yL_law : MethodName := ⟨RL, "law", "([I)Z"⟩
def wsX0_init : List Cond := .code yX0_init cX0_init 1 none :: ([.methodLink RX0 3 objectInit, .instanceMethod objectInit, .code objectInit ⟨#[0xb1]⟩ 1 none, .arrayClass .int, .fieldLink RX0 9 "LanternPrimes$Lamp" "numbers" "[I", .fieldLink RX0 15 "LanternPrimes$Lamp" "offsets" "[I"] ++ wsX00)
def wsX0_append : List Cond := .code yX0_append cX0_append 3 none :: ([.fieldLink RX0 18 "LanternPrimes$Lamp" "beatCount" "I", .fieldLink RX0 9 "LanternPrimes$Lamp" "numbers" "[I", .fieldLink RX0 15 "LanternPrimes$Lamp" "offsets" "[I"] ++ wsX00)
def wsX0_remove : List Cond := .code yX0_remove cX0_remove 3 none :: ([.fieldLink RX0 18 "LanternPrimes$Lamp" "beatCount" "I", .fieldLink RX0 9 "LanternPrimes$Lamp" "numbers" "[I", .fieldLink RX0 15 "LanternPrimes$Lamp" "offsets" "[I"] ++ wsX00)
def wsX0_appendBeatsOf : List Cond := .code yX0_appendBeatsOf cX0_appendBeatsOf 3 none :: ([.fieldLink RX0 18 "LanternPrimes$Lamp" "beatCount" "I", .fieldLink RX0 9 "LanternPrimes$Lamp" "numbers" "[I", .fieldLink RX0 15 "LanternPrimes$Lamp" "offsets" "[I", .methodLink RX0 30 yX0_append, .instanceMethod yX0_append, .selects RX0 yX0_append yX0_append, .initialized RX0, .code yX0_append cX0_append 3 none] ++ wsX00)
def wsX0_becomeDifference : List Cond := .code yX0_becomeDifference cX0_becomeDifference 3 none :: ([.fieldLink RX0 22 "LanternPrimes$Lamp" "onAtStart" "Z", .fieldLink RX0 18 "LanternPrimes$Lamp" "beatCount" "I", .methodLink RX0 26 yX0_appendBeatsOf, .instanceMethod yX0_appendBeatsOf, .selects RX0 yX0_appendBeatsOf yX0_appendBeatsOf, .initialized RX0, .code yX0_appendBeatsOf cX0_appendBeatsOf 3 none, .fieldLink RX0 9 "LanternPrimes$Lamp" "numbers" "[I", .fieldLink RX0 15 "LanternPrimes$Lamp" "offsets" "[I", .methodLink RX0 30 yX0_append, .instanceMethod yX0_append, .selects RX0 yX0_append yX0_append, .code yX0_append cX0_append 3 none] ++ wsX00)
def wsX0_strikes : List Cond := .code yX0_strikes cX0_strikes 4 (some .int) :: ([.fieldLink RX0 18 "LanternPrimes$Lamp" "beatCount" "I", .fieldLink RX0 9 "LanternPrimes$Lamp" "numbers" "[I", .fieldLink RX0 15 "LanternPrimes$Lamp" "offsets" "[I"] ++ wsX00)
def wsX0_isOdd : List Cond := .code yX0_isOdd cX0_isOdd 1 (some .boolean) :: ([])
def wsX0_changesAt : List Cond := .code yX0_changesAt cX0_changesAt 2 (some .boolean) :: ([.methodLink RX0 34 yX0_strikes, .instanceMethod yX0_strikes, .selects RX0 yX0_strikes yX0_strikes, .initialized RX0, .code yX0_strikes cX0_strikes 4 (some .int), .fieldLink RX0 18 "LanternPrimes$Lamp" "beatCount" "I", .fieldLink RX0 9 "LanternPrimes$Lamp" "numbers" "[I", .fieldLink RX0 15 "LanternPrimes$Lamp" "offsets" "[I", .methodLink RX0 38 yX0_isOdd, .static yX0_isOdd, .code yX0_isOdd cX0_isOdd 1 (some .boolean)] ++ wsX00)
def wsX0_strikesUpTo : List Cond := .code yX0_strikesUpTo cX0_strikesUpTo 3 (some .int) :: ([])
def wsX0_onAt : List Cond := .code yX0_onAt cX0_onAt 4 (some .boolean) :: ([.fieldLink RX0 18 "LanternPrimes$Lamp" "beatCount" "I", .fieldLink RX0 9 "LanternPrimes$Lamp" "numbers" "[I", .fieldLink RX0 15 "LanternPrimes$Lamp" "offsets" "[I", .fieldLink RX0 22 "LanternPrimes$Lamp" "onAtStart" "Z", .methodLink RX0 48 yX0_strikesUpTo, .static yX0_strikesUpTo, .initialized RX0, .code yX0_strikesUpTo cX0_strikesUpTo 3 (some .int), .methodLink RX0 38 yX0_isOdd, .static yX0_isOdd, .code yX0_isOdd cX0_isOdd 1 (some .boolean)] ++ wsX00)
def wsX0_litAt : List Cond := .code yX0_litAt cX0_litAt 2 (some .boolean) :: ([.fieldLink RX0 42 "LanternPrimes$Lamp" "covered" "Z", .methodLink RX0 45 yX0_onAt, .instanceMethod yX0_onAt, .selects RX0 yX0_onAt yX0_onAt, .initialized RX0, .code yX0_onAt cX0_onAt 4 (some .boolean), .fieldLink RX0 18 "LanternPrimes$Lamp" "beatCount" "I", .fieldLink RX0 9 "LanternPrimes$Lamp" "numbers" "[I", .fieldLink RX0 15 "LanternPrimes$Lamp" "offsets" "[I", .fieldLink RX0 22 "LanternPrimes$Lamp" "onAtStart" "Z", .methodLink RX0 48 yX0_strikesUpTo, .static yX0_strikesUpTo, .code yX0_strikesUpTo cX0_strikesUpTo 3 (some .int), .methodLink RX0 38 yX0_isOdd, .static yX0_isOdd, .code yX0_isOdd cX0_isOdd 1 (some .boolean)] ++ wsX00)
def wsX0_turningRemainders : List Cond := .code yX0_turningRemainders cX0_turningRemainders 4 (some .int) :: ([.fieldLink RX0 18 "LanternPrimes$Lamp" "beatCount" "I", .fieldLink RX0 9 "LanternPrimes$Lamp" "numbers" "[I", .fieldLink RX0 15 "LanternPrimes$Lamp" "offsets" "[I"] ++ wsX00)
def wsX0_changeCycle : List Cond := .code yX0_changeCycle cX0_changeCycle 8 (some .int) :: ([.methodLink RX0 62 yX0_turningRemainders, .instanceMethod yX0_turningRemainders, .selects RX0 yX0_turningRemainders yX0_turningRemainders, .initialized RX0, .code yX0_turningRemainders cX0_turningRemainders 4 (some .int), .fieldLink RX0 18 "LanternPrimes$Lamp" "beatCount" "I", .fieldLink RX0 9 "LanternPrimes$Lamp" "numbers" "[I", .fieldLink RX0 15 "LanternPrimes$Lamp" "offsets" "[I"] ++ wsX00)
def wsX0_cycle : List Cond := .code yX0_cycle cX0_cycle 3 (some .int) :: ([.fieldLink RX0 22 "LanternPrimes$Lamp" "onAtStart" "Z", .methodLink RX0 56 yX0_changeCycle, .instanceMethod yX0_changeCycle, .selects RX0 yX0_changeCycle yX0_changeCycle, .initialized RX0, .code yX0_changeCycle cX0_changeCycle 8 (some .int), .methodLink RX0 62 yX0_turningRemainders, .instanceMethod yX0_turningRemainders, .selects RX0 yX0_turningRemainders yX0_turningRemainders, .code yX0_turningRemainders cX0_turningRemainders 4 (some .int), .fieldLink RX0 18 "LanternPrimes$Lamp" "beatCount" "I", .fieldLink RX0 9 "LanternPrimes$Lamp" "numbers" "[I", .fieldLink RX0 15 "LanternPrimes$Lamp" "offsets" "[I", .methodLink RX0 45 yX0_onAt, .instanceMethod yX0_onAt, .selects RX0 yX0_onAt yX0_onAt, .code yX0_onAt cX0_onAt 4 (some .boolean), .methodLink RX0 48 yX0_strikesUpTo, .static yX0_strikesUpTo, .code yX0_strikesUpTo cX0_strikesUpTo 3 (some .int), .methodLink RX0 38 yX0_isOdd, .static yX0_isOdd, .code yX0_isOdd cX0_isOdd 1 (some .boolean)] ++ wsX00)
def wsX0_neverChanges_r1 : List Cond := [Cond.methodLink RX0 52 yX0_cycle, Cond.instanceMethod yX0_cycle, Cond.selects RX0 yX0_cycle yX0_cycle, Cond.initialized RX0, Cond.code yX0_cycle cX0_cycle 3 (some .int), Cond.fieldLink RX0 22 "LanternPrimes$Lamp" "onAtStart" "Z", Cond.methodLink RX0 56 yX0_changeCycle, Cond.instanceMethod yX0_changeCycle, Cond.selects RX0 yX0_changeCycle yX0_changeCycle, Cond.code yX0_changeCycle cX0_changeCycle 8 (some .int), Cond.methodLink RX0 62 yX0_turningRemainders, Cond.instanceMethod yX0_turningRemainders, Cond.selects RX0 yX0_turningRemainders yX0_turningRemainders, Cond.code yX0_turningRemainders cX0_turningRemainders 4 (some .int), Cond.fieldLink RX0 18 "LanternPrimes$Lamp" "beatCount" "I", Cond.fieldLink RX0 9 "LanternPrimes$Lamp" "numbers" "[I", Cond.fieldLink RX0 15 "LanternPrimes$Lamp" "offsets" "[I", Cond.methodLink RX0 45 yX0_onAt, Cond.instanceMethod yX0_onAt, Cond.selects RX0 yX0_onAt yX0_onAt, Cond.code yX0_onAt cX0_onAt 4 (some .boolean), Cond.methodLink RX0 48 yX0_strikesUpTo, Cond.static yX0_strikesUpTo, Cond.code yX0_strikesUpTo cX0_strikesUpTo 3 (some .int)]
def wsX0_neverChanges_r2 : List Cond := [Cond.methodLink RX0 38 yX0_isOdd, Cond.static yX0_isOdd, Cond.code yX0_isOdd cX0_isOdd 1 (some .boolean)]
def wsX0_neverChanges : List Cond := .code yX0_neverChanges cX0_neverChanges 1 (some .boolean) :: ((wsX0_neverChanges_r1 ++ wsX0_neverChanges_r2) ++ wsX00)
def wsX0_untilChange : List Cond := .code yX0_untilChange cX0_untilChange 4 (some .int) :: ([.methodLink RX0 56 yX0_changeCycle, .instanceMethod yX0_changeCycle, .selects RX0 yX0_changeCycle yX0_changeCycle, .initialized RX0, .code yX0_changeCycle cX0_changeCycle 8 (some .int), .methodLink RX0 62 yX0_turningRemainders, .instanceMethod yX0_turningRemainders, .selects RX0 yX0_turningRemainders yX0_turningRemainders, .code yX0_turningRemainders cX0_turningRemainders 4 (some .int), .fieldLink RX0 18 "LanternPrimes$Lamp" "beatCount" "I", .fieldLink RX0 9 "LanternPrimes$Lamp" "numbers" "[I", .fieldLink RX0 15 "LanternPrimes$Lamp" "offsets" "[I", .methodLink RX0 65 yX0_changesAt, .instanceMethod yX0_changesAt, .selects RX0 yX0_changesAt yX0_changesAt, .code yX0_changesAt cX0_changesAt 2 (some .boolean), .methodLink RX0 34 yX0_strikes, .instanceMethod yX0_strikes, .selects RX0 yX0_strikes yX0_strikes, .code yX0_strikes cX0_strikes 4 (some .int), .methodLink RX0 38 yX0_isOdd, .static yX0_isOdd, .code yX0_isOdd cX0_isOdd 1 (some .boolean)] ++ wsX00)
def wsX1_init : List Cond := .code yX1_init cX1_init 2 none :: ([.methodLink RX1 1 objectInit, .instanceMethod objectInit, .code objectInit ⟨#[0xb1]⟩ 1 none, .classLink RX1 9 RX0, .fieldLink RX1 11 "LanternPrimes" "row" "[LLanternPrimes$Lamp;", .instantiable RX0 5, .initialized RX0, .fieldLink RX1 16 "LanternPrimes" "difference" "LLanternPrimes$Lamp;", .instanceMethod yX0_init, .code yX0_init cX0_init 1 none, .methodLink RX0 3 objectInit, .arrayClass .int, .fieldLink RX0 9 "LanternPrimes$Lamp" "numbers" "[I", .fieldLink RX0 15 "LanternPrimes$Lamp" "offsets" "[I"] ++ wsX10 ++ wsX00)
def wsX1_addLamp : List Cond := .code yX1_addLamp cX1_addLamp 2 (some .int) :: ([.classLink RX1 24 "java/lang/IllegalStateException", .initialized "java/lang/IllegalStateException", .fieldLink RX1 20 "LanternPrimes" "lampCount" "I", .fieldLink RX1 11 "LanternPrimes" "row" "[LLanternPrimes$Lamp;"] ++ wsX10 ++ wsX00 ++ (vx_atS RX1 28 "java/lang/IllegalStateException" ["java/lang/RuntimeException", "java/lang/Exception"]).filter goodWord)
def wsX1_needLamp : List Cond := .code yX1_needLamp cX1_needLamp 2 none :: ([.classLink RX1 141 "java/lang/IndexOutOfBoundsException", .initialized "java/lang/IndexOutOfBoundsException", .fieldLink RX1 20 "LanternPrimes" "lampCount" "I"] ++ wsX10 ++ (vx_atS RX1 145 "java/lang/IndexOutOfBoundsException" ["java/lang/RuntimeException", "java/lang/Exception"]).filter goodWord)
def wsX1_needNumber : List Cond := .code yX1_needNumber cX1_needNumber 5 none :: ([.classLink RX1 148 "java/lang/IllegalArgumentException", .initialized "java/lang/IllegalArgumentException", .fieldLink RX1 153 "LanternPrimes" "NUMBERS" "[I"] ++ (vx_atS RX1 152 "java/lang/IllegalArgumentException" ["java/lang/RuntimeException", "java/lang/Exception"]).filter goodWord)
def wsX1_needOffset : List Cond := .code yX1_needOffset cX1_needOffset 2 none :: ([.classLink RX1 148 "java/lang/IllegalArgumentException", .initialized "java/lang/IllegalArgumentException"] ++ (vx_atS RX1 152 "java/lang/IllegalArgumentException" ["java/lang/RuntimeException", "java/lang/Exception"]).filter goodWord)
def wsX1_addBeat_r1 : List Cond := [Cond.classLink RX1 24 "java/lang/IllegalStateException", Cond.initialized "java/lang/IllegalStateException", Cond.fieldLink RX1 11 "LanternPrimes" "row" "[LLanternPrimes$Lamp;", Cond.methodLink RX1 35 yX1_needLamp, Cond.instanceMethod yX1_needLamp, Cond.selects RX1 yX1_needLamp yX1_needLamp, Cond.initialized RX1, Cond.code yX1_needLamp cX1_needLamp 2 none, Cond.classLink RX1 141 "java/lang/IndexOutOfBoundsException", Cond.initialized "java/lang/IndexOutOfBoundsException", Cond.fieldLink RX1 20 "LanternPrimes" "lampCount" "I", Cond.methodLink RX1 39 yX1_needNumber, Cond.static yX1_needNumber, Cond.code yX1_needNumber cX1_needNumber 5 none, Cond.classLink RX1 148 "java/lang/IllegalArgumentException", Cond.initialized "java/lang/IllegalArgumentException", Cond.fieldLink RX1 153 "LanternPrimes" "NUMBERS" "[I", Cond.methodLink RX1 42 yX1_needOffset, Cond.static yX1_needOffset, Cond.code yX1_needOffset cX1_needOffset 2 none, Cond.methodLink RX1 51 yX0_append, Cond.instanceMethod yX0_append, Cond.selects RX0 yX0_append yX0_append, Cond.initialized RX0]
def wsX1_addBeat_r2 : List Cond := [Cond.code yX0_append cX0_append 3 none, Cond.fieldLink RX0 18 "LanternPrimes$Lamp" "beatCount" "I", Cond.fieldLink RX0 9 "LanternPrimes$Lamp" "numbers" "[I", Cond.fieldLink RX0 15 "LanternPrimes$Lamp" "offsets" "[I"]
def wsX1_addBeat : List Cond := .code yX1_addBeat cX1_addBeat 5 (some .int) :: ((wsX1_addBeat_r1 ++ wsX1_addBeat_r2) ++ wsX10 ++ wsX00 ++ (vx_atS RX1 28 "java/lang/IllegalStateException" ["java/lang/RuntimeException", "java/lang/Exception"]).filter goodWord ++ (vx_atS RX1 145 "java/lang/IndexOutOfBoundsException" ["java/lang/RuntimeException", "java/lang/Exception"]).filter goodWord ++ (vx_atS RX1 152 "java/lang/IllegalArgumentException" ["java/lang/RuntimeException", "java/lang/Exception"]).filter goodWord)
def wsX1_needBeat : List Cond := .code yX1_needBeat cX1_needBeat 3 none :: ([.classLink RX1 141 "java/lang/IndexOutOfBoundsException", .initialized "java/lang/IndexOutOfBoundsException", .fieldLink RX1 11 "LanternPrimes" "row" "[LLanternPrimes$Lamp;", .methodLink RX1 35 yX1_needLamp, .instanceMethod yX1_needLamp, .selects RX1 yX1_needLamp yX1_needLamp, .initialized RX1, .code yX1_needLamp cX1_needLamp 2 none, .fieldLink RX1 20 "LanternPrimes" "lampCount" "I"] ++ wsX10 ++ wsX00 ++ (vx_atS RX1 145 "java/lang/IndexOutOfBoundsException" ["java/lang/RuntimeException", "java/lang/Exception"]).filter goodWord)
def wsX1_moveBeat : List Cond := .code yX1_moveBeat cX1_moveBeat 6 (some .int) :: ([.fieldLink RX1 11 "LanternPrimes" "row" "[LLanternPrimes$Lamp;", .methodLink RX1 54 yX1_needBeat, .instanceMethod yX1_needBeat, .selects RX1 yX1_needBeat yX1_needBeat, .initialized RX1, .code yX1_needBeat cX1_needBeat 3 none, .classLink RX1 141 "java/lang/IndexOutOfBoundsException", .initialized "java/lang/IndexOutOfBoundsException", .methodLink RX1 35 yX1_needLamp, .instanceMethod yX1_needLamp, .selects RX1 yX1_needLamp yX1_needLamp, .code yX1_needLamp cX1_needLamp 2 none, .fieldLink RX1 20 "LanternPrimes" "lampCount" "I", .methodLink RX1 42 yX1_needOffset, .static yX1_needOffset, .code yX1_needOffset cX1_needOffset 2 none, .classLink RX1 148 "java/lang/IllegalArgumentException", .initialized "java/lang/IllegalArgumentException"] ++ wsX10 ++ wsX00 ++ (vx_atS RX1 145 "java/lang/IndexOutOfBoundsException" ["java/lang/RuntimeException", "java/lang/Exception"]).filter goodWord ++ (vx_atS RX1 152 "java/lang/IllegalArgumentException" ["java/lang/RuntimeException", "java/lang/Exception"]).filter goodWord)
def wsX1_takeBeat : List Cond := .code yX1_takeBeat cX1_takeBeat 4 (some .int) :: ([.fieldLink RX1 11 "LanternPrimes" "row" "[LLanternPrimes$Lamp;", .methodLink RX1 54 yX1_needBeat, .instanceMethod yX1_needBeat, .selects RX1 yX1_needBeat yX1_needBeat, .initialized RX1, .code yX1_needBeat cX1_needBeat 3 none, .classLink RX1 141 "java/lang/IndexOutOfBoundsException", .initialized "java/lang/IndexOutOfBoundsException", .methodLink RX1 35 yX1_needLamp, .instanceMethod yX1_needLamp, .selects RX1 yX1_needLamp yX1_needLamp, .code yX1_needLamp cX1_needLamp 2 none, .fieldLink RX1 20 "LanternPrimes" "lampCount" "I", .methodLink RX1 64 yX0_remove, .instanceMethod yX0_remove, .selects RX0 yX0_remove yX0_remove, .initialized RX0, .code yX0_remove cX0_remove 3 none, .fieldLink RX0 18 "LanternPrimes$Lamp" "beatCount" "I", .fieldLink RX0 9 "LanternPrimes$Lamp" "numbers" "[I", .fieldLink RX0 15 "LanternPrimes$Lamp" "offsets" "[I"] ++ wsX10 ++ wsX00 ++ (vx_atS RX1 145 "java/lang/IndexOutOfBoundsException" ["java/lang/RuntimeException", "java/lang/Exception"]).filter goodWord)
def wsX1_turnShutter : List Cond := .code yX1_turnShutter cX1_turnShutter 3 (some .boolean) :: ([.fieldLink RX1 11 "LanternPrimes" "row" "[LLanternPrimes$Lamp;", .methodLink RX1 35 yX1_needLamp, .instanceMethod yX1_needLamp, .selects RX1 yX1_needLamp yX1_needLamp, .initialized RX1, .code yX1_needLamp cX1_needLamp 2 none, .classLink RX1 141 "java/lang/IndexOutOfBoundsException", .initialized "java/lang/IndexOutOfBoundsException", .fieldLink RX1 20 "LanternPrimes" "lampCount" "I"] ++ wsX10 ++ wsX00 ++ (vx_atS RX1 145 "java/lang/IndexOutOfBoundsException" ["java/lang/RuntimeException", "java/lang/Exception"]).filter goodWord)
def wsX1_needMoments : List Cond := .code yX1_needMoments cX1_needMoments 2 none :: ([.classLink RX1 148 "java/lang/IllegalArgumentException", .initialized "java/lang/IllegalArgumentException"] ++ (vx_atS RX1 152 "java/lang/IllegalArgumentException" ["java/lang/RuntimeException", "java/lang/Exception"]).filter goodWord)
def wsX1_changesOfLamps : List Cond := .code yX1_changesOfLamps cX1_changesOfLamps 4 (some .int) :: ([.fieldLink RX1 20 "LanternPrimes" "lampCount" "I", .fieldLink RX1 11 "LanternPrimes" "row" "[LLanternPrimes$Lamp;", .methodLink RX1 165 yX0_changesAt, .instanceMethod yX0_changesAt, .selects RX0 yX0_changesAt yX0_changesAt, .initialized RX0, .code yX0_changesAt cX0_changesAt 2 (some .boolean), .methodLink RX0 34 yX0_strikes, .instanceMethod yX0_strikes, .selects RX0 yX0_strikes yX0_strikes, .code yX0_strikes cX0_strikes 4 (some .int), .fieldLink RX0 18 "LanternPrimes$Lamp" "beatCount" "I", .fieldLink RX0 9 "LanternPrimes$Lamp" "numbers" "[I", .fieldLink RX0 15 "LanternPrimes$Lamp" "offsets" "[I", .methodLink RX0 38 yX0_isOdd, .static yX0_isOdd, .code yX0_isOdd cX0_isOdd 1 (some .boolean)] ++ wsX10 ++ wsX00)
def wsX1_pass_r1 : List Cond := [Cond.fieldLink RX1 73 "LanternPrimes" "present" "I", Cond.fieldLink RX1 80 "LanternPrimes" "changesTold" "I", Cond.methodLink RX1 70 yX1_needMoments, Cond.static yX1_needMoments, Cond.initialized RX1, Cond.code yX1_needMoments cX1_needMoments 2 none, Cond.classLink RX1 148 "java/lang/IllegalArgumentException", Cond.initialized "java/lang/IllegalArgumentException", Cond.methodLink RX1 76 yX1_changesOfLamps, Cond.instanceMethod yX1_changesOfLamps, Cond.selects RX1 yX1_changesOfLamps yX1_changesOfLamps, Cond.code yX1_changesOfLamps cX1_changesOfLamps 4 (some .int), Cond.fieldLink RX1 20 "LanternPrimes" "lampCount" "I", Cond.fieldLink RX1 11 "LanternPrimes" "row" "[LLanternPrimes$Lamp;", Cond.methodLink RX1 165 yX0_changesAt, Cond.instanceMethod yX0_changesAt, Cond.selects RX0 yX0_changesAt yX0_changesAt, Cond.initialized RX0, Cond.code yX0_changesAt cX0_changesAt 2 (some .boolean), Cond.methodLink RX0 34 yX0_strikes, Cond.instanceMethod yX0_strikes, Cond.selects RX0 yX0_strikes yX0_strikes, Cond.code yX0_strikes cX0_strikes 4 (some .int), Cond.fieldLink RX0 18 "LanternPrimes$Lamp" "beatCount" "I"]
def wsX1_pass_r2 : List Cond := [Cond.fieldLink RX0 9 "LanternPrimes$Lamp" "numbers" "[I", Cond.fieldLink RX0 15 "LanternPrimes$Lamp" "offsets" "[I", Cond.methodLink RX0 38 yX0_isOdd, Cond.static yX0_isOdd, Cond.code yX0_isOdd cX0_isOdd 1 (some .boolean)]
def wsX1_pass : List Cond := .code yX1_pass cX1_pass 4 (some .int) :: ((wsX1_pass_r1 ++ wsX1_pass_r2) ++ wsX10 ++ wsX00 ++ (vx_atS RX1 152 "java/lang/IllegalArgumentException" ["java/lang/RuntimeException", "java/lang/Exception"]).filter goodWord)
def wsX1_lamps : List Cond := .code yX1_lamps cX1_lamps 1 (some .int) :: ([.fieldLink RX1 20 "LanternPrimes" "lampCount" "I"] ++ wsX10)
def wsX1_now : List Cond := .code yX1_now cX1_now 1 (some .int) :: ([.fieldLink RX1 73 "LanternPrimes" "present" "I"] ++ wsX10)
def wsX1_changesSeen : List Cond := .code yX1_changesSeen cX1_changesSeen 1 (some .int) :: ([.fieldLink RX1 80 "LanternPrimes" "changesTold" "I"] ++ wsX10)
def wsX1_beatsOf : List Cond := .code yX1_beatsOf cX1_beatsOf 2 (some .int) :: ([.fieldLink RX1 11 "LanternPrimes" "row" "[LLanternPrimes$Lamp;", .methodLink RX1 35 yX1_needLamp, .instanceMethod yX1_needLamp, .selects RX1 yX1_needLamp yX1_needLamp, .initialized RX1, .code yX1_needLamp cX1_needLamp 2 none, .classLink RX1 141 "java/lang/IndexOutOfBoundsException", .initialized "java/lang/IndexOutOfBoundsException", .fieldLink RX1 20 "LanternPrimes" "lampCount" "I"] ++ wsX10 ++ wsX00 ++ (vx_atS RX1 145 "java/lang/IndexOutOfBoundsException" ["java/lang/RuntimeException", "java/lang/Exception"]).filter goodWord)
def wsX1_numberOf : List Cond := .code yX1_numberOf cX1_numberOf 3 (some .int) :: ([.fieldLink RX1 11 "LanternPrimes" "row" "[LLanternPrimes$Lamp;", .methodLink RX1 54 yX1_needBeat, .instanceMethod yX1_needBeat, .selects RX1 yX1_needBeat yX1_needBeat, .initialized RX1, .code yX1_needBeat cX1_needBeat 3 none, .classLink RX1 141 "java/lang/IndexOutOfBoundsException", .initialized "java/lang/IndexOutOfBoundsException", .methodLink RX1 35 yX1_needLamp, .instanceMethod yX1_needLamp, .selects RX1 yX1_needLamp yX1_needLamp, .code yX1_needLamp cX1_needLamp 2 none, .fieldLink RX1 20 "LanternPrimes" "lampCount" "I"] ++ wsX10 ++ wsX00 ++ (vx_atS RX1 145 "java/lang/IndexOutOfBoundsException" ["java/lang/RuntimeException", "java/lang/Exception"]).filter goodWord)
def wsX1_offsetOf : List Cond := .code yX1_offsetOf cX1_offsetOf 3 (some .int) :: ([.fieldLink RX1 11 "LanternPrimes" "row" "[LLanternPrimes$Lamp;", .methodLink RX1 54 yX1_needBeat, .instanceMethod yX1_needBeat, .selects RX1 yX1_needBeat yX1_needBeat, .initialized RX1, .code yX1_needBeat cX1_needBeat 3 none, .classLink RX1 141 "java/lang/IndexOutOfBoundsException", .initialized "java/lang/IndexOutOfBoundsException", .methodLink RX1 35 yX1_needLamp, .instanceMethod yX1_needLamp, .selects RX1 yX1_needLamp yX1_needLamp, .code yX1_needLamp cX1_needLamp 2 none, .fieldLink RX1 20 "LanternPrimes" "lampCount" "I"] ++ wsX10 ++ wsX00 ++ (vx_atS RX1 145 "java/lang/IndexOutOfBoundsException" ["java/lang/RuntimeException", "java/lang/Exception"]).filter goodWord)
def wsX1_isCovered : List Cond := .code yX1_isCovered cX1_isCovered 2 (some .boolean) :: ([.fieldLink RX1 11 "LanternPrimes" "row" "[LLanternPrimes$Lamp;", .methodLink RX1 35 yX1_needLamp, .instanceMethod yX1_needLamp, .selects RX1 yX1_needLamp yX1_needLamp, .initialized RX1, .code yX1_needLamp cX1_needLamp 2 none, .classLink RX1 141 "java/lang/IndexOutOfBoundsException", .initialized "java/lang/IndexOutOfBoundsException", .fieldLink RX1 20 "LanternPrimes" "lampCount" "I"] ++ wsX10 ++ wsX00 ++ (vx_atS RX1 145 "java/lang/IndexOutOfBoundsException" ["java/lang/RuntimeException", "java/lang/Exception"]).filter goodWord)
def wsX1_isOn_r1 : List Cond := [Cond.fieldLink RX1 11 "LanternPrimes" "row" "[LLanternPrimes$Lamp;", Cond.fieldLink RX1 73 "LanternPrimes" "present" "I", Cond.methodLink RX1 35 yX1_needLamp, Cond.instanceMethod yX1_needLamp, Cond.selects RX1 yX1_needLamp yX1_needLamp, Cond.initialized RX1, Cond.code yX1_needLamp cX1_needLamp 2 none, Cond.classLink RX1 141 "java/lang/IndexOutOfBoundsException", Cond.initialized "java/lang/IndexOutOfBoundsException", Cond.fieldLink RX1 20 "LanternPrimes" "lampCount" "I", Cond.methodLink RX1 83 yX0_onAt, Cond.instanceMethod yX0_onAt, Cond.selects RX0 yX0_onAt yX0_onAt, Cond.initialized RX0, Cond.code yX0_onAt cX0_onAt 4 (some .boolean), Cond.fieldLink RX0 18 "LanternPrimes$Lamp" "beatCount" "I", Cond.fieldLink RX0 9 "LanternPrimes$Lamp" "numbers" "[I", Cond.fieldLink RX0 15 "LanternPrimes$Lamp" "offsets" "[I", Cond.fieldLink RX0 22 "LanternPrimes$Lamp" "onAtStart" "Z", Cond.methodLink RX0 48 yX0_strikesUpTo, Cond.static yX0_strikesUpTo, Cond.code yX0_strikesUpTo cX0_strikesUpTo 3 (some .int), Cond.methodLink RX0 38 yX0_isOdd, Cond.static yX0_isOdd]
def wsX1_isOn_r2 : List Cond := [Cond.code yX0_isOdd cX0_isOdd 1 (some .boolean)]
def wsX1_isOn : List Cond := .code yX1_isOn cX1_isOn 2 (some .boolean) :: ((wsX1_isOn_r1 ++ wsX1_isOn_r2) ++ wsX10 ++ wsX00 ++ (vx_atS RX1 145 "java/lang/IndexOutOfBoundsException" ["java/lang/RuntimeException", "java/lang/Exception"]).filter goodWord)
def wsX1_isLit_r1 : List Cond := [Cond.fieldLink RX1 11 "LanternPrimes" "row" "[LLanternPrimes$Lamp;", Cond.fieldLink RX1 73 "LanternPrimes" "present" "I", Cond.methodLink RX1 35 yX1_needLamp, Cond.instanceMethod yX1_needLamp, Cond.selects RX1 yX1_needLamp yX1_needLamp, Cond.initialized RX1, Cond.code yX1_needLamp cX1_needLamp 2 none, Cond.classLink RX1 141 "java/lang/IndexOutOfBoundsException", Cond.initialized "java/lang/IndexOutOfBoundsException", Cond.fieldLink RX1 20 "LanternPrimes" "lampCount" "I", Cond.methodLink RX1 87 yX0_litAt, Cond.instanceMethod yX0_litAt, Cond.selects RX0 yX0_litAt yX0_litAt, Cond.initialized RX0, Cond.code yX0_litAt cX0_litAt 2 (some .boolean), Cond.fieldLink RX0 42 "LanternPrimes$Lamp" "covered" "Z", Cond.methodLink RX0 45 yX0_onAt, Cond.instanceMethod yX0_onAt, Cond.selects RX0 yX0_onAt yX0_onAt, Cond.code yX0_onAt cX0_onAt 4 (some .boolean), Cond.fieldLink RX0 18 "LanternPrimes$Lamp" "beatCount" "I", Cond.fieldLink RX0 9 "LanternPrimes$Lamp" "numbers" "[I", Cond.fieldLink RX0 15 "LanternPrimes$Lamp" "offsets" "[I", Cond.fieldLink RX0 22 "LanternPrimes$Lamp" "onAtStart" "Z"]
def wsX1_isLit_r2 : List Cond := [Cond.methodLink RX0 48 yX0_strikesUpTo, Cond.static yX0_strikesUpTo, Cond.code yX0_strikesUpTo cX0_strikesUpTo 3 (some .int), Cond.methodLink RX0 38 yX0_isOdd, Cond.static yX0_isOdd, Cond.code yX0_isOdd cX0_isOdd 1 (some .boolean)]
def wsX1_isLit : List Cond := .code yX1_isLit cX1_isLit 2 (some .boolean) :: ((wsX1_isLit_r1 ++ wsX1_isLit_r2) ++ wsX10 ++ wsX00 ++ (vx_atS RX1 145 "java/lang/IndexOutOfBoundsException" ["java/lang/RuntimeException", "java/lang/Exception"]).filter goodWord)
def wsX1_litCount : List Cond := .code yX1_litCount cX1_litCount 4 (some .int) :: ([.fieldLink RX1 20 "LanternPrimes" "lampCount" "I", .fieldLink RX1 11 "LanternPrimes" "row" "[LLanternPrimes$Lamp;", .methodLink RX1 87 yX0_litAt, .instanceMethod yX0_litAt, .selects RX0 yX0_litAt yX0_litAt, .initialized RX0, .code yX0_litAt cX0_litAt 2 (some .boolean), .fieldLink RX0 42 "LanternPrimes$Lamp" "covered" "Z", .methodLink RX0 45 yX0_onAt, .instanceMethod yX0_onAt, .selects RX0 yX0_onAt yX0_onAt, .code yX0_onAt cX0_onAt 4 (some .boolean), .fieldLink RX0 18 "LanternPrimes$Lamp" "beatCount" "I", .fieldLink RX0 9 "LanternPrimes$Lamp" "numbers" "[I", .fieldLink RX0 15 "LanternPrimes$Lamp" "offsets" "[I", .fieldLink RX0 22 "LanternPrimes$Lamp" "onAtStart" "Z", .methodLink RX0 48 yX0_strikesUpTo, .static yX0_strikesUpTo, .code yX0_strikesUpTo cX0_strikesUpTo 3 (some .int), .methodLink RX0 38 yX0_isOdd, .static yX0_isOdd, .code yX0_isOdd cX0_isOdd 1 (some .boolean)] ++ wsX10 ++ wsX00)
def wsX1_litLamps_r1 : List Cond := [Cond.fieldLink RX1 73 "LanternPrimes" "present" "I", Cond.methodLink RX1 90 yX1_litCount, Cond.instanceMethod yX1_litCount, Cond.selects RX1 yX1_litCount yX1_litCount, Cond.initialized RX1, Cond.code yX1_litCount cX1_litCount 4 (some .int), Cond.fieldLink RX1 20 "LanternPrimes" "lampCount" "I", Cond.fieldLink RX1 11 "LanternPrimes" "row" "[LLanternPrimes$Lamp;", Cond.methodLink RX1 87 yX0_litAt, Cond.instanceMethod yX0_litAt, Cond.selects RX0 yX0_litAt yX0_litAt, Cond.initialized RX0, Cond.code yX0_litAt cX0_litAt 2 (some .boolean), Cond.fieldLink RX0 42 "LanternPrimes$Lamp" "covered" "Z", Cond.methodLink RX0 45 yX0_onAt, Cond.instanceMethod yX0_onAt, Cond.selects RX0 yX0_onAt yX0_onAt, Cond.code yX0_onAt cX0_onAt 4 (some .boolean), Cond.fieldLink RX0 18 "LanternPrimes$Lamp" "beatCount" "I", Cond.fieldLink RX0 9 "LanternPrimes$Lamp" "numbers" "[I", Cond.fieldLink RX0 15 "LanternPrimes$Lamp" "offsets" "[I", Cond.fieldLink RX0 22 "LanternPrimes$Lamp" "onAtStart" "Z", Cond.methodLink RX0 48 yX0_strikesUpTo, Cond.static yX0_strikesUpTo]
def wsX1_litLamps_r2 : List Cond := [Cond.code yX0_strikesUpTo cX0_strikesUpTo 3 (some .int), Cond.methodLink RX0 38 yX0_isOdd, Cond.static yX0_isOdd, Cond.code yX0_isOdd cX0_isOdd 1 (some .boolean)]
def wsX1_litLamps : List Cond := .code yX1_litLamps cX1_litLamps 1 (some .int) :: ((wsX1_litLamps_r1 ++ wsX1_litLamps_r2) ++ wsX10 ++ wsX00)
def wsX1_darkAt : List Cond := .code yX1_darkAt cX1_darkAt 4 (some .boolean) :: ([.fieldLink RX1 20 "LanternPrimes" "lampCount" "I", .fieldLink RX1 11 "LanternPrimes" "row" "[LLanternPrimes$Lamp;", .methodLink RX1 87 yX0_litAt, .instanceMethod yX0_litAt, .selects RX0 yX0_litAt yX0_litAt, .initialized RX0, .code yX0_litAt cX0_litAt 2 (some .boolean), .fieldLink RX0 42 "LanternPrimes$Lamp" "covered" "Z", .methodLink RX0 45 yX0_onAt, .instanceMethod yX0_onAt, .selects RX0 yX0_onAt yX0_onAt, .code yX0_onAt cX0_onAt 4 (some .boolean), .fieldLink RX0 18 "LanternPrimes$Lamp" "beatCount" "I", .fieldLink RX0 9 "LanternPrimes$Lamp" "numbers" "[I", .fieldLink RX0 15 "LanternPrimes$Lamp" "offsets" "[I", .fieldLink RX0 22 "LanternPrimes$Lamp" "onAtStart" "Z", .methodLink RX0 48 yX0_strikesUpTo, .static yX0_strikesUpTo, .code yX0_strikesUpTo cX0_strikesUpTo 3 (some .int), .methodLink RX0 38 yX0_isOdd, .static yX0_isOdd, .code yX0_isOdd cX0_isOdd 1 (some .boolean)] ++ wsX10 ++ wsX00)
def wsX1_isDark_r1 : List Cond := [Cond.fieldLink RX1 73 "LanternPrimes" "present" "I", Cond.methodLink RX1 93 yX1_darkAt, Cond.instanceMethod yX1_darkAt, Cond.selects RX1 yX1_darkAt yX1_darkAt, Cond.initialized RX1, Cond.code yX1_darkAt cX1_darkAt 4 (some .boolean), Cond.fieldLink RX1 20 "LanternPrimes" "lampCount" "I", Cond.fieldLink RX1 11 "LanternPrimes" "row" "[LLanternPrimes$Lamp;", Cond.methodLink RX1 87 yX0_litAt, Cond.instanceMethod yX0_litAt, Cond.selects RX0 yX0_litAt yX0_litAt, Cond.initialized RX0, Cond.code yX0_litAt cX0_litAt 2 (some .boolean), Cond.fieldLink RX0 42 "LanternPrimes$Lamp" "covered" "Z", Cond.methodLink RX0 45 yX0_onAt, Cond.instanceMethod yX0_onAt, Cond.selects RX0 yX0_onAt yX0_onAt, Cond.code yX0_onAt cX0_onAt 4 (some .boolean), Cond.fieldLink RX0 18 "LanternPrimes$Lamp" "beatCount" "I", Cond.fieldLink RX0 9 "LanternPrimes$Lamp" "numbers" "[I", Cond.fieldLink RX0 15 "LanternPrimes$Lamp" "offsets" "[I", Cond.fieldLink RX0 22 "LanternPrimes$Lamp" "onAtStart" "Z", Cond.methodLink RX0 48 yX0_strikesUpTo, Cond.static yX0_strikesUpTo]
def wsX1_isDark_r2 : List Cond := [Cond.code yX0_strikesUpTo cX0_strikesUpTo 3 (some .int), Cond.methodLink RX0 38 yX0_isOdd, Cond.static yX0_isOdd, Cond.code yX0_isOdd cX0_isOdd 1 (some .boolean)]
def wsX1_isDark : List Cond := .code yX1_isDark cX1_isDark 1 (some .boolean) :: ((wsX1_isDark_r1 ++ wsX1_isDark_r2) ++ wsX10 ++ wsX00)
def wsX1_needMoment : List Cond := .code yX1_needMoment cX1_needMoment 1 none :: ([.classLink RX1 148 "java/lang/IllegalArgumentException", .initialized "java/lang/IllegalArgumentException", .constant RX1 160 (60000)] ++ (vx_atS RX1 152 "java/lang/IllegalArgumentException" ["java/lang/RuntimeException", "java/lang/Exception"]).filter goodWord)
def wsX1_isOnAt_r1 : List Cond := [Cond.fieldLink RX1 11 "LanternPrimes" "row" "[LLanternPrimes$Lamp;", Cond.methodLink RX1 35 yX1_needLamp, Cond.instanceMethod yX1_needLamp, Cond.selects RX1 yX1_needLamp yX1_needLamp, Cond.initialized RX1, Cond.code yX1_needLamp cX1_needLamp 2 none, Cond.classLink RX1 141 "java/lang/IndexOutOfBoundsException", Cond.initialized "java/lang/IndexOutOfBoundsException", Cond.fieldLink RX1 20 "LanternPrimes" "lampCount" "I", Cond.methodLink RX1 97 yX1_needMoment, Cond.static yX1_needMoment, Cond.code yX1_needMoment cX1_needMoment 1 none, Cond.classLink RX1 148 "java/lang/IllegalArgumentException", Cond.initialized "java/lang/IllegalArgumentException", Cond.constant RX1 160 (60000), Cond.methodLink RX1 83 yX0_onAt, Cond.instanceMethod yX0_onAt, Cond.selects RX0 yX0_onAt yX0_onAt, Cond.initialized RX0, Cond.code yX0_onAt cX0_onAt 4 (some .boolean), Cond.fieldLink RX0 18 "LanternPrimes$Lamp" "beatCount" "I", Cond.fieldLink RX0 9 "LanternPrimes$Lamp" "numbers" "[I", Cond.fieldLink RX0 15 "LanternPrimes$Lamp" "offsets" "[I", Cond.fieldLink RX0 22 "LanternPrimes$Lamp" "onAtStart" "Z"]
def wsX1_isOnAt_r2 : List Cond := [Cond.methodLink RX0 48 yX0_strikesUpTo, Cond.static yX0_strikesUpTo, Cond.code yX0_strikesUpTo cX0_strikesUpTo 3 (some .int), Cond.methodLink RX0 38 yX0_isOdd, Cond.static yX0_isOdd, Cond.code yX0_isOdd cX0_isOdd 1 (some .boolean)]
def wsX1_isOnAt : List Cond := .code yX1_isOnAt cX1_isOnAt 3 (some .boolean) :: ((wsX1_isOnAt_r1 ++ wsX1_isOnAt_r2) ++ wsX10 ++ wsX00 ++ (vx_atS RX1 145 "java/lang/IndexOutOfBoundsException" ["java/lang/RuntimeException", "java/lang/Exception"]).filter goodWord ++ (vx_atS RX1 152 "java/lang/IllegalArgumentException" ["java/lang/RuntimeException", "java/lang/Exception"]).filter goodWord)
def wsX1_strikesAt : List Cond := .code yX1_strikesAt cX1_strikesAt 3 (some .int) :: ([.fieldLink RX1 11 "LanternPrimes" "row" "[LLanternPrimes$Lamp;", .methodLink RX1 35 yX1_needLamp, .instanceMethod yX1_needLamp, .selects RX1 yX1_needLamp yX1_needLamp, .initialized RX1, .code yX1_needLamp cX1_needLamp 2 none, .classLink RX1 141 "java/lang/IndexOutOfBoundsException", .initialized "java/lang/IndexOutOfBoundsException", .fieldLink RX1 20 "LanternPrimes" "lampCount" "I", .methodLink RX1 97 yX1_needMoment, .static yX1_needMoment, .code yX1_needMoment cX1_needMoment 1 none, .classLink RX1 148 "java/lang/IllegalArgumentException", .initialized "java/lang/IllegalArgumentException", .constant RX1 160 (60000), .methodLink RX1 100 yX0_strikes, .instanceMethod yX0_strikes, .selects RX0 yX0_strikes yX0_strikes, .initialized RX0, .code yX0_strikes cX0_strikes 4 (some .int), .fieldLink RX0 18 "LanternPrimes$Lamp" "beatCount" "I", .fieldLink RX0 9 "LanternPrimes$Lamp" "numbers" "[I", .fieldLink RX0 15 "LanternPrimes$Lamp" "offsets" "[I"] ++ wsX10 ++ wsX00 ++ (vx_atS RX1 145 "java/lang/IndexOutOfBoundsException" ["java/lang/RuntimeException", "java/lang/Exception"]).filter goodWord ++ (vx_atS RX1 152 "java/lang/IllegalArgumentException" ["java/lang/RuntimeException", "java/lang/Exception"]).filter goodWord)
def wsX1_isSteady_r1 : List Cond := [Cond.fieldLink RX1 11 "LanternPrimes" "row" "[LLanternPrimes$Lamp;", Cond.methodLink RX1 35 yX1_needLamp, Cond.instanceMethod yX1_needLamp, Cond.selects RX1 yX1_needLamp yX1_needLamp, Cond.initialized RX1, Cond.code yX1_needLamp cX1_needLamp 2 none, Cond.classLink RX1 141 "java/lang/IndexOutOfBoundsException", Cond.initialized "java/lang/IndexOutOfBoundsException", Cond.fieldLink RX1 20 "LanternPrimes" "lampCount" "I", Cond.methodLink RX1 103 yX0_neverChanges, Cond.instanceMethod yX0_neverChanges, Cond.selects RX0 yX0_neverChanges yX0_neverChanges, Cond.initialized RX0, Cond.code yX0_neverChanges cX0_neverChanges 1 (some .boolean), Cond.methodLink RX0 52 yX0_cycle, Cond.instanceMethod yX0_cycle, Cond.selects RX0 yX0_cycle yX0_cycle, Cond.code yX0_cycle cX0_cycle 3 (some .int), Cond.fieldLink RX0 22 "LanternPrimes$Lamp" "onAtStart" "Z", Cond.methodLink RX0 56 yX0_changeCycle, Cond.instanceMethod yX0_changeCycle, Cond.selects RX0 yX0_changeCycle yX0_changeCycle, Cond.code yX0_changeCycle cX0_changeCycle 8 (some .int), Cond.methodLink RX0 62 yX0_turningRemainders]
def wsX1_isSteady_r2 : List Cond := [Cond.instanceMethod yX0_turningRemainders, Cond.selects RX0 yX0_turningRemainders yX0_turningRemainders, Cond.code yX0_turningRemainders cX0_turningRemainders 4 (some .int), Cond.fieldLink RX0 18 "LanternPrimes$Lamp" "beatCount" "I", Cond.fieldLink RX0 9 "LanternPrimes$Lamp" "numbers" "[I", Cond.fieldLink RX0 15 "LanternPrimes$Lamp" "offsets" "[I", Cond.methodLink RX0 45 yX0_onAt, Cond.instanceMethod yX0_onAt, Cond.selects RX0 yX0_onAt yX0_onAt, Cond.code yX0_onAt cX0_onAt 4 (some .boolean), Cond.methodLink RX0 48 yX0_strikesUpTo, Cond.static yX0_strikesUpTo, Cond.code yX0_strikesUpTo cX0_strikesUpTo 3 (some .int), Cond.methodLink RX0 38 yX0_isOdd, Cond.static yX0_isOdd, Cond.code yX0_isOdd cX0_isOdd 1 (some .boolean)]
def wsX1_isSteady : List Cond := .code yX1_isSteady cX1_isSteady 2 (some .boolean) :: ((wsX1_isSteady_r1 ++ wsX1_isSteady_r2) ++ wsX10 ++ wsX00 ++ (vx_atS RX1 145 "java/lang/IndexOutOfBoundsException" ["java/lang/RuntimeException", "java/lang/Exception"]).filter goodWord)
def wsX1_cycleOf_r1 : List Cond := [Cond.fieldLink RX1 11 "LanternPrimes" "row" "[LLanternPrimes$Lamp;", Cond.methodLink RX1 35 yX1_needLamp, Cond.instanceMethod yX1_needLamp, Cond.selects RX1 yX1_needLamp yX1_needLamp, Cond.initialized RX1, Cond.code yX1_needLamp cX1_needLamp 2 none, Cond.classLink RX1 141 "java/lang/IndexOutOfBoundsException", Cond.initialized "java/lang/IndexOutOfBoundsException", Cond.fieldLink RX1 20 "LanternPrimes" "lampCount" "I", Cond.methodLink RX1 107 yX0_cycle, Cond.instanceMethod yX0_cycle, Cond.selects RX0 yX0_cycle yX0_cycle, Cond.initialized RX0, Cond.code yX0_cycle cX0_cycle 3 (some .int), Cond.fieldLink RX0 22 "LanternPrimes$Lamp" "onAtStart" "Z", Cond.methodLink RX0 56 yX0_changeCycle, Cond.instanceMethod yX0_changeCycle, Cond.selects RX0 yX0_changeCycle yX0_changeCycle, Cond.code yX0_changeCycle cX0_changeCycle 8 (some .int), Cond.methodLink RX0 62 yX0_turningRemainders, Cond.instanceMethod yX0_turningRemainders, Cond.selects RX0 yX0_turningRemainders yX0_turningRemainders, Cond.code yX0_turningRemainders cX0_turningRemainders 4 (some .int), Cond.fieldLink RX0 18 "LanternPrimes$Lamp" "beatCount" "I"]
def wsX1_cycleOf_r2 : List Cond := [Cond.fieldLink RX0 9 "LanternPrimes$Lamp" "numbers" "[I", Cond.fieldLink RX0 15 "LanternPrimes$Lamp" "offsets" "[I", Cond.methodLink RX0 45 yX0_onAt, Cond.instanceMethod yX0_onAt, Cond.selects RX0 yX0_onAt yX0_onAt, Cond.code yX0_onAt cX0_onAt 4 (some .boolean), Cond.methodLink RX0 48 yX0_strikesUpTo, Cond.static yX0_strikesUpTo, Cond.code yX0_strikesUpTo cX0_strikesUpTo 3 (some .int), Cond.methodLink RX0 38 yX0_isOdd, Cond.static yX0_isOdd, Cond.code yX0_isOdd cX0_isOdd 1 (some .boolean)]
def wsX1_cycleOf : List Cond := .code yX1_cycleOf cX1_cycleOf 2 (some .int) :: ((wsX1_cycleOf_r1 ++ wsX1_cycleOf_r2) ++ wsX10 ++ wsX00 ++ (vx_atS RX1 145 "java/lang/IndexOutOfBoundsException" ["java/lang/RuntimeException", "java/lang/Exception"]).filter goodWord)
def wsX1_momentsUntilChange_r1 : List Cond := [Cond.fieldLink RX1 11 "LanternPrimes" "row" "[LLanternPrimes$Lamp;", Cond.fieldLink RX1 73 "LanternPrimes" "present" "I", Cond.methodLink RX1 35 yX1_needLamp, Cond.instanceMethod yX1_needLamp, Cond.selects RX1 yX1_needLamp yX1_needLamp, Cond.initialized RX1, Cond.code yX1_needLamp cX1_needLamp 2 none, Cond.classLink RX1 141 "java/lang/IndexOutOfBoundsException", Cond.initialized "java/lang/IndexOutOfBoundsException", Cond.fieldLink RX1 20 "LanternPrimes" "lampCount" "I", Cond.methodLink RX1 111 yX0_untilChange, Cond.instanceMethod yX0_untilChange, Cond.selects RX0 yX0_untilChange yX0_untilChange, Cond.initialized RX0, Cond.code yX0_untilChange cX0_untilChange 4 (some .int), Cond.methodLink RX0 56 yX0_changeCycle, Cond.instanceMethod yX0_changeCycle, Cond.selects RX0 yX0_changeCycle yX0_changeCycle, Cond.code yX0_changeCycle cX0_changeCycle 8 (some .int), Cond.methodLink RX0 62 yX0_turningRemainders, Cond.instanceMethod yX0_turningRemainders, Cond.selects RX0 yX0_turningRemainders yX0_turningRemainders, Cond.code yX0_turningRemainders cX0_turningRemainders 4 (some .int), Cond.fieldLink RX0 18 "LanternPrimes$Lamp" "beatCount" "I"]
def wsX1_momentsUntilChange_r2 : List Cond := [Cond.fieldLink RX0 9 "LanternPrimes$Lamp" "numbers" "[I", Cond.fieldLink RX0 15 "LanternPrimes$Lamp" "offsets" "[I", Cond.methodLink RX0 65 yX0_changesAt, Cond.instanceMethod yX0_changesAt, Cond.selects RX0 yX0_changesAt yX0_changesAt, Cond.code yX0_changesAt cX0_changesAt 2 (some .boolean), Cond.methodLink RX0 34 yX0_strikes, Cond.instanceMethod yX0_strikes, Cond.selects RX0 yX0_strikes yX0_strikes, Cond.code yX0_strikes cX0_strikes 4 (some .int), Cond.methodLink RX0 38 yX0_isOdd, Cond.static yX0_isOdd, Cond.code yX0_isOdd cX0_isOdd 1 (some .boolean)]
def wsX1_momentsUntilChange : List Cond := .code yX1_momentsUntilChange cX1_momentsUntilChange 2 (some .int) :: ((wsX1_momentsUntilChange_r1 ++ wsX1_momentsUntilChange_r2) ++ wsX10 ++ wsX00 ++ (vx_atS RX1 145 "java/lang/IndexOutOfBoundsException" ["java/lang/RuntimeException", "java/lang/Exception"]).filter goodWord)
def wsX1_shows_r1 : List Cond := [Cond.fieldLink RX1 11 "LanternPrimes" "row" "[LLanternPrimes$Lamp;", Cond.fieldLink RX1 73 "LanternPrimes" "present" "I", Cond.methodLink RX1 35 yX1_needLamp, Cond.instanceMethod yX1_needLamp, Cond.selects RX1 yX1_needLamp yX1_needLamp, Cond.initialized RX1, Cond.code yX1_needLamp cX1_needLamp 2 none, Cond.classLink RX1 141 "java/lang/IndexOutOfBoundsException", Cond.initialized "java/lang/IndexOutOfBoundsException", Cond.fieldLink RX1 20 "LanternPrimes" "lampCount" "I", Cond.methodLink RX1 70 yX1_needMoments, Cond.static yX1_needMoments, Cond.code yX1_needMoments cX1_needMoments 2 none, Cond.classLink RX1 148 "java/lang/IllegalArgumentException", Cond.initialized "java/lang/IllegalArgumentException", Cond.methodLink RX1 83 yX0_onAt, Cond.instanceMethod yX0_onAt, Cond.selects RX0 yX0_onAt yX0_onAt, Cond.initialized RX0, Cond.code yX0_onAt cX0_onAt 4 (some .boolean), Cond.fieldLink RX0 18 "LanternPrimes$Lamp" "beatCount" "I", Cond.fieldLink RX0 9 "LanternPrimes$Lamp" "numbers" "[I", Cond.fieldLink RX0 15 "LanternPrimes$Lamp" "offsets" "[I", Cond.fieldLink RX0 22 "LanternPrimes$Lamp" "onAtStart" "Z"]
def wsX1_shows_r2 : List Cond := [Cond.methodLink RX0 48 yX0_strikesUpTo, Cond.static yX0_strikesUpTo, Cond.code yX0_strikesUpTo cX0_strikesUpTo 3 (some .int), Cond.methodLink RX0 38 yX0_isOdd, Cond.static yX0_isOdd, Cond.code yX0_isOdd cX0_isOdd 1 (some .boolean)]
def wsX1_shows : List Cond := .code yX1_shows cX1_shows 5 (some .int) :: ((wsX1_shows_r1 ++ wsX1_shows_r2) ++ wsX10 ++ wsX00 ++ (vx_atS RX1 145 "java/lang/IndexOutOfBoundsException" ["java/lang/RuntimeException", "java/lang/Exception"]).filter goodWord ++ (vx_atS RX1 152 "java/lang/IllegalArgumentException" ["java/lang/RuntimeException", "java/lang/Exception"]).filter goodWord)
def wsX1_needPair : List Cond := .code yX1_needPair cX1_needPair 3 none :: ([.classLink RX1 148 "java/lang/IllegalArgumentException", .initialized "java/lang/IllegalArgumentException", .methodLink RX1 35 yX1_needLamp, .instanceMethod yX1_needLamp, .selects RX1 yX1_needLamp yX1_needLamp, .initialized RX1, .code yX1_needLamp cX1_needLamp 2 none, .classLink RX1 141 "java/lang/IndexOutOfBoundsException", .initialized "java/lang/IndexOutOfBoundsException", .fieldLink RX1 20 "LanternPrimes" "lampCount" "I"] ++ wsX10 ++ (vx_atS RX1 152 "java/lang/IllegalArgumentException" ["java/lang/RuntimeException", "java/lang/Exception"]).filter goodWord ++ (vx_atS RX1 145 "java/lang/IndexOutOfBoundsException" ["java/lang/RuntimeException", "java/lang/Exception"]).filter goodWord)
def wsX1_collideAt : List Cond := .code yX1_collideAt cX1_collideAt 4 (some .boolean) :: ([.fieldLink RX1 11 "LanternPrimes" "row" "[LLanternPrimes$Lamp;", .methodLink RX1 165 yX0_changesAt, .instanceMethod yX0_changesAt, .selects RX0 yX0_changesAt yX0_changesAt, .initialized RX0, .code yX0_changesAt cX0_changesAt 2 (some .boolean), .methodLink RX0 34 yX0_strikes, .instanceMethod yX0_strikes, .selects RX0 yX0_strikes yX0_strikes, .code yX0_strikes cX0_strikes 4 (some .int), .fieldLink RX0 18 "LanternPrimes$Lamp" "beatCount" "I", .fieldLink RX0 9 "LanternPrimes$Lamp" "numbers" "[I", .fieldLink RX0 15 "LanternPrimes$Lamp" "offsets" "[I", .methodLink RX0 38 yX0_isOdd, .static yX0_isOdd, .code yX0_isOdd cX0_isOdd 1 (some .boolean)] ++ wsX10 ++ wsX00)
def wsX1_momentsUntilCollision_r1 : List Cond := [Cond.fieldLink RX1 73 "LanternPrimes" "present" "I", Cond.methodLink RX1 114 yX1_needPair, Cond.instanceMethod yX1_needPair, Cond.selects RX1 yX1_needPair yX1_needPair, Cond.initialized RX1, Cond.code yX1_needPair cX1_needPair 3 none, Cond.classLink RX1 148 "java/lang/IllegalArgumentException", Cond.initialized "java/lang/IllegalArgumentException", Cond.methodLink RX1 35 yX1_needLamp, Cond.instanceMethod yX1_needLamp, Cond.selects RX1 yX1_needLamp yX1_needLamp, Cond.code yX1_needLamp cX1_needLamp 2 none, Cond.classLink RX1 141 "java/lang/IndexOutOfBoundsException", Cond.initialized "java/lang/IndexOutOfBoundsException", Cond.fieldLink RX1 20 "LanternPrimes" "lampCount" "I", Cond.methodLink RX1 117 yX1_collideAt, Cond.instanceMethod yX1_collideAt, Cond.selects RX1 yX1_collideAt yX1_collideAt, Cond.code yX1_collideAt cX1_collideAt 4 (some .boolean), Cond.fieldLink RX1 11 "LanternPrimes" "row" "[LLanternPrimes$Lamp;", Cond.methodLink RX1 165 yX0_changesAt, Cond.instanceMethod yX0_changesAt, Cond.selects RX0 yX0_changesAt yX0_changesAt, Cond.initialized RX0]
def wsX1_momentsUntilCollision_r2 : List Cond := [Cond.code yX0_changesAt cX0_changesAt 2 (some .boolean), Cond.methodLink RX0 34 yX0_strikes, Cond.instanceMethod yX0_strikes, Cond.selects RX0 yX0_strikes yX0_strikes, Cond.code yX0_strikes cX0_strikes 4 (some .int), Cond.fieldLink RX0 18 "LanternPrimes$Lamp" "beatCount" "I", Cond.fieldLink RX0 9 "LanternPrimes$Lamp" "numbers" "[I", Cond.fieldLink RX0 15 "LanternPrimes$Lamp" "offsets" "[I", Cond.methodLink RX0 38 yX0_isOdd, Cond.static yX0_isOdd, Cond.code yX0_isOdd cX0_isOdd 1 (some .boolean)]
def wsX1_momentsUntilCollision : List Cond := .code yX1_momentsUntilCollision cX1_momentsUntilCollision 4 (some .int) :: ((wsX1_momentsUntilCollision_r1 ++ wsX1_momentsUntilCollision_r2) ++ wsX10 ++ wsX00 ++ (vx_atS RX1 152 "java/lang/IllegalArgumentException" ["java/lang/RuntimeException", "java/lang/Exception"]).filter goodWord ++ (vx_atS RX1 145 "java/lang/IndexOutOfBoundsException" ["java/lang/RuntimeException", "java/lang/Exception"]).filter goodWord)
def wsX1_collisionsWithin_r1 : List Cond := [Cond.fieldLink RX1 73 "LanternPrimes" "present" "I", Cond.methodLink RX1 114 yX1_needPair, Cond.instanceMethod yX1_needPair, Cond.selects RX1 yX1_needPair yX1_needPair, Cond.initialized RX1, Cond.code yX1_needPair cX1_needPair 3 none, Cond.classLink RX1 148 "java/lang/IllegalArgumentException", Cond.initialized "java/lang/IllegalArgumentException", Cond.methodLink RX1 35 yX1_needLamp, Cond.instanceMethod yX1_needLamp, Cond.selects RX1 yX1_needLamp yX1_needLamp, Cond.code yX1_needLamp cX1_needLamp 2 none, Cond.classLink RX1 141 "java/lang/IndexOutOfBoundsException", Cond.initialized "java/lang/IndexOutOfBoundsException", Cond.fieldLink RX1 20 "LanternPrimes" "lampCount" "I", Cond.methodLink RX1 70 yX1_needMoments, Cond.static yX1_needMoments, Cond.code yX1_needMoments cX1_needMoments 2 none, Cond.methodLink RX1 117 yX1_collideAt, Cond.instanceMethod yX1_collideAt, Cond.selects RX1 yX1_collideAt yX1_collideAt, Cond.code yX1_collideAt cX1_collideAt 4 (some .boolean), Cond.fieldLink RX1 11 "LanternPrimes" "row" "[LLanternPrimes$Lamp;", Cond.methodLink RX1 165 yX0_changesAt]
def wsX1_collisionsWithin_r2 : List Cond := [Cond.instanceMethod yX0_changesAt, Cond.selects RX0 yX0_changesAt yX0_changesAt, Cond.initialized RX0, Cond.code yX0_changesAt cX0_changesAt 2 (some .boolean), Cond.methodLink RX0 34 yX0_strikes, Cond.instanceMethod yX0_strikes, Cond.selects RX0 yX0_strikes yX0_strikes, Cond.code yX0_strikes cX0_strikes 4 (some .int), Cond.fieldLink RX0 18 "LanternPrimes$Lamp" "beatCount" "I", Cond.fieldLink RX0 9 "LanternPrimes$Lamp" "numbers" "[I", Cond.fieldLink RX0 15 "LanternPrimes$Lamp" "offsets" "[I", Cond.methodLink RX0 38 yX0_isOdd, Cond.static yX0_isOdd, Cond.code yX0_isOdd cX0_isOdd 1 (some .boolean)]
def wsX1_collisionsWithin : List Cond := .code yX1_collisionsWithin cX1_collisionsWithin 6 (some .int) :: ((wsX1_collisionsWithin_r1 ++ wsX1_collisionsWithin_r2) ++ wsX10 ++ wsX00 ++ (vx_atS RX1 152 "java/lang/IllegalArgumentException" ["java/lang/RuntimeException", "java/lang/Exception"]).filter goodWord ++ (vx_atS RX1 145 "java/lang/IndexOutOfBoundsException" ["java/lang/RuntimeException", "java/lang/Exception"]).filter goodWord)
def wsX1_momentsUntilToldApart_r1 : List Cond := [Cond.fieldLink RX1 16 "LanternPrimes" "difference" "LLanternPrimes$Lamp;", Cond.fieldLink RX1 11 "LanternPrimes" "row" "[LLanternPrimes$Lamp;", Cond.fieldLink RX1 73 "LanternPrimes" "present" "I", Cond.methodLink RX1 114 yX1_needPair, Cond.instanceMethod yX1_needPair, Cond.selects RX1 yX1_needPair yX1_needPair, Cond.initialized RX1, Cond.code yX1_needPair cX1_needPair 3 none, Cond.classLink RX1 148 "java/lang/IllegalArgumentException", Cond.initialized "java/lang/IllegalArgumentException", Cond.methodLink RX1 35 yX1_needLamp, Cond.instanceMethod yX1_needLamp, Cond.selects RX1 yX1_needLamp yX1_needLamp, Cond.code yX1_needLamp cX1_needLamp 2 none, Cond.classLink RX1 141 "java/lang/IndexOutOfBoundsException", Cond.initialized "java/lang/IndexOutOfBoundsException", Cond.fieldLink RX1 20 "LanternPrimes" "lampCount" "I", Cond.methodLink RX1 121 yX0_becomeDifference, Cond.instanceMethod yX0_becomeDifference, Cond.selects RX0 yX0_becomeDifference yX0_becomeDifference, Cond.initialized RX0, Cond.code yX0_becomeDifference cX0_becomeDifference 3 none, Cond.fieldLink RX0 22 "LanternPrimes$Lamp" "onAtStart" "Z", Cond.fieldLink RX0 18 "LanternPrimes$Lamp" "beatCount" "I"]
def wsX1_momentsUntilToldApart_r2 : List Cond := [Cond.methodLink RX0 26 yX0_appendBeatsOf, Cond.instanceMethod yX0_appendBeatsOf, Cond.selects RX0 yX0_appendBeatsOf yX0_appendBeatsOf, Cond.code yX0_appendBeatsOf cX0_appendBeatsOf 3 none, Cond.fieldLink RX0 9 "LanternPrimes$Lamp" "numbers" "[I", Cond.fieldLink RX0 15 "LanternPrimes$Lamp" "offsets" "[I", Cond.methodLink RX0 30 yX0_append, Cond.instanceMethod yX0_append, Cond.selects RX0 yX0_append yX0_append, Cond.code yX0_append cX0_append 3 none, Cond.methodLink RX1 83 yX0_onAt, Cond.instanceMethod yX0_onAt, Cond.selects RX0 yX0_onAt yX0_onAt, Cond.code yX0_onAt cX0_onAt 4 (some .boolean), Cond.methodLink RX0 48 yX0_strikesUpTo, Cond.static yX0_strikesUpTo, Cond.code yX0_strikesUpTo cX0_strikesUpTo 3 (some .int), Cond.methodLink RX0 38 yX0_isOdd, Cond.static yX0_isOdd, Cond.code yX0_isOdd cX0_isOdd 1 (some .boolean), Cond.methodLink RX1 111 yX0_untilChange, Cond.instanceMethod yX0_untilChange, Cond.selects RX0 yX0_untilChange yX0_untilChange, Cond.code yX0_untilChange cX0_untilChange 4 (some .int)]
def wsX1_momentsUntilToldApart_r3 : List Cond := [Cond.methodLink RX0 56 yX0_changeCycle, Cond.instanceMethod yX0_changeCycle, Cond.selects RX0 yX0_changeCycle yX0_changeCycle, Cond.code yX0_changeCycle cX0_changeCycle 8 (some .int), Cond.methodLink RX0 62 yX0_turningRemainders, Cond.instanceMethod yX0_turningRemainders, Cond.selects RX0 yX0_turningRemainders yX0_turningRemainders, Cond.code yX0_turningRemainders cX0_turningRemainders 4 (some .int), Cond.methodLink RX0 65 yX0_changesAt, Cond.instanceMethod yX0_changesAt, Cond.selects RX0 yX0_changesAt yX0_changesAt, Cond.code yX0_changesAt cX0_changesAt 2 (some .boolean), Cond.methodLink RX0 34 yX0_strikes, Cond.instanceMethod yX0_strikes, Cond.selects RX0 yX0_strikes yX0_strikes, Cond.code yX0_strikes cX0_strikes 4 (some .int)]
def wsX1_momentsUntilToldApart : List Cond := .code yX1_momentsUntilToldApart cX1_momentsUntilToldApart 3 (some .int) :: ((wsX1_momentsUntilToldApart_r1 ++ (wsX1_momentsUntilToldApart_r2 ++ wsX1_momentsUntilToldApart_r3)) ++ wsX10 ++ wsX00 ++ (vx_atS RX1 152 "java/lang/IllegalArgumentException" ["java/lang/RuntimeException", "java/lang/Exception"]).filter goodWord ++ (vx_atS RX1 145 "java/lang/IndexOutOfBoundsException" ["java/lang/RuntimeException", "java/lang/Exception"]).filter goodWord)
def wsX1_momentsUntilDark_r1 : List Cond := [Cond.fieldLink RX1 73 "LanternPrimes" "present" "I", Cond.methodLink RX1 93 yX1_darkAt, Cond.instanceMethod yX1_darkAt, Cond.selects RX1 yX1_darkAt yX1_darkAt, Cond.initialized RX1, Cond.code yX1_darkAt cX1_darkAt 4 (some .boolean), Cond.fieldLink RX1 20 "LanternPrimes" "lampCount" "I", Cond.fieldLink RX1 11 "LanternPrimes" "row" "[LLanternPrimes$Lamp;", Cond.methodLink RX1 87 yX0_litAt, Cond.instanceMethod yX0_litAt, Cond.selects RX0 yX0_litAt yX0_litAt, Cond.initialized RX0, Cond.code yX0_litAt cX0_litAt 2 (some .boolean), Cond.fieldLink RX0 42 "LanternPrimes$Lamp" "covered" "Z", Cond.methodLink RX0 45 yX0_onAt, Cond.instanceMethod yX0_onAt, Cond.selects RX0 yX0_onAt yX0_onAt, Cond.code yX0_onAt cX0_onAt 4 (some .boolean), Cond.fieldLink RX0 18 "LanternPrimes$Lamp" "beatCount" "I", Cond.fieldLink RX0 9 "LanternPrimes$Lamp" "numbers" "[I", Cond.fieldLink RX0 15 "LanternPrimes$Lamp" "offsets" "[I", Cond.fieldLink RX0 22 "LanternPrimes$Lamp" "onAtStart" "Z", Cond.methodLink RX0 48 yX0_strikesUpTo, Cond.static yX0_strikesUpTo]
def wsX1_momentsUntilDark_r2 : List Cond := [Cond.code yX0_strikesUpTo cX0_strikesUpTo 3 (some .int), Cond.methodLink RX0 38 yX0_isOdd, Cond.static yX0_isOdd, Cond.code yX0_isOdd cX0_isOdd 1 (some .boolean)]
def wsX1_momentsUntilDark : List Cond := .code yX1_momentsUntilDark cX1_momentsUntilDark 2 (some .int) :: ((wsX1_momentsUntilDark_r1 ++ wsX1_momentsUntilDark_r2) ++ wsX10 ++ wsX00)
def wsX1_darkMoments_r1 : List Cond := [Cond.fieldLink RX1 73 "LanternPrimes" "present" "I", Cond.methodLink RX1 93 yX1_darkAt, Cond.instanceMethod yX1_darkAt, Cond.selects RX1 yX1_darkAt yX1_darkAt, Cond.initialized RX1, Cond.code yX1_darkAt cX1_darkAt 4 (some .boolean), Cond.fieldLink RX1 20 "LanternPrimes" "lampCount" "I", Cond.fieldLink RX1 11 "LanternPrimes" "row" "[LLanternPrimes$Lamp;", Cond.methodLink RX1 87 yX0_litAt, Cond.instanceMethod yX0_litAt, Cond.selects RX0 yX0_litAt yX0_litAt, Cond.initialized RX0, Cond.code yX0_litAt cX0_litAt 2 (some .boolean), Cond.fieldLink RX0 42 "LanternPrimes$Lamp" "covered" "Z", Cond.methodLink RX0 45 yX0_onAt, Cond.instanceMethod yX0_onAt, Cond.selects RX0 yX0_onAt yX0_onAt, Cond.code yX0_onAt cX0_onAt 4 (some .boolean), Cond.fieldLink RX0 18 "LanternPrimes$Lamp" "beatCount" "I", Cond.fieldLink RX0 9 "LanternPrimes$Lamp" "numbers" "[I", Cond.fieldLink RX0 15 "LanternPrimes$Lamp" "offsets" "[I", Cond.fieldLink RX0 22 "LanternPrimes$Lamp" "onAtStart" "Z", Cond.methodLink RX0 48 yX0_strikesUpTo, Cond.static yX0_strikesUpTo]
def wsX1_darkMoments_r2 : List Cond := [Cond.code yX0_strikesUpTo cX0_strikesUpTo 3 (some .int), Cond.methodLink RX0 38 yX0_isOdd, Cond.static yX0_isOdd, Cond.code yX0_isOdd cX0_isOdd 1 (some .boolean)]
def wsX1_darkMoments : List Cond := .code yX1_darkMoments cX1_darkMoments 5 (some .int) :: ((wsX1_darkMoments_r1 ++ wsX1_darkMoments_r2) ++ wsX10 ++ wsX00)
def wsX1_darkWithin_r1 : List Cond := [Cond.methodLink RX1 70 yX1_needMoments, Cond.static yX1_needMoments, Cond.initialized RX1, Cond.code yX1_needMoments cX1_needMoments 2 none, Cond.classLink RX1 148 "java/lang/IllegalArgumentException", Cond.initialized "java/lang/IllegalArgumentException", Cond.methodLink RX1 125 yX1_darkMoments, Cond.instanceMethod yX1_darkMoments, Cond.selects RX1 yX1_darkMoments yX1_darkMoments, Cond.code yX1_darkMoments cX1_darkMoments 5 (some .int), Cond.fieldLink RX1 73 "LanternPrimes" "present" "I", Cond.methodLink RX1 93 yX1_darkAt, Cond.instanceMethod yX1_darkAt, Cond.selects RX1 yX1_darkAt yX1_darkAt, Cond.code yX1_darkAt cX1_darkAt 4 (some .boolean), Cond.fieldLink RX1 20 "LanternPrimes" "lampCount" "I", Cond.fieldLink RX1 11 "LanternPrimes" "row" "[LLanternPrimes$Lamp;", Cond.methodLink RX1 87 yX0_litAt, Cond.instanceMethod yX0_litAt, Cond.selects RX0 yX0_litAt yX0_litAt, Cond.initialized RX0, Cond.code yX0_litAt cX0_litAt 2 (some .boolean), Cond.fieldLink RX0 42 "LanternPrimes$Lamp" "covered" "Z", Cond.methodLink RX0 45 yX0_onAt]
def wsX1_darkWithin_r2 : List Cond := [Cond.instanceMethod yX0_onAt, Cond.selects RX0 yX0_onAt yX0_onAt, Cond.code yX0_onAt cX0_onAt 4 (some .boolean), Cond.fieldLink RX0 18 "LanternPrimes$Lamp" "beatCount" "I", Cond.fieldLink RX0 9 "LanternPrimes$Lamp" "numbers" "[I", Cond.fieldLink RX0 15 "LanternPrimes$Lamp" "offsets" "[I", Cond.fieldLink RX0 22 "LanternPrimes$Lamp" "onAtStart" "Z", Cond.methodLink RX0 48 yX0_strikesUpTo, Cond.static yX0_strikesUpTo, Cond.code yX0_strikesUpTo cX0_strikesUpTo 3 (some .int), Cond.methodLink RX0 38 yX0_isOdd, Cond.static yX0_isOdd, Cond.code yX0_isOdd cX0_isOdd 1 (some .boolean)]
def wsX1_darkWithin : List Cond := .code yX1_darkWithin cX1_darkWithin 2 (some .int) :: ((wsX1_darkWithin_r1 ++ wsX1_darkWithin_r2) ++ wsX10 ++ wsX00 ++ (vx_atS RX1 152 "java/lang/IllegalArgumentException" ["java/lang/RuntimeException", "java/lang/Exception"]).filter goodWord)
def wsX1_bestCover_r1 : List Cond := [Cond.fieldLink RX1 20 "LanternPrimes" "lampCount" "I", Cond.fieldLink RX1 11 "LanternPrimes" "row" "[LLanternPrimes$Lamp;", Cond.methodLink RX1 70 yX1_needMoments, Cond.static yX1_needMoments, Cond.initialized RX1, Cond.code yX1_needMoments cX1_needMoments 2 none, Cond.classLink RX1 148 "java/lang/IllegalArgumentException", Cond.initialized "java/lang/IllegalArgumentException", Cond.methodLink RX1 125 yX1_darkMoments, Cond.instanceMethod yX1_darkMoments, Cond.selects RX1 yX1_darkMoments yX1_darkMoments, Cond.code yX1_darkMoments cX1_darkMoments 5 (some .int), Cond.fieldLink RX1 73 "LanternPrimes" "present" "I", Cond.methodLink RX1 93 yX1_darkAt, Cond.instanceMethod yX1_darkAt, Cond.selects RX1 yX1_darkAt yX1_darkAt, Cond.code yX1_darkAt cX1_darkAt 4 (some .boolean), Cond.methodLink RX1 87 yX0_litAt, Cond.instanceMethod yX0_litAt, Cond.selects RX0 yX0_litAt yX0_litAt, Cond.initialized RX0, Cond.code yX0_litAt cX0_litAt 2 (some .boolean), Cond.fieldLink RX0 42 "LanternPrimes$Lamp" "covered" "Z", Cond.methodLink RX0 45 yX0_onAt]
def wsX1_bestCover_r2 : List Cond := [Cond.instanceMethod yX0_onAt, Cond.selects RX0 yX0_onAt yX0_onAt, Cond.code yX0_onAt cX0_onAt 4 (some .boolean), Cond.fieldLink RX0 18 "LanternPrimes$Lamp" "beatCount" "I", Cond.fieldLink RX0 9 "LanternPrimes$Lamp" "numbers" "[I", Cond.fieldLink RX0 15 "LanternPrimes$Lamp" "offsets" "[I", Cond.fieldLink RX0 22 "LanternPrimes$Lamp" "onAtStart" "Z", Cond.methodLink RX0 48 yX0_strikesUpTo, Cond.static yX0_strikesUpTo, Cond.code yX0_strikesUpTo cX0_strikesUpTo 3 (some .int), Cond.methodLink RX0 38 yX0_isOdd, Cond.static yX0_isOdd, Cond.code yX0_isOdd cX0_isOdd 1 (some .boolean)]
def wsX1_bestCover : List Cond := .code yX1_bestCover cX1_bestCover 6 (some .int) :: ((wsX1_bestCover_r1 ++ wsX1_bestCover_r2) ++ wsX10 ++ wsX00 ++ (vx_atS RX1 152 "java/lang/IllegalArgumentException" ["java/lang/RuntimeException", "java/lang/Exception"]).filter goodWord)
def wsX1_meanBeats : List Cond := .code yX1_meanBeats cX1_meanBeats 3 (some .double) :: ([.fieldLink RX1 20 "LanternPrimes" "lampCount" "I", .fieldLink RX1 11 "LanternPrimes" "row" "[LLanternPrimes$Lamp;"] ++ wsX10 ++ wsX00)
def wsX1_mixed : List Cond := .code yX1_mixed cX1_mixed 4 (some .long) :: ([.constantLong RX1 139 (31)])
def wsX1_mixedWithLamp_r1 : List Cond := [Cond.fieldLink RX1 73 "LanternPrimes" "present" "I", Cond.methodLink RX1 131 yX1_mixed, Cond.static yX1_mixed, Cond.initialized RX1, Cond.code yX1_mixed cX1_mixed 4 (some .long), Cond.constantLong RX1 139 (31), Cond.methodLink RX1 83 yX0_onAt, Cond.instanceMethod yX0_onAt, Cond.selects RX0 yX0_onAt yX0_onAt, Cond.initialized RX0, Cond.code yX0_onAt cX0_onAt 4 (some .boolean), Cond.fieldLink RX0 18 "LanternPrimes$Lamp" "beatCount" "I", Cond.fieldLink RX0 9 "LanternPrimes$Lamp" "numbers" "[I", Cond.fieldLink RX0 15 "LanternPrimes$Lamp" "offsets" "[I", Cond.fieldLink RX0 22 "LanternPrimes$Lamp" "onAtStart" "Z", Cond.methodLink RX0 48 yX0_strikesUpTo, Cond.static yX0_strikesUpTo, Cond.code yX0_strikesUpTo cX0_strikesUpTo 3 (some .int), Cond.methodLink RX0 38 yX0_isOdd, Cond.static yX0_isOdd, Cond.code yX0_isOdd cX0_isOdd 1 (some .boolean), Cond.methodLink RX1 103 yX0_neverChanges, Cond.instanceMethod yX0_neverChanges, Cond.selects RX0 yX0_neverChanges yX0_neverChanges]
def wsX1_mixedWithLamp_r2 : List Cond := [Cond.code yX0_neverChanges cX0_neverChanges 1 (some .boolean), Cond.methodLink RX0 52 yX0_cycle, Cond.instanceMethod yX0_cycle, Cond.selects RX0 yX0_cycle yX0_cycle, Cond.code yX0_cycle cX0_cycle 3 (some .int), Cond.methodLink RX0 56 yX0_changeCycle, Cond.instanceMethod yX0_changeCycle, Cond.selects RX0 yX0_changeCycle yX0_changeCycle, Cond.code yX0_changeCycle cX0_changeCycle 8 (some .int), Cond.methodLink RX0 62 yX0_turningRemainders, Cond.instanceMethod yX0_turningRemainders, Cond.selects RX0 yX0_turningRemainders yX0_turningRemainders, Cond.code yX0_turningRemainders cX0_turningRemainders 4 (some .int), Cond.methodLink RX0 45 yX0_onAt, Cond.methodLink RX1 107 yX0_cycle, Cond.methodLink RX1 111 yX0_untilChange, Cond.instanceMethod yX0_untilChange, Cond.selects RX0 yX0_untilChange yX0_untilChange, Cond.code yX0_untilChange cX0_untilChange 4 (some .int), Cond.methodLink RX0 65 yX0_changesAt, Cond.instanceMethod yX0_changesAt, Cond.selects RX0 yX0_changesAt yX0_changesAt, Cond.code yX0_changesAt cX0_changesAt 2 (some .boolean), Cond.methodLink RX0 34 yX0_strikes]
def wsX1_mixedWithLamp_r3 : List Cond := [Cond.instanceMethod yX0_strikes, Cond.selects RX0 yX0_strikes yX0_strikes, Cond.code yX0_strikes cX0_strikes 4 (some .int)]
def wsX1_mixedWithLamp : List Cond := .code yX1_mixedWithLamp cX1_mixedWithLamp 7 (some .long) :: ((wsX1_mixedWithLamp_r1 ++ (wsX1_mixedWithLamp_r2 ++ wsX1_mixedWithLamp_r3)) ++ wsX00 ++ wsX10)
def wsX1_digest_r1 : List Cond := [Cond.constantLong RX1 129 (1889), Cond.fieldLink RX1 20 "LanternPrimes" "lampCount" "I", Cond.fieldLink RX1 73 "LanternPrimes" "present" "I", Cond.fieldLink RX1 80 "LanternPrimes" "changesTold" "I", Cond.fieldLink RX1 11 "LanternPrimes" "row" "[LLanternPrimes$Lamp;", Cond.methodLink RX1 131 yX1_mixed, Cond.static yX1_mixed, Cond.initialized RX1, Cond.code yX1_mixed cX1_mixed 4 (some .long), Cond.constantLong RX1 139 (31), Cond.methodLink RX1 90 yX1_litCount, Cond.instanceMethod yX1_litCount, Cond.selects RX1 yX1_litCount yX1_litCount, Cond.code yX1_litCount cX1_litCount 4 (some .int), Cond.methodLink RX1 87 yX0_litAt, Cond.instanceMethod yX0_litAt, Cond.selects RX0 yX0_litAt yX0_litAt, Cond.initialized RX0, Cond.code yX0_litAt cX0_litAt 2 (some .boolean), Cond.fieldLink RX0 42 "LanternPrimes$Lamp" "covered" "Z", Cond.methodLink RX0 45 yX0_onAt, Cond.instanceMethod yX0_onAt, Cond.selects RX0 yX0_onAt yX0_onAt, Cond.code yX0_onAt cX0_onAt 4 (some .boolean)]
def wsX1_digest_r2 : List Cond := [Cond.fieldLink RX0 18 "LanternPrimes$Lamp" "beatCount" "I", Cond.fieldLink RX0 9 "LanternPrimes$Lamp" "numbers" "[I", Cond.fieldLink RX0 15 "LanternPrimes$Lamp" "offsets" "[I", Cond.fieldLink RX0 22 "LanternPrimes$Lamp" "onAtStart" "Z", Cond.methodLink RX0 48 yX0_strikesUpTo, Cond.static yX0_strikesUpTo, Cond.code yX0_strikesUpTo cX0_strikesUpTo 3 (some .int), Cond.methodLink RX0 38 yX0_isOdd, Cond.static yX0_isOdd, Cond.code yX0_isOdd cX0_isOdd 1 (some .boolean), Cond.methodLink RX1 135 yX1_mixedWithLamp, Cond.instanceMethod yX1_mixedWithLamp, Cond.selects RX1 yX1_mixedWithLamp yX1_mixedWithLamp, Cond.code yX1_mixedWithLamp cX1_mixedWithLamp 7 (some .long), Cond.methodLink RX1 83 yX0_onAt, Cond.methodLink RX1 103 yX0_neverChanges, Cond.instanceMethod yX0_neverChanges, Cond.selects RX0 yX0_neverChanges yX0_neverChanges, Cond.code yX0_neverChanges cX0_neverChanges 1 (some .boolean), Cond.methodLink RX0 52 yX0_cycle, Cond.instanceMethod yX0_cycle, Cond.selects RX0 yX0_cycle yX0_cycle, Cond.code yX0_cycle cX0_cycle 3 (some .int), Cond.methodLink RX0 56 yX0_changeCycle]
def wsX1_digest_r3 : List Cond := [Cond.instanceMethod yX0_changeCycle, Cond.selects RX0 yX0_changeCycle yX0_changeCycle, Cond.code yX0_changeCycle cX0_changeCycle 8 (some .int), Cond.methodLink RX0 62 yX0_turningRemainders, Cond.instanceMethod yX0_turningRemainders, Cond.selects RX0 yX0_turningRemainders yX0_turningRemainders, Cond.code yX0_turningRemainders cX0_turningRemainders 4 (some .int), Cond.methodLink RX1 107 yX0_cycle, Cond.methodLink RX1 111 yX0_untilChange, Cond.instanceMethod yX0_untilChange, Cond.selects RX0 yX0_untilChange yX0_untilChange, Cond.code yX0_untilChange cX0_untilChange 4 (some .int), Cond.methodLink RX0 65 yX0_changesAt, Cond.instanceMethod yX0_changesAt, Cond.selects RX0 yX0_changesAt yX0_changesAt, Cond.code yX0_changesAt cX0_changesAt 2 (some .boolean), Cond.methodLink RX0 34 yX0_strikes, Cond.instanceMethod yX0_strikes, Cond.selects RX0 yX0_strikes yX0_strikes, Cond.code yX0_strikes cX0_strikes 4 (some .int)]
def wsX1_digest : List Cond := .code yX1_digest cX1_digest 4 (some .long) :: ((wsX1_digest_r1 ++ (wsX1_digest_r2 ++ wsX1_digest_r3)) ++ wsX10 ++ wsX00)
def wsX2_init : List Cond := .code yX2_init cX2_init 1 none :: ([.methodLink RX2 1 objectInit, .instanceMethod objectInit, .code objectInit ⟨#[0xb1]⟩ 1 none, .arrayClass .boolean, .fieldLink RX2 7 "LanternPrimesLaw$Sim" "begins" "[Z", .fieldLink RX2 13 "LanternPrimesLaw$Sim" "covered" "[Z", .fieldLink RX2 18 "LanternPrimesLaw$Sim" "beats" "[[[I"] ++ wsX20)
def wsX2_addBeat : List Cond := .code yX2_addBeat cX2_addBeat 6 none :: ([.fieldLink RX2 18 "LanternPrimesLaw$Sim" "beats" "[[[I", .classLink RX2 21 "[I", .arrayClass .int] ++ wsX20)
def wsX2_takeBeat : List Cond := .code yX2_takeBeat cX2_takeBeat 5 none :: ([.fieldLink RX2 18 "LanternPrimesLaw$Sim" "beats" "[[[I", .classLink RX2 21 "[I"] ++ wsX20)
def wsX2_strikes : List Cond := .code yX2_strikes cX2_strikes 8 (some .int) :: ([.fieldLink RX2 18 "LanternPrimesLaw$Sim" "beats" "[[[I"] ++ wsX20)
def wsX2_changes : List Cond := .code yX2_changes cX2_changes 3 (some .boolean) :: ([.methodLink RX2 23 yX2_strikes, .instanceMethod yX2_strikes, .selects RX2 yX2_strikes yX2_strikes, .initialized RX2, .code yX2_strikes cX2_strikes 8 (some .int), .fieldLink RX2 18 "LanternPrimesLaw$Sim" "beats" "[[[I"] ++ wsX20)
def wsX2_row : List Cond := .code yX2_row cX2_row 6 (some (.array .boolean)) :: ([.arrayClass .boolean, .fieldLink RX2 7 "LanternPrimesLaw$Sim" "begins" "[Z", .methodLink RX2 27 yX2_changes, .instanceMethod yX2_changes, .selects RX2 yX2_changes yX2_changes, .initialized RX2, .code yX2_changes cX2_changes 3 (some .boolean), .methodLink RX2 23 yX2_strikes, .instanceMethod yX2_strikes, .selects RX2 yX2_strikes yX2_strikes, .code yX2_strikes cX2_strikes 8 (some .int), .fieldLink RX2 18 "LanternPrimesLaw$Sim" "beats" "[[[I"] ++ wsX20)
def wsX2_pass : List Cond := .code yX2_pass cX2_pass 5 (some .int) :: ([.fieldLink RX2 49 "LanternPrimesLaw$Sim" "seen" "I", .fieldLink RX2 35 "LanternPrimesLaw$Sim" "now" "I", .fieldLink RX2 31 "LanternPrimesLaw$Sim" "lamps" "I", .methodLink RX2 27 yX2_changes, .instanceMethod yX2_changes, .selects RX2 yX2_changes yX2_changes, .initialized RX2, .code yX2_changes cX2_changes 3 (some .boolean), .methodLink RX2 23 yX2_strikes, .instanceMethod yX2_strikes, .selects RX2 yX2_strikes yX2_strikes, .code yX2_strikes cX2_strikes 8 (some .int), .fieldLink RX2 18 "LanternPrimesLaw$Sim" "beats" "[[[I"] ++ wsX20)
def wsX2_isSame_r1 : List Cond := [Cond.fieldLink RX2 31 "LanternPrimesLaw$Sim" "lamps" "I", Cond.fieldLink RX2 35 "LanternPrimesLaw$Sim" "now" "I", Cond.fieldLink RX2 13 "LanternPrimesLaw$Sim" "covered" "[Z", Cond.fieldLink RX2 18 "LanternPrimesLaw$Sim" "beats" "[[[I", Cond.fieldLink RX2 49 "LanternPrimesLaw$Sim" "seen" "I", Cond.methodLink RX2 38 yX2_row, Cond.instanceMethod yX2_row, Cond.selects RX2 yX2_row yX2_row, Cond.initialized RX2, Cond.code yX2_row cX2_row 6 (some (.array .boolean)), Cond.arrayClass .boolean, Cond.fieldLink RX2 7 "LanternPrimesLaw$Sim" "begins" "[Z", Cond.methodLink RX2 27 yX2_changes, Cond.instanceMethod yX2_changes, Cond.selects RX2 yX2_changes yX2_changes, Cond.code yX2_changes cX2_changes 3 (some .boolean), Cond.methodLink RX2 23 yX2_strikes, Cond.instanceMethod yX2_strikes, Cond.selects RX2 yX2_strikes yX2_strikes, Cond.code yX2_strikes cX2_strikes 8 (some .int), Cond.methodLink RX2 52 yX1_beatsOf, Cond.instanceMethod yX1_beatsOf, Cond.selects RX1 yX1_beatsOf yX1_beatsOf, Cond.initialized RX1]
def wsX2_isSame_r2 : List Cond := [Cond.code yX1_beatsOf cX1_beatsOf 2 (some .int), Cond.fieldLink RX1 11 "LanternPrimes" "row" "[LLanternPrimes$Lamp;", Cond.methodLink RX1 35 yX1_needLamp, Cond.instanceMethod yX1_needLamp, Cond.selects RX1 yX1_needLamp yX1_needLamp, Cond.code yX1_needLamp cX1_needLamp 2 none, Cond.classLink RX1 141 "java/lang/IndexOutOfBoundsException", Cond.initialized "java/lang/IndexOutOfBoundsException", Cond.fieldLink RX1 20 "LanternPrimes" "lampCount" "I", Cond.methodLink RX2 57 yX1_isCovered, Cond.instanceMethod yX1_isCovered, Cond.selects RX1 yX1_isCovered yX1_isCovered, Cond.code yX1_isCovered cX1_isCovered 2 (some .boolean), Cond.methodLink RX2 61 yX1_isOn, Cond.instanceMethod yX1_isOn, Cond.selects RX1 yX1_isOn yX1_isOn, Cond.code yX1_isOn cX1_isOn 2 (some .boolean), Cond.fieldLink RX1 73 "LanternPrimes" "present" "I", Cond.methodLink RX1 83 yX0_onAt, Cond.instanceMethod yX0_onAt, Cond.selects RX0 yX0_onAt yX0_onAt, Cond.initialized RX0, Cond.code yX0_onAt cX0_onAt 4 (some .boolean), Cond.fieldLink RX0 18 "LanternPrimes$Lamp" "beatCount" "I"]
def wsX2_isSame_r3 : List Cond := [Cond.fieldLink RX0 9 "LanternPrimes$Lamp" "numbers" "[I", Cond.fieldLink RX0 15 "LanternPrimes$Lamp" "offsets" "[I", Cond.fieldLink RX0 22 "LanternPrimes$Lamp" "onAtStart" "Z", Cond.methodLink RX0 48 yX0_strikesUpTo, Cond.static yX0_strikesUpTo, Cond.code yX0_strikesUpTo cX0_strikesUpTo 3 (some .int), Cond.methodLink RX0 38 yX0_isOdd, Cond.static yX0_isOdd, Cond.code yX0_isOdd cX0_isOdd 1 (some .boolean), Cond.methodLink RX2 64 yX1_isLit, Cond.instanceMethod yX1_isLit, Cond.selects RX1 yX1_isLit yX1_isLit, Cond.code yX1_isLit cX1_isLit 2 (some .boolean), Cond.methodLink RX1 87 yX0_litAt, Cond.instanceMethod yX0_litAt, Cond.selects RX0 yX0_litAt yX0_litAt, Cond.code yX0_litAt cX0_litAt 2 (some .boolean), Cond.fieldLink RX0 42 "LanternPrimes$Lamp" "covered" "Z", Cond.methodLink RX0 45 yX0_onAt, Cond.methodLink RX2 67 yX1_isOnAt, Cond.instanceMethod yX1_isOnAt, Cond.selects RX1 yX1_isOnAt yX1_isOnAt, Cond.code yX1_isOnAt cX1_isOnAt 3 (some .boolean), Cond.methodLink RX1 97 yX1_needMoment]
def wsX2_isSame_r4 : List Cond := [Cond.static yX1_needMoment, Cond.code yX1_needMoment cX1_needMoment 1 none, Cond.classLink RX1 148 "java/lang/IllegalArgumentException", Cond.initialized "java/lang/IllegalArgumentException", Cond.constant RX1 160 (60000), Cond.methodLink RX2 70 yX1_strikesAt, Cond.instanceMethod yX1_strikesAt, Cond.selects RX1 yX1_strikesAt yX1_strikesAt, Cond.code yX1_strikesAt cX1_strikesAt 3 (some .int), Cond.methodLink RX1 100 yX0_strikes, Cond.instanceMethod yX0_strikes, Cond.selects RX0 yX0_strikes yX0_strikes, Cond.code yX0_strikes cX0_strikes 4 (some .int), Cond.methodLink RX2 73 yX1_numberOf, Cond.instanceMethod yX1_numberOf, Cond.selects RX1 yX1_numberOf yX1_numberOf, Cond.code yX1_numberOf cX1_numberOf 3 (some .int), Cond.methodLink RX1 54 yX1_needBeat, Cond.instanceMethod yX1_needBeat, Cond.selects RX1 yX1_needBeat yX1_needBeat, Cond.code yX1_needBeat cX1_needBeat 3 none, Cond.methodLink RX2 76 yX1_offsetOf, Cond.instanceMethod yX1_offsetOf, Cond.selects RX1 yX1_offsetOf yX1_offsetOf]
def wsX2_isSame_r5 : List Cond := [Cond.code yX1_offsetOf cX1_offsetOf 3 (some .int), Cond.methodLink RX2 79 yX1_lamps, Cond.instanceMethod yX1_lamps, Cond.selects RX1 yX1_lamps yX1_lamps, Cond.code yX1_lamps cX1_lamps 1 (some .int), Cond.methodLink RX2 82 yX1_now, Cond.instanceMethod yX1_now, Cond.selects RX1 yX1_now yX1_now, Cond.code yX1_now cX1_now 1 (some .int), Cond.methodLink RX2 84 yX1_changesSeen, Cond.instanceMethod yX1_changesSeen, Cond.selects RX1 yX1_changesSeen yX1_changesSeen, Cond.code yX1_changesSeen cX1_changesSeen 1 (some .int), Cond.fieldLink RX1 80 "LanternPrimes" "changesTold" "I", Cond.methodLink RX2 87 yX1_litLamps, Cond.instanceMethod yX1_litLamps, Cond.selects RX1 yX1_litLamps yX1_litLamps, Cond.code yX1_litLamps cX1_litLamps 1 (some .int), Cond.methodLink RX1 90 yX1_litCount, Cond.instanceMethod yX1_litCount, Cond.selects RX1 yX1_litCount yX1_litCount, Cond.code yX1_litCount cX1_litCount 4 (some .int), Cond.methodLink RX2 90 yX1_isDark, Cond.instanceMethod yX1_isDark]
def wsX2_isSame_r6 : List Cond := [Cond.selects RX1 yX1_isDark yX1_isDark, Cond.code yX1_isDark cX1_isDark 1 (some .boolean), Cond.methodLink RX1 93 yX1_darkAt, Cond.instanceMethod yX1_darkAt, Cond.selects RX1 yX1_darkAt yX1_darkAt, Cond.code yX1_darkAt cX1_darkAt 4 (some .boolean), Cond.methodLink RX2 94 yX1_meanBeats, Cond.instanceMethod yX1_meanBeats, Cond.selects RX1 yX1_meanBeats yX1_meanBeats, Cond.code yX1_meanBeats cX1_meanBeats 3 (some .double)]
def wsX2_isSame : List Cond := .code yX2_isSame cX2_isSame 7 (some .boolean) :: ((wsX2_isSame_r1 ++ (wsX2_isSame_r2 ++ (wsX2_isSame_r3 ++ (wsX2_isSame_r4 ++ (wsX2_isSame_r5 ++ wsX2_isSame_r6))))) ++ wsX20 ++ wsX10 ++ wsX00 ++ (vx_atS RX1 145 "java/lang/IndexOutOfBoundsException" ["java/lang/RuntimeException", "java/lang/Exception"]).filter goodWord ++ (vx_atS RX1 152 "java/lang/IllegalArgumentException" ["java/lang/RuntimeException", "java/lang/Exception"]).filter goodWord)
def wsL_below : List Cond := .code yL_below cL_below 2 (some .int) :: ([.constant RL 7 (2147483647)])
def wsL_cell : List Cond := .code yL_cell cL_cell 2 (some .int) :: ([.constant RL 8 (790386105)])
def wsL_act_r1 : List Cond := [Cond.classLink RL 46 "java/lang/IllegalStateException", Cond.fieldLink RL 9 "LanternPrimesLaw$Sim" "lamps" "I", Cond.fieldLink RL 21 "LanternPrimesLaw$Sim" "begins" "[Z", Cond.fieldLink RL 31 "LanternPrimesLaw$Sim" "beats" "[[[I", Cond.fieldLink RL 35 "LanternPrimesLaw$Sim" "NUMBERS" "[I", Cond.fieldLink RL 57 "LanternPrimesLaw$Sim" "covered" "[Z", Cond.methodLink RL 15 yL_below, Cond.static yL_below, Cond.initialized RL, Cond.code yL_below cL_below 2 (some .int), Cond.constant RL 7 (2147483647), Cond.methodLink RL 25 yX1_addLamp, Cond.instanceMethod yX1_addLamp, Cond.selects RX1 yX1_addLamp yX1_addLamp, Cond.initialized RX1, Cond.code yX1_addLamp cX1_addLamp 2 (some .int), Cond.classLink RX1 24 "java/lang/IllegalStateException", Cond.initialized "java/lang/IllegalStateException", Cond.fieldLink RX1 20 "LanternPrimes" "lampCount" "I", Cond.fieldLink RX1 11 "LanternPrimes" "row" "[LLanternPrimes$Lamp;", Cond.methodLink RL 39 yX2_addBeat, Cond.instanceMethod yX2_addBeat, Cond.selects RX2 yX2_addBeat yX2_addBeat, Cond.initialized RX2]
def wsL_act_r2 : List Cond := [Cond.code yX2_addBeat cX2_addBeat 6 none, Cond.fieldLink RX2 18 "LanternPrimesLaw$Sim" "beats" "[[[I", Cond.classLink RX2 21 "[I", Cond.arrayClass .int, Cond.methodLink RL 43 yX1_addBeat, Cond.instanceMethod yX1_addBeat, Cond.selects RX1 yX1_addBeat yX1_addBeat, Cond.code yX1_addBeat cX1_addBeat 5 (some .int), Cond.methodLink RX1 35 yX1_needLamp, Cond.instanceMethod yX1_needLamp, Cond.selects RX1 yX1_needLamp yX1_needLamp, Cond.code yX1_needLamp cX1_needLamp 2 none, Cond.classLink RX1 141 "java/lang/IndexOutOfBoundsException", Cond.initialized "java/lang/IndexOutOfBoundsException", Cond.methodLink RX1 39 yX1_needNumber, Cond.static yX1_needNumber, Cond.code yX1_needNumber cX1_needNumber 5 none, Cond.classLink RX1 148 "java/lang/IllegalArgumentException", Cond.initialized "java/lang/IllegalArgumentException", Cond.fieldLink RX1 153 "LanternPrimes" "NUMBERS" "[I", Cond.methodLink RX1 42 yX1_needOffset, Cond.static yX1_needOffset, Cond.code yX1_needOffset cX1_needOffset 2 none, Cond.methodLink RX1 51 yX0_append]
def wsL_act_r3 : List Cond := [Cond.instanceMethod yX0_append, Cond.selects RX0 yX0_append yX0_append, Cond.initialized RX0, Cond.code yX0_append cX0_append 3 none, Cond.fieldLink RX0 18 "LanternPrimes$Lamp" "beatCount" "I", Cond.fieldLink RX0 9 "LanternPrimes$Lamp" "numbers" "[I", Cond.fieldLink RX0 15 "LanternPrimes$Lamp" "offsets" "[I", Cond.methodLink RL 48 yX1_moveBeat, Cond.instanceMethod yX1_moveBeat, Cond.selects RX1 yX1_moveBeat yX1_moveBeat, Cond.code yX1_moveBeat cX1_moveBeat 6 (some .int), Cond.methodLink RX1 54 yX1_needBeat, Cond.instanceMethod yX1_needBeat, Cond.selects RX1 yX1_needBeat yX1_needBeat, Cond.code yX1_needBeat cX1_needBeat 3 none, Cond.methodLink RL 51 yX2_takeBeat, Cond.instanceMethod yX2_takeBeat, Cond.selects RX2 yX2_takeBeat yX2_takeBeat, Cond.code yX2_takeBeat cX2_takeBeat 5 none, Cond.methodLink RL 55 yX1_takeBeat, Cond.instanceMethod yX1_takeBeat, Cond.selects RX1 yX1_takeBeat yX1_takeBeat, Cond.code yX1_takeBeat cX1_takeBeat 4 (some .int), Cond.methodLink RX1 64 yX0_remove]
def wsL_act_r4 : List Cond := [Cond.instanceMethod yX0_remove, Cond.selects RX0 yX0_remove yX0_remove, Cond.code yX0_remove cX0_remove 3 none, Cond.methodLink RL 60 yX1_turnShutter, Cond.instanceMethod yX1_turnShutter, Cond.selects RX1 yX1_turnShutter yX1_turnShutter, Cond.code yX1_turnShutter cX1_turnShutter 3 (some .boolean), Cond.methodLink RL 64 yX1_pass, Cond.instanceMethod yX1_pass, Cond.selects RX1 yX1_pass yX1_pass, Cond.code yX1_pass cX1_pass 4 (some .int), Cond.fieldLink RX1 73 "LanternPrimes" "present" "I", Cond.fieldLink RX1 80 "LanternPrimes" "changesTold" "I", Cond.methodLink RX1 70 yX1_needMoments, Cond.static yX1_needMoments, Cond.code yX1_needMoments cX1_needMoments 2 none, Cond.methodLink RX1 76 yX1_changesOfLamps, Cond.instanceMethod yX1_changesOfLamps, Cond.selects RX1 yX1_changesOfLamps yX1_changesOfLamps, Cond.code yX1_changesOfLamps cX1_changesOfLamps 4 (some .int), Cond.methodLink RX1 165 yX0_changesAt, Cond.instanceMethod yX0_changesAt, Cond.selects RX0 yX0_changesAt yX0_changesAt, Cond.code yX0_changesAt cX0_changesAt 2 (some .boolean)]
def wsL_act_r5 : List Cond := [Cond.methodLink RX0 34 yX0_strikes, Cond.instanceMethod yX0_strikes, Cond.selects RX0 yX0_strikes yX0_strikes, Cond.code yX0_strikes cX0_strikes 4 (some .int), Cond.methodLink RX0 38 yX0_isOdd, Cond.static yX0_isOdd, Cond.code yX0_isOdd cX0_isOdd 1 (some .boolean), Cond.methodLink RL 68 yX2_pass, Cond.instanceMethod yX2_pass, Cond.selects RX2 yX2_pass yX2_pass, Cond.code yX2_pass cX2_pass 5 (some .int), Cond.fieldLink RX2 49 "LanternPrimesLaw$Sim" "seen" "I", Cond.fieldLink RX2 35 "LanternPrimesLaw$Sim" "now" "I", Cond.fieldLink RX2 31 "LanternPrimesLaw$Sim" "lamps" "I", Cond.methodLink RX2 27 yX2_changes, Cond.instanceMethod yX2_changes, Cond.selects RX2 yX2_changes yX2_changes, Cond.code yX2_changes cX2_changes 3 (some .boolean), Cond.methodLink RX2 23 yX2_strikes, Cond.instanceMethod yX2_strikes, Cond.selects RX2 yX2_strikes yX2_strikes, Cond.code yX2_strikes cX2_strikes 8 (some .int)]
def wsL_act : List Cond := .codeWith yL_act cL_act 9 (some .boolean) [(201, 225, 226, 46)] :: ((wsL_act_r1 ++ (wsL_act_r2 ++ (wsL_act_r3 ++ (wsL_act_r4 ++ wsL_act_r5)))) ++ wsX20 ++ wsX10 ++ wsX00 ++ (vx_atS RX1 28 "java/lang/IllegalStateException" ["java/lang/RuntimeException", "java/lang/Exception"]).filter goodWord ++ (vx_atS RX1 145 "java/lang/IndexOutOfBoundsException" ["java/lang/RuntimeException", "java/lang/Exception"]).filter goodWord ++ (vx_atS RX1 152 "java/lang/IllegalArgumentException" ["java/lang/RuntimeException", "java/lang/Exception"]).filter goodWord)
def wsL_build_r1 : List Cond := [Cond.classLink RL 10 RX2, Cond.instantiable RX2 6, Cond.initialized RX2, Cond.fieldLink RL 21 "LanternPrimesLaw$Sim" "begins" "[Z", Cond.fieldLink RL 9 "LanternPrimesLaw$Sim" "lamps" "I", Cond.fieldLink RL 35 "LanternPrimesLaw$Sim" "NUMBERS" "[I", Cond.fieldLink RL 57 "LanternPrimesLaw$Sim" "covered" "[Z", Cond.instanceMethod yX2_init, Cond.code yX2_init cX2_init 1 none, Cond.methodLink RX2 1 objectInit, Cond.instanceMethod objectInit, Cond.code objectInit ⟨#[0xb1]⟩ 1 none, Cond.arrayClass .boolean, Cond.fieldLink RX2 7 "LanternPrimesLaw$Sim" "begins" "[Z", Cond.fieldLink RX2 13 "LanternPrimesLaw$Sim" "covered" "[Z", Cond.fieldLink RX2 18 "LanternPrimesLaw$Sim" "beats" "[[[I", Cond.methodLink RL 70 yL_cell, Cond.static yL_cell, Cond.initialized RL, Cond.code yL_cell cL_cell 2 (some .int), Cond.constant RL 8 (790386105), Cond.methodLink RL 15 yL_below, Cond.static yL_below, Cond.code yL_below cL_below 2 (some .int)]
def wsL_build_r2 : List Cond := [Cond.constant RL 7 (2147483647), Cond.methodLink RL 25 yX1_addLamp, Cond.instanceMethod yX1_addLamp, Cond.selects RX1 yX1_addLamp yX1_addLamp, Cond.initialized RX1, Cond.code yX1_addLamp cX1_addLamp 2 (some .int), Cond.classLink RX1 24 "java/lang/IllegalStateException", Cond.initialized "java/lang/IllegalStateException", Cond.fieldLink RX1 20 "LanternPrimes" "lampCount" "I", Cond.fieldLink RX1 11 "LanternPrimes" "row" "[LLanternPrimes$Lamp;", Cond.methodLink RL 39 yX2_addBeat, Cond.instanceMethod yX2_addBeat, Cond.selects RX2 yX2_addBeat yX2_addBeat, Cond.code yX2_addBeat cX2_addBeat 6 none, Cond.classLink RX2 21 "[I", Cond.arrayClass .int, Cond.methodLink RL 43 yX1_addBeat, Cond.instanceMethod yX1_addBeat, Cond.selects RX1 yX1_addBeat yX1_addBeat, Cond.code yX1_addBeat cX1_addBeat 5 (some .int), Cond.methodLink RX1 35 yX1_needLamp, Cond.instanceMethod yX1_needLamp, Cond.selects RX1 yX1_needLamp yX1_needLamp, Cond.code yX1_needLamp cX1_needLamp 2 none]
def wsL_build_r3 : List Cond := [Cond.classLink RX1 141 "java/lang/IndexOutOfBoundsException", Cond.initialized "java/lang/IndexOutOfBoundsException", Cond.methodLink RX1 39 yX1_needNumber, Cond.static yX1_needNumber, Cond.code yX1_needNumber cX1_needNumber 5 none, Cond.classLink RX1 148 "java/lang/IllegalArgumentException", Cond.initialized "java/lang/IllegalArgumentException", Cond.fieldLink RX1 153 "LanternPrimes" "NUMBERS" "[I", Cond.methodLink RX1 42 yX1_needOffset, Cond.static yX1_needOffset, Cond.code yX1_needOffset cX1_needOffset 2 none, Cond.methodLink RX1 51 yX0_append, Cond.instanceMethod yX0_append, Cond.selects RX0 yX0_append yX0_append, Cond.initialized RX0, Cond.code yX0_append cX0_append 3 none, Cond.fieldLink RX0 18 "LanternPrimes$Lamp" "beatCount" "I", Cond.fieldLink RX0 9 "LanternPrimes$Lamp" "numbers" "[I", Cond.fieldLink RX0 15 "LanternPrimes$Lamp" "offsets" "[I", Cond.methodLink RL 60 yX1_turnShutter, Cond.instanceMethod yX1_turnShutter, Cond.selects RX1 yX1_turnShutter yX1_turnShutter, Cond.code yX1_turnShutter cX1_turnShutter 3 (some .boolean)]
def wsL_build : List Cond := .code yL_build cL_build 11 (some (.object "LanternPrimesLaw$Sim")) :: ((wsL_build_r1 ++ (wsL_build_r2 ++ wsL_build_r3)) ++ wsX20 ++ wsX10 ++ wsX00 ++ (vx_atS RX1 28 "java/lang/IllegalStateException" ["java/lang/RuntimeException", "java/lang/Exception"]).filter goodWord ++ (vx_atS RX1 145 "java/lang/IndexOutOfBoundsException" ["java/lang/RuntimeException", "java/lang/Exception"]).filter goodWord ++ (vx_atS RX1 152 "java/lang/IllegalArgumentException" ["java/lang/RuntimeException", "java/lang/Exception"]).filter goodWord)
abbrev vwCl : List vw_C := [(RX0, TX0, 5), (RX1, TX1, 5), (RX2, TX2, 6)]
end
section
theorem dX0_init_0 : decode cX0_init 0 = .ok (.aload_n 0, 1) := by decide +kernel
theorem dX0_init_1 : decode cX0_init 1 = .ok (.invokespecial 3, 3) := by decide +kernel
theorem dX0_init_4 : decode cX0_init 4 = .ok (.aload_n 0, 1) := by decide +kernel
theorem dX0_init_5 : decode cX0_init 5 = .ok (.bipush 8, 2) := by decide +kernel
theorem dX0_init_7 : decode cX0_init 7 = .ok (.newarray .int, 2) := by decide +kernel
theorem dX0_init_9 : decode cX0_init 9 = .ok (.putfield 9, 3) := by decide +kernel
theorem dX0_init_12 : decode cX0_init 12 = .ok (.aload_n 0, 1) := by decide +kernel
theorem dX0_init_13 : decode cX0_init 13 = .ok (.bipush 8, 2) := by decide +kernel
theorem dX0_init_15 : decode cX0_init 15 = .ok (.newarray .int, 2) := by decide +kernel
theorem dX0_init_17 : decode cX0_init 17 = .ok (.putfield 15, 3) := by decide +kernel
theorem dX0_init_20 : decode cX0_init 20 = .ok (.return_, 1) := by decide +kernel
theorem dX0_append_0 : decode cX0_append 0 = .ok (.aload_n 0, 1) := by decide +kernel
theorem dX0_append_1 : decode cX0_append 1 = .ok (.getfield 18, 3) := by decide +kernel
theorem dX0_append_4 : decode cX0_append 4 = .ok (.bipush 8, 2) := by decide +kernel
theorem dX0_append_6 : decode cX0_append 6 = .ok (.if_icmp .ge 33, 3) := by decide +kernel
theorem dX0_append_9 : decode cX0_append 9 = .ok (.aload_n 0, 1) := by decide +kernel
theorem dX0_append_10 : decode cX0_append 10 = .ok (.getfield 9, 3) := by decide +kernel
theorem dX0_append_13 : decode cX0_append 13 = .ok (.aload_n 0, 1) := by decide +kernel
theorem dX0_append_14 : decode cX0_append 14 = .ok (.getfield 18, 3) := by decide +kernel
theorem dX0_append_17 : decode cX0_append 17 = .ok (.iload_n 1, 1) := by decide +kernel
theorem dX0_append_18 : decode cX0_append 18 = .ok (.iastore, 1) := by decide +kernel
theorem dX0_append_19 : decode cX0_append 19 = .ok (.aload_n 0, 1) := by decide +kernel
theorem dX0_append_20 : decode cX0_append 20 = .ok (.getfield 15, 3) := by decide +kernel
theorem dX0_append_23 : decode cX0_append 23 = .ok (.aload_n 0, 1) := by decide +kernel
theorem dX0_append_24 : decode cX0_append 24 = .ok (.getfield 18, 3) := by decide +kernel
theorem dX0_append_27 : decode cX0_append 27 = .ok (.iload_n 2, 1) := by decide +kernel
theorem dX0_append_28 : decode cX0_append 28 = .ok (.iastore, 1) := by decide +kernel
theorem dX0_append_29 : decode cX0_append 29 = .ok (.aload_n 0, 1) := by decide +kernel
theorem dX0_append_30 : decode cX0_append 30 = .ok (.dup, 1) := by decide +kernel
theorem dX0_append_31 : decode cX0_append 31 = .ok (.getfield 18, 3) := by decide +kernel
theorem dX0_append_34 : decode cX0_append 34 = .ok (.iconst 1, 1) := by decide +kernel
theorem dX0_append_35 : decode cX0_append 35 = .ok (.iadd, 1) := by decide +kernel
theorem dX0_append_36 : decode cX0_append 36 = .ok (.putfield 18, 3) := by decide +kernel
theorem dX0_append_39 : decode cX0_append 39 = .ok (.return_, 1) := by decide +kernel
theorem dX0_remove_0 : decode cX0_remove 0 = .ok (.iload_n 1, 1) := by decide +kernel
theorem dX0_remove_1 : decode cX0_remove 1 = .ok (.iconst 1, 1) := by decide +kernel
theorem dX0_remove_2 : decode cX0_remove 2 = .ok (.iadd, 1) := by decide +kernel
theorem dX0_remove_3 : decode cX0_remove 3 = .ok (.istore_n 2, 1) := by decide +kernel
theorem dX0_remove_4 : decode cX0_remove 4 = .ok (.iload_n 2, 1) := by decide +kernel
theorem dX0_remove_5 : decode cX0_remove 5 = .ok (.aload_n 0, 1) := by decide +kernel
theorem dX0_remove_6 : decode cX0_remove 6 = .ok (.getfield 18, 3) := by decide +kernel
theorem dX0_remove_9 : decode cX0_remove 9 = .ok (.if_icmp .ge 37, 3) := by decide +kernel
theorem dX0_remove_12 : decode cX0_remove 12 = .ok (.aload_n 0, 1) := by decide +kernel
theorem dX0_remove_13 : decode cX0_remove 13 = .ok (.getfield 9, 3) := by decide +kernel
theorem dX0_remove_16 : decode cX0_remove 16 = .ok (.iload_n 2, 1) := by decide +kernel
theorem dX0_remove_17 : decode cX0_remove 17 = .ok (.iconst 1, 1) := by decide +kernel
theorem dX0_remove_18 : decode cX0_remove 18 = .ok (.isub, 1) := by decide +kernel
theorem dX0_remove_19 : decode cX0_remove 19 = .ok (.aload_n 0, 1) := by decide +kernel
theorem dX0_remove_20 : decode cX0_remove 20 = .ok (.getfield 9, 3) := by decide +kernel
theorem dX0_remove_23 : decode cX0_remove 23 = .ok (.iload_n 2, 1) := by decide +kernel
theorem dX0_remove_24 : decode cX0_remove 24 = .ok (.iaload, 1) := by decide +kernel
theorem dX0_remove_25 : decode cX0_remove 25 = .ok (.iastore, 1) := by decide +kernel
theorem dX0_remove_26 : decode cX0_remove 26 = .ok (.aload_n 0, 1) := by decide +kernel
theorem dX0_remove_27 : decode cX0_remove 27 = .ok (.getfield 15, 3) := by decide +kernel
theorem dX0_remove_30 : decode cX0_remove 30 = .ok (.iload_n 2, 1) := by decide +kernel
theorem dX0_remove_31 : decode cX0_remove 31 = .ok (.iconst 1, 1) := by decide +kernel
theorem dX0_remove_32 : decode cX0_remove 32 = .ok (.isub, 1) := by decide +kernel
theorem dX0_remove_33 : decode cX0_remove 33 = .ok (.aload_n 0, 1) := by decide +kernel
theorem dX0_remove_34 : decode cX0_remove 34 = .ok (.getfield 15, 3) := by decide +kernel
theorem dX0_remove_37 : decode cX0_remove 37 = .ok (.iload_n 2, 1) := by decide +kernel
theorem dX0_remove_38 : decode cX0_remove 38 = .ok (.iaload, 1) := by decide +kernel
theorem dX0_remove_39 : decode cX0_remove 39 = .ok (.iastore, 1) := by decide +kernel
theorem dX0_remove_40 : decode cX0_remove 40 = .ok (.iinc 2 1, 3) := by decide +kernel
theorem dX0_remove_43 : decode cX0_remove 43 = .ok (.goto (-39), 3) := by decide +kernel
theorem dX0_remove_46 : decode cX0_remove 46 = .ok (.aload_n 0, 1) := by decide +kernel
theorem dX0_remove_47 : decode cX0_remove 47 = .ok (.dup, 1) := by decide +kernel
theorem dX0_remove_48 : decode cX0_remove 48 = .ok (.getfield 18, 3) := by decide +kernel
theorem dX0_remove_51 : decode cX0_remove 51 = .ok (.iconst 1, 1) := by decide +kernel
theorem dX0_remove_52 : decode cX0_remove 52 = .ok (.isub, 1) := by decide +kernel
theorem dX0_remove_53 : decode cX0_remove 53 = .ok (.putfield 18, 3) := by decide +kernel
theorem dX0_remove_56 : decode cX0_remove 56 = .ok (.return_, 1) := by decide +kernel
set_option maxRecDepth 20000 in
theorem ggX0_becomeDifference_X0_appendBeatsOf : GoodIn wsX0_becomeDifference wsX0_appendBeatsOf := goodIn_r _ [7, 2, 8, 9, 10, 11, 12, 6, 13, 14, 15, 16, 17, 18] (by decide +kernel) (by decide +kernel)
set_option maxRecDepth 20000 in
theorem gX0_becomeDifference_X0_appendBeatsOf : GoodIn wsX0_becomeDifference (wsV RX0 26 RX0 yX0_appendBeatsOf wsX0_appendBeatsOf) := goodIn_app (goodIn_of _ (by decide +kernel)) ggX0_becomeDifference_X0_appendBeatsOf
theorem dX0_becomeDifference_0 : decode cX0_becomeDifference 0 = .ok (.aload_n 0, 1) := by decide +kernel
theorem dX0_becomeDifference_1 : decode cX0_becomeDifference 1 = .ok (.aload_n 1, 1) := by decide +kernel
theorem dX0_becomeDifference_2 : decode cX0_becomeDifference 2 = .ok (.getfield 22, 3) := by decide +kernel
theorem dX0_becomeDifference_5 : decode cX0_becomeDifference 5 = .ok (.aload_n 2, 1) := by decide +kernel
theorem dX0_becomeDifference_6 : decode cX0_becomeDifference 6 = .ok (.getfield 22, 3) := by decide +kernel
theorem dX0_becomeDifference_9 : decode cX0_becomeDifference 9 = .ok (.if_icmp .eq 7, 3) := by decide +kernel
theorem dX0_becomeDifference_12 : decode cX0_becomeDifference 12 = .ok (.iconst 1, 1) := by decide +kernel
theorem dX0_becomeDifference_13 : decode cX0_becomeDifference 13 = .ok (.goto 4, 3) := by decide +kernel
theorem dX0_becomeDifference_16 : decode cX0_becomeDifference 16 = .ok (.iconst 0, 1) := by decide +kernel
theorem dX0_becomeDifference_17 : decode cX0_becomeDifference 17 = .ok (.putfield 22, 3) := by decide +kernel
theorem dX0_becomeDifference_20 : decode cX0_becomeDifference 20 = .ok (.aload_n 0, 1) := by decide +kernel
theorem dX0_becomeDifference_21 : decode cX0_becomeDifference 21 = .ok (.iconst 0, 1) := by decide +kernel
theorem dX0_becomeDifference_22 : decode cX0_becomeDifference 22 = .ok (.putfield 18, 3) := by decide +kernel
theorem dX0_becomeDifference_25 : decode cX0_becomeDifference 25 = .ok (.aload_n 0, 1) := by decide +kernel
theorem dX0_becomeDifference_26 : decode cX0_becomeDifference 26 = .ok (.aload_n 1, 1) := by decide +kernel
theorem dX0_becomeDifference_27 : decode cX0_becomeDifference 27 = .ok (.invokevirtual 26, 3) := by decide +kernel
theorem dX0_becomeDifference_30 : decode cX0_becomeDifference 30 = .ok (.aload_n 0, 1) := by decide +kernel
theorem dX0_becomeDifference_31 : decode cX0_becomeDifference 31 = .ok (.aload_n 2, 1) := by decide +kernel
theorem dX0_becomeDifference_32 : decode cX0_becomeDifference 32 = .ok (.invokevirtual 26, 3) := by decide +kernel
theorem dX0_becomeDifference_35 : decode cX0_becomeDifference 35 = .ok (.return_, 1) := by decide +kernel
set_option maxRecDepth 20000 in
theorem ggX0_appendBeatsOf_X0_append : GoodIn wsX0_appendBeatsOf wsX0_append := goodIn_r _ [8, 1, 2, 3, 9, 10, 11, 12, 13] (by decide +kernel) (by decide +kernel)
set_option maxRecDepth 20000 in
theorem gX0_appendBeatsOf_X0_append : GoodIn wsX0_appendBeatsOf (wsV RX0 30 RX0 yX0_append wsX0_append) := goodIn_app (goodIn_of _ (by decide +kernel)) ggX0_appendBeatsOf_X0_append
theorem dX0_appendBeatsOf_0 : decode cX0_appendBeatsOf 0 = .ok (.iconst 0, 1) := by decide +kernel
theorem dX0_appendBeatsOf_1 : decode cX0_appendBeatsOf 1 = .ok (.istore_n 2, 1) := by decide +kernel
theorem dX0_appendBeatsOf_2 : decode cX0_appendBeatsOf 2 = .ok (.iload_n 2, 1) := by decide +kernel
theorem dX0_appendBeatsOf_3 : decode cX0_appendBeatsOf 3 = .ok (.aload_n 1, 1) := by decide +kernel
theorem dX0_appendBeatsOf_4 : decode cX0_appendBeatsOf 4 = .ok (.getfield 18, 3) := by decide +kernel
theorem dX0_appendBeatsOf_7 : decode cX0_appendBeatsOf 7 = .ok (.if_icmp .ge 25, 3) := by decide +kernel
theorem dX0_appendBeatsOf_10 : decode cX0_appendBeatsOf 10 = .ok (.aload_n 0, 1) := by decide +kernel
theorem dX0_appendBeatsOf_11 : decode cX0_appendBeatsOf 11 = .ok (.aload_n 1, 1) := by decide +kernel
theorem dX0_appendBeatsOf_12 : decode cX0_appendBeatsOf 12 = .ok (.getfield 9, 3) := by decide +kernel
theorem dX0_appendBeatsOf_15 : decode cX0_appendBeatsOf 15 = .ok (.iload_n 2, 1) := by decide +kernel
theorem dX0_appendBeatsOf_16 : decode cX0_appendBeatsOf 16 = .ok (.iaload, 1) := by decide +kernel
theorem dX0_appendBeatsOf_17 : decode cX0_appendBeatsOf 17 = .ok (.aload_n 1, 1) := by decide +kernel
theorem dX0_appendBeatsOf_18 : decode cX0_appendBeatsOf 18 = .ok (.getfield 15, 3) := by decide +kernel
theorem dX0_appendBeatsOf_21 : decode cX0_appendBeatsOf 21 = .ok (.iload_n 2, 1) := by decide +kernel
theorem dX0_appendBeatsOf_22 : decode cX0_appendBeatsOf 22 = .ok (.iaload, 1) := by decide +kernel
theorem dX0_appendBeatsOf_23 : decode cX0_appendBeatsOf 23 = .ok (.invokevirtual 30, 3) := by decide +kernel
theorem dX0_appendBeatsOf_26 : decode cX0_appendBeatsOf 26 = .ok (.iinc 2 1, 3) := by decide +kernel
theorem dX0_appendBeatsOf_29 : decode cX0_appendBeatsOf 29 = .ok (.goto (-27), 3) := by decide +kernel
theorem dX0_appendBeatsOf_32 : decode cX0_appendBeatsOf 32 = .ok (.return_, 1) := by decide +kernel
theorem dX0_strikes_0 : decode cX0_strikes 0 = .ok (.iconst 0, 1) := by decide +kernel
theorem dX0_strikes_1 : decode cX0_strikes 1 = .ok (.istore_n 2, 1) := by decide +kernel
theorem dX0_strikes_2 : decode cX0_strikes 2 = .ok (.iconst 0, 1) := by decide +kernel
theorem dX0_strikes_3 : decode cX0_strikes 3 = .ok (.istore_n 3, 1) := by decide +kernel
theorem dX0_strikes_4 : decode cX0_strikes 4 = .ok (.iload_n 3, 1) := by decide +kernel
theorem dX0_strikes_5 : decode cX0_strikes 5 = .ok (.aload_n 0, 1) := by decide +kernel
theorem dX0_strikes_6 : decode cX0_strikes 6 = .ok (.getfield 18, 3) := by decide +kernel
theorem dX0_strikes_9 : decode cX0_strikes 9 = .ok (.if_icmp .ge 38, 3) := by decide +kernel
theorem dX0_strikes_12 : decode cX0_strikes 12 = .ok (.aload_n 0, 1) := by decide +kernel
theorem dX0_strikes_13 : decode cX0_strikes 13 = .ok (.getfield 9, 3) := by decide +kernel
theorem dX0_strikes_16 : decode cX0_strikes 16 = .ok (.iload_n 3, 1) := by decide +kernel
theorem dX0_strikes_17 : decode cX0_strikes 17 = .ok (.iaload, 1) := by decide +kernel
theorem dX0_strikes_18 : decode cX0_strikes 18 = .ok (.ifCond .le 23, 3) := by decide +kernel
theorem dX0_strikes_21 : decode cX0_strikes 21 = .ok (.iload_n 1, 1) := by decide +kernel
theorem dX0_strikes_22 : decode cX0_strikes 22 = .ok (.aload_n 0, 1) := by decide +kernel
theorem dX0_strikes_23 : decode cX0_strikes 23 = .ok (.getfield 9, 3) := by decide +kernel
theorem dX0_strikes_26 : decode cX0_strikes 26 = .ok (.iload_n 3, 1) := by decide +kernel
theorem dX0_strikes_27 : decode cX0_strikes 27 = .ok (.iaload, 1) := by decide +kernel
theorem dX0_strikes_28 : decode cX0_strikes 28 = .ok (.irem, 1) := by decide +kernel
theorem dX0_strikes_29 : decode cX0_strikes 29 = .ok (.aload_n 0, 1) := by decide +kernel
theorem dX0_strikes_30 : decode cX0_strikes 30 = .ok (.getfield 15, 3) := by decide +kernel
theorem dX0_strikes_33 : decode cX0_strikes 33 = .ok (.iload_n 3, 1) := by decide +kernel
theorem dX0_strikes_34 : decode cX0_strikes 34 = .ok (.iaload, 1) := by decide +kernel
theorem dX0_strikes_35 : decode cX0_strikes 35 = .ok (.if_icmp .ne 6, 3) := by decide +kernel
theorem dX0_strikes_38 : decode cX0_strikes 38 = .ok (.iinc 2 1, 3) := by decide +kernel
theorem dX0_strikes_41 : decode cX0_strikes 41 = .ok (.iinc 3 1, 3) := by decide +kernel
theorem dX0_strikes_44 : decode cX0_strikes 44 = .ok (.goto (-40), 3) := by decide +kernel
theorem dX0_strikes_47 : decode cX0_strikes 47 = .ok (.iload_n 2, 1) := by decide +kernel
theorem dX0_strikes_48 : decode cX0_strikes 48 = .ok (.ireturn, 1) := by decide +kernel
set_option maxRecDepth 20000 in
theorem ggX0_changesAt_X0_strikes : GoodIn wsX0_changesAt wsX0_strikes := goodIn_r _ [5, 6, 7, 8, 12, 13, 14, 15, 16] (by decide +kernel) (by decide +kernel)
set_option maxRecDepth 20000 in
theorem gX0_changesAt_X0_strikes : GoodIn wsX0_changesAt (wsV RX0 34 RX0 yX0_strikes wsX0_strikes) := goodIn_app (goodIn_of _ (by decide +kernel)) ggX0_changesAt_X0_strikes
set_option maxRecDepth 20000 in
theorem ggX0_changesAt_X0_isOdd : GoodIn wsX0_changesAt wsX0_isOdd := goodIn_r _ [11] (by decide +kernel) (by decide +kernel)
set_option maxRecDepth 20000 in
theorem gX0_changesAt_X0_isOdd : GoodIn wsX0_changesAt (va_wsS RX0 38 yX0_isOdd wsX0_isOdd) := goodIn_app (goodIn_of _ (by decide +kernel)) ggX0_changesAt_X0_isOdd
theorem dX0_changesAt_0 : decode cX0_changesAt 0 = .ok (.aload_n 0, 1) := by decide +kernel
theorem dX0_changesAt_1 : decode cX0_changesAt 1 = .ok (.iload_n 1, 1) := by decide +kernel
theorem dX0_changesAt_2 : decode cX0_changesAt 2 = .ok (.invokevirtual 34, 3) := by decide +kernel
theorem dX0_changesAt_5 : decode cX0_changesAt 5 = .ok (.invokestatic 38, 3) := by decide +kernel
theorem dX0_changesAt_8 : decode cX0_changesAt 8 = .ok (.ireturn, 1) := by decide +kernel
set_option maxRecDepth 20000 in
theorem ggX0_litAt_X0_onAt : GoodIn wsX0_litAt wsX0_onAt := goodIn_r _ [6, 7, 8, 9, 10, 11, 12, 5, 13, 14, 15, 16, 17, 18, 19, 20, 21] (by decide +kernel) (by decide +kernel)
set_option maxRecDepth 20000 in
theorem gX0_litAt_X0_onAt : GoodIn wsX0_litAt (wsV RX0 45 RX0 yX0_onAt wsX0_onAt) := goodIn_app (goodIn_of _ (by decide +kernel)) ggX0_litAt_X0_onAt
theorem dX0_litAt_0 : decode cX0_litAt 0 = .ok (.aload_n 0, 1) := by decide +kernel
theorem dX0_litAt_1 : decode cX0_litAt 1 = .ok (.getfield 42, 3) := by decide +kernel
theorem dX0_litAt_4 : decode cX0_litAt 4 = .ok (.ifCond .ne 15, 3) := by decide +kernel
theorem dX0_litAt_7 : decode cX0_litAt 7 = .ok (.aload_n 0, 1) := by decide +kernel
theorem dX0_litAt_8 : decode cX0_litAt 8 = .ok (.iload_n 1, 1) := by decide +kernel
theorem dX0_litAt_9 : decode cX0_litAt 9 = .ok (.invokevirtual 45, 3) := by decide +kernel
theorem dX0_litAt_12 : decode cX0_litAt 12 = .ok (.ifCond .eq 7, 3) := by decide +kernel
theorem dX0_litAt_15 : decode cX0_litAt 15 = .ok (.iconst 1, 1) := by decide +kernel
theorem dX0_litAt_16 : decode cX0_litAt 16 = .ok (.goto 4, 3) := by decide +kernel
theorem dX0_litAt_19 : decode cX0_litAt 19 = .ok (.iconst 0, 1) := by decide +kernel
theorem dX0_litAt_20 : decode cX0_litAt 20 = .ok (.ireturn, 1) := by decide +kernel
set_option maxRecDepth 20000 in
theorem ggX0_onAt_X0_strikesUpTo : GoodIn wsX0_onAt wsX0_strikesUpTo := goodIn_r _ [8] (by decide +kernel) (by decide +kernel)
set_option maxRecDepth 20000 in
theorem gX0_onAt_X0_strikesUpTo : GoodIn wsX0_onAt (va_wsS RX0 48 yX0_strikesUpTo wsX0_strikesUpTo) := goodIn_app (goodIn_of _ (by decide +kernel)) ggX0_onAt_X0_strikesUpTo
set_option maxRecDepth 20000 in
theorem ggX0_onAt_X0_isOdd : GoodIn wsX0_onAt wsX0_isOdd := goodIn_r _ [11] (by decide +kernel) (by decide +kernel)
set_option maxRecDepth 20000 in
theorem gX0_onAt_X0_isOdd : GoodIn wsX0_onAt (va_wsS RX0 38 yX0_isOdd wsX0_isOdd) := goodIn_app (goodIn_of _ (by decide +kernel)) ggX0_onAt_X0_isOdd
theorem dX0_onAt_0 : decode cX0_onAt 0 = .ok (.iconst 0, 1) := by decide +kernel
theorem dX0_onAt_1 : decode cX0_onAt 1 = .ok (.istore_n 2, 1) := by decide +kernel
theorem dX0_onAt_2 : decode cX0_onAt 2 = .ok (.iconst 0, 1) := by decide +kernel
theorem dX0_onAt_3 : decode cX0_onAt 3 = .ok (.istore_n 3, 1) := by decide +kernel
theorem dX0_onAt_4 : decode cX0_onAt 4 = .ok (.iload_n 3, 1) := by decide +kernel
theorem dX0_onAt_5 : decode cX0_onAt 5 = .ok (.aload_n 0, 1) := by decide +kernel
theorem dX0_onAt_6 : decode cX0_onAt 6 = .ok (.getfield 18, 3) := by decide +kernel
theorem dX0_onAt_9 : decode cX0_onAt 9 = .ok (.if_icmp .ge 28, 3) := by decide +kernel
theorem dX0_onAt_12 : decode cX0_onAt 12 = .ok (.iload_n 2, 1) := by decide +kernel
theorem dX0_onAt_13 : decode cX0_onAt 13 = .ok (.iload_n 1, 1) := by decide +kernel
theorem dX0_onAt_14 : decode cX0_onAt 14 = .ok (.aload_n 0, 1) := by decide +kernel
theorem dX0_onAt_15 : decode cX0_onAt 15 = .ok (.getfield 9, 3) := by decide +kernel
theorem dX0_onAt_18 : decode cX0_onAt 18 = .ok (.iload_n 3, 1) := by decide +kernel
theorem dX0_onAt_19 : decode cX0_onAt 19 = .ok (.iaload, 1) := by decide +kernel
theorem dX0_onAt_20 : decode cX0_onAt 20 = .ok (.aload_n 0, 1) := by decide +kernel
theorem dX0_onAt_21 : decode cX0_onAt 21 = .ok (.getfield 15, 3) := by decide +kernel
theorem dX0_onAt_24 : decode cX0_onAt 24 = .ok (.iload_n 3, 1) := by decide +kernel
theorem dX0_onAt_25 : decode cX0_onAt 25 = .ok (.iaload, 1) := by decide +kernel
theorem dX0_onAt_26 : decode cX0_onAt 26 = .ok (.invokestatic 48, 3) := by decide +kernel
theorem dX0_onAt_29 : decode cX0_onAt 29 = .ok (.iadd, 1) := by decide +kernel
theorem dX0_onAt_30 : decode cX0_onAt 30 = .ok (.istore_n 2, 1) := by decide +kernel
theorem dX0_onAt_31 : decode cX0_onAt 31 = .ok (.iinc 3 1, 3) := by decide +kernel
theorem dX0_onAt_34 : decode cX0_onAt 34 = .ok (.goto (-30), 3) := by decide +kernel
theorem dX0_onAt_37 : decode cX0_onAt 37 = .ok (.aload_n 0, 1) := by decide +kernel
theorem dX0_onAt_38 : decode cX0_onAt 38 = .ok (.getfield 22, 3) := by decide +kernel
theorem dX0_onAt_41 : decode cX0_onAt 41 = .ok (.iload_n 2, 1) := by decide +kernel
theorem dX0_onAt_42 : decode cX0_onAt 42 = .ok (.invokestatic 38, 3) := by decide +kernel
theorem dX0_onAt_45 : decode cX0_onAt 45 = .ok (.if_icmp .eq 7, 3) := by decide +kernel
theorem dX0_onAt_48 : decode cX0_onAt 48 = .ok (.iconst 1, 1) := by decide +kernel
theorem dX0_onAt_49 : decode cX0_onAt 49 = .ok (.goto 4, 3) := by decide +kernel
theorem dX0_onAt_52 : decode cX0_onAt 52 = .ok (.iconst 0, 1) := by decide +kernel
theorem dX0_onAt_53 : decode cX0_onAt 53 = .ok (.ireturn, 1) := by decide +kernel
theorem dX0_strikesUpTo_0 : decode cX0_strikesUpTo 0 = .ok (.iload_n 1, 1) := by decide +kernel
theorem dX0_strikesUpTo_1 : decode cX0_strikesUpTo 1 = .ok (.iconst 1, 1) := by decide +kernel
theorem dX0_strikesUpTo_2 : decode cX0_strikesUpTo 2 = .ok (.if_icmp .lt 8, 3) := by decide +kernel
theorem dX0_strikesUpTo_5 : decode cX0_strikesUpTo 5 = .ok (.iload_n 0, 1) := by decide +kernel
theorem dX0_strikesUpTo_6 : decode cX0_strikesUpTo 6 = .ok (.iload_n 2, 1) := by decide +kernel
theorem dX0_strikesUpTo_7 : decode cX0_strikesUpTo 7 = .ok (.if_icmp .ge 5, 3) := by decide +kernel
theorem dX0_strikesUpTo_10 : decode cX0_strikesUpTo 10 = .ok (.iconst 0, 1) := by decide +kernel
theorem dX0_strikesUpTo_11 : decode cX0_strikesUpTo 11 = .ok (.ireturn, 1) := by decide +kernel
theorem dX0_strikesUpTo_12 : decode cX0_strikesUpTo 12 = .ok (.iload_n 0, 1) := by decide +kernel
theorem dX0_strikesUpTo_13 : decode cX0_strikesUpTo 13 = .ok (.iload_n 2, 1) := by decide +kernel
theorem dX0_strikesUpTo_14 : decode cX0_strikesUpTo 14 = .ok (.isub, 1) := by decide +kernel
theorem dX0_strikesUpTo_15 : decode cX0_strikesUpTo 15 = .ok (.iload_n 1, 1) := by decide +kernel
theorem dX0_strikesUpTo_16 : decode cX0_strikesUpTo 16 = .ok (.idiv, 1) := by decide +kernel
theorem dX0_strikesUpTo_17 : decode cX0_strikesUpTo 17 = .ok (.iconst 1, 1) := by decide +kernel
theorem dX0_strikesUpTo_18 : decode cX0_strikesUpTo 18 = .ok (.iadd, 1) := by decide +kernel
theorem dX0_strikesUpTo_19 : decode cX0_strikesUpTo 19 = .ok (.ireturn, 1) := by decide +kernel
set_option maxRecDepth 20000 in
theorem ggX0_neverChanges_X0_cycle : GoodIn wsX0_neverChanges wsX0_cycle := goodIn_r _ [5, 6, 7, 8, 9, 4, 10, 11, 12, 13, 14, 15, 16, 17, 18, 19, 20, 21, 22, 23, 24, 25, 26, 27, 28, 29, 30, 31, 32] (by decide +kernel) (by decide +kernel)
set_option maxRecDepth 20000 in
theorem gX0_neverChanges_X0_cycle : GoodIn wsX0_neverChanges (wsV RX0 52 RX0 yX0_cycle wsX0_cycle) := goodIn_app (goodIn_of _ (by decide +kernel)) ggX0_neverChanges_X0_cycle
theorem dX0_neverChanges_0 : decode cX0_neverChanges 0 = .ok (.aload_n 0, 1) := by decide +kernel
theorem dX0_neverChanges_1 : decode cX0_neverChanges 1 = .ok (.invokevirtual 52, 3) := by decide +kernel
theorem dX0_neverChanges_4 : decode cX0_neverChanges 4 = .ok (.iconst 1, 1) := by decide +kernel
theorem dX0_neverChanges_5 : decode cX0_neverChanges 5 = .ok (.if_icmp .ne 7, 3) := by decide +kernel
theorem dX0_neverChanges_8 : decode cX0_neverChanges 8 = .ok (.iconst 1, 1) := by decide +kernel
theorem dX0_neverChanges_9 : decode cX0_neverChanges 9 = .ok (.goto 4, 3) := by decide +kernel
theorem dX0_neverChanges_12 : decode cX0_neverChanges 12 = .ok (.iconst 0, 1) := by decide +kernel
theorem dX0_neverChanges_13 : decode cX0_neverChanges 13 = .ok (.ireturn, 1) := by decide +kernel
set_option maxRecDepth 20000 in
theorem ggX0_cycle_X0_changeCycle : GoodIn wsX0_cycle wsX0_changeCycle := goodIn_r _ [6, 7, 8, 9, 5, 10, 11, 12, 13, 24, 25, 26, 27, 28] (by decide +kernel) (by decide +kernel)
set_option maxRecDepth 20000 in
theorem gX0_cycle_X0_changeCycle : GoodIn wsX0_cycle (wsV RX0 56 RX0 yX0_changeCycle wsX0_changeCycle) := goodIn_app (goodIn_of _ (by decide +kernel)) ggX0_cycle_X0_changeCycle
set_option maxRecDepth 20000 in
theorem ggX0_cycle_X0_onAt : GoodIn wsX0_cycle wsX0_onAt := goodIn_r _ [17, 11, 12, 13, 1, 18, 19, 5, 20, 21, 22, 23, 24, 25, 26, 27, 28] (by decide +kernel) (by decide +kernel)
set_option maxRecDepth 20000 in
theorem gX0_cycle_X0_onAt : GoodIn wsX0_cycle (wsV RX0 45 RX0 yX0_onAt wsX0_onAt) := goodIn_app (goodIn_of _ (by decide +kernel)) ggX0_cycle_X0_onAt
theorem dX0_cycle_0 : decode cX0_cycle 0 = .ok (.aload_n 0, 1) := by decide +kernel
theorem dX0_cycle_1 : decode cX0_cycle 1 = .ok (.invokevirtual 56, 3) := by decide +kernel
theorem dX0_cycle_4 : decode cX0_cycle 4 = .ok (.istore_n 1, 1) := by decide +kernel
theorem dX0_cycle_5 : decode cX0_cycle 5 = .ok (.aload_n 0, 1) := by decide +kernel
theorem dX0_cycle_6 : decode cX0_cycle 6 = .ok (.iload_n 1, 1) := by decide +kernel
theorem dX0_cycle_7 : decode cX0_cycle 7 = .ok (.iconst 1, 1) := by decide +kernel
theorem dX0_cycle_8 : decode cX0_cycle 8 = .ok (.isub, 1) := by decide +kernel
theorem dX0_cycle_9 : decode cX0_cycle 9 = .ok (.invokevirtual 45, 3) := by decide +kernel
theorem dX0_cycle_12 : decode cX0_cycle 12 = .ok (.aload_n 0, 1) := by decide +kernel
theorem dX0_cycle_13 : decode cX0_cycle 13 = .ok (.getfield 22, 3) := by decide +kernel
theorem dX0_cycle_16 : decode cX0_cycle 16 = .ok (.if_icmp .ne 7, 3) := by decide +kernel
theorem dX0_cycle_19 : decode cX0_cycle 19 = .ok (.iconst 1, 1) := by decide +kernel
theorem dX0_cycle_20 : decode cX0_cycle 20 = .ok (.goto 4, 3) := by decide +kernel
theorem dX0_cycle_23 : decode cX0_cycle 23 = .ok (.iconst 0, 1) := by decide +kernel
theorem dX0_cycle_24 : decode cX0_cycle 24 = .ok (.istore_n 2, 1) := by decide +kernel
theorem dX0_cycle_25 : decode cX0_cycle 25 = .ok (.iload_n 2, 1) := by decide +kernel
theorem dX0_cycle_26 : decode cX0_cycle 26 = .ok (.ifCond .eq 7, 3) := by decide +kernel
theorem dX0_cycle_29 : decode cX0_cycle 29 = .ok (.iload_n 1, 1) := by decide +kernel
theorem dX0_cycle_30 : decode cX0_cycle 30 = .ok (.goto 6, 3) := by decide +kernel
theorem dX0_cycle_33 : decode cX0_cycle 33 = .ok (.iconst 2, 1) := by decide +kernel
theorem dX0_cycle_34 : decode cX0_cycle 34 = .ok (.iload_n 1, 1) := by decide +kernel
theorem dX0_cycle_35 : decode cX0_cycle 35 = .ok (.imul, 1) := by decide +kernel
theorem dX0_cycle_36 : decode cX0_cycle 36 = .ok (.ireturn, 1) := by decide +kernel
set_option maxRecDepth 20000 in
theorem ggX0_changeCycle_X0_turningRemainders : GoodIn wsX0_changeCycle wsX0_turningRemainders := goodIn_r _ [5, 6, 7, 8, 9, 10, 11, 12, 13] (by decide +kernel) (by decide +kernel)
set_option maxRecDepth 20000 in
theorem gX0_changeCycle_X0_turningRemainders : GoodIn wsX0_changeCycle (wsV RX0 62 RX0 yX0_turningRemainders wsX0_turningRemainders) := goodIn_app (goodIn_of _ (by decide +kernel)) ggX0_changeCycle_X0_turningRemainders
theorem dX0_changeCycle_0 : decode cX0_changeCycle 0 = .ok (.iconst 1, 1) := by decide +kernel
theorem dX0_changeCycle_1 : decode cX0_changeCycle 1 = .ok (.istore_n 1, 1) := by decide +kernel
theorem dX0_changeCycle_2 : decode cX0_changeCycle 2 = .ok (.getstatic 59, 3) := by decide +kernel
theorem dX0_changeCycle_5 : decode cX0_changeCycle 5 = .ok (.astore_n 2, 1) := by decide +kernel
theorem dX0_changeCycle_6 : decode cX0_changeCycle 6 = .ok (.aload_n 2, 1) := by decide +kernel
theorem dX0_changeCycle_7 : decode cX0_changeCycle 7 = .ok (.arraylength, 1) := by decide +kernel
theorem dX0_changeCycle_8 : decode cX0_changeCycle 8 = .ok (.istore_n 3, 1) := by decide +kernel
theorem dX0_changeCycle_9 : decode cX0_changeCycle 9 = .ok (.iconst 0, 1) := by decide +kernel
theorem dX0_changeCycle_10 : decode cX0_changeCycle 10 = .ok (.istore 4, 2) := by decide +kernel
theorem dX0_changeCycle_12 : decode cX0_changeCycle 12 = .ok (.iload 4, 2) := by decide +kernel
theorem dX0_changeCycle_14 : decode cX0_changeCycle 14 = .ok (.iload_n 3, 1) := by decide +kernel
theorem dX0_changeCycle_15 : decode cX0_changeCycle 15 = .ok (.if_icmp .ge 56, 3) := by decide +kernel
theorem dX0_changeCycle_18 : decode cX0_changeCycle 18 = .ok (.aload_n 2, 1) := by decide +kernel
theorem dX0_changeCycle_19 : decode cX0_changeCycle 19 = .ok (.iload 4, 2) := by decide +kernel
theorem dX0_changeCycle_21 : decode cX0_changeCycle 21 = .ok (.iaload, 1) := by decide +kernel
theorem dX0_changeCycle_22 : decode cX0_changeCycle 22 = .ok (.istore 5, 2) := by decide +kernel
theorem dX0_changeCycle_24 : decode cX0_changeCycle 24 = .ok (.aload_n 0, 1) := by decide +kernel
theorem dX0_changeCycle_25 : decode cX0_changeCycle 25 = .ok (.iload 5, 2) := by decide +kernel
theorem dX0_changeCycle_27 : decode cX0_changeCycle 27 = .ok (.invokevirtual 62, 3) := by decide +kernel
theorem dX0_changeCycle_30 : decode cX0_changeCycle 30 = .ok (.istore 6, 2) := by decide +kernel
theorem dX0_changeCycle_32 : decode cX0_changeCycle 32 = .ok (.iload 6, 2) := by decide +kernel
theorem dX0_changeCycle_34 : decode cX0_changeCycle 34 = .ok (.ifCond .eq 14, 3) := by decide +kernel
theorem dX0_changeCycle_37 : decode cX0_changeCycle 37 = .ok (.iload 6, 2) := by decide +kernel
theorem dX0_changeCycle_39 : decode cX0_changeCycle 39 = .ok (.iconst 1, 1) := by decide +kernel
theorem dX0_changeCycle_40 : decode cX0_changeCycle 40 = .ok (.iload 5, 2) := by decide +kernel
theorem dX0_changeCycle_42 : decode cX0_changeCycle 42 = .ok (.ishl, 1) := by decide +kernel
theorem dX0_changeCycle_43 : decode cX0_changeCycle 43 = .ok (.iconst 1, 1) := by decide +kernel
theorem dX0_changeCycle_44 : decode cX0_changeCycle 44 = .ok (.isub, 1) := by decide +kernel
theorem dX0_changeCycle_45 : decode cX0_changeCycle 45 = .ok (.if_icmp .ne 7, 3) := by decide +kernel
theorem dX0_changeCycle_48 : decode cX0_changeCycle 48 = .ok (.iconst 1, 1) := by decide +kernel
theorem dX0_changeCycle_49 : decode cX0_changeCycle 49 = .ok (.goto 4, 3) := by decide +kernel
theorem dX0_changeCycle_52 : decode cX0_changeCycle 52 = .ok (.iconst 0, 1) := by decide +kernel
theorem dX0_changeCycle_53 : decode cX0_changeCycle 53 = .ok (.istore 7, 2) := by decide +kernel
theorem dX0_changeCycle_55 : decode cX0_changeCycle 55 = .ok (.iload 7, 2) := by decide +kernel
theorem dX0_changeCycle_57 : decode cX0_changeCycle 57 = .ok (.ifCond .ne 8, 3) := by decide +kernel
theorem dX0_changeCycle_60 : decode cX0_changeCycle 60 = .ok (.iload_n 1, 1) := by decide +kernel
theorem dX0_changeCycle_61 : decode cX0_changeCycle 61 = .ok (.iload 5, 2) := by decide +kernel
theorem dX0_changeCycle_63 : decode cX0_changeCycle 63 = .ok (.imul, 1) := by decide +kernel
theorem dX0_changeCycle_64 : decode cX0_changeCycle 64 = .ok (.istore_n 1, 1) := by decide +kernel
theorem dX0_changeCycle_65 : decode cX0_changeCycle 65 = .ok (.iinc 4 1, 3) := by decide +kernel
theorem dX0_changeCycle_68 : decode cX0_changeCycle 68 = .ok (.goto (-56), 3) := by decide +kernel
theorem dX0_changeCycle_71 : decode cX0_changeCycle 71 = .ok (.iload_n 1, 1) := by decide +kernel
theorem dX0_changeCycle_72 : decode cX0_changeCycle 72 = .ok (.ireturn, 1) := by decide +kernel
theorem dX0_turningRemainders_0 : decode cX0_turningRemainders 0 = .ok (.iconst 0, 1) := by decide +kernel
theorem dX0_turningRemainders_1 : decode cX0_turningRemainders 1 = .ok (.istore_n 2, 1) := by decide +kernel
theorem dX0_turningRemainders_2 : decode cX0_turningRemainders 2 = .ok (.iconst 0, 1) := by decide +kernel
theorem dX0_turningRemainders_3 : decode cX0_turningRemainders 3 = .ok (.istore_n 3, 1) := by decide +kernel
theorem dX0_turningRemainders_4 : decode cX0_turningRemainders 4 = .ok (.iload_n 3, 1) := by decide +kernel
theorem dX0_turningRemainders_5 : decode cX0_turningRemainders 5 = .ok (.aload_n 0, 1) := by decide +kernel
theorem dX0_turningRemainders_6 : decode cX0_turningRemainders 6 = .ok (.getfield 18, 3) := by decide +kernel
theorem dX0_turningRemainders_9 : decode cX0_turningRemainders 9 = .ok (.if_icmp .ge 30, 3) := by decide +kernel
theorem dX0_turningRemainders_12 : decode cX0_turningRemainders 12 = .ok (.aload_n 0, 1) := by decide +kernel
theorem dX0_turningRemainders_13 : decode cX0_turningRemainders 13 = .ok (.getfield 9, 3) := by decide +kernel
theorem dX0_turningRemainders_16 : decode cX0_turningRemainders 16 = .ok (.iload_n 3, 1) := by decide +kernel
theorem dX0_turningRemainders_17 : decode cX0_turningRemainders 17 = .ok (.iaload, 1) := by decide +kernel
theorem dX0_turningRemainders_18 : decode cX0_turningRemainders 18 = .ok (.iload_n 1, 1) := by decide +kernel
theorem dX0_turningRemainders_19 : decode cX0_turningRemainders 19 = .ok (.if_icmp .ne 14, 3) := by decide +kernel
theorem dX0_turningRemainders_22 : decode cX0_turningRemainders 22 = .ok (.iload_n 2, 1) := by decide +kernel
theorem dX0_turningRemainders_23 : decode cX0_turningRemainders 23 = .ok (.iconst 1, 1) := by decide +kernel
theorem dX0_turningRemainders_24 : decode cX0_turningRemainders 24 = .ok (.aload_n 0, 1) := by decide +kernel
theorem dX0_turningRemainders_25 : decode cX0_turningRemainders 25 = .ok (.getfield 15, 3) := by decide +kernel
theorem dX0_turningRemainders_28 : decode cX0_turningRemainders 28 = .ok (.iload_n 3, 1) := by decide +kernel
theorem dX0_turningRemainders_29 : decode cX0_turningRemainders 29 = .ok (.iaload, 1) := by decide +kernel
theorem dX0_turningRemainders_30 : decode cX0_turningRemainders 30 = .ok (.ishl, 1) := by decide +kernel
theorem dX0_turningRemainders_31 : decode cX0_turningRemainders 31 = .ok (.ixor, 1) := by decide +kernel
theorem dX0_turningRemainders_32 : decode cX0_turningRemainders 32 = .ok (.istore_n 2, 1) := by decide +kernel
theorem dX0_turningRemainders_33 : decode cX0_turningRemainders 33 = .ok (.iinc 3 1, 3) := by decide +kernel
theorem dX0_turningRemainders_36 : decode cX0_turningRemainders 36 = .ok (.goto (-32), 3) := by decide +kernel
theorem dX0_turningRemainders_39 : decode cX0_turningRemainders 39 = .ok (.iload_n 2, 1) := by decide +kernel
theorem dX0_turningRemainders_40 : decode cX0_turningRemainders 40 = .ok (.ireturn, 1) := by decide +kernel
set_option maxRecDepth 20000 in
theorem ggX0_untilChange_X0_changeCycle : GoodIn wsX0_untilChange wsX0_changeCycle := goodIn_r _ [5, 6, 7, 8, 4, 9, 10, 11, 12, 24, 25, 26, 27, 28] (by decide +kernel) (by decide +kernel)
set_option maxRecDepth 20000 in
theorem gX0_untilChange_X0_changeCycle : GoodIn wsX0_untilChange (wsV RX0 56 RX0 yX0_changeCycle wsX0_changeCycle) := goodIn_app (goodIn_of _ (by decide +kernel)) ggX0_untilChange_X0_changeCycle
set_option maxRecDepth 20000 in
theorem ggX0_untilChange_X0_changesAt : GoodIn wsX0_untilChange wsX0_changesAt := goodIn_r _ [16, 17, 18, 19, 4, 20, 10, 11, 12, 21, 22, 23, 24, 25, 26, 27, 28] (by decide +kernel) (by decide +kernel)
set_option maxRecDepth 20000 in
theorem gX0_untilChange_X0_changesAt : GoodIn wsX0_untilChange (wsV RX0 65 RX0 yX0_changesAt wsX0_changesAt) := goodIn_app (goodIn_of _ (by decide +kernel)) ggX0_untilChange_X0_changesAt
theorem dX0_untilChange_0 : decode cX0_untilChange 0 = .ok (.aload_n 0, 1) := by decide +kernel
theorem dX0_untilChange_1 : decode cX0_untilChange 1 = .ok (.invokevirtual 56, 3) := by decide +kernel
theorem dX0_untilChange_4 : decode cX0_untilChange 4 = .ok (.istore_n 2, 1) := by decide +kernel
theorem dX0_untilChange_5 : decode cX0_untilChange 5 = .ok (.iconst 1, 1) := by decide +kernel
theorem dX0_untilChange_6 : decode cX0_untilChange 6 = .ok (.istore_n 3, 1) := by decide +kernel
theorem dX0_untilChange_7 : decode cX0_untilChange 7 = .ok (.iload_n 3, 1) := by decide +kernel
theorem dX0_untilChange_8 : decode cX0_untilChange 8 = .ok (.iload_n 2, 1) := by decide +kernel
theorem dX0_untilChange_9 : decode cX0_untilChange 9 = .ok (.if_icmp .gt 21, 3) := by decide +kernel
theorem dX0_untilChange_12 : decode cX0_untilChange 12 = .ok (.aload_n 0, 1) := by decide +kernel
theorem dX0_untilChange_13 : decode cX0_untilChange 13 = .ok (.iload_n 1, 1) := by decide +kernel
theorem dX0_untilChange_14 : decode cX0_untilChange 14 = .ok (.iload_n 3, 1) := by decide +kernel
theorem dX0_untilChange_15 : decode cX0_untilChange 15 = .ok (.iadd, 1) := by decide +kernel
theorem dX0_untilChange_16 : decode cX0_untilChange 16 = .ok (.invokevirtual 65, 3) := by decide +kernel
theorem dX0_untilChange_19 : decode cX0_untilChange 19 = .ok (.ifCond .eq 5, 3) := by decide +kernel
theorem dX0_untilChange_22 : decode cX0_untilChange 22 = .ok (.iload_n 3, 1) := by decide +kernel
theorem dX0_untilChange_23 : decode cX0_untilChange 23 = .ok (.ireturn, 1) := by decide +kernel
theorem dX0_untilChange_24 : decode cX0_untilChange 24 = .ok (.iinc 3 1, 3) := by decide +kernel
theorem dX0_untilChange_27 : decode cX0_untilChange 27 = .ok (.goto (-20), 3) := by decide +kernel
theorem dX0_untilChange_30 : decode cX0_untilChange 30 = .ok (.iconst (-1), 1) := by decide +kernel
theorem dX0_untilChange_31 : decode cX0_untilChange 31 = .ok (.ireturn, 1) := by decide +kernel
theorem dX0_isOdd_0 : decode cX0_isOdd 0 = .ok (.iload_n 0, 1) := by decide +kernel
theorem dX0_isOdd_1 : decode cX0_isOdd 1 = .ok (.iconst 1, 1) := by decide +kernel
theorem dX0_isOdd_2 : decode cX0_isOdd 2 = .ok (.iand, 1) := by decide +kernel
theorem dX0_isOdd_3 : decode cX0_isOdd 3 = .ok (.iconst 1, 1) := by decide +kernel
theorem dX0_isOdd_4 : decode cX0_isOdd 4 = .ok (.if_icmp .ne 7, 3) := by decide +kernel
theorem dX0_isOdd_7 : decode cX0_isOdd 7 = .ok (.iconst 1, 1) := by decide +kernel
theorem dX0_isOdd_8 : decode cX0_isOdd 8 = .ok (.goto 4, 3) := by decide +kernel
theorem dX0_isOdd_11 : decode cX0_isOdd 11 = .ok (.iconst 0, 1) := by decide +kernel
theorem dX0_isOdd_12 : decode cX0_isOdd 12 = .ok (.ireturn, 1) := by decide +kernel
end
section
/-! MY WORDS: what is taken of the machine's surroundings (EN), a contract's start (PC), ends (QcRead, QV, QOk, QOkv, QW), calls in short rows -/
def NUMf : Nat → Nat := fun j => match j with
  | 0 => 2
  | 1 => 3
  | 2 => 5
  | 3 => 7
  | 4 => 11
  | _ => 13
def bI (b : Bool) : Int32 := if b = true then 1 else 0
def nestF : List (String × Nat × String × String × String) := [("LanternPrimes", 31, "LanternPrimes$Lamp", "onAtStart", "Z"), ("LanternPrimes", 46, "LanternPrimes$Lamp", "beatCount", "I"), ("LanternPrimes", 57, "LanternPrimes$Lamp", "numbers", "[I"), ("LanternPrimes", 61, "LanternPrimes$Lamp", "offsets", "[I"), ("LanternPrimes", 67, "LanternPrimes$Lamp", "covered", "Z"), ("LanternPrimes$Lamp", 59, "LanternPrimes", "NUMBERS", "[I")]
def strWs : List (Nat × String) := [(26, "there are 8 lamps"), (49, "the lamp has 4 beats"), (143, "there is no such lamp"), (146, "there is no such beat"), (150, "both lamps are the same"), (156, "the number is none of 2, 3, 5, 7, 11 and 13"), (158, "the offset is not 0 to the number less 1"), (161, "the moment is not 0 to 60000"), (163, "the moments are too few or too many")]
abbrev tISE : String := "java/lang/IllegalStateException"
abbrev tIOB : String := "java/lang/IndexOutOfBoundsException"
abbrev tIAE : String := "java/lang/IllegalArgumentException"
def ncWs : List (String × String) := [(tIAE, tIOB), (tISE, tIOB), (tISE, tIAE), (tIOB, tIAE)]
def thrY : List String := ["java/lang/RuntimeException", "java/lang/Exception", "java/lang/Throwable"]
def excX : List String := [tISE, tIOB, tIAE]
theorem castWarm {X : String} {s U : State} (hW : s.WarmedH U.vm) (hZ : va_Nw (.castable X X) s) : va_Nw (.castable X X) U := va_tabs rfl (rfl : (s.setVm U.vm).vm = U.vm) (by rw [Cond.castable_setVm hW.alike]; exact hZ)
/-- the surroundings: Throwable's two statics, the links of nest mates, the texts, the array NUMBERS, what isn't castable; none of it in A -/
def EN (A : Nat → Prop) (U : State) (H : Heap) : Prop :=
  (vx_Zq Bundle.tN "UNASSIGNED_STACK" Bundle.steD A U H ∧ vx_Zq Bundle.tN "SUPPRESSED_SENTINEL" Bundle.listD A U H) ∧
  ((∀ q ∈ nestF, va_Nw (.fieldLinkNest q.1 q.2.1 q.2.2.1 q.2.2.2.1 q.2.2.2.2 "LanternPrimes") U) ∧ va_Nw (.methodLinkNest "LanternPrimes" 15 yX0_init "LanternPrimes") U) ∧
  (((∀ q ∈ strWs, ∃ sa, vk_R "LanternPrimes" q.1 q.2 sa U) ∧ ∀ q ∈ ncWs, va_Nc q.1 q.2 U) ∧ (∀ Y ∈ thrY, va_Nw (.declares (Bundle.initS Y)) U) ∧ ∀ X ∈ excX, va_Nw (.castable X X) U) ∧
  ∃ na, va_Z "LanternPrimes" "NUMBERS" "[I" (.ref na) A U H ∧ va_T .int na 6 (fun j => .int (nI (NUMf j))) A U H
theorem EN.warm {A : Nat → Prop} {s U : State} {H : Heap} (hW : s.WarmedH U.vm) (h : EN A s H) : EN A U H := by
  obtain ⟨⟨h1, h2⟩, ⟨h3, h4⟩, ⟨⟨h5, h6⟩, h9, h10⟩, na, h7, h8⟩ := h
  refine ⟨⟨vx_Zq.moved hW.alike h1, vx_Zq.moved hW.alike h2⟩, ⟨fun q hq => va_Nw.warmF hW (h3 q hq), va_Nw.warmM hW h4⟩, ⟨⟨fun q hq => ?_, fun q hq => ?_⟩, fun Y hY => va_Nw.warmD hW (h9 Y hY), fun X hX => castWarm hW (h10 X hX)⟩, na, va_Z.moved hW.alike h7, va_T.moved hW.alike h8⟩
  · obtain ⟨sa, ha⟩ := h5 q hq
    exact ⟨sa, vk_R.warm hW ha⟩
  · exact va_Nc.moved hW.alike (h6 q hq)
theorem EN.same {A : Nat → Prop} {u U : State} {H : Heap} (h : u.vm = U.vm) (hE : EN A u H) : EN A U H := by
  have hW : u.WarmedH U.vm := by rw [← h]; exact State.WarmedH.refl u
  exact hE.warm hW
theorem EN.kept {A : Nat → Prop} {U : State} {H H1 : Heap} (h : EN A U H) (hq : ∀ a : Nat, a < H.size → ¬ A a → H1[a]? = H[a]?) : EN A U H1 := by
  obtain ⟨⟨h1, h2⟩, h3, h5, na, h7, h8⟩ := h
  exact ⟨⟨h1.kept hq, h2.kept hq⟩, h3, h5, na, h7.kept hq, h8.kept hq⟩
theorem EN.narrow {A B : Nat → Prop} {U : State} {H : Heap} (h : EN A U H) (hAB : ∀ q, B q → A q) : EN B U H := by
  obtain ⟨⟨h1, h2⟩, h3, h5, na, h7, h8⟩ := h
  exact ⟨⟨h1.narrow hAB, h2.narrow hAB⟩, h3, h5, na, h7.narrow hAB, h8.narrow hAB⟩
/-- a contract's start -/
def PC (D : va_G) (T : List (ClassId × FieldType)) (A : Nat → Prop) (av : List Value) (Ph : Heap → Prop) : Array Value → State → Prop := fun a U => a = av.toArray ∧ va_K D vwCl T U ∧ EN A U U.heap ∧ Ph U.heap
theorem PC_blind {D : va_G} {T : List (ClassId × FieldType)} {A : Nat → Prop} {av : List Value} {Ph : Heap → Prop} : FrameBlind (PC D T A av Ph) := fun a U g mk q =>
  ⟨q.1, va_K.moved (u := U) (U := U.calling g mk a) (Vm.Alike.refl U.vm) q.2.1, EN.same (u := U) (U := U.calling g mk a) rfl q.2.2.1, q.2.2.2⟩
def noA : Nat → Prop := fun _ => False
/-- an end that reads only, and answers nothing -/
def QV : Array Value → State → Outcome → State → Prop := fun _ st o t => o = .returned none ∧ t.heap = st.heap
def QLg (r : Int64) : Array Value → State → Outcome → State → Prop := fun _ st o t => o = .returned (some (.long r)) ∧ t.heap = st.heap
/-- .. that returns only if .. -/
def QOk (ok : Prop) (r : Int32) : Array Value → State → Outcome → State → Prop := fun _ st o t => ok ∧ o = .returned (some (.int r)) ∧ t.heap = st.heap
def QOkv (ok : Prop) : Array Value → State → Outcome → State → Prop := fun _ st o t => ok ∧ o = .returned none ∧ t.heap = st.heap
/-- a throw: which, and every old cell is as it was -/
def XC1 (px : String → Prop) : String → State → State → Prop := fun E st t => px E ∧ st.heap.size ≤ t.heap.size ∧ ∀ q : Nat, q < st.heap.size → t.heap[q]? = st.heap[q]?
/-- an end that writes: the answer, the new heap, what isn't in A stays -/
def QW (A : Nat → Prop) (ok : Prop) (r : Int32) (Ph : Heap → Prop) : Array Value → State → Outcome → State → Prop := fun _ st o t => ok ∧ o = .returned (some (.int r)) ∧ Ph t.heap ∧ va_F A st t
def QWv (A : Nat → Prop) (Ph : Heap → Prop) : Array Value → State → Outcome → State → Prop := fun _ st o t => o = .returned none ∧ Ph t.heap ∧ va_F A st t
section MyCalls
variable {p : Program} {l : Launch} {e : Env} {R : Room} {s : State} {m : MethodId} {args : Array Value} {below : List Frame} {meth : Method} {c : Code} {H : Heap} {locs : List Loc} {cells slots : Nat} {Q : State → Prop}
variable {y : MethodName} {bytes cc : ByteArray} {maxL nL n index pc : Nat} {ret : Option FieldType} {ws : List Cond} {rm : Room} {Ts : List Cond} {own C : String} {b : Addr} {As rest st : List Value} {ls : Array Slot}
variable {D : va_G} {T : List (ClassId × FieldType)} {A1 : Nat → Prop} {Ph : Heap → Prop}
/-- a receiver -/
def RC (s : State) (H : Heap) (C : String) (b : Addr) : Prop := ∃ cellB : Cell, H[b]? = some cellB ∧ cellB.vm.isStatics = false ∧ s.vm.findClass C = some cellB.cls
theorem PCuse (hK : va_K D vwCl T s) (hE : EN A1 s H) (hPh : Ph H) : ∀ U : State, U.heap = H → s.WarmedH U.vm → PC D T A1 As Ph As.toArray U := fun U hU hW =>
  ⟨rfl, va_K.moved hW.alike hK, by rw [hU]; exact hE.warm hW, by rw [hU]; exact hPh⟩
theorem rV {r : Int32} (S : CallFix p m c cc nL s args Ts own) (hM : Met l y ws rm (PC D T A1 (.ref b :: As) Ph) (QcRead r) 0 0 (fun _ => False)) (cw : CallW R s args own C index y bytes maxL ret ws rm 0 0 n) (hK : va_K D vwCl T s) (hE : EN A1 s H) (hPh : Ph H) (hr : RC s H C b)
    (hn : As.length = n) (hsize : ls.size = nL) (hst : st = As.reverse ++ .ref b :: rest) (hW : (rest.map fun v => v.category).sum ≤ 8) (hdg : decode cc pc = .ok (.invokevirtual index, 3)) (hf : cells ≤ R.cells ∧ slots ≤ R.slots)
    (kk : W p l e R s m args below meth c H locs cells slots Q (F0 m (pc + 3) ls (.int r :: rest))) : W p l e R s m args below meth c H locs cells slots Q (F0 m pc ls st) :=
  W.callR (g := F0 m pc ls st) (W.runV S hM cw ⟨PC_blind, hr, PCuse hK hE hPh⟩ rfl hn hsize hst (lv_room hW) hdg hf) kk
theorem rS {r : Int32} (S : CallFix p m c cc nL s args Ts own) (hM : Met l y ws rm (PC D T A1 As Ph) (QcRead r) 0 0 (fun _ => False)) (cw : CallB R s args own index y bytes maxL ret ws rm 0 0 n ∧ (Cond.static y).before args s = true) (hK : va_K D vwCl T s) (hE : EN A1 s H) (hPh : Ph H)
    (hn : As.length = n) (hsize : ls.size = nL) (hst : st = As.reverse ++ rest) (hW : (rest.map fun v => v.category).sum ≤ 8) (hdg : decode cc pc = .ok (.invokestatic index, 3)) (hf : cells ≤ R.cells ∧ slots ≤ R.slots)
    (kk : W p l e R s m args below meth c H locs cells slots Q (F0 m (pc + 3) ls (.int r :: rest))) : W p l e R s m args below meth c H locs cells slots Q (F0 m pc ls st) :=
  W.callR (g := F0 m pc ls st) (W.runS S hM cw ⟨PC_blind, PCuse hK hE hPh⟩ rfl hn hsize hst (lv_room hW) hdg hf) kk
theorem callLg {r : Int64} {a : Array Value} {g : JFrame} (hr : CallRun p l e R s m args below meth c H locs cells slots 0 0 g rest (QLg r a) (fun _ => False)) (kk : W p l e R s m args below meth c H locs cells slots Q { g with pc := g.pc + 3, stack := .long r :: rest }) : W p l e R s m args below meth c H locs cells slots Q g := by
  intro T hT X
  obtain ⟨v, st₀, t, T', L, h0, X', hL, e1, ⟨hv, hh⟩, st⟩ := hr T hT X
  cases hv
  obtain ⟨t2, a1, b1⟩ := kk T' (by rw [e1, hh, h0]) (Stand.forget X' (fun q h => (hL q h).elim))
  exact ⟨t2, st t2 a1, b1⟩
theorem rVl {r : Int64} (S : CallFix p m c cc nL s args Ts own) (hM : Met l y ws rm (PC D T A1 (.ref b :: As) Ph) (QLg r) 0 0 (fun _ => False)) (cw : CallW R s args own C index y bytes maxL ret ws rm 0 0 n) (hK : va_K D vwCl T s) (hE : EN A1 s H) (hPh : Ph H) (hr : RC s H C b)
    (hn : As.length = n) (hsize : ls.size = nL) (hst : st = As.reverse ++ .ref b :: rest) (hW : (rest.map fun v => v.category).sum ≤ 8) (hdg : decode cc pc = .ok (.invokevirtual index, 3)) (hf : cells ≤ R.cells ∧ slots ≤ R.slots)
    (kk : W p l e R s m args below meth c H locs cells slots Q (F0 m (pc + 3) ls (.long r :: rest))) : W p l e R s m args below meth c H locs cells slots Q (F0 m pc ls st) :=
  callLg (g := F0 m pc ls st) (W.runV S hM cw ⟨PC_blind, hr, PCuse hK hE hPh⟩ rfl hn hsize hst (lv_room hW) hdg hf) kk
theorem rSl {r : Int64} (S : CallFix p m c cc nL s args Ts own) (hM : Met l y ws rm (PC D T A1 As Ph) (QLg r) 0 0 (fun _ => False)) (cw : CallB R s args own index y bytes maxL ret ws rm 0 0 n ∧ (Cond.static y).before args s = true) (hK : va_K D vwCl T s) (hE : EN A1 s H) (hPh : Ph H)
    (hn : As.length = n) (hsize : ls.size = nL) (hst : st = As.reverse ++ rest) (hW : (rest.map fun v => v.category).sum ≤ 8) (hdg : decode cc pc = .ok (.invokestatic index, 3)) (hf : cells ≤ R.cells ∧ slots ≤ R.slots)
    (kk : W p l e R s m args below meth c H locs cells slots Q (F0 m (pc + 3) ls (.long r :: rest))) : W p l e R s m args below meth c H locs cells slots Q (F0 m pc ls st) :=
  callLg (g := F0 m pc ls st) (W.runS S hM cw ⟨PC_blind, PCuse hK hE hPh⟩ rfl hn hsize hst (lv_room hW) hdg hf) kk
/-- a callee that writes: its cells are in A0 -/
theorem callW' {A0 : Nat → Prop} {H0 : Heap} {ok : Prop} {r : Int32} {Pn : Heap → Prop} {a : Array Value} {g : JFrame} {mc ms : Nat} (hr : CallRun p l e R s m args below meth c H locs cells slots mc ms g rest (QW A1 ok r Pn a) A1) (hS : va_S A0 H0 H locs) (hA : ∀ q, A1 q → A0 q)
    (kk : ∀ (H1 : Heap) (locs1 : List Loc), ok → Pn H1 → H.size ≤ H1.size → (∀ q : Nat, q < H.size → ¬ A1 q → H1[q]? = H[q]?) → va_S A0 H0 H1 locs1 → W p l e R s m args below meth c H1 locs1 (cells + mc) (slots + ms) Q { g with pc := g.pc + 3, stack := .int r :: rest }) : W p l e R s m args below meth c H locs cells slots Q g := by
  intro T hT X
  obtain ⟨v, st₀, t, T', L, h0, X', hL, e1, ⟨hok, hv, hp, hz, hk⟩, st⟩ := hr T hT X
  cases hv
  rw [h0] at hz hk
  obtain ⟨t2, a1, b1⟩ := kk t.heap (locs ++ L) hok hp hz hk ⟨Nat.le_trans hS.1 hz, fun q h1 h2 => by rw [hk q (Nat.lt_of_lt_of_le h1 hS.1) (fun z => h2 (hA q z))]; exact hS.2.1 q h1 h2, fun q hq => by
      rcases List.mem_append.mp hq with h | h
      · exact hS.2.2 q h
      · exact hA _ (hL q h)⟩ T' e1 X'
  exact ⟨t2, st t2 a1, b1⟩
theorem callWv {A0 : Nat → Prop} {H0 : Heap} {Pn : Heap → Prop} {a : Array Value} {g : JFrame} {mc ms : Nat} (hr : CallRun p l e R s m args below meth c H locs cells slots mc ms g rest (QWv A1 Pn a) A1) (hS : va_S A0 H0 H locs) (hA : ∀ q, A1 q → A0 q)
    (kk : ∀ (H1 : Heap) (locs1 : List Loc), Pn H1 → H.size ≤ H1.size → (∀ q : Nat, q < H.size → ¬ A1 q → H1[q]? = H[q]?) → va_S A0 H0 H1 locs1 → W p l e R s m args below meth c H1 locs1 (cells + mc) (slots + ms) Q { g with pc := g.pc + 3, stack := rest }) : W p l e R s m args below meth c H locs cells slots Q g := by
  intro T hT X
  obtain ⟨v, st₀, t, T', L, h0, X', hL, e1, ⟨hv, hp, hz, hk⟩, st⟩ := hr T hT X
  cases hv
  rw [h0] at hz hk
  obtain ⟨t2, a1, b1⟩ := kk t.heap (locs ++ L) hp hz hk ⟨Nat.le_trans hS.1 hz, fun q h1 h2 => by rw [hk q (Nat.lt_of_lt_of_le h1 hS.1) (fun z => h2 (hA q z))]; exact hS.2.1 q h1 h2, fun q hq => by
      rcases List.mem_append.mp hq with h | h
      · exact hS.2.2 q h
      · exact hA _ (hL q h)⟩ T' e1 X'
  exact ⟨t2, st t2 a1, b1⟩
/-- named values behind the arithmetic -/
theorem n_iadd {x y v : Int32} (hexec : p.tables.exec = Jvm.exec) (hb : c.code = cc) (hdg : decode cc pc = .ok (.iadd, 1)) (hv : x + y = v) (k : W p l e R s m args below meth c H locs cells slots Q (F0 m (pc + 1) ls (.int v :: rest))) : W p l e R s m args below meth c H locs cells slots Q (F0 m pc ls (.int y :: .int x :: rest)) := by
  subst hv; exact lv_iadd hexec hb hdg k
theorem n_isub {x y v : Int32} (hexec : p.tables.exec = Jvm.exec) (hb : c.code = cc) (hdg : decode cc pc = .ok (.isub, 1)) (hv : x - y = v) (k : W p l e R s m args below meth c H locs cells slots Q (F0 m (pc + 1) ls (.int v :: rest))) : W p l e R s m args below meth c H locs cells slots Q (F0 m pc ls (.int y :: .int x :: rest)) := by
  subst hv; exact lv_isub hexec hb hdg k
theorem n_imul {x y v : Int32} (hexec : p.tables.exec = Jvm.exec) (hb : c.code = cc) (hdg : decode cc pc = .ok (.imul, 1)) (hv : x * y = v) (k : W p l e R s m args below meth c H locs cells slots Q (F0 m (pc + 1) ls (.int v :: rest))) : W p l e R s m args below meth c H locs cells slots Q (F0 m pc ls (.int y :: .int x :: rest)) := by
  subst hv; exact lv_imul hexec hb hdg k
theorem n_iand {x y v : Int32} (hexec : p.tables.exec = Jvm.exec) (hb : c.code = cc) (hdg : decode cc pc = .ok (.iand, 1)) (hv : x &&& y = v) (k : W p l e R s m args below meth c H locs cells slots Q (F0 m (pc + 1) ls (.int v :: rest))) : W p l e R s m args below meth c H locs cells slots Q (F0 m pc ls (.int y :: .int x :: rest)) := by
  subst hv; exact lv_iand hexec hb hdg k
theorem n_ixor {x y v : Int32} (hexec : p.tables.exec = Jvm.exec) (hb : c.code = cc) (hdg : decode cc pc = .ok (.ixor, 1)) (hv : x ^^^ y = v) (k : W p l e R s m args below meth c H locs cells slots Q (F0 m (pc + 1) ls (.int v :: rest))) : W p l e R s m args below meth c H locs cells slots Q (F0 m pc ls (.int y :: .int x :: rest)) := by
  subst hv; exact lv_ixor hexec hb hdg k
theorem n_idiv {a d : Nat} (hexec : p.tables.exec = Jvm.exec) (hb : c.code = cc) (hdg : decode cc pc = .ok (.idiv, 1)) (ha : a < 2 ^ 31) (h0 : 0 < d) (hd : d < 2 ^ 31) (k : W p l e R s m args below meth c H locs cells slots Q (F0 m (pc + 1) ls (.int (nI (a / d)) :: rest))) : W p l e R s m args below meth c H locs cells slots Q (F0 m pc ls (.int (nI d) :: .int (nI a) :: rest)) :=
  lv_idiv hexec hb hdg (nI_ne0 h0 hd) (by rw [pk_div ha h0 hd]; exact k)
theorem n_irem {a d : Nat} (hexec : p.tables.exec = Jvm.exec) (hb : c.code = cc) (hdg : decode cc pc = .ok (.irem, 1)) (ha : a < 2 ^ 31) (h0 : 0 < d) (hd : d < 2 ^ 31) (k : W p l e R s m args below meth c H locs cells slots Q (F0 m (pc + 1) ls (.int (nI (a % d)) :: rest))) : W p l e R s m args below meth c H locs cells slots Q (F0 m pc ls (.int (nI d) :: .int (nI a) :: rest)) :=
  lv_irem hexec hb hdg (nI_ne0 h0 hd) (by rw [pk_rem ha h0 hd]; exact k)
theorem n_ti {x y : Int32} (h : x = y) (k : W p l e R s m args below meth c H locs cells slots Q (F0 m pc ls (.int y :: rest))) : W p l e R s m args below meth c H locs cells slots Q (F0 m pc ls (.int x :: rest)) := by
  subst h; exact k
/-- reads of an array at a known place -/
theorem n_iald {cl : List vw_C} {W1 : va_W} {a : Nat} (hexec : p.tables.exec = Jvm.exec) (hb : c.code = cc) (hK : va_K D cl T s) (hP : va_P D cl W1 H) (q0 t0 : Nat) {cA : ClassId} {N : Nat} {f : Nat → Int32} (ha : W1[q0]? = some (a, .inl (cA, N, .inl f))) (ht : T[t0]? = some (cA, .int)) {j : Nat} (hj : j < N) (hN : N < 2 ^ 31) {v : Int32} (hv : f j = v) (hdg : decode cc pc = .ok (.iaload, 1))
    (kk : W p l e R s m args below meth c H locs cells slots Q (F0 m (pc + 1) ls (.int v :: rest))) : W p l e R s m args below meth c H locs cells slots Q (F0 m pc ls (.int (nI j) :: .ref a :: rest)) :=
  va_iald hexec hb hK hP q0 t0 ha ht (vp_in_nI hj hN) hdg (by rw [nI_clamp (Nat.lt_trans hj hN), hv]; exact kk)
theorem n_zald {cl : List vw_C} {W1 : va_W} {a : Nat} (hexec : p.tables.exec = Jvm.exec) (hb : c.code = cc) (hK : va_K D cl T s) (hP : va_P D cl W1 H) (q0 t0 : Nat) {cA : ClassId} {N : Nat} {f : Nat → Int32} (ha : W1[q0]? = some (a, .inl (cA, N, .inl f))) (ht : T[t0]? = some (cA, .boolean)) {j : Nat} (hj : j < N) (hN : N < 2 ^ 31) {v : Int32} (hv : f j = v) (hdg : decode cc pc = .ok (.baload, 1))
    (kk : W p l e R s m args below meth c H locs cells slots Q (F0 m (pc + 1) ls (.int v :: rest))) : W p l e R s m args below meth c H locs cells slots Q (F0 m pc ls (.int (nI j) :: .ref a :: rest)) :=
  va_zald hexec hb hK hP q0 t0 ha ht (vp_in_nI hj hN) hdg (by rw [nI_clamp (Nat.lt_trans hj hN), hv]; exact kk)
theorem n_aald {cl : List vw_C} {W1 : va_W} {a : Nat} {Cn : String} (hexec : p.tables.exec = Jvm.exec) (hb : c.code = cc) (hK : va_K D cl T s) (hP : va_P D cl W1 H) (q0 t0 : Nat) {cA : ClassId} {N : Nat} {f : Nat → Option Nat} (ha : W1[q0]? = some (a, .inl (cA, N, .inr (.inr (.inr (.inr f)))))) (ht : T[t0]? = some (cA, .object Cn)) {j : Nat} (hj : j < N) (hN : N < 2 ^ 31) {v : Nat} (hv : f j = some v) (hdg : decode cc pc = .ok (.aaload, 1))
    (kk : W p l e R s m args below meth c H locs cells slots Q (F0 m (pc + 1) ls (.ref v :: rest))) : W p l e R s m args below meth c H locs cells slots Q (F0 m pc ls (.int (nI j) :: .ref a :: rest)) :=
  va_aldq hexec hb hK hP q0 t0 ha ht (vp_in_nI hj hN) hdg (by rw [nI_clamp (Nat.lt_trans hj hN), hv]; exact kk)
end MyCalls
/-- worlds of few cells out of single ones -/
theorem vp1 {D : va_G} {cl : List vw_C} {q : Nat × va_E} {H : Heap} (h : va_at D cl q H) : va_P D cl [q] H := by
  intro k r hk
  match k, hk with
  | 0, hk => cases hk; exact h
theorem vpc {D : va_G} {cl : List vw_C} {q : Nat × va_E} {ws : va_W} {H : Heap} (h : va_at D cl q H) (h2 : va_P D cl ws H) : va_P D cl (q :: ws) H := by
  intro k r hk
  match k, hk with
  | 0, hk => cases hk; exact h
  | k + 1, hk => exact h2 k r hk
theorem vpa {D : va_G} {cl : List vw_C} {ws : va_W} {H : Heap} (h : va_P D cl ws H) (k : Nat) {q : Nat × va_E} (hk : ws[k]? = some q) : va_at D cl q H := h k q hk
theorem RC_of {s : State} {H : Heap} {D : va_G} {T : List (ClassId × FieldType)} {a ci : Nat} {q : vw_C} {fs : List Value} (hK : va_K D vwCl T s) (hc : vwCl[ci]? = some q) (h : va_at D vwCl (a, .inr (ci, fs)) H) : RC s H q.1 a := va_recv (q0 := 0) hK (vp1 h) hc rfl
theorem nI_inj {a b : Nat} (ha : a < 2 ^ 31) (hb : b < 2 ^ 31) (h : nI a = nI b) : a = b := (nI_eq ha hb).mp h
theorem bI_t : bI true = 1 := rfl
theorem bI_f : bI false = 0 := rfl
theorem bI_narrow (b : Bool) : narrow .boolean (.int (bI b)) = .int (bI b) := by cases b <;> rfl
theorem bI_0 {b : Bool} : bI b = 0 ↔ b = false := by cases b <;> decide
theorem bI_ne0 {b : Bool} : ¬ bI b = 0 ↔ b = true := by cases b <;> decide
theorem one_nI : (1 : Int32) = nI 1 := rfl
theorem and1 {k : Nat} (h : k < 2 ^ 31) : nI k &&& 1 = nI (k % 2) := pk_andN (k := 1) (Nat.lt_trans h (by decide)) (by decide)
section MyBranches
variable {p : Program} {l : Launch} {e : Env} {R : Room} {s : State} {m : MethodId} {args : Array Value} {below : List Frame} {meth : Method} {c : Code} {H : Heap} {locs : List Loc} {cells slots : Nat} {Q : State → Prop}
variable {cc : ByteArray} {pc tgt : Nat} {off : Int} {rest : List Value} {ls : Array Slot} {a b : Nat}
theorem n_icmp_ge (hexec : p.tables.exec = Jvm.exec) (hb' : c.code = cc) (ha : a < 2 ^ 31) (hb : b < 2 ^ 31) (hdg : decode cc pc = .ok (.if_icmp .ge off, 3)) (ht : (pc : Int) + off = (tgt : Int))
    (kt : b ≤ a → W p l e R s m args below meth c H locs cells slots Q (F0 m tgt ls rest)) (kf : a < b → W p l e R s m args below meth c H locs cells slots Q (F0 m (pc + 3) ls rest)) : W p l e R s m args below meth c H locs cells slots Q (F0 m pc ls (.int (nI b) :: .int (nI a) :: rest)) :=
  lv_icmp_ge hexec hb' hdg ht (fun h => kt ((nI_leI hb ha).mp h)) (fun h => kf (Nat.lt_of_not_le fun z => h ((nI_leI hb ha).mpr z)))
theorem n_icmp_le (hexec : p.tables.exec = Jvm.exec) (hb' : c.code = cc) (ha : a < 2 ^ 31) (hb : b < 2 ^ 31) (hdg : decode cc pc = .ok (.if_icmp .le off, 3)) (ht : (pc : Int) + off = (tgt : Int))
    (kt : a ≤ b → W p l e R s m args below meth c H locs cells slots Q (F0 m tgt ls rest)) (kf : b < a → W p l e R s m args below meth c H locs cells slots Q (F0 m (pc + 3) ls rest)) : W p l e R s m args below meth c H locs cells slots Q (F0 m pc ls (.int (nI b) :: .int (nI a) :: rest)) :=
  lv_icmp_le hexec hb' hdg ht (fun h => kt ((nI_leI ha hb).mp h)) (fun h => kf (Nat.lt_of_not_le fun z => h ((nI_leI ha hb).mpr z)))
theorem n_icmp_lt (hexec : p.tables.exec = Jvm.exec) (hb' : c.code = cc) (ha : a < 2 ^ 31) (hb : b < 2 ^ 31) (hdg : decode cc pc = .ok (.if_icmp .lt off, 3)) (ht : (pc : Int) + off = (tgt : Int))
    (kt : a < b → W p l e R s m args below meth c H locs cells slots Q (F0 m tgt ls rest)) (kf : b ≤ a → W p l e R s m args below meth c H locs cells slots Q (F0 m (pc + 3) ls rest)) : W p l e R s m args below meth c H locs cells slots Q (F0 m pc ls (.int (nI b) :: .int (nI a) :: rest)) :=
  lv_icmp_lt hexec hb' hdg ht (fun h => kt ((nI_ltI ha hb).mp h)) (fun h => kf (Nat.le_of_not_lt fun z => h ((nI_ltI ha hb).mpr z)))
theorem n_icmp_gt (hexec : p.tables.exec = Jvm.exec) (hb' : c.code = cc) (ha : a < 2 ^ 31) (hb : b < 2 ^ 31) (hdg : decode cc pc = .ok (.if_icmp .gt off, 3)) (ht : (pc : Int) + off = (tgt : Int))
    (kt : b < a → W p l e R s m args below meth c H locs cells slots Q (F0 m tgt ls rest)) (kf : a ≤ b → W p l e R s m args below meth c H locs cells slots Q (F0 m (pc + 3) ls rest)) : W p l e R s m args below meth c H locs cells slots Q (F0 m pc ls (.int (nI b) :: .int (nI a) :: rest)) :=
  lv_icmp_gt hexec hb' hdg ht (fun h => kt ((nI_ltI hb ha).mp h)) (fun h => kf (Nat.le_of_not_lt fun z => h ((nI_ltI hb ha).mpr z)))
theorem n_icmp_eq (hexec : p.tables.exec = Jvm.exec) (hb' : c.code = cc) (ha : a < 2 ^ 31) (hb : b < 2 ^ 31) (hdg : decode cc pc = .ok (.if_icmp .eq off, 3)) (ht : (pc : Int) + off = (tgt : Int))
    (kt : a = b → W p l e R s m args below meth c H locs cells slots Q (F0 m tgt ls rest)) (kf : ¬ a = b → W p l e R s m args below meth c H locs cells slots Q (F0 m (pc + 3) ls rest)) : W p l e R s m args below meth c H locs cells slots Q (F0 m pc ls (.int (nI b) :: .int (nI a) :: rest)) :=
  lv_icmp_eq hexec hb' hdg ht (fun h => kt ((nI_eq ha hb).mp h)) (fun h => kf fun z => h ((nI_eq ha hb).mpr z))
theorem n_icmp_ne (hexec : p.tables.exec = Jvm.exec) (hb' : c.code = cc) (ha : a < 2 ^ 31) (hb : b < 2 ^ 31) (hdg : decode cc pc = .ok (.if_icmp .ne off, 3)) (ht : (pc : Int) + off = (tgt : Int))
    (kt : ¬ a = b → W p l e R s m args below meth c H locs cells slots Q (F0 m tgt ls rest)) (kf : a = b → W p l e R s m args below meth c H locs cells slots Q (F0 m (pc + 3) ls rest)) : W p l e R s m args below meth c H locs cells slots Q (F0 m pc ls (.int (nI b) :: .int (nI a) :: rest)) :=
  lv_icmp_ne hexec hb' hdg ht (fun h => kt fun z => h ((nI_eq ha hb).mpr z)) (fun h => kf ((nI_eq ha hb).mp h))
theorem n_if_eq (hexec : p.tables.exec = Jvm.exec) (hb' : c.code = cc) (ha : a < 2 ^ 31) (hdg : decode cc pc = .ok (.ifCond .eq off, 3)) (ht : (pc : Int) + off = (tgt : Int))
    (kt : a = 0 → W p l e R s m args below meth c H locs cells slots Q (F0 m tgt ls rest)) (kf : ¬ a = 0 → W p l e R s m args below meth c H locs cells slots Q (F0 m (pc + 3) ls rest)) : W p l e R s m args below meth c H locs cells slots Q (F0 m pc ls (.int (nI a) :: rest)) :=
  lv_if_eq hexec hb' hdg ht (fun h => kt ((nI_eq ha (by decide)).mp h)) (fun h => kf fun z => h ((nI_eq ha (by decide)).mpr z))
theorem n_if_ne (hexec : p.tables.exec = Jvm.exec) (hb' : c.code = cc) (ha : a < 2 ^ 31) (hdg : decode cc pc = .ok (.ifCond .ne off, 3)) (ht : (pc : Int) + off = (tgt : Int))
    (kt : ¬ a = 0 → W p l e R s m args below meth c H locs cells slots Q (F0 m tgt ls rest)) (kf : a = 0 → W p l e R s m args below meth c H locs cells slots Q (F0 m (pc + 3) ls rest)) : W p l e R s m args below meth c H locs cells slots Q (F0 m pc ls (.int (nI a) :: rest)) :=
  lv_if_ne hexec hb' hdg ht (fun h => kt fun z => h ((nI_eq ha (by decide)).mpr z)) (fun h => kf ((nI_eq ha (by decide)).mp h))
theorem n_if_le (hexec : p.tables.exec = Jvm.exec) (hb' : c.code = cc) (ha : a < 2 ^ 31) (hdg : decode cc pc = .ok (.ifCond .le off, 3)) (ht : (pc : Int) + off = (tgt : Int))
    (kt : a = 0 → W p l e R s m args below meth c H locs cells slots Q (F0 m tgt ls rest)) (kf : 0 < a → W p l e R s m args below meth c H locs cells slots Q (F0 m (pc + 3) ls rest)) : W p l e R s m args below meth c H locs cells slots Q (F0 m pc ls (.int (nI a) :: rest)) :=
  lv_if_le hexec hb' hdg ht (fun h => kt (Nat.le_zero.mp ((nI_leI ha (by decide)).mp (show nI a ≤ nI 0 from h)))) (fun h => kf (Nat.pos_of_ne_zero fun z => h (by rw [z]; decide)))
theorem n_if_gt (hexec : p.tables.exec = Jvm.exec) (hb' : c.code = cc) (ha : a < 2 ^ 31) (hdg : decode cc pc = .ok (.ifCond .gt off, 3)) (ht : (pc : Int) + off = (tgt : Int))
    (kt : 0 < a → W p l e R s m args below meth c H locs cells slots Q (F0 m tgt ls rest)) (kf : a = 0 → W p l e R s m args below meth c H locs cells slots Q (F0 m (pc + 3) ls rest)) : W p l e R s m args below meth c H locs cells slots Q (F0 m pc ls (.int (nI a) :: rest)) :=
  lv_if_gt hexec hb' hdg ht (fun h => kt ((nI_ltI (by decide) ha).mp (show nI 0 < nI a from h))) (fun h => kf (Nat.eq_zero_of_not_pos fun z => h (show nI 0 < nI a from (nI_ltI (by decide) ha).mpr z)))
theorem n_if_lt (hexec : p.tables.exec = Jvm.exec) (hb' : c.code = cc) (ha : a < 2 ^ 31) (hdg : decode cc pc = .ok (.ifCond .lt off, 3)) (ht : (pc : Int) + off = (tgt : Int))
    (kf : W p l e R s m args below meth c H locs cells slots Q (F0 m (pc + 3) ls rest)) : W p l e R s m args below meth c H locs cells slots Q (F0 m pc ls (.int (nI a) :: rest)) :=
  lv_if_lt hexec hb' hdg ht (fun h => absurd h (nI_pos ha)) (fun _ => kf)
theorem b_if_eq {b : Bool} (hexec : p.tables.exec = Jvm.exec) (hb' : c.code = cc) (hdg : decode cc pc = .ok (.ifCond .eq off, 3)) (ht : (pc : Int) + off = (tgt : Int))
    (kt : b = false → W p l e R s m args below meth c H locs cells slots Q (F0 m tgt ls rest)) (kf : b = true → W p l e R s m args below meth c H locs cells slots Q (F0 m (pc + 3) ls rest)) : W p l e R s m args below meth c H locs cells slots Q (F0 m pc ls (.int (bI b) :: rest)) :=
  lv_if_eq hexec hb' hdg ht (fun h => kt (bI_0.mp h)) (fun h => kf (bI_ne0.mp h))
theorem b_if_ne {b : Bool} (hexec : p.tables.exec = Jvm.exec) (hb' : c.code = cc) (hdg : decode cc pc = .ok (.ifCond .ne off, 3)) (ht : (pc : Int) + off = (tgt : Int))
    (kt : b = true → W p l e R s m args below meth c H locs cells slots Q (F0 m tgt ls rest)) (kf : b = false → W p l e R s m args below meth c H locs cells slots Q (F0 m (pc + 3) ls rest)) : W p l e R s m args below meth c H locs cells slots Q (F0 m pc ls (.int (bI b) :: rest)) :=
  lv_if_ne hexec hb' hdg ht (fun h => kt (bI_ne0.mp h)) (fun h => kf (bI_0.mp h))
end MyBranches
/-! calls of what may throw -/
section MyThrows
variable {p : Program} {l : Launch} {e : Env} {R : Room} {s : State} {m : MethodId} {args : Array Value} {below : List Frame} {meth : Method} {c : Code} {H : Heap} {locs : List Loc} {cells slots : Nat} {Q : State → Prop}
variable {y : MethodName} {bytes cc : ByteArray} {maxL nL n index pc : Nat} {ret : Option FieldType} {ws : List Cond} {rm : Room} {Ts : List Cond} {own C : String} {b : Addr} {As rest st : List Value} {ls : Array Slot}
variable {D : va_G} {T : List (ClassId × FieldType)} {A1 : Nat → Prop} {Ph : Heap → Prop} {ok : Prop} {px px' : String → Prop} {mc ms MC MS : Nat} {a : Array Value} {Qc : Array Value → State → Outcome → State → Prop} {free : Addr → Prop}
theorem xcorev (hr : vx_Run p l e R s m args below meth c H locs cells slots mc ms (F0 m pc ls st) rest (QOkv ok a) (XC1 px) (fun _ => False))
    (kx : ∀ (E : String) (ce : Cell) (q9 : Addr) (H1 : Heap), px E → H.size ≤ H1.size → (∀ q : Nat, q < H.size → H1[q]? = H[q]?) → H1[q9]? = some ce → ce.vm = .none → s.vm.findClass E = some ce.cls → vx_W p l e R s m args below meth c H1 locs (cells + mc) (slots + ms) Q (F0 m pc ls rest) q9)
    (kk : ok → W p l e R s m args below meth c H locs (cells + mc) (slots + ms) Q (F0 m (pc + 3) ls rest)) : W p l e R s m args below meth c H locs cells slots Q (F0 m pc ls st) := by
  intro T hT X
  rcases hr T hT X with ⟨v, st₀, t, T', L, h0, X', hL, e1, e2, ⟨hok, hv, hh⟩, st⟩ | ⟨q, st₀, t, T', L, E, ce, h0, X', hL, e1, e2, ⟨hp, hz, hk⟩, hce, hcv, hcl, st⟩
  · cases hv
    obtain ⟨t2, a1, b1⟩ := kk hok T' (by rw [e1, hh, h0]) (Stand.forget X' (fun q h => (hL q h).elim))
    exact ⟨t2, st t2 a1, b1⟩
  · rw [h0] at hz hk
    obtain ⟨t2, a1, b1⟩ := kx E ce q T'.heap hp (by rw [e1]; exact hz) (fun q hq => by rw [e1]; exact hk q hq) (by rw [e1]; exact hce) hcv hcl T' rfl (Stand.forget X' (fun q h => (hL q h).elim))
    exact ⟨t2, st.trans a1, b1⟩
/-- it goes on to the caller: nothing was written -/
theorem xpass {E : String} {ce : Cell} {q9 : Addr} {H1 : Heap} (hex : ∀ x ∈ c.exceptionTable.toList, False) (hlocks : meth.locks = false) (hp : px' E) (hz : s.heap.size ≤ H1.size) (hk : ∀ q : Nat, q < s.heap.size → H1[q]? = s.heap[q]?) (hce : H1[q9]? = some ce) (hcv : ce.vm = .none) (hcl : s.vm.findClass E = some ce.cls) (hc : cells ≤ MC) (hs : slots ≤ MS) :
    vx_W p l e R s m args below meth c H1 [] cells slots (vx_MQ below Qc (XC1 px') args s MC MS free) (F0 m pc ls rest) q9 :=
  vx_out (fun x hx => (hex x hx).elim) hlocks hce hcv hcl (fun t ht _ => ⟨hp, by rw [ht]; exact hz, fun q hq => by rw [ht]; exact hk q hq⟩) (fun z hz => by cases hz) hc hs
theorem xVp (S : CallFix p m c cc nL s args Ts own) (hM : vx_Met l y ws rm (PC D T A1 (.ref b :: As) Ph) (QOkv ok) (XC1 px) mc ms (fun _ => False)) (cw : CallW R s args own C index y bytes maxL ret ws rm mc ms n) (hK : va_K D vwCl T s) (hE : EN A1 s s.heap) (hPh : Ph s.heap) (hr : RC s s.heap C b)
    (hn : As.length = n) (hsize : ls.size = nL) (hst : st = As.reverse ++ .ref b :: rest) (hW : (rest.map fun v => v.category).sum ≤ 8) (hdg : decode cc pc = .ok (.invokevirtual index, 3)) (hf : cells + mc ≤ R.cells ∧ slots + ms ≤ R.slots)
    (hex : ∀ x ∈ c.exceptionTable.toList, False) (hlocks : meth.locks = false) (hpx : ∀ E, px E → px' E) (hc : cells + mc ≤ MC) (hs : slots + ms ≤ MS)
    (kk : ok → W p l e R s m args below meth c s.heap [] (cells + mc) (slots + ms) (vx_MQ below Qc (XC1 px') args s MC MS free) (F0 m (pc + 3) ls rest)) :
    W p l e R s m args below meth c s.heap [] cells slots (vx_MQ below Qc (XC1 px') args s MC MS free) (F0 m pc ls st) :=
  xcorev (vx_runV (g := F0 m pc ls st) S hM cw ⟨PC_blind, hr, PCuse hK hE hPh⟩ rfl hn hsize hst (lv_room hW) hdg hf) (fun E ce q9 H1 hp hz hk hce hcv hcl => xpass hex hlocks (hpx E hp) hz hk hce hcv hcl hc hs) kk
theorem xSp (S : CallFix p m c cc nL s args Ts own) (hM : vx_Met l y ws rm (PC D T A1 As Ph) (QOkv ok) (XC1 px) mc ms (fun _ => False)) (cw : CallB R s args own index y bytes maxL ret ws rm mc ms n ∧ (Cond.static y).before args s = true) (hK : va_K D vwCl T s) (hE : EN A1 s s.heap) (hPh : Ph s.heap)
    (hn : As.length = n) (hsize : ls.size = nL) (hst : st = As.reverse ++ rest) (hW : (rest.map fun v => v.category).sum ≤ 8) (hdg : decode cc pc = .ok (.invokestatic index, 3)) (hf : cells + mc ≤ R.cells ∧ slots + ms ≤ R.slots)
    (hex : ∀ x ∈ c.exceptionTable.toList, False) (hlocks : meth.locks = false) (hpx : ∀ E, px E → px' E) (hc : cells + mc ≤ MC) (hs : slots + ms ≤ MS)
    (kk : ok → W p l e R s m args below meth c s.heap [] (cells + mc) (slots + ms) (vx_MQ below Qc (XC1 px') args s MC MS free) (F0 m (pc + 3) ls rest)) :
    W p l e R s m args below meth c s.heap [] cells slots (vx_MQ below Qc (XC1 px') args s MC MS free) (F0 m pc ls st) :=
  xcorev (vx_runS (g := F0 m pc ls st) S hM cw ⟨PC_blind, PCuse hK hE hPh⟩ rfl hn hsize hst (lv_room hW) hdg hf) (fun E ce q9 H1 hp hz hk hce hcv hcl => xpass hex hlocks (hpx E hp) hz hk hce hcv hcl hc hs) kk
/-- throw new X("a text"), nothing written yet -/
def thrB (X : String) : List Cond := [.declares (Bundle.initS "java/lang/RuntimeException"), .declares (Bundle.initS "java/lang/Exception"), .declares (Bundle.initS "java/lang/Throwable"), .castable X X]
abbrev atX (ic : Nat) (X : String) : List Cond := vx_atS RX1 ic X ["java/lang/RuntimeException", "java/lang/Exception"]
theorem xthrow {pc : Nat} {cls text : String} {ik is ic : Nat} (hX : cls ∈ excX) (hcls : Bundle.fit cls = true)
    (hgood : ∀ w ∈ Cond.classLink RX1 ik cls :: Cond.initialized cls :: atX ic cls, vx_ot w = true) (hnb : ∀ w ∈ (atX ic cls).filter (fun w => !goodWord w), w ∈ thrB cls)
    (hexec : p.tables.exec = Jvm.exec) (hb : c.code = cc) (hl : l.stackTraces = false)
    (hown : s.vm.findClass RX1 = some m.cls)
    (hk : (Cond.classLink RX1 ik cls).before args s = true) (hini : (Cond.initialized cls).before args s = true) (hstr : (is, text) ∈ strWs) (hg : ∀ w ∈ (atX ic cls).filter goodWord, w.before args s = true)
    (hE : EN noA s s.heap) (hsize : ls.size = c.maxLocals)
    (d0 : decode cc pc = .ok (.new ik, 3)) (d3 : decode cc (pc + 3) = .ok (.dup, 1)) (d4 : decode cc (pc + 4) = .ok (.ldc is, 2)) (d6 : decode cc (pc + 6) = .ok (.invokespecial ic, 3)) (d9 : decode cc (pc + 9) = .ok (.athrow, 1))
    (hex : ∀ x ∈ c.exceptionTable.toList, False)
    (hRframes : 5 < R.frames) (hRlocals : (rest.map fun v => v.category).sum + 82 ≤ R.locals) (hRcells : cells + 1 ≤ R.cells) (hRslots : slots + 6 ≤ R.slots) (hlocks : meth.locks = false)
    (hp : px' cls) (hc : cells + 1 ≤ MC) (hs : slots + 6 ≤ MS) :
    W p l e R s m args below meth c s.heap [] cells slots (vx_MQ below Qc (XC1 px') args s MC MS free) (F0 m pc ls rest) := by
  obtain ⟨⟨hU, hN⟩, -, ⟨⟨h5, -⟩, h9, h10⟩, -⟩ := hE
  obtain ⟨sa, hsa⟩ := h5 _ hstr
  have hB : ∀ w ∈ thrB cls, w.before args s = true := vx_c (va_Nw.use rfl (h9 _ (List.mem_of_getElem? (i := 0) rfl))) (vx_c (va_Nw.use rfl (h9 _ (List.mem_of_getElem? (i := 1) rfl))) (vx_c (va_Nw.use rfl (h9 _ (List.mem_of_getElem? (i := 2) rfl))) (vx_c (va_Nw.use rfl (h10 _ hX)) vx_n)))
  exact vx_throwS hexec hb hl hown hcls (by decide +kernel) hk hini hsa (vx_hat hg hnb hB) hgood hU hN va_S.rf hsize d0 d3 d4 d6 d9 (fun x hx => (hex x hx).elim) hRframes hRlocals hRcells hRslots hlocks
    (fun t _ hz hk2 => ⟨hp, hz, hk2⟩) (fun z hz => by cases hz) hc hs
theorem gISE : ∀ w ∈ Cond.classLink RX1 24 tISE :: Cond.initialized tISE :: atX 28 tISE, vx_ot w = true := by decide +kernel
theorem nISE : ∀ w ∈ (atX 28 tISE).filter (fun w => !goodWord w), w ∈ thrB tISE := by decide +kernel
theorem gIOB : ∀ w ∈ Cond.classLink RX1 141 tIOB :: Cond.initialized tIOB :: atX 145 tIOB, vx_ot w = true := by decide +kernel
theorem nIOB : ∀ w ∈ (atX 145 tIOB).filter (fun w => !goodWord w), w ∈ thrB tIOB := by decide +kernel
theorem gIAE : ∀ w ∈ Cond.classLink RX1 148 tIAE :: Cond.initialized tIAE :: atX 152 tIAE, vx_ot w = true := by decide +kernel
theorem nIAE : ∀ w ∈ (atX 152 tIAE).filter (fun w => !goodWord w), w ∈ thrB tIAE := by decide +kernel
theorem fISE : Bundle.fit tISE = true := by decide +kernel
theorem fIOB : Bundle.fit tIOB = true := by decide +kernel
theorem fIAE : Bundle.fit tIAE = true := by decide +kernel
theorem xISE : tISE ∈ excX := List.mem_of_getElem? (i := 0) rfl
theorem xIOB : tIOB ∈ excX := List.mem_of_getElem? (i := 1) rfl
theorem xIAE : tIAE ∈ excX := List.mem_of_getElem? (i := 2) rfl
end MyThrows
theorem nI_inc (a : Nat) : nI a + Int32.ofInt 1 = nI (a + 1) := nI_1 a
theorem bI_fits (b : Bool) : fits .boolean (.int (bI b)) = true := by cases b <;> rfl
theorem bI_nar (b : Bool) : vp_nar .boolean (bI b) = bI b := by cases b <;> rfl
section MyStores
variable {p : Program} {l : Launch} {e : Env} {R : Room} {s : State} {m : MethodId} {args : Array Value} {below : List Frame} {meth : Method} {c : Code} {H : Heap} {locs : List Loc} {cells slots : Nat} {Q : State → Prop}
variable {cc : ByteArray} {pc : Nat} {ls : Array Slot} {rest : List Value} {D : va_G} {cl : List vw_C} {A : Nat → Prop} {a : Nat} {T : List (ClassId × FieldType)} {W1 : va_W} {H0 : Heap}
theorem n_iast (hexec : p.tables.exec = Jvm.exec) (hb : c.code = cc) (hK : va_K D cl T s) (hP : va_P D cl W1 H) (hD : va_D A W1) (hS : va_S A H0 H locs) (q0 t0 : Nat) {cA : ClassId} {N : Nat} {f f' : Nat → Int32} (ha : W1[q0]? = some (a, .inl (cA, N, .inl f))) (ht : T[t0]? = some (cA, .int)) {j : Nat} {x : Int32} (hj : j < N) (hN : N < 2 ^ 31) (hf : upd f j x = f') (hdg : decode cc pc = .ok (.iastore, 1))
    (kk : ∀ (H1 : Heap) (locs1 : List Loc), va_P D cl (W1.set q0 (a, .inl (cA, N, .inl f'))) H1 → va_D A (W1.set q0 (a, .inl (cA, N, .inl f'))) → va_S A H0 H1 locs1 → W p l e R s m args below meth c H1 locs1 cells slots Q (F0 m (pc + 1) ls rest)) : W p l e R s m args below meth c H locs cells slots Q (F0 m pc ls (.int x :: .int (nI j) :: .ref a :: rest)) :=
  va_iast hexec hb hK hP hD hS q0 t0 ha ht (vp_in_nI hj hN) hdg (by rw [nI_clamp (Nat.lt_trans hj hN), hf]; exact kk)
theorem n_zast (hexec : p.tables.exec = Jvm.exec) (hb : c.code = cc) (hK : va_K D cl T s) (hP : va_P D cl W1 H) (hD : va_D A W1) (hS : va_S A H0 H locs) (q0 t0 : Nat) {cA : ClassId} {N : Nat} {f f' : Nat → Int32} (ha : W1[q0]? = some (a, .inl (cA, N, .inl f))) (ht : T[t0]? = some (cA, .boolean)) {j : Nat} {b : Bool} (hj : j < N) (hN : N < 2 ^ 31) (hf : upd f j (bI b) = f') (hdg : decode cc pc = .ok (.bastore, 1))
    (kk : ∀ (H1 : Heap) (locs1 : List Loc), va_P D cl (W1.set q0 (a, .inl (cA, N, .inl f'))) H1 → va_D A (W1.set q0 (a, .inl (cA, N, .inl f'))) → va_S A H0 H1 locs1 → W p l e R s m args below meth c H1 locs1 cells slots Q (F0 m (pc + 1) ls rest)) : W p l e R s m args below meth c H locs cells slots Q (F0 m pc ls (.int (bI b) :: .int (nI j) :: .ref a :: rest)) :=
  va_zast hexec hb hK hP hD hS q0 t0 ha ht (vp_in_nI hj hN) hdg (by rw [nI_clamp (Nat.lt_trans hj hN), bI_nar, hf]; exact kk)
theorem n_last (hexec : p.tables.exec = Jvm.exec) (hb : c.code = cc) (hK : va_K D cl T s) (hP : va_P D cl W1 H) (hD : va_D A W1) (hS : va_S A H0 H locs) (q0 t0 : Nat) {cA : ClassId} {N : Nat} {f f' : Nat → Int64} (ha : W1[q0]? = some (a, .inl (cA, N, .inr (.inl f)))) (ht : T[t0]? = some (cA, .long)) {j : Nat} {x : Int64} (hj : j < N) (hN : N < 2 ^ 31) (hf : vp_updL f j x = f') (hdg : decode cc pc = .ok (.lastore, 1))
    (kk : ∀ (H1 : Heap) (locs1 : List Loc), va_P D cl (W1.set q0 (a, .inl (cA, N, .inr (.inl f')))) H1 → va_D A (W1.set q0 (a, .inl (cA, N, .inr (.inl f')))) → va_S A H0 H1 locs1 → W p l e R s m args below meth c H1 locs1 cells slots Q (F0 m (pc + 1) ls rest)) : W p l e R s m args below meth c H locs cells slots Q (F0 m pc ls (.long x :: .int (nI j) :: .ref a :: rest)) :=
  va_last hexec hb hK hP hD hS q0 t0 ha ht (vp_in_nI hj hN) hdg (by rw [nI_clamp (Nat.lt_trans hj hN), hf]; exact kk)
theorem n_ti6 {t : Nat} (hexec : p.tables.exec = Jvm.exec) (hb : c.code = cc) (hT : va_T .int t 6 (fun j => .int (nI (NUMf j))) A s s.heap) (hS : va_S A s.heap H locs) {j : Nat} (hj : j < 6) (hdg : decode cc pc = .ok (.iaload, 1))
    (kk : W p l e R s m args below meth c H locs cells slots Q (F0 m (pc + 1) ls (.int (nI (NUMf j)) :: rest))) : W p l e R s m args below meth c H locs cells slots Q (F0 m pc ls (.int (nI j) :: .ref t :: rest)) :=
  va_ti hexec hb hT hS (vp_in_nI hj (by decide)) (v := .int (nI (NUMf j))) (by rw [nI_clamp (Nat.lt_trans hj (by decide))]) hdg kk
end MyStores
/-- worlds of few cells, apart -/
theorem vd1 {a : Nat} {x : va_E} : va_D (fun q => q ∈ [a]) [(a, x)] := by
  refine ⟨fun i j p q hi hj _ => ?_, fun k q hk => ?_⟩
  · match i, j, hi, hj with
    | 0, 0, _, _ => rfl
  · match k, hk with
    | 0, hk => cases hk; exact List.mem_cons_self
theorem vdN {ws : va_W} (h : (ws.map (fun q => q.1)).Nodup) : va_D (fun q => q ∈ ws.map (fun q => q.1)) ws := by
  refine ⟨fun i j p q hi hj hpq => ?_, fun k q hk => ?_⟩
  · have h1 : (ws.map (fun q => q.1))[i]? = some p.1 := by rw [List.getElem?_map, hi]; rfl
    have h2 : (ws.map (fun q => q.1))[j]? = some p.1 := by rw [List.getElem?_map, hj, hpq]; rfl
    obtain ⟨li, e1⟩ := List.getElem?_eq_some_iff.mp h1
    obtain ⟨lj, e2⟩ := List.getElem?_eq_some_iff.mp h2
    have hh := List.pairwise_iff_getElem.mp h
    rcases Nat.lt_trichotomy i j with q | q | q
    · exact absurd (e1.trans e2.symm) (hh i j li lj q)
    · exact q
    · exact absurd (e2.trans e1.symm) (hh j i lj li q)
  · exact List.mem_map.mpr ⟨q, List.mem_of_getElem? hk, rfl⟩
theorem vd3 {a b c : Nat} {x y z : va_E} (h1 : a ≠ b) (h2 : a ≠ c) (h3 : b ≠ c) : va_D (fun q => q ∈ [a, b, c]) [(a, x), (b, y), (c, z)] :=
  vdN (ws := [(a, x), (b, y), (c, z)]) (by simp [h1, h2, h3])
theorem nI_xor (a b : Nat) : nI a ^^^ nI b = nI (a ^^^ b) := by
  apply Int32.toBitVec_inj.mp
  simp [nI]
theorem shl1 {o : Nat} (h : o < 14) : (nI 1) <<< (nI o &&& 31) = nI (2 ^ o) := by
  have : ∀ o, o < 14 → (nI 1) <<< (nI o &&& 31) = nI (2 ^ o) := by decide +kernel
  exact this o h
theorem updI (f : Nat → Nat) (k x : Nat) : upd (fun i => nI (f i)) k (nI x) = fun i => nI (if i = k then x else f i) := by
  funext j
  unfold upd
  split <;> rfl
section MyWrites
variable {p : Program} {l : Launch} {e : Env} {R : Room} {s : State} {m : MethodId} {args : Array Value} {below : List Frame} {meth : Method} {c : Code} {H : Heap} {locs : List Loc} {cells slots : Nat} {Q : State → Prop}
variable {y : MethodName} {bytes cc : ByteArray} {maxL nL n index pc : Nat} {ret : Option FieldType} {ws : List Cond} {rm : Room} {Ts : List Cond} {own C : String} {b : Addr} {As rest st : List Value} {ls : Array Slot}
variable {D : va_G} {T : List (ClassId × FieldType)} {A0 A1 : Nat → Prop} {Ph Pn : Heap → Prop} {H0 : Heap} {mc ms : Nat}
theorem wVv (S : CallFix p m c cc nL s args Ts own) (hM : Met l y ws rm (PC D T A1 (.ref b :: As) Ph) (QWv A1 Pn) 0 0 A1) (cw : CallW R s args own C index y bytes maxL ret ws rm 0 0 n) (hK : va_K D vwCl T s) (hE : EN A1 s H) (hPh : Ph H) (hr : RC s H C b)
    (hn : As.length = n) (hsize : ls.size = nL) (hst : st = As.reverse ++ .ref b :: rest) (hW : (rest.map fun v => v.category).sum ≤ 8) (hdg : decode cc pc = .ok (.invokevirtual index, 3)) (hf : cells ≤ R.cells ∧ slots ≤ R.slots) (hS : va_S A0 H0 H locs) (hA : ∀ q, A1 q → A0 q)
    (kk : ∀ (H1 : Heap) (locs1 : List Loc), Pn H1 → H.size ≤ H1.size → (∀ q : Nat, q < H.size → ¬ A1 q → H1[q]? = H[q]?) → va_S A0 H0 H1 locs1 → W p l e R s m args below meth c H1 locs1 cells slots Q (F0 m (pc + 3) ls rest)) : W p l e R s m args below meth c H locs cells slots Q (F0 m pc ls st) :=
  callWv (g := F0 m pc ls st) (W.runV S hM cw ⟨PC_blind, hr, PCuse hK hE hPh⟩ rfl hn hsize hst (lv_room hW) hdg hf) hS hA kk
theorem wV {ok : Prop} {r : Int32} (S : CallFix p m c cc nL s args Ts own) (hM : Met l y ws rm (PC D T A1 (.ref b :: As) Ph) (QW A1 ok r Pn) 0 0 A1) (cw : CallW R s args own C index y bytes maxL ret ws rm 0 0 n) (hK : va_K D vwCl T s) (hE : EN A1 s H) (hPh : Ph H) (hr : RC s H C b)
    (hn : As.length = n) (hsize : ls.size = nL) (hst : st = As.reverse ++ .ref b :: rest) (hW : (rest.map fun v => v.category).sum ≤ 8) (hdg : decode cc pc = .ok (.invokevirtual index, 3)) (hf : cells ≤ R.cells ∧ slots ≤ R.slots) (hS : va_S A0 H0 H locs) (hA : ∀ q, A1 q → A0 q)
    (kk : ∀ (H1 : Heap) (locs1 : List Loc), ok → Pn H1 → H.size ≤ H1.size → (∀ q : Nat, q < H.size → ¬ A1 q → H1[q]? = H[q]?) → va_S A0 H0 H1 locs1 → W p l e R s m args below meth c H1 locs1 cells slots Q (F0 m (pc + 3) ls (.int r :: rest))) : W p l e R s m args below meth c H locs cells slots Q (F0 m pc ls st) :=
  callW' (g := F0 m pc ls st) (W.runV S hM cw ⟨PC_blind, hr, PCuse hK hE hPh⟩ rfl hn hsize hst (lv_room hW) hdg hf) hS hA kk
end MyWrites
end
section
/-! a lamp's value: how many beats, their numbers, their offsets, on at its start, covered; and what is reckoned of it -/
abbrev LV : Type := Nat × (Nat → Nat) × (Nat → Nat) × Bool × Bool
abbrev lbc (L : LV) : Nat := L.1
abbrev lnu (L : LV) : Nat → Nat := L.2.1
abbrev lof (L : LV) : Nat → Nat := L.2.2.1
abbrev lon (L : LV) : Bool := L.2.2.2.1
abbrev lcv (L : LV) : Bool := L.2.2.2.2
def isP (n : Nat) : Prop := n = 2 ∨ n = 3 ∨ n = 5 ∨ n = 7 ∨ n = 11 ∨ n = 13
def WFL (k : Nat) (L : LV) : Prop := lbc L ≤ k ∧ ∀ i, i < lbc L → isP (lnu L i) ∧ lof L i < lnu L i
theorem isP_le {n : Nat} (h : isP n) : 2 ≤ n ∧ n ≤ 13 := by rcases h with h | h | h | h | h | h <;> omega
/-- how many of the first k beats strike at t -/
def strk (L : LV) (t : Nat) : Nat → Nat
  | 0 => 0
  | k + 1 => strk L t k + (if t % lnu L k = lof L k then 1 else 0)
def chgB (L : LV) (t : Nat) : Bool := decide (strk L t (lbc L) % 2 = 1)
/-- how often a beat strikes at 0 .. t -/
def sut (t n o : Nat) : Nat := if t < o then 0 else (t - o) / n + 1
def trn (L : LV) (t : Nat) : Nat → Nat
  | 0 => 0
  | k + 1 => trn L t k + sut t (lnu L k) (lof L k)
def onB (L : LV) (t : Nat) : Bool := lon L != decide (trn L t (lbc L) % 2 = 1)
/-- the remainders by p at which an odd number of the first k beats strikes, as bits -/
def trb (L : LV) (p : Nat) : Nat → Nat
  | 0 => 0
  | k + 1 => if lnu L k = p then trb L p k ^^^ 2 ^ lof L k else trb L p k
def alike (L : LV) (p : Nat) : Bool := decide (trb L p (lbc L) = 0) || decide (trb L p (lbc L) = 2 ^ p - 1)
def ccyk (L : LV) : Nat → Nat
  | 0 => 1
  | k + 1 => if alike L (NUMf k) = true then ccyk L k else ccyk L k * NUMf k
def ccy (L : LV) : Nat := ccyk L 6
def cyc (L : LV) : Nat := if onB L (ccy L - 1) = lon L then ccy L else 2 * ccy L
/-- the first of lo, lo + 1, .. (n of them) with f -/
def fnd (f : Nat → Bool) : Nat → Nat → Option Nat
  | _, 0 => none
  | lo, n + 1 => if f lo = true then some lo else fnd f (lo + 1) n
def oI (o : Option Nat) : Int32 := match o with
  | none => -1
  | some k => nI k
/-- how many of the first k have f -/
def cnt (f : Nat → Bool) : Nat → Nat
  | 0 => 0
  | k + 1 => cnt f k + (if f k = true then 1 else 0)
def untC (L : LV) (from' : Nat) : Int32 := oI (fnd (fun k => chgB L (from' + k)) 1 (ccy L))
/-- the cells of a lamp -/
abbrev lampW (cI : ClassId) (a an ao : Nat) (L : LV) : va_W := [(a, .inr (0, [.ref an, .ref ao, .int (nI (lbc L)), .int (bI (lon L)), .int (bI (lcv L))])), (an, .inl (cI, 8, .inl (fun i => nI (lnu L i)))), (ao, .inl (cI, 8, .inl (fun i => nI (lof L i))))]
abbrev TY (cI cZ cL cJ : ClassId) : List (ClassId × FieldType) := [(cI, .int), (cZ, .boolean), (cL, .object "LanternPrimes$Lamp"), (cJ, .array .int)]
theorem strk_le (L : LV) (t : Nat) : ∀ k, strk L t k ≤ k
  | 0 => Nat.le_refl 0
  | k + 1 => by
    have h := strk_le L t k
    simp only [strk]
    split <;> omega
theorem sut_le {t n o : Nat} : sut t n o ≤ t + 1 := by
  unfold sut
  split
  · omega
  · have := Nat.div_le_self (t - o) n
    omega
theorem trn_le (L : LV) (t : Nat) : ∀ k, trn L t k ≤ k * (t + 1)
  | 0 => Nat.zero_le _
  | k + 1 => by
    have h := trn_le L t k
    have h2 := @sut_le t (lnu L k) (lof L k)
    simp only [trn]
    have e : (k + 1) * (t + 1) = k * (t + 1) + (t + 1) := by rw [Nat.succ_mul]
    omega
theorem NUMf_P {k : Nat} (h : k < 6) : isP (NUMf k) := by
  match k, h with
  | 0, _ => exact Or.inl rfl
  | 1, _ => exact Or.inr (Or.inl rfl)
  | 2, _ => exact Or.inr (Or.inr (Or.inl rfl))
  | 3, _ => exact Or.inr (Or.inr (Or.inr (Or.inl rfl)))
  | 4, _ => exact Or.inr (Or.inr (Or.inr (Or.inr (Or.inl rfl))))
  | 5, _ => exact Or.inr (Or.inr (Or.inr (Or.inr (Or.inr rfl))))
def litB (L : LV) (t : Nat) : Bool := !(lcv L) && onB L t
theorem trn_lt {L : LV} {t k : Nat} (ht : t < 2 ^ 25) (hk : k ≤ 8) : trn L t k < 2 ^ 31 := by
  have h := trn_le L t k
  have h2 : k * (t + 1) ≤ 8 * (t + 1) := Nat.mul_le_mul_right _ hk
  omega
theorem bI_bne0 {a b : Bool} (h : bI a = bI b) : nI 0 = bI (a != b) := by revert h; cases a <;> cases b <;> decide
theorem bI_bne1 {a b : Bool} (h : ¬ bI a = bI b) : nI 1 = bI (a != b) := by revert h; cases a <;> cases b <;> decide
theorem trb_lt {L : LV} {p : Nat} : ∀ k, (∀ i, i < k → lof L i < lnu L i) → trb L p k < 2 ^ p
  | 0, _ => Nat.two_pow_pos p
  | k + 1, h => by
    have ih := trb_lt (L := L) (p := p) k (fun i hi => h i (by omega))
    simp only [trb]
    split
    · rename_i e
      have := h k (by omega)
      exact Nat.xor_lt_two_pow ih (Nat.pow_lt_pow_right (by decide) (by omega))
    · exact ih
def prd : Nat → Nat
  | 0 => 1
  | k + 1 => prd k * NUMf k
theorem NUMf_pos (k : Nat) : 1 ≤ NUMf k := by
  unfold NUMf
  split <;> decide
theorem ccyk_bd (L : LV) : ∀ k, 1 ≤ ccyk L k ∧ ccyk L k ≤ prd k
  | 0 => ⟨Nat.le_refl 1, Nat.le_refl 1⟩
  | k + 1 => by
    obtain ⟨h1, h2⟩ := ccyk_bd L k
    have h3 := NUMf_pos k
    simp only [ccyk, prd]
    split
    · exact ⟨h1, Nat.le_trans h2 (Nat.le_mul_of_pos_right _ h3)⟩
    · exact ⟨Nat.mul_pos h1 h3, Nat.mul_le_mul_right _ h2⟩
theorem ccy_bd (L : LV) : 1 ≤ ccy L ∧ ccy L ≤ 30030 := ⟨(ccyk_bd L 6).1, Nat.le_trans (ccyk_bd L 6).2 (by decide)⟩
theorem cyc_bd (L : LV) : 1 ≤ cyc L ∧ cyc L ≤ 60060 := by
  have := ccy_bd L
  unfold cyc
  split <;> omega
theorem fnd_t {f : Nat → Bool} {lo n : Nat} (hf : f lo = true) (hn : 0 < n) : fnd f lo n = some lo := by
  obtain ⟨m, rfl⟩ : ∃ m, n = m + 1 := ⟨n - 1, by omega⟩
  simp [fnd, hf]
theorem fnd_f {f : Nat → Bool} {lo n : Nat} (hf : f lo = false) (hn : 0 < n) : fnd f lo n = fnd f (lo + 1) (n - 1) := by
  obtain ⟨m, rfl⟩ : ∃ m, n = m + 1 := ⟨n - 1, by omega⟩
  simp [fnd, hf]
/-- a lamp with one beat more, with one less, with the beats of another one behind its own -/
def addL (L : LV) (n o : Nat) : LV := (lbc L + 1, fun i => if i = lbc L then n else lnu L i, fun i => if i = lbc L then o else lof L i, lon L, lcv L)
def shf (f : Nat → Nat) (b k : Nat) : Nat → Nat := fun j => if b ≤ j ∧ j + 1 < k then f (j + 1) else f j
def shL (L : LV) (b k : Nat) : LV := (lbc L, shf (lnu L) b k, shf (lof L) b k, lon L, lcv L)
def remL (L : LV) (b : Nat) : LV := (lbc L - 1, shf (lnu L) b (lbc L), shf (lof L) b (lbc L), lon L, lcv L)
def appK (L O : LV) : Nat → LV
  | 0 => L
  | k + 1 => addL (appK L O k) (lnu O k) (lof O k)
theorem appK_bc (L O : LV) : ∀ k, lbc (appK L O k) = lbc L + k
  | 0 => rfl
  | k + 1 => by
    have := appK_bc L O k
    show lbc (appK L O k) + 1 = _
    omega
theorem shf_0 (f : Nat → Nat) (b : Nat) : shf f b (b + 1) = f := by
  funext j
  unfold shf
  rw [if_neg (by omega)]
theorem shf_s (f : Nat → Nat) (b k : Nat) (h : b < k) : (fun i => if i = k - 1 then f k else shf f b k i) = shf f b (k + 1) := by
  funext j
  unfold shf
  by_cases hj : j = k - 1
  · subst hj
    rw [if_pos rfl, if_pos (by omega), show k - 1 + 1 = k by omega]
  · rw [if_neg hj]
    by_cases h2 : b ≤ j ∧ j + 1 < k
    · rw [if_pos h2, if_pos (by omega)]
    · rw [if_neg h2, if_neg (by omega)]
def diffL (Z A B : LV) : LV := appK (appK (0, lnu Z, lof Z, lon A != lon B, lcv Z) A (lbc A)) B (lbc B)
theorem bI_inj {a b : Bool} (h : bI a = bI b) : a = b := by revert h; cases a <;> cases b <;> decide
theorem shf_i (f : Nat → Nat) (b i : Nat) : shf f b i i = f i := by
  unfold shf
  rw [if_neg (by omega)]
/-- what isn't in A stays -/
theorem cellsKeep {D : va_G} {ws : va_W} {A : Nat → Prop} {H0 H : Heap} (hP : va_P D vwCl ws H0) (hno : ∀ q ∈ ws, ¬ A q.1) (hk : ∀ q : Nat, q < H0.size → ¬ A q → H[q]? = H0[q]?) : va_P D vwCl ws H :=
  hP.kept (fun k q hq => hk q.1 (hP k q hq).lt (hno q (List.mem_of_getElem? hq)))
theorem lampKeep {D : va_G} {cI : ClassId} {a an ao : Nat} {L : LV} {A : Nat → Prop} {H0 H : Heap} (hP : va_P D vwCl (lampW cI a an ao L) H0) (hno : ∀ x ∈ [a, an, ao], ¬ A x) (hk : ∀ q : Nat, q < H0.size → ¬ A q → H[q]? = H0[q]?) : va_P D vwCl (lampW cI a an ao L) H :=
  cellsKeep hP (fun q hq => by
    simp only [lampW, List.mem_cons, List.not_mem_nil, or_false] at hq
    rcases hq with rfl | rfl | rfl
    · exact hno _ (by simp)
    · exact hno _ (by simp)
    · exact hno _ (by simp)) hk
end
section
set_option maxHeartbeats 4000000 in
set_option maxRecDepth 100000 in
/-- isOdd -/
theorem c_X0_isOdd (l : Launch) (D : va_G) (cI cZ cL cJ : ClassId) (k : Nat) (hk : k < 2 ^ 31) : Met l yX0_isOdd wsX0_isOdd ({ frames := 0, cells := 0, slots := 0, locals := 0 } : Room) (PC D (TY cI cZ cL cJ) noA [.int (nI k)] (fun _ => True)) (QcRead (bI (decide (k % 2 = 1)))) 0 0 (fun _ => False) := by
  refine Met.ofW (cc := cX0_isOdd) (maxL := 1) (ret := (some .boolean)) (by decide) rfl ?_
  intro p e s m args below meth c s₁ B hml hv
  obtain ⟨rfl, hK, hE, -⟩ := hv
  have hx := B.exec
  have hb := B.bytes
  have hr := B.returns
  have hts := atoms_spec (ws := wsX0_isOdd) B.pre
  have hown : s.vm.findClass RX0 = some m.cls := findClass_of_methodNamed B.named
  have hlocks := B.notSynchronized
  have hNF := hE.2.1.1
  have hl := lv_entry ([.int (nI k)]) (n := 1) (Nat.le_of_ble_eq_true rfl)
  rw [lg_entry_eq]
  generalize (lg_sl ([.int (nI k)]) ++ List.replicate (1 - (lg_sl ([.int (nI k)])).length) Slot.unset).toArray = ls at hl ⊢
  have hl : lv_has ls 1 [(0, .int (nI k))] := hl
  refine lv_iload_n hx hb dX0_isOdd_0 rfl (lv_at hl 0 rfl) ?_
  refine lv_iconst (v := nI 1) hx hb dX0_isOdd_1 (by decide) ?_
  refine n_iand (v := nI (k % 2)) hx hb dX0_isOdd_2 (and1 hk) ?_
  refine lv_iconst (v := nI 1) hx hb dX0_isOdd_3 (by decide) ?_
  refine n_icmp_ne (a := k % 2) (b := 1) (tgt := 11) hx hb (by omega) (by omega) dX0_isOdd_4 (by decide) (fun c_4 => ?_) (fun c_4 => ?_)
  · refine lv_iconst (v := nI 0) hx hb dX0_isOdd_11 (by decide) ?_
    refine n_ti (y := bI (decide (k % 2 = 1))) (by first | (rw [decide_eq_true c_4]; rfl) | (rw [decide_eq_false c_4]; rfl)) ?_
    exact W.zret (v := bI (decide (k % 2 = 1))) hx hb hr (bI_narrow _) (fun t ht hW => ⟨rfl, ht⟩) (fun _ h => by cases h) dX0_isOdd_12
  · refine lv_iconst (v := nI 1) hx hb dX0_isOdd_7 (by decide) ?_
    refine lv_goto (tgt := 12) hx hb dX0_isOdd_8 (by decide) ?_
    refine n_ti (y := bI (decide (k % 2 = 1))) (by first | (rw [decide_eq_true c_4]; rfl) | (rw [decide_eq_false c_4]; rfl)) ?_
    exact W.zret (v := bI (decide (k % 2 = 1))) hx hb hr (bI_narrow _) (fun t ht hW => ⟨rfl, ht⟩) (fun _ h => by cases h) dX0_isOdd_12
set_option maxHeartbeats 4000000 in
set_option maxRecDepth 100000 in
/-- strikesUpTo -/
theorem c_X0_strikesUpTo (l : Launch) (D : va_G) (cI cZ cL cJ : ClassId) (t n o : Nat) (ht : t < 2 ^ 25) (hn : 0 < n) (hn2 : n ≤ 13) (ho : o < n) : Met l yX0_strikesUpTo wsX0_strikesUpTo ({ frames := 0, cells := 0, slots := 0, locals := 0 } : Room) (PC D (TY cI cZ cL cJ) noA [.int (nI t), .int (nI n), .int (nI o)] (fun _ => True)) (QcRead (nI (sut t n o))) 0 0 (fun _ => False) := by
  refine Met.ofW (cc := cX0_strikesUpTo) (maxL := 3) (ret := (some .int)) (by decide) rfl ?_
  intro p e s m args below meth c s₁ B hml hv
  obtain ⟨rfl, hK, hE, -⟩ := hv
  have hx := B.exec
  have hb := B.bytes
  have hr := B.returns
  have hts := atoms_spec (ws := wsX0_strikesUpTo) B.pre
  have hown : s.vm.findClass RX0 = some m.cls := findClass_of_methodNamed B.named
  have hlocks := B.notSynchronized
  have hNF := hE.2.1.1
  have hl := lv_entry ([.int (nI t), .int (nI n), .int (nI o)]) (n := 3) (Nat.le_of_ble_eq_true rfl)
  rw [lg_entry_eq]
  generalize (lg_sl ([.int (nI t), .int (nI n), .int (nI o)]) ++ List.replicate (3 - (lg_sl ([.int (nI t), .int (nI n), .int (nI o)])).length) Slot.unset).toArray = ls at hl ⊢
  have hl : lv_has ls 3 [(0, .int (nI t)), (1, .int (nI n)), (2, .int (nI o))] := hl
  refine lv_iload_n hx hb dX0_strikesUpTo_0 rfl (lv_at hl 1 rfl) ?_
  refine lv_iconst (v := nI 1) hx hb dX0_strikesUpTo_1 (by decide) ?_
  refine n_icmp_lt (a := n) (b := 1) (tgt := 10) hx hb (by omega) (by omega) dX0_strikesUpTo_2 (by decide) (fun c_2 => ?_) (fun c_2 => ?_)
  · exact absurd c_2 (by omega)
  · refine lv_iload_n hx hb dX0_strikesUpTo_5 rfl (lv_at hl 0 rfl) ?_
    refine lv_iload_n hx hb dX0_strikesUpTo_6 rfl (lv_at hl 2 rfl) ?_
    refine n_icmp_ge (a := t) (b := o) (tgt := 12) hx hb (by omega) (by omega) dX0_strikesUpTo_7 (by decide) (fun c_7 => ?_) (fun c_7 => ?_)
    · refine lv_iload_n hx hb dX0_strikesUpTo_12 rfl (lv_at hl 0 rfl) ?_
      refine lv_iload_n hx hb dX0_strikesUpTo_13 rfl (lv_at hl 2 rfl) ?_
      refine n_isub (v := nI (t - o)) hx hb dX0_strikesUpTo_14 (pk_sub (by omega)) ?_
      refine lv_iload_n hx hb dX0_strikesUpTo_15 rfl (lv_at hl 1 rfl) ?_
      refine n_idiv (a := t - o) (d := n) hx hb dX0_strikesUpTo_16 (by omega) (by omega) (by omega) ?_
      refine lv_iconst (v := nI 1) hx hb dX0_strikesUpTo_17 (by decide) ?_
      refine n_iadd (v := nI (((t - o) / n) + 1)) hx hb dX0_strikesUpTo_18 (nI_add _ _) ?_
      refine n_ti (y := nI (sut t n o)) (by unfold sut; rw [if_neg (by omega)]) ?_
      exact W.iret (v := nI (sut t n o)) hx hb hr (fun t ht hW => ⟨rfl, ht⟩) (fun _ h => by cases h) dX0_strikesUpTo_19
    · refine lv_iconst (v := nI 0) hx hb dX0_strikesUpTo_10 (by decide) ?_
      refine n_ti (y := nI (sut t n o)) (by unfold sut; rw [if_pos c_7]) ?_
      exact W.iret (v := nI (sut t n o)) hx hb hr (fun t ht hW => ⟨rfl, ht⟩) (fun _ h => by cases h) dX0_strikesUpTo_11
set_option maxHeartbeats 4000000 in
set_option maxRecDepth 100000 in
/-- strikes -/
theorem c_X0_strikes (l : Launch) (D : va_G) (cI cZ cL cJ : ClassId) (a an ao : Nat) (L : LV) (t : Nat) (ht : t < 2 ^ 25) (hwf : WFL 8 L) : Met l yX0_strikes wsX0_strikes ({ frames := 0, cells := 0, slots := 0, locals := 0 } : Room) (PC D (TY cI cZ cL cJ) noA [.ref a, .int (nI t)] (fun H => va_P D vwCl (lampW cI a an ao L) H)) (QcRead (nI (strk L t (lbc L)))) 0 0 (fun _ => False) := by
  refine Met.ofW (cc := cX0_strikes) (maxL := 4) (ret := (some .int)) (by decide) rfl ?_
  intro p e s m args below meth c s₁ B hml hv
  obtain ⟨rfl, hK, hE, hP⟩ := hv
  have hx := B.exec
  have hb := B.bytes
  have hr := B.returns
  have hts := atoms_spec (ws := wsX0_strikes) B.pre
  have hown : s.vm.findClass RX0 = some m.cls := findClass_of_methodNamed B.named
  have hlocks := B.notSynchronized
  have hNF := hE.2.1.1
  have hin0 : ∀ w ∈ wsX00, w ∈ wsX0_strikes := by decide +kernel
  have hl := lv_entry ([.ref a, .int (nI t)]) (n := 4) (Nat.le_of_ble_eq_true rfl)
  rw [lg_entry_eq]
  generalize (lg_sl ([.ref a, .int (nI t)]) ++ List.replicate (4 - (lg_sl ([.ref a, .int (nI t)])).length) Slot.unset).toArray = ls at hl ⊢
  have hl : lv_has ls 4 [(0, .ref a), (1, .int (nI t))] := hl
  refine lv_iconst (v := nI 0) hx hb dX0_strikes_0 (by decide) ?_
  refine lv_istore_n (lv' := [(2, .int (nI 0)), (0, .ref a), (1, .int (nI t))]) hx hb dX0_strikes_1 rfl hl (by decide) rfl (fun ls hl => ?_)
  refine lv_iconst (v := nI 0) hx hb dX0_strikes_2 (by decide) ?_
  refine lv_istore_n (lv' := [(3, .int (nI 0)), (2, .int (nI 0)), (0, .ref a), (1, .int (nI t))]) hx hb dX0_strikes_3 rfl hl (by decide) rfl (fun ls hl => ?_)
  have loop_4 : ∀ (fu : Nat) (i : Nat), lbc L + 1 - i ≤ fu → i ≤ lbc L → ∀ (ls : Array Slot), lv_has ls 4 [(3, .int (nI i)), (2, .int (nI (strk L t i))), (0, .ref a), (1, .int (nI t))] → W p l e (headSpec wsX0_strikes ({ frames := 0, cells := 0, slots := 0, locals := 0 } : Room)).room s m [.ref a, .int (nI t)].toArray below meth c s.heap [] 0 0 (MQ below (QcRead (nI (strk L t (lbc L)))) ([.ref a, .int (nI t)].toArray) s 0 0 (fun _ => False)) (F0 m 4 ls []) := by
    intro fu
    induction fu with
    | zero => intro i hn_4 hi; exact absurd hn_4 (by omega)
    | succ fu ih_4 =>
      intro i hn_4 hi ls hl
      have hwf1 := hwf.1
      refine lv_iload_n hx hb dX0_strikes_4 rfl (lv_at hl 0 rfl) ?_
      refine lv_aload_n hx hb dX0_strikes_5 rfl (lv_at hl 2 rfl) ?_
      refine va_get (D := D) (ci := 0) (v := .int (nI (lbc L))) (C := RX0) (T := TX0) (N := 5) hx hb hts hin0 hown hK hP 0 rfl rfl 2 (by decide) (hts (.fieldLink RX0 18 "LanternPrimes$Lamp" "beatCount" "I") (List.mem_of_getElem? (i := 1) rfl)) (fun _ h9 => h9) rfl dX0_strikes_6 ?_
      refine n_icmp_ge (a := i) (b := lbc L) (tgt := 47) hx hb (by omega) (by omega) dX0_strikes_9 (by decide) (fun c_9 => ?_) (fun c_9 => ?_)
      · refine lv_iload_n hx hb dX0_strikes_47 rfl (lv_at hl 1 rfl) ?_
        refine n_ti (y := nI (strk L t (lbc L))) (by rw [show i = lbc L by omega]) ?_
        exact W.iret (v := nI (strk L t (lbc L))) hx hb hr (fun t ht hW => ⟨rfl, ht⟩) (fun _ h => by cases h) dX0_strikes_48
      · refine lv_aload_n hx hb dX0_strikes_12 rfl (lv_at hl 2 rfl) ?_
        refine va_get (D := D) (ci := 0) (v := .ref an) (C := RX0) (T := TX0) (N := 5) hx hb hts hin0 hown hK hP 0 rfl rfl 0 (by decide) (hts (.fieldLink RX0 9 "LanternPrimes$Lamp" "numbers" "[I") (List.mem_of_getElem? (i := 2) rfl)) (fun _ h9 => h9) rfl dX0_strikes_13 ?_
        refine lv_iload_n hx hb dX0_strikes_16 rfl (lv_at hl 0 rfl) ?_
        refine n_iald (v := nI (lnu L i)) (j := i) hx hb hK hP 1 0 rfl rfl (by omega) (by decide) rfl dX0_strikes_17 ?_
        have hw := isP_le (hwf.2 i c_9).1
        have hw2 := (hwf.2 i c_9).2
        refine n_if_le (a := lnu L i) (tgt := 41) hx hb (by omega) dX0_strikes_18 (by decide) (fun c_18 => ?_) (fun c_18 => ?_)
        · exact absurd c_18 (by omega)
        · refine lv_iload_n hx hb dX0_strikes_21 rfl (lv_at hl 3 rfl) ?_
          refine lv_aload_n hx hb dX0_strikes_22 rfl (lv_at hl 2 rfl) ?_
          refine va_get (D := D) (ci := 0) (v := .ref an) (C := RX0) (T := TX0) (N := 5) hx hb hts hin0 hown hK hP 0 rfl rfl 0 (by decide) (hts (.fieldLink RX0 9 "LanternPrimes$Lamp" "numbers" "[I") (List.mem_of_getElem? (i := 2) rfl)) (fun _ h9 => h9) rfl dX0_strikes_23 ?_
          refine lv_iload_n hx hb dX0_strikes_26 rfl (lv_at hl 0 rfl) ?_
          refine n_iald (v := nI (lnu L i)) (j := i) hx hb hK hP 1 0 rfl rfl (by omega) (by decide) rfl dX0_strikes_27 ?_
          refine n_irem (a := t) (d := lnu L i) hx hb dX0_strikes_28 (by omega) (by omega) (by omega) ?_
          refine lv_aload_n hx hb dX0_strikes_29 rfl (lv_at hl 2 rfl) ?_
          refine va_get (D := D) (ci := 0) (v := .ref ao) (C := RX0) (T := TX0) (N := 5) hx hb hts hin0 hown hK hP 0 rfl rfl 1 (by decide) (hts (.fieldLink RX0 15 "LanternPrimes$Lamp" "offsets" "[I") (List.mem_of_getElem? (i := 3) rfl)) (fun _ h9 => h9) rfl dX0_strikes_30 ?_
          refine lv_iload_n hx hb dX0_strikes_33 rfl (lv_at hl 0 rfl) ?_
          refine n_iald (v := nI (lof L i)) (j := i) hx hb hK hP 2 0 rfl rfl (by omega) (by decide) rfl dX0_strikes_34 ?_
          refine n_icmp_ne (a := t % (lnu L i)) (b := lof L i) (tgt := 41) hx hb (Nat.lt_of_le_of_lt (Nat.mod_le _ _) (by omega)) (by omega) dX0_strikes_35 (by decide) (fun c_35 => ?_) (fun c_35 => ?_)
          · have e_1 : strk L t (i + 1) = strk L t i := by simp only [strk]; rw [if_neg c_35]; rfl
            rw [← e_1] at hl
            refine lv_iinc (v := nI (i + 1)) (lv' := [(3, .int (nI (i + 1))), (2, .int (nI (strk L t (i + 1)))), (0, .ref a), (1, .int (nI t))]) hx hb dX0_strikes_41 hl (k := 0) rfl (nI_inc _) (by decide) rfl (fun ls hl => ?_)
            refine lv_goto (tgt := 4) hx hb dX0_strikes_44 (by decide) ?_
            exact ih_4 (i + 1) (by omega) (by omega) ls (lv_sub hl [0, 1, 2, 3] rfl)
          · have e_1 : strk L t (i + 1) = strk L t i + 1 := by simp only [strk]; rw [if_pos c_35]
            refine lv_iinc (v := nI (strk L t (i + 1))) (lv' := [(2, .int (nI (strk L t (i + 1)))), (3, .int (nI i)), (0, .ref a), (1, .int (nI t))]) hx hb dX0_strikes_38 hl (k := 1) rfl (by rw [e_1]; exact nI_inc _) (by decide) rfl (fun ls hl => ?_)
            refine lv_iinc (v := nI (i + 1)) (lv' := [(3, .int (nI (i + 1))), (2, .int (nI (strk L t (i + 1)))), (0, .ref a), (1, .int (nI t))]) hx hb dX0_strikes_41 hl (k := 1) rfl (nI_inc _) (by decide) rfl (fun ls hl => ?_)
            refine lv_goto (tgt := 4) hx hb dX0_strikes_44 (by decide) ?_
            exact ih_4 (i + 1) (by omega) (by omega) ls (lv_sub hl [0, 1, 2, 3] rfl)
  exact loop_4 (lbc L + 1) 0 (by omega) (Nat.zero_le _) ls (lv_sub hl [0, 1, 2, 3] rfl)
set_option maxHeartbeats 4000000 in
set_option maxRecDepth 100000 in
/-- changesAt -/
theorem c_X0_changesAt (l : Launch) (D : va_G) (cI cZ cL cJ : ClassId) (a an ao : Nat) (L : LV) (t : Nat) (ht : t < 2 ^ 25) (hwf : WFL 8 L) : Met l yX0_changesAt wsX0_changesAt ({ frames := 1, cells := 0, slots := 0, locals := 23 } : Room) (PC D (TY cI cZ cL cJ) noA [.ref a, .int (nI t)] (fun H => va_P D vwCl (lampW cI a an ao L) H)) (QcRead (bI (chgB L t))) 0 0 (fun _ => False) := by
  refine Met.ofW (cc := cX0_changesAt) (maxL := 2) (ret := (some .boolean)) (by decide) rfl ?_
  intro p e s m args below meth c s₁ B hml hv
  obtain ⟨rfl, hK, hE, hP⟩ := hv
  have hx := B.exec
  have hb := B.bytes
  have hr := B.returns
  have hts := atoms_spec (ws := wsX0_changesAt) B.pre
  have hown : s.vm.findClass RX0 = some m.cls := findClass_of_methodNamed B.named
  have hlocks := B.notSynchronized
  have hNF := hE.2.1.1
  have hin0 : ∀ w ∈ wsX00, w ∈ wsX0_changesAt := by decide +kernel
  have hl := lv_entry ([.ref a, .int (nI t)]) (n := 2) (Nat.le_of_ble_eq_true rfl)
  rw [lg_entry_eq]
  generalize (lg_sl ([.ref a, .int (nI t)]) ++ List.replicate (2 - (lg_sl ([.ref a, .int (nI t)])).length) Slot.unset).toArray = ls at hl ⊢
  have hl : lv_has ls 2 [(0, .ref a), (1, .int (nI t))] := hl
  refine lv_aload_n hx hb dX0_changesAt_0 rfl (lv_at hl 0 rfl) ?_
  refine lv_iload_n hx hb dX0_changesAt_1 rfl (lv_at hl 1 rfl) ?_
  refine rV (r := nI (strk L t (lbc L))) (As := [.int (nI t)]) (rest := []) ⟨hx, hb, hml, hown, hts⟩ (c_X0_strikes l D cI cZ cL cJ a an ao L t ht hwf) (cwV 1 hts gX0_changesAt_X0_strikes rfl rfl rfl (by decide +kernel) ⟨(Nat.le_of_ble_eq_true rfl), (Nat.le_of_ble_eq_true rfl)⟩) hK hE hP (RC_of (q := (RX0, TX0, 5)) (ci := 0) hK rfl (vpa hP 0 rfl)) rfl hl.1 rfl (Nat.le_of_ble_eq_true rfl) dX0_changesAt_2 ⟨(Nat.le_of_ble_eq_true rfl), (Nat.le_of_ble_eq_true rfl)⟩ ?_
  refine rS (r := bI (decide (strk L t (lbc L) % 2 = 1))) (As := [.int (nI (strk L t (lbc L)))]) (rest := []) ⟨hx, hb, hml, hown, hts⟩ (c_X0_isOdd l D cI cZ cL cJ (strk L t (lbc L)) (Nat.lt_of_le_of_lt (strk_le L t _) (Nat.lt_of_le_of_lt hwf.1 (by decide)))) (va_cwS 1 hts gX0_changesAt_X0_isOdd rfl rfl rfl (by decide +kernel) ⟨(Nat.le_of_ble_eq_true rfl), (Nat.le_of_ble_eq_true rfl)⟩) hK hE trivial rfl hl.1 rfl (Nat.le_of_ble_eq_true rfl) dX0_changesAt_5 ⟨(Nat.le_of_ble_eq_true rfl), (Nat.le_of_ble_eq_true rfl)⟩ ?_
  exact W.zret (v := bI (chgB L t)) hx hb hr (bI_narrow _) (fun t ht hW => ⟨rfl, ht⟩) (fun _ h => by cases h) dX0_changesAt_8
set_option maxHeartbeats 4000000 in
set_option maxRecDepth 100000 in
/-- onAt -/
theorem c_X0_onAt (l : Launch) (D : va_G) (cI cZ cL cJ : ClassId) (a an ao : Nat) (L : LV) (t : Nat) (ht : t < 2 ^ 25) (hwf : WFL 8 L) : Met l yX0_onAt wsX0_onAt ({ frames := 1, cells := 0, slots := 0, locals := 22 } : Room) (PC D (TY cI cZ cL cJ) noA [.ref a, .int (nI t)] (fun H => va_P D vwCl (lampW cI a an ao L) H)) (QcRead (bI (onB L t))) 0 0 (fun _ => False) := by
  refine Met.ofW (cc := cX0_onAt) (maxL := 4) (ret := (some .boolean)) (by decide) rfl ?_
  intro p e s m args below meth c s₁ B hml hv
  obtain ⟨rfl, hK, hE, hP⟩ := hv
  have hx := B.exec
  have hb := B.bytes
  have hr := B.returns
  have hts := atoms_spec (ws := wsX0_onAt) B.pre
  have hown : s.vm.findClass RX0 = some m.cls := findClass_of_methodNamed B.named
  have hlocks := B.notSynchronized
  have hNF := hE.2.1.1
  have hin0 : ∀ w ∈ wsX00, w ∈ wsX0_onAt := by decide +kernel
  have hl := lv_entry ([.ref a, .int (nI t)]) (n := 4) (Nat.le_of_ble_eq_true rfl)
  rw [lg_entry_eq]
  generalize (lg_sl ([.ref a, .int (nI t)]) ++ List.replicate (4 - (lg_sl ([.ref a, .int (nI t)])).length) Slot.unset).toArray = ls at hl ⊢
  have hl : lv_has ls 4 [(0, .ref a), (1, .int (nI t))] := hl
  refine lv_iconst (v := nI 0) hx hb dX0_onAt_0 (by decide) ?_
  refine lv_istore_n (lv' := [(2, .int (nI 0)), (0, .ref a), (1, .int (nI t))]) hx hb dX0_onAt_1 rfl hl (by decide) rfl (fun ls hl => ?_)
  refine lv_iconst (v := nI 0) hx hb dX0_onAt_2 (by decide) ?_
  refine lv_istore_n (lv' := [(3, .int (nI 0)), (2, .int (nI 0)), (0, .ref a), (1, .int (nI t))]) hx hb dX0_onAt_3 rfl hl (by decide) rfl (fun ls hl => ?_)
  have loop_4 : ∀ (fu : Nat) (i : Nat), lbc L + 1 - i ≤ fu → i ≤ lbc L → ∀ (ls : Array Slot), lv_has ls 4 [(3, .int (nI i)), (2, .int (nI (trn L t i))), (0, .ref a), (1, .int (nI t))] → W p l e (headSpec wsX0_onAt ({ frames := 1, cells := 0, slots := 0, locals := 22 } : Room)).room s m [.ref a, .int (nI t)].toArray below meth c s.heap [] 0 0 (MQ below (QcRead (bI (onB L t))) ([.ref a, .int (nI t)].toArray) s 0 0 (fun _ => False)) (F0 m 4 ls []) := by
    intro fu
    induction fu with
    | zero => intro i hn_4 hi; exact absurd hn_4 (by omega)
    | succ fu ih_4 =>
      intro i hn_4 hi ls hl
      have hwf1 := hwf.1
      refine lv_iload_n hx hb dX0_onAt_4 rfl (lv_at hl 0 rfl) ?_
      refine lv_aload_n hx hb dX0_onAt_5 rfl (lv_at hl 2 rfl) ?_
      refine va_get (D := D) (ci := 0) (v := .int (nI (lbc L))) (C := RX0) (T := TX0) (N := 5) hx hb hts hin0 hown hK hP 0 rfl rfl 2 (by decide) (hts (.fieldLink RX0 18 "LanternPrimes$Lamp" "beatCount" "I") (List.mem_of_getElem? (i := 1) rfl)) (fun _ h9 => h9) rfl dX0_onAt_6 ?_
      refine n_icmp_ge (a := i) (b := lbc L) (tgt := 37) hx hb (by omega) (by omega) dX0_onAt_9 (by decide) (fun c_9 => ?_) (fun c_9 => ?_)
      · refine lv_aload_n hx hb dX0_onAt_37 rfl (lv_at hl 2 rfl) ?_
        refine va_get (D := D) (ci := 0) (v := .int (bI (lon L))) (C := RX0) (T := TX0) (N := 5) hx hb hts hin0 hown hK hP 0 rfl rfl 3 (by decide) (hts (.fieldLink RX0 22 "LanternPrimes$Lamp" "onAtStart" "Z") (List.mem_of_getElem? (i := 4) rfl)) (fun _ h9 => h9) rfl dX0_onAt_38 ?_
        refine lv_iload_n hx hb dX0_onAt_41 rfl (lv_at hl 1 rfl) ?_
        refine rS (r := bI (decide (trn L t i % 2 = 1))) (As := [.int (nI (trn L t i))]) (rest := [.int (bI (lon L))]) ⟨hx, hb, hml, hown, hts⟩ (c_X0_isOdd l D cI cZ cL cJ (trn L t i) (trn_lt ht (by omega))) (va_cwS 1 hts gX0_onAt_X0_isOdd rfl rfl rfl (by decide +kernel) ⟨(Nat.le_of_ble_eq_true rfl), (Nat.le_of_ble_eq_true rfl)⟩) hK hE trivial rfl hl.1 rfl (Nat.le_of_ble_eq_true rfl) dX0_onAt_42 ⟨(Nat.le_of_ble_eq_true rfl), (Nat.le_of_ble_eq_true rfl)⟩ ?_
        refine lv_icmp_eq (tgt := 52) hx hb dX0_onAt_45 (by decide) (fun c_45 => ?_) (fun c_45 => ?_)
        · refine lv_iconst (v := nI 0) hx hb dX0_onAt_52 (by decide) ?_
          refine n_ti (y := bI (onB L t)) (by rw [show i = lbc L by omega] at c_45; first | exact bI_bne0 c_45 | exact bI_bne1 c_45) ?_
          exact W.zret (v := bI (onB L t)) hx hb hr (bI_narrow _) (fun t ht hW => ⟨rfl, ht⟩) (fun _ h => by cases h) dX0_onAt_53
        · refine lv_iconst (v := nI 1) hx hb dX0_onAt_48 (by decide) ?_
          refine lv_goto (tgt := 53) hx hb dX0_onAt_49 (by decide) ?_
          refine n_ti (y := bI (onB L t)) (by rw [show i = lbc L by omega] at c_45; first | exact bI_bne0 c_45 | exact bI_bne1 c_45) ?_
          exact W.zret (v := bI (onB L t)) hx hb hr (bI_narrow _) (fun t ht hW => ⟨rfl, ht⟩) (fun _ h => by cases h) dX0_onAt_53
      · refine lv_iload_n hx hb dX0_onAt_12 rfl (lv_at hl 1 rfl) ?_
        refine lv_iload_n hx hb dX0_onAt_13 rfl (lv_at hl 3 rfl) ?_
        refine lv_aload_n hx hb dX0_onAt_14 rfl (lv_at hl 2 rfl) ?_
        refine va_get (D := D) (ci := 0) (v := .ref an) (C := RX0) (T := TX0) (N := 5) hx hb hts hin0 hown hK hP 0 rfl rfl 0 (by decide) (hts (.fieldLink RX0 9 "LanternPrimes$Lamp" "numbers" "[I") (List.mem_of_getElem? (i := 2) rfl)) (fun _ h9 => h9) rfl dX0_onAt_15 ?_
        refine lv_iload_n hx hb dX0_onAt_18 rfl (lv_at hl 0 rfl) ?_
        refine n_iald (v := nI (lnu L i)) (j := i) hx hb hK hP 1 0 rfl rfl (by omega) (by decide) rfl dX0_onAt_19 ?_
        have hw := isP_le (hwf.2 i c_9).1
        have hw2 := (hwf.2 i c_9).2
        refine lv_aload_n hx hb dX0_onAt_20 rfl (lv_at hl 2 rfl) ?_
        refine va_get (D := D) (ci := 0) (v := .ref ao) (C := RX0) (T := TX0) (N := 5) hx hb hts hin0 hown hK hP 0 rfl rfl 1 (by decide) (hts (.fieldLink RX0 15 "LanternPrimes$Lamp" "offsets" "[I") (List.mem_of_getElem? (i := 3) rfl)) (fun _ h9 => h9) rfl dX0_onAt_21 ?_
        refine lv_iload_n hx hb dX0_onAt_24 rfl (lv_at hl 0 rfl) ?_
        refine n_iald (v := nI (lof L i)) (j := i) hx hb hK hP 2 0 rfl rfl (by omega) (by decide) rfl dX0_onAt_25 ?_
        refine rS (r := nI (sut t (lnu L i) (lof L i))) (As := [.int (nI t), .int (nI (lnu L i)), .int (nI (lof L i))]) (rest := [.int (nI (trn L t i))]) ⟨hx, hb, hml, hown, hts⟩ (c_X0_strikesUpTo l D cI cZ cL cJ t (lnu L i) (lof L i) ht (by omega) (by omega) hw2) (va_cwS 3 hts gX0_onAt_X0_strikesUpTo rfl rfl rfl (by decide +kernel) ⟨(Nat.le_of_ble_eq_true rfl), (Nat.le_of_ble_eq_true rfl)⟩) hK hE trivial rfl hl.1 rfl (Nat.le_of_ble_eq_true rfl) dX0_onAt_26 ⟨(Nat.le_of_ble_eq_true rfl), (Nat.le_of_ble_eq_true rfl)⟩ ?_
        refine n_iadd (v := nI (trn L t (i + 1))) hx hb dX0_onAt_29 (nI_add _ _) ?_
        refine lv_istore_n (lv' := [(2, .int (nI (trn L t (i + 1)))), (3, .int (nI i)), (0, .ref a), (1, .int (nI t))]) hx hb dX0_onAt_30 rfl hl (by decide) rfl (fun ls hl => ?_)
        refine lv_iinc (v := nI (i + 1)) (lv' := [(3, .int (nI (i + 1))), (2, .int (nI (trn L t (i + 1)))), (0, .ref a), (1, .int (nI t))]) hx hb dX0_onAt_31 hl (k := 1) rfl (nI_inc _) (by decide) rfl (fun ls hl => ?_)
        refine lv_goto (tgt := 4) hx hb dX0_onAt_34 (by decide) ?_
        exact ih_4 (i + 1) (by omega) (by omega) ls (lv_sub hl [0, 1, 2, 3] rfl)
  exact loop_4 (lbc L + 1) 0 (by omega) (Nat.zero_le _) ls (lv_sub hl [0, 1, 2, 3] rfl)
set_option maxHeartbeats 4000000 in
set_option maxRecDepth 100000 in
/-- litAt -/
theorem c_X0_litAt (l : Launch) (D : va_G) (cI cZ cL cJ : ClassId) (a an ao : Nat) (L : LV) (t : Nat) (ht : t < 2 ^ 25) (hwf : WFL 8 L) : Met l yX0_litAt wsX0_litAt ({ frames := 2, cells := 0, slots := 0, locals := 45 } : Room) (PC D (TY cI cZ cL cJ) noA [.ref a, .int (nI t)] (fun H => va_P D vwCl (lampW cI a an ao L) H)) (QcRead (bI (litB L t))) 0 0 (fun _ => False) := by
  refine Met.ofW (cc := cX0_litAt) (maxL := 2) (ret := (some .boolean)) (by decide) rfl ?_
  intro p e s m args below meth c s₁ B hml hv
  obtain ⟨rfl, hK, hE, hP⟩ := hv
  have hx := B.exec
  have hb := B.bytes
  have hr := B.returns
  have hts := atoms_spec (ws := wsX0_litAt) B.pre
  have hown : s.vm.findClass RX0 = some m.cls := findClass_of_methodNamed B.named
  have hlocks := B.notSynchronized
  have hNF := hE.2.1.1
  have hin0 : ∀ w ∈ wsX00, w ∈ wsX0_litAt := by decide +kernel
  have hl := lv_entry ([.ref a, .int (nI t)]) (n := 2) (Nat.le_of_ble_eq_true rfl)
  rw [lg_entry_eq]
  generalize (lg_sl ([.ref a, .int (nI t)]) ++ List.replicate (2 - (lg_sl ([.ref a, .int (nI t)])).length) Slot.unset).toArray = ls at hl ⊢
  have hl : lv_has ls 2 [(0, .ref a), (1, .int (nI t))] := hl
  refine lv_aload_n hx hb dX0_litAt_0 rfl (lv_at hl 0 rfl) ?_
  refine va_get (D := D) (ci := 0) (v := .int (bI (lcv L))) (C := RX0) (T := TX0) (N := 5) hx hb hts hin0 hown hK hP 0 rfl rfl 4 (by decide) (hts (.fieldLink RX0 42 "LanternPrimes$Lamp" "covered" "Z") (List.mem_of_getElem? (i := 1) rfl)) (fun _ h9 => h9) rfl dX0_litAt_1 ?_
  refine b_if_ne (b := lcv L) (tgt := 19) hx hb dX0_litAt_4 (by decide) (fun c_4 => ?_) (fun c_4 => ?_)
  · refine lv_iconst (v := nI 0) hx hb dX0_litAt_19 (by decide) ?_
    refine n_ti (y := bI (litB L t)) (by unfold litB; first | (rw [c_4]; rfl) | (rw [c_4, c_12]; rfl)) ?_
    exact W.zret (v := bI (litB L t)) hx hb hr (bI_narrow _) (fun t ht hW => ⟨rfl, ht⟩) (fun _ h => by cases h) dX0_litAt_20
  · refine lv_aload_n hx hb dX0_litAt_7 rfl (lv_at hl 0 rfl) ?_
    refine lv_iload_n hx hb dX0_litAt_8 rfl (lv_at hl 1 rfl) ?_
    refine rV (r := bI (onB L t)) (As := [.int (nI t)]) (rest := []) ⟨hx, hb, hml, hown, hts⟩ (c_X0_onAt l D cI cZ cL cJ a an ao L t ht hwf) (cwV 1 hts gX0_litAt_X0_onAt rfl rfl rfl (by decide +kernel) ⟨(Nat.le_of_ble_eq_true rfl), (Nat.le_of_ble_eq_true rfl)⟩) hK hE hP (RC_of (q := (RX0, TX0, 5)) (ci := 0) hK rfl (vpa hP 0 rfl)) rfl hl.1 rfl (Nat.le_of_ble_eq_true rfl) dX0_litAt_9 ⟨(Nat.le_of_ble_eq_true rfl), (Nat.le_of_ble_eq_true rfl)⟩ ?_
    refine b_if_eq (b := onB L t) (tgt := 19) hx hb dX0_litAt_12 (by decide) (fun c_12 => ?_) (fun c_12 => ?_)
    · refine lv_iconst (v := nI 0) hx hb dX0_litAt_19 (by decide) ?_
      refine n_ti (y := bI (litB L t)) (by unfold litB; first | (rw [c_4]; rfl) | (rw [c_4, c_12]; rfl)) ?_
      exact W.zret (v := bI (litB L t)) hx hb hr (bI_narrow _) (fun t ht hW => ⟨rfl, ht⟩) (fun _ h => by cases h) dX0_litAt_20
    · refine lv_iconst (v := nI 1) hx hb dX0_litAt_15 (by decide) ?_
      refine lv_goto (tgt := 20) hx hb dX0_litAt_16 (by decide) ?_
      refine n_ti (y := bI (litB L t)) (by unfold litB; first | (rw [c_4]; rfl) | (rw [c_4, c_12]; rfl)) ?_
      exact W.zret (v := bI (litB L t)) hx hb hr (bI_narrow _) (fun t ht hW => ⟨rfl, ht⟩) (fun _ h => by cases h) dX0_litAt_20
end
section
set_option maxHeartbeats 4000000 in
set_option maxRecDepth 100000 in
/-- turningRemainders -/
theorem c_X0_turningRemainders (l : Launch) (D : va_G) (cI cZ cL cJ : ClassId) (a an ao : Nat) (L : LV) (q : Nat) (hq : q < 2 ^ 25) (hwf : WFL 8 L) : Met l yX0_turningRemainders wsX0_turningRemainders ({ frames := 0, cells := 0, slots := 0, locals := 0 } : Room) (PC D (TY cI cZ cL cJ) noA [.ref a, .int (nI q)] (fun H => va_P D vwCl (lampW cI a an ao L) H)) (QcRead (nI (trb L q (lbc L)))) 0 0 (fun _ => False) := by
  refine Met.ofW (cc := cX0_turningRemainders) (maxL := 4) (ret := (some .int)) (by decide) rfl ?_
  intro p e s m args below meth c s₁ B hml hv
  obtain ⟨rfl, hK, hE, hP⟩ := hv
  have hx := B.exec
  have hb := B.bytes
  have hr := B.returns
  have hts := atoms_spec (ws := wsX0_turningRemainders) B.pre
  have hown : s.vm.findClass RX0 = some m.cls := findClass_of_methodNamed B.named
  have hlocks := B.notSynchronized
  have hNF := hE.2.1.1
  have hin0 : ∀ w ∈ wsX00, w ∈ wsX0_turningRemainders := by decide +kernel
  have hl := lv_entry ([.ref a, .int (nI q)]) (n := 4) (Nat.le_of_ble_eq_true rfl)
  rw [lg_entry_eq]
  generalize (lg_sl ([.ref a, .int (nI q)]) ++ List.replicate (4 - (lg_sl ([.ref a, .int (nI q)])).length) Slot.unset).toArray = ls at hl ⊢
  have hl : lv_has ls 4 [(0, .ref a), (1, .int (nI q))] := hl
  refine lv_iconst (v := nI 0) hx hb dX0_turningRemainders_0 (by decide) ?_
  refine lv_istore_n (lv' := [(2, .int (nI 0)), (0, .ref a), (1, .int (nI q))]) hx hb dX0_turningRemainders_1 rfl hl (by decide) rfl (fun ls hl => ?_)
  refine lv_iconst (v := nI 0) hx hb dX0_turningRemainders_2 (by decide) ?_
  refine lv_istore_n (lv' := [(3, .int (nI 0)), (2, .int (nI 0)), (0, .ref a), (1, .int (nI q))]) hx hb dX0_turningRemainders_3 rfl hl (by decide) rfl (fun ls hl => ?_)
  have loop_4 : ∀ (fu : Nat) (i : Nat), lbc L + 1 - i ≤ fu → i ≤ lbc L → ∀ (ls : Array Slot), lv_has ls 4 [(3, .int (nI i)), (2, .int (nI (trb L q i))), (0, .ref a), (1, .int (nI q))] → W p l e (headSpec wsX0_turningRemainders ({ frames := 0, cells := 0, slots := 0, locals := 0 } : Room)).room s m [.ref a, .int (nI q)].toArray below meth c s.heap [] 0 0 (MQ below (QcRead (nI (trb L q (lbc L)))) ([.ref a, .int (nI q)].toArray) s 0 0 (fun _ => False)) (F0 m 4 ls []) := by
    intro fu
    induction fu with
    | zero => intro i hn_4 hi; exact absurd hn_4 (by omega)
    | succ fu ih_4 =>
      intro i hn_4 hi ls hl
      have hwf1 := hwf.1
      refine lv_iload_n hx hb dX0_turningRemainders_4 rfl (lv_at hl 0 rfl) ?_
      refine lv_aload_n hx hb dX0_turningRemainders_5 rfl (lv_at hl 2 rfl) ?_
      refine va_get (D := D) (ci := 0) (v := .int (nI (lbc L))) (C := RX0) (T := TX0) (N := 5) hx hb hts hin0 hown hK hP 0 rfl rfl 2 (by decide) (hts (.fieldLink RX0 18 "LanternPrimes$Lamp" "beatCount" "I") (List.mem_of_getElem? (i := 1) rfl)) (fun _ h9 => h9) rfl dX0_turningRemainders_6 ?_
      refine n_icmp_ge (a := i) (b := lbc L) (tgt := 39) hx hb (by omega) (by omega) dX0_turningRemainders_9 (by decide) (fun c_9 => ?_) (fun c_9 => ?_)
      · refine lv_iload_n hx hb dX0_turningRemainders_39 rfl (lv_at hl 1 rfl) ?_
        refine n_ti (y := nI (trb L q (lbc L))) (by rw [show i = lbc L by omega]) ?_
        exact W.iret (v := nI (trb L q (lbc L))) hx hb hr (fun t ht hW => ⟨rfl, ht⟩) (fun _ h => by cases h) dX0_turningRemainders_40
      · refine lv_aload_n hx hb dX0_turningRemainders_12 rfl (lv_at hl 2 rfl) ?_
        refine va_get (D := D) (ci := 0) (v := .ref an) (C := RX0) (T := TX0) (N := 5) hx hb hts hin0 hown hK hP 0 rfl rfl 0 (by decide) (hts (.fieldLink RX0 9 "LanternPrimes$Lamp" "numbers" "[I") (List.mem_of_getElem? (i := 2) rfl)) (fun _ h9 => h9) rfl dX0_turningRemainders_13 ?_
        refine lv_iload_n hx hb dX0_turningRemainders_16 rfl (lv_at hl 0 rfl) ?_
        refine n_iald (v := nI (lnu L i)) (j := i) hx hb hK hP 1 0 rfl rfl (by omega) (by decide) rfl dX0_turningRemainders_17 ?_
        have hw := isP_le (hwf.2 i c_9).1
        have hw2 := (hwf.2 i c_9).2
        refine lv_iload_n hx hb dX0_turningRemainders_18 rfl (lv_at hl 3 rfl) ?_
        refine n_icmp_ne (a := lnu L i) (b := q) (tgt := 33) hx hb (by omega) (by omega) dX0_turningRemainders_19 (by decide) (fun c_19 => ?_) (fun c_19 => ?_)
        · have e_1 : trb L q (i + 1) = trb L q i := by simp only [trb]; rw [if_neg c_19]
          rw [← e_1] at hl
          refine lv_iinc (v := nI (i + 1)) (lv' := [(3, .int (nI (i + 1))), (2, .int (nI (trb L q (i + 1)))), (0, .ref a), (1, .int (nI q))]) hx hb dX0_turningRemainders_33 hl (k := 0) rfl (nI_inc _) (by decide) rfl (fun ls hl => ?_)
          refine lv_goto (tgt := 4) hx hb dX0_turningRemainders_36 (by decide) ?_
          exact ih_4 (i + 1) (by omega) (by omega) ls (lv_sub hl [0, 1, 2, 3] rfl)
        · have e_1 : trb L q (i + 1) = trb L q i ^^^ 2 ^ lof L i := by simp only [trb]; rw [if_pos c_19]
          refine lv_iload_n hx hb dX0_turningRemainders_22 rfl (lv_at hl 1 rfl) ?_
          refine lv_iconst (v := nI 1) hx hb dX0_turningRemainders_23 (by decide) ?_
          refine lv_aload_n hx hb dX0_turningRemainders_24 rfl (lv_at hl 2 rfl) ?_
          refine va_get (D := D) (ci := 0) (v := .ref ao) (C := RX0) (T := TX0) (N := 5) hx hb hts hin0 hown hK hP 0 rfl rfl 1 (by decide) (hts (.fieldLink RX0 15 "LanternPrimes$Lamp" "offsets" "[I") (List.mem_of_getElem? (i := 3) rfl)) (fun _ h9 => h9) rfl dX0_turningRemainders_25 ?_
          refine lv_iload_n hx hb dX0_turningRemainders_28 rfl (lv_at hl 0 rfl) ?_
          refine n_iald (v := nI (lof L i)) (j := i) hx hb hK hP 2 0 rfl rfl (by omega) (by decide) rfl dX0_turningRemainders_29 ?_
          refine lv_ishl hx hb dX0_turningRemainders_30 ?_
          refine n_ti (y := nI (2 ^ lof L i)) (shl1 (by omega)) ?_
          refine n_ixor (v := nI (trb L q (i + 1))) hx hb dX0_turningRemainders_31 (by rw [e_1]; exact nI_xor _ _) ?_
          refine lv_istore_n (lv' := [(2, .int (nI (trb L q (i + 1)))), (3, .int (nI i)), (0, .ref a), (1, .int (nI q))]) hx hb dX0_turningRemainders_32 rfl hl (by decide) rfl (fun ls hl => ?_)
          refine lv_iinc (v := nI (i + 1)) (lv' := [(3, .int (nI (i + 1))), (2, .int (nI (trb L q (i + 1)))), (0, .ref a), (1, .int (nI q))]) hx hb dX0_turningRemainders_33 hl (k := 1) rfl (nI_inc _) (by decide) rfl (fun ls hl => ?_)
          refine lv_goto (tgt := 4) hx hb dX0_turningRemainders_36 (by decide) ?_
          exact ih_4 (i + 1) (by omega) (by omega) ls (lv_sub hl [0, 1, 2, 3] rfl)
  exact loop_4 (lbc L + 1) 0 (by omega) (Nat.zero_le _) ls (lv_sub hl [0, 1, 2, 3] rfl)
set_option maxHeartbeats 4000000 in
set_option maxRecDepth 100000 in
/-- changeCycle -/
theorem c_X0_changeCycle (l : Launch) (D : va_G) (cI cZ cL cJ : ClassId) (a an ao : Nat) (L : LV) (hwf : WFL 8 L) : Met l yX0_changeCycle wsX0_changeCycle ({ frames := 1, cells := 0, slots := 0, locals := 23 } : Room) (PC D (TY cI cZ cL cJ) noA [.ref a] (fun H => va_P D vwCl (lampW cI a an ao L) H)) (QcRead (nI (ccy L))) 0 0 (fun _ => False) := by
  refine Met.ofW (cc := cX0_changeCycle) (maxL := 8) (ret := (some .int)) (by decide) rfl ?_
  intro p e s m args below meth c s₁ B hml hv
  obtain ⟨rfl, hK, hE, hP⟩ := hv
  obtain ⟨na, hZ, hT⟩ := hE.2.2.2
  have hx := B.exec
  have hb := B.bytes
  have hr := B.returns
  have hts := atoms_spec (ws := wsX0_changeCycle) B.pre
  have hown : s.vm.findClass RX0 = some m.cls := findClass_of_methodNamed B.named
  have hlocks := B.notSynchronized
  have hNF := hE.2.1.1
  have hin0 : ∀ w ∈ wsX00, w ∈ wsX0_changeCycle := by decide +kernel
  have hl := lv_entry ([.ref a]) (n := 8) (Nat.le_of_ble_eq_true rfl)
  rw [lg_entry_eq]
  generalize (lg_sl ([.ref a]) ++ List.replicate (8 - (lg_sl ([.ref a])).length) Slot.unset).toArray = ls at hl ⊢
  have hl : lv_has ls 8 [(0, .ref a)] := hl
  refine lv_iconst (v := nI 1) hx hb dX0_changeCycle_0 (by decide) ?_
  refine lv_istore_n (lv' := [(1, .int (nI 1)), (0, .ref a)]) hx hb dX0_changeCycle_1 rfl hl (by decide) rfl (fun ls hl => ?_)
  refine va_getsN (v := .ref na) hx hb hZ va_S.rf hown (va_Nw.use rfl (hNF _ (List.mem_of_getElem? (i := 5) rfl))) (fun _ h9 => h9) dX0_changeCycle_2 ?_
  refine lv_astore_n (lv' := [(2, .ref na), (1, .int (nI 1)), (0, .ref a)]) hx hb dX0_changeCycle_5 rfl hl (by decide) rfl (fun ls hl => ?_)
  refine lv_aload_n hx hb dX0_changeCycle_6 rfl (lv_at hl 0 rfl) ?_
  refine va_tlen hx hb hT va_S.rf (v := nI 6) rfl dX0_changeCycle_7 ?_
  refine lv_istore_n (lv' := [(3, .int (nI 6)), (2, .ref na), (1, .int (nI 1)), (0, .ref a)]) hx hb dX0_changeCycle_8 rfl hl (by decide) rfl (fun ls hl => ?_)
  refine lv_iconst (v := nI 0) hx hb dX0_changeCycle_9 (by decide) ?_
  refine lv_istore (lv' := [(4, .int (nI 0)), (3, .int (nI 6)), (2, .ref na), (1, .int (nI 1)), (0, .ref a)]) hx hb dX0_changeCycle_10 hl (by decide) rfl (fun ls hl => ?_)
  have loop_12 : ∀ (fu : Nat) (k : Nat), 7 - k ≤ fu → k ≤ 6 → ∀ (ls : Array Slot), lv_has ls 8 [(4, .int (nI k)), (3, .int (nI 6)), (2, .ref na), (1, .int (nI (ccyk L k))), (0, .ref a)] → W p l e (headSpec wsX0_changeCycle ({ frames := 1, cells := 0, slots := 0, locals := 23 } : Room)).room s m [.ref a].toArray below meth c s.heap [] 0 0 (MQ below (QcRead (nI (ccy L))) ([.ref a].toArray) s 0 0 (fun _ => False)) (F0 m 12 ls []) := by
    intro fu
    induction fu with
    | zero => intro k hn_12 hk; exact absurd hn_12 (by omega)
    | succ fu ih_12 =>
      intro k hn_12 hk ls hl
      refine lv_iload hx hb dX0_changeCycle_12 (lv_at hl 0 rfl) ?_
      refine lv_iload_n hx hb dX0_changeCycle_14 rfl (lv_at hl 1 rfl) ?_
      refine n_icmp_ge (a := k) (b := 6) (tgt := 71) hx hb (by omega) (by omega) dX0_changeCycle_15 (by decide) (fun c_15 => ?_) (fun c_15 => ?_)
      · refine lv_iload_n hx hb dX0_changeCycle_71 rfl (lv_at hl 3 rfl) ?_
        refine n_ti (y := nI (ccy L)) (by rw [show k = 6 by omega]; rfl) ?_
        exact W.iret (v := nI (ccy L)) hx hb hr (fun t ht hW => ⟨rfl, ht⟩) (fun _ h => by cases h) dX0_changeCycle_72
      · refine lv_aload_n hx hb dX0_changeCycle_18 rfl (lv_at hl 2 rfl) ?_
        refine lv_iload hx hb dX0_changeCycle_19 (lv_at hl 0 rfl) ?_
        refine n_ti6 (j := k) hx hb hT va_S.rf (by omega) dX0_changeCycle_21 ?_
        have hk6 := isP_le (NUMf_P c_15)
        refine lv_istore (lv' := [(5, .int (nI (NUMf k))), (4, .int (nI k)), (3, .int (nI 6)), (2, .ref na), (1, .int (nI (ccyk L k))), (0, .ref a)]) hx hb dX0_changeCycle_22 hl (by decide) rfl (fun ls hl => ?_)
        refine lv_aload_n hx hb dX0_changeCycle_24 rfl (lv_at hl 5 rfl) ?_
        refine lv_iload hx hb dX0_changeCycle_25 (lv_at hl 0 rfl) ?_
        refine rV (r := nI (trb L (NUMf k) (lbc L))) (As := [.int (nI (NUMf k))]) (rest := []) ⟨hx, hb, hml, hown, hts⟩ (c_X0_turningRemainders l D cI cZ cL cJ a an ao L (NUMf k) (by omega) hwf) (cwV 1 hts gX0_changeCycle_X0_turningRemainders rfl rfl rfl (by decide +kernel) ⟨(Nat.le_of_ble_eq_true rfl), (Nat.le_of_ble_eq_true rfl)⟩) hK hE hP (RC_of (q := (RX0, TX0, 5)) (ci := 0) hK rfl (vpa hP 0 rfl)) rfl hl.1 rfl (Nat.le_of_ble_eq_true rfl) dX0_changeCycle_27 ⟨(Nat.le_of_ble_eq_true rfl), (Nat.le_of_ble_eq_true rfl)⟩ ?_
        refine lv_istore (lv' := [(6, .int (nI (trb L (NUMf k) (lbc L)))), (5, .int (nI (NUMf k))), (4, .int (nI k)), (3, .int (nI 6)), (2, .ref na), (1, .int (nI (ccyk L k))), (0, .ref a)]) hx hb dX0_changeCycle_30 hl (by decide) rfl (fun ls hl => ?_)
        have hb1 : trb L (NUMf k) (lbc L) < 2 ^ 31 := Nat.lt_of_lt_of_le (trb_lt _ (fun i hi => (hwf.2 i hi).2)) (Nat.pow_le_pow_right (by decide) (by omega))
        have hb2 : 2 ^ NUMf k - 1 < 2 ^ 31 := Nat.lt_of_le_of_lt (Nat.sub_le _ _) (Nat.pow_lt_pow_right (by decide) (by omega))
        have join_53 : ∀ (ls : Array Slot), lv_has ls 8 [(6, .int (nI (trb L (NUMf k) (lbc L)))), (5, .int (nI (NUMf k))), (4, .int (nI k)), (3, .int (nI 6)), (2, .ref na), (1, .int (nI (ccyk L k))), (0, .ref a)] → W p l e (headSpec wsX0_changeCycle ({ frames := 1, cells := 0, slots := 0, locals := 23 } : Room)).room s m [.ref a].toArray below meth c s.heap [] 0 0 (MQ below (QcRead (nI (ccy L))) ([.ref a].toArray) s 0 0 (fun _ => False)) (F0 m 53 ls [.int (bI (alike L (NUMf k)))]) := by
          intro   ls hl
          refine lv_istore (lv' := [(7, .int (bI (alike L (NUMf k)))), (6, .int (nI (trb L (NUMf k) (lbc L)))), (5, .int (nI (NUMf k))), (4, .int (nI k)), (3, .int (nI 6)), (2, .ref na), (1, .int (nI (ccyk L k))), (0, .ref a)]) hx hb dX0_changeCycle_53 hl (by decide) rfl (fun ls hl => ?_)
          refine lv_iload hx hb dX0_changeCycle_55 (lv_at hl 0 rfl) ?_
          refine b_if_ne (b := alike L (NUMf k)) (tgt := 65) hx hb dX0_changeCycle_57 (by decide) (fun c_57 => ?_) (fun c_57 => ?_)
          · have e_1 : ccyk L (k + 1) = ccyk L k := by simp only [ccyk]; rw [if_pos c_57]
            rw [← e_1] at hl
            refine lv_iinc (v := nI (k + 1)) (lv' := [(4, .int (nI (k + 1))), (7, .int (bI (alike L (NUMf k)))), (6, .int (nI (trb L (NUMf k) (lbc L)))), (5, .int (nI (NUMf k))), (3, .int (nI 6)), (2, .ref na), (1, .int (nI (ccyk L (k + 1)))), (0, .ref a)]) hx hb dX0_changeCycle_65 hl (k := 3) rfl (nI_inc _) (by decide) rfl (fun ls hl => ?_)
            refine lv_goto (tgt := 12) hx hb dX0_changeCycle_68 (by decide) ?_
            exact ih_12 (k + 1) (by omega) (by omega) ls (lv_sub hl [0, 4, 5, 6, 7] rfl)
          · have e_1 : ccyk L (k + 1) = ccyk L k * NUMf k := by simp only [ccyk]; rw [if_neg (by rw [c_57]; decide)]
            refine lv_iload_n hx hb dX0_changeCycle_60 rfl (lv_at hl 6 rfl) ?_
            refine lv_iload hx hb dX0_changeCycle_61 (lv_at hl 2 rfl) ?_
            refine n_imul (v := nI (ccyk L (k + 1))) hx hb dX0_changeCycle_63 (by rw [e_1]; exact pk_mul _ _) ?_
            refine lv_istore_n (lv' := [(1, .int (nI (ccyk L (k + 1)))), (7, .int (bI (alike L (NUMf k)))), (6, .int (nI (trb L (NUMf k) (lbc L)))), (5, .int (nI (NUMf k))), (4, .int (nI k)), (3, .int (nI 6)), (2, .ref na), (0, .ref a)]) hx hb dX0_changeCycle_64 rfl hl (by decide) rfl (fun ls hl => ?_)
            refine lv_iinc (v := nI (k + 1)) (lv' := [(4, .int (nI (k + 1))), (1, .int (nI (ccyk L (k + 1)))), (7, .int (bI (alike L (NUMf k)))), (6, .int (nI (trb L (NUMf k) (lbc L)))), (5, .int (nI (NUMf k))), (3, .int (nI 6)), (2, .ref na), (0, .ref a)]) hx hb dX0_changeCycle_65 hl (k := 4) rfl (nI_inc _) (by decide) rfl (fun ls hl => ?_)
            refine lv_goto (tgt := 12) hx hb dX0_changeCycle_68 (by decide) ?_
            exact ih_12 (k + 1) (by omega) (by omega) ls (lv_sub hl [0, 5, 6, 1, 7] rfl)
        refine lv_iload hx hb dX0_changeCycle_32 (lv_at hl 0 rfl) ?_
        refine n_if_eq (a := trb L (NUMf k) (lbc L)) (tgt := 48) hx hb hb1 dX0_changeCycle_34 (by decide) (fun c_34 => ?_) (fun c_34 => ?_)
        · refine lv_iconst (v := nI 1) hx hb dX0_changeCycle_48 (by decide) ?_
          refine lv_goto (tgt := 53) hx hb dX0_changeCycle_49 (by decide) ?_
          refine n_ti (y := bI (alike L (NUMf k))) (by unfold alike; first | (rw [decide_eq_true c_34]; rfl) | (rw [decide_eq_false c_34, decide_eq_true c_45]; rfl) | (rw [decide_eq_false c_34, decide_eq_false c_45]; rfl)) ?_
          exact join_53 ls (lv_sub hl [0, 1, 2, 3, 4, 5, 6] rfl)
        · refine lv_iload hx hb dX0_changeCycle_37 (lv_at hl 0 rfl) ?_
          refine lv_iconst (v := nI 1) hx hb dX0_changeCycle_39 (by decide) ?_
          refine lv_iload hx hb dX0_changeCycle_40 (lv_at hl 1 rfl) ?_
          refine lv_ishl hx hb dX0_changeCycle_42 ?_
          refine n_ti (y := nI (2 ^ NUMf k)) (shl1 (by omega)) ?_
          refine lv_iconst (v := nI 1) hx hb dX0_changeCycle_43 (by decide) ?_
          refine n_isub (v := nI (2 ^ NUMf k - 1)) hx hb dX0_changeCycle_44 (pk_sub (Nat.two_pow_pos _)) ?_
          refine n_icmp_ne (a := trb L (NUMf k) (lbc L)) (b := 2 ^ NUMf k - 1) (tgt := 52) hx hb hb1 hb2 dX0_changeCycle_45 (by decide) (fun c_45 => ?_) (fun c_45 => ?_)
          · refine lv_iconst (v := nI 0) hx hb dX0_changeCycle_52 (by decide) ?_
            refine n_ti (y := bI (alike L (NUMf k))) (by unfold alike; first | (rw [decide_eq_true c_34]; rfl) | (rw [decide_eq_false c_34, decide_eq_true c_45]; rfl) | (rw [decide_eq_false c_34, decide_eq_false c_45]; rfl)) ?_
            exact join_53 ls (lv_sub hl [0, 1, 2, 3, 4, 5, 6] rfl)
          · refine lv_iconst (v := nI 1) hx hb dX0_changeCycle_48 (by decide) ?_
            refine lv_goto (tgt := 53) hx hb dX0_changeCycle_49 (by decide) ?_
            refine n_ti (y := bI (alike L (NUMf k))) (by unfold alike; first | (rw [decide_eq_true c_34]; rfl) | (rw [decide_eq_false c_34, decide_eq_true c_45]; rfl) | (rw [decide_eq_false c_34, decide_eq_false c_45]; rfl)) ?_
            exact join_53 ls (lv_sub hl [0, 1, 2, 3, 4, 5, 6] rfl)
  exact loop_12 7 0 (by omega) (Nat.zero_le _) ls (lv_sub hl [0, 1, 2, 3, 4] rfl)
set_option maxHeartbeats 4000000 in
set_option maxRecDepth 100000 in
/-- cycle -/
theorem c_X0_cycle (l : Launch) (D : va_G) (cI cZ cL cJ : ClassId) (a an ao : Nat) (L : LV) (hwf : WFL 8 L) : Met l yX0_cycle wsX0_cycle ({ frames := 2, cells := 0, slots := 0, locals := 50 } : Room) (PC D (TY cI cZ cL cJ) noA [.ref a] (fun H => va_P D vwCl (lampW cI a an ao L) H)) (QcRead (nI (cyc L))) 0 0 (fun _ => False) := by
  refine Met.ofW (cc := cX0_cycle) (maxL := 3) (ret := (some .int)) (by decide) rfl ?_
  intro p e s m args below meth c s₁ B hml hv
  obtain ⟨rfl, hK, hE, hP⟩ := hv
  have hx := B.exec
  have hb := B.bytes
  have hr := B.returns
  have hts := atoms_spec (ws := wsX0_cycle) B.pre
  have hown : s.vm.findClass RX0 = some m.cls := findClass_of_methodNamed B.named
  have hlocks := B.notSynchronized
  have hNF := hE.2.1.1
  have hin0 : ∀ w ∈ wsX00, w ∈ wsX0_cycle := by decide +kernel
  have hl := lv_entry ([.ref a]) (n := 3) (Nat.le_of_ble_eq_true rfl)
  rw [lg_entry_eq]
  generalize (lg_sl ([.ref a]) ++ List.replicate (3 - (lg_sl ([.ref a])).length) Slot.unset).toArray = ls at hl ⊢
  have hl : lv_has ls 3 [(0, .ref a)] := hl
  refine lv_aload_n hx hb dX0_cycle_0 rfl (lv_at hl 0 rfl) ?_
  refine rV (r := nI (ccy L)) (As := []) (rest := []) ⟨hx, hb, hml, hown, hts⟩ (c_X0_changeCycle l D cI cZ cL cJ a an ao L hwf) (cwV 0 hts gX0_cycle_X0_changeCycle rfl rfl rfl (by decide +kernel) ⟨(Nat.le_of_ble_eq_true rfl), (Nat.le_of_ble_eq_true rfl)⟩) hK hE hP (RC_of (q := (RX0, TX0, 5)) (ci := 0) hK rfl (vpa hP 0 rfl)) rfl hl.1 rfl (Nat.le_of_ble_eq_true rfl) dX0_cycle_1 ⟨(Nat.le_of_ble_eq_true rfl), (Nat.le_of_ble_eq_true rfl)⟩ ?_
  have hcb := ccy_bd L
  refine lv_istore_n (lv' := [(1, .int (nI (ccy L))), (0, .ref a)]) hx hb dX0_cycle_4 rfl hl (by decide) rfl (fun ls hl => ?_)
  have join_24 : ∀ (ls : Array Slot), lv_has ls 3 [(1, .int (nI (ccy L))), (0, .ref a)] → W p l e (headSpec wsX0_cycle ({ frames := 2, cells := 0, slots := 0, locals := 50 } : Room)).room s m [.ref a].toArray below meth c s.heap [] 0 0 (MQ below (QcRead (nI (cyc L))) ([.ref a].toArray) s 0 0 (fun _ => False)) (F0 m 24 ls [.int (bI (decide (onB L (ccy L - 1) = lon L)))]) := by
    intro   ls hl
    refine lv_istore_n (lv' := [(2, .int (bI (decide (onB L (ccy L - 1) = lon L)))), (1, .int (nI (ccy L))), (0, .ref a)]) hx hb dX0_cycle_24 rfl hl (by decide) rfl (fun ls hl => ?_)
    refine lv_iload_n hx hb dX0_cycle_25 rfl (lv_at hl 0 rfl) ?_
    refine b_if_eq (b := decide (onB L (ccy L - 1) = lon L)) (tgt := 33) hx hb dX0_cycle_26 (by decide) (fun c_26 => ?_) (fun c_26 => ?_)
    · refine lv_iconst (v := nI 2) hx hb dX0_cycle_33 (by decide) ?_
      refine lv_iload_n hx hb dX0_cycle_34 rfl (lv_at hl 1 rfl) ?_
      refine n_imul (v := nI (2 * (ccy L))) hx hb dX0_cycle_35 (pk_mul _ _) ?_
      refine n_ti (y := nI (cyc L)) (by unfold cyc; first | rw [if_pos (of_decide_eq_true c_26)] | rw [if_neg (of_decide_eq_false c_26)]) ?_
      exact W.iret (v := nI (cyc L)) hx hb hr (fun t ht hW => ⟨rfl, ht⟩) (fun _ h => by cases h) dX0_cycle_36
    · refine lv_iload_n hx hb dX0_cycle_29 rfl (lv_at hl 1 rfl) ?_
      refine lv_goto (tgt := 36) hx hb dX0_cycle_30 (by decide) ?_
      refine n_ti (y := nI (cyc L)) (by unfold cyc; first | rw [if_pos (of_decide_eq_true c_26)] | rw [if_neg (of_decide_eq_false c_26)]) ?_
      exact W.iret (v := nI (cyc L)) hx hb hr (fun t ht hW => ⟨rfl, ht⟩) (fun _ h => by cases h) dX0_cycle_36
  refine lv_aload_n hx hb dX0_cycle_5 rfl (lv_at hl 1 rfl) ?_
  refine lv_iload_n hx hb dX0_cycle_6 rfl (lv_at hl 0 rfl) ?_
  refine lv_iconst (v := nI 1) hx hb dX0_cycle_7 (by decide) ?_
  refine n_isub (v := nI ((ccy L) - 1)) hx hb dX0_cycle_8 (pk_sub (by omega)) ?_
  refine rV (r := bI (onB L (ccy L - 1))) (As := [.int (nI (ccy L - 1))]) (rest := []) ⟨hx, hb, hml, hown, hts⟩ (c_X0_onAt l D cI cZ cL cJ a an ao L (ccy L - 1) (by omega) hwf) (cwV 1 hts gX0_cycle_X0_onAt rfl rfl rfl (by decide +kernel) ⟨(Nat.le_of_ble_eq_true rfl), (Nat.le_of_ble_eq_true rfl)⟩) hK hE hP (RC_of (q := (RX0, TX0, 5)) (ci := 0) hK rfl (vpa hP 0 rfl)) rfl hl.1 rfl (Nat.le_of_ble_eq_true rfl) dX0_cycle_9 ⟨(Nat.le_of_ble_eq_true rfl), (Nat.le_of_ble_eq_true rfl)⟩ ?_
  refine lv_aload_n hx hb dX0_cycle_12 rfl (lv_at hl 1 rfl) ?_
  refine va_get (D := D) (ci := 0) (v := .int (bI (lon L))) (C := RX0) (T := TX0) (N := 5) hx hb hts hin0 hown hK hP 0 rfl rfl 3 (by decide) (hts (.fieldLink RX0 22 "LanternPrimes$Lamp" "onAtStart" "Z") (List.mem_of_getElem? (i := 1) rfl)) (fun _ h9 => h9) rfl dX0_cycle_13 ?_
  refine lv_icmp_ne (tgt := 23) hx hb dX0_cycle_16 (by decide) (fun c_16 => ?_) (fun c_16 => ?_)
  · refine lv_iconst (v := nI 0) hx hb dX0_cycle_23 (by decide) ?_
    refine n_ti (y := bI (decide (onB L (ccy L - 1) = lon L))) (by first | (rw [decide_eq_true (bI_inj c_16)]; rfl) | (rw [decide_eq_false (fun z => c_16 (by rw [z]))]; rfl)) ?_
    exact join_24 ls (lv_sub hl [0, 1] rfl)
  · refine lv_iconst (v := nI 1) hx hb dX0_cycle_19 (by decide) ?_
    refine lv_goto (tgt := 24) hx hb dX0_cycle_20 (by decide) ?_
    refine n_ti (y := bI (decide (onB L (ccy L - 1) = lon L))) (by first | (rw [decide_eq_true (bI_inj c_16)]; rfl) | (rw [decide_eq_false (fun z => c_16 (by rw [z]))]; rfl)) ?_
    exact join_24 ls (lv_sub hl [0, 1] rfl)
set_option maxHeartbeats 4000000 in
set_option maxRecDepth 100000 in
/-- neverChanges -/
theorem c_X0_neverChanges (l : Launch) (D : va_G) (cI cZ cL cJ : ClassId) (a an ao : Nat) (L : LV) (hwf : WFL 8 L) : Met l yX0_neverChanges wsX0_neverChanges ({ frames := 3, cells := 0, slots := 0, locals := 72 } : Room) (PC D (TY cI cZ cL cJ) noA [.ref a] (fun H => va_P D vwCl (lampW cI a an ao L) H)) (QcRead (bI (decide (cyc L = 1)))) 0 0 (fun _ => False) := by
  refine Met.ofW (cc := cX0_neverChanges) (maxL := 1) (ret := (some .boolean)) (by decide) rfl ?_
  intro p e s m args below meth c s₁ B hml hv
  obtain ⟨rfl, hK, hE, hP⟩ := hv
  have hx := B.exec
  have hb := B.bytes
  have hr := B.returns
  have hts := atoms_spec (ws := wsX0_neverChanges) B.pre
  have hown : s.vm.findClass RX0 = some m.cls := findClass_of_methodNamed B.named
  have hlocks := B.notSynchronized
  have hNF := hE.2.1.1
  have hin0 : ∀ w ∈ wsX00, w ∈ wsX0_neverChanges := by decide +kernel
  have hl := lv_entry ([.ref a]) (n := 1) (Nat.le_of_ble_eq_true rfl)
  rw [lg_entry_eq]
  generalize (lg_sl ([.ref a]) ++ List.replicate (1 - (lg_sl ([.ref a])).length) Slot.unset).toArray = ls at hl ⊢
  have hl : lv_has ls 1 [(0, .ref a)] := hl
  refine lv_aload_n hx hb dX0_neverChanges_0 rfl (lv_at hl 0 rfl) ?_
  refine rV (r := nI (cyc L)) (As := []) (rest := []) ⟨hx, hb, hml, hown, hts⟩ (c_X0_cycle l D cI cZ cL cJ a an ao L hwf) (cwV 0 hts gX0_neverChanges_X0_cycle rfl rfl rfl (by decide +kernel) ⟨(Nat.le_of_ble_eq_true rfl), (Nat.le_of_ble_eq_true rfl)⟩) hK hE hP (RC_of (q := (RX0, TX0, 5)) (ci := 0) hK rfl (vpa hP 0 rfl)) rfl hl.1 rfl (Nat.le_of_ble_eq_true rfl) dX0_neverChanges_1 ⟨(Nat.le_of_ble_eq_true rfl), (Nat.le_of_ble_eq_true rfl)⟩ ?_
  have hcb := cyc_bd L
  refine lv_iconst (v := nI 1) hx hb dX0_neverChanges_4 (by decide) ?_
  refine n_icmp_ne (a := cyc L) (b := 1) (tgt := 12) hx hb (by omega) (by omega) dX0_neverChanges_5 (by decide) (fun c_5 => ?_) (fun c_5 => ?_)
  · refine lv_iconst (v := nI 0) hx hb dX0_neverChanges_12 (by decide) ?_
    refine n_ti (y := bI (decide (cyc L = 1))) (by first | (rw [decide_eq_true c_5]; rfl) | (rw [decide_eq_false c_5]; rfl)) ?_
    exact W.zret (v := bI (decide (cyc L = 1))) hx hb hr (bI_narrow _) (fun t ht hW => ⟨rfl, ht⟩) (fun _ h => by cases h) dX0_neverChanges_13
  · refine lv_iconst (v := nI 1) hx hb dX0_neverChanges_8 (by decide) ?_
    refine lv_goto (tgt := 13) hx hb dX0_neverChanges_9 (by decide) ?_
    refine n_ti (y := bI (decide (cyc L = 1))) (by first | (rw [decide_eq_true c_5]; rfl) | (rw [decide_eq_false c_5]; rfl)) ?_
    exact W.zret (v := bI (decide (cyc L = 1))) hx hb hr (bI_narrow _) (fun t ht hW => ⟨rfl, ht⟩) (fun _ h => by cases h) dX0_neverChanges_13
set_option maxHeartbeats 4000000 in
set_option maxRecDepth 100000 in
/-- untilChange -/
theorem c_X0_untilChange (l : Launch) (D : va_G) (cI cZ cL cJ : ClassId) (a an ao : Nat) (L : LV) (t : Nat) (ht : t < 2 ^ 24) (hwf : WFL 8 L) : Met l yX0_untilChange wsX0_untilChange ({ frames := 2, cells := 0, slots := 0, locals := 50 } : Room) (PC D (TY cI cZ cL cJ) noA [.ref a, .int (nI t)] (fun H => va_P D vwCl (lampW cI a an ao L) H)) (QcRead ((untC L t))) 0 0 (fun _ => False) := by
  refine Met.ofW (cc := cX0_untilChange) (maxL := 4) (ret := (some .int)) (by decide) rfl ?_
  intro p e s m args below meth c s₁ B hml hv
  obtain ⟨rfl, hK, hE, hP⟩ := hv
  have hx := B.exec
  have hb := B.bytes
  have hr := B.returns
  have hts := atoms_spec (ws := wsX0_untilChange) B.pre
  have hown : s.vm.findClass RX0 = some m.cls := findClass_of_methodNamed B.named
  have hlocks := B.notSynchronized
  have hNF := hE.2.1.1
  have hin0 : ∀ w ∈ wsX00, w ∈ wsX0_untilChange := by decide +kernel
  have hl := lv_entry ([.ref a, .int (nI t)]) (n := 4) (Nat.le_of_ble_eq_true rfl)
  rw [lg_entry_eq]
  generalize (lg_sl ([.ref a, .int (nI t)]) ++ List.replicate (4 - (lg_sl ([.ref a, .int (nI t)])).length) Slot.unset).toArray = ls at hl ⊢
  have hl : lv_has ls 4 [(0, .ref a), (1, .int (nI t))] := hl
  refine lv_aload_n hx hb dX0_untilChange_0 rfl (lv_at hl 0 rfl) ?_
  refine rV (r := nI (ccy L)) (As := []) (rest := []) ⟨hx, hb, hml, hown, hts⟩ (c_X0_changeCycle l D cI cZ cL cJ a an ao L hwf) (cwV 0 hts gX0_untilChange_X0_changeCycle rfl rfl rfl (by decide +kernel) ⟨(Nat.le_of_ble_eq_true rfl), (Nat.le_of_ble_eq_true rfl)⟩) hK hE hP (RC_of (q := (RX0, TX0, 5)) (ci := 0) hK rfl (vpa hP 0 rfl)) rfl hl.1 rfl (Nat.le_of_ble_eq_true rfl) dX0_untilChange_1 ⟨(Nat.le_of_ble_eq_true rfl), (Nat.le_of_ble_eq_true rfl)⟩ ?_
  have hcb := ccy_bd L
  refine lv_istore_n (lv' := [(2, .int (nI (ccy L))), (0, .ref a), (1, .int (nI t))]) hx hb dX0_untilChange_4 rfl hl (by decide) rfl (fun ls hl => ?_)
  refine lv_iconst (v := nI 1) hx hb dX0_untilChange_5 (by decide) ?_
  refine lv_istore_n (lv' := [(3, .int (nI 1)), (2, .int (nI (ccy L))), (0, .ref a), (1, .int (nI t))]) hx hb dX0_untilChange_6 rfl hl (by decide) rfl (fun ls hl => ?_)
  have loop_7 : ∀ (fu : Nat) (k : Nat), ccy L + 2 - k ≤ fu → 1 ≤ k → k ≤ ccy L + 1 → fnd (fun k => chgB L (t + k)) k (ccy L + 1 - k) = fnd (fun k => chgB L (t + k)) 1 (ccy L) → ∀ (ls : Array Slot), lv_has ls 4 [(3, .int (nI k)), (2, .int (nI (ccy L))), (0, .ref a), (1, .int (nI t))] → W p l e (headSpec wsX0_untilChange ({ frames := 2, cells := 0, slots := 0, locals := 50 } : Room)).room s m [.ref a, .int (nI t)].toArray below meth c s.heap [] 0 0 (MQ below (QcRead ((untC L t))) ([.ref a, .int (nI t)].toArray) s 0 0 (fun _ => False)) (F0 m 7 ls []) := by
    intro fu
    induction fu with
    | zero => intro k hn_7 hk1 hk2 hf; exact absurd hn_7 (by omega)
    | succ fu ih_7 =>
      intro k hn_7 hk1 hk2 hf ls hl
      refine lv_iload_n hx hb dX0_untilChange_7 rfl (lv_at hl 0 rfl) ?_
      refine lv_iload_n hx hb dX0_untilChange_8 rfl (lv_at hl 1 rfl) ?_
      refine n_icmp_gt (a := k) (b := ccy L) (tgt := 30) hx hb (by omega) (by omega) dX0_untilChange_9 (by decide) (fun c_9 => ?_) (fun c_9 => ?_)
      · refine lv_iconst (v := (-1)) hx hb dX0_untilChange_30 (by decide) ?_
        refine n_ti (y := (untC L t)) (by unfold untC; rw [← hf, show ccy L + 1 - k = 0 by omega]; rfl) ?_
        exact W.iret (v := (untC L t)) hx hb hr (fun t ht hW => ⟨rfl, ht⟩) (fun _ h => by cases h) dX0_untilChange_31
      · refine lv_aload_n hx hb dX0_untilChange_12 rfl (lv_at hl 2 rfl) ?_
        refine lv_iload_n hx hb dX0_untilChange_13 rfl (lv_at hl 3 rfl) ?_
        refine lv_iload_n hx hb dX0_untilChange_14 rfl (lv_at hl 0 rfl) ?_
        refine n_iadd (v := nI (t + k)) hx hb dX0_untilChange_15 (nI_add _ _) ?_
        refine rV (r := bI (chgB L (t + k))) (As := [.int (nI (t + k))]) (rest := []) ⟨hx, hb, hml, hown, hts⟩ (c_X0_changesAt l D cI cZ cL cJ a an ao L (t + k) (by omega) hwf) (cwV 1 hts gX0_untilChange_X0_changesAt rfl rfl rfl (by decide +kernel) ⟨(Nat.le_of_ble_eq_true rfl), (Nat.le_of_ble_eq_true rfl)⟩) hK hE hP (RC_of (q := (RX0, TX0, 5)) (ci := 0) hK rfl (vpa hP 0 rfl)) rfl hl.1 rfl (Nat.le_of_ble_eq_true rfl) dX0_untilChange_16 ⟨(Nat.le_of_ble_eq_true rfl), (Nat.le_of_ble_eq_true rfl)⟩ ?_
        refine b_if_eq (b := chgB L (t + k)) (tgt := 24) hx hb dX0_untilChange_19 (by decide) (fun c_19 => ?_) (fun c_19 => ?_)
        · refine lv_iinc (v := nI (k + 1)) (lv' := [(3, .int (nI (k + 1))), (2, .int (nI (ccy L))), (0, .ref a), (1, .int (nI t))]) hx hb dX0_untilChange_24 hl (k := 0) rfl (nI_inc _) (by decide) rfl (fun ls hl => ?_)
          refine lv_goto (tgt := 7) hx hb dX0_untilChange_27 (by decide) ?_
          exact ih_7 (k + 1) (by omega) (by omega) (by omega) (by rw [← hf, fnd_f (f := fun k => chgB L (t + k)) (lo := k) c_19 (by omega), show ccy L + 1 - k - 1 = ccy L + 1 - (k + 1) by omega]) ls (lv_sub hl [0, 1, 2, 3] rfl)
        · refine lv_iload_n hx hb dX0_untilChange_22 rfl (lv_at hl 0 rfl) ?_
          refine n_ti (y := (untC L t)) (by unfold untC; rw [← hf, fnd_t (f := fun k => chgB L (t + k)) (lo := k) c_19 (by omega)]; rfl) ?_
          exact W.iret (v := (untC L t)) hx hb hr (fun t ht hW => ⟨rfl, ht⟩) (fun _ h => by cases h) dX0_untilChange_23
  exact loop_7 (ccy L + 2) 1 (by omega) (by omega) (by omega) (by rw [Nat.add_sub_cancel]) ls (lv_sub hl [0, 1, 2, 3] rfl)
end
section
set_option maxHeartbeats 4000000 in
set_option maxRecDepth 100000 in
/-- append -/
theorem c_X0_append (l : Launch) (D : va_G) (cI cZ cL cJ : ClassId) (a an ao : Nat) (L : LV) (h12 : a ≠ an) (h13 : a ≠ ao) (h23 : an ≠ ao) (h8 : lbc L < 8) (n o : Nat) : Met l yX0_append wsX0_append ({ frames := 0, cells := 0, slots := 0, locals := 0 } : Room) (PC D (TY cI cZ cL cJ) (fun q => q ∈ [a, an, ao]) [.ref a, .int (nI n), .int (nI o)] (fun H => va_P D vwCl (lampW cI a an ao L) H)) (QWv (fun q => q ∈ [a, an, ao]) (fun H => va_P D vwCl (lampW cI a an ao (addL L n o)) H)) 0 0 (fun q => q ∈ [a, an, ao]) := by
  refine Met.ofW (cc := cX0_append) (maxL := 3) (ret := none) (by decide) rfl ?_
  intro p e s m args below meth c s₁ B hml hv
  obtain ⟨rfl, hK, hE, hP⟩ := hv
  have hD : va_D (fun q => q ∈ [a, an, ao]) (lampW cI a an ao L) := vd3 h12 h13 h23
  have hS : va_S (fun q => q ∈ [a, an, ao]) s.heap s.heap [] := va_S.rf
  have hx := B.exec
  have hb := B.bytes
  have hr := B.returns
  have hts := atoms_spec (ws := wsX0_append) B.pre
  have hown : s.vm.findClass RX0 = some m.cls := findClass_of_methodNamed B.named
  have hlocks := B.notSynchronized
  have hNF := hE.2.1.1
  have hin0 : ∀ w ∈ wsX00, w ∈ wsX0_append := by decide +kernel
  have hl := lv_entry ([.ref a, .int (nI n), .int (nI o)]) (n := 3) (Nat.le_of_ble_eq_true rfl)
  rw [lg_entry_eq]
  generalize (lg_sl ([.ref a, .int (nI n), .int (nI o)]) ++ List.replicate (3 - (lg_sl ([.ref a, .int (nI n), .int (nI o)])).length) Slot.unset).toArray = ls at hl ⊢
  have hl : lv_has ls 3 [(0, .ref a), (1, .int (nI n)), (2, .int (nI o))] := hl
  refine lv_aload_n hx hb dX0_append_0 rfl (lv_at hl 0 rfl) ?_
  refine va_get (D := D) (ci := 0) (v := .int (nI (lbc L))) (C := RX0) (T := TX0) (N := 5) hx hb hts hin0 hown hK hP 0 rfl rfl 2 (by decide) (hts (.fieldLink RX0 18 "LanternPrimes$Lamp" "beatCount" "I") (List.mem_of_getElem? (i := 1) rfl)) (fun _ h9 => h9) rfl dX0_append_1 ?_
  refine lv_bipush (v := nI 8) hx hb dX0_append_4 (by decide) ?_
  refine n_icmp_ge (a := lbc L) (b := 8) (tgt := 39) hx hb (by omega) (by omega) dX0_append_6 (by decide) (fun c_6 => ?_) (fun c_6 => ?_)
  · exact absurd c_6 (by omega)
  · refine lv_aload_n hx hb dX0_append_9 rfl (lv_at hl 0 rfl) ?_
    refine va_get (D := D) (ci := 0) (v := .ref an) (C := RX0) (T := TX0) (N := 5) hx hb hts hin0 hown hK hP 0 rfl rfl 0 (by decide) (hts (.fieldLink RX0 9 "LanternPrimes$Lamp" "numbers" "[I") (List.mem_of_getElem? (i := 2) rfl)) (fun _ h9 => h9) rfl dX0_append_10 ?_
    refine lv_aload_n hx hb dX0_append_13 rfl (lv_at hl 0 rfl) ?_
    refine va_get (D := D) (ci := 0) (v := .int (nI (lbc L))) (C := RX0) (T := TX0) (N := 5) hx hb hts hin0 hown hK hP 0 rfl rfl 2 (by decide) (hts (.fieldLink RX0 18 "LanternPrimes$Lamp" "beatCount" "I") (List.mem_of_getElem? (i := 1) rfl)) (fun _ h9 => h9) rfl dX0_append_14 ?_
    refine lv_iload_n hx hb dX0_append_17 rfl (lv_at hl 1 rfl) ?_
    refine n_iast (f' := fun i => nI (if i = lbc L then n else lnu L i)) (j := lbc L) hx hb hK hP hD hS 1 0 rfl rfl (by omega) (by decide) (updI _ _ _) dX0_append_18 (fun H locs hP hD hS => ?_)
    have hP : va_P D vwCl [(a, .inr (0, [.ref an, .ref ao, .int (nI (lbc L)), .int (bI (lon L)), .int (bI (lcv L))])), (an, .inl (cI, 8, .inl (fun i => nI (if i = lbc L then n else lnu L i)))), (ao, .inl (cI, 8, .inl (fun i => nI (lof L i))))] H := hP
    have hD : va_D (fun q => q ∈ [a, an, ao]) [(a, .inr (0, [.ref an, .ref ao, .int (nI (lbc L)), .int (bI (lon L)), .int (bI (lcv L))])), (an, .inl (cI, 8, .inl (fun i => nI (if i = lbc L then n else lnu L i)))), (ao, .inl (cI, 8, .inl (fun i => nI (lof L i))))] := hD
    refine lv_aload_n hx hb dX0_append_19 rfl (lv_at hl 0 rfl) ?_
    refine va_get (D := D) (ci := 0) (v := .ref ao) (C := RX0) (T := TX0) (N := 5) hx hb hts hin0 hown hK hP 0 rfl rfl 1 (by decide) (hts (.fieldLink RX0 15 "LanternPrimes$Lamp" "offsets" "[I") (List.mem_of_getElem? (i := 3) rfl)) (fun _ h9 => h9) rfl dX0_append_20 ?_
    refine lv_aload_n hx hb dX0_append_23 rfl (lv_at hl 0 rfl) ?_
    refine va_get (D := D) (ci := 0) (v := .int (nI (lbc L))) (C := RX0) (T := TX0) (N := 5) hx hb hts hin0 hown hK hP 0 rfl rfl 2 (by decide) (hts (.fieldLink RX0 18 "LanternPrimes$Lamp" "beatCount" "I") (List.mem_of_getElem? (i := 1) rfl)) (fun _ h9 => h9) rfl dX0_append_24 ?_
    refine lv_iload_n hx hb dX0_append_27 rfl (lv_at hl 2 rfl) ?_
    refine n_iast (f' := fun i => nI (if i = lbc L then o else lof L i)) (j := lbc L) hx hb hK hP hD hS 2 0 rfl rfl (by omega) (by decide) (updI _ _ _) dX0_append_28 (fun H locs hP hD hS => ?_)
    have hP : va_P D vwCl [(a, .inr (0, [.ref an, .ref ao, .int (nI (lbc L)), .int (bI (lon L)), .int (bI (lcv L))])), (an, .inl (cI, 8, .inl (fun i => nI (if i = lbc L then n else lnu L i)))), (ao, .inl (cI, 8, .inl (fun i => nI (if i = lbc L then o else lof L i))))] H := hP
    have hD : va_D (fun q => q ∈ [a, an, ao]) [(a, .inr (0, [.ref an, .ref ao, .int (nI (lbc L)), .int (bI (lon L)), .int (bI (lcv L))])), (an, .inl (cI, 8, .inl (fun i => nI (if i = lbc L then n else lnu L i)))), (ao, .inl (cI, 8, .inl (fun i => nI (if i = lbc L then o else lof L i))))] := hD
    refine lv_aload_n hx hb dX0_append_29 rfl (lv_at hl 0 rfl) ?_
    refine lv_dup hx hb dX0_append_30 rfl ?_
    refine va_get (D := D) (ci := 0) (v := .int (nI (lbc L))) (C := RX0) (T := TX0) (N := 5) hx hb hts hin0 hown hK hP 0 rfl rfl 2 (by decide) (hts (.fieldLink RX0 18 "LanternPrimes$Lamp" "beatCount" "I") (List.mem_of_getElem? (i := 1) rfl)) (fun _ h9 => h9) rfl dX0_append_31 ?_
    refine lv_iconst (v := nI 1) hx hb dX0_append_34 (by decide) ?_
    refine n_iadd (v := nI ((lbc L) + 1)) hx hb dX0_append_35 (nI_add _ _) ?_
    refine va_put (D := D) (ci := 0) (v := .int (nI ((lbc L) + 1))) (ty := .int) (C := RX0) (T := TX0) (N := 5) hx hb hts hin0 tyX0 tyX0_ok nmX0 hown hK hP hD hS 0 rfl rfl 2 (by decide) (hts (.fieldLink RX0 18 "LanternPrimes$Lamp" "beatCount" "I") (List.mem_of_getElem? (i := 1) rfl)) (fun _ h9 => h9) rfl (by decide +kernel) rfl rfl (Nat.le_of_ble_eq_true rfl) dX0_append_36 (fun H locs hP hD hS => ?_)
    have hP : va_P D vwCl [(a, .inr (0, [.ref an, .ref ao, .int (nI ((lbc L) + 1)), .int (bI (lon L)), .int (bI (lcv L))])), (an, .inl (cI, 8, .inl (fun i => nI (if i = lbc L then n else lnu L i)))), (ao, .inl (cI, 8, .inl (fun i => nI (if i = lbc L then o else lof L i))))] H := hP
    have hD : va_D (fun q => q ∈ [a, an, ao]) [(a, .inr (0, [.ref an, .ref ao, .int (nI ((lbc L) + 1)), .int (bI (lon L)), .int (bI (lcv L))])), (an, .inl (cI, 8, .inl (fun i => nI (if i = lbc L then n else lnu L i)))), (ao, .inl (cI, 8, .inl (fun i => nI (if i = lbc L then o else lof L i))))] := hD
    exact W.vret hx hb hr (fun t ht hW => ⟨rfl, by rw [ht]; exact hP, hS.F ht⟩) hS.2.2 dX0_append_39
set_option maxHeartbeats 4000000 in
set_option maxRecDepth 100000 in
/-- remove -/
theorem c_X0_remove (l : Launch) (D : va_G) (cI cZ cL cJ : ClassId) (a an ao : Nat) (L : LV) (h12 : a ≠ an) (h13 : a ≠ ao) (h23 : an ≠ ao) (h8 : lbc L ≤ 8) (b : Nat) (hb8 : b < lbc L) : Met l yX0_remove wsX0_remove ({ frames := 0, cells := 0, slots := 0, locals := 0 } : Room) (PC D (TY cI cZ cL cJ) (fun q => q ∈ [a, an, ao]) [.ref a, .int (nI b)] (fun H => va_P D vwCl (lampW cI a an ao L) H)) (QWv (fun q => q ∈ [a, an, ao]) (fun H => va_P D vwCl (lampW cI a an ao (remL L b)) H)) 0 0 (fun q => q ∈ [a, an, ao]) := by
  refine Met.ofW (cc := cX0_remove) (maxL := 3) (ret := none) (by decide) rfl ?_
  intro p e s m args below meth c s₁ B hml hv
  obtain ⟨rfl, hK, hE, hP⟩ := hv
  have hD : va_D (fun q => q ∈ [a, an, ao]) (lampW cI a an ao L) := vd3 h12 h13 h23
  have hS : va_S (fun q => q ∈ [a, an, ao]) s.heap s.heap [] := va_S.rf
  have hx := B.exec
  have hb := B.bytes
  have hr := B.returns
  have hts := atoms_spec (ws := wsX0_remove) B.pre
  have hown : s.vm.findClass RX0 = some m.cls := findClass_of_methodNamed B.named
  have hlocks := B.notSynchronized
  have hNF := hE.2.1.1
  have hin0 : ∀ w ∈ wsX00, w ∈ wsX0_remove := by decide +kernel
  have hl := lv_entry ([.ref a, .int (nI b)]) (n := 3) (Nat.le_of_ble_eq_true rfl)
  rw [lg_entry_eq]
  generalize (lg_sl ([.ref a, .int (nI b)]) ++ List.replicate (3 - (lg_sl ([.ref a, .int (nI b)])).length) Slot.unset).toArray = ls at hl ⊢
  have hl : lv_has ls 3 [(0, .ref a), (1, .int (nI b))] := hl
  refine lv_iload_n hx hb dX0_remove_0 rfl (lv_at hl 1 rfl) ?_
  refine lv_iconst (v := nI 1) hx hb dX0_remove_1 (by decide) ?_
  refine n_iadd (v := nI (b + 1)) hx hb dX0_remove_2 (nI_add _ _) ?_
  refine lv_istore_n (lv' := [(2, .int (nI (b + 1))), (0, .ref a), (1, .int (nI b))]) hx hb dX0_remove_3 rfl hl (by decide) rfl (fun ls hl => ?_)
  have loop_4 : ∀ (fu : Nat) (i : Nat), lbc L + 1 - i ≤ fu → b + 1 ≤ i → i ≤ lbc L → ∀ (H : Heap) (locs : List Loc), va_P D vwCl [(a, .inr (0, [.ref an, .ref ao, .int (nI (lbc L)), .int (bI (lon L)), .int (bI (lcv L))])), (an, .inl (cI, 8, .inl (fun j => nI (shf (lnu L) b i j)))), (ao, .inl (cI, 8, .inl (fun j => nI (shf (lof L) b i j))))] H → va_D (fun q => q ∈ [a, an, ao]) [(a, .inr (0, [.ref an, .ref ao, .int (nI (lbc L)), .int (bI (lon L)), .int (bI (lcv L))])), (an, .inl (cI, 8, .inl (fun j => nI (shf (lnu L) b i j)))), (ao, .inl (cI, 8, .inl (fun j => nI (shf (lof L) b i j))))] → va_S (fun q => q ∈ [a, an, ao]) s.heap H locs → ∀ (ls : Array Slot), lv_has ls 3 [(2, .int (nI i)), (0, .ref a), (1, .int (nI b))] → W p l e (headSpec wsX0_remove ({ frames := 0, cells := 0, slots := 0, locals := 0 } : Room)).room s m [.ref a, .int (nI b)].toArray below meth c H locs 0 0 (MQ below (QWv (fun q => q ∈ [a, an, ao]) (fun H => va_P D vwCl (lampW cI a an ao (remL L b)) H)) ([.ref a, .int (nI b)].toArray) s 0 0 (fun q => q ∈ [a, an, ao])) (F0 m 4 ls []) := by
    intro fu
    induction fu with
    | zero => intro i hn_4 hi1 hi2; exact absurd hn_4 (by omega)
    | succ fu ih_4 =>
      intro i hn_4 hi1 hi2 H locs hP hD hS ls hl
      refine lv_iload_n hx hb dX0_remove_4 rfl (lv_at hl 0 rfl) ?_
      refine lv_aload_n hx hb dX0_remove_5 rfl (lv_at hl 1 rfl) ?_
      refine va_get (D := D) (ci := 0) (v := .int (nI (lbc L))) (C := RX0) (T := TX0) (N := 5) hx hb hts hin0 hown hK hP 0 rfl rfl 2 (by decide) (hts (.fieldLink RX0 18 "LanternPrimes$Lamp" "beatCount" "I") (List.mem_of_getElem? (i := 1) rfl)) (fun _ h9 => h9) rfl dX0_remove_6 ?_
      refine n_icmp_ge (a := i) (b := lbc L) (tgt := 46) hx hb (by omega) (by omega) dX0_remove_9 (by decide) (fun c_9 => ?_) (fun c_9 => ?_)
      · refine lv_aload_n hx hb dX0_remove_46 rfl (lv_at hl 1 rfl) ?_
        refine lv_dup hx hb dX0_remove_47 rfl ?_
        refine va_get (D := D) (ci := 0) (v := .int (nI (lbc L))) (C := RX0) (T := TX0) (N := 5) hx hb hts hin0 hown hK hP 0 rfl rfl 2 (by decide) (hts (.fieldLink RX0 18 "LanternPrimes$Lamp" "beatCount" "I") (List.mem_of_getElem? (i := 1) rfl)) (fun _ h9 => h9) rfl dX0_remove_48 ?_
        refine lv_iconst (v := nI 1) hx hb dX0_remove_51 (by decide) ?_
        refine n_isub (v := nI ((lbc L) - 1)) hx hb dX0_remove_52 (pk_sub (by omega)) ?_
        refine va_put (D := D) (ci := 0) (v := .int (nI ((lbc L) - 1))) (ty := .int) (C := RX0) (T := TX0) (N := 5) hx hb hts hin0 tyX0 tyX0_ok nmX0 hown hK hP hD hS 0 rfl rfl 2 (by decide) (hts (.fieldLink RX0 18 "LanternPrimes$Lamp" "beatCount" "I") (List.mem_of_getElem? (i := 1) rfl)) (fun _ h9 => h9) rfl (by decide +kernel) rfl rfl (Nat.le_of_ble_eq_true rfl) dX0_remove_53 (fun H locs hP hD hS => ?_)
        have hP : va_P D vwCl [(a, .inr (0, [.ref an, .ref ao, .int (nI ((lbc L) - 1)), .int (bI (lon L)), .int (bI (lcv L))])), (an, .inl (cI, 8, .inl (fun j => nI (shf (lnu L) b i j)))), (ao, .inl (cI, 8, .inl (fun j => nI (shf (lof L) b i j))))] H := hP
        have hD : va_D (fun q => q ∈ [a, an, ao]) [(a, .inr (0, [.ref an, .ref ao, .int (nI ((lbc L) - 1)), .int (bI (lon L)), .int (bI (lcv L))])), (an, .inl (cI, 8, .inl (fun j => nI (shf (lnu L) b i j)))), (ao, .inl (cI, 8, .inl (fun j => nI (shf (lof L) b i j))))] := hD
        obtain rfl : i = lbc L := by omega
        exact W.vret hx hb hr (fun t ht hW => ⟨rfl, by rw [ht]; exact hP, hS.F ht⟩) hS.2.2 dX0_remove_56
      · refine lv_aload_n hx hb dX0_remove_12 rfl (lv_at hl 1 rfl) ?_
        refine va_get (D := D) (ci := 0) (v := .ref an) (C := RX0) (T := TX0) (N := 5) hx hb hts hin0 hown hK hP 0 rfl rfl 0 (by decide) (hts (.fieldLink RX0 9 "LanternPrimes$Lamp" "numbers" "[I") (List.mem_of_getElem? (i := 2) rfl)) (fun _ h9 => h9) rfl dX0_remove_13 ?_
        refine lv_iload_n hx hb dX0_remove_16 rfl (lv_at hl 0 rfl) ?_
        refine lv_iconst (v := nI 1) hx hb dX0_remove_17 (by decide) ?_
        refine n_isub (v := nI (i - 1)) hx hb dX0_remove_18 (pk_sub (by omega)) ?_
        refine lv_aload_n hx hb dX0_remove_19 rfl (lv_at hl 1 rfl) ?_
        refine va_get (D := D) (ci := 0) (v := .ref an) (C := RX0) (T := TX0) (N := 5) hx hb hts hin0 hown hK hP 0 rfl rfl 0 (by decide) (hts (.fieldLink RX0 9 "LanternPrimes$Lamp" "numbers" "[I") (List.mem_of_getElem? (i := 2) rfl)) (fun _ h9 => h9) rfl dX0_remove_20 ?_
        refine lv_iload_n hx hb dX0_remove_23 rfl (lv_at hl 0 rfl) ?_
        refine n_iald (v := nI (lnu L i)) (j := i) hx hb hK hP 1 0 rfl rfl (by omega) (by decide) (by show nI (shf (lnu L) b i i) = _; rw [shf_i]) dX0_remove_24 ?_
        refine n_iast (f' := fun j => nI (shf (lnu L) b (i + 1) j)) (j := i - 1) hx hb hK hP hD hS 1 0 rfl rfl (by omega) (by decide) (by rw [updI]; exact congrArg (fun g => fun j => nI (g j)) (shf_s (lnu L) b i (by omega))) dX0_remove_25 (fun H locs hP hD hS => ?_)
        have hP : va_P D vwCl [(a, .inr (0, [.ref an, .ref ao, .int (nI (lbc L)), .int (bI (lon L)), .int (bI (lcv L))])), (an, .inl (cI, 8, .inl (fun j => nI (shf (lnu L) b (i + 1) j)))), (ao, .inl (cI, 8, .inl (fun j => nI (shf (lof L) b i j))))] H := hP
        have hD : va_D (fun q => q ∈ [a, an, ao]) [(a, .inr (0, [.ref an, .ref ao, .int (nI (lbc L)), .int (bI (lon L)), .int (bI (lcv L))])), (an, .inl (cI, 8, .inl (fun j => nI (shf (lnu L) b (i + 1) j)))), (ao, .inl (cI, 8, .inl (fun j => nI (shf (lof L) b i j))))] := hD
        refine lv_aload_n hx hb dX0_remove_26 rfl (lv_at hl 1 rfl) ?_
        refine va_get (D := D) (ci := 0) (v := .ref ao) (C := RX0) (T := TX0) (N := 5) hx hb hts hin0 hown hK hP 0 rfl rfl 1 (by decide) (hts (.fieldLink RX0 15 "LanternPrimes$Lamp" "offsets" "[I") (List.mem_of_getElem? (i := 3) rfl)) (fun _ h9 => h9) rfl dX0_remove_27 ?_
        refine lv_iload_n hx hb dX0_remove_30 rfl (lv_at hl 0 rfl) ?_
        refine lv_iconst (v := nI 1) hx hb dX0_remove_31 (by decide) ?_
        refine n_isub (v := nI (i - 1)) hx hb dX0_remove_32 (pk_sub (by omega)) ?_
        refine lv_aload_n hx hb dX0_remove_33 rfl (lv_at hl 1 rfl) ?_
        refine va_get (D := D) (ci := 0) (v := .ref ao) (C := RX0) (T := TX0) (N := 5) hx hb hts hin0 hown hK hP 0 rfl rfl 1 (by decide) (hts (.fieldLink RX0 15 "LanternPrimes$Lamp" "offsets" "[I") (List.mem_of_getElem? (i := 3) rfl)) (fun _ h9 => h9) rfl dX0_remove_34 ?_
        refine lv_iload_n hx hb dX0_remove_37 rfl (lv_at hl 0 rfl) ?_
        refine n_iald (v := nI (lof L i)) (j := i) hx hb hK hP 2 0 rfl rfl (by omega) (by decide) (by show nI (shf (lof L) b i i) = _; rw [shf_i]) dX0_remove_38 ?_
        refine n_iast (f' := fun j => nI (shf (lof L) b (i + 1) j)) (j := i - 1) hx hb hK hP hD hS 2 0 rfl rfl (by omega) (by decide) (by rw [updI]; exact congrArg (fun g => fun j => nI (g j)) (shf_s (lof L) b i (by omega))) dX0_remove_39 (fun H locs hP hD hS => ?_)
        have hP : va_P D vwCl [(a, .inr (0, [.ref an, .ref ao, .int (nI (lbc L)), .int (bI (lon L)), .int (bI (lcv L))])), (an, .inl (cI, 8, .inl (fun j => nI (shf (lnu L) b (i + 1) j)))), (ao, .inl (cI, 8, .inl (fun j => nI (shf (lof L) b (i + 1) j))))] H := hP
        have hD : va_D (fun q => q ∈ [a, an, ao]) [(a, .inr (0, [.ref an, .ref ao, .int (nI (lbc L)), .int (bI (lon L)), .int (bI (lcv L))])), (an, .inl (cI, 8, .inl (fun j => nI (shf (lnu L) b (i + 1) j)))), (ao, .inl (cI, 8, .inl (fun j => nI (shf (lof L) b (i + 1) j))))] := hD
        refine lv_iinc (v := nI (i + 1)) (lv' := [(2, .int (nI (i + 1))), (0, .ref a), (1, .int (nI b))]) hx hb dX0_remove_40 hl (k := 0) rfl (nI_inc _) (by decide) rfl (fun ls hl => ?_)
        refine lv_goto (tgt := 4) hx hb dX0_remove_43 (by decide) ?_
        exact ih_4 (i + 1) (by omega) (by omega) (by omega) _ _ hP hD hS ls (lv_sub hl [0, 1, 2] rfl)
  exact loop_4 (lbc L + 1) (b + 1) (by omega) (by omega) (by omega) _ _ (by rw [shf_0, shf_0]; exact hP) (by rw [shf_0, shf_0]; exact hD) hS ls (lv_sub hl [0, 1, 2] rfl)
set_option maxHeartbeats 4000000 in
set_option maxRecDepth 100000 in
/-- appendBeatsOf -/
theorem c_X0_appendBeatsOf (l : Launch) (D : va_G) (cI cZ cL cJ : ClassId) (a an ao : Nat) (L : LV) (ob obn obo : Nat) (O : LV) (h12 : a ≠ an) (h13 : a ≠ ao) (h23 : an ≠ ao) (hno : ∀ x ∈ [ob, obn, obo], ¬ x ∈ [a, an, ao]) (h8 : lbc L + lbc O ≤ 8) : Met l yX0_appendBeatsOf wsX0_appendBeatsOf ({ frames := 1, cells := 0, slots := 0, locals := 22 } : Room) (PC D (TY cI cZ cL cJ) (fun q => q ∈ [a, an, ao]) [.ref a, .ref ob] (fun H => va_P D vwCl (lampW cI a an ao L) H ∧ va_P D vwCl (lampW cI ob obn obo O) H)) (QWv (fun q => q ∈ [a, an, ao]) (fun H => va_P D vwCl (lampW cI a an ao (appK L O (lbc O))) H)) 0 0 (fun q => q ∈ [a, an, ao]) := by
  refine Met.ofW (cc := cX0_appendBeatsOf) (maxL := 3) (ret := none) (by decide) rfl ?_
  intro p e s m args below meth c s₁ B hml hv
  obtain ⟨rfl, hK, hE, hP, hPO⟩ := hv
  have hD : va_D (fun q => q ∈ [a, an, ao]) (lampW cI a an ao L) := vd3 h12 h13 h23
  have hS : va_S (fun q => q ∈ [a, an, ao]) s.heap s.heap [] := va_S.rf
  have hx := B.exec
  have hb := B.bytes
  have hr := B.returns
  have hts := atoms_spec (ws := wsX0_appendBeatsOf) B.pre
  have hown : s.vm.findClass RX0 = some m.cls := findClass_of_methodNamed B.named
  have hlocks := B.notSynchronized
  have hNF := hE.2.1.1
  have hin0 : ∀ w ∈ wsX00, w ∈ wsX0_appendBeatsOf := by decide +kernel
  have hl := lv_entry ([.ref a, .ref ob]) (n := 3) (Nat.le_of_ble_eq_true rfl)
  rw [lg_entry_eq]
  generalize (lg_sl ([.ref a, .ref ob]) ++ List.replicate (3 - (lg_sl ([.ref a, .ref ob])).length) Slot.unset).toArray = ls at hl ⊢
  have hl : lv_has ls 3 [(0, .ref a), (1, .ref ob)] := hl
  refine lv_iconst (v := nI 0) hx hb dX0_appendBeatsOf_0 (by decide) ?_
  refine lv_istore_n (lv' := [(2, .int (nI 0)), (0, .ref a), (1, .ref ob)]) hx hb dX0_appendBeatsOf_1 rfl hl (by decide) rfl (fun ls hl => ?_)
  have loop_2 : ∀ (fu : Nat) (i : Nat), lbc O + 1 - i ≤ fu → i ≤ lbc O → ∀ (H : Heap) (locs : List Loc), va_P D vwCl (lampW cI a an ao (appK L O i)) H → va_D (fun q => q ∈ [a, an, ao]) (lampW cI a an ao (appK L O i)) → va_S (fun q => q ∈ [a, an, ao]) s.heap H locs → ∀ (ls : Array Slot), lv_has ls 3 [(2, .int (nI i)), (0, .ref a), (1, .ref ob)] → W p l e (headSpec wsX0_appendBeatsOf ({ frames := 1, cells := 0, slots := 0, locals := 22 } : Room)).room s m [.ref a, .ref ob].toArray below meth c H locs 0 0 (MQ below (QWv (fun q => q ∈ [a, an, ao]) (fun H => va_P D vwCl (lampW cI a an ao (appK L O (lbc O))) H)) ([.ref a, .ref ob].toArray) s 0 0 (fun q => q ∈ [a, an, ao])) (F0 m 2 ls []) := by
    intro fu
    induction fu with
    | zero => intro i hn_2 hi; exact absurd hn_2 (by omega)
    | succ fu ih_2 =>
      intro i hn_2 hi H locs hP hD hS ls hl
      have hQ := lampKeep hPO hno hS.2.1
      refine lv_iload_n hx hb dX0_appendBeatsOf_2 rfl (lv_at hl 0 rfl) ?_
      refine lv_aload_n hx hb dX0_appendBeatsOf_3 rfl (lv_at hl 2 rfl) ?_
      refine va_get (D := D) (ci := 0) (v := .int (nI (lbc O))) (C := RX0) (T := TX0) (N := 5) hx hb hts hin0 hown hK hQ 0 rfl rfl 2 (by decide) (hts (.fieldLink RX0 18 "LanternPrimes$Lamp" "beatCount" "I") (List.mem_of_getElem? (i := 1) rfl)) (fun _ h9 => h9) rfl dX0_appendBeatsOf_4 ?_
      refine n_icmp_ge (a := i) (b := lbc O) (tgt := 32) hx hb (by omega) (by omega) dX0_appendBeatsOf_7 (by decide) (fun c_7 => ?_) (fun c_7 => ?_)
      · obtain rfl : i = lbc O := by omega
        exact W.vret hx hb hr (fun t ht hW => ⟨rfl, by rw [ht]; exact hP, hS.F ht⟩) hS.2.2 dX0_appendBeatsOf_32
      · refine lv_aload_n hx hb dX0_appendBeatsOf_10 rfl (lv_at hl 1 rfl) ?_
        refine lv_aload_n hx hb dX0_appendBeatsOf_11 rfl (lv_at hl 2 rfl) ?_
        refine va_get (D := D) (ci := 0) (v := .ref obn) (C := RX0) (T := TX0) (N := 5) hx hb hts hin0 hown hK hQ 0 rfl rfl 0 (by decide) (hts (.fieldLink RX0 9 "LanternPrimes$Lamp" "numbers" "[I") (List.mem_of_getElem? (i := 2) rfl)) (fun _ h9 => h9) rfl dX0_appendBeatsOf_12 ?_
        refine lv_iload_n hx hb dX0_appendBeatsOf_15 rfl (lv_at hl 0 rfl) ?_
        refine n_iald (v := nI (lnu O i)) (j := i) hx hb hK hQ 1 0 rfl rfl (by omega) (by decide) rfl dX0_appendBeatsOf_16 ?_
        refine lv_aload_n hx hb dX0_appendBeatsOf_17 rfl (lv_at hl 2 rfl) ?_
        refine va_get (D := D) (ci := 0) (v := .ref obo) (C := RX0) (T := TX0) (N := 5) hx hb hts hin0 hown hK hQ 0 rfl rfl 1 (by decide) (hts (.fieldLink RX0 15 "LanternPrimes$Lamp" "offsets" "[I") (List.mem_of_getElem? (i := 3) rfl)) (fun _ h9 => h9) rfl dX0_appendBeatsOf_18 ?_
        refine lv_iload_n hx hb dX0_appendBeatsOf_21 rfl (lv_at hl 0 rfl) ?_
        refine n_iald (v := nI (lof O i)) (j := i) hx hb hK hQ 2 0 rfl rfl (by omega) (by decide) rfl dX0_appendBeatsOf_22 ?_
        refine wVv (As := [.int (nI (lnu O i)), .int (nI (lof O i))]) (rest := []) ⟨hx, hb, hml, hown, hts⟩ (c_X0_append l D cI cZ cL cJ a an ao (appK L O i) h12 h13 h23 (by rw [appK_bc]; omega) (lnu O i) (lof O i)) (cwV 2 hts gX0_appendBeatsOf_X0_append rfl rfl rfl (by decide +kernel) ⟨(Nat.le_of_ble_eq_true rfl), (Nat.le_of_ble_eq_true rfl)⟩) hK (hE.kept hS.2.1) hP (RC_of (q := (RX0, TX0, 5)) (ci := 0) hK rfl (vpa hP 0 rfl)) rfl hl.1 rfl (Nat.le_of_ble_eq_true rfl) dX0_appendBeatsOf_23 ⟨(Nat.le_of_ble_eq_true rfl), (Nat.le_of_ble_eq_true rfl)⟩ hS (fun q h => h) (fun H locs hP _ hk hS => ?_)
        have hD : va_D (fun q => q ∈ [a, an, ao]) (lampW cI a an ao (appK L O (i + 1))) := vd3 h12 h13 h23
        refine lv_iinc (v := nI (i + 1)) (lv' := [(2, .int (nI (i + 1))), (0, .ref a), (1, .ref ob)]) hx hb dX0_appendBeatsOf_26 hl (k := 0) rfl (nI_inc _) (by decide) rfl (fun ls hl => ?_)
        refine lv_goto (tgt := 2) hx hb dX0_appendBeatsOf_29 (by decide) ?_
        exact ih_2 (i + 1) (by omega) (by omega) _ _ hP hD hS ls (lv_sub hl [0, 1, 2] rfl)
  exact loop_2 (lbc O + 1) 0 (by omega) (by omega) _ _ hP hD hS ls (lv_sub hl [0, 1, 2] rfl)
set_option maxHeartbeats 4000000 in
set_option maxRecDepth 100000 in
/-- becomeDifference -/
theorem c_X0_becomeDifference (l : Launch) (D : va_G) (cI cZ cL cJ : ClassId) (a an ao : Nat) (L : LV) (pb pbn pbo : Nat) (P : LV) (ob obn obo : Nat) (O : LV) (h12 : a ≠ an) (h13 : a ≠ ao) (h23 : an ≠ ao) (hnp : ∀ x ∈ [pb, pbn, pbo], ¬ x ∈ [a, an, ao]) (hno : ∀ x ∈ [ob, obn, obo], ¬ x ∈ [a, an, ao]) (h8 : lbc P + lbc O ≤ 8) : Met l yX0_becomeDifference wsX0_becomeDifference ({ frames := 2, cells := 0, slots := 0, locals := 44 } : Room) (PC D (TY cI cZ cL cJ) (fun q => q ∈ [a, an, ao]) [.ref a, .ref pb, .ref ob] (fun H => va_P D vwCl (lampW cI a an ao L) H ∧ va_P D vwCl (lampW cI pb pbn pbo P) H ∧ va_P D vwCl (lampW cI ob obn obo O) H)) (QWv (fun q => q ∈ [a, an, ao]) (fun H => va_P D vwCl (lampW cI a an ao (diffL L P O)) H)) 0 0 (fun q => q ∈ [a, an, ao]) := by
  refine Met.ofW (cc := cX0_becomeDifference) (maxL := 3) (ret := none) (by decide) rfl ?_
  intro p e s m args below meth c s₁ B hml hv
  obtain ⟨rfl, hK, hE, hP, hPP, hPO⟩ := hv
  have hD : va_D (fun q => q ∈ [a, an, ao]) (lampW cI a an ao L) := vd3 h12 h13 h23
  have hS : va_S (fun q => q ∈ [a, an, ao]) s.heap s.heap [] := va_S.rf
  have hx := B.exec
  have hb := B.bytes
  have hr := B.returns
  have hts := atoms_spec (ws := wsX0_becomeDifference) B.pre
  have hown : s.vm.findClass RX0 = some m.cls := findClass_of_methodNamed B.named
  have hlocks := B.notSynchronized
  have hNF := hE.2.1.1
  have hin0 : ∀ w ∈ wsX00, w ∈ wsX0_becomeDifference := by decide +kernel
  have hl := lv_entry ([.ref a, .ref pb, .ref ob]) (n := 3) (Nat.le_of_ble_eq_true rfl)
  rw [lg_entry_eq]
  generalize (lg_sl ([.ref a, .ref pb, .ref ob]) ++ List.replicate (3 - (lg_sl ([.ref a, .ref pb, .ref ob])).length) Slot.unset).toArray = ls at hl ⊢
  have hl : lv_has ls 3 [(0, .ref a), (1, .ref pb), (2, .ref ob)] := hl
  refine lv_aload_n hx hb dX0_becomeDifference_0 rfl (lv_at hl 0 rfl) ?_
  have join_17 : ∀ (ls : Array Slot), lv_has ls 3 [(0, .ref a), (1, .ref pb), (2, .ref ob)] → W p l e (headSpec wsX0_becomeDifference ({ frames := 2, cells := 0, slots := 0, locals := 44 } : Room)).room s m [.ref a, .ref pb, .ref ob].toArray below meth c s.heap [] 0 0 (MQ below (QWv (fun q => q ∈ [a, an, ao]) (fun H => va_P D vwCl (lampW cI a an ao (diffL L P O)) H)) ([.ref a, .ref pb, .ref ob].toArray) s 0 0 (fun q => q ∈ [a, an, ao])) (F0 m 17 ls [.int (bI (lon P != lon O)), .ref a]) := by
    intro   ls hl
    refine va_put (D := D) (ci := 0) (v := .int (bI (lon P != lon O))) (ty := .boolean) (C := RX0) (T := TX0) (N := 5) hx hb hts hin0 tyX0 tyX0_ok nmX0 hown hK hP hD hS 0 rfl rfl 3 (by decide) (hts (.fieldLink RX0 22 "LanternPrimes$Lamp" "onAtStart" "Z") (List.mem_of_getElem? (i := 1) rfl)) (fun _ h9 => h9) rfl (by decide +kernel) (bI_narrow _) (bI_fits _) (Nat.le_of_ble_eq_true rfl) dX0_becomeDifference_17 (fun H locs hP hD hS => ?_)
    have hP : va_P D vwCl [(a, .inr (0, [.ref an, .ref ao, .int (nI (lbc L)), .int (bI (lon P != lon O)), .int (bI (lcv L))])), (an, .inl (cI, 8, .inl (fun i => nI (lnu L i)))), (ao, .inl (cI, 8, .inl (fun i => nI (lof L i))))] H := hP
    have hD : va_D (fun q => q ∈ [a, an, ao]) [(a, .inr (0, [.ref an, .ref ao, .int (nI (lbc L)), .int (bI (lon P != lon O)), .int (bI (lcv L))])), (an, .inl (cI, 8, .inl (fun i => nI (lnu L i)))), (ao, .inl (cI, 8, .inl (fun i => nI (lof L i))))] := hD
    refine lv_aload_n hx hb dX0_becomeDifference_20 rfl (lv_at hl 0 rfl) ?_
    refine lv_iconst (v := nI 0) hx hb dX0_becomeDifference_21 (by decide) ?_
    refine va_put (D := D) (ci := 0) (v := .int (nI 0)) (ty := .int) (C := RX0) (T := TX0) (N := 5) hx hb hts hin0 tyX0 tyX0_ok nmX0 hown hK hP hD hS 0 rfl rfl 2 (by decide) (hts (.fieldLink RX0 18 "LanternPrimes$Lamp" "beatCount" "I") (List.mem_of_getElem? (i := 2) rfl)) (fun _ h9 => h9) rfl (by decide +kernel) rfl rfl (Nat.le_of_ble_eq_true rfl) dX0_becomeDifference_22 (fun H locs hP hD hS => ?_)
    have hP : va_P D vwCl [(a, .inr (0, [.ref an, .ref ao, .int (nI 0), .int (bI (lon P != lon O)), .int (bI (lcv L))])), (an, .inl (cI, 8, .inl (fun i => nI (lnu L i)))), (ao, .inl (cI, 8, .inl (fun i => nI (lof L i))))] H := hP
    have hD : va_D (fun q => q ∈ [a, an, ao]) [(a, .inr (0, [.ref an, .ref ao, .int (nI 0), .int (bI (lon P != lon O)), .int (bI (lcv L))])), (an, .inl (cI, 8, .inl (fun i => nI (lnu L i)))), (ao, .inl (cI, 8, .inl (fun i => nI (lof L i))))] := hD
    refine lv_aload_n hx hb dX0_becomeDifference_25 rfl (lv_at hl 0 rfl) ?_
    refine lv_aload_n hx hb dX0_becomeDifference_26 rfl (lv_at hl 1 rfl) ?_
    refine wVv (As := [.ref pb]) (rest := []) ⟨hx, hb, hml, hown, hts⟩ (c_X0_appendBeatsOf l D cI cZ cL cJ a an ao (0, lnu L, lof L, lon P != lon O, lcv L) pb pbn pbo P h12 h13 h23 hnp (by show 0 + lbc P ≤ 8; omega)) (cwV 1 hts gX0_becomeDifference_X0_appendBeatsOf rfl rfl rfl (by decide +kernel) ⟨(Nat.le_of_ble_eq_true rfl), (Nat.le_of_ble_eq_true rfl)⟩) hK (hE.kept hS.2.1) ⟨hP, lampKeep hPP hnp hS.2.1⟩ (RC_of (q := (RX0, TX0, 5)) (ci := 0) hK rfl (vpa hP 0 rfl)) rfl hl.1 rfl (Nat.le_of_ble_eq_true rfl) dX0_becomeDifference_27 ⟨(Nat.le_of_ble_eq_true rfl), (Nat.le_of_ble_eq_true rfl)⟩ hS (fun q h => h) (fun H locs hP _ hk hS => ?_)
    have hD : va_D (fun q => q ∈ [a, an, ao]) (lampW cI a an ao (appK (0, lnu L, lof L, lon P != lon O, lcv L) P (lbc P))) := vd3 h12 h13 h23
    refine lv_aload_n hx hb dX0_becomeDifference_30 rfl (lv_at hl 0 rfl) ?_
    refine lv_aload_n hx hb dX0_becomeDifference_31 rfl (lv_at hl 2 rfl) ?_
    refine wVv (As := [.ref ob]) (rest := []) ⟨hx, hb, hml, hown, hts⟩ (c_X0_appendBeatsOf l D cI cZ cL cJ a an ao (appK (0, lnu L, lof L, lon P != lon O, lcv L) P (lbc P)) ob obn obo O h12 h13 h23 hno (by rw [appK_bc]; show 0 + lbc P + lbc O ≤ 8; omega)) (cwV 1 hts gX0_becomeDifference_X0_appendBeatsOf rfl rfl rfl (by decide +kernel) ⟨(Nat.le_of_ble_eq_true rfl), (Nat.le_of_ble_eq_true rfl)⟩) hK (hE.kept hS.2.1) ⟨hP, lampKeep hPO hno hS.2.1⟩ (RC_of (q := (RX0, TX0, 5)) (ci := 0) hK rfl (vpa hP 0 rfl)) rfl hl.1 rfl (Nat.le_of_ble_eq_true rfl) dX0_becomeDifference_32 ⟨(Nat.le_of_ble_eq_true rfl), (Nat.le_of_ble_eq_true rfl)⟩ hS (fun q h => h) (fun H locs hP _ hk hS => ?_)
    exact W.vret hx hb hr (fun t ht hW => ⟨rfl, by rw [ht]; exact hP, hS.F ht⟩) hS.2.2 dX0_becomeDifference_35
  refine lv_aload_n hx hb dX0_becomeDifference_1 rfl (lv_at hl 1 rfl) ?_
  refine va_get (D := D) (ci := 0) (v := .int (bI (lon P))) (C := RX0) (T := TX0) (N := 5) hx hb hts hin0 hown hK hPP 0 rfl rfl 3 (by decide) (hts (.fieldLink RX0 22 "LanternPrimes$Lamp" "onAtStart" "Z") (List.mem_of_getElem? (i := 1) rfl)) (fun _ h9 => h9) rfl dX0_becomeDifference_2 ?_
  refine lv_aload_n hx hb dX0_becomeDifference_5 rfl (lv_at hl 2 rfl) ?_
  refine va_get (D := D) (ci := 0) (v := .int (bI (lon O))) (C := RX0) (T := TX0) (N := 5) hx hb hts hin0 hown hK hPO 0 rfl rfl 3 (by decide) (hts (.fieldLink RX0 22 "LanternPrimes$Lamp" "onAtStart" "Z") (List.mem_of_getElem? (i := 1) rfl)) (fun _ h9 => h9) rfl dX0_becomeDifference_6 ?_
  refine lv_icmp_eq (tgt := 16) hx hb dX0_becomeDifference_9 (by decide) (fun c_9 => ?_) (fun c_9 => ?_)
  · refine lv_iconst (v := nI 0) hx hb dX0_becomeDifference_16 (by decide) ?_
    refine n_ti (y := bI (lon P != lon O)) (by first | exact bI_bne0 c_9 | exact bI_bne1 c_9) ?_
    exact join_17 ls (lv_sub hl [0, 1, 2] rfl)
  · refine lv_iconst (v := nI 1) hx hb dX0_becomeDifference_12 (by decide) ?_
    refine lv_goto (tgt := 17) hx hb dX0_becomeDifference_13 (by decide) ?_
    refine n_ti (y := bI (lon P != lon O)) (by first | exact bI_bne0 c_9 | exact bI_bne1 c_9) ?_
    exact join_17 ls (lv_sub hl [0, 1, 2] rfl)
end
section
set_option maxRecDepth 20000 in
theorem ggX1_init_X0_init : GoodIn wsX1_init wsX0_init := goodIn_r _ [10, 11, 2, 3, 12, 13, 14, 20, 21, 22, 23, 24] (by decide +kernel) (by decide +kernel)
set_option maxRecDepth 20000 in
theorem gX1_init_X0_init_n15 : GoodIn wsX1_init (wsX0_init) := ggX1_init_X0_init
theorem dX1_init_0 : decode cX1_init 0 = .ok (.aload_n 0, 1) := by decide +kernel
theorem dX1_init_1 : decode cX1_init 1 = .ok (.invokespecial 1, 3) := by decide +kernel
theorem dX1_init_4 : decode cX1_init 4 = .ok (.aload_n 0, 1) := by decide +kernel
theorem dX1_init_5 : decode cX1_init 5 = .ok (.bipush 8, 2) := by decide +kernel
theorem dX1_init_7 : decode cX1_init 7 = .ok (.anewarray 9, 3) := by decide +kernel
theorem dX1_init_10 : decode cX1_init 10 = .ok (.putfield 11, 3) := by decide +kernel
theorem dX1_init_13 : decode cX1_init 13 = .ok (.iconst 0, 1) := by decide +kernel
theorem dX1_init_14 : decode cX1_init 14 = .ok (.istore_n 1, 1) := by decide +kernel
theorem dX1_init_15 : decode cX1_init 15 = .ok (.iload_n 1, 1) := by decide +kernel
theorem dX1_init_16 : decode cX1_init 16 = .ok (.bipush 8, 2) := by decide +kernel
theorem dX1_init_18 : decode cX1_init 18 = .ok (.if_icmp .ge 22, 3) := by decide +kernel
theorem dX1_init_21 : decode cX1_init 21 = .ok (.aload_n 0, 1) := by decide +kernel
theorem dX1_init_22 : decode cX1_init 22 = .ok (.getfield 11, 3) := by decide +kernel
theorem dX1_init_25 : decode cX1_init 25 = .ok (.iload_n 1, 1) := by decide +kernel
theorem dX1_init_26 : decode cX1_init 26 = .ok (.new 9, 3) := by decide +kernel
theorem dX1_init_29 : decode cX1_init 29 = .ok (.dup, 1) := by decide +kernel
theorem dX1_init_30 : decode cX1_init 30 = .ok (.invokespecial 15, 3) := by decide +kernel
theorem dX1_init_33 : decode cX1_init 33 = .ok (.aastore, 1) := by decide +kernel
theorem dX1_init_34 : decode cX1_init 34 = .ok (.iinc 1 1, 3) := by decide +kernel
theorem dX1_init_37 : decode cX1_init 37 = .ok (.goto (-22), 3) := by decide +kernel
theorem dX1_init_40 : decode cX1_init 40 = .ok (.aload_n 0, 1) := by decide +kernel
theorem dX1_init_41 : decode cX1_init 41 = .ok (.new 9, 3) := by decide +kernel
theorem dX1_init_44 : decode cX1_init 44 = .ok (.dup, 1) := by decide +kernel
theorem dX1_init_45 : decode cX1_init 45 = .ok (.invokespecial 15, 3) := by decide +kernel
theorem dX1_init_48 : decode cX1_init 48 = .ok (.putfield 16, 3) := by decide +kernel
theorem dX1_init_51 : decode cX1_init 51 = .ok (.return_, 1) := by decide +kernel
theorem dX1_addLamp_0 : decode cX1_addLamp 0 = .ok (.aload_n 0, 1) := by decide +kernel
theorem dX1_addLamp_1 : decode cX1_addLamp 1 = .ok (.getfield 20, 3) := by decide +kernel
theorem dX1_addLamp_4 : decode cX1_addLamp 4 = .ok (.bipush 8, 2) := by decide +kernel
theorem dX1_addLamp_6 : decode cX1_addLamp 6 = .ok (.if_icmp .lt 13, 3) := by decide +kernel
theorem dX1_addLamp_9 : decode cX1_addLamp 9 = .ok (.new 24, 3) := by decide +kernel
theorem dX1_addLamp_12 : decode cX1_addLamp 12 = .ok (.dup, 1) := by decide +kernel
theorem dX1_addLamp_13 : decode cX1_addLamp 13 = .ok (.ldc 26, 2) := by decide +kernel
theorem dX1_addLamp_15 : decode cX1_addLamp 15 = .ok (.invokespecial 28, 3) := by decide +kernel
theorem dX1_addLamp_18 : decode cX1_addLamp 18 = .ok (.athrow, 1) := by decide +kernel
theorem dX1_addLamp_19 : decode cX1_addLamp 19 = .ok (.aload_n 0, 1) := by decide +kernel
theorem dX1_addLamp_20 : decode cX1_addLamp 20 = .ok (.getfield 11, 3) := by decide +kernel
theorem dX1_addLamp_23 : decode cX1_addLamp 23 = .ok (.aload_n 0, 1) := by decide +kernel
theorem dX1_addLamp_24 : decode cX1_addLamp 24 = .ok (.getfield 20, 3) := by decide +kernel
theorem dX1_addLamp_27 : decode cX1_addLamp 27 = .ok (.aaload, 1) := by decide +kernel
theorem dX1_addLamp_28 : decode cX1_addLamp 28 = .ok (.iload_n 1, 1) := by decide +kernel
theorem dX1_addLamp_29 : decode cX1_addLamp 29 = .ok (.putfield 31, 3) := by decide +kernel
theorem dX1_addLamp_32 : decode cX1_addLamp 32 = .ok (.aload_n 0, 1) := by decide +kernel
theorem dX1_addLamp_33 : decode cX1_addLamp 33 = .ok (.dup, 1) := by decide +kernel
theorem dX1_addLamp_34 : decode cX1_addLamp 34 = .ok (.getfield 20, 3) := by decide +kernel
theorem dX1_addLamp_37 : decode cX1_addLamp 37 = .ok (.iconst 1, 1) := by decide +kernel
theorem dX1_addLamp_38 : decode cX1_addLamp 38 = .ok (.iadd, 1) := by decide +kernel
theorem dX1_addLamp_39 : decode cX1_addLamp 39 = .ok (.putfield 20, 3) := by decide +kernel
theorem dX1_addLamp_42 : decode cX1_addLamp 42 = .ok (.aload_n 0, 1) := by decide +kernel
theorem dX1_addLamp_43 : decode cX1_addLamp 43 = .ok (.getfield 20, 3) := by decide +kernel
theorem dX1_addLamp_46 : decode cX1_addLamp 46 = .ok (.iconst 1, 1) := by decide +kernel
theorem dX1_addLamp_47 : decode cX1_addLamp 47 = .ok (.isub, 1) := by decide +kernel
theorem dX1_addLamp_48 : decode cX1_addLamp 48 = .ok (.ireturn, 1) := by decide +kernel
set_option maxRecDepth 20000 in
theorem ggX1_addBeat_X1_needLamp : GoodIn wsX1_addBeat wsX1_needLamp := goodIn_ca (goodIn_r _ [8, 9, 10, 11, 29, 30, 31, 32, 33] (by decide +kernel) (by decide +kernel)) (goodIn_sub (fun _ h => List.mem_cons_of_mem _ (List.mem_append_left _ (List.mem_append_right _ h))) (by decide +kernel))
set_option maxRecDepth 20000 in
theorem gX1_addBeat_X1_needLamp : GoodIn wsX1_addBeat (wsV RX1 35 RX1 yX1_needLamp wsX1_needLamp) := goodIn_app (goodIn_of _ (by decide +kernel)) ggX1_addBeat_X1_needLamp
set_option maxRecDepth 20000 in
theorem ggX1_addBeat_X1_needNumber : GoodIn wsX1_addBeat wsX1_needNumber := goodIn_ca (goodIn_r _ [14, 15, 16, 17] (by decide +kernel) (by decide +kernel)) (goodIn_sub (fun _ h => List.mem_cons_of_mem _ (List.mem_append_right _ h)) (by decide +kernel))
set_option maxRecDepth 20000 in
theorem gX1_addBeat_X1_needNumber : GoodIn wsX1_addBeat (va_wsS RX1 39 yX1_needNumber wsX1_needNumber) := goodIn_app (goodIn_of _ (by decide +kernel)) ggX1_addBeat_X1_needNumber
set_option maxRecDepth 20000 in
theorem ggX1_addBeat_X1_needOffset : GoodIn wsX1_addBeat wsX1_needOffset := goodIn_ca (goodIn_r _ [20, 15, 16] (by decide +kernel) (by decide +kernel)) (goodIn_sub (fun _ h => List.mem_cons_of_mem _ (List.mem_append_right _ h)) (by decide +kernel))
set_option maxRecDepth 20000 in
theorem gX1_addBeat_X1_needOffset : GoodIn wsX1_addBeat (va_wsS RX1 42 yX1_needOffset wsX1_needOffset) := goodIn_app (goodIn_of _ (by decide +kernel)) ggX1_addBeat_X1_needOffset
set_option maxRecDepth 20000 in
theorem ggX1_addBeat_X0_append : GoodIn wsX1_addBeat wsX0_append := goodIn_r _ [25, 26, 27, 28, 34, 35, 36, 37, 38] (by decide +kernel) (by decide +kernel)
set_option maxRecDepth 20000 in
theorem gX1_addBeat_X0_append : GoodIn wsX1_addBeat (wsV RX1 51 RX0 yX0_append wsX0_append) := goodIn_app (goodIn_of _ (by decide +kernel)) ggX1_addBeat_X0_append
theorem dX1_addBeat_0 : decode cX1_addBeat 0 = .ok (.aload_n 0, 1) := by decide +kernel
theorem dX1_addBeat_1 : decode cX1_addBeat 1 = .ok (.iload_n 1, 1) := by decide +kernel
theorem dX1_addBeat_2 : decode cX1_addBeat 2 = .ok (.invokevirtual 35, 3) := by decide +kernel
theorem dX1_addBeat_5 : decode cX1_addBeat 5 = .ok (.iload_n 2, 1) := by decide +kernel
theorem dX1_addBeat_6 : decode cX1_addBeat 6 = .ok (.invokestatic 39, 3) := by decide +kernel
theorem dX1_addBeat_9 : decode cX1_addBeat 9 = .ok (.iload_n 3, 1) := by decide +kernel
theorem dX1_addBeat_10 : decode cX1_addBeat 10 = .ok (.iload_n 2, 1) := by decide +kernel
theorem dX1_addBeat_11 : decode cX1_addBeat 11 = .ok (.invokestatic 42, 3) := by decide +kernel
theorem dX1_addBeat_14 : decode cX1_addBeat 14 = .ok (.aload_n 0, 1) := by decide +kernel
theorem dX1_addBeat_15 : decode cX1_addBeat 15 = .ok (.getfield 11, 3) := by decide +kernel
theorem dX1_addBeat_18 : decode cX1_addBeat 18 = .ok (.iload_n 1, 1) := by decide +kernel
theorem dX1_addBeat_19 : decode cX1_addBeat 19 = .ok (.aaload, 1) := by decide +kernel
theorem dX1_addBeat_20 : decode cX1_addBeat 20 = .ok (.astore 4, 2) := by decide +kernel
theorem dX1_addBeat_22 : decode cX1_addBeat 22 = .ok (.aload 4, 2) := by decide +kernel
theorem dX1_addBeat_24 : decode cX1_addBeat 24 = .ok (.getfield 46, 3) := by decide +kernel
theorem dX1_addBeat_27 : decode cX1_addBeat 27 = .ok (.iconst 4, 1) := by decide +kernel
theorem dX1_addBeat_28 : decode cX1_addBeat 28 = .ok (.if_icmp .lt 13, 3) := by decide +kernel
theorem dX1_addBeat_31 : decode cX1_addBeat 31 = .ok (.new 24, 3) := by decide +kernel
theorem dX1_addBeat_34 : decode cX1_addBeat 34 = .ok (.dup, 1) := by decide +kernel
theorem dX1_addBeat_35 : decode cX1_addBeat 35 = .ok (.ldc 49, 2) := by decide +kernel
theorem dX1_addBeat_37 : decode cX1_addBeat 37 = .ok (.invokespecial 28, 3) := by decide +kernel
theorem dX1_addBeat_40 : decode cX1_addBeat 40 = .ok (.athrow, 1) := by decide +kernel
theorem dX1_addBeat_41 : decode cX1_addBeat 41 = .ok (.aload 4, 2) := by decide +kernel
theorem dX1_addBeat_43 : decode cX1_addBeat 43 = .ok (.iload_n 2, 1) := by decide +kernel
theorem dX1_addBeat_44 : decode cX1_addBeat 44 = .ok (.iload_n 3, 1) := by decide +kernel
theorem dX1_addBeat_45 : decode cX1_addBeat 45 = .ok (.invokevirtual 51, 3) := by decide +kernel
theorem dX1_addBeat_48 : decode cX1_addBeat 48 = .ok (.aload 4, 2) := by decide +kernel
theorem dX1_addBeat_50 : decode cX1_addBeat 50 = .ok (.getfield 46, 3) := by decide +kernel
theorem dX1_addBeat_53 : decode cX1_addBeat 53 = .ok (.iconst 1, 1) := by decide +kernel
theorem dX1_addBeat_54 : decode cX1_addBeat 54 = .ok (.isub, 1) := by decide +kernel
theorem dX1_addBeat_55 : decode cX1_addBeat 55 = .ok (.ireturn, 1) := by decide +kernel
set_option maxRecDepth 20000 in
theorem ggX1_moveBeat_X1_needBeat : GoodIn wsX1_moveBeat wsX1_needBeat := goodIn_ca (goodIn_r _ [6, 7, 8, 1, 9, 10, 11, 5, 12, 13, 19, 20, 21, 22, 23, 24, 25, 26, 27, 28] (by decide +kernel) (by decide +kernel)) (goodIn_sub (fun _ h => List.mem_cons_of_mem _ (List.mem_append_left _ (List.mem_append_right _ h))) (by decide +kernel))
set_option maxRecDepth 20000 in
theorem gX1_moveBeat_X1_needBeat : GoodIn wsX1_moveBeat (wsV RX1 54 RX1 yX1_needBeat wsX1_needBeat) := goodIn_app (goodIn_of _ (by decide +kernel)) ggX1_moveBeat_X1_needBeat
set_option maxRecDepth 20000 in
theorem ggX1_moveBeat_X1_needOffset : GoodIn wsX1_moveBeat wsX1_needOffset := goodIn_ca (goodIn_r _ [16, 17, 18] (by decide +kernel) (by decide +kernel)) (goodIn_sub (fun _ h => List.mem_cons_of_mem _ (List.mem_append_right _ h)) (by decide +kernel))
set_option maxRecDepth 20000 in
theorem gX1_moveBeat_X1_needOffset : GoodIn wsX1_moveBeat (va_wsS RX1 42 yX1_needOffset wsX1_needOffset) := goodIn_app (goodIn_of _ (by decide +kernel)) ggX1_moveBeat_X1_needOffset
theorem dX1_moveBeat_0 : decode cX1_moveBeat 0 = .ok (.aload_n 0, 1) := by decide +kernel
theorem dX1_moveBeat_1 : decode cX1_moveBeat 1 = .ok (.iload_n 1, 1) := by decide +kernel
theorem dX1_moveBeat_2 : decode cX1_moveBeat 2 = .ok (.iload_n 2, 1) := by decide +kernel
theorem dX1_moveBeat_3 : decode cX1_moveBeat 3 = .ok (.invokevirtual 54, 3) := by decide +kernel
theorem dX1_moveBeat_6 : decode cX1_moveBeat 6 = .ok (.aload_n 0, 1) := by decide +kernel
theorem dX1_moveBeat_7 : decode cX1_moveBeat 7 = .ok (.getfield 11, 3) := by decide +kernel
theorem dX1_moveBeat_10 : decode cX1_moveBeat 10 = .ok (.iload_n 1, 1) := by decide +kernel
theorem dX1_moveBeat_11 : decode cX1_moveBeat 11 = .ok (.aaload, 1) := by decide +kernel
theorem dX1_moveBeat_12 : decode cX1_moveBeat 12 = .ok (.astore 4, 2) := by decide +kernel
theorem dX1_moveBeat_14 : decode cX1_moveBeat 14 = .ok (.iload_n 3, 1) := by decide +kernel
theorem dX1_moveBeat_15 : decode cX1_moveBeat 15 = .ok (.aload 4, 2) := by decide +kernel
theorem dX1_moveBeat_17 : decode cX1_moveBeat 17 = .ok (.getfield 57, 3) := by decide +kernel
theorem dX1_moveBeat_20 : decode cX1_moveBeat 20 = .ok (.iload_n 2, 1) := by decide +kernel
theorem dX1_moveBeat_21 : decode cX1_moveBeat 21 = .ok (.iaload, 1) := by decide +kernel
theorem dX1_moveBeat_22 : decode cX1_moveBeat 22 = .ok (.invokestatic 42, 3) := by decide +kernel
theorem dX1_moveBeat_25 : decode cX1_moveBeat 25 = .ok (.aload 4, 2) := by decide +kernel
theorem dX1_moveBeat_27 : decode cX1_moveBeat 27 = .ok (.getfield 61, 3) := by decide +kernel
theorem dX1_moveBeat_30 : decode cX1_moveBeat 30 = .ok (.iload_n 2, 1) := by decide +kernel
theorem dX1_moveBeat_31 : decode cX1_moveBeat 31 = .ok (.iaload, 1) := by decide +kernel
theorem dX1_moveBeat_32 : decode cX1_moveBeat 32 = .ok (.istore 5, 2) := by decide +kernel
theorem dX1_moveBeat_34 : decode cX1_moveBeat 34 = .ok (.aload 4, 2) := by decide +kernel
theorem dX1_moveBeat_36 : decode cX1_moveBeat 36 = .ok (.getfield 61, 3) := by decide +kernel
theorem dX1_moveBeat_39 : decode cX1_moveBeat 39 = .ok (.iload_n 2, 1) := by decide +kernel
theorem dX1_moveBeat_40 : decode cX1_moveBeat 40 = .ok (.iload_n 3, 1) := by decide +kernel
theorem dX1_moveBeat_41 : decode cX1_moveBeat 41 = .ok (.iastore, 1) := by decide +kernel
theorem dX1_moveBeat_42 : decode cX1_moveBeat 42 = .ok (.iload 5, 2) := by decide +kernel
theorem dX1_moveBeat_44 : decode cX1_moveBeat 44 = .ok (.ireturn, 1) := by decide +kernel
set_option maxRecDepth 20000 in
theorem ggX1_takeBeat_X1_needBeat : GoodIn wsX1_takeBeat wsX1_needBeat := goodIn_ca (goodIn_r _ [6, 7, 8, 1, 9, 10, 11, 5, 12, 13, 22, 23, 24, 25, 26, 27, 28, 29, 30, 31] (by decide +kernel) (by decide +kernel)) (goodIn_sub (fun _ h => List.mem_cons_of_mem _ (List.mem_append_right _ h)) (by decide +kernel))
set_option maxRecDepth 20000 in
theorem gX1_takeBeat_X1_needBeat : GoodIn wsX1_takeBeat (wsV RX1 54 RX1 yX1_needBeat wsX1_needBeat) := goodIn_app (goodIn_of _ (by decide +kernel)) ggX1_takeBeat_X1_needBeat
set_option maxRecDepth 20000 in
theorem ggX1_takeBeat_X0_remove : GoodIn wsX1_takeBeat wsX0_remove := goodIn_r _ [18, 19, 20, 21, 27, 28, 29, 30, 31] (by decide +kernel) (by decide +kernel)
set_option maxRecDepth 20000 in
theorem gX1_takeBeat_X0_remove : GoodIn wsX1_takeBeat (wsV RX1 64 RX0 yX0_remove wsX0_remove) := goodIn_app (goodIn_of _ (by decide +kernel)) ggX1_takeBeat_X0_remove
theorem dX1_takeBeat_0 : decode cX1_takeBeat 0 = .ok (.aload_n 0, 1) := by decide +kernel
theorem dX1_takeBeat_1 : decode cX1_takeBeat 1 = .ok (.iload_n 1, 1) := by decide +kernel
theorem dX1_takeBeat_2 : decode cX1_takeBeat 2 = .ok (.iload_n 2, 1) := by decide +kernel
theorem dX1_takeBeat_3 : decode cX1_takeBeat 3 = .ok (.invokevirtual 54, 3) := by decide +kernel
theorem dX1_takeBeat_6 : decode cX1_takeBeat 6 = .ok (.aload_n 0, 1) := by decide +kernel
theorem dX1_takeBeat_7 : decode cX1_takeBeat 7 = .ok (.getfield 11, 3) := by decide +kernel
theorem dX1_takeBeat_10 : decode cX1_takeBeat 10 = .ok (.iload_n 1, 1) := by decide +kernel
theorem dX1_takeBeat_11 : decode cX1_takeBeat 11 = .ok (.aaload, 1) := by decide +kernel
theorem dX1_takeBeat_12 : decode cX1_takeBeat 12 = .ok (.astore_n 3, 1) := by decide +kernel
theorem dX1_takeBeat_13 : decode cX1_takeBeat 13 = .ok (.aload_n 3, 1) := by decide +kernel
theorem dX1_takeBeat_14 : decode cX1_takeBeat 14 = .ok (.iload_n 2, 1) := by decide +kernel
theorem dX1_takeBeat_15 : decode cX1_takeBeat 15 = .ok (.invokevirtual 64, 3) := by decide +kernel
theorem dX1_takeBeat_18 : decode cX1_takeBeat 18 = .ok (.aload_n 3, 1) := by decide +kernel
theorem dX1_takeBeat_19 : decode cX1_takeBeat 19 = .ok (.getfield 46, 3) := by decide +kernel
theorem dX1_takeBeat_22 : decode cX1_takeBeat 22 = .ok (.ireturn, 1) := by decide +kernel
set_option maxRecDepth 20000 in
theorem ggX1_turnShutter_X1_needLamp : GoodIn wsX1_turnShutter wsX1_needLamp := goodIn_ca (goodIn_r _ [6, 7, 8, 9, 10, 11, 12, 13, 14] (by decide +kernel) (by decide +kernel)) (goodIn_sub (fun _ h => List.mem_cons_of_mem _ (List.mem_append_right _ h)) (by decide +kernel))
set_option maxRecDepth 20000 in
theorem gX1_turnShutter_X1_needLamp : GoodIn wsX1_turnShutter (wsV RX1 35 RX1 yX1_needLamp wsX1_needLamp) := goodIn_app (goodIn_of _ (by decide +kernel)) ggX1_turnShutter_X1_needLamp
theorem dX1_turnShutter_0 : decode cX1_turnShutter 0 = .ok (.aload_n 0, 1) := by decide +kernel
theorem dX1_turnShutter_1 : decode cX1_turnShutter 1 = .ok (.iload_n 1, 1) := by decide +kernel
theorem dX1_turnShutter_2 : decode cX1_turnShutter 2 = .ok (.invokevirtual 35, 3) := by decide +kernel
theorem dX1_turnShutter_5 : decode cX1_turnShutter 5 = .ok (.aload_n 0, 1) := by decide +kernel
theorem dX1_turnShutter_6 : decode cX1_turnShutter 6 = .ok (.getfield 11, 3) := by decide +kernel
theorem dX1_turnShutter_9 : decode cX1_turnShutter 9 = .ok (.iload_n 1, 1) := by decide +kernel
theorem dX1_turnShutter_10 : decode cX1_turnShutter 10 = .ok (.aaload, 1) := by decide +kernel
theorem dX1_turnShutter_11 : decode cX1_turnShutter 11 = .ok (.astore_n 2, 1) := by decide +kernel
theorem dX1_turnShutter_12 : decode cX1_turnShutter 12 = .ok (.aload_n 2, 1) := by decide +kernel
theorem dX1_turnShutter_13 : decode cX1_turnShutter 13 = .ok (.aload_n 2, 1) := by decide +kernel
theorem dX1_turnShutter_14 : decode cX1_turnShutter 14 = .ok (.getfield 67, 3) := by decide +kernel
theorem dX1_turnShutter_17 : decode cX1_turnShutter 17 = .ok (.ifCond .ne 7, 3) := by decide +kernel
theorem dX1_turnShutter_20 : decode cX1_turnShutter 20 = .ok (.iconst 1, 1) := by decide +kernel
theorem dX1_turnShutter_21 : decode cX1_turnShutter 21 = .ok (.goto 4, 3) := by decide +kernel
theorem dX1_turnShutter_24 : decode cX1_turnShutter 24 = .ok (.iconst 0, 1) := by decide +kernel
theorem dX1_turnShutter_25 : decode cX1_turnShutter 25 = .ok (.putfield 67, 3) := by decide +kernel
theorem dX1_turnShutter_28 : decode cX1_turnShutter 28 = .ok (.aload_n 2, 1) := by decide +kernel
theorem dX1_turnShutter_29 : decode cX1_turnShutter 29 = .ok (.getfield 67, 3) := by decide +kernel
theorem dX1_turnShutter_32 : decode cX1_turnShutter 32 = .ok (.ireturn, 1) := by decide +kernel
set_option maxRecDepth 20000 in
theorem ggX1_pass_X1_needMoments : GoodIn wsX1_pass wsX1_needMoments := goodIn_ca (goodIn_r _ [6, 7, 8] (by decide +kernel) (by decide +kernel)) (goodIn_sub (fun _ h => List.mem_cons_of_mem _ (List.mem_append_right _ h)) (by decide +kernel))
set_option maxRecDepth 20000 in
theorem gX1_pass_X1_needMoments : GoodIn wsX1_pass (va_wsS RX1 70 yX1_needMoments wsX1_needMoments) := goodIn_app (goodIn_of _ (by decide +kernel)) ggX1_pass_X1_needMoments
set_option maxRecDepth 20000 in
theorem ggX1_pass_X1_changesOfLamps : GoodIn wsX1_pass wsX1_changesOfLamps := goodIn_r _ [12, 13, 14, 15, 16, 17, 18, 19, 20, 21, 22, 23, 24, 25, 26, 27, 28, 29, 30, 31, 32, 33, 34, 35, 36, 37, 38, 39] (by decide +kernel) (by decide +kernel)
set_option maxRecDepth 20000 in
theorem gX1_pass_X1_changesOfLamps : GoodIn wsX1_pass (wsV RX1 76 RX1 yX1_changesOfLamps wsX1_changesOfLamps) := goodIn_app (goodIn_of _ (by decide +kernel)) ggX1_pass_X1_changesOfLamps
theorem dX1_pass_0 : decode cX1_pass 0 = .ok (.iload_n 1, 1) := by decide +kernel
theorem dX1_pass_1 : decode cX1_pass 1 = .ok (.sipush 500, 3) := by decide +kernel
theorem dX1_pass_4 : decode cX1_pass 4 = .ok (.invokestatic 70, 3) := by decide +kernel
theorem dX1_pass_7 : decode cX1_pass 7 = .ok (.iconst 0, 1) := by decide +kernel
theorem dX1_pass_8 : decode cX1_pass 8 = .ok (.istore_n 2, 1) := by decide +kernel
theorem dX1_pass_9 : decode cX1_pass 9 = .ok (.iconst 1, 1) := by decide +kernel
theorem dX1_pass_10 : decode cX1_pass 10 = .ok (.istore_n 3, 1) := by decide +kernel
theorem dX1_pass_11 : decode cX1_pass 11 = .ok (.iload_n 3, 1) := by decide +kernel
theorem dX1_pass_12 : decode cX1_pass 12 = .ok (.iload_n 1, 1) := by decide +kernel
theorem dX1_pass_13 : decode cX1_pass 13 = .ok (.if_icmp .gt 22, 3) := by decide +kernel
theorem dX1_pass_16 : decode cX1_pass 16 = .ok (.iload_n 2, 1) := by decide +kernel
theorem dX1_pass_17 : decode cX1_pass 17 = .ok (.aload_n 0, 1) := by decide +kernel
theorem dX1_pass_18 : decode cX1_pass 18 = .ok (.aload_n 0, 1) := by decide +kernel
theorem dX1_pass_19 : decode cX1_pass 19 = .ok (.getfield 73, 3) := by decide +kernel
theorem dX1_pass_22 : decode cX1_pass 22 = .ok (.iload_n 3, 1) := by decide +kernel
theorem dX1_pass_23 : decode cX1_pass 23 = .ok (.iadd, 1) := by decide +kernel
theorem dX1_pass_24 : decode cX1_pass 24 = .ok (.invokevirtual 76, 3) := by decide +kernel
theorem dX1_pass_27 : decode cX1_pass 27 = .ok (.iadd, 1) := by decide +kernel
theorem dX1_pass_28 : decode cX1_pass 28 = .ok (.istore_n 2, 1) := by decide +kernel
theorem dX1_pass_29 : decode cX1_pass 29 = .ok (.iinc 3 1, 3) := by decide +kernel
theorem dX1_pass_32 : decode cX1_pass 32 = .ok (.goto (-21), 3) := by decide +kernel
theorem dX1_pass_35 : decode cX1_pass 35 = .ok (.aload_n 0, 1) := by decide +kernel
theorem dX1_pass_36 : decode cX1_pass 36 = .ok (.dup, 1) := by decide +kernel
theorem dX1_pass_37 : decode cX1_pass 37 = .ok (.getfield 73, 3) := by decide +kernel
theorem dX1_pass_40 : decode cX1_pass 40 = .ok (.iload_n 1, 1) := by decide +kernel
theorem dX1_pass_41 : decode cX1_pass 41 = .ok (.iadd, 1) := by decide +kernel
theorem dX1_pass_42 : decode cX1_pass 42 = .ok (.putfield 73, 3) := by decide +kernel
theorem dX1_pass_45 : decode cX1_pass 45 = .ok (.aload_n 0, 1) := by decide +kernel
theorem dX1_pass_46 : decode cX1_pass 46 = .ok (.dup, 1) := by decide +kernel
theorem dX1_pass_47 : decode cX1_pass 47 = .ok (.getfield 80, 3) := by decide +kernel
theorem dX1_pass_50 : decode cX1_pass 50 = .ok (.iload_n 2, 1) := by decide +kernel
theorem dX1_pass_51 : decode cX1_pass 51 = .ok (.iadd, 1) := by decide +kernel
theorem dX1_pass_52 : decode cX1_pass 52 = .ok (.putfield 80, 3) := by decide +kernel
theorem dX1_pass_55 : decode cX1_pass 55 = .ok (.iload_n 2, 1) := by decide +kernel
theorem dX1_pass_56 : decode cX1_pass 56 = .ok (.ireturn, 1) := by decide +kernel
theorem dX1_lamps_0 : decode cX1_lamps 0 = .ok (.aload_n 0, 1) := by decide +kernel
theorem dX1_lamps_1 : decode cX1_lamps 1 = .ok (.getfield 20, 3) := by decide +kernel
theorem dX1_lamps_4 : decode cX1_lamps 4 = .ok (.ireturn, 1) := by decide +kernel
theorem dX1_now_0 : decode cX1_now 0 = .ok (.aload_n 0, 1) := by decide +kernel
theorem dX1_now_1 : decode cX1_now 1 = .ok (.getfield 73, 3) := by decide +kernel
theorem dX1_now_4 : decode cX1_now 4 = .ok (.ireturn, 1) := by decide +kernel
theorem dX1_changesSeen_0 : decode cX1_changesSeen 0 = .ok (.aload_n 0, 1) := by decide +kernel
theorem dX1_changesSeen_1 : decode cX1_changesSeen 1 = .ok (.getfield 80, 3) := by decide +kernel
theorem dX1_changesSeen_4 : decode cX1_changesSeen 4 = .ok (.ireturn, 1) := by decide +kernel
set_option maxRecDepth 20000 in
theorem ggX1_beatsOf_X1_needLamp : GoodIn wsX1_beatsOf wsX1_needLamp := goodIn_ca (goodIn_r _ [6, 7, 8, 9, 10, 11, 12, 13, 14] (by decide +kernel) (by decide +kernel)) (goodIn_sub (fun _ h => List.mem_cons_of_mem _ (List.mem_append_right _ h)) (by decide +kernel))
set_option maxRecDepth 20000 in
theorem gX1_beatsOf_X1_needLamp : GoodIn wsX1_beatsOf (wsV RX1 35 RX1 yX1_needLamp wsX1_needLamp) := goodIn_app (goodIn_of _ (by decide +kernel)) ggX1_beatsOf_X1_needLamp
theorem dX1_beatsOf_0 : decode cX1_beatsOf 0 = .ok (.aload_n 0, 1) := by decide +kernel
theorem dX1_beatsOf_1 : decode cX1_beatsOf 1 = .ok (.iload_n 1, 1) := by decide +kernel
theorem dX1_beatsOf_2 : decode cX1_beatsOf 2 = .ok (.invokevirtual 35, 3) := by decide +kernel
theorem dX1_beatsOf_5 : decode cX1_beatsOf 5 = .ok (.aload_n 0, 1) := by decide +kernel
theorem dX1_beatsOf_6 : decode cX1_beatsOf 6 = .ok (.getfield 11, 3) := by decide +kernel
theorem dX1_beatsOf_9 : decode cX1_beatsOf 9 = .ok (.iload_n 1, 1) := by decide +kernel
theorem dX1_beatsOf_10 : decode cX1_beatsOf 10 = .ok (.aaload, 1) := by decide +kernel
theorem dX1_beatsOf_11 : decode cX1_beatsOf 11 = .ok (.getfield 46, 3) := by decide +kernel
theorem dX1_beatsOf_14 : decode cX1_beatsOf 14 = .ok (.ireturn, 1) := by decide +kernel
set_option maxRecDepth 20000 in
theorem ggX1_numberOf_X1_needBeat : GoodIn wsX1_numberOf wsX1_needBeat := goodIn_ca (goodIn_r _ [6, 7, 8, 1, 9, 10, 11, 5, 12, 13, 14, 15, 16, 17, 18, 19, 20, 21, 22, 23] (by decide +kernel) (by decide +kernel)) (goodIn_sub (fun _ h => List.mem_cons_of_mem _ (List.mem_append_right _ h)) (by decide +kernel))
set_option maxRecDepth 20000 in
theorem gX1_numberOf_X1_needBeat : GoodIn wsX1_numberOf (wsV RX1 54 RX1 yX1_needBeat wsX1_needBeat) := goodIn_app (goodIn_of _ (by decide +kernel)) ggX1_numberOf_X1_needBeat
theorem dX1_numberOf_0 : decode cX1_numberOf 0 = .ok (.aload_n 0, 1) := by decide +kernel
theorem dX1_numberOf_1 : decode cX1_numberOf 1 = .ok (.iload_n 1, 1) := by decide +kernel
theorem dX1_numberOf_2 : decode cX1_numberOf 2 = .ok (.iload_n 2, 1) := by decide +kernel
theorem dX1_numberOf_3 : decode cX1_numberOf 3 = .ok (.invokevirtual 54, 3) := by decide +kernel
theorem dX1_numberOf_6 : decode cX1_numberOf 6 = .ok (.aload_n 0, 1) := by decide +kernel
theorem dX1_numberOf_7 : decode cX1_numberOf 7 = .ok (.getfield 11, 3) := by decide +kernel
theorem dX1_numberOf_10 : decode cX1_numberOf 10 = .ok (.iload_n 1, 1) := by decide +kernel
theorem dX1_numberOf_11 : decode cX1_numberOf 11 = .ok (.aaload, 1) := by decide +kernel
theorem dX1_numberOf_12 : decode cX1_numberOf 12 = .ok (.getfield 57, 3) := by decide +kernel
theorem dX1_numberOf_15 : decode cX1_numberOf 15 = .ok (.iload_n 2, 1) := by decide +kernel
theorem dX1_numberOf_16 : decode cX1_numberOf 16 = .ok (.iaload, 1) := by decide +kernel
theorem dX1_numberOf_17 : decode cX1_numberOf 17 = .ok (.ireturn, 1) := by decide +kernel
set_option maxRecDepth 20000 in
theorem ggX1_offsetOf_X1_needBeat : GoodIn wsX1_offsetOf wsX1_needBeat := goodIn_ca (goodIn_r _ [6, 7, 8, 1, 9, 10, 11, 5, 12, 13, 14, 15, 16, 17, 18, 19, 20, 21, 22, 23] (by decide +kernel) (by decide +kernel)) (goodIn_sub (fun _ h => List.mem_cons_of_mem _ (List.mem_append_right _ h)) (by decide +kernel))
set_option maxRecDepth 20000 in
theorem gX1_offsetOf_X1_needBeat : GoodIn wsX1_offsetOf (wsV RX1 54 RX1 yX1_needBeat wsX1_needBeat) := goodIn_app (goodIn_of _ (by decide +kernel)) ggX1_offsetOf_X1_needBeat
theorem dX1_offsetOf_0 : decode cX1_offsetOf 0 = .ok (.aload_n 0, 1) := by decide +kernel
theorem dX1_offsetOf_1 : decode cX1_offsetOf 1 = .ok (.iload_n 1, 1) := by decide +kernel
theorem dX1_offsetOf_2 : decode cX1_offsetOf 2 = .ok (.iload_n 2, 1) := by decide +kernel
theorem dX1_offsetOf_3 : decode cX1_offsetOf 3 = .ok (.invokevirtual 54, 3) := by decide +kernel
theorem dX1_offsetOf_6 : decode cX1_offsetOf 6 = .ok (.aload_n 0, 1) := by decide +kernel
theorem dX1_offsetOf_7 : decode cX1_offsetOf 7 = .ok (.getfield 11, 3) := by decide +kernel
theorem dX1_offsetOf_10 : decode cX1_offsetOf 10 = .ok (.iload_n 1, 1) := by decide +kernel
theorem dX1_offsetOf_11 : decode cX1_offsetOf 11 = .ok (.aaload, 1) := by decide +kernel
theorem dX1_offsetOf_12 : decode cX1_offsetOf 12 = .ok (.getfield 61, 3) := by decide +kernel
theorem dX1_offsetOf_15 : decode cX1_offsetOf 15 = .ok (.iload_n 2, 1) := by decide +kernel
theorem dX1_offsetOf_16 : decode cX1_offsetOf 16 = .ok (.iaload, 1) := by decide +kernel
theorem dX1_offsetOf_17 : decode cX1_offsetOf 17 = .ok (.ireturn, 1) := by decide +kernel
set_option maxRecDepth 20000 in
theorem ggX1_isCovered_X1_needLamp : GoodIn wsX1_isCovered wsX1_needLamp := goodIn_ca (goodIn_r _ [6, 7, 8, 9, 10, 11, 12, 13, 14] (by decide +kernel) (by decide +kernel)) (goodIn_sub (fun _ h => List.mem_cons_of_mem _ (List.mem_append_right _ h)) (by decide +kernel))
set_option maxRecDepth 20000 in
theorem gX1_isCovered_X1_needLamp : GoodIn wsX1_isCovered (wsV RX1 35 RX1 yX1_needLamp wsX1_needLamp) := goodIn_app (goodIn_of _ (by decide +kernel)) ggX1_isCovered_X1_needLamp
theorem dX1_isCovered_0 : decode cX1_isCovered 0 = .ok (.aload_n 0, 1) := by decide +kernel
theorem dX1_isCovered_1 : decode cX1_isCovered 1 = .ok (.iload_n 1, 1) := by decide +kernel
theorem dX1_isCovered_2 : decode cX1_isCovered 2 = .ok (.invokevirtual 35, 3) := by decide +kernel
theorem dX1_isCovered_5 : decode cX1_isCovered 5 = .ok (.aload_n 0, 1) := by decide +kernel
theorem dX1_isCovered_6 : decode cX1_isCovered 6 = .ok (.getfield 11, 3) := by decide +kernel
theorem dX1_isCovered_9 : decode cX1_isCovered 9 = .ok (.iload_n 1, 1) := by decide +kernel
theorem dX1_isCovered_10 : decode cX1_isCovered 10 = .ok (.aaload, 1) := by decide +kernel
theorem dX1_isCovered_11 : decode cX1_isCovered 11 = .ok (.getfield 67, 3) := by decide +kernel
theorem dX1_isCovered_14 : decode cX1_isCovered 14 = .ok (.ireturn, 1) := by decide +kernel
set_option maxRecDepth 20000 in
theorem ggX1_isOn_X1_needLamp : GoodIn wsX1_isOn wsX1_needLamp := goodIn_ca (goodIn_r _ [7, 8, 9, 10, 26, 27, 28, 29, 30] (by decide +kernel) (by decide +kernel)) (goodIn_sub (fun _ h => List.mem_cons_of_mem _ (List.mem_append_right _ h)) (by decide +kernel))
set_option maxRecDepth 20000 in
theorem gX1_isOn_X1_needLamp : GoodIn wsX1_isOn (wsV RX1 35 RX1 yX1_needLamp wsX1_needLamp) := goodIn_app (goodIn_of _ (by decide +kernel)) ggX1_isOn_X1_needLamp
set_option maxRecDepth 20000 in
theorem ggX1_isOn_X0_onAt : GoodIn wsX1_isOn wsX0_onAt := goodIn_r _ [15, 16, 17, 18, 19, 20, 21, 14, 22, 23, 24, 25, 31, 32, 33, 34, 35] (by decide +kernel) (by decide +kernel)
set_option maxRecDepth 20000 in
theorem gX1_isOn_X0_onAt : GoodIn wsX1_isOn (wsV RX1 83 RX0 yX0_onAt wsX0_onAt) := goodIn_app (goodIn_of _ (by decide +kernel)) ggX1_isOn_X0_onAt
theorem dX1_isOn_0 : decode cX1_isOn 0 = .ok (.aload_n 0, 1) := by decide +kernel
theorem dX1_isOn_1 : decode cX1_isOn 1 = .ok (.iload_n 1, 1) := by decide +kernel
theorem dX1_isOn_2 : decode cX1_isOn 2 = .ok (.invokevirtual 35, 3) := by decide +kernel
theorem dX1_isOn_5 : decode cX1_isOn 5 = .ok (.aload_n 0, 1) := by decide +kernel
theorem dX1_isOn_6 : decode cX1_isOn 6 = .ok (.getfield 11, 3) := by decide +kernel
theorem dX1_isOn_9 : decode cX1_isOn 9 = .ok (.iload_n 1, 1) := by decide +kernel
theorem dX1_isOn_10 : decode cX1_isOn 10 = .ok (.aaload, 1) := by decide +kernel
theorem dX1_isOn_11 : decode cX1_isOn 11 = .ok (.aload_n 0, 1) := by decide +kernel
theorem dX1_isOn_12 : decode cX1_isOn 12 = .ok (.getfield 73, 3) := by decide +kernel
theorem dX1_isOn_15 : decode cX1_isOn 15 = .ok (.invokevirtual 83, 3) := by decide +kernel
theorem dX1_isOn_18 : decode cX1_isOn 18 = .ok (.ireturn, 1) := by decide +kernel
set_option maxRecDepth 20000 in
theorem ggX1_isLit_X1_needLamp : GoodIn wsX1_isLit wsX1_needLamp := goodIn_ca (goodIn_r _ [7, 8, 9, 10, 31, 32, 33, 34, 35] (by decide +kernel) (by decide +kernel)) (goodIn_sub (fun _ h => List.mem_cons_of_mem _ (List.mem_append_right _ h)) (by decide +kernel))
set_option maxRecDepth 20000 in
theorem gX1_isLit_X1_needLamp : GoodIn wsX1_isLit (wsV RX1 35 RX1 yX1_needLamp wsX1_needLamp) := goodIn_app (goodIn_of _ (by decide +kernel)) ggX1_isLit_X1_needLamp
set_option maxRecDepth 20000 in
theorem ggX1_isLit_X0_litAt : GoodIn wsX1_isLit wsX0_litAt := goodIn_r _ [15, 16, 17, 18, 19, 14, 20, 21, 22, 23, 24, 25, 26, 27, 28, 29, 30, 36, 37, 38, 39, 40] (by decide +kernel) (by decide +kernel)
set_option maxRecDepth 20000 in
theorem gX1_isLit_X0_litAt : GoodIn wsX1_isLit (wsV RX1 87 RX0 yX0_litAt wsX0_litAt) := goodIn_app (goodIn_of _ (by decide +kernel)) ggX1_isLit_X0_litAt
theorem dX1_isLit_0 : decode cX1_isLit 0 = .ok (.aload_n 0, 1) := by decide +kernel
theorem dX1_isLit_1 : decode cX1_isLit 1 = .ok (.iload_n 1, 1) := by decide +kernel
theorem dX1_isLit_2 : decode cX1_isLit 2 = .ok (.invokevirtual 35, 3) := by decide +kernel
theorem dX1_isLit_5 : decode cX1_isLit 5 = .ok (.aload_n 0, 1) := by decide +kernel
theorem dX1_isLit_6 : decode cX1_isLit 6 = .ok (.getfield 11, 3) := by decide +kernel
theorem dX1_isLit_9 : decode cX1_isLit 9 = .ok (.iload_n 1, 1) := by decide +kernel
theorem dX1_isLit_10 : decode cX1_isLit 10 = .ok (.aaload, 1) := by decide +kernel
theorem dX1_isLit_11 : decode cX1_isLit 11 = .ok (.aload_n 0, 1) := by decide +kernel
theorem dX1_isLit_12 : decode cX1_isLit 12 = .ok (.getfield 73, 3) := by decide +kernel
theorem dX1_isLit_15 : decode cX1_isLit 15 = .ok (.invokevirtual 87, 3) := by decide +kernel
theorem dX1_isLit_18 : decode cX1_isLit 18 = .ok (.ireturn, 1) := by decide +kernel
set_option maxRecDepth 20000 in
theorem ggX1_litLamps_X1_litCount : GoodIn wsX1_litLamps wsX1_litCount := goodIn_r _ [6, 7, 8, 9, 10, 11, 12, 13, 14, 15, 16, 17, 18, 19, 20, 21, 22, 23, 24, 25, 26, 27, 28, 29, 30, 31, 32, 33, 34, 35, 36, 37, 38] (by decide +kernel) (by decide +kernel)
set_option maxRecDepth 20000 in
theorem gX1_litLamps_X1_litCount : GoodIn wsX1_litLamps (wsV RX1 90 RX1 yX1_litCount wsX1_litCount) := goodIn_app (goodIn_of _ (by decide +kernel)) ggX1_litLamps_X1_litCount
theorem dX1_litLamps_0 : decode cX1_litLamps 0 = .ok (.aload_n 0, 1) := by decide +kernel
theorem dX1_litLamps_1 : decode cX1_litLamps 1 = .ok (.aload_n 0, 1) := by decide +kernel
theorem dX1_litLamps_2 : decode cX1_litLamps 2 = .ok (.getfield 73, 3) := by decide +kernel
theorem dX1_litLamps_5 : decode cX1_litLamps 5 = .ok (.invokevirtual 90, 3) := by decide +kernel
theorem dX1_litLamps_8 : decode cX1_litLamps 8 = .ok (.ireturn, 1) := by decide +kernel
set_option maxRecDepth 20000 in
theorem ggX1_isDark_X1_darkAt : GoodIn wsX1_isDark wsX1_darkAt := goodIn_r _ [6, 7, 8, 9, 10, 11, 12, 13, 14, 15, 16, 17, 18, 19, 20, 21, 22, 23, 24, 25, 26, 27, 28, 29, 30, 31, 32, 33, 34, 35, 36, 37, 38] (by decide +kernel) (by decide +kernel)
set_option maxRecDepth 20000 in
theorem gX1_isDark_X1_darkAt : GoodIn wsX1_isDark (wsV RX1 93 RX1 yX1_darkAt wsX1_darkAt) := goodIn_app (goodIn_of _ (by decide +kernel)) ggX1_isDark_X1_darkAt
theorem dX1_isDark_0 : decode cX1_isDark 0 = .ok (.aload_n 0, 1) := by decide +kernel
theorem dX1_isDark_1 : decode cX1_isDark 1 = .ok (.aload_n 0, 1) := by decide +kernel
theorem dX1_isDark_2 : decode cX1_isDark 2 = .ok (.getfield 73, 3) := by decide +kernel
theorem dX1_isDark_5 : decode cX1_isDark 5 = .ok (.iconst (-1), 1) := by decide +kernel
theorem dX1_isDark_6 : decode cX1_isDark 6 = .ok (.invokevirtual 93, 3) := by decide +kernel
theorem dX1_isDark_9 : decode cX1_isDark 9 = .ok (.ireturn, 1) := by decide +kernel
set_option maxRecDepth 20000 in
theorem ggX1_isOnAt_X1_needLamp : GoodIn wsX1_isOnAt wsX1_needLamp := goodIn_ca (goodIn_r _ [6, 7, 8, 9, 31, 32, 33, 34, 35] (by decide +kernel) (by decide +kernel)) (goodIn_sub (fun _ h => List.mem_cons_of_mem _ (List.mem_append_left _ (List.mem_append_right _ h))) (by decide +kernel))
set_option maxRecDepth 20000 in
theorem gX1_isOnAt_X1_needLamp : GoodIn wsX1_isOnAt (wsV RX1 35 RX1 yX1_needLamp wsX1_needLamp) := goodIn_app (goodIn_of _ (by decide +kernel)) ggX1_isOnAt_X1_needLamp
set_option maxRecDepth 20000 in
theorem ggX1_isOnAt_X1_needMoment : GoodIn wsX1_isOnAt wsX1_needMoment := goodIn_ca (goodIn_r _ [12, 13, 14, 15] (by decide +kernel) (by decide +kernel)) (goodIn_sub (fun _ h => List.mem_cons_of_mem _ (List.mem_append_right _ h)) (by decide +kernel))
set_option maxRecDepth 20000 in
theorem gX1_isOnAt_X1_needMoment : GoodIn wsX1_isOnAt (va_wsS RX1 97 yX1_needMoment wsX1_needMoment) := goodIn_app (goodIn_of _ (by decide +kernel)) ggX1_isOnAt_X1_needMoment
set_option maxRecDepth 20000 in
theorem ggX1_isOnAt_X0_onAt : GoodIn wsX1_isOnAt wsX0_onAt := goodIn_r _ [20, 21, 22, 23, 24, 25, 26, 19, 27, 28, 29, 30, 36, 37, 38, 39, 40] (by decide +kernel) (by decide +kernel)
set_option maxRecDepth 20000 in
theorem gX1_isOnAt_X0_onAt : GoodIn wsX1_isOnAt (wsV RX1 83 RX0 yX0_onAt wsX0_onAt) := goodIn_app (goodIn_of _ (by decide +kernel)) ggX1_isOnAt_X0_onAt
theorem dX1_isOnAt_0 : decode cX1_isOnAt 0 = .ok (.aload_n 0, 1) := by decide +kernel
theorem dX1_isOnAt_1 : decode cX1_isOnAt 1 = .ok (.iload_n 1, 1) := by decide +kernel
theorem dX1_isOnAt_2 : decode cX1_isOnAt 2 = .ok (.invokevirtual 35, 3) := by decide +kernel
theorem dX1_isOnAt_5 : decode cX1_isOnAt 5 = .ok (.iload_n 2, 1) := by decide +kernel
theorem dX1_isOnAt_6 : decode cX1_isOnAt 6 = .ok (.invokestatic 97, 3) := by decide +kernel
theorem dX1_isOnAt_9 : decode cX1_isOnAt 9 = .ok (.aload_n 0, 1) := by decide +kernel
theorem dX1_isOnAt_10 : decode cX1_isOnAt 10 = .ok (.getfield 11, 3) := by decide +kernel
theorem dX1_isOnAt_13 : decode cX1_isOnAt 13 = .ok (.iload_n 1, 1) := by decide +kernel
theorem dX1_isOnAt_14 : decode cX1_isOnAt 14 = .ok (.aaload, 1) := by decide +kernel
theorem dX1_isOnAt_15 : decode cX1_isOnAt 15 = .ok (.iload_n 2, 1) := by decide +kernel
theorem dX1_isOnAt_16 : decode cX1_isOnAt 16 = .ok (.invokevirtual 83, 3) := by decide +kernel
theorem dX1_isOnAt_19 : decode cX1_isOnAt 19 = .ok (.ireturn, 1) := by decide +kernel
set_option maxRecDepth 20000 in
theorem ggX1_strikesAt_X1_needLamp : GoodIn wsX1_strikesAt wsX1_needLamp := goodIn_ca (goodIn_r _ [6, 7, 8, 9, 24, 25, 26, 27, 28] (by decide +kernel) (by decide +kernel)) (goodIn_sub (fun _ h => List.mem_cons_of_mem _ (List.mem_append_left _ (List.mem_append_right _ h))) (by decide +kernel))
set_option maxRecDepth 20000 in
theorem gX1_strikesAt_X1_needLamp : GoodIn wsX1_strikesAt (wsV RX1 35 RX1 yX1_needLamp wsX1_needLamp) := goodIn_app (goodIn_of _ (by decide +kernel)) ggX1_strikesAt_X1_needLamp
set_option maxRecDepth 20000 in
theorem ggX1_strikesAt_X1_needMoment : GoodIn wsX1_strikesAt wsX1_needMoment := goodIn_ca (goodIn_r _ [12, 13, 14, 15] (by decide +kernel) (by decide +kernel)) (goodIn_sub (fun _ h => List.mem_cons_of_mem _ (List.mem_append_right _ h)) (by decide +kernel))
set_option maxRecDepth 20000 in
theorem gX1_strikesAt_X1_needMoment : GoodIn wsX1_strikesAt (va_wsS RX1 97 yX1_needMoment wsX1_needMoment) := goodIn_app (goodIn_of _ (by decide +kernel)) ggX1_strikesAt_X1_needMoment
set_option maxRecDepth 20000 in
theorem ggX1_strikesAt_X0_strikes : GoodIn wsX1_strikesAt wsX0_strikes := goodIn_r _ [20, 21, 22, 23, 29, 30, 31, 32, 33] (by decide +kernel) (by decide +kernel)
set_option maxRecDepth 20000 in
theorem gX1_strikesAt_X0_strikes : GoodIn wsX1_strikesAt (wsV RX1 100 RX0 yX0_strikes wsX0_strikes) := goodIn_app (goodIn_of _ (by decide +kernel)) ggX1_strikesAt_X0_strikes
theorem dX1_strikesAt_0 : decode cX1_strikesAt 0 = .ok (.aload_n 0, 1) := by decide +kernel
theorem dX1_strikesAt_1 : decode cX1_strikesAt 1 = .ok (.iload_n 1, 1) := by decide +kernel
theorem dX1_strikesAt_2 : decode cX1_strikesAt 2 = .ok (.invokevirtual 35, 3) := by decide +kernel
theorem dX1_strikesAt_5 : decode cX1_strikesAt 5 = .ok (.iload_n 2, 1) := by decide +kernel
theorem dX1_strikesAt_6 : decode cX1_strikesAt 6 = .ok (.invokestatic 97, 3) := by decide +kernel
theorem dX1_strikesAt_9 : decode cX1_strikesAt 9 = .ok (.aload_n 0, 1) := by decide +kernel
theorem dX1_strikesAt_10 : decode cX1_strikesAt 10 = .ok (.getfield 11, 3) := by decide +kernel
theorem dX1_strikesAt_13 : decode cX1_strikesAt 13 = .ok (.iload_n 1, 1) := by decide +kernel
theorem dX1_strikesAt_14 : decode cX1_strikesAt 14 = .ok (.aaload, 1) := by decide +kernel
theorem dX1_strikesAt_15 : decode cX1_strikesAt 15 = .ok (.iload_n 2, 1) := by decide +kernel
theorem dX1_strikesAt_16 : decode cX1_strikesAt 16 = .ok (.invokevirtual 100, 3) := by decide +kernel
theorem dX1_strikesAt_19 : decode cX1_strikesAt 19 = .ok (.ireturn, 1) := by decide +kernel
set_option maxRecDepth 20000 in
theorem ggX1_isSteady_X1_needLamp : GoodIn wsX1_isSteady wsX1_needLamp := goodIn_ca (goodIn_r _ [6, 7, 8, 9, 41, 42, 43, 44, 45] (by decide +kernel) (by decide +kernel)) (goodIn_sub (fun _ h => List.mem_cons_of_mem _ (List.mem_append_right _ h)) (by decide +kernel))
set_option maxRecDepth 20000 in
theorem gX1_isSteady_X1_needLamp : GoodIn wsX1_isSteady (wsV RX1 35 RX1 yX1_needLamp wsX1_needLamp) := goodIn_app (goodIn_of _ (by decide +kernel)) ggX1_isSteady_X1_needLamp
set_option maxRecDepth 20000 in
theorem ggX1_isSteady_X0_neverChanges : GoodIn wsX1_isSteady wsX0_neverChanges := goodIn_r _ [14, 15, 16, 17, 13, 18, 19, 20, 21, 22, 23, 24, 25, 26, 27, 28, 29, 30, 31, 32, 33, 34, 35, 36, 37, 38, 39, 40, 46, 47, 48, 49, 50] (by decide +kernel) (by decide +kernel)
set_option maxRecDepth 20000 in
theorem gX1_isSteady_X0_neverChanges : GoodIn wsX1_isSteady (wsV RX1 103 RX0 yX0_neverChanges wsX0_neverChanges) := goodIn_app (goodIn_of _ (by decide +kernel)) ggX1_isSteady_X0_neverChanges
theorem dX1_isSteady_0 : decode cX1_isSteady 0 = .ok (.aload_n 0, 1) := by decide +kernel
theorem dX1_isSteady_1 : decode cX1_isSteady 1 = .ok (.iload_n 1, 1) := by decide +kernel
theorem dX1_isSteady_2 : decode cX1_isSteady 2 = .ok (.invokevirtual 35, 3) := by decide +kernel
theorem dX1_isSteady_5 : decode cX1_isSteady 5 = .ok (.aload_n 0, 1) := by decide +kernel
theorem dX1_isSteady_6 : decode cX1_isSteady 6 = .ok (.getfield 11, 3) := by decide +kernel
theorem dX1_isSteady_9 : decode cX1_isSteady 9 = .ok (.iload_n 1, 1) := by decide +kernel
theorem dX1_isSteady_10 : decode cX1_isSteady 10 = .ok (.aaload, 1) := by decide +kernel
theorem dX1_isSteady_11 : decode cX1_isSteady 11 = .ok (.invokevirtual 103, 3) := by decide +kernel
theorem dX1_isSteady_14 : decode cX1_isSteady 14 = .ok (.ireturn, 1) := by decide +kernel
set_option maxRecDepth 20000 in
theorem ggX1_cycleOf_X1_needLamp : GoodIn wsX1_cycleOf wsX1_needLamp := goodIn_ca (goodIn_r _ [6, 7, 8, 9, 37, 38, 39, 40, 41] (by decide +kernel) (by decide +kernel)) (goodIn_sub (fun _ h => List.mem_cons_of_mem _ (List.mem_append_right _ h)) (by decide +kernel))
set_option maxRecDepth 20000 in
theorem gX1_cycleOf_X1_needLamp : GoodIn wsX1_cycleOf (wsV RX1 35 RX1 yX1_needLamp wsX1_needLamp) := goodIn_app (goodIn_of _ (by decide +kernel)) ggX1_cycleOf_X1_needLamp
set_option maxRecDepth 20000 in
theorem ggX1_cycleOf_X0_cycle : GoodIn wsX1_cycleOf wsX0_cycle := goodIn_r _ [14, 15, 16, 17, 18, 13, 19, 20, 21, 22, 23, 24, 25, 26, 27, 28, 29, 30, 31, 32, 33, 34, 35, 36, 42, 43, 44, 45, 46] (by decide +kernel) (by decide +kernel)
set_option maxRecDepth 20000 in
theorem gX1_cycleOf_X0_cycle : GoodIn wsX1_cycleOf (wsV RX1 107 RX0 yX0_cycle wsX0_cycle) := goodIn_app (goodIn_of _ (by decide +kernel)) ggX1_cycleOf_X0_cycle
theorem dX1_cycleOf_0 : decode cX1_cycleOf 0 = .ok (.aload_n 0, 1) := by decide +kernel
theorem dX1_cycleOf_1 : decode cX1_cycleOf 1 = .ok (.iload_n 1, 1) := by decide +kernel
theorem dX1_cycleOf_2 : decode cX1_cycleOf 2 = .ok (.invokevirtual 35, 3) := by decide +kernel
theorem dX1_cycleOf_5 : decode cX1_cycleOf 5 = .ok (.aload_n 0, 1) := by decide +kernel
theorem dX1_cycleOf_6 : decode cX1_cycleOf 6 = .ok (.getfield 11, 3) := by decide +kernel
theorem dX1_cycleOf_9 : decode cX1_cycleOf 9 = .ok (.iload_n 1, 1) := by decide +kernel
theorem dX1_cycleOf_10 : decode cX1_cycleOf 10 = .ok (.aaload, 1) := by decide +kernel
theorem dX1_cycleOf_11 : decode cX1_cycleOf 11 = .ok (.invokevirtual 107, 3) := by decide +kernel
theorem dX1_cycleOf_14 : decode cX1_cycleOf 14 = .ok (.ireturn, 1) := by decide +kernel
set_option maxRecDepth 20000 in
theorem ggX1_momentsUntilChange_X1_needLamp : GoodIn wsX1_momentsUntilChange wsX1_needLamp := goodIn_ca (goodIn_r _ [7, 8, 9, 10, 38, 39, 40, 41, 42] (by decide +kernel) (by decide +kernel)) (goodIn_sub (fun _ h => List.mem_cons_of_mem _ (List.mem_append_right _ h)) (by decide +kernel))
set_option maxRecDepth 20000 in
theorem gX1_momentsUntilChange_X1_needLamp : GoodIn wsX1_momentsUntilChange (wsV RX1 35 RX1 yX1_needLamp wsX1_needLamp) := goodIn_app (goodIn_of _ (by decide +kernel)) ggX1_momentsUntilChange_X1_needLamp
set_option maxRecDepth 20000 in
theorem ggX1_momentsUntilChange_X0_untilChange : GoodIn wsX1_momentsUntilChange wsX0_untilChange := goodIn_r _ [15, 16, 17, 18, 14, 19, 20, 21, 22, 23, 24, 25, 26, 27, 28, 29, 30, 31, 32, 33, 34, 35, 36, 37, 43, 44, 45, 46, 47] (by decide +kernel) (by decide +kernel)
set_option maxRecDepth 20000 in
theorem gX1_momentsUntilChange_X0_untilChange : GoodIn wsX1_momentsUntilChange (wsV RX1 111 RX0 yX0_untilChange wsX0_untilChange) := goodIn_app (goodIn_of _ (by decide +kernel)) ggX1_momentsUntilChange_X0_untilChange
theorem dX1_momentsUntilChange_0 : decode cX1_momentsUntilChange 0 = .ok (.aload_n 0, 1) := by decide +kernel
theorem dX1_momentsUntilChange_1 : decode cX1_momentsUntilChange 1 = .ok (.iload_n 1, 1) := by decide +kernel
theorem dX1_momentsUntilChange_2 : decode cX1_momentsUntilChange 2 = .ok (.invokevirtual 35, 3) := by decide +kernel
theorem dX1_momentsUntilChange_5 : decode cX1_momentsUntilChange 5 = .ok (.aload_n 0, 1) := by decide +kernel
theorem dX1_momentsUntilChange_6 : decode cX1_momentsUntilChange 6 = .ok (.getfield 11, 3) := by decide +kernel
theorem dX1_momentsUntilChange_9 : decode cX1_momentsUntilChange 9 = .ok (.iload_n 1, 1) := by decide +kernel
theorem dX1_momentsUntilChange_10 : decode cX1_momentsUntilChange 10 = .ok (.aaload, 1) := by decide +kernel
theorem dX1_momentsUntilChange_11 : decode cX1_momentsUntilChange 11 = .ok (.aload_n 0, 1) := by decide +kernel
theorem dX1_momentsUntilChange_12 : decode cX1_momentsUntilChange 12 = .ok (.getfield 73, 3) := by decide +kernel
theorem dX1_momentsUntilChange_15 : decode cX1_momentsUntilChange 15 = .ok (.invokevirtual 111, 3) := by decide +kernel
theorem dX1_momentsUntilChange_18 : decode cX1_momentsUntilChange 18 = .ok (.ireturn, 1) := by decide +kernel
set_option maxRecDepth 20000 in
theorem ggX1_shows_X1_needLamp : GoodIn wsX1_shows wsX1_needLamp := goodIn_ca (goodIn_r _ [7, 8, 9, 10, 31, 32, 33, 34, 35] (by decide +kernel) (by decide +kernel)) (goodIn_sub (fun _ h => List.mem_cons_of_mem _ (List.mem_append_left _ (List.mem_append_right _ h))) (by decide +kernel))
set_option maxRecDepth 20000 in
theorem gX1_shows_X1_needLamp : GoodIn wsX1_shows (wsV RX1 35 RX1 yX1_needLamp wsX1_needLamp) := goodIn_app (goodIn_of _ (by decide +kernel)) ggX1_shows_X1_needLamp
set_option maxRecDepth 20000 in
theorem ggX1_shows_X1_needMoments : GoodIn wsX1_shows wsX1_needMoments := goodIn_ca (goodIn_r _ [13, 14, 15] (by decide +kernel) (by decide +kernel)) (goodIn_sub (fun _ h => List.mem_cons_of_mem _ (List.mem_append_right _ h)) (by decide +kernel))
set_option maxRecDepth 20000 in
theorem gX1_shows_X1_needMoments : GoodIn wsX1_shows (va_wsS RX1 70 yX1_needMoments wsX1_needMoments) := goodIn_app (goodIn_of _ (by decide +kernel)) ggX1_shows_X1_needMoments
set_option maxRecDepth 20000 in
theorem ggX1_shows_X0_onAt : GoodIn wsX1_shows wsX0_onAt := goodIn_r _ [20, 21, 22, 23, 24, 25, 26, 19, 27, 28, 29, 30, 36, 37, 38, 39, 40] (by decide +kernel) (by decide +kernel)
set_option maxRecDepth 20000 in
theorem gX1_shows_X0_onAt : GoodIn wsX1_shows (wsV RX1 83 RX0 yX0_onAt wsX0_onAt) := goodIn_app (goodIn_of _ (by decide +kernel)) ggX1_shows_X0_onAt
theorem dX1_shows_0 : decode cX1_shows 0 = .ok (.aload_n 0, 1) := by decide +kernel
theorem dX1_shows_1 : decode cX1_shows 1 = .ok (.iload_n 1, 1) := by decide +kernel
theorem dX1_shows_2 : decode cX1_shows 2 = .ok (.invokevirtual 35, 3) := by decide +kernel
theorem dX1_shows_5 : decode cX1_shows 5 = .ok (.iload_n 2, 1) := by decide +kernel
theorem dX1_shows_6 : decode cX1_shows 6 = .ok (.bipush 30, 2) := by decide +kernel
theorem dX1_shows_8 : decode cX1_shows 8 = .ok (.invokestatic 70, 3) := by decide +kernel
theorem dX1_shows_11 : decode cX1_shows 11 = .ok (.iconst 0, 1) := by decide +kernel
theorem dX1_shows_12 : decode cX1_shows 12 = .ok (.istore_n 3, 1) := by decide +kernel
theorem dX1_shows_13 : decode cX1_shows 13 = .ok (.iconst 0, 1) := by decide +kernel
theorem dX1_shows_14 : decode cX1_shows 14 = .ok (.istore 4, 2) := by decide +kernel
theorem dX1_shows_16 : decode cX1_shows 16 = .ok (.iload 4, 2) := by decide +kernel
theorem dX1_shows_18 : decode cX1_shows 18 = .ok (.iload_n 2, 1) := by decide +kernel
theorem dX1_shows_19 : decode cX1_shows 19 = .ok (.if_icmp .ge 38, 3) := by decide +kernel
theorem dX1_shows_22 : decode cX1_shows 22 = .ok (.iconst 2, 1) := by decide +kernel
theorem dX1_shows_23 : decode cX1_shows 23 = .ok (.iload_n 3, 1) := by decide +kernel
theorem dX1_shows_24 : decode cX1_shows 24 = .ok (.imul, 1) := by decide +kernel
theorem dX1_shows_25 : decode cX1_shows 25 = .ok (.aload_n 0, 1) := by decide +kernel
theorem dX1_shows_26 : decode cX1_shows 26 = .ok (.getfield 11, 3) := by decide +kernel
theorem dX1_shows_29 : decode cX1_shows 29 = .ok (.iload_n 1, 1) := by decide +kernel
theorem dX1_shows_30 : decode cX1_shows 30 = .ok (.aaload, 1) := by decide +kernel
theorem dX1_shows_31 : decode cX1_shows 31 = .ok (.aload_n 0, 1) := by decide +kernel
theorem dX1_shows_32 : decode cX1_shows 32 = .ok (.getfield 73, 3) := by decide +kernel
theorem dX1_shows_35 : decode cX1_shows 35 = .ok (.iload 4, 2) := by decide +kernel
theorem dX1_shows_37 : decode cX1_shows 37 = .ok (.iadd, 1) := by decide +kernel
theorem dX1_shows_38 : decode cX1_shows 38 = .ok (.invokevirtual 83, 3) := by decide +kernel
theorem dX1_shows_41 : decode cX1_shows 41 = .ok (.ifCond .eq 7, 3) := by decide +kernel
theorem dX1_shows_44 : decode cX1_shows 44 = .ok (.iconst 1, 1) := by decide +kernel
theorem dX1_shows_45 : decode cX1_shows 45 = .ok (.goto 4, 3) := by decide +kernel
theorem dX1_shows_48 : decode cX1_shows 48 = .ok (.iconst 0, 1) := by decide +kernel
theorem dX1_shows_49 : decode cX1_shows 49 = .ok (.iadd, 1) := by decide +kernel
theorem dX1_shows_50 : decode cX1_shows 50 = .ok (.istore_n 3, 1) := by decide +kernel
theorem dX1_shows_51 : decode cX1_shows 51 = .ok (.iinc 4 1, 3) := by decide +kernel
theorem dX1_shows_54 : decode cX1_shows 54 = .ok (.goto (-38), 3) := by decide +kernel
theorem dX1_shows_57 : decode cX1_shows 57 = .ok (.iload_n 3, 1) := by decide +kernel
theorem dX1_shows_58 : decode cX1_shows 58 = .ok (.ireturn, 1) := by decide +kernel
set_option maxRecDepth 20000 in
theorem ggX1_momentsUntilCollision_X1_needPair : GoodIn wsX1_momentsUntilCollision wsX1_needPair := goodIn_ca (goodIn_ca (goodIn_r _ [6, 7, 8, 9, 10, 11, 5, 12, 13, 14, 15, 36, 37, 38, 39, 40] (by decide +kernel) (by decide +kernel)) (goodIn_sub (fun _ h => List.mem_cons_of_mem _ (List.mem_append_left _ (List.mem_append_right _ h))) (by decide +kernel))) (goodIn_sub (fun _ h => List.mem_cons_of_mem _ (List.mem_append_right _ h)) (by decide +kernel))
set_option maxRecDepth 20000 in
theorem gX1_momentsUntilCollision_X1_needPair : GoodIn wsX1_momentsUntilCollision (wsV RX1 114 RX1 yX1_needPair wsX1_needPair) := goodIn_app (goodIn_of _ (by decide +kernel)) ggX1_momentsUntilCollision_X1_needPair
set_option maxRecDepth 20000 in
theorem ggX1_momentsUntilCollision_X1_collideAt : GoodIn wsX1_momentsUntilCollision wsX1_collideAt := goodIn_r _ [19, 20, 21, 22, 23, 24, 25, 26, 27, 28, 29, 30, 31, 32, 33, 34, 35, 36, 37, 38, 39, 40, 41, 42, 43, 44, 45] (by decide +kernel) (by decide +kernel)
set_option maxRecDepth 20000 in
theorem gX1_momentsUntilCollision_X1_collideAt : GoodIn wsX1_momentsUntilCollision (wsV RX1 117 RX1 yX1_collideAt wsX1_collideAt) := goodIn_app (goodIn_of _ (by decide +kernel)) ggX1_momentsUntilCollision_X1_collideAt
theorem dX1_momentsUntilCollision_0 : decode cX1_momentsUntilCollision 0 = .ok (.aload_n 0, 1) := by decide +kernel
theorem dX1_momentsUntilCollision_1 : decode cX1_momentsUntilCollision 1 = .ok (.iload_n 1, 1) := by decide +kernel
theorem dX1_momentsUntilCollision_2 : decode cX1_momentsUntilCollision 2 = .ok (.iload_n 2, 1) := by decide +kernel
theorem dX1_momentsUntilCollision_3 : decode cX1_momentsUntilCollision 3 = .ok (.invokevirtual 114, 3) := by decide +kernel
theorem dX1_momentsUntilCollision_6 : decode cX1_momentsUntilCollision 6 = .ok (.iconst 1, 1) := by decide +kernel
theorem dX1_momentsUntilCollision_7 : decode cX1_momentsUntilCollision 7 = .ok (.istore_n 3, 1) := by decide +kernel
theorem dX1_momentsUntilCollision_8 : decode cX1_momentsUntilCollision 8 = .ok (.iload_n 3, 1) := by decide +kernel
theorem dX1_momentsUntilCollision_9 : decode cX1_momentsUntilCollision 9 = .ok (.sipush 1000, 3) := by decide +kernel
theorem dX1_momentsUntilCollision_12 : decode cX1_momentsUntilCollision 12 = .ok (.if_icmp .gt 26, 3) := by decide +kernel
theorem dX1_momentsUntilCollision_15 : decode cX1_momentsUntilCollision 15 = .ok (.aload_n 0, 1) := by decide +kernel
theorem dX1_momentsUntilCollision_16 : decode cX1_momentsUntilCollision 16 = .ok (.iload_n 1, 1) := by decide +kernel
theorem dX1_momentsUntilCollision_17 : decode cX1_momentsUntilCollision 17 = .ok (.iload_n 2, 1) := by decide +kernel
theorem dX1_momentsUntilCollision_18 : decode cX1_momentsUntilCollision 18 = .ok (.aload_n 0, 1) := by decide +kernel
theorem dX1_momentsUntilCollision_19 : decode cX1_momentsUntilCollision 19 = .ok (.getfield 73, 3) := by decide +kernel
theorem dX1_momentsUntilCollision_22 : decode cX1_momentsUntilCollision 22 = .ok (.iload_n 3, 1) := by decide +kernel
theorem dX1_momentsUntilCollision_23 : decode cX1_momentsUntilCollision 23 = .ok (.iadd, 1) := by decide +kernel
theorem dX1_momentsUntilCollision_24 : decode cX1_momentsUntilCollision 24 = .ok (.invokevirtual 117, 3) := by decide +kernel
theorem dX1_momentsUntilCollision_27 : decode cX1_momentsUntilCollision 27 = .ok (.ifCond .eq 5, 3) := by decide +kernel
theorem dX1_momentsUntilCollision_30 : decode cX1_momentsUntilCollision 30 = .ok (.iload_n 3, 1) := by decide +kernel
theorem dX1_momentsUntilCollision_31 : decode cX1_momentsUntilCollision 31 = .ok (.ireturn, 1) := by decide +kernel
theorem dX1_momentsUntilCollision_32 : decode cX1_momentsUntilCollision 32 = .ok (.iinc 3 1, 3) := by decide +kernel
theorem dX1_momentsUntilCollision_35 : decode cX1_momentsUntilCollision 35 = .ok (.goto (-27), 3) := by decide +kernel
theorem dX1_momentsUntilCollision_38 : decode cX1_momentsUntilCollision 38 = .ok (.iconst (-1), 1) := by decide +kernel
theorem dX1_momentsUntilCollision_39 : decode cX1_momentsUntilCollision 39 = .ok (.ireturn, 1) := by decide +kernel
set_option maxRecDepth 20000 in
theorem ggX1_collisionsWithin_X1_needPair : GoodIn wsX1_collisionsWithin wsX1_needPair := goodIn_ca (goodIn_ca (goodIn_r _ [6, 7, 8, 9, 10, 11, 5, 12, 13, 14, 15, 39, 40, 41, 42, 43] (by decide +kernel) (by decide +kernel)) (goodIn_sub (fun _ h => List.mem_cons_of_mem _ (List.mem_append_left _ (List.mem_append_right _ h))) (by decide +kernel))) (goodIn_sub (fun _ h => List.mem_cons_of_mem _ (List.mem_append_right _ h)) (by decide +kernel))
set_option maxRecDepth 20000 in
theorem gX1_collisionsWithin_X1_needPair : GoodIn wsX1_collisionsWithin (wsV RX1 114 RX1 yX1_needPair wsX1_needPair) := goodIn_app (goodIn_of _ (by decide +kernel)) ggX1_collisionsWithin_X1_needPair
set_option maxRecDepth 20000 in
theorem ggX1_collisionsWithin_X1_needMoments : GoodIn wsX1_collisionsWithin wsX1_needMoments := goodIn_ca (goodIn_r _ [18, 7, 8] (by decide +kernel) (by decide +kernel)) (goodIn_sub (fun _ h => List.mem_cons_of_mem _ (List.mem_append_left _ (List.mem_append_right _ h))) (by decide +kernel))
set_option maxRecDepth 20000 in
theorem gX1_collisionsWithin_X1_needMoments : GoodIn wsX1_collisionsWithin (va_wsS RX1 70 yX1_needMoments wsX1_needMoments) := goodIn_app (goodIn_of _ (by decide +kernel)) ggX1_collisionsWithin_X1_needMoments
set_option maxRecDepth 20000 in
theorem ggX1_collisionsWithin_X1_collideAt : GoodIn wsX1_collisionsWithin wsX1_collideAt := goodIn_r _ [22, 23, 24, 25, 26, 27, 28, 29, 30, 31, 32, 33, 34, 35, 36, 37, 38, 39, 40, 41, 42, 43, 44, 45, 46, 47, 48] (by decide +kernel) (by decide +kernel)
set_option maxRecDepth 20000 in
theorem gX1_collisionsWithin_X1_collideAt : GoodIn wsX1_collisionsWithin (wsV RX1 117 RX1 yX1_collideAt wsX1_collideAt) := goodIn_app (goodIn_of _ (by decide +kernel)) ggX1_collisionsWithin_X1_collideAt
theorem dX1_collisionsWithin_0 : decode cX1_collisionsWithin 0 = .ok (.aload_n 0, 1) := by decide +kernel
theorem dX1_collisionsWithin_1 : decode cX1_collisionsWithin 1 = .ok (.iload_n 1, 1) := by decide +kernel
theorem dX1_collisionsWithin_2 : decode cX1_collisionsWithin 2 = .ok (.iload_n 2, 1) := by decide +kernel
theorem dX1_collisionsWithin_3 : decode cX1_collisionsWithin 3 = .ok (.invokevirtual 114, 3) := by decide +kernel
theorem dX1_collisionsWithin_6 : decode cX1_collisionsWithin 6 = .ok (.iload_n 3, 1) := by decide +kernel
theorem dX1_collisionsWithin_7 : decode cX1_collisionsWithin 7 = .ok (.sipush 500, 3) := by decide +kernel
theorem dX1_collisionsWithin_10 : decode cX1_collisionsWithin 10 = .ok (.invokestatic 70, 3) := by decide +kernel
theorem dX1_collisionsWithin_13 : decode cX1_collisionsWithin 13 = .ok (.iconst 0, 1) := by decide +kernel
theorem dX1_collisionsWithin_14 : decode cX1_collisionsWithin 14 = .ok (.istore 4, 2) := by decide +kernel
theorem dX1_collisionsWithin_16 : decode cX1_collisionsWithin 16 = .ok (.iconst 1, 1) := by decide +kernel
theorem dX1_collisionsWithin_17 : decode cX1_collisionsWithin 17 = .ok (.istore 5, 2) := by decide +kernel
theorem dX1_collisionsWithin_19 : decode cX1_collisionsWithin 19 = .ok (.iload 5, 2) := by decide +kernel
theorem dX1_collisionsWithin_21 : decode cX1_collisionsWithin 21 = .ok (.iload_n 3, 1) := by decide +kernel
theorem dX1_collisionsWithin_22 : decode cX1_collisionsWithin 22 = .ok (.if_icmp .gt 28, 3) := by decide +kernel
theorem dX1_collisionsWithin_25 : decode cX1_collisionsWithin 25 = .ok (.aload_n 0, 1) := by decide +kernel
theorem dX1_collisionsWithin_26 : decode cX1_collisionsWithin 26 = .ok (.iload_n 1, 1) := by decide +kernel
theorem dX1_collisionsWithin_27 : decode cX1_collisionsWithin 27 = .ok (.iload_n 2, 1) := by decide +kernel
theorem dX1_collisionsWithin_28 : decode cX1_collisionsWithin 28 = .ok (.aload_n 0, 1) := by decide +kernel
theorem dX1_collisionsWithin_29 : decode cX1_collisionsWithin 29 = .ok (.getfield 73, 3) := by decide +kernel
theorem dX1_collisionsWithin_32 : decode cX1_collisionsWithin 32 = .ok (.iload 5, 2) := by decide +kernel
theorem dX1_collisionsWithin_34 : decode cX1_collisionsWithin 34 = .ok (.iadd, 1) := by decide +kernel
theorem dX1_collisionsWithin_35 : decode cX1_collisionsWithin 35 = .ok (.invokevirtual 117, 3) := by decide +kernel
theorem dX1_collisionsWithin_38 : decode cX1_collisionsWithin 38 = .ok (.ifCond .eq 6, 3) := by decide +kernel
theorem dX1_collisionsWithin_41 : decode cX1_collisionsWithin 41 = .ok (.iinc 4 1, 3) := by decide +kernel
theorem dX1_collisionsWithin_44 : decode cX1_collisionsWithin 44 = .ok (.iinc 5 1, 3) := by decide +kernel
theorem dX1_collisionsWithin_47 : decode cX1_collisionsWithin 47 = .ok (.goto (-28), 3) := by decide +kernel
theorem dX1_collisionsWithin_50 : decode cX1_collisionsWithin 50 = .ok (.iload 4, 2) := by decide +kernel
theorem dX1_collisionsWithin_52 : decode cX1_collisionsWithin 52 = .ok (.ireturn, 1) := by decide +kernel
set_option maxRecDepth 20000 in
theorem ggX1_momentsUntilToldApart_X1_needPair : GoodIn wsX1_momentsUntilToldApart wsX1_needPair := goodIn_ca (goodIn_ca (goodIn_r _ [8, 9, 10, 11, 12, 13, 7, 14, 15, 16, 17, 65, 66, 67, 68, 69] (by decide +kernel) (by decide +kernel)) (goodIn_sub (fun _ h => List.mem_cons_of_mem _ (List.mem_append_left _ (List.mem_append_right _ h))) (by decide +kernel))) (goodIn_sub (fun _ h => List.mem_cons_of_mem _ (List.mem_append_right _ h)) (by decide +kernel))
set_option maxRecDepth 20000 in
theorem gX1_momentsUntilToldApart_X1_needPair : GoodIn wsX1_momentsUntilToldApart (wsV RX1 114 RX1 yX1_needPair wsX1_needPair) := goodIn_app (goodIn_of _ (by decide +kernel)) ggX1_momentsUntilToldApart_X1_needPair
set_option maxRecDepth 20000 in
theorem ggX1_momentsUntilToldApart_X0_becomeDifference : GoodIn wsX1_momentsUntilToldApart wsX0_becomeDifference := goodIn_r _ [22, 23, 24, 25, 26, 27, 21, 28, 29, 30, 31, 32, 33, 34, 70, 71, 72, 73, 74] (by decide +kernel) (by decide +kernel)
set_option maxRecDepth 20000 in
theorem gX1_momentsUntilToldApart_X0_becomeDifference : GoodIn wsX1_momentsUntilToldApart (wsV RX1 121 RX0 yX0_becomeDifference wsX0_becomeDifference) := goodIn_app (goodIn_of _ (by decide +kernel)) ggX1_momentsUntilToldApart_X0_becomeDifference
set_option maxRecDepth 20000 in
theorem ggX1_momentsUntilToldApart_X0_onAt : GoodIn wsX1_momentsUntilToldApart wsX0_onAt := goodIn_r _ [38, 24, 29, 30, 23, 39, 40, 21, 41, 42, 43, 44, 70, 71, 72, 73, 74] (by decide +kernel) (by decide +kernel)
set_option maxRecDepth 20000 in
theorem gX1_momentsUntilToldApart_X0_onAt : GoodIn wsX1_momentsUntilToldApart (wsV RX1 83 RX0 yX0_onAt wsX0_onAt) := goodIn_app (goodIn_of _ (by decide +kernel)) ggX1_momentsUntilToldApart_X0_onAt
set_option maxRecDepth 20000 in
theorem ggX1_momentsUntilToldApart_X0_untilChange : GoodIn wsX1_momentsUntilToldApart wsX0_untilChange := goodIn_r _ [48, 49, 50, 51, 21, 52, 53, 54, 55, 56, 24, 29, 30, 57, 58, 59, 60, 61, 62, 63, 64, 42, 43, 44, 70, 71, 72, 73, 74] (by decide +kernel) (by decide +kernel)
set_option maxRecDepth 20000 in
theorem gX1_momentsUntilToldApart_X0_untilChange : GoodIn wsX1_momentsUntilToldApart (wsV RX1 111 RX0 yX0_untilChange wsX0_untilChange) := goodIn_app (goodIn_of _ (by decide +kernel)) ggX1_momentsUntilToldApart_X0_untilChange
theorem dX1_momentsUntilToldApart_0 : decode cX1_momentsUntilToldApart 0 = .ok (.aload_n 0, 1) := by decide +kernel
theorem dX1_momentsUntilToldApart_1 : decode cX1_momentsUntilToldApart 1 = .ok (.iload_n 1, 1) := by decide +kernel
theorem dX1_momentsUntilToldApart_2 : decode cX1_momentsUntilToldApart 2 = .ok (.iload_n 2, 1) := by decide +kernel
theorem dX1_momentsUntilToldApart_3 : decode cX1_momentsUntilToldApart 3 = .ok (.invokevirtual 114, 3) := by decide +kernel
theorem dX1_momentsUntilToldApart_6 : decode cX1_momentsUntilToldApart 6 = .ok (.aload_n 0, 1) := by decide +kernel
theorem dX1_momentsUntilToldApart_7 : decode cX1_momentsUntilToldApart 7 = .ok (.getfield 16, 3) := by decide +kernel
theorem dX1_momentsUntilToldApart_10 : decode cX1_momentsUntilToldApart 10 = .ok (.aload_n 0, 1) := by decide +kernel
theorem dX1_momentsUntilToldApart_11 : decode cX1_momentsUntilToldApart 11 = .ok (.getfield 11, 3) := by decide +kernel
theorem dX1_momentsUntilToldApart_14 : decode cX1_momentsUntilToldApart 14 = .ok (.iload_n 1, 1) := by decide +kernel
theorem dX1_momentsUntilToldApart_15 : decode cX1_momentsUntilToldApart 15 = .ok (.aaload, 1) := by decide +kernel
theorem dX1_momentsUntilToldApart_16 : decode cX1_momentsUntilToldApart 16 = .ok (.aload_n 0, 1) := by decide +kernel
theorem dX1_momentsUntilToldApart_17 : decode cX1_momentsUntilToldApart 17 = .ok (.getfield 11, 3) := by decide +kernel
theorem dX1_momentsUntilToldApart_20 : decode cX1_momentsUntilToldApart 20 = .ok (.iload_n 2, 1) := by decide +kernel
theorem dX1_momentsUntilToldApart_21 : decode cX1_momentsUntilToldApart 21 = .ok (.aaload, 1) := by decide +kernel
theorem dX1_momentsUntilToldApart_22 : decode cX1_momentsUntilToldApart 22 = .ok (.invokevirtual 121, 3) := by decide +kernel
theorem dX1_momentsUntilToldApart_25 : decode cX1_momentsUntilToldApart 25 = .ok (.aload_n 0, 1) := by decide +kernel
theorem dX1_momentsUntilToldApart_26 : decode cX1_momentsUntilToldApart 26 = .ok (.getfield 16, 3) := by decide +kernel
theorem dX1_momentsUntilToldApart_29 : decode cX1_momentsUntilToldApart 29 = .ok (.aload_n 0, 1) := by decide +kernel
theorem dX1_momentsUntilToldApart_30 : decode cX1_momentsUntilToldApart 30 = .ok (.getfield 73, 3) := by decide +kernel
theorem dX1_momentsUntilToldApart_33 : decode cX1_momentsUntilToldApart 33 = .ok (.invokevirtual 83, 3) := by decide +kernel
theorem dX1_momentsUntilToldApart_36 : decode cX1_momentsUntilToldApart 36 = .ok (.ifCond .eq 5, 3) := by decide +kernel
theorem dX1_momentsUntilToldApart_39 : decode cX1_momentsUntilToldApart 39 = .ok (.iconst 0, 1) := by decide +kernel
theorem dX1_momentsUntilToldApart_40 : decode cX1_momentsUntilToldApart 40 = .ok (.ireturn, 1) := by decide +kernel
theorem dX1_momentsUntilToldApart_41 : decode cX1_momentsUntilToldApart 41 = .ok (.aload_n 0, 1) := by decide +kernel
theorem dX1_momentsUntilToldApart_42 : decode cX1_momentsUntilToldApart 42 = .ok (.getfield 16, 3) := by decide +kernel
theorem dX1_momentsUntilToldApart_45 : decode cX1_momentsUntilToldApart 45 = .ok (.aload_n 0, 1) := by decide +kernel
theorem dX1_momentsUntilToldApart_46 : decode cX1_momentsUntilToldApart 46 = .ok (.getfield 73, 3) := by decide +kernel
theorem dX1_momentsUntilToldApart_49 : decode cX1_momentsUntilToldApart 49 = .ok (.invokevirtual 111, 3) := by decide +kernel
theorem dX1_momentsUntilToldApart_52 : decode cX1_momentsUntilToldApart 52 = .ok (.ireturn, 1) := by decide +kernel
set_option maxRecDepth 20000 in
theorem ggX1_momentsUntilDark_X1_darkAt : GoodIn wsX1_momentsUntilDark wsX1_darkAt := goodIn_r _ [6, 7, 8, 9, 10, 11, 12, 13, 14, 15, 16, 17, 18, 19, 20, 21, 22, 23, 24, 25, 26, 27, 28, 29, 30, 31, 32, 33, 34, 35, 36, 37, 38] (by decide +kernel) (by decide +kernel)
set_option maxRecDepth 20000 in
theorem gX1_momentsUntilDark_X1_darkAt : GoodIn wsX1_momentsUntilDark (wsV RX1 93 RX1 yX1_darkAt wsX1_darkAt) := goodIn_app (goodIn_of _ (by decide +kernel)) ggX1_momentsUntilDark_X1_darkAt
theorem dX1_momentsUntilDark_0 : decode cX1_momentsUntilDark 0 = .ok (.iconst 0, 1) := by decide +kernel
theorem dX1_momentsUntilDark_1 : decode cX1_momentsUntilDark 1 = .ok (.istore_n 1, 1) := by decide +kernel
theorem dX1_momentsUntilDark_2 : decode cX1_momentsUntilDark 2 = .ok (.iload_n 1, 1) := by decide +kernel
theorem dX1_momentsUntilDark_3 : decode cX1_momentsUntilDark 3 = .ok (.sipush 2000, 3) := by decide +kernel
theorem dX1_momentsUntilDark_6 : decode cX1_momentsUntilDark 6 = .ok (.if_icmp .gt 25, 3) := by decide +kernel
theorem dX1_momentsUntilDark_9 : decode cX1_momentsUntilDark 9 = .ok (.aload_n 0, 1) := by decide +kernel
theorem dX1_momentsUntilDark_10 : decode cX1_momentsUntilDark 10 = .ok (.aload_n 0, 1) := by decide +kernel
theorem dX1_momentsUntilDark_11 : decode cX1_momentsUntilDark 11 = .ok (.getfield 73, 3) := by decide +kernel
theorem dX1_momentsUntilDark_14 : decode cX1_momentsUntilDark 14 = .ok (.iload_n 1, 1) := by decide +kernel
theorem dX1_momentsUntilDark_15 : decode cX1_momentsUntilDark 15 = .ok (.iadd, 1) := by decide +kernel
theorem dX1_momentsUntilDark_16 : decode cX1_momentsUntilDark 16 = .ok (.iconst (-1), 1) := by decide +kernel
theorem dX1_momentsUntilDark_17 : decode cX1_momentsUntilDark 17 = .ok (.invokevirtual 93, 3) := by decide +kernel
theorem dX1_momentsUntilDark_20 : decode cX1_momentsUntilDark 20 = .ok (.ifCond .eq 5, 3) := by decide +kernel
theorem dX1_momentsUntilDark_23 : decode cX1_momentsUntilDark 23 = .ok (.iload_n 1, 1) := by decide +kernel
theorem dX1_momentsUntilDark_24 : decode cX1_momentsUntilDark 24 = .ok (.ireturn, 1) := by decide +kernel
theorem dX1_momentsUntilDark_25 : decode cX1_momentsUntilDark 25 = .ok (.iinc 1 1, 3) := by decide +kernel
theorem dX1_momentsUntilDark_28 : decode cX1_momentsUntilDark 28 = .ok (.goto (-26), 3) := by decide +kernel
theorem dX1_momentsUntilDark_31 : decode cX1_momentsUntilDark 31 = .ok (.iconst (-1), 1) := by decide +kernel
theorem dX1_momentsUntilDark_32 : decode cX1_momentsUntilDark 32 = .ok (.ireturn, 1) := by decide +kernel
set_option maxRecDepth 20000 in
theorem ggX1_darkWithin_X1_needMoments : GoodIn wsX1_darkWithin wsX1_needMoments := goodIn_ca (goodIn_r _ [4, 5, 6] (by decide +kernel) (by decide +kernel)) (goodIn_sub (fun _ h => List.mem_cons_of_mem _ (List.mem_append_right _ h)) (by decide +kernel))
set_option maxRecDepth 20000 in
theorem gX1_darkWithin_X1_needMoments : GoodIn wsX1_darkWithin (va_wsS RX1 70 yX1_needMoments wsX1_needMoments) := goodIn_app (goodIn_of _ (by decide +kernel)) ggX1_darkWithin_X1_needMoments
set_option maxRecDepth 20000 in
theorem ggX1_darkWithin_X1_darkMoments : GoodIn wsX1_darkWithin wsX1_darkMoments := goodIn_r _ [10, 11, 12, 13, 14, 3, 15, 16, 17, 18, 19, 20, 21, 22, 23, 24, 25, 26, 27, 28, 29, 30, 31, 32, 33, 34, 35, 36, 37, 38, 39, 40, 41, 42, 43, 44, 45, 46, 47] (by decide +kernel) (by decide +kernel)
set_option maxRecDepth 20000 in
theorem gX1_darkWithin_X1_darkMoments : GoodIn wsX1_darkWithin (wsV RX1 125 RX1 yX1_darkMoments wsX1_darkMoments) := goodIn_app (goodIn_of _ (by decide +kernel)) ggX1_darkWithin_X1_darkMoments
theorem dX1_darkWithin_0 : decode cX1_darkWithin 0 = .ok (.iload_n 1, 1) := by decide +kernel
theorem dX1_darkWithin_1 : decode cX1_darkWithin 1 = .ok (.sipush 500, 3) := by decide +kernel
theorem dX1_darkWithin_4 : decode cX1_darkWithin 4 = .ok (.invokestatic 70, 3) := by decide +kernel
theorem dX1_darkWithin_7 : decode cX1_darkWithin 7 = .ok (.aload_n 0, 1) := by decide +kernel
theorem dX1_darkWithin_8 : decode cX1_darkWithin 8 = .ok (.iload_n 1, 1) := by decide +kernel
theorem dX1_darkWithin_9 : decode cX1_darkWithin 9 = .ok (.iconst (-1), 1) := by decide +kernel
theorem dX1_darkWithin_10 : decode cX1_darkWithin 10 = .ok (.invokevirtual 125, 3) := by decide +kernel
theorem dX1_darkWithin_13 : decode cX1_darkWithin 13 = .ok (.ireturn, 1) := by decide +kernel
set_option maxRecDepth 20000 in
theorem ggX1_bestCover_X1_needMoments : GoodIn wsX1_bestCover wsX1_needMoments := goodIn_ca (goodIn_r _ [6, 7, 8] (by decide +kernel) (by decide +kernel)) (goodIn_sub (fun _ h => List.mem_cons_of_mem _ (List.mem_append_right _ h)) (by decide +kernel))
set_option maxRecDepth 20000 in
theorem gX1_bestCover_X1_needMoments : GoodIn wsX1_bestCover (va_wsS RX1 70 yX1_needMoments wsX1_needMoments) := goodIn_app (goodIn_of _ (by decide +kernel)) ggX1_bestCover_X1_needMoments
set_option maxRecDepth 20000 in
theorem ggX1_bestCover_X1_darkMoments : GoodIn wsX1_bestCover wsX1_darkMoments := goodIn_r _ [12, 13, 14, 15, 16, 5, 17, 1, 2, 18, 19, 20, 21, 22, 23, 24, 25, 26, 27, 28, 29, 30, 31, 32, 33, 34, 35, 36, 37, 38, 39, 40, 41, 42, 43, 44, 45, 46, 47] (by decide +kernel) (by decide +kernel)
set_option maxRecDepth 20000 in
theorem gX1_bestCover_X1_darkMoments : GoodIn wsX1_bestCover (wsV RX1 125 RX1 yX1_darkMoments wsX1_darkMoments) := goodIn_app (goodIn_of _ (by decide +kernel)) ggX1_bestCover_X1_darkMoments
theorem dX1_bestCover_0 : decode cX1_bestCover 0 = .ok (.iload_n 1, 1) := by decide +kernel
theorem dX1_bestCover_1 : decode cX1_bestCover 1 = .ok (.sipush 200, 3) := by decide +kernel
theorem dX1_bestCover_4 : decode cX1_bestCover 4 = .ok (.invokestatic 70, 3) := by decide +kernel
theorem dX1_bestCover_7 : decode cX1_bestCover 7 = .ok (.iconst (-1), 1) := by decide +kernel
theorem dX1_bestCover_8 : decode cX1_bestCover 8 = .ok (.istore_n 2, 1) := by decide +kernel
theorem dX1_bestCover_9 : decode cX1_bestCover 9 = .ok (.iconst (-1), 1) := by decide +kernel
theorem dX1_bestCover_10 : decode cX1_bestCover 10 = .ok (.istore_n 3, 1) := by decide +kernel
theorem dX1_bestCover_11 : decode cX1_bestCover 11 = .ok (.iconst 0, 1) := by decide +kernel
theorem dX1_bestCover_12 : decode cX1_bestCover 12 = .ok (.istore 4, 2) := by decide +kernel
theorem dX1_bestCover_14 : decode cX1_bestCover 14 = .ok (.iload 4, 2) := by decide +kernel
theorem dX1_bestCover_16 : decode cX1_bestCover 16 = .ok (.aload_n 0, 1) := by decide +kernel
theorem dX1_bestCover_17 : decode cX1_bestCover 17 = .ok (.getfield 20, 3) := by decide +kernel
theorem dX1_bestCover_20 : decode cX1_bestCover 20 = .ok (.if_icmp .ge 43, 3) := by decide +kernel
theorem dX1_bestCover_23 : decode cX1_bestCover 23 = .ok (.aload_n 0, 1) := by decide +kernel
theorem dX1_bestCover_24 : decode cX1_bestCover 24 = .ok (.getfield 11, 3) := by decide +kernel
theorem dX1_bestCover_27 : decode cX1_bestCover 27 = .ok (.iload 4, 2) := by decide +kernel
theorem dX1_bestCover_29 : decode cX1_bestCover 29 = .ok (.aaload, 1) := by decide +kernel
theorem dX1_bestCover_30 : decode cX1_bestCover 30 = .ok (.getfield 67, 3) := by decide +kernel
theorem dX1_bestCover_33 : decode cX1_bestCover 33 = .ok (.ifCond .ne 24, 3) := by decide +kernel
theorem dX1_bestCover_36 : decode cX1_bestCover 36 = .ok (.aload_n 0, 1) := by decide +kernel
theorem dX1_bestCover_37 : decode cX1_bestCover 37 = .ok (.iload_n 1, 1) := by decide +kernel
theorem dX1_bestCover_38 : decode cX1_bestCover 38 = .ok (.iload 4, 2) := by decide +kernel
theorem dX1_bestCover_40 : decode cX1_bestCover 40 = .ok (.invokevirtual 125, 3) := by decide +kernel
theorem dX1_bestCover_43 : decode cX1_bestCover 43 = .ok (.istore 5, 2) := by decide +kernel
theorem dX1_bestCover_45 : decode cX1_bestCover 45 = .ok (.iload 5, 2) := by decide +kernel
theorem dX1_bestCover_47 : decode cX1_bestCover 47 = .ok (.iload_n 3, 1) := by decide +kernel
theorem dX1_bestCover_48 : decode cX1_bestCover 48 = .ok (.if_icmp .le 9, 3) := by decide +kernel
theorem dX1_bestCover_51 : decode cX1_bestCover 51 = .ok (.iload 5, 2) := by decide +kernel
theorem dX1_bestCover_53 : decode cX1_bestCover 53 = .ok (.istore_n 3, 1) := by decide +kernel
theorem dX1_bestCover_54 : decode cX1_bestCover 54 = .ok (.iload 4, 2) := by decide +kernel
theorem dX1_bestCover_56 : decode cX1_bestCover 56 = .ok (.istore_n 2, 1) := by decide +kernel
theorem dX1_bestCover_57 : decode cX1_bestCover 57 = .ok (.iinc 4 1, 3) := by decide +kernel
theorem dX1_bestCover_60 : decode cX1_bestCover 60 = .ok (.goto (-46), 3) := by decide +kernel
theorem dX1_bestCover_63 : decode cX1_bestCover 63 = .ok (.iload_n 2, 1) := by decide +kernel
theorem dX1_bestCover_64 : decode cX1_bestCover 64 = .ok (.ireturn, 1) := by decide +kernel
theorem dX1_meanBeats_0 : decode cX1_meanBeats 0 = .ok (.aload_n 0, 1) := by decide +kernel
theorem dX1_meanBeats_1 : decode cX1_meanBeats 1 = .ok (.getfield 20, 3) := by decide +kernel
theorem dX1_meanBeats_4 : decode cX1_meanBeats 4 = .ok (.ifCond .ne 5, 3) := by decide +kernel
theorem dX1_meanBeats_7 : decode cX1_meanBeats 7 = .ok (.dconst 0, 1) := by decide +kernel
theorem dX1_meanBeats_8 : decode cX1_meanBeats 8 = .ok (.dreturn, 1) := by decide +kernel
theorem dX1_meanBeats_9 : decode cX1_meanBeats 9 = .ok (.iconst 0, 1) := by decide +kernel
theorem dX1_meanBeats_10 : decode cX1_meanBeats 10 = .ok (.istore_n 1, 1) := by decide +kernel
theorem dX1_meanBeats_11 : decode cX1_meanBeats 11 = .ok (.iconst 0, 1) := by decide +kernel
theorem dX1_meanBeats_12 : decode cX1_meanBeats 12 = .ok (.istore_n 2, 1) := by decide +kernel
theorem dX1_meanBeats_13 : decode cX1_meanBeats 13 = .ok (.iload_n 2, 1) := by decide +kernel
theorem dX1_meanBeats_14 : decode cX1_meanBeats 14 = .ok (.aload_n 0, 1) := by decide +kernel
theorem dX1_meanBeats_15 : decode cX1_meanBeats 15 = .ok (.getfield 20, 3) := by decide +kernel
theorem dX1_meanBeats_18 : decode cX1_meanBeats 18 = .ok (.if_icmp .ge 21, 3) := by decide +kernel
theorem dX1_meanBeats_21 : decode cX1_meanBeats 21 = .ok (.iload_n 1, 1) := by decide +kernel
theorem dX1_meanBeats_22 : decode cX1_meanBeats 22 = .ok (.aload_n 0, 1) := by decide +kernel
theorem dX1_meanBeats_23 : decode cX1_meanBeats 23 = .ok (.getfield 11, 3) := by decide +kernel
theorem dX1_meanBeats_26 : decode cX1_meanBeats 26 = .ok (.iload_n 2, 1) := by decide +kernel
theorem dX1_meanBeats_27 : decode cX1_meanBeats 27 = .ok (.aaload, 1) := by decide +kernel
theorem dX1_meanBeats_28 : decode cX1_meanBeats 28 = .ok (.getfield 46, 3) := by decide +kernel
theorem dX1_meanBeats_31 : decode cX1_meanBeats 31 = .ok (.iadd, 1) := by decide +kernel
theorem dX1_meanBeats_32 : decode cX1_meanBeats 32 = .ok (.istore_n 1, 1) := by decide +kernel
theorem dX1_meanBeats_33 : decode cX1_meanBeats 33 = .ok (.iinc 2 1, 3) := by decide +kernel
theorem dX1_meanBeats_36 : decode cX1_meanBeats 36 = .ok (.goto (-23), 3) := by decide +kernel
theorem dX1_meanBeats_39 : decode cX1_meanBeats 39 = .ok (.iload_n 1, 1) := by decide +kernel
theorem dX1_meanBeats_40 : decode cX1_meanBeats 40 = .ok (.i2d, 1) := by decide +kernel
theorem dX1_meanBeats_41 : decode cX1_meanBeats 41 = .ok (.aload_n 0, 1) := by decide +kernel
theorem dX1_meanBeats_42 : decode cX1_meanBeats 42 = .ok (.getfield 20, 3) := by decide +kernel
theorem dX1_meanBeats_45 : decode cX1_meanBeats 45 = .ok (.i2d, 1) := by decide +kernel
theorem dX1_meanBeats_46 : decode cX1_meanBeats 46 = .ok (.ddiv, 1) := by decide +kernel
theorem dX1_meanBeats_47 : decode cX1_meanBeats 47 = .ok (.dreturn, 1) := by decide +kernel
set_option maxRecDepth 20000 in
theorem ggX1_digest_X1_mixed : GoodIn wsX1_digest wsX1_mixed := goodIn_r _ [9, 10] (by decide +kernel) (by decide +kernel)
set_option maxRecDepth 20000 in
theorem gX1_digest_X1_mixed : GoodIn wsX1_digest (va_wsS RX1 131 yX1_mixed wsX1_mixed) := goodIn_app (goodIn_of _ (by decide +kernel)) ggX1_digest_X1_mixed
set_option maxRecDepth 20000 in
theorem ggX1_digest_X1_litCount : GoodIn wsX1_digest wsX1_litCount := goodIn_r _ [14, 2, 5, 15, 16, 17, 18, 19, 20, 21, 22, 23, 24, 25, 26, 27, 28, 29, 30, 31, 32, 33, 34, 69, 70, 71, 72, 73, 74, 75, 76, 77, 78] (by decide +kernel) (by decide +kernel)
set_option maxRecDepth 20000 in
theorem gX1_digest_X1_litCount : GoodIn wsX1_digest (wsV RX1 90 RX1 yX1_litCount wsX1_litCount) := goodIn_app (goodIn_of _ (by decide +kernel)) ggX1_digest_X1_litCount
set_option maxRecDepth 20000 in
theorem ggX1_digest_X1_mixedWithLamp : GoodIn wsX1_digest wsX1_mixedWithLamp := goodIn_r _ [38, 3, 6, 7, 8, 9, 10, 39, 22, 23, 18, 24, 25, 26, 27, 28, 29, 30, 31, 32, 33, 34, 40, 41, 42, 43, 44, 45, 46, 47, 48, 49, 50, 51, 52, 53, 54, 55, 21, 56, 57, 58, 59, 60, 61, 62, 63, 64, 65, 66, 67, 68, 74, 75, 76, 77, 78, 69, 70, 71, 72, 73] (by decide +kernel) (by decide +kernel)
set_option maxRecDepth 20000 in
theorem gX1_digest_X1_mixedWithLamp : GoodIn wsX1_digest (wsV RX1 135 RX1 yX1_mixedWithLamp wsX1_mixedWithLamp) := goodIn_app (goodIn_of _ (by decide +kernel)) ggX1_digest_X1_mixedWithLamp
theorem dX1_digest_0 : decode cX1_digest 0 = .ok (.ldc2_w 129, 3) := by decide +kernel
theorem dX1_digest_3 : decode cX1_digest 3 = .ok (.lstore_n 1, 1) := by decide +kernel
theorem dX1_digest_4 : decode cX1_digest 4 = .ok (.lload_n 1, 1) := by decide +kernel
theorem dX1_digest_5 : decode cX1_digest 5 = .ok (.aload_n 0, 1) := by decide +kernel
theorem dX1_digest_6 : decode cX1_digest 6 = .ok (.getfield 20, 3) := by decide +kernel
theorem dX1_digest_9 : decode cX1_digest 9 = .ok (.i2l, 1) := by decide +kernel
theorem dX1_digest_10 : decode cX1_digest 10 = .ok (.invokestatic 131, 3) := by decide +kernel
theorem dX1_digest_13 : decode cX1_digest 13 = .ok (.lstore_n 1, 1) := by decide +kernel
theorem dX1_digest_14 : decode cX1_digest 14 = .ok (.lload_n 1, 1) := by decide +kernel
theorem dX1_digest_15 : decode cX1_digest 15 = .ok (.aload_n 0, 1) := by decide +kernel
theorem dX1_digest_16 : decode cX1_digest 16 = .ok (.getfield 73, 3) := by decide +kernel
theorem dX1_digest_19 : decode cX1_digest 19 = .ok (.i2l, 1) := by decide +kernel
theorem dX1_digest_20 : decode cX1_digest 20 = .ok (.invokestatic 131, 3) := by decide +kernel
theorem dX1_digest_23 : decode cX1_digest 23 = .ok (.lstore_n 1, 1) := by decide +kernel
theorem dX1_digest_24 : decode cX1_digest 24 = .ok (.lload_n 1, 1) := by decide +kernel
theorem dX1_digest_25 : decode cX1_digest 25 = .ok (.aload_n 0, 1) := by decide +kernel
theorem dX1_digest_26 : decode cX1_digest 26 = .ok (.getfield 80, 3) := by decide +kernel
theorem dX1_digest_29 : decode cX1_digest 29 = .ok (.i2l, 1) := by decide +kernel
theorem dX1_digest_30 : decode cX1_digest 30 = .ok (.invokestatic 131, 3) := by decide +kernel
theorem dX1_digest_33 : decode cX1_digest 33 = .ok (.lstore_n 1, 1) := by decide +kernel
theorem dX1_digest_34 : decode cX1_digest 34 = .ok (.lload_n 1, 1) := by decide +kernel
theorem dX1_digest_35 : decode cX1_digest 35 = .ok (.aload_n 0, 1) := by decide +kernel
theorem dX1_digest_36 : decode cX1_digest 36 = .ok (.aload_n 0, 1) := by decide +kernel
theorem dX1_digest_37 : decode cX1_digest 37 = .ok (.getfield 73, 3) := by decide +kernel
theorem dX1_digest_40 : decode cX1_digest 40 = .ok (.invokevirtual 90, 3) := by decide +kernel
theorem dX1_digest_43 : decode cX1_digest 43 = .ok (.i2l, 1) := by decide +kernel
theorem dX1_digest_44 : decode cX1_digest 44 = .ok (.invokestatic 131, 3) := by decide +kernel
theorem dX1_digest_47 : decode cX1_digest 47 = .ok (.lstore_n 1, 1) := by decide +kernel
theorem dX1_digest_48 : decode cX1_digest 48 = .ok (.iconst 0, 1) := by decide +kernel
theorem dX1_digest_49 : decode cX1_digest 49 = .ok (.istore_n 3, 1) := by decide +kernel
theorem dX1_digest_50 : decode cX1_digest 50 = .ok (.iload_n 3, 1) := by decide +kernel
theorem dX1_digest_51 : decode cX1_digest 51 = .ok (.aload_n 0, 1) := by decide +kernel
theorem dX1_digest_52 : decode cX1_digest 52 = .ok (.getfield 20, 3) := by decide +kernel
theorem dX1_digest_55 : decode cX1_digest 55 = .ok (.if_icmp .ge 21, 3) := by decide +kernel
theorem dX1_digest_58 : decode cX1_digest 58 = .ok (.aload_n 0, 1) := by decide +kernel
theorem dX1_digest_59 : decode cX1_digest 59 = .ok (.lload_n 1, 1) := by decide +kernel
theorem dX1_digest_60 : decode cX1_digest 60 = .ok (.aload_n 0, 1) := by decide +kernel
theorem dX1_digest_61 : decode cX1_digest 61 = .ok (.getfield 11, 3) := by decide +kernel
theorem dX1_digest_64 : decode cX1_digest 64 = .ok (.iload_n 3, 1) := by decide +kernel
theorem dX1_digest_65 : decode cX1_digest 65 = .ok (.aaload, 1) := by decide +kernel
theorem dX1_digest_66 : decode cX1_digest 66 = .ok (.invokevirtual 135, 3) := by decide +kernel
theorem dX1_digest_69 : decode cX1_digest 69 = .ok (.lstore_n 1, 1) := by decide +kernel
theorem dX1_digest_70 : decode cX1_digest 70 = .ok (.iinc 3 1, 3) := by decide +kernel
theorem dX1_digest_73 : decode cX1_digest 73 = .ok (.goto (-23), 3) := by decide +kernel
theorem dX1_digest_76 : decode cX1_digest 76 = .ok (.lload_n 1, 1) := by decide +kernel
theorem dX1_digest_77 : decode cX1_digest 77 = .ok (.lreturn, 1) := by decide +kernel
set_option maxRecDepth 20000 in
theorem ggX1_mixedWithLamp_X1_mixed : GoodIn wsX1_mixedWithLamp wsX1_mixed := goodIn_r _ [5, 6] (by decide +kernel) (by decide +kernel)
set_option maxRecDepth 20000 in
theorem gX1_mixedWithLamp_X1_mixed : GoodIn wsX1_mixedWithLamp (va_wsS RX1 131 yX1_mixed wsX1_mixed) := goodIn_app (goodIn_of _ (by decide +kernel)) ggX1_mixedWithLamp_X1_mixed
set_option maxRecDepth 20000 in
theorem ggX1_mixedWithLamp_X0_onAt : GoodIn wsX1_mixedWithLamp wsX0_onAt := goodIn_r _ [11, 12, 13, 14, 15, 16, 17, 10, 18, 19, 20, 21, 52, 53, 54, 55, 56] (by decide +kernel) (by decide +kernel)
set_option maxRecDepth 20000 in
theorem gX1_mixedWithLamp_X0_onAt : GoodIn wsX1_mixedWithLamp (wsV RX1 83 RX0 yX0_onAt wsX0_onAt) := goodIn_app (goodIn_of _ (by decide +kernel)) ggX1_mixedWithLamp_X0_onAt
set_option maxRecDepth 20000 in
theorem ggX1_mixedWithLamp_X0_neverChanges : GoodIn wsX1_mixedWithLamp wsX0_neverChanges := goodIn_r _ [25, 26, 27, 28, 10, 29, 15, 30, 31, 32, 33, 34, 35, 36, 37, 12, 13, 14, 38, 8, 9, 11, 16, 17, 18, 19, 20, 21, 52, 53, 54, 55, 56] (by decide +kernel) (by decide +kernel)
set_option maxRecDepth 20000 in
theorem gX1_mixedWithLamp_X0_neverChanges : GoodIn wsX1_mixedWithLamp (wsV RX1 103 RX0 yX0_neverChanges wsX0_neverChanges) := goodIn_app (goodIn_of _ (by decide +kernel)) ggX1_mixedWithLamp_X0_neverChanges
set_option maxRecDepth 20000 in
theorem ggX1_mixedWithLamp_X0_cycle : GoodIn wsX1_mixedWithLamp wsX0_cycle := goodIn_r _ [29, 15, 30, 31, 32, 10, 33, 34, 35, 36, 37, 12, 13, 14, 38, 8, 9, 11, 16, 17, 18, 19, 20, 21, 52, 53, 54, 55, 56] (by decide +kernel) (by decide +kernel)
set_option maxRecDepth 20000 in
theorem gX1_mixedWithLamp_X0_cycle : GoodIn wsX1_mixedWithLamp (wsV RX1 107 RX0 yX0_cycle wsX0_cycle) := goodIn_app (goodIn_of _ (by decide +kernel)) ggX1_mixedWithLamp_X0_cycle
set_option maxRecDepth 20000 in
theorem ggX1_mixedWithLamp_X0_untilChange : GoodIn wsX1_mixedWithLamp wsX0_untilChange := goodIn_r _ [43, 30, 31, 32, 10, 33, 34, 35, 36, 37, 12, 13, 14, 44, 45, 46, 47, 48, 49, 50, 51, 19, 20, 21, 52, 53, 54, 55, 56] (by decide +kernel) (by decide +kernel)
set_option maxRecDepth 20000 in
theorem gX1_mixedWithLamp_X0_untilChange : GoodIn wsX1_mixedWithLamp (wsV RX1 111 RX0 yX0_untilChange wsX0_untilChange) := goodIn_app (goodIn_of _ (by decide +kernel)) ggX1_mixedWithLamp_X0_untilChange
theorem dX1_mixedWithLamp_0 : decode cX1_mixedWithLamp 0 = .ok (.lload_n 1, 1) := by decide +kernel
theorem dX1_mixedWithLamp_1 : decode cX1_mixedWithLamp 1 = .ok (.lstore 4, 2) := by decide +kernel
theorem dX1_mixedWithLamp_3 : decode cX1_mixedWithLamp 3 = .ok (.lload 4, 2) := by decide +kernel
theorem dX1_mixedWithLamp_5 : decode cX1_mixedWithLamp 5 = .ok (.aload_n 3, 1) := by decide +kernel
theorem dX1_mixedWithLamp_6 : decode cX1_mixedWithLamp 6 = .ok (.getfield 46, 3) := by decide +kernel
theorem dX1_mixedWithLamp_9 : decode cX1_mixedWithLamp 9 = .ok (.i2l, 1) := by decide +kernel
theorem dX1_mixedWithLamp_10 : decode cX1_mixedWithLamp 10 = .ok (.invokestatic 131, 3) := by decide +kernel
theorem dX1_mixedWithLamp_13 : decode cX1_mixedWithLamp 13 = .ok (.lstore 4, 2) := by decide +kernel
theorem dX1_mixedWithLamp_15 : decode cX1_mixedWithLamp 15 = .ok (.lload 4, 2) := by decide +kernel
theorem dX1_mixedWithLamp_17 : decode cX1_mixedWithLamp 17 = .ok (.aload_n 3, 1) := by decide +kernel
theorem dX1_mixedWithLamp_18 : decode cX1_mixedWithLamp 18 = .ok (.getfield 67, 3) := by decide +kernel
theorem dX1_mixedWithLamp_21 : decode cX1_mixedWithLamp 21 = .ok (.ifCond .eq 7, 3) := by decide +kernel
theorem dX1_mixedWithLamp_24 : decode cX1_mixedWithLamp 24 = .ok (.lconst 1, 1) := by decide +kernel
theorem dX1_mixedWithLamp_25 : decode cX1_mixedWithLamp 25 = .ok (.goto 4, 3) := by decide +kernel
theorem dX1_mixedWithLamp_28 : decode cX1_mixedWithLamp 28 = .ok (.lconst 0, 1) := by decide +kernel
theorem dX1_mixedWithLamp_29 : decode cX1_mixedWithLamp 29 = .ok (.invokestatic 131, 3) := by decide +kernel
theorem dX1_mixedWithLamp_32 : decode cX1_mixedWithLamp 32 = .ok (.lstore 4, 2) := by decide +kernel
theorem dX1_mixedWithLamp_34 : decode cX1_mixedWithLamp 34 = .ok (.lload 4, 2) := by decide +kernel
theorem dX1_mixedWithLamp_36 : decode cX1_mixedWithLamp 36 = .ok (.aload_n 3, 1) := by decide +kernel
theorem dX1_mixedWithLamp_37 : decode cX1_mixedWithLamp 37 = .ok (.aload_n 0, 1) := by decide +kernel
theorem dX1_mixedWithLamp_38 : decode cX1_mixedWithLamp 38 = .ok (.getfield 73, 3) := by decide +kernel
theorem dX1_mixedWithLamp_41 : decode cX1_mixedWithLamp 41 = .ok (.invokevirtual 83, 3) := by decide +kernel
theorem dX1_mixedWithLamp_44 : decode cX1_mixedWithLamp 44 = .ok (.ifCond .eq 7, 3) := by decide +kernel
theorem dX1_mixedWithLamp_47 : decode cX1_mixedWithLamp 47 = .ok (.lconst 1, 1) := by decide +kernel
theorem dX1_mixedWithLamp_48 : decode cX1_mixedWithLamp 48 = .ok (.goto 4, 3) := by decide +kernel
theorem dX1_mixedWithLamp_51 : decode cX1_mixedWithLamp 51 = .ok (.lconst 0, 1) := by decide +kernel
theorem dX1_mixedWithLamp_52 : decode cX1_mixedWithLamp 52 = .ok (.invokestatic 131, 3) := by decide +kernel
theorem dX1_mixedWithLamp_55 : decode cX1_mixedWithLamp 55 = .ok (.lstore 4, 2) := by decide +kernel
theorem dX1_mixedWithLamp_57 : decode cX1_mixedWithLamp 57 = .ok (.lload 4, 2) := by decide +kernel
theorem dX1_mixedWithLamp_59 : decode cX1_mixedWithLamp 59 = .ok (.aload_n 3, 1) := by decide +kernel
theorem dX1_mixedWithLamp_60 : decode cX1_mixedWithLamp 60 = .ok (.invokevirtual 103, 3) := by decide +kernel
theorem dX1_mixedWithLamp_63 : decode cX1_mixedWithLamp 63 = .ok (.ifCond .eq 7, 3) := by decide +kernel
theorem dX1_mixedWithLamp_66 : decode cX1_mixedWithLamp 66 = .ok (.lconst 1, 1) := by decide +kernel
theorem dX1_mixedWithLamp_67 : decode cX1_mixedWithLamp 67 = .ok (.goto 4, 3) := by decide +kernel
theorem dX1_mixedWithLamp_70 : decode cX1_mixedWithLamp 70 = .ok (.lconst 0, 1) := by decide +kernel
theorem dX1_mixedWithLamp_71 : decode cX1_mixedWithLamp 71 = .ok (.invokestatic 131, 3) := by decide +kernel
theorem dX1_mixedWithLamp_74 : decode cX1_mixedWithLamp 74 = .ok (.lstore 4, 2) := by decide +kernel
theorem dX1_mixedWithLamp_76 : decode cX1_mixedWithLamp 76 = .ok (.lload 4, 2) := by decide +kernel
theorem dX1_mixedWithLamp_78 : decode cX1_mixedWithLamp 78 = .ok (.aload_n 3, 1) := by decide +kernel
theorem dX1_mixedWithLamp_79 : decode cX1_mixedWithLamp 79 = .ok (.invokevirtual 107, 3) := by decide +kernel
theorem dX1_mixedWithLamp_82 : decode cX1_mixedWithLamp 82 = .ok (.i2l, 1) := by decide +kernel
theorem dX1_mixedWithLamp_83 : decode cX1_mixedWithLamp 83 = .ok (.invokestatic 131, 3) := by decide +kernel
theorem dX1_mixedWithLamp_86 : decode cX1_mixedWithLamp 86 = .ok (.lstore 4, 2) := by decide +kernel
theorem dX1_mixedWithLamp_88 : decode cX1_mixedWithLamp 88 = .ok (.lload 4, 2) := by decide +kernel
theorem dX1_mixedWithLamp_90 : decode cX1_mixedWithLamp 90 = .ok (.aload_n 3, 1) := by decide +kernel
theorem dX1_mixedWithLamp_91 : decode cX1_mixedWithLamp 91 = .ok (.aload_n 0, 1) := by decide +kernel
theorem dX1_mixedWithLamp_92 : decode cX1_mixedWithLamp 92 = .ok (.getfield 73, 3) := by decide +kernel
theorem dX1_mixedWithLamp_95 : decode cX1_mixedWithLamp 95 = .ok (.invokevirtual 111, 3) := by decide +kernel
theorem dX1_mixedWithLamp_98 : decode cX1_mixedWithLamp 98 = .ok (.i2l, 1) := by decide +kernel
theorem dX1_mixedWithLamp_99 : decode cX1_mixedWithLamp 99 = .ok (.invokestatic 131, 3) := by decide +kernel
theorem dX1_mixedWithLamp_102 : decode cX1_mixedWithLamp 102 = .ok (.lstore 4, 2) := by decide +kernel
theorem dX1_mixedWithLamp_104 : decode cX1_mixedWithLamp 104 = .ok (.iconst 0, 1) := by decide +kernel
theorem dX1_mixedWithLamp_105 : decode cX1_mixedWithLamp 105 = .ok (.istore 6, 2) := by decide +kernel
theorem dX1_mixedWithLamp_107 : decode cX1_mixedWithLamp 107 = .ok (.iload 6, 2) := by decide +kernel
theorem dX1_mixedWithLamp_109 : decode cX1_mixedWithLamp 109 = .ok (.aload_n 3, 1) := by decide +kernel
theorem dX1_mixedWithLamp_110 : decode cX1_mixedWithLamp 110 = .ok (.getfield 46, 3) := by decide +kernel
theorem dX1_mixedWithLamp_113 : decode cX1_mixedWithLamp 113 = .ok (.if_icmp .ge 39, 3) := by decide +kernel
theorem dX1_mixedWithLamp_116 : decode cX1_mixedWithLamp 116 = .ok (.lload 4, 2) := by decide +kernel
theorem dX1_mixedWithLamp_118 : decode cX1_mixedWithLamp 118 = .ok (.aload_n 3, 1) := by decide +kernel
theorem dX1_mixedWithLamp_119 : decode cX1_mixedWithLamp 119 = .ok (.getfield 57, 3) := by decide +kernel
theorem dX1_mixedWithLamp_122 : decode cX1_mixedWithLamp 122 = .ok (.iload 6, 2) := by decide +kernel
theorem dX1_mixedWithLamp_124 : decode cX1_mixedWithLamp 124 = .ok (.iaload, 1) := by decide +kernel
theorem dX1_mixedWithLamp_125 : decode cX1_mixedWithLamp 125 = .ok (.i2l, 1) := by decide +kernel
theorem dX1_mixedWithLamp_126 : decode cX1_mixedWithLamp 126 = .ok (.invokestatic 131, 3) := by decide +kernel
theorem dX1_mixedWithLamp_129 : decode cX1_mixedWithLamp 129 = .ok (.lstore 4, 2) := by decide +kernel
theorem dX1_mixedWithLamp_131 : decode cX1_mixedWithLamp 131 = .ok (.lload 4, 2) := by decide +kernel
theorem dX1_mixedWithLamp_133 : decode cX1_mixedWithLamp 133 = .ok (.aload_n 3, 1) := by decide +kernel
theorem dX1_mixedWithLamp_134 : decode cX1_mixedWithLamp 134 = .ok (.getfield 61, 3) := by decide +kernel
theorem dX1_mixedWithLamp_137 : decode cX1_mixedWithLamp 137 = .ok (.iload 6, 2) := by decide +kernel
theorem dX1_mixedWithLamp_139 : decode cX1_mixedWithLamp 139 = .ok (.iaload, 1) := by decide +kernel
theorem dX1_mixedWithLamp_140 : decode cX1_mixedWithLamp 140 = .ok (.i2l, 1) := by decide +kernel
theorem dX1_mixedWithLamp_141 : decode cX1_mixedWithLamp 141 = .ok (.invokestatic 131, 3) := by decide +kernel
theorem dX1_mixedWithLamp_144 : decode cX1_mixedWithLamp 144 = .ok (.lstore 4, 2) := by decide +kernel
theorem dX1_mixedWithLamp_146 : decode cX1_mixedWithLamp 146 = .ok (.iinc 6 1, 3) := by decide +kernel
theorem dX1_mixedWithLamp_149 : decode cX1_mixedWithLamp 149 = .ok (.goto (-42), 3) := by decide +kernel
theorem dX1_mixedWithLamp_152 : decode cX1_mixedWithLamp 152 = .ok (.lload 4, 2) := by decide +kernel
theorem dX1_mixedWithLamp_154 : decode cX1_mixedWithLamp 154 = .ok (.lreturn, 1) := by decide +kernel
theorem dX1_mixed_0 : decode cX1_mixed 0 = .ok (.lload_n 0, 1) := by decide +kernel
theorem dX1_mixed_1 : decode cX1_mixed 1 = .ok (.ldc2_w 139, 3) := by decide +kernel
theorem dX1_mixed_4 : decode cX1_mixed 4 = .ok (.lmul, 1) := by decide +kernel
theorem dX1_mixed_5 : decode cX1_mixed 5 = .ok (.lload_n 2, 1) := by decide +kernel
theorem dX1_mixed_6 : decode cX1_mixed 6 = .ok (.ladd, 1) := by decide +kernel
theorem dX1_mixed_7 : decode cX1_mixed 7 = .ok (.lreturn, 1) := by decide +kernel
theorem dX1_needLamp_0 : decode cX1_needLamp 0 = .ok (.iload_n 1, 1) := by decide +kernel
theorem dX1_needLamp_1 : decode cX1_needLamp 1 = .ok (.ifCond .lt 11, 3) := by decide +kernel
theorem dX1_needLamp_4 : decode cX1_needLamp 4 = .ok (.iload_n 1, 1) := by decide +kernel
theorem dX1_needLamp_5 : decode cX1_needLamp 5 = .ok (.aload_n 0, 1) := by decide +kernel
theorem dX1_needLamp_6 : decode cX1_needLamp 6 = .ok (.getfield 20, 3) := by decide +kernel
theorem dX1_needLamp_9 : decode cX1_needLamp 9 = .ok (.if_icmp .lt 13, 3) := by decide +kernel
theorem dX1_needLamp_12 : decode cX1_needLamp 12 = .ok (.new 141, 3) := by decide +kernel
theorem dX1_needLamp_15 : decode cX1_needLamp 15 = .ok (.dup, 1) := by decide +kernel
theorem dX1_needLamp_16 : decode cX1_needLamp 16 = .ok (.ldc 143, 2) := by decide +kernel
theorem dX1_needLamp_18 : decode cX1_needLamp 18 = .ok (.invokespecial 145, 3) := by decide +kernel
theorem dX1_needLamp_21 : decode cX1_needLamp 21 = .ok (.athrow, 1) := by decide +kernel
theorem dX1_needLamp_22 : decode cX1_needLamp 22 = .ok (.return_, 1) := by decide +kernel
set_option maxRecDepth 20000 in
theorem ggX1_needBeat_X1_needLamp : GoodIn wsX1_needBeat wsX1_needLamp := goodIn_ca (goodIn_r _ [8, 1, 2, 9, 10, 11, 12, 13, 14] (by decide +kernel) (by decide +kernel)) (goodIn_sub (fun _ h => List.mem_cons_of_mem _ (List.mem_append_right _ h)) (by decide +kernel))
set_option maxRecDepth 20000 in
theorem gX1_needBeat_X1_needLamp : GoodIn wsX1_needBeat (wsV RX1 35 RX1 yX1_needLamp wsX1_needLamp) := goodIn_app (goodIn_of _ (by decide +kernel)) ggX1_needBeat_X1_needLamp
theorem dX1_needBeat_0 : decode cX1_needBeat 0 = .ok (.aload_n 0, 1) := by decide +kernel
theorem dX1_needBeat_1 : decode cX1_needBeat 1 = .ok (.iload_n 1, 1) := by decide +kernel
theorem dX1_needBeat_2 : decode cX1_needBeat 2 = .ok (.invokevirtual 35, 3) := by decide +kernel
theorem dX1_needBeat_5 : decode cX1_needBeat 5 = .ok (.iload_n 2, 1) := by decide +kernel
theorem dX1_needBeat_6 : decode cX1_needBeat 6 = .ok (.ifCond .lt 16, 3) := by decide +kernel
theorem dX1_needBeat_9 : decode cX1_needBeat 9 = .ok (.iload_n 2, 1) := by decide +kernel
theorem dX1_needBeat_10 : decode cX1_needBeat 10 = .ok (.aload_n 0, 1) := by decide +kernel
theorem dX1_needBeat_11 : decode cX1_needBeat 11 = .ok (.getfield 11, 3) := by decide +kernel
theorem dX1_needBeat_14 : decode cX1_needBeat 14 = .ok (.iload_n 1, 1) := by decide +kernel
theorem dX1_needBeat_15 : decode cX1_needBeat 15 = .ok (.aaload, 1) := by decide +kernel
theorem dX1_needBeat_16 : decode cX1_needBeat 16 = .ok (.getfield 46, 3) := by decide +kernel
theorem dX1_needBeat_19 : decode cX1_needBeat 19 = .ok (.if_icmp .lt 13, 3) := by decide +kernel
theorem dX1_needBeat_22 : decode cX1_needBeat 22 = .ok (.new 141, 3) := by decide +kernel
theorem dX1_needBeat_25 : decode cX1_needBeat 25 = .ok (.dup, 1) := by decide +kernel
theorem dX1_needBeat_26 : decode cX1_needBeat 26 = .ok (.ldc 146, 2) := by decide +kernel
theorem dX1_needBeat_28 : decode cX1_needBeat 28 = .ok (.invokespecial 145, 3) := by decide +kernel
theorem dX1_needBeat_31 : decode cX1_needBeat 31 = .ok (.athrow, 1) := by decide +kernel
theorem dX1_needBeat_32 : decode cX1_needBeat 32 = .ok (.return_, 1) := by decide +kernel
set_option maxRecDepth 20000 in
theorem ggX1_needPair_X1_needLamp : GoodIn wsX1_needPair wsX1_needLamp := goodIn_ca (goodIn_r _ [7, 8, 9, 10, 11, 12, 13, 14, 15] (by decide +kernel) (by decide +kernel)) (goodIn_sub (fun _ h => List.mem_cons_of_mem _ (List.mem_append_right _ h)) (by decide +kernel))
set_option maxRecDepth 20000 in
theorem gX1_needPair_X1_needLamp : GoodIn wsX1_needPair (wsV RX1 35 RX1 yX1_needLamp wsX1_needLamp) := goodIn_app (goodIn_of _ (by decide +kernel)) ggX1_needPair_X1_needLamp
theorem dX1_needPair_0 : decode cX1_needPair 0 = .ok (.aload_n 0, 1) := by decide +kernel
theorem dX1_needPair_1 : decode cX1_needPair 1 = .ok (.iload_n 1, 1) := by decide +kernel
theorem dX1_needPair_2 : decode cX1_needPair 2 = .ok (.invokevirtual 35, 3) := by decide +kernel
theorem dX1_needPair_5 : decode cX1_needPair 5 = .ok (.aload_n 0, 1) := by decide +kernel
theorem dX1_needPair_6 : decode cX1_needPair 6 = .ok (.iload_n 2, 1) := by decide +kernel
theorem dX1_needPair_7 : decode cX1_needPair 7 = .ok (.invokevirtual 35, 3) := by decide +kernel
theorem dX1_needPair_10 : decode cX1_needPair 10 = .ok (.iload_n 1, 1) := by decide +kernel
theorem dX1_needPair_11 : decode cX1_needPair 11 = .ok (.iload_n 2, 1) := by decide +kernel
theorem dX1_needPair_12 : decode cX1_needPair 12 = .ok (.if_icmp .ne 13, 3) := by decide +kernel
theorem dX1_needPair_15 : decode cX1_needPair 15 = .ok (.new 148, 3) := by decide +kernel
theorem dX1_needPair_18 : decode cX1_needPair 18 = .ok (.dup, 1) := by decide +kernel
theorem dX1_needPair_19 : decode cX1_needPair 19 = .ok (.ldc 150, 2) := by decide +kernel
theorem dX1_needPair_21 : decode cX1_needPair 21 = .ok (.invokespecial 152, 3) := by decide +kernel
theorem dX1_needPair_24 : decode cX1_needPair 24 = .ok (.athrow, 1) := by decide +kernel
theorem dX1_needPair_25 : decode cX1_needPair 25 = .ok (.return_, 1) := by decide +kernel
theorem dX1_needNumber_0 : decode cX1_needNumber 0 = .ok (.getstatic 153, 3) := by decide +kernel
theorem dX1_needNumber_3 : decode cX1_needNumber 3 = .ok (.astore_n 1, 1) := by decide +kernel
theorem dX1_needNumber_4 : decode cX1_needNumber 4 = .ok (.aload_n 1, 1) := by decide +kernel
theorem dX1_needNumber_5 : decode cX1_needNumber 5 = .ok (.arraylength, 1) := by decide +kernel
theorem dX1_needNumber_6 : decode cX1_needNumber 6 = .ok (.istore_n 2, 1) := by decide +kernel
theorem dX1_needNumber_7 : decode cX1_needNumber 7 = .ok (.iconst 0, 1) := by decide +kernel
theorem dX1_needNumber_8 : decode cX1_needNumber 8 = .ok (.istore_n 3, 1) := by decide +kernel
theorem dX1_needNumber_9 : decode cX1_needNumber 9 = .ok (.iload_n 3, 1) := by decide +kernel
theorem dX1_needNumber_10 : decode cX1_needNumber 10 = .ok (.iload_n 2, 1) := by decide +kernel
theorem dX1_needNumber_11 : decode cX1_needNumber 11 = .ok (.if_icmp .ge 21, 3) := by decide +kernel
theorem dX1_needNumber_14 : decode cX1_needNumber 14 = .ok (.aload_n 1, 1) := by decide +kernel
theorem dX1_needNumber_15 : decode cX1_needNumber 15 = .ok (.iload_n 3, 1) := by decide +kernel
theorem dX1_needNumber_16 : decode cX1_needNumber 16 = .ok (.iaload, 1) := by decide +kernel
theorem dX1_needNumber_17 : decode cX1_needNumber 17 = .ok (.istore 4, 2) := by decide +kernel
theorem dX1_needNumber_19 : decode cX1_needNumber 19 = .ok (.iload_n 0, 1) := by decide +kernel
theorem dX1_needNumber_20 : decode cX1_needNumber 20 = .ok (.iload 4, 2) := by decide +kernel
theorem dX1_needNumber_22 : decode cX1_needNumber 22 = .ok (.if_icmp .ne 4, 3) := by decide +kernel
theorem dX1_needNumber_25 : decode cX1_needNumber 25 = .ok (.return_, 1) := by decide +kernel
theorem dX1_needNumber_26 : decode cX1_needNumber 26 = .ok (.iinc 3 1, 3) := by decide +kernel
theorem dX1_needNumber_29 : decode cX1_needNumber 29 = .ok (.goto (-20), 3) := by decide +kernel
theorem dX1_needNumber_32 : decode cX1_needNumber 32 = .ok (.new 148, 3) := by decide +kernel
theorem dX1_needNumber_35 : decode cX1_needNumber 35 = .ok (.dup, 1) := by decide +kernel
theorem dX1_needNumber_36 : decode cX1_needNumber 36 = .ok (.ldc 156, 2) := by decide +kernel
theorem dX1_needNumber_38 : decode cX1_needNumber 38 = .ok (.invokespecial 152, 3) := by decide +kernel
theorem dX1_needNumber_41 : decode cX1_needNumber 41 = .ok (.athrow, 1) := by decide +kernel
theorem dX1_needOffset_0 : decode cX1_needOffset 0 = .ok (.iload_n 0, 1) := by decide +kernel
theorem dX1_needOffset_1 : decode cX1_needOffset 1 = .ok (.ifCond .lt 8, 3) := by decide +kernel
theorem dX1_needOffset_4 : decode cX1_needOffset 4 = .ok (.iload_n 0, 1) := by decide +kernel
theorem dX1_needOffset_5 : decode cX1_needOffset 5 = .ok (.iload_n 1, 1) := by decide +kernel
theorem dX1_needOffset_6 : decode cX1_needOffset 6 = .ok (.if_icmp .lt 13, 3) := by decide +kernel
theorem dX1_needOffset_9 : decode cX1_needOffset 9 = .ok (.new 148, 3) := by decide +kernel
theorem dX1_needOffset_12 : decode cX1_needOffset 12 = .ok (.dup, 1) := by decide +kernel
theorem dX1_needOffset_13 : decode cX1_needOffset 13 = .ok (.ldc 158, 2) := by decide +kernel
theorem dX1_needOffset_15 : decode cX1_needOffset 15 = .ok (.invokespecial 152, 3) := by decide +kernel
theorem dX1_needOffset_18 : decode cX1_needOffset 18 = .ok (.athrow, 1) := by decide +kernel
theorem dX1_needOffset_19 : decode cX1_needOffset 19 = .ok (.return_, 1) := by decide +kernel
theorem dX1_needMoment_0 : decode cX1_needMoment 0 = .ok (.iload_n 0, 1) := by decide +kernel
theorem dX1_needMoment_1 : decode cX1_needMoment 1 = .ok (.ifCond .lt 9, 3) := by decide +kernel
theorem dX1_needMoment_4 : decode cX1_needMoment 4 = .ok (.iload_n 0, 1) := by decide +kernel
theorem dX1_needMoment_5 : decode cX1_needMoment 5 = .ok (.ldc 160, 2) := by decide +kernel
theorem dX1_needMoment_7 : decode cX1_needMoment 7 = .ok (.if_icmp .le 13, 3) := by decide +kernel
theorem dX1_needMoment_10 : decode cX1_needMoment 10 = .ok (.new 148, 3) := by decide +kernel
theorem dX1_needMoment_13 : decode cX1_needMoment 13 = .ok (.dup, 1) := by decide +kernel
theorem dX1_needMoment_14 : decode cX1_needMoment 14 = .ok (.ldc 161, 2) := by decide +kernel
theorem dX1_needMoment_16 : decode cX1_needMoment 16 = .ok (.invokespecial 152, 3) := by decide +kernel
theorem dX1_needMoment_19 : decode cX1_needMoment 19 = .ok (.athrow, 1) := by decide +kernel
theorem dX1_needMoment_20 : decode cX1_needMoment 20 = .ok (.return_, 1) := by decide +kernel
theorem dX1_needMoments_0 : decode cX1_needMoments 0 = .ok (.iload_n 0, 1) := by decide +kernel
theorem dX1_needMoments_1 : decode cX1_needMoments 1 = .ok (.iconst 1, 1) := by decide +kernel
theorem dX1_needMoments_2 : decode cX1_needMoments 2 = .ok (.if_icmp .lt 8, 3) := by decide +kernel
theorem dX1_needMoments_5 : decode cX1_needMoments 5 = .ok (.iload_n 0, 1) := by decide +kernel
theorem dX1_needMoments_6 : decode cX1_needMoments 6 = .ok (.iload_n 1, 1) := by decide +kernel
theorem dX1_needMoments_7 : decode cX1_needMoments 7 = .ok (.if_icmp .le 13, 3) := by decide +kernel
theorem dX1_needMoments_10 : decode cX1_needMoments 10 = .ok (.new 148, 3) := by decide +kernel
theorem dX1_needMoments_13 : decode cX1_needMoments 13 = .ok (.dup, 1) := by decide +kernel
theorem dX1_needMoments_14 : decode cX1_needMoments 14 = .ok (.ldc 163, 2) := by decide +kernel
theorem dX1_needMoments_16 : decode cX1_needMoments 16 = .ok (.invokespecial 152, 3) := by decide +kernel
theorem dX1_needMoments_19 : decode cX1_needMoments 19 = .ok (.athrow, 1) := by decide +kernel
theorem dX1_needMoments_20 : decode cX1_needMoments 20 = .ok (.return_, 1) := by decide +kernel
set_option maxRecDepth 20000 in
theorem ggX1_changesOfLamps_X0_changesAt : GoodIn wsX1_changesOfLamps wsX0_changesAt := goodIn_r _ [7, 8, 9, 10, 6, 11, 12, 13, 14, 15, 16, 17, 23, 24, 25, 26, 27] (by decide +kernel) (by decide +kernel)
set_option maxRecDepth 20000 in
theorem gX1_changesOfLamps_X0_changesAt : GoodIn wsX1_changesOfLamps (wsV RX1 165 RX0 yX0_changesAt wsX0_changesAt) := goodIn_app (goodIn_of _ (by decide +kernel)) ggX1_changesOfLamps_X0_changesAt
theorem dX1_changesOfLamps_0 : decode cX1_changesOfLamps 0 = .ok (.iconst 0, 1) := by decide +kernel
theorem dX1_changesOfLamps_1 : decode cX1_changesOfLamps 1 = .ok (.istore_n 2, 1) := by decide +kernel
theorem dX1_changesOfLamps_2 : decode cX1_changesOfLamps 2 = .ok (.iconst 0, 1) := by decide +kernel
theorem dX1_changesOfLamps_3 : decode cX1_changesOfLamps 3 = .ok (.istore_n 3, 1) := by decide +kernel
theorem dX1_changesOfLamps_4 : decode cX1_changesOfLamps 4 = .ok (.iload_n 3, 1) := by decide +kernel
theorem dX1_changesOfLamps_5 : decode cX1_changesOfLamps 5 = .ok (.aload_n 0, 1) := by decide +kernel
theorem dX1_changesOfLamps_6 : decode cX1_changesOfLamps 6 = .ok (.getfield 20, 3) := by decide +kernel
theorem dX1_changesOfLamps_9 : decode cX1_changesOfLamps 9 = .ok (.if_icmp .ge 25, 3) := by decide +kernel
theorem dX1_changesOfLamps_12 : decode cX1_changesOfLamps 12 = .ok (.aload_n 0, 1) := by decide +kernel
theorem dX1_changesOfLamps_13 : decode cX1_changesOfLamps 13 = .ok (.getfield 11, 3) := by decide +kernel
theorem dX1_changesOfLamps_16 : decode cX1_changesOfLamps 16 = .ok (.iload_n 3, 1) := by decide +kernel
theorem dX1_changesOfLamps_17 : decode cX1_changesOfLamps 17 = .ok (.aaload, 1) := by decide +kernel
theorem dX1_changesOfLamps_18 : decode cX1_changesOfLamps 18 = .ok (.iload_n 1, 1) := by decide +kernel
theorem dX1_changesOfLamps_19 : decode cX1_changesOfLamps 19 = .ok (.invokevirtual 165, 3) := by decide +kernel
theorem dX1_changesOfLamps_22 : decode cX1_changesOfLamps 22 = .ok (.ifCond .eq 6, 3) := by decide +kernel
theorem dX1_changesOfLamps_25 : decode cX1_changesOfLamps 25 = .ok (.iinc 2 1, 3) := by decide +kernel
theorem dX1_changesOfLamps_28 : decode cX1_changesOfLamps 28 = .ok (.iinc 3 1, 3) := by decide +kernel
theorem dX1_changesOfLamps_31 : decode cX1_changesOfLamps 31 = .ok (.goto (-27), 3) := by decide +kernel
theorem dX1_changesOfLamps_34 : decode cX1_changesOfLamps 34 = .ok (.iload_n 2, 1) := by decide +kernel
theorem dX1_changesOfLamps_35 : decode cX1_changesOfLamps 35 = .ok (.ireturn, 1) := by decide +kernel
set_option maxRecDepth 20000 in
theorem ggX1_litCount_X0_litAt : GoodIn wsX1_litCount wsX0_litAt := goodIn_r _ [7, 8, 9, 10, 11, 6, 12, 13, 14, 15, 16, 17, 18, 19, 20, 21, 22, 28, 29, 30, 31, 32] (by decide +kernel) (by decide +kernel)
set_option maxRecDepth 20000 in
theorem gX1_litCount_X0_litAt : GoodIn wsX1_litCount (wsV RX1 87 RX0 yX0_litAt wsX0_litAt) := goodIn_app (goodIn_of _ (by decide +kernel)) ggX1_litCount_X0_litAt
theorem dX1_litCount_0 : decode cX1_litCount 0 = .ok (.iconst 0, 1) := by decide +kernel
theorem dX1_litCount_1 : decode cX1_litCount 1 = .ok (.istore_n 2, 1) := by decide +kernel
theorem dX1_litCount_2 : decode cX1_litCount 2 = .ok (.iconst 0, 1) := by decide +kernel
theorem dX1_litCount_3 : decode cX1_litCount 3 = .ok (.istore_n 3, 1) := by decide +kernel
theorem dX1_litCount_4 : decode cX1_litCount 4 = .ok (.iload_n 3, 1) := by decide +kernel
theorem dX1_litCount_5 : decode cX1_litCount 5 = .ok (.aload_n 0, 1) := by decide +kernel
theorem dX1_litCount_6 : decode cX1_litCount 6 = .ok (.getfield 20, 3) := by decide +kernel
theorem dX1_litCount_9 : decode cX1_litCount 9 = .ok (.if_icmp .ge 25, 3) := by decide +kernel
theorem dX1_litCount_12 : decode cX1_litCount 12 = .ok (.aload_n 0, 1) := by decide +kernel
theorem dX1_litCount_13 : decode cX1_litCount 13 = .ok (.getfield 11, 3) := by decide +kernel
theorem dX1_litCount_16 : decode cX1_litCount 16 = .ok (.iload_n 3, 1) := by decide +kernel
theorem dX1_litCount_17 : decode cX1_litCount 17 = .ok (.aaload, 1) := by decide +kernel
theorem dX1_litCount_18 : decode cX1_litCount 18 = .ok (.iload_n 1, 1) := by decide +kernel
theorem dX1_litCount_19 : decode cX1_litCount 19 = .ok (.invokevirtual 87, 3) := by decide +kernel
theorem dX1_litCount_22 : decode cX1_litCount 22 = .ok (.ifCond .eq 6, 3) := by decide +kernel
theorem dX1_litCount_25 : decode cX1_litCount 25 = .ok (.iinc 2 1, 3) := by decide +kernel
theorem dX1_litCount_28 : decode cX1_litCount 28 = .ok (.iinc 3 1, 3) := by decide +kernel
theorem dX1_litCount_31 : decode cX1_litCount 31 = .ok (.goto (-27), 3) := by decide +kernel
theorem dX1_litCount_34 : decode cX1_litCount 34 = .ok (.iload_n 2, 1) := by decide +kernel
theorem dX1_litCount_35 : decode cX1_litCount 35 = .ok (.ireturn, 1) := by decide +kernel
set_option maxRecDepth 20000 in
theorem ggX1_darkAt_X0_litAt : GoodIn wsX1_darkAt wsX0_litAt := goodIn_r _ [7, 8, 9, 10, 11, 6, 12, 13, 14, 15, 16, 17, 18, 19, 20, 21, 22, 28, 29, 30, 31, 32] (by decide +kernel) (by decide +kernel)
set_option maxRecDepth 20000 in
theorem gX1_darkAt_X0_litAt : GoodIn wsX1_darkAt (wsV RX1 87 RX0 yX0_litAt wsX0_litAt) := goodIn_app (goodIn_of _ (by decide +kernel)) ggX1_darkAt_X0_litAt
theorem dX1_darkAt_0 : decode cX1_darkAt 0 = .ok (.iconst 0, 1) := by decide +kernel
theorem dX1_darkAt_1 : decode cX1_darkAt 1 = .ok (.istore_n 3, 1) := by decide +kernel
theorem dX1_darkAt_2 : decode cX1_darkAt 2 = .ok (.iload_n 3, 1) := by decide +kernel
theorem dX1_darkAt_3 : decode cX1_darkAt 3 = .ok (.aload_n 0, 1) := by decide +kernel
theorem dX1_darkAt_4 : decode cX1_darkAt 4 = .ok (.getfield 20, 3) := by decide +kernel
theorem dX1_darkAt_7 : decode cX1_darkAt 7 = .ok (.if_icmp .ge 29, 3) := by decide +kernel
theorem dX1_darkAt_10 : decode cX1_darkAt 10 = .ok (.iload_n 3, 1) := by decide +kernel
theorem dX1_darkAt_11 : decode cX1_darkAt 11 = .ok (.iload_n 2, 1) := by decide +kernel
theorem dX1_darkAt_12 : decode cX1_darkAt 12 = .ok (.if_icmp .eq 18, 3) := by decide +kernel
theorem dX1_darkAt_15 : decode cX1_darkAt 15 = .ok (.aload_n 0, 1) := by decide +kernel
theorem dX1_darkAt_16 : decode cX1_darkAt 16 = .ok (.getfield 11, 3) := by decide +kernel
theorem dX1_darkAt_19 : decode cX1_darkAt 19 = .ok (.iload_n 3, 1) := by decide +kernel
theorem dX1_darkAt_20 : decode cX1_darkAt 20 = .ok (.aaload, 1) := by decide +kernel
theorem dX1_darkAt_21 : decode cX1_darkAt 21 = .ok (.iload_n 1, 1) := by decide +kernel
theorem dX1_darkAt_22 : decode cX1_darkAt 22 = .ok (.invokevirtual 87, 3) := by decide +kernel
theorem dX1_darkAt_25 : decode cX1_darkAt 25 = .ok (.ifCond .eq 5, 3) := by decide +kernel
theorem dX1_darkAt_28 : decode cX1_darkAt 28 = .ok (.iconst 0, 1) := by decide +kernel
theorem dX1_darkAt_29 : decode cX1_darkAt 29 = .ok (.ireturn, 1) := by decide +kernel
theorem dX1_darkAt_30 : decode cX1_darkAt 30 = .ok (.iinc 3 1, 3) := by decide +kernel
theorem dX1_darkAt_33 : decode cX1_darkAt 33 = .ok (.goto (-31), 3) := by decide +kernel
theorem dX1_darkAt_36 : decode cX1_darkAt 36 = .ok (.iconst 1, 1) := by decide +kernel
theorem dX1_darkAt_37 : decode cX1_darkAt 37 = .ok (.ireturn, 1) := by decide +kernel
set_option maxRecDepth 20000 in
theorem ggX1_darkMoments_X1_darkAt : GoodIn wsX1_darkMoments wsX1_darkAt := goodIn_r _ [6, 7, 8, 9, 10, 11, 12, 13, 14, 15, 16, 17, 18, 19, 20, 21, 22, 23, 24, 25, 26, 27, 28, 29, 30, 31, 32, 33, 34, 35, 36, 37, 38] (by decide +kernel) (by decide +kernel)
set_option maxRecDepth 20000 in
theorem gX1_darkMoments_X1_darkAt : GoodIn wsX1_darkMoments (wsV RX1 93 RX1 yX1_darkAt wsX1_darkAt) := goodIn_app (goodIn_of _ (by decide +kernel)) ggX1_darkMoments_X1_darkAt
theorem dX1_darkMoments_0 : decode cX1_darkMoments 0 = .ok (.iconst 0, 1) := by decide +kernel
theorem dX1_darkMoments_1 : decode cX1_darkMoments 1 = .ok (.istore_n 3, 1) := by decide +kernel
theorem dX1_darkMoments_2 : decode cX1_darkMoments 2 = .ok (.iconst 1, 1) := by decide +kernel
theorem dX1_darkMoments_3 : decode cX1_darkMoments 3 = .ok (.istore 4, 2) := by decide +kernel
theorem dX1_darkMoments_5 : decode cX1_darkMoments 5 = .ok (.iload 4, 2) := by decide +kernel
theorem dX1_darkMoments_7 : decode cX1_darkMoments 7 = .ok (.iload_n 1, 1) := by decide +kernel
theorem dX1_darkMoments_8 : decode cX1_darkMoments 8 = .ok (.if_icmp .gt 27, 3) := by decide +kernel
theorem dX1_darkMoments_11 : decode cX1_darkMoments 11 = .ok (.aload_n 0, 1) := by decide +kernel
theorem dX1_darkMoments_12 : decode cX1_darkMoments 12 = .ok (.aload_n 0, 1) := by decide +kernel
theorem dX1_darkMoments_13 : decode cX1_darkMoments 13 = .ok (.getfield 73, 3) := by decide +kernel
theorem dX1_darkMoments_16 : decode cX1_darkMoments 16 = .ok (.iload 4, 2) := by decide +kernel
theorem dX1_darkMoments_18 : decode cX1_darkMoments 18 = .ok (.iadd, 1) := by decide +kernel
theorem dX1_darkMoments_19 : decode cX1_darkMoments 19 = .ok (.iload_n 2, 1) := by decide +kernel
theorem dX1_darkMoments_20 : decode cX1_darkMoments 20 = .ok (.invokevirtual 93, 3) := by decide +kernel
theorem dX1_darkMoments_23 : decode cX1_darkMoments 23 = .ok (.ifCond .eq 6, 3) := by decide +kernel
theorem dX1_darkMoments_26 : decode cX1_darkMoments 26 = .ok (.iinc 3 1, 3) := by decide +kernel
theorem dX1_darkMoments_29 : decode cX1_darkMoments 29 = .ok (.iinc 4 1, 3) := by decide +kernel
theorem dX1_darkMoments_32 : decode cX1_darkMoments 32 = .ok (.goto (-27), 3) := by decide +kernel
theorem dX1_darkMoments_35 : decode cX1_darkMoments 35 = .ok (.iload_n 3, 1) := by decide +kernel
theorem dX1_darkMoments_36 : decode cX1_darkMoments 36 = .ok (.ireturn, 1) := by decide +kernel
set_option maxRecDepth 20000 in
theorem ggX1_collideAt_X0_changesAt : GoodIn wsX1_collideAt wsX0_changesAt := goodIn_r _ [6, 7, 8, 9, 5, 10, 11, 12, 13, 14, 15, 16, 22, 23, 24, 25, 26] (by decide +kernel) (by decide +kernel)
set_option maxRecDepth 20000 in
theorem gX1_collideAt_X0_changesAt : GoodIn wsX1_collideAt (wsV RX1 165 RX0 yX0_changesAt wsX0_changesAt) := goodIn_app (goodIn_of _ (by decide +kernel)) ggX1_collideAt_X0_changesAt
theorem dX1_collideAt_0 : decode cX1_collideAt 0 = .ok (.aload_n 0, 1) := by decide +kernel
theorem dX1_collideAt_1 : decode cX1_collideAt 1 = .ok (.getfield 11, 3) := by decide +kernel
theorem dX1_collideAt_4 : decode cX1_collideAt 4 = .ok (.iload_n 1, 1) := by decide +kernel
theorem dX1_collideAt_5 : decode cX1_collideAt 5 = .ok (.aaload, 1) := by decide +kernel
theorem dX1_collideAt_6 : decode cX1_collideAt 6 = .ok (.iload_n 3, 1) := by decide +kernel
theorem dX1_collideAt_7 : decode cX1_collideAt 7 = .ok (.invokevirtual 165, 3) := by decide +kernel
theorem dX1_collideAt_10 : decode cX1_collideAt 10 = .ok (.ifCond .eq 20, 3) := by decide +kernel
theorem dX1_collideAt_13 : decode cX1_collideAt 13 = .ok (.aload_n 0, 1) := by decide +kernel
theorem dX1_collideAt_14 : decode cX1_collideAt 14 = .ok (.getfield 11, 3) := by decide +kernel
theorem dX1_collideAt_17 : decode cX1_collideAt 17 = .ok (.iload_n 2, 1) := by decide +kernel
theorem dX1_collideAt_18 : decode cX1_collideAt 18 = .ok (.aaload, 1) := by decide +kernel
theorem dX1_collideAt_19 : decode cX1_collideAt 19 = .ok (.iload_n 3, 1) := by decide +kernel
theorem dX1_collideAt_20 : decode cX1_collideAt 20 = .ok (.invokevirtual 165, 3) := by decide +kernel
theorem dX1_collideAt_23 : decode cX1_collideAt 23 = .ok (.ifCond .eq 7, 3) := by decide +kernel
theorem dX1_collideAt_26 : decode cX1_collideAt 26 = .ok (.iconst 1, 1) := by decide +kernel
theorem dX1_collideAt_27 : decode cX1_collideAt 27 = .ok (.goto 4, 3) := by decide +kernel
theorem dX1_collideAt_30 : decode cX1_collideAt 30 = .ok (.iconst 0, 1) := by decide +kernel
theorem dX1_collideAt_31 : decode cX1_collideAt 31 = .ok (.ireturn, 1) := by decide +kernel
end
section
/-! the class's picture: its object, the row of lamps, nine lamps (the ninth by which two are compared) -/
abbrev xW (cL : ClassId) (ad : Nat → Nat) (n now : Nat) (told : Int32) : va_W := [(ad 0, .inr (1, [.ref (ad 1), .ref (ad 26), .int (nI n), .int (nI now), .int told])), (ad 1, .inl (cL, 8, .inr (.inr (.inr (.inr (fun j => some (ad (2 + 3 * j))))))))]
abbrev lpW (cI : ClassId) (ad : Nat → Nat) (v : Nat → LV) (j : Nat) : va_W := lampW cI (ad (2 + 3 * j)) (ad (3 + 3 * j)) (ad (4 + 3 * j)) (v j)
def PX (D : va_G) (cI cL : ClassId) (ad : Nat → Nat) (n now : Nat) (told : Int32) (v : Nat → LV) (H : Heap) : Prop := va_P D vwCl (xW cL ad n now told) H ∧ ∀ j, j < 9 → va_P D vwCl (lpW cI ad v j) H
def WFX (n now : Nat) (v : Nat → LV) : Prop := n ≤ 8 ∧ now ≤ 2 ^ 20 ∧ ∀ j, j < 8 → WFL 4 (v j)
theorem WFL.up {L : LV} (h : WFL 4 L) : WFL 8 L := ⟨Nat.le_trans h.1 (by decide), h.2⟩
/-- what is refused -/
def rgOk (k m : Int32) : Bool := !decide (k < 0) && decide (k < m)
def lpOk (n : Nat) (k : Int32) : Bool := rgOk k (nI n)
def inB (lo hi v : Int32) : Bool := !decide (v < lo) && !decide (hi < v)
def prB (x : Int32) : Bool := (List.range 6).any (fun i => decide (x = nI (NUMf i)))
def ixx (k : Int32) : Nat := k.toNatClampNeg
def btOk (n : Nat) (v : Nat → LV) (k b : Int32) : Bool := lpOk n k && lpOk (lbc (v (ixx k))) b
def cd1 (a : Bool) : Nat := if a = false then 1 else 0
def cd2 (a b : Bool) : Nat := if a = false then 1 else if b = false then 2 else 0
def cd3 (a b c : Bool) : Nat := if a = false then 1 else if b = false then 2 else if c = false then 3 else 0
def exC (cat : List String) (cd : Nat) (E : String) : Prop := ∃ i, cd = i + 1 ∧ cat[i]? = some E
theorem ixx_nI {j : Nat} (h : j < 2 ^ 31) : ixx (nI j) = j := nI_clamp h
theorem rgOk_j {k : Int32} {n : Nat} (hn : n < 2 ^ 31) (h : rgOk k (nI n) = true) : ∃ j, j < n ∧ k = nI j := by
  unfold rgOk at h
  simp only [Bool.and_eq_true, Bool.not_eq_true', decide_eq_false_iff_not, decide_eq_true_eq] at h
  obtain ⟨j, hj, rfl⟩ := nI_of h.1
  exact ⟨j, (nI_ltI hj hn).mp h.2, rfl⟩
theorem lpOk_j {k : Int32} {n : Nat} (hn : n < 2 ^ 31) (h : lpOk n k = true) : ∃ j, j < n ∧ k = nI j := rgOk_j hn h
theorem inB_j {v : Int32} {lo hi : Nat} (hlo : lo < 2 ^ 31) (hhi : hi < 2 ^ 31) (h : inB (nI lo) (nI hi) v = true) : ∃ j, lo ≤ j ∧ j ≤ hi ∧ v = nI j := by
  unfold inB at h
  simp only [Bool.and_eq_true, Bool.not_eq_true', decide_eq_false_iff_not] at h
  have h0 : ¬ v < 0 := fun z => h.1 (by
    have hz : (0 : Int32) ≤ nI lo := nI_pos' hlo
    exact Int32.lt_of_lt_of_le z hz)
  obtain ⟨j, hj, rfl⟩ := nI_of h0
  refine ⟨j, ?_, ?_, rfl⟩
  · exact Nat.le_of_not_lt fun z => h.1 ((nI_ltI hj hlo).mpr z)
  · exact Nat.le_of_not_lt fun z => h.2 ((nI_ltI hhi hj).mpr z)
theorem prB_t {x : Int32} : prB x = true ↔ ∃ i, i < 6 ∧ x = nI (NUMf i) := by
  unfold prB
  simp only [List.any_eq_true, List.mem_range, decide_eq_true_eq]
theorem cd1_t {a : Bool} (h : a = true) : cd1 a = 0 := by rw [h]; rfl
theorem cd2_t {a b : Bool} (h : a = true) (h2 : b = true) : cd2 a b = 0 := by rw [h, h2]; rfl
theorem cd3_t {a b c : Bool} (h : a = true) (h2 : b = true) (h3 : c = true) : cd3 a b c = 0 := by rw [h, h2, h3]; rfl
theorem ex1 {a : Bool} {t : String} {r : List String} (h : a = false) : exC (t :: r) (cd1 a) t := ⟨0, by rw [h]; rfl, rfl⟩
theorem ex2a {a b : Bool} {t : String} {r : List String} (h : a = false) : exC (t :: r) (cd2 a b) t := ⟨0, by rw [h]; rfl, rfl⟩
theorem ex2b {a b : Bool} {t u : String} {r : List String} (h : a = true) (h2 : b = false) : exC (t :: u :: r) (cd2 a b) u := ⟨1, by rw [h, h2]; rfl, rfl⟩
theorem ex3a {a b c : Bool} {t : String} {r : List String} (h : a = false) : exC (t :: r) (cd3 a b c) t := ⟨0, by rw [h]; rfl, rfl⟩
theorem ex3b {a b c : Bool} {t u : String} {r : List String} (h : a = true) (h2 : b = false) : exC (t :: u :: r) (cd3 a b c) u := ⟨1, by rw [h, h2]; rfl, rfl⟩
theorem ex3c {a b c : Bool} {t u w : String} {r : List String} (h : a = true) (h2 : b = true) (h3 : c = false) : exC (t :: u :: w :: r) (cd3 a b c) w := ⟨2, by rw [h, h2, h3]; rfl, rfl⟩
theorem and_f1 {a b : Bool} (h : a = false) : (a && b) = false := by rw [h]; rfl
theorem and_f2 {a b : Bool} (h : b = false) : (a && b) = false := by rw [h]; cases a <;> rfl
theorem and_t {a b : Bool} (h : a = true) (h2 : b = true) : (a && b) = true := by rw [h, h2]; rfl
/-! what is told of all lamps -/
theorem cnt_le (f : Nat → Bool) : ∀ k, cnt f k ≤ k
  | 0 => Nat.le_refl 0
  | k + 1 => by
    have := cnt_le f k
    simp only [cnt]
    split <;> omega
theorem cnt_t {f : Nat → Bool} {k : Nat} (h : f k = true) : cnt f (k + 1) = cnt f k + 1 := by simp [cnt, h]
theorem cnt_f {f : Nat → Bool} {k : Nat} (h : f k = false) : cnt f (k + 1) = cnt f k := by simp [cnt, h]
theorem cnt_mono (f : Nat → Bool) {a b : Nat} (h : a ≤ b) : cnt f a ≤ cnt f b := by
  induction b with
  | zero => rw [Nat.le_zero.mp h]; exact Nat.le_refl _
  | succ b ih =>
    rcases Nat.lt_or_ge a (b + 1) with q | q
    · refine Nat.le_trans (ih (by omega)) ?_
      simp only [cnt]
      split <;> omega
    · rw [show a = b + 1 by omega]; exact Nat.le_refl _
theorem cnt_congr {f g : Nat → Bool} : ∀ (k : Nat), (∀ i, i < k → f i = g i) → cnt f k = cnt g k
  | 0, _ => rfl
  | k + 1, h => by
    simp only [cnt]
    rw [cnt_congr k (fun i hi => h i (by omega)), h k (by omega)]
/-- the sum of the first k -/
def smN (f : Nat → Nat) : Nat → Nat
  | 0 => 0
  | k + 1 => smN f k + f k
theorem smN_le {f : Nat → Nat} {m : Nat} (h : ∀ i, f i ≤ m) : ∀ k, smN f k ≤ k * m
  | 0 => Nat.zero_le _
  | k + 1 => by
    have := smN_le h k
    have := h k
    simp only [smN]
    rw [Nat.succ_mul]
    omega
def chgN (v : Nat → LV) (n t : Nat) : Nat := cnt (fun j => chgB (v j) t) n
def litN (v : Nat → LV) (n t : Nat) : Nat := cnt (fun j => litB (v j) t) n
/-- lit, but for the lamp x -/
def ltB (v : Nat → LV) (x : Int32) (t j : Nat) : Bool := !decide (nI j = x) && litB (v j) t
def ltN (v : Nat → LV) (n : Nat) (x : Int32) (t : Nat) : Nat := cnt (ltB v x t) n
def dkB (v : Nat → LV) (n : Nat) (x : Int32) (t : Nat) : Bool := decide (ltN v n x t = 0)
def dkN (v : Nat → LV) (n now : Nat) (x : Int32) (k : Nat) : Nat := cnt (fun s => dkB v n x (now + (s + 1))) k
def colB (v : Nat → LV) (a b t : Nat) : Bool := chgB (v a) t && chgB (v b) t
theorem ltN_all {v : Nat → LV} {n : Nat} (hn : n ≤ 8) (t : Nat) : ltN v n (-1) t = litN v n t := by
  refine cnt_congr n (fun i hi => ?_)
  unfold ltB
  have : ∀ i, i < 8 → ¬ nI i = -1 := by decide
  rw [decide_eq_false (this i (by omega))]
  rfl
/-- the cycle of what is shown -/
def shwN (L : LV) (t : Nat) : Nat → Nat
  | 0 => 0
  | k + 1 => 2 * shwN L t k + (if onB L (t + k) = true then 1 else 0)
theorem shwN_lt (L : LV) (t : Nat) : ∀ k, shwN L t k < 2 ^ k
  | 0 => by simp [shwN]
  | k + 1 => by
    have h := shwN_lt L t k
    simp only [shwN]
    rw [Nat.pow_succ]
    split <;> omega
/-- the brightest of the steps 1 .. k -/
def brtN (v : Nat → LV) (n now : Nat) : Nat → Nat
  | 0 => 1
  | k + 1 => if litN v n (now + brtN v n now k) < litN v n (now + (k + 1)) then k + 1 else brtN v n now k
/-- the best cover of the first k lamps, and how many dark moments it leaves: none, if all are covered -/
def bcvN (v : Nat → LV) (n now m : Nat) : Nat → Option (Nat × Nat)
  | 0 => none
  | k + 1 => if lcv (v k) = true then bcvN v n now m k else
      match bcvN v n now m k with
      | none => some (k, dkN v n now (nI k) m)
      | some (b, d) => if d < dkN v n now (nI k) m then some (k, dkN v n now (nI k) m) else some (b, d)
def oI1 (o : Option (Nat × Nat)) : Int32 := match o with
  | none => -1
  | some q => nI q.1
def oI2 (o : Option (Nat × Nat)) : Int32 := match o with
  | none => -1
  | some q => nI q.2
def btsN (v : Nat → LV) (n : Nat) : Nat := smN (fun j => lbc (v j)) n
theorem btOk_j {n : Nat} {v : Nat → LV} {k b : Int32} (hn : n ≤ 8) (hw : ∀ j, j < 8 → WFL 4 (v j)) (h : btOk n v k b = true) : ∃ j i, j < n ∧ i < lbc (v j) ∧ k = nI j ∧ b = nI i := by
  unfold btOk at h
  simp only [Bool.and_eq_true] at h
  obtain ⟨j, hj, rfl⟩ := lpOk_j (by omega) h.1
  rw [ixx_nI (by omega)] at h
  have := (hw j (by omega)).1
  obtain ⟨i, hi, rfl⟩ := lpOk_j (by omega) h.2
  exact ⟨j, i, hj, hi, rfl, rfl⟩
def bJ (b : Bool) : Int64 := if b = true then 1 else 0
def mxL (d x : Int64) : Int64 := d * 31 + x
def dg1 (L : LV) (d : Int64) : Int64 := mxL d (nI (lbc L)).toInt64
def dg2 (L : LV) (d : Int64) : Int64 := mxL (dg1 L d) (bJ (lcv L))
def dg3 (L : LV) (now : Nat) (d : Int64) : Int64 := mxL (dg2 L d) (bJ (onB L now))
def dg4 (L : LV) (now : Nat) (d : Int64) : Int64 := mxL (dg3 L now d) (bJ (decide (cyc L = 1)))
def dg5 (L : LV) (now : Nat) (d : Int64) : Int64 := mxL (dg4 L now d) (nI (cyc L)).toInt64
def dg6 (L : LV) (now : Nat) (d : Int64) : Int64 := mxL (dg5 L now d) (untC L now).toInt64
def dgB (L : LV) (d : Int64) : Nat → Int64
  | 0 => d
  | k + 1 => mxL (mxL (dgB L d k) (nI (lnu L k)).toInt64) (nI (lof L k)).toInt64
def dgP (L : LV) (now : Nat) (d : Int64) : Int64 := dgB L (dg6 L now d) (lbc L)
def dgK (v : Nat → LV) (now : Nat) (d : Int64) : Nat → Int64
  | 0 => d
  | k + 1 => dgP (v k) now (dgK v now d k)
def dgA (n now : Nat) (told : Int32) (v : Nat → LV) : Int64 := mxL (mxL (mxL (mxL 1889 (nI n).toInt64) (nI now).toInt64) told.toInt64) (nI (litN v n now)).toInt64
def dgst (n now : Nat) (told : Int32) (v : Nat → LV) : Int64 := dgK v now (dgA n now told v) n
def meanF (s n : Nat) : UInt64 := if n = 0 then FP.dconst0 else FP.ddiv (FP.i2d (nI s)) (FP.i2d (nI n))
def QDb (r : UInt64) : Array Value → State → Outcome → State → Prop := fun _ st o t => o = .returned (some (.double r)) ∧ t.heap = st.heap
theorem n_tl {p : Program} {l : Launch} {e : Env} {R : Room} {s : State} {m : MethodId} {args : Array Value} {below : List Frame} {meth : Method} {c : Code} {H : Heap} {locs : List Loc} {cells slots : Nat} {Q : State → Prop} {pc : Nat} {ls : Array Slot} {rest : List Value} {x y : Int64} (h : x = y) (k : W p l e R s m args below meth c H locs cells slots Q (F0 m pc ls (.long y :: rest))) : W p l e R s m args below meth c H locs cells slots Q (F0 m pc ls (.long x :: rest)) := by
  subst h; exact k
theorem cd2_0 {a b : Bool} (h : cd2 a b = 0) : a = true ∧ b = true := by revert h; cases a <;> cases b <;> decide
theorem pair_ok {n : Nat} {k q : Int32} (h : cd2 (lpOk n k && lpOk n q) (decide (¬ k = q)) = 0) : (lpOk n k && lpOk n q) = true ∧ decide (¬ k = q) = true := cd2_0 h
theorem pair_j {n : Nat} {k q : Int32} (hn : n ≤ 8) (h : cd2 (lpOk n k && lpOk n q) (decide (¬ k = q)) = 0) : ∃ i j, i < n ∧ j < n ∧ ¬ i = j ∧ k = nI i ∧ q = nI j := by
  obtain ⟨h1, h2⟩ := cd2_0 h
  simp only [Bool.and_eq_true] at h1
  obtain ⟨i, hi, rfl⟩ := lpOk_j (by omega) h1.1
  obtain ⟨j, hj, rfl⟩ := lpOk_j (by omega) h1.2
  exact ⟨i, j, hi, hj, fun z => (of_decide_eq_true h2) (by rw [z]), rfl, rfl⟩
theorem exP {n : Nat} {k q : Int32} {c : Bool} {E : String} {t u : String} (h : exC [t, u] (cd2 (lpOk n k && lpOk n q) (decide (¬ k = q))) E) : exC [t, u] (cd2 (lpOk n k && lpOk n q) (decide (¬ k = q) && c)) E := by
  revert h
  cases lpOk n k && lpOk n q
  · exact fun h => h
  · cases decide (¬ k = q)
    · exact fun h => h
    · rintro ⟨i, h, -⟩
      exact absurd h (by simp [cd2])
theorem brtN_1 {v : Nat → LV} {n now : Nat} : brtN v n now 1 = 1 := by
  show (if litN v n (now + brtN v n now 0) < litN v n (now + (0 + 1)) then 0 + 1 else brtN v n now 0) = 1
  split <;> rfl
theorem bcvN_bd {v : Nat → LV} {n now m : Nat} : ∀ k, ∀ q, bcvN v n now m k = some q → q.1 < k ∧ q.2 ≤ m
  | 0, q, h => by cases h
  | k + 1, q, h => by
    have ih := bcvN_bd (v := v) (n := n) (now := now) (m := m) k
    simp only [bcvN] at h
    split at h
    · have := ih q h
      exact ⟨by omega, this.2⟩
    · split at h
      · cases h
        exact ⟨by omega, cnt_le _ _⟩
      · rename_i b d hb
        have := ih _ hb
        split at h
        · cases h
          exact ⟨by omega, cnt_le _ _⟩
        · cases h
          exact ⟨by have := this.1; simp at this; omega, this.2⟩
theorem bcv_le {v : Nat → LV} {n now m k : Nat} (hm : m < 2 ^ 31) (hc : lcv (v k) = false) (h : nI (dkN v n now (nI k) m) ≤ oI2 (bcvN v n now m k)) : bcvN v n now m (k + 1) = bcvN v n now m k := by
  simp only [bcvN]
  rw [if_neg (by rw [hc]; decide)]
  have hd : dkN v n now (nI k) m ≤ m := cnt_le _ _
  split
  · rename_i h0
    rw [h0] at h
    exact absurd (show (0 : Int32) ≤ -1 from Int32.le_trans (nI_pos' (by omega)) h) (by decide)
  · rename_i b d h0
    rw [h0] at h
    have hb := (bcvN_bd k _ h0).2
    have : dkN v n now (nI k) m ≤ d := (nI_leI (by omega) (by simp at hb; omega)).mp h
    rw [if_neg (by omega), h0]
theorem bcv_gt {v : Nat → LV} {n now m k : Nat} (hm : m < 2 ^ 31) (hc : lcv (v k) = false) (h : ¬ nI (dkN v n now (nI k) m) ≤ oI2 (bcvN v n now m k)) : bcvN v n now m (k + 1) = some (k, dkN v n now (nI k) m) := by
  simp only [bcvN]
  rw [if_neg (by rw [hc]; decide)]
  have hd : dkN v n now (nI k) m ≤ m := cnt_le _ _
  split
  · rfl
  · rename_i b d h0
    rw [h0] at h
    have hb := (bcvN_bd k _ h0).2
    have : ¬ dkN v n now (nI k) m ≤ d := fun z => h ((nI_leI (by omega) (by simp at hb; omega)).mpr z)
    rw [if_pos (by omega)]
theorem btsN_le {v : Nat → LV} (hw : ∀ j, j < 8 → WFL 4 (v j)) : ∀ k, k ≤ 8 → btsN v k ≤ k * 4
  | 0, _ => Nat.zero_le _
  | k + 1, h => by
    have ih := btsN_le hw k (by omega)
    have := (hw k (by omega)).1
    have e : btsN v (k + 1) = btsN v k + lbc (v k) := rfl
    omega
theorem meanOK {s n : Nat} (hs : s ≤ 32) (h0 : 0 < n) (hn : n ≤ 8) : vf_n64 (FP.ddiv (FP.i2d (nI s)) (FP.i2d (nI n))) := by
  have : ∀ s, s < 33 → ∀ n, n < 9 → 0 < n → (FP.ddiv (FP.i2d (nI s)) (FP.i2d (nI n))) &&& 0x7fffffffffffffff ≤ 0x7ff0000000000000 := by decide +kernel
  exact this s (by omega) n (by omega) h0
end
section
set_option maxHeartbeats 4000000 in
set_option maxRecDepth 100000 in
/-- needLamp -/
theorem c_X1_needLamp (l : Launch) (D : va_G) (cI cZ cL cJ : ClassId) (hst : l.stackTraces = false) (ad : Nat → Nat) (n now : Nat) (told : Int32) (v : Nat → LV) (hwf : WFX n now v) (k : Int32) : vx_Met l yX1_needLamp wsX1_needLamp ({ frames := 6, cells := 1, slots := 6, locals := 82 } : Room) (PC D (TY cI cZ cL cJ) noA [.ref (ad 0), .int k] (fun H => PX D cI cL ad n now told v H)) (QOkv (lpOk n k = true)) (XC1 (fun E => E = tIOB ∧ lpOk n k = false)) 1 6 (fun _ => False) := by
  refine vx_ofW (cc := cX1_needLamp) (maxL := 2) (ret := none) (by decide) rfl ?_
  intro p e s m args below meth c s₁ B hml hex hv
  obtain ⟨rfl, hK, hE, hP0, hPL⟩ := hv
  obtain ⟨hn8, hnow, hwl⟩ := hwf
  have hx := B.exec
  have hb := B.bytes
  have hr := B.returns
  have hts := atoms_spec (ws := wsX1_needLamp) B.pre
  have hown : s.vm.findClass RX1 = some m.cls := findClass_of_methodNamed B.named
  have hlocks := B.notSynchronized
  have hNF := hE.2.1.1
  have hin1 : ∀ w ∈ wsX10, w ∈ wsX1_needLamp := by decide +kernel
  have hl := lv_entry ([.ref (ad 0), .int k]) (n := 2) (Nat.le_of_ble_eq_true rfl)
  rw [lg_entry_eq]
  generalize (lg_sl ([.ref (ad 0), .int k]) ++ List.replicate (2 - (lg_sl ([.ref (ad 0), .int k])).length) Slot.unset).toArray = ls at hl ⊢
  have hl : lv_has ls 2 [(0, .ref (ad 0)), (1, .int k)] := hl
  refine lv_iload_n hx hb dX1_needLamp_0 rfl (lv_at hl 1 rfl) ?_
  refine lv_if_lt (tgt := 12) hx hb dX1_needLamp_1 (by decide) (fun c_1 => ?_) (fun c_1 => ?_)
  · exact xthrow xIOB fIOB gIOB nIOB hx hb hst hown (hts (.classLink RX1 141 "java/lang/IndexOutOfBoundsException") (List.mem_of_getElem? (i := 1) rfl)) (hts (.initialized "java/lang/IndexOutOfBoundsException") (List.mem_of_getElem? (i := 2) rfl)) (List.mem_of_getElem? (i := 2) rfl) (fun w h => hts w (List.mem_cons_of_mem _ (List.mem_append_right _ h))) hE (hl.1.trans hml.symm) dX1_needLamp_12 dX1_needLamp_15 dX1_needLamp_16 dX1_needLamp_18 dX1_needLamp_21 hex (Nat.le_of_ble_eq_true rfl) (Nat.le_of_ble_eq_true rfl) (Nat.le_of_ble_eq_true rfl) (Nat.le_of_ble_eq_true rfl) hlocks ⟨rfl, by unfold lpOk rgOk; first | (rw [decide_eq_true c_1]; rfl) | (rw [decide_eq_false c_9]; exact Bool.and_false _)⟩ (Nat.le_of_ble_eq_true rfl) (Nat.le_of_ble_eq_true rfl)
  · refine lv_iload_n hx hb dX1_needLamp_4 rfl (lv_at hl 1 rfl) ?_
    refine lv_aload_n hx hb dX1_needLamp_5 rfl (lv_at hl 0 rfl) ?_
    refine va_get (D := D) (ci := 1) (v := .int (nI n)) (C := RX1) (T := TX1) (N := 5) hx hb hts hin1 hown hK hP0 0 rfl rfl 2 (by decide) (hts (.fieldLink RX1 20 "LanternPrimes" "lampCount" "I") (List.mem_of_getElem? (i := 3) rfl)) (fun _ h9 => h9) rfl dX1_needLamp_6 ?_
    refine lv_icmp_lt (tgt := 22) hx hb dX1_needLamp_9 (by decide) (fun c_9 => ?_) (fun c_9 => ?_)
    · refine vx_ret ?_
      refine W.widen (k := 1) (n := 6) (Nat.le_of_ble_eq_true rfl) (Nat.le_of_ble_eq_true rfl) ?_
      exact W.vret hx hb hr (fun t ht hW => ⟨(by unfold lpOk rgOk; rw [decide_eq_false c_1, decide_eq_true c_9]; rfl), rfl, ht⟩) (fun _ h => by cases h) dX1_needLamp_22
    · exact xthrow xIOB fIOB gIOB nIOB hx hb hst hown (hts (.classLink RX1 141 "java/lang/IndexOutOfBoundsException") (List.mem_of_getElem? (i := 1) rfl)) (hts (.initialized "java/lang/IndexOutOfBoundsException") (List.mem_of_getElem? (i := 2) rfl)) (List.mem_of_getElem? (i := 2) rfl) (fun w h => hts w (List.mem_cons_of_mem _ (List.mem_append_right _ h))) hE (hl.1.trans hml.symm) dX1_needLamp_12 dX1_needLamp_15 dX1_needLamp_16 dX1_needLamp_18 dX1_needLamp_21 hex (Nat.le_of_ble_eq_true rfl) (Nat.le_of_ble_eq_true rfl) (Nat.le_of_ble_eq_true rfl) (Nat.le_of_ble_eq_true rfl) hlocks ⟨rfl, by unfold lpOk rgOk; first | (rw [decide_eq_true c_1]; rfl) | (rw [decide_eq_false c_9]; exact Bool.and_false _)⟩ (Nat.le_of_ble_eq_true rfl) (Nat.le_of_ble_eq_true rfl)
set_option maxHeartbeats 4000000 in
set_option maxRecDepth 100000 in
/-- needBeat -/
theorem c_X1_needBeat (l : Launch) (D : va_G) (cI cZ cL cJ : ClassId) (hst : l.stackTraces = false) (ad : Nat → Nat) (n now : Nat) (told : Int32) (v : Nat → LV) (hwf : WFX n now v) (k b : Int32) : vx_Met l yX1_needBeat wsX1_needBeat ({ frames := 7, cells := 2, slots := 12, locals := 103 } : Room) (PC D (TY cI cZ cL cJ) noA [.ref (ad 0), .int k, .int b] (fun H => PX D cI cL ad n now told v H)) (QOkv (btOk n v k b = true)) (XC1 (fun E => E = tIOB ∧ btOk n v k b = false)) 2 12 (fun _ => False) := by
  refine vx_ofW (cc := cX1_needBeat) (maxL := 3) (ret := none) (by decide) rfl ?_
  intro p e s m args below meth c s₁ B hml hex hv
  obtain ⟨rfl, hK, hE, hP0, hPL⟩ := hv
  obtain ⟨hn8, hnow, hwl⟩ := hwf
  have hx := B.exec
  have hb := B.bytes
  have hr := B.returns
  have hts := atoms_spec (ws := wsX1_needBeat) B.pre
  have hown : s.vm.findClass RX1 = some m.cls := findClass_of_methodNamed B.named
  have hlocks := B.notSynchronized
  have hNF := hE.2.1.1
  have hin0 : ∀ w ∈ wsX00, w ∈ wsX1_needBeat := by decide +kernel
  have hin1 : ∀ w ∈ wsX10, w ∈ wsX1_needBeat := by decide +kernel
  have hl := lv_entry ([.ref (ad 0), .int k, .int b]) (n := 3) (Nat.le_of_ble_eq_true rfl)
  rw [lg_entry_eq]
  generalize (lg_sl ([.ref (ad 0), .int k, .int b]) ++ List.replicate (3 - (lg_sl ([.ref (ad 0), .int k, .int b])).length) Slot.unset).toArray = ls at hl ⊢
  have hl : lv_has ls 3 [(0, .ref (ad 0)), (1, .int k), (2, .int b)] := hl
  refine lv_aload_n hx hb dX1_needBeat_0 rfl (lv_at hl 0 rfl) ?_
  refine lv_iload_n hx hb dX1_needBeat_1 rfl (lv_at hl 1 rfl) ?_
  refine xVp (As := [.int k]) (rest := []) ⟨hx, hb, hml, hown, hts⟩ (c_X1_needLamp l D cI cZ cL cJ hst ad n now told v ⟨hn8, hnow, hwl⟩ k) (cwV 1 hts gX1_needBeat_X1_needLamp rfl rfl rfl (by decide +kernel) ⟨(Nat.le_of_ble_eq_true rfl), (Nat.le_of_ble_eq_true rfl)⟩) hK hE ⟨hP0, hPL⟩ (RC_of (q := (RX1, TX1, 5)) (ci := 1) hK rfl (vpa hP0 0 rfl)) rfl hl.1 rfl (Nat.le_of_ble_eq_true rfl) dX1_needBeat_2 ⟨(Nat.le_of_ble_eq_true rfl), (Nat.le_of_ble_eq_true rfl)⟩ hex hlocks (fun E h => ⟨h.1, by unfold btOk; rw [h.2]; rfl⟩) (Nat.le_of_ble_eq_true rfl) (Nat.le_of_ble_eq_true rfl) (fun hok => ?_)
  obtain ⟨j, hj, rfl⟩ := lpOk_j (by omega) hok
  refine lv_iload_n hx hb dX1_needBeat_5 rfl (lv_at hl 2 rfl) ?_
  refine lv_if_lt (tgt := 22) hx hb dX1_needBeat_6 (by decide) (fun c_6 => ?_) (fun c_6 => ?_)
  · exact xthrow xIOB fIOB gIOB nIOB hx hb hst hown (hts (.classLink RX1 141 "java/lang/IndexOutOfBoundsException") (List.mem_of_getElem? (i := 1) rfl)) (hts (.initialized "java/lang/IndexOutOfBoundsException") (List.mem_of_getElem? (i := 2) rfl)) (List.mem_of_getElem? (i := 3) rfl) (fun w h => hts w (List.mem_cons_of_mem _ (List.mem_append_right _ h))) hE (hl.1.trans hml.symm) dX1_needBeat_22 dX1_needBeat_25 dX1_needBeat_26 dX1_needBeat_28 dX1_needBeat_31 hex (Nat.le_of_ble_eq_true rfl) (Nat.le_of_ble_eq_true rfl) (Nat.le_of_ble_eq_true rfl) (Nat.le_of_ble_eq_true rfl) hlocks ⟨rfl, by unfold btOk lpOk rgOk; rw [ixx_nI (by omega)]; first | (rw [decide_eq_true c_6]; exact Bool.and_false _) | (rw [decide_eq_false c_19, Bool.and_false]; exact Bool.and_false _)⟩ (Nat.le_of_ble_eq_true rfl) (Nat.le_of_ble_eq_true rfl)
  · refine lv_iload_n hx hb dX1_needBeat_9 rfl (lv_at hl 2 rfl) ?_
    refine lv_aload_n hx hb dX1_needBeat_10 rfl (lv_at hl 0 rfl) ?_
    refine va_get (D := D) (ci := 1) (v := .ref (ad 1)) (C := RX1) (T := TX1) (N := 5) hx hb hts hin1 hown hK hP0 0 rfl rfl 0 (by decide) (hts (.fieldLink RX1 11 "LanternPrimes" "row" "[LLanternPrimes$Lamp;") (List.mem_of_getElem? (i := 3) rfl)) (fun _ h9 => h9) rfl dX1_needBeat_11 ?_
    refine lv_iload_n hx hb dX1_needBeat_14 rfl (lv_at hl 1 rfl) ?_
    refine n_aald (v := ad (2 + 3 * j)) (j := j) hx hb hK hP0 1 2 rfl rfl (by omega) (by decide) rfl dX1_needBeat_15 ?_
    have hPj := hPL j (by omega)
    refine va_getN (D := D) (ci := 0) (v := .int (nI (lbc (v j)))) (C := RX0) (T := TX0) (N := 5) hx hb hts hin0 hown hK hPj 0 rfl rfl 2 (by decide) (va_Nw.use rfl (hNF _ (List.mem_of_getElem? (i := 1) rfl))) (fun _ h9 => h9) rfl dX1_needBeat_16 ?_
    refine lv_icmp_lt (tgt := 32) hx hb dX1_needBeat_19 (by decide) (fun c_19 => ?_) (fun c_19 => ?_)
    · refine vx_ret ?_
      refine W.widen (k := 2) (n := 12) (Nat.le_of_ble_eq_true rfl) (Nat.le_of_ble_eq_true rfl) ?_
      exact W.vret hx hb hr (fun t ht hW => ⟨(by unfold btOk; rw [hok, ixx_nI (by omega)]; unfold lpOk rgOk; rw [decide_eq_false c_6, decide_eq_true c_19]; rfl), rfl, ht⟩) (fun _ h => by cases h) dX1_needBeat_32
    · exact xthrow xIOB fIOB gIOB nIOB hx hb hst hown (hts (.classLink RX1 141 "java/lang/IndexOutOfBoundsException") (List.mem_of_getElem? (i := 1) rfl)) (hts (.initialized "java/lang/IndexOutOfBoundsException") (List.mem_of_getElem? (i := 2) rfl)) (List.mem_of_getElem? (i := 3) rfl) (fun w h => hts w (List.mem_cons_of_mem _ (List.mem_append_right _ h))) hE (hl.1.trans hml.symm) dX1_needBeat_22 dX1_needBeat_25 dX1_needBeat_26 dX1_needBeat_28 dX1_needBeat_31 hex (Nat.le_of_ble_eq_true rfl) (Nat.le_of_ble_eq_true rfl) (Nat.le_of_ble_eq_true rfl) (Nat.le_of_ble_eq_true rfl) hlocks ⟨rfl, by unfold btOk lpOk rgOk; rw [ixx_nI (by omega)]; first | (rw [decide_eq_true c_6]; exact Bool.and_false _) | (rw [decide_eq_false c_19, Bool.and_false]; exact Bool.and_false _)⟩ (Nat.le_of_ble_eq_true rfl) (Nat.le_of_ble_eq_true rfl)
set_option maxHeartbeats 4000000 in
set_option maxRecDepth 100000 in
/-- needPair -/
theorem c_X1_needPair (l : Launch) (D : va_G) (cI cZ cL cJ : ClassId) (hst : l.stackTraces = false) (ad : Nat → Nat) (n now : Nat) (told : Int32) (v : Nat → LV) (hwf : WFX n now v) (k q : Int32) : vx_Met l yX1_needPair wsX1_needPair ({ frames := 7, cells := 3, slots := 18, locals := 103 } : Room) (PC D (TY cI cZ cL cJ) noA [.ref (ad 0), .int k, .int q] (fun H => PX D cI cL ad n now told v H)) (QOkv (cd2 (lpOk n k && lpOk n q) (decide (¬ k = q)) = 0)) (XC1 (fun E => exC [tIOB, tIAE] (cd2 (lpOk n k && lpOk n q) (decide (¬ k = q))) E)) 3 18 (fun _ => False) := by
  refine vx_ofW (cc := cX1_needPair) (maxL := 3) (ret := none) (by decide) rfl ?_
  intro p e s m args below meth c s₁ B hml hex hv
  obtain ⟨rfl, hK, hE, hP0, hPL⟩ := hv
  obtain ⟨hn8, hnow, hwl⟩ := hwf
  have hx := B.exec
  have hb := B.bytes
  have hr := B.returns
  have hts := atoms_spec (ws := wsX1_needPair) B.pre
  have hown : s.vm.findClass RX1 = some m.cls := findClass_of_methodNamed B.named
  have hlocks := B.notSynchronized
  have hNF := hE.2.1.1
  have hin1 : ∀ w ∈ wsX10, w ∈ wsX1_needPair := by decide +kernel
  have hl := lv_entry ([.ref (ad 0), .int k, .int q]) (n := 3) (Nat.le_of_ble_eq_true rfl)
  rw [lg_entry_eq]
  generalize (lg_sl ([.ref (ad 0), .int k, .int q]) ++ List.replicate (3 - (lg_sl ([.ref (ad 0), .int k, .int q])).length) Slot.unset).toArray = ls at hl ⊢
  have hl : lv_has ls 3 [(0, .ref (ad 0)), (1, .int k), (2, .int q)] := hl
  refine lv_aload_n hx hb dX1_needPair_0 rfl (lv_at hl 0 rfl) ?_
  refine lv_iload_n hx hb dX1_needPair_1 rfl (lv_at hl 1 rfl) ?_
  refine xVp (As := [.int k]) (rest := []) ⟨hx, hb, hml, hown, hts⟩ (c_X1_needLamp l D cI cZ cL cJ hst ad n now told v ⟨hn8, hnow, hwl⟩ k) (cwV 1 hts gX1_needPair_X1_needLamp rfl rfl rfl (by decide +kernel) ⟨(Nat.le_of_ble_eq_true rfl), (Nat.le_of_ble_eq_true rfl)⟩) hK hE ⟨hP0, hPL⟩ (RC_of (q := (RX1, TX1, 5)) (ci := 1) hK rfl (vpa hP0 0 rfl)) rfl hl.1 rfl (Nat.le_of_ble_eq_true rfl) dX1_needPair_2 ⟨(Nat.le_of_ble_eq_true rfl), (Nat.le_of_ble_eq_true rfl)⟩ hex hlocks (fun E h => by rw [h.1]; exact ex2a (and_f1 h.2)) (Nat.le_of_ble_eq_true rfl) (Nat.le_of_ble_eq_true rfl) (fun hok => ?_)
  obtain ⟨j, hj, rfl⟩ := lpOk_j (by omega) hok
  refine lv_aload_n hx hb dX1_needPair_5 rfl (lv_at hl 0 rfl) ?_
  refine lv_iload_n hx hb dX1_needPair_6 rfl (lv_at hl 2 rfl) ?_
  refine xVp (As := [.int q]) (rest := []) ⟨hx, hb, hml, hown, hts⟩ (c_X1_needLamp l D cI cZ cL cJ hst ad n now told v ⟨hn8, hnow, hwl⟩ q) (cwV 1 hts gX1_needPair_X1_needLamp rfl rfl rfl (by decide +kernel) ⟨(Nat.le_of_ble_eq_true rfl), (Nat.le_of_ble_eq_true rfl)⟩) hK hE ⟨hP0, hPL⟩ (RC_of (q := (RX1, TX1, 5)) (ci := 1) hK rfl (vpa hP0 0 rfl)) rfl hl.1 rfl (Nat.le_of_ble_eq_true rfl) dX1_needPair_7 ⟨(Nat.le_of_ble_eq_true rfl), (Nat.le_of_ble_eq_true rfl)⟩ hex hlocks (fun E h => by rw [h.1]; exact ex2a (and_f2 h.2)) (Nat.le_of_ble_eq_true rfl) (Nat.le_of_ble_eq_true rfl) (fun hok2 => ?_)
  obtain ⟨i, hi, rfl⟩ := lpOk_j (by omega) hok2
  refine lv_iload_n hx hb dX1_needPair_10 rfl (lv_at hl 1 rfl) ?_
  refine lv_iload_n hx hb dX1_needPair_11 rfl (lv_at hl 2 rfl) ?_
  refine n_icmp_ne (a := j) (b := i) (tgt := 25) hx hb (by omega) (by omega) dX1_needPair_12 (by decide) (fun c_12 => ?_) (fun c_12 => ?_)
  · refine vx_ret ?_
    refine W.widen (k := 3) (n := 18) (Nat.le_of_ble_eq_true rfl) (Nat.le_of_ble_eq_true rfl) ?_
    exact W.vret hx hb hr (fun t ht hW => ⟨(cd2_t (and_t hok hok2) (decide_eq_true (fun z => c_12 (nI_inj (by omega) (by omega) z)))), rfl, ht⟩) (fun _ h => by cases h) dX1_needPair_25
  · exact xthrow xIAE fIAE gIAE nIAE hx hb hst hown (hts (.classLink RX1 148 "java/lang/IllegalArgumentException") (List.mem_of_getElem? (i := 1) rfl)) (hts (.initialized "java/lang/IllegalArgumentException") (List.mem_of_getElem? (i := 2) rfl)) (List.mem_of_getElem? (i := 4) rfl) (fun w h => hts w (List.mem_cons_of_mem _ (List.mem_append_left _ (List.mem_append_right _ h)))) hE (hl.1.trans hml.symm) dX1_needPair_15 dX1_needPair_18 dX1_needPair_19 dX1_needPair_21 dX1_needPair_24 hex (Nat.le_of_ble_eq_true rfl) (Nat.le_of_ble_eq_true rfl) (Nat.le_of_ble_eq_true rfl) (Nat.le_of_ble_eq_true rfl) hlocks (ex2b (and_t hok hok2) (decide_eq_false (fun z => z (by rw [c_12])))) (Nat.le_of_ble_eq_true rfl) (Nat.le_of_ble_eq_true rfl)
set_option maxHeartbeats 4000000 in
set_option maxRecDepth 100000 in
/-- needNumber -/
theorem c_X1_needNumber (l : Launch) (D : va_G) (cI cZ cL cJ : ClassId) (hst : l.stackTraces = false) (x : Int32) : vx_Met l yX1_needNumber wsX1_needNumber ({ frames := 6, cells := 1, slots := 6, locals := 82 } : Room) (PC D (TY cI cZ cL cJ) noA [.int x] (fun _ => True)) (QOkv (prB x = true)) (XC1 (fun E => E = tIAE ∧ prB x = false)) 1 6 (fun _ => False) := by
  refine vx_ofW (cc := cX1_needNumber) (maxL := 5) (ret := none) (by decide) rfl ?_
  intro p e s m args below meth c s₁ B hml hex hv
  obtain ⟨rfl, hK, hE, -⟩ := hv
  obtain ⟨na, hZ, hT⟩ := hE.2.2.2
  have hx := B.exec
  have hb := B.bytes
  have hr := B.returns
  have hts := atoms_spec (ws := wsX1_needNumber) B.pre
  have hown : s.vm.findClass RX1 = some m.cls := findClass_of_methodNamed B.named
  have hlocks := B.notSynchronized
  have hNF := hE.2.1.1
  have hl := lv_entry ([.int x]) (n := 5) (Nat.le_of_ble_eq_true rfl)
  rw [lg_entry_eq]
  generalize (lg_sl ([.int x]) ++ List.replicate (5 - (lg_sl ([.int x])).length) Slot.unset).toArray = ls at hl ⊢
  have hl : lv_has ls 5 [(0, .int x)] := hl
  refine va_gets (v := .ref na) hx hb hZ va_S.rf hown (hts (.fieldLink RX1 153 "LanternPrimes" "NUMBERS" "[I") (List.mem_of_getElem? (i := 3) rfl)) (fun _ h9 => h9) dX1_needNumber_0 ?_
  refine lv_astore_n (lv' := [(1, .ref na), (0, .int x)]) hx hb dX1_needNumber_3 rfl hl (by decide) rfl (fun ls hl => ?_)
  refine lv_aload_n hx hb dX1_needNumber_4 rfl (lv_at hl 0 rfl) ?_
  refine va_tlen hx hb hT va_S.rf (v := nI 6) rfl dX1_needNumber_5 ?_
  refine lv_istore_n (lv' := [(2, .int (nI 6)), (1, .ref na), (0, .int x)]) hx hb dX1_needNumber_6 rfl hl (by decide) rfl (fun ls hl => ?_)
  refine lv_iconst (v := nI 0) hx hb dX1_needNumber_7 (by decide) ?_
  refine lv_istore_n (lv' := [(3, .int (nI 0)), (2, .int (nI 6)), (1, .ref na), (0, .int x)]) hx hb dX1_needNumber_8 rfl hl (by decide) rfl (fun ls hl => ?_)
  have loop_9 : ∀ (fu : Nat) (k : Nat), 7 - k ≤ fu → k ≤ 6 → (∀ i, i < k → ¬ x = nI (NUMf i)) → ∀ (ls : Array Slot), lv_has ls 5 [(3, .int (nI k)), (2, .int (nI 6)), (1, .ref na), (0, .int x)] → W p l e (headSpec wsX1_needNumber ({ frames := 6, cells := 1, slots := 6, locals := 82 } : Room)).room s m [.int x].toArray below meth c s.heap [] 0 0 (vx_MQ below (QOkv (prB x = true)) (XC1 (fun E => E = tIAE ∧ prB x = false)) [.int x].toArray s 1 6 (fun _ => False)) (F0 m 9 ls []) := by
    intro fu
    induction fu with
    | zero => intro k hn_9 hk hno; exact absurd hn_9 (by omega)
    | succ fu ih_9 =>
      intro k hn_9 hk hno ls hl
      refine lv_iload_n hx hb dX1_needNumber_9 rfl (lv_at hl 0 rfl) ?_
      refine lv_iload_n hx hb dX1_needNumber_10 rfl (lv_at hl 1 rfl) ?_
      refine n_icmp_ge (a := k) (b := 6) (tgt := 32) hx hb (by omega) (by omega) dX1_needNumber_11 (by decide) (fun c_11 => ?_) (fun c_11 => ?_)
      · exact xthrow xIAE fIAE gIAE nIAE hx hb hst hown (hts (.classLink RX1 148 "java/lang/IllegalArgumentException") (List.mem_of_getElem? (i := 1) rfl)) (hts (.initialized "java/lang/IllegalArgumentException") (List.mem_of_getElem? (i := 2) rfl)) (List.mem_of_getElem? (i := 5) rfl) (fun w h => hts w (List.mem_cons_of_mem _ (List.mem_append_right _ h))) hE (hl.1.trans hml.symm) dX1_needNumber_32 dX1_needNumber_35 dX1_needNumber_36 dX1_needNumber_38 dX1_needNumber_41 hex (Nat.le_of_ble_eq_true rfl) (Nat.le_of_ble_eq_true rfl) (Nat.le_of_ble_eq_true rfl) (Nat.le_of_ble_eq_true rfl) hlocks ⟨rfl, by cases hpr : prB x with | false => rfl | true => obtain ⟨i, hi, hxi⟩ := prB_t.mp hpr; exact absurd hxi (hno i (by omega))⟩ (Nat.le_of_ble_eq_true rfl) (Nat.le_of_ble_eq_true rfl)
      · refine lv_aload_n hx hb dX1_needNumber_14 rfl (lv_at hl 2 rfl) ?_
        refine lv_iload_n hx hb dX1_needNumber_15 rfl (lv_at hl 0 rfl) ?_
        refine n_ti6 (j := k) hx hb hT va_S.rf (by omega) dX1_needNumber_16 ?_
        refine lv_istore (lv' := [(4, .int (nI (NUMf k))), (3, .int (nI k)), (2, .int (nI 6)), (1, .ref na), (0, .int x)]) hx hb dX1_needNumber_17 hl (by decide) rfl (fun ls hl => ?_)
        refine lv_iload_n hx hb dX1_needNumber_19 rfl (lv_at hl 4 rfl) ?_
        refine lv_iload hx hb dX1_needNumber_20 (lv_at hl 0 rfl) ?_
        refine lv_icmp_ne (tgt := 26) hx hb dX1_needNumber_22 (by decide) (fun c_22 => ?_) (fun c_22 => ?_)
        · refine lv_iinc (v := nI (k + 1)) (lv' := [(3, .int (nI (k + 1))), (4, .int (nI (NUMf k))), (2, .int (nI 6)), (1, .ref na), (0, .int x)]) hx hb dX1_needNumber_26 hl (k := 1) rfl (nI_inc _) (by decide) rfl (fun ls hl => ?_)
          refine lv_goto (tgt := 9) hx hb dX1_needNumber_29 (by decide) ?_
          exact ih_9 (k + 1) (by omega) (by omega) (fun i hi => if h : i < k then hno i h else by rw [show i = k by omega]; exact c_22) ls (lv_sub hl [0, 2, 3, 4] rfl)
        · refine vx_ret ?_
          refine W.widen (k := 1) (n := 6) (Nat.le_of_ble_eq_true rfl) (Nat.le_of_ble_eq_true rfl) ?_
          exact W.vret hx hb hr (fun t ht hW => ⟨(prB_t.mpr ⟨k, c_11, c_22⟩), rfl, ht⟩) (fun _ h => by cases h) dX1_needNumber_25
  exact loop_9 7 0 (by omega) (Nat.zero_le _) (fun i hi => absurd hi (by omega)) ls (lv_sub hl [0, 1, 2, 3] rfl)
set_option maxHeartbeats 4000000 in
set_option maxRecDepth 100000 in
/-- needOffset -/
theorem c_X1_needOffset (l : Launch) (D : va_G) (cI cZ cL cJ : ClassId) (hst : l.stackTraces = false) (o x : Int32) : vx_Met l yX1_needOffset wsX1_needOffset ({ frames := 6, cells := 1, slots := 6, locals := 82 } : Room) (PC D (TY cI cZ cL cJ) noA [.int o, .int x] (fun _ => True)) (QOkv (rgOk o x = true)) (XC1 (fun E => E = tIAE ∧ rgOk o x = false)) 1 6 (fun _ => False) := by
  refine vx_ofW (cc := cX1_needOffset) (maxL := 2) (ret := none) (by decide) rfl ?_
  intro p e s m args below meth c s₁ B hml hex hv
  obtain ⟨rfl, hK, hE, -⟩ := hv
  have hx := B.exec
  have hb := B.bytes
  have hr := B.returns
  have hts := atoms_spec (ws := wsX1_needOffset) B.pre
  have hown : s.vm.findClass RX1 = some m.cls := findClass_of_methodNamed B.named
  have hlocks := B.notSynchronized
  have hNF := hE.2.1.1
  have hl := lv_entry ([.int o, .int x]) (n := 2) (Nat.le_of_ble_eq_true rfl)
  rw [lg_entry_eq]
  generalize (lg_sl ([.int o, .int x]) ++ List.replicate (2 - (lg_sl ([.int o, .int x])).length) Slot.unset).toArray = ls at hl ⊢
  have hl : lv_has ls 2 [(0, .int o), (1, .int x)] := hl
  refine lv_iload_n hx hb dX1_needOffset_0 rfl (lv_at hl 0 rfl) ?_
  refine lv_if_lt (tgt := 9) hx hb dX1_needOffset_1 (by decide) (fun c_1 => ?_) (fun c_1 => ?_)
  · exact xthrow xIAE fIAE gIAE nIAE hx hb hst hown (hts (.classLink RX1 148 "java/lang/IllegalArgumentException") (List.mem_of_getElem? (i := 1) rfl)) (hts (.initialized "java/lang/IllegalArgumentException") (List.mem_of_getElem? (i := 2) rfl)) (List.mem_of_getElem? (i := 6) rfl) (fun w h => hts w (List.mem_cons_of_mem _ (List.mem_append_right _ h))) hE (hl.1.trans hml.symm) dX1_needOffset_9 dX1_needOffset_12 dX1_needOffset_13 dX1_needOffset_15 dX1_needOffset_18 hex (Nat.le_of_ble_eq_true rfl) (Nat.le_of_ble_eq_true rfl) (Nat.le_of_ble_eq_true rfl) (Nat.le_of_ble_eq_true rfl) hlocks ⟨rfl, by unfold rgOk; first | (rw [decide_eq_true c_1]; rfl) | (rw [decide_eq_false c_6]; exact Bool.and_false _)⟩ (Nat.le_of_ble_eq_true rfl) (Nat.le_of_ble_eq_true rfl)
  · refine lv_iload_n hx hb dX1_needOffset_4 rfl (lv_at hl 0 rfl) ?_
    refine lv_iload_n hx hb dX1_needOffset_5 rfl (lv_at hl 1 rfl) ?_
    refine lv_icmp_lt (tgt := 19) hx hb dX1_needOffset_6 (by decide) (fun c_6 => ?_) (fun c_6 => ?_)
    · refine vx_ret ?_
      refine W.widen (k := 1) (n := 6) (Nat.le_of_ble_eq_true rfl) (Nat.le_of_ble_eq_true rfl) ?_
      exact W.vret hx hb hr (fun t ht hW => ⟨(by unfold rgOk; rw [decide_eq_false c_1, decide_eq_true c_6]; rfl), rfl, ht⟩) (fun _ h => by cases h) dX1_needOffset_19
    · exact xthrow xIAE fIAE gIAE nIAE hx hb hst hown (hts (.classLink RX1 148 "java/lang/IllegalArgumentException") (List.mem_of_getElem? (i := 1) rfl)) (hts (.initialized "java/lang/IllegalArgumentException") (List.mem_of_getElem? (i := 2) rfl)) (List.mem_of_getElem? (i := 6) rfl) (fun w h => hts w (List.mem_cons_of_mem _ (List.mem_append_right _ h))) hE (hl.1.trans hml.symm) dX1_needOffset_9 dX1_needOffset_12 dX1_needOffset_13 dX1_needOffset_15 dX1_needOffset_18 hex (Nat.le_of_ble_eq_true rfl) (Nat.le_of_ble_eq_true rfl) (Nat.le_of_ble_eq_true rfl) (Nat.le_of_ble_eq_true rfl) hlocks ⟨rfl, by unfold rgOk; first | (rw [decide_eq_true c_1]; rfl) | (rw [decide_eq_false c_6]; exact Bool.and_false _)⟩ (Nat.le_of_ble_eq_true rfl) (Nat.le_of_ble_eq_true rfl)
set_option maxHeartbeats 4000000 in
set_option maxRecDepth 100000 in
/-- needMoment -/
theorem c_X1_needMoment (l : Launch) (D : va_G) (cI cZ cL cJ : ClassId) (hst : l.stackTraces = false) (x : Int32) : vx_Met l yX1_needMoment wsX1_needMoment ({ frames := 6, cells := 1, slots := 6, locals := 82 } : Room) (PC D (TY cI cZ cL cJ) noA [.int x] (fun _ => True)) (QOkv (inB (nI 0) (nI 60000) x = true)) (XC1 (fun E => E = tIAE ∧ inB (nI 0) (nI 60000) x = false)) 1 6 (fun _ => False) := by
  refine vx_ofW (cc := cX1_needMoment) (maxL := 1) (ret := none) (by decide) rfl ?_
  intro p e s m args below meth c s₁ B hml hex hv
  obtain ⟨rfl, hK, hE, -⟩ := hv
  have hx := B.exec
  have hb := B.bytes
  have hr := B.returns
  have hts := atoms_spec (ws := wsX1_needMoment) B.pre
  have hown : s.vm.findClass RX1 = some m.cls := findClass_of_methodNamed B.named
  have hlocks := B.notSynchronized
  have hNF := hE.2.1.1
  have hl := lv_entry ([.int x]) (n := 1) (Nat.le_of_ble_eq_true rfl)
  rw [lg_entry_eq]
  generalize (lg_sl ([.int x]) ++ List.replicate (1 - (lg_sl ([.int x])).length) Slot.unset).toArray = ls at hl ⊢
  have hl : lv_has ls 1 [(0, .int x)] := hl
  refine lv_iload_n hx hb dX1_needMoment_0 rfl (lv_at hl 0 rfl) ?_
  refine lv_if_lt (tgt := 10) hx hb dX1_needMoment_1 (by decide) (fun c_1 => ?_) (fun c_1 => ?_)
  · exact xthrow xIAE fIAE gIAE nIAE hx hb hst hown (hts (.classLink RX1 148 "java/lang/IllegalArgumentException") (List.mem_of_getElem? (i := 1) rfl)) (hts (.initialized "java/lang/IllegalArgumentException") (List.mem_of_getElem? (i := 2) rfl)) (List.mem_of_getElem? (i := 7) rfl) (fun w h => hts w (List.mem_cons_of_mem _ (List.mem_append_right _ h))) hE (hl.1.trans hml.symm) dX1_needMoment_10 dX1_needMoment_13 dX1_needMoment_14 dX1_needMoment_16 dX1_needMoment_19 hex (Nat.le_of_ble_eq_true rfl) (Nat.le_of_ble_eq_true rfl) (Nat.le_of_ble_eq_true rfl) (Nat.le_of_ble_eq_true rfl) hlocks ⟨rfl, by unfold inB; first | (rw [decide_eq_true (show x < nI 0 from c_1)]; rfl) | (rw [decide_eq_true (Int32.not_le.mp c_7)]; exact Bool.and_false _)⟩ (Nat.le_of_ble_eq_true rfl) (Nat.le_of_ble_eq_true rfl)
  · refine lv_iload_n hx hb dX1_needMoment_4 rfl (lv_at hl 0 rfl) ?_
    refine lv_ldc (v := nI 60000) hx hb hown (hts (.constant RX1 160 (60000)) (List.mem_of_getElem? (i := 3) rfl)) dX1_needMoment_5 ?_
    refine lv_icmp_le (tgt := 20) hx hb dX1_needMoment_7 (by decide) (fun c_7 => ?_) (fun c_7 => ?_)
    · refine vx_ret ?_
      refine W.widen (k := 1) (n := 6) (Nat.le_of_ble_eq_true rfl) (Nat.le_of_ble_eq_true rfl) ?_
      exact W.vret hx hb hr (fun t ht hW => ⟨(by unfold inB; rw [decide_eq_false (show ¬ x < nI 0 from c_1), decide_eq_false (Int32.not_lt.mpr c_7)]; rfl), rfl, ht⟩) (fun _ h => by cases h) dX1_needMoment_20
    · exact xthrow xIAE fIAE gIAE nIAE hx hb hst hown (hts (.classLink RX1 148 "java/lang/IllegalArgumentException") (List.mem_of_getElem? (i := 1) rfl)) (hts (.initialized "java/lang/IllegalArgumentException") (List.mem_of_getElem? (i := 2) rfl)) (List.mem_of_getElem? (i := 7) rfl) (fun w h => hts w (List.mem_cons_of_mem _ (List.mem_append_right _ h))) hE (hl.1.trans hml.symm) dX1_needMoment_10 dX1_needMoment_13 dX1_needMoment_14 dX1_needMoment_16 dX1_needMoment_19 hex (Nat.le_of_ble_eq_true rfl) (Nat.le_of_ble_eq_true rfl) (Nat.le_of_ble_eq_true rfl) (Nat.le_of_ble_eq_true rfl) hlocks ⟨rfl, by unfold inB; first | (rw [decide_eq_true (show x < nI 0 from c_1)]; rfl) | (rw [decide_eq_true (Int32.not_le.mp c_7)]; exact Bool.and_false _)⟩ (Nat.le_of_ble_eq_true rfl) (Nat.le_of_ble_eq_true rfl)
set_option maxHeartbeats 4000000 in
set_option maxRecDepth 100000 in
/-- needMoments -/
theorem c_X1_needMoments (l : Launch) (D : va_G) (cI cZ cL cJ : ClassId) (hst : l.stackTraces = false) (x mx : Int32) : vx_Met l yX1_needMoments wsX1_needMoments ({ frames := 6, cells := 1, slots := 6, locals := 82 } : Room) (PC D (TY cI cZ cL cJ) noA [.int x, .int mx] (fun _ => True)) (QOkv (inB (nI 1) mx x = true)) (XC1 (fun E => E = tIAE ∧ inB (nI 1) mx x = false)) 1 6 (fun _ => False) := by
  refine vx_ofW (cc := cX1_needMoments) (maxL := 2) (ret := none) (by decide) rfl ?_
  intro p e s m args below meth c s₁ B hml hex hv
  obtain ⟨rfl, hK, hE, -⟩ := hv
  have hx := B.exec
  have hb := B.bytes
  have hr := B.returns
  have hts := atoms_spec (ws := wsX1_needMoments) B.pre
  have hown : s.vm.findClass RX1 = some m.cls := findClass_of_methodNamed B.named
  have hlocks := B.notSynchronized
  have hNF := hE.2.1.1
  have hl := lv_entry ([.int x, .int mx]) (n := 2) (Nat.le_of_ble_eq_true rfl)
  rw [lg_entry_eq]
  generalize (lg_sl ([.int x, .int mx]) ++ List.replicate (2 - (lg_sl ([.int x, .int mx])).length) Slot.unset).toArray = ls at hl ⊢
  have hl : lv_has ls 2 [(0, .int x), (1, .int mx)] := hl
  refine lv_iload_n hx hb dX1_needMoments_0 rfl (lv_at hl 0 rfl) ?_
  refine lv_iconst (v := nI 1) hx hb dX1_needMoments_1 (by decide) ?_
  refine lv_icmp_lt (tgt := 10) hx hb dX1_needMoments_2 (by decide) (fun c_2 => ?_) (fun c_2 => ?_)
  · exact xthrow xIAE fIAE gIAE nIAE hx hb hst hown (hts (.classLink RX1 148 "java/lang/IllegalArgumentException") (List.mem_of_getElem? (i := 1) rfl)) (hts (.initialized "java/lang/IllegalArgumentException") (List.mem_of_getElem? (i := 2) rfl)) (List.mem_of_getElem? (i := 8) rfl) (fun w h => hts w (List.mem_cons_of_mem _ (List.mem_append_right _ h))) hE (hl.1.trans hml.symm) dX1_needMoments_10 dX1_needMoments_13 dX1_needMoments_14 dX1_needMoments_16 dX1_needMoments_19 hex (Nat.le_of_ble_eq_true rfl) (Nat.le_of_ble_eq_true rfl) (Nat.le_of_ble_eq_true rfl) (Nat.le_of_ble_eq_true rfl) hlocks ⟨rfl, by unfold inB; first | (rw [decide_eq_true c_2]; rfl) | (rw [decide_eq_true (Int32.not_le.mp c_7)]; exact Bool.and_false _)⟩ (Nat.le_of_ble_eq_true rfl) (Nat.le_of_ble_eq_true rfl)
  · refine lv_iload_n hx hb dX1_needMoments_5 rfl (lv_at hl 0 rfl) ?_
    refine lv_iload_n hx hb dX1_needMoments_6 rfl (lv_at hl 1 rfl) ?_
    refine lv_icmp_le (tgt := 20) hx hb dX1_needMoments_7 (by decide) (fun c_7 => ?_) (fun c_7 => ?_)
    · refine vx_ret ?_
      refine W.widen (k := 1) (n := 6) (Nat.le_of_ble_eq_true rfl) (Nat.le_of_ble_eq_true rfl) ?_
      exact W.vret hx hb hr (fun t ht hW => ⟨(by unfold inB; rw [decide_eq_false c_2, decide_eq_false (Int32.not_lt.mpr c_7)]; rfl), rfl, ht⟩) (fun _ h => by cases h) dX1_needMoments_20
    · exact xthrow xIAE fIAE gIAE nIAE hx hb hst hown (hts (.classLink RX1 148 "java/lang/IllegalArgumentException") (List.mem_of_getElem? (i := 1) rfl)) (hts (.initialized "java/lang/IllegalArgumentException") (List.mem_of_getElem? (i := 2) rfl)) (List.mem_of_getElem? (i := 8) rfl) (fun w h => hts w (List.mem_cons_of_mem _ (List.mem_append_right _ h))) hE (hl.1.trans hml.symm) dX1_needMoments_10 dX1_needMoments_13 dX1_needMoments_14 dX1_needMoments_16 dX1_needMoments_19 hex (Nat.le_of_ble_eq_true rfl) (Nat.le_of_ble_eq_true rfl) (Nat.le_of_ble_eq_true rfl) (Nat.le_of_ble_eq_true rfl) hlocks ⟨rfl, by unfold inB; first | (rw [decide_eq_true c_2]; rfl) | (rw [decide_eq_true (Int32.not_le.mp c_7)]; exact Bool.and_false _)⟩ (Nat.le_of_ble_eq_true rfl) (Nat.le_of_ble_eq_true rfl)
end
section
set_option maxHeartbeats 4000000 in
set_option maxRecDepth 100000 in
/-- changesOfLamps -/
theorem c_X1_changesOfLamps (l : Launch) (D : va_G) (cI cZ cL cJ : ClassId) (ad : Nat → Nat) (n now : Nat) (told : Int32) (v : Nat → LV) (hwf : WFX n now v) (t : Nat) (ht : t < 2 ^ 25) : Met l yX1_changesOfLamps wsX1_changesOfLamps ({ frames := 2, cells := 0, slots := 0, locals := 44 } : Room) (PC D (TY cI cZ cL cJ) noA [.ref (ad 0), .int (nI t)] (fun H => PX D cI cL ad n now told v H)) (QcRead (nI (chgN v n t))) 0 0 (fun _ => False) := by
  refine Met.ofW (cc := cX1_changesOfLamps) (maxL := 4) (ret := (some .int)) (by decide) rfl ?_
  intro p e s m args below meth c s₁ B hml hv
  obtain ⟨rfl, hK, hE, hP0, hPL⟩ := hv
  obtain ⟨hn8, hnow, hwl⟩ := hwf
  have hx := B.exec
  have hb := B.bytes
  have hr := B.returns
  have hts := atoms_spec (ws := wsX1_changesOfLamps) B.pre
  have hown : s.vm.findClass RX1 = some m.cls := findClass_of_methodNamed B.named
  have hlocks := B.notSynchronized
  have hNF := hE.2.1.1
  have hin0 : ∀ w ∈ wsX00, w ∈ wsX1_changesOfLamps := by decide +kernel
  have hin1 : ∀ w ∈ wsX10, w ∈ wsX1_changesOfLamps := by decide +kernel
  have hl := lv_entry ([.ref (ad 0), .int (nI t)]) (n := 4) (Nat.le_of_ble_eq_true rfl)
  rw [lg_entry_eq]
  generalize (lg_sl ([.ref (ad 0), .int (nI t)]) ++ List.replicate (4 - (lg_sl ([.ref (ad 0), .int (nI t)])).length) Slot.unset).toArray = ls at hl ⊢
  have hl : lv_has ls 4 [(0, .ref (ad 0)), (1, .int (nI t))] := hl
  refine lv_iconst (v := nI 0) hx hb dX1_changesOfLamps_0 (by decide) ?_
  refine lv_istore_n (lv' := [(2, .int (nI 0)), (0, .ref (ad 0)), (1, .int (nI t))]) hx hb dX1_changesOfLamps_1 rfl hl (by decide) rfl (fun ls hl => ?_)
  refine lv_iconst (v := nI 0) hx hb dX1_changesOfLamps_2 (by decide) ?_
  refine lv_istore_n (lv' := [(3, .int (nI 0)), (2, .int (nI 0)), (0, .ref (ad 0)), (1, .int (nI t))]) hx hb dX1_changesOfLamps_3 rfl hl (by decide) rfl (fun ls hl => ?_)
  have loop_4 : ∀ (fu : Nat) (j : Nat), n + 1 - j ≤ fu → j ≤ n → ∀ (ls : Array Slot), lv_has ls 4 [(3, .int (nI j)), (2, .int (nI (cnt (fun j => chgB (v j) t) j))), (0, .ref (ad 0)), (1, .int (nI t))] → W p l e (headSpec wsX1_changesOfLamps ({ frames := 2, cells := 0, slots := 0, locals := 44 } : Room)).room s m [.ref (ad 0), .int (nI t)].toArray below meth c s.heap [] 0 0 (MQ below (QcRead (nI (chgN v n t))) [.ref (ad 0), .int (nI t)].toArray s 0 0 (fun _ => False)) (F0 m 4 ls []) := by
    intro fu
    induction fu with
    | zero => intro j hn_4 hj; exact absurd hn_4 (by omega)
    | succ fu ih_4 =>
      intro j hn_4 hj ls hl
      refine lv_iload_n hx hb dX1_changesOfLamps_4 rfl (lv_at hl 0 rfl) ?_
      refine lv_aload_n hx hb dX1_changesOfLamps_5 rfl (lv_at hl 2 rfl) ?_
      refine va_get (D := D) (ci := 1) (v := .int (nI n)) (C := RX1) (T := TX1) (N := 5) hx hb hts hin1 hown hK hP0 0 rfl rfl 2 (by decide) (hts (.fieldLink RX1 20 "LanternPrimes" "lampCount" "I") (List.mem_of_getElem? (i := 1) rfl)) (fun _ h9 => h9) rfl dX1_changesOfLamps_6 ?_
      refine n_icmp_ge (a := j) (b := n) (tgt := 34) hx hb (by omega) (by omega) dX1_changesOfLamps_9 (by decide) (fun c_9 => ?_) (fun c_9 => ?_)
      · refine lv_iload_n hx hb dX1_changesOfLamps_34 rfl (lv_at hl 1 rfl) ?_
        refine n_ti (y := nI (chgN v n t)) (by rw [show j = n by omega]; rfl) ?_
        exact W.iret (v := nI (chgN v n t)) hx hb hr (fun t ht hW => ⟨rfl, ht⟩) (fun _ h => by cases h) dX1_changesOfLamps_35
      · refine lv_aload_n hx hb dX1_changesOfLamps_12 rfl (lv_at hl 2 rfl) ?_
        refine va_get (D := D) (ci := 1) (v := .ref (ad 1)) (C := RX1) (T := TX1) (N := 5) hx hb hts hin1 hown hK hP0 0 rfl rfl 0 (by decide) (hts (.fieldLink RX1 11 "LanternPrimes" "row" "[LLanternPrimes$Lamp;") (List.mem_of_getElem? (i := 2) rfl)) (fun _ h9 => h9) rfl dX1_changesOfLamps_13 ?_
        refine lv_iload_n hx hb dX1_changesOfLamps_16 rfl (lv_at hl 0 rfl) ?_
        refine n_aald (v := ad (2 + 3 * j)) (j := j) hx hb hK hP0 1 2 rfl rfl (by omega) (by decide) rfl dX1_changesOfLamps_17 ?_
        have hPj := hPL j (by omega)
        refine lv_iload_n hx hb dX1_changesOfLamps_18 rfl (lv_at hl 3 rfl) ?_
        refine rV (r := bI (chgB (v j) t)) (As := [.int (nI t)]) (rest := []) ⟨hx, hb, hml, hown, hts⟩ (c_X0_changesAt l D cI cZ cL cJ (ad (2 + 3 * j)) (ad (3 + 3 * j)) (ad (4 + 3 * j)) (v j) t ht (hwl j (by omega)).up) (cwV 1 hts gX1_changesOfLamps_X0_changesAt rfl rfl rfl (by decide +kernel) ⟨(Nat.le_of_ble_eq_true rfl), (Nat.le_of_ble_eq_true rfl)⟩) hK hE hPj (RC_of (q := (RX0, TX0, 5)) (ci := 0) hK rfl (vpa hPj 0 rfl)) rfl hl.1 rfl (Nat.le_of_ble_eq_true rfl) dX1_changesOfLamps_19 ⟨(Nat.le_of_ble_eq_true rfl), (Nat.le_of_ble_eq_true rfl)⟩ ?_
        refine b_if_eq (b := chgB (v j) t) (tgt := 28) hx hb dX1_changesOfLamps_22 (by decide) (fun c_22 => ?_) (fun c_22 => ?_)
        · have e_1 : cnt (fun j => chgB (v j) t) (j + 1) = cnt (fun j => chgB (v j) t) j := cnt_f c_22
          rw [← e_1] at hl
          refine lv_iinc (v := nI (j + 1)) (lv' := [(3, .int (nI (j + 1))), (2, .int (nI (cnt (fun j => chgB (v j) t) (j + 1)))), (0, .ref (ad 0)), (1, .int (nI t))]) hx hb dX1_changesOfLamps_28 hl (k := 0) rfl (nI_inc _) (by decide) rfl (fun ls hl => ?_)
          refine lv_goto (tgt := 4) hx hb dX1_changesOfLamps_31 (by decide) ?_
          exact ih_4 (j + 1) (by omega) (by omega) ls (lv_sub hl [0, 1, 2, 3] rfl)
        · have e_1 : cnt (fun j => chgB (v j) t) (j + 1) = cnt (fun j => chgB (v j) t) j + 1 := cnt_t c_22
          refine lv_iinc (v := nI (cnt (fun j => chgB (v j) t) (j + 1))) (lv' := [(2, .int (nI (cnt (fun j => chgB (v j) t) (j + 1)))), (3, .int (nI j)), (0, .ref (ad 0)), (1, .int (nI t))]) hx hb dX1_changesOfLamps_25 hl (k := 1) rfl (by rw [e_1]; exact nI_inc _) (by decide) rfl (fun ls hl => ?_)
          refine lv_iinc (v := nI (j + 1)) (lv' := [(3, .int (nI (j + 1))), (2, .int (nI (cnt (fun j => chgB (v j) t) (j + 1)))), (0, .ref (ad 0)), (1, .int (nI t))]) hx hb dX1_changesOfLamps_28 hl (k := 1) rfl (nI_inc _) (by decide) rfl (fun ls hl => ?_)
          refine lv_goto (tgt := 4) hx hb dX1_changesOfLamps_31 (by decide) ?_
          exact ih_4 (j + 1) (by omega) (by omega) ls (lv_sub hl [0, 1, 2, 3] rfl)
  exact loop_4 (n + 1) 0 (by omega) (Nat.zero_le _) ls (lv_sub hl [0, 1, 2, 3] rfl)
set_option maxHeartbeats 4000000 in
set_option maxRecDepth 100000 in
/-- litCount -/
theorem c_X1_litCount (l : Launch) (D : va_G) (cI cZ cL cJ : ClassId) (ad : Nat → Nat) (n now : Nat) (told : Int32) (v : Nat → LV) (hwf : WFX n now v) (t : Nat) (ht : t < 2 ^ 25) : Met l yX1_litCount wsX1_litCount ({ frames := 3, cells := 0, slots := 0, locals := 66 } : Room) (PC D (TY cI cZ cL cJ) noA [.ref (ad 0), .int (nI t)] (fun H => PX D cI cL ad n now told v H)) (QcRead (nI (litN v n t))) 0 0 (fun _ => False) := by
  refine Met.ofW (cc := cX1_litCount) (maxL := 4) (ret := (some .int)) (by decide) rfl ?_
  intro p e s m args below meth c s₁ B hml hv
  obtain ⟨rfl, hK, hE, hP0, hPL⟩ := hv
  obtain ⟨hn8, hnow, hwl⟩ := hwf
  have hx := B.exec
  have hb := B.bytes
  have hr := B.returns
  have hts := atoms_spec (ws := wsX1_litCount) B.pre
  have hown : s.vm.findClass RX1 = some m.cls := findClass_of_methodNamed B.named
  have hlocks := B.notSynchronized
  have hNF := hE.2.1.1
  have hin0 : ∀ w ∈ wsX00, w ∈ wsX1_litCount := by decide +kernel
  have hin1 : ∀ w ∈ wsX10, w ∈ wsX1_litCount := by decide +kernel
  have hl := lv_entry ([.ref (ad 0), .int (nI t)]) (n := 4) (Nat.le_of_ble_eq_true rfl)
  rw [lg_entry_eq]
  generalize (lg_sl ([.ref (ad 0), .int (nI t)]) ++ List.replicate (4 - (lg_sl ([.ref (ad 0), .int (nI t)])).length) Slot.unset).toArray = ls at hl ⊢
  have hl : lv_has ls 4 [(0, .ref (ad 0)), (1, .int (nI t))] := hl
  refine lv_iconst (v := nI 0) hx hb dX1_litCount_0 (by decide) ?_
  refine lv_istore_n (lv' := [(2, .int (nI 0)), (0, .ref (ad 0)), (1, .int (nI t))]) hx hb dX1_litCount_1 rfl hl (by decide) rfl (fun ls hl => ?_)
  refine lv_iconst (v := nI 0) hx hb dX1_litCount_2 (by decide) ?_
  refine lv_istore_n (lv' := [(3, .int (nI 0)), (2, .int (nI 0)), (0, .ref (ad 0)), (1, .int (nI t))]) hx hb dX1_litCount_3 rfl hl (by decide) rfl (fun ls hl => ?_)
  have loop_4 : ∀ (fu : Nat) (j : Nat), n + 1 - j ≤ fu → j ≤ n → ∀ (ls : Array Slot), lv_has ls 4 [(3, .int (nI j)), (2, .int (nI (cnt (fun j => litB (v j) t) j))), (0, .ref (ad 0)), (1, .int (nI t))] → W p l e (headSpec wsX1_litCount ({ frames := 3, cells := 0, slots := 0, locals := 66 } : Room)).room s m [.ref (ad 0), .int (nI t)].toArray below meth c s.heap [] 0 0 (MQ below (QcRead (nI (litN v n t))) [.ref (ad 0), .int (nI t)].toArray s 0 0 (fun _ => False)) (F0 m 4 ls []) := by
    intro fu
    induction fu with
    | zero => intro j hn_4 hj; exact absurd hn_4 (by omega)
    | succ fu ih_4 =>
      intro j hn_4 hj ls hl
      refine lv_iload_n hx hb dX1_litCount_4 rfl (lv_at hl 0 rfl) ?_
      refine lv_aload_n hx hb dX1_litCount_5 rfl (lv_at hl 2 rfl) ?_
      refine va_get (D := D) (ci := 1) (v := .int (nI n)) (C := RX1) (T := TX1) (N := 5) hx hb hts hin1 hown hK hP0 0 rfl rfl 2 (by decide) (hts (.fieldLink RX1 20 "LanternPrimes" "lampCount" "I") (List.mem_of_getElem? (i := 1) rfl)) (fun _ h9 => h9) rfl dX1_litCount_6 ?_
      refine n_icmp_ge (a := j) (b := n) (tgt := 34) hx hb (by omega) (by omega) dX1_litCount_9 (by decide) (fun c_9 => ?_) (fun c_9 => ?_)
      · refine lv_iload_n hx hb dX1_litCount_34 rfl (lv_at hl 1 rfl) ?_
        refine n_ti (y := nI (litN v n t)) (by rw [show j = n by omega]; rfl) ?_
        exact W.iret (v := nI (litN v n t)) hx hb hr (fun t ht hW => ⟨rfl, ht⟩) (fun _ h => by cases h) dX1_litCount_35
      · refine lv_aload_n hx hb dX1_litCount_12 rfl (lv_at hl 2 rfl) ?_
        refine va_get (D := D) (ci := 1) (v := .ref (ad 1)) (C := RX1) (T := TX1) (N := 5) hx hb hts hin1 hown hK hP0 0 rfl rfl 0 (by decide) (hts (.fieldLink RX1 11 "LanternPrimes" "row" "[LLanternPrimes$Lamp;") (List.mem_of_getElem? (i := 2) rfl)) (fun _ h9 => h9) rfl dX1_litCount_13 ?_
        refine lv_iload_n hx hb dX1_litCount_16 rfl (lv_at hl 0 rfl) ?_
        refine n_aald (v := ad (2 + 3 * j)) (j := j) hx hb hK hP0 1 2 rfl rfl (by omega) (by decide) rfl dX1_litCount_17 ?_
        have hPj := hPL j (by omega)
        refine lv_iload_n hx hb dX1_litCount_18 rfl (lv_at hl 3 rfl) ?_
        refine rV (r := bI (litB (v j) t)) (As := [.int (nI t)]) (rest := []) ⟨hx, hb, hml, hown, hts⟩ (c_X0_litAt l D cI cZ cL cJ (ad (2 + 3 * j)) (ad (3 + 3 * j)) (ad (4 + 3 * j)) (v j) t ht (hwl j (by omega)).up) (cwV 1 hts gX1_litCount_X0_litAt rfl rfl rfl (by decide +kernel) ⟨(Nat.le_of_ble_eq_true rfl), (Nat.le_of_ble_eq_true rfl)⟩) hK hE hPj (RC_of (q := (RX0, TX0, 5)) (ci := 0) hK rfl (vpa hPj 0 rfl)) rfl hl.1 rfl (Nat.le_of_ble_eq_true rfl) dX1_litCount_19 ⟨(Nat.le_of_ble_eq_true rfl), (Nat.le_of_ble_eq_true rfl)⟩ ?_
        refine b_if_eq (b := litB (v j) t) (tgt := 28) hx hb dX1_litCount_22 (by decide) (fun c_22 => ?_) (fun c_22 => ?_)
        · have e_1 : cnt (fun j => litB (v j) t) (j + 1) = cnt (fun j => litB (v j) t) j := cnt_f c_22
          rw [← e_1] at hl
          refine lv_iinc (v := nI (j + 1)) (lv' := [(3, .int (nI (j + 1))), (2, .int (nI (cnt (fun j => litB (v j) t) (j + 1)))), (0, .ref (ad 0)), (1, .int (nI t))]) hx hb dX1_litCount_28 hl (k := 0) rfl (nI_inc _) (by decide) rfl (fun ls hl => ?_)
          refine lv_goto (tgt := 4) hx hb dX1_litCount_31 (by decide) ?_
          exact ih_4 (j + 1) (by omega) (by omega) ls (lv_sub hl [0, 1, 2, 3] rfl)
        · have e_1 : cnt (fun j => litB (v j) t) (j + 1) = cnt (fun j => litB (v j) t) j + 1 := cnt_t c_22
          refine lv_iinc (v := nI (cnt (fun j => litB (v j) t) (j + 1))) (lv' := [(2, .int (nI (cnt (fun j => litB (v j) t) (j + 1)))), (3, .int (nI j)), (0, .ref (ad 0)), (1, .int (nI t))]) hx hb dX1_litCount_25 hl (k := 1) rfl (by rw [e_1]; exact nI_inc _) (by decide) rfl (fun ls hl => ?_)
          refine lv_iinc (v := nI (j + 1)) (lv' := [(3, .int (nI (j + 1))), (2, .int (nI (cnt (fun j => litB (v j) t) (j + 1)))), (0, .ref (ad 0)), (1, .int (nI t))]) hx hb dX1_litCount_28 hl (k := 1) rfl (nI_inc _) (by decide) rfl (fun ls hl => ?_)
          refine lv_goto (tgt := 4) hx hb dX1_litCount_31 (by decide) ?_
          exact ih_4 (j + 1) (by omega) (by omega) ls (lv_sub hl [0, 1, 2, 3] rfl)
  exact loop_4 (n + 1) 0 (by omega) (Nat.zero_le _) ls (lv_sub hl [0, 1, 2, 3] rfl)
set_option maxHeartbeats 4000000 in
set_option maxRecDepth 100000 in
/-- darkAt -/
theorem c_X1_darkAt (l : Launch) (D : va_G) (cI cZ cL cJ : ClassId) (ad : Nat → Nat) (n now : Nat) (told : Int32) (v : Nat → LV) (hwf : WFX n now v) (t : Nat) (ht : t < 2 ^ 25) (x : Int32) : Met l yX1_darkAt wsX1_darkAt ({ frames := 3, cells := 0, slots := 0, locals := 66 } : Room) (PC D (TY cI cZ cL cJ) noA [.ref (ad 0), .int (nI t), .int x] (fun H => PX D cI cL ad n now told v H)) (QcRead (bI (dkB v n x t))) 0 0 (fun _ => False) := by
  refine Met.ofW (cc := cX1_darkAt) (maxL := 4) (ret := (some .boolean)) (by decide) rfl ?_
  intro p e s m args below meth c s₁ B hml hv
  obtain ⟨rfl, hK, hE, hP0, hPL⟩ := hv
  obtain ⟨hn8, hnow, hwl⟩ := hwf
  have hx := B.exec
  have hb := B.bytes
  have hr := B.returns
  have hts := atoms_spec (ws := wsX1_darkAt) B.pre
  have hown : s.vm.findClass RX1 = some m.cls := findClass_of_methodNamed B.named
  have hlocks := B.notSynchronized
  have hNF := hE.2.1.1
  have hin0 : ∀ w ∈ wsX00, w ∈ wsX1_darkAt := by decide +kernel
  have hin1 : ∀ w ∈ wsX10, w ∈ wsX1_darkAt := by decide +kernel
  have hl := lv_entry ([.ref (ad 0), .int (nI t), .int x]) (n := 4) (Nat.le_of_ble_eq_true rfl)
  rw [lg_entry_eq]
  generalize (lg_sl ([.ref (ad 0), .int (nI t), .int x]) ++ List.replicate (4 - (lg_sl ([.ref (ad 0), .int (nI t), .int x])).length) Slot.unset).toArray = ls at hl ⊢
  have hl : lv_has ls 4 [(0, .ref (ad 0)), (1, .int (nI t)), (2, .int x)] := hl
  refine lv_iconst (v := nI 0) hx hb dX1_darkAt_0 (by decide) ?_
  refine lv_istore_n (lv' := [(3, .int (nI 0)), (0, .ref (ad 0)), (1, .int (nI t)), (2, .int x)]) hx hb dX1_darkAt_1 rfl hl (by decide) rfl (fun ls hl => ?_)
  have loop_2 : ∀ (fu : Nat) (j : Nat), n + 1 - j ≤ fu → j ≤ n → cnt (ltB v x t) j = 0 → ∀ (ls : Array Slot), lv_has ls 4 [(3, .int (nI j)), (0, .ref (ad 0)), (1, .int (nI t)), (2, .int x)] → W p l e (headSpec wsX1_darkAt ({ frames := 3, cells := 0, slots := 0, locals := 66 } : Room)).room s m [.ref (ad 0), .int (nI t), .int x].toArray below meth c s.heap [] 0 0 (MQ below (QcRead (bI (dkB v n x t))) [.ref (ad 0), .int (nI t), .int x].toArray s 0 0 (fun _ => False)) (F0 m 2 ls []) := by
    intro fu
    induction fu with
    | zero => intro j hn_2 hj h0; exact absurd hn_2 (by omega)
    | succ fu ih_2 =>
      intro j hn_2 hj h0 ls hl
      refine lv_iload_n hx hb dX1_darkAt_2 rfl (lv_at hl 0 rfl) ?_
      refine lv_aload_n hx hb dX1_darkAt_3 rfl (lv_at hl 1 rfl) ?_
      refine va_get (D := D) (ci := 1) (v := .int (nI n)) (C := RX1) (T := TX1) (N := 5) hx hb hts hin1 hown hK hP0 0 rfl rfl 2 (by decide) (hts (.fieldLink RX1 20 "LanternPrimes" "lampCount" "I") (List.mem_of_getElem? (i := 1) rfl)) (fun _ h9 => h9) rfl dX1_darkAt_4 ?_
      refine n_icmp_ge (a := j) (b := n) (tgt := 36) hx hb (by omega) (by omega) dX1_darkAt_7 (by decide) (fun c_7 => ?_) (fun c_7 => ?_)
      · refine lv_iconst (v := nI 1) hx hb dX1_darkAt_36 (by decide) ?_
        refine n_ti (y := bI (dkB v n x t)) (by rw [show j = n by omega] at h0; unfold dkB ltN; rw [decide_eq_true h0]; rfl) ?_
        exact W.zret (v := bI (dkB v n x t)) hx hb hr (bI_narrow _) (fun t ht hW => ⟨rfl, ht⟩) (fun _ h => by cases h) dX1_darkAt_37
      · refine lv_iload_n hx hb dX1_darkAt_10 rfl (lv_at hl 0 rfl) ?_
        refine lv_iload_n hx hb dX1_darkAt_11 rfl (lv_at hl 3 rfl) ?_
        refine lv_icmp_eq (tgt := 30) hx hb dX1_darkAt_12 (by decide) (fun c_12 => ?_) (fun c_12 => ?_)
        · have e_1 : cnt (ltB v x t) (j + 1) = 0 := by rw [cnt_f (by unfold ltB; rw [decide_eq_true c_12]; rfl)]; exact h0
          refine lv_iinc (v := nI (j + 1)) (lv' := [(3, .int (nI (j + 1))), (0, .ref (ad 0)), (1, .int (nI t)), (2, .int x)]) hx hb dX1_darkAt_30 hl (k := 0) rfl (nI_inc _) (by decide) rfl (fun ls hl => ?_)
          refine lv_goto (tgt := 2) hx hb dX1_darkAt_33 (by decide) ?_
          exact ih_2 (j + 1) (by omega) (by omega) e_1 ls (lv_sub hl [0, 1, 2, 3] rfl)
        · refine lv_aload_n hx hb dX1_darkAt_15 rfl (lv_at hl 1 rfl) ?_
          refine va_get (D := D) (ci := 1) (v := .ref (ad 1)) (C := RX1) (T := TX1) (N := 5) hx hb hts hin1 hown hK hP0 0 rfl rfl 0 (by decide) (hts (.fieldLink RX1 11 "LanternPrimes" "row" "[LLanternPrimes$Lamp;") (List.mem_of_getElem? (i := 2) rfl)) (fun _ h9 => h9) rfl dX1_darkAt_16 ?_
          refine lv_iload_n hx hb dX1_darkAt_19 rfl (lv_at hl 0 rfl) ?_
          refine n_aald (v := ad (2 + 3 * j)) (j := j) hx hb hK hP0 1 2 rfl rfl (by omega) (by decide) rfl dX1_darkAt_20 ?_
          have hPj := hPL j (by omega)
          refine lv_iload_n hx hb dX1_darkAt_21 rfl (lv_at hl 2 rfl) ?_
          refine rV (r := bI (litB (v j) t)) (As := [.int (nI t)]) (rest := []) ⟨hx, hb, hml, hown, hts⟩ (c_X0_litAt l D cI cZ cL cJ (ad (2 + 3 * j)) (ad (3 + 3 * j)) (ad (4 + 3 * j)) (v j) t ht (hwl j (by omega)).up) (cwV 1 hts gX1_darkAt_X0_litAt rfl rfl rfl (by decide +kernel) ⟨(Nat.le_of_ble_eq_true rfl), (Nat.le_of_ble_eq_true rfl)⟩) hK hE hPj (RC_of (q := (RX0, TX0, 5)) (ci := 0) hK rfl (vpa hPj 0 rfl)) rfl hl.1 rfl (Nat.le_of_ble_eq_true rfl) dX1_darkAt_22 ⟨(Nat.le_of_ble_eq_true rfl), (Nat.le_of_ble_eq_true rfl)⟩ ?_
          refine b_if_eq (b := litB (v j) t) (tgt := 30) hx hb dX1_darkAt_25 (by decide) (fun c_25 => ?_) (fun c_25 => ?_)
          · have e_1 : cnt (ltB v x t) (j + 1) = 0 := by rw [cnt_f (by unfold ltB; rw [c_25]; exact Bool.and_false _)]; exact h0
            refine lv_iinc (v := nI (j + 1)) (lv' := [(3, .int (nI (j + 1))), (0, .ref (ad 0)), (1, .int (nI t)), (2, .int x)]) hx hb dX1_darkAt_30 hl (k := 0) rfl (nI_inc _) (by decide) rfl (fun ls hl => ?_)
            refine lv_goto (tgt := 2) hx hb dX1_darkAt_33 (by decide) ?_
            exact ih_2 (j + 1) (by omega) (by omega) e_1 ls (lv_sub hl [0, 1, 2, 3] rfl)
          · refine lv_iconst (v := nI 0) hx hb dX1_darkAt_28 (by decide) ?_
            refine n_ti (y := bI (dkB v n x t)) (by have e_1 : 1 ≤ cnt (ltB v x t) (j + 1) := (by rw [cnt_t (by unfold ltB; rw [decide_eq_false c_12, c_25]; rfl)]; omega); have e_2 := cnt_mono (ltB v x t) (show j + 1 ≤ n by omega); unfold dkB ltN; rw [decide_eq_false (by omega)]; rfl) ?_
            exact W.zret (v := bI (dkB v n x t)) hx hb hr (bI_narrow _) (fun t ht hW => ⟨rfl, ht⟩) (fun _ h => by cases h) dX1_darkAt_29
  exact loop_2 (n + 1) 0 (by omega) (Nat.zero_le _) rfl ls (lv_sub hl [0, 1, 2, 3] rfl)
set_option maxHeartbeats 4000000 in
set_option maxRecDepth 100000 in
/-- darkMoments -/
theorem c_X1_darkMoments (l : Launch) (D : va_G) (cI cZ cL cJ : ClassId) (ad : Nat → Nat) (n now : Nat) (told : Int32) (v : Nat → LV) (hwf : WFX n now v) (k : Nat) (hk : k ≤ 500) (x : Int32) : Met l yX1_darkMoments wsX1_darkMoments ({ frames := 4, cells := 0, slots := 0, locals := 89 } : Room) (PC D (TY cI cZ cL cJ) noA [.ref (ad 0), .int (nI k), .int x] (fun H => PX D cI cL ad n now told v H)) (QcRead (nI (dkN v n now x k))) 0 0 (fun _ => False) := by
  refine Met.ofW (cc := cX1_darkMoments) (maxL := 5) (ret := (some .int)) (by decide) rfl ?_
  intro p e s m args below meth c s₁ B hml hv
  obtain ⟨rfl, hK, hE, hP0, hPL⟩ := hv
  obtain ⟨hn8, hnow, hwl⟩ := hwf
  have hx := B.exec
  have hb := B.bytes
  have hr := B.returns
  have hts := atoms_spec (ws := wsX1_darkMoments) B.pre
  have hown : s.vm.findClass RX1 = some m.cls := findClass_of_methodNamed B.named
  have hlocks := B.notSynchronized
  have hNF := hE.2.1.1
  have hin0 : ∀ w ∈ wsX00, w ∈ wsX1_darkMoments := by decide +kernel
  have hin1 : ∀ w ∈ wsX10, w ∈ wsX1_darkMoments := by decide +kernel
  have hl := lv_entry ([.ref (ad 0), .int (nI k), .int x]) (n := 5) (Nat.le_of_ble_eq_true rfl)
  rw [lg_entry_eq]
  generalize (lg_sl ([.ref (ad 0), .int (nI k), .int x]) ++ List.replicate (5 - (lg_sl ([.ref (ad 0), .int (nI k), .int x])).length) Slot.unset).toArray = ls at hl ⊢
  have hl : lv_has ls 5 [(0, .ref (ad 0)), (1, .int (nI k)), (2, .int x)] := hl
  refine lv_iconst (v := nI 0) hx hb dX1_darkMoments_0 (by decide) ?_
  refine lv_istore_n (lv' := [(3, .int (nI 0)), (0, .ref (ad 0)), (1, .int (nI k)), (2, .int x)]) hx hb dX1_darkMoments_1 rfl hl (by decide) rfl (fun ls hl => ?_)
  refine lv_iconst (v := nI 1) hx hb dX1_darkMoments_2 (by decide) ?_
  refine lv_istore (lv' := [(4, .int (nI 1)), (3, .int (nI 0)), (0, .ref (ad 0)), (1, .int (nI k)), (2, .int x)]) hx hb dX1_darkMoments_3 hl (by decide) rfl (fun ls hl => ?_)
  have loop_5 : ∀ (fu : Nat) (q : Nat), k + 1 - q ≤ fu → q ≤ k → ∀ (ls : Array Slot), lv_has ls 5 [(4, .int (nI (q + 1))), (3, .int (nI (cnt (fun s => dkB v n x (now + (s + 1))) q))), (0, .ref (ad 0)), (1, .int (nI k)), (2, .int x)] → W p l e (headSpec wsX1_darkMoments ({ frames := 4, cells := 0, slots := 0, locals := 89 } : Room)).room s m [.ref (ad 0), .int (nI k), .int x].toArray below meth c s.heap [] 0 0 (MQ below (QcRead (nI (dkN v n now x k))) [.ref (ad 0), .int (nI k), .int x].toArray s 0 0 (fun _ => False)) (F0 m 5 ls []) := by
    intro fu
    induction fu with
    | zero => intro q hn_5 hq; exact absurd hn_5 (by omega)
    | succ fu ih_5 =>
      intro q hn_5 hq ls hl
      refine lv_iload hx hb dX1_darkMoments_5 (lv_at hl 0 rfl) ?_
      refine lv_iload_n hx hb dX1_darkMoments_7 rfl (lv_at hl 3 rfl) ?_
      refine n_icmp_gt (a := q + 1) (b := k) (tgt := 35) hx hb (by omega) (by omega) dX1_darkMoments_8 (by decide) (fun c_8 => ?_) (fun c_8 => ?_)
      · refine lv_iload_n hx hb dX1_darkMoments_35 rfl (lv_at hl 1 rfl) ?_
        refine n_ti (y := nI (dkN v n now x k)) (by rw [show q = k by omega]; rfl) ?_
        exact W.iret (v := nI (dkN v n now x k)) hx hb hr (fun t ht hW => ⟨rfl, ht⟩) (fun _ h => by cases h) dX1_darkMoments_36
      · refine lv_aload_n hx hb dX1_darkMoments_11 rfl (lv_at hl 2 rfl) ?_
        refine lv_aload_n hx hb dX1_darkMoments_12 rfl (lv_at hl 2 rfl) ?_
        refine va_get (D := D) (ci := 1) (v := .int (nI now)) (C := RX1) (T := TX1) (N := 5) hx hb hts hin1 hown hK hP0 0 rfl rfl 3 (by decide) (hts (.fieldLink RX1 73 "LanternPrimes" "present" "I") (List.mem_of_getElem? (i := 1) rfl)) (fun _ h9 => h9) rfl dX1_darkMoments_13 ?_
        refine lv_iload hx hb dX1_darkMoments_16 (lv_at hl 0 rfl) ?_
        refine n_iadd (v := nI (now + (q + 1))) hx hb dX1_darkMoments_18 (nI_add _ _) ?_
        refine lv_iload_n hx hb dX1_darkMoments_19 rfl (lv_at hl 4 rfl) ?_
        refine rV (r := bI (dkB v n x (now + (q + 1)))) (As := [.int (nI (now + (q + 1))), .int x]) (rest := []) ⟨hx, hb, hml, hown, hts⟩ (c_X1_darkAt l D cI cZ cL cJ ad n now told v ⟨hn8, hnow, hwl⟩ (now + (q + 1)) (by omega) x) (cwV 2 hts gX1_darkMoments_X1_darkAt rfl rfl rfl (by decide +kernel) ⟨(Nat.le_of_ble_eq_true rfl), (Nat.le_of_ble_eq_true rfl)⟩) hK hE ⟨hP0, hPL⟩ (RC_of (q := (RX1, TX1, 5)) (ci := 1) hK rfl (vpa hP0 0 rfl)) rfl hl.1 rfl (Nat.le_of_ble_eq_true rfl) dX1_darkMoments_20 ⟨(Nat.le_of_ble_eq_true rfl), (Nat.le_of_ble_eq_true rfl)⟩ ?_
        refine b_if_eq (b := dkB v n x (now + (q + 1))) (tgt := 29) hx hb dX1_darkMoments_23 (by decide) (fun c_23 => ?_) (fun c_23 => ?_)
        · have e_1 : cnt (fun s => dkB v n x (now + (s + 1))) (q + 1) = cnt (fun s => dkB v n x (now + (s + 1))) q := cnt_f (f := (fun s => dkB v n x (now + (s + 1)))) c_23
          rw [← e_1] at hl
          refine lv_iinc (v := nI ((q + 1) + 1)) (lv' := [(4, .int (nI ((q + 1) + 1))), (3, .int (nI (cnt (fun s => dkB v n x (now + (s + 1))) (q + 1)))), (0, .ref (ad 0)), (1, .int (nI k)), (2, .int x)]) hx hb dX1_darkMoments_29 hl (k := 0) rfl (nI_inc _) (by decide) rfl (fun ls hl => ?_)
          refine lv_goto (tgt := 5) hx hb dX1_darkMoments_32 (by decide) ?_
          exact ih_5 (q + 1) (by omega) (by omega) ls (lv_sub hl [0, 1, 2, 3, 4] rfl)
        · have e_1 : cnt (fun s => dkB v n x (now + (s + 1))) (q + 1) = cnt (fun s => dkB v n x (now + (s + 1))) q + 1 := cnt_t (f := (fun s => dkB v n x (now + (s + 1)))) c_23
          refine lv_iinc (v := nI (cnt (fun s => dkB v n x (now + (s + 1))) (q + 1))) (lv' := [(3, .int (nI (cnt (fun s => dkB v n x (now + (s + 1))) (q + 1)))), (4, .int (nI (q + 1))), (0, .ref (ad 0)), (1, .int (nI k)), (2, .int x)]) hx hb dX1_darkMoments_26 hl (k := 1) rfl (by rw [e_1]; exact nI_inc _) (by decide) rfl (fun ls hl => ?_)
          refine lv_iinc (v := nI ((q + 1) + 1)) (lv' := [(4, .int (nI ((q + 1) + 1))), (3, .int (nI (cnt (fun s => dkB v n x (now + (s + 1))) (q + 1)))), (0, .ref (ad 0)), (1, .int (nI k)), (2, .int x)]) hx hb dX1_darkMoments_29 hl (k := 1) rfl (nI_inc _) (by decide) rfl (fun ls hl => ?_)
          refine lv_goto (tgt := 5) hx hb dX1_darkMoments_32 (by decide) ?_
          exact ih_5 (q + 1) (by omega) (by omega) ls (lv_sub hl [0, 1, 2, 3, 4] rfl)
  exact loop_5 (k + 1) 0 (by omega) (Nat.zero_le _) ls (lv_sub hl [0, 1, 2, 3, 4] rfl)
set_option maxHeartbeats 4000000 in
set_option maxRecDepth 100000 in
/-- collideAt -/
theorem c_X1_collideAt (l : Launch) (D : va_G) (cI cZ cL cJ : ClassId) (ad : Nat → Nat) (n now : Nat) (told : Int32) (v : Nat → LV) (hwf : WFX n now v) (i j t : Nat) (hi : i < n) (hj : j < n) (ht : t < 2 ^ 25) : Met l yX1_collideAt wsX1_collideAt ({ frames := 2, cells := 0, slots := 0, locals := 44 } : Room) (PC D (TY cI cZ cL cJ) noA [.ref (ad 0), .int (nI i), .int (nI j), .int (nI t)] (fun H => PX D cI cL ad n now told v H)) (QcRead (bI (colB v i j t))) 0 0 (fun _ => False) := by
  refine Met.ofW (cc := cX1_collideAt) (maxL := 4) (ret := (some .boolean)) (by decide) rfl ?_
  intro p e s m args below meth c s₁ B hml hv
  obtain ⟨rfl, hK, hE, hP0, hPL⟩ := hv
  obtain ⟨hn8, hnow, hwl⟩ := hwf
  have hx := B.exec
  have hb := B.bytes
  have hr := B.returns
  have hts := atoms_spec (ws := wsX1_collideAt) B.pre
  have hown : s.vm.findClass RX1 = some m.cls := findClass_of_methodNamed B.named
  have hlocks := B.notSynchronized
  have hNF := hE.2.1.1
  have hin0 : ∀ w ∈ wsX00, w ∈ wsX1_collideAt := by decide +kernel
  have hin1 : ∀ w ∈ wsX10, w ∈ wsX1_collideAt := by decide +kernel
  have hl := lv_entry ([.ref (ad 0), .int (nI i), .int (nI j), .int (nI t)]) (n := 4) (Nat.le_of_ble_eq_true rfl)
  rw [lg_entry_eq]
  generalize (lg_sl ([.ref (ad 0), .int (nI i), .int (nI j), .int (nI t)]) ++ List.replicate (4 - (lg_sl ([.ref (ad 0), .int (nI i), .int (nI j), .int (nI t)])).length) Slot.unset).toArray = ls at hl ⊢
  have hl : lv_has ls 4 [(0, .ref (ad 0)), (1, .int (nI i)), (2, .int (nI j)), (3, .int (nI t))] := hl
  refine lv_aload_n hx hb dX1_collideAt_0 rfl (lv_at hl 0 rfl) ?_
  refine va_get (D := D) (ci := 1) (v := .ref (ad 1)) (C := RX1) (T := TX1) (N := 5) hx hb hts hin1 hown hK hP0 0 rfl rfl 0 (by decide) (hts (.fieldLink RX1 11 "LanternPrimes" "row" "[LLanternPrimes$Lamp;") (List.mem_of_getElem? (i := 1) rfl)) (fun _ h9 => h9) rfl dX1_collideAt_1 ?_
  refine lv_iload_n hx hb dX1_collideAt_4 rfl (lv_at hl 1 rfl) ?_
  refine n_aald (v := ad (2 + 3 * i)) (j := i) hx hb hK hP0 1 2 rfl rfl (by omega) (by decide) rfl dX1_collideAt_5 ?_
  have hPi := hPL i (by omega)
  refine lv_iload_n hx hb dX1_collideAt_6 rfl (lv_at hl 3 rfl) ?_
  refine rV (r := bI (chgB (v i) t)) (As := [.int (nI t)]) (rest := []) ⟨hx, hb, hml, hown, hts⟩ (c_X0_changesAt l D cI cZ cL cJ (ad (2 + 3 * i)) (ad (3 + 3 * i)) (ad (4 + 3 * i)) (v i) t ht (hwl i (by omega)).up) (cwV 1 hts gX1_collideAt_X0_changesAt rfl rfl rfl (by decide +kernel) ⟨(Nat.le_of_ble_eq_true rfl), (Nat.le_of_ble_eq_true rfl)⟩) hK hE hPi (RC_of (q := (RX0, TX0, 5)) (ci := 0) hK rfl (vpa hPi 0 rfl)) rfl hl.1 rfl (Nat.le_of_ble_eq_true rfl) dX1_collideAt_7 ⟨(Nat.le_of_ble_eq_true rfl), (Nat.le_of_ble_eq_true rfl)⟩ ?_
  refine b_if_eq (b := chgB (v i) t) (tgt := 30) hx hb dX1_collideAt_10 (by decide) (fun c_10 => ?_) (fun c_10 => ?_)
  · refine lv_iconst (v := nI 0) hx hb dX1_collideAt_30 (by decide) ?_
    refine n_ti (y := bI (colB v i j t)) (by unfold colB; first | (rw [c_10]; rfl) | (rw [c_10, c_23]; rfl)) ?_
    exact W.zret (v := bI (colB v i j t)) hx hb hr (bI_narrow _) (fun t ht hW => ⟨rfl, ht⟩) (fun _ h => by cases h) dX1_collideAt_31
  · refine lv_aload_n hx hb dX1_collideAt_13 rfl (lv_at hl 0 rfl) ?_
    refine va_get (D := D) (ci := 1) (v := .ref (ad 1)) (C := RX1) (T := TX1) (N := 5) hx hb hts hin1 hown hK hP0 0 rfl rfl 0 (by decide) (hts (.fieldLink RX1 11 "LanternPrimes" "row" "[LLanternPrimes$Lamp;") (List.mem_of_getElem? (i := 1) rfl)) (fun _ h9 => h9) rfl dX1_collideAt_14 ?_
    refine lv_iload_n hx hb dX1_collideAt_17 rfl (lv_at hl 2 rfl) ?_
    refine n_aald (v := ad (2 + 3 * j)) (j := j) hx hb hK hP0 1 2 rfl rfl (by omega) (by decide) rfl dX1_collideAt_18 ?_
    have hPj := hPL j (by omega)
    refine lv_iload_n hx hb dX1_collideAt_19 rfl (lv_at hl 3 rfl) ?_
    refine rV (r := bI (chgB (v j) t)) (As := [.int (nI t)]) (rest := []) ⟨hx, hb, hml, hown, hts⟩ (c_X0_changesAt l D cI cZ cL cJ (ad (2 + 3 * j)) (ad (3 + 3 * j)) (ad (4 + 3 * j)) (v j) t ht (hwl j (by omega)).up) (cwV 1 hts gX1_collideAt_X0_changesAt rfl rfl rfl (by decide +kernel) ⟨(Nat.le_of_ble_eq_true rfl), (Nat.le_of_ble_eq_true rfl)⟩) hK hE hPj (RC_of (q := (RX0, TX0, 5)) (ci := 0) hK rfl (vpa hPj 0 rfl)) rfl hl.1 rfl (Nat.le_of_ble_eq_true rfl) dX1_collideAt_20 ⟨(Nat.le_of_ble_eq_true rfl), (Nat.le_of_ble_eq_true rfl)⟩ ?_
    refine b_if_eq (b := chgB (v j) t) (tgt := 30) hx hb dX1_collideAt_23 (by decide) (fun c_23 => ?_) (fun c_23 => ?_)
    · refine lv_iconst (v := nI 0) hx hb dX1_collideAt_30 (by decide) ?_
      refine n_ti (y := bI (colB v i j t)) (by unfold colB; first | (rw [c_10]; rfl) | (rw [c_10, c_23]; rfl)) ?_
      exact W.zret (v := bI (colB v i j t)) hx hb hr (bI_narrow _) (fun t ht hW => ⟨rfl, ht⟩) (fun _ h => by cases h) dX1_collideAt_31
    · refine lv_iconst (v := nI 1) hx hb dX1_collideAt_26 (by decide) ?_
      refine lv_goto (tgt := 31) hx hb dX1_collideAt_27 (by decide) ?_
      refine n_ti (y := bI (colB v i j t)) (by unfold colB; first | (rw [c_10]; rfl) | (rw [c_10, c_23]; rfl)) ?_
      exact W.zret (v := bI (colB v i j t)) hx hb hr (bI_narrow _) (fun t ht hW => ⟨rfl, ht⟩) (fun _ h => by cases h) dX1_collideAt_31
set_option maxHeartbeats 4000000 in
set_option maxRecDepth 100000 in
/-- lamps -/
theorem c_X1_lamps (l : Launch) (D : va_G) (cI cZ cL cJ : ClassId) (ad : Nat → Nat) (n now : Nat) (told : Int32) (v : Nat → LV) (hwf : WFX n now v) : Met l yX1_lamps wsX1_lamps ({ frames := 0, cells := 0, slots := 0, locals := 0 } : Room) (PC D (TY cI cZ cL cJ) noA [.ref (ad 0)] (fun H => PX D cI cL ad n now told v H)) (QcRead (nI n)) 0 0 (fun _ => False) := by
  refine Met.ofW (cc := cX1_lamps) (maxL := 1) (ret := (some .int)) (by decide) rfl ?_
  intro p e s m args below meth c s₁ B hml hv
  obtain ⟨rfl, hK, hE, hP0, hPL⟩ := hv
  obtain ⟨hn8, hnow, hwl⟩ := hwf
  have hx := B.exec
  have hb := B.bytes
  have hr := B.returns
  have hts := atoms_spec (ws := wsX1_lamps) B.pre
  have hown : s.vm.findClass RX1 = some m.cls := findClass_of_methodNamed B.named
  have hlocks := B.notSynchronized
  have hNF := hE.2.1.1
  have hin1 : ∀ w ∈ wsX10, w ∈ wsX1_lamps := by decide +kernel
  have hl := lv_entry ([.ref (ad 0)]) (n := 1) (Nat.le_of_ble_eq_true rfl)
  rw [lg_entry_eq]
  generalize (lg_sl ([.ref (ad 0)]) ++ List.replicate (1 - (lg_sl ([.ref (ad 0)])).length) Slot.unset).toArray = ls at hl ⊢
  have hl : lv_has ls 1 [(0, .ref (ad 0))] := hl
  refine lv_aload_n hx hb dX1_lamps_0 rfl (lv_at hl 0 rfl) ?_
  refine va_get (D := D) (ci := 1) (v := .int (nI n)) (C := RX1) (T := TX1) (N := 5) hx hb hts hin1 hown hK hP0 0 rfl rfl 2 (by decide) (hts (.fieldLink RX1 20 "LanternPrimes" "lampCount" "I") (List.mem_of_getElem? (i := 1) rfl)) (fun _ h9 => h9) rfl dX1_lamps_1 ?_
  exact W.iret (v := nI n) hx hb hr (fun t ht hW => ⟨rfl, ht⟩) (fun _ h => by cases h) dX1_lamps_4
set_option maxHeartbeats 4000000 in
set_option maxRecDepth 100000 in
/-- now -/
theorem c_X1_now (l : Launch) (D : va_G) (cI cZ cL cJ : ClassId) (ad : Nat → Nat) (n now : Nat) (told : Int32) (v : Nat → LV) (hwf : WFX n now v) : Met l yX1_now wsX1_now ({ frames := 0, cells := 0, slots := 0, locals := 0 } : Room) (PC D (TY cI cZ cL cJ) noA [.ref (ad 0)] (fun H => PX D cI cL ad n now told v H)) (QcRead (nI now)) 0 0 (fun _ => False) := by
  refine Met.ofW (cc := cX1_now) (maxL := 1) (ret := (some .int)) (by decide) rfl ?_
  intro p e s m args below meth c s₁ B hml hv
  obtain ⟨rfl, hK, hE, hP0, hPL⟩ := hv
  obtain ⟨hn8, hnow, hwl⟩ := hwf
  have hx := B.exec
  have hb := B.bytes
  have hr := B.returns
  have hts := atoms_spec (ws := wsX1_now) B.pre
  have hown : s.vm.findClass RX1 = some m.cls := findClass_of_methodNamed B.named
  have hlocks := B.notSynchronized
  have hNF := hE.2.1.1
  have hin1 : ∀ w ∈ wsX10, w ∈ wsX1_now := by decide +kernel
  have hl := lv_entry ([.ref (ad 0)]) (n := 1) (Nat.le_of_ble_eq_true rfl)
  rw [lg_entry_eq]
  generalize (lg_sl ([.ref (ad 0)]) ++ List.replicate (1 - (lg_sl ([.ref (ad 0)])).length) Slot.unset).toArray = ls at hl ⊢
  have hl : lv_has ls 1 [(0, .ref (ad 0))] := hl
  refine lv_aload_n hx hb dX1_now_0 rfl (lv_at hl 0 rfl) ?_
  refine va_get (D := D) (ci := 1) (v := .int (nI now)) (C := RX1) (T := TX1) (N := 5) hx hb hts hin1 hown hK hP0 0 rfl rfl 3 (by decide) (hts (.fieldLink RX1 73 "LanternPrimes" "present" "I") (List.mem_of_getElem? (i := 1) rfl)) (fun _ h9 => h9) rfl dX1_now_1 ?_
  exact W.iret (v := nI now) hx hb hr (fun t ht hW => ⟨rfl, ht⟩) (fun _ h => by cases h) dX1_now_4
set_option maxHeartbeats 4000000 in
set_option maxRecDepth 100000 in
/-- changesSeen -/
theorem c_X1_changesSeen (l : Launch) (D : va_G) (cI cZ cL cJ : ClassId) (ad : Nat → Nat) (n now : Nat) (told : Int32) (v : Nat → LV) (hwf : WFX n now v) : Met l yX1_changesSeen wsX1_changesSeen ({ frames := 0, cells := 0, slots := 0, locals := 0 } : Room) (PC D (TY cI cZ cL cJ) noA [.ref (ad 0)] (fun H => PX D cI cL ad n now told v H)) (QcRead (told)) 0 0 (fun _ => False) := by
  refine Met.ofW (cc := cX1_changesSeen) (maxL := 1) (ret := (some .int)) (by decide) rfl ?_
  intro p e s m args below meth c s₁ B hml hv
  obtain ⟨rfl, hK, hE, hP0, hPL⟩ := hv
  obtain ⟨hn8, hnow, hwl⟩ := hwf
  have hx := B.exec
  have hb := B.bytes
  have hr := B.returns
  have hts := atoms_spec (ws := wsX1_changesSeen) B.pre
  have hown : s.vm.findClass RX1 = some m.cls := findClass_of_methodNamed B.named
  have hlocks := B.notSynchronized
  have hNF := hE.2.1.1
  have hin1 : ∀ w ∈ wsX10, w ∈ wsX1_changesSeen := by decide +kernel
  have hl := lv_entry ([.ref (ad 0)]) (n := 1) (Nat.le_of_ble_eq_true rfl)
  rw [lg_entry_eq]
  generalize (lg_sl ([.ref (ad 0)]) ++ List.replicate (1 - (lg_sl ([.ref (ad 0)])).length) Slot.unset).toArray = ls at hl ⊢
  have hl : lv_has ls 1 [(0, .ref (ad 0))] := hl
  refine lv_aload_n hx hb dX1_changesSeen_0 rfl (lv_at hl 0 rfl) ?_
  refine va_get (D := D) (ci := 1) (v := .int told) (C := RX1) (T := TX1) (N := 5) hx hb hts hin1 hown hK hP0 0 rfl rfl 4 (by decide) (hts (.fieldLink RX1 80 "LanternPrimes" "changesTold" "I") (List.mem_of_getElem? (i := 1) rfl)) (fun _ h9 => h9) rfl dX1_changesSeen_1 ?_
  exact W.iret (v := told) hx hb hr (fun t ht hW => ⟨rfl, ht⟩) (fun _ h => by cases h) dX1_changesSeen_4
set_option maxHeartbeats 4000000 in
set_option maxRecDepth 100000 in
/-- litLamps -/
theorem c_X1_litLamps (l : Launch) (D : va_G) (cI cZ cL cJ : ClassId) (ad : Nat → Nat) (n now : Nat) (told : Int32) (v : Nat → LV) (hwf : WFX n now v) : Met l yX1_litLamps wsX1_litLamps ({ frames := 4, cells := 0, slots := 0, locals := 89 } : Room) (PC D (TY cI cZ cL cJ) noA [.ref (ad 0)] (fun H => PX D cI cL ad n now told v H)) (QcRead (nI (litN v n now))) 0 0 (fun _ => False) := by
  refine Met.ofW (cc := cX1_litLamps) (maxL := 1) (ret := (some .int)) (by decide) rfl ?_
  intro p e s m args below meth c s₁ B hml hv
  obtain ⟨rfl, hK, hE, hP0, hPL⟩ := hv
  obtain ⟨hn8, hnow, hwl⟩ := hwf
  have hx := B.exec
  have hb := B.bytes
  have hr := B.returns
  have hts := atoms_spec (ws := wsX1_litLamps) B.pre
  have hown : s.vm.findClass RX1 = some m.cls := findClass_of_methodNamed B.named
  have hlocks := B.notSynchronized
  have hNF := hE.2.1.1
  have hin0 : ∀ w ∈ wsX00, w ∈ wsX1_litLamps := by decide +kernel
  have hin1 : ∀ w ∈ wsX10, w ∈ wsX1_litLamps := by decide +kernel
  have hl := lv_entry ([.ref (ad 0)]) (n := 1) (Nat.le_of_ble_eq_true rfl)
  rw [lg_entry_eq]
  generalize (lg_sl ([.ref (ad 0)]) ++ List.replicate (1 - (lg_sl ([.ref (ad 0)])).length) Slot.unset).toArray = ls at hl ⊢
  have hl : lv_has ls 1 [(0, .ref (ad 0))] := hl
  refine lv_aload_n hx hb dX1_litLamps_0 rfl (lv_at hl 0 rfl) ?_
  refine lv_aload_n hx hb dX1_litLamps_1 rfl (lv_at hl 0 rfl) ?_
  refine va_get (D := D) (ci := 1) (v := .int (nI now)) (C := RX1) (T := TX1) (N := 5) hx hb hts hin1 hown hK hP0 0 rfl rfl 3 (by decide) (hts (.fieldLink RX1 73 "LanternPrimes" "present" "I") (List.mem_of_getElem? (i := 1) rfl)) (fun _ h9 => h9) rfl dX1_litLamps_2 ?_
  refine rV (r := nI (litN v n now)) (As := [.int (nI now)]) (rest := []) ⟨hx, hb, hml, hown, hts⟩ (c_X1_litCount l D cI cZ cL cJ ad n now told v ⟨hn8, hnow, hwl⟩ now (by omega)) (cwV 1 hts gX1_litLamps_X1_litCount rfl rfl rfl (by decide +kernel) ⟨(Nat.le_of_ble_eq_true rfl), (Nat.le_of_ble_eq_true rfl)⟩) hK hE ⟨hP0, hPL⟩ (RC_of (q := (RX1, TX1, 5)) (ci := 1) hK rfl (vpa hP0 0 rfl)) rfl hl.1 rfl (Nat.le_of_ble_eq_true rfl) dX1_litLamps_5 ⟨(Nat.le_of_ble_eq_true rfl), (Nat.le_of_ble_eq_true rfl)⟩ ?_
  exact W.iret (v := nI (litN v n now)) hx hb hr (fun t ht hW => ⟨rfl, ht⟩) (fun _ h => by cases h) dX1_litLamps_8
set_option maxHeartbeats 4000000 in
set_option maxRecDepth 100000 in
/-- isDark -/
theorem c_X1_isDark (l : Launch) (D : va_G) (cI cZ cL cJ : ClassId) (ad : Nat → Nat) (n now : Nat) (told : Int32) (v : Nat → LV) (hwf : WFX n now v) : Met l yX1_isDark wsX1_isDark ({ frames := 4, cells := 0, slots := 0, locals := 89 } : Room) (PC D (TY cI cZ cL cJ) noA [.ref (ad 0)] (fun H => PX D cI cL ad n now told v H)) (QcRead (bI (dkB v n (-1) now))) 0 0 (fun _ => False) := by
  refine Met.ofW (cc := cX1_isDark) (maxL := 1) (ret := (some .boolean)) (by decide) rfl ?_
  intro p e s m args below meth c s₁ B hml hv
  obtain ⟨rfl, hK, hE, hP0, hPL⟩ := hv
  obtain ⟨hn8, hnow, hwl⟩ := hwf
  have hx := B.exec
  have hb := B.bytes
  have hr := B.returns
  have hts := atoms_spec (ws := wsX1_isDark) B.pre
  have hown : s.vm.findClass RX1 = some m.cls := findClass_of_methodNamed B.named
  have hlocks := B.notSynchronized
  have hNF := hE.2.1.1
  have hin0 : ∀ w ∈ wsX00, w ∈ wsX1_isDark := by decide +kernel
  have hin1 : ∀ w ∈ wsX10, w ∈ wsX1_isDark := by decide +kernel
  have hl := lv_entry ([.ref (ad 0)]) (n := 1) (Nat.le_of_ble_eq_true rfl)
  rw [lg_entry_eq]
  generalize (lg_sl ([.ref (ad 0)]) ++ List.replicate (1 - (lg_sl ([.ref (ad 0)])).length) Slot.unset).toArray = ls at hl ⊢
  have hl : lv_has ls 1 [(0, .ref (ad 0))] := hl
  refine lv_aload_n hx hb dX1_isDark_0 rfl (lv_at hl 0 rfl) ?_
  refine lv_aload_n hx hb dX1_isDark_1 rfl (lv_at hl 0 rfl) ?_
  refine va_get (D := D) (ci := 1) (v := .int (nI now)) (C := RX1) (T := TX1) (N := 5) hx hb hts hin1 hown hK hP0 0 rfl rfl 3 (by decide) (hts (.fieldLink RX1 73 "LanternPrimes" "present" "I") (List.mem_of_getElem? (i := 1) rfl)) (fun _ h9 => h9) rfl dX1_isDark_2 ?_
  refine lv_iconst (v := (-1)) hx hb dX1_isDark_5 (by decide) ?_
  refine rV (r := bI (dkB v n (-1) now)) (As := [.int (nI now), .int (-1)]) (rest := []) ⟨hx, hb, hml, hown, hts⟩ (c_X1_darkAt l D cI cZ cL cJ ad n now told v ⟨hn8, hnow, hwl⟩ now (by omega) (-1)) (cwV 2 hts gX1_isDark_X1_darkAt rfl rfl rfl (by decide +kernel) ⟨(Nat.le_of_ble_eq_true rfl), (Nat.le_of_ble_eq_true rfl)⟩) hK hE ⟨hP0, hPL⟩ (RC_of (q := (RX1, TX1, 5)) (ci := 1) hK rfl (vpa hP0 0 rfl)) rfl hl.1 rfl (Nat.le_of_ble_eq_true rfl) dX1_isDark_6 ⟨(Nat.le_of_ble_eq_true rfl), (Nat.le_of_ble_eq_true rfl)⟩ ?_
  exact W.zret (v := bI (dkB v n (-1) now)) hx hb hr (bI_narrow _) (fun t ht hW => ⟨rfl, ht⟩) (fun _ h => by cases h) dX1_isDark_9
set_option maxHeartbeats 4000000 in
set_option maxRecDepth 100000 in
/-- momentsUntilDark -/
theorem c_X1_momentsUntilDark (l : Launch) (D : va_G) (cI cZ cL cJ : ClassId) (ad : Nat → Nat) (n now : Nat) (told : Int32) (v : Nat → LV) (hwf : WFX n now v) : Met l yX1_momentsUntilDark wsX1_momentsUntilDark ({ frames := 4, cells := 0, slots := 0, locals := 89 } : Room) (PC D (TY cI cZ cL cJ) noA [.ref (ad 0)] (fun H => PX D cI cL ad n now told v H)) (QcRead ((oI (fnd (fun q => dkB v n (-1) (now + q)) 0 2001)))) 0 0 (fun _ => False) := by
  refine Met.ofW (cc := cX1_momentsUntilDark) (maxL := 2) (ret := (some .int)) (by decide) rfl ?_
  intro p e s m args below meth c s₁ B hml hv
  obtain ⟨rfl, hK, hE, hP0, hPL⟩ := hv
  obtain ⟨hn8, hnow, hwl⟩ := hwf
  have hx := B.exec
  have hb := B.bytes
  have hr := B.returns
  have hts := atoms_spec (ws := wsX1_momentsUntilDark) B.pre
  have hown : s.vm.findClass RX1 = some m.cls := findClass_of_methodNamed B.named
  have hlocks := B.notSynchronized
  have hNF := hE.2.1.1
  have hin0 : ∀ w ∈ wsX00, w ∈ wsX1_momentsUntilDark := by decide +kernel
  have hin1 : ∀ w ∈ wsX10, w ∈ wsX1_momentsUntilDark := by decide +kernel
  have hl := lv_entry ([.ref (ad 0)]) (n := 2) (Nat.le_of_ble_eq_true rfl)
  rw [lg_entry_eq]
  generalize (lg_sl ([.ref (ad 0)]) ++ List.replicate (2 - (lg_sl ([.ref (ad 0)])).length) Slot.unset).toArray = ls at hl ⊢
  have hl : lv_has ls 2 [(0, .ref (ad 0))] := hl
  refine lv_iconst (v := nI 0) hx hb dX1_momentsUntilDark_0 (by decide) ?_
  refine lv_istore_n (lv' := [(1, .int (nI 0)), (0, .ref (ad 0))]) hx hb dX1_momentsUntilDark_1 rfl hl (by decide) rfl (fun ls hl => ?_)
  have loop_2 : ∀ (fu : Nat) (q : Nat), 2002 - q ≤ fu → q ≤ 2001 → fnd (fun q => dkB v n (-1) (now + q)) q (2001 - q) = fnd (fun q => dkB v n (-1) (now + q)) 0 2001 → ∀ (ls : Array Slot), lv_has ls 2 [(1, .int (nI q)), (0, .ref (ad 0))] → W p l e (headSpec wsX1_momentsUntilDark ({ frames := 4, cells := 0, slots := 0, locals := 89 } : Room)).room s m [.ref (ad 0)].toArray below meth c s.heap [] 0 0 (MQ below (QcRead ((oI (fnd (fun q => dkB v n (-1) (now + q)) 0 2001)))) [.ref (ad 0)].toArray s 0 0 (fun _ => False)) (F0 m 2 ls []) := by
    intro fu
    induction fu with
    | zero => intro q hn_2 hq hf; exact absurd hn_2 (by omega)
    | succ fu ih_2 =>
      intro q hn_2 hq hf ls hl
      refine lv_iload_n hx hb dX1_momentsUntilDark_2 rfl (lv_at hl 0 rfl) ?_
      refine lv_sipush (v := nI 2000) hx hb dX1_momentsUntilDark_3 (by decide) ?_
      refine n_icmp_gt (a := q) (b := 2000) (tgt := 31) hx hb (by omega) (by omega) dX1_momentsUntilDark_6 (by decide) (fun c_6 => ?_) (fun c_6 => ?_)
      · refine lv_iconst (v := (-1)) hx hb dX1_momentsUntilDark_31 (by decide) ?_
        refine n_ti (y := (oI (fnd (fun q => dkB v n (-1) (now + q)) 0 2001))) (by rw [← hf, show 2001 - q = 0 by omega]; rfl) ?_
        exact W.iret (v := (oI (fnd (fun q => dkB v n (-1) (now + q)) 0 2001))) hx hb hr (fun t ht hW => ⟨rfl, ht⟩) (fun _ h => by cases h) dX1_momentsUntilDark_32
      · refine lv_aload_n hx hb dX1_momentsUntilDark_9 rfl (lv_at hl 1 rfl) ?_
        refine lv_aload_n hx hb dX1_momentsUntilDark_10 rfl (lv_at hl 1 rfl) ?_
        refine va_get (D := D) (ci := 1) (v := .int (nI now)) (C := RX1) (T := TX1) (N := 5) hx hb hts hin1 hown hK hP0 0 rfl rfl 3 (by decide) (hts (.fieldLink RX1 73 "LanternPrimes" "present" "I") (List.mem_of_getElem? (i := 1) rfl)) (fun _ h9 => h9) rfl dX1_momentsUntilDark_11 ?_
        refine lv_iload_n hx hb dX1_momentsUntilDark_14 rfl (lv_at hl 0 rfl) ?_
        refine n_iadd (v := nI (now + q)) hx hb dX1_momentsUntilDark_15 (nI_add _ _) ?_
        refine lv_iconst (v := (-1)) hx hb dX1_momentsUntilDark_16 (by decide) ?_
        refine rV (r := bI (dkB v n (-1) (now + q))) (As := [.int (nI (now + q)), .int (-1)]) (rest := []) ⟨hx, hb, hml, hown, hts⟩ (c_X1_darkAt l D cI cZ cL cJ ad n now told v ⟨hn8, hnow, hwl⟩ (now + q) (by omega) (-1)) (cwV 2 hts gX1_momentsUntilDark_X1_darkAt rfl rfl rfl (by decide +kernel) ⟨(Nat.le_of_ble_eq_true rfl), (Nat.le_of_ble_eq_true rfl)⟩) hK hE ⟨hP0, hPL⟩ (RC_of (q := (RX1, TX1, 5)) (ci := 1) hK rfl (vpa hP0 0 rfl)) rfl hl.1 rfl (Nat.le_of_ble_eq_true rfl) dX1_momentsUntilDark_17 ⟨(Nat.le_of_ble_eq_true rfl), (Nat.le_of_ble_eq_true rfl)⟩ ?_
        refine b_if_eq (b := dkB v n (-1) (now + q)) (tgt := 25) hx hb dX1_momentsUntilDark_20 (by decide) (fun c_20 => ?_) (fun c_20 => ?_)
        · refine lv_iinc (v := nI (q + 1)) (lv' := [(1, .int (nI (q + 1))), (0, .ref (ad 0))]) hx hb dX1_momentsUntilDark_25 hl (k := 0) rfl (nI_inc _) (by decide) rfl (fun ls hl => ?_)
          refine lv_goto (tgt := 2) hx hb dX1_momentsUntilDark_28 (by decide) ?_
          exact ih_2 (q + 1) (by omega) (by omega) (by rw [← hf, fnd_f (f := (fun q => dkB v n (-1) (now + q))) (lo := q) c_20 (by omega), show 2001 - q - 1 = 2001 - (q + 1) by omega]) ls (lv_sub hl [0, 1] rfl)
        · refine lv_iload_n hx hb dX1_momentsUntilDark_23 rfl (lv_at hl 0 rfl) ?_
          refine n_ti (y := (oI (fnd (fun q => dkB v n (-1) (now + q)) 0 2001))) (by rw [← hf, fnd_t (f := (fun q => dkB v n (-1) (now + q))) (lo := q) c_20 (by omega)]; rfl) ?_
          exact W.iret (v := (oI (fnd (fun q => dkB v n (-1) (now + q)) 0 2001))) hx hb hr (fun t ht hW => ⟨rfl, ht⟩) (fun _ h => by cases h) dX1_momentsUntilDark_24
  exact loop_2 2002 0 (by omega) (by omega) rfl ls (lv_sub hl [0, 1] rfl)
set_option maxHeartbeats 4000000 in
set_option maxRecDepth 100000 in
/-- mixed -/
theorem c_X1_mixed (l : Launch) (D : va_G) (cI cZ cL cJ : ClassId) (d x : Int64) : Met l yX1_mixed wsX1_mixed ({ frames := 0, cells := 0, slots := 0, locals := 0 } : Room) (PC D (TY cI cZ cL cJ) noA [.long d, .long x] (fun _ => True)) (QLg (mxL d x)) 0 0 (fun _ => False) := by
  refine Met.ofW (cc := cX1_mixed) (maxL := 4) (ret := (some .long)) (by decide) rfl ?_
  intro p e s m args below meth c s₁ B hml hv
  obtain ⟨rfl, hK, hE, -⟩ := hv
  have hx := B.exec
  have hb := B.bytes
  have hr := B.returns
  have hts := atoms_spec (ws := wsX1_mixed) B.pre
  have hown : s.vm.findClass RX1 = some m.cls := findClass_of_methodNamed B.named
  have hlocks := B.notSynchronized
  have hNF := hE.2.1.1
  have hl := lv_entry ([.long d, .long x]) (n := 4) (Nat.le_of_ble_eq_true rfl)
  rw [lg_entry_eq]
  generalize (lg_sl ([.long d, .long x]) ++ List.replicate (4 - (lg_sl ([.long d, .long x])).length) Slot.unset).toArray = ls at hl ⊢
  have hl : lv_has ls 4 [(0, .long d), (2, .long x)] := hl
  refine lv_lload_n hx hb dX1_mixed_0 rfl (lv_at hl 0 rfl) ?_
  refine lv_ldc2 (v := 31) hx hb hown (hts (.constantLong RX1 139 (31)) (List.mem_of_getElem? (i := 1) rfl)) dX1_mixed_1 ?_
  refine lv_lmul hx hb dX1_mixed_4 ?_
  refine lv_lload_n hx hb dX1_mixed_5 rfl (lv_at hl 1 rfl) ?_
  refine lv_ladd hx hb dX1_mixed_6 ?_
  exact W.lret (v := mxL d x) hx hb hr (fun t ht hW => ⟨rfl, ht⟩) (fun _ h => by cases h) dX1_mixed_7
set_option maxHeartbeats 4000000 in
set_option maxRecDepth 100000 in
/-- mixedWithLamp -/
theorem c_X1_mixedWithLamp (l : Launch) (D : va_G) (cI cZ cL cJ : ClassId) (ad : Nat → Nat) (n now : Nat) (told : Int32) (v : Nat → LV) (hwf : WFX n now v) (j : Nat) (hj : j < n) (d : Int64) : Met l yX1_mixedWithLamp wsX1_mixedWithLamp ({ frames := 4, cells := 0, slots := 0, locals := 92 } : Room) (PC D (TY cI cZ cL cJ) noA [.ref (ad 0), .long d, .ref (ad (2 + 3 * j))] (fun H => PX D cI cL ad n now told v H)) (QLg (dgP (v j) now d)) 0 0 (fun _ => False) := by
  refine Met.ofW (cc := cX1_mixedWithLamp) (maxL := 7) (ret := (some .long)) (by decide) rfl ?_
  intro p e s m args below meth c s₁ B hml hv
  obtain ⟨rfl, hK, hE, hP0, hPL⟩ := hv
  obtain ⟨hn8, hnow, hwl⟩ := hwf
  have hPj := hPL j (by omega)
  have hwj := (hwl j (by omega)).1
  have hx := B.exec
  have hb := B.bytes
  have hr := B.returns
  have hts := atoms_spec (ws := wsX1_mixedWithLamp) B.pre
  have hown : s.vm.findClass RX1 = some m.cls := findClass_of_methodNamed B.named
  have hlocks := B.notSynchronized
  have hNF := hE.2.1.1
  have hin0 : ∀ w ∈ wsX00, w ∈ wsX1_mixedWithLamp := by decide +kernel
  have hin1 : ∀ w ∈ wsX10, w ∈ wsX1_mixedWithLamp := by decide +kernel
  have hl := lv_entry ([.ref (ad 0), .long d, .ref (ad (2 + 3 * j))]) (n := 7) (Nat.le_of_ble_eq_true rfl)
  rw [lg_entry_eq]
  generalize (lg_sl ([.ref (ad 0), .long d, .ref (ad (2 + 3 * j))]) ++ List.replicate (7 - (lg_sl ([.ref (ad 0), .long d, .ref (ad (2 + 3 * j))])).length) Slot.unset).toArray = ls at hl ⊢
  have hl : lv_has ls 7 [(0, .ref (ad 0)), (1, .long d), (3, .ref (ad (2 + 3 * j)))] := hl
  refine lv_lload_n hx hb dX1_mixedWithLamp_0 rfl (lv_at hl 1 rfl) ?_
  refine lv_lstore (lv' := [(4, .long d), (0, .ref (ad 0)), (1, .long d), (3, .ref (ad (2 + 3 * j)))]) hx hb dX1_mixedWithLamp_1 hl (by decide) rfl (fun ls hl => ?_)
  refine lv_lload hx hb dX1_mixedWithLamp_3 (lv_at hl 0 rfl) ?_
  refine lv_aload_n hx hb dX1_mixedWithLamp_5 rfl (lv_at hl 3 rfl) ?_
  refine va_getN (D := D) (ci := 0) (v := .int (nI (lbc (v j)))) (C := RX0) (T := TX0) (N := 5) hx hb hts hin0 hown hK hPj 0 rfl rfl 2 (by decide) (va_Nw.use rfl (hNF _ (List.mem_of_getElem? (i := 1) rfl))) (fun _ h9 => h9) rfl dX1_mixedWithLamp_6 ?_
  refine lv_i2l (v := (nI (lbc (v j))).toInt64) hx hb dX1_mixedWithLamp_9 rfl ?_
  refine rSl (r := dg1 (v j) d) (As := [.long d, .long ((nI (lbc (v j))).toInt64)]) (rest := []) ⟨hx, hb, hml, hown, hts⟩ (c_X1_mixed l D cI cZ cL cJ d ((nI (lbc (v j))).toInt64)) (va_cwS 2 hts gX1_mixedWithLamp_X1_mixed rfl rfl rfl (by decide +kernel) ⟨(Nat.le_of_ble_eq_true rfl), (Nat.le_of_ble_eq_true rfl)⟩) hK hE trivial rfl hl.1 rfl (Nat.le_of_ble_eq_true rfl) dX1_mixedWithLamp_10 ⟨(Nat.le_of_ble_eq_true rfl), (Nat.le_of_ble_eq_true rfl)⟩ ?_
  refine lv_lstore (lv' := [(4, .long (dg1 (v j) d)), (0, .ref (ad 0)), (1, .long d), (3, .ref (ad (2 + 3 * j)))]) hx hb dX1_mixedWithLamp_13 hl (by decide) rfl (fun ls hl => ?_)
  have join_29 : ∀ (ls : Array Slot), lv_has ls 7 [(4, .long (dg1 (v j) d)), (0, .ref (ad 0)), (1, .long d), (3, .ref (ad (2 + 3 * j)))] → W p l e (headSpec wsX1_mixedWithLamp ({ frames := 4, cells := 0, slots := 0, locals := 92 } : Room)).room s m [.ref (ad 0), .long d, .ref (ad (2 + 3 * j))].toArray below meth c s.heap [] 0 0 (MQ below (QLg (dgP (v j) now d)) [.ref (ad 0), .long d, .ref (ad (2 + 3 * j))].toArray s 0 0 (fun _ => False)) (F0 m 29 ls [.long (bJ (lcv (v j))), .long (dg1 (v j) d)]) := by
    intro   ls hl
    refine rSl (r := dg2 (v j) d) (As := [.long (dg1 (v j) d), .long (bJ (lcv (v j)))]) (rest := []) ⟨hx, hb, hml, hown, hts⟩ (c_X1_mixed l D cI cZ cL cJ (dg1 (v j) d) (bJ (lcv (v j)))) (va_cwS 2 hts gX1_mixedWithLamp_X1_mixed rfl rfl rfl (by decide +kernel) ⟨(Nat.le_of_ble_eq_true rfl), (Nat.le_of_ble_eq_true rfl)⟩) hK hE trivial rfl hl.1 rfl (Nat.le_of_ble_eq_true rfl) dX1_mixedWithLamp_29 ⟨(Nat.le_of_ble_eq_true rfl), (Nat.le_of_ble_eq_true rfl)⟩ ?_
    refine lv_lstore (lv' := [(4, .long (dg2 (v j) d)), (0, .ref (ad 0)), (1, .long d), (3, .ref (ad (2 + 3 * j)))]) hx hb dX1_mixedWithLamp_32 hl (by decide) rfl (fun ls hl => ?_)
    have join_52 : ∀ (ls : Array Slot), lv_has ls 7 [(4, .long (dg2 (v j) d)), (0, .ref (ad 0)), (1, .long d), (3, .ref (ad (2 + 3 * j)))] → W p l e (headSpec wsX1_mixedWithLamp ({ frames := 4, cells := 0, slots := 0, locals := 92 } : Room)).room s m [.ref (ad 0), .long d, .ref (ad (2 + 3 * j))].toArray below meth c s.heap [] 0 0 (MQ below (QLg (dgP (v j) now d)) [.ref (ad 0), .long d, .ref (ad (2 + 3 * j))].toArray s 0 0 (fun _ => False)) (F0 m 52 ls [.long (bJ (onB (v j) now)), .long (dg2 (v j) d)]) := by
      intro   ls hl
      refine rSl (r := dg3 (v j) now d) (As := [.long (dg2 (v j) d), .long (bJ (onB (v j) now))]) (rest := []) ⟨hx, hb, hml, hown, hts⟩ (c_X1_mixed l D cI cZ cL cJ (dg2 (v j) d) (bJ (onB (v j) now))) (va_cwS 2 hts gX1_mixedWithLamp_X1_mixed rfl rfl rfl (by decide +kernel) ⟨(Nat.le_of_ble_eq_true rfl), (Nat.le_of_ble_eq_true rfl)⟩) hK hE trivial rfl hl.1 rfl (Nat.le_of_ble_eq_true rfl) dX1_mixedWithLamp_52 ⟨(Nat.le_of_ble_eq_true rfl), (Nat.le_of_ble_eq_true rfl)⟩ ?_
      refine lv_lstore (lv' := [(4, .long (dg3 (v j) now d)), (0, .ref (ad 0)), (1, .long d), (3, .ref (ad (2 + 3 * j)))]) hx hb dX1_mixedWithLamp_55 hl (by decide) rfl (fun ls hl => ?_)
      have join_71 : ∀ (ls : Array Slot), lv_has ls 7 [(4, .long (dg3 (v j) now d)), (0, .ref (ad 0)), (1, .long d), (3, .ref (ad (2 + 3 * j)))] → W p l e (headSpec wsX1_mixedWithLamp ({ frames := 4, cells := 0, slots := 0, locals := 92 } : Room)).room s m [.ref (ad 0), .long d, .ref (ad (2 + 3 * j))].toArray below meth c s.heap [] 0 0 (MQ below (QLg (dgP (v j) now d)) [.ref (ad 0), .long d, .ref (ad (2 + 3 * j))].toArray s 0 0 (fun _ => False)) (F0 m 71 ls [.long (bJ (decide (cyc (v j) = 1))), .long (dg3 (v j) now d)]) := by
        intro   ls hl
        refine rSl (r := dg4 (v j) now d) (As := [.long (dg3 (v j) now d), .long (bJ (decide (cyc (v j) = 1)))]) (rest := []) ⟨hx, hb, hml, hown, hts⟩ (c_X1_mixed l D cI cZ cL cJ (dg3 (v j) now d) (bJ (decide (cyc (v j) = 1)))) (va_cwS 2 hts gX1_mixedWithLamp_X1_mixed rfl rfl rfl (by decide +kernel) ⟨(Nat.le_of_ble_eq_true rfl), (Nat.le_of_ble_eq_true rfl)⟩) hK hE trivial rfl hl.1 rfl (Nat.le_of_ble_eq_true rfl) dX1_mixedWithLamp_71 ⟨(Nat.le_of_ble_eq_true rfl), (Nat.le_of_ble_eq_true rfl)⟩ ?_
        refine lv_lstore (lv' := [(4, .long (dg4 (v j) now d)), (0, .ref (ad 0)), (1, .long d), (3, .ref (ad (2 + 3 * j)))]) hx hb dX1_mixedWithLamp_74 hl (by decide) rfl (fun ls hl => ?_)
        refine lv_lload hx hb dX1_mixedWithLamp_76 (lv_at hl 0 rfl) ?_
        refine lv_aload_n hx hb dX1_mixedWithLamp_78 rfl (lv_at hl 3 rfl) ?_
        refine rV (r := nI (cyc (v j))) (As := []) (rest := [.long (dg4 (v j) now d)]) ⟨hx, hb, hml, hown, hts⟩ (c_X0_cycle l D cI cZ cL cJ (ad (2 + 3 * j)) (ad (3 + 3 * j)) (ad (4 + 3 * j)) (v j) (hwl j (by omega)).up) (cwV 0 hts gX1_mixedWithLamp_X0_cycle rfl rfl rfl (by decide +kernel) ⟨(Nat.le_of_ble_eq_true rfl), (Nat.le_of_ble_eq_true rfl)⟩) hK hE hPj (RC_of (q := (RX0, TX0, 5)) (ci := 0) hK rfl (vpa hPj 0 rfl)) rfl hl.1 rfl (Nat.le_of_ble_eq_true rfl) dX1_mixedWithLamp_79 ⟨(Nat.le_of_ble_eq_true rfl), (Nat.le_of_ble_eq_true rfl)⟩ ?_
        refine lv_i2l (v := (nI (cyc (v j))).toInt64) hx hb dX1_mixedWithLamp_82 rfl ?_
        refine rSl (r := dg5 (v j) now d) (As := [.long (dg4 (v j) now d), .long ((nI (cyc (v j))).toInt64)]) (rest := []) ⟨hx, hb, hml, hown, hts⟩ (c_X1_mixed l D cI cZ cL cJ (dg4 (v j) now d) ((nI (cyc (v j))).toInt64)) (va_cwS 2 hts gX1_mixedWithLamp_X1_mixed rfl rfl rfl (by decide +kernel) ⟨(Nat.le_of_ble_eq_true rfl), (Nat.le_of_ble_eq_true rfl)⟩) hK hE trivial rfl hl.1 rfl (Nat.le_of_ble_eq_true rfl) dX1_mixedWithLamp_83 ⟨(Nat.le_of_ble_eq_true rfl), (Nat.le_of_ble_eq_true rfl)⟩ ?_
        refine lv_lstore (lv' := [(4, .long (dg5 (v j) now d)), (0, .ref (ad 0)), (1, .long d), (3, .ref (ad (2 + 3 * j)))]) hx hb dX1_mixedWithLamp_86 hl (by decide) rfl (fun ls hl => ?_)
        refine lv_lload hx hb dX1_mixedWithLamp_88 (lv_at hl 0 rfl) ?_
        refine lv_aload_n hx hb dX1_mixedWithLamp_90 rfl (lv_at hl 3 rfl) ?_
        refine lv_aload_n hx hb dX1_mixedWithLamp_91 rfl (lv_at hl 1 rfl) ?_
        refine va_get (D := D) (ci := 1) (v := .int (nI now)) (C := RX1) (T := TX1) (N := 5) hx hb hts hin1 hown hK hP0 0 rfl rfl 3 (by decide) (hts (.fieldLink RX1 73 "LanternPrimes" "present" "I") (List.mem_of_getElem? (i := 1) rfl)) (fun _ h9 => h9) rfl dX1_mixedWithLamp_92 ?_
        refine rV (r := (untC (v j) now)) (As := [.int (nI now)]) (rest := [.long (dg5 (v j) now d)]) ⟨hx, hb, hml, hown, hts⟩ (c_X0_untilChange l D cI cZ cL cJ (ad (2 + 3 * j)) (ad (3 + 3 * j)) (ad (4 + 3 * j)) (v j) now (by omega) (hwl j (by omega)).up) (cwV 1 hts gX1_mixedWithLamp_X0_untilChange rfl rfl rfl (by decide +kernel) ⟨(Nat.le_of_ble_eq_true rfl), (Nat.le_of_ble_eq_true rfl)⟩) hK hE hPj (RC_of (q := (RX0, TX0, 5)) (ci := 0) hK rfl (vpa hPj 0 rfl)) rfl hl.1 rfl (Nat.le_of_ble_eq_true rfl) dX1_mixedWithLamp_95 ⟨(Nat.le_of_ble_eq_true rfl), (Nat.le_of_ble_eq_true rfl)⟩ ?_
        refine lv_i2l (v := (untC (v j) now).toInt64) hx hb dX1_mixedWithLamp_98 rfl ?_
        refine rSl (r := dg6 (v j) now d) (As := [.long (dg5 (v j) now d), .long ((untC (v j) now).toInt64)]) (rest := []) ⟨hx, hb, hml, hown, hts⟩ (c_X1_mixed l D cI cZ cL cJ (dg5 (v j) now d) ((untC (v j) now).toInt64)) (va_cwS 2 hts gX1_mixedWithLamp_X1_mixed rfl rfl rfl (by decide +kernel) ⟨(Nat.le_of_ble_eq_true rfl), (Nat.le_of_ble_eq_true rfl)⟩) hK hE trivial rfl hl.1 rfl (Nat.le_of_ble_eq_true rfl) dX1_mixedWithLamp_99 ⟨(Nat.le_of_ble_eq_true rfl), (Nat.le_of_ble_eq_true rfl)⟩ ?_
        refine lv_lstore (lv' := [(4, .long (dg6 (v j) now d)), (0, .ref (ad 0)), (1, .long d), (3, .ref (ad (2 + 3 * j)))]) hx hb dX1_mixedWithLamp_102 hl (by decide) rfl (fun ls hl => ?_)
        refine lv_iconst (v := nI 0) hx hb dX1_mixedWithLamp_104 (by decide) ?_
        refine lv_istore (lv' := [(6, .int (nI 0)), (4, .long (dg6 (v j) now d)), (0, .ref (ad 0)), (1, .long d), (3, .ref (ad (2 + 3 * j)))]) hx hb dX1_mixedWithLamp_105 hl (by decide) rfl (fun ls hl => ?_)
        have loop_107 : ∀ (fu : Nat) (i : Nat), lbc (v j) + 1 - i ≤ fu → i ≤ lbc (v j) → ∀ (ls : Array Slot), lv_has ls 7 [(6, .int (nI i)), (4, .long (dgB (v j) (dg6 (v j) now d) i)), (0, .ref (ad 0)), (1, .long d), (3, .ref (ad (2 + 3 * j)))] → W p l e (headSpec wsX1_mixedWithLamp ({ frames := 4, cells := 0, slots := 0, locals := 92 } : Room)).room s m [.ref (ad 0), .long d, .ref (ad (2 + 3 * j))].toArray below meth c s.heap [] 0 0 (MQ below (QLg (dgP (v j) now d)) [.ref (ad 0), .long d, .ref (ad (2 + 3 * j))].toArray s 0 0 (fun _ => False)) (F0 m 107 ls []) := by
          intro fu
          induction fu with
          | zero => intro i hn_107 hi; exact absurd hn_107 (by omega)
          | succ fu ih_107 =>
            intro i hn_107 hi ls hl
            refine lv_iload hx hb dX1_mixedWithLamp_107 (lv_at hl 0 rfl) ?_
            refine lv_aload_n hx hb dX1_mixedWithLamp_109 rfl (lv_at hl 4 rfl) ?_
            refine va_getN (D := D) (ci := 0) (v := .int (nI (lbc (v j)))) (C := RX0) (T := TX0) (N := 5) hx hb hts hin0 hown hK hPj 0 rfl rfl 2 (by decide) (va_Nw.use rfl (hNF _ (List.mem_of_getElem? (i := 1) rfl))) (fun _ h9 => h9) rfl dX1_mixedWithLamp_110 ?_
            refine n_icmp_ge (a := i) (b := lbc (v j)) (tgt := 152) hx hb (by omega) (by omega) dX1_mixedWithLamp_113 (by decide) (fun c_113 => ?_) (fun c_113 => ?_)
            · refine lv_lload hx hb dX1_mixedWithLamp_152 (lv_at hl 1 rfl) ?_
              refine n_tl (y := dgP (v j) now d) (by rw [show i = lbc (v j) by omega]; rfl) ?_
              exact W.lret (v := dgP (v j) now d) hx hb hr (fun t ht hW => ⟨rfl, ht⟩) (fun _ h => by cases h) dX1_mixedWithLamp_154
            · refine lv_lload hx hb dX1_mixedWithLamp_116 (lv_at hl 1 rfl) ?_
              refine lv_aload_n hx hb dX1_mixedWithLamp_118 rfl (lv_at hl 4 rfl) ?_
              refine va_getN (D := D) (ci := 0) (v := .ref (ad (3 + 3 * j))) (C := RX0) (T := TX0) (N := 5) hx hb hts hin0 hown hK hPj 0 rfl rfl 0 (by decide) (va_Nw.use rfl (hNF _ (List.mem_of_getElem? (i := 2) rfl))) (fun _ h9 => h9) rfl dX1_mixedWithLamp_119 ?_
              refine lv_iload hx hb dX1_mixedWithLamp_122 (lv_at hl 0 rfl) ?_
              refine n_iald (v := nI (lnu (v j) i)) (j := i) hx hb hK hPj 1 0 rfl rfl (by omega) (by decide) rfl dX1_mixedWithLamp_124 ?_
              refine lv_i2l (v := (nI (lnu (v j) i)).toInt64) hx hb dX1_mixedWithLamp_125 rfl ?_
              refine rSl (r := mxL (dgB (v j) (dg6 (v j) now d) i) (nI (lnu (v j) i)).toInt64) (As := [.long (dgB (v j) (dg6 (v j) now d) i), .long ((nI (lnu (v j) i)).toInt64)]) (rest := []) ⟨hx, hb, hml, hown, hts⟩ (c_X1_mixed l D cI cZ cL cJ (dgB (v j) (dg6 (v j) now d) i) ((nI (lnu (v j) i)).toInt64)) (va_cwS 2 hts gX1_mixedWithLamp_X1_mixed rfl rfl rfl (by decide +kernel) ⟨(Nat.le_of_ble_eq_true rfl), (Nat.le_of_ble_eq_true rfl)⟩) hK hE trivial rfl hl.1 rfl (Nat.le_of_ble_eq_true rfl) dX1_mixedWithLamp_126 ⟨(Nat.le_of_ble_eq_true rfl), (Nat.le_of_ble_eq_true rfl)⟩ ?_
              refine lv_lstore (lv' := [(4, .long (mxL (dgB (v j) (dg6 (v j) now d) i) (nI (lnu (v j) i)).toInt64)), (6, .int (nI i)), (0, .ref (ad 0)), (1, .long d), (3, .ref (ad (2 + 3 * j)))]) hx hb dX1_mixedWithLamp_129 hl (by decide) rfl (fun ls hl => ?_)
              refine lv_lload hx hb dX1_mixedWithLamp_131 (lv_at hl 0 rfl) ?_
              refine lv_aload_n hx hb dX1_mixedWithLamp_133 rfl (lv_at hl 4 rfl) ?_
              refine va_getN (D := D) (ci := 0) (v := .ref (ad (4 + 3 * j))) (C := RX0) (T := TX0) (N := 5) hx hb hts hin0 hown hK hPj 0 rfl rfl 1 (by decide) (va_Nw.use rfl (hNF _ (List.mem_of_getElem? (i := 3) rfl))) (fun _ h9 => h9) rfl dX1_mixedWithLamp_134 ?_
              refine lv_iload hx hb dX1_mixedWithLamp_137 (lv_at hl 1 rfl) ?_
              refine n_iald (v := nI (lof (v j) i)) (j := i) hx hb hK hPj 2 0 rfl rfl (by omega) (by decide) rfl dX1_mixedWithLamp_139 ?_
              refine lv_i2l (v := (nI (lof (v j) i)).toInt64) hx hb dX1_mixedWithLamp_140 rfl ?_
              refine rSl (r := dgB (v j) (dg6 (v j) now d) (i + 1)) (As := [.long (mxL (dgB (v j) (dg6 (v j) now d) i) (nI (lnu (v j) i)).toInt64), .long ((nI (lof (v j) i)).toInt64)]) (rest := []) ⟨hx, hb, hml, hown, hts⟩ (c_X1_mixed l D cI cZ cL cJ (mxL (dgB (v j) (dg6 (v j) now d) i) (nI (lnu (v j) i)).toInt64) ((nI (lof (v j) i)).toInt64)) (va_cwS 2 hts gX1_mixedWithLamp_X1_mixed rfl rfl rfl (by decide +kernel) ⟨(Nat.le_of_ble_eq_true rfl), (Nat.le_of_ble_eq_true rfl)⟩) hK hE trivial rfl hl.1 rfl (Nat.le_of_ble_eq_true rfl) dX1_mixedWithLamp_141 ⟨(Nat.le_of_ble_eq_true rfl), (Nat.le_of_ble_eq_true rfl)⟩ ?_
              refine lv_lstore (lv' := [(4, .long (dgB (v j) (dg6 (v j) now d) (i + 1))), (6, .int (nI i)), (0, .ref (ad 0)), (1, .long d), (3, .ref (ad (2 + 3 * j)))]) hx hb dX1_mixedWithLamp_144 hl (by decide) rfl (fun ls hl => ?_)
              refine lv_iinc (v := nI (i + 1)) (lv' := [(6, .int (nI (i + 1))), (4, .long (dgB (v j) (dg6 (v j) now d) (i + 1))), (0, .ref (ad 0)), (1, .long d), (3, .ref (ad (2 + 3 * j)))]) hx hb dX1_mixedWithLamp_146 hl (k := 1) rfl (nI_inc _) (by decide) rfl (fun ls hl => ?_)
              refine lv_goto (tgt := 107) hx hb dX1_mixedWithLamp_149 (by decide) ?_
              exact ih_107 (i + 1) (by omega) (by omega) ls (lv_sub hl [0, 1, 2, 3, 4] rfl)
        exact loop_107 (lbc (v j) + 1) 0 (by omega) (Nat.zero_le _) ls (lv_sub hl [0, 1, 2, 3, 4] rfl)
      refine lv_lload hx hb dX1_mixedWithLamp_57 (lv_at hl 0 rfl) ?_
      refine lv_aload_n hx hb dX1_mixedWithLamp_59 rfl (lv_at hl 3 rfl) ?_
      refine rV (r := bI (decide (cyc (v j) = 1))) (As := []) (rest := [.long (dg3 (v j) now d)]) ⟨hx, hb, hml, hown, hts⟩ (c_X0_neverChanges l D cI cZ cL cJ (ad (2 + 3 * j)) (ad (3 + 3 * j)) (ad (4 + 3 * j)) (v j) (hwl j (by omega)).up) (cwV 0 hts gX1_mixedWithLamp_X0_neverChanges rfl rfl rfl (by decide +kernel) ⟨(Nat.le_of_ble_eq_true rfl), (Nat.le_of_ble_eq_true rfl)⟩) hK hE hPj (RC_of (q := (RX0, TX0, 5)) (ci := 0) hK rfl (vpa hPj 0 rfl)) rfl hl.1 rfl (Nat.le_of_ble_eq_true rfl) dX1_mixedWithLamp_60 ⟨(Nat.le_of_ble_eq_true rfl), (Nat.le_of_ble_eq_true rfl)⟩ ?_
      refine b_if_eq (b := decide (cyc (v j) = 1)) (tgt := 70) hx hb dX1_mixedWithLamp_63 (by decide) (fun c_63 => ?_) (fun c_63 => ?_)
      · refine lv_lconst (v := 0) hx hb dX1_mixedWithLamp_70 (by decide) ?_
        refine n_tl (y := bJ (decide (cyc (v j) = 1))) (by rw [c_63]; rfl) ?_
        exact join_71 ls (lv_sub hl [0, 1, 2, 3] rfl)
      · refine lv_lconst (v := 1) hx hb dX1_mixedWithLamp_66 (by decide) ?_
        refine lv_goto (tgt := 71) hx hb dX1_mixedWithLamp_67 (by decide) ?_
        refine n_tl (y := bJ (decide (cyc (v j) = 1))) (by rw [c_63]; rfl) ?_
        exact join_71 ls (lv_sub hl [0, 1, 2, 3] rfl)
    refine lv_lload hx hb dX1_mixedWithLamp_34 (lv_at hl 0 rfl) ?_
    refine lv_aload_n hx hb dX1_mixedWithLamp_36 rfl (lv_at hl 3 rfl) ?_
    refine lv_aload_n hx hb dX1_mixedWithLamp_37 rfl (lv_at hl 1 rfl) ?_
    refine va_get (D := D) (ci := 1) (v := .int (nI now)) (C := RX1) (T := TX1) (N := 5) hx hb hts hin1 hown hK hP0 0 rfl rfl 3 (by decide) (hts (.fieldLink RX1 73 "LanternPrimes" "present" "I") (List.mem_of_getElem? (i := 1) rfl)) (fun _ h9 => h9) rfl dX1_mixedWithLamp_38 ?_
    refine rV (r := bI (onB (v j) now)) (As := [.int (nI now)]) (rest := [.long (dg2 (v j) d)]) ⟨hx, hb, hml, hown, hts⟩ (c_X0_onAt l D cI cZ cL cJ (ad (2 + 3 * j)) (ad (3 + 3 * j)) (ad (4 + 3 * j)) (v j) now (by omega) (hwl j (by omega)).up) (cwV 1 hts gX1_mixedWithLamp_X0_onAt rfl rfl rfl (by decide +kernel) ⟨(Nat.le_of_ble_eq_true rfl), (Nat.le_of_ble_eq_true rfl)⟩) hK hE hPj (RC_of (q := (RX0, TX0, 5)) (ci := 0) hK rfl (vpa hPj 0 rfl)) rfl hl.1 rfl (Nat.le_of_ble_eq_true rfl) dX1_mixedWithLamp_41 ⟨(Nat.le_of_ble_eq_true rfl), (Nat.le_of_ble_eq_true rfl)⟩ ?_
    refine b_if_eq (b := onB (v j) now) (tgt := 51) hx hb dX1_mixedWithLamp_44 (by decide) (fun c_44 => ?_) (fun c_44 => ?_)
    · refine lv_lconst (v := 0) hx hb dX1_mixedWithLamp_51 (by decide) ?_
      refine n_tl (y := bJ (onB (v j) now)) (by rw [c_44]; rfl) ?_
      exact join_52 ls (lv_sub hl [0, 1, 2, 3] rfl)
    · refine lv_lconst (v := 1) hx hb dX1_mixedWithLamp_47 (by decide) ?_
      refine lv_goto (tgt := 52) hx hb dX1_mixedWithLamp_48 (by decide) ?_
      refine n_tl (y := bJ (onB (v j) now)) (by rw [c_44]; rfl) ?_
      exact join_52 ls (lv_sub hl [0, 1, 2, 3] rfl)
  refine lv_lload hx hb dX1_mixedWithLamp_15 (lv_at hl 0 rfl) ?_
  refine lv_aload_n hx hb dX1_mixedWithLamp_17 rfl (lv_at hl 3 rfl) ?_
  refine va_getN (D := D) (ci := 0) (v := .int (bI (lcv (v j)))) (C := RX0) (T := TX0) (N := 5) hx hb hts hin0 hown hK hPj 0 rfl rfl 4 (by decide) (va_Nw.use rfl (hNF _ (List.mem_of_getElem? (i := 4) rfl))) (fun _ h9 => h9) rfl dX1_mixedWithLamp_18 ?_
  refine b_if_eq (b := lcv (v j)) (tgt := 28) hx hb dX1_mixedWithLamp_21 (by decide) (fun c_21 => ?_) (fun c_21 => ?_)
  · refine lv_lconst (v := 0) hx hb dX1_mixedWithLamp_28 (by decide) ?_
    refine n_tl (y := bJ (lcv (v j))) (by rw [c_21]; rfl) ?_
    exact join_29 ls (lv_sub hl [0, 1, 2, 3] rfl)
  · refine lv_lconst (v := 1) hx hb dX1_mixedWithLamp_24 (by decide) ?_
    refine lv_goto (tgt := 29) hx hb dX1_mixedWithLamp_25 (by decide) ?_
    refine n_tl (y := bJ (lcv (v j))) (by rw [c_21]; rfl) ?_
    exact join_29 ls (lv_sub hl [0, 1, 2, 3] rfl)
set_option maxHeartbeats 4000000 in
set_option maxRecDepth 100000 in
/-- digest -/
theorem c_X1_digest (l : Launch) (D : va_G) (cI cZ cL cJ : ClassId) (ad : Nat → Nat) (n now : Nat) (told : Int32) (v : Nat → LV) (hwf : WFX n now v) : Met l yX1_digest wsX1_digest ({ frames := 5, cells := 0, slots := 0, locals := 118 } : Room) (PC D (TY cI cZ cL cJ) noA [.ref (ad 0)] (fun H => PX D cI cL ad n now told v H)) (QLg (dgst n now told v)) 0 0 (fun _ => False) := by
  refine Met.ofW (cc := cX1_digest) (maxL := 4) (ret := (some .long)) (by decide) rfl ?_
  intro p e s m args below meth c s₁ B hml hv
  obtain ⟨rfl, hK, hE, hP0, hPL⟩ := hv
  obtain ⟨hn8, hnow, hwl⟩ := hwf
  have hx := B.exec
  have hb := B.bytes
  have hr := B.returns
  have hts := atoms_spec (ws := wsX1_digest) B.pre
  have hown : s.vm.findClass RX1 = some m.cls := findClass_of_methodNamed B.named
  have hlocks := B.notSynchronized
  have hNF := hE.2.1.1
  have hin0 : ∀ w ∈ wsX00, w ∈ wsX1_digest := by decide +kernel
  have hin1 : ∀ w ∈ wsX10, w ∈ wsX1_digest := by decide +kernel
  have hl := lv_entry ([.ref (ad 0)]) (n := 4) (Nat.le_of_ble_eq_true rfl)
  rw [lg_entry_eq]
  generalize (lg_sl ([.ref (ad 0)]) ++ List.replicate (4 - (lg_sl ([.ref (ad 0)])).length) Slot.unset).toArray = ls at hl ⊢
  have hl : lv_has ls 4 [(0, .ref (ad 0))] := hl
  refine lv_ldc2 (v := 1889) hx hb hown (hts (.constantLong RX1 129 (1889)) (List.mem_of_getElem? (i := 1) rfl)) dX1_digest_0 ?_
  refine lv_lstore_n (lv' := [(1, .long 1889), (0, .ref (ad 0))]) hx hb dX1_digest_3 rfl hl (by decide) rfl (fun ls hl => ?_)
  refine lv_lload_n hx hb dX1_digest_4 rfl (lv_at hl 0 rfl) ?_
  refine lv_aload_n hx hb dX1_digest_5 rfl (lv_at hl 1 rfl) ?_
  refine va_get (D := D) (ci := 1) (v := .int (nI n)) (C := RX1) (T := TX1) (N := 5) hx hb hts hin1 hown hK hP0 0 rfl rfl 2 (by decide) (hts (.fieldLink RX1 20 "LanternPrimes" "lampCount" "I") (List.mem_of_getElem? (i := 2) rfl)) (fun _ h9 => h9) rfl dX1_digest_6 ?_
  refine lv_i2l (v := (nI n).toInt64) hx hb dX1_digest_9 rfl ?_
  refine rSl (r := mxL 1889 (nI n).toInt64) (As := [.long 1889, .long ((nI n).toInt64)]) (rest := []) ⟨hx, hb, hml, hown, hts⟩ (c_X1_mixed l D cI cZ cL cJ 1889 ((nI n).toInt64)) (va_cwS 2 hts gX1_digest_X1_mixed rfl rfl rfl (by decide +kernel) ⟨(Nat.le_of_ble_eq_true rfl), (Nat.le_of_ble_eq_true rfl)⟩) hK hE trivial rfl hl.1 rfl (Nat.le_of_ble_eq_true rfl) dX1_digest_10 ⟨(Nat.le_of_ble_eq_true rfl), (Nat.le_of_ble_eq_true rfl)⟩ ?_
  refine lv_lstore_n (lv' := [(1, .long (mxL 1889 (nI n).toInt64)), (0, .ref (ad 0))]) hx hb dX1_digest_13 rfl hl (by decide) rfl (fun ls hl => ?_)
  refine lv_lload_n hx hb dX1_digest_14 rfl (lv_at hl 0 rfl) ?_
  refine lv_aload_n hx hb dX1_digest_15 rfl (lv_at hl 1 rfl) ?_
  refine va_get (D := D) (ci := 1) (v := .int (nI now)) (C := RX1) (T := TX1) (N := 5) hx hb hts hin1 hown hK hP0 0 rfl rfl 3 (by decide) (hts (.fieldLink RX1 73 "LanternPrimes" "present" "I") (List.mem_of_getElem? (i := 3) rfl)) (fun _ h9 => h9) rfl dX1_digest_16 ?_
  refine lv_i2l (v := (nI now).toInt64) hx hb dX1_digest_19 rfl ?_
  refine rSl (r := mxL (mxL 1889 (nI n).toInt64) (nI now).toInt64) (As := [.long (mxL 1889 (nI n).toInt64), .long ((nI now).toInt64)]) (rest := []) ⟨hx, hb, hml, hown, hts⟩ (c_X1_mixed l D cI cZ cL cJ (mxL 1889 (nI n).toInt64) ((nI now).toInt64)) (va_cwS 2 hts gX1_digest_X1_mixed rfl rfl rfl (by decide +kernel) ⟨(Nat.le_of_ble_eq_true rfl), (Nat.le_of_ble_eq_true rfl)⟩) hK hE trivial rfl hl.1 rfl (Nat.le_of_ble_eq_true rfl) dX1_digest_20 ⟨(Nat.le_of_ble_eq_true rfl), (Nat.le_of_ble_eq_true rfl)⟩ ?_
  refine lv_lstore_n (lv' := [(1, .long (mxL (mxL 1889 (nI n).toInt64) (nI now).toInt64)), (0, .ref (ad 0))]) hx hb dX1_digest_23 rfl hl (by decide) rfl (fun ls hl => ?_)
  refine lv_lload_n hx hb dX1_digest_24 rfl (lv_at hl 0 rfl) ?_
  refine lv_aload_n hx hb dX1_digest_25 rfl (lv_at hl 1 rfl) ?_
  refine va_get (D := D) (ci := 1) (v := .int told) (C := RX1) (T := TX1) (N := 5) hx hb hts hin1 hown hK hP0 0 rfl rfl 4 (by decide) (hts (.fieldLink RX1 80 "LanternPrimes" "changesTold" "I") (List.mem_of_getElem? (i := 4) rfl)) (fun _ h9 => h9) rfl dX1_digest_26 ?_
  refine lv_i2l (v := told.toInt64) hx hb dX1_digest_29 rfl ?_
  refine rSl (r := mxL (mxL (mxL 1889 (nI n).toInt64) (nI now).toInt64) told.toInt64) (As := [.long (mxL (mxL 1889 (nI n).toInt64) (nI now).toInt64), .long told.toInt64]) (rest := []) ⟨hx, hb, hml, hown, hts⟩ (c_X1_mixed l D cI cZ cL cJ (mxL (mxL 1889 (nI n).toInt64) (nI now).toInt64) told.toInt64) (va_cwS 2 hts gX1_digest_X1_mixed rfl rfl rfl (by decide +kernel) ⟨(Nat.le_of_ble_eq_true rfl), (Nat.le_of_ble_eq_true rfl)⟩) hK hE trivial rfl hl.1 rfl (Nat.le_of_ble_eq_true rfl) dX1_digest_30 ⟨(Nat.le_of_ble_eq_true rfl), (Nat.le_of_ble_eq_true rfl)⟩ ?_
  refine lv_lstore_n (lv' := [(1, .long (mxL (mxL (mxL 1889 (nI n).toInt64) (nI now).toInt64) told.toInt64)), (0, .ref (ad 0))]) hx hb dX1_digest_33 rfl hl (by decide) rfl (fun ls hl => ?_)
  refine lv_lload_n hx hb dX1_digest_34 rfl (lv_at hl 0 rfl) ?_
  refine lv_aload_n hx hb dX1_digest_35 rfl (lv_at hl 1 rfl) ?_
  refine lv_aload_n hx hb dX1_digest_36 rfl (lv_at hl 1 rfl) ?_
  refine va_get (D := D) (ci := 1) (v := .int (nI now)) (C := RX1) (T := TX1) (N := 5) hx hb hts hin1 hown hK hP0 0 rfl rfl 3 (by decide) (hts (.fieldLink RX1 73 "LanternPrimes" "present" "I") (List.mem_of_getElem? (i := 3) rfl)) (fun _ h9 => h9) rfl dX1_digest_37 ?_
  refine rV (r := nI (litN v n now)) (As := [.int (nI now)]) (rest := [.long (mxL (mxL (mxL 1889 (nI n).toInt64) (nI now).toInt64) told.toInt64)]) ⟨hx, hb, hml, hown, hts⟩ (c_X1_litCount l D cI cZ cL cJ ad n now told v ⟨hn8, hnow, hwl⟩ now (by omega)) (cwV 1 hts gX1_digest_X1_litCount rfl rfl rfl (by decide +kernel) ⟨(Nat.le_of_ble_eq_true rfl), (Nat.le_of_ble_eq_true rfl)⟩) hK hE ⟨hP0, hPL⟩ (RC_of (q := (RX1, TX1, 5)) (ci := 1) hK rfl (vpa hP0 0 rfl)) rfl hl.1 rfl (Nat.le_of_ble_eq_true rfl) dX1_digest_40 ⟨(Nat.le_of_ble_eq_true rfl), (Nat.le_of_ble_eq_true rfl)⟩ ?_
  refine lv_i2l (v := (nI (litN v n now)).toInt64) hx hb dX1_digest_43 rfl ?_
  refine rSl (r := dgA n now told v) (As := [.long (mxL (mxL (mxL 1889 (nI n).toInt64) (nI now).toInt64) told.toInt64), .long ((nI (litN v n now)).toInt64)]) (rest := []) ⟨hx, hb, hml, hown, hts⟩ (c_X1_mixed l D cI cZ cL cJ (mxL (mxL (mxL 1889 (nI n).toInt64) (nI now).toInt64) told.toInt64) ((nI (litN v n now)).toInt64)) (va_cwS 2 hts gX1_digest_X1_mixed rfl rfl rfl (by decide +kernel) ⟨(Nat.le_of_ble_eq_true rfl), (Nat.le_of_ble_eq_true rfl)⟩) hK hE trivial rfl hl.1 rfl (Nat.le_of_ble_eq_true rfl) dX1_digest_44 ⟨(Nat.le_of_ble_eq_true rfl), (Nat.le_of_ble_eq_true rfl)⟩ ?_
  refine lv_lstore_n (lv' := [(1, .long (dgA n now told v)), (0, .ref (ad 0))]) hx hb dX1_digest_47 rfl hl (by decide) rfl (fun ls hl => ?_)
  refine lv_iconst (v := nI 0) hx hb dX1_digest_48 (by decide) ?_
  refine lv_istore_n (lv' := [(3, .int (nI 0)), (1, .long (dgA n now told v)), (0, .ref (ad 0))]) hx hb dX1_digest_49 rfl hl (by decide) rfl (fun ls hl => ?_)
  have loop_50 : ∀ (fu : Nat) (j : Nat), n + 1 - j ≤ fu → j ≤ n → ∀ (ls : Array Slot), lv_has ls 4 [(3, .int (nI j)), (1, .long (dgK v now (dgA n now told v) j)), (0, .ref (ad 0))] → W p l e (headSpec wsX1_digest ({ frames := 5, cells := 0, slots := 0, locals := 118 } : Room)).room s m [.ref (ad 0)].toArray below meth c s.heap [] 0 0 (MQ below (QLg (dgst n now told v)) [.ref (ad 0)].toArray s 0 0 (fun _ => False)) (F0 m 50 ls []) := by
    intro fu
    induction fu with
    | zero => intro j hn_50 hj; exact absurd hn_50 (by omega)
    | succ fu ih_50 =>
      intro j hn_50 hj ls hl
      refine lv_iload_n hx hb dX1_digest_50 rfl (lv_at hl 0 rfl) ?_
      refine lv_aload_n hx hb dX1_digest_51 rfl (lv_at hl 2 rfl) ?_
      refine va_get (D := D) (ci := 1) (v := .int (nI n)) (C := RX1) (T := TX1) (N := 5) hx hb hts hin1 hown hK hP0 0 rfl rfl 2 (by decide) (hts (.fieldLink RX1 20 "LanternPrimes" "lampCount" "I") (List.mem_of_getElem? (i := 2) rfl)) (fun _ h9 => h9) rfl dX1_digest_52 ?_
      refine n_icmp_ge (a := j) (b := n) (tgt := 76) hx hb (by omega) (by omega) dX1_digest_55 (by decide) (fun c_55 => ?_) (fun c_55 => ?_)
      · refine lv_lload_n hx hb dX1_digest_76 rfl (lv_at hl 1 rfl) ?_
        refine n_tl (y := dgst n now told v) (by rw [show j = n by omega]; rfl) ?_
        exact W.lret (v := dgst n now told v) hx hb hr (fun t ht hW => ⟨rfl, ht⟩) (fun _ h => by cases h) dX1_digest_77
      · refine lv_aload_n hx hb dX1_digest_58 rfl (lv_at hl 2 rfl) ?_
        refine lv_lload_n hx hb dX1_digest_59 rfl (lv_at hl 1 rfl) ?_
        refine lv_aload_n hx hb dX1_digest_60 rfl (lv_at hl 2 rfl) ?_
        refine va_get (D := D) (ci := 1) (v := .ref (ad 1)) (C := RX1) (T := TX1) (N := 5) hx hb hts hin1 hown hK hP0 0 rfl rfl 0 (by decide) (hts (.fieldLink RX1 11 "LanternPrimes" "row" "[LLanternPrimes$Lamp;") (List.mem_of_getElem? (i := 5) rfl)) (fun _ h9 => h9) rfl dX1_digest_61 ?_
        refine lv_iload_n hx hb dX1_digest_64 rfl (lv_at hl 0 rfl) ?_
        refine n_aald (v := ad (2 + 3 * j)) (j := j) hx hb hK hP0 1 2 rfl rfl (by omega) (by decide) rfl dX1_digest_65 ?_
        refine rVl (r := dgK v now (dgA n now told v) (j + 1)) (As := [.long (dgK v now (dgA n now told v) j), .ref (ad (2 + 3 * j))]) (rest := []) ⟨hx, hb, hml, hown, hts⟩ (c_X1_mixedWithLamp l D cI cZ cL cJ ad n now told v ⟨hn8, hnow, hwl⟩ j c_55 (dgK v now (dgA n now told v) j)) (cwV 2 hts gX1_digest_X1_mixedWithLamp rfl rfl rfl (by decide +kernel) ⟨(Nat.le_of_ble_eq_true rfl), (Nat.le_of_ble_eq_true rfl)⟩) hK hE ⟨hP0, hPL⟩ (RC_of (q := (RX1, TX1, 5)) (ci := 1) hK rfl (vpa hP0 0 rfl)) rfl hl.1 rfl (Nat.le_of_ble_eq_true rfl) dX1_digest_66 ⟨(Nat.le_of_ble_eq_true rfl), (Nat.le_of_ble_eq_true rfl)⟩ ?_
        refine lv_lstore_n (lv' := [(1, .long (dgK v now (dgA n now told v) (j + 1))), (3, .int (nI j)), (0, .ref (ad 0))]) hx hb dX1_digest_69 rfl hl (by decide) rfl (fun ls hl => ?_)
        refine lv_iinc (v := nI (j + 1)) (lv' := [(3, .int (nI (j + 1))), (1, .long (dgK v now (dgA n now told v) (j + 1))), (0, .ref (ad 0))]) hx hb dX1_digest_70 hl (k := 1) rfl (nI_inc _) (by decide) rfl (fun ls hl => ?_)
        refine lv_goto (tgt := 50) hx hb dX1_digest_73 (by decide) ?_
        exact ih_50 (j + 1) (by omega) (by omega) ls (lv_sub hl [0, 1, 2] rfl)
  exact loop_50 (n + 1) 0 (by omega) (Nat.zero_le _) ls (lv_sub hl [0, 1, 2] rfl)
end
section
set_option maxHeartbeats 4000000 in
set_option maxRecDepth 100000 in
/-- beatsOf -/
theorem c_X1_beatsOf (l : Launch) (D : va_G) (cI cZ cL cJ : ClassId) (hst : l.stackTraces = false) (ad : Nat → Nat) (n now : Nat) (told : Int32) (v : Nat → LV) (hwf : WFX n now v) (k : Int32) : vx_Met l yX1_beatsOf wsX1_beatsOf ({ frames := 7, cells := 1, slots := 6, locals := 103 } : Room) (PC D (TY cI cZ cL cJ) noA [.ref (ad 0), .int k] (fun H => PX D cI cL ad n now told v H)) (QOk (cd1 (lpOk n k) = 0) (nI (lbc (v (ixx k))))) (XC1 (fun E => exC [tIOB] (cd1 (lpOk n k)) E)) 1 6 (fun _ => False) := by
  refine vx_ofW (cc := cX1_beatsOf) (maxL := 2) (ret := (some .int)) (by decide) rfl ?_
  intro p e s m args below meth c s₁ B hml hex hv
  obtain ⟨rfl, hK, hE, hP0, hPL⟩ := hv
  obtain ⟨hn8, hnow, hwl⟩ := hwf
  have hx := B.exec
  have hb := B.bytes
  have hr := B.returns
  have hts := atoms_spec (ws := wsX1_beatsOf) B.pre
  have hown : s.vm.findClass RX1 = some m.cls := findClass_of_methodNamed B.named
  have hlocks := B.notSynchronized
  have hNF := hE.2.1.1
  have hin0 : ∀ w ∈ wsX00, w ∈ wsX1_beatsOf := by decide +kernel
  have hin1 : ∀ w ∈ wsX10, w ∈ wsX1_beatsOf := by decide +kernel
  have hl := lv_entry ([.ref (ad 0), .int k]) (n := 2) (Nat.le_of_ble_eq_true rfl)
  rw [lg_entry_eq]
  generalize (lg_sl ([.ref (ad 0), .int k]) ++ List.replicate (2 - (lg_sl ([.ref (ad 0), .int k])).length) Slot.unset).toArray = ls at hl ⊢
  have hl : lv_has ls 2 [(0, .ref (ad 0)), (1, .int k)] := hl
  refine lv_aload_n hx hb dX1_beatsOf_0 rfl (lv_at hl 0 rfl) ?_
  refine lv_iload_n hx hb dX1_beatsOf_1 rfl (lv_at hl 1 rfl) ?_
  refine xVp (As := [.int k]) (rest := []) ⟨hx, hb, hml, hown, hts⟩ (c_X1_needLamp l D cI cZ cL cJ hst ad n now told v ⟨hn8, hnow, hwl⟩ k) (cwV 1 hts gX1_beatsOf_X1_needLamp rfl rfl rfl (by decide +kernel) ⟨(Nat.le_of_ble_eq_true rfl), (Nat.le_of_ble_eq_true rfl)⟩) hK hE ⟨hP0, hPL⟩ (RC_of (q := (RX1, TX1, 5)) (ci := 1) hK rfl (vpa hP0 0 rfl)) rfl hl.1 rfl (Nat.le_of_ble_eq_true rfl) dX1_beatsOf_2 ⟨(Nat.le_of_ble_eq_true rfl), (Nat.le_of_ble_eq_true rfl)⟩ hex hlocks (fun E h => by rw [h.1]; exact ex1 h.2) (Nat.le_of_ble_eq_true rfl) (Nat.le_of_ble_eq_true rfl) (fun hok => ?_)
  obtain ⟨j, hj, rfl⟩ := lpOk_j (by omega) hok
  refine lv_aload_n hx hb dX1_beatsOf_5 rfl (lv_at hl 0 rfl) ?_
  refine va_get (D := D) (ci := 1) (v := .ref (ad 1)) (C := RX1) (T := TX1) (N := 5) hx hb hts hin1 hown hK hP0 0 rfl rfl 0 (by decide) (hts (.fieldLink RX1 11 "LanternPrimes" "row" "[LLanternPrimes$Lamp;") (List.mem_of_getElem? (i := 1) rfl)) (fun _ h9 => h9) rfl dX1_beatsOf_6 ?_
  refine lv_iload_n hx hb dX1_beatsOf_9 rfl (lv_at hl 1 rfl) ?_
  refine n_aald (v := ad (2 + 3 * j)) (j := j) hx hb hK hP0 1 2 rfl rfl (by omega) (by decide) rfl dX1_beatsOf_10 ?_
  have hPj := hPL j (by omega)
  refine va_getN (D := D) (ci := 0) (v := .int (nI (lbc (v j)))) (C := RX0) (T := TX0) (N := 5) hx hb hts hin0 hown hK hPj 0 rfl rfl 2 (by decide) (va_Nw.use rfl (hNF _ (List.mem_of_getElem? (i := 1) rfl))) (fun _ h9 => h9) rfl dX1_beatsOf_11 ?_
  refine n_ti (y := nI (lbc (v (ixx (nI j))))) (by rw [ixx_nI (by omega)]) ?_
  refine vx_ret ?_
  refine W.widen (k := 1) (n := 6) (Nat.le_of_ble_eq_true rfl) (Nat.le_of_ble_eq_true rfl) ?_
  exact W.iret (v := nI (lbc (v (ixx (nI j))))) hx hb hr (fun t ht hW => ⟨(cd1_t hok), rfl, ht⟩) (fun _ h => by cases h) dX1_beatsOf_14
set_option maxHeartbeats 4000000 in
set_option maxRecDepth 100000 in
/-- numberOf -/
theorem c_X1_numberOf (l : Launch) (D : va_G) (cI cZ cL cJ : ClassId) (hst : l.stackTraces = false) (ad : Nat → Nat) (n now : Nat) (told : Int32) (v : Nat → LV) (hwf : WFX n now v) (k b : Int32) : vx_Met l yX1_numberOf wsX1_numberOf ({ frames := 8, cells := 2, slots := 12, locals := 125 } : Room) (PC D (TY cI cZ cL cJ) noA [.ref (ad 0), .int k, .int b] (fun H => PX D cI cL ad n now told v H)) (QOk (cd1 (btOk n v k b) = 0) (nI (lnu (v (ixx k)) (ixx b)))) (XC1 (fun E => exC [tIOB] (cd1 (btOk n v k b)) E)) 2 12 (fun _ => False) := by
  refine vx_ofW (cc := cX1_numberOf) (maxL := 3) (ret := (some .int)) (by decide) rfl ?_
  intro p e s m args below meth c s₁ B hml hex hv
  obtain ⟨rfl, hK, hE, hP0, hPL⟩ := hv
  obtain ⟨hn8, hnow, hwl⟩ := hwf
  have hx := B.exec
  have hb := B.bytes
  have hr := B.returns
  have hts := atoms_spec (ws := wsX1_numberOf) B.pre
  have hown : s.vm.findClass RX1 = some m.cls := findClass_of_methodNamed B.named
  have hlocks := B.notSynchronized
  have hNF := hE.2.1.1
  have hin0 : ∀ w ∈ wsX00, w ∈ wsX1_numberOf := by decide +kernel
  have hin1 : ∀ w ∈ wsX10, w ∈ wsX1_numberOf := by decide +kernel
  have hl := lv_entry ([.ref (ad 0), .int k, .int b]) (n := 3) (Nat.le_of_ble_eq_true rfl)
  rw [lg_entry_eq]
  generalize (lg_sl ([.ref (ad 0), .int k, .int b]) ++ List.replicate (3 - (lg_sl ([.ref (ad 0), .int k, .int b])).length) Slot.unset).toArray = ls at hl ⊢
  have hl : lv_has ls 3 [(0, .ref (ad 0)), (1, .int k), (2, .int b)] := hl
  refine lv_aload_n hx hb dX1_numberOf_0 rfl (lv_at hl 0 rfl) ?_
  refine lv_iload_n hx hb dX1_numberOf_1 rfl (lv_at hl 1 rfl) ?_
  refine lv_iload_n hx hb dX1_numberOf_2 rfl (lv_at hl 2 rfl) ?_
  refine xVp (As := [.int k, .int b]) (rest := []) ⟨hx, hb, hml, hown, hts⟩ (c_X1_needBeat l D cI cZ cL cJ hst ad n now told v ⟨hn8, hnow, hwl⟩ k b) (cwV 2 hts gX1_numberOf_X1_needBeat rfl rfl rfl (by decide +kernel) ⟨(Nat.le_of_ble_eq_true rfl), (Nat.le_of_ble_eq_true rfl)⟩) hK hE ⟨hP0, hPL⟩ (RC_of (q := (RX1, TX1, 5)) (ci := 1) hK rfl (vpa hP0 0 rfl)) rfl hl.1 rfl (Nat.le_of_ble_eq_true rfl) dX1_numberOf_3 ⟨(Nat.le_of_ble_eq_true rfl), (Nat.le_of_ble_eq_true rfl)⟩ hex hlocks (fun E h => by rw [h.1]; exact ex1 h.2) (Nat.le_of_ble_eq_true rfl) (Nat.le_of_ble_eq_true rfl) (fun hok => ?_)
  obtain ⟨j, i, hj, hi, rfl, rfl⟩ := btOk_j hn8 hwl hok
  have hw4 := (hwl j (by omega)).1
  refine lv_aload_n hx hb dX1_numberOf_6 rfl (lv_at hl 0 rfl) ?_
  refine va_get (D := D) (ci := 1) (v := .ref (ad 1)) (C := RX1) (T := TX1) (N := 5) hx hb hts hin1 hown hK hP0 0 rfl rfl 0 (by decide) (hts (.fieldLink RX1 11 "LanternPrimes" "row" "[LLanternPrimes$Lamp;") (List.mem_of_getElem? (i := 1) rfl)) (fun _ h9 => h9) rfl dX1_numberOf_7 ?_
  refine lv_iload_n hx hb dX1_numberOf_10 rfl (lv_at hl 1 rfl) ?_
  refine n_aald (v := ad (2 + 3 * j)) (j := j) hx hb hK hP0 1 2 rfl rfl (by omega) (by decide) rfl dX1_numberOf_11 ?_
  have hPj := hPL j (by omega)
  refine va_getN (D := D) (ci := 0) (v := .ref (ad (3 + 3 * j))) (C := RX0) (T := TX0) (N := 5) hx hb hts hin0 hown hK hPj 0 rfl rfl 0 (by decide) (va_Nw.use rfl (hNF _ (List.mem_of_getElem? (i := 2) rfl))) (fun _ h9 => h9) rfl dX1_numberOf_12 ?_
  refine lv_iload_n hx hb dX1_numberOf_15 rfl (lv_at hl 2 rfl) ?_
  refine n_iald (v := nI (lnu (v j) i)) (j := i) hx hb hK hPj 1 0 rfl rfl (by omega) (by decide) rfl dX1_numberOf_16 ?_
  refine n_ti (y := nI (lnu (v (ixx (nI j))) (ixx (nI i)))) (by rw [ixx_nI (by omega), ixx_nI (by omega)]) ?_
  refine vx_ret ?_
  refine W.widen (k := 2) (n := 12) (Nat.le_of_ble_eq_true rfl) (Nat.le_of_ble_eq_true rfl) ?_
  exact W.iret (v := nI (lnu (v (ixx (nI j))) (ixx (nI i)))) hx hb hr (fun t ht hW => ⟨(cd1_t hok), rfl, ht⟩) (fun _ h => by cases h) dX1_numberOf_17
set_option maxHeartbeats 4000000 in
set_option maxRecDepth 100000 in
/-- offsetOf -/
theorem c_X1_offsetOf (l : Launch) (D : va_G) (cI cZ cL cJ : ClassId) (hst : l.stackTraces = false) (ad : Nat → Nat) (n now : Nat) (told : Int32) (v : Nat → LV) (hwf : WFX n now v) (k b : Int32) : vx_Met l yX1_offsetOf wsX1_offsetOf ({ frames := 8, cells := 2, slots := 12, locals := 125 } : Room) (PC D (TY cI cZ cL cJ) noA [.ref (ad 0), .int k, .int b] (fun H => PX D cI cL ad n now told v H)) (QOk (cd1 (btOk n v k b) = 0) (nI (lof (v (ixx k)) (ixx b)))) (XC1 (fun E => exC [tIOB] (cd1 (btOk n v k b)) E)) 2 12 (fun _ => False) := by
  refine vx_ofW (cc := cX1_offsetOf) (maxL := 3) (ret := (some .int)) (by decide) rfl ?_
  intro p e s m args below meth c s₁ B hml hex hv
  obtain ⟨rfl, hK, hE, hP0, hPL⟩ := hv
  obtain ⟨hn8, hnow, hwl⟩ := hwf
  have hx := B.exec
  have hb := B.bytes
  have hr := B.returns
  have hts := atoms_spec (ws := wsX1_offsetOf) B.pre
  have hown : s.vm.findClass RX1 = some m.cls := findClass_of_methodNamed B.named
  have hlocks := B.notSynchronized
  have hNF := hE.2.1.1
  have hin0 : ∀ w ∈ wsX00, w ∈ wsX1_offsetOf := by decide +kernel
  have hin1 : ∀ w ∈ wsX10, w ∈ wsX1_offsetOf := by decide +kernel
  have hl := lv_entry ([.ref (ad 0), .int k, .int b]) (n := 3) (Nat.le_of_ble_eq_true rfl)
  rw [lg_entry_eq]
  generalize (lg_sl ([.ref (ad 0), .int k, .int b]) ++ List.replicate (3 - (lg_sl ([.ref (ad 0), .int k, .int b])).length) Slot.unset).toArray = ls at hl ⊢
  have hl : lv_has ls 3 [(0, .ref (ad 0)), (1, .int k), (2, .int b)] := hl
  refine lv_aload_n hx hb dX1_offsetOf_0 rfl (lv_at hl 0 rfl) ?_
  refine lv_iload_n hx hb dX1_offsetOf_1 rfl (lv_at hl 1 rfl) ?_
  refine lv_iload_n hx hb dX1_offsetOf_2 rfl (lv_at hl 2 rfl) ?_
  refine xVp (As := [.int k, .int b]) (rest := []) ⟨hx, hb, hml, hown, hts⟩ (c_X1_needBeat l D cI cZ cL cJ hst ad n now told v ⟨hn8, hnow, hwl⟩ k b) (cwV 2 hts gX1_offsetOf_X1_needBeat rfl rfl rfl (by decide +kernel) ⟨(Nat.le_of_ble_eq_true rfl), (Nat.le_of_ble_eq_true rfl)⟩) hK hE ⟨hP0, hPL⟩ (RC_of (q := (RX1, TX1, 5)) (ci := 1) hK rfl (vpa hP0 0 rfl)) rfl hl.1 rfl (Nat.le_of_ble_eq_true rfl) dX1_offsetOf_3 ⟨(Nat.le_of_ble_eq_true rfl), (Nat.le_of_ble_eq_true rfl)⟩ hex hlocks (fun E h => by rw [h.1]; exact ex1 h.2) (Nat.le_of_ble_eq_true rfl) (Nat.le_of_ble_eq_true rfl) (fun hok => ?_)
  obtain ⟨j, i, hj, hi, rfl, rfl⟩ := btOk_j hn8 hwl hok
  have hw4 := (hwl j (by omega)).1
  refine lv_aload_n hx hb dX1_offsetOf_6 rfl (lv_at hl 0 rfl) ?_
  refine va_get (D := D) (ci := 1) (v := .ref (ad 1)) (C := RX1) (T := TX1) (N := 5) hx hb hts hin1 hown hK hP0 0 rfl rfl 0 (by decide) (hts (.fieldLink RX1 11 "LanternPrimes" "row" "[LLanternPrimes$Lamp;") (List.mem_of_getElem? (i := 1) rfl)) (fun _ h9 => h9) rfl dX1_offsetOf_7 ?_
  refine lv_iload_n hx hb dX1_offsetOf_10 rfl (lv_at hl 1 rfl) ?_
  refine n_aald (v := ad (2 + 3 * j)) (j := j) hx hb hK hP0 1 2 rfl rfl (by omega) (by decide) rfl dX1_offsetOf_11 ?_
  have hPj := hPL j (by omega)
  refine va_getN (D := D) (ci := 0) (v := .ref (ad (4 + 3 * j))) (C := RX0) (T := TX0) (N := 5) hx hb hts hin0 hown hK hPj 0 rfl rfl 1 (by decide) (va_Nw.use rfl (hNF _ (List.mem_of_getElem? (i := 3) rfl))) (fun _ h9 => h9) rfl dX1_offsetOf_12 ?_
  refine lv_iload_n hx hb dX1_offsetOf_15 rfl (lv_at hl 2 rfl) ?_
  refine n_iald (v := nI (lof (v j) i)) (j := i) hx hb hK hPj 2 0 rfl rfl (by omega) (by decide) rfl dX1_offsetOf_16 ?_
  refine n_ti (y := nI (lof (v (ixx (nI j))) (ixx (nI i)))) (by rw [ixx_nI (by omega), ixx_nI (by omega)]) ?_
  refine vx_ret ?_
  refine W.widen (k := 2) (n := 12) (Nat.le_of_ble_eq_true rfl) (Nat.le_of_ble_eq_true rfl) ?_
  exact W.iret (v := nI (lof (v (ixx (nI j))) (ixx (nI i)))) hx hb hr (fun t ht hW => ⟨(cd1_t hok), rfl, ht⟩) (fun _ h => by cases h) dX1_offsetOf_17
set_option maxHeartbeats 4000000 in
set_option maxRecDepth 100000 in
/-- isCovered -/
theorem c_X1_isCovered (l : Launch) (D : va_G) (cI cZ cL cJ : ClassId) (hst : l.stackTraces = false) (ad : Nat → Nat) (n now : Nat) (told : Int32) (v : Nat → LV) (hwf : WFX n now v) (k : Int32) : vx_Met l yX1_isCovered wsX1_isCovered ({ frames := 7, cells := 1, slots := 6, locals := 103 } : Room) (PC D (TY cI cZ cL cJ) noA [.ref (ad 0), .int k] (fun H => PX D cI cL ad n now told v H)) (QOk (cd1 (lpOk n k) = 0) (bI (lcv (v (ixx k))))) (XC1 (fun E => exC [tIOB] (cd1 (lpOk n k)) E)) 1 6 (fun _ => False) := by
  refine vx_ofW (cc := cX1_isCovered) (maxL := 2) (ret := (some .boolean)) (by decide) rfl ?_
  intro p e s m args below meth c s₁ B hml hex hv
  obtain ⟨rfl, hK, hE, hP0, hPL⟩ := hv
  obtain ⟨hn8, hnow, hwl⟩ := hwf
  have hx := B.exec
  have hb := B.bytes
  have hr := B.returns
  have hts := atoms_spec (ws := wsX1_isCovered) B.pre
  have hown : s.vm.findClass RX1 = some m.cls := findClass_of_methodNamed B.named
  have hlocks := B.notSynchronized
  have hNF := hE.2.1.1
  have hin0 : ∀ w ∈ wsX00, w ∈ wsX1_isCovered := by decide +kernel
  have hin1 : ∀ w ∈ wsX10, w ∈ wsX1_isCovered := by decide +kernel
  have hl := lv_entry ([.ref (ad 0), .int k]) (n := 2) (Nat.le_of_ble_eq_true rfl)
  rw [lg_entry_eq]
  generalize (lg_sl ([.ref (ad 0), .int k]) ++ List.replicate (2 - (lg_sl ([.ref (ad 0), .int k])).length) Slot.unset).toArray = ls at hl ⊢
  have hl : lv_has ls 2 [(0, .ref (ad 0)), (1, .int k)] := hl
  refine lv_aload_n hx hb dX1_isCovered_0 rfl (lv_at hl 0 rfl) ?_
  refine lv_iload_n hx hb dX1_isCovered_1 rfl (lv_at hl 1 rfl) ?_
  refine xVp (As := [.int k]) (rest := []) ⟨hx, hb, hml, hown, hts⟩ (c_X1_needLamp l D cI cZ cL cJ hst ad n now told v ⟨hn8, hnow, hwl⟩ k) (cwV 1 hts gX1_isCovered_X1_needLamp rfl rfl rfl (by decide +kernel) ⟨(Nat.le_of_ble_eq_true rfl), (Nat.le_of_ble_eq_true rfl)⟩) hK hE ⟨hP0, hPL⟩ (RC_of (q := (RX1, TX1, 5)) (ci := 1) hK rfl (vpa hP0 0 rfl)) rfl hl.1 rfl (Nat.le_of_ble_eq_true rfl) dX1_isCovered_2 ⟨(Nat.le_of_ble_eq_true rfl), (Nat.le_of_ble_eq_true rfl)⟩ hex hlocks (fun E h => by rw [h.1]; exact ex1 h.2) (Nat.le_of_ble_eq_true rfl) (Nat.le_of_ble_eq_true rfl) (fun hok => ?_)
  obtain ⟨j, hj, rfl⟩ := lpOk_j (by omega) hok
  refine lv_aload_n hx hb dX1_isCovered_5 rfl (lv_at hl 0 rfl) ?_
  refine va_get (D := D) (ci := 1) (v := .ref (ad 1)) (C := RX1) (T := TX1) (N := 5) hx hb hts hin1 hown hK hP0 0 rfl rfl 0 (by decide) (hts (.fieldLink RX1 11 "LanternPrimes" "row" "[LLanternPrimes$Lamp;") (List.mem_of_getElem? (i := 1) rfl)) (fun _ h9 => h9) rfl dX1_isCovered_6 ?_
  refine lv_iload_n hx hb dX1_isCovered_9 rfl (lv_at hl 1 rfl) ?_
  refine n_aald (v := ad (2 + 3 * j)) (j := j) hx hb hK hP0 1 2 rfl rfl (by omega) (by decide) rfl dX1_isCovered_10 ?_
  have hPj := hPL j (by omega)
  refine va_getN (D := D) (ci := 0) (v := .int (bI (lcv (v j)))) (C := RX0) (T := TX0) (N := 5) hx hb hts hin0 hown hK hPj 0 rfl rfl 4 (by decide) (va_Nw.use rfl (hNF _ (List.mem_of_getElem? (i := 4) rfl))) (fun _ h9 => h9) rfl dX1_isCovered_11 ?_
  refine n_ti (y := bI (lcv (v (ixx (nI j))))) (by rw [ixx_nI (by omega)]) ?_
  refine vx_ret ?_
  refine W.widen (k := 1) (n := 6) (Nat.le_of_ble_eq_true rfl) (Nat.le_of_ble_eq_true rfl) ?_
  exact W.zret (v := bI (lcv (v (ixx (nI j))))) hx hb hr (bI_narrow _) (fun t ht hW => ⟨(cd1_t hok), rfl, ht⟩) (fun _ h => by cases h) dX1_isCovered_14
set_option maxHeartbeats 4000000 in
set_option maxRecDepth 100000 in
/-- isOn -/
theorem c_X1_isOn (l : Launch) (D : va_G) (cI cZ cL cJ : ClassId) (hst : l.stackTraces = false) (ad : Nat → Nat) (n now : Nat) (told : Int32) (v : Nat → LV) (hwf : WFX n now v) (k : Int32) : vx_Met l yX1_isOn wsX1_isOn ({ frames := 7, cells := 1, slots := 6, locals := 103 } : Room) (PC D (TY cI cZ cL cJ) noA [.ref (ad 0), .int k] (fun H => PX D cI cL ad n now told v H)) (QOk (cd1 (lpOk n k) = 0) (bI (onB (v (ixx k)) now))) (XC1 (fun E => exC [tIOB] (cd1 (lpOk n k)) E)) 1 6 (fun _ => False) := by
  refine vx_ofW (cc := cX1_isOn) (maxL := 2) (ret := (some .boolean)) (by decide) rfl ?_
  intro p e s m args below meth c s₁ B hml hex hv
  obtain ⟨rfl, hK, hE, hP0, hPL⟩ := hv
  obtain ⟨hn8, hnow, hwl⟩ := hwf
  have hx := B.exec
  have hb := B.bytes
  have hr := B.returns
  have hts := atoms_spec (ws := wsX1_isOn) B.pre
  have hown : s.vm.findClass RX1 = some m.cls := findClass_of_methodNamed B.named
  have hlocks := B.notSynchronized
  have hNF := hE.2.1.1
  have hin0 : ∀ w ∈ wsX00, w ∈ wsX1_isOn := by decide +kernel
  have hin1 : ∀ w ∈ wsX10, w ∈ wsX1_isOn := by decide +kernel
  have hl := lv_entry ([.ref (ad 0), .int k]) (n := 2) (Nat.le_of_ble_eq_true rfl)
  rw [lg_entry_eq]
  generalize (lg_sl ([.ref (ad 0), .int k]) ++ List.replicate (2 - (lg_sl ([.ref (ad 0), .int k])).length) Slot.unset).toArray = ls at hl ⊢
  have hl : lv_has ls 2 [(0, .ref (ad 0)), (1, .int k)] := hl
  refine lv_aload_n hx hb dX1_isOn_0 rfl (lv_at hl 0 rfl) ?_
  refine lv_iload_n hx hb dX1_isOn_1 rfl (lv_at hl 1 rfl) ?_
  refine xVp (As := [.int k]) (rest := []) ⟨hx, hb, hml, hown, hts⟩ (c_X1_needLamp l D cI cZ cL cJ hst ad n now told v ⟨hn8, hnow, hwl⟩ k) (cwV 1 hts gX1_isOn_X1_needLamp rfl rfl rfl (by decide +kernel) ⟨(Nat.le_of_ble_eq_true rfl), (Nat.le_of_ble_eq_true rfl)⟩) hK hE ⟨hP0, hPL⟩ (RC_of (q := (RX1, TX1, 5)) (ci := 1) hK rfl (vpa hP0 0 rfl)) rfl hl.1 rfl (Nat.le_of_ble_eq_true rfl) dX1_isOn_2 ⟨(Nat.le_of_ble_eq_true rfl), (Nat.le_of_ble_eq_true rfl)⟩ hex hlocks (fun E h => by rw [h.1]; exact ex1 h.2) (Nat.le_of_ble_eq_true rfl) (Nat.le_of_ble_eq_true rfl) (fun hok => ?_)
  obtain ⟨j, hj, rfl⟩ := lpOk_j (by omega) hok
  refine lv_aload_n hx hb dX1_isOn_5 rfl (lv_at hl 0 rfl) ?_
  refine va_get (D := D) (ci := 1) (v := .ref (ad 1)) (C := RX1) (T := TX1) (N := 5) hx hb hts hin1 hown hK hP0 0 rfl rfl 0 (by decide) (hts (.fieldLink RX1 11 "LanternPrimes" "row" "[LLanternPrimes$Lamp;") (List.mem_of_getElem? (i := 1) rfl)) (fun _ h9 => h9) rfl dX1_isOn_6 ?_
  refine lv_iload_n hx hb dX1_isOn_9 rfl (lv_at hl 1 rfl) ?_
  refine n_aald (v := ad (2 + 3 * j)) (j := j) hx hb hK hP0 1 2 rfl rfl (by omega) (by decide) rfl dX1_isOn_10 ?_
  have hPj := hPL j (by omega)
  refine lv_aload_n hx hb dX1_isOn_11 rfl (lv_at hl 0 rfl) ?_
  refine va_get (D := D) (ci := 1) (v := .int (nI now)) (C := RX1) (T := TX1) (N := 5) hx hb hts hin1 hown hK hP0 0 rfl rfl 3 (by decide) (hts (.fieldLink RX1 73 "LanternPrimes" "present" "I") (List.mem_of_getElem? (i := 2) rfl)) (fun _ h9 => h9) rfl dX1_isOn_12 ?_
  refine rV (r := bI (onB (v j) now)) (As := [.int (nI now)]) (rest := []) ⟨hx, hb, hml, hown, hts⟩ (c_X0_onAt l D cI cZ cL cJ (ad (2 + 3 * j)) (ad (3 + 3 * j)) (ad (4 + 3 * j)) (v j) now (by omega) (hwl j (by omega)).up) (cwV 1 hts gX1_isOn_X0_onAt rfl rfl rfl (by decide +kernel) ⟨(Nat.le_of_ble_eq_true rfl), (Nat.le_of_ble_eq_true rfl)⟩) hK hE hPj (RC_of (q := (RX0, TX0, 5)) (ci := 0) hK rfl (vpa hPj 0 rfl)) rfl hl.1 rfl (Nat.le_of_ble_eq_true rfl) dX1_isOn_15 ⟨(Nat.le_of_ble_eq_true rfl), (Nat.le_of_ble_eq_true rfl)⟩ ?_
  refine n_ti (y := bI (onB (v (ixx (nI j))) now)) (by rw [ixx_nI (by omega)]) ?_
  refine vx_ret ?_
  refine W.widen (k := 1) (n := 6) (Nat.le_of_ble_eq_true rfl) (Nat.le_of_ble_eq_true rfl) ?_
  exact W.zret (v := bI (onB (v (ixx (nI j))) now)) hx hb hr (bI_narrow _) (fun t ht hW => ⟨(cd1_t hok), rfl, ht⟩) (fun _ h => by cases h) dX1_isOn_18
set_option maxHeartbeats 4000000 in
set_option maxRecDepth 100000 in
/-- isLit -/
theorem c_X1_isLit (l : Launch) (D : va_G) (cI cZ cL cJ : ClassId) (hst : l.stackTraces = false) (ad : Nat → Nat) (n now : Nat) (told : Int32) (v : Nat → LV) (hwf : WFX n now v) (k : Int32) : vx_Met l yX1_isLit wsX1_isLit ({ frames := 7, cells := 1, slots := 6, locals := 103 } : Room) (PC D (TY cI cZ cL cJ) noA [.ref (ad 0), .int k] (fun H => PX D cI cL ad n now told v H)) (QOk (cd1 (lpOk n k) = 0) (bI (litB (v (ixx k)) now))) (XC1 (fun E => exC [tIOB] (cd1 (lpOk n k)) E)) 1 6 (fun _ => False) := by
  refine vx_ofW (cc := cX1_isLit) (maxL := 2) (ret := (some .boolean)) (by decide) rfl ?_
  intro p e s m args below meth c s₁ B hml hex hv
  obtain ⟨rfl, hK, hE, hP0, hPL⟩ := hv
  obtain ⟨hn8, hnow, hwl⟩ := hwf
  have hx := B.exec
  have hb := B.bytes
  have hr := B.returns
  have hts := atoms_spec (ws := wsX1_isLit) B.pre
  have hown : s.vm.findClass RX1 = some m.cls := findClass_of_methodNamed B.named
  have hlocks := B.notSynchronized
  have hNF := hE.2.1.1
  have hin0 : ∀ w ∈ wsX00, w ∈ wsX1_isLit := by decide +kernel
  have hin1 : ∀ w ∈ wsX10, w ∈ wsX1_isLit := by decide +kernel
  have hl := lv_entry ([.ref (ad 0), .int k]) (n := 2) (Nat.le_of_ble_eq_true rfl)
  rw [lg_entry_eq]
  generalize (lg_sl ([.ref (ad 0), .int k]) ++ List.replicate (2 - (lg_sl ([.ref (ad 0), .int k])).length) Slot.unset).toArray = ls at hl ⊢
  have hl : lv_has ls 2 [(0, .ref (ad 0)), (1, .int k)] := hl
  refine lv_aload_n hx hb dX1_isLit_0 rfl (lv_at hl 0 rfl) ?_
  refine lv_iload_n hx hb dX1_isLit_1 rfl (lv_at hl 1 rfl) ?_
  refine xVp (As := [.int k]) (rest := []) ⟨hx, hb, hml, hown, hts⟩ (c_X1_needLamp l D cI cZ cL cJ hst ad n now told v ⟨hn8, hnow, hwl⟩ k) (cwV 1 hts gX1_isLit_X1_needLamp rfl rfl rfl (by decide +kernel) ⟨(Nat.le_of_ble_eq_true rfl), (Nat.le_of_ble_eq_true rfl)⟩) hK hE ⟨hP0, hPL⟩ (RC_of (q := (RX1, TX1, 5)) (ci := 1) hK rfl (vpa hP0 0 rfl)) rfl hl.1 rfl (Nat.le_of_ble_eq_true rfl) dX1_isLit_2 ⟨(Nat.le_of_ble_eq_true rfl), (Nat.le_of_ble_eq_true rfl)⟩ hex hlocks (fun E h => by rw [h.1]; exact ex1 h.2) (Nat.le_of_ble_eq_true rfl) (Nat.le_of_ble_eq_true rfl) (fun hok => ?_)
  obtain ⟨j, hj, rfl⟩ := lpOk_j (by omega) hok
  refine lv_aload_n hx hb dX1_isLit_5 rfl (lv_at hl 0 rfl) ?_
  refine va_get (D := D) (ci := 1) (v := .ref (ad 1)) (C := RX1) (T := TX1) (N := 5) hx hb hts hin1 hown hK hP0 0 rfl rfl 0 (by decide) (hts (.fieldLink RX1 11 "LanternPrimes" "row" "[LLanternPrimes$Lamp;") (List.mem_of_getElem? (i := 1) rfl)) (fun _ h9 => h9) rfl dX1_isLit_6 ?_
  refine lv_iload_n hx hb dX1_isLit_9 rfl (lv_at hl 1 rfl) ?_
  refine n_aald (v := ad (2 + 3 * j)) (j := j) hx hb hK hP0 1 2 rfl rfl (by omega) (by decide) rfl dX1_isLit_10 ?_
  have hPj := hPL j (by omega)
  refine lv_aload_n hx hb dX1_isLit_11 rfl (lv_at hl 0 rfl) ?_
  refine va_get (D := D) (ci := 1) (v := .int (nI now)) (C := RX1) (T := TX1) (N := 5) hx hb hts hin1 hown hK hP0 0 rfl rfl 3 (by decide) (hts (.fieldLink RX1 73 "LanternPrimes" "present" "I") (List.mem_of_getElem? (i := 2) rfl)) (fun _ h9 => h9) rfl dX1_isLit_12 ?_
  refine rV (r := bI (litB (v j) now)) (As := [.int (nI now)]) (rest := []) ⟨hx, hb, hml, hown, hts⟩ (c_X0_litAt l D cI cZ cL cJ (ad (2 + 3 * j)) (ad (3 + 3 * j)) (ad (4 + 3 * j)) (v j) now (by omega) (hwl j (by omega)).up) (cwV 1 hts gX1_isLit_X0_litAt rfl rfl rfl (by decide +kernel) ⟨(Nat.le_of_ble_eq_true rfl), (Nat.le_of_ble_eq_true rfl)⟩) hK hE hPj (RC_of (q := (RX0, TX0, 5)) (ci := 0) hK rfl (vpa hPj 0 rfl)) rfl hl.1 rfl (Nat.le_of_ble_eq_true rfl) dX1_isLit_15 ⟨(Nat.le_of_ble_eq_true rfl), (Nat.le_of_ble_eq_true rfl)⟩ ?_
  refine n_ti (y := bI (litB (v (ixx (nI j))) now)) (by rw [ixx_nI (by omega)]) ?_
  refine vx_ret ?_
  refine W.widen (k := 1) (n := 6) (Nat.le_of_ble_eq_true rfl) (Nat.le_of_ble_eq_true rfl) ?_
  exact W.zret (v := bI (litB (v (ixx (nI j))) now)) hx hb hr (bI_narrow _) (fun t ht hW => ⟨(cd1_t hok), rfl, ht⟩) (fun _ h => by cases h) dX1_isLit_18
set_option maxHeartbeats 4000000 in
set_option maxRecDepth 100000 in
/-- isSteady -/
theorem c_X1_isSteady (l : Launch) (D : va_G) (cI cZ cL cJ : ClassId) (hst : l.stackTraces = false) (ad : Nat → Nat) (n now : Nat) (told : Int32) (v : Nat → LV) (hwf : WFX n now v) (k : Int32) : vx_Met l yX1_isSteady wsX1_isSteady ({ frames := 7, cells := 1, slots := 6, locals := 103 } : Room) (PC D (TY cI cZ cL cJ) noA [.ref (ad 0), .int k] (fun H => PX D cI cL ad n now told v H)) (QOk (cd1 (lpOk n k) = 0) (bI (decide (cyc (v (ixx k)) = 1)))) (XC1 (fun E => exC [tIOB] (cd1 (lpOk n k)) E)) 1 6 (fun _ => False) := by
  refine vx_ofW (cc := cX1_isSteady) (maxL := 2) (ret := (some .boolean)) (by decide) rfl ?_
  intro p e s m args below meth c s₁ B hml hex hv
  obtain ⟨rfl, hK, hE, hP0, hPL⟩ := hv
  obtain ⟨hn8, hnow, hwl⟩ := hwf
  have hx := B.exec
  have hb := B.bytes
  have hr := B.returns
  have hts := atoms_spec (ws := wsX1_isSteady) B.pre
  have hown : s.vm.findClass RX1 = some m.cls := findClass_of_methodNamed B.named
  have hlocks := B.notSynchronized
  have hNF := hE.2.1.1
  have hin0 : ∀ w ∈ wsX00, w ∈ wsX1_isSteady := by decide +kernel
  have hin1 : ∀ w ∈ wsX10, w ∈ wsX1_isSteady := by decide +kernel
  have hl := lv_entry ([.ref (ad 0), .int k]) (n := 2) (Nat.le_of_ble_eq_true rfl)
  rw [lg_entry_eq]
  generalize (lg_sl ([.ref (ad 0), .int k]) ++ List.replicate (2 - (lg_sl ([.ref (ad 0), .int k])).length) Slot.unset).toArray = ls at hl ⊢
  have hl : lv_has ls 2 [(0, .ref (ad 0)), (1, .int k)] := hl
  refine lv_aload_n hx hb dX1_isSteady_0 rfl (lv_at hl 0 rfl) ?_
  refine lv_iload_n hx hb dX1_isSteady_1 rfl (lv_at hl 1 rfl) ?_
  refine xVp (As := [.int k]) (rest := []) ⟨hx, hb, hml, hown, hts⟩ (c_X1_needLamp l D cI cZ cL cJ hst ad n now told v ⟨hn8, hnow, hwl⟩ k) (cwV 1 hts gX1_isSteady_X1_needLamp rfl rfl rfl (by decide +kernel) ⟨(Nat.le_of_ble_eq_true rfl), (Nat.le_of_ble_eq_true rfl)⟩) hK hE ⟨hP0, hPL⟩ (RC_of (q := (RX1, TX1, 5)) (ci := 1) hK rfl (vpa hP0 0 rfl)) rfl hl.1 rfl (Nat.le_of_ble_eq_true rfl) dX1_isSteady_2 ⟨(Nat.le_of_ble_eq_true rfl), (Nat.le_of_ble_eq_true rfl)⟩ hex hlocks (fun E h => by rw [h.1]; exact ex1 h.2) (Nat.le_of_ble_eq_true rfl) (Nat.le_of_ble_eq_true rfl) (fun hok => ?_)
  obtain ⟨j, hj, rfl⟩ := lpOk_j (by omega) hok
  refine lv_aload_n hx hb dX1_isSteady_5 rfl (lv_at hl 0 rfl) ?_
  refine va_get (D := D) (ci := 1) (v := .ref (ad 1)) (C := RX1) (T := TX1) (N := 5) hx hb hts hin1 hown hK hP0 0 rfl rfl 0 (by decide) (hts (.fieldLink RX1 11 "LanternPrimes" "row" "[LLanternPrimes$Lamp;") (List.mem_of_getElem? (i := 1) rfl)) (fun _ h9 => h9) rfl dX1_isSteady_6 ?_
  refine lv_iload_n hx hb dX1_isSteady_9 rfl (lv_at hl 1 rfl) ?_
  refine n_aald (v := ad (2 + 3 * j)) (j := j) hx hb hK hP0 1 2 rfl rfl (by omega) (by decide) rfl dX1_isSteady_10 ?_
  have hPj := hPL j (by omega)
  refine rV (r := bI (decide (cyc (v j) = 1))) (As := []) (rest := []) ⟨hx, hb, hml, hown, hts⟩ (c_X0_neverChanges l D cI cZ cL cJ (ad (2 + 3 * j)) (ad (3 + 3 * j)) (ad (4 + 3 * j)) (v j) (hwl j (by omega)).up) (cwV 0 hts gX1_isSteady_X0_neverChanges rfl rfl rfl (by decide +kernel) ⟨(Nat.le_of_ble_eq_true rfl), (Nat.le_of_ble_eq_true rfl)⟩) hK hE hPj (RC_of (q := (RX0, TX0, 5)) (ci := 0) hK rfl (vpa hPj 0 rfl)) rfl hl.1 rfl (Nat.le_of_ble_eq_true rfl) dX1_isSteady_11 ⟨(Nat.le_of_ble_eq_true rfl), (Nat.le_of_ble_eq_true rfl)⟩ ?_
  refine n_ti (y := bI (decide (cyc (v (ixx (nI j))) = 1))) (by rw [ixx_nI (by omega)]) ?_
  refine vx_ret ?_
  refine W.widen (k := 1) (n := 6) (Nat.le_of_ble_eq_true rfl) (Nat.le_of_ble_eq_true rfl) ?_
  exact W.zret (v := bI (decide (cyc (v (ixx (nI j))) = 1))) hx hb hr (bI_narrow _) (fun t ht hW => ⟨(cd1_t hok), rfl, ht⟩) (fun _ h => by cases h) dX1_isSteady_14
set_option maxHeartbeats 4000000 in
set_option maxRecDepth 100000 in
/-- cycleOf -/
theorem c_X1_cycleOf (l : Launch) (D : va_G) (cI cZ cL cJ : ClassId) (hst : l.stackTraces = false) (ad : Nat → Nat) (n now : Nat) (told : Int32) (v : Nat → LV) (hwf : WFX n now v) (k : Int32) : vx_Met l yX1_cycleOf wsX1_cycleOf ({ frames := 7, cells := 1, slots := 6, locals := 103 } : Room) (PC D (TY cI cZ cL cJ) noA [.ref (ad 0), .int k] (fun H => PX D cI cL ad n now told v H)) (QOk (cd1 (lpOk n k) = 0) (nI (cyc (v (ixx k))))) (XC1 (fun E => exC [tIOB] (cd1 (lpOk n k)) E)) 1 6 (fun _ => False) := by
  refine vx_ofW (cc := cX1_cycleOf) (maxL := 2) (ret := (some .int)) (by decide) rfl ?_
  intro p e s m args below meth c s₁ B hml hex hv
  obtain ⟨rfl, hK, hE, hP0, hPL⟩ := hv
  obtain ⟨hn8, hnow, hwl⟩ := hwf
  have hx := B.exec
  have hb := B.bytes
  have hr := B.returns
  have hts := atoms_spec (ws := wsX1_cycleOf) B.pre
  have hown : s.vm.findClass RX1 = some m.cls := findClass_of_methodNamed B.named
  have hlocks := B.notSynchronized
  have hNF := hE.2.1.1
  have hin0 : ∀ w ∈ wsX00, w ∈ wsX1_cycleOf := by decide +kernel
  have hin1 : ∀ w ∈ wsX10, w ∈ wsX1_cycleOf := by decide +kernel
  have hl := lv_entry ([.ref (ad 0), .int k]) (n := 2) (Nat.le_of_ble_eq_true rfl)
  rw [lg_entry_eq]
  generalize (lg_sl ([.ref (ad 0), .int k]) ++ List.replicate (2 - (lg_sl ([.ref (ad 0), .int k])).length) Slot.unset).toArray = ls at hl ⊢
  have hl : lv_has ls 2 [(0, .ref (ad 0)), (1, .int k)] := hl
  refine lv_aload_n hx hb dX1_cycleOf_0 rfl (lv_at hl 0 rfl) ?_
  refine lv_iload_n hx hb dX1_cycleOf_1 rfl (lv_at hl 1 rfl) ?_
  refine xVp (As := [.int k]) (rest := []) ⟨hx, hb, hml, hown, hts⟩ (c_X1_needLamp l D cI cZ cL cJ hst ad n now told v ⟨hn8, hnow, hwl⟩ k) (cwV 1 hts gX1_cycleOf_X1_needLamp rfl rfl rfl (by decide +kernel) ⟨(Nat.le_of_ble_eq_true rfl), (Nat.le_of_ble_eq_true rfl)⟩) hK hE ⟨hP0, hPL⟩ (RC_of (q := (RX1, TX1, 5)) (ci := 1) hK rfl (vpa hP0 0 rfl)) rfl hl.1 rfl (Nat.le_of_ble_eq_true rfl) dX1_cycleOf_2 ⟨(Nat.le_of_ble_eq_true rfl), (Nat.le_of_ble_eq_true rfl)⟩ hex hlocks (fun E h => by rw [h.1]; exact ex1 h.2) (Nat.le_of_ble_eq_true rfl) (Nat.le_of_ble_eq_true rfl) (fun hok => ?_)
  obtain ⟨j, hj, rfl⟩ := lpOk_j (by omega) hok
  refine lv_aload_n hx hb dX1_cycleOf_5 rfl (lv_at hl 0 rfl) ?_
  refine va_get (D := D) (ci := 1) (v := .ref (ad 1)) (C := RX1) (T := TX1) (N := 5) hx hb hts hin1 hown hK hP0 0 rfl rfl 0 (by decide) (hts (.fieldLink RX1 11 "LanternPrimes" "row" "[LLanternPrimes$Lamp;") (List.mem_of_getElem? (i := 1) rfl)) (fun _ h9 => h9) rfl dX1_cycleOf_6 ?_
  refine lv_iload_n hx hb dX1_cycleOf_9 rfl (lv_at hl 1 rfl) ?_
  refine n_aald (v := ad (2 + 3 * j)) (j := j) hx hb hK hP0 1 2 rfl rfl (by omega) (by decide) rfl dX1_cycleOf_10 ?_
  have hPj := hPL j (by omega)
  refine rV (r := nI (cyc (v j))) (As := []) (rest := []) ⟨hx, hb, hml, hown, hts⟩ (c_X0_cycle l D cI cZ cL cJ (ad (2 + 3 * j)) (ad (3 + 3 * j)) (ad (4 + 3 * j)) (v j) (hwl j (by omega)).up) (cwV 0 hts gX1_cycleOf_X0_cycle rfl rfl rfl (by decide +kernel) ⟨(Nat.le_of_ble_eq_true rfl), (Nat.le_of_ble_eq_true rfl)⟩) hK hE hPj (RC_of (q := (RX0, TX0, 5)) (ci := 0) hK rfl (vpa hPj 0 rfl)) rfl hl.1 rfl (Nat.le_of_ble_eq_true rfl) dX1_cycleOf_11 ⟨(Nat.le_of_ble_eq_true rfl), (Nat.le_of_ble_eq_true rfl)⟩ ?_
  refine n_ti (y := nI (cyc (v (ixx (nI j))))) (by rw [ixx_nI (by omega)]) ?_
  refine vx_ret ?_
  refine W.widen (k := 1) (n := 6) (Nat.le_of_ble_eq_true rfl) (Nat.le_of_ble_eq_true rfl) ?_
  exact W.iret (v := nI (cyc (v (ixx (nI j))))) hx hb hr (fun t ht hW => ⟨(cd1_t hok), rfl, ht⟩) (fun _ h => by cases h) dX1_cycleOf_14
set_option maxHeartbeats 4000000 in
set_option maxRecDepth 100000 in
/-- momentsUntilChange -/
theorem c_X1_momentsUntilChange (l : Launch) (D : va_G) (cI cZ cL cJ : ClassId) (hst : l.stackTraces = false) (ad : Nat → Nat) (n now : Nat) (told : Int32) (v : Nat → LV) (hwf : WFX n now v) (k : Int32) : vx_Met l yX1_momentsUntilChange wsX1_momentsUntilChange ({ frames := 7, cells := 1, slots := 6, locals := 103 } : Room) (PC D (TY cI cZ cL cJ) noA [.ref (ad 0), .int k] (fun H => PX D cI cL ad n now told v H)) (QOk (cd1 (lpOk n k) = 0) ((untC (v (ixx k)) now))) (XC1 (fun E => exC [tIOB] (cd1 (lpOk n k)) E)) 1 6 (fun _ => False) := by
  refine vx_ofW (cc := cX1_momentsUntilChange) (maxL := 2) (ret := (some .int)) (by decide) rfl ?_
  intro p e s m args below meth c s₁ B hml hex hv
  obtain ⟨rfl, hK, hE, hP0, hPL⟩ := hv
  obtain ⟨hn8, hnow, hwl⟩ := hwf
  have hx := B.exec
  have hb := B.bytes
  have hr := B.returns
  have hts := atoms_spec (ws := wsX1_momentsUntilChange) B.pre
  have hown : s.vm.findClass RX1 = some m.cls := findClass_of_methodNamed B.named
  have hlocks := B.notSynchronized
  have hNF := hE.2.1.1
  have hin0 : ∀ w ∈ wsX00, w ∈ wsX1_momentsUntilChange := by decide +kernel
  have hin1 : ∀ w ∈ wsX10, w ∈ wsX1_momentsUntilChange := by decide +kernel
  have hl := lv_entry ([.ref (ad 0), .int k]) (n := 2) (Nat.le_of_ble_eq_true rfl)
  rw [lg_entry_eq]
  generalize (lg_sl ([.ref (ad 0), .int k]) ++ List.replicate (2 - (lg_sl ([.ref (ad 0), .int k])).length) Slot.unset).toArray = ls at hl ⊢
  have hl : lv_has ls 2 [(0, .ref (ad 0)), (1, .int k)] := hl
  refine lv_aload_n hx hb dX1_momentsUntilChange_0 rfl (lv_at hl 0 rfl) ?_
  refine lv_iload_n hx hb dX1_momentsUntilChange_1 rfl (lv_at hl 1 rfl) ?_
  refine xVp (As := [.int k]) (rest := []) ⟨hx, hb, hml, hown, hts⟩ (c_X1_needLamp l D cI cZ cL cJ hst ad n now told v ⟨hn8, hnow, hwl⟩ k) (cwV 1 hts gX1_momentsUntilChange_X1_needLamp rfl rfl rfl (by decide +kernel) ⟨(Nat.le_of_ble_eq_true rfl), (Nat.le_of_ble_eq_true rfl)⟩) hK hE ⟨hP0, hPL⟩ (RC_of (q := (RX1, TX1, 5)) (ci := 1) hK rfl (vpa hP0 0 rfl)) rfl hl.1 rfl (Nat.le_of_ble_eq_true rfl) dX1_momentsUntilChange_2 ⟨(Nat.le_of_ble_eq_true rfl), (Nat.le_of_ble_eq_true rfl)⟩ hex hlocks (fun E h => by rw [h.1]; exact ex1 h.2) (Nat.le_of_ble_eq_true rfl) (Nat.le_of_ble_eq_true rfl) (fun hok => ?_)
  obtain ⟨j, hj, rfl⟩ := lpOk_j (by omega) hok
  refine lv_aload_n hx hb dX1_momentsUntilChange_5 rfl (lv_at hl 0 rfl) ?_
  refine va_get (D := D) (ci := 1) (v := .ref (ad 1)) (C := RX1) (T := TX1) (N := 5) hx hb hts hin1 hown hK hP0 0 rfl rfl 0 (by decide) (hts (.fieldLink RX1 11 "LanternPrimes" "row" "[LLanternPrimes$Lamp;") (List.mem_of_getElem? (i := 1) rfl)) (fun _ h9 => h9) rfl dX1_momentsUntilChange_6 ?_
  refine lv_iload_n hx hb dX1_momentsUntilChange_9 rfl (lv_at hl 1 rfl) ?_
  refine n_aald (v := ad (2 + 3 * j)) (j := j) hx hb hK hP0 1 2 rfl rfl (by omega) (by decide) rfl dX1_momentsUntilChange_10 ?_
  have hPj := hPL j (by omega)
  refine lv_aload_n hx hb dX1_momentsUntilChange_11 rfl (lv_at hl 0 rfl) ?_
  refine va_get (D := D) (ci := 1) (v := .int (nI now)) (C := RX1) (T := TX1) (N := 5) hx hb hts hin1 hown hK hP0 0 rfl rfl 3 (by decide) (hts (.fieldLink RX1 73 "LanternPrimes" "present" "I") (List.mem_of_getElem? (i := 2) rfl)) (fun _ h9 => h9) rfl dX1_momentsUntilChange_12 ?_
  refine rV (r := (untC (v j) now)) (As := [.int (nI now)]) (rest := []) ⟨hx, hb, hml, hown, hts⟩ (c_X0_untilChange l D cI cZ cL cJ (ad (2 + 3 * j)) (ad (3 + 3 * j)) (ad (4 + 3 * j)) (v j) now (by omega) (hwl j (by omega)).up) (cwV 1 hts gX1_momentsUntilChange_X0_untilChange rfl rfl rfl (by decide +kernel) ⟨(Nat.le_of_ble_eq_true rfl), (Nat.le_of_ble_eq_true rfl)⟩) hK hE hPj (RC_of (q := (RX0, TX0, 5)) (ci := 0) hK rfl (vpa hPj 0 rfl)) rfl hl.1 rfl (Nat.le_of_ble_eq_true rfl) dX1_momentsUntilChange_15 ⟨(Nat.le_of_ble_eq_true rfl), (Nat.le_of_ble_eq_true rfl)⟩ ?_
  refine n_ti (y := (untC (v (ixx (nI j))) now)) (by rw [ixx_nI (by omega)]) ?_
  refine vx_ret ?_
  refine W.widen (k := 1) (n := 6) (Nat.le_of_ble_eq_true rfl) (Nat.le_of_ble_eq_true rfl) ?_
  exact W.iret (v := (untC (v (ixx (nI j))) now)) hx hb hr (fun t ht hW => ⟨(cd1_t hok), rfl, ht⟩) (fun _ h => by cases h) dX1_momentsUntilChange_18
set_option maxHeartbeats 4000000 in
set_option maxRecDepth 100000 in
/-- isOnAt -/
theorem c_X1_isOnAt (l : Launch) (D : va_G) (cI cZ cL cJ : ClassId) (hst : l.stackTraces = false) (ad : Nat → Nat) (n now : Nat) (told : Int32) (v : Nat → LV) (hwf : WFX n now v) (k x : Int32) : vx_Met l yX1_isOnAt wsX1_isOnAt ({ frames := 7, cells := 2, slots := 12, locals := 103 } : Room) (PC D (TY cI cZ cL cJ) noA [.ref (ad 0), .int k, .int x] (fun H => PX D cI cL ad n now told v H)) (QOk (cd2 (lpOk n k) (inB (nI 0) (nI 60000) x) = 0) (bI (onB (v (ixx k)) (ixx x)))) (XC1 (fun E => exC [tIOB, tIAE] (cd2 (lpOk n k) (inB (nI 0) (nI 60000) x)) E)) 2 12 (fun _ => False) := by
  refine vx_ofW (cc := cX1_isOnAt) (maxL := 3) (ret := (some .boolean)) (by decide) rfl ?_
  intro p e s m args below meth c s₁ B hml hex hv
  obtain ⟨rfl, hK, hE, hP0, hPL⟩ := hv
  obtain ⟨hn8, hnow, hwl⟩ := hwf
  have hx := B.exec
  have hb := B.bytes
  have hr := B.returns
  have hts := atoms_spec (ws := wsX1_isOnAt) B.pre
  have hown : s.vm.findClass RX1 = some m.cls := findClass_of_methodNamed B.named
  have hlocks := B.notSynchronized
  have hNF := hE.2.1.1
  have hin0 : ∀ w ∈ wsX00, w ∈ wsX1_isOnAt := by decide +kernel
  have hin1 : ∀ w ∈ wsX10, w ∈ wsX1_isOnAt := by decide +kernel
  have hl := lv_entry ([.ref (ad 0), .int k, .int x]) (n := 3) (Nat.le_of_ble_eq_true rfl)
  rw [lg_entry_eq]
  generalize (lg_sl ([.ref (ad 0), .int k, .int x]) ++ List.replicate (3 - (lg_sl ([.ref (ad 0), .int k, .int x])).length) Slot.unset).toArray = ls at hl ⊢
  have hl : lv_has ls 3 [(0, .ref (ad 0)), (1, .int k), (2, .int x)] := hl
  refine lv_aload_n hx hb dX1_isOnAt_0 rfl (lv_at hl 0 rfl) ?_
  refine lv_iload_n hx hb dX1_isOnAt_1 rfl (lv_at hl 1 rfl) ?_
  refine xVp (As := [.int k]) (rest := []) ⟨hx, hb, hml, hown, hts⟩ (c_X1_needLamp l D cI cZ cL cJ hst ad n now told v ⟨hn8, hnow, hwl⟩ k) (cwV 1 hts gX1_isOnAt_X1_needLamp rfl rfl rfl (by decide +kernel) ⟨(Nat.le_of_ble_eq_true rfl), (Nat.le_of_ble_eq_true rfl)⟩) hK hE ⟨hP0, hPL⟩ (RC_of (q := (RX1, TX1, 5)) (ci := 1) hK rfl (vpa hP0 0 rfl)) rfl hl.1 rfl (Nat.le_of_ble_eq_true rfl) dX1_isOnAt_2 ⟨(Nat.le_of_ble_eq_true rfl), (Nat.le_of_ble_eq_true rfl)⟩ hex hlocks (fun E h => by rw [h.1]; exact ex2a h.2) (Nat.le_of_ble_eq_true rfl) (Nat.le_of_ble_eq_true rfl) (fun hok => ?_)
  obtain ⟨j, hj, rfl⟩ := lpOk_j (by omega) hok
  refine lv_iload_n hx hb dX1_isOnAt_5 rfl (lv_at hl 2 rfl) ?_
  refine xSp (As := [.int x]) (rest := []) ⟨hx, hb, hml, hown, hts⟩ (c_X1_needMoment l D cI cZ cL cJ hst x) (va_cwS 1 hts gX1_isOnAt_X1_needMoment rfl rfl rfl (by decide +kernel) ⟨(Nat.le_of_ble_eq_true rfl), (Nat.le_of_ble_eq_true rfl)⟩) hK hE trivial rfl hl.1 rfl (Nat.le_of_ble_eq_true rfl) dX1_isOnAt_6 ⟨(Nat.le_of_ble_eq_true rfl), (Nat.le_of_ble_eq_true rfl)⟩ hex hlocks (fun E h => by rw [h.1]; exact ex2b hok h.2) (Nat.le_of_ble_eq_true rfl) (Nat.le_of_ble_eq_true rfl) (fun hok2 => ?_)
  obtain ⟨y, -, hy2, rfl⟩ := inB_j (by decide) (by decide) hok2
  refine lv_aload_n hx hb dX1_isOnAt_9 rfl (lv_at hl 0 rfl) ?_
  refine va_get (D := D) (ci := 1) (v := .ref (ad 1)) (C := RX1) (T := TX1) (N := 5) hx hb hts hin1 hown hK hP0 0 rfl rfl 0 (by decide) (hts (.fieldLink RX1 11 "LanternPrimes" "row" "[LLanternPrimes$Lamp;") (List.mem_of_getElem? (i := 1) rfl)) (fun _ h9 => h9) rfl dX1_isOnAt_10 ?_
  refine lv_iload_n hx hb dX1_isOnAt_13 rfl (lv_at hl 1 rfl) ?_
  refine n_aald (v := ad (2 + 3 * j)) (j := j) hx hb hK hP0 1 2 rfl rfl (by omega) (by decide) rfl dX1_isOnAt_14 ?_
  have hPj := hPL j (by omega)
  refine lv_iload_n hx hb dX1_isOnAt_15 rfl (lv_at hl 2 rfl) ?_
  refine rV (r := bI (onB (v j) y)) (As := [.int (nI y)]) (rest := []) ⟨hx, hb, hml, hown, hts⟩ (c_X0_onAt l D cI cZ cL cJ (ad (2 + 3 * j)) (ad (3 + 3 * j)) (ad (4 + 3 * j)) (v j) y (by omega) (hwl j (by omega)).up) (cwV 1 hts gX1_isOnAt_X0_onAt rfl rfl rfl (by decide +kernel) ⟨(Nat.le_of_ble_eq_true rfl), (Nat.le_of_ble_eq_true rfl)⟩) hK hE hPj (RC_of (q := (RX0, TX0, 5)) (ci := 0) hK rfl (vpa hPj 0 rfl)) rfl hl.1 rfl (Nat.le_of_ble_eq_true rfl) dX1_isOnAt_16 ⟨(Nat.le_of_ble_eq_true rfl), (Nat.le_of_ble_eq_true rfl)⟩ ?_
  refine n_ti (y := bI (onB (v (ixx (nI j))) (ixx (nI y)))) (by rw [ixx_nI (by omega), ixx_nI (by omega)]) ?_
  refine vx_ret ?_
  refine W.widen (k := 2) (n := 12) (Nat.le_of_ble_eq_true rfl) (Nat.le_of_ble_eq_true rfl) ?_
  exact W.zret (v := bI (onB (v (ixx (nI j))) (ixx (nI y)))) hx hb hr (bI_narrow _) (fun t ht hW => ⟨(cd2_t hok hok2), rfl, ht⟩) (fun _ h => by cases h) dX1_isOnAt_19
set_option maxHeartbeats 4000000 in
set_option maxRecDepth 100000 in
/-- strikesAt -/
theorem c_X1_strikesAt (l : Launch) (D : va_G) (cI cZ cL cJ : ClassId) (hst : l.stackTraces = false) (ad : Nat → Nat) (n now : Nat) (told : Int32) (v : Nat → LV) (hwf : WFX n now v) (k x : Int32) : vx_Met l yX1_strikesAt wsX1_strikesAt ({ frames := 7, cells := 2, slots := 12, locals := 103 } : Room) (PC D (TY cI cZ cL cJ) noA [.ref (ad 0), .int k, .int x] (fun H => PX D cI cL ad n now told v H)) (QOk (cd2 (lpOk n k) (inB (nI 0) (nI 60000) x) = 0) (nI (strk (v (ixx k)) (ixx x) (lbc (v (ixx k)))))) (XC1 (fun E => exC [tIOB, tIAE] (cd2 (lpOk n k) (inB (nI 0) (nI 60000) x)) E)) 2 12 (fun _ => False) := by
  refine vx_ofW (cc := cX1_strikesAt) (maxL := 3) (ret := (some .int)) (by decide) rfl ?_
  intro p e s m args below meth c s₁ B hml hex hv
  obtain ⟨rfl, hK, hE, hP0, hPL⟩ := hv
  obtain ⟨hn8, hnow, hwl⟩ := hwf
  have hx := B.exec
  have hb := B.bytes
  have hr := B.returns
  have hts := atoms_spec (ws := wsX1_strikesAt) B.pre
  have hown : s.vm.findClass RX1 = some m.cls := findClass_of_methodNamed B.named
  have hlocks := B.notSynchronized
  have hNF := hE.2.1.1
  have hin0 : ∀ w ∈ wsX00, w ∈ wsX1_strikesAt := by decide +kernel
  have hin1 : ∀ w ∈ wsX10, w ∈ wsX1_strikesAt := by decide +kernel
  have hl := lv_entry ([.ref (ad 0), .int k, .int x]) (n := 3) (Nat.le_of_ble_eq_true rfl)
  rw [lg_entry_eq]
  generalize (lg_sl ([.ref (ad 0), .int k, .int x]) ++ List.replicate (3 - (lg_sl ([.ref (ad 0), .int k, .int x])).length) Slot.unset).toArray = ls at hl ⊢
  have hl : lv_has ls 3 [(0, .ref (ad 0)), (1, .int k), (2, .int x)] := hl
  refine lv_aload_n hx hb dX1_strikesAt_0 rfl (lv_at hl 0 rfl) ?_
  refine lv_iload_n hx hb dX1_strikesAt_1 rfl (lv_at hl 1 rfl) ?_
  refine xVp (As := [.int k]) (rest := []) ⟨hx, hb, hml, hown, hts⟩ (c_X1_needLamp l D cI cZ cL cJ hst ad n now told v ⟨hn8, hnow, hwl⟩ k) (cwV 1 hts gX1_strikesAt_X1_needLamp rfl rfl rfl (by decide +kernel) ⟨(Nat.le_of_ble_eq_true rfl), (Nat.le_of_ble_eq_true rfl)⟩) hK hE ⟨hP0, hPL⟩ (RC_of (q := (RX1, TX1, 5)) (ci := 1) hK rfl (vpa hP0 0 rfl)) rfl hl.1 rfl (Nat.le_of_ble_eq_true rfl) dX1_strikesAt_2 ⟨(Nat.le_of_ble_eq_true rfl), (Nat.le_of_ble_eq_true rfl)⟩ hex hlocks (fun E h => by rw [h.1]; exact ex2a h.2) (Nat.le_of_ble_eq_true rfl) (Nat.le_of_ble_eq_true rfl) (fun hok => ?_)
  obtain ⟨j, hj, rfl⟩ := lpOk_j (by omega) hok
  refine lv_iload_n hx hb dX1_strikesAt_5 rfl (lv_at hl 2 rfl) ?_
  refine xSp (As := [.int x]) (rest := []) ⟨hx, hb, hml, hown, hts⟩ (c_X1_needMoment l D cI cZ cL cJ hst x) (va_cwS 1 hts gX1_strikesAt_X1_needMoment rfl rfl rfl (by decide +kernel) ⟨(Nat.le_of_ble_eq_true rfl), (Nat.le_of_ble_eq_true rfl)⟩) hK hE trivial rfl hl.1 rfl (Nat.le_of_ble_eq_true rfl) dX1_strikesAt_6 ⟨(Nat.le_of_ble_eq_true rfl), (Nat.le_of_ble_eq_true rfl)⟩ hex hlocks (fun E h => by rw [h.1]; exact ex2b hok h.2) (Nat.le_of_ble_eq_true rfl) (Nat.le_of_ble_eq_true rfl) (fun hok2 => ?_)
  obtain ⟨y, -, hy2, rfl⟩ := inB_j (by decide) (by decide) hok2
  refine lv_aload_n hx hb dX1_strikesAt_9 rfl (lv_at hl 0 rfl) ?_
  refine va_get (D := D) (ci := 1) (v := .ref (ad 1)) (C := RX1) (T := TX1) (N := 5) hx hb hts hin1 hown hK hP0 0 rfl rfl 0 (by decide) (hts (.fieldLink RX1 11 "LanternPrimes" "row" "[LLanternPrimes$Lamp;") (List.mem_of_getElem? (i := 1) rfl)) (fun _ h9 => h9) rfl dX1_strikesAt_10 ?_
  refine lv_iload_n hx hb dX1_strikesAt_13 rfl (lv_at hl 1 rfl) ?_
  refine n_aald (v := ad (2 + 3 * j)) (j := j) hx hb hK hP0 1 2 rfl rfl (by omega) (by decide) rfl dX1_strikesAt_14 ?_
  have hPj := hPL j (by omega)
  refine lv_iload_n hx hb dX1_strikesAt_15 rfl (lv_at hl 2 rfl) ?_
  refine rV (r := nI (strk (v j) y (lbc (v j)))) (As := [.int (nI y)]) (rest := []) ⟨hx, hb, hml, hown, hts⟩ (c_X0_strikes l D cI cZ cL cJ (ad (2 + 3 * j)) (ad (3 + 3 * j)) (ad (4 + 3 * j)) (v j) y (by omega) (hwl j (by omega)).up) (cwV 1 hts gX1_strikesAt_X0_strikes rfl rfl rfl (by decide +kernel) ⟨(Nat.le_of_ble_eq_true rfl), (Nat.le_of_ble_eq_true rfl)⟩) hK hE hPj (RC_of (q := (RX0, TX0, 5)) (ci := 0) hK rfl (vpa hPj 0 rfl)) rfl hl.1 rfl (Nat.le_of_ble_eq_true rfl) dX1_strikesAt_16 ⟨(Nat.le_of_ble_eq_true rfl), (Nat.le_of_ble_eq_true rfl)⟩ ?_
  refine n_ti (y := nI (strk (v (ixx (nI j))) (ixx (nI y)) (lbc (v (ixx (nI j)))))) (by rw [ixx_nI (by omega), ixx_nI (by omega)]) ?_
  refine vx_ret ?_
  refine W.widen (k := 2) (n := 12) (Nat.le_of_ble_eq_true rfl) (Nat.le_of_ble_eq_true rfl) ?_
  exact W.iret (v := nI (strk (v (ixx (nI j))) (ixx (nI y)) (lbc (v (ixx (nI j)))))) hx hb hr (fun t ht hW => ⟨(cd2_t hok hok2), rfl, ht⟩) (fun _ h => by cases h) dX1_strikesAt_19
set_option maxHeartbeats 4000000 in
set_option maxRecDepth 100000 in
/-- shows -/
theorem c_X1_shows (l : Launch) (D : va_G) (cI cZ cL cJ : ClassId) (hst : l.stackTraces = false) (ad : Nat → Nat) (n now : Nat) (told : Int32) (v : Nat → LV) (hwf : WFX n now v) (k x : Int32) : vx_Met l yX1_shows wsX1_shows ({ frames := 7, cells := 2, slots := 12, locals := 103 } : Room) (PC D (TY cI cZ cL cJ) noA [.ref (ad 0), .int k, .int x] (fun H => PX D cI cL ad n now told v H)) (QOk (cd2 (lpOk n k) (inB (nI 1) (nI 30) x) = 0) (nI (shwN (v (ixx k)) now (ixx x)))) (XC1 (fun E => exC [tIOB, tIAE] (cd2 (lpOk n k) (inB (nI 1) (nI 30) x)) E)) 2 12 (fun _ => False) := by
  refine vx_ofW (cc := cX1_shows) (maxL := 5) (ret := (some .int)) (by decide) rfl ?_
  intro p e s m args below meth c s₁ B hml hex hv
  obtain ⟨rfl, hK, hE, hP0, hPL⟩ := hv
  obtain ⟨hn8, hnow, hwl⟩ := hwf
  have hx := B.exec
  have hb := B.bytes
  have hr := B.returns
  have hts := atoms_spec (ws := wsX1_shows) B.pre
  have hown : s.vm.findClass RX1 = some m.cls := findClass_of_methodNamed B.named
  have hlocks := B.notSynchronized
  have hNF := hE.2.1.1
  have hin0 : ∀ w ∈ wsX00, w ∈ wsX1_shows := by decide +kernel
  have hin1 : ∀ w ∈ wsX10, w ∈ wsX1_shows := by decide +kernel
  have hl := lv_entry ([.ref (ad 0), .int k, .int x]) (n := 5) (Nat.le_of_ble_eq_true rfl)
  rw [lg_entry_eq]
  generalize (lg_sl ([.ref (ad 0), .int k, .int x]) ++ List.replicate (5 - (lg_sl ([.ref (ad 0), .int k, .int x])).length) Slot.unset).toArray = ls at hl ⊢
  have hl : lv_has ls 5 [(0, .ref (ad 0)), (1, .int k), (2, .int x)] := hl
  refine lv_aload_n hx hb dX1_shows_0 rfl (lv_at hl 0 rfl) ?_
  refine lv_iload_n hx hb dX1_shows_1 rfl (lv_at hl 1 rfl) ?_
  refine xVp (As := [.int k]) (rest := []) ⟨hx, hb, hml, hown, hts⟩ (c_X1_needLamp l D cI cZ cL cJ hst ad n now told v ⟨hn8, hnow, hwl⟩ k) (cwV 1 hts gX1_shows_X1_needLamp rfl rfl rfl (by decide +kernel) ⟨(Nat.le_of_ble_eq_true rfl), (Nat.le_of_ble_eq_true rfl)⟩) hK hE ⟨hP0, hPL⟩ (RC_of (q := (RX1, TX1, 5)) (ci := 1) hK rfl (vpa hP0 0 rfl)) rfl hl.1 rfl (Nat.le_of_ble_eq_true rfl) dX1_shows_2 ⟨(Nat.le_of_ble_eq_true rfl), (Nat.le_of_ble_eq_true rfl)⟩ hex hlocks (fun E h => by rw [h.1]; exact ex2a h.2) (Nat.le_of_ble_eq_true rfl) (Nat.le_of_ble_eq_true rfl) (fun hok => ?_)
  obtain ⟨j, hj, rfl⟩ := lpOk_j (by omega) hok
  refine lv_iload_n hx hb dX1_shows_5 rfl (lv_at hl 2 rfl) ?_
  refine lv_bipush (v := nI 30) hx hb dX1_shows_6 (by decide) ?_
  refine xSp (As := [.int x, .int (nI 30)]) (rest := []) ⟨hx, hb, hml, hown, hts⟩ (c_X1_needMoments l D cI cZ cL cJ hst x (nI 30)) (va_cwS 2 hts gX1_shows_X1_needMoments rfl rfl rfl (by decide +kernel) ⟨(Nat.le_of_ble_eq_true rfl), (Nat.le_of_ble_eq_true rfl)⟩) hK hE trivial rfl hl.1 rfl (Nat.le_of_ble_eq_true rfl) dX1_shows_8 ⟨(Nat.le_of_ble_eq_true rfl), (Nat.le_of_ble_eq_true rfl)⟩ hex hlocks (fun E h => by rw [h.1]; exact ex2b hok h.2) (Nat.le_of_ble_eq_true rfl) (Nat.le_of_ble_eq_true rfl) (fun hok2 => ?_)
  obtain ⟨y, hy1, hy2, rfl⟩ := inB_j (by decide) (by decide) hok2
  refine lv_iconst (v := nI 0) hx hb dX1_shows_11 (by decide) ?_
  refine lv_istore_n (lv' := [(3, .int (nI 0)), (0, .ref (ad 0)), (1, .int (nI j)), (2, .int (nI y))]) hx hb dX1_shows_12 rfl hl (by decide) rfl (fun ls hl => ?_)
  refine lv_iconst (v := nI 0) hx hb dX1_shows_13 (by decide) ?_
  refine lv_istore (lv' := [(4, .int (nI 0)), (3, .int (nI 0)), (0, .ref (ad 0)), (1, .int (nI j)), (2, .int (nI y))]) hx hb dX1_shows_14 hl (by decide) rfl (fun ls hl => ?_)
  have loop_16 : ∀ (fu : Nat) (q : Nat), y + 1 - q ≤ fu → q ≤ y → ∀ (ls : Array Slot), lv_has ls 5 [(4, .int (nI q)), (3, .int (nI (shwN (v j) now q))), (0, .ref (ad 0)), (1, .int (nI j)), (2, .int (nI y))] → W p l e (headSpec wsX1_shows ({ frames := 7, cells := 2, slots := 12, locals := 103 } : Room)).room s m [.ref (ad 0), .int (nI j), .int (nI y)].toArray below meth c s.heap [] ((0 + 1) + 1) ((0 + 6) + 6) (vx_MQ below (QOk (cd2 (lpOk n (nI j)) (inB (nI 1) (nI 30) (nI y)) = 0) (nI (shwN (v (ixx (nI j))) now (ixx (nI y))))) (XC1 (fun E => exC [tIOB, tIAE] (cd2 (lpOk n (nI j)) (inB (nI 1) (nI 30) (nI y))) E)) [.ref (ad 0), .int (nI j), .int (nI y)].toArray s 2 12 (fun _ => False)) (F0 m 16 ls []) := by
    intro fu
    induction fu with
    | zero => intro q hn_16 hq; exact absurd hn_16 (by omega)
    | succ fu ih_16 =>
      intro q hn_16 hq ls hl
      refine lv_iload hx hb dX1_shows_16 (lv_at hl 0 rfl) ?_
      refine lv_iload_n hx hb dX1_shows_18 rfl (lv_at hl 4 rfl) ?_
      refine n_icmp_ge (a := q) (b := y) (tgt := 57) hx hb (by omega) (by omega) dX1_shows_19 (by decide) (fun c_19 => ?_) (fun c_19 => ?_)
      · refine lv_iload_n hx hb dX1_shows_57 rfl (lv_at hl 1 rfl) ?_
        refine n_ti (y := nI (shwN (v (ixx (nI j))) now (ixx (nI y)))) (by rw [ixx_nI (by omega), ixx_nI (by omega), show q = y by omega]) ?_
        refine vx_ret ?_
        refine W.widen (k := 2) (n := 12) (Nat.le_of_ble_eq_true rfl) (Nat.le_of_ble_eq_true rfl) ?_
        exact W.iret (v := nI (shwN (v (ixx (nI j))) now (ixx (nI y)))) hx hb hr (fun t ht hW => ⟨(cd2_t hok hok2), rfl, ht⟩) (fun _ h => by cases h) dX1_shows_58
      · have join_49 : ∀ (ls : Array Slot), lv_has ls 5 [(4, .int (nI q)), (3, .int (nI (shwN (v j) now q))), (0, .ref (ad 0)), (1, .int (nI j)), (2, .int (nI y))] → W p l e (headSpec wsX1_shows ({ frames := 7, cells := 2, slots := 12, locals := 103 } : Room)).room s m [.ref (ad 0), .int (nI j), .int (nI y)].toArray below meth c s.heap [] ((0 + 1) + 1) ((0 + 6) + 6) (vx_MQ below (QOk (cd2 (lpOk n (nI j)) (inB (nI 1) (nI 30) (nI y)) = 0) (nI (shwN (v (ixx (nI j))) now (ixx (nI y))))) (XC1 (fun E => exC [tIOB, tIAE] (cd2 (lpOk n (nI j)) (inB (nI 1) (nI 30) (nI y))) E)) [.ref (ad 0), .int (nI j), .int (nI y)].toArray s 2 12 (fun _ => False)) (F0 m 49 ls [.int (nI (if onB (v j) (now + q) = true then 1 else 0)), .int (nI (2 * (shwN (v j) now q)))]) := by
          intro   ls hl
          refine n_iadd (v := nI (shwN (v j) now (q + 1))) hx hb dX1_shows_49 (nI_add _ _) ?_
          refine lv_istore_n (lv' := [(3, .int (nI (shwN (v j) now (q + 1)))), (4, .int (nI q)), (0, .ref (ad 0)), (1, .int (nI j)), (2, .int (nI y))]) hx hb dX1_shows_50 rfl hl (by decide) rfl (fun ls hl => ?_)
          refine lv_iinc (v := nI (q + 1)) (lv' := [(4, .int (nI (q + 1))), (3, .int (nI (shwN (v j) now (q + 1)))), (0, .ref (ad 0)), (1, .int (nI j)), (2, .int (nI y))]) hx hb dX1_shows_51 hl (k := 1) rfl (nI_inc _) (by decide) rfl (fun ls hl => ?_)
          refine lv_goto (tgt := 16) hx hb dX1_shows_54 (by decide) ?_
          exact ih_16 (q + 1) (by omega) (by omega) ls (lv_sub hl [0, 1, 2, 3, 4] rfl)
        refine lv_iconst (v := nI 2) hx hb dX1_shows_22 (by decide) ?_
        refine lv_iload_n hx hb dX1_shows_23 rfl (lv_at hl 1 rfl) ?_
        refine n_imul (v := nI (2 * (shwN (v j) now q))) hx hb dX1_shows_24 (pk_mul _ _) ?_
        refine lv_aload_n hx hb dX1_shows_25 rfl (lv_at hl 2 rfl) ?_
        refine va_get (D := D) (ci := 1) (v := .ref (ad 1)) (C := RX1) (T := TX1) (N := 5) hx hb hts hin1 hown hK hP0 0 rfl rfl 0 (by decide) (hts (.fieldLink RX1 11 "LanternPrimes" "row" "[LLanternPrimes$Lamp;") (List.mem_of_getElem? (i := 1) rfl)) (fun _ h9 => h9) rfl dX1_shows_26 ?_
        refine lv_iload_n hx hb dX1_shows_29 rfl (lv_at hl 3 rfl) ?_
        refine n_aald (v := ad (2 + 3 * j)) (j := j) hx hb hK hP0 1 2 rfl rfl (by omega) (by decide) rfl dX1_shows_30 ?_
        have hPj := hPL j (by omega)
        refine lv_aload_n hx hb dX1_shows_31 rfl (lv_at hl 2 rfl) ?_
        refine va_get (D := D) (ci := 1) (v := .int (nI now)) (C := RX1) (T := TX1) (N := 5) hx hb hts hin1 hown hK hP0 0 rfl rfl 3 (by decide) (hts (.fieldLink RX1 73 "LanternPrimes" "present" "I") (List.mem_of_getElem? (i := 2) rfl)) (fun _ h9 => h9) rfl dX1_shows_32 ?_
        refine lv_iload hx hb dX1_shows_35 (lv_at hl 0 rfl) ?_
        refine n_iadd (v := nI (now + q)) hx hb dX1_shows_37 (nI_add _ _) ?_
        refine rV (r := bI (onB (v j) (now + q))) (As := [.int (nI (now + q))]) (rest := [.int (nI (2 * (shwN (v j) now q)))]) ⟨hx, hb, hml, hown, hts⟩ (c_X0_onAt l D cI cZ cL cJ (ad (2 + 3 * j)) (ad (3 + 3 * j)) (ad (4 + 3 * j)) (v j) (now + q) (by omega) (hwl j (by omega)).up) (cwV 1 hts gX1_shows_X0_onAt rfl rfl rfl (by decide +kernel) ⟨(Nat.le_of_ble_eq_true rfl), (Nat.le_of_ble_eq_true rfl)⟩) hK hE hPj (RC_of (q := (RX0, TX0, 5)) (ci := 0) hK rfl (vpa hPj 0 rfl)) rfl hl.1 rfl (Nat.le_of_ble_eq_true rfl) dX1_shows_38 ⟨(Nat.le_of_ble_eq_true rfl), (Nat.le_of_ble_eq_true rfl)⟩ ?_
        refine b_if_eq (b := onB (v j) (now + q)) (tgt := 48) hx hb dX1_shows_41 (by decide) (fun c_41 => ?_) (fun c_41 => ?_)
        · refine lv_iconst (v := nI 0) hx hb dX1_shows_48 (by decide) ?_
          refine n_ti (y := nI (if onB (v j) (now + q) = true then 1 else 0)) (by rw [c_41]; rfl) ?_
          exact join_49 ls (lv_sub hl [0, 1, 2, 3, 4] rfl)
        · refine lv_iconst (v := nI 1) hx hb dX1_shows_44 (by decide) ?_
          refine lv_goto (tgt := 49) hx hb dX1_shows_45 (by decide) ?_
          refine n_ti (y := nI (if onB (v j) (now + q) = true then 1 else 0)) (by rw [c_41]; rfl) ?_
          exact join_49 ls (lv_sub hl [0, 1, 2, 3, 4] rfl)
  exact loop_16 (y + 1) 0 (by omega) (Nat.zero_le _) ls (lv_sub hl [0, 1, 2, 3, 4] rfl)
set_option maxHeartbeats 4000000 in
set_option maxRecDepth 100000 in
/-- momentsUntilCollision -/
theorem c_X1_momentsUntilCollision (l : Launch) (D : va_G) (cI cZ cL cJ : ClassId) (hst : l.stackTraces = false) (ad : Nat → Nat) (n now : Nat) (told : Int32) (v : Nat → LV) (hwf : WFX n now v) (k q : Int32) : vx_Met l yX1_momentsUntilCollision wsX1_momentsUntilCollision ({ frames := 8, cells := 3, slots := 18, locals := 125 } : Room) (PC D (TY cI cZ cL cJ) noA [.ref (ad 0), .int k, .int q] (fun H => PX D cI cL ad n now told v H)) (QOk (cd2 (lpOk n k && lpOk n q) (decide (¬ k = q)) = 0) ((oI (fnd (fun z => colB v (ixx k) (ixx q) (now + z)) 1 1000)))) (XC1 (fun E => exC [tIOB, tIAE] (cd2 (lpOk n k && lpOk n q) (decide (¬ k = q))) E)) 3 18 (fun _ => False) := by
  refine vx_ofW (cc := cX1_momentsUntilCollision) (maxL := 4) (ret := (some .int)) (by decide) rfl ?_
  intro p e s m args below meth c s₁ B hml hex hv
  obtain ⟨rfl, hK, hE, hP0, hPL⟩ := hv
  obtain ⟨hn8, hnow, hwl⟩ := hwf
  have hx := B.exec
  have hb := B.bytes
  have hr := B.returns
  have hts := atoms_spec (ws := wsX1_momentsUntilCollision) B.pre
  have hown : s.vm.findClass RX1 = some m.cls := findClass_of_methodNamed B.named
  have hlocks := B.notSynchronized
  have hNF := hE.2.1.1
  have hin0 : ∀ w ∈ wsX00, w ∈ wsX1_momentsUntilCollision := by decide +kernel
  have hin1 : ∀ w ∈ wsX10, w ∈ wsX1_momentsUntilCollision := by decide +kernel
  have hl := lv_entry ([.ref (ad 0), .int k, .int q]) (n := 4) (Nat.le_of_ble_eq_true rfl)
  rw [lg_entry_eq]
  generalize (lg_sl ([.ref (ad 0), .int k, .int q]) ++ List.replicate (4 - (lg_sl ([.ref (ad 0), .int k, .int q])).length) Slot.unset).toArray = ls at hl ⊢
  have hl : lv_has ls 4 [(0, .ref (ad 0)), (1, .int k), (2, .int q)] := hl
  refine lv_aload_n hx hb dX1_momentsUntilCollision_0 rfl (lv_at hl 0 rfl) ?_
  refine lv_iload_n hx hb dX1_momentsUntilCollision_1 rfl (lv_at hl 1 rfl) ?_
  refine lv_iload_n hx hb dX1_momentsUntilCollision_2 rfl (lv_at hl 2 rfl) ?_
  refine xVp (As := [.int k, .int q]) (rest := []) ⟨hx, hb, hml, hown, hts⟩ (c_X1_needPair l D cI cZ cL cJ hst ad n now told v ⟨hn8, hnow, hwl⟩ k q) (cwV 2 hts gX1_momentsUntilCollision_X1_needPair rfl rfl rfl (by decide +kernel) ⟨(Nat.le_of_ble_eq_true rfl), (Nat.le_of_ble_eq_true rfl)⟩) hK hE ⟨hP0, hPL⟩ (RC_of (q := (RX1, TX1, 5)) (ci := 1) hK rfl (vpa hP0 0 rfl)) rfl hl.1 rfl (Nat.le_of_ble_eq_true rfl) dX1_momentsUntilCollision_3 ⟨(Nat.le_of_ble_eq_true rfl), (Nat.le_of_ble_eq_true rfl)⟩ hex hlocks (fun E h => h) (Nat.le_of_ble_eq_true rfl) (Nat.le_of_ble_eq_true rfl) (fun hok => ?_)
  obtain ⟨i, j, hi, hj, hij, rfl, rfl⟩ := pair_j hn8 hok
  refine lv_iconst (v := nI 1) hx hb dX1_momentsUntilCollision_6 (by decide) ?_
  refine lv_istore_n (lv' := [(3, .int (nI 1)), (0, .ref (ad 0)), (1, .int (nI i)), (2, .int (nI j))]) hx hb dX1_momentsUntilCollision_7 rfl hl (by decide) rfl (fun ls hl => ?_)
  have loop_8 : ∀ (fu : Nat) (y : Nat), 1002 - y ≤ fu → 1 ≤ y → y ≤ 1001 → fnd (fun z => colB v i j (now + z)) y (1001 - y) = fnd (fun z => colB v i j (now + z)) 1 1000 → ∀ (ls : Array Slot), lv_has ls 4 [(3, .int (nI y)), (0, .ref (ad 0)), (1, .int (nI i)), (2, .int (nI j))] → W p l e (headSpec wsX1_momentsUntilCollision ({ frames := 8, cells := 3, slots := 18, locals := 125 } : Room)).room s m [.ref (ad 0), .int (nI i), .int (nI j)].toArray below meth c s.heap [] (0 + 3) (0 + 18) (vx_MQ below (QOk (cd2 (lpOk n (nI i) && lpOk n (nI j)) (decide (¬ (nI i) = (nI j))) = 0) ((oI (fnd (fun z => colB v (ixx (nI i)) (ixx (nI j)) (now + z)) 1 1000)))) (XC1 (fun E => exC [tIOB, tIAE] (cd2 (lpOk n (nI i) && lpOk n (nI j)) (decide (¬ (nI i) = (nI j)))) E)) [.ref (ad 0), .int (nI i), .int (nI j)].toArray s 3 18 (fun _ => False)) (F0 m 8 ls []) := by
    intro fu
    induction fu with
    | zero => intro y hn_8 hy1 hy2 hf; exact absurd hn_8 (by omega)
    | succ fu ih_8 =>
      intro y hn_8 hy1 hy2 hf ls hl
      refine lv_iload_n hx hb dX1_momentsUntilCollision_8 rfl (lv_at hl 0 rfl) ?_
      refine lv_sipush (v := nI 1000) hx hb dX1_momentsUntilCollision_9 (by decide) ?_
      refine n_icmp_gt (a := y) (b := 1000) (tgt := 38) hx hb (by omega) (by omega) dX1_momentsUntilCollision_12 (by decide) (fun c_12 => ?_) (fun c_12 => ?_)
      · refine lv_iconst (v := (-1)) hx hb dX1_momentsUntilCollision_38 (by decide) ?_
        refine n_ti (y := (oI (fnd (fun z => colB v (ixx (nI i)) (ixx (nI j)) (now + z)) 1 1000))) (by rw [ixx_nI (by omega), ixx_nI (by omega), ← hf, show 1001 - y = 0 by omega]; rfl) ?_
        refine vx_ret ?_
        refine W.widen (k := 3) (n := 18) (Nat.le_of_ble_eq_true rfl) (Nat.le_of_ble_eq_true rfl) ?_
        exact W.iret (v := (oI (fnd (fun z => colB v (ixx (nI i)) (ixx (nI j)) (now + z)) 1 1000))) hx hb hr (fun t ht hW => ⟨hok, rfl, ht⟩) (fun _ h => by cases h) dX1_momentsUntilCollision_39
      · refine lv_aload_n hx hb dX1_momentsUntilCollision_15 rfl (lv_at hl 1 rfl) ?_
        refine lv_iload_n hx hb dX1_momentsUntilCollision_16 rfl (lv_at hl 2 rfl) ?_
        refine lv_iload_n hx hb dX1_momentsUntilCollision_17 rfl (lv_at hl 3 rfl) ?_
        refine lv_aload_n hx hb dX1_momentsUntilCollision_18 rfl (lv_at hl 1 rfl) ?_
        refine va_get (D := D) (ci := 1) (v := .int (nI now)) (C := RX1) (T := TX1) (N := 5) hx hb hts hin1 hown hK hP0 0 rfl rfl 3 (by decide) (hts (.fieldLink RX1 73 "LanternPrimes" "present" "I") (List.mem_of_getElem? (i := 1) rfl)) (fun _ h9 => h9) rfl dX1_momentsUntilCollision_19 ?_
        refine lv_iload_n hx hb dX1_momentsUntilCollision_22 rfl (lv_at hl 0 rfl) ?_
        refine n_iadd (v := nI (now + y)) hx hb dX1_momentsUntilCollision_23 (nI_add _ _) ?_
        refine rV (r := bI (colB v i j (now + y))) (As := [.int (nI i), .int (nI j), .int (nI (now + y))]) (rest := []) ⟨hx, hb, hml, hown, hts⟩ (c_X1_collideAt l D cI cZ cL cJ ad n now told v ⟨hn8, hnow, hwl⟩ i j (now + y) hi hj (by omega)) (cwV 3 hts gX1_momentsUntilCollision_X1_collideAt rfl rfl rfl (by decide +kernel) ⟨(Nat.le_of_ble_eq_true rfl), (Nat.le_of_ble_eq_true rfl)⟩) hK hE ⟨hP0, hPL⟩ (RC_of (q := (RX1, TX1, 5)) (ci := 1) hK rfl (vpa hP0 0 rfl)) rfl hl.1 rfl (Nat.le_of_ble_eq_true rfl) dX1_momentsUntilCollision_24 ⟨(Nat.le_of_ble_eq_true rfl), (Nat.le_of_ble_eq_true rfl)⟩ ?_
        refine b_if_eq (b := colB v i j (now + y)) (tgt := 32) hx hb dX1_momentsUntilCollision_27 (by decide) (fun c_27 => ?_) (fun c_27 => ?_)
        · refine lv_iinc (v := nI (y + 1)) (lv' := [(3, .int (nI (y + 1))), (0, .ref (ad 0)), (1, .int (nI i)), (2, .int (nI j))]) hx hb dX1_momentsUntilCollision_32 hl (k := 0) rfl (nI_inc _) (by decide) rfl (fun ls hl => ?_)
          refine lv_goto (tgt := 8) hx hb dX1_momentsUntilCollision_35 (by decide) ?_
          exact ih_8 (y + 1) (by omega) (by omega) (by omega) (by rw [← hf, fnd_f (f := (fun z => colB v i j (now + z))) (lo := y) c_27 (by omega), show 1001 - y - 1 = 1001 - (y + 1) by omega]) ls (lv_sub hl [0, 1, 2, 3] rfl)
        · refine lv_iload_n hx hb dX1_momentsUntilCollision_30 rfl (lv_at hl 0 rfl) ?_
          refine n_ti (y := (oI (fnd (fun z => colB v (ixx (nI i)) (ixx (nI j)) (now + z)) 1 1000))) (by rw [ixx_nI (by omega), ixx_nI (by omega), ← hf, fnd_t (f := (fun z => colB v i j (now + z))) (lo := y) c_27 (by omega)]; rfl) ?_
          refine vx_ret ?_
          refine W.widen (k := 3) (n := 18) (Nat.le_of_ble_eq_true rfl) (Nat.le_of_ble_eq_true rfl) ?_
          exact W.iret (v := (oI (fnd (fun z => colB v (ixx (nI i)) (ixx (nI j)) (now + z)) 1 1000))) hx hb hr (fun t ht hW => ⟨hok, rfl, ht⟩) (fun _ h => by cases h) dX1_momentsUntilCollision_31
  exact loop_8 1002 1 (by omega) (by omega) (by omega) rfl ls (lv_sub hl [0, 1, 2, 3] rfl)
set_option maxHeartbeats 4000000 in
set_option maxRecDepth 100000 in
/-- collisionsWithin -/
theorem c_X1_collisionsWithin (l : Launch) (D : va_G) (cI cZ cL cJ : ClassId) (hst : l.stackTraces = false) (ad : Nat → Nat) (n now : Nat) (told : Int32) (v : Nat → LV) (hwf : WFX n now v) (k q x : Int32) : vx_Met l yX1_collisionsWithin wsX1_collisionsWithin ({ frames := 8, cells := 4, slots := 24, locals := 125 } : Room) (PC D (TY cI cZ cL cJ) noA [.ref (ad 0), .int k, .int q, .int x] (fun H => PX D cI cL ad n now told v H)) (QOk (cd2 (lpOk n k && lpOk n q) (decide (¬ k = q) && inB (nI 1) (nI 500) x) = 0) (nI (cnt (fun s => colB v (ixx k) (ixx q) (now + (s + 1))) (ixx x)))) (XC1 (fun E => exC [tIOB, tIAE] (cd2 (lpOk n k && lpOk n q) (decide (¬ k = q) && inB (nI 1) (nI 500) x)) E)) 4 24 (fun _ => False) := by
  refine vx_ofW (cc := cX1_collisionsWithin) (maxL := 6) (ret := (some .int)) (by decide) rfl ?_
  intro p e s m args below meth c s₁ B hml hex hv
  obtain ⟨rfl, hK, hE, hP0, hPL⟩ := hv
  obtain ⟨hn8, hnow, hwl⟩ := hwf
  have hx := B.exec
  have hb := B.bytes
  have hr := B.returns
  have hts := atoms_spec (ws := wsX1_collisionsWithin) B.pre
  have hown : s.vm.findClass RX1 = some m.cls := findClass_of_methodNamed B.named
  have hlocks := B.notSynchronized
  have hNF := hE.2.1.1
  have hin0 : ∀ w ∈ wsX00, w ∈ wsX1_collisionsWithin := by decide +kernel
  have hin1 : ∀ w ∈ wsX10, w ∈ wsX1_collisionsWithin := by decide +kernel
  have hl := lv_entry ([.ref (ad 0), .int k, .int q, .int x]) (n := 6) (Nat.le_of_ble_eq_true rfl)
  rw [lg_entry_eq]
  generalize (lg_sl ([.ref (ad 0), .int k, .int q, .int x]) ++ List.replicate (6 - (lg_sl ([.ref (ad 0), .int k, .int q, .int x])).length) Slot.unset).toArray = ls at hl ⊢
  have hl : lv_has ls 6 [(0, .ref (ad 0)), (1, .int k), (2, .int q), (3, .int x)] := hl
  refine lv_aload_n hx hb dX1_collisionsWithin_0 rfl (lv_at hl 0 rfl) ?_
  refine lv_iload_n hx hb dX1_collisionsWithin_1 rfl (lv_at hl 1 rfl) ?_
  refine lv_iload_n hx hb dX1_collisionsWithin_2 rfl (lv_at hl 2 rfl) ?_
  refine xVp (As := [.int k, .int q]) (rest := []) ⟨hx, hb, hml, hown, hts⟩ (c_X1_needPair l D cI cZ cL cJ hst ad n now told v ⟨hn8, hnow, hwl⟩ k q) (cwV 2 hts gX1_collisionsWithin_X1_needPair rfl rfl rfl (by decide +kernel) ⟨(Nat.le_of_ble_eq_true rfl), (Nat.le_of_ble_eq_true rfl)⟩) hK hE ⟨hP0, hPL⟩ (RC_of (q := (RX1, TX1, 5)) (ci := 1) hK rfl (vpa hP0 0 rfl)) rfl hl.1 rfl (Nat.le_of_ble_eq_true rfl) dX1_collisionsWithin_3 ⟨(Nat.le_of_ble_eq_true rfl), (Nat.le_of_ble_eq_true rfl)⟩ hex hlocks (fun E h => exP h) (Nat.le_of_ble_eq_true rfl) (Nat.le_of_ble_eq_true rfl) (fun hok => ?_)
  obtain ⟨i, j, hi, hj, hij, rfl, rfl⟩ := pair_j hn8 hok
  refine lv_iload_n hx hb dX1_collisionsWithin_6 rfl (lv_at hl 3 rfl) ?_
  refine lv_sipush (v := nI 500) hx hb dX1_collisionsWithin_7 (by decide) ?_
  refine xSp (As := [.int x, .int (nI 500)]) (rest := []) ⟨hx, hb, hml, hown, hts⟩ (c_X1_needMoments l D cI cZ cL cJ hst x (nI 500)) (va_cwS 2 hts gX1_collisionsWithin_X1_needMoments rfl rfl rfl (by decide +kernel) ⟨(Nat.le_of_ble_eq_true rfl), (Nat.le_of_ble_eq_true rfl)⟩) hK hE trivial rfl hl.1 rfl (Nat.le_of_ble_eq_true rfl) dX1_collisionsWithin_10 ⟨(Nat.le_of_ble_eq_true rfl), (Nat.le_of_ble_eq_true rfl)⟩ hex hlocks (fun E h => by rw [h.1]; exact ex2b (pair_ok hok).1 (and_f2 h.2)) (Nat.le_of_ble_eq_true rfl) (Nat.le_of_ble_eq_true rfl) (fun hok2 => ?_)
  obtain ⟨y, hy1, hy2, rfl⟩ := inB_j (by decide) (by decide) hok2
  refine lv_iconst (v := nI 0) hx hb dX1_collisionsWithin_13 (by decide) ?_
  refine lv_istore (lv' := [(4, .int (nI 0)), (0, .ref (ad 0)), (1, .int (nI i)), (2, .int (nI j)), (3, .int (nI y))]) hx hb dX1_collisionsWithin_14 hl (by decide) rfl (fun ls hl => ?_)
  refine lv_iconst (v := nI 1) hx hb dX1_collisionsWithin_16 (by decide) ?_
  refine lv_istore (lv' := [(5, .int (nI 1)), (4, .int (nI 0)), (0, .ref (ad 0)), (1, .int (nI i)), (2, .int (nI j)), (3, .int (nI y))]) hx hb dX1_collisionsWithin_17 hl (by decide) rfl (fun ls hl => ?_)
  have loop_19 : ∀ (fu : Nat) (r : Nat), y + 1 - r ≤ fu → r ≤ y → ∀ (ls : Array Slot), lv_has ls 6 [(5, .int (nI (r + 1))), (4, .int (nI (cnt (fun s => colB v i j (now + (s + 1))) r))), (0, .ref (ad 0)), (1, .int (nI i)), (2, .int (nI j)), (3, .int (nI y))] → W p l e (headSpec wsX1_collisionsWithin ({ frames := 8, cells := 4, slots := 24, locals := 125 } : Room)).room s m [.ref (ad 0), .int (nI i), .int (nI j), .int (nI y)].toArray below meth c s.heap [] ((0 + 3) + 1) ((0 + 18) + 6) (vx_MQ below (QOk (cd2 (lpOk n (nI i) && lpOk n (nI j)) (decide (¬ (nI i) = (nI j)) && inB (nI 1) (nI 500) (nI y)) = 0) (nI (cnt (fun s => colB v (ixx (nI i)) (ixx (nI j)) (now + (s + 1))) (ixx (nI y))))) (XC1 (fun E => exC [tIOB, tIAE] (cd2 (lpOk n (nI i) && lpOk n (nI j)) (decide (¬ (nI i) = (nI j)) && inB (nI 1) (nI 500) (nI y))) E)) [.ref (ad 0), .int (nI i), .int (nI j), .int (nI y)].toArray s 4 24 (fun _ => False)) (F0 m 19 ls []) := by
    intro fu
    induction fu with
    | zero => intro r hn_19 hr9; exact absurd hn_19 (by omega)
    | succ fu ih_19 =>
      intro r hn_19 hr9 ls hl
      refine lv_iload hx hb dX1_collisionsWithin_19 (lv_at hl 0 rfl) ?_
      refine lv_iload_n hx hb dX1_collisionsWithin_21 rfl (lv_at hl 5 rfl) ?_
      refine n_icmp_gt (a := r + 1) (b := y) (tgt := 50) hx hb (by omega) (by omega) dX1_collisionsWithin_22 (by decide) (fun c_22 => ?_) (fun c_22 => ?_)
      · refine lv_iload hx hb dX1_collisionsWithin_50 (lv_at hl 1 rfl) ?_
        refine n_ti (y := nI (cnt (fun s => colB v (ixx (nI i)) (ixx (nI j)) (now + (s + 1))) (ixx (nI y)))) (by rw [ixx_nI (by omega), ixx_nI (by omega), ixx_nI (by omega), show r = y by omega]) ?_
        refine vx_ret ?_
        refine W.widen (k := 4) (n := 24) (Nat.le_of_ble_eq_true rfl) (Nat.le_of_ble_eq_true rfl) ?_
        exact W.iret (v := nI (cnt (fun s => colB v (ixx (nI i)) (ixx (nI j)) (now + (s + 1))) (ixx (nI y)))) hx hb hr (fun t ht hW => ⟨(cd2_t (pair_ok hok).1 (and_t (pair_ok hok).2 hok2)), rfl, ht⟩) (fun _ h => by cases h) dX1_collisionsWithin_52
      · refine lv_aload_n hx hb dX1_collisionsWithin_25 rfl (lv_at hl 2 rfl) ?_
        refine lv_iload_n hx hb dX1_collisionsWithin_26 rfl (lv_at hl 3 rfl) ?_
        refine lv_iload_n hx hb dX1_collisionsWithin_27 rfl (lv_at hl 4 rfl) ?_
        refine lv_aload_n hx hb dX1_collisionsWithin_28 rfl (lv_at hl 2 rfl) ?_
        refine va_get (D := D) (ci := 1) (v := .int (nI now)) (C := RX1) (T := TX1) (N := 5) hx hb hts hin1 hown hK hP0 0 rfl rfl 3 (by decide) (hts (.fieldLink RX1 73 "LanternPrimes" "present" "I") (List.mem_of_getElem? (i := 1) rfl)) (fun _ h9 => h9) rfl dX1_collisionsWithin_29 ?_
        refine lv_iload hx hb dX1_collisionsWithin_32 (lv_at hl 0 rfl) ?_
        refine n_iadd (v := nI (now + (r + 1))) hx hb dX1_collisionsWithin_34 (nI_add _ _) ?_
        refine rV (r := bI (colB v i j (now + (r + 1)))) (As := [.int (nI i), .int (nI j), .int (nI (now + (r + 1)))]) (rest := []) ⟨hx, hb, hml, hown, hts⟩ (c_X1_collideAt l D cI cZ cL cJ ad n now told v ⟨hn8, hnow, hwl⟩ i j (now + (r + 1)) hi hj (by omega)) (cwV 3 hts gX1_collisionsWithin_X1_collideAt rfl rfl rfl (by decide +kernel) ⟨(Nat.le_of_ble_eq_true rfl), (Nat.le_of_ble_eq_true rfl)⟩) hK hE ⟨hP0, hPL⟩ (RC_of (q := (RX1, TX1, 5)) (ci := 1) hK rfl (vpa hP0 0 rfl)) rfl hl.1 rfl (Nat.le_of_ble_eq_true rfl) dX1_collisionsWithin_35 ⟨(Nat.le_of_ble_eq_true rfl), (Nat.le_of_ble_eq_true rfl)⟩ ?_
        refine b_if_eq (b := colB v i j (now + (r + 1))) (tgt := 44) hx hb dX1_collisionsWithin_38 (by decide) (fun c_38 => ?_) (fun c_38 => ?_)
        · have e_1 : cnt (fun s => colB v i j (now + (s + 1))) (r + 1) = cnt (fun s => colB v i j (now + (s + 1))) r := cnt_f (f := (fun s => colB v i j (now + (s + 1)))) c_38
          rw [← e_1] at hl
          refine lv_iinc (v := nI ((r + 1) + 1)) (lv' := [(5, .int (nI ((r + 1) + 1))), (4, .int (nI (cnt (fun s => colB v i j (now + (s + 1))) (r + 1)))), (0, .ref (ad 0)), (1, .int (nI i)), (2, .int (nI j)), (3, .int (nI y))]) hx hb dX1_collisionsWithin_44 hl (k := 0) rfl (nI_inc _) (by decide) rfl (fun ls hl => ?_)
          refine lv_goto (tgt := 19) hx hb dX1_collisionsWithin_47 (by decide) ?_
          exact ih_19 (r + 1) (by omega) (by omega) ls (lv_sub hl [0, 1, 2, 3, 4, 5] rfl)
        · have e_1 : cnt (fun s => colB v i j (now + (s + 1))) (r + 1) = cnt (fun s => colB v i j (now + (s + 1))) r + 1 := cnt_t (f := (fun s => colB v i j (now + (s + 1)))) c_38
          refine lv_iinc (v := nI (cnt (fun s => colB v i j (now + (s + 1))) (r + 1))) (lv' := [(4, .int (nI (cnt (fun s => colB v i j (now + (s + 1))) (r + 1)))), (5, .int (nI (r + 1))), (0, .ref (ad 0)), (1, .int (nI i)), (2, .int (nI j)), (3, .int (nI y))]) hx hb dX1_collisionsWithin_41 hl (k := 1) rfl (by rw [e_1]; exact nI_inc _) (by decide) rfl (fun ls hl => ?_)
          refine lv_iinc (v := nI ((r + 1) + 1)) (lv' := [(5, .int (nI ((r + 1) + 1))), (4, .int (nI (cnt (fun s => colB v i j (now + (s + 1))) (r + 1)))), (0, .ref (ad 0)), (1, .int (nI i)), (2, .int (nI j)), (3, .int (nI y))]) hx hb dX1_collisionsWithin_44 hl (k := 1) rfl (nI_inc _) (by decide) rfl (fun ls hl => ?_)
          refine lv_goto (tgt := 19) hx hb dX1_collisionsWithin_47 (by decide) ?_
          exact ih_19 (r + 1) (by omega) (by omega) ls (lv_sub hl [0, 1, 2, 3, 4, 5] rfl)
  exact loop_19 (y + 1) 0 (by omega) (Nat.zero_le _) ls (lv_sub hl [0, 1, 2, 3, 4, 5] rfl)
set_option maxHeartbeats 4000000 in
set_option maxRecDepth 100000 in
/-- darkWithin -/
theorem c_X1_darkWithin (l : Launch) (D : va_G) (cI cZ cL cJ : ClassId) (hst : l.stackTraces = false) (ad : Nat → Nat) (n now : Nat) (told : Int32) (v : Nat → LV) (hwf : WFX n now v) (x : Int32) : vx_Met l yX1_darkWithin wsX1_darkWithin ({ frames := 7, cells := 1, slots := 6, locals := 113 } : Room) (PC D (TY cI cZ cL cJ) noA [.ref (ad 0), .int x] (fun H => PX D cI cL ad n now told v H)) (QOk (cd1 (inB (nI 1) (nI 500) x) = 0) (nI (dkN v n now (-1) (ixx x)))) (XC1 (fun E => exC [tIAE] (cd1 (inB (nI 1) (nI 500) x)) E)) 1 6 (fun _ => False) := by
  refine vx_ofW (cc := cX1_darkWithin) (maxL := 2) (ret := (some .int)) (by decide) rfl ?_
  intro p e s m args below meth c s₁ B hml hex hv
  obtain ⟨rfl, hK, hE, hP0, hPL⟩ := hv
  obtain ⟨hn8, hnow, hwl⟩ := hwf
  have hx := B.exec
  have hb := B.bytes
  have hr := B.returns
  have hts := atoms_spec (ws := wsX1_darkWithin) B.pre
  have hown : s.vm.findClass RX1 = some m.cls := findClass_of_methodNamed B.named
  have hlocks := B.notSynchronized
  have hNF := hE.2.1.1
  have hin0 : ∀ w ∈ wsX00, w ∈ wsX1_darkWithin := by decide +kernel
  have hin1 : ∀ w ∈ wsX10, w ∈ wsX1_darkWithin := by decide +kernel
  have hl := lv_entry ([.ref (ad 0), .int x]) (n := 2) (Nat.le_of_ble_eq_true rfl)
  rw [lg_entry_eq]
  generalize (lg_sl ([.ref (ad 0), .int x]) ++ List.replicate (2 - (lg_sl ([.ref (ad 0), .int x])).length) Slot.unset).toArray = ls at hl ⊢
  have hl : lv_has ls 2 [(0, .ref (ad 0)), (1, .int x)] := hl
  refine lv_iload_n hx hb dX1_darkWithin_0 rfl (lv_at hl 1 rfl) ?_
  refine lv_sipush (v := nI 500) hx hb dX1_darkWithin_1 (by decide) ?_
  refine xSp (As := [.int x, .int (nI 500)]) (rest := []) ⟨hx, hb, hml, hown, hts⟩ (c_X1_needMoments l D cI cZ cL cJ hst x (nI 500)) (va_cwS 2 hts gX1_darkWithin_X1_needMoments rfl rfl rfl (by decide +kernel) ⟨(Nat.le_of_ble_eq_true rfl), (Nat.le_of_ble_eq_true rfl)⟩) hK hE trivial rfl hl.1 rfl (Nat.le_of_ble_eq_true rfl) dX1_darkWithin_4 ⟨(Nat.le_of_ble_eq_true rfl), (Nat.le_of_ble_eq_true rfl)⟩ hex hlocks (fun E h => by rw [h.1]; exact ex1 h.2) (Nat.le_of_ble_eq_true rfl) (Nat.le_of_ble_eq_true rfl) (fun hok => ?_)
  obtain ⟨y, hy1, hy2, rfl⟩ := inB_j (by decide) (by decide) hok
  refine lv_aload_n hx hb dX1_darkWithin_7 rfl (lv_at hl 0 rfl) ?_
  refine lv_iload_n hx hb dX1_darkWithin_8 rfl (lv_at hl 1 rfl) ?_
  refine lv_iconst (v := (-1)) hx hb dX1_darkWithin_9 (by decide) ?_
  refine rV (r := nI (dkN v n now (-1) y)) (As := [.int (nI y), .int (-1)]) (rest := []) ⟨hx, hb, hml, hown, hts⟩ (c_X1_darkMoments l D cI cZ cL cJ ad n now told v ⟨hn8, hnow, hwl⟩ y hy2 (-1)) (cwV 2 hts gX1_darkWithin_X1_darkMoments rfl rfl rfl (by decide +kernel) ⟨(Nat.le_of_ble_eq_true rfl), (Nat.le_of_ble_eq_true rfl)⟩) hK hE ⟨hP0, hPL⟩ (RC_of (q := (RX1, TX1, 5)) (ci := 1) hK rfl (vpa hP0 0 rfl)) rfl hl.1 rfl (Nat.le_of_ble_eq_true rfl) dX1_darkWithin_10 ⟨(Nat.le_of_ble_eq_true rfl), (Nat.le_of_ble_eq_true rfl)⟩ ?_
  refine n_ti (y := nI (dkN v n now (-1) (ixx (nI y)))) (by rw [ixx_nI (by omega)]) ?_
  refine vx_ret ?_
  refine W.widen (k := 1) (n := 6) (Nat.le_of_ble_eq_true rfl) (Nat.le_of_ble_eq_true rfl) ?_
  exact W.iret (v := nI (dkN v n now (-1) (ixx (nI y)))) hx hb hr (fun t ht hW => ⟨(cd1_t hok), rfl, ht⟩) (fun _ h => by cases h) dX1_darkWithin_13
end
section
set_option maxHeartbeats 4000000 in
set_option maxRecDepth 100000 in
/-- bestCover -/
theorem c_X1_bestCover (l : Launch) (D : va_G) (cI cZ cL cJ : ClassId) (hst : l.stackTraces = false) (ad : Nat → Nat) (n now : Nat) (told : Int32) (v : Nat → LV) (hwf : WFX n now v) (x : Int32) : vx_Met l yX1_bestCover wsX1_bestCover ({ frames := 7, cells := 1, slots := 6, locals := 113 } : Room) (PC D (TY cI cZ cL cJ) noA [.ref (ad 0), .int x] (fun H => PX D cI cL ad n now told v H)) (QOk (cd1 (inB (nI 1) (nI 200) x) = 0) ((oI1 (bcvN v n now (ixx x) n)))) (XC1 (fun E => exC [tIAE] (cd1 (inB (nI 1) (nI 200) x)) E)) 1 6 (fun _ => False) := by
  refine vx_ofW (cc := cX1_bestCover) (maxL := 6) (ret := (some .int)) (by decide) rfl ?_
  intro p e s m args below meth c s₁ B hml hex hv
  obtain ⟨rfl, hK, hE, hP0, hPL⟩ := hv
  obtain ⟨hn8, hnow, hwl⟩ := hwf
  have hx := B.exec
  have hb := B.bytes
  have hr := B.returns
  have hts := atoms_spec (ws := wsX1_bestCover) B.pre
  have hown : s.vm.findClass RX1 = some m.cls := findClass_of_methodNamed B.named
  have hlocks := B.notSynchronized
  have hNF := hE.2.1.1
  have hin0 : ∀ w ∈ wsX00, w ∈ wsX1_bestCover := by decide +kernel
  have hin1 : ∀ w ∈ wsX10, w ∈ wsX1_bestCover := by decide +kernel
  have hl := lv_entry ([.ref (ad 0), .int x]) (n := 6) (Nat.le_of_ble_eq_true rfl)
  rw [lg_entry_eq]
  generalize (lg_sl ([.ref (ad 0), .int x]) ++ List.replicate (6 - (lg_sl ([.ref (ad 0), .int x])).length) Slot.unset).toArray = ls at hl ⊢
  have hl : lv_has ls 6 [(0, .ref (ad 0)), (1, .int x)] := hl
  refine lv_iload_n hx hb dX1_bestCover_0 rfl (lv_at hl 1 rfl) ?_
  refine lv_sipush (v := nI 200) hx hb dX1_bestCover_1 (by decide) ?_
  refine xSp (As := [.int x, .int (nI 200)]) (rest := []) ⟨hx, hb, hml, hown, hts⟩ (c_X1_needMoments l D cI cZ cL cJ hst x (nI 200)) (va_cwS 2 hts gX1_bestCover_X1_needMoments rfl rfl rfl (by decide +kernel) ⟨(Nat.le_of_ble_eq_true rfl), (Nat.le_of_ble_eq_true rfl)⟩) hK hE trivial rfl hl.1 rfl (Nat.le_of_ble_eq_true rfl) dX1_bestCover_4 ⟨(Nat.le_of_ble_eq_true rfl), (Nat.le_of_ble_eq_true rfl)⟩ hex hlocks (fun E h => by rw [h.1]; exact ex1 h.2) (Nat.le_of_ble_eq_true rfl) (Nat.le_of_ble_eq_true rfl) (fun hok => ?_)
  obtain ⟨y, hy1, hy2, rfl⟩ := inB_j (by decide) (by decide) hok
  refine lv_iconst (v := (-1)) hx hb dX1_bestCover_7 (by decide) ?_
  refine lv_istore_n (lv' := [(2, .int (-1)), (0, .ref (ad 0)), (1, .int (nI y))]) hx hb dX1_bestCover_8 rfl hl (by decide) rfl (fun ls hl => ?_)
  refine lv_iconst (v := (-1)) hx hb dX1_bestCover_9 (by decide) ?_
  refine lv_istore_n (lv' := [(3, .int (-1)), (2, .int (-1)), (0, .ref (ad 0)), (1, .int (nI y))]) hx hb dX1_bestCover_10 rfl hl (by decide) rfl (fun ls hl => ?_)
  refine lv_iconst (v := nI 0) hx hb dX1_bestCover_11 (by decide) ?_
  refine lv_istore (lv' := [(4, .int (nI 0)), (3, .int (-1)), (2, .int (-1)), (0, .ref (ad 0)), (1, .int (nI y))]) hx hb dX1_bestCover_12 hl (by decide) rfl (fun ls hl => ?_)
  have loop_14 : ∀ (fu : Nat) (j : Nat), n + 1 - j ≤ fu → j ≤ n → ∀ (ls : Array Slot), lv_has ls 6 [(4, .int (nI j)), (3, .int (oI2 (bcvN v n now y j))), (2, .int (oI1 (bcvN v n now y j))), (0, .ref (ad 0)), (1, .int (nI y))] → W p l e (headSpec wsX1_bestCover ({ frames := 7, cells := 1, slots := 6, locals := 113 } : Room)).room s m [.ref (ad 0), .int (nI y)].toArray below meth c s.heap [] (0 + 1) (0 + 6) (vx_MQ below (QOk (cd1 (inB (nI 1) (nI 200) (nI y)) = 0) ((oI1 (bcvN v n now (ixx (nI y)) n)))) (XC1 (fun E => exC [tIAE] (cd1 (inB (nI 1) (nI 200) (nI y))) E)) [.ref (ad 0), .int (nI y)].toArray s 1 6 (fun _ => False)) (F0 m 14 ls []) := by
    intro fu
    induction fu with
    | zero => intro j hn_14 hj; exact absurd hn_14 (by omega)
    | succ fu ih_14 =>
      intro j hn_14 hj ls hl
      refine lv_iload hx hb dX1_bestCover_14 (lv_at hl 0 rfl) ?_
      refine lv_aload_n hx hb dX1_bestCover_16 rfl (lv_at hl 3 rfl) ?_
      refine va_get (D := D) (ci := 1) (v := .int (nI n)) (C := RX1) (T := TX1) (N := 5) hx hb hts hin1 hown hK hP0 0 rfl rfl 2 (by decide) (hts (.fieldLink RX1 20 "LanternPrimes" "lampCount" "I") (List.mem_of_getElem? (i := 1) rfl)) (fun _ h9 => h9) rfl dX1_bestCover_17 ?_
      refine n_icmp_ge (a := j) (b := n) (tgt := 63) hx hb (by omega) (by omega) dX1_bestCover_20 (by decide) (fun c_20 => ?_) (fun c_20 => ?_)
      · refine lv_iload_n hx hb dX1_bestCover_63 rfl (lv_at hl 2 rfl) ?_
        refine n_ti (y := (oI1 (bcvN v n now (ixx (nI y)) n))) (by rw [ixx_nI (by omega), show j = n by omega]) ?_
        refine vx_ret ?_
        refine W.widen (k := 1) (n := 6) (Nat.le_of_ble_eq_true rfl) (Nat.le_of_ble_eq_true rfl) ?_
        exact W.iret (v := (oI1 (bcvN v n now (ixx (nI y)) n))) hx hb hr (fun t ht hW => ⟨(cd1_t hok), rfl, ht⟩) (fun _ h => by cases h) dX1_bestCover_64
      · refine lv_aload_n hx hb dX1_bestCover_23 rfl (lv_at hl 3 rfl) ?_
        refine va_get (D := D) (ci := 1) (v := .ref (ad 1)) (C := RX1) (T := TX1) (N := 5) hx hb hts hin1 hown hK hP0 0 rfl rfl 0 (by decide) (hts (.fieldLink RX1 11 "LanternPrimes" "row" "[LLanternPrimes$Lamp;") (List.mem_of_getElem? (i := 2) rfl)) (fun _ h9 => h9) rfl dX1_bestCover_24 ?_
        refine lv_iload hx hb dX1_bestCover_27 (lv_at hl 0 rfl) ?_
        refine n_aald (v := ad (2 + 3 * j)) (j := j) hx hb hK hP0 1 2 rfl rfl (by omega) (by decide) rfl dX1_bestCover_29 ?_
        have hPj := hPL j (by omega)
        refine va_getN (D := D) (ci := 0) (v := .int (bI (lcv (v j)))) (C := RX0) (T := TX0) (N := 5) hx hb hts hin0 hown hK hPj 0 rfl rfl 4 (by decide) (va_Nw.use rfl (hNF _ (List.mem_of_getElem? (i := 4) rfl))) (fun _ h9 => h9) rfl dX1_bestCover_30 ?_
        refine b_if_ne (b := lcv (v j)) (tgt := 57) hx hb dX1_bestCover_33 (by decide) (fun c_33 => ?_) (fun c_33 => ?_)
        · have e_1 : bcvN v n now y (j + 1) = bcvN v n now y j := by simp only [bcvN]; rw [if_pos c_33]
          refine lv_iinc (v := nI (j + 1)) (lv' := [(4, .int (nI (j + 1))), (3, .int (oI2 (bcvN v n now y j))), (2, .int (oI1 (bcvN v n now y j))), (0, .ref (ad 0)), (1, .int (nI y))]) hx hb dX1_bestCover_57 hl (k := 0) rfl (nI_inc _) (by decide) rfl (fun ls hl => ?_)
          refine lv_goto (tgt := 14) hx hb dX1_bestCover_60 (by decide) ?_
          exact ih_14 (j + 1) (by omega) (by omega) ls (by rw [e_1]; exact (lv_sub hl [0, 1, 2, 3, 4] rfl))
        · refine lv_aload_n hx hb dX1_bestCover_36 rfl (lv_at hl 3 rfl) ?_
          refine lv_iload_n hx hb dX1_bestCover_37 rfl (lv_at hl 4 rfl) ?_
          refine lv_iload hx hb dX1_bestCover_38 (lv_at hl 0 rfl) ?_
          refine rV (r := nI (dkN v n now (nI j) y)) (As := [.int (nI y), .int (nI j)]) (rest := []) ⟨hx, hb, hml, hown, hts⟩ (c_X1_darkMoments l D cI cZ cL cJ ad n now told v ⟨hn8, hnow, hwl⟩ y (by omega) (nI j)) (cwV 2 hts gX1_bestCover_X1_darkMoments rfl rfl rfl (by decide +kernel) ⟨(Nat.le_of_ble_eq_true rfl), (Nat.le_of_ble_eq_true rfl)⟩) hK hE ⟨hP0, hPL⟩ (RC_of (q := (RX1, TX1, 5)) (ci := 1) hK rfl (vpa hP0 0 rfl)) rfl hl.1 rfl (Nat.le_of_ble_eq_true rfl) dX1_bestCover_40 ⟨(Nat.le_of_ble_eq_true rfl), (Nat.le_of_ble_eq_true rfl)⟩ ?_
          refine lv_istore (lv' := [(5, .int (nI (dkN v n now (nI j) y))), (4, .int (nI j)), (3, .int (oI2 (bcvN v n now y j))), (2, .int (oI1 (bcvN v n now y j))), (0, .ref (ad 0)), (1, .int (nI y))]) hx hb dX1_bestCover_43 hl (by decide) rfl (fun ls hl => ?_)
          refine lv_iload hx hb dX1_bestCover_45 (lv_at hl 0 rfl) ?_
          refine lv_iload_n hx hb dX1_bestCover_47 rfl (lv_at hl 2 rfl) ?_
          refine lv_icmp_le (tgt := 57) hx hb dX1_bestCover_48 (by decide) (fun c_48 => ?_) (fun c_48 => ?_)
          · have e_1 : bcvN v n now y (j + 1) = bcvN v n now y j := bcv_le (by omega) c_33 c_48
            refine lv_iinc (v := nI (j + 1)) (lv' := [(4, .int (nI (j + 1))), (5, .int (nI (dkN v n now (nI j) y))), (3, .int (oI2 (bcvN v n now y j))), (2, .int (oI1 (bcvN v n now y j))), (0, .ref (ad 0)), (1, .int (nI y))]) hx hb dX1_bestCover_57 hl (k := 1) rfl (nI_inc _) (by decide) rfl (fun ls hl => ?_)
            refine lv_goto (tgt := 14) hx hb dX1_bestCover_60 (by decide) ?_
            exact ih_14 (j + 1) (by omega) (by omega) ls (by rw [e_1]; exact (lv_sub hl [0, 2, 3, 4, 5] rfl))
          · have e_1 : bcvN v n now y (j + 1) = some (j, dkN v n now (nI j) y) := bcv_gt (by omega) c_33 c_48
            refine lv_iload hx hb dX1_bestCover_51 (lv_at hl 0 rfl) ?_
            refine lv_istore_n (lv' := [(3, .int (nI (dkN v n now (nI j) y))), (5, .int (nI (dkN v n now (nI j) y))), (4, .int (nI j)), (2, .int (oI1 (bcvN v n now y j))), (0, .ref (ad 0)), (1, .int (nI y))]) hx hb dX1_bestCover_53 rfl hl (by decide) rfl (fun ls hl => ?_)
            refine lv_iload hx hb dX1_bestCover_54 (lv_at hl 2 rfl) ?_
            refine lv_istore_n (lv' := [(2, .int (nI j)), (3, .int (nI (dkN v n now (nI j) y))), (5, .int (nI (dkN v n now (nI j) y))), (4, .int (nI j)), (0, .ref (ad 0)), (1, .int (nI y))]) hx hb dX1_bestCover_56 rfl hl (by decide) rfl (fun ls hl => ?_)
            refine lv_iinc (v := nI (j + 1)) (lv' := [(4, .int (nI (j + 1))), (2, .int (nI j)), (3, .int (nI (dkN v n now (nI j) y))), (5, .int (nI (dkN v n now (nI j) y))), (0, .ref (ad 0)), (1, .int (nI y))]) hx hb dX1_bestCover_57 hl (k := 3) rfl (nI_inc _) (by decide) rfl (fun ls hl => ?_)
            refine lv_goto (tgt := 14) hx hb dX1_bestCover_60 (by decide) ?_
            exact ih_14 (j + 1) (by omega) (by omega) ls (by rw [e_1]; exact (lv_sub hl [0, 2, 1, 4, 5] rfl))
  exact loop_14 (n + 1) 0 (by omega) (Nat.zero_le _) ls (lv_sub hl [0, 1, 2, 3, 4] rfl)
set_option maxHeartbeats 4000000 in
set_option maxRecDepth 100000 in
/-- meanBeats -/
theorem c_X1_meanBeats (l : Launch) (D : va_G) (cI cZ cL cJ : ClassId) (ad : Nat → Nat) (n now : Nat) (told : Int32) (v : Nat → LV) (hwf : WFX n now v) : Met l yX1_meanBeats wsX1_meanBeats ({ frames := 0, cells := 0, slots := 0, locals := 0 } : Room) (PC D (TY cI cZ cL cJ) noA [.ref (ad 0)] (fun H => PX D cI cL ad n now told v H)) (QDb (meanF (btsN v n) n)) 0 0 (fun _ => False) := by
  refine Met.ofW (cc := cX1_meanBeats) (maxL := 3) (ret := (some .double)) (by decide) rfl ?_
  intro p e s m args below meth c s₁ B hml hv
  obtain ⟨rfl, hK, hE, hP0, hPL⟩ := hv
  obtain ⟨hn8, hnow, hwl⟩ := hwf
  have hx := B.exec
  have hb := B.bytes
  have hr := B.returns
  have hts := atoms_spec (ws := wsX1_meanBeats) B.pre
  have hown : s.vm.findClass RX1 = some m.cls := findClass_of_methodNamed B.named
  have hlocks := B.notSynchronized
  have hNF := hE.2.1.1
  have hin0 : ∀ w ∈ wsX00, w ∈ wsX1_meanBeats := by decide +kernel
  have hin1 : ∀ w ∈ wsX10, w ∈ wsX1_meanBeats := by decide +kernel
  have hl := lv_entry ([.ref (ad 0)]) (n := 3) (Nat.le_of_ble_eq_true rfl)
  rw [lg_entry_eq]
  generalize (lg_sl ([.ref (ad 0)]) ++ List.replicate (3 - (lg_sl ([.ref (ad 0)])).length) Slot.unset).toArray = ls at hl ⊢
  have hl : lv_has ls 3 [(0, .ref (ad 0))] := hl
  refine lv_aload_n hx hb dX1_meanBeats_0 rfl (lv_at hl 0 rfl) ?_
  refine va_get (D := D) (ci := 1) (v := .int (nI n)) (C := RX1) (T := TX1) (N := 5) hx hb hts hin1 hown hK hP0 0 rfl rfl 2 (by decide) (hts (.fieldLink RX1 20 "LanternPrimes" "lampCount" "I") (List.mem_of_getElem? (i := 1) rfl)) (fun _ h9 => h9) rfl dX1_meanBeats_1 ?_
  refine n_if_ne (a := n) (tgt := 9) hx hb (by omega) dX1_meanBeats_4 (by decide) (fun c_4 => ?_) (fun c_4 => ?_)
  · refine lv_iconst (v := nI 0) hx hb dX1_meanBeats_9 (by decide) ?_
    refine lv_istore_n (lv' := [(1, .int (nI 0)), (0, .ref (ad 0))]) hx hb dX1_meanBeats_10 rfl hl (by decide) rfl (fun ls hl => ?_)
    refine lv_iconst (v := nI 0) hx hb dX1_meanBeats_11 (by decide) ?_
    refine lv_istore_n (lv' := [(2, .int (nI 0)), (1, .int (nI 0)), (0, .ref (ad 0))]) hx hb dX1_meanBeats_12 rfl hl (by decide) rfl (fun ls hl => ?_)
    have loop_13 : ∀ (fu : Nat) (j : Nat), n + 1 - j ≤ fu → j ≤ n → ∀ (ls : Array Slot), lv_has ls 3 [(2, .int (nI j)), (1, .int (nI (btsN v j))), (0, .ref (ad 0))] → W p l e (headSpec wsX1_meanBeats ({ frames := 0, cells := 0, slots := 0, locals := 0 } : Room)).room s m [.ref (ad 0)].toArray below meth c s.heap [] 0 0 (MQ below (QDb (meanF (btsN v n) n)) [.ref (ad 0)].toArray s 0 0 (fun _ => False)) (F0 m 13 ls []) := by
      intro fu
      induction fu with
      | zero => intro j hn_13 hj; exact absurd hn_13 (by omega)
      | succ fu ih_13 =>
        intro j hn_13 hj ls hl
        refine lv_iload_n hx hb dX1_meanBeats_13 rfl (lv_at hl 0 rfl) ?_
        refine lv_aload_n hx hb dX1_meanBeats_14 rfl (lv_at hl 2 rfl) ?_
        refine va_get (D := D) (ci := 1) (v := .int (nI n)) (C := RX1) (T := TX1) (N := 5) hx hb hts hin1 hown hK hP0 0 rfl rfl 2 (by decide) (hts (.fieldLink RX1 20 "LanternPrimes" "lampCount" "I") (List.mem_of_getElem? (i := 1) rfl)) (fun _ h9 => h9) rfl dX1_meanBeats_15 ?_
        refine n_icmp_ge (a := j) (b := n) (tgt := 39) hx hb (by omega) (by omega) dX1_meanBeats_18 (by decide) (fun c_18 => ?_) (fun c_18 => ?_)
        · refine lv_iload_n hx hb dX1_meanBeats_39 rfl (lv_at hl 1 rfl) ?_
          refine lv_i2d hx hb dX1_meanBeats_40 ?_
          refine lv_aload_n hx hb dX1_meanBeats_41 rfl (lv_at hl 2 rfl) ?_
          refine va_get (D := D) (ci := 1) (v := .int (nI n)) (C := RX1) (T := TX1) (N := 5) hx hb hts hin1 hown hK hP0 0 rfl rfl 2 (by decide) (hts (.fieldLink RX1 20 "LanternPrimes" "lampCount" "I") (List.mem_of_getElem? (i := 1) rfl)) (fun _ h9 => h9) rfl dX1_meanBeats_42 ?_
          refine lv_i2d hx hb dX1_meanBeats_45 ?_
          refine lv_ddiv hx hb dX1_meanBeats_46 (meanOK (by have := btsN_le hwl j (by omega); omega) (by omega) (by omega)) ?_
          have e_9 : FP.ddiv (FP.i2d (nI (btsN v j))) (FP.i2d (nI n)) = meanF (btsN v n) n := (by unfold meanF; rw [if_neg c_4, show j = n by omega])
          rw [e_9]
          exact W.dret (v := meanF (btsN v n) n) hx hb hr (fun t ht hW => ⟨rfl, ht⟩) (fun _ h => by cases h) dX1_meanBeats_47
        · refine lv_iload_n hx hb dX1_meanBeats_21 rfl (lv_at hl 1 rfl) ?_
          refine lv_aload_n hx hb dX1_meanBeats_22 rfl (lv_at hl 2 rfl) ?_
          refine va_get (D := D) (ci := 1) (v := .ref (ad 1)) (C := RX1) (T := TX1) (N := 5) hx hb hts hin1 hown hK hP0 0 rfl rfl 0 (by decide) (hts (.fieldLink RX1 11 "LanternPrimes" "row" "[LLanternPrimes$Lamp;") (List.mem_of_getElem? (i := 2) rfl)) (fun _ h9 => h9) rfl dX1_meanBeats_23 ?_
          refine lv_iload_n hx hb dX1_meanBeats_26 rfl (lv_at hl 0 rfl) ?_
          refine n_aald (v := ad (2 + 3 * j)) (j := j) hx hb hK hP0 1 2 rfl rfl (by omega) (by decide) rfl dX1_meanBeats_27 ?_
          have hPj := hPL j (by omega)
          refine va_getN (D := D) (ci := 0) (v := .int (nI (lbc (v j)))) (C := RX0) (T := TX0) (N := 5) hx hb hts hin0 hown hK hPj 0 rfl rfl 2 (by decide) (va_Nw.use rfl (hNF _ (List.mem_of_getElem? (i := 1) rfl))) (fun _ h9 => h9) rfl dX1_meanBeats_28 ?_
          refine n_iadd (v := nI (btsN v (j + 1))) hx hb dX1_meanBeats_31 (nI_add _ _) ?_
          refine lv_istore_n (lv' := [(1, .int (nI (btsN v (j + 1)))), (2, .int (nI j)), (0, .ref (ad 0))]) hx hb dX1_meanBeats_32 rfl hl (by decide) rfl (fun ls hl => ?_)
          refine lv_iinc (v := nI (j + 1)) (lv' := [(2, .int (nI (j + 1))), (1, .int (nI (btsN v (j + 1)))), (0, .ref (ad 0))]) hx hb dX1_meanBeats_33 hl (k := 1) rfl (nI_inc _) (by decide) rfl (fun ls hl => ?_)
          refine lv_goto (tgt := 13) hx hb dX1_meanBeats_36 (by decide) ?_
          exact ih_13 (j + 1) (by omega) (by omega) ls (lv_sub hl [0, 1, 2] rfl)
    exact loop_13 (n + 1) 0 (by omega) (Nat.zero_le _) ls (lv_sub hl [0, 1, 2] rfl)
  · refine lv_dconst0 hx hb dX1_meanBeats_7 ?_
    have e_9 : FP.dconst0 = meanF (btsN v n) n := (by unfold meanF; rw [if_pos c_4])
    rw [e_9]
    exact W.dret (v := meanF (btsN v n) n) hx hb hr (fun t ht hW => ⟨rfl, ht⟩) (fun _ h => by cases h) dX1_meanBeats_8
end
section
/-! what the class's writes need: which cells, apart; the picture behind them -/
def AX (ad : Nat → Nat) : Nat → Prop := fun q => ∃ i, i < 29 ∧ q = ad i
def AJ (ad : Nat → Nat) (j : Nat) : Nat → Prop := fun q => q ∈ [ad 0, ad (2 + 3 * j), ad (3 + 3 * j), ad (4 + 3 * j)]
def Inj (N : Nat) (ad : Nat → Nat) : Prop := ∀ i j, i < N → j < N → ad i = ad j → i = j
def updv (v : Nat → LV) (j : Nat) (L : LV) : Nat → LV := fun i => if i = j then L else v i
def setOn (L : LV) (b : Bool) : LV := (lbc L, lnu L, lof L, b, lcv L)
def setCv (L : LV) (b : Bool) : LV := (lbc L, lnu L, lof L, lon L, b)
def setOf (L : LV) (i o : Nat) : LV := (lbc L, lnu L, fun z => if z = i then o else lof L z, lon L, lcv L)
theorem Inj.ne {N : Nat} {ad : Nat → Nat} (h : Inj N ad) {i j : Nat} (hi : i < N) (hj : j < N) (hn : i ≠ j) : ad i ≠ ad j := fun e => hn (h i j hi hj e)
theorem AJ_AX {ad : Nat → Nat} {j : Nat} (hj : j < 9) : ∀ q, AJ ad j q → AX ad q := by
  intro q h
  simp only [AJ, List.mem_cons, List.not_mem_nil, or_false] at h
  rcases h with rfl | rfl | rfl | rfl
  · exact ⟨0, by omega, rfl⟩
  · exact ⟨2 + 3 * j, by omega, rfl⟩
  · exact ⟨3 + 3 * j, by omega, rfl⟩
  · exact ⟨4 + 3 * j, by omega, rfl⟩
theorem AJ_lp {ad : Nat → Nat} {j : Nat} : ∀ q, q ∈ [ad (2 + 3 * j), ad (3 + 3 * j), ad (4 + 3 * j)] → AJ ad j q := fun q h => List.mem_cons_of_mem _ h
theorem AJ_no {ad : Nat → Nat} {j i : Nat} (h : Inj 29 ad) (hj : j < 9) (hi : i < 29) (h0 : i ≠ 0) (h2 : i ≠ 2 + 3 * j) (h3 : i ≠ 3 + 3 * j) (h4 : i ≠ 4 + 3 * j) : ¬ AJ ad j (ad i) := by
  intro q
  simp only [AJ, List.mem_cons, List.not_mem_nil, or_false] at q
  rcases q with q | q | q | q
  · exact h0 (h _ _ hi (by omega) q)
  · exact h2 (h _ _ hi (by omega) q)
  · exact h3 (h _ _ hi (by omega) q)
  · exact h4 (h _ _ hi (by omega) q)
theorem vd4 {ad : Nat → Nat} {j : Nat} {x y z w : va_E} (h : Inj 29 ad) (hj : j < 9) : va_D (AJ ad j) [(ad 0, x), (ad (2 + 3 * j), y), (ad (3 + 3 * j), z), (ad (4 + 3 * j), w)] := by
  have n1 := h.ne (i := 0) (j := 2 + 3 * j) (by omega) (by omega) (by omega)
  have n2 := h.ne (i := 0) (j := 3 + 3 * j) (by omega) (by omega) (by omega)
  have n3 := h.ne (i := 0) (j := 4 + 3 * j) (by omega) (by omega) (by omega)
  have n4 := h.ne (i := 2 + 3 * j) (j := 3 + 3 * j) (by omega) (by omega) (by omega)
  have n5 := h.ne (i := 2 + 3 * j) (j := 4 + 3 * j) (by omega) (by omega) (by omega)
  have n6 := h.ne (i := 3 + 3 * j) (j := 4 + 3 * j) (by omega) (by omega) (by omega)
  exact vdN (ws := [(ad 0, x), (ad (2 + 3 * j), y), (ad (3 + 3 * j), z), (ad (4 + 3 * j), w)]) (by simp [n1, n2, n3, n4, n5, n6])
theorem lpN3 {ad : Nat → Nat} {j : Nat} (h : Inj 29 ad) (hj : j < 9) : ad (2 + 3 * j) ≠ ad (3 + 3 * j) ∧ ad (2 + 3 * j) ≠ ad (4 + 3 * j) ∧ ad (3 + 3 * j) ≠ ad (4 + 3 * j) :=
  ⟨h.ne (by omega) (by omega) (by omega), h.ne (by omega) (by omega) (by omega), h.ne (by omega) (by omega) (by omega)⟩
theorem va_F_mono {A B : Nat → Prop} {s t : State} (h : va_F A s t) (hAB : ∀ q, A q → B q) : va_F B s t := ⟨h.1, fun q h1 h2 => h.2 q h1 (fun z => h2 (hAB q z))⟩
theorem PX_end {D : va_G} {cI cL : ClassId} {ad : Nat → Nat} {n now n' now' : Nat} {told told' : Int32} {v : Nat → LV} {H0 H : Heap} {locs : List Loc} {L' : LV} (hinj : Inj 29 ad) {j : Nat} (hj : j < 9) (h0 : PX D cI cL ad n now told v H0)
    (hP : va_P D vwCl ((ad 0, .inr (1, [.ref (ad 1), .ref (ad 26), .int (nI n'), .int (nI now'), .int told'])) :: lampW cI (ad (2 + 3 * j)) (ad (3 + 3 * j)) (ad (4 + 3 * j)) L') H) (hS : va_S (AJ ad j) H0 H locs) :
    PX D cI cL ad n' now' told' (updv v j L') H := by
  obtain ⟨h1, h2⟩ := h0
  have hk : ∀ i, i < 29 → i ≠ 0 → i ≠ 2 + 3 * j → i ≠ 3 + 3 * j → i ≠ 4 + 3 * j → ∀ e, va_at D vwCl (ad i, e) H0 → va_at D vwCl (ad i, e) H := fun i a b c d e' e h => h.kept (hS.2.1 _ h.lt (AJ_no hinj hj a b c d e'))
  refine ⟨vpc (hP 0 _ rfl) (vp1 (hk 1 (by omega) (by omega) (by omega) (by omega) (by omega) _ (h1 1 _ rfl))), fun i hi => ?_⟩
  by_cases e : i = j
  · subst e
    show va_P D vwCl (lampW cI (ad (2 + 3 * i)) (ad (3 + 3 * i)) (ad (4 + 3 * i)) (updv v i L' i)) H
    rw [show updv v i L' i = L' from if_pos rfl]
    exact fun k q hq => hP (k + 1) q hq
  · show va_P D vwCl (lampW cI (ad (2 + 3 * i)) (ad (3 + 3 * i)) (ad (4 + 3 * i)) (updv v j L' i)) H
    rw [show updv v j L' i = v i from if_neg e]
    have h3 := h2 i hi
    exact vpc (hk (2 + 3 * i) (by omega) (by omega) (by omega) (by omega) (by omega) _ (h3 0 _ rfl)) (vpc (hk (3 + 3 * i) (by omega) (by omega) (by omega) (by omega) (by omega) _ (h3 1 _ rfl)) (vp1 (hk (4 + 3 * i) (by omega) (by omega) (by omega) (by omega) (by omega) _ (h3 2 _ rfl))))
theorem addL_wf {k : Nat} {L : LV} {n o : Nat} (h : WFL k L) (hk : lbc L < k) (hp : isP n) (ho : o < n) : WFL k (addL L n o) := by
  refine ⟨hk, fun i hi => ?_⟩
  show isP (if i = lbc L then n else lnu L i) ∧ (if i = lbc L then o else lof L i) < (if i = lbc L then n else lnu L i)
  by_cases e : i = lbc L
  · rw [if_pos e, if_pos e]; exact ⟨hp, ho⟩
  · rw [if_neg e, if_neg e]
    have hi' : i < lbc L + 1 := hi
    exact h.2 i (by omega)
theorem appK_wf {m : Nat} {L O : LV} (hL : WFL m L) (hO : WFL m O) : ∀ k, k ≤ lbc O → lbc L + k ≤ m → WFL m (appK L O k)
  | 0, _, _ => hL
  | k + 1, hk, hm => by
    have ih := appK_wf hL hO k (by omega) (by omega)
    have := hO.2 k (by omega)
    exact addL_wf ih (by rw [appK_bc]; omega) this.1 this.2
theorem diffL_wf {Z A B : LV} (hA : WFL 4 A) (hB : WFL 4 B) : WFL 8 (diffL Z A B) := by
  have h1 : WFL 8 ((0, lnu Z, lof Z, lon A != lon B, lcv Z) : LV) := ⟨Nat.zero_le _, fun i hi => absurd hi (Nat.not_lt_zero i)⟩
  have hA4 := hA.1
  have hB4 := hB.1
  have h2 := appK_wf h1 hA.up (lbc A) (Nat.le_refl _) (by show 0 + lbc A ≤ 8; omega)
  exact appK_wf h2 hB.up (lbc B) (Nat.le_refl _) (by rw [appK_bc]; show 0 + lbc A + lbc B ≤ 8; omega)
def tldI (v : Nat → LV) (i j now : Nat) : Int32 := if onB (diffL (v 8) (v i) (v j)) now = true then nI 0 else untC (diffL (v 8) (v i) (v j)) now
def psN (v : Nat → LV) (n now k : Nat) : Nat := smN (fun s => chgN v n (now + (s + 1))) k
theorem psN_le (v : Nat → LV) {n : Nat} (hn : n ≤ 8) (now k : Nat) : psN v n now k ≤ k * 8 := smN_le (fun i => Nat.le_trans (cnt_le _ _) hn) k
theorem NUMf_lt (z : Nat) : NUMf z ≤ 13 := by
  unfold NUMf
  split <;> decide
theorem A0_AX {ad : Nat → Nat} : ∀ q, q ∈ [ad 0] → AX ad q := fun q h => by
  rw [List.mem_singleton.mp h]
  exact ⟨0, by omega, rfl⟩
theorem PX_now {D : va_G} {cI cL : ClassId} {ad : Nat → Nat} {n now n' now' : Nat} {told told' : Int32} {v : Nat → LV} {H0 H : Heap} {locs : List Loc} (hinj : Inj 29 ad) (h0 : PX D cI cL ad n now told v H0)
    (hP : va_P D vwCl [(ad 0, .inr (1, [.ref (ad 1), .ref (ad 26), .int (nI n'), .int (nI now'), .int told']))] H) (hS : va_S (fun q => q ∈ [ad 0]) H0 H locs) : PX D cI cL ad n' now' told' v H := by
  obtain ⟨h1, h2⟩ := h0
  have hk : ∀ i, i < 29 → i ≠ 0 → ∀ e, va_at D vwCl (ad i, e) H0 → va_at D vwCl (ad i, e) H := fun i hi h0 e h => h.kept (hS.2.1 _ h.lt (fun z => (hinj.ne hi (by omega) h0) (List.mem_singleton.mp z)))
  refine ⟨vpc (hP 0 _ rfl) (vp1 (hk 1 (by omega) (by omega) _ (h1 1 _ rfl))), fun i hi => ?_⟩
  have h3 := h2 i hi
  exact vpc (hk (2 + 3 * i) (by omega) (by omega) _ (h3 0 _ rfl)) (vpc (hk (3 + 3 * i) (by omega) (by omega) _ (h3 1 _ rfl)) (vp1 (hk (4 + 3 * i) (by omega) (by omega) _ (h3 2 _ rfl))))
theorem no8 {ad : Nat → Nat} (h : Inj 29 ad) {i : Nat} (hi : i < 8) : ∀ x ∈ [ad (2 + 3 * i), ad (3 + 3 * i), ad (4 + 3 * i)], ¬ x ∈ [ad 26, ad 27, ad 28] := by
  have key : ∀ a, 2 ≤ a → a < 26 → ¬ ad a ∈ [ad 26, ad 27, ad 28] := by
    intro a h2 h26 q
    simp only [List.mem_cons, List.not_mem_nil, or_false] at q
    rcases q with q | q | q
    · exact absurd (h _ _ (by omega) (by omega) q) (by omega)
    · exact absurd (h _ _ (by omega) (by omega) q) (by omega)
    · exact absurd (h _ _ (by omega) (by omega) q) (by omega)
  intro x hx
  simp only [List.mem_cons, List.not_mem_nil, or_false] at hx
  rcases hx with rfl | rfl | rfl
  · exact key _ (by omega) (by omega)
  · exact key _ (by omega) (by omega)
  · exact key _ (by omega) (by omega)
end
section
set_option maxHeartbeats 4000000 in
set_option maxRecDepth 100000 in
/-- addLamp -/
theorem c_X1_addLamp (l : Launch) (D : va_G) (cI cZ cL cJ : ClassId) (hst : l.stackTraces = false) (ad : Nat → Nat) (n now : Nat) (told : Int32) (v : Nat → LV) (hwf : WFX n now v) (hinj : Inj 29 ad) (b : Bool) : vx_Met l yX1_addLamp wsX1_addLamp ({ frames := 6, cells := 1, slots := 6, locals := 90 } : Room) (PC D (TY cI cZ cL cJ) (AX ad) [.ref (ad 0), .int (bI b)] (fun H => PX D cI cL ad n now told v H)) (QW (AX ad) (cd1 (decide (n < 8)) = 0) (nI n) (PX D cI cL ad (n + 1) now told (updv v n (setOn (v n) b)))) (XC1 (fun E => exC [tISE] (cd1 (decide (n < 8))) E)) 1 6 (AX ad) := by
  refine vx_ofW (cc := cX1_addLamp) (maxL := 2) (ret := (some .int)) (by decide) rfl ?_
  intro p e s m args below meth c s₁ B hml hex hv
  obtain ⟨rfl, hK, hEA, hP0, hPL⟩ := hv
  obtain ⟨hn8, hnow, hwl⟩ := hwf
  have hE : EN noA s s.heap := hEA.narrow (fun _ h => h.elim)
  have hx := B.exec
  have hb := B.bytes
  have hr := B.returns
  have hts := atoms_spec (ws := wsX1_addLamp) B.pre
  have hown : s.vm.findClass RX1 = some m.cls := findClass_of_methodNamed B.named
  have hlocks := B.notSynchronized
  have hNF := hE.2.1.1
  have hin0 : ∀ w ∈ wsX00, w ∈ wsX1_addLamp := by decide +kernel
  have hin1 : ∀ w ∈ wsX10, w ∈ wsX1_addLamp := by decide +kernel
  have hl := lv_entry ([.ref (ad 0), .int (bI b)]) (n := 2) (Nat.le_of_ble_eq_true rfl)
  rw [lg_entry_eq]
  generalize (lg_sl ([.ref (ad 0), .int (bI b)]) ++ List.replicate (2 - (lg_sl ([.ref (ad 0), .int (bI b)])).length) Slot.unset).toArray = ls at hl ⊢
  have hl : lv_has ls 2 [(0, .ref (ad 0)), (1, .int (bI b))] := hl
  refine lv_aload_n hx hb dX1_addLamp_0 rfl (lv_at hl 0 rfl) ?_
  refine va_get (D := D) (ci := 1) (v := .int (nI n)) (C := RX1) (T := TX1) (N := 5) hx hb hts hin1 hown hK hP0 0 rfl rfl 2 (by decide) (hts (.fieldLink RX1 20 "LanternPrimes" "lampCount" "I") (List.mem_of_getElem? (i := 3) rfl)) (fun _ h9 => h9) rfl dX1_addLamp_1 ?_
  refine lv_bipush (v := nI 8) hx hb dX1_addLamp_4 (by decide) ?_
  refine n_icmp_lt (a := n) (b := 8) (tgt := 19) hx hb (by omega) (by omega) dX1_addLamp_6 (by decide) (fun c_6 => ?_) (fun c_6 => ?_)
  · refine lv_aload_n hx hb dX1_addLamp_19 rfl (lv_at hl 0 rfl) ?_
    refine va_get (D := D) (ci := 1) (v := .ref (ad 1)) (C := RX1) (T := TX1) (N := 5) hx hb hts hin1 hown hK hP0 0 rfl rfl 0 (by decide) (hts (.fieldLink RX1 11 "LanternPrimes" "row" "[LLanternPrimes$Lamp;") (List.mem_of_getElem? (i := 4) rfl)) (fun _ h9 => h9) rfl dX1_addLamp_20 ?_
    refine lv_aload_n hx hb dX1_addLamp_23 rfl (lv_at hl 0 rfl) ?_
    refine va_get (D := D) (ci := 1) (v := .int (nI n)) (C := RX1) (T := TX1) (N := 5) hx hb hts hin1 hown hK hP0 0 rfl rfl 2 (by decide) (hts (.fieldLink RX1 20 "LanternPrimes" "lampCount" "I") (List.mem_of_getElem? (i := 3) rfl)) (fun _ h9 => h9) rfl dX1_addLamp_24 ?_
    refine n_aald (v := ad (2 + 3 * n)) (j := n) hx hb hK hP0 1 2 rfl rfl (by omega) (by decide) rfl dX1_addLamp_27 ?_
    have hP : va_P D vwCl [(ad 0, .inr (1, [.ref (ad 1), .ref (ad 26), .int (nI n), .int (nI now), .int told])), (ad (2 + 3 * n), .inr (0, [.ref (ad (3 + 3 * n)), .ref (ad (4 + 3 * n)), .int (nI (lbc (v n))), .int (bI (lon (v n))), .int (bI (lcv (v n)))])), (ad (3 + 3 * n), .inl (cI, 8, .inl (fun i => nI (lnu (v n) i)))), (ad (4 + 3 * n), .inl (cI, 8, .inl (fun i => nI (lof (v n) i))))] s.heap := vpc (hP0 0 _ rfl) (hPL n (by omega))
    have hD : va_D (AJ ad n) [(ad 0, .inr (1, [.ref (ad 1), .ref (ad 26), .int (nI n), .int (nI now), .int told])), (ad (2 + 3 * n), .inr (0, [.ref (ad (3 + 3 * n)), .ref (ad (4 + 3 * n)), .int (nI (lbc (v n))), .int (bI (lon (v n))), .int (bI (lcv (v n)))])), (ad (3 + 3 * n), .inl (cI, 8, .inl (fun i => nI (lnu (v n) i)))), (ad (4 + 3 * n), .inl (cI, 8, .inl (fun i => nI (lof (v n) i))))] := vd4 hinj (by omega)
    have hS : va_S (AJ ad n) s.heap s.heap [] := va_S.rf
    refine lv_iload_n hx hb dX1_addLamp_28 rfl (lv_at hl 1 rfl) ?_
    refine va_putN (D := D) (ci := 0) (v := .int (bI b)) (ty := .boolean) (C := RX0) (T := TX0) (N := 5) hx hb hts hin0 tyX0 tyX0_ok nmX0 hown hK hP hD hS 1 rfl rfl 3 (by decide) (va_Nw.use rfl (hNF _ (List.mem_of_getElem? (i := 0) rfl))) (fun _ h9 => h9) rfl (by decide +kernel) (bI_narrow _) (bI_fits _) (Nat.le_of_ble_eq_true rfl) dX1_addLamp_29 (fun H locs hP hD hS => ?_)
    have hP : va_P D vwCl [(ad 0, .inr (1, [.ref (ad 1), .ref (ad 26), .int (nI n), .int (nI now), .int told])), (ad (2 + 3 * n), .inr (0, [.ref (ad (3 + 3 * n)), .ref (ad (4 + 3 * n)), .int (nI (lbc (v n))), .int (bI b), .int (bI (lcv (v n)))])), (ad (3 + 3 * n), .inl (cI, 8, .inl (fun i => nI (lnu (v n) i)))), (ad (4 + 3 * n), .inl (cI, 8, .inl (fun i => nI (lof (v n) i))))] H := hP
    have hD : va_D (AJ ad n) [(ad 0, .inr (1, [.ref (ad 1), .ref (ad 26), .int (nI n), .int (nI now), .int told])), (ad (2 + 3 * n), .inr (0, [.ref (ad (3 + 3 * n)), .ref (ad (4 + 3 * n)), .int (nI (lbc (v n))), .int (bI b), .int (bI (lcv (v n)))])), (ad (3 + 3 * n), .inl (cI, 8, .inl (fun i => nI (lnu (v n) i)))), (ad (4 + 3 * n), .inl (cI, 8, .inl (fun i => nI (lof (v n) i))))] := hD
    refine lv_aload_n hx hb dX1_addLamp_32 rfl (lv_at hl 0 rfl) ?_
    refine lv_dup hx hb dX1_addLamp_33 rfl ?_
    refine va_get (D := D) (ci := 1) (v := .int (nI n)) (C := RX1) (T := TX1) (N := 5) hx hb hts hin1 hown hK hP 0 rfl rfl 2 (by decide) (hts (.fieldLink RX1 20 "LanternPrimes" "lampCount" "I") (List.mem_of_getElem? (i := 3) rfl)) (fun _ h9 => h9) rfl dX1_addLamp_34 ?_
    refine lv_iconst (v := nI 1) hx hb dX1_addLamp_37 (by decide) ?_
    refine n_iadd (v := nI (n + 1)) hx hb dX1_addLamp_38 (nI_add _ _) ?_
    refine va_put (D := D) (ci := 1) (v := .int (nI (n + 1))) (ty := .int) (C := RX1) (T := TX1) (N := 5) hx hb hts hin1 tyX1 tyX1_ok nmX1 hown hK hP hD hS 0 rfl rfl 2 (by decide) (hts (.fieldLink RX1 20 "LanternPrimes" "lampCount" "I") (List.mem_of_getElem? (i := 3) rfl)) (fun _ h9 => h9) rfl (by decide +kernel) rfl rfl (Nat.le_of_ble_eq_true rfl) dX1_addLamp_39 (fun H locs hP hD hS => ?_)
    have hP : va_P D vwCl [(ad 0, .inr (1, [.ref (ad 1), .ref (ad 26), .int (nI (n + 1)), .int (nI now), .int told])), (ad (2 + 3 * n), .inr (0, [.ref (ad (3 + 3 * n)), .ref (ad (4 + 3 * n)), .int (nI (lbc (v n))), .int (bI b), .int (bI (lcv (v n)))])), (ad (3 + 3 * n), .inl (cI, 8, .inl (fun i => nI (lnu (v n) i)))), (ad (4 + 3 * n), .inl (cI, 8, .inl (fun i => nI (lof (v n) i))))] H := hP
    have hD : va_D (AJ ad n) [(ad 0, .inr (1, [.ref (ad 1), .ref (ad 26), .int (nI (n + 1)), .int (nI now), .int told])), (ad (2 + 3 * n), .inr (0, [.ref (ad (3 + 3 * n)), .ref (ad (4 + 3 * n)), .int (nI (lbc (v n))), .int (bI b), .int (bI (lcv (v n)))])), (ad (3 + 3 * n), .inl (cI, 8, .inl (fun i => nI (lnu (v n) i)))), (ad (4 + 3 * n), .inl (cI, 8, .inl (fun i => nI (lof (v n) i))))] := hD
    refine lv_aload_n hx hb dX1_addLamp_42 rfl (lv_at hl 0 rfl) ?_
    refine va_get (D := D) (ci := 1) (v := .int (nI (n + 1))) (C := RX1) (T := TX1) (N := 5) hx hb hts hin1 hown hK hP 0 rfl rfl 2 (by decide) (hts (.fieldLink RX1 20 "LanternPrimes" "lampCount" "I") (List.mem_of_getElem? (i := 3) rfl)) (fun _ h9 => h9) rfl dX1_addLamp_43 ?_
    refine lv_iconst (v := nI 1) hx hb dX1_addLamp_46 (by decide) ?_
    refine n_isub (v := nI ((n + 1) - 1)) hx hb dX1_addLamp_47 (pk_sub (by omega)) ?_
    refine n_ti (y := nI n) (by rw [Nat.add_sub_cancel]) ?_
    refine vx_ret ?_
    refine W.widen (k := 1) (n := 6) (Nat.le_of_ble_eq_true rfl) (Nat.le_of_ble_eq_true rfl) ?_
    exact W.iret (v := nI n) hx hb hr (fun t ht hW => ⟨(cd1_t (decide_eq_true c_6)), rfl, by rw [ht]; exact PX_end hinj (by omega) ⟨hP0, hPL⟩ hP hS, va_F_mono (hS.F ht) (AJ_AX (by omega))⟩) (fun q hq => (AJ_AX (by omega)) q.base (hS.2.2 q hq)) dX1_addLamp_48
  · exact xthrow xISE fISE gISE nISE hx hb hst hown (hts (.classLink RX1 24 "java/lang/IllegalStateException") (List.mem_of_getElem? (i := 1) rfl)) (hts (.initialized "java/lang/IllegalStateException") (List.mem_of_getElem? (i := 2) rfl)) (List.mem_of_getElem? (i := 0) rfl) (fun w h => hts w (List.mem_cons_of_mem _ (List.mem_append_right _ h))) hE (hl.1.trans hml.symm) dX1_addLamp_9 dX1_addLamp_12 dX1_addLamp_13 dX1_addLamp_15 dX1_addLamp_18 hex (Nat.le_of_ble_eq_true rfl) (Nat.le_of_ble_eq_true rfl) (Nat.le_of_ble_eq_true rfl) (Nat.le_of_ble_eq_true rfl) hlocks (ex1 (decide_eq_false (by omega))) (Nat.le_of_ble_eq_true rfl) (Nat.le_of_ble_eq_true rfl)
set_option maxHeartbeats 4000000 in
set_option maxRecDepth 100000 in
/-- addBeat -/
theorem c_X1_addBeat (l : Launch) (D : va_G) (cI cZ cL cJ : ClassId) (hst : l.stackTraces = false) (ad : Nat → Nat) (n now : Nat) (told : Int32) (v : Nat → LV) (hwf : WFX n now v) (hinj : Inj 29 ad) (k x o : Int32) : vx_Met l yX1_addBeat wsX1_addBeat ({ frames := 7, cells := 4, slots := 24, locals := 106 } : Room) (PC D (TY cI cZ cL cJ) (AX ad) [.ref (ad 0), .int k, .int x, .int o] (fun H => PX D cI cL ad n now told v H)) (QW (AX ad) (cd3 (lpOk n k) (prB x && rgOk o x) (decide (lbc (v (ixx k)) < 4)) = 0) (nI (lbc (v (ixx k)))) (PX D cI cL ad n now told (updv v (ixx k) (addL (v (ixx k)) (ixx x) (ixx o))))) (XC1 (fun E => exC [tIOB, tIAE, tISE] (cd3 (lpOk n k) (prB x && rgOk o x) (decide (lbc (v (ixx k)) < 4))) E)) 4 24 (AX ad) := by
  refine vx_ofW (cc := cX1_addBeat) (maxL := 5) (ret := (some .int)) (by decide) rfl ?_
  intro p e s m args below meth c s₁ B hml hex hv
  obtain ⟨rfl, hK, hEA, hP0, hPL⟩ := hv
  obtain ⟨hn8, hnow, hwl⟩ := hwf
  have hE : EN noA s s.heap := hEA.narrow (fun _ h => h.elim)
  have hx := B.exec
  have hb := B.bytes
  have hr := B.returns
  have hts := atoms_spec (ws := wsX1_addBeat) B.pre
  have hown : s.vm.findClass RX1 = some m.cls := findClass_of_methodNamed B.named
  have hlocks := B.notSynchronized
  have hNF := hE.2.1.1
  have hin0 : ∀ w ∈ wsX00, w ∈ wsX1_addBeat := by decide +kernel
  have hin1 : ∀ w ∈ wsX10, w ∈ wsX1_addBeat := by decide +kernel
  have hl := lv_entry ([.ref (ad 0), .int k, .int x, .int o]) (n := 5) (Nat.le_of_ble_eq_true rfl)
  rw [lg_entry_eq]
  generalize (lg_sl ([.ref (ad 0), .int k, .int x, .int o]) ++ List.replicate (5 - (lg_sl ([.ref (ad 0), .int k, .int x, .int o])).length) Slot.unset).toArray = ls at hl ⊢
  have hl : lv_has ls 5 [(0, .ref (ad 0)), (1, .int k), (2, .int x), (3, .int o)] := hl
  refine lv_aload_n hx hb dX1_addBeat_0 rfl (lv_at hl 0 rfl) ?_
  refine lv_iload_n hx hb dX1_addBeat_1 rfl (lv_at hl 1 rfl) ?_
  refine xVp (As := [.int k]) (rest := []) ⟨hx, hb, hml, hown, hts⟩ (c_X1_needLamp l D cI cZ cL cJ hst ad n now told v ⟨hn8, hnow, hwl⟩ k) (cwV 1 hts gX1_addBeat_X1_needLamp rfl rfl rfl (by decide +kernel) ⟨(Nat.le_of_ble_eq_true rfl), (Nat.le_of_ble_eq_true rfl)⟩) hK hE ⟨hP0, hPL⟩ (RC_of (q := (RX1, TX1, 5)) (ci := 1) hK rfl (vpa hP0 0 rfl)) rfl hl.1 rfl (Nat.le_of_ble_eq_true rfl) dX1_addBeat_2 ⟨(Nat.le_of_ble_eq_true rfl), (Nat.le_of_ble_eq_true rfl)⟩ hex hlocks (fun E h => by rw [h.1]; exact ex3a h.2) (Nat.le_of_ble_eq_true rfl) (Nat.le_of_ble_eq_true rfl) (fun hok => ?_)
  obtain ⟨j, hj, rfl⟩ := lpOk_j (by omega) hok
  refine lv_iload_n hx hb dX1_addBeat_5 rfl (lv_at hl 2 rfl) ?_
  refine xSp (As := [.int x]) (rest := []) ⟨hx, hb, hml, hown, hts⟩ (c_X1_needNumber l D cI cZ cL cJ hst x) (va_cwS 1 hts gX1_addBeat_X1_needNumber rfl rfl rfl (by decide +kernel) ⟨(Nat.le_of_ble_eq_true rfl), (Nat.le_of_ble_eq_true rfl)⟩) hK hE trivial rfl hl.1 rfl (Nat.le_of_ble_eq_true rfl) dX1_addBeat_6 ⟨(Nat.le_of_ble_eq_true rfl), (Nat.le_of_ble_eq_true rfl)⟩ hex hlocks (fun E h => by rw [h.1]; exact ex3b hok (and_f1 h.2)) (Nat.le_of_ble_eq_true rfl) (Nat.le_of_ble_eq_true rfl) (fun hok2 => ?_)
  obtain ⟨z, hz, rfl⟩ := prB_t.mp hok2
  have hz13 := isP_le (NUMf_P hz)
  refine lv_iload_n hx hb dX1_addBeat_9 rfl (lv_at hl 3 rfl) ?_
  refine lv_iload_n hx hb dX1_addBeat_10 rfl (lv_at hl 2 rfl) ?_
  refine xSp (As := [.int o, .int (nI (NUMf z))]) (rest := []) ⟨hx, hb, hml, hown, hts⟩ (c_X1_needOffset l D cI cZ cL cJ hst o (nI (NUMf z))) (va_cwS 2 hts gX1_addBeat_X1_needOffset rfl rfl rfl (by decide +kernel) ⟨(Nat.le_of_ble_eq_true rfl), (Nat.le_of_ble_eq_true rfl)⟩) hK hE trivial rfl hl.1 rfl (Nat.le_of_ble_eq_true rfl) dX1_addBeat_11 ⟨(Nat.le_of_ble_eq_true rfl), (Nat.le_of_ble_eq_true rfl)⟩ hex hlocks (fun E h => by rw [h.1]; exact ex3b hok (and_f2 h.2)) (Nat.le_of_ble_eq_true rfl) (Nat.le_of_ble_eq_true rfl) (fun hok3 => ?_)
  obtain ⟨y, hy, rfl⟩ := rgOk_j (by omega) hok3
  refine lv_aload_n hx hb dX1_addBeat_14 rfl (lv_at hl 0 rfl) ?_
  refine va_get (D := D) (ci := 1) (v := .ref (ad 1)) (C := RX1) (T := TX1) (N := 5) hx hb hts hin1 hown hK hP0 0 rfl rfl 0 (by decide) (hts (.fieldLink RX1 11 "LanternPrimes" "row" "[LLanternPrimes$Lamp;") (List.mem_of_getElem? (i := 3) rfl)) (fun _ h9 => h9) rfl dX1_addBeat_15 ?_
  refine lv_iload_n hx hb dX1_addBeat_18 rfl (lv_at hl 1 rfl) ?_
  refine n_aald (v := ad (2 + 3 * j)) (j := j) hx hb hK hP0 1 2 rfl rfl (by omega) (by decide) rfl dX1_addBeat_19 ?_
  have hP : va_P D vwCl [(ad 0, .inr (1, [.ref (ad 1), .ref (ad 26), .int (nI n), .int (nI now), .int told])), (ad (2 + 3 * j), .inr (0, [.ref (ad (3 + 3 * j)), .ref (ad (4 + 3 * j)), .int (nI (lbc (v j))), .int (bI (lon (v j))), .int (bI (lcv (v j)))])), (ad (3 + 3 * j), .inl (cI, 8, .inl (fun i => nI (lnu (v j) i)))), (ad (4 + 3 * j), .inl (cI, 8, .inl (fun i => nI (lof (v j) i))))] s.heap := vpc (hP0 0 _ rfl) (hPL j (by omega))
  have hD : va_D (AJ ad j) [(ad 0, .inr (1, [.ref (ad 1), .ref (ad 26), .int (nI n), .int (nI now), .int told])), (ad (2 + 3 * j), .inr (0, [.ref (ad (3 + 3 * j)), .ref (ad (4 + 3 * j)), .int (nI (lbc (v j))), .int (bI (lon (v j))), .int (bI (lcv (v j)))])), (ad (3 + 3 * j), .inl (cI, 8, .inl (fun i => nI (lnu (v j) i)))), (ad (4 + 3 * j), .inl (cI, 8, .inl (fun i => nI (lof (v j) i))))] := vd4 hinj (by omega)
  have hS : va_S (AJ ad j) s.heap s.heap [] := va_S.rf
  refine lv_astore (lv' := [(4, .ref (ad (2 + 3 * j))), (0, .ref (ad 0)), (1, .int (nI j)), (2, .int (nI (NUMf z))), (3, .int (nI y))]) hx hb dX1_addBeat_20 hl (by decide) rfl (fun ls hl => ?_)
  refine lv_aload hx hb dX1_addBeat_22 (lv_at hl 0 rfl) ?_
  refine va_getN (D := D) (ci := 0) (v := .int (nI (lbc (v j)))) (C := RX0) (T := TX0) (N := 5) hx hb hts hin0 hown hK hP 1 rfl rfl 2 (by decide) (va_Nw.use rfl (hNF _ (List.mem_of_getElem? (i := 1) rfl))) (fun _ h9 => h9) rfl dX1_addBeat_24 ?_
  refine lv_iconst (v := nI 4) hx hb dX1_addBeat_27 (by decide) ?_
  refine n_icmp_lt (a := lbc (v j)) (b := 4) (tgt := 41) hx hb (by have := (hwl j (by omega)).1; omega) (by omega) dX1_addBeat_28 (by decide) (fun c_28 => ?_) (fun c_28 => ?_)
  · refine lv_aload hx hb dX1_addBeat_41 (lv_at hl 0 rfl) ?_
    refine lv_iload_n hx hb dX1_addBeat_43 rfl (lv_at hl 3 rfl) ?_
    refine lv_iload_n hx hb dX1_addBeat_44 rfl (lv_at hl 4 rfl) ?_
    refine wVv (As := [.int (nI (NUMf z)), .int (nI y)]) (rest := []) ⟨hx, hb, hml, hown, hts⟩ (c_X0_append l D cI cZ cL cJ (ad (2 + 3 * j)) (ad (3 + 3 * j)) (ad (4 + 3 * j)) (v j) (lpN3 hinj (by omega)).1 (lpN3 hinj (by omega)).2.1 (lpN3 hinj (by omega)).2.2 (by omega) (NUMf z) y) (cwV 2 hts gX1_addBeat_X0_append rfl rfl rfl (by decide +kernel) ⟨(Nat.le_of_ble_eq_true rfl), (Nat.le_of_ble_eq_true rfl)⟩) hK ((hEA.narrow (AJ_AX (by omega))).narrow AJ_lp) (hPL j (by omega)) (RC_of (q := (RX0, TX0, 5)) (ci := 0) hK rfl (vpa (hPL j (by omega)) 0 rfl)) rfl hl.1 rfl (Nat.le_of_ble_eq_true rfl) dX1_addBeat_45 ⟨(Nat.le_of_ble_eq_true rfl), (Nat.le_of_ble_eq_true rfl)⟩ hS AJ_lp (fun H locs hQ _ hk hS => ?_)
    have hP : va_P D vwCl ((ad 0, .inr (1, [.ref (ad 1), .ref (ad 26), .int (nI n), .int (nI now), .int told])) :: lampW cI (ad (2 + 3 * j)) (ad (3 + 3 * j)) (ad (4 + 3 * j)) (addL (v j) (NUMf z) y)) H := vpc ((hP0 0 _ rfl).kept (hk _ (hP0 0 _ rfl).lt (fun z => by have := hinj.ne (i := 0) (j := 2 + 3 * j) (by omega) (by omega) (by omega); have := hinj.ne (i := 0) (j := 3 + 3 * j) (by omega) (by omega) (by omega); have := hinj.ne (i := 0) (j := 4 + 3 * j) (by omega) (by omega) (by omega); simp_all))) hQ
    refine lv_aload hx hb dX1_addBeat_48 (lv_at hl 0 rfl) ?_
    refine va_getN (D := D) (ci := 0) (v := .int (nI (lbc (addL (v j) (NUMf z) y)))) (C := RX0) (T := TX0) (N := 5) hx hb hts hin0 hown hK hP 1 rfl rfl 2 (by decide) (va_Nw.use rfl (hNF _ (List.mem_of_getElem? (i := 1) rfl))) (fun _ h9 => h9) rfl dX1_addBeat_50 ?_
    refine lv_iconst (v := nI 1) hx hb dX1_addBeat_53 (by decide) ?_
    refine n_isub (v := nI (lbc (v j))) hx hb dX1_addBeat_54 (by show nI (lbc (v j) + 1) - nI 1 = nI (lbc (v j)); rw [pk_sub (by omega), Nat.add_sub_cancel]) ?_
    refine n_ti (y := nI (lbc (v (ixx (nI j))))) (by rw [ixx_nI (by omega)]) ?_
    refine vx_ret ?_
    refine W.widen (k := 4) (n := 24) (Nat.le_of_ble_eq_true rfl) (Nat.le_of_ble_eq_true rfl) ?_
    exact W.iret (v := nI (lbc (v (ixx (nI j))))) hx hb hr (fun t ht hW => ⟨(cd3_t hok (and_t hok2 hok3) (by rw [ixx_nI (by omega)]; exact decide_eq_true c_28)), rfl, by rw [ht]; rw [ixx_nI (by omega), ixx_nI (by omega), ixx_nI (by omega)]; exact PX_end hinj (by omega) ⟨hP0, hPL⟩ hP hS, va_F_mono (hS.F ht) (AJ_AX (by omega))⟩) (fun q hq => (AJ_AX (by omega)) q.base (hS.2.2 q hq)) dX1_addBeat_55
  · exact xthrow xISE fISE gISE nISE hx hb hst hown (hts (.classLink RX1 24 "java/lang/IllegalStateException") (List.mem_of_getElem? (i := 1) rfl)) (hts (.initialized "java/lang/IllegalStateException") (List.mem_of_getElem? (i := 2) rfl)) (List.mem_of_getElem? (i := 1) rfl) (fun w h => hts w (List.mem_cons_of_mem _ (List.mem_append_left _ (List.mem_append_left _ (List.mem_append_right _ h))))) hE (hl.1.trans hml.symm) dX1_addBeat_31 dX1_addBeat_34 dX1_addBeat_35 dX1_addBeat_37 dX1_addBeat_40 hex (Nat.le_of_ble_eq_true rfl) (Nat.le_of_ble_eq_true rfl) (Nat.le_of_ble_eq_true rfl) (Nat.le_of_ble_eq_true rfl) hlocks (ex3c hok (and_t hok2 hok3) (by rw [ixx_nI (by omega)]; exact decide_eq_false (by omega))) (Nat.le_of_ble_eq_true rfl) (Nat.le_of_ble_eq_true rfl)
set_option maxHeartbeats 4000000 in
set_option maxRecDepth 100000 in
/-- moveBeat -/
theorem c_X1_moveBeat (l : Launch) (D : va_G) (cI cZ cL cJ : ClassId) (hst : l.stackTraces = false) (ad : Nat → Nat) (n now : Nat) (told : Int32) (v : Nat → LV) (hwf : WFX n now v) (hinj : Inj 29 ad) (k b o : Int32) : vx_Met l yX1_moveBeat wsX1_moveBeat ({ frames := 8, cells := 3, slots := 18, locals := 125 } : Room) (PC D (TY cI cZ cL cJ) (AX ad) [.ref (ad 0), .int k, .int b, .int o] (fun H => PX D cI cL ad n now told v H)) (QW (AX ad) (cd2 (btOk n v k b) (rgOk o (nI (lnu (v (ixx k)) (ixx b)))) = 0) (nI (lof (v (ixx k)) (ixx b))) (PX D cI cL ad n now told (updv v (ixx k) (setOf (v (ixx k)) (ixx b) (ixx o))))) (XC1 (fun E => exC [tIOB, tIAE] (cd2 (btOk n v k b) (rgOk o (nI (lnu (v (ixx k)) (ixx b))))) E)) 3 18 (AX ad) := by
  refine vx_ofW (cc := cX1_moveBeat) (maxL := 6) (ret := (some .int)) (by decide) rfl ?_
  intro p e s m args below meth c s₁ B hml hex hv
  obtain ⟨rfl, hK, hEA, hP0, hPL⟩ := hv
  obtain ⟨hn8, hnow, hwl⟩ := hwf
  have hE : EN noA s s.heap := hEA.narrow (fun _ h => h.elim)
  have hx := B.exec
  have hb := B.bytes
  have hr := B.returns
  have hts := atoms_spec (ws := wsX1_moveBeat) B.pre
  have hown : s.vm.findClass RX1 = some m.cls := findClass_of_methodNamed B.named
  have hlocks := B.notSynchronized
  have hNF := hE.2.1.1
  have hin0 : ∀ w ∈ wsX00, w ∈ wsX1_moveBeat := by decide +kernel
  have hin1 : ∀ w ∈ wsX10, w ∈ wsX1_moveBeat := by decide +kernel
  have hl := lv_entry ([.ref (ad 0), .int k, .int b, .int o]) (n := 6) (Nat.le_of_ble_eq_true rfl)
  rw [lg_entry_eq]
  generalize (lg_sl ([.ref (ad 0), .int k, .int b, .int o]) ++ List.replicate (6 - (lg_sl ([.ref (ad 0), .int k, .int b, .int o])).length) Slot.unset).toArray = ls at hl ⊢
  have hl : lv_has ls 6 [(0, .ref (ad 0)), (1, .int k), (2, .int b), (3, .int o)] := hl
  refine lv_aload_n hx hb dX1_moveBeat_0 rfl (lv_at hl 0 rfl) ?_
  refine lv_iload_n hx hb dX1_moveBeat_1 rfl (lv_at hl 1 rfl) ?_
  refine lv_iload_n hx hb dX1_moveBeat_2 rfl (lv_at hl 2 rfl) ?_
  refine xVp (As := [.int k, .int b]) (rest := []) ⟨hx, hb, hml, hown, hts⟩ (c_X1_needBeat l D cI cZ cL cJ hst ad n now told v ⟨hn8, hnow, hwl⟩ k b) (cwV 2 hts gX1_moveBeat_X1_needBeat rfl rfl rfl (by decide +kernel) ⟨(Nat.le_of_ble_eq_true rfl), (Nat.le_of_ble_eq_true rfl)⟩) hK hE ⟨hP0, hPL⟩ (RC_of (q := (RX1, TX1, 5)) (ci := 1) hK rfl (vpa hP0 0 rfl)) rfl hl.1 rfl (Nat.le_of_ble_eq_true rfl) dX1_moveBeat_3 ⟨(Nat.le_of_ble_eq_true rfl), (Nat.le_of_ble_eq_true rfl)⟩ hex hlocks (fun E h => by rw [h.1]; exact ex2a h.2) (Nat.le_of_ble_eq_true rfl) (Nat.le_of_ble_eq_true rfl) (fun hok => ?_)
  obtain ⟨j, i, hj, hi, rfl, rfl⟩ := btOk_j hn8 hwl hok
  have hw4 := (hwl j (by omega)).1
  refine lv_aload_n hx hb dX1_moveBeat_6 rfl (lv_at hl 0 rfl) ?_
  refine va_get (D := D) (ci := 1) (v := .ref (ad 1)) (C := RX1) (T := TX1) (N := 5) hx hb hts hin1 hown hK hP0 0 rfl rfl 0 (by decide) (hts (.fieldLink RX1 11 "LanternPrimes" "row" "[LLanternPrimes$Lamp;") (List.mem_of_getElem? (i := 1) rfl)) (fun _ h9 => h9) rfl dX1_moveBeat_7 ?_
  refine lv_iload_n hx hb dX1_moveBeat_10 rfl (lv_at hl 1 rfl) ?_
  refine n_aald (v := ad (2 + 3 * j)) (j := j) hx hb hK hP0 1 2 rfl rfl (by omega) (by decide) rfl dX1_moveBeat_11 ?_
  have hP : va_P D vwCl [(ad 0, .inr (1, [.ref (ad 1), .ref (ad 26), .int (nI n), .int (nI now), .int told])), (ad (2 + 3 * j), .inr (0, [.ref (ad (3 + 3 * j)), .ref (ad (4 + 3 * j)), .int (nI (lbc (v j))), .int (bI (lon (v j))), .int (bI (lcv (v j)))])), (ad (3 + 3 * j), .inl (cI, 8, .inl (fun i => nI (lnu (v j) i)))), (ad (4 + 3 * j), .inl (cI, 8, .inl (fun i => nI (lof (v j) i))))] s.heap := vpc (hP0 0 _ rfl) (hPL j (by omega))
  have hD : va_D (AJ ad j) [(ad 0, .inr (1, [.ref (ad 1), .ref (ad 26), .int (nI n), .int (nI now), .int told])), (ad (2 + 3 * j), .inr (0, [.ref (ad (3 + 3 * j)), .ref (ad (4 + 3 * j)), .int (nI (lbc (v j))), .int (bI (lon (v j))), .int (bI (lcv (v j)))])), (ad (3 + 3 * j), .inl (cI, 8, .inl (fun i => nI (lnu (v j) i)))), (ad (4 + 3 * j), .inl (cI, 8, .inl (fun i => nI (lof (v j) i))))] := vd4 hinj (by omega)
  have hS : va_S (AJ ad j) s.heap s.heap [] := va_S.rf
  have hni := isP_le ((hwl j (by omega)).2 i hi).1
  have e_ix : lnu (v (ixx (nI j))) (ixx (nI i)) = lnu (v j) i := by rw [ixx_nI (by omega), ixx_nI (by omega)]
  refine lv_astore (lv' := [(4, .ref (ad (2 + 3 * j))), (0, .ref (ad 0)), (1, .int (nI j)), (2, .int (nI i)), (3, .int o)]) hx hb dX1_moveBeat_12 hl (by decide) rfl (fun ls hl => ?_)
  refine lv_iload_n hx hb dX1_moveBeat_14 rfl (lv_at hl 4 rfl) ?_
  refine lv_aload hx hb dX1_moveBeat_15 (lv_at hl 0 rfl) ?_
  refine va_getN (D := D) (ci := 0) (v := .ref (ad (3 + 3 * j))) (C := RX0) (T := TX0) (N := 5) hx hb hts hin0 hown hK hP 1 rfl rfl 0 (by decide) (va_Nw.use rfl (hNF _ (List.mem_of_getElem? (i := 2) rfl))) (fun _ h9 => h9) rfl dX1_moveBeat_17 ?_
  refine lv_iload_n hx hb dX1_moveBeat_20 rfl (lv_at hl 3 rfl) ?_
  refine n_iald (v := nI (lnu (v j) i)) (j := i) hx hb hK hP 2 0 rfl rfl (by omega) (by decide) rfl dX1_moveBeat_21 ?_
  refine xSp (As := [.int o, .int (nI (lnu (v j) i))]) (rest := []) ⟨hx, hb, hml, hown, hts⟩ (c_X1_needOffset l D cI cZ cL cJ hst o (nI (lnu (v j) i))) (va_cwS 2 hts gX1_moveBeat_X1_needOffset rfl rfl rfl (by decide +kernel) ⟨(Nat.le_of_ble_eq_true rfl), (Nat.le_of_ble_eq_true rfl)⟩) hK hE trivial rfl hl.1 rfl (Nat.le_of_ble_eq_true rfl) dX1_moveBeat_22 ⟨(Nat.le_of_ble_eq_true rfl), (Nat.le_of_ble_eq_true rfl)⟩ hex hlocks (fun E h => by rw [h.1]; exact ex2b hok (by rw [e_ix]; exact h.2)) (Nat.le_of_ble_eq_true rfl) (Nat.le_of_ble_eq_true rfl) (fun hok3 => ?_)
  obtain ⟨y, hy, rfl⟩ := rgOk_j (by omega) hok3
  refine lv_aload hx hb dX1_moveBeat_25 (lv_at hl 0 rfl) ?_
  refine va_getN (D := D) (ci := 0) (v := .ref (ad (4 + 3 * j))) (C := RX0) (T := TX0) (N := 5) hx hb hts hin0 hown hK hP 1 rfl rfl 1 (by decide) (va_Nw.use rfl (hNF _ (List.mem_of_getElem? (i := 3) rfl))) (fun _ h9 => h9) rfl dX1_moveBeat_27 ?_
  refine lv_iload_n hx hb dX1_moveBeat_30 rfl (lv_at hl 3 rfl) ?_
  refine n_iald (v := nI (lof (v j) i)) (j := i) hx hb hK hP 3 0 rfl rfl (by omega) (by decide) rfl dX1_moveBeat_31 ?_
  refine lv_istore (lv' := [(5, .int (nI (lof (v j) i))), (4, .ref (ad (2 + 3 * j))), (0, .ref (ad 0)), (1, .int (nI j)), (2, .int (nI i)), (3, .int (nI y))]) hx hb dX1_moveBeat_32 hl (by decide) rfl (fun ls hl => ?_)
  refine lv_aload hx hb dX1_moveBeat_34 (lv_at hl 1 rfl) ?_
  refine va_getN (D := D) (ci := 0) (v := .ref (ad (4 + 3 * j))) (C := RX0) (T := TX0) (N := 5) hx hb hts hin0 hown hK hP 1 rfl rfl 1 (by decide) (va_Nw.use rfl (hNF _ (List.mem_of_getElem? (i := 3) rfl))) (fun _ h9 => h9) rfl dX1_moveBeat_36 ?_
  refine lv_iload_n hx hb dX1_moveBeat_39 rfl (lv_at hl 4 rfl) ?_
  refine lv_iload_n hx hb dX1_moveBeat_40 rfl (lv_at hl 5 rfl) ?_
  refine n_iast (f' := fun z => nI (if z = i then y else lof (v j) z)) (j := i) hx hb hK hP hD hS 3 0 rfl rfl (by omega) (by decide) (updI _ _ _) dX1_moveBeat_41 (fun H locs hP hD hS => ?_)
  have hP : va_P D vwCl [(ad 0, .inr (1, [.ref (ad 1), .ref (ad 26), .int (nI n), .int (nI now), .int told])), (ad (2 + 3 * j), .inr (0, [.ref (ad (3 + 3 * j)), .ref (ad (4 + 3 * j)), .int (nI (lbc (v j))), .int (bI (lon (v j))), .int (bI (lcv (v j)))])), (ad (3 + 3 * j), .inl (cI, 8, .inl (fun i => nI (lnu (v j) i)))), (ad (4 + 3 * j), .inl (cI, 8, .inl (fun z => nI (if z = i then y else lof (v j) z))))] H := hP
  have hD : va_D (AJ ad j) [(ad 0, .inr (1, [.ref (ad 1), .ref (ad 26), .int (nI n), .int (nI now), .int told])), (ad (2 + 3 * j), .inr (0, [.ref (ad (3 + 3 * j)), .ref (ad (4 + 3 * j)), .int (nI (lbc (v j))), .int (bI (lon (v j))), .int (bI (lcv (v j)))])), (ad (3 + 3 * j), .inl (cI, 8, .inl (fun i => nI (lnu (v j) i)))), (ad (4 + 3 * j), .inl (cI, 8, .inl (fun z => nI (if z = i then y else lof (v j) z))))] := hD
  refine lv_iload hx hb dX1_moveBeat_42 (lv_at hl 0 rfl) ?_
  refine n_ti (y := nI (lof (v (ixx (nI j))) (ixx (nI i)))) (by rw [ixx_nI (by omega), ixx_nI (by omega)]) ?_
  refine vx_ret ?_
  refine W.widen (k := 3) (n := 18) (Nat.le_of_ble_eq_true rfl) (Nat.le_of_ble_eq_true rfl) ?_
  exact W.iret (v := nI (lof (v (ixx (nI j))) (ixx (nI i)))) hx hb hr (fun t ht hW => ⟨(cd2_t hok (by rw [e_ix]; exact hok3)), rfl, by rw [ht]; rw [ixx_nI (by omega), ixx_nI (by omega), ixx_nI (j := y) (by omega)]; exact PX_end hinj (by omega) ⟨hP0, hPL⟩ hP hS, va_F_mono (hS.F ht) (AJ_AX (by omega))⟩) (fun q hq => (AJ_AX (by omega)) q.base (hS.2.2 q hq)) dX1_moveBeat_44
set_option maxHeartbeats 4000000 in
set_option maxRecDepth 100000 in
/-- takeBeat -/
theorem c_X1_takeBeat (l : Launch) (D : va_G) (cI cZ cL cJ : ClassId) (hst : l.stackTraces = false) (ad : Nat → Nat) (n now : Nat) (told : Int32) (v : Nat → LV) (hwf : WFX n now v) (hinj : Inj 29 ad) (k b : Int32) : vx_Met l yX1_takeBeat wsX1_takeBeat ({ frames := 8, cells := 2, slots := 12, locals := 125 } : Room) (PC D (TY cI cZ cL cJ) (AX ad) [.ref (ad 0), .int k, .int b] (fun H => PX D cI cL ad n now told v H)) (QW (AX ad) (cd1 (btOk n v k b) = 0) (nI (lbc (v (ixx k)) - 1)) (PX D cI cL ad n now told (updv v (ixx k) (remL (v (ixx k)) (ixx b))))) (XC1 (fun E => exC [tIOB] (cd1 (btOk n v k b)) E)) 2 12 (AX ad) := by
  refine vx_ofW (cc := cX1_takeBeat) (maxL := 4) (ret := (some .int)) (by decide) rfl ?_
  intro p e s m args below meth c s₁ B hml hex hv
  obtain ⟨rfl, hK, hEA, hP0, hPL⟩ := hv
  obtain ⟨hn8, hnow, hwl⟩ := hwf
  have hE : EN noA s s.heap := hEA.narrow (fun _ h => h.elim)
  have hx := B.exec
  have hb := B.bytes
  have hr := B.returns
  have hts := atoms_spec (ws := wsX1_takeBeat) B.pre
  have hown : s.vm.findClass RX1 = some m.cls := findClass_of_methodNamed B.named
  have hlocks := B.notSynchronized
  have hNF := hE.2.1.1
  have hin0 : ∀ w ∈ wsX00, w ∈ wsX1_takeBeat := by decide +kernel
  have hin1 : ∀ w ∈ wsX10, w ∈ wsX1_takeBeat := by decide +kernel
  have hl := lv_entry ([.ref (ad 0), .int k, .int b]) (n := 4) (Nat.le_of_ble_eq_true rfl)
  rw [lg_entry_eq]
  generalize (lg_sl ([.ref (ad 0), .int k, .int b]) ++ List.replicate (4 - (lg_sl ([.ref (ad 0), .int k, .int b])).length) Slot.unset).toArray = ls at hl ⊢
  have hl : lv_has ls 4 [(0, .ref (ad 0)), (1, .int k), (2, .int b)] := hl
  refine lv_aload_n hx hb dX1_takeBeat_0 rfl (lv_at hl 0 rfl) ?_
  refine lv_iload_n hx hb dX1_takeBeat_1 rfl (lv_at hl 1 rfl) ?_
  refine lv_iload_n hx hb dX1_takeBeat_2 rfl (lv_at hl 2 rfl) ?_
  refine xVp (As := [.int k, .int b]) (rest := []) ⟨hx, hb, hml, hown, hts⟩ (c_X1_needBeat l D cI cZ cL cJ hst ad n now told v ⟨hn8, hnow, hwl⟩ k b) (cwV 2 hts gX1_takeBeat_X1_needBeat rfl rfl rfl (by decide +kernel) ⟨(Nat.le_of_ble_eq_true rfl), (Nat.le_of_ble_eq_true rfl)⟩) hK hE ⟨hP0, hPL⟩ (RC_of (q := (RX1, TX1, 5)) (ci := 1) hK rfl (vpa hP0 0 rfl)) rfl hl.1 rfl (Nat.le_of_ble_eq_true rfl) dX1_takeBeat_3 ⟨(Nat.le_of_ble_eq_true rfl), (Nat.le_of_ble_eq_true rfl)⟩ hex hlocks (fun E h => by rw [h.1]; exact ex1 h.2) (Nat.le_of_ble_eq_true rfl) (Nat.le_of_ble_eq_true rfl) (fun hok => ?_)
  obtain ⟨j, i, hj, hi, rfl, rfl⟩ := btOk_j hn8 hwl hok
  have hw4 := (hwl j (by omega)).1
  refine lv_aload_n hx hb dX1_takeBeat_6 rfl (lv_at hl 0 rfl) ?_
  refine va_get (D := D) (ci := 1) (v := .ref (ad 1)) (C := RX1) (T := TX1) (N := 5) hx hb hts hin1 hown hK hP0 0 rfl rfl 0 (by decide) (hts (.fieldLink RX1 11 "LanternPrimes" "row" "[LLanternPrimes$Lamp;") (List.mem_of_getElem? (i := 1) rfl)) (fun _ h9 => h9) rfl dX1_takeBeat_7 ?_
  refine lv_iload_n hx hb dX1_takeBeat_10 rfl (lv_at hl 1 rfl) ?_
  refine n_aald (v := ad (2 + 3 * j)) (j := j) hx hb hK hP0 1 2 rfl rfl (by omega) (by decide) rfl dX1_takeBeat_11 ?_
  have hP : va_P D vwCl [(ad 0, .inr (1, [.ref (ad 1), .ref (ad 26), .int (nI n), .int (nI now), .int told])), (ad (2 + 3 * j), .inr (0, [.ref (ad (3 + 3 * j)), .ref (ad (4 + 3 * j)), .int (nI (lbc (v j))), .int (bI (lon (v j))), .int (bI (lcv (v j)))])), (ad (3 + 3 * j), .inl (cI, 8, .inl (fun i => nI (lnu (v j) i)))), (ad (4 + 3 * j), .inl (cI, 8, .inl (fun i => nI (lof (v j) i))))] s.heap := vpc (hP0 0 _ rfl) (hPL j (by omega))
  have hD : va_D (AJ ad j) [(ad 0, .inr (1, [.ref (ad 1), .ref (ad 26), .int (nI n), .int (nI now), .int told])), (ad (2 + 3 * j), .inr (0, [.ref (ad (3 + 3 * j)), .ref (ad (4 + 3 * j)), .int (nI (lbc (v j))), .int (bI (lon (v j))), .int (bI (lcv (v j)))])), (ad (3 + 3 * j), .inl (cI, 8, .inl (fun i => nI (lnu (v j) i)))), (ad (4 + 3 * j), .inl (cI, 8, .inl (fun i => nI (lof (v j) i))))] := vd4 hinj (by omega)
  have hS : va_S (AJ ad j) s.heap s.heap [] := va_S.rf
  refine lv_astore_n (lv' := [(3, .ref (ad (2 + 3 * j))), (0, .ref (ad 0)), (1, .int (nI j)), (2, .int (nI i))]) hx hb dX1_takeBeat_12 rfl hl (by decide) rfl (fun ls hl => ?_)
  refine lv_aload_n hx hb dX1_takeBeat_13 rfl (lv_at hl 0 rfl) ?_
  refine lv_iload_n hx hb dX1_takeBeat_14 rfl (lv_at hl 3 rfl) ?_
  refine wVv (As := [.int (nI i)]) (rest := []) ⟨hx, hb, hml, hown, hts⟩ (c_X0_remove l D cI cZ cL cJ (ad (2 + 3 * j)) (ad (3 + 3 * j)) (ad (4 + 3 * j)) (v j) (lpN3 hinj (by omega)).1 (lpN3 hinj (by omega)).2.1 (lpN3 hinj (by omega)).2.2 (by omega) i hi) (cwV 1 hts gX1_takeBeat_X0_remove rfl rfl rfl (by decide +kernel) ⟨(Nat.le_of_ble_eq_true rfl), (Nat.le_of_ble_eq_true rfl)⟩) hK ((hEA.narrow (AJ_AX (by omega))).narrow AJ_lp) (hPL j (by omega)) (RC_of (q := (RX0, TX0, 5)) (ci := 0) hK rfl (vpa (hPL j (by omega)) 0 rfl)) rfl hl.1 rfl (Nat.le_of_ble_eq_true rfl) dX1_takeBeat_15 ⟨(Nat.le_of_ble_eq_true rfl), (Nat.le_of_ble_eq_true rfl)⟩ hS AJ_lp (fun H locs hQ _ hk hS => ?_)
  have hP : va_P D vwCl ((ad 0, .inr (1, [.ref (ad 1), .ref (ad 26), .int (nI n), .int (nI now), .int told])) :: lampW cI (ad (2 + 3 * j)) (ad (3 + 3 * j)) (ad (4 + 3 * j)) (remL (v j) i)) H := vpc ((hP0 0 _ rfl).kept (hk _ (hP0 0 _ rfl).lt (fun z => by have := hinj.ne (i := 0) (j := 2 + 3 * j) (by omega) (by omega) (by omega); have := hinj.ne (i := 0) (j := 3 + 3 * j) (by omega) (by omega) (by omega); have := hinj.ne (i := 0) (j := 4 + 3 * j) (by omega) (by omega) (by omega); simp_all))) hQ
  refine lv_aload_n hx hb dX1_takeBeat_18 rfl (lv_at hl 0 rfl) ?_
  refine va_getN (D := D) (ci := 0) (v := .int (nI (lbc (remL (v j) i)))) (C := RX0) (T := TX0) (N := 5) hx hb hts hin0 hown hK hP 1 rfl rfl 2 (by decide) (va_Nw.use rfl (hNF _ (List.mem_of_getElem? (i := 1) rfl))) (fun _ h9 => h9) rfl dX1_takeBeat_19 ?_
  refine n_ti (y := nI (lbc (v (ixx (nI j))) - 1)) (by rw [ixx_nI (by omega)]; rfl) ?_
  refine vx_ret ?_
  refine W.widen (k := 2) (n := 12) (Nat.le_of_ble_eq_true rfl) (Nat.le_of_ble_eq_true rfl) ?_
  exact W.iret (v := nI (lbc (v (ixx (nI j))) - 1)) hx hb hr (fun t ht hW => ⟨(cd1_t hok), rfl, by rw [ht]; rw [ixx_nI (by omega), ixx_nI (by omega)]; exact PX_end hinj (by omega) ⟨hP0, hPL⟩ hP hS, va_F_mono (hS.F ht) (AJ_AX (by omega))⟩) (fun q hq => (AJ_AX (by omega)) q.base (hS.2.2 q hq)) dX1_takeBeat_22
set_option maxHeartbeats 4000000 in
set_option maxRecDepth 100000 in
/-- turnShutter -/
theorem c_X1_turnShutter (l : Launch) (D : va_G) (cI cZ cL cJ : ClassId) (hst : l.stackTraces = false) (ad : Nat → Nat) (n now : Nat) (told : Int32) (v : Nat → LV) (hwf : WFX n now v) (hinj : Inj 29 ad) (k : Int32) : vx_Met l yX1_turnShutter wsX1_turnShutter ({ frames := 7, cells := 1, slots := 6, locals := 103 } : Room) (PC D (TY cI cZ cL cJ) (AX ad) [.ref (ad 0), .int k] (fun H => PX D cI cL ad n now told v H)) (QW (AX ad) (cd1 (lpOk n k) = 0) (bI (!(lcv (v (ixx k))))) (PX D cI cL ad n now told (updv v (ixx k) (setCv (v (ixx k)) (!(lcv (v (ixx k)))))))) (XC1 (fun E => exC [tIOB] (cd1 (lpOk n k)) E)) 1 6 (AX ad) := by
  refine vx_ofW (cc := cX1_turnShutter) (maxL := 3) (ret := (some .boolean)) (by decide) rfl ?_
  intro p e s m args below meth c s₁ B hml hex hv
  obtain ⟨rfl, hK, hEA, hP0, hPL⟩ := hv
  obtain ⟨hn8, hnow, hwl⟩ := hwf
  have hE : EN noA s s.heap := hEA.narrow (fun _ h => h.elim)
  have hx := B.exec
  have hb := B.bytes
  have hr := B.returns
  have hts := atoms_spec (ws := wsX1_turnShutter) B.pre
  have hown : s.vm.findClass RX1 = some m.cls := findClass_of_methodNamed B.named
  have hlocks := B.notSynchronized
  have hNF := hE.2.1.1
  have hin0 : ∀ w ∈ wsX00, w ∈ wsX1_turnShutter := by decide +kernel
  have hin1 : ∀ w ∈ wsX10, w ∈ wsX1_turnShutter := by decide +kernel
  have hl := lv_entry ([.ref (ad 0), .int k]) (n := 3) (Nat.le_of_ble_eq_true rfl)
  rw [lg_entry_eq]
  generalize (lg_sl ([.ref (ad 0), .int k]) ++ List.replicate (3 - (lg_sl ([.ref (ad 0), .int k])).length) Slot.unset).toArray = ls at hl ⊢
  have hl : lv_has ls 3 [(0, .ref (ad 0)), (1, .int k)] := hl
  refine lv_aload_n hx hb dX1_turnShutter_0 rfl (lv_at hl 0 rfl) ?_
  refine lv_iload_n hx hb dX1_turnShutter_1 rfl (lv_at hl 1 rfl) ?_
  refine xVp (As := [.int k]) (rest := []) ⟨hx, hb, hml, hown, hts⟩ (c_X1_needLamp l D cI cZ cL cJ hst ad n now told v ⟨hn8, hnow, hwl⟩ k) (cwV 1 hts gX1_turnShutter_X1_needLamp rfl rfl rfl (by decide +kernel) ⟨(Nat.le_of_ble_eq_true rfl), (Nat.le_of_ble_eq_true rfl)⟩) hK hE ⟨hP0, hPL⟩ (RC_of (q := (RX1, TX1, 5)) (ci := 1) hK rfl (vpa hP0 0 rfl)) rfl hl.1 rfl (Nat.le_of_ble_eq_true rfl) dX1_turnShutter_2 ⟨(Nat.le_of_ble_eq_true rfl), (Nat.le_of_ble_eq_true rfl)⟩ hex hlocks (fun E h => by rw [h.1]; exact ex1 h.2) (Nat.le_of_ble_eq_true rfl) (Nat.le_of_ble_eq_true rfl) (fun hok => ?_)
  obtain ⟨j, hj, rfl⟩ := lpOk_j (by omega) hok
  refine lv_aload_n hx hb dX1_turnShutter_5 rfl (lv_at hl 0 rfl) ?_
  refine va_get (D := D) (ci := 1) (v := .ref (ad 1)) (C := RX1) (T := TX1) (N := 5) hx hb hts hin1 hown hK hP0 0 rfl rfl 0 (by decide) (hts (.fieldLink RX1 11 "LanternPrimes" "row" "[LLanternPrimes$Lamp;") (List.mem_of_getElem? (i := 1) rfl)) (fun _ h9 => h9) rfl dX1_turnShutter_6 ?_
  refine lv_iload_n hx hb dX1_turnShutter_9 rfl (lv_at hl 1 rfl) ?_
  refine n_aald (v := ad (2 + 3 * j)) (j := j) hx hb hK hP0 1 2 rfl rfl (by omega) (by decide) rfl dX1_turnShutter_10 ?_
  have hP : va_P D vwCl [(ad 0, .inr (1, [.ref (ad 1), .ref (ad 26), .int (nI n), .int (nI now), .int told])), (ad (2 + 3 * j), .inr (0, [.ref (ad (3 + 3 * j)), .ref (ad (4 + 3 * j)), .int (nI (lbc (v j))), .int (bI (lon (v j))), .int (bI (lcv (v j)))])), (ad (3 + 3 * j), .inl (cI, 8, .inl (fun i => nI (lnu (v j) i)))), (ad (4 + 3 * j), .inl (cI, 8, .inl (fun i => nI (lof (v j) i))))] s.heap := vpc (hP0 0 _ rfl) (hPL j (by omega))
  have hD : va_D (AJ ad j) [(ad 0, .inr (1, [.ref (ad 1), .ref (ad 26), .int (nI n), .int (nI now), .int told])), (ad (2 + 3 * j), .inr (0, [.ref (ad (3 + 3 * j)), .ref (ad (4 + 3 * j)), .int (nI (lbc (v j))), .int (bI (lon (v j))), .int (bI (lcv (v j)))])), (ad (3 + 3 * j), .inl (cI, 8, .inl (fun i => nI (lnu (v j) i)))), (ad (4 + 3 * j), .inl (cI, 8, .inl (fun i => nI (lof (v j) i))))] := vd4 hinj (by omega)
  have hS : va_S (AJ ad j) s.heap s.heap [] := va_S.rf
  refine lv_astore_n (lv' := [(2, .ref (ad (2 + 3 * j))), (0, .ref (ad 0)), (1, .int (nI j))]) hx hb dX1_turnShutter_11 rfl hl (by decide) rfl (fun ls hl => ?_)
  have join_25 : ∀ (ls : Array Slot), lv_has ls 3 [(2, .ref (ad (2 + 3 * j))), (0, .ref (ad 0)), (1, .int (nI j))] → W p l e (headSpec wsX1_turnShutter ({ frames := 7, cells := 1, slots := 6, locals := 103 } : Room)).room s m [.ref (ad 0), .int (nI j)].toArray below meth c s.heap [] (0 + 1) (0 + 6) (vx_MQ below (QW (AX ad) (cd1 (lpOk n (nI j)) = 0) (bI (!(lcv (v (ixx (nI j)))))) (PX D cI cL ad n now told (updv v (ixx (nI j)) (setCv (v (ixx (nI j))) (!(lcv (v (ixx (nI j))))))))) (XC1 (fun E => exC [tIOB] (cd1 (lpOk n (nI j))) E)) [.ref (ad 0), .int (nI j)].toArray s 1 6 (AX ad)) (F0 m 25 ls [.int (bI (!(lcv (v j)))), .ref (ad (2 + 3 * j))]) := by
    intro   ls hl
    refine va_putN (D := D) (ci := 0) (v := .int (bI (!(lcv (v j))))) (ty := .boolean) (C := RX0) (T := TX0) (N := 5) hx hb hts hin0 tyX0 tyX0_ok nmX0 hown hK hP hD hS 1 rfl rfl 4 (by decide) (va_Nw.use rfl (hNF _ (List.mem_of_getElem? (i := 4) rfl))) (fun _ h9 => h9) rfl (by decide +kernel) (bI_narrow _) (bI_fits _) (Nat.le_of_ble_eq_true rfl) dX1_turnShutter_25 (fun H locs hP hD hS => ?_)
    have hP : va_P D vwCl [(ad 0, .inr (1, [.ref (ad 1), .ref (ad 26), .int (nI n), .int (nI now), .int told])), (ad (2 + 3 * j), .inr (0, [.ref (ad (3 + 3 * j)), .ref (ad (4 + 3 * j)), .int (nI (lbc (v j))), .int (bI (lon (v j))), .int (bI (!(lcv (v j))))])), (ad (3 + 3 * j), .inl (cI, 8, .inl (fun i => nI (lnu (v j) i)))), (ad (4 + 3 * j), .inl (cI, 8, .inl (fun i => nI (lof (v j) i))))] H := hP
    have hD : va_D (AJ ad j) [(ad 0, .inr (1, [.ref (ad 1), .ref (ad 26), .int (nI n), .int (nI now), .int told])), (ad (2 + 3 * j), .inr (0, [.ref (ad (3 + 3 * j)), .ref (ad (4 + 3 * j)), .int (nI (lbc (v j))), .int (bI (lon (v j))), .int (bI (!(lcv (v j))))])), (ad (3 + 3 * j), .inl (cI, 8, .inl (fun i => nI (lnu (v j) i)))), (ad (4 + 3 * j), .inl (cI, 8, .inl (fun i => nI (lof (v j) i))))] := hD
    refine lv_aload_n hx hb dX1_turnShutter_28 rfl (lv_at hl 0 rfl) ?_
    refine va_getN (D := D) (ci := 0) (v := .int (bI (!(lcv (v j))))) (C := RX0) (T := TX0) (N := 5) hx hb hts hin0 hown hK hP 1 rfl rfl 4 (by decide) (va_Nw.use rfl (hNF _ (List.mem_of_getElem? (i := 4) rfl))) (fun _ h9 => h9) rfl dX1_turnShutter_29 ?_
    refine n_ti (y := bI (!(lcv (v (ixx (nI j)))))) (by rw [ixx_nI (by omega)]) ?_
    refine vx_ret ?_
    refine W.widen (k := 1) (n := 6) (Nat.le_of_ble_eq_true rfl) (Nat.le_of_ble_eq_true rfl) ?_
    exact W.zret (v := bI (!(lcv (v (ixx (nI j)))))) hx hb hr (bI_narrow _) (fun t ht hW => ⟨(cd1_t hok), rfl, by rw [ht]; rw [ixx_nI (by omega)]; exact PX_end hinj (by omega) ⟨hP0, hPL⟩ hP hS, va_F_mono (hS.F ht) (AJ_AX (by omega))⟩) (fun q hq => (AJ_AX (by omega)) q.base (hS.2.2 q hq)) dX1_turnShutter_32
  refine lv_aload_n hx hb dX1_turnShutter_12 rfl (lv_at hl 0 rfl) ?_
  refine lv_aload_n hx hb dX1_turnShutter_13 rfl (lv_at hl 0 rfl) ?_
  refine va_getN (D := D) (ci := 0) (v := .int (bI (lcv (v j)))) (C := RX0) (T := TX0) (N := 5) hx hb hts hin0 hown hK hP 1 rfl rfl 4 (by decide) (va_Nw.use rfl (hNF _ (List.mem_of_getElem? (i := 4) rfl))) (fun _ h9 => h9) rfl dX1_turnShutter_14 ?_
  refine b_if_ne (b := lcv (v j)) (tgt := 24) hx hb dX1_turnShutter_17 (by decide) (fun c_17 => ?_) (fun c_17 => ?_)
  · refine lv_iconst (v := nI 0) hx hb dX1_turnShutter_24 (by decide) ?_
    refine n_ti (y := bI (!(lcv (v j)))) (by rw [c_17]; rfl) ?_
    exact join_25 ls (lv_sub hl [0, 1, 2] rfl)
  · refine lv_iconst (v := nI 1) hx hb dX1_turnShutter_20 (by decide) ?_
    refine lv_goto (tgt := 25) hx hb dX1_turnShutter_21 (by decide) ?_
    refine n_ti (y := bI (!(lcv (v j)))) (by rw [c_17]; rfl) ?_
    exact join_25 ls (lv_sub hl [0, 1, 2] rfl)
end
section
set_option maxHeartbeats 4000000 in
set_option maxRecDepth 100000 in
/-- pass -/
theorem c_X1_pass (l : Launch) (D : va_G) (cI cZ cL cJ : ClassId) (hst : l.stackTraces = false) (ad : Nat → Nat) (n now : Nat) (told : Int32) (v : Nat → LV) (hwf : WFX n now v) (hinj : Inj 29 ad) (x : Int32) : vx_Met l yX1_pass wsX1_pass ({ frames := 7, cells := 1, slots := 6, locals := 103 } : Room) (PC D (TY cI cZ cL cJ) (AX ad) [.ref (ad 0), .int x] (fun H => PX D cI cL ad n now told v H)) (QW (AX ad) (cd1 (inB (nI 1) (nI 500) x) = 0) (nI (psN v n now (ixx x))) (PX D cI cL ad n (now + ixx x) (told + nI (psN v n now (ixx x))) v)) (XC1 (fun E => exC [tIAE] (cd1 (inB (nI 1) (nI 500) x)) E)) 1 6 (AX ad) := by
  refine vx_ofW (cc := cX1_pass) (maxL := 4) (ret := (some .int)) (by decide) rfl ?_
  intro p e s m args below meth c s₁ B hml hex hv
  obtain ⟨rfl, hK, hEA, hP0, hPL⟩ := hv
  obtain ⟨hn8, hnow, hwl⟩ := hwf
  have hE : EN noA s s.heap := hEA.narrow (fun _ h => h.elim)
  have hx := B.exec
  have hb := B.bytes
  have hr := B.returns
  have hts := atoms_spec (ws := wsX1_pass) B.pre
  have hown : s.vm.findClass RX1 = some m.cls := findClass_of_methodNamed B.named
  have hlocks := B.notSynchronized
  have hNF := hE.2.1.1
  have hin0 : ∀ w ∈ wsX00, w ∈ wsX1_pass := by decide +kernel
  have hin1 : ∀ w ∈ wsX10, w ∈ wsX1_pass := by decide +kernel
  have hl := lv_entry ([.ref (ad 0), .int x]) (n := 4) (Nat.le_of_ble_eq_true rfl)
  rw [lg_entry_eq]
  generalize (lg_sl ([.ref (ad 0), .int x]) ++ List.replicate (4 - (lg_sl ([.ref (ad 0), .int x])).length) Slot.unset).toArray = ls at hl ⊢
  have hl : lv_has ls 4 [(0, .ref (ad 0)), (1, .int x)] := hl
  refine lv_iload_n hx hb dX1_pass_0 rfl (lv_at hl 1 rfl) ?_
  refine lv_sipush (v := nI 500) hx hb dX1_pass_1 (by decide) ?_
  refine xSp (As := [.int x, .int (nI 500)]) (rest := []) ⟨hx, hb, hml, hown, hts⟩ (c_X1_needMoments l D cI cZ cL cJ hst x (nI 500)) (va_cwS 2 hts gX1_pass_X1_needMoments rfl rfl rfl (by decide +kernel) ⟨(Nat.le_of_ble_eq_true rfl), (Nat.le_of_ble_eq_true rfl)⟩) hK hE trivial rfl hl.1 rfl (Nat.le_of_ble_eq_true rfl) dX1_pass_4 ⟨(Nat.le_of_ble_eq_true rfl), (Nat.le_of_ble_eq_true rfl)⟩ hex hlocks (fun E h => by rw [h.1]; exact ex1 h.2) (Nat.le_of_ble_eq_true rfl) (Nat.le_of_ble_eq_true rfl) (fun hok => ?_)
  obtain ⟨y, hy1, hy2, rfl⟩ := inB_j (by decide) (by decide) hok
  refine lv_iconst (v := nI 0) hx hb dX1_pass_7 (by decide) ?_
  refine lv_istore_n (lv' := [(2, .int (nI 0)), (0, .ref (ad 0)), (1, .int (nI y))]) hx hb dX1_pass_8 rfl hl (by decide) rfl (fun ls hl => ?_)
  refine lv_iconst (v := nI 1) hx hb dX1_pass_9 (by decide) ?_
  refine lv_istore_n (lv' := [(3, .int (nI 1)), (2, .int (nI 0)), (0, .ref (ad 0)), (1, .int (nI y))]) hx hb dX1_pass_10 rfl hl (by decide) rfl (fun ls hl => ?_)
  have loop_11 : ∀ (fu : Nat) (r : Nat), y + 1 - r ≤ fu → r ≤ y → ∀ (ls : Array Slot), lv_has ls 4 [(3, .int (nI (r + 1))), (2, .int (nI (psN v n now r))), (0, .ref (ad 0)), (1, .int (nI y))] → W p l e (headSpec wsX1_pass ({ frames := 7, cells := 1, slots := 6, locals := 103 } : Room)).room s m [.ref (ad 0), .int (nI y)].toArray below meth c s.heap [] (0 + 1) (0 + 6) (vx_MQ below (QW (AX ad) (cd1 (inB (nI 1) (nI 500) (nI y)) = 0) (nI (psN v n now (ixx (nI y)))) (PX D cI cL ad n (now + ixx (nI y)) (told + nI (psN v n now (ixx (nI y)))) v)) (XC1 (fun E => exC [tIAE] (cd1 (inB (nI 1) (nI 500) (nI y))) E)) [.ref (ad 0), .int (nI y)].toArray s 1 6 (AX ad)) (F0 m 11 ls []) := by
    intro fu
    induction fu with
    | zero => intro r hn_11 hr9; exact absurd hn_11 (by omega)
    | succ fu ih_11 =>
      intro r hn_11 hr9 ls hl
      refine lv_iload_n hx hb dX1_pass_11 rfl (lv_at hl 0 rfl) ?_
      refine lv_iload_n hx hb dX1_pass_12 rfl (lv_at hl 3 rfl) ?_
      refine n_icmp_gt (a := r + 1) (b := y) (tgt := 35) hx hb (by omega) (by omega) dX1_pass_13 (by decide) (fun c_13 => ?_) (fun c_13 => ?_)
      · have hP : va_P D vwCl [(ad 0, .inr (1, [.ref (ad 1), .ref (ad 26), .int (nI n), .int (nI now), .int told]))] s.heap := vp1 (hP0 0 _ rfl)
        have hD : va_D (fun q => q ∈ [ad 0]) [(ad 0, .inr (1, [.ref (ad 1), .ref (ad 26), .int (nI n), .int (nI now), .int told]))] := vd1
        have hS : va_S (fun q => q ∈ [ad 0]) s.heap s.heap [] := va_S.rf
        have hry : r = y := by omega
        rw [hry] at hl
        refine lv_aload_n hx hb dX1_pass_35 rfl (lv_at hl 2 rfl) ?_
        refine lv_dup hx hb dX1_pass_36 rfl ?_
        refine va_get (D := D) (ci := 1) (v := .int (nI now)) (C := RX1) (T := TX1) (N := 5) hx hb hts hin1 hown hK hP 0 rfl rfl 3 (by decide) (hts (.fieldLink RX1 73 "LanternPrimes" "present" "I") (List.mem_of_getElem? (i := 1) rfl)) (fun _ h9 => h9) rfl dX1_pass_37 ?_
        refine lv_iload_n hx hb dX1_pass_40 rfl (lv_at hl 3 rfl) ?_
        refine n_iadd (v := nI (now + y)) hx hb dX1_pass_41 (nI_add _ _) ?_
        refine va_put (D := D) (ci := 1) (v := .int (nI (now + y))) (ty := .int) (C := RX1) (T := TX1) (N := 5) hx hb hts hin1 tyX1 tyX1_ok nmX1 hown hK hP hD hS 0 rfl rfl 3 (by decide) (hts (.fieldLink RX1 73 "LanternPrimes" "present" "I") (List.mem_of_getElem? (i := 1) rfl)) (fun _ h9 => h9) rfl (by decide +kernel) rfl rfl (Nat.le_of_ble_eq_true rfl) dX1_pass_42 (fun H locs hP hD hS => ?_)
        have hP : va_P D vwCl [(ad 0, .inr (1, [.ref (ad 1), .ref (ad 26), .int (nI n), .int (nI (now + y)), .int told]))] H := hP
        have hD : va_D (fun q => q ∈ [ad 0]) [(ad 0, .inr (1, [.ref (ad 1), .ref (ad 26), .int (nI n), .int (nI (now + y)), .int told]))] := hD
        refine lv_aload_n hx hb dX1_pass_45 rfl (lv_at hl 2 rfl) ?_
        refine lv_dup hx hb dX1_pass_46 rfl ?_
        refine va_get (D := D) (ci := 1) (v := .int told) (C := RX1) (T := TX1) (N := 5) hx hb hts hin1 hown hK hP 0 rfl rfl 4 (by decide) (hts (.fieldLink RX1 80 "LanternPrimes" "changesTold" "I") (List.mem_of_getElem? (i := 2) rfl)) (fun _ h9 => h9) rfl dX1_pass_47 ?_
        refine lv_iload_n hx hb dX1_pass_50 rfl (lv_at hl 1 rfl) ?_
        refine n_iadd (v := told + (nI (psN v n now y))) hx hb dX1_pass_51 rfl ?_
        refine va_put (D := D) (ci := 1) (v := .int (told + (nI (psN v n now y)))) (ty := .int) (C := RX1) (T := TX1) (N := 5) hx hb hts hin1 tyX1 tyX1_ok nmX1 hown hK hP hD hS 0 rfl rfl 4 (by decide) (hts (.fieldLink RX1 80 "LanternPrimes" "changesTold" "I") (List.mem_of_getElem? (i := 2) rfl)) (fun _ h9 => h9) rfl (by decide +kernel) rfl rfl (Nat.le_of_ble_eq_true rfl) dX1_pass_52 (fun H locs hP hD hS => ?_)
        have hP : va_P D vwCl [(ad 0, .inr (1, [.ref (ad 1), .ref (ad 26), .int (nI n), .int (nI (now + y)), .int (told + (nI (psN v n now y)))]))] H := hP
        have hD : va_D (fun q => q ∈ [ad 0]) [(ad 0, .inr (1, [.ref (ad 1), .ref (ad 26), .int (nI n), .int (nI (now + y)), .int (told + (nI (psN v n now y)))]))] := hD
        refine lv_iload_n hx hb dX1_pass_55 rfl (lv_at hl 1 rfl) ?_
        refine n_ti (y := nI (psN v n now (ixx (nI y)))) (by rw [ixx_nI (by omega)]) ?_
        refine vx_ret ?_
        refine W.widen (k := 1) (n := 6) (Nat.le_of_ble_eq_true rfl) (Nat.le_of_ble_eq_true rfl) ?_
        exact W.iret (v := nI (psN v n now (ixx (nI y)))) hx hb hr (fun t ht hW => ⟨(cd1_t hok), rfl, by rw [ht]; rw [ixx_nI (by omega)]; exact PX_now hinj ⟨hP0, hPL⟩ hP hS, va_F_mono (hS.F ht) A0_AX⟩) (fun q hq => A0_AX q.base (hS.2.2 q hq)) dX1_pass_56
      · refine lv_iload_n hx hb dX1_pass_16 rfl (lv_at hl 1 rfl) ?_
        refine lv_aload_n hx hb dX1_pass_17 rfl (lv_at hl 2 rfl) ?_
        refine lv_aload_n hx hb dX1_pass_18 rfl (lv_at hl 2 rfl) ?_
        refine va_get (D := D) (ci := 1) (v := .int (nI now)) (C := RX1) (T := TX1) (N := 5) hx hb hts hin1 hown hK hP0 0 rfl rfl 3 (by decide) (hts (.fieldLink RX1 73 "LanternPrimes" "present" "I") (List.mem_of_getElem? (i := 1) rfl)) (fun _ h9 => h9) rfl dX1_pass_19 ?_
        refine lv_iload_n hx hb dX1_pass_22 rfl (lv_at hl 0 rfl) ?_
        refine n_iadd (v := nI (now + (r + 1))) hx hb dX1_pass_23 (nI_add _ _) ?_
        refine rV (r := nI (chgN v n (now + (r + 1)))) (As := [.int (nI (now + (r + 1)))]) (rest := [.int (nI (psN v n now r))]) ⟨hx, hb, hml, hown, hts⟩ (c_X1_changesOfLamps l D cI cZ cL cJ ad n now told v ⟨hn8, hnow, hwl⟩ (now + (r + 1)) (by omega)) (cwV 1 hts gX1_pass_X1_changesOfLamps rfl rfl rfl (by decide +kernel) ⟨(Nat.le_of_ble_eq_true rfl), (Nat.le_of_ble_eq_true rfl)⟩) hK hE ⟨hP0, hPL⟩ (RC_of (q := (RX1, TX1, 5)) (ci := 1) hK rfl (vpa hP0 0 rfl)) rfl hl.1 rfl (Nat.le_of_ble_eq_true rfl) dX1_pass_24 ⟨(Nat.le_of_ble_eq_true rfl), (Nat.le_of_ble_eq_true rfl)⟩ ?_
        refine n_iadd (v := nI (psN v n now (r + 1))) hx hb dX1_pass_27 (nI_add _ _) ?_
        refine lv_istore_n (lv' := [(2, .int (nI (psN v n now (r + 1)))), (3, .int (nI (r + 1))), (0, .ref (ad 0)), (1, .int (nI y))]) hx hb dX1_pass_28 rfl hl (by decide) rfl (fun ls hl => ?_)
        refine lv_iinc (v := nI ((r + 1) + 1)) (lv' := [(3, .int (nI ((r + 1) + 1))), (2, .int (nI (psN v n now (r + 1)))), (0, .ref (ad 0)), (1, .int (nI y))]) hx hb dX1_pass_29 hl (k := 1) rfl (nI_inc _) (by decide) rfl (fun ls hl => ?_)
        refine lv_goto (tgt := 11) hx hb dX1_pass_32 (by decide) ?_
        exact ih_11 (r + 1) (by omega) (by omega) ls (lv_sub hl [0, 1, 2, 3] rfl)
  exact loop_11 (y + 1) 0 (by omega) (Nat.zero_le _) ls (lv_sub hl [0, 1, 2, 3] rfl)
set_option maxHeartbeats 4000000 in
set_option maxRecDepth 100000 in
/-- momentsUntilToldApart -/
theorem c_X1_momentsUntilToldApart (l : Launch) (D : va_G) (cI cZ cL cJ : ClassId) (hst : l.stackTraces = false) (ad : Nat → Nat) (n now : Nat) (told : Int32) (v : Nat → LV) (hwf : WFX n now v) (hinj : Inj 29 ad) (k q : Int32) : vx_Met l yX1_momentsUntilToldApart wsX1_momentsUntilToldApart ({ frames := 8, cells := 3, slots := 18, locals := 125 } : Room) (PC D (TY cI cZ cL cJ) (AX ad) [.ref (ad 0), .int k, .int q] (fun H => PX D cI cL ad n now told v H)) (QW (AX ad) (cd2 (lpOk n k && lpOk n q) (decide (¬ k = q)) = 0) ((tldI v (ixx k) (ixx q) now)) (PX D cI cL ad n now told (updv v 8 (diffL (v 8) (v (ixx k)) (v (ixx q)))))) (XC1 (fun E => exC [tIOB, tIAE] (cd2 (lpOk n k && lpOk n q) (decide (¬ k = q))) E)) 3 18 (AX ad) := by
  refine vx_ofW (cc := cX1_momentsUntilToldApart) (maxL := 3) (ret := (some .int)) (by decide) rfl ?_
  intro p e s m args below meth c s₁ B hml hex hv
  obtain ⟨rfl, hK, hEA, hP0, hPL⟩ := hv
  obtain ⟨hn8, hnow, hwl⟩ := hwf
  have hE : EN noA s s.heap := hEA.narrow (fun _ h => h.elim)
  have hx := B.exec
  have hb := B.bytes
  have hr := B.returns
  have hts := atoms_spec (ws := wsX1_momentsUntilToldApart) B.pre
  have hown : s.vm.findClass RX1 = some m.cls := findClass_of_methodNamed B.named
  have hlocks := B.notSynchronized
  have hNF := hE.2.1.1
  have hin0 : ∀ w ∈ wsX00, w ∈ wsX1_momentsUntilToldApart := by decide +kernel
  have hin1 : ∀ w ∈ wsX10, w ∈ wsX1_momentsUntilToldApart := by decide +kernel
  have hl := lv_entry ([.ref (ad 0), .int k, .int q]) (n := 3) (Nat.le_of_ble_eq_true rfl)
  rw [lg_entry_eq]
  generalize (lg_sl ([.ref (ad 0), .int k, .int q]) ++ List.replicate (3 - (lg_sl ([.ref (ad 0), .int k, .int q])).length) Slot.unset).toArray = ls at hl ⊢
  have hl : lv_has ls 3 [(0, .ref (ad 0)), (1, .int k), (2, .int q)] := hl
  refine lv_aload_n hx hb dX1_momentsUntilToldApart_0 rfl (lv_at hl 0 rfl) ?_
  refine lv_iload_n hx hb dX1_momentsUntilToldApart_1 rfl (lv_at hl 1 rfl) ?_
  refine lv_iload_n hx hb dX1_momentsUntilToldApart_2 rfl (lv_at hl 2 rfl) ?_
  refine xVp (As := [.int k, .int q]) (rest := []) ⟨hx, hb, hml, hown, hts⟩ (c_X1_needPair l D cI cZ cL cJ hst ad n now told v ⟨hn8, hnow, hwl⟩ k q) (cwV 2 hts gX1_momentsUntilToldApart_X1_needPair rfl rfl rfl (by decide +kernel) ⟨(Nat.le_of_ble_eq_true rfl), (Nat.le_of_ble_eq_true rfl)⟩) hK hE ⟨hP0, hPL⟩ (RC_of (q := (RX1, TX1, 5)) (ci := 1) hK rfl (vpa hP0 0 rfl)) rfl hl.1 rfl (Nat.le_of_ble_eq_true rfl) dX1_momentsUntilToldApart_3 ⟨(Nat.le_of_ble_eq_true rfl), (Nat.le_of_ble_eq_true rfl)⟩ hex hlocks (fun E h => h) (Nat.le_of_ble_eq_true rfl) (Nat.le_of_ble_eq_true rfl) (fun hok => ?_)
  obtain ⟨i, j, hi, hj, hij, rfl, rfl⟩ := pair_j hn8 hok
  refine lv_aload_n hx hb dX1_momentsUntilToldApart_6 rfl (lv_at hl 0 rfl) ?_
  refine va_get (D := D) (ci := 1) (v := .ref (ad 26)) (C := RX1) (T := TX1) (N := 5) hx hb hts hin1 hown hK hP0 0 rfl rfl 1 (by decide) (hts (.fieldLink RX1 16 "LanternPrimes" "difference" "LLanternPrimes$Lamp;") (List.mem_of_getElem? (i := 1) rfl)) (fun _ h9 => h9) rfl dX1_momentsUntilToldApart_7 ?_
  refine lv_aload_n hx hb dX1_momentsUntilToldApart_10 rfl (lv_at hl 0 rfl) ?_
  refine va_get (D := D) (ci := 1) (v := .ref (ad 1)) (C := RX1) (T := TX1) (N := 5) hx hb hts hin1 hown hK hP0 0 rfl rfl 0 (by decide) (hts (.fieldLink RX1 11 "LanternPrimes" "row" "[LLanternPrimes$Lamp;") (List.mem_of_getElem? (i := 2) rfl)) (fun _ h9 => h9) rfl dX1_momentsUntilToldApart_11 ?_
  refine lv_iload_n hx hb dX1_momentsUntilToldApart_14 rfl (lv_at hl 1 rfl) ?_
  refine n_aald (v := ad (2 + 3 * i)) (j := i) hx hb hK hP0 1 2 rfl rfl (by omega) (by decide) rfl dX1_momentsUntilToldApart_15 ?_
  refine lv_aload_n hx hb dX1_momentsUntilToldApart_16 rfl (lv_at hl 0 rfl) ?_
  refine va_get (D := D) (ci := 1) (v := .ref (ad 1)) (C := RX1) (T := TX1) (N := 5) hx hb hts hin1 hown hK hP0 0 rfl rfl 0 (by decide) (hts (.fieldLink RX1 11 "LanternPrimes" "row" "[LLanternPrimes$Lamp;") (List.mem_of_getElem? (i := 2) rfl)) (fun _ h9 => h9) rfl dX1_momentsUntilToldApart_17 ?_
  refine lv_iload_n hx hb dX1_momentsUntilToldApart_20 rfl (lv_at hl 2 rfl) ?_
  refine n_aald (v := ad (2 + 3 * j)) (j := j) hx hb hK hP0 1 2 rfl rfl (by omega) (by decide) rfl dX1_momentsUntilToldApart_21 ?_
  have hP8 : va_P D vwCl (lampW cI (ad 26) (ad 27) (ad 28) (v 8)) s.heap := hPL 8 (by omega)
  have hS : va_S (AJ ad 8) s.heap s.heap [] := va_S.rf
  have h38 := lpN3 (j := 8) hinj (by omega)
  have hwi4 := (hwl i (by omega)).1
  have hwj4 := (hwl j (by omega)).1
  have hdw : WFL 8 (diffL (v 8) (v i) (v j)) := diffL_wf (hwl i (by omega)) (hwl j (by omega))
  refine wVv (As := [.ref (ad (2 + 3 * i)), .ref (ad (2 + 3 * j))]) (rest := []) ⟨hx, hb, hml, hown, hts⟩ (c_X0_becomeDifference l D cI cZ cL cJ (ad 26) (ad 27) (ad 28) (v 8) (ad (2 + 3 * i)) (ad (3 + 3 * i)) (ad (4 + 3 * i)) (v i) (ad (2 + 3 * j)) (ad (3 + 3 * j)) (ad (4 + 3 * j)) (v j) h38.1 h38.2.1 h38.2.2 (no8 hinj (by omega)) (no8 hinj (by omega)) (by omega)) (cwV 2 hts gX1_momentsUntilToldApart_X0_becomeDifference rfl rfl rfl (by decide +kernel) ⟨(Nat.le_of_ble_eq_true rfl), (Nat.le_of_ble_eq_true rfl)⟩) hK ((hEA.narrow (AJ_AX (j := 8) (by omega))).narrow (AJ_lp (ad := ad) (j := 8))) ⟨hP8, hPL i (by omega), hPL j (by omega)⟩ (RC_of (q := (RX0, TX0, 5)) (ci := 0) hK rfl (vpa hP8 0 rfl)) rfl hl.1 rfl (Nat.le_of_ble_eq_true rfl) dX1_momentsUntilToldApart_22 ⟨(Nat.le_of_ble_eq_true rfl), (Nat.le_of_ble_eq_true rfl)⟩ hS (AJ_lp (ad := ad) (j := 8)) (fun H locs hQ _ hk hS => ?_)
  have hP : va_P D vwCl ((ad 0, .inr (1, [.ref (ad 1), .ref (ad 26), .int (nI n), .int (nI now), .int told])) :: lampW cI (ad (2 + 3 * 8)) (ad (3 + 3 * 8)) (ad (4 + 3 * 8)) (diffL (v 8) (v i) (v j))) H := vpc ((hP0 0 _ rfl).kept (hk _ (hP0 0 _ rfl).lt (fun z => by have := hinj.ne (i := 0) (j := 26) (by omega) (by omega) (by omega); have := hinj.ne (i := 0) (j := 27) (by omega) (by omega) (by omega); have := hinj.ne (i := 0) (j := 28) (by omega) (by omega) (by omega); simp_all))) hQ
  have hE8 : EN noA s H := ((hEA.narrow (AJ_AX (j := 8) (by omega))).kept hS.2.1).narrow (fun _ h => h.elim)
  refine lv_aload_n hx hb dX1_momentsUntilToldApart_25 rfl (lv_at hl 0 rfl) ?_
  refine va_get (D := D) (ci := 1) (v := .ref (ad 26)) (C := RX1) (T := TX1) (N := 5) hx hb hts hin1 hown hK hP 0 rfl rfl 1 (by decide) (hts (.fieldLink RX1 16 "LanternPrimes" "difference" "LLanternPrimes$Lamp;") (List.mem_of_getElem? (i := 1) rfl)) (fun _ h9 => h9) rfl dX1_momentsUntilToldApart_26 ?_
  refine lv_aload_n hx hb dX1_momentsUntilToldApart_29 rfl (lv_at hl 0 rfl) ?_
  refine va_get (D := D) (ci := 1) (v := .int (nI now)) (C := RX1) (T := TX1) (N := 5) hx hb hts hin1 hown hK hP 0 rfl rfl 3 (by decide) (hts (.fieldLink RX1 73 "LanternPrimes" "present" "I") (List.mem_of_getElem? (i := 3) rfl)) (fun _ h9 => h9) rfl dX1_momentsUntilToldApart_30 ?_
  refine rV (r := bI (onB (diffL (v 8) (v i) (v j)) now)) (As := [.int (nI now)]) (rest := []) ⟨hx, hb, hml, hown, hts⟩ (c_X0_onAt l D cI cZ cL cJ (ad 26) (ad 27) (ad 28) (diffL (v 8) (v i) (v j)) now (by omega) hdw) (cwV 1 hts gX1_momentsUntilToldApart_X0_onAt rfl rfl rfl (by decide +kernel) ⟨(Nat.le_of_ble_eq_true rfl), (Nat.le_of_ble_eq_true rfl)⟩) hK hE8 hQ (RC_of (q := (RX0, TX0, 5)) (ci := 0) hK rfl (vpa hQ 0 rfl)) rfl hl.1 rfl (Nat.le_of_ble_eq_true rfl) dX1_momentsUntilToldApart_33 ⟨(Nat.le_of_ble_eq_true rfl), (Nat.le_of_ble_eq_true rfl)⟩ ?_
  refine b_if_eq (b := onB (diffL (v 8) (v i) (v j)) now) (tgt := 41) hx hb dX1_momentsUntilToldApart_36 (by decide) (fun c_36 => ?_) (fun c_36 => ?_)
  · refine lv_aload_n hx hb dX1_momentsUntilToldApart_41 rfl (lv_at hl 0 rfl) ?_
    refine va_get (D := D) (ci := 1) (v := .ref (ad 26)) (C := RX1) (T := TX1) (N := 5) hx hb hts hin1 hown hK hP 0 rfl rfl 1 (by decide) (hts (.fieldLink RX1 16 "LanternPrimes" "difference" "LLanternPrimes$Lamp;") (List.mem_of_getElem? (i := 1) rfl)) (fun _ h9 => h9) rfl dX1_momentsUntilToldApart_42 ?_
    refine lv_aload_n hx hb dX1_momentsUntilToldApart_45 rfl (lv_at hl 0 rfl) ?_
    refine va_get (D := D) (ci := 1) (v := .int (nI now)) (C := RX1) (T := TX1) (N := 5) hx hb hts hin1 hown hK hP 0 rfl rfl 3 (by decide) (hts (.fieldLink RX1 73 "LanternPrimes" "present" "I") (List.mem_of_getElem? (i := 3) rfl)) (fun _ h9 => h9) rfl dX1_momentsUntilToldApart_46 ?_
    refine rV (r := (untC (diffL (v 8) (v i) (v j)) now)) (As := [.int (nI now)]) (rest := []) ⟨hx, hb, hml, hown, hts⟩ (c_X0_untilChange l D cI cZ cL cJ (ad 26) (ad 27) (ad 28) (diffL (v 8) (v i) (v j)) now (by omega) hdw) (cwV 1 hts gX1_momentsUntilToldApart_X0_untilChange rfl rfl rfl (by decide +kernel) ⟨(Nat.le_of_ble_eq_true rfl), (Nat.le_of_ble_eq_true rfl)⟩) hK hE8 hQ (RC_of (q := (RX0, TX0, 5)) (ci := 0) hK rfl (vpa hQ 0 rfl)) rfl hl.1 rfl (Nat.le_of_ble_eq_true rfl) dX1_momentsUntilToldApart_49 ⟨(Nat.le_of_ble_eq_true rfl), (Nat.le_of_ble_eq_true rfl)⟩ ?_
    refine n_ti (y := (tldI v (ixx (nI i)) (ixx (nI j)) now)) (by rw [ixx_nI (by omega), ixx_nI (by omega)]; unfold tldI; first | rw [if_pos c_36] | rw [if_neg (by rw [c_36]; decide)]) ?_
    refine vx_ret ?_
    refine W.widen (k := 3) (n := 18) (Nat.le_of_ble_eq_true rfl) (Nat.le_of_ble_eq_true rfl) ?_
    exact W.iret (v := (tldI v (ixx (nI i)) (ixx (nI j)) now)) hx hb hr (fun t ht hW => ⟨hok, rfl, by rw [ht]; rw [ixx_nI (by omega), ixx_nI (by omega)]; exact PX_end (j := 8) hinj (by omega) ⟨hP0, hPL⟩ hP hS, va_F_mono (hS.F ht) (AJ_AX (by omega))⟩) (fun q hq => (AJ_AX (by omega)) q.base (hS.2.2 q hq)) dX1_momentsUntilToldApart_52
  · refine lv_iconst (v := nI 0) hx hb dX1_momentsUntilToldApart_39 (by decide) ?_
    refine n_ti (y := (tldI v (ixx (nI i)) (ixx (nI j)) now)) (by rw [ixx_nI (by omega), ixx_nI (by omega)]; unfold tldI; first | rw [if_pos c_36] | rw [if_neg (by rw [c_36]; decide)]) ?_
    refine vx_ret ?_
    refine W.widen (k := 3) (n := 18) (Nat.le_of_ble_eq_true rfl) (Nat.le_of_ble_eq_true rfl) ?_
    exact W.iret (v := (tldI v (ixx (nI i)) (ixx (nI j)) now)) hx hb hr (fun t ht hW => ⟨hok, rfl, by rw [ht]; rw [ixx_nI (by omega), ixx_nI (by omega)]; exact PX_end (j := 8) hinj (by omega) ⟨hP0, hPL⟩ hP hS, va_F_mono (hS.F ht) (AJ_AX (by omega))⟩) (fun q hq => (AJ_AX (by omega)) q.base (hS.2.2 q hq)) dX1_momentsUntilToldApart_40
end
section
/-! THE MATHEMATICS: what changes begins anew behind ccy moments and no sooner; a lamp behind cyc -/
def WFb (L : LV) : Prop := ∀ i, i < lbc L → isP (lnu L i) ∧ lof L i < lnu L i
/-- an odd number of the beats of p strikes at t -/
def FB (L : LV) (t p : Nat) : Bool := (trb L p (lbc L)).testBit (t % p)
def X6 (g : Nat → Bool) : Bool := g 2 ^^ (g 3 ^^ (g 5 ^^ (g 7 ^^ (g 11 ^^ g 13))))
theorem X6_xor (f g : Nat → Bool) : X6 (fun p => f p ^^ g p) = (X6 f ^^ X6 g) := by
  have x4 : ∀ a b c d : Bool, ((a ^^ b) ^^ (c ^^ d)) = ((a ^^ c) ^^ (b ^^ d)) := by decide
  symm
  unfold X6
  rw [x4 (f 2) _ (g 2), x4 (f 3) _ (g 3), x4 (f 5) _ (g 5), x4 (f 7) _ (g 7), x4 (f 11) _ (g 11)]
theorem X6_congr {f g : Nat → Bool} (h : ∀ p, isP p → f p = g p) : X6 f = X6 g := by
  unfold X6
  rw [h 2 (Or.inl rfl), h 3 (Or.inr (Or.inl rfl)), h 5 (Or.inr (Or.inr (Or.inl rfl))), h 7 (Or.inr (Or.inr (Or.inr (Or.inl rfl)))), h 11 (Or.inr (Or.inr (Or.inr (Or.inr (Or.inl rfl))))), h 13 (Or.inr (Or.inr (Or.inr (Or.inr (Or.inr rfl)))))]
theorem X6_one {q : Nat} (hq : isP q) (c : Nat → Bool) : X6 (fun p => decide (q = p) && c p) = c q := by
  unfold X6
  rcases hq with rfl | rfl | rfl | rfl | rfl | rfl <;> simp
theorem trb_step (L : LV) (t p k : Nat) : (trb L p (k + 1)).testBit (t % p) = ((trb L p k).testBit (t % p) ^^ (decide (lnu L k = p) && decide (t % p = lof L k))) := by
  simp only [trb]
  by_cases h : lnu L k = p
  · rw [if_pos h, Nat.testBit_xor, Nat.testBit_two_pow, decide_eq_true h, Bool.true_and]
    congr 1
    by_cases e : lof L k = t % p
    · rw [decide_eq_true e, decide_eq_true e.symm]
    · rw [decide_eq_false e, decide_eq_false (fun z => e z.symm)]
  · rw [if_neg h, decide_eq_false h, Bool.false_and, Bool.xor_false]
theorem odd_add (a : Nat) (c : Prop) [Decidable c] : decide ((a + (if c then 1 else 0)) % 2 = 1) = (decide (a % 2 = 1) ^^ decide c) := by
  by_cases hc : c
  · rw [if_pos hc, decide_eq_true hc]
    by_cases h : a % 2 = 1
    · rw [decide_eq_true h, decide_eq_false (by omega)]; rfl
    · rw [decide_eq_false h, decide_eq_true (by omega)]; rfl
  · rw [if_neg hc, decide_eq_false hc, Nat.add_zero, Bool.xor_false]
theorem strk_X6 {L : LV} (t : Nat) : ∀ k, (∀ i, i < k → isP (lnu L i) ∧ lof L i < lnu L i) → decide (strk L t k % 2 = 1) = X6 (fun p => (trb L p k).testBit (t % p))
  | 0, _ => by simp [strk, trb, X6]
  | k + 1, h => by
    have ih := strk_X6 (L := L) t k (fun i hi => h i (by omega))
    have e0 : strk L t (k + 1) = strk L t k + (if t % lnu L k = lof L k then 1 else 0) := rfl
    rw [e0, odd_add, ih]
    have e : X6 (fun p => (trb L p (k + 1)).testBit (t % p)) = X6 (fun p => (trb L p k).testBit (t % p) ^^ (decide (lnu L k = p) && decide (t % p = lof L k))) := X6_congr (fun p _ => trb_step L t p k)
    rw [e, X6_xor, X6_one (h k (by omega)).1]
theorem chg_X6 {L : LV} (h : WFb L) (t : Nat) : chgB L t = X6 (FB L t) := strk_X6 t (lbc L) h
theorem trb_ltA {L : LV} (h : WFb L) (p : Nat) : trb L p (lbc L) < 2 ^ p := trb_lt _ (fun i hi => (h i hi).2)
theorem alike_F {L : LV} {p : Nat} (hp : 0 < p) (h : alike L p = true) (t u : Nat) : FB L t p = FB L u p := by
  unfold alike at h
  unfold FB
  rcases (Bool.or_eq_true _ _).mp h with h | h
  · rw [of_decide_eq_true h, Nat.zero_testBit, Nat.zero_testBit]
  · rw [of_decide_eq_true h, Nat.testBit_two_pow_sub_one, Nat.testBit_two_pow_sub_one, decide_eq_true (Nat.mod_lt _ hp), decide_eq_true (Nat.mod_lt _ hp)]
theorem F_alike {L : LV} (hw : WFb L) {p : Nat} (h : ∀ r, r < p → (trb L p (lbc L)).testBit r = (trb L p (lbc L)).testBit 0) : alike L p = true := by
  unfold alike
  have hlt := trb_ltA hw p
  have hbig : ∀ i, p ≤ i → (trb L p (lbc L)).testBit i = false := fun i hi => Nat.testBit_lt_two_pow (Nat.lt_of_lt_of_le hlt (Nat.pow_le_pow_right (by decide) hi))
  cases h0 : (trb L p (lbc L)).testBit 0
  · have : trb L p (lbc L) = 0 := by
      apply Nat.eq_of_testBit_eq
      intro i
      rw [Nat.zero_testBit]
      rcases Nat.lt_or_ge i p with q | q
      · rw [h i q, h0]
      · exact hbig i q
    rw [decide_eq_true this]; rfl
  · have : trb L p (lbc L) = 2 ^ p - 1 := by
      apply Nat.eq_of_testBit_eq
      intro i
      rw [Nat.testBit_two_pow_sub_one]
      rcases Nat.lt_or_ge i p with q | q
      · rw [h i q, h0, decide_eq_true q]
      · rw [hbig i q, decide_eq_false (by omega)]
    rw [decide_eq_true this, Bool.or_true]
theorem ccyk_dvd {L : LV} {k : Nat} (h : ¬ alike L (NUMf k) = true) : ∀ m, k < m → NUMf k ∣ ccyk L m
  | 0, hk => absurd hk (Nat.not_lt_zero _)
  | m + 1, hk => by
    simp only [ccyk]
    rcases Nat.lt_or_ge k m with q | q
    · have ih := ccyk_dvd h m q
      split
      · exact ih
      · exact Nat.dvd_mul_right_of_dvd ih _
    · have : k = m := by omega
      subst this
      rw [if_neg h]
      exact Nat.dvd_mul_left _ _
theorem isP_NUM {p : Nat} (h : isP p) : ∃ k, k < 6 ∧ NUMf k = p := by
  rcases h with rfl | rfl | rfl | rfl | rfl | rfl
  · exact ⟨0, by decide, rfl⟩
  · exact ⟨1, by decide, rfl⟩
  · exact ⟨2, by decide, rfl⟩
  · exact ⟨3, by decide, rfl⟩
  · exact ⟨4, by decide, rfl⟩
  · exact ⟨5, by decide, rfl⟩
theorem ccy_dvd {L : LV} {p : Nat} (hp : isP p) (h : ¬ alike L p = true) : p ∣ ccy L := by
  obtain ⟨k, hk, rfl⟩ := isP_NUM hp
  exact ccyk_dvd h 6 hk
theorem add_mod_dvd {t m p : Nat} (h : p ∣ m) : (t + m) % p = t % p := by
  obtain ⟨c, rfl⟩ := h
  exact Nat.add_mul_mod_self_left t p c
/-- m is a period of the changes -/
def Per (L : LV) (m : Nat) : Prop := ∀ t, chgB L (t + m) = chgB L t
theorem per_ccy {L : LV} (hw : WFb L) : Per L (ccy L) := by
  intro t
  rw [chg_X6 hw, chg_X6 hw]
  refine X6_congr (fun p hp => ?_)
  by_cases h : alike L p = true
  · exact alike_F (by have := isP_le hp; omega) h _ _
  · unfold FB
    rw [add_mod_dvd (ccy_dvd hp h)]
theorem Per.mul {L : LV} {m : Nat} (h : Per L m) : ∀ k, Per L (k * m)
  | 0 => fun t => by rw [Nat.zero_mul, Nat.add_zero]
  | k + 1 => fun t => by
    rw [Nat.succ_mul, ← Nat.add_assoc, h, h.mul k]
/-- the product of the other five -/
theorem others {p : Nat} (hp : isP p) : ∃ Q, (∀ q, isP q → q ≠ p → q ∣ Q) ∧ Q % p ≠ 0 := by
  refine ⟨30030 / p, ?_, ?_⟩
  · rintro q (rfl | rfl | rfl | rfl | rfl | rfl) hq <;> rcases hp with rfl | rfl | rfl | rfl | rfl | rfl <;> first | exact absurd rfl hq | decide
  · rcases hp with rfl | rfl | rfl | rfl | rfl | rfl <;> decide
theorem nz_mul {p : Nat} (hp : isP p) {a b : Nat} (ha : a % p ≠ 0) (hb : b % p ≠ 0) : (a * b) % p ≠ 0 := by
  rw [Nat.mul_mod]
  have key : ∀ p, (p = 2 ∨ p = 3 ∨ p = 5 ∨ p = 7 ∨ p = 11 ∨ p = 13) → ∀ x, x < p → ∀ y, y < p → x ≠ 0 → y ≠ 0 → (x * y) % p ≠ 0 := by
    rintro p (rfl | rfl | rfl | rfl | rfl | rfl) <;> decide +kernel
  have h0 : 0 < p := by have := isP_le hp; omega
  exact key p hp _ (Nat.mod_lt _ h0) _ (Nat.mod_lt _ h0) ha hb
theorem inv_mod {p : Nat} (hp : isP p) {a : Nat} (ha : a % p ≠ 0) : ∃ k, (k * a) % p = 1 := by
  have key : ∀ p, (p = 2 ∨ p = 3 ∨ p = 5 ∨ p = 7 ∨ p = 11 ∨ p = 13) → ∀ x, x < p → x ≠ 0 → ∃ k, k < p ∧ (k * x) % p = 1 := by
    rintro p (rfl | rfl | rfl | rfl | rfl | rfl) <;> decide +kernel
  have h0 : 0 < p := by have := isP_le hp; omega
  obtain ⟨k, -, hk⟩ := key p hp _ (Nat.mod_lt _ h0) ha
  refine ⟨k, ?_⟩
  rw [Nat.mul_mod, Nat.mod_mod] at hk
  rw [Nat.mul_mod, ← hk]
theorem X6_cancel {f g : Nat → Bool} {p : Nat} (hp : isP p) (h : ∀ q, isP q → q ≠ p → f q = g q) (hx : X6 f = X6 g) : f p = g p := by
  unfold X6 at hx
  rcases hp with rfl | rfl | rfl | rfl | rfl | rfl
  · rw [h 3 (by simp [isP]) (by decide), h 5 (by simp [isP]) (by decide), h 7 (by simp [isP]) (by decide), h 11 (by simp [isP]) (by decide), h 13 (by simp [isP]) (by decide)] at hx
    revert hx; cases f 2 <;> cases g 2 <;> cases g 3 <;> cases g 5 <;> cases g 7 <;> cases g 11 <;> cases g 13 <;> decide
  · rw [h 2 (by simp [isP]) (by decide), h 5 (by simp [isP]) (by decide), h 7 (by simp [isP]) (by decide), h 11 (by simp [isP]) (by decide), h 13 (by simp [isP]) (by decide)] at hx
    revert hx; cases f 3 <;> cases g 2 <;> cases g 3 <;> cases g 5 <;> cases g 7 <;> cases g 11 <;> cases g 13 <;> decide
  · rw [h 2 (by simp [isP]) (by decide), h 3 (by simp [isP]) (by decide), h 7 (by simp [isP]) (by decide), h 11 (by simp [isP]) (by decide), h 13 (by simp [isP]) (by decide)] at hx
    revert hx; cases f 5 <;> cases g 2 <;> cases g 3 <;> cases g 5 <;> cases g 7 <;> cases g 11 <;> cases g 13 <;> decide
  · rw [h 2 (by simp [isP]) (by decide), h 3 (by simp [isP]) (by decide), h 5 (by simp [isP]) (by decide), h 11 (by simp [isP]) (by decide), h 13 (by simp [isP]) (by decide)] at hx
    revert hx; cases f 7 <;> cases g 2 <;> cases g 3 <;> cases g 5 <;> cases g 7 <;> cases g 11 <;> cases g 13 <;> decide
  · rw [h 2 (by simp [isP]) (by decide), h 3 (by simp [isP]) (by decide), h 5 (by simp [isP]) (by decide), h 7 (by simp [isP]) (by decide), h 13 (by simp [isP]) (by decide)] at hx
    revert hx; cases f 11 <;> cases g 2 <;> cases g 3 <;> cases g 5 <;> cases g 7 <;> cases g 11 <;> cases g 13 <;> decide
  · rw [h 2 (by simp [isP]) (by decide), h 3 (by simp [isP]) (by decide), h 5 (by simp [isP]) (by decide), h 7 (by simp [isP]) (by decide), h 11 (by simp [isP]) (by decide)] at hx
    revert hx; cases f 13 <;> cases g 2 <;> cases g 3 <;> cases g 5 <;> cases g 7 <;> cases g 11 <;> cases g 13 <;> decide
theorem per_dvd {L : LV} (hw : WFb L) {m p : Nat} (hm : Per L m) (hp : isP p) (ha : ¬ alike L p = true) : p ∣ m := by
  refine Decidable.byContradiction fun hnd => ha ?_
  have h0 : 0 < p := by have := isP_le hp; omega
  have hmp : m % p ≠ 0 := fun z => hnd (Nat.dvd_of_mod_eq_zero z)
  obtain ⟨Q, hQ, hQp⟩ := others hp
  obtain ⟨k, hk⟩ := inv_mod hp (nz_mul hp hQp hmp)
  have hstep : ∀ t, FB L (t + k * (Q * m)) p = FB L t p := by
    intro t
    refine X6_cancel (f := FB L (t + k * (Q * m))) (g := FB L t) hp (fun q hq hqp => ?_) ?_
    · unfold FB
      rw [add_mod_dvd (Nat.dvd_mul_left_of_dvd (Nat.dvd_mul_right_of_dvd (hQ q hq hqp) m) k)]
    · rw [← chg_X6 hw, ← chg_X6 hw, ← Nat.mul_assoc]
      exact hm.mul (k * Q) t
  refine F_alike hw (fun r hr => ?_)
  induction r with
  | zero => rfl
  | succ r ih =>
    rw [← ih (by omega)]
    have h1 := hstep r
    unfold FB at h1
    have e1 : (r + k * (Q * m)) % p = r + 1 := by
      rw [Nat.add_mod, hk, Nat.mod_eq_of_lt (show r < p by omega)]
      exact Nat.mod_eq_of_lt hr
    rw [e1, Nat.mod_eq_of_lt (show r < p by omega)] at h1
    exact h1
theorem ccyk_cop (L : LV) : ∀ k, k < 6 → Nat.Coprime (ccyk L k) (NUMf k) := by
  have base : ∀ k, k < 6 → ∀ j, j < k → Nat.Coprime (NUMf j) (NUMf k) := by decide +kernel
  have key : ∀ k m, m < 6 → k ≤ m → Nat.Coprime (ccyk L k) (NUMf m) := by
    intro k
    induction k with
    | zero => intro m _ _; exact Nat.coprime_one_left _
    | succ k ih =>
      intro m hm hk
      simp only [ccyk]
      split
      · exact ih m hm (by omega)
      · exact Nat.Coprime.mul_left (ih m hm (by omega)) (base m hm k (by omega))
  exact fun k hk => key k k hk (Nat.le_refl k)
theorem ccy_min {L : LV} (hw : WFb L) {m : Nat} (hm : Per L m) : ccy L ∣ m := by
  have key : ∀ k, k ≤ 6 → ccyk L k ∣ m := by
    intro k
    induction k with
    | zero => intro _; exact Nat.one_dvd m
    | succ k ih =>
      intro hk
      simp only [ccyk]
      split
      · exact ih (by omega)
      · rename_i h
        exact Nat.Coprime.mul_dvd_of_dvd_of_dvd (ccyk_cop L k (by omega)) (ih (by omega)) (per_dvd hw hm (NUMf_P (by omega)) h)
  exact key 6 (Nat.le_refl 6)
/-! on and off -/
theorem sut_succ {t n o : Nat} (hn : 0 < n) (ho : o < n) : sut (t + 1) n o = sut t n o + (if (t + 1) % n = o then 1 else 0) := by
  unfold sut
  by_cases h1 : t + 1 < o
  · rw [if_pos h1, if_pos (by omega), if_neg]
    rw [Nat.mod_eq_of_lt (by omega)]; omega
  · rw [if_neg h1]
    by_cases h2 : t < o
    · have : t + 1 = o := by omega
      rw [if_pos h2, this, Nat.sub_self, Nat.zero_div, Nat.mod_eq_of_lt ho, if_pos rfl]
    · rw [if_neg h2]
      have e : t + 1 - o = (t - o) + 1 := by omega
      rw [e, Nat.succ_div]
      have hd : (n ∣ t - o + 1) ↔ (t + 1) % n = o := by
        constructor
        · rintro ⟨c, hc⟩
          have : t + 1 = o + n * c := by omega
          rw [this, Nat.add_mul_mod_self_left, Nat.mod_eq_of_lt ho]
        · intro hm
          have := Nat.div_add_mod (t + 1) n
          exact ⟨(t + 1) / n, by omega⟩
      by_cases h3 : n ∣ t - o + 1
      · rw [if_pos h3, if_pos (hd.mp h3)]
      · rw [if_neg h3, if_neg (fun z => h3 (hd.mpr z))]
theorem trn_succ {L : LV} (t : Nat) : ∀ k, (∀ i, i < k → isP (lnu L i) ∧ lof L i < lnu L i) → trn L (t + 1) k = trn L t k + strk L (t + 1) k
  | 0, _ => rfl
  | k + 1, h => by
    have ih := trn_succ (L := L) t k (fun i hi => h i (by omega))
    have hk := h k (by omega)
    have := isP_le hk.1
    simp only [trn, strk]
    rw [ih, sut_succ (by omega) hk.2]
    omega
theorem onB_succ {L : LV} (hw : WFb L) (t : Nat) : onB L (t + 1) = (onB L t ^^ chgB L (t + 1)) := by
  unfold onB chgB
  rw [trn_succ t _ hw]
  generalize trn L t (lbc L) = a
  generalize strk L (t + 1) (lbc L) = b
  have e : decide ((a + b) % 2 = 1) = (decide (a % 2 = 1) ^^ decide (b % 2 = 1)) := by
    by_cases ha : a % 2 = 1 <;> by_cases hb : b % 2 = 1 <;> simp only [ha, hb, decide_true, decide_false] <;> simp <;> omega
  rw [e]
  cases lon L <;> cases decide (a % 2 = 1) <;> cases decide (b % 2 = 1) <;> rfl
theorem trn_0 {L : LV} : ∀ k, (∀ i, i < k → isP (lnu L i) ∧ lof L i < lnu L i) → trn L 0 k = strk L 0 k
  | 0, _ => rfl
  | k + 1, h => by
    have ih := trn_0 (L := L) k (fun i hi => h i (by omega))
    have hk := h k (by omega)
    have := isP_le hk.1
    simp only [trn, strk]
    rw [ih]
    congr 1
    unfold sut
    rw [Nat.zero_mod]
    by_cases h0 : lof L k = 0
    · rw [if_neg (by omega), if_pos h0.symm]; simp
    · rw [if_pos (by omega), if_neg (fun z => h0 z.symm)]
theorem onB_0 {L : LV} (hw : WFb L) : onB L 0 = (lon L ^^ chgB L 0) := by
  unfold onB chgB
  rw [trn_0 _ hw]
/-- whether it is the other way round behind m moments -/
def rnd (L : LV) (m : Nat) : Bool := onB L m ^^ onB L 0
theorem rnd_t {L : LV} (hw : WFb L) {m : Nat} (hm : Per L m) : ∀ t, onB L (t + m) = (onB L t ^^ rnd L m)
  | 0 => by
    unfold rnd
    rw [Nat.zero_add]
    cases onB L m <;> cases onB L 0 <;> rfl
  | t + 1 => by
    rw [show t + 1 + m = (t + m) + 1 by omega, onB_succ hw, rnd_t hw hm t, onB_succ hw, show t + m + 1 = t + 1 + m by omega, hm]
    cases onB L t <;> cases rnd L m <;> cases chgB L (t + 1) <;> rfl
theorem rnd_mul {L : LV} (hw : WFb L) {m : Nat} (hm : Per L m) : ∀ k, rnd L (k * m) = (decide (k % 2 = 1) && rnd L m)
  | 0 => by simp [rnd]
  | k + 1 => by
    have ih := rnd_mul hw hm k
    have h1 := rnd_t hw hm (k * m)
    have e : rnd L ((k + 1) * m) = (rnd L (k * m) ^^ rnd L m) := by
      unfold rnd at h1 ⊢
      rw [Nat.succ_mul, h1]
      cases onB L (k * m) <;> cases onB L m <;> cases onB L 0 <;> rfl
    rw [e, ih]
    by_cases hk : k % 2 = 1
    · rw [decide_eq_true hk, decide_eq_false (by omega)]; cases rnd L m <;> rfl
    · rw [decide_eq_false hk, decide_eq_true (by omega)]; cases rnd L m <;> rfl
theorem rnd_ccy {L : LV} (hw : WFb L) : rnd L (ccy L) = (onB L (ccy L - 1) ^^ lon L) := by
  have h1 := (ccy_bd L).1
  have h2 := onB_succ hw (ccy L - 1)
  rw [show ccy L - 1 + 1 = ccy L by omega] at h2
  have h3 := per_ccy hw 0
  rw [Nat.zero_add] at h3
  unfold rnd
  rw [h2, onB_0 hw, h3]
  cases onB L (ccy L - 1) <;> cases chgB L 0 <;> cases lon L <;> rfl
theorem cyc_eq {L : LV} (hw : WFb L) : cyc L = if rnd L (ccy L) = true then 2 * ccy L else ccy L := by
  rw [rnd_ccy hw]
  unfold cyc
  cases onB L (ccy L - 1) <;> cases lon L <;> rfl
/-- behind m moments it always is as it was, just if m is a multiple of cyc -/
theorem cyc_iff {L : LV} (hw : WFb L) {m : Nat} : (Per L m ∧ onB L 0 = onB L m) ↔ cyc L ∣ m := by
  have hr : ∀ m, onB L 0 = onB L m ↔ rnd L m = false := fun m => by unfold rnd; cases onB L 0 <;> cases onB L m <;> decide
  have h1 := (ccy_bd L).1
  rw [cyc_eq hw, hr]
  constructor
  · rintro ⟨hp, hm⟩
    obtain ⟨k, rfl⟩ := ccy_min hw hp
    rw [Nat.mul_comm, rnd_mul hw (per_ccy hw)] at hm
    by_cases h : rnd L (ccy L) = true
    · rw [if_pos h]
      rw [h, Bool.and_true] at hm
      have : k % 2 = 0 := by have := of_decide_eq_false hm; omega
      obtain ⟨j, rfl⟩ := Nat.dvd_of_mod_eq_zero this
      exact ⟨j, by rw [Nat.mul_left_comm, Nat.mul_assoc]⟩
    · rw [if_neg h]
      exact Nat.dvd_mul_right _ _
  · intro hd
    by_cases h : rnd L (ccy L) = true
    · rw [if_pos h] at hd
      obtain ⟨j, rfl⟩ := hd
      have e : 2 * ccy L * j = (2 * j) * ccy L := by rw [Nat.mul_right_comm]
      rw [e]
      refine ⟨(per_ccy hw).mul _, ?_⟩
      rw [rnd_mul hw (per_ccy hw), decide_eq_false (by omega)]; rfl
    · rw [if_neg h] at hd
      obtain ⟨j, rfl⟩ := hd
      rw [Nat.mul_comm]
      refine ⟨(per_ccy hw).mul _, ?_⟩
      rw [rnd_mul hw (per_ccy hw)]
      cases hq : rnd L (ccy L)
      · exact Bool.and_false _
      · exact absurd hq h
/-! searches -/
theorem fnd_none {f : Nat → Bool} : ∀ {n lo : Nat}, fnd f lo n = none ↔ ∀ j, lo ≤ j → j < lo + n → f j = false
  | 0, lo => ⟨fun _ j h1 h2 => absurd h2 (by omega), fun _ => rfl⟩
  | n + 1, lo => by
    simp only [fnd]
    cases h : f lo
    · rw [if_neg (by decide), fnd_none]
      constructor
      · intro hh j h1 h2
        rcases Nat.eq_or_lt_of_le h1 with q | q
        · rw [← q]; exact h
        · exact hh j q (by omega)
      · exact fun hh j h1 h2 => hh j (by omega) (by omega)
    · rw [if_pos rfl]
      constructor
      · intro hh; cases hh
      · intro hh; rw [hh lo (Nat.le_refl lo) (by omega)] at h; cases h
theorem fnd_some {f : Nat → Bool} : ∀ {n lo k : Nat}, lo ≤ k → k < lo + n → f k = true → (∀ j, lo ≤ j → j < k → f j = false) → fnd f lo n = some k
  | 0, lo, k, h1, h2, _, _ => absurd h2 (by omega)
  | n + 1, lo, k, h1, h2, h3, h4 => by
    simp only [fnd]
    rcases Nat.eq_or_lt_of_le h1 with q | q
    · subst q; rw [if_pos h3]
    · rw [h4 lo (Nat.le_refl lo) q, if_neg (by decide)]
      exact fnd_some q (by omega) h3 (fun j a b => h4 j (by omega) b)
theorem fnd_spec {f : Nat → Bool} : ∀ {n lo k : Nat}, fnd f lo n = some k → lo ≤ k ∧ k < lo + n ∧ f k = true ∧ ∀ j, lo ≤ j → j < k → f j = false
  | 0, lo, k, h => by cases h
  | n + 1, lo, k, h => by
    simp only [fnd] at h
    cases hf : f lo
    · rw [hf, if_neg (by decide)] at h
      obtain ⟨a, b, c, d⟩ := fnd_spec h
      refine ⟨by omega, by omega, c, fun j h1 h2 => ?_⟩
      rcases Nat.eq_or_lt_of_le h1 with q | q
      · rw [← q]; exact hf
      · exact d j q h2
    · rw [hf, if_pos rfl] at h
      cases h
      exact ⟨Nat.le_refl _, by omega, hf, fun j a b => absurd b (by omega)⟩
theorem fnd_per {g : Nat → Bool} {c n : Nat} (hc : 1 ≤ c) (hn : c ≤ n) (hp : ∀ q, g (q + c) = g q) : fnd g 1 n = fnd g 1 c := by
  cases h : fnd g 1 c with
  | some k =>
    obtain ⟨h1, h2, h3, h4⟩ := fnd_spec h
    exact fnd_some h1 (by omega) h3 h4
  | none =>
    have h0 := fnd_none.mp h
    refine fnd_none.mpr (fun j hj _ => ?_)
    have key : ∀ m j, j ≤ m → 1 ≤ j → g j = false := by
      intro m
      induction m with
      | zero => intro j h1 h2; omega
      | succ m ih =>
        intro j h1 h2
        rcases Nat.lt_or_ge c j with q | q
        · have := ih (j - c) (by omega) (by omega)
          rw [← hp, show j - c + c = j by omega] at this
          exact this
        · exact h0 j h2 (by omega)
    exact key j j (Nat.le_refl j) hj
theorem fnd_like {f g : Nat → Bool} : ∀ {n lo : Nat}, (∀ j, lo ≤ j → (∀ i, lo ≤ i → i < j → g i = false) → f j = g j) → fnd f lo n = fnd g lo n
  | 0, lo, _ => rfl
  | n + 1, lo, h => by
    have h0 := h lo (Nat.le_refl lo) (fun i a b => absurd b (by omega))
    simp only [fnd]
    rw [h0]
    cases hg : g lo
    · rw [if_neg (by decide), if_neg (by decide)]
      refine fnd_like (fun j hj hh => h j (by omega) (fun i a b => ?_))
      rcases Nat.eq_or_lt_of_le a with q | q
      · rw [← q]; exact hg
      · exact hh i q b
    · rw [if_pos rfl, if_pos rfl]
theorem WFL.b {k : Nat} {L : LV} (h : WFL k L) : WFb L := h.2
theorem per_mod {L : LV} {m : Nat} (hm : Per L m) (t : Nat) : chgB L (t % m) = chgB L t := by
  have h := hm.mul (t / m) (t % m)
  rw [← h]
  congr 1
  have := Nat.mod_add_div t m
  rw [Nat.mul_comm] at this
  exact this.symm ▸ rfl
/-! the lamp by which two are compared -/
theorem trn_congr {L M : LV} (t : Nat) : ∀ k, (∀ i, i < k → lnu L i = lnu M i ∧ lof L i = lof M i) → trn L t k = trn M t k
  | 0, _ => rfl
  | k + 1, h => by
    simp only [trn]
    rw [trn_congr t k (fun i hi => h i (by omega)), (h k (by omega)).1, (h k (by omega)).2]
theorem trn_addL (L : LV) (n o t : Nat) : trn (addL L n o) t (lbc L + 1) = trn L t (lbc L) + sut t n o := by
  simp only [trn]
  rw [trn_congr (M := L) t (lbc L) (fun i hi => ⟨if_neg (by omega), if_neg (by omega)⟩)]
  show _ + sut t (if lbc L = lbc L then n else _) (if lbc L = lbc L then o else _) = _
  rw [if_pos rfl, if_pos rfl]
theorem trn_appK (L O : LV) (t : Nat) : ∀ k, trn (appK L O k) t (lbc L + k) = trn L t (lbc L) + trn O t k
  | 0 => rfl
  | k + 1 => by
    have ih := trn_appK L O t k
    have h := trn_addL (appK L O k) (lnu O k) (lof O k) t
    rw [appK_bc] at h
    show trn (addL (appK L O k) (lnu O k) (lof O k)) t (lbc L + k + 1) = trn L t (lbc L) + (trn O t k + sut t (lnu O k) (lof O k))
    rw [h, ih, Nat.add_assoc]
theorem lon_appK (L O : LV) : ∀ k, lon (appK L O k) = lon L
  | 0 => rfl
  | k + 1 => lon_appK L O k
theorem onB_diff (Z A B : LV) (t : Nat) : onB (diffL Z A B) t = (onB A t != onB B t) := by
  have hb : lbc (diffL Z A B) = (0 + lbc A) + lbc B := by
    unfold diffL
    rw [appK_bc, appK_bc]
  have ht : trn (diffL Z A B) t (lbc (diffL Z A B)) = trn A t (lbc A) + trn B t (lbc B) := by
    rw [hb]
    unfold diffL
    have h1 := trn_appK (appK ((0, lnu Z, lof Z, lon A != lon B, lcv Z) : LV) A (lbc A)) B t (lbc B)
    have h2 := trn_appK ((0, lnu Z, lof Z, lon A != lon B, lcv Z) : LV) A t (lbc A)
    rw [appK_bc] at h1
    have e0 : lbc ((0, lnu Z, lof Z, lon A != lon B, lcv Z) : LV) = 0 := rfl
    rw [e0] at h1 h2
    rw [h1, h2]
    show 0 + trn A t (lbc A) + trn B t (lbc B) = _
    omega
  have hl : lon (diffL Z A B) = (lon A != lon B) := by
    unfold diffL
    rw [lon_appK, lon_appK]
  unfold onB
  rw [ht, hl]
  generalize trn A t (lbc A) = x
  generalize trn B t (lbc B) = y
  by_cases hx : x % 2 = 1 <;> by_cases hy : y % 2 = 1
  · rw [decide_eq_false (by omega), decide_eq_true hx, decide_eq_true hy]; cases lon A <;> cases lon B <;> rfl
  · rw [decide_eq_true (by omega), decide_eq_true hx, decide_eq_false hy]; cases lon A <;> cases lon B <;> rfl
  · rw [decide_eq_true (by omega), decide_eq_false hx, decide_eq_true hy]; cases lon A <;> cases lon B <;> rfl
  · rw [decide_eq_false (by omega), decide_eq_false hx, decide_eq_false hy]; cases lon A <;> cases lon B <;> rfl
def tldF (A B : LV) (t q : Nat) : Bool := onB A (t + q) != onB B (t + q)
theorem told_eq {Z A B : LV} (hA : WFL 4 A) (hB : WFL 4 B) (t : Nat) : oI (fnd (tldF A B t) 0 60061) = if onB (diffL Z A B) t = true then nI 0 else untC (diffL Z A B) t := by
  have hD : WFb (diffL Z A B) := (diffL_wf hA hB).b
  have e : tldF A B t = fun q => onB (diffL Z A B) (t + q) := funext fun q => (onB_diff Z A B (t + q)).symm
  rw [e]
  generalize diffL Z A B = M at hD
  have hb := ccy_bd M
  cases h0 : onB M t
  · rw [if_neg (by decide), fnd_f (by rw [Nat.add_zero]; exact h0) (by decide)]
    show oI (fnd (fun q => onB M (t + q)) 1 60060) = untC M t
    rw [fnd_like (g := fun q => chgB M (t + q)) (fun j hj hh => ?_)]
    · unfold untC
      rw [fnd_per (c := ccy M) hb.1 (by omega) (fun q => by rw [← Nat.add_assoc]; exact per_ccy hD _)]
    · have key : ∀ i, i < j → onB M (t + i) = false := by
        intro i
        induction i with
        | zero => intro _; exact h0
        | succ i ih =>
          intro hi
          have := onB_succ hD (t + i)
          rw [ih (by omega)] at this
          have h2 := hh (i + 1) (by omega) hi
          rw [show t + (i + 1) = t + i + 1 by omega] at h2 ⊢
          rw [this, h2]; rfl
      have h3 := onB_succ hD (t + (j - 1))
      rw [key (j - 1) (by omega), show t + (j - 1) + 1 = t + j by omega] at h3
      show onB M (t + j) = chgB M (t + j)
      rw [h3]
      cases chgB M (t + j) <;> rfl
  · rw [if_pos rfl, fnd_t (by rw [Nat.add_zero]; exact h0) (by decide)]
    rfl
end
section
/-! the makers: what they may touch, how they start -/
def L0 : LV := (0, fun _ => 0, fun _ => 0, false, false)
def AN (a sz : Nat) : Nat → Prop := fun q => q = a ∨ sz ≤ q
def PN (D : va_G) (T : List (ClassId × FieldType)) (av : List Value) (sz : Nat) (Ph : Heap → Prop) : Array Value → State → Prop := fun a U => a = av.toArray ∧ va_K D vwCl T U ∧ U.heap.size = sz ∧ Ph U.heap
theorem PN_blind {D : va_G} {T : List (ClassId × FieldType)} {av : List Value} {sz : Nat} {Ph : Heap → Prop} : FrameBlind (PN D T av sz Ph) := fun a U g mk q =>
  ⟨q.1, va_K.moved (u := U) (U := U.calling g mk a) (Vm.Alike.refl U.vm) q.2.1, q.2.2⟩
theorem vdA1 {a sz : Nat} {x : va_E} : va_D (AN a sz) [(a, x)] := by
  refine ⟨fun i j q r hi hj _ => ?_, fun k q hk => ?_⟩
  · match i, j, hi, hj with
    | 0, 0, _, _ => rfl
  · match k, hk with
    | 0, hk => cases hk; exact Or.inl rfl
theorem KI {D : va_G} {cI cZ cL cJ cA : ClassId} {U : State} (hK : va_K D vwCl (TY cI cZ cL cJ ++ [(cA, .int)]) U) : cA = cI := by
  have h1 : U.vm.findClass ("[" ++ FieldType.int.toString) = some cA := (hK.2 4 (cA, .int) rfl).2
  have h2 : U.vm.findClass ("[" ++ FieldType.int.toString) = some cI := (hK.2 0 (cI, .int) rfl).2
  exact Option.some.inj (h1.symm.trans h2)
theorem KZ {D : va_G} {cI cZ cL cJ cA : ClassId} {U : State} (hK : va_K D vwCl (TY cI cZ cL cJ ++ [(cA, .boolean)]) U) : cA = cZ := by
  have h1 : U.vm.findClass ("[" ++ FieldType.boolean.toString) = some cA := (hK.2 4 (cA, .boolean) rfl).2
  have h2 : U.vm.findClass ("[" ++ FieldType.boolean.toString) = some cZ := (hK.2 1 (cZ, .boolean) rfl).2
  exact Option.some.inj (h1.symm.trans h2)
theorem AN_new {a sz q i : Nat} {ws : va_W} {e x : va_E} (hD : va_D (AN a sz) ws) (h0 : ws[0]? = some (a, x)) (hi : ws[i]? = some (q, e)) (hn : ¬ i = 0) : sz ≤ q := by
  rcases hD.2 i _ hi with h | h
  · exact absurd (hD.1 i 0 _ _ hi h0 h) hn
  · exact h
theorem Inj_of {A : Nat → Prop} {ws : va_W} {ad : Nat → Nat} {N : Nat} (hD : va_D A ws) (h : ∀ i, i < N → ∃ x, ws[i]? = some (ad i, x)) : Inj N ad := fun i j hi hj hij => by
  obtain ⟨_, h1⟩ := h i hi
  obtain ⟨_, h2⟩ := h j hj
  exact hD.1 i j _ _ h1 h2 hij
set_option maxHeartbeats 4000000 in
set_option maxRecDepth 100000 in
/-- Lamp() -/
theorem c_X0_init (l : Launch) (D : va_G) (cI cZ cL cJ : ClassId) (a sz : Nat) : Met l yX0_init wsX0_init ({ frames := 1, cells := 2, slots := 16, locals := 12 } : Room) (PN D (TY cI cZ cL cJ) [.ref a] sz (fun H => va_P D vwCl [(a, .inr (0, [.null, .null, .int 0, .int 0, .int 0]))] H)) (va_Qv (fun u : Nat × Nat => sz ≤ u.1 ∧ sz ≤ u.2 ∧ u.1 ≠ u.2) (fun u t => va_P D vwCl (lampW cI a u.1 u.2 L0) t.heap) (AN a sz)) 2 16 (AN a sz) := by
  refine Met.ofW (cc := cX0_init) (maxL := 1) (ret := none) (by decide) rfl ?_
  intro p e s m args below meth c s₁ B hml hv
  obtain ⟨rfl, hK, hsz, hP⟩ := hv
  have hx := B.exec
  have hb := B.bytes
  have hr := B.returns
  have hts := atoms_spec (ws := wsX0_init) B.pre
  have hown : s.vm.findClass RX0 = some m.cls := findClass_of_methodNamed B.named
  have hlocks := B.notSynchronized
  have hin : meth.name = "<init>" := (name_of_methodNamed B.named B.method).1
  subst hsz
  have hD : va_D (AN a s.heap.size) [(a, .inr (0, [.null, .null, .int 0, .int 0, .int 0]))] := vdA1
  have hA : ∀ q : Nat, s.heap.size ≤ q → AN a s.heap.size q := fun q h => Or.inr h
  have hS : va_S (AN a s.heap.size) s.heap s.heap [] := va_S.rf
  have hP : va_P D vwCl [(a, .inr (0, [.null, .null, .int 0, .int 0, .int 0]))] s.heap := hP
  have hin0 : ∀ w ∈ wsX00, w ∈ wsX0_init := by decide +kernel
  have hl := lv_entry ([.ref a]) (n := 1) (Nat.le_of_ble_eq_true rfl)
  rw [lg_entry_eq]
  generalize (lg_sl ([.ref a]) ++ List.replicate (1 - (lg_sl ([.ref a])).length) Slot.unset).toArray = ls at hl ⊢
  have hl : lv_has ls 1 [(0, .ref a)] := hl
  refine lv_aload_n hx hb dX0_init_0 rfl (lv_at hl 0 rfl) ?_
  refine W.objInit hx hb hown (hts (.methodLink RX0 3 objectInit) (List.mem_of_getElem? (i := 1) rfl)) (hts (.instanceMethod objectInit) (List.mem_of_getElem? (i := 2) rfl)) (hts (.code objectInit ⟨#[0xb1]⟩ 1 none) (List.mem_of_getElem? (i := 3) rfl)) rfl (by rw [hml]; exact hl.1) rfl dX0_init_1 (Nat.le_of_ble_eq_true rfl) (Nat.le_of_ble_eq_true rfl) ?_
  refine W.eq (g2 := F0 m 4 ls []) rfl ?_
  refine lv_aload_n hx hb dX0_init_4 rfl (lv_at hl 0 rfl) ?_
  refine lv_bipush (v := nI 8) hx hb dX0_init_5 (by decide) ?_
  refine va_newa (atype := .int) (N' := 8) (a0 := (8, .inl (fun _ => 0))) hx hb (hts (.arrayClass .int) (List.mem_of_getElem? (i := 4) rfl)) rfl hK hP hD hS hA (fun _ => rfl) (by decide) (by decide +kernel) (Nat.le_of_ble_eq_true rfl) (Nat.le_of_ble_eq_true rfl) (Nat.le_of_ble_eq_true rfl) dX0_init_7 (fun q1 cA_4 H hKa_4 hP hD hS => ?_)
  rw [KI hKa_4] at hP hD
  have hP : va_P D vwCl [(a, .inr (0, [.null, .null, .int 0, .int 0, .int 0])), (q1, .inl (cI, 8, .inl (fun _ => 0)))] H := hP
  have hD : va_D (AN a s.heap.size) [(a, .inr (0, [.null, .null, .int 0, .int 0, .int 0])), (q1, .inl (cI, 8, .inl (fun _ => 0)))] := hD
  refine va_putF (D := D) (ci := 0) (v := .ref q1) (ty := .array .int) (C := RX0) (T := TX0) (N := 5) hx hb hts hin0 tyX0 tyX0_ok nmX0 hown hK hP hD hS 0 rfl rfl 0 (by decide) (hts (.fieldLink RX0 9 "LanternPrimes$Lamp" "numbers" "[I") (List.mem_of_getElem? (i := 5) rfl)) (fun _ h9 => h9) rfl hin rfl (by decide +kernel) rfl rfl (Nat.le_of_ble_eq_true rfl) dX0_init_9 (fun H locs hP hD hS => ?_)
  have hP : va_P D vwCl [(a, .inr (0, [.ref q1, .null, .int 0, .int 0, .int 0])), (q1, .inl (cI, 8, .inl (fun _ => 0)))] H := hP
  have hD : va_D (AN a s.heap.size) [(a, .inr (0, [.ref q1, .null, .int 0, .int 0, .int 0])), (q1, .inl (cI, 8, .inl (fun _ => 0)))] := hD
  refine lv_aload_n hx hb dX0_init_12 rfl (lv_at hl 0 rfl) ?_
  refine lv_bipush (v := nI 8) hx hb dX0_init_13 (by decide) ?_
  refine va_newa (atype := .int) (N' := 8) (a0 := (8, .inl (fun _ => 0))) hx hb (hts (.arrayClass .int) (List.mem_of_getElem? (i := 4) rfl)) rfl hK hP hD hS hA (fun _ => rfl) (by decide) (by decide +kernel) (Nat.le_of_ble_eq_true rfl) (Nat.le_of_ble_eq_true rfl) (Nat.le_of_ble_eq_true rfl) dX0_init_15 (fun q2 cA_12 H hKa_12 hP hD hS => ?_)
  rw [KI hKa_12] at hP hD
  have hP : va_P D vwCl [(a, .inr (0, [.ref q1, .null, .int 0, .int 0, .int 0])), (q1, .inl (cI, 8, .inl (fun _ => 0))), (q2, .inl (cI, 8, .inl (fun _ => 0)))] H := hP
  have hD : va_D (AN a s.heap.size) [(a, .inr (0, [.ref q1, .null, .int 0, .int 0, .int 0])), (q1, .inl (cI, 8, .inl (fun _ => 0))), (q2, .inl (cI, 8, .inl (fun _ => 0)))] := hD
  refine va_putF (D := D) (ci := 0) (v := .ref q2) (ty := .array .int) (C := RX0) (T := TX0) (N := 5) hx hb hts hin0 tyX0 tyX0_ok nmX0 hown hK hP hD hS 0 rfl rfl 1 (by decide) (hts (.fieldLink RX0 15 "LanternPrimes$Lamp" "offsets" "[I") (List.mem_of_getElem? (i := 6) rfl)) (fun _ h9 => h9) rfl hin rfl (by decide +kernel) rfl rfl (Nat.le_of_ble_eq_true rfl) dX0_init_17 (fun H locs hP hD hS => ?_)
  have hP : va_P D vwCl [(a, .inr (0, [.ref q1, .ref q2, .int 0, .int 0, .int 0])), (q1, .inl (cI, 8, .inl (fun _ => 0))), (q2, .inl (cI, 8, .inl (fun _ => 0)))] H := hP
  have hD : va_D (AN a s.heap.size) [(a, .inr (0, [.ref q1, .ref q2, .int 0, .int 0, .int 0])), (q1, .inl (cI, 8, .inl (fun _ => 0))), (q2, .inl (cI, 8, .inl (fun _ => 0)))] := hD
  have h_1 : s.heap.size ≤ q1 := AN_new hD rfl (i := 1) rfl (by decide)
  have h_2 : s.heap.size ≤ q2 := AN_new hD rfl (i := 2) rfl (by decide)
  have h_3 : q1 ≠ q2 := fun h => absurd (hD.1 1 2 _ _ rfl rfl h) (by decide)
  exact W.vret hx hb hr (fun t ht hW => ⟨⟨(q1, q2), rfl, ⟨h_1, h_2, h_3⟩, by show va_P D vwCl (lampW cI a q1 q2 L0) t.heap; rw [ht]; exact hP⟩, hS.F ht⟩) hS.2.2 dX0_init_20
end
section
/-! the class's maker: a row of eight lamps, and a ninth -/
theorem vP_left {D : va_G} {cl : List vw_C} {w1 w2 : va_W} {H : Heap} (h : va_P D cl (w1 ++ w2) H) : va_P D cl w1 H := fun k q hk => h k q (by rw [List.getElem?_append_left (List.getElem?_eq_some_iff.mp hk).1]; exact hk)
theorem vP_right {D : va_G} {cl : List vw_C} {w1 w2 : va_W} {H : Heap} (h : va_P D cl (w1 ++ w2) H) : va_P D cl w2 H := fun k q hk => h (w1.length + k) q (by rw [List.getElem?_append_right (Nat.le_add_right _ _), Nat.add_sub_cancel_left]; exact hk)
theorem vd_of {A : Nat → Prop} {ws : va_W} {ad : Nat → Nat} {N : Nat} (h : ws.map (fun q => q.1) = (List.range N).map ad) (hI : Inj N ad) (hA : ∀ i, i < N → A (ad i)) : va_D A ws := by
  have key : ∀ (i : Nat) (q : Nat × va_E), ws[i]? = some q → i < N ∧ q.1 = ad i := by
    intro i q hq
    have h1 : (ws.map (fun q => q.1))[i]? = some q.1 := by rw [List.getElem?_map, hq]; rfl
    rw [h, List.getElem?_map] at h1
    by_cases hi : i < N
    · rw [List.getElem?_range hi] at h1
      have h2 : some (ad i) = some q.1 := h1
      exact ⟨hi, (Option.some.inj h2).symm⟩
    · rw [List.getElem?_eq_none (by rw [List.length_range]; omega)] at h1
      cases h1
  refine ⟨fun i j q r hi hj hqr => ?_, fun k q hk => ?_⟩
  · obtain ⟨a1, a2⟩ := key i q hi
    obtain ⟨b1, b2⟩ := key j r hj
    exact hI i j a1 b1 (a2.symm.trans (hqr.trans b2))
  · obtain ⟨a1, a2⟩ := key k q hk
    rw [a2]; exact hA k a1
theorem vd_last {A : Nat → Prop} {ws : va_W} {a : Nat} {x : va_E} (h : va_D A (ws ++ [(a, x)])) : (∀ (i : Nat) (q : Nat × va_E), ws[i]? = some q → q.1 ≠ a) ∧ A a := by
  have hz : (ws ++ [(a, x)])[ws.length]? = some (a, x) := by rw [List.getElem?_append_right (Nat.le_refl _), Nat.sub_self]; rfl
  refine ⟨fun i q hq hne => ?_, h.2 _ _ hz⟩
  have hi := (List.getElem?_eq_some_iff.mp hq).1
  have := h.1 i ws.length q (a, x) (by rw [List.getElem?_append_left hi]; exact hq) hz hne
  omega
abbrev rowW (cL : ClassId) (a r : Nat) (ad : Nat → Nat) (k : Nat) (d : Value) : va_W := [(a, .inr (1, [.ref r, d, .int 0, .int 0, .int 0])), (r, .inl (cL, 8, .inr (.inr (.inr (.inr (fun j => if j < k then some (ad (2 + 3 * j)) else none))))))]
def wlA (cI : ClassId) (ad : Nat → Nat) : Nat → va_W
  | 0 => []
  | k + 1 => wlA cI ad k ++ lpW cI ad (fun _ => L0) k
theorem big_fst {cI cL : ClassId} {a r : Nat} {ad : Nat → Nat} {d : Value} (j : Nat) (h0 : ad 0 = a) (h1 : ad 1 = r) : ∀ k, ((rowW cL a r ad j d ++ wlA cI ad k).map (fun q => q.1)) = (List.range (2 + 3 * k)).map ad
  | 0 => by
    show [a, r] = [ad 0, ad 1]
    rw [h0, h1]
  | k + 1 => by
    have ih := big_fst (cI := cI) (cL := cL) (d := d) j h0 h1 k
    show ((rowW cL a r ad j d ++ (wlA cI ad k ++ lpW cI ad (fun _ => L0) k)).map (fun q => q.1)) = _
    rw [← List.append_assoc, List.map_append, ih, show 2 + 3 * (k + 1) = 2 + 3 * k + 1 + 1 + 1 by omega, List.range_succ, List.range_succ, List.range_succ, List.map_append, List.map_append, List.map_append, List.append_assoc, List.append_assoc]
    congr 1
    show [ad (2 + 3 * k), ad (3 + 3 * k), ad (4 + 3 * k)] = [ad (2 + 3 * k), ad (2 + 3 * k + 1), ad (2 + 3 * k + 1 + 1)]
    rw [show 3 + 3 * k = 2 + 3 * k + 1 by omega, show 4 + 3 * k = 2 + 3 * k + 1 + 1 by omega]
theorem wlA_congr {cI : ClassId} {ad ae : Nat → Nat} : ∀ k, (∀ i, i < 2 + 3 * k → ad i = ae i) → wlA cI ad k = wlA cI ae k
  | 0, _ => rfl
  | k + 1, h => by
    have ih := wlA_congr (cI := cI) k (fun i hi => h i (by omega))
    show wlA cI ad k ++ lpW cI ad (fun _ => L0) k = wlA cI ae k ++ lpW cI ae (fun _ => L0) k
    rw [ih]
    show _ ++ lampW cI (ad (2 + 3 * k)) (ad (3 + 3 * k)) (ad (4 + 3 * k)) L0 = _ ++ lampW cI (ae (2 + 3 * k)) (ae (3 + 3 * k)) (ae (4 + 3 * k)) L0
    rw [h (2 + 3 * k) (by omega), h (3 + 3 * k) (by omega), h (4 + 3 * k) (by omega)]
theorem rowW_congr {cL : ClassId} {a r k : Nat} {d : Value} {ad ae : Nat → Nat} (h : ∀ i, i < 2 + 3 * k → ad i = ae i) : rowW cL a r ad k d = rowW cL a r ae k d := by
  have h1 : (fun j => if j < k then some (ad (2 + 3 * j)) else none) = (fun j => if j < k then some (ae (2 + 3 * j)) else none) := by
    funext j
    split
    · rw [h _ (by omega)]
    · rfl
  unfold rowW
  rw [h1]
theorem wlA_get {D : va_G} {cl : List vw_C} {cI : ClassId} {ad : Nat → Nat} {H : Heap} : ∀ k, va_P D cl (wlA cI ad k) H → ∀ j, j < k → va_P D cl (lpW cI ad (fun _ => L0) j) H
  | 0, _, j, hj => absurd hj (by omega)
  | k + 1, h, j, hj => by
    by_cases hjk : j = k
    · rw [hjk]; exact vP_right h
    · exact wlA_get k (vP_left h) j (by omega)
theorem wlA_len {cI : ClassId} {ad : Nat → Nat} : ∀ k, (wlA cI ad k).length = 3 * k
  | 0 => rfl
  | k + 1 => by
    show (wlA cI ad k ++ lpW cI ad (fun _ => L0) k).length = _
    rw [List.length_append, wlA_len k]
    show 3 * k + 3 = _
    omega
theorem big_get {cI cL : ClassId} {a r k j : Nat} {d : Value} {ad : Nat → Nat} : (rowW cL a r ad j d ++ wlA cI ad (k + 1))[2 + 3 * k]? = some (ad (2 + 3 * k), .inr (0, [.ref (ad (3 + 3 * k)), .ref (ad (4 + 3 * k)), .int (nI 0), .int (bI false), .int (bI false)])) := by
  show (rowW cL a r ad j d ++ (wlA cI ad k ++ lpW cI ad (fun _ => L0) k))[2 + 3 * k]? = _
  have hlen : (rowW cL a r ad j d ++ wlA cI ad k).length = 2 + 3 * k := by
    rw [List.length_append, wlA_len]
    rfl
  rw [← List.append_assoc, List.getElem?_append_right (by rw [hlen]; exact Nat.le_refl _), hlen, Nat.sub_self]
  rfl
/-- three new addresses -/
def ad3 (ad : Nat → Nat) (k b x y : Nat) : Nat → Nat := fun i => if i = 2 + 3 * k then b else if i = 3 + 3 * k then x else if i = 4 + 3 * k then y else ad i
theorem ad3_lt {ad : Nat → Nat} {k b x y i : Nat} (h : i < 2 + 3 * k) : ad i = ad3 ad k b x y i := by
  unfold ad3
  rw [if_neg (by omega), if_neg (by omega), if_neg (by omega)]
theorem ad3_0 (ad : Nat → Nat) (k b x y : Nat) : ad3 ad k b x y (2 + 3 * k) = b := if_pos rfl
theorem ad3_1 (ad : Nat → Nat) (k b x y : Nat) : ad3 ad k b x y (3 + 3 * k) = x := by
  unfold ad3
  rw [if_neg (by omega), if_pos rfl]
theorem ad3_2 (ad : Nat → Nat) (k b x y : Nat) : ad3 ad k b x y (4 + 3 * k) = y := by
  unfold ad3
  rw [if_neg (by omega), if_neg (by omega), if_pos rfl]
theorem ad3_inj {ad : Nat → Nat} {k b x y : Nat} (hI : Inj (2 + 3 * k) ad) (hb : ∀ i, i < 2 + 3 * k → ad i ≠ b) (hx : ∀ i, i < 2 + 3 * k → ad i ≠ x) (hy : ∀ i, i < 2 + 3 * k → ad i ≠ y) (h1 : b ≠ x) (h2 : b ≠ y) (h3 : x ≠ y) : Inj (2 + 3 * (k + 1)) (ad3 ad k b x y) := by
  intro i j hi hj hij
  unfold ad3 at hij
  have hI' := hI i j
  have b1 := hb i
  have b2 := hb j
  have x1 := hx i
  have x2 := hx j
  have y1 := hy i
  have y2 := hy j
  split at hij <;> (try split at hij) <;> (try split at hij) <;> (try split at hij) <;> (try split at hij) <;> (try split at hij) <;> first
    | omega
    | exact hI' (by omega) (by omega) hij
    | exact absurd hij.symm (b1 (by omega))
    | exact absurd hij.symm (x1 (by omega))
    | exact absurd hij.symm (y1 (by omega))
    | exact absurd hij.symm (b2 (by omega))
    | exact absurd hij.symm (x2 (by omega))
    | exact absurd hij.symm (y2 (by omega))
    | exact absurd hij (b1 (by omega))
    | exact absurd hij (x1 (by omega))
    | exact absurd hij (y1 (by omega))
    | exact absurd hij (b2 (by omega))
    | exact absurd hij (x2 (by omega))
    | exact absurd hij (y2 (by omega))
    | exact absurd hij h1
    | exact absurd hij h2
    | exact absurd hij h3
    | exact absurd hij.symm h1
    | exact absurd hij.symm h2
    | exact absurd hij.symm h3
theorem row8 {cL : ClassId} {ad : Nat → Nat} : vp_cell cL (8, .inr (.inr (.inr (.inr (fun j => if j < 8 then some (ad (2 + 3 * j)) else none))))) = vp_cell cL (8, .inr (.inr (.inr (.inr (fun j => some (ad (2 + 3 * j))))))) := by
  unfold vp_cell
  unfold arrV
  congr 2
def PN1 (D : va_G) (T : List (ClassId × FieldType)) (av : List Value) (sz : Nat) (Ph : Heap → Prop) : Array Value → State → Prop := fun a U => PN D T av sz Ph a U ∧ va_AO "LanternPrimes$Lamp" U ∧ va_Nw (.methodLinkNest "LanternPrimes" 15 yX0_init "LanternPrimes") U
theorem PN1_blind {D : va_G} {T : List (ClassId × FieldType)} {av : List Value} {sz : Nat} {Ph : Heap → Prop} : FrameBlind (PN1 D T av sz Ph) := fun a U g mk q =>
  ⟨PN_blind a U g mk q.1, va_AO.moved (u := U) (U := U.calling g mk a) (Vm.Alike.refl U.vm) q.2.1, q.2.2⟩
theorem KL {D : va_G} {cI cZ cL cJ cA : ClassId} {U : State} (hK : va_K D vwCl (TY cI cZ cL cJ ++ [(cA, .object "LanternPrimes$Lamp")]) U) : cA = cL := by
  obtain ⟨_, _, _, _, _, h1⟩ := (hK.2 4 (cA, .object "LanternPrimes$Lamp") rfl).2
  obtain ⟨_, _, _, _, _, h2⟩ := (hK.2 2 (cL, .object "LanternPrimes$Lamp") rfl).2
  exact Option.some.inj (h1.symm.trans h2)
set_option maxHeartbeats 4000000 in
set_option maxRecDepth 100000 in
/-- LanternPrimes() -/
theorem c_X1_init (l : Launch) (D : va_G) (cI cZ cL cJ : ClassId) (a sz : Nat) : Met l yX1_init wsX1_init ({ frames := 2, cells := 28, slots := 197, locals := 32 } : Room) (PN1 D (TY cI cZ cL cJ) [.ref a] sz (fun H => va_P D vwCl [(a, .inr (1, [.null, .null, .int 0, .int 0, .int 0]))] H)) (va_Qv (fun ad : Nat → Nat => ad 0 = a ∧ Inj 29 ad ∧ ∀ i, i < 29 → AN a sz (ad i)) (fun ad t => PX D cI cL ad 0 0 (nI 0) (fun _ => L0) t.heap) (AN a sz)) 28 197 (AN a sz) := by
  refine Met.ofW (cc := cX1_init) (maxL := 2) (ret := none) (by decide) rfl ?_
  intro p e s m args below meth c s₁ B hml hv
  obtain ⟨⟨rfl, hK, hsz, hP⟩, hAO, hNI⟩ := hv
  have hx := B.exec
  have hb := B.bytes
  have hr := B.returns
  have hts := atoms_spec (ws := wsX1_init) B.pre
  have hown : s.vm.findClass RX1 = some m.cls := findClass_of_methodNamed B.named
  have hlocks := B.notSynchronized
  have hin : meth.name = "<init>" := (name_of_methodNamed B.named B.method).1
  subst hsz
  have hD : va_D (AN a s.heap.size) [(a, .inr (1, [.null, .null, .int 0, .int 0, .int 0]))] := vdA1
  have hA : ∀ q : Nat, s.heap.size ≤ q → AN a s.heap.size q := fun q h => Or.inr h
  have hS : va_S (AN a s.heap.size) s.heap s.heap [] := va_S.rf
  have hP : va_P D vwCl [(a, .inr (1, [.null, .null, .int 0, .int 0, .int 0]))] s.heap := hP
  have hin1 : ∀ w ∈ wsX10, w ∈ wsX1_init := by decide +kernel
  have hl := lv_entry ([.ref a]) (n := 2) (Nat.le_of_ble_eq_true rfl)
  rw [lg_entry_eq]
  generalize (lg_sl ([.ref a]) ++ List.replicate (2 - (lg_sl ([.ref a])).length) Slot.unset).toArray = ls at hl ⊢
  have hl : lv_has ls 2 [(0, .ref a)] := hl
  refine lv_aload_n hx hb dX1_init_0 rfl (lv_at hl 0 rfl) ?_
  refine W.objInit hx hb hown (hts (.methodLink RX1 1 objectInit) (List.mem_of_getElem? (i := 1) rfl)) (hts (.instanceMethod objectInit) (List.mem_of_getElem? (i := 2) rfl)) (hts (.code objectInit ⟨#[0xb1]⟩ 1 none) (List.mem_of_getElem? (i := 3) rfl)) rfl (by rw [hml]; exact hl.1) rfl dX1_init_1 (Nat.le_of_ble_eq_true rfl) (Nat.le_of_ble_eq_true rfl) ?_
  refine W.eq (g2 := F0 m 4 ls []) rfl ?_
  have hin0 : ∀ w ∈ wsX00, w ∈ wsX1_init := by decide +kernel
  refine lv_aload_n hx hb dX1_init_4 rfl (lv_at hl 0 rfl) ?_
  refine lv_bipush (v := nI 8) hx hb dX1_init_5 (by decide) ?_
  refine va_newq (N' := 8) hx hb hown (hts (.classLink RX1 9 RX0) (List.mem_of_getElem? (i := 4) rfl)) hAO hK hP hD hS hA (by decide) (by decide +kernel) (Nat.le_of_ble_eq_true rfl) (Nat.le_of_ble_eq_true rfl) (Nat.le_of_ble_eq_true rfl) dX1_init_7 (fun r cA H hKa hP hD hS => ?_)
  rw [KL hKa] at hP hD
  refine va_putF (D := D) (ci := 1) (v := .ref r) (ty := .array (.object "LanternPrimes$Lamp")) (C := RX1) (T := TX1) (N := 5) hx hb hts hin1 tyX1 tyX1_ok nmX1 hown hK hP hD hS 0 rfl rfl 0 (by decide) (hts (.fieldLink RX1 11 "LanternPrimes" "row" "[LLanternPrimes$Lamp;") (List.mem_of_getElem? (i := 5) rfl)) (fun _ h9 => h9) rfl hin rfl (by decide +kernel) rfl rfl (Nat.le_of_ble_eq_true rfl) dX1_init_10 (fun H locs hP hD hS => ?_)
  have hra : r ≠ a := fun h => absurd (hD.1 1 0 _ _ rfl rfl h) (by decide)
  have hrA : AN a s.heap.size r := hD.2 1 _ rfl
  refine lv_iconst (v := nI 0) hx hb dX1_init_13 (by decide) ?_
  refine lv_istore_n (lv' := [(1, .int (nI 0)), (0, .ref a)]) hx hb dX1_init_14 rfl hl (by decide) rfl (fun ls hl => ?_)
  have loop_15 : ∀ (fu k : Nat) (ad : Nat → Nat), 9 - k ≤ fu → k ≤ 8 → ad 0 = a → ad 1 = r → Inj (2 + 3 * k) ad → (∀ i, i < 2 + 3 * k → AN a s.heap.size (ad i)) → ∀ (H : Heap) (locs : List Loc), va_P D vwCl (rowW cL a r ad k .null ++ wlA cI ad k) H → va_S (AN a s.heap.size) s.heap H locs → ∀ (ls : Array Slot), lv_has ls 2 [(1, .int (nI k)), (0, .ref a)] → W p l e (headSpec wsX1_init ({ frames := 2, cells := 28, slots := 197, locals := 32 } : Room)).room s m [.ref a].toArray below meth c H locs (1 + 3 * k) (8 + 21 * k) (MQ below (va_Qv (fun ad : Nat → Nat => ad 0 = a ∧ Inj 29 ad ∧ ∀ i, i < 29 → AN a s.heap.size (ad i)) (fun ad t => PX D cI cL ad 0 0 (nI 0) (fun _ => L0) t.heap) (AN a s.heap.size)) [.ref a].toArray s 28 197 (AN a s.heap.size)) (F0 m 15 ls []) := by
    intro fu
    induction fu with
    | zero => intro k ad hn_15 hk8; exact absurd hn_15 (by omega)
    | succ fu ih_15 =>
      intro k ad hn_15 hk8 h0 h1 hI hAd H locs hP hS ls hl
      have hD : va_D (AN a s.heap.size) (rowW cL a r ad k .null ++ wlA cI ad k) := vd_of (big_fst k h0 h1 k) hI hAd
      refine lv_iload_n hx hb dX1_init_15 rfl (lv_at hl 0 rfl) ?_
      refine lv_bipush (v := nI 8) hx hb dX1_init_16 (by decide) ?_
      refine n_icmp_ge (a := k) (b := 8) (tgt := 40) hx hb (by omega) (by omega) dX1_init_18 (by decide) (fun c_18 => ?_) (fun c_18 => ?_)
      · obtain rfl : k = 8 := by omega
        refine lv_aload_n hx hb dX1_init_40 rfl (lv_at hl 1 rfl) ?_
        refine va_new (ci := 0) (fs := [.null, .null, .int 0, .int 0, .int 0]) (C := RX0) (T := TX0) (N := 5) hx hb hts hin0 tyX0 tyX0_ok hown (hts (.classLink RX1 9 RX0) (List.mem_of_getElem? (i := 4) rfl)) (hts (.instantiable RX0 5) (List.mem_of_getElem? (i := 6) rfl)) (hts (.initialized RX0) (List.mem_of_getElem? (i := 7) rfl)) hK hP hD hS hA rfl (fun j hj => by rcases (show j = 0 ∨ j = 1 ∨ j = 2 ∨ j = 3 ∨ j = 4 by omega) with rfl | rfl | rfl | rfl | rfl <;> rfl) (by show 1 + 3 * 8 + 1 ≤ 28; omega) (by show 8 + 21 * 8 + 5 ≤ 197; omega) dX1_init_41 (fun b H hP hD hS => ?_)
        have hS0 := hS
        refine lv_dup hx hb dX1_init_44 rfl ?_
        have hPl := vP_left hP
        have hPb := vP_right hP
        have hbl : b < H.size := (hPb 0 _ rfl).lt
        obtain ⟨hne, hAb⟩ := vd_last hD
        have hfree : ∀ q, AN b H.size q → AN a s.heap.size q := fun q h => h.elim (fun z => z ▸ hAb) (fun h => Or.inr (Nat.le_trans hS.1 h))
        refine va_callv (va_runIN (As := []) (rest := [.ref b, .ref a]) ⟨hx, hb, hml, hown, hts⟩ (c_X0_init l D cI cZ cL cJ b H.size) ⟨va_cnB 0 hts gX1_init_X0_init_n15 rfl rfl rfl hNI (hts (.initialized RX0) (List.mem_of_getElem? (i := 7) rfl)) (by decide +kernel) ⟨(Nat.le_of_ble_eq_true rfl), (Nat.le_of_ble_eq_true rfl)⟩, rfl, (hts (.instanceMethod yX0_init) (List.mem_of_getElem? (i := 9) rfl))⟩ ⟨PN_blind, fun U hU hW => ⟨rfl, va_K.moved hW.alike hK, by rw [hU], by rw [hU]; exact hPb⟩⟩ rfl rfl hl.1 rfl (lv_room (Nat.le_of_ble_eq_true rfl)) dX1_init_45 ⟨by show 1 + 3 * 8 + 1 + 2 ≤ 28; omega, by show 8 + 21 * 8 + 5 + 16 ≤ 197; omega⟩) hS (fun q _ h => hfree q h) hfree (fun u t H1 locs ht hvm hu hB hz hk1 hS => ?_)
        have hB : va_P D vwCl (lampW cI b u.1 u.2 L0) t.heap := hB
        rw [ht] at hB
        obtain ⟨u1, u2, u3⟩ := hu
        have hP1 := hPl.kept (fun i x hx => hk1 x.1 (hPl i x hx).lt (fun h => h.elim (fun z => hne i x hx z) (fun h => absurd (hPl i x hx).lt (Nat.not_lt.mpr h))))
        have hbig := big_fst (cI := cI) (cL := cL) (d := .null) 8 h0 h1 8
        have hold : ∀ i, i < 2 + 3 * 8 → ad i < H.size ∧ ad i ≠ b := fun i hi => by
          have hm : ((rowW cL a r ad 8 .null ++ wlA cI ad 8).map (fun q => q.1))[i]? = some (ad i) := by rw [hbig, List.getElem?_map, List.getElem?_range hi]; rfl
          rw [List.getElem?_map] at hm
          obtain ⟨x, hx1, hx2⟩ := Option.map_eq_some_iff.mp hm
          rw [← hx2]; exact ⟨(hPl i x hx1).lt, hne i x hx1⟩
        have hI2 : Inj (2 + 3 * (8 + 1)) (ad3 ad 8 b u.1 u.2) := ad3_inj hI (fun i hi => (hold i hi).2) (fun i hi => by have := (hold i hi).1; omega) (fun i hi => by have := (hold i hi).1; omega) (by omega) (by omega) u3
        have hA2 : ∀ i, i < 2 + 3 * (8 + 1) → AN a s.heap.size (ad3 ad 8 b u.1 u.2 i) := fun i hi => by
          unfold ad3
          split
          · exact hAb
          · split
            · exact Or.inr (Nat.le_trans hS0.1 u1)
            · split
              · exact Or.inr (Nat.le_trans hS0.1 u2)
              · exact hAd i (by omega)
        have h02 : ad3 ad 8 b u.1 u.2 0 = a := (ad3_lt (by omega)).symm.trans h0
        have h12 : ad3 ad 8 b u.1 u.2 1 = r := (ad3_lt (by omega)).symm.trans h1
        have hP2 : va_P D vwCl (rowW cL a r (ad3 ad 8 b u.1 u.2) 8 .null ++ wlA cI (ad3 ad 8 b u.1 u.2) (8 + 1)) H1 := by
          have hB2 : va_P D vwCl (lampW cI (ad3 ad 8 b u.1 u.2 (2 + 3 * 8)) (ad3 ad 8 b u.1 u.2 (3 + 3 * 8)) (ad3 ad 8 b u.1 u.2 (4 + 3 * 8)) L0) H1 := by rw [ad3_0, ad3_1, ad3_2]; exact hB
          rw [rowW_congr (fun i hi => ad3_lt (ad := ad) (k := 8) (b := b) (x := u.1) (y := u.2) (i := i) hi), wlA_congr (cI := cI) 8 (fun i hi => ad3_lt (ad := ad) (k := 8) (b := b) (x := u.1) (y := u.2) (i := i) hi)] at hP1
          have hP3 := hP1.app hB2
          rw [List.append_assoc] at hP3
          exact hP3
        have hD2 : va_D (AN a s.heap.size) (rowW cL a r (ad3 ad 8 b u.1 u.2) 8 .null ++ wlA cI (ad3 ad 8 b u.1 u.2) (8 + 1)) := vd_of (big_fst 8 h02 h12 (8 + 1)) hI2 hA2
        refine va_putF (D := D) (ci := 1) (v := .ref b) (ty := .object "LanternPrimes$Lamp") (C := RX1) (T := TX1) (N := 5) hx hb hts hin1 tyX1 tyX1_ok nmX1 hown hK hP2 hD2 hS 0 rfl rfl 1 (by decide) (hts (.fieldLink RX1 16 "LanternPrimes" "difference" "LLanternPrimes$Lamp;") (List.mem_of_getElem? (i := 8) rfl)) (fun _ h9 => h9) rfl hin rfl (by decide +kernel) rfl rfl (Nat.le_of_ble_eq_true rfl) dX1_init_48 (fun H locs hP hD hS => ?_)
        have hP : va_P D vwCl (rowW cL a r (ad3 ad 8 b u.1 u.2) 8 (.ref b) ++ wlA cI (ad3 ad 8 b u.1 u.2) 9) H := hP
        have hPX : PX D cI cL (ad3 ad 8 b u.1 u.2) 0 0 (nI 0) (fun _ => L0) H := by
          refine ⟨fun i q hq => ?_, fun j hj => wlA_get 9 (vP_right hP) j hj⟩
          have hr0 := vP_left hP 0 _ rfl
          have hr1 := vP_left hP 1 _ rfl
          match i, hq with
          | 0, hq =>
            cases hq
            rw [h02, h12, show ad3 ad 8 b u.1 u.2 26 = b from ad3_0 ad 8 b u.1 u.2]
            exact hr0
          | 1, hq =>
            cases hq
            rw [h12]
            have hr2 : H[r]? = some (vp_cell cL (8, .inr (.inr (.inr (.inr (fun j => if j < 8 then some (ad3 ad 8 b u.1 u.2 (2 + 3 * j)) else none)))))) := hr1
            rw [row8] at hr2
            exact hr2
        exact W.vret hx hb hr (fun t ht hW => ⟨⟨ad3 ad 8 b u.1 u.2, rfl, ⟨h02, hI2, hA2⟩, by show PX D cI cL _ 0 0 (nI 0) (fun _ => L0) t.heap; rw [ht]; exact hPX⟩, hS.F ht⟩) hS.2.2 dX1_init_51
      · refine lv_aload_n hx hb dX1_init_21 rfl (lv_at hl 1 rfl) ?_
        refine va_get (D := D) (ci := 1) (v := .ref r) (C := RX1) (T := TX1) (N := 5) hx hb hts hin1 hown hK hP 0 rfl rfl 0 (by decide) (hts (.fieldLink RX1 11 "LanternPrimes" "row" "[LLanternPrimes$Lamp;") (List.mem_of_getElem? (i := 5) rfl)) (fun _ h9 => h9) rfl dX1_init_22 ?_
        refine lv_iload_n hx hb dX1_init_25 rfl (lv_at hl 0 rfl) ?_
        refine va_new (ci := 0) (fs := [.null, .null, .int 0, .int 0, .int 0]) (C := RX0) (T := TX0) (N := 5) hx hb hts hin0 tyX0 tyX0_ok hown (hts (.classLink RX1 9 RX0) (List.mem_of_getElem? (i := 4) rfl)) (hts (.instantiable RX0 5) (List.mem_of_getElem? (i := 6) rfl)) (hts (.initialized RX0) (List.mem_of_getElem? (i := 7) rfl)) hK hP hD hS hA rfl (fun j hj => by rcases (show j = 0 ∨ j = 1 ∨ j = 2 ∨ j = 3 ∨ j = 4 by omega) with rfl | rfl | rfl | rfl | rfl <;> rfl) (by show 1 + 3 * k + 1 ≤ 28; omega) (by show 8 + 21 * k + 5 ≤ 197; omega) dX1_init_26 (fun b H hP hD hS => ?_)
        have hS0 := hS
        refine lv_dup hx hb dX1_init_29 rfl ?_
        have hPl := vP_left hP
        have hPb := vP_right hP
        have hbl : b < H.size := (hPb 0 _ rfl).lt
        obtain ⟨hne, hAb⟩ := vd_last hD
        have hfree : ∀ q, AN b H.size q → AN a s.heap.size q := fun q h => h.elim (fun z => z ▸ hAb) (fun h => Or.inr (Nat.le_trans hS.1 h))
        refine va_callv (va_runIN (As := []) (rest := [.ref b, .int (nI k), .ref r]) ⟨hx, hb, hml, hown, hts⟩ (c_X0_init l D cI cZ cL cJ b H.size) ⟨va_cnB 0 hts gX1_init_X0_init_n15 rfl rfl rfl hNI (hts (.initialized RX0) (List.mem_of_getElem? (i := 7) rfl)) (by decide +kernel) ⟨(Nat.le_of_ble_eq_true rfl), (Nat.le_of_ble_eq_true rfl)⟩, rfl, (hts (.instanceMethod yX0_init) (List.mem_of_getElem? (i := 9) rfl))⟩ ⟨PN_blind, fun U hU hW => ⟨rfl, va_K.moved hW.alike hK, by rw [hU], by rw [hU]; exact hPb⟩⟩ rfl rfl hl.1 rfl (lv_room (Nat.le_of_ble_eq_true rfl)) dX1_init_30 ⟨by show 1 + 3 * k + 1 + 2 ≤ 28; omega, by show 8 + 21 * k + 5 + 16 ≤ 197; omega⟩) hS (fun q _ h => hfree q h) hfree (fun u t H1 locs ht hvm hu hB hz hk1 hS => ?_)
        have hB : va_P D vwCl (lampW cI b u.1 u.2 L0) t.heap := hB
        rw [ht] at hB
        obtain ⟨u1, u2, u3⟩ := hu
        have hP1 := hPl.kept (fun i x hx => hk1 x.1 (hPl i x hx).lt (fun h => h.elim (fun z => hne i x hx z) (fun h => absurd (hPl i x hx).lt (Nat.not_lt.mpr h))))
        have hbig := big_fst (cI := cI) (cL := cL) (d := .null) k h0 h1 k
        have hold : ∀ i, i < 2 + 3 * k → ad i < H.size ∧ ad i ≠ b := fun i hi => by
          have hm : ((rowW cL a r ad k .null ++ wlA cI ad k).map (fun q => q.1))[i]? = some (ad i) := by rw [hbig, List.getElem?_map, List.getElem?_range hi]; rfl
          rw [List.getElem?_map] at hm
          obtain ⟨x, hx1, hx2⟩ := Option.map_eq_some_iff.mp hm
          rw [← hx2]; exact ⟨(hPl i x hx1).lt, hne i x hx1⟩
        have hI2 : Inj (2 + 3 * (k + 1)) (ad3 ad k b u.1 u.2) := ad3_inj hI (fun i hi => (hold i hi).2) (fun i hi => by have := (hold i hi).1; omega) (fun i hi => by have := (hold i hi).1; omega) (by omega) (by omega) u3
        have hA2 : ∀ i, i < 2 + 3 * (k + 1) → AN a s.heap.size (ad3 ad k b u.1 u.2 i) := fun i hi => by
          unfold ad3
          split
          · exact hAb
          · split
            · exact Or.inr (Nat.le_trans hS0.1 u1)
            · split
              · exact Or.inr (Nat.le_trans hS0.1 u2)
              · exact hAd i (by omega)
        have h02 : ad3 ad k b u.1 u.2 0 = a := (ad3_lt (by omega)).symm.trans h0
        have h12 : ad3 ad k b u.1 u.2 1 = r := (ad3_lt (by omega)).symm.trans h1
        have hP2 : va_P D vwCl (rowW cL a r (ad3 ad k b u.1 u.2) k .null ++ wlA cI (ad3 ad k b u.1 u.2) (k + 1)) H1 := by
          have hB2 : va_P D vwCl (lampW cI (ad3 ad k b u.1 u.2 (2 + 3 * k)) (ad3 ad k b u.1 u.2 (3 + 3 * k)) (ad3 ad k b u.1 u.2 (4 + 3 * k)) L0) H1 := by rw [ad3_0, ad3_1, ad3_2]; exact hB
          rw [rowW_congr (fun i hi => ad3_lt (ad := ad) (k := k) (b := b) (x := u.1) (y := u.2) (i := i) hi), wlA_congr (cI := cI) k (fun i hi => ad3_lt (ad := ad) (k := k) (b := b) (x := u.1) (y := u.2) (i := i) hi)] at hP1
          have hP3 := hP1.app hB2
          rw [List.append_assoc] at hP3
          exact hP3
        have hD2 : va_D (AN a s.heap.size) (rowW cL a r (ad3 ad k b u.1 u.2) k .null ++ wlA cI (ad3 ad k b u.1 u.2) (k + 1)) := vd_of (big_fst k h02 h12 (k + 1)) hI2 hA2
        refine va_astq (r := (RX0, TX0, 5)) hx hb hK hP2 hD2 hS 1 2 (2 + 3 * k) 0 rfl rfl (by rw [big_get, ad3_0]) rfl (vp_in_nI (by omega) (by decide)) dX1_init_33 (fun H locs hP hD hS => ?_)
        have hf : va_up (fun j => if j < k then some ((ad3 ad k b u.1 u.2) (2 + 3 * j)) else none) (nI k).toNatClampNeg (some b) = (fun j => if j < k + 1 then some ((ad3 ad k b u.1 u.2) (2 + 3 * j)) else none) := by
          rw [nI_clamp (by omega)]
          funext j
          unfold va_up
          by_cases hj : j = k
          · rw [if_pos hj, if_pos (by omega), hj, ad3_0]
          · rw [if_neg hj]
            show (if j < k then some ((ad3 ad k b u.1 u.2) (2 + 3 * j)) else none) = _
            by_cases hjk : j < k
            · rw [if_pos hjk, if_pos (by omega)]
            · rw [if_neg hjk, if_neg (by omega)]
        rw [hf] at hP
        have hP : va_P D vwCl (rowW cL a r (ad3 ad k b u.1 u.2) (k + 1) .null ++ wlA cI (ad3 ad k b u.1 u.2) (k + 1)) H := hP
        refine lv_iinc (v := nI (k + 1)) (lv' := [(1, .int (nI (k + 1))), (0, .ref a)]) hx hb dX1_init_34 hl (k := 0) rfl (nI_inc _) (by decide) rfl (fun ls hl => ?_)
        refine lv_goto (tgt := 15) hx hb dX1_init_37 (by decide) ?_
        refine W.widen (k := 1 + 3 * (k + 1)) (n := 8 + 21 * (k + 1)) (by omega) (by omega) ?_
        exact ih_15 (k + 1) (ad3 ad k b u.1 u.2) (by omega) (by omega) h02 h12 hI2 hA2 H locs hP hS ls hl
  have hf0 : (fun _ : Nat => (none : Option Nat)) = (fun j => if j < 0 then some ((fun i => if i = 0 then a else r) (2 + 3 * j)) else none) := by
    funext j
    rw [if_neg (by omega)]
  rw [hf0] at hP
  exact loop_15 9 0 (fun i => if i = 0 then a else r) (by omega) (by omega) rfl rfl (fun i j hi hj hij => by
    rcases (show i = 0 ∨ i = 1 by omega) with rfl | rfl <;> rcases (show j = 0 ∨ j = 1 by omega) with rfl | rfl <;> first | rfl | exact absurd hij.symm hra | exact absurd hij hra) (fun i hi => by
    rcases (show i = 0 ∨ i = 1 by omega) with rfl | rfl
    · exact Or.inl rfl
    · exact hrA) H locs hP hS ls hl
end
section
theorem dX2_init_0 : decode cX2_init 0 = .ok (.aload_n 0, 1) := by decide +kernel
theorem dX2_init_1 : decode cX2_init 1 = .ok (.invokespecial 1, 3) := by decide +kernel
theorem dX2_init_4 : decode cX2_init 4 = .ok (.aload_n 0, 1) := by decide +kernel
theorem dX2_init_5 : decode cX2_init 5 = .ok (.bipush 8, 2) := by decide +kernel
theorem dX2_init_7 : decode cX2_init 7 = .ok (.newarray .boolean, 2) := by decide +kernel
theorem dX2_init_9 : decode cX2_init 9 = .ok (.putfield 7, 3) := by decide +kernel
theorem dX2_init_12 : decode cX2_init 12 = .ok (.aload_n 0, 1) := by decide +kernel
theorem dX2_init_13 : decode cX2_init 13 = .ok (.bipush 8, 2) := by decide +kernel
theorem dX2_init_15 : decode cX2_init 15 = .ok (.newarray .boolean, 2) := by decide +kernel
theorem dX2_init_17 : decode cX2_init 17 = .ok (.putfield 13, 3) := by decide +kernel
theorem dX2_init_20 : decode cX2_init 20 = .ok (.aload_n 0, 1) := by decide +kernel
theorem dX2_init_21 : decode cX2_init 21 = .ok (.bipush 8, 2) := by decide +kernel
theorem dX2_init_23 : decode cX2_init 23 = .ok (.iconst 0, 1) := by decide +kernel
theorem dX2_init_24 : decode cX2_init 24 = .ok (.multianewarray 16 2, 4) := by decide +kernel
theorem dX2_init_28 : decode cX2_init 28 = .ok (.putfield 18, 3) := by decide +kernel
theorem dX2_init_31 : decode cX2_init 31 = .ok (.return_, 1) := by decide +kernel
theorem dX2_addBeat_0 : decode cX2_addBeat 0 = .ok (.aload_n 0, 1) := by decide +kernel
theorem dX2_addBeat_1 : decode cX2_addBeat 1 = .ok (.getfield 18, 3) := by decide +kernel
theorem dX2_addBeat_4 : decode cX2_addBeat 4 = .ok (.iload_n 1, 1) := by decide +kernel
theorem dX2_addBeat_5 : decode cX2_addBeat 5 = .ok (.aaload, 1) := by decide +kernel
theorem dX2_addBeat_6 : decode cX2_addBeat 6 = .ok (.arraylength, 1) := by decide +kernel
theorem dX2_addBeat_7 : decode cX2_addBeat 7 = .ok (.iconst 1, 1) := by decide +kernel
theorem dX2_addBeat_8 : decode cX2_addBeat 8 = .ok (.iadd, 1) := by decide +kernel
theorem dX2_addBeat_9 : decode cX2_addBeat 9 = .ok (.anewarray 21, 3) := by decide +kernel
theorem dX2_addBeat_12 : decode cX2_addBeat 12 = .ok (.astore 4, 2) := by decide +kernel
theorem dX2_addBeat_14 : decode cX2_addBeat 14 = .ok (.iconst 0, 1) := by decide +kernel
theorem dX2_addBeat_15 : decode cX2_addBeat 15 = .ok (.istore 5, 2) := by decide +kernel
theorem dX2_addBeat_17 : decode cX2_addBeat 17 = .ok (.iload 5, 2) := by decide +kernel
theorem dX2_addBeat_19 : decode cX2_addBeat 19 = .ok (.aload_n 0, 1) := by decide +kernel
theorem dX2_addBeat_20 : decode cX2_addBeat 20 = .ok (.getfield 18, 3) := by decide +kernel
theorem dX2_addBeat_23 : decode cX2_addBeat 23 = .ok (.iload_n 1, 1) := by decide +kernel
theorem dX2_addBeat_24 : decode cX2_addBeat 24 = .ok (.aaload, 1) := by decide +kernel
theorem dX2_addBeat_25 : decode cX2_addBeat 25 = .ok (.arraylength, 1) := by decide +kernel
theorem dX2_addBeat_26 : decode cX2_addBeat 26 = .ok (.if_icmp .ge 23, 3) := by decide +kernel
theorem dX2_addBeat_29 : decode cX2_addBeat 29 = .ok (.aload 4, 2) := by decide +kernel
theorem dX2_addBeat_31 : decode cX2_addBeat 31 = .ok (.iload 5, 2) := by decide +kernel
theorem dX2_addBeat_33 : decode cX2_addBeat 33 = .ok (.aload_n 0, 1) := by decide +kernel
theorem dX2_addBeat_34 : decode cX2_addBeat 34 = .ok (.getfield 18, 3) := by decide +kernel
theorem dX2_addBeat_37 : decode cX2_addBeat 37 = .ok (.iload_n 1, 1) := by decide +kernel
theorem dX2_addBeat_38 : decode cX2_addBeat 38 = .ok (.aaload, 1) := by decide +kernel
theorem dX2_addBeat_39 : decode cX2_addBeat 39 = .ok (.iload 5, 2) := by decide +kernel
theorem dX2_addBeat_41 : decode cX2_addBeat 41 = .ok (.aaload, 1) := by decide +kernel
theorem dX2_addBeat_42 : decode cX2_addBeat 42 = .ok (.aastore, 1) := by decide +kernel
theorem dX2_addBeat_43 : decode cX2_addBeat 43 = .ok (.iinc 5 1, 3) := by decide +kernel
theorem dX2_addBeat_46 : decode cX2_addBeat 46 = .ok (.goto (-29), 3) := by decide +kernel
theorem dX2_addBeat_49 : decode cX2_addBeat 49 = .ok (.aload 4, 2) := by decide +kernel
theorem dX2_addBeat_51 : decode cX2_addBeat 51 = .ok (.aload_n 0, 1) := by decide +kernel
theorem dX2_addBeat_52 : decode cX2_addBeat 52 = .ok (.getfield 18, 3) := by decide +kernel
theorem dX2_addBeat_55 : decode cX2_addBeat 55 = .ok (.iload_n 1, 1) := by decide +kernel
theorem dX2_addBeat_56 : decode cX2_addBeat 56 = .ok (.aaload, 1) := by decide +kernel
theorem dX2_addBeat_57 : decode cX2_addBeat 57 = .ok (.arraylength, 1) := by decide +kernel
theorem dX2_addBeat_58 : decode cX2_addBeat 58 = .ok (.iconst 2, 1) := by decide +kernel
theorem dX2_addBeat_59 : decode cX2_addBeat 59 = .ok (.newarray .int, 2) := by decide +kernel
theorem dX2_addBeat_61 : decode cX2_addBeat 61 = .ok (.dup, 1) := by decide +kernel
theorem dX2_addBeat_62 : decode cX2_addBeat 62 = .ok (.iconst 0, 1) := by decide +kernel
theorem dX2_addBeat_63 : decode cX2_addBeat 63 = .ok (.iload_n 2, 1) := by decide +kernel
theorem dX2_addBeat_64 : decode cX2_addBeat 64 = .ok (.iastore, 1) := by decide +kernel
theorem dX2_addBeat_65 : decode cX2_addBeat 65 = .ok (.dup, 1) := by decide +kernel
theorem dX2_addBeat_66 : decode cX2_addBeat 66 = .ok (.iconst 1, 1) := by decide +kernel
theorem dX2_addBeat_67 : decode cX2_addBeat 67 = .ok (.iload_n 3, 1) := by decide +kernel
theorem dX2_addBeat_68 : decode cX2_addBeat 68 = .ok (.iastore, 1) := by decide +kernel
theorem dX2_addBeat_69 : decode cX2_addBeat 69 = .ok (.aastore, 1) := by decide +kernel
theorem dX2_addBeat_70 : decode cX2_addBeat 70 = .ok (.aload_n 0, 1) := by decide +kernel
theorem dX2_addBeat_71 : decode cX2_addBeat 71 = .ok (.getfield 18, 3) := by decide +kernel
theorem dX2_addBeat_74 : decode cX2_addBeat 74 = .ok (.iload_n 1, 1) := by decide +kernel
theorem dX2_addBeat_75 : decode cX2_addBeat 75 = .ok (.aload 4, 2) := by decide +kernel
theorem dX2_addBeat_77 : decode cX2_addBeat 77 = .ok (.aastore, 1) := by decide +kernel
theorem dX2_addBeat_78 : decode cX2_addBeat 78 = .ok (.return_, 1) := by decide +kernel
theorem dX2_takeBeat_0 : decode cX2_takeBeat 0 = .ok (.aload_n 0, 1) := by decide +kernel
theorem dX2_takeBeat_1 : decode cX2_takeBeat 1 = .ok (.getfield 18, 3) := by decide +kernel
theorem dX2_takeBeat_4 : decode cX2_takeBeat 4 = .ok (.iload_n 1, 1) := by decide +kernel
theorem dX2_takeBeat_5 : decode cX2_takeBeat 5 = .ok (.aaload, 1) := by decide +kernel
theorem dX2_takeBeat_6 : decode cX2_takeBeat 6 = .ok (.arraylength, 1) := by decide +kernel
theorem dX2_takeBeat_7 : decode cX2_takeBeat 7 = .ok (.iconst 1, 1) := by decide +kernel
theorem dX2_takeBeat_8 : decode cX2_takeBeat 8 = .ok (.isub, 1) := by decide +kernel
theorem dX2_takeBeat_9 : decode cX2_takeBeat 9 = .ok (.anewarray 21, 3) := by decide +kernel
theorem dX2_takeBeat_12 : decode cX2_takeBeat 12 = .ok (.astore_n 3, 1) := by decide +kernel
theorem dX2_takeBeat_13 : decode cX2_takeBeat 13 = .ok (.iconst 0, 1) := by decide +kernel
theorem dX2_takeBeat_14 : decode cX2_takeBeat 14 = .ok (.istore 4, 2) := by decide +kernel
theorem dX2_takeBeat_16 : decode cX2_takeBeat 16 = .ok (.iload 4, 2) := by decide +kernel
theorem dX2_takeBeat_18 : decode cX2_takeBeat 18 = .ok (.aload_n 3, 1) := by decide +kernel
theorem dX2_takeBeat_19 : decode cX2_takeBeat 19 = .ok (.arraylength, 1) := by decide +kernel
theorem dX2_takeBeat_20 : decode cX2_takeBeat 20 = .ok (.if_icmp .ge 35, 3) := by decide +kernel
theorem dX2_takeBeat_23 : decode cX2_takeBeat 23 = .ok (.aload_n 3, 1) := by decide +kernel
theorem dX2_takeBeat_24 : decode cX2_takeBeat 24 = .ok (.iload 4, 2) := by decide +kernel
theorem dX2_takeBeat_26 : decode cX2_takeBeat 26 = .ok (.aload_n 0, 1) := by decide +kernel
theorem dX2_takeBeat_27 : decode cX2_takeBeat 27 = .ok (.getfield 18, 3) := by decide +kernel
theorem dX2_takeBeat_30 : decode cX2_takeBeat 30 = .ok (.iload_n 1, 1) := by decide +kernel
theorem dX2_takeBeat_31 : decode cX2_takeBeat 31 = .ok (.aaload, 1) := by decide +kernel
theorem dX2_takeBeat_32 : decode cX2_takeBeat 32 = .ok (.iload 4, 2) := by decide +kernel
theorem dX2_takeBeat_34 : decode cX2_takeBeat 34 = .ok (.iload_n 2, 1) := by decide +kernel
theorem dX2_takeBeat_35 : decode cX2_takeBeat 35 = .ok (.if_icmp .ge 8, 3) := by decide +kernel
theorem dX2_takeBeat_38 : decode cX2_takeBeat 38 = .ok (.iload 4, 2) := by decide +kernel
theorem dX2_takeBeat_40 : decode cX2_takeBeat 40 = .ok (.goto 7, 3) := by decide +kernel
theorem dX2_takeBeat_43 : decode cX2_takeBeat 43 = .ok (.iload 4, 2) := by decide +kernel
theorem dX2_takeBeat_45 : decode cX2_takeBeat 45 = .ok (.iconst 1, 1) := by decide +kernel
theorem dX2_takeBeat_46 : decode cX2_takeBeat 46 = .ok (.iadd, 1) := by decide +kernel
theorem dX2_takeBeat_47 : decode cX2_takeBeat 47 = .ok (.aaload, 1) := by decide +kernel
theorem dX2_takeBeat_48 : decode cX2_takeBeat 48 = .ok (.aastore, 1) := by decide +kernel
theorem dX2_takeBeat_49 : decode cX2_takeBeat 49 = .ok (.iinc 4 1, 3) := by decide +kernel
theorem dX2_takeBeat_52 : decode cX2_takeBeat 52 = .ok (.goto (-36), 3) := by decide +kernel
theorem dX2_takeBeat_55 : decode cX2_takeBeat 55 = .ok (.aload_n 0, 1) := by decide +kernel
theorem dX2_takeBeat_56 : decode cX2_takeBeat 56 = .ok (.getfield 18, 3) := by decide +kernel
theorem dX2_takeBeat_59 : decode cX2_takeBeat 59 = .ok (.iload_n 1, 1) := by decide +kernel
theorem dX2_takeBeat_60 : decode cX2_takeBeat 60 = .ok (.aload_n 3, 1) := by decide +kernel
theorem dX2_takeBeat_61 : decode cX2_takeBeat 61 = .ok (.aastore, 1) := by decide +kernel
theorem dX2_takeBeat_62 : decode cX2_takeBeat 62 = .ok (.return_, 1) := by decide +kernel
theorem dX2_strikes_0 : decode cX2_strikes 0 = .ok (.iconst 0, 1) := by decide +kernel
theorem dX2_strikes_1 : decode cX2_strikes 1 = .ok (.istore_n 3, 1) := by decide +kernel
theorem dX2_strikes_2 : decode cX2_strikes 2 = .ok (.aload_n 0, 1) := by decide +kernel
theorem dX2_strikes_3 : decode cX2_strikes 3 = .ok (.getfield 18, 3) := by decide +kernel
theorem dX2_strikes_6 : decode cX2_strikes 6 = .ok (.iload_n 1, 1) := by decide +kernel
theorem dX2_strikes_7 : decode cX2_strikes 7 = .ok (.aaload, 1) := by decide +kernel
theorem dX2_strikes_8 : decode cX2_strikes 8 = .ok (.astore 4, 2) := by decide +kernel
theorem dX2_strikes_10 : decode cX2_strikes 10 = .ok (.aload 4, 2) := by decide +kernel
theorem dX2_strikes_12 : decode cX2_strikes 12 = .ok (.arraylength, 1) := by decide +kernel
theorem dX2_strikes_13 : decode cX2_strikes 13 = .ok (.istore 5, 2) := by decide +kernel
theorem dX2_strikes_15 : decode cX2_strikes 15 = .ok (.iconst 0, 1) := by decide +kernel
theorem dX2_strikes_16 : decode cX2_strikes 16 = .ok (.istore 6, 2) := by decide +kernel
theorem dX2_strikes_18 : decode cX2_strikes 18 = .ok (.iload 6, 2) := by decide +kernel
theorem dX2_strikes_20 : decode cX2_strikes 20 = .ok (.iload 5, 2) := by decide +kernel
theorem dX2_strikes_22 : decode cX2_strikes 22 = .ok (.if_icmp .ge 33, 3) := by decide +kernel
theorem dX2_strikes_25 : decode cX2_strikes 25 = .ok (.aload 4, 2) := by decide +kernel
theorem dX2_strikes_27 : decode cX2_strikes 27 = .ok (.iload 6, 2) := by decide +kernel
theorem dX2_strikes_29 : decode cX2_strikes 29 = .ok (.aaload, 1) := by decide +kernel
theorem dX2_strikes_30 : decode cX2_strikes 30 = .ok (.astore 7, 2) := by decide +kernel
theorem dX2_strikes_32 : decode cX2_strikes 32 = .ok (.iload_n 2, 1) := by decide +kernel
theorem dX2_strikes_33 : decode cX2_strikes 33 = .ok (.aload 7, 2) := by decide +kernel
theorem dX2_strikes_35 : decode cX2_strikes 35 = .ok (.iconst 1, 1) := by decide +kernel
theorem dX2_strikes_36 : decode cX2_strikes 36 = .ok (.iaload, 1) := by decide +kernel
theorem dX2_strikes_37 : decode cX2_strikes 37 = .ok (.isub, 1) := by decide +kernel
theorem dX2_strikes_38 : decode cX2_strikes 38 = .ok (.aload 7, 2) := by decide +kernel
theorem dX2_strikes_40 : decode cX2_strikes 40 = .ok (.iconst 0, 1) := by decide +kernel
theorem dX2_strikes_41 : decode cX2_strikes 41 = .ok (.iaload, 1) := by decide +kernel
theorem dX2_strikes_42 : decode cX2_strikes 42 = .ok (.irem, 1) := by decide +kernel
theorem dX2_strikes_43 : decode cX2_strikes 43 = .ok (.ifCond .ne 6, 3) := by decide +kernel
theorem dX2_strikes_46 : decode cX2_strikes 46 = .ok (.iinc 3 1, 3) := by decide +kernel
theorem dX2_strikes_49 : decode cX2_strikes 49 = .ok (.iinc 6 1, 3) := by decide +kernel
theorem dX2_strikes_52 : decode cX2_strikes 52 = .ok (.goto (-34), 3) := by decide +kernel
theorem dX2_strikes_55 : decode cX2_strikes 55 = .ok (.iload_n 3, 1) := by decide +kernel
theorem dX2_strikes_56 : decode cX2_strikes 56 = .ok (.ireturn, 1) := by decide +kernel
set_option maxRecDepth 20000 in
theorem ggX2_changes_X2_strikes : GoodIn wsX2_changes wsX2_strikes := goodIn_r _ [5, 6, 7, 8, 9, 10, 11, 12] (by decide +kernel) (by decide +kernel)
set_option maxRecDepth 20000 in
theorem gX2_changes_X2_strikes : GoodIn wsX2_changes (wsV RX2 23 RX2 yX2_strikes wsX2_strikes) := goodIn_app (goodIn_of _ (by decide +kernel)) ggX2_changes_X2_strikes
theorem dX2_changes_0 : decode cX2_changes 0 = .ok (.aload_n 0, 1) := by decide +kernel
theorem dX2_changes_1 : decode cX2_changes 1 = .ok (.iload_n 1, 1) := by decide +kernel
theorem dX2_changes_2 : decode cX2_changes 2 = .ok (.iload_n 2, 1) := by decide +kernel
theorem dX2_changes_3 : decode cX2_changes 3 = .ok (.invokevirtual 23, 3) := by decide +kernel
theorem dX2_changes_6 : decode cX2_changes 6 = .ok (.iconst 2, 1) := by decide +kernel
theorem dX2_changes_7 : decode cX2_changes 7 = .ok (.irem, 1) := by decide +kernel
theorem dX2_changes_8 : decode cX2_changes 8 = .ok (.ifCond .eq 7, 3) := by decide +kernel
theorem dX2_changes_11 : decode cX2_changes 11 = .ok (.iconst 1, 1) := by decide +kernel
theorem dX2_changes_12 : decode cX2_changes 12 = .ok (.goto 4, 3) := by decide +kernel
theorem dX2_changes_15 : decode cX2_changes 15 = .ok (.iconst 0, 1) := by decide +kernel
theorem dX2_changes_16 : decode cX2_changes 16 = .ok (.ireturn, 1) := by decide +kernel
set_option maxRecDepth 20000 in
theorem ggX2_row_X2_changes : GoodIn wsX2_row wsX2_changes := goodIn_r _ [7, 8, 9, 10, 6, 11, 12, 13, 14, 15, 16, 17, 18] (by decide +kernel) (by decide +kernel)
set_option maxRecDepth 20000 in
theorem gX2_row_X2_changes : GoodIn wsX2_row (wsV RX2 27 RX2 yX2_changes wsX2_changes) := goodIn_app (goodIn_of _ (by decide +kernel)) ggX2_row_X2_changes
theorem dX2_row_0 : decode cX2_row 0 = .ok (.iload_n 2, 1) := by decide +kernel
theorem dX2_row_1 : decode cX2_row 1 = .ok (.iconst 1, 1) := by decide +kernel
theorem dX2_row_2 : decode cX2_row 2 = .ok (.iadd, 1) := by decide +kernel
theorem dX2_row_3 : decode cX2_row 3 = .ok (.newarray .boolean, 2) := by decide +kernel
theorem dX2_row_5 : decode cX2_row 5 = .ok (.astore_n 3, 1) := by decide +kernel
theorem dX2_row_6 : decode cX2_row 6 = .ok (.aload_n 0, 1) := by decide +kernel
theorem dX2_row_7 : decode cX2_row 7 = .ok (.getfield 7, 3) := by decide +kernel
theorem dX2_row_10 : decode cX2_row 10 = .ok (.iload_n 1, 1) := by decide +kernel
theorem dX2_row_11 : decode cX2_row 11 = .ok (.baload, 1) := by decide +kernel
theorem dX2_row_12 : decode cX2_row 12 = .ok (.istore 4, 2) := by decide +kernel
theorem dX2_row_14 : decode cX2_row 14 = .ok (.iconst 0, 1) := by decide +kernel
theorem dX2_row_15 : decode cX2_row 15 = .ok (.istore 5, 2) := by decide +kernel
theorem dX2_row_17 : decode cX2_row 17 = .ok (.iload 5, 2) := by decide +kernel
theorem dX2_row_19 : decode cX2_row 19 = .ok (.iload_n 2, 1) := by decide +kernel
theorem dX2_row_20 : decode cX2_row 20 = .ok (.if_icmp .gt 37, 3) := by decide +kernel
theorem dX2_row_23 : decode cX2_row 23 = .ok (.aload_n 0, 1) := by decide +kernel
theorem dX2_row_24 : decode cX2_row 24 = .ok (.iload_n 1, 1) := by decide +kernel
theorem dX2_row_25 : decode cX2_row 25 = .ok (.iload 5, 2) := by decide +kernel
theorem dX2_row_27 : decode cX2_row 27 = .ok (.invokevirtual 27, 3) := by decide +kernel
theorem dX2_row_30 : decode cX2_row 30 = .ok (.ifCond .eq 15, 3) := by decide +kernel
theorem dX2_row_33 : decode cX2_row 33 = .ok (.iload 4, 2) := by decide +kernel
theorem dX2_row_35 : decode cX2_row 35 = .ok (.ifCond .ne 7, 3) := by decide +kernel
theorem dX2_row_38 : decode cX2_row 38 = .ok (.iconst 1, 1) := by decide +kernel
theorem dX2_row_39 : decode cX2_row 39 = .ok (.goto 4, 3) := by decide +kernel
theorem dX2_row_42 : decode cX2_row 42 = .ok (.iconst 0, 1) := by decide +kernel
theorem dX2_row_43 : decode cX2_row 43 = .ok (.istore 4, 2) := by decide +kernel
theorem dX2_row_45 : decode cX2_row 45 = .ok (.aload_n 3, 1) := by decide +kernel
theorem dX2_row_46 : decode cX2_row 46 = .ok (.iload 5, 2) := by decide +kernel
theorem dX2_row_48 : decode cX2_row 48 = .ok (.iload 4, 2) := by decide +kernel
theorem dX2_row_50 : decode cX2_row 50 = .ok (.bastore, 1) := by decide +kernel
theorem dX2_row_51 : decode cX2_row 51 = .ok (.iinc 5 1, 3) := by decide +kernel
theorem dX2_row_54 : decode cX2_row 54 = .ok (.goto (-37), 3) := by decide +kernel
theorem dX2_row_57 : decode cX2_row 57 = .ok (.aload_n 3, 1) := by decide +kernel
theorem dX2_row_58 : decode cX2_row 58 = .ok (.areturn, 1) := by decide +kernel
set_option maxRecDepth 20000 in
theorem ggX2_pass_X2_changes : GoodIn wsX2_pass wsX2_changes := goodIn_r _ [8, 9, 10, 11, 7, 12, 13, 14, 15, 16, 17, 18, 19] (by decide +kernel) (by decide +kernel)
set_option maxRecDepth 20000 in
theorem gX2_pass_X2_changes : GoodIn wsX2_pass (wsV RX2 27 RX2 yX2_changes wsX2_changes) := goodIn_app (goodIn_of _ (by decide +kernel)) ggX2_pass_X2_changes
theorem dX2_pass_0 : decode cX2_pass 0 = .ok (.aload_n 0, 1) := by decide +kernel
theorem dX2_pass_1 : decode cX2_pass 1 = .ok (.getfield 49, 3) := by decide +kernel
theorem dX2_pass_4 : decode cX2_pass 4 = .ok (.istore_n 2, 1) := by decide +kernel
theorem dX2_pass_5 : decode cX2_pass 5 = .ok (.iconst 0, 1) := by decide +kernel
theorem dX2_pass_6 : decode cX2_pass 6 = .ok (.istore_n 3, 1) := by decide +kernel
theorem dX2_pass_7 : decode cX2_pass 7 = .ok (.iload_n 3, 1) := by decide +kernel
theorem dX2_pass_8 : decode cX2_pass 8 = .ok (.iload_n 1, 1) := by decide +kernel
theorem dX2_pass_9 : decode cX2_pass 9 = .ok (.if_icmp .ge 64, 3) := by decide +kernel
theorem dX2_pass_12 : decode cX2_pass 12 = .ok (.aload_n 0, 1) := by decide +kernel
theorem dX2_pass_13 : decode cX2_pass 13 = .ok (.dup, 1) := by decide +kernel
theorem dX2_pass_14 : decode cX2_pass 14 = .ok (.getfield 35, 3) := by decide +kernel
theorem dX2_pass_17 : decode cX2_pass 17 = .ok (.iconst 1, 1) := by decide +kernel
theorem dX2_pass_18 : decode cX2_pass 18 = .ok (.iadd, 1) := by decide +kernel
theorem dX2_pass_19 : decode cX2_pass 19 = .ok (.putfield 35, 3) := by decide +kernel
theorem dX2_pass_22 : decode cX2_pass 22 = .ok (.iconst 0, 1) := by decide +kernel
theorem dX2_pass_23 : decode cX2_pass 23 = .ok (.istore 4, 2) := by decide +kernel
theorem dX2_pass_25 : decode cX2_pass 25 = .ok (.iload 4, 2) := by decide +kernel
theorem dX2_pass_27 : decode cX2_pass 27 = .ok (.aload_n 0, 1) := by decide +kernel
theorem dX2_pass_28 : decode cX2_pass 28 = .ok (.getfield 31, 3) := by decide +kernel
theorem dX2_pass_31 : decode cX2_pass 31 = .ok (.if_icmp .ge 36, 3) := by decide +kernel
theorem dX2_pass_34 : decode cX2_pass 34 = .ok (.aload_n 0, 1) := by decide +kernel
theorem dX2_pass_35 : decode cX2_pass 35 = .ok (.dup, 1) := by decide +kernel
theorem dX2_pass_36 : decode cX2_pass 36 = .ok (.getfield 49, 3) := by decide +kernel
theorem dX2_pass_39 : decode cX2_pass 39 = .ok (.aload_n 0, 1) := by decide +kernel
theorem dX2_pass_40 : decode cX2_pass 40 = .ok (.iload 4, 2) := by decide +kernel
theorem dX2_pass_42 : decode cX2_pass 42 = .ok (.aload_n 0, 1) := by decide +kernel
theorem dX2_pass_43 : decode cX2_pass 43 = .ok (.getfield 35, 3) := by decide +kernel
theorem dX2_pass_46 : decode cX2_pass 46 = .ok (.invokevirtual 27, 3) := by decide +kernel
theorem dX2_pass_49 : decode cX2_pass 49 = .ok (.ifCond .eq 7, 3) := by decide +kernel
theorem dX2_pass_52 : decode cX2_pass 52 = .ok (.iconst 1, 1) := by decide +kernel
theorem dX2_pass_53 : decode cX2_pass 53 = .ok (.goto 4, 3) := by decide +kernel
theorem dX2_pass_56 : decode cX2_pass 56 = .ok (.iconst 0, 1) := by decide +kernel
theorem dX2_pass_57 : decode cX2_pass 57 = .ok (.iadd, 1) := by decide +kernel
theorem dX2_pass_58 : decode cX2_pass 58 = .ok (.putfield 49, 3) := by decide +kernel
theorem dX2_pass_61 : decode cX2_pass 61 = .ok (.iinc 4 1, 3) := by decide +kernel
theorem dX2_pass_64 : decode cX2_pass 64 = .ok (.goto (-39), 3) := by decide +kernel
theorem dX2_pass_67 : decode cX2_pass 67 = .ok (.iinc 3 1, 3) := by decide +kernel
theorem dX2_pass_70 : decode cX2_pass 70 = .ok (.goto (-63), 3) := by decide +kernel
theorem dX2_pass_73 : decode cX2_pass 73 = .ok (.aload_n 0, 1) := by decide +kernel
theorem dX2_pass_74 : decode cX2_pass 74 = .ok (.getfield 49, 3) := by decide +kernel
theorem dX2_pass_77 : decode cX2_pass 77 = .ok (.iload_n 2, 1) := by decide +kernel
theorem dX2_pass_78 : decode cX2_pass 78 = .ok (.isub, 1) := by decide +kernel
theorem dX2_pass_79 : decode cX2_pass 79 = .ok (.ireturn, 1) := by decide +kernel
set_option maxRecDepth 20000 in
theorem ggX2_isSame_X2_row : GoodIn wsX2_isSame wsX2_row := goodIn_r _ [10, 11, 12, 13, 14, 15, 9, 16, 17, 18, 19, 20, 4, 131, 132, 133, 134, 135, 136] (by decide +kernel) (by decide +kernel)
set_option maxRecDepth 20000 in
theorem gX2_isSame_X2_row : GoodIn wsX2_isSame (wsV RX2 38 RX2 yX2_row wsX2_row) := goodIn_app (goodIn_of _ (by decide +kernel)) ggX2_isSame_X2_row
set_option maxRecDepth 20000 in
theorem ggX2_isSame_X1_beatsOf : GoodIn wsX2_isSame wsX1_beatsOf := goodIn_ca (goodIn_r _ [25, 26, 27, 28, 29, 24, 30, 31, 32, 33, 137, 138, 139, 140, 141, 142, 143, 144, 145, 146] (by decide +kernel) (by decide +kernel)) (goodIn_sub (fun _ h => List.mem_cons_of_mem _ (List.mem_append_left _ (List.mem_append_right _ h))) (by decide +kernel))
set_option maxRecDepth 20000 in
theorem gX2_isSame_X1_beatsOf : GoodIn wsX2_isSame (wsV RX2 52 RX1 yX1_beatsOf wsX1_beatsOf) := goodIn_app (goodIn_of _ (by decide +kernel)) ggX2_isSame_X1_beatsOf
set_option maxRecDepth 20000 in
theorem ggX2_isSame_X1_isCovered : GoodIn wsX2_isSame wsX1_isCovered := goodIn_ca (goodIn_r _ [37, 26, 27, 28, 29, 24, 30, 31, 32, 33, 137, 138, 139, 140, 141, 142, 143, 144, 145, 146] (by decide +kernel) (by decide +kernel)) (goodIn_sub (fun _ h => List.mem_cons_of_mem _ (List.mem_append_left _ (List.mem_append_right _ h))) (by decide +kernel))
set_option maxRecDepth 20000 in
theorem gX2_isSame_X1_isCovered : GoodIn wsX2_isSame (wsV RX2 57 RX1 yX1_isCovered wsX1_isCovered) := goodIn_app (goodIn_of _ (by decide +kernel)) ggX2_isSame_X1_isCovered
set_option maxRecDepth 20000 in
theorem ggX2_isSame_X1_isOn : GoodIn wsX2_isSame wsX1_isOn := goodIn_ca (goodIn_r _ [41, 26, 42, 27, 28, 29, 24, 30, 31, 32, 33, 43, 44, 45, 46, 47, 48, 49, 50, 51, 52, 53, 54, 55, 56, 57, 137, 138, 139, 140, 141, 142, 143, 144, 145, 146] (by decide +kernel) (by decide +kernel)) (goodIn_sub (fun _ h => List.mem_cons_of_mem _ (List.mem_append_left _ (List.mem_append_right _ h))) (by decide +kernel))
set_option maxRecDepth 20000 in
theorem gX2_isSame_X1_isOn : GoodIn wsX2_isSame (wsV RX2 61 RX1 yX1_isOn wsX1_isOn) := goodIn_app (goodIn_of _ (by decide +kernel)) ggX2_isSame_X1_isOn
set_option maxRecDepth 20000 in
theorem ggX2_isSame_X1_isLit : GoodIn wsX2_isSame wsX1_isLit := goodIn_ca (goodIn_r _ [61, 26, 42, 27, 28, 29, 24, 30, 31, 32, 33, 62, 63, 64, 46, 65, 66, 67, 44, 45, 47, 48, 49, 50, 51, 52, 53, 54, 55, 56, 57, 137, 138, 139, 140, 141, 142, 143, 144, 145, 146] (by decide +kernel) (by decide +kernel)) (goodIn_sub (fun _ h => List.mem_cons_of_mem _ (List.mem_append_left _ (List.mem_append_right _ h))) (by decide +kernel))
set_option maxRecDepth 20000 in
theorem gX2_isSame_X1_isLit : GoodIn wsX2_isSame (wsV RX2 64 RX1 yX1_isLit wsX1_isLit) := goodIn_app (goodIn_of _ (by decide +kernel)) ggX2_isSame_X1_isLit
set_option maxRecDepth 20000 in
theorem ggX2_isSame_X1_isOnAt : GoodIn wsX2_isSame wsX1_isOnAt := goodIn_ca (goodIn_ca (goodIn_r _ [71, 26, 27, 28, 29, 24, 30, 31, 32, 33, 72, 73, 74, 75, 76, 77, 43, 44, 45, 46, 47, 48, 49, 50, 51, 52, 53, 54, 55, 56, 57, 137, 138, 139, 140, 141, 142, 143, 144, 145, 146] (by decide +kernel) (by decide +kernel)) (goodIn_sub (fun _ h => List.mem_cons_of_mem _ (List.mem_append_left _ (List.mem_append_right _ h))) (by decide +kernel))) (goodIn_sub (fun _ h => List.mem_cons_of_mem _ (List.mem_append_right _ h)) (by decide +kernel))
set_option maxRecDepth 20000 in
theorem gX2_isSame_X1_isOnAt : GoodIn wsX2_isSame (wsV RX2 67 RX1 yX1_isOnAt wsX1_isOnAt) := goodIn_app (goodIn_of _ (by decide +kernel)) ggX2_isSame_X1_isOnAt
set_option maxRecDepth 20000 in
theorem ggX2_isSame_X1_strikesAt : GoodIn wsX2_isSame wsX1_strikesAt := goodIn_ca (goodIn_ca (goodIn_r _ [81, 26, 27, 28, 29, 24, 30, 31, 32, 33, 72, 73, 74, 75, 76, 77, 82, 83, 84, 46, 85, 48, 49, 50, 137, 138, 139, 140, 141, 142, 143, 144, 145, 146] (by decide +kernel) (by decide +kernel)) (goodIn_sub (fun _ h => List.mem_cons_of_mem _ (List.mem_append_left _ (List.mem_append_right _ h))) (by decide +kernel))) (goodIn_sub (fun _ h => List.mem_cons_of_mem _ (List.mem_append_right _ h)) (by decide +kernel))
set_option maxRecDepth 20000 in
theorem gX2_isSame_X1_strikesAt : GoodIn wsX2_isSame (wsV RX2 70 RX1 yX1_strikesAt wsX1_strikesAt) := goodIn_app (goodIn_of _ (by decide +kernel)) ggX2_isSame_X1_strikesAt
set_option maxRecDepth 20000 in
theorem ggX2_isSame_X2_strikes : GoodIn wsX2_isSame wsX2_strikes := goodIn_r _ [20, 4, 131, 132, 133, 134, 135, 136] (by decide +kernel) (by decide +kernel)
set_option maxRecDepth 20000 in
theorem gX2_isSame_X2_strikes : GoodIn wsX2_isSame (wsV RX2 23 RX2 yX2_strikes wsX2_strikes) := goodIn_app (goodIn_of _ (by decide +kernel)) ggX2_isSame_X2_strikes
set_option maxRecDepth 20000 in
theorem ggX2_isSame_X1_numberOf : GoodIn wsX2_isSame wsX1_numberOf := goodIn_ca (goodIn_r _ [89, 26, 90, 91, 92, 24, 93, 31, 32, 27, 28, 29, 30, 33, 137, 138, 139, 140, 141, 142, 143, 144, 145, 146] (by decide +kernel) (by decide +kernel)) (goodIn_sub (fun _ h => List.mem_cons_of_mem _ (List.mem_append_left _ (List.mem_append_right _ h))) (by decide +kernel))
set_option maxRecDepth 20000 in
theorem gX2_isSame_X1_numberOf : GoodIn wsX2_isSame (wsV RX2 73 RX1 yX1_numberOf wsX1_numberOf) := goodIn_app (goodIn_of _ (by decide +kernel)) ggX2_isSame_X1_numberOf
set_option maxRecDepth 20000 in
theorem ggX2_isSame_X1_offsetOf : GoodIn wsX2_isSame wsX1_offsetOf := goodIn_ca (goodIn_r _ [97, 26, 90, 91, 92, 24, 93, 31, 32, 27, 28, 29, 30, 33, 137, 138, 139, 140, 141, 142, 143, 144, 145, 146] (by decide +kernel) (by decide +kernel)) (goodIn_sub (fun _ h => List.mem_cons_of_mem _ (List.mem_append_left _ (List.mem_append_right _ h))) (by decide +kernel))
set_option maxRecDepth 20000 in
theorem gX2_isSame_X1_offsetOf : GoodIn wsX2_isSame (wsV RX2 76 RX1 yX1_offsetOf wsX1_offsetOf) := goodIn_app (goodIn_of _ (by decide +kernel)) ggX2_isSame_X1_offsetOf
set_option maxRecDepth 20000 in
theorem ggX2_isSame_X1_lamps : GoodIn wsX2_isSame wsX1_lamps := goodIn_r _ [101, 33, 137, 138, 139, 140, 141] (by decide +kernel) (by decide +kernel)
set_option maxRecDepth 20000 in
theorem gX2_isSame_X1_lamps : GoodIn wsX2_isSame (wsV RX2 79 RX1 yX1_lamps wsX1_lamps) := goodIn_app (goodIn_of _ (by decide +kernel)) ggX2_isSame_X1_lamps
set_option maxRecDepth 20000 in
theorem ggX2_isSame_X1_now : GoodIn wsX2_isSame wsX1_now := goodIn_r _ [105, 42, 137, 138, 139, 140, 141] (by decide +kernel) (by decide +kernel)
set_option maxRecDepth 20000 in
theorem gX2_isSame_X1_now : GoodIn wsX2_isSame (wsV RX2 82 RX1 yX1_now wsX1_now) := goodIn_app (goodIn_of _ (by decide +kernel)) ggX2_isSame_X1_now
set_option maxRecDepth 20000 in
theorem ggX2_isSame_X1_changesSeen : GoodIn wsX2_isSame wsX1_changesSeen := goodIn_r _ [109, 110, 137, 138, 139, 140, 141] (by decide +kernel) (by decide +kernel)
set_option maxRecDepth 20000 in
theorem gX2_isSame_X1_changesSeen : GoodIn wsX2_isSame (wsV RX2 84 RX1 yX1_changesSeen wsX1_changesSeen) := goodIn_app (goodIn_of _ (by decide +kernel)) ggX2_isSame_X1_changesSeen
set_option maxRecDepth 20000 in
theorem ggX2_isSame_X1_litLamps : GoodIn wsX2_isSame wsX1_litLamps := goodIn_r _ [114, 42, 115, 116, 117, 24, 118, 33, 26, 62, 63, 64, 46, 65, 66, 67, 44, 45, 47, 48, 49, 50, 51, 52, 53, 54, 55, 56, 57, 137, 138, 139, 140, 141, 142, 143, 144, 145, 146] (by decide +kernel) (by decide +kernel)
set_option maxRecDepth 20000 in
theorem gX2_isSame_X1_litLamps : GoodIn wsX2_isSame (wsV RX2 87 RX1 yX1_litLamps wsX1_litLamps) := goodIn_app (goodIn_of _ (by decide +kernel)) ggX2_isSame_X1_litLamps
set_option maxRecDepth 20000 in
theorem ggX2_isSame_X1_isDark : GoodIn wsX2_isSame wsX1_isDark := goodIn_r _ [122, 42, 123, 124, 125, 24, 126, 33, 26, 62, 63, 64, 46, 65, 66, 67, 44, 45, 47, 48, 49, 50, 51, 52, 53, 54, 55, 56, 57, 137, 138, 139, 140, 141, 142, 143, 144, 145, 146] (by decide +kernel) (by decide +kernel)
set_option maxRecDepth 20000 in
theorem gX2_isSame_X1_isDark : GoodIn wsX2_isSame (wsV RX2 90 RX1 yX1_isDark wsX1_isDark) := goodIn_app (goodIn_of _ (by decide +kernel)) ggX2_isSame_X1_isDark
set_option maxRecDepth 20000 in
theorem ggX2_isSame_X1_meanBeats : GoodIn wsX2_isSame wsX1_meanBeats := goodIn_r _ [130, 33, 26, 137, 138, 139, 140, 141, 142, 143, 144, 145, 146] (by decide +kernel) (by decide +kernel)
set_option maxRecDepth 20000 in
theorem gX2_isSame_X1_meanBeats : GoodIn wsX2_isSame (wsV RX2 94 RX1 yX1_meanBeats wsX1_meanBeats) := goodIn_app (goodIn_of _ (by decide +kernel)) ggX2_isSame_X1_meanBeats
theorem dX2_isSame_0 : decode cX2_isSame 0 = .ok (.iconst 0, 1) := by decide +kernel
theorem dX2_isSame_1 : decode cX2_isSame 1 = .ok (.istore_n 2, 1) := by decide +kernel
theorem dX2_isSame_2 : decode cX2_isSame 2 = .ok (.iconst 0, 1) := by decide +kernel
theorem dX2_isSame_3 : decode cX2_isSame 3 = .ok (.istore_n 3, 1) := by decide +kernel
theorem dX2_isSame_4 : decode cX2_isSame 4 = .ok (.iconst 0, 1) := by decide +kernel
theorem dX2_isSame_5 : decode cX2_isSame 5 = .ok (.istore 4, 2) := by decide +kernel
theorem dX2_isSame_7 : decode cX2_isSame 7 = .ok (.iload 4, 2) := by decide +kernel
theorem dX2_isSame_9 : decode cX2_isSame 9 = .ok (.aload_n 0, 1) := by decide +kernel
theorem dX2_isSame_10 : decode cX2_isSame 10 = .ok (.getfield 31, 3) := by decide +kernel
theorem dX2_isSame_13 : decode cX2_isSame 13 = .ok (.if_icmp .ge 243, 3) := by decide +kernel
theorem dX2_isSame_16 : decode cX2_isSame 16 = .ok (.aload_n 0, 1) := by decide +kernel
theorem dX2_isSame_17 : decode cX2_isSame 17 = .ok (.iload 4, 2) := by decide +kernel
theorem dX2_isSame_19 : decode cX2_isSame 19 = .ok (.aload_n 0, 1) := by decide +kernel
theorem dX2_isSame_20 : decode cX2_isSame 20 = .ok (.getfield 35, 3) := by decide +kernel
theorem dX2_isSame_23 : decode cX2_isSame 23 = .ok (.invokevirtual 38, 3) := by decide +kernel
theorem dX2_isSame_26 : decode cX2_isSame 26 = .ok (.aload_n 0, 1) := by decide +kernel
theorem dX2_isSame_27 : decode cX2_isSame 27 = .ok (.getfield 35, 3) := by decide +kernel
theorem dX2_isSame_30 : decode cX2_isSame 30 = .ok (.baload, 1) := by decide +kernel
theorem dX2_isSame_31 : decode cX2_isSame 31 = .ok (.istore 5, 2) := by decide +kernel
theorem dX2_isSame_33 : decode cX2_isSame 33 = .ok (.iload_n 2, 1) := by decide +kernel
theorem dX2_isSame_34 : decode cX2_isSame 34 = .ok (.iload 5, 2) := by decide +kernel
theorem dX2_isSame_36 : decode cX2_isSame 36 = .ok (.ifCond .eq 17, 3) := by decide +kernel
theorem dX2_isSame_39 : decode cX2_isSame 39 = .ok (.aload_n 0, 1) := by decide +kernel
theorem dX2_isSame_40 : decode cX2_isSame 40 = .ok (.getfield 13, 3) := by decide +kernel
theorem dX2_isSame_43 : decode cX2_isSame 43 = .ok (.iload 4, 2) := by decide +kernel
theorem dX2_isSame_45 : decode cX2_isSame 45 = .ok (.baload, 1) := by decide +kernel
theorem dX2_isSame_46 : decode cX2_isSame 46 = .ok (.ifCond .ne 7, 3) := by decide +kernel
theorem dX2_isSame_49 : decode cX2_isSame 49 = .ok (.iconst 1, 1) := by decide +kernel
theorem dX2_isSame_50 : decode cX2_isSame 50 = .ok (.goto 4, 3) := by decide +kernel
theorem dX2_isSame_53 : decode cX2_isSame 53 = .ok (.iconst 0, 1) := by decide +kernel
theorem dX2_isSame_54 : decode cX2_isSame 54 = .ok (.iadd, 1) := by decide +kernel
theorem dX2_isSame_55 : decode cX2_isSame 55 = .ok (.istore_n 2, 1) := by decide +kernel
theorem dX2_isSame_56 : decode cX2_isSame 56 = .ok (.iload_n 3, 1) := by decide +kernel
theorem dX2_isSame_57 : decode cX2_isSame 57 = .ok (.aload_n 0, 1) := by decide +kernel
theorem dX2_isSame_58 : decode cX2_isSame 58 = .ok (.getfield 18, 3) := by decide +kernel
theorem dX2_isSame_61 : decode cX2_isSame 61 = .ok (.iload 4, 2) := by decide +kernel
theorem dX2_isSame_63 : decode cX2_isSame 63 = .ok (.aaload, 1) := by decide +kernel
theorem dX2_isSame_64 : decode cX2_isSame 64 = .ok (.arraylength, 1) := by decide +kernel
theorem dX2_isSame_65 : decode cX2_isSame 65 = .ok (.iadd, 1) := by decide +kernel
theorem dX2_isSame_66 : decode cX2_isSame 66 = .ok (.istore_n 3, 1) := by decide +kernel
theorem dX2_isSame_67 : decode cX2_isSame 67 = .ok (.aload_n 1, 1) := by decide +kernel
theorem dX2_isSame_68 : decode cX2_isSame 68 = .ok (.iload 4, 2) := by decide +kernel
theorem dX2_isSame_70 : decode cX2_isSame 70 = .ok (.invokevirtual 52, 3) := by decide +kernel
theorem dX2_isSame_73 : decode cX2_isSame 73 = .ok (.aload_n 0, 1) := by decide +kernel
theorem dX2_isSame_74 : decode cX2_isSame 74 = .ok (.getfield 18, 3) := by decide +kernel
theorem dX2_isSame_77 : decode cX2_isSame 77 = .ok (.iload 4, 2) := by decide +kernel
theorem dX2_isSame_79 : decode cX2_isSame 79 = .ok (.aaload, 1) := by decide +kernel
theorem dX2_isSame_80 : decode cX2_isSame 80 = .ok (.arraylength, 1) := by decide +kernel
theorem dX2_isSame_81 : decode cX2_isSame 81 = .ok (.if_icmp .ne 97, 3) := by decide +kernel
theorem dX2_isSame_84 : decode cX2_isSame 84 = .ok (.aload_n 1, 1) := by decide +kernel
theorem dX2_isSame_85 : decode cX2_isSame 85 = .ok (.iload 4, 2) := by decide +kernel
theorem dX2_isSame_87 : decode cX2_isSame 87 = .ok (.invokevirtual 57, 3) := by decide +kernel
theorem dX2_isSame_90 : decode cX2_isSame 90 = .ok (.aload_n 0, 1) := by decide +kernel
theorem dX2_isSame_91 : decode cX2_isSame 91 = .ok (.getfield 13, 3) := by decide +kernel
theorem dX2_isSame_94 : decode cX2_isSame 94 = .ok (.iload 4, 2) := by decide +kernel
theorem dX2_isSame_96 : decode cX2_isSame 96 = .ok (.baload, 1) := by decide +kernel
theorem dX2_isSame_97 : decode cX2_isSame 97 = .ok (.if_icmp .ne 81, 3) := by decide +kernel
theorem dX2_isSame_100 : decode cX2_isSame 100 = .ok (.aload_n 1, 1) := by decide +kernel
theorem dX2_isSame_101 : decode cX2_isSame 101 = .ok (.iload 4, 2) := by decide +kernel
theorem dX2_isSame_103 : decode cX2_isSame 103 = .ok (.invokevirtual 61, 3) := by decide +kernel
theorem dX2_isSame_106 : decode cX2_isSame 106 = .ok (.iload 5, 2) := by decide +kernel
theorem dX2_isSame_108 : decode cX2_isSame 108 = .ok (.if_icmp .ne 70, 3) := by decide +kernel
theorem dX2_isSame_111 : decode cX2_isSame 111 = .ok (.aload_n 1, 1) := by decide +kernel
theorem dX2_isSame_112 : decode cX2_isSame 112 = .ok (.iload 4, 2) := by decide +kernel
theorem dX2_isSame_114 : decode cX2_isSame 114 = .ok (.invokevirtual 64, 3) := by decide +kernel
theorem dX2_isSame_117 : decode cX2_isSame 117 = .ok (.iload 5, 2) := by decide +kernel
theorem dX2_isSame_119 : decode cX2_isSame 119 = .ok (.ifCond .eq 17, 3) := by decide +kernel
theorem dX2_isSame_122 : decode cX2_isSame 122 = .ok (.aload_n 0, 1) := by decide +kernel
theorem dX2_isSame_123 : decode cX2_isSame 123 = .ok (.getfield 13, 3) := by decide +kernel
theorem dX2_isSame_126 : decode cX2_isSame 126 = .ok (.iload 4, 2) := by decide +kernel
theorem dX2_isSame_128 : decode cX2_isSame 128 = .ok (.baload, 1) := by decide +kernel
theorem dX2_isSame_129 : decode cX2_isSame 129 = .ok (.ifCond .ne 7, 3) := by decide +kernel
theorem dX2_isSame_132 : decode cX2_isSame 132 = .ok (.iconst 1, 1) := by decide +kernel
theorem dX2_isSame_133 : decode cX2_isSame 133 = .ok (.goto 4, 3) := by decide +kernel
theorem dX2_isSame_136 : decode cX2_isSame 136 = .ok (.iconst 0, 1) := by decide +kernel
theorem dX2_isSame_137 : decode cX2_isSame 137 = .ok (.if_icmp .ne 41, 3) := by decide +kernel
theorem dX2_isSame_140 : decode cX2_isSame 140 = .ok (.aload_n 1, 1) := by decide +kernel
theorem dX2_isSame_141 : decode cX2_isSame 141 = .ok (.iload 4, 2) := by decide +kernel
theorem dX2_isSame_143 : decode cX2_isSame 143 = .ok (.aload_n 0, 1) := by decide +kernel
theorem dX2_isSame_144 : decode cX2_isSame 144 = .ok (.getfield 35, 3) := by decide +kernel
theorem dX2_isSame_147 : decode cX2_isSame 147 = .ok (.invokevirtual 67, 3) := by decide +kernel
theorem dX2_isSame_150 : decode cX2_isSame 150 = .ok (.iload 5, 2) := by decide +kernel
theorem dX2_isSame_152 : decode cX2_isSame 152 = .ok (.if_icmp .ne 26, 3) := by decide +kernel
theorem dX2_isSame_155 : decode cX2_isSame 155 = .ok (.aload_n 1, 1) := by decide +kernel
theorem dX2_isSame_156 : decode cX2_isSame 156 = .ok (.iload 4, 2) := by decide +kernel
theorem dX2_isSame_158 : decode cX2_isSame 158 = .ok (.aload_n 0, 1) := by decide +kernel
theorem dX2_isSame_159 : decode cX2_isSame 159 = .ok (.getfield 35, 3) := by decide +kernel
theorem dX2_isSame_162 : decode cX2_isSame 162 = .ok (.invokevirtual 70, 3) := by decide +kernel
theorem dX2_isSame_165 : decode cX2_isSame 165 = .ok (.aload_n 0, 1) := by decide +kernel
theorem dX2_isSame_166 : decode cX2_isSame 166 = .ok (.iload 4, 2) := by decide +kernel
theorem dX2_isSame_168 : decode cX2_isSame 168 = .ok (.aload_n 0, 1) := by decide +kernel
theorem dX2_isSame_169 : decode cX2_isSame 169 = .ok (.getfield 35, 3) := by decide +kernel
theorem dX2_isSame_172 : decode cX2_isSame 172 = .ok (.invokevirtual 23, 3) := by decide +kernel
theorem dX2_isSame_175 : decode cX2_isSame 175 = .ok (.if_icmp .eq 5, 3) := by decide +kernel
theorem dX2_isSame_178 : decode cX2_isSame 178 = .ok (.iconst 0, 1) := by decide +kernel
theorem dX2_isSame_179 : decode cX2_isSame 179 = .ok (.ireturn, 1) := by decide +kernel
theorem dX2_isSame_180 : decode cX2_isSame 180 = .ok (.iconst 0, 1) := by decide +kernel
theorem dX2_isSame_181 : decode cX2_isSame 181 = .ok (.istore 6, 2) := by decide +kernel
theorem dX2_isSame_183 : decode cX2_isSame 183 = .ok (.iload 6, 2) := by decide +kernel
theorem dX2_isSame_185 : decode cX2_isSame 185 = .ok (.aload_n 0, 1) := by decide +kernel
theorem dX2_isSame_186 : decode cX2_isSame 186 = .ok (.getfield 18, 3) := by decide +kernel
theorem dX2_isSame_189 : decode cX2_isSame 189 = .ok (.iload 4, 2) := by decide +kernel
theorem dX2_isSame_191 : decode cX2_isSame 191 = .ok (.aaload, 1) := by decide +kernel
theorem dX2_isSame_192 : decode cX2_isSame 192 = .ok (.arraylength, 1) := by decide +kernel
theorem dX2_isSame_193 : decode cX2_isSame 193 = .ok (.if_icmp .ge 57, 3) := by decide +kernel
theorem dX2_isSame_196 : decode cX2_isSame 196 = .ok (.aload_n 1, 1) := by decide +kernel
theorem dX2_isSame_197 : decode cX2_isSame 197 = .ok (.iload 4, 2) := by decide +kernel
theorem dX2_isSame_199 : decode cX2_isSame 199 = .ok (.iload 6, 2) := by decide +kernel
theorem dX2_isSame_201 : decode cX2_isSame 201 = .ok (.invokevirtual 73, 3) := by decide +kernel
theorem dX2_isSame_204 : decode cX2_isSame 204 = .ok (.aload_n 0, 1) := by decide +kernel
theorem dX2_isSame_205 : decode cX2_isSame 205 = .ok (.getfield 18, 3) := by decide +kernel
theorem dX2_isSame_208 : decode cX2_isSame 208 = .ok (.iload 4, 2) := by decide +kernel
theorem dX2_isSame_210 : decode cX2_isSame 210 = .ok (.aaload, 1) := by decide +kernel
theorem dX2_isSame_211 : decode cX2_isSame 211 = .ok (.iload 6, 2) := by decide +kernel
theorem dX2_isSame_213 : decode cX2_isSame 213 = .ok (.aaload, 1) := by decide +kernel
theorem dX2_isSame_214 : decode cX2_isSame 214 = .ok (.iconst 0, 1) := by decide +kernel
theorem dX2_isSame_215 : decode cX2_isSame 215 = .ok (.iaload, 1) := by decide +kernel
theorem dX2_isSame_216 : decode cX2_isSame 216 = .ok (.if_icmp .ne 26, 3) := by decide +kernel
theorem dX2_isSame_219 : decode cX2_isSame 219 = .ok (.aload_n 1, 1) := by decide +kernel
theorem dX2_isSame_220 : decode cX2_isSame 220 = .ok (.iload 4, 2) := by decide +kernel
theorem dX2_isSame_222 : decode cX2_isSame 222 = .ok (.iload 6, 2) := by decide +kernel
theorem dX2_isSame_224 : decode cX2_isSame 224 = .ok (.invokevirtual 76, 3) := by decide +kernel
theorem dX2_isSame_227 : decode cX2_isSame 227 = .ok (.aload_n 0, 1) := by decide +kernel
theorem dX2_isSame_228 : decode cX2_isSame 228 = .ok (.getfield 18, 3) := by decide +kernel
theorem dX2_isSame_231 : decode cX2_isSame 231 = .ok (.iload 4, 2) := by decide +kernel
theorem dX2_isSame_233 : decode cX2_isSame 233 = .ok (.aaload, 1) := by decide +kernel
theorem dX2_isSame_234 : decode cX2_isSame 234 = .ok (.iload 6, 2) := by decide +kernel
theorem dX2_isSame_236 : decode cX2_isSame 236 = .ok (.aaload, 1) := by decide +kernel
theorem dX2_isSame_237 : decode cX2_isSame 237 = .ok (.iconst 1, 1) := by decide +kernel
theorem dX2_isSame_238 : decode cX2_isSame 238 = .ok (.iaload, 1) := by decide +kernel
theorem dX2_isSame_239 : decode cX2_isSame 239 = .ok (.if_icmp .eq 5, 3) := by decide +kernel
theorem dX2_isSame_242 : decode cX2_isSame 242 = .ok (.iconst 0, 1) := by decide +kernel
theorem dX2_isSame_243 : decode cX2_isSame 243 = .ok (.ireturn, 1) := by decide +kernel
theorem dX2_isSame_244 : decode cX2_isSame 244 = .ok (.iinc 6 1, 3) := by decide +kernel
theorem dX2_isSame_247 : decode cX2_isSame 247 = .ok (.goto (-64), 3) := by decide +kernel
theorem dX2_isSame_250 : decode cX2_isSame 250 = .ok (.iinc 4 1, 3) := by decide +kernel
theorem dX2_isSame_253 : decode cX2_isSame 253 = .ok (.goto (-246), 3) := by decide +kernel
theorem dX2_isSame_256 : decode cX2_isSame 256 = .ok (.aload_n 1, 1) := by decide +kernel
theorem dX2_isSame_257 : decode cX2_isSame 257 = .ok (.invokevirtual 79, 3) := by decide +kernel
theorem dX2_isSame_260 : decode cX2_isSame 260 = .ok (.aload_n 0, 1) := by decide +kernel
theorem dX2_isSame_261 : decode cX2_isSame 261 = .ok (.getfield 31, 3) := by decide +kernel
theorem dX2_isSame_264 : decode cX2_isSame 264 = .ok (.if_icmp .ne 80, 3) := by decide +kernel
theorem dX2_isSame_267 : decode cX2_isSame 267 = .ok (.aload_n 1, 1) := by decide +kernel
theorem dX2_isSame_268 : decode cX2_isSame 268 = .ok (.invokevirtual 82, 3) := by decide +kernel
theorem dX2_isSame_271 : decode cX2_isSame 271 = .ok (.aload_n 0, 1) := by decide +kernel
theorem dX2_isSame_272 : decode cX2_isSame 272 = .ok (.getfield 35, 3) := by decide +kernel
theorem dX2_isSame_275 : decode cX2_isSame 275 = .ok (.if_icmp .ne 69, 3) := by decide +kernel
theorem dX2_isSame_278 : decode cX2_isSame 278 = .ok (.aload_n 1, 1) := by decide +kernel
theorem dX2_isSame_279 : decode cX2_isSame 279 = .ok (.invokevirtual 84, 3) := by decide +kernel
theorem dX2_isSame_282 : decode cX2_isSame 282 = .ok (.aload_n 0, 1) := by decide +kernel
theorem dX2_isSame_283 : decode cX2_isSame 283 = .ok (.getfield 49, 3) := by decide +kernel
theorem dX2_isSame_286 : decode cX2_isSame 286 = .ok (.if_icmp .ne 58, 3) := by decide +kernel
theorem dX2_isSame_289 : decode cX2_isSame 289 = .ok (.aload_n 1, 1) := by decide +kernel
theorem dX2_isSame_290 : decode cX2_isSame 290 = .ok (.invokevirtual 87, 3) := by decide +kernel
theorem dX2_isSame_293 : decode cX2_isSame 293 = .ok (.iload_n 2, 1) := by decide +kernel
theorem dX2_isSame_294 : decode cX2_isSame 294 = .ok (.if_icmp .ne 50, 3) := by decide +kernel
theorem dX2_isSame_297 : decode cX2_isSame 297 = .ok (.aload_n 1, 1) := by decide +kernel
theorem dX2_isSame_298 : decode cX2_isSame 298 = .ok (.invokevirtual 90, 3) := by decide +kernel
theorem dX2_isSame_301 : decode cX2_isSame 301 = .ok (.iload_n 2, 1) := by decide +kernel
theorem dX2_isSame_302 : decode cX2_isSame 302 = .ok (.ifCond .ne 7, 3) := by decide +kernel
theorem dX2_isSame_305 : decode cX2_isSame 305 = .ok (.iconst 1, 1) := by decide +kernel
theorem dX2_isSame_306 : decode cX2_isSame 306 = .ok (.goto 4, 3) := by decide +kernel
theorem dX2_isSame_309 : decode cX2_isSame 309 = .ok (.iconst 0, 1) := by decide +kernel
theorem dX2_isSame_310 : decode cX2_isSame 310 = .ok (.if_icmp .ne 34, 3) := by decide +kernel
theorem dX2_isSame_313 : decode cX2_isSame 313 = .ok (.aload_n 1, 1) := by decide +kernel
theorem dX2_isSame_314 : decode cX2_isSame 314 = .ok (.invokevirtual 94, 3) := by decide +kernel
theorem dX2_isSame_317 : decode cX2_isSame 317 = .ok (.aload_n 0, 1) := by decide +kernel
theorem dX2_isSame_318 : decode cX2_isSame 318 = .ok (.getfield 31, 3) := by decide +kernel
theorem dX2_isSame_321 : decode cX2_isSame 321 = .ok (.ifCond .ne 7, 3) := by decide +kernel
theorem dX2_isSame_324 : decode cX2_isSame 324 = .ok (.dconst 0, 1) := by decide +kernel
theorem dX2_isSame_325 : decode cX2_isSame 325 = .ok (.goto 11, 3) := by decide +kernel
theorem dX2_isSame_328 : decode cX2_isSame 328 = .ok (.iload_n 3, 1) := by decide +kernel
theorem dX2_isSame_329 : decode cX2_isSame 329 = .ok (.i2d, 1) := by decide +kernel
theorem dX2_isSame_330 : decode cX2_isSame 330 = .ok (.aload_n 0, 1) := by decide +kernel
theorem dX2_isSame_331 : decode cX2_isSame 331 = .ok (.getfield 31, 3) := by decide +kernel
theorem dX2_isSame_334 : decode cX2_isSame 334 = .ok (.i2d, 1) := by decide +kernel
theorem dX2_isSame_335 : decode cX2_isSame 335 = .ok (.ddiv, 1) := by decide +kernel
theorem dX2_isSame_336 : decode cX2_isSame 336 = .ok (.dcmp .l, 1) := by decide +kernel
theorem dX2_isSame_337 : decode cX2_isSame 337 = .ok (.ifCond .ne 7, 3) := by decide +kernel
theorem dX2_isSame_340 : decode cX2_isSame 340 = .ok (.iconst 1, 1) := by decide +kernel
theorem dX2_isSame_341 : decode cX2_isSame 341 = .ok (.goto 4, 3) := by decide +kernel
theorem dX2_isSame_344 : decode cX2_isSame 344 = .ok (.iconst 0, 1) := by decide +kernel
theorem dX2_isSame_345 : decode cX2_isSame 345 = .ok (.ireturn, 1) := by decide +kernel
end
