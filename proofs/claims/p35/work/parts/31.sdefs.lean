/-! the law's own lamps (Sim): arrays of arrays; first the row of 'multianewarray' for int[8][0][] -/
theorem arrV_congr {cA : ClassId} {N : Nat} {f g : Nat → Value} (h : ∀ j, j < N → f j = g j) : arrV cA N f = arrV cA N g := by
  have e : (fun j : Fin N => f j.val) = (fun j : Fin N => g j.val) := funext fun j => h j.val j.isLt
  unfold arrV
  rw [e]
def mgI (cJ : ClassId) : Cell := { cls := cJ, slots := Array.replicate 0 Value.null, vm := .none }
def mgO (cB : ClassId) (h0 : Nat) : Nat → Cell
  | 0 => { cls := cB, slots := Array.replicate 8 Value.null, vm := .none }
  | i + 1 => (mgO cB h0 i).setSlot i (.ref (h0 + 1 + i))
def mgS (U : State) (cB cJ : ClassId) : Nat → State
  | 0 => U.pushCell (mgO cB U.heap.size 0)
  | i + 1 => ((mgS U cB cJ i).pushCell (mgI cJ)).setCell U.heap.size (mgO cB U.heap.size (i + 1))
theorem mgO_eq (cB : ClassId) (h0 : Nat) : ∀ i, mgO cB h0 i = arrV cB 8 (fun j => if j < i then .ref (h0 + 1 + j) else .null)
  | 0 => by
    show ({ cls := cB, slots := Array.replicate 8 Value.null, vm := .none } : Cell) = _
    rw [arrV_new]
    exact arrV_congr (fun j _ => by rw [if_neg (Nat.not_lt_zero j)])
  | i + 1 => by
    show (mgO cB h0 i).setSlot i _ = _
    rw [mgO_eq cB h0 i, arrV_store]
    refine arrV_congr (fun j _ => ?_)
    unfold updV
    by_cases e : j = i
    · subst e; rw [if_pos rfl, if_pos (by omega)]
    · rw [if_neg e]
      show (if j < i then Value.ref (h0 + 1 + j) else Value.null) = _
      by_cases h : j < i
      · rw [if_pos h, if_pos (by omega)]
      · rw [if_neg h, if_neg (by omega)]
theorem mgO_sz (cB : ClassId) (h0 i : Nat) : (mgO cB h0 i).slots.size = 8 := by rw [mgO_eq, arrV_size]
theorem mgO_vm (cB : ClassId) (h0 i : Nat) : (mgO cB h0 i).vm = .none := by rw [mgO_eq]; rfl
theorem mgO_cls (cB : ClassId) (h0 i : Nat) : (mgO cB h0 i).cls = cB := by rw [mgO_eq]; rfl
theorem mgI_eq (cJ : ClassId) : mgI cJ = arrV cJ 0 (fun _ => .null) := arrV_new cJ 0 .null
theorem mgS_f (U : State) (cB cJ : ClassId) : ∀ i, (mgS U cB cJ i).heap.size = U.heap.size + 1 + i ∧ (mgS U cB cJ i).heap[U.heap.size]? = some (mgO cB U.heap.size i) ∧ (mgS U cB cJ i).vm = U.vm ∧ (mgS U cB cJ i).slotsUsed = U.slotsUsed + 8 ∧
    (∀ q : Nat, q < U.heap.size → (mgS U cB cJ i).heap[q]? = U.heap[q]?) ∧ ∀ j, j < i → (mgS U cB cJ i).heap[U.heap.size + 1 + j]? = some (mgI cJ)
  | 0 => ⟨by simp [mgS], by simp [mgS], rfl, by simp [mgS, mgO], fun q hq => State.heap_pushCell_of_lt _ _ hq, fun j hj => absurd hj (Nat.not_lt_zero j)⟩
  | i + 1 => by
    obtain ⟨a, b, d, u, o, n⟩ := mgS_f U cB cJ i
    have hlt : U.heap.size < (mgS U cB cJ i).heap.size := by omega
    have hb' : ((mgS U cB cJ i).pushCell (mgI cJ)).heap[U.heap.size]? = some (mgO cB U.heap.size i) := by rw [State.heap_pushCell_of_lt (h := hlt)]; exact b
    refine ⟨?_, State.heap_setCell_self hb', by simp [mgS, d], ?_, fun q hq => ?_, fun j hj => ?_⟩
    · simp [mgS, State.setCell, a]; omega
    · simp [mgS, u, mgI]
    · show (((mgS U cB cJ i).pushCell (mgI cJ)).setCell U.heap.size _).heap[q]? = _
      have h1 : q < (mgS U cB cJ i).heap.size := by omega
      rw [State.heap_setCell_other (Nat.ne_of_gt hq), State.heap_pushCell_of_lt (h := h1)]
      exact o q hq
    · show (((mgS U cB cJ i).pushCell (mgI cJ)).setCell U.heap.size _).heap[U.heap.size + 1 + j]? = _
      rw [State.heap_setCell_other (show U.heap.size ≠ U.heap.size + 1 + j by omega)]
      rcases Nat.lt_or_ge j i with h | h
      · have h1 : U.heap.size + 1 + j < (mgS U cB cJ i).heap.size := by omega
        rw [State.heap_pushCell_of_lt (h := h1)]
        exact n j h
      · have e : U.heap.size + 1 + j = (mgS U cB cJ i).heap.size := by omega
        rw [e]
        exact State.heap_pushCell_size _ _
theorem mgS_top (U : State) (f : JFrame) (cB cJ : ClassId) : ∀ i, mgS (U.setTop f) cB cJ i = (mgS U cB cJ i).setTop f
  | 0 => rfl
  | i + 1 => by simp only [mgS, mgS_top U f cB cJ i, State.heap_setTop, State.pushCell_setTop, State.setCell_setTop]
section Multi
variable {E : CtlPost} {e : Env} {d : Bool} {acts : List Action} {s : State}
theorem ref_fits {t : FieldType} (h : t.isReference = true) {v : Value} (hv : v = .null ∨ ∃ a, v = .ref a) : fits t v = true := by
  rcases hv with rfl | ⟨a, rfl⟩ <;> cases t <;> simp [FieldType.isReference] at h <;> rfl
theorem wp_na {cA comp : ClassId} {k : Class} {type : FieldType} {len : Nat} (hk : s.vm.classes[cA]? = some k) (hkind : k.kind = .array comp type) (href : type.isReference = true)
    (hlimit : ¬ len > e.platform.arrayLengthLimit) (hheap : ¬ len * componentBytes type > e.platform.maxHeapBytes) (h1 : s.heap.size < e.platform.maxCells) (h2 : s.slotsUsed + len ≤ e.platform.maxSlots) {Q : Addr → Pre}
    (hq : Q s.heap.size d acts (s.pushCell { cls := cA, slots := Array.replicate len .null, vm := .none })) : wp (Jvm.newArray cA len .null) Q E e d acts s := by
  have hfits : ∀ i v, (Array.replicate len Value.null)[i]? = some v → s.fitsSlot cA .none i v = true := by
    intro i v hv
    simp only [Array.getElem?_replicate] at hv
    split at hv
    · cases hv; simp [State.fitsSlot, State.slotType?, hk, hkind, ref_fits href (Or.inl rfl)]
    · cases hv
  have hda : allocActs (Array.replicate len Value.null) s.heap.size acts = acts := by
    have hall : ((Array.replicate len Value.null).all (·.isDefault)) = true := by
      rw [Array.all_replicate]; split <;> simp [Value.isDefault]
    unfold allocActs; rw [if_pos hall]
  simp only [Jvm.newArray, Jvm.arrayFits, wp_bind', W.ask, W.ite, hlimit, if_false, wp_pure', W.theClass, hk, hkind, hheap, W.alloc, W.stop, Option.some.injEq, exists_eq_left', Array.size_replicate, hda]
  rw [if_neg (by omega)]
  exact ⟨h1, h2, hfits, hq⟩
theorem wp_in0 {cJ cI : ClassId} {k : Class} {type : FieldType} (hk : s.vm.classes[cJ]? = some k) (hkind : k.kind = .array cI type) (href : type.isReference = true) (h1 : s.heap.size < e.platform.maxCells) (h2 : s.slotsUsed ≤ e.platform.maxSlots)
    {Q : Addr → Pre} (hq : Q s.heap.size d acts (s.pushCell (mgI cJ))) : wp (multianewarray.make cJ [nI 0]) Q E e d acts s := by
  have hdv : defaultValue type = .null := by cases type <;> simp [FieldType.isReference] at href <;> rfl
  have h0 : ¬ nI 0 < 0 := by decide
  have hc0 : (nI 0).toNatClampNeg = 0 := by decide
  rw [multianewarray.make]
  simp only [wp_bind', W.ite, h0, if_false, wp_pure', W.theClass, hk, hkind, Option.some.injEq, exists_eq_left', hdv, hc0]
  exact wp_na hk hkind href (by omega) (by omega) h1 (by omega) hq
theorem wp_8 {cB cJ cI : ClassId} {k kc : Class} {t0 type : FieldType} (hk : s.vm.classes[cB]? = some k) (hkind : k.kind = .array cJ t0) (hr0 : t0.isReference = true) (hkc : s.vm.classes[cJ]? = some kc) (hkindc : kc.kind = .array cI type) (hr1 : type.isReference = true)
    (hl : 8 ≤ e.platform.arrayLengthLimit) (hh : 8 * componentBytes t0 ≤ e.platform.maxHeapBytes) (hc : s.heap.size + 9 ≤ e.platform.maxCells) (hs : s.slotsUsed + 8 ≤ e.platform.maxSlots)
    {Q : Addr → Pre} (hq : ∀ d' acts', Q s.heap.size d' acts' (mgS s cB cJ 8)) : wp (multianewarray.make cB [nI 8, nI 0]) Q E e d acts s := by
  have h8 : ¬ nI 8 < 0 := by decide
  have hc8 : (nI 8).toNatClampNeg = 8 := by decide
  have hfind : ([nI 0].find? (· < 0)) = none := by decide
  rw [multianewarray.make]
  simp only [wp_bind', W.ite, h8, if_false, wp_pure', W.theClass, hk, hkind, Option.some.injEq, exists_eq_left', hc8]
  refine wp_na hk hkind hr0 (by omega) (by omega) (by omega) (by omega) ?_
  simp only [hfind]
  rw [ite_self, wp_bind', Std.Legacy.Range.forIn_eq_forIn_range']
  show wp (forIn (List.range' 0 8 1) PUnit.unit _) _ E e d acts _
  refine wp_forIn_inv (fun rest s' => ∃ i, i ≤ 8 ∧ rest = List.range' i (8 - i) ∧ s' = mgS s cB cJ i) _ _ ⟨0, Nat.zero_le _, rfl, rfl⟩ ?_ ?_
  · rintro x rest s' d' acts' Q' ⟨i, hi, hl', rfl⟩ hnext
    have hlt : i < 8 := by
      rcases Nat.lt_or_ge i 8 with h | h
      · exact h
      · rw [show 8 - i = 0 from by omega] at hl'; simp at hl'
    obtain ⟨rfl, hrest⟩ : x = i ∧ rest = List.range' (i + 1) (8 - (i + 1)) := by
      rw [show 8 - i = (8 - (i + 1)) + 1 from by omega, List.range'_succ] at hl'
      exact ⟨(List.cons.inj hl').1, (List.cons.inj hl').2⟩
    obtain ⟨f1, f2, f3, f4, -, -⟩ := mgS_f s cB cJ x
    simp only [wp_bind']
    refine wp_in0 (by rw [f3]; exact hkc) hkindc hr1 (by rw [f1]; omega) (by rw [f4]; omega) ?_
    have hlt0 : s.heap.size < (mgS s cB cJ x).heap.size := by rw [f1]; omega
    simp only [wp_bind', W.writeLoc, wp_pure']
    refine ⟨mgO cB s.heap.size x, by rw [State.heap_pushCell_of_lt (h := hlt0)]; exact f2, by rw [mgO_vm]; simp, by rw [mgO_sz]; exact hlt, ?_, hnext _ _ _ ⟨x + 1, hlt, hrest, ?_⟩⟩
    · rw [mgO_cls, mgO_vm]
      simp [State.fitsSlot, State.slotType?, f3, hk, hkind, ref_fits hr0 (Or.inr ⟨_, rfl⟩)]
    · rw [f1]; rfl
  · rintro s' d' acts' ⟨i, hi, hl', rfl⟩
    have hiN : i = 8 := by
      rcases Nat.lt_or_ge i 8 with h | h
      · rw [show 8 - i = (8 - (i + 1)) + 1 from by omega, List.range'_succ] at hl'; cases hl'
      · omega
    subst hiN
    simp only [wp_pure']
    exact hq _ _
end Multi
section MultiW
variable {p : Program} {l : Launch} {e : Env} {R : Room} {s : State} {m : MethodId} {args : Array Value} {below : List Frame} {meth : Method} {c : Code} {H : Heap} {locs : List Loc} {cells slots : Nat} {Q : State → Prop} {cc : ByteArray} {pc : Nat} {ls : Array Slot} {rest : List Value}
theorem mg_stand {U : State} (X : Stand p l e R s m args below meth c U locs cells slots) (cB cJ : ClassId) : ∀ i, Stand p l e R s m args below meth c (mgS U cB cJ i) (locs ++ (List.range i).map fun j => ⟨U.heap.size, j⟩) (cells + 1 + i) (slots + 8)
  | 0 => by
    have h := X.pushed (mgO cB U.heap.size 0)
    rw [mgO_sz] at h
    simpa [mgS] using h
  | i + 1 => by
    have Xi := mg_stand X cB cJ i
    obtain ⟨f1, f2, -, -, -, -⟩ := mgS_f U cB cJ i
    have hlt0 : U.heap.size < (mgS U cB cJ i).heap.size := by rw [f1]; omega
    have hcell : ((mgS U cB cJ i).pushCell (mgI cJ)).heap[U.heap.size]? = some (mgO cB U.heap.size i) := by rw [State.heap_pushCell_of_lt (h := hlt0)]; exact f2
    have h := (Xi.pushed (mgI cJ)).stored hcell i (.ref (U.heap.size + 1 + i))
    have e1 : (mgI cJ).slots.size = 0 := by simp [mgI]
    rw [e1] at h
    have e2 : (locs ++ (List.range (i + 1)).map fun j => (⟨U.heap.size, j⟩ : Loc)) = (locs ++ (List.range i).map fun j => (⟨U.heap.size, j⟩ : Loc)) ++ [⟨U.heap.size, i⟩] := by simp [List.range_succ, List.append_assoc]
    rw [e2]
    exact h
theorem n_multi (hexec : p.tables.exec = Jvm.exec) (hb : c.code = cc) {own : String} {index : Nat} (hown : s.vm.findClass own = some m.cls) (hcl : (Cond.classLink own index "[[[I").before args s = true) (h3 : (Cond.arrayOver (.array (.array .int))).before args s = true) (h2 : (Cond.arrayOver (.array .int)).before args s = true)
    (hdg : decode cc pc = .ok (.multianewarray index 2, 4)) (hcells : cells + 9 ≤ R.cells) (hslots : slots + 8 ≤ R.slots)
    (kk : ∀ (H1 : Heap) (cB cJ : ClassId), s.vm.findClass ("[" ++ (FieldType.array (.array .int)).toString) = some cB → s.vm.findClass ("[" ++ (FieldType.array .int).toString) = some cJ → H1.size = H.size + 9 → (∀ q : Nat, q < H.size → H1[q]? = H[q]?) → H1[H.size]? = some (arrV cB 8 (fun j => .ref (H.size + 1 + j))) →
      (∀ j, j < 8 → H1[H.size + 1 + j]? = some (arrV cJ 0 (fun _ => .null))) → W p l e R s m args below meth c H1 locs (cells + 9) (slots + 8) Q (F0 m (pc + 4) ls (.ref H.size :: rest))) :
    W p l e R s m args below meth c H locs cells slots Q (F0 m pc ls (.int (nI 0) :: .int (nI 8) :: rest)) := by
  intro T hT X
  subst hT; subst hb
  have hpl : e.platform.magicAccessors = ({} : Platform).magicAccessors := by rw [X.admits.platform]
  obtain ⟨comp, cA, kA, hcomp, -, hkA, hkindA, hnameA⟩ := arrayOverA_spec h3
  obtain ⟨cI, cJ, kJ, -, -, hkJ, hkindJ, hnameJ⟩ := arrayOverA_spec h2
  have e2 : "[" ++ (FieldType.array .int).toString = (FieldType.array (.array .int)).toString := by decide
  have e3 : "[" ++ (FieldType.array (.array .int)).toString = "[[[I" := by decide
  have eJ : cJ = comp := by rw [e2] at hnameJ; exact Option.some.inj (hnameJ.symm.trans hcomp)
  subst eJ
  obtain ⟨c0, hfc0, hcl⟩ := Cond.classLink_spec hown hcl e.platform hpl
  have ec : c0 = cA := by rw [← e3] at hfc0; exact Option.some.inj (hfc0.symm.trans hnameA)
  subst ec
  obtain ⟨hg₁, hwarm₁, hready₁⟩ := State.classEntry (e := e) X.warmed hcl
  generalize T.vm.noted m.cls index (.cls c0) = vm₁ at hg₁ hwarm₁ hready₁
  have hal : s.vm.Alike vm₁ := hwarm₁.alike
  obtain ⟨kA₁, hkA₁, heA⟩ := hal.2.2 _ _ hkA
  obtain ⟨kJ₁, hkJ₁, heJ⟩ := hal.2.2 _ _ hkJ
  have hkindA₁ : kA₁.kind = .array cJ (.array (.array .int)) := by rw [heA]; exact hkindA
  have hkindJ₁ : kJ₁.kind = .array cI (.array .int) := by rw [heJ]; exact hkindJ
  have X₁ := X.noted hwarm₁
  obtain ⟨hr1, hr2⟩ := X.roomAbove hcells hslots
  obtain ⟨f1, f2, f3, f4, f5, f6⟩ := mgS_f (T.setVm vm₁) c0 cJ 8
  have XF := mg_stand X₁ c0 cJ 8
  have XD := XF.dropFresh (fun x hx => by
    obtain ⟨j, -, rfl⟩ := List.mem_map.mp hx
    exact X.heapGrown)
  rw [show cells + 1 + 8 = cells + 9 by omega] at XD
  rw [mgO_eq] at f2
  obtain ⟨t', a1, b1⟩ := kk (mgS (T.setVm vm₁) c0 cJ 8).heap c0 cJ hnameA hnameJ f1 f5 (by rw [show T.heap.size = (T.setVm vm₁).heap.size from rfl, f2, arrV_congr (fun j hj => if_pos hj)]) (fun j hj => by rw [← mgI_eq]; exact f6 j hj) (mgS (T.setVm vm₁) c0 cJ 8) rfl XD
  refine ⟨t', ?_, b1⟩
  have hl1 : 8 ≤ e.platform.arrayLengthLimit := by rw [Launch.admits_arrayLengthLimit X.admits]; decide
  have hh1 : 8 * componentBytes (.array (.array .int)) ≤ e.platform.maxHeapBytes := by rw [Launch.admits_maxHeapBytes X.admits]; decide
  jvm_step X.here [hexec, hdg]
  simp only [multianewarray.sem, wp_bind', W.resolveClassAt_links (State.method?_setTop (F0 m pc ls (.int (nI 0) :: .int (nI 8) :: rest)) X.here.top) hg₁]
  rw [W.popN, if_neg (by decide)]
  refine ⟨F0 m pc ls (.int (nI 0) :: .int (nI 8) :: rest), State.topJava?_setTop' (s := T.setVm vm₁) _ X.here.top, [.int (nI 8), .int (nI 0)], rest, rfl, rfl, ?_⟩
  simp only [List.mapM_cons, List.mapM_nil, wp_bind', wp_pure']
  refine wp_8 (k := kA₁) (kc := kJ₁) (cJ := cJ) (cI := cI) (t0 := .array (.array .int)) (type := .array .int) hkA₁ hkindA₁ rfl hkJ₁ hkindJ₁ rfl hl1 hh1 (by show T.heap.size + 9 ≤ _; omega) (by show T.slotsUsed + 8 ≤ _; omega) (fun d' acts' => ?_)
  have eS : ((T.setTop (F0 m pc ls (.int (nI 0) :: .int (nI 8) :: rest))).setVm vm₁).setTop { (F0 m pc ls (.int (nI 0) :: .int (nI 8) :: rest)) with stack := rest } = (T.setVm vm₁).setTop (F0 m pc ls rest) := by
    show ((T.setVm vm₁).setTop _).setTop _ = _
    rw [State.setTop_setTop]
  rw [eS, mgS_top]
  simp only [wp_bind', W.mark, W.pushRef, State.topJava?_setTop' _ XF.here.top, Option.some.injEq, exists_eq_left', State.setTop_setTop, State.heap_setTop]
  intro acts
  simp [jvm, XF.here.top]
  exact a1
end MultiW
