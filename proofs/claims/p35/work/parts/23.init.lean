/-! the makers: what they may touch, how they start -/
def L0 : LV := (0, fun _ => 0, fun _ => 0, false, false)
def AN (a sz : Nat) : Nat → Prop := fun q => q = a ∨ sz ≤ q
def PN (D : va_G) (T : List (ClassId × FieldType)) (av : List Value) (sz : Nat) (Ph : Heap → Prop) : Array Value → State → Prop := fun a U => a = av.toArray ∧ va_K D vwCl T U ∧ U.heap.size = sz ∧ Ph U.heap
theorem PN_blind {D : va_G} {T : List (ClassId × FieldType)} {av : List Value} {sz : Nat} {Ph : Heap → Prop} : FrameBlind (PN D T av sz Ph) := fun a U g mk q =>
  ⟨q.1, va_K.moved (u := U) (U := U.calling g mk a) (Vm.Alike.refl U.vm) q.2.1, q.2.2⟩
theorem vdA1 {a sz : Nat} {x : va_E} : va_D (AN a sz) [(a, x)] := by
  refine ⟨fun i j q r hi hj _ => ?_, fun k q hk => ?_⟩
  · match i, j, hi, hj with
    | 0, 0, _, _ => rfl
  · match k, hk with
    | 0, hk => cases hk; exact Or.inl rfl
theorem KI {D : va_G} {cI cZ cL cJ cA : ClassId} {U : State} (hK : va_K D vwCl (TY cI cZ cL cJ ++ [(cA, .int)]) U) : cA = cI := by
  have h1 : U.vm.findClass ("[" ++ FieldType.int.toString) = some cA := (hK.2 4 (cA, .int) rfl).2
  have h2 : U.vm.findClass ("[" ++ FieldType.int.toString) = some cI := (hK.2 0 (cI, .int) rfl).2
  exact Option.some.inj (h1.symm.trans h2)
theorem KZ {D : va_G} {cI cZ cL cJ cA : ClassId} {U : State} (hK : va_K D vwCl (TY cI cZ cL cJ ++ [(cA, .boolean)]) U) : cA = cZ := by
  have h1 : U.vm.findClass ("[" ++ FieldType.boolean.toString) = some cA := (hK.2 4 (cA, .boolean) rfl).2
  have h2 : U.vm.findClass ("[" ++ FieldType.boolean.toString) = some cZ := (hK.2 1 (cZ, .boolean) rfl).2
  exact Option.some.inj (h1.symm.trans h2)
theorem AN_new {a sz q i : Nat} {ws : va_W} {e x : va_E} (hD : va_D (AN a sz) ws) (h0 : ws[0]? = some (a, x)) (hi : ws[i]? = some (q, e)) (hn : ¬ i = 0) : sz ≤ q := by
  rcases hD.2 i _ hi with h | h
  · exact absurd (hD.1 i 0 _ _ hi h0 h) hn
  · exact h
theorem Inj_of {A : Nat → Prop} {ws : va_W} {ad : Nat → Nat} {N : Nat} (hD : va_D A ws) (h : ∀ i, i < N → ∃ x, ws[i]? = some (ad i, x)) : Inj N ad := fun i j hi hj hij => by
  obtain ⟨_, h1⟩ := h i hi
  obtain ⟨_, h2⟩ := h j hj
  exact hD.1 i j _ _ h1 h2 hij
set_option maxHeartbeats 4000000 in
set_option maxRecDepth 100000 in
/-- Lamp() -/
theorem c_X0_init (l : Launch) (D : va_G) (cI cZ cL cJ : ClassId) (a sz : Nat) : Met l yX0_init wsX0_init ({ frames := 1, cells := 2, slots := 16, locals := 12 } : Room) (PN D (TY cI cZ cL cJ) [.ref a] sz (fun H => va_P D vwCl [(a, .inr (0, [.null, .null, .int 0, .int 0, .int 0]))] H)) (va_Qv (fun u : Nat × Nat => sz ≤ u.1 ∧ sz ≤ u.2 ∧ u.1 ≠ u.2) (fun u t => va_P D vwCl (lampW cI a u.1 u.2 L0) t.heap) (AN a sz)) 2 16 (AN a sz) := by
  refine Met.ofW (cc := cX0_init) (maxL := 1) (ret := none) (by decide) rfl ?_
  intro p e s m args below meth c s₁ B hml hv
  obtain ⟨rfl, hK, hsz, hP⟩ := hv
  have hx := B.exec
  have hb := B.bytes
  have hr := B.returns
  have hts := atoms_spec (ws := wsX0_init) B.pre
  have hown : s.vm.findClass RX0 = some m.cls := findClass_of_methodNamed B.named
  have hlocks := B.notSynchronized
  have hin : meth.name = "<init>" := (name_of_methodNamed B.named B.method).1
  subst hsz
  have hD : va_D (AN a s.heap.size) [(a, .inr (0, [.null, .null, .int 0, .int 0, .int 0]))] := vdA1
  have hA : ∀ q : Nat, s.heap.size ≤ q → AN a s.heap.size q := fun q h => Or.inr h
  have hS : va_S (AN a s.heap.size) s.heap s.heap [] := va_S.rf
  have hP : va_P D vwCl [(a, .inr (0, [.null, .null, .int 0, .int 0, .int 0]))] s.heap := hP
  have hin0 : ∀ w ∈ wsX00, w ∈ wsX0_init := by decide +kernel
  have hl := lv_entry ([.ref a]) (n := 1) (Nat.le_of_ble_eq_true rfl)
  rw [lg_entry_eq]
  generalize (lg_sl ([.ref a]) ++ List.replicate (1 - (lg_sl ([.ref a])).length) Slot.unset).toArray = ls at hl ⊢
  have hl : lv_has ls 1 [(0, .ref a)] := hl
  refine lv_aload_n hx hb dX0_init_0 rfl (lv_at hl 0 rfl) ?_
  refine W.objInit hx hb hown (hts (.methodLink RX0 3 objectInit) (List.mem_of_getElem? (i := 1) rfl)) (hts (.instanceMethod objectInit) (List.mem_of_getElem? (i := 2) rfl)) (hts (.code objectInit ⟨#[0xb1]⟩ 1 none) (List.mem_of_getElem? (i := 3) rfl)) rfl (by rw [hml]; exact hl.1) rfl dX0_init_1 (Nat.le_of_ble_eq_true rfl) (Nat.le_of_ble_eq_true rfl) ?_
  refine W.eq (g2 := F0 m 4 ls []) rfl ?_
  refine lv_aload_n hx hb dX0_init_4 rfl (lv_at hl 0 rfl) ?_
  refine lv_bipush (v := nI 8) hx hb dX0_init_5 (by decide) ?_
  refine va_newa (atype := .int) (N' := 8) (a0 := (8, .inl (fun _ => 0))) hx hb (hts (.arrayClass .int) (List.mem_of_getElem? (i := 4) rfl)) rfl hK hP hD hS hA (fun _ => rfl) (by decide) (by decide +kernel) (Nat.le_of_ble_eq_true rfl) (Nat.le_of_ble_eq_true rfl) (Nat.le_of_ble_eq_true rfl) dX0_init_7 (fun q1 cA_4 H hKa_4 hP hD hS => ?_)
  rw [KI hKa_4] at hP hD
  have hP : va_P D vwCl [(a, .inr (0, [.null, .null, .int 0, .int 0, .int 0])), (q1, .inl (cI, 8, .inl (fun _ => 0)))] H := hP
  have hD : va_D (AN a s.heap.size) [(a, .inr (0, [.null, .null, .int 0, .int 0, .int 0])), (q1, .inl (cI, 8, .inl (fun _ => 0)))] := hD
  refine va_putF (D := D) (ci := 0) (v := .ref q1) (ty := .array .int) (C := RX0) (T := TX0) (N := 5) hx hb hts hin0 tyX0 tyX0_ok nmX0 hown hK hP hD hS 0 rfl rfl 0 (by decide) (hts (.fieldLink RX0 9 "LanternPrimes$Lamp" "numbers" "[I") (List.mem_of_getElem? (i := 5) rfl)) (fun _ h9 => h9) rfl hin rfl (by decide +kernel) rfl rfl (Nat.le_of_ble_eq_true rfl) dX0_init_9 (fun H locs hP hD hS => ?_)
  have hP : va_P D vwCl [(a, .inr (0, [.ref q1, .null, .int 0, .int 0, .int 0])), (q1, .inl (cI, 8, .inl (fun _ => 0)))] H := hP
  have hD : va_D (AN a s.heap.size) [(a, .inr (0, [.ref q1, .null, .int 0, .int 0, .int 0])), (q1, .inl (cI, 8, .inl (fun _ => 0)))] := hD
  refine lv_aload_n hx hb dX0_init_12 rfl (lv_at hl 0 rfl) ?_
  refine lv_bipush (v := nI 8) hx hb dX0_init_13 (by decide) ?_
  refine va_newa (atype := .int) (N' := 8) (a0 := (8, .inl (fun _ => 0))) hx hb (hts (.arrayClass .int) (List.mem_of_getElem? (i := 4) rfl)) rfl hK hP hD hS hA (fun _ => rfl) (by decide) (by decide +kernel) (Nat.le_of_ble_eq_true rfl) (Nat.le_of_ble_eq_true rfl) (Nat.le_of_ble_eq_true rfl) dX0_init_15 (fun q2 cA_12 H hKa_12 hP hD hS => ?_)
  rw [KI hKa_12] at hP hD
  have hP : va_P D vwCl [(a, .inr (0, [.ref q1, .null, .int 0, .int 0, .int 0])), (q1, .inl (cI, 8, .inl (fun _ => 0))), (q2, .inl (cI, 8, .inl (fun _ => 0)))] H := hP
  have hD : va_D (AN a s.heap.size) [(a, .inr (0, [.ref q1, .null, .int 0, .int 0, .int 0])), (q1, .inl (cI, 8, .inl (fun _ => 0))), (q2, .inl (cI, 8, .inl (fun _ => 0)))] := hD
  refine va_putF (D := D) (ci := 0) (v := .ref q2) (ty := .array .int) (C := RX0) (T := TX0) (N := 5) hx hb hts hin0 tyX0 tyX0_ok nmX0 hown hK hP hD hS 0 rfl rfl 1 (by decide) (hts (.fieldLink RX0 15 "LanternPrimes$Lamp" "offsets" "[I") (List.mem_of_getElem? (i := 6) rfl)) (fun _ h9 => h9) rfl hin rfl (by decide +kernel) rfl rfl (Nat.le_of_ble_eq_true rfl) dX0_init_17 (fun H locs hP hD hS => ?_)
  have hP : va_P D vwCl [(a, .inr (0, [.ref q1, .ref q2, .int 0, .int 0, .int 0])), (q1, .inl (cI, 8, .inl (fun _ => 0))), (q2, .inl (cI, 8, .inl (fun _ => 0)))] H := hP
  have hD : va_D (AN a s.heap.size) [(a, .inr (0, [.ref q1, .ref q2, .int 0, .int 0, .int 0])), (q1, .inl (cI, 8, .inl (fun _ => 0))), (q2, .inl (cI, 8, .inl (fun _ => 0)))] := hD
  have h_1 : s.heap.size ≤ q1 := AN_new hD rfl (i := 1) rfl (by decide)
  have h_2 : s.heap.size ≤ q2 := AN_new hD rfl (i := 2) rfl (by decide)
  have h_3 : q1 ≠ q2 := fun h => absurd (hD.1 1 2 _ _ rfl rfl h) (by decide)
  exact W.vret hx hb hr (fun t ht hW => ⟨⟨(q1, q2), rfl, ⟨h_1, h_2, h_3⟩, by show va_P D vwCl (lampW cI a q1 q2 L0) t.heap; rw [ht]; exact hP⟩, hS.F ht⟩) hS.2.2 dX0_init_20
