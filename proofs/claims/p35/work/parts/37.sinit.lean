/-! the law's own lamps: the new object -/
def PNE (D : va_G) (cB : ClassId) (T : List (ClassId × FieldType)) (av : List Value) (sz : Nat) (Ph : Heap → Prop) : Array Value → State → Prop := fun a U => PN D T av sz Ph a U ∧ EA D cB U
theorem PNE_blind {D : va_G} {cB : ClassId} {T : List (ClassId × FieldType)} {av : List Value} {sz : Nat} {Ph : Heap → Prop} : FrameBlind (PNE D cB T av sz Ph) := fun a U g mk q => ⟨PN_blind a U g mk q.1, q.2.moved (u := U) (U := U.calling g mk a) (Vm.Alike.refl U.vm)⟩
def wsK_init : List Cond := .code yX2_init cX2_init 1 none :: ([.classLink RX2 16 "[[[I", .methodLink RX2 1 objectInit, .instanceMethod objectInit, .code objectInit ⟨#[0xb1]⟩ 1 none, .arrayClass .boolean, .fieldLink RX2 7 "LanternPrimesLaw$Sim" "begins" "[Z", .fieldLink RX2 13 "LanternPrimesLaw$Sim" "covered" "[Z", .fieldLink RX2 18 "LanternPrimesLaw$Sim" "beats" "[[[I"] ++ wsX20)
/-- the new object's addresses -/
def asN (a q1 q2 h : Nat) : Nat → Nat := fun u => if u = 0 then a else if u = 1 then q1 else if u = 2 then q2 else h + (u + 1) / 5
abbrev iW (cJ : ClassId) (h : Nat) : va_W := (List.range 8).map (fun j => (h + 1 + j, .inl (cJ, 0, qA (fun _ => none))))
abbrev nW (cZ cB cJ : ClassId) (a q1 q2 h : Nat) (d : Value) : va_W := [(a, .inr (2, [.int 0, .int 0, .int 0, .ref q1, .ref q2, d])), (q1, .inl (cZ, 8, .inl (fun _ => 0))), (q2, .inl (cZ, 8, .inl (fun _ => 0))), (h, .inl (cB, 8, qA (fun j => some (h + 1 + j))))] ++ iW cJ h
theorem iW_get {cJ : ClassId} {h j : Nat} (hj : j < 8) : (iW cJ h)[j]? = some (h + 1 + j, .inl (cJ, 0, qA (fun _ => none))) := by
  rw [List.getElem?_map, List.getElem?_range hj]
  rfl
set_option maxHeartbeats 4000000 in
set_option maxRecDepth 100000 in
/-- Sim() -/
theorem c_X2_init (l : Launch) (D : va_G) (cI cZ cL cJ : ClassId) (cB : ClassId) (a sz : Nat) (ha : a < sz) : Met l yX2_init wsK_init ({ frames := 1, cells := 11, slots := 24, locals := 12 } : Room) (PNE D cB (TY cI cZ cL cJ) [.ref a] sz (fun H => va_P D vwCl [(a, .inr (2, [.int 0, .int 0, .int 0, .null, .null, .null]))] H)) (va_Qv (fun as : Nat → Nat => as 0 = a ∧ InjS (fun _ => L0) as ∧ ∀ u, Us (fun _ => L0) u → AN a sz (as u)) (fun as t => SP D cI cZ cJ cB as 0 0 (nI 0) (fun _ => L0) t.heap) (AN a sz)) 11 24 (AN a sz) := by
  refine Met.ofW (cc := cX2_init) (maxL := 1) (ret := none) (by decide) rfl ?_
  intro p e s m args below meth c s₁ B hml hv
  obtain ⟨⟨rfl, hK, hsz, hP⟩, hEA⟩ := hv
  have hx := B.exec
  have hb := B.bytes
  have hr := B.returns
  have hts := atoms_spec (ws := wsK_init) B.pre
  have hown : s.vm.findClass RX2 = some m.cls := findClass_of_methodNamed B.named
  have hlocks := B.notSynchronized
  have hin : meth.name = "<init>" := (name_of_methodNamed B.named B.method).1
  subst hsz
  have hD : va_D (AN a s.heap.size) [(a, .inr (2, [.int 0, .int 0, .int 0, .null, .null, .null]))] := vdA1
  have hA : ∀ q : Nat, s.heap.size ≤ q → AN a s.heap.size q := fun q h => Or.inr h
  have hS : va_S (AN a s.heap.size) s.heap s.heap [] := va_S.rf
  have hP : va_P D vwCl [(a, .inr (2, [.int 0, .int 0, .int 0, .null, .null, .null]))] s.heap := hP
  have hin2 : ∀ w ∈ wsX20, w ∈ wsK_init := by decide +kernel
  have hl := lv_entry ([.ref a]) (n := 1) (Nat.le_of_ble_eq_true rfl)
  rw [lg_entry_eq]
  generalize (lg_sl ([.ref a]) ++ List.replicate (1 - (lg_sl ([.ref a])).length) Slot.unset).toArray = ls at hl ⊢
  have hl : lv_has ls 1 [(0, .ref a)] := hl
  refine lv_aload_n hx hb dX2_init_0 rfl (lv_at hl 0 rfl) ?_
  refine W.objInit hx hb hown (hts (.methodLink RX2 1 objectInit) (List.mem_of_getElem? (i := 2) rfl)) (hts (.instanceMethod objectInit) (List.mem_of_getElem? (i := 3) rfl)) (hts (.code objectInit ⟨#[0xb1]⟩ 1 none) (List.mem_of_getElem? (i := 4) rfl)) rfl (by rw [hml]; exact hl.1) rfl dX2_init_1 (Nat.le_of_ble_eq_true rfl) (Nat.le_of_ble_eq_true rfl) ?_
  refine W.eq (g2 := F0 m 4 ls []) rfl ?_
  refine lv_aload_n hx hb dX2_init_4 rfl (lv_at hl 0 rfl) ?_
  refine lv_bipush (v := nI 8) hx hb dX2_init_5 (by decide) ?_
  refine va_newa (atype := .boolean) (N' := 8) (a0 := (8, .inl (fun _ => 0))) hx hb (hts (.arrayClass .boolean) (List.mem_of_getElem? (i := 5) rfl)) rfl hK hP hD hS hA (fun _ => rfl) (by decide) (by decide +kernel) (Nat.le_of_ble_eq_true rfl) (Nat.le_of_ble_eq_true rfl) (Nat.le_of_ble_eq_true rfl) dX2_init_7 (fun q1 cA_4 H hKa_4 hP hD hS => ?_)
  rw [KZ hKa_4] at hP hD
  have hP : va_P D vwCl [(a, .inr (2, [.int 0, .int 0, .int 0, .null, .null, .null])), (q1, .inl (cZ, 8, .inl (fun _ => 0)))] H := hP
  have hD : va_D (AN a s.heap.size) [(a, .inr (2, [.int 0, .int 0, .int 0, .null, .null, .null])), (q1, .inl (cZ, 8, .inl (fun _ => 0)))] := hD
  refine va_putF (D := D) (ci := 2) (v := .ref q1) (ty := .array .boolean) (C := RX2) (T := TX2) (N := 6) hx hb hts hin2 tyX2 tyX2_ok nmX2 hown hK hP hD hS 0 rfl rfl 3 (by decide) (hts (.fieldLink RX2 7 "LanternPrimesLaw$Sim" "begins" "[Z") (List.mem_of_getElem? (i := 6) rfl)) (fun _ h9 => h9) rfl hin rfl (by decide +kernel) rfl rfl (Nat.le_of_ble_eq_true rfl) dX2_init_9 (fun H locs hP hD hS => ?_)
  have hP : va_P D vwCl [(a, .inr (2, [.int 0, .int 0, .int 0, .ref q1, .null, .null])), (q1, .inl (cZ, 8, .inl (fun _ => 0)))] H := hP
  have hD : va_D (AN a s.heap.size) [(a, .inr (2, [.int 0, .int 0, .int 0, .ref q1, .null, .null])), (q1, .inl (cZ, 8, .inl (fun _ => 0)))] := hD
  refine lv_aload_n hx hb dX2_init_12 rfl (lv_at hl 0 rfl) ?_
  refine lv_bipush (v := nI 8) hx hb dX2_init_13 (by decide) ?_
  refine va_newa (atype := .boolean) (N' := 8) (a0 := (8, .inl (fun _ => 0))) hx hb (hts (.arrayClass .boolean) (List.mem_of_getElem? (i := 5) rfl)) rfl hK hP hD hS hA (fun _ => rfl) (by decide) (by decide +kernel) (Nat.le_of_ble_eq_true rfl) (Nat.le_of_ble_eq_true rfl) (Nat.le_of_ble_eq_true rfl) dX2_init_15 (fun q2 cA_12 H hKa_12 hP hD hS => ?_)
  rw [KZ hKa_12] at hP hD
  have hP : va_P D vwCl [(a, .inr (2, [.int 0, .int 0, .int 0, .ref q1, .null, .null])), (q1, .inl (cZ, 8, .inl (fun _ => 0))), (q2, .inl (cZ, 8, .inl (fun _ => 0)))] H := hP
  have hD : va_D (AN a s.heap.size) [(a, .inr (2, [.int 0, .int 0, .int 0, .ref q1, .null, .null])), (q1, .inl (cZ, 8, .inl (fun _ => 0))), (q2, .inl (cZ, 8, .inl (fun _ => 0)))] := hD
  refine va_putF (D := D) (ci := 2) (v := .ref q2) (ty := .array .boolean) (C := RX2) (T := TX2) (N := 6) hx hb hts hin2 tyX2 tyX2_ok nmX2 hown hK hP hD hS 0 rfl rfl 4 (by decide) (hts (.fieldLink RX2 13 "LanternPrimesLaw$Sim" "covered" "[Z") (List.mem_of_getElem? (i := 7) rfl)) (fun _ h9 => h9) rfl hin rfl (by decide +kernel) rfl rfl (Nat.le_of_ble_eq_true rfl) dX2_init_17 (fun H locs hP hD hS => ?_)
  have hP : va_P D vwCl [(a, .inr (2, [.int 0, .int 0, .int 0, .ref q1, .ref q2, .null])), (q1, .inl (cZ, 8, .inl (fun _ => 0))), (q2, .inl (cZ, 8, .inl (fun _ => 0)))] H := hP
  have hD : va_D (AN a s.heap.size) [(a, .inr (2, [.int 0, .int 0, .int 0, .ref q1, .ref q2, .null])), (q1, .inl (cZ, 8, .inl (fun _ => 0))), (q2, .inl (cZ, 8, .inl (fun _ => 0)))] := hD
  have h_1 : s.heap.size ≤ q1 := AN_new hD rfl (i := 1) rfl (by decide)
  have h_2 : s.heap.size ≤ q2 := AN_new hD rfl (i := 2) rfl (by decide)
  have h_3 : q1 ≠ q2 := fun h => absurd (hD.1 1 2 _ _ rfl rfl h) (by decide)
  have g_1 : q1 < H.size := (hP 1 _ rfl).lt
  have g_2 : q2 < H.size := (hP 2 _ rfl).lt
  have hSz := hS.1
  refine lv_aload_n hx hb dX2_init_20 rfl (lv_at hl 0 rfl) ?_
  refine lv_bipush (v := nI 8) hx hb dX2_init_21 (by decide) ?_
  refine lv_iconst (v := nI 0) hx hb dX2_init_23 (by decide) ?_
  refine n_multi hx hb hown (hts (.classLink RX2 16 "[[[I") (List.mem_of_getElem? (i := 1) rfl)) hEA.use3 hEA.use2 dX2_init_24 (Nat.le_of_ble_eq_true rfl) (Nat.le_of_ble_eq_true rfl) (fun H1 cB1 cJ1 e1 e2 z1 o1 hB hJ => ?_)
  have eB : cB1 = cB := Option.some.inj (e1.symm.trans (hEA.2.2 0 (cB, .array (.array .int)) rfl).2)
  have eJ : cJ1 = cJ := Option.some.inj (e2.symm.trans (hK.2 3 (cJ, .array .int) rfl).2)
  subst eB
  subst eJ
  have hS : va_S (AN a s.heap.size) s.heap H1 locs := ⟨by omega, fun q h1 h2 => (o1 q (by omega)).trans (hS.2.1 q h1 h2), hS.2.2⟩
  have hP : va_P D vwCl (nW cZ cB1 cJ1 a q1 q2 H.size .null) H1 := by
    refine (va_P.app (w1 := [(a, .inr (2, [.int 0, .int 0, .int 0, .ref q1, .ref q2, .null])), (q1, .inl (cZ, 8, .inl (fun _ => 0))), (q2, .inl (cZ, 8, .inl (fun _ => 0))), (H.size, .inl (cB1, 8, qA (fun j => some (H.size + 1 + j))))]) ?_ ?_)
    · intro k q hq
      match k, hq with
      | 0, hq => cases hq; exact (hP 0 _ rfl).kept (o1 _ (hP 0 _ rfl).lt)
      | 1, hq => cases hq; exact (hP 1 _ rfl).kept (o1 _ (hP 1 _ rfl).lt)
      | 2, hq => cases hq; exact (hP 2 _ rfl).kept (o1 _ (hP 2 _ rfl).lt)
      | 3, hq => cases hq; exact hB
    · intro k q hq
      have hk : k < 8 := by
        have := (List.getElem?_eq_some_iff.mp hq).1
        simpa using this
      rw [iW_get hk] at hq
      cases hq
      exact hJ k hk
  have hD : va_D (AN a s.heap.size) (nW cZ cB1 cJ1 a q1 q2 H.size .null) := by
    refine vd_of (N := 12) (ad := fun i => if i = 0 then a else if i = 1 then q1 else if i = 2 then q2 else H.size + (i - 3)) rfl (fun i j hi hj h => ?_) (fun i hi => ?_)
    · have h : (if i = 0 then a else if i = 1 then q1 else if i = 2 then q2 else H.size + (i - 3)) = (if j = 0 then a else if j = 1 then q1 else if j = 2 then q2 else H.size + (j - 3)) := h
      split at h <;> split at h <;> (try split at h) <;> (try split at h) <;> (try split at h) <;> (try split at h) <;> omega
    · show AN a s.heap.size (if i = 0 then a else if i = 1 then q1 else if i = 2 then q2 else H.size + (i - 3))
      by_cases c0 : i = 0
      · rw [if_pos c0]; exact Or.inl rfl
      · rw [if_neg c0]
        by_cases c1 : i = 1
        · rw [if_pos c1]; exact Or.inr h_1
        · rw [if_neg c1]
          by_cases c2 : i = 2
          · rw [if_pos c2]; exact Or.inr h_2
          · rw [if_neg c2]; exact Or.inr (by omega)
  refine va_putF (D := D) (ci := 2) (v := .ref H.size) (ty := .array (.array (.array .int))) (C := RX2) (T := TX2) (N := 6) hx hb hts hin2 tyX2 tyX2_ok nmX2 hown hK hP hD hS 0 rfl rfl 5 (by decide) (hts (.fieldLink RX2 18 "LanternPrimesLaw$Sim" "beats" "[[[I") (List.mem_of_getElem? (i := 8) rfl)) (fun _ h9 => h9) rfl hin rfl (by decide +kernel) rfl rfl (Nat.le_of_ble_eq_true rfl) dX2_init_28 (fun H2 locs hP hD hS => ?_)
  have hP : va_P D vwCl (nW cZ cB1 cJ1 a q1 q2 H.size (.ref H.size)) H2 := hP
  have eR : ∀ j, asN a q1 q2 H.size (4 + 5 * j) = H.size + 1 + j := fun j => by
    unfold asN
    rw [if_neg (by omega), if_neg (by omega), if_neg (by omega)]
    omega
  have hSP : SP D cI cZ cJ1 cB1 (asN a q1 q2 H.size) 0 0 (nI 0) (fun _ => L0) H2 := by
    refine ⟨fun k q hq => ?_, fun j hj => ⟨?_, fun i hi => absurd hi (Nat.not_lt_zero i)⟩⟩
    · match k, hq with
      | 0, hq => cases hq; exact hP 0 _ rfl
      | 1, hq => cases hq; exact hP 1 _ rfl
      | 2, hq => cases hq; exact hP 2 _ rfl
      | 3, hq =>
        cases hq
        show H2[H.size + (3 + 1) / 5]? = some (arrV cB1 8 (fun j => va_rf (some (asN a q1 q2 H.size (4 + 5 * j)))))
        rw [arrV_congr (g := fun j => va_rf (some (H.size + 1 + j))) (fun j _ => by rw [eR j])]
        exact hP 3 _ rfl
    · show H2[asN a q1 q2 H.size (4 + 5 * j)]? = some (arrV cJ1 0 (fun i => va_rf (some (asN a q1 q2 H.size (5 + 5 * j + i)))))
      rw [eR j, arrV_congr (g := fun _ => va_rf none) (fun i hi => absurd hi (Nat.not_lt_zero i))]
      exact hP (4 + j) (H.size + 1 + j, .inl (cJ1, 0, qA (fun _ => none))) (by
        have := iW_get (cJ := cJ1) (h := H.size) hj
        rw [show nW cZ cB1 cJ1 a q1 q2 H.size (.ref H.size) = [(a, .inr (2, [.int 0, .int 0, .int 0, .ref q1, .ref q2, .ref H.size])), (q1, .inl (cZ, 8, .inl (fun _ => 0))), (q2, .inl (cZ, 8, .inl (fun _ => 0))), (H.size, .inl (cB1, 8, qA (fun j => some (H.size + 1 + j))))] ++ iW cJ1 H.size from rfl, List.getElem?_append_right (by show 4 ≤ 4 + j; omega)]
        rw [show 4 + j - ([(a, .inr (2, [.int 0, .int 0, .int 0, .ref q1, .ref q2, .ref H.size])), (q1, .inl (cZ, 8, .inl (fun _ => 0))), (q2, .inl (cZ, 8, .inl (fun _ => 0))), (H.size, .inl (cB1, 8, qA (fun j => some (H.size + 1 + j))))] : va_W).length = j by show 4 + j - 4 = j; omega]
        exact this)
  have hUs : ∀ u, Us (fun _ => L0) u → u < 4 ∨ ∃ j, j < 8 ∧ u = 4 + 5 * j := by
    rintro u (h | ⟨j, hj, h | ⟨i, hi, -⟩⟩)
    · exact Or.inl h
    · exact Or.inr ⟨j, hj, h⟩
    · exact absurd hi (Nat.not_lt_zero i)
  have hval : ∀ u, Us (fun _ => L0) u → (u = 0 ∧ asN a q1 q2 H.size u = a) ∨ (u = 1 ∧ asN a q1 q2 H.size u = q1) ∨ (u = 2 ∧ asN a q1 q2 H.size u = q2) ∨ ∃ k, u + 2 = 5 * (k + 1) ∧ asN a q1 q2 H.size u = H.size + k ∨ u + 1 = 5 * (k + 1) ∧ asN a q1 q2 H.size u = H.size + (k + 1) := by
    intro u hu
    unfold asN
    rcases hUs u hu with h | ⟨j, hj, h⟩
    · rcases (show u = 0 ∨ u = 1 ∨ u = 2 ∨ u = 3 by omega) with h | h | h | h
      · exact Or.inl ⟨h, if_pos h⟩
      · exact Or.inr (Or.inl ⟨h, by rw [if_neg (by omega), if_pos h]⟩)
      · exact Or.inr (Or.inr (Or.inl ⟨h, by rw [if_neg (by omega), if_neg (by omega), if_pos h]⟩))
      · exact Or.inr (Or.inr (Or.inr ⟨0, Or.inl ⟨by omega, by rw [if_neg (by omega), if_neg (by omega), if_neg (by omega)]; omega⟩⟩))
    · exact Or.inr (Or.inr (Or.inr ⟨j, Or.inr ⟨by omega, by rw [if_neg (by omega), if_neg (by omega), if_neg (by omega)]; omega⟩⟩))
  have hinj : InjS (fun _ => L0) (asN a q1 q2 H.size) := by
    intro x y hx9 hy9 e9
    have k1 := hUs x hx9
    have k2 := hUs y hy9
    unfold asN at e9
    have m1 : x < 4 ∨ (x + 1) % 5 = 0 := by rcases k1 with h | ⟨j, _, h⟩ <;> omega
    have m2 : y < 4 ∨ (y + 1) % 5 = 0 := by rcases k2 with h | ⟨j, _, h⟩ <;> omega
    split at e9 <;> split at e9 <;> (try split at e9) <;> (try split at e9) <;> (try split at e9) <;> (try split at e9) <;> omega
  exact W.vret hx hb hr (fun t ht hW => ⟨⟨asN a q1 q2 H.size, rfl, ⟨rfl, hinj, fun u hu => by
    rcases hval u hu with ⟨-, h⟩ | ⟨-, h⟩ | ⟨-, h⟩ | ⟨k, ⟨-, h⟩ | ⟨-, h⟩⟩ <;> rw [h]
    · exact Or.inl rfl
    · exact Or.inr h_1
    · exact Or.inr h_2
    · exact Or.inr (by omega)
    · exact Or.inr (by omega)⟩, by show SP D cI cZ cJ1 cB1 _ 0 0 (nI 0) (fun _ => L0) t.heap; rw [ht]; exact hSP⟩, hS.F ht⟩) hS.2.2 dX2_init_31
