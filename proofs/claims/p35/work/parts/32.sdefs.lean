/-! the law's own lamps: their picture, and the rows of arrays of arrays -/
theorem aoA_moved {t : FieldType} {u U : State} (hvm : u.vm.Alike U.vm) (h : (Cond.arrayOver (.array t)).before #[] u = true) : (Cond.arrayOver (.array t)).before #[] U = true := by
  obtain ⟨comp, c, k, h1, h2, h3, h4, h5⟩ := arrayOverA_spec h
  obtain ⟨k', hk', he⟩ := hvm.2.2 _ _ h3
  have hi : (U.vm.classes.findIdx? fun (x : Class) => match x.kind with | .array component _ => component == comp | _ => false) = some c := by
    rw [hvm.findIdx?_eq _ (fun _ => rfl)]; exact h2
  have hkind : k'.kind = .array comp (.array t) := by rw [he]; exact h4
  have f1 : U.vm.findClass (FieldType.array t).toString = some comp := by rw [hvm.findClass]; exact h1
  have f2 : U.vm.findClass ("[" ++ (FieldType.array t).toString) = some c := by rw [hvm.findClass]; exact h5
  unfold Cond.before Cond.holds
  simp only [Cond.value]
  rw [f1, Option.bind_some]
  refine (congrArg (fun o : Option Nat => (o.bind (fun c => (U.vm.classes[c]?).map fun (k : Class) => match k.kind with | .array _ ty => decide (ty = FieldType.array t) && decide (U.vm.findClass ("[" ++ (FieldType.array t).toString) = some c) | _ => false) == some true)) hi).trans ?_
  simp [hk', hkind, f2]
/-- what is taken of arrays of arrays -/
def EA (D : va_G) (cB : ClassId) (U : State) : Prop := ((Cond.arrayOver (.array .int)).before #[] U = true ∧ (Cond.arrayOver (.array (.array .int))).before #[] U = true) ∧ va_K D vwCl [(cB, .array (.array .int))] U
theorem EA.moved {D : va_G} {cB : ClassId} {u U : State} (hvm : u.vm.Alike U.vm) (h : EA D cB u) : EA D cB U := ⟨⟨aoA_moved hvm h.1.1, aoA_moved hvm h.1.2⟩, va_K.moved hvm h.2⟩
theorem EA.use2 {D : va_G} {cB : ClassId} {U : State} {args : Array Value} (h : EA D cB U) : (Cond.arrayOver (.array .int)).before args U = true := h.1.1
theorem EA.use3 {D : va_G} {cB : ClassId} {U : State} {args : Array Value} (h : EA D cB U) : (Cond.arrayOver (.array (.array .int))).before args U = true := h.1.2
theorem str1 : (FieldType.array .int).toString = "[" ++ FieldType.int.toString := by decide
theorem str2 : (FieldType.array (.array .int)).toString = "[" ++ (FieldType.array .int).toString := by decide
theorem EA_J {D : va_G} {cI cZ cL cJ cB : ClassId} {s : State} (hK : va_K D vwCl (TY cI cZ cL cJ) s) (h : EA D cB s) : ∃ kA kV, s.vm.classes[cJ]? = some kA ∧ kA.kind = .array cI (.array .int) ∧ s.vm.classes[cI]? = some kV := by
  obtain ⟨comp, c, k, h1, -, h3, h4, h5⟩ := arrayOverA_spec h.1.1
  have hI : s.vm.findClass ("[" ++ FieldType.int.toString) = some cI := (hK.2 0 (cI, .int) rfl).2
  have hJ : s.vm.findClass ("[" ++ (FieldType.array .int).toString) = some cJ := (hK.2 3 (cJ, .array .int) rfl).2
  rw [str1] at h1
  cases Option.some.inj (h1.symm.trans hI)
  cases Option.some.inj (h5.symm.trans hJ)
  obtain ⟨kV, hkV, -⟩ := Vm.findClass_spec hI
  exact ⟨k, kV, h3, h4, hkV⟩
theorem EA_B {D : va_G} {cI cZ cL cJ cB : ClassId} {s : State} (hK : va_K D vwCl (TY cI cZ cL cJ) s) (h : EA D cB s) : ∃ kA kV, s.vm.classes[cB]? = some kA ∧ kA.kind = .array cJ (.array (.array .int)) ∧ s.vm.classes[cJ]? = some kV := by
  obtain ⟨comp, c, k, h1, -, h3, h4, h5⟩ := arrayOverA_spec h.1.2
  have hJ : s.vm.findClass ("[" ++ (FieldType.array .int).toString) = some cJ := (hK.2 3 (cJ, .array .int) rfl).2
  have hB : s.vm.findClass ("[" ++ (FieldType.array (.array .int)).toString) = some cB := (h.2.2 0 (cB, .array (.array .int)) rfl).2
  rw [str2] at h1
  cases Option.some.inj (h1.symm.trans hJ)
  cases Option.some.inj (h5.symm.trans hB)
  obtain ⟨kV, hkV, -⟩ := Vm.findClass_spec hJ
  exact ⟨k, kV, h3, h4, hkV⟩
def PCS (D : va_G) (cB : ClassId) (T : List (ClassId × FieldType)) (A : Nat → Prop) (av : List Value) (Ph : Heap → Prop) : Array Value → State → Prop := fun a U => PC D T A av Ph a U ∧ EA D cB U
theorem PCS_blind {D : va_G} {cB : ClassId} {T : List (ClassId × FieldType)} {A : Nat → Prop} {av : List Value} {Ph : Heap → Prop} : FrameBlind (PCS D cB T A av Ph) := fun a U g mk q => ⟨PC_blind a U g mk q.1, q.2.moved (u := U) (U := U.calling g mk a) (Vm.Alike.refl U.vm)⟩
theorem PCSuse {D : va_G} {cB : ClassId} {T : List (ClassId × FieldType)} {A : Nat → Prop} {As : List Value} {Ph : Heap → Prop} {s : State} {H : Heap} (hK : va_K D vwCl T s) (hE : EN A s H) (hEA : EA D cB s) (hPh : Ph H) : ∀ U : State, U.heap = H → s.WarmedH U.vm → PCS D cB T A As Ph As.toArray U := fun U hU hW => ⟨PCuse hK hE hPh U hU hW, hEA.moved hW.alike⟩
/-! the picture of the law's own lamps: its object, three rows, a row of beats for each lamp, two numbers for each beat -/
abbrev qA (f : Nat → Option Nat) : (Nat → Int32) ⊕ (Nat → Int64) ⊕ (Nat → UInt32) ⊕ (Nat → UInt64) ⊕ (Nat → Option Nat) := .inr (.inr (.inr (.inr f)))
abbrev sW (cZ cB : ClassId) (as : Nat → Nat) (n now : Nat) (told : Int32) (v : Nat → LV) : va_W := [(as 0, .inr (2, [.int (nI now), .int told, .int (nI n), .ref (as 1), .ref (as 2), .ref (as 3)])), (as 1, .inl (cZ, 8, .inl (fun j => bI (lon (v j))))), (as 2, .inl (cZ, 8, .inl (fun j => bI (lcv (v j))))), (as 3, .inl (cB, 8, qA (fun j => some (as (4 + 5 * j)))))]
abbrev sRow (cJ : ClassId) (as : Nat → Nat) (v : Nat → LV) (j : Nat) : Nat × va_E := (as (4 + 5 * j), .inl (cJ, lbc (v j), qA (fun i => some (as (5 + 5 * j + i)))))
def btF (L : LV) (i : Nat) : Nat → Int32 := fun z => if z = 0 then nI (lnu L i) else nI (lof L i)
abbrev sBt (cI : ClassId) (as : Nat → Nat) (v : Nat → LV) (j i : Nat) : Nat × va_E := (as (5 + 5 * j + i), .inl (cI, 2, .inl (btF (v j) i)))
def SP (D : va_G) (cI cZ cJ cB : ClassId) (as : Nat → Nat) (n now : Nat) (told : Int32) (v : Nat → LV) (H : Heap) : Prop := va_P D vwCl (sW cZ cB as n now told v) H ∧ ∀ j, j < 8 → va_at D vwCl (sRow cJ as v j) H ∧ ∀ i, i < lbc (v j) → va_at D vwCl (sBt cI as v j i) H
/-- the places that are in use -/
def Us (v : Nat → LV) (u : Nat) : Prop := u < 4 ∨ ∃ j, j < 8 ∧ (u = 4 + 5 * j ∨ ∃ i, i < lbc (v j) ∧ u = 5 + 5 * j + i)
def InjS (v : Nat → LV) (as : Nat → Nat) : Prop := ∀ x y, Us v x → Us v y → as x = as y → x = y
theorem Us.lo {v : Nat → LV} {u : Nat} (h : u < 4) : Us v u := Or.inl h
theorem Us.row {v : Nat → LV} {j : Nat} (h : j < 8) : Us v (4 + 5 * j) := Or.inr ⟨j, h, Or.inl rfl⟩
theorem Us.bt {v : Nat → LV} {j i : Nat} (h : j < 8) (hi : i < lbc (v j)) : Us v (5 + 5 * j + i) := Or.inr ⟨j, h, Or.inr ⟨i, hi, rfl⟩⟩
section SPl
variable {D : va_G} {cI cZ cJ cB : ClassId} {as : Nat → Nat} {n now : Nat} {told : Int32} {v : Nat → LV} {H H0 : Heap} {A : Nat → Prop}
theorem SP_lt (h : SP D cI cZ cJ cB as n now told v H) : ∀ u, Us v u → as u < H.size := by
  rintro u (hu | ⟨j, hj, rfl | ⟨i, hi, rfl⟩⟩)
  · match u, hu with
    | 0, _ => exact (h.1 0 _ rfl).lt
    | 1, _ => exact (h.1 1 _ rfl).lt
    | 2, _ => exact (h.1 2 _ rfl).lt
    | 3, _ => exact (h.1 3 _ rfl).lt
  · exact (h.2 j hj).1.lt
  · exact ((h.2 j hj).2 i hi).lt
theorem SP_keep (h : SP D cI cZ cJ cB as n now told v H0) (hno : ∀ u, Us v u → ¬ A (as u)) (hk : ∀ q : Nat, q < H0.size → ¬ A q → H[q]? = H0[q]?) : SP D cI cZ cJ cB as n now told v H := by
  refine ⟨h.1.kept (fun i x hx => ?_), fun j hj => ⟨(h.2 j hj).1.kept ?_, fun i hi => ((h.2 j hj).2 i hi).kept ?_⟩⟩
  · match i, hx with
    | 0, hx => cases hx; exact hk _ (h.1 0 _ rfl).lt (hno 0 (Us.lo (by decide)))
    | 1, hx => cases hx; exact hk _ (h.1 1 _ rfl).lt (hno 1 (Us.lo (by decide)))
    | 2, hx => cases hx; exact hk _ (h.1 2 _ rfl).lt (hno 2 (Us.lo (by decide)))
    | 3, hx => cases hx; exact hk _ (h.1 3 _ rfl).lt (hno 3 (Us.lo (by decide)))
  · exact hk _ (h.2 j hj).1.lt (hno _ (Us.row hj))
  · exact hk _ ((h.2 j hj).2 i hi).lt (hno _ (Us.bt hj hi))
/-- another ninth lamp doesn't show -/
theorem SP_8 (h : SP D cI cZ cJ cB as n now told v H) (w : LV) : SP D cI cZ cJ cB as n now told (updv v 8 w) H := by
  have e : ∀ j, j < 8 → updv v 8 w j = v j := fun j hj => if_neg (by omega)
  refine ⟨fun k q hq => ?_, fun j hj => ?_⟩
  · match k, hq with
    | 0, hq => cases hq; exact h.1 0 _ rfl
    | 1, hq =>
      cases hq
      show H[as 1]? = some (arrV cZ 8 (fun j => .int (bI (lon (updv v 8 w j)))))
      rw [arrV_congr (g := fun j => .int (bI (lon (v j)))) (fun j hj => by rw [e j hj])]
      exact h.1 1 _ rfl
    | 2, hq =>
      cases hq
      show H[as 2]? = some (arrV cZ 8 (fun j => .int (bI (lcv (updv v 8 w j)))))
      rw [arrV_congr (g := fun j => .int (bI (lcv (v j)))) (fun j hj => by rw [e j hj])]
      exact h.1 2 _ rfl
    | 3, hq => cases hq; exact h.1 3 _ rfl
  · have h2 := h.2 j hj
    unfold sRow sBt
    rw [e j hj]
    exact h2
theorem InjS_8 (h : InjS v as) (w : LV) : InjS (updv v 8 w) as := by
  have e : ∀ u, Us (updv v 8 w) u → Us v u := by
    rintro u (hu | ⟨j, hj, hr | ⟨i, hi, hr⟩⟩)
    · exact Or.inl hu
    · exact Or.inr ⟨j, hj, Or.inl hr⟩
    · exact Or.inr ⟨j, hj, Or.inr ⟨i, by rw [show updv v 8 w j = v j from if_neg (by omega)] at hi; exact hi, hr⟩⟩
  exact fun x y hx hy => h x y (e x hx) (e y hy)
end SPl
section SRows
variable {p : Program} {l : Launch} {e : Env} {R : Room} {s : State} {m : MethodId} {args : Array Value} {below : List Frame} {meth : Method} {c : Code} {H H0 : Heap} {locs : List Loc} {cells slots : Nat} {Q : State → Prop}
variable {cc : ByteArray} {pc : Nat} {ls : Array Slot} {rest : List Value} {D : va_G} {A : Nat → Prop} {a : Nat} {T : List (ClassId × FieldType)} {ws : va_W}
theorem n_aaldA {ty : FieldType} (hexec : p.tables.exec = Jvm.exec) (hb : c.code = cc) (hK : va_K D vwCl T s) (hP : va_P D vwCl ws H) (q0 t0 : Nat) {cA : ClassId} {N : Nat} {f : Nat → Option Nat} (ha : ws[q0]? = some (a, .inl (cA, N, .inr (.inr (.inr (.inr f)))))) (ht : T[t0]? = some (cA, .array ty)) {j : Nat} (hj : j < N) (hN : N < 2 ^ 31) {v : Nat} (hv : f j = some v) (hdg : decode cc pc = .ok (.aaload, 1))
    (kk : W p l e R s m args below meth c H locs cells slots Q (F0 m (pc + 1) ls (.ref v :: rest))) : W p l e R s m args below meth c H locs cells slots Q (F0 m pc ls (.int (nI j) :: .ref a :: rest)) := by
  have hcl : (nI j).toNatClampNeg = j := nI_clamp (Nat.lt_trans hj hN)
  refine W.aald (v := va_rf (f j)) (ty := .array ty) hexec hb (hP q0 _ ha) ((hK.2 t0 _ ht).1 N (fun j => va_rf (f j))) rfl (fun q => by cases q) (by show ¬ (nI j < 0 ∨ (arrV _ _ _).slots.size ≤ _); rw [arrV_size]; exact vp_in_nI hj hN) (by show (arrV _ _ _).slots[_]? = _; rw [hcl, arrV_read _ _ hj]) rfl rfl hdg ?_
  rw [hv]
  exact kk
theorem n_aastA {ty : FieldType} {cA cV : ClassId} {N M v j : Nat} {f : Nat → Option Nat} {g : Nat → Value} (hexec : p.tables.exec = Jvm.exec) (hb : c.code = cc) (hP : va_P D vwCl ws H) (hD : va_D A ws) (hS : va_S A H0 H locs) (q0 : Nat) (ha : ws[q0]? = some (a, .inl (cA, N, .inr (.inr (.inr (.inr f))))))
    (hc : ∃ kA kV, s.vm.classes[cA]? = some kA ∧ kA.kind = .array cV (.array ty) ∧ s.vm.classes[cV]? = some kV) (hv : H[v]? = some (arrV cV M g)) (hj : j < N) (hN : N < 2 ^ 31) (hdg : decode cc pc = .ok (.aastore, 1))
    (kk : ∀ (H1 : Heap) (locs1 : List Loc), va_P D vwCl (ws.set q0 (a, .inl (cA, N, .inr (.inr (.inr (.inr (va_up f j (some v)))))))) H1 → va_D A (ws.set q0 (a, .inl (cA, N, .inr (.inr (.inr (.inr (va_up f j (some v)))))))) → va_S A H0 H1 locs1 → H1.size = H.size → (∀ q : Nat, q ≠ a → H1[q]? = H[q]?) →
      W p l e R s m args below meth c H1 locs1 cells slots Q (F0 m (pc + 1) ls rest)) : W p l e R s m args below meth c H locs cells slots Q (F0 m pc ls (.ref v :: .int (nI j) :: .ref a :: rest)) := by
  have hcl : (nI j).toNatClampNeg = j := nI_clamp (Nat.lt_trans hj hN)
  obtain ⟨kA, kV, k1, k2, k3⟩ := hc
  have hself : s.vm.assignable cV cV = true := by
    show s.vm.assignableAux (255 + 1) cV cV = true
    unfold Vm.assignableAux
    rw [beq_self_eq_true, Bool.true_or]
  refine W.aast hexec hb (hP q0 _ ha) (fun q h => by cases h) (fun h => by cases h) k1 k2 rfl k3 ⟨nn (Nat.lt_trans hj hN), by show _ < (arrV _ _ _).slots.size; rw [arrV_size, hcl]; exact hj⟩ hv (fun q h => by cases h) k3 hself rfl rfl hdg fun H1 e1 z1 oq => ?_
  refine kk H1 _ (hP.set hD ha ?_ oq) (hD.set ha) (hS.put z1 oq (hD.2 q0 _ ha)) z1 oq
  show H1[a]? = some (vp_cell _ _)
  rw [e1]
  rw [vp_cell_q, vp_cell_q, arrV_store, hcl]
  refine congrArg some (arrV_congr (fun q _ => ?_))
  unfold updV va_up
  by_cases hq : q = j
  · rw [if_pos hq, if_pos hq]; rfl
  · rw [if_neg hq, if_neg hq]
theorem n_anewA {cI cZ cL cJ cB : ClassId} {own : String} {index N : Nat} (hexec : p.tables.exec = Jvm.exec) (hb : c.code = cc) (hown : s.vm.findClass own = some m.cls) (hcl : (Cond.classLink own index "[I").before args s = true) (hK : va_K D vwCl (TY cI cZ cL cJ) s) (hA : EA D cB s) (hN : N ≤ 8) (hdg : decode cc pc = .ok (.anewarray index, 3))
    (hcells : cells + 1 ≤ R.cells) (hslots : slots + N ≤ R.slots)
    (kk : ∀ H1 : Heap, H1.size = H.size + 1 → (∀ q : Nat, q < H.size → H1[q]? = H[q]?) → va_at D vwCl (H.size, .inl (cJ, N, qA (fun _ => none))) H1 → W p l e R s m args below meth c H1 locs (cells + 1) (slots + N) Q (F0 m (pc + 3) ls (.ref H.size :: rest))) : W p l e R s m args below meth c H locs cells slots Q (F0 m pc ls (.int (nI N) :: rest)) := by
  have hcN : (nI N).toNatClampNeg = N := nI_clamp (by omega)
  have hJ : s.vm.findClass ("[" ++ (FieldType.array .int).toString) = some cJ := (hK.2 3 (cJ, .array .int) rfl).2
  have es : (FieldType.array .int).toString = "[I" := by decide
  refine W.anewA (t := .int) hexec hb hown (by rw [es]; exact hcl) hA.use2 rfl hdg rfl (nn (by omega)) (by rw [hcN]; omega) hcells (by rw [hcN]; exact hslots) (fun cA kA comp h1 h2 h3 h4 => ?_)
  cases Option.some.inj (h1.symm.trans hJ)
  rw [hcN]
  refine kk _ (by rw [Array.size_push]) (fun q hq => by rw [Array.getElem?_push, if_neg (Nat.ne_of_lt hq)]) ?_
  show (H.push _)[H.size]? = some (vp_cell _ _)
  rw [Array.getElem?_push_size, arrV_new]
  rfl
theorem rem0 {t n o : Nat} (ht : t < 2 ^ 25) (hp : isP n) (ho : o < n) : ((nI t - nI o) - (nI t - nI o) / nI n * nI n = 0) ↔ t % n = o := by
  by_cases h : o ≤ t
  · have hn := isP_le hp
    rw [pk_sub h, pk_rem (by omega) (by omega) (by omega)]
    have hm : (t - o) % n < n := Nat.mod_lt _ (by omega)
    rw [show (0 : Int32) = nI 0 from rfl, nI_eq (by omega) (by decide)]
    rcases hp with rfl | rfl | rfl | rfl | rfl | rfl <;> omega
  · have fin : ∀ n ∈ [2, 3, 5, 7, 11, 13], ∀ o, o < n → ∀ t, t < o → ¬ ((nI t - nI o) - (nI t - nI o) / nI n * nI n = 0) := by decide +kernel
    have hmem : n ∈ [2, 3, 5, 7, 11, 13] := by rcases hp with rfl | rfl | rfl | rfl | rfl | rfl <;> simp
    have h1 := fin n hmem o ho t (by omega)
    have h2 : t % n = t := Nat.mod_eq_of_lt (by omega)
    exact ⟨fun z => absurd z h1, fun z => absurd z (by omega)⟩
end SRows
