/-! the class's maker: a row of eight lamps, and a ninth -/
theorem vP_left {D : va_G} {cl : List vw_C} {w1 w2 : va_W} {H : Heap} (h : va_P D cl (w1 ++ w2) H) : va_P D cl w1 H := fun k q hk => h k q (by rw [List.getElem?_append_left (List.getElem?_eq_some_iff.mp hk).1]; exact hk)
theorem vP_right {D : va_G} {cl : List vw_C} {w1 w2 : va_W} {H : Heap} (h : va_P D cl (w1 ++ w2) H) : va_P D cl w2 H := fun k q hk => h (w1.length + k) q (by rw [List.getElem?_append_right (Nat.le_add_right _ _), Nat.add_sub_cancel_left]; exact hk)
theorem vd_of {A : Nat → Prop} {ws : va_W} {ad : Nat → Nat} {N : Nat} (h : ws.map (fun q => q.1) = (List.range N).map ad) (hI : Inj N ad) (hA : ∀ i, i < N → A (ad i)) : va_D A ws := by
  have key : ∀ (i : Nat) (q : Nat × va_E), ws[i]? = some q → i < N ∧ q.1 = ad i := by
    intro i q hq
    have h1 : (ws.map (fun q => q.1))[i]? = some q.1 := by rw [List.getElem?_map, hq]; rfl
    rw [h, List.getElem?_map] at h1
    by_cases hi : i < N
    · rw [List.getElem?_range hi] at h1
      have h2 : some (ad i) = some q.1 := h1
      exact ⟨hi, (Option.some.inj h2).symm⟩
    · rw [List.getElem?_eq_none (by rw [List.length_range]; omega)] at h1
      cases h1
  refine ⟨fun i j q r hi hj hqr => ?_, fun k q hk => ?_⟩
  · obtain ⟨a1, a2⟩ := key i q hi
    obtain ⟨b1, b2⟩ := key j r hj
    exact hI i j a1 b1 (a2.symm.trans (hqr.trans b2))
  · obtain ⟨a1, a2⟩ := key k q hk
    rw [a2]; exact hA k a1
theorem vd_last {A : Nat → Prop} {ws : va_W} {a : Nat} {x : va_E} (h : va_D A (ws ++ [(a, x)])) : (∀ (i : Nat) (q : Nat × va_E), ws[i]? = some q → q.1 ≠ a) ∧ A a := by
  have hz : (ws ++ [(a, x)])[ws.length]? = some (a, x) := by rw [List.getElem?_append_right (Nat.le_refl _), Nat.sub_self]; rfl
  refine ⟨fun i q hq hne => ?_, h.2 _ _ hz⟩
  have hi := (List.getElem?_eq_some_iff.mp hq).1
  have := h.1 i ws.length q (a, x) (by rw [List.getElem?_append_left hi]; exact hq) hz hne
  omega
abbrev rowW (cL : ClassId) (a r : Nat) (ad : Nat → Nat) (k : Nat) (d : Value) : va_W := [(a, .inr (1, [.ref r, d, .int 0, .int 0, .int 0])), (r, .inl (cL, 8, .inr (.inr (.inr (.inr (fun j => if j < k then some (ad (2 + 3 * j)) else none))))))]
def wlA (cI : ClassId) (ad : Nat → Nat) : Nat → va_W
  | 0 => []
  | k + 1 => wlA cI ad k ++ lpW cI ad (fun _ => L0) k
theorem big_fst {cI cL : ClassId} {a r : Nat} {ad : Nat → Nat} {d : Value} (j : Nat) (h0 : ad 0 = a) (h1 : ad 1 = r) : ∀ k, ((rowW cL a r ad j d ++ wlA cI ad k).map (fun q => q.1)) = (List.range (2 + 3 * k)).map ad
  | 0 => by
    show [a, r] = [ad 0, ad 1]
    rw [h0, h1]
  | k + 1 => by
    have ih := big_fst (cI := cI) (cL := cL) (d := d) j h0 h1 k
    show ((rowW cL a r ad j d ++ (wlA cI ad k ++ lpW cI ad (fun _ => L0) k)).map (fun q => q.1)) = _
    rw [← List.append_assoc, List.map_append, ih, show 2 + 3 * (k + 1) = 2 + 3 * k + 1 + 1 + 1 by omega, List.range_succ, List.range_succ, List.range_succ, List.map_append, List.map_append, List.map_append, List.append_assoc, List.append_assoc]
    congr 1
    show [ad (2 + 3 * k), ad (3 + 3 * k), ad (4 + 3 * k)] = [ad (2 + 3 * k), ad (2 + 3 * k + 1), ad (2 + 3 * k + 1 + 1)]
    rw [show 3 + 3 * k = 2 + 3 * k + 1 by omega, show 4 + 3 * k = 2 + 3 * k + 1 + 1 by omega]
theorem wlA_congr {cI : ClassId} {ad ae : Nat → Nat} : ∀ k, (∀ i, i < 2 + 3 * k → ad i = ae i) → wlA cI ad k = wlA cI ae k
  | 0, _ => rfl
  | k + 1, h => by
    have ih := wlA_congr (cI := cI) k (fun i hi => h i (by omega))
    show wlA cI ad k ++ lpW cI ad (fun _ => L0) k = wlA cI ae k ++ lpW cI ae (fun _ => L0) k
    rw [ih]
    show _ ++ lampW cI (ad (2 + 3 * k)) (ad (3 + 3 * k)) (ad (4 + 3 * k)) L0 = _ ++ lampW cI (ae (2 + 3 * k)) (ae (3 + 3 * k)) (ae (4 + 3 * k)) L0
    rw [h (2 + 3 * k) (by omega), h (3 + 3 * k) (by omega), h (4 + 3 * k) (by omega)]
theorem rowW_congr {cL : ClassId} {a r k : Nat} {d : Value} {ad ae : Nat → Nat} (h : ∀ i, i < 2 + 3 * k → ad i = ae i) : rowW cL a r ad k d = rowW cL a r ae k d := by
  have h1 : (fun j => if j < k then some (ad (2 + 3 * j)) else none) = (fun j => if j < k then some (ae (2 + 3 * j)) else none) := by
    funext j
    split
    · rw [h _ (by omega)]
    · rfl
  unfold rowW
  rw [h1]
theorem wlA_get {D : va_G} {cl : List vw_C} {cI : ClassId} {ad : Nat → Nat} {H : Heap} : ∀ k, va_P D cl (wlA cI ad k) H → ∀ j, j < k → va_P D cl (lpW cI ad (fun _ => L0) j) H
  | 0, _, j, hj => absurd hj (by omega)
  | k + 1, h, j, hj => by
    by_cases hjk : j = k
    · rw [hjk]; exact vP_right h
    · exact wlA_get k (vP_left h) j (by omega)
theorem wlA_len {cI : ClassId} {ad : Nat → Nat} : ∀ k, (wlA cI ad k).length = 3 * k
  | 0 => rfl
  | k + 1 => by
    show (wlA cI ad k ++ lpW cI ad (fun _ => L0) k).length = _
    rw [List.length_append, wlA_len k]
    show 3 * k + 3 = _
    omega
theorem big_get {cI cL : ClassId} {a r k j : Nat} {d : Value} {ad : Nat → Nat} : (rowW cL a r ad j d ++ wlA cI ad (k + 1))[2 + 3 * k]? = some (ad (2 + 3 * k), .inr (0, [.ref (ad (3 + 3 * k)), .ref (ad (4 + 3 * k)), .int (nI 0), .int (bI false), .int (bI false)])) := by
  show (rowW cL a r ad j d ++ (wlA cI ad k ++ lpW cI ad (fun _ => L0) k))[2 + 3 * k]? = _
  have hlen : (rowW cL a r ad j d ++ wlA cI ad k).length = 2 + 3 * k := by
    rw [List.length_append, wlA_len]
    rfl
  rw [← List.append_assoc, List.getElem?_append_right (by rw [hlen]; exact Nat.le_refl _), hlen, Nat.sub_self]
  rfl
/-- three new addresses -/
def ad3 (ad : Nat → Nat) (k b x y : Nat) : Nat → Nat := fun i => if i = 2 + 3 * k then b else if i = 3 + 3 * k then x else if i = 4 + 3 * k then y else ad i
theorem ad3_lt {ad : Nat → Nat} {k b x y i : Nat} (h : i < 2 + 3 * k) : ad i = ad3 ad k b x y i := by
  unfold ad3
  rw [if_neg (by omega), if_neg (by omega), if_neg (by omega)]
theorem ad3_0 (ad : Nat → Nat) (k b x y : Nat) : ad3 ad k b x y (2 + 3 * k) = b := if_pos rfl
theorem ad3_1 (ad : Nat → Nat) (k b x y : Nat) : ad3 ad k b x y (3 + 3 * k) = x := by
  unfold ad3
  rw [if_neg (by omega), if_pos rfl]
theorem ad3_2 (ad : Nat → Nat) (k b x y : Nat) : ad3 ad k b x y (4 + 3 * k) = y := by
  unfold ad3
  rw [if_neg (by omega), if_neg (by omega), if_pos rfl]
theorem ad3_inj {ad : Nat → Nat} {k b x y : Nat} (hI : Inj (2 + 3 * k) ad) (hb : ∀ i, i < 2 + 3 * k → ad i ≠ b) (hx : ∀ i, i < 2 + 3 * k → ad i ≠ x) (hy : ∀ i, i < 2 + 3 * k → ad i ≠ y) (h1 : b ≠ x) (h2 : b ≠ y) (h3 : x ≠ y) : Inj (2 + 3 * (k + 1)) (ad3 ad k b x y) := by
  intro i j hi hj hij
  unfold ad3 at hij
  have hI' := hI i j
  have b1 := hb i
  have b2 := hb j
  have x1 := hx i
  have x2 := hx j
  have y1 := hy i
  have y2 := hy j
  split at hij <;> (try split at hij) <;> (try split at hij) <;> (try split at hij) <;> (try split at hij) <;> (try split at hij) <;> first
    | omega
    | exact hI' (by omega) (by omega) hij
    | exact absurd hij.symm (b1 (by omega))
    | exact absurd hij.symm (x1 (by omega))
    | exact absurd hij.symm (y1 (by omega))
    | exact absurd hij.symm (b2 (by omega))
    | exact absurd hij.symm (x2 (by omega))
    | exact absurd hij.symm (y2 (by omega))
    | exact absurd hij (b1 (by omega))
    | exact absurd hij (x1 (by omega))
    | exact absurd hij (y1 (by omega))
    | exact absurd hij (b2 (by omega))
    | exact absurd hij (x2 (by omega))
    | exact absurd hij (y2 (by omega))
    | exact absurd hij h1
    | exact absurd hij h2
    | exact absurd hij h3
    | exact absurd hij.symm h1
    | exact absurd hij.symm h2
    | exact absurd hij.symm h3
theorem row8 {cL : ClassId} {ad : Nat → Nat} : vp_cell cL (8, .inr (.inr (.inr (.inr (fun j => if j < 8 then some (ad (2 + 3 * j)) else none))))) = vp_cell cL (8, .inr (.inr (.inr (.inr (fun j => some (ad (2 + 3 * j))))))) := by
  unfold vp_cell
  unfold arrV
  congr 2
def PN1 (D : va_G) (T : List (ClassId × FieldType)) (av : List Value) (sz : Nat) (Ph : Heap → Prop) : Array Value → State → Prop := fun a U => PN D T av sz Ph a U ∧ va_AO "LanternPrimes$Lamp" U ∧ va_Nw (.methodLinkNest "LanternPrimes" 15 yX0_init "LanternPrimes") U
theorem PN1_blind {D : va_G} {T : List (ClassId × FieldType)} {av : List Value} {sz : Nat} {Ph : Heap → Prop} : FrameBlind (PN1 D T av sz Ph) := fun a U g mk q =>
  ⟨PN_blind a U g mk q.1, va_AO.moved (u := U) (U := U.calling g mk a) (Vm.Alike.refl U.vm) q.2.1, q.2.2⟩
theorem KL {D : va_G} {cI cZ cL cJ cA : ClassId} {U : State} (hK : va_K D vwCl (TY cI cZ cL cJ ++ [(cA, .object "LanternPrimes$Lamp")]) U) : cA = cL := by
  obtain ⟨_, _, _, _, _, h1⟩ := (hK.2 4 (cA, .object "LanternPrimes$Lamp") rfl).2
  obtain ⟨_, _, _, _, _, h2⟩ := (hK.2 2 (cL, .object "LanternPrimes$Lamp") rfl).2
  exact Option.some.inj (h1.symm.trans h2)
set_option maxHeartbeats 4000000 in
set_option maxRecDepth 100000 in
/-- LanternPrimes() -/
theorem c_X1_init (l : Launch) (D : va_G) (cI cZ cL cJ : ClassId) (a sz : Nat) : Met l yX1_init wsX1_init ({ frames := 2, cells := 28, slots := 197, locals := 32 } : Room) (PN1 D (TY cI cZ cL cJ) [.ref a] sz (fun H => va_P D vwCl [(a, .inr (1, [.null, .null, .int 0, .int 0, .int 0]))] H)) (va_Qv (fun ad : Nat → Nat => ad 0 = a ∧ Inj 29 ad ∧ ∀ i, i < 29 → AN a sz (ad i)) (fun ad t => PX D cI cL ad 0 0 (nI 0) (fun _ => L0) t.heap) (AN a sz)) 28 197 (AN a sz) := by
  refine Met.ofW (cc := cX1_init) (maxL := 2) (ret := none) (by decide) rfl ?_
  intro p e s m args below meth c s₁ B hml hv
  obtain ⟨⟨rfl, hK, hsz, hP⟩, hAO, hNI⟩ := hv
  have hx := B.exec
  have hb := B.bytes
  have hr := B.returns
  have hts := atoms_spec (ws := wsX1_init) B.pre
  have hown : s.vm.findClass RX1 = some m.cls := findClass_of_methodNamed B.named
  have hlocks := B.notSynchronized
  have hin : meth.name = "<init>" := (name_of_methodNamed B.named B.method).1
  subst hsz
  have hD : va_D (AN a s.heap.size) [(a, .inr (1, [.null, .null, .int 0, .int 0, .int 0]))] := vdA1
  have hA : ∀ q : Nat, s.heap.size ≤ q → AN a s.heap.size q := fun q h => Or.inr h
  have hS : va_S (AN a s.heap.size) s.heap s.heap [] := va_S.rf
  have hP : va_P D vwCl [(a, .inr (1, [.null, .null, .int 0, .int 0, .int 0]))] s.heap := hP
  have hin1 : ∀ w ∈ wsX10, w ∈ wsX1_init := by decide +kernel
  have hl := lv_entry ([.ref a]) (n := 2) (Nat.le_of_ble_eq_true rfl)
  rw [lg_entry_eq]
  generalize (lg_sl ([.ref a]) ++ List.replicate (2 - (lg_sl ([.ref a])).length) Slot.unset).toArray = ls at hl ⊢
  have hl : lv_has ls 2 [(0, .ref a)] := hl
  refine lv_aload_n hx hb dX1_init_0 rfl (lv_at hl 0 rfl) ?_
  refine W.objInit hx hb hown (hts (.methodLink RX1 1 objectInit) (List.mem_of_getElem? (i := 1) rfl)) (hts (.instanceMethod objectInit) (List.mem_of_getElem? (i := 2) rfl)) (hts (.code objectInit ⟨#[0xb1]⟩ 1 none) (List.mem_of_getElem? (i := 3) rfl)) rfl (by rw [hml]; exact hl.1) rfl dX1_init_1 (Nat.le_of_ble_eq_true rfl) (Nat.le_of_ble_eq_true rfl) ?_
  refine W.eq (g2 := F0 m 4 ls []) rfl ?_
  have hin0 : ∀ w ∈ wsX00, w ∈ wsX1_init := by decide +kernel
  refine lv_aload_n hx hb dX1_init_4 rfl (lv_at hl 0 rfl) ?_
  refine lv_bipush (v := nI 8) hx hb dX1_init_5 (by decide) ?_
  refine va_newq (N' := 8) hx hb hown (hts (.classLink RX1 9 RX0) (List.mem_of_getElem? (i := 4) rfl)) hAO hK hP hD hS hA (by decide) (by decide +kernel) (Nat.le_of_ble_eq_true rfl) (Nat.le_of_ble_eq_true rfl) (Nat.le_of_ble_eq_true rfl) dX1_init_7 (fun r cA H hKa hP hD hS => ?_)
  rw [KL hKa] at hP hD
  refine va_putF (D := D) (ci := 1) (v := .ref r) (ty := .array (.object "LanternPrimes$Lamp")) (C := RX1) (T := TX1) (N := 5) hx hb hts hin1 tyX1 tyX1_ok nmX1 hown hK hP hD hS 0 rfl rfl 0 (by decide) (hts (.fieldLink RX1 11 "LanternPrimes" "row" "[LLanternPrimes$Lamp;") (List.mem_of_getElem? (i := 5) rfl)) (fun _ h9 => h9) rfl hin rfl (by decide +kernel) rfl rfl (Nat.le_of_ble_eq_true rfl) dX1_init_10 (fun H locs hP hD hS => ?_)
  have hra : r ≠ a := fun h => absurd (hD.1 1 0 _ _ rfl rfl h) (by decide)
  have hrA : AN a s.heap.size r := hD.2 1 _ rfl
  refine lv_iconst (v := nI 0) hx hb dX1_init_13 (by decide) ?_
  refine lv_istore_n (lv' := [(1, .int (nI 0)), (0, .ref a)]) hx hb dX1_init_14 rfl hl (by decide) rfl (fun ls hl => ?_)
  have loop_15 : ∀ (fu k : Nat) (ad : Nat → Nat), 9 - k ≤ fu → k ≤ 8 → ad 0 = a → ad 1 = r → Inj (2 + 3 * k) ad → (∀ i, i < 2 + 3 * k → AN a s.heap.size (ad i)) → ∀ (H : Heap) (locs : List Loc), va_P D vwCl (rowW cL a r ad k .null ++ wlA cI ad k) H → va_S (AN a s.heap.size) s.heap H locs → ∀ (ls : Array Slot), lv_has ls 2 [(1, .int (nI k)), (0, .ref a)] → W p l e (headSpec wsX1_init ({ frames := 2, cells := 28, slots := 197, locals := 32 } : Room)).room s m [.ref a].toArray below meth c H locs (1 + 3 * k) (8 + 21 * k) (MQ below (va_Qv (fun ad : Nat → Nat => ad 0 = a ∧ Inj 29 ad ∧ ∀ i, i < 29 → AN a s.heap.size (ad i)) (fun ad t => PX D cI cL ad 0 0 (nI 0) (fun _ => L0) t.heap) (AN a s.heap.size)) [.ref a].toArray s 28 197 (AN a s.heap.size)) (F0 m 15 ls []) := by
    intro fu
    induction fu with
    | zero => intro k ad hn_15 hk8; exact absurd hn_15 (by omega)
    | succ fu ih_15 =>
      intro k ad hn_15 hk8 h0 h1 hI hAd H locs hP hS ls hl
      have hD : va_D (AN a s.heap.size) (rowW cL a r ad k .null ++ wlA cI ad k) := vd_of (big_fst k h0 h1 k) hI hAd
      refine lv_iload_n hx hb dX1_init_15 rfl (lv_at hl 0 rfl) ?_
      refine lv_bipush (v := nI 8) hx hb dX1_init_16 (by decide) ?_
      refine n_icmp_ge (a := k) (b := 8) (tgt := 40) hx hb (by omega) (by omega) dX1_init_18 (by decide) (fun c_18 => ?_) (fun c_18 => ?_)
      · obtain rfl : k = 8 := by omega
        refine lv_aload_n hx hb dX1_init_40 rfl (lv_at hl 1 rfl) ?_
        refine va_new (ci := 0) (fs := [.null, .null, .int 0, .int 0, .int 0]) (C := RX0) (T := TX0) (N := 5) hx hb hts hin0 tyX0 tyX0_ok hown (hts (.classLink RX1 9 RX0) (List.mem_of_getElem? (i := 4) rfl)) (hts (.instantiable RX0 5) (List.mem_of_getElem? (i := 6) rfl)) (hts (.initialized RX0) (List.mem_of_getElem? (i := 7) rfl)) hK hP hD hS hA rfl (fun j hj => by rcases (show j = 0 ∨ j = 1 ∨ j = 2 ∨ j = 3 ∨ j = 4 by omega) with rfl | rfl | rfl | rfl | rfl <;> rfl) (by show 1 + 3 * 8 + 1 ≤ 28; omega) (by show 8 + 21 * 8 + 5 ≤ 197; omega) dX1_init_41 (fun b H hP hD hS => ?_)
        have hS0 := hS
        refine lv_dup hx hb dX1_init_44 rfl ?_
        have hPl := vP_left hP
        have hPb := vP_right hP
        have hbl : b < H.size := (hPb 0 _ rfl).lt
        obtain ⟨hne, hAb⟩ := vd_last hD
        have hfree : ∀ q, AN b H.size q → AN a s.heap.size q := fun q h => h.elim (fun z => z ▸ hAb) (fun h => Or.inr (Nat.le_trans hS.1 h))
        refine va_callv (va_runIN (As := []) (rest := [.ref b, .ref a]) ⟨hx, hb, hml, hown, hts⟩ (c_X0_init l D cI cZ cL cJ b H.size) ⟨va_cnB 0 hts gX1_init_X0_init_n15 rfl rfl rfl hNI (hts (.initialized RX0) (List.mem_of_getElem? (i := 7) rfl)) (by decide +kernel) ⟨(Nat.le_of_ble_eq_true rfl), (Nat.le_of_ble_eq_true rfl)⟩, rfl, (hts (.instanceMethod yX0_init) (List.mem_of_getElem? (i := 9) rfl))⟩ ⟨PN_blind, fun U hU hW => ⟨rfl, va_K.moved hW.alike hK, by rw [hU], by rw [hU]; exact hPb⟩⟩ rfl rfl hl.1 rfl (lv_room (Nat.le_of_ble_eq_true rfl)) dX1_init_45 ⟨by show 1 + 3 * 8 + 1 + 2 ≤ 28; omega, by show 8 + 21 * 8 + 5 + 16 ≤ 197; omega⟩) hS (fun q _ h => hfree q h) hfree (fun u t H1 locs ht hvm hu hB hz hk1 hS => ?_)
        have hB : va_P D vwCl (lampW cI b u.1 u.2 L0) t.heap := hB
        rw [ht] at hB
        obtain ⟨u1, u2, u3⟩ := hu
        have hP1 := hPl.kept (fun i x hx => hk1 x.1 (hPl i x hx).lt (fun h => h.elim (fun z => hne i x hx z) (fun h => absurd (hPl i x hx).lt (Nat.not_lt.mpr h))))
        have hbig := big_fst (cI := cI) (cL := cL) (d := .null) 8 h0 h1 8
        have hold : ∀ i, i < 2 + 3 * 8 → ad i < H.size ∧ ad i ≠ b := fun i hi => by
          have hm : ((rowW cL a r ad 8 .null ++ wlA cI ad 8).map (fun q => q.1))[i]? = some (ad i) := by rw [hbig, List.getElem?_map, List.getElem?_range hi]; rfl
          rw [List.getElem?_map] at hm
          obtain ⟨x, hx1, hx2⟩ := Option.map_eq_some_iff.mp hm
          rw [← hx2]; exact ⟨(hPl i x hx1).lt, hne i x hx1⟩
        have hI2 : Inj (2 + 3 * (8 + 1)) (ad3 ad 8 b u.1 u.2) := ad3_inj hI (fun i hi => (hold i hi).2) (fun i hi => by have := (hold i hi).1; omega) (fun i hi => by have := (hold i hi).1; omega) (by omega) (by omega) u3
        have hA2 : ∀ i, i < 2 + 3 * (8 + 1) → AN a s.heap.size (ad3 ad 8 b u.1 u.2 i) := fun i hi => by
          unfold ad3
          split
          · exact hAb
          · split
            · exact Or.inr (Nat.le_trans hS0.1 u1)
            · split
              · exact Or.inr (Nat.le_trans hS0.1 u2)
              · exact hAd i (by omega)
        have h02 : ad3 ad 8 b u.1 u.2 0 = a := (ad3_lt (by omega)).symm.trans h0
        have h12 : ad3 ad 8 b u.1 u.2 1 = r := (ad3_lt (by omega)).symm.trans h1
        have hP2 : va_P D vwCl (rowW cL a r (ad3 ad 8 b u.1 u.2) 8 .null ++ wlA cI (ad3 ad 8 b u.1 u.2) (8 + 1)) H1 := by
          have hB2 : va_P D vwCl (lampW cI (ad3 ad 8 b u.1 u.2 (2 + 3 * 8)) (ad3 ad 8 b u.1 u.2 (3 + 3 * 8)) (ad3 ad 8 b u.1 u.2 (4 + 3 * 8)) L0) H1 := by rw [ad3_0, ad3_1, ad3_2]; exact hB
          rw [rowW_congr (fun i hi => ad3_lt (ad := ad) (k := 8) (b := b) (x := u.1) (y := u.2) (i := i) hi), wlA_congr (cI := cI) 8 (fun i hi => ad3_lt (ad := ad) (k := 8) (b := b) (x := u.1) (y := u.2) (i := i) hi)] at hP1
          have hP3 := hP1.app hB2
          rw [List.append_assoc] at hP3
          exact hP3
        have hD2 : va_D (AN a s.heap.size) (rowW cL a r (ad3 ad 8 b u.1 u.2) 8 .null ++ wlA cI (ad3 ad 8 b u.1 u.2) (8 + 1)) := vd_of (big_fst 8 h02 h12 (8 + 1)) hI2 hA2
        refine va_putF (D := D) (ci := 1) (v := .ref b) (ty := .object "LanternPrimes$Lamp") (C := RX1) (T := TX1) (N := 5) hx hb hts hin1 tyX1 tyX1_ok nmX1 hown hK hP2 hD2 hS 0 rfl rfl 1 (by decide) (hts (.fieldLink RX1 16 "LanternPrimes" "difference" "LLanternPrimes$Lamp;") (List.mem_of_getElem? (i := 8) rfl)) (fun _ h9 => h9) rfl hin rfl (by decide +kernel) rfl rfl (Nat.le_of_ble_eq_true rfl) dX1_init_48 (fun H locs hP hD hS => ?_)
        have hP : va_P D vwCl (rowW cL a r (ad3 ad 8 b u.1 u.2) 8 (.ref b) ++ wlA cI (ad3 ad 8 b u.1 u.2) 9) H := hP
        have hPX : PX D cI cL (ad3 ad 8 b u.1 u.2) 0 0 (nI 0) (fun _ => L0) H := by
          refine ⟨fun i q hq => ?_, fun j hj => wlA_get 9 (vP_right hP) j hj⟩
          have hr0 := vP_left hP 0 _ rfl
          have hr1 := vP_left hP 1 _ rfl
          match i, hq with
          | 0, hq =>
            cases hq
            rw [h02, h12, show ad3 ad 8 b u.1 u.2 26 = b from ad3_0 ad 8 b u.1 u.2]
            exact hr0
          | 1, hq =>
            cases hq
            rw [h12]
            have hr2 : H[r]? = some (vp_cell cL (8, .inr (.inr (.inr (.inr (fun j => if j < 8 then some (ad3 ad 8 b u.1 u.2 (2 + 3 * j)) else none)))))) := hr1
            rw [row8] at hr2
            exact hr2
        exact W.vret hx hb hr (fun t ht hW => ⟨⟨ad3 ad 8 b u.1 u.2, rfl, ⟨h02, hI2, hA2⟩, by show PX D cI cL _ 0 0 (nI 0) (fun _ => L0) t.heap; rw [ht]; exact hPX⟩, hS.F ht⟩) hS.2.2 dX1_init_51
      · refine lv_aload_n hx hb dX1_init_21 rfl (lv_at hl 1 rfl) ?_
        refine va_get (D := D) (ci := 1) (v := .ref r) (C := RX1) (T := TX1) (N := 5) hx hb hts hin1 hown hK hP 0 rfl rfl 0 (by decide) (hts (.fieldLink RX1 11 "LanternPrimes" "row" "[LLanternPrimes$Lamp;") (List.mem_of_getElem? (i := 5) rfl)) (fun _ h9 => h9) rfl dX1_init_22 ?_
        refine lv_iload_n hx hb dX1_init_25 rfl (lv_at hl 0 rfl) ?_
        refine va_new (ci := 0) (fs := [.null, .null, .int 0, .int 0, .int 0]) (C := RX0) (T := TX0) (N := 5) hx hb hts hin0 tyX0 tyX0_ok hown (hts (.classLink RX1 9 RX0) (List.mem_of_getElem? (i := 4) rfl)) (hts (.instantiable RX0 5) (List.mem_of_getElem? (i := 6) rfl)) (hts (.initialized RX0) (List.mem_of_getElem? (i := 7) rfl)) hK hP hD hS hA rfl (fun j hj => by rcases (show j = 0 ∨ j = 1 ∨ j = 2 ∨ j = 3 ∨ j = 4 by omega) with rfl | rfl | rfl | rfl | rfl <;> rfl) (by show 1 + 3 * k + 1 ≤ 28; omega) (by show 8 + 21 * k + 5 ≤ 197; omega) dX1_init_26 (fun b H hP hD hS => ?_)
        have hS0 := hS
        refine lv_dup hx hb dX1_init_29 rfl ?_
        have hPl := vP_left hP
        have hPb := vP_right hP
        have hbl : b < H.size := (hPb 0 _ rfl).lt
        obtain ⟨hne, hAb⟩ := vd_last hD
        have hfree : ∀ q, AN b H.size q → AN a s.heap.size q := fun q h => h.elim (fun z => z ▸ hAb) (fun h => Or.inr (Nat.le_trans hS.1 h))
        refine va_callv (va_runIN (As := []) (rest := [.ref b, .int (nI k), .ref r]) ⟨hx, hb, hml, hown, hts⟩ (c_X0_init l D cI cZ cL cJ b H.size) ⟨va_cnB 0 hts gX1_init_X0_init_n15 rfl rfl rfl hNI (hts (.initialized RX0) (List.mem_of_getElem? (i := 7) rfl)) (by decide +kernel) ⟨(Nat.le_of_ble_eq_true rfl), (Nat.le_of_ble_eq_true rfl)⟩, rfl, (hts (.instanceMethod yX0_init) (List.mem_of_getElem? (i := 9) rfl))⟩ ⟨PN_blind, fun U hU hW => ⟨rfl, va_K.moved hW.alike hK, by rw [hU], by rw [hU]; exact hPb⟩⟩ rfl rfl hl.1 rfl (lv_room (Nat.le_of_ble_eq_true rfl)) dX1_init_30 ⟨by show 1 + 3 * k + 1 + 2 ≤ 28; omega, by show 8 + 21 * k + 5 + 16 ≤ 197; omega⟩) hS (fun q _ h => hfree q h) hfree (fun u t H1 locs ht hvm hu hB hz hk1 hS => ?_)
        have hB : va_P D vwCl (lampW cI b u.1 u.2 L0) t.heap := hB
        rw [ht] at hB
        obtain ⟨u1, u2, u3⟩ := hu
        have hP1 := hPl.kept (fun i x hx => hk1 x.1 (hPl i x hx).lt (fun h => h.elim (fun z => hne i x hx z) (fun h => absurd (hPl i x hx).lt (Nat.not_lt.mpr h))))
        have hbig := big_fst (cI := cI) (cL := cL) (d := .null) k h0 h1 k
        have hold : ∀ i, i < 2 + 3 * k → ad i < H.size ∧ ad i ≠ b := fun i hi => by
          have hm : ((rowW cL a r ad k .null ++ wlA cI ad k).map (fun q => q.1))[i]? = some (ad i) := by rw [hbig, List.getElem?_map, List.getElem?_range hi]; rfl
          rw [List.getElem?_map] at hm
          obtain ⟨x, hx1, hx2⟩ := Option.map_eq_some_iff.mp hm
          rw [← hx2]; exact ⟨(hPl i x hx1).lt, hne i x hx1⟩
        have hI2 : Inj (2 + 3 * (k + 1)) (ad3 ad k b u.1 u.2) := ad3_inj hI (fun i hi => (hold i hi).2) (fun i hi => by have := (hold i hi).1; omega) (fun i hi => by have := (hold i hi).1; omega) (by omega) (by omega) u3
        have hA2 : ∀ i, i < 2 + 3 * (k + 1) → AN a s.heap.size (ad3 ad k b u.1 u.2 i) := fun i hi => by
          unfold ad3
          split
          · exact hAb
          · split
            · exact Or.inr (Nat.le_trans hS0.1 u1)
            · split
              · exact Or.inr (Nat.le_trans hS0.1 u2)
              · exact hAd i (by omega)
        have h02 : ad3 ad k b u.1 u.2 0 = a := (ad3_lt (by omega)).symm.trans h0
        have h12 : ad3 ad k b u.1 u.2 1 = r := (ad3_lt (by omega)).symm.trans h1
        have hP2 : va_P D vwCl (rowW cL a r (ad3 ad k b u.1 u.2) k .null ++ wlA cI (ad3 ad k b u.1 u.2) (k + 1)) H1 := by
          have hB2 : va_P D vwCl (lampW cI (ad3 ad k b u.1 u.2 (2 + 3 * k)) (ad3 ad k b u.1 u.2 (3 + 3 * k)) (ad3 ad k b u.1 u.2 (4 + 3 * k)) L0) H1 := by rw [ad3_0, ad3_1, ad3_2]; exact hB
          rw [rowW_congr (fun i hi => ad3_lt (ad := ad) (k := k) (b := b) (x := u.1) (y := u.2) (i := i) hi), wlA_congr (cI := cI) k (fun i hi => ad3_lt (ad := ad) (k := k) (b := b) (x := u.1) (y := u.2) (i := i) hi)] at hP1
          have hP3 := hP1.app hB2
          rw [List.append_assoc] at hP3
          exact hP3
        have hD2 : va_D (AN a s.heap.size) (rowW cL a r (ad3 ad k b u.1 u.2) k .null ++ wlA cI (ad3 ad k b u.1 u.2) (k + 1)) := vd_of (big_fst k h02 h12 (k + 1)) hI2 hA2
        refine va_astq (r := (RX0, TX0, 5)) hx hb hK hP2 hD2 hS 1 2 (2 + 3 * k) 0 rfl rfl (by rw [big_get, ad3_0]) rfl (vp_in_nI (by omega) (by decide)) dX1_init_33 (fun H locs hP hD hS => ?_)
        have hf : va_up (fun j => if j < k then some ((ad3 ad k b u.1 u.2) (2 + 3 * j)) else none) (nI k).toNatClampNeg (some b) = (fun j => if j < k + 1 then some ((ad3 ad k b u.1 u.2) (2 + 3 * j)) else none) := by
          rw [nI_clamp (by omega)]
          funext j
          unfold va_up
          by_cases hj : j = k
          · rw [if_pos hj, if_pos (by omega), hj, ad3_0]
          · rw [if_neg hj]
            show (if j < k then some ((ad3 ad k b u.1 u.2) (2 + 3 * j)) else none) = _
            by_cases hjk : j < k
            · rw [if_pos hjk, if_pos (by omega)]
            · rw [if_neg hjk, if_neg (by omega)]
        rw [hf] at hP
        have hP : va_P D vwCl (rowW cL a r (ad3 ad k b u.1 u.2) (k + 1) .null ++ wlA cI (ad3 ad k b u.1 u.2) (k + 1)) H := hP
        refine lv_iinc (v := nI (k + 1)) (lv' := [(1, .int (nI (k + 1))), (0, .ref a)]) hx hb dX1_init_34 hl (k := 0) rfl (nI_inc _) (by decide) rfl (fun ls hl => ?_)
        refine lv_goto (tgt := 15) hx hb dX1_init_37 (by decide) ?_
        refine W.widen (k := 1 + 3 * (k + 1)) (n := 8 + 21 * (k + 1)) (by omega) (by omega) ?_
        exact ih_15 (k + 1) (ad3 ad k b u.1 u.2) (by omega) (by omega) h02 h12 hI2 hA2 H locs hP hS ls hl
  have hf0 : (fun _ : Nat => (none : Option Nat)) = (fun j => if j < 0 then some ((fun i => if i = 0 then a else r) (2 + 3 * j)) else none) := by
    funext j
    rw [if_neg (by omega)]
  rw [hf0] at hP
  exact loop_15 9 0 (fun i => if i = 0 then a else r) (by omega) (by omega) rfl rfl (fun i j hi hj hij => by
    rcases (show i = 0 ∨ i = 1 by omega) with rfl | rfl <;> rcases (show j = 0 ∨ j = 1 by omega) with rfl | rfl <;> first | rfl | exact absurd hij.symm hra | exact absurd hij hra) (fun i hi => by
    rcases (show i = 0 ∨ i = 1 by omega) with rfl | rfl
    · exact Or.inl rfl
    · exact hrA) H locs hP hS ls hl
