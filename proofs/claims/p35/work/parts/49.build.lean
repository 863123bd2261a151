def wsK_build : List Cond := .code yL_build cL_build 11 (some (.object "LanternPrimesLaw$Sim")) :: (.classLink RX2 16 "[[[I" :: wsL_build)
theorem gK_of {X : List Cond} (g : GoodIn wsL_build X) : GoodIn wsK_build X := fun w h => ⟨List.mem_cons_of_mem _ (List.mem_cons_of_mem _ (g w h).1), (g w h).2⟩
set_option maxRecDepth 20000 in
theorem gK_build_init : GoodIn wsK_build wsK_init := goodIn_r _ [11, 1, 12, 13, 14, 15, 16, 17, 18, 74, 75, 76, 77, 78, 79] (by decide +kernel) (by decide +kernel)
def PCB (D : va_G) (cB : ClassId) (T : List (ClassId × FieldType)) (A : Nat → Prop) (av : List Value) (b L : Nat) (xs : Nat → Int32) (Ph : Heap → Prop) : Array Value → State → Prop := fun a U => PCL D cB T A av Ph a U ∧ va_X b L xs U U.heap ∧ va_Nw (.methodLinkNest "LanternPrimesLaw" 69 yX2_init "LanternPrimesLaw") U
theorem PCB_blind {D : va_G} {cB : ClassId} {T : List (ClassId × FieldType)} {A : Nat → Prop} {av : List Value} {b L : Nat} {xs : Nat → Int32} {Ph : Heap → Prop} : FrameBlind (PCB D cB T A av b L xs Ph) := fun a U g mk q => ⟨PCL_blind a U g mk q.1, va_X.moved (u := U) (U := U.calling g mk a) (Vm.Alike.refl U.vm) q.2.1, va_tabs (A := #[]) (A' := #[]) (u := U) (U := U.calling g mk a) rfl rfl q.2.2⟩
theorem PCBuse {D : va_G} {cB : ClassId} {T : List (ClassId × FieldType)} {A : Nat → Prop} {As : List Value} {b L : Nat} {xs : Nat → Int32} {Ph : Heap → Prop} {s : State} {H : Heap} (hK : va_K D vwCl T s) (hE : EN A s H) (hEA : EA D cB s) (hEL : EL A s H) (hX : va_X b L xs s H) (hN : va_Nw (.methodLinkNest "LanternPrimesLaw" 69 yX2_init "LanternPrimesLaw") s) (hPh : Ph H) : ∀ U : State, U.heap = H → s.WarmedH U.vm → PCB D cB T A As b L xs Ph As.toArray U := fun U hU hW => ⟨PCLuse hK hE hEA hEL hPh U hU hW, by rw [hU]; exact hX.moved hW.alike, va_Nw.warmM hW hN⟩
section SCell
variable {p : Program} {l : Launch} {e : Env} {R : Room} {s : State} {m : MethodId} {args : Array Value} {below : List Frame} {meth : Method} {c : Code} {H : Heap} {locs : List Loc} {cells slots : Nat} {Q : State → Prop}
variable {y : MethodName} {bytes cc : ByteArray} {maxL nL n index pc mc ms : Nat} {ret : Option FieldType} {ws : List Cond} {rm : Room} {Ts : List Cond} {own C : String} {b L : Nat} {xs : Nat → Int32} {As rest st : List Value} {ls : Array Slot}
theorem rS9 {r : Int32} (S : CallFix p m c cc nL s args Ts own) (hM : Met l y ws rm (PX9 b L xs As) (QcRead r) 0 0 (fun _ => False)) (cw : CallB R s args own index y bytes maxL ret ws rm 0 0 n ∧ (Cond.static y).before args s = true) (hX : va_X b L xs s H) (hbl : b < H.size)
    (hn : As.length = n) (hsize : ls.size = nL) (hst : st = As.reverse ++ rest) (hW : (rest.map fun v => v.category).sum ≤ 8) (hdg : decode cc pc = .ok (.invokestatic index, 3)) (hf : cells ≤ R.cells ∧ slots ≤ R.slots)
    (kk : W p l e R s m args below meth c H locs cells slots Q (F0 m (pc + 3) ls (.int r :: rest))) : W p l e R s m args below meth c H locs cells slots Q (F0 m pc ls st) :=
  W.callR (g := F0 m pc ls st) (W.runS S hM cw ⟨PX9_blind, PX9use hX hbl⟩ rfl hn hsize hst (lv_room hW) hdg hf) kk
end SCell
theorem lcv_L0 : lcv L0 = false := rfl
set_option maxHeartbeats 16000000 in
set_option maxRecDepth 100000 in
/-- the law: build -/
theorem c_L_build (l : Launch) (D : va_G) (cI cZ cL cJ : ClassId) (cB : ClassId) (lo : Nat) (ad : Nat → Nat) (hI29 : Inj 29 ad) (hadlo : ∀ i, i < 29 → lo ≤ ad i) (b L : Nat) (xs : Nat → Int32) (hL : L < 2 ^ 30) (hblo : b < lo) : Met l yL_build wsK_build ({ frames := 2, cells := 64, slots := 210, locals := 48 } : Room) (PCB D cB (TY cI cZ cL cJ) (fun q => lo ≤ q) [.ref (ad 0), .ref b] b L xs (fun H => PX D cI cL ad 0 0 (nI 0) (fun _ => L0) H)) (va_Qr (fun (u : Nat × (Nat → LV) × (Nat → Nat)) => GW lo ad u.2.2 u.2.1 ∧ WFX u.1 0 u.2.1 ∧ 1 ≤ u.1) (fun u r t => r = u.2.2 0 ∧ PX D cI cL ad u.1 0 (nI 0) u.2.1 t.heap ∧ SP D cI cZ cJ cB u.2.2 u.1 0 (nI 0) u.2.1 t.heap) (fun q => lo ≤ q)) 64 210 (fun q => lo ≤ q) := by
  refine Met.ofW (cc := cL_build) (maxL := 11) (ret := (some (.object "LanternPrimesLaw$Sim"))) (by decide) rfl ?_
  intro p e s m args below meth c s₁ B hml hv
  obtain ⟨⟨⟨⟨rfl, hK, hE, hP0⟩, hEA⟩, hEL⟩, hX, hNI⟩ := hv
  have hKB := hEA.2
  have hx := B.exec
  have hb := B.bytes
  have hr := B.returns
  have hts := atoms_spec (ws := wsK_build) B.pre
  have hown : s.vm.findClass RL = some m.cls := findClass_of_methodNamed B.named
  have hlocks := B.notSynchronized
  have hin2 : ∀ w ∈ wsX20, w ∈ wsK_build := by decide +kernel
  have hE0 : EN noA s s.heap := hE.narrow (fun _ h => h.elim)
  have hPX := hP0
  have hal := PX_lt hP0
  have hlo : lo ≤ s.heap.size := Nat.le_trans (hadlo 0 (by decide)) (Nat.le_of_lt (hal 0 (by decide)))
  have hbl : b < s.heap.size := by omega
  have hbA : ¬ lo ≤ b := by omega
  have hl := lv_entry ([.ref (ad 0), .ref b]) (n := 11) (Nat.le_of_ble_eq_true rfl)
  rw [lg_entry_eq]
  generalize (lg_sl ([.ref (ad 0), .ref b]) ++ List.replicate (11 - (lg_sl ([.ref (ad 0), .ref b])).length) Slot.unset).toArray = ls at hl ⊢
  have hl : lv_has ls 11 [(0, .ref (ad 0)), (1, .ref b)] := hl
  have hPe : va_P D vwCl [] s.heap := fun k q h => by cases h
  have hDe : ∀ {A : Nat → Prop}, va_D A [] := ⟨fun i j q r h => (by cases h), fun k q h => (by cases h)⟩
  have hS1 : va_S (fun q : Nat => s.heap.size ≤ q) s.heap s.heap [] := va_S.rf
  refine va_new (ci := 2) (fs := [.int 0, .int 0, .int 0, .null, .null, .null]) (C := RX2) (T := TX2) (N := 6) hx hb hts hin2 tyX2 tyX2_ok hown (hts (.classLink RL 10 RX2) (List.mem_of_getElem? (i := 3) rfl)) (hts (.instantiable RX2 6) (List.mem_of_getElem? (i := 4) rfl)) (hts (.initialized RX2) (List.mem_of_getElem? (i := 5) rfl)) hK hPe hDe hS1 (fun q h => h) rfl (fun j hj => by rcases (show j = 0 ∨ j = 1 ∨ j = 2 ∨ j = 3 ∨ j = 4 ∨ j = 5 by omega) with rfl | rfl | rfl | rfl | rfl | rfl <;> rfl) (Nat.le_of_ble_eq_true rfl) (Nat.le_of_ble_eq_true rfl) dL_build_0 (fun a H hP hD hS1 => ?_)
  have hP : va_P D vwCl [(a, .inr (2, [.int 0, .int 0, .int 0, .null, .null, .null]))] H := hP
  have hz0 : s.heap.size ≤ H.size := hS1.1
  have hag : s.heap.size ≤ a := hD.2 0 _ rfl
  have hah : a < H.size := (hP 0 _ rfl).lt
  have hfree : ∀ q, AN a H.size q → s.heap.size ≤ q := fun q h => h.elim (fun h => by rw [h]; exact hag) (fun h => Nat.le_trans hS1.1 h)
  refine lv_dup hx hb dL_build_3 rfl ?_
  refine va_callv (va_runIN (As := []) (rest := [.ref a]) ⟨hx, hb, hml, hown, hts⟩ (c_X2_init l D cI cZ cL cJ cB a H.size hah) ⟨va_cnB 0 hts gK_build_init rfl rfl rfl hNI (hts (.initialized RX2) (List.mem_of_getElem? (i := 5) rfl)) (by decide +kernel) ⟨(Nat.le_of_ble_eq_true rfl), (Nat.le_of_ble_eq_true rfl)⟩, rfl, (hts (.instanceMethod yX2_init) (List.mem_of_getElem? (i := 10) rfl))⟩ ⟨PNE_blind, fun U hU hW => ⟨⟨rfl, va_K.moved hW.alike hK, by rw [hU], by rw [hU]; exact hP⟩, hEA.moved hW.alike⟩⟩ rfl rfl hl.1 rfl (lv_room (Nat.le_of_ble_eq_true rfl)) dL_build_4 ⟨(Nat.le_of_ble_eq_true rfl), (Nat.le_of_ble_eq_true rfl)⟩) hS1 (fun q _ h => hfree q h) hfree (fun as t H locs ht hvm hu hB hz1 hk1 hS1 => ?_)
  have hB : SP D cI cZ cJ cB as 0 0 (nI 0) (fun _ => L0) t.heap := hB
  rw [ht] at hB
  have hSP := hB
  obtain ⟨ha, hIs, hAs⟩ := hu
  have hPX := PX_keep (A := fun q => s.heap.size ≤ q) hPX (fun i hi => Nat.not_le.mpr (hal i hi)) hS1.2.1
  have hasg : ∀ u, Us (fun _ => L0) u → s.heap.size ≤ as u := fun u hu => hfree _ (hAs u hu)
  have hG : GW lo ad as (fun _ => L0) := ⟨⟨hI29, hIs⟩, ⟨hadlo, fun u hu => Nat.le_trans hlo (hasg u hu)⟩, fun i u hi hu e => by have := hal i hi; have := hasg u hu; omega⟩
  have hS : va_S (fun q => lo ≤ q) s.heap H locs := va_S_mono hS1 (fun q h => Nat.le_trans hlo h)
  have hE0 : EN noA s H := (hE.kept hS.2.1).narrow (fun _ h => h.elim)
  refine lv_astore_n (lv' := [(2, .ref a), (0, .ref (ad 0)), (1, .ref b)]) hx hb dL_build_7 rfl hl (by decide) rfl (fun ls hl => ?_)
  refine lv_iconst (v := nI 1) hx hb dL_build_8 (by decide) ?_
  refine lv_aload_n hx hb dL_build_9 rfl (lv_at hl 2 rfl) ?_
  refine lv_iconst (v := nI 0) hx hb dL_build_10 (by decide) ?_
  refine rS9 (r := celV xs L 0) (As := [.ref b, .int (nI 0)]) (rest := [.int (nI 1)]) ⟨hx, hb, hml, hown, hts⟩ (c_L_cell l b L xs 0 hL (by decide)) (va_cwS 2 hts (gK_of gL_build_L_cell) rfl rfl rfl (by decide +kernel) ⟨(Nat.le_of_ble_eq_true rfl), (Nat.le_of_ble_eq_true rfl)⟩) (hX.kept (hS.2.1 b hbl hbA)) (Nat.lt_of_lt_of_le hbl hS.1) rfl hl.1 rfl (Nat.le_of_ble_eq_true rfl) dL_build_11 ⟨(by show _ ≤ 64; omega), (by show _ ≤ 210; omega)⟩ ?_
  obtain ⟨x0, hx0⟩ : ∃ y, celV xs L 0 = y := ⟨_, rfl⟩
  refine n_ti hx0 ?_
  refine lv_bipush (v := nI 8) hx hb dL_build_14 (by decide) ?_
  refine rS (r := nI (blw x0 8)) (As := [.int x0, .int (nI 8)]) (rest := [.int (nI 1)]) ⟨hx, hb, hml, hown, hts⟩ (c_L_below l D cI cZ cL cJ x0 8 (by decide) (by omega)) (va_cwS 2 hts (gK_of gL_build_L_below) rfl rfl rfl (by decide +kernel) ⟨(Nat.le_of_ble_eq_true rfl), (Nat.le_of_ble_eq_true rfl)⟩) hK hE0 trivial rfl hl.1 rfl (Nat.le_of_ble_eq_true rfl) dL_build_16 ⟨(by show _ ≤ 64; omega), (by show _ ≤ 210; omega)⟩ ?_
  obtain ⟨w8, hw8, e_w8⟩ : ∃ y, y < 8 ∧ blw x0 8 = y := ⟨_, blw_lt _ (by decide), rfl⟩
  rw [e_w8]
  refine n_iadd (v := nI (1 + w8)) hx hb dL_build_19 (nI_add _ _) ?_
  refine lv_istore_n (lv' := [(3, .int (nI (1 + w8))), (2, .ref a), (0, .ref (ad 0)), (1, .ref b)]) hx hb dL_build_20 rfl hl (by decide) rfl (fun ls hl => ?_)
  refine lv_iconst (v := nI 0) hx hb dL_build_21 (by decide) ?_
  refine W.widen (k := (12 + 6 * 0 + 2 * 0)) (n := (30 + 21 * 0 + 7 * 0)) (by omega) (by omega) ?_
  have hWF0 : WFX 0 0 (fun _ => L0) := ⟨by decide, by decide, fun j _ => ⟨(Nat.zero_le 4 : (0 : Nat) ≤ 4), fun i hi => absurd (show i < 0 from hi) (Nat.not_lt_zero i)⟩⟩
  refine lv_istore (lv' := [(4, .int (nI 0)), (3, .int (nI (1 + w8))), (2, .ref a), (0, .ref (ad 0)), (1, .ref b)]) hx hb dL_build_22 hl (by decide) rfl (fun ls hl => ?_)
  have loop_24 : ∀ (fu : Nat) (i : Nat) (v : Nat → LV) (as : Nat → Nat), 1 + w8 + 1 - i ≤ fu → i ≤ 1 + w8 → as 0 = a → (∀ k, i ≤ k → k < 8 → lbc (v k) = 0 ∧ lcv (v k) = false) → ∀ (H : Heap) (locs : List Loc), GW lo ad as v → WFX i 0 v → PX D cI cL ad i 0 (nI 0) v H → SP D cI cZ cJ cB as i 0 (nI 0) v H → va_S (fun q => lo ≤ q) s.heap H locs → ∀ (ls : Array Slot), lv_has ls 11 [(4, .int (nI i)), (3, .int (nI (1 + w8))), (2, .ref a), (1, .ref b), (0, .ref (ad 0))] → W p l e (headSpec wsK_build ({ frames := 2, cells := 64, slots := 210, locals := 48 } : Room)).room s m [.ref (ad 0), .ref b].toArray below meth c H locs (12 + 6 * i + 2 * 0) (30 + 21 * i + 7 * 0) (MQ below (va_Qr (fun (u : Nat × (Nat → LV) × (Nat → Nat)) => GW lo ad u.2.2 u.2.1 ∧ WFX u.1 0 u.2.1 ∧ 1 ≤ u.1) (fun u r t => r = u.2.2 0 ∧ PX D cI cL ad u.1 0 (nI 0) u.2.1 t.heap ∧ SP D cI cZ cJ cB u.2.2 u.1 0 (nI 0) u.2.1 t.heap) (fun q => lo ≤ q)) [.ref (ad 0), .ref b].toArray s 64 210 (fun q => lo ≤ q)) (F0 m 24 ls []) := by
    intro fu
    induction fu with
    | zero => intro i v as hn_24 hi ha hfr; exact absurd hn_24 (by omega)
    | succ fu ih_24 =>
      intro i v as hn_24 hi ha hfr H locs hG hwf hPX hSP hS ls hl
      have hwl := hwf.2.2
      have hE0 : EN noA s H := (hE.kept hS.2.1).narrow (fun _ h => h.elim)
      rw [← ha] at hl
      refine lv_iload hx hb dL_build_24 (lv_at hl 0 rfl) ?_
      refine lv_iload_n hx hb dL_build_26 rfl (lv_at hl 1 rfl) ?_
      refine n_icmp_ge (a := i) (b := 1 + w8) (tgt := 235) hx hb (by omega) (by omega) dL_build_27 (by decide) (fun c_27 => ?_) (fun c_27 => ?_)
      · refine lv_aload_n hx hb dL_build_235 rfl (lv_at hl 2 rfl) ?_
        have hin : i = 1 + w8 := by omega
        refine W.widen (k := 64) (n := 210) (by omega) (by omega) ?_
        exact W.aret (v := .ref (as 0)) hx hb hr (Or.inl ⟨_, rfl⟩) (Or.inr ⟨_, rfl⟩) (fun t ht hW => ⟨⟨(i, v, as), as 0, rfl, ⟨hG, hwf, by show 1 ≤ i; omega⟩, rfl, by show PX D cI cL ad i 0 (nI 0) v t.heap ∧ SP D cI cZ cJ cB as i 0 (nI 0) v t.heap; rw [ht]; exact ⟨hPX, hSP⟩⟩, hS.F ht⟩) (fun q hq => hS.2.2 q hq) dL_build_236
      · refine lv_aload_n hx hb dL_build_30 rfl (lv_at hl 3 rfl) ?_
        refine lv_iconst (v := nI 1) hx hb dL_build_31 (by decide) ?_
        refine lv_iload hx hb dL_build_32 (lv_at hl 0 rfl) ?_
        refine n_iadd (v := nI (1 + i)) hx hb dL_build_34 (nI_add _ _) ?_
        refine rS9 (r := celV xs L (1 + i)) (As := [.ref b, .int (nI (1 + i))]) (rest := []) ⟨hx, hb, hml, hown, hts⟩ (c_L_cell l b L xs (1 + i) hL (by omega)) (va_cwS 2 hts (gK_of gL_build_L_cell) rfl rfl rfl (by decide +kernel) ⟨(Nat.le_of_ble_eq_true rfl), (Nat.le_of_ble_eq_true rfl)⟩) (hX.kept (hS.2.1 b hbl hbA)) (Nat.lt_of_lt_of_le hbl hS.1) rfl hl.1 rfl (Nat.le_of_ble_eq_true rfl) dL_build_35 ⟨(by show _ ≤ 64; omega), (by show _ ≤ 210; omega)⟩ ?_
        obtain ⟨xi, hxi⟩ : ∃ y, celV xs L (1 + i) = y := ⟨_, rfl⟩
        refine n_ti hxi ?_
        refine lv_istore (lv' := [(5, .int xi), (4, .int (nI i)), (3, .int (nI (1 + w8))), (2, .ref (as 0)), (1, .ref b), (0, .ref (ad 0))]) hx hb dL_build_38 hl (by decide) rfl (fun ls hl => ?_)
        refine lv_iload hx hb dL_build_40 (lv_at hl 0 rfl) ?_
        refine lv_iconst (v := nI 2) hx hb dL_build_42 (by decide) ?_
        refine rS (r := nI (blw xi 2)) (As := [.int xi, .int (nI 2)]) (rest := []) ⟨hx, hb, hml, hown, hts⟩ (c_L_below l D cI cZ cL cJ xi 2 (by decide) (by omega)) (va_cwS 2 hts (gK_of gL_build_L_below) rfl rfl rfl (by decide +kernel) ⟨(Nat.le_of_ble_eq_true rfl), (Nat.le_of_ble_eq_true rfl)⟩) hK hE0 trivial rfl hl.1 rfl (Nat.le_of_ble_eq_true rfl) dL_build_43 ⟨(by show _ ≤ 64; omega), (by show _ ≤ 210; omega)⟩ ?_
        obtain ⟨w2, hw2, e_w2⟩ : ∃ y, y < 2 ∧ blw xi 2 = y := ⟨_, blw_lt _ (by decide), rfl⟩
        rw [e_w2]
        have join_54 : ∀ (ls : Array Slot), lv_has ls 11 [(5, .int xi), (4, .int (nI i)), (3, .int (nI (1 + w8))), (2, .ref (as 0)), (1, .ref b), (0, .ref (ad 0))] → W p l e (headSpec wsK_build ({ frames := 2, cells := 64, slots := 210, locals := 48 } : Room)).room s m [.ref (ad 0), .ref b].toArray below meth c H locs (12 + 6 * i + 2 * 0) (30 + 21 * i + 7 * 0) (MQ below (va_Qr (fun (u : Nat × (Nat → LV) × (Nat → Nat)) => GW lo ad u.2.2 u.2.1 ∧ WFX u.1 0 u.2.1 ∧ 1 ≤ u.1) (fun u r t => r = u.2.2 0 ∧ PX D cI cL ad u.1 0 (nI 0) u.2.1 t.heap ∧ SP D cI cZ cJ cB u.2.2 u.1 0 (nI 0) u.2.1 t.heap) (fun q => lo ≤ q)) [.ref (ad 0), .ref b].toArray s 64 210 (fun q => lo ≤ q)) (F0 m 54 ls [.int (bI (decide (w2 = 0)))]) := by
          intro   ls hl
          refine lv_istore (lv' := [(6, .int (bI (decide (w2 = 0)))), (5, .int xi), (4, .int (nI i)), (3, .int (nI (1 + w8))), (2, .ref (as 0)), (1, .ref b), (0, .ref (ad 0))]) hx hb dL_build_54 hl (by decide) rfl (fun ls hl => ?_)
          refine lv_aload_n hx hb dL_build_56 rfl (lv_at hl 4 rfl) ?_
          refine va_get (D := D) (ci := 2) (v := .ref (as 1)) (C := RX2) (T := TX2) (N := 6) hx hb hts hin2 hown hK hSP.1 0 rfl rfl 3 (by decide) (hts (.fieldLink RL 21 "LanternPrimesLaw$Sim" "begins" "[Z") (List.mem_of_getElem? (i := 6) rfl)) (fun _ h9 => h9) rfl dL_build_57 ?_
          refine lv_iload hx hb dL_build_60 (lv_at hl 2 rfl) ?_
          refine lv_iload hx hb dL_build_62 (lv_at hl 0 rfl) ?_
          refine n_zastK (f := fun j => bI (lon (v j))) (f' := fun j => bI (lon ((updv v i (setOn (v i) (decide (w2 = 0)))) j))) hx hb hK (hSP.1 1 _ rfl) hS (hG.2.1.2 1 (Us.lo (by decide))) 1 rfl (by omega) (by decide) (by funext k; unfold upd updv; by_cases e : k = i <;> simp only [e, if_true, if_false] <;> rfl) dL_build_64 (fun H1 locs h_1 hS hz2 hk2 => ?_)
          have h_0 := (hSP.1 0 _ rfl).kept (hk2 _ (fun e => absurd (hG.1.2 0 1 (Us.lo (by decide)) (Us.lo (by decide)) e) (by decide)))
          refine lv_aload_n hx hb dL_build_65 rfl (lv_at hl 4 rfl) ?_
          refine lv_dup hx hb dL_build_66 rfl ?_
          refine va_get (D := D) (ci := 2) (v := .int (nI i)) (C := RX2) (T := TX2) (N := 6) hx hb hts hin2 hown hK (vp1 h_0) 0 rfl rfl 2 (by decide) (hts (.fieldLink RL 9 "LanternPrimesLaw$Sim" "lamps" "I") (List.mem_of_getElem? (i := 7) rfl)) (fun _ h9 => h9) rfl dL_build_67 ?_
          refine lv_iconst (v := nI 1) hx hb dL_build_70 (by decide) ?_
          refine n_iadd (v := nI (i + 1)) hx hb dL_build_71 (nI_add _ _) ?_
          refine n_putS (k := 2) hx hb hts hin2 hown hK h_0 hS (hG.2.1.2 0 (Us.lo (by decide))) (by decide) (hts (.fieldLink RL 9 "LanternPrimesLaw$Sim" "lamps" "I") (List.mem_of_getElem? (i := 7) rfl)) rfl (by decide) (by decide +kernel) (by show 2 < 6; decide) dL_build_72 (fun H2 locs h_0 hS hz3 hk3 => ?_)
          have h_1 := h_1.kept (hk3 _ (fun e => absurd (hG.1.2 1 0 (Us.lo (by decide)) (Us.lo (by decide)) e) (by decide)))
          have hk5 : ∀ q : Nat, q ≠ as 0 → q ≠ as 1 → H2[q]? = H[q]? := fun q h0 h1 => (hk3 q h0).trans (hk2 q h1)
          have hPX := PX_s (A := fun q => q = as 0 ∨ q = as 1) hPX (fun q h k hk e => h.elim (fun h => hG.2.2 k 0 hk (Us.lo (by decide)) (e.symm.trans h)) (fun h => hG.2.2 k 1 hk (Us.lo (by decide)) (e.symm.trans h))) (fun q _ h => hk5 q (fun e => h (Or.inl e)) (fun e => h (Or.inr e)))
          have h_2 := (hSP.1 2 _ rfl).kept (hk5 _ (fun e => absurd (hG.1.2 2 0 (Us.lo (by decide)) (Us.lo (by decide)) e) (by decide)) (fun e => absurd (hG.1.2 2 1 (Us.lo (by decide)) (Us.lo (by decide)) e) (by decide)))
          have ecv : (fun j => bI (lcv (v j))) = fun j => bI (lcv ((updv v i (setOn (v i) (decide (w2 = 0)))) j)) := by funext k; unfold updv; by_cases e : k = i <;> simp only [e, if_true, if_false] <;> rfl
          rw [ecv] at h_2
          have hSP2 : SP D cI cZ cJ cB as (i + 1) 0 (nI 0) (updv v i (setOn (v i) (decide (w2 = 0)))) H2 := SP_012 hG.1.2 hSP (fun k _ => updv_same (v := v) (j := i) (L' := setOn (v i) (decide (w2 = 0))) ⟨rfl, rfl, rfl⟩ k) (fun q _ h2 h3 _ => hk5 q h2 h3) h_0 h_1 h_2
          have hG2 : GW lo ad as (updv v i (setOn (v i) (decide (w2 = 0)))) := GW_use hG (Us_same rfl)
          refine lv_aload_n hx hb dL_build_75 rfl (lv_at hl 6 rfl) ?_
          refine lv_iload hx hb dL_build_76 (lv_at hl 0 rfl) ?_
          refine wV (As := [.int (bI (decide (w2 = 0)))]) (rest := []) ⟨hx, hb, hml, hown, hts⟩ (e_X1_addLamp l D cI cZ cL cJ ad i 0 (nI 0) v hwf hG.1.1 (decide (w2 = 0)) (by omega)) (cwV 1 hts (gK_of gL_build_X1_addLamp) rfl rfl rfl (by decide +kernel) ⟨(Nat.le_of_ble_eq_true rfl), (Nat.le_of_ble_eq_true rfl)⟩) hK ((hE.kept hS.2.1).narrow (AX_lo hG)) hPX (RC_of (q := (RX1, TX1, 5)) (ci := 1) hK rfl (vpa hPX.1 0 rfl)) rfl hl.1 rfl (Nat.le_of_ble_eq_true rfl) dL_build_78 ⟨(by show _ ≤ 64; omega), (by show _ ≤ 210; omega)⟩ hS (AX_lo hG) (fun H locs _ hPX hz1 hk1 hS => ?_)
          have hE0 : EN noA s H := (hE.kept hS.2.1).narrow (fun _ h => h.elim)
          have hSP : SP D cI cZ cJ cB as (i + 1) 0 (nI 0) (updv v i (setOn (v i) (decide (w2 = 0)))) H := SP_x hG2 hSP2 hk1
          have hwf2 : WFX (i + 1) 0 (updv v i (setOn (v i) (decide (w2 = 0)))) := wf_n (wf_upd hwf (fun h => wfl_on (hwl i h))) (by omega)
          have hfr2 : (lbc ((updv v i (setOn (v i) (decide (w2 = 0)))) i) = 0 ∧ lcv ((updv v i (setOn (v i) (decide (w2 = 0)))) i) = false) ∧ ∀ k, i + 1 ≤ k → k < 8 → lbc ((updv v i (setOn (v i) (decide (w2 = 0)))) k) = 0 ∧ lcv ((updv v i (setOn (v i) (decide (w2 = 0)))) k) = false := by
            refine ⟨?_, fun k hk1 hk2 => ?_⟩
            · rw [show (updv v i (setOn (v i) (decide (w2 = 0)))) i = setOn (v i) (decide (w2 = 0)) from if_pos rfl]; exact hfr i (Nat.le_refl i) (by omega)
            · rw [show (updv v i (setOn (v i) (decide (w2 = 0)))) k = v k from if_neg (by omega)]; exact hfr k (by omega) hk2
          refine lv_iload hx hb dL_build_81 (lv_at hl 2 rfl) ?_
          refine n_icmp_eq (a := i) (b := i) (tgt := 88) hx hb (by omega) (by omega) dL_build_83 (by decide) (fun c_83 => ?_) (fun c_83 => ?_)
          · refine lv_iload hx hb dL_build_88 (lv_at hl 1 rfl) ?_
            refine lv_iconst (v := nI 2) hx hb dL_build_90 (by decide) ?_
            refine lv_ishr hx hb dL_build_91 ?_
            obtain ⟨xa, hxa⟩ : ∃ y, xi >>> (nI 2 &&& 31) = y := ⟨_, rfl⟩
            refine n_ti hxa ?_
            refine lv_iconst (v := nI 4) hx hb dL_build_92 (by decide) ?_
            refine rS (r := nI (blw xa 4)) (As := [.int xa, .int (nI 4)]) (rest := []) ⟨hx, hb, hml, hown, hts⟩ (c_L_below l D cI cZ cL cJ xa 4 (by decide) (by omega)) (va_cwS 2 hts (gK_of gL_build_L_below) rfl rfl rfl (by decide +kernel) ⟨(Nat.le_of_ble_eq_true rfl), (Nat.le_of_ble_eq_true rfl)⟩) hK hE0 trivial rfl hl.1 rfl (Nat.le_of_ble_eq_true rfl) dL_build_93 ⟨(by show _ ≤ 64; omega), (by show _ ≤ 210; omega)⟩ ?_
            obtain ⟨w4, hw4, e_w4⟩ : ∃ y, y < 4 ∧ blw xa 4 = y := ⟨_, blw_lt _ (by decide), rfl⟩
            rw [e_w4]
            refine lv_istore (lv' := [(7, .int (nI w4)), (6, .int (bI (decide (w2 = 0)))), (5, .int xi), (4, .int (nI i)), (3, .int (nI (1 + w8))), (2, .ref (as 0)), (1, .ref b), (0, .ref (ad 0))]) hx hb dL_build_96 hl (by decide) rfl (fun ls hl => ?_)
            rw [ha] at hl
            obtain ⟨v1, hv1⟩ : ∃ z, (updv v i (setOn (v i) (decide (w2 = 0)))) = z := ⟨_, rfl⟩
            rw [hv1] at hPX hSP hG2 hwf2 hfr2
            have hG := hG2
            have hwf := hwf2
            refine lv_iconst (v := nI 0) hx hb dL_build_98 (by decide) ?_
            refine lv_istore (lv' := [(8, .int (nI 0)), (7, .int (nI w4)), (6, .int (bI (decide (w2 = 0)))), (5, .int xi), (4, .int (nI i)), (3, .int (nI (1 + w8))), (2, .ref a), (1, .ref b), (0, .ref (ad 0))]) hx hb dL_build_99 hl (by decide) rfl (fun ls hl => ?_)
            have loop_101 : ∀ (fu : Nat) (r : Nat) (v : Nat → LV) (as : Nat → Nat), w4 + 1 - r ≤ fu → r ≤ w4 → as 0 = a → ((lbc (v i) = r ∧ lcv (v i) = false) ∧ ∀ k, i + 1 ≤ k → k < 8 → lbc (v k) = 0 ∧ lcv (v k) = false) → ∀ (H : Heap) (locs : List Loc), GW lo ad as v → WFX (i + 1) 0 v → PX D cI cL ad (i + 1) 0 (nI 0) v H → SP D cI cZ cJ cB as (i + 1) 0 (nI 0) v H → va_S (fun q => lo ≤ q) s.heap H locs → ∀ (ls : Array Slot), lv_has ls 11 [(8, .int (nI r)), (7, .int (nI w4)), (5, .int xi), (4, .int (nI i)), (3, .int (nI (1 + w8))), (2, .ref a), (1, .ref b), (0, .ref (ad 0))] → W p l e (headSpec wsK_build ({ frames := 2, cells := 64, slots := 210, locals := 48 } : Room)).room s m [.ref (ad 0), .ref b].toArray below meth c H locs (12 + 6 * i + 2 * r) (30 + 21 * i + 7 * r) (MQ below (va_Qr (fun (u : Nat × (Nat → LV) × (Nat → Nat)) => GW lo ad u.2.2 u.2.1 ∧ WFX u.1 0 u.2.1 ∧ 1 ≤ u.1) (fun u r t => r = u.2.2 0 ∧ PX D cI cL ad u.1 0 (nI 0) u.2.1 t.heap ∧ SP D cI cZ cJ cB u.2.2 u.1 0 (nI 0) u.2.1 t.heap) (fun q => lo ≤ q)) [.ref (ad 0), .ref b].toArray s 64 210 (fun q => lo ≤ q)) (F0 m 101 ls []) := by
              intro fu
              induction fu with
              | zero => intro r v as hn_101 hr9 ha hfr; exact absurd hn_101 (by omega)
              | succ fu ih_101 =>
                intro r v as hn_101 hr9 ha hfr H locs hG hwf hPX hSP hS ls hl
                have hwl := hwf.2.2
                have hE0 : EN noA s H := (hE.kept hS.2.1).narrow (fun _ h => h.elim)
                rw [← ha] at hl
                refine lv_iload hx hb dL_build_101 (lv_at hl 0 rfl) ?_
                refine lv_iload hx hb dL_build_103 (lv_at hl 1 rfl) ?_
                refine n_icmp_ge (a := r) (b := w4) (tgt := 195) hx hb (by omega) (by omega) dL_build_105 (by decide) (fun c_105 => ?_) (fun c_105 => ?_)
                · refine lv_iload hx hb dL_build_195 (lv_at hl 2 rfl) ?_
                  refine lv_bipush (v := nI 8) hx hb dL_build_197 (by decide) ?_
                  refine lv_ishr hx hb dL_build_199 ?_
                  obtain ⟨xg, hxg⟩ : ∃ y, xi >>> (nI 8 &&& 31) = y := ⟨_, rfl⟩
                  refine n_ti hxg ?_
                  refine lv_iconst (v := nI 4) hx hb dL_build_200 (by decide) ?_
                  refine rS (r := nI (blw xg 4)) (As := [.int xg, .int (nI 4)]) (rest := []) ⟨hx, hb, hml, hown, hts⟩ (c_L_below l D cI cZ cL cJ xg 4 (by decide) (by omega)) (va_cwS 2 hts (gK_of gL_build_L_below) rfl rfl rfl (by decide +kernel) ⟨(Nat.le_of_ble_eq_true rfl), (Nat.le_of_ble_eq_true rfl)⟩) hK hE0 trivial rfl hl.1 rfl (Nat.le_of_ble_eq_true rfl) dL_build_201 ⟨(by show _ ≤ 64; omega), (by show _ ≤ 210; omega)⟩ ?_
                  obtain ⟨w44, hw44, e_w44⟩ : ∃ y, y < 4 ∧ blw xg 4 = y := ⟨_, blw_lt _ (by decide), rfl⟩
                  rw [e_w44]
                  refine n_if_le (a := w44) (tgt := 210) hx hb (by omega) dL_build_204 (by decide) (fun c_204 => ?_) (fun c_204 => ?_)
                  · refine lv_aload_n hx hb dL_build_210 rfl (lv_at hl 5 rfl) ?_
                    refine va_get (D := D) (ci := 2) (v := .ref (as 2)) (C := RX2) (T := TX2) (N := 6) hx hb hts hin2 hown hK hSP.1 0 rfl rfl 4 (by decide) (hts (.fieldLink RL 57 "LanternPrimesLaw$Sim" "covered" "[Z") (List.mem_of_getElem? (i := 9) rfl)) (fun _ h9 => h9) rfl dL_build_211 ?_
                    refine lv_iload hx hb dL_build_214 (lv_at hl 3 rfl) ?_
                    refine lv_iconst (v := nI 1) hx hb dL_build_216 (by decide) ?_
                    refine n_zastK (b := true) (f := fun j => bI (lcv (v j))) (f' := fun k => bI (lcv ((updv v i (setCv (v i) true)) k))) hx hb hK (hSP.1 2 _ rfl) hS (hG.2.1.2 2 (Us.lo (by decide))) 1 rfl (by omega) (by decide) (by funext k; unfold upd updv; by_cases e : k = i <;> simp only [e, if_true, if_false] <;> rfl) dL_build_217 (fun H1 locs h_2 hS hz2 hk2 => ?_)
                    have hPX := PX_s (A := fun q => q = as 2) hPX (fun q h k hk e => hG.2.2 k 2 hk (Us.lo (by decide)) (e.symm.trans h)) (fun q _ h => hk2 q h)
                    have h_0 := (hSP.1 0 _ rfl).kept (hk2 _ (fun e => absurd (hG.1.2 0 2 (Us.lo (by decide)) (Us.lo (by decide)) e) (by decide)))
                    have h_1 := (hSP.1 1 _ rfl).kept (hk2 _ (fun e => absurd (hG.1.2 1 2 (Us.lo (by decide)) (Us.lo (by decide)) e) (by decide)))
                    have eon : (fun j => bI (lon (v j))) = fun k => bI (lon ((updv v i (setCv (v i) true)) k)) := by funext k; unfold updv; by_cases e : k = i <;> simp only [e, if_true, if_false] <;> rfl
                    rw [eon] at h_1
                    have hSP2 : SP D cI cZ cJ cB as (i + 1) 0 (nI 0) (updv v i (setCv (v i) true)) H1 := SP_012 hG.1.2 hSP (fun k _ => updv_same (v := v) (j := i) (L' := (setCv (v i) true)) ⟨rfl, rfl, rfl⟩ k) (fun q _ _ _ h4 => hk2 q h4) h_0 h_1 h_2
                    have hG2 : GW lo ad as (updv v i (setCv (v i) true)) := GW_use hG (Us_same rfl)
                    refine lv_aload_n hx hb dL_build_218 rfl (lv_at hl 7 rfl) ?_
                    refine lv_iload hx hb dL_build_219 (lv_at hl 3 rfl) ?_
                    refine wV (As := [.int (nI i)]) (rest := []) ⟨hx, hb, hml, hown, hts⟩ (e_X1_turnShutter l D cI cZ cL cJ ad (i + 1) 0 (nI 0) v hwf hG.1.1 i (by omega)) (cwV 1 hts (gK_of gL_build_X1_turnShutter) rfl rfl rfl (by decide +kernel) ⟨(Nat.le_of_ble_eq_true rfl), (Nat.le_of_ble_eq_true rfl)⟩) hK ((hE.kept hS.2.1).narrow (AX_lo hG)) hPX (RC_of (q := (RX1, TX1, 5)) (ci := 1) hK rfl (vpa hPX.1 0 rfl)) rfl hl.1 rfl (Nat.le_of_ble_eq_true rfl) dL_build_221 ⟨(by show _ ≤ 64; omega), (by show _ ≤ 210; omega)⟩ hS (AX_lo hG) (fun H locs _ hPX hz1 hk1 hS => ?_)
                    rw [show (!(lcv (v i))) = true from by rw [hfr.1.2]; rfl] at hPX
                    refine n_ti (y := bI true) (by rw [hfr.1.2]; rfl) ?_
                    have hSP : SP D cI cZ cJ cB as (i + 1) 0 (nI 0) (updv v i (setCv (v i) true)) H := SP_x hG2 hSP2 hk1
                    have hwf2 : WFX (i + 1) 0 (updv v i (setCv (v i) true)) := wf_upd hwf (fun h => wfl_cv (hwl i h))
                    have hfr2 : ∀ k, i + 1 ≤ k → k < 8 → lbc ((updv v i (setCv (v i) true)) k) = 0 ∧ lcv ((updv v i (setCv (v i) true)) k) = false := fun k hk1 hk2 => by rw [show (updv v i (setCv (v i) true)) k = v k from if_neg (by omega)]; exact hfr.2 k (by omega) hk2
                    refine b_if_ne (b := true) (tgt := 229) hx hb dL_build_224 (by decide) (fun c_224 => ?_) (fun c_224 => ?_)
                    · rw [ha] at hl
                      refine W.widen (k := (12 + 6 * (i + 1) + 2 * 0)) (n := (30 + 21 * (i + 1) + 7 * 0)) (by omega) (by omega) ?_
                      refine lv_iinc (v := nI (i + 1)) (lv' := [(4, .int (nI (i + 1))), (8, .int (nI r)), (7, .int (nI w4)), (5, .int xi), (3, .int (nI (1 + w8))), (2, .ref a), (1, .ref b), (0, .ref (ad 0))]) hx hb dL_build_229 hl (k := 3) rfl (nI_inc _) (by decide) rfl (fun ls hl => ?_)
                      refine lv_goto (tgt := 24) hx hb dL_build_232 (by decide) ?_
                      exact ih_24 (i + 1) (updv v i (setCv (v i) true)) as (by omega) (by omega) ha hfr2 H locs hG2 hwf2 hPX hSP hS ls (lv_sub hl [0, 4, 5, 6, 7] rfl)
                    · exact absurd c_224 (by decide)
                  · refine lv_goto (tgt := 229) hx hb dL_build_207 (by decide) ?_
                    rw [ha] at hl
                    refine W.widen (k := (12 + 6 * (i + 1) + 2 * 0)) (n := (30 + 21 * (i + 1) + 7 * 0)) (by omega) (by omega) ?_
                    refine lv_iinc (v := nI (i + 1)) (lv' := [(4, .int (nI (i + 1))), (8, .int (nI r)), (7, .int (nI w4)), (5, .int xi), (3, .int (nI (1 + w8))), (2, .ref a), (1, .ref b), (0, .ref (ad 0))]) hx hb dL_build_229 hl (k := 3) rfl (nI_inc _) (by decide) rfl (fun ls hl => ?_)
                    refine lv_goto (tgt := 24) hx hb dL_build_232 (by decide) ?_
                    exact ih_24 (i + 1) v as (by omega) (by omega) ha hfr.2 H locs hG hwf hPX hSP hS ls (lv_sub hl [0, 4, 5, 6, 7] rfl)
                · obtain ⟨ns, hZ, hT⟩ := hEL
                  refine va_gets (v := .ref ns) hx hb hZ hS hown (hts (.fieldLink RL 35 "LanternPrimesLaw$Sim" "NUMBERS" "[I") (List.mem_of_getElem? (i := 8) rfl)) (fun _ h9 => h9) dL_build_108 ?_
                  refine lv_iload hx hb dL_build_111 (lv_at hl 2 rfl) ?_
                  refine lv_iconst (v := nI 4) hx hb dL_build_113 (by decide) ?_
                  refine lv_ishr hx hb dL_build_114 ?_
                  obtain ⟨xb, hxb⟩ : ∃ y, xi >>> (nI 4 &&& 31) = y := ⟨_, rfl⟩
                  refine n_ti hxb ?_
                  refine lv_iconst (v := nI 5) hx hb dL_build_115 (by decide) ?_
                  refine lv_iload hx hb dL_build_116 (lv_at hl 0 rfl) ?_
                  refine n_imul (v := nI (5 * r)) hx hb dL_build_118 (pk_mul _ _) ?_
                  refine n_iadd (v := xb + (nI (5 * r))) hx hb dL_build_119 rfl ?_
                  obtain ⟨xc, hxc⟩ : ∃ y, xb + (nI (5 * r)) = y := ⟨_, rfl⟩
                  refine n_ti hxc ?_
                  refine lv_iload hx hb dL_build_120 (lv_at hl 2 rfl) ?_
                  refine lv_bipush (v := nI 9) hx hb dL_build_122 (by decide) ?_
                  refine lv_ishr hx hb dL_build_124 ?_
                  obtain ⟨xd, hxd⟩ : ∃ y, xi >>> (nI 9 &&& 31) = y := ⟨_, rfl⟩
                  refine n_ti hxd ?_
                  refine lv_iconst (v := nI 2) hx hb dL_build_125 (by decide) ?_
                  refine rS (r := nI (blw xd 2)) (As := [.int xd, .int (nI 2)]) (rest := [.int xc, .ref ns]) ⟨hx, hb, hml, hown, hts⟩ (c_L_below l D cI cZ cL cJ xd 2 (by decide) (by omega)) (va_cwS 2 hts (gK_of gL_build_L_below) rfl rfl rfl (by decide +kernel) ⟨(Nat.le_of_ble_eq_true rfl), (Nat.le_of_ble_eq_true rfl)⟩) hK hE0 trivial rfl hl.1 rfl (Nat.le_of_ble_eq_true rfl) dL_build_126 ⟨(by show _ ≤ 64; omega), (by show _ ≤ 210; omega)⟩ ?_
                  obtain ⟨w22, hw22, e_w22⟩ : ∃ y, y < 2 ∧ blw xd 2 = y := ⟨_, blw_lt _ (by decide), rfl⟩
                  rw [e_w22]
                  have join_142 : ∀ (z6 : Nat), z6 < 6 → ∀ (ls : Array Slot), lv_has ls 11 [(8, .int (nI r)), (7, .int (nI w4)), (5, .int xi), (4, .int (nI i)), (3, .int (nI (1 + w8))), (2, .ref (as 0)), (1, .ref b), (0, .ref (ad 0))] → W p l e (headSpec wsK_build ({ frames := 2, cells := 64, slots := 210, locals := 48 } : Room)).room s m [.ref (ad 0), .ref b].toArray below meth c H locs (12 + 6 * i + 2 * r) (30 + 21 * i + 7 * r) (MQ below (va_Qr (fun (u : Nat × (Nat → LV) × (Nat → Nat)) => GW lo ad u.2.2 u.2.1 ∧ WFX u.1 0 u.2.1 ∧ 1 ≤ u.1) (fun u r t => r = u.2.2 0 ∧ PX D cI cL ad u.1 0 (nI 0) u.2.1 t.heap ∧ SP D cI cZ cJ cB u.2.2 u.1 0 (nI 0) u.2.1 t.heap) (fun q => lo ≤ q)) [.ref (ad 0), .ref b].toArray s 64 210 (fun q => lo ≤ q)) (F0 m 142 ls [.int (nI (NUMf z6))]) := by
                    intro z6 hz6 ls hl
                    have hz13 := isP_le (NUMf_P hz6)
                    refine lv_istore (lv' := [(9, .int (nI (NUMf z6))), (8, .int (nI r)), (7, .int (nI w4)), (5, .int xi), (4, .int (nI i)), (3, .int (nI (1 + w8))), (2, .ref (as 0)), (1, .ref b), (0, .ref (ad 0))]) hx hb dL_build_142 hl (by decide) rfl (fun ls hl => ?_)
                    refine lv_iload hx hb dL_build_144 (lv_at hl 3 rfl) ?_
                    refine lv_bipush (v := nI 6) hx hb dL_build_146 (by decide) ?_
                    refine lv_ishr hx hb dL_build_148 ?_
                    obtain ⟨xe, hxe⟩ : ∃ y, xi >>> (nI 6 &&& 31) = y := ⟨_, rfl⟩
                    refine n_ti hxe ?_
                    refine lv_bipush (v := nI 7) hx hb dL_build_149 (by decide) ?_
                    refine lv_iload hx hb dL_build_151 (lv_at hl 1 rfl) ?_
                    refine n_imul (v := nI (7 * r)) hx hb dL_build_153 (pk_mul _ _) ?_
                    refine n_iadd (v := xe + (nI (7 * r))) hx hb dL_build_154 rfl ?_
                    obtain ⟨xf, hxf⟩ : ∃ y, xe + (nI (7 * r)) = y := ⟨_, rfl⟩
                    refine n_ti hxf ?_
                    refine lv_iload hx hb dL_build_155 (lv_at hl 0 rfl) ?_
                    refine rS (r := nI (blw xf (NUMf z6))) (As := [.int xf, .int (nI (NUMf z6))]) (rest := []) ⟨hx, hb, hml, hown, hts⟩ (c_L_below l D cI cZ cL cJ xf (NUMf z6) (by omega) (by omega)) (va_cwS 2 hts (gK_of gL_build_L_below) rfl rfl rfl (by decide +kernel) ⟨(Nat.le_of_ble_eq_true rfl), (Nat.le_of_ble_eq_true rfl)⟩) hK hE0 trivial rfl hl.1 rfl (Nat.le_of_ble_eq_true rfl) dL_build_157 ⟨(by show _ ≤ 64; omega), (by show _ ≤ 210; omega)⟩ ?_
                    obtain ⟨o, ho, e_o⟩ : ∃ y, y < NUMf z6 ∧ blw xf (NUMf z6) = y := ⟨_, blw_lt _ (by omega), rfl⟩
                    rw [e_o]
                    refine lv_istore (lv' := [(10, .int (nI o)), (9, .int (nI (NUMf z6))), (8, .int (nI r)), (7, .int (nI w4)), (5, .int xi), (4, .int (nI i)), (3, .int (nI (1 + w8))), (2, .ref (as 0)), (1, .ref b), (0, .ref (ad 0))]) hx hb dL_build_160 hl (by decide) rfl (fun ls hl => ?_)
                    refine lv_aload_n hx hb dL_build_162 rfl (lv_at hl 7 rfl) ?_
                    refine lv_iload hx hb dL_build_163 (lv_at hl 5 rfl) ?_
                    refine lv_iload hx hb dL_build_165 (lv_at hl 1 rfl) ?_
                    refine lv_iload hx hb dL_build_167 (lv_at hl 0 rfl) ?_
                    have hal2 := PX_lt hPX
                    have hlo2 : lo ≤ H.size := Nat.le_trans hlo hS.1
                    have h_3 : lo ≤ as 3 := hG.2.1.2 3 (Us.lo (by decide))
                    refine va_callv (va_runV (As := [.int (nI i), .int (nI (NUMf z6)), .int (nI o)]) (rest := []) ⟨hx, hb, hml, hown, hts⟩ (c_X2_addBeat l D cI cZ cL cJ cB as (i + 1) 0 (nI 0) v hwf hG.1.2 i (by omega) (by omega) (NUMf z6) o H.size) (cwV 3 hts (gK_of gL_build_X2_addBeat) rfl rfl rfl (by decide +kernel) ⟨(Nat.le_of_ble_eq_true rfl), (Nat.le_of_ble_eq_true rfl)⟩) ⟨PCZ_blind, (RC_of (q := (RX2, TX2, 6)) (ci := 2) hK rfl (vpa hSP.1 0 rfl)), PCZuse hK ((hE.kept hS.2.1).narrow (fun q h => h.elim (fun h => by rw [h]; exact h_3) (fun h => Nat.le_trans hlo2 h))) hEA hSP⟩ rfl rfl hl.1 rfl (lv_room (Nat.le_of_ble_eq_true rfl)) dL_build_169 ⟨by show (12 + 6 * i + 2 * r) + 2 ≤ 64; omega, by show (30 + 21 * i + 7 * r) + 7 ≤ 210; omega⟩) hS (fun q _ h => h.elim (fun h => by rw [h]; exact h_3) (fun h => Nat.le_trans hlo2 h)) (fun q h => h.elim (fun h => by rw [h]; exact h_3) (fun h => Nat.le_trans hlo2 h)) (fun as' t H1 locs ht hvm hu hB hz1 hk1 hS => ?_)
                    have hB : SP D cI cZ cJ cB as' (i + 1) 0 (nI 0) (updv v i (addL (v i) (NUMf z6) o)) t.heap := hB
                    rw [ht] at hB
                    obtain ⟨hI2, ha0, hsrc⟩ := hu
                    have hPX := PX_s hPX (fun q h k hk e => h.elim (fun h => hG.2.2 k 3 hk (Us.lo (by decide)) (e.symm.trans h)) (fun h => by have := hal2 k hk; omega)) hk1
                    have hG2 : GW lo ad as' (updv v i (addL (v i) (NUMf z6) o)) := GW_step hG hal2 hlo2 hI2 hsrc
                    refine lv_aload_n hx hb dL_build_172 rfl (lv_at hl 9 rfl) ?_
                    refine lv_iload hx hb dL_build_173 (lv_at hl 5 rfl) ?_
                    refine lv_iload hx hb dL_build_175 (lv_at hl 1 rfl) ?_
                    refine lv_iload hx hb dL_build_177 (lv_at hl 0 rfl) ?_
                    refine wV (As := [.int (nI i), .int (nI (NUMf z6)), .int (nI o)]) (rest := []) ⟨hx, hb, hml, hown, hts⟩ (e_X1_addBeat l D cI cZ cL cJ ad (i + 1) 0 (nI 0) v hwf hG.1.1 i (by omega) z6 o hz6 ho (by omega)) (cwV 3 hts (gK_of gL_build_X1_addBeat) rfl rfl rfl (by decide +kernel) ⟨(Nat.le_of_ble_eq_true rfl), (Nat.le_of_ble_eq_true rfl)⟩) hK ((hE.kept hS.2.1).narrow (AX_lo hG)) hPX (RC_of (q := (RX1, TX1, 5)) (ci := 1) hK rfl (vpa hPX.1 0 rfl)) rfl hl.1 rfl (Nat.le_of_ble_eq_true rfl) dL_build_179 ⟨(by show _ ≤ 64; omega), (by show _ ≤ 210; omega)⟩ hS (AX_lo hG) (fun H locs _ hPX hz1 hk1 hS => ?_)
                    have hSP : SP D cI cZ cJ cB as' (i + 1) 0 (nI 0) (updv v i (addL (v i) (NUMf z6) o)) H := SP_x hG2 hB hk1
                    have hwf2 : WFX (i + 1) 0 (updv v i (addL (v i) (NUMf z6) o)) := wf_upd hwf (fun h => addL_wf (hwl i h) (by omega) (NUMf_P hz6) ho)
                    have e_ii : (updv v i (addL (v i) (NUMf z6) o)) i = (addL (v i) (NUMf z6) o) := if_pos rfl
                    have hfr2 : (lbc ((updv v i (addL (v i) (NUMf z6) o)) i) = r + 1 ∧ lcv ((updv v i (addL (v i) (NUMf z6) o)) i) = false) ∧ ∀ k, i + 1 ≤ k → k < 8 → lbc ((updv v i (addL (v i) (NUMf z6) o)) k) = 0 ∧ lcv ((updv v i (addL (v i) (NUMf z6) o)) k) = false := by
                      refine ⟨?_, fun k hk1 hk2 => ?_⟩
                      · rw [e_ii]; exact ⟨by show lbc (v i) + 1 = r + 1; rw [hfr.1.1], hfr.1.2⟩
                      · rw [show (updv v i (addL (v i) (NUMf z6) o)) k = v k from if_neg (by omega)]; exact hfr.2 k (by omega) hk2
                    refine lv_iload hx hb dL_build_182 (lv_at hl 2 rfl) ?_
                    refine n_icmp_eq (a := lbc (v i)) (b := r) (tgt := 189) hx hb (by omega) (by omega) dL_build_184 (by decide) (fun c_184 => ?_) (fun c_184 => ?_)
                    · rw [ha] at hl
                      refine W.widen (k := (12 + 6 * i + 2 * (r + 1))) (n := (30 + 21 * i + 7 * (r + 1))) (by omega) (by omega) ?_
                      refine lv_iinc (v := nI (r + 1)) (lv' := [(8, .int (nI (r + 1))), (10, .int (nI o)), (9, .int (nI (NUMf z6))), (7, .int (nI w4)), (5, .int xi), (4, .int (nI i)), (3, .int (nI (1 + w8))), (2, .ref a), (1, .ref b), (0, .ref (ad 0))]) hx hb dL_build_189 hl (k := 2) rfl (nI_inc _) (by decide) rfl (fun ls hl => ?_)
                      refine lv_goto (tgt := 101) hx hb dL_build_192 (by decide) ?_
                      exact ih_101 (r + 1) (updv v i (addL (v i) (NUMf z6) o)) as' (by omega) (by omega) (ha0.trans ha) hfr2 H locs hG2 hwf2 hPX hSP hS ls (lv_sub hl [0, 3, 4, 5, 6, 7, 8, 9] rfl)
                    · exact absurd hfr.1.1 c_184
                  refine n_if_ne (a := w22) (tgt := 136) hx hb (by omega) dL_build_129 (by decide) (fun c_129 => ?_) (fun c_129 => ?_)
                  · refine lv_bipush (v := nI 6) hx hb dL_build_136 (by decide) ?_
                    refine rS (r := nI (blw xc 6)) (As := [.int xc, .int (nI 6)]) (rest := [.ref ns]) ⟨hx, hb, hml, hown, hts⟩ (c_L_below l D cI cZ cL cJ xc 6 (by decide) (by omega)) (va_cwS 2 hts (gK_of gL_build_L_below) rfl rfl rfl (by decide +kernel) ⟨(Nat.le_of_ble_eq_true rfl), (Nat.le_of_ble_eq_true rfl)⟩) hK hE0 trivial rfl hl.1 rfl (Nat.le_of_ble_eq_true rfl) dL_build_138 ⟨(by show _ ≤ 64; omega), (by show _ ≤ 210; omega)⟩ ?_
                    obtain ⟨z9, hz9, e_z9⟩ : ∃ y, y < 6 ∧ blw xc 6 = y := ⟨_, blw_lt _ (by decide), rfl⟩
                    rw [e_z9]
                    refine n_ti6 (j := z9) hx hb hT hS (by omega) dL_build_141 ?_
                    exact join_142 z9 (by omega) ls (lv_sub hl [0, 1, 2, 3, 4, 5, 6, 7] rfl)
                  · refine lv_iconst (v := nI 3) hx hb dL_build_132 (by decide) ?_
                    refine lv_goto (tgt := 138) hx hb dL_build_133 (by decide) ?_
                    refine rS (r := nI (blw xc 3)) (As := [.int xc, .int (nI 3)]) (rest := [.ref ns]) ⟨hx, hb, hml, hown, hts⟩ (c_L_below l D cI cZ cL cJ xc 3 (by decide) (by omega)) (va_cwS 2 hts (gK_of gL_build_L_below) rfl rfl rfl (by decide +kernel) ⟨(Nat.le_of_ble_eq_true rfl), (Nat.le_of_ble_eq_true rfl)⟩) hK hE0 trivial rfl hl.1 rfl (Nat.le_of_ble_eq_true rfl) dL_build_138 ⟨(by show _ ≤ 64; omega), (by show _ ≤ 210; omega)⟩ ?_
                    obtain ⟨z9, hz9, e_z9⟩ : ∃ y, y < 3 ∧ blw xc 3 = y := ⟨_, blw_lt _ (by decide), rfl⟩
                    rw [e_z9]
                    refine n_ti6 (j := z9) hx hb hT hS (by omega) dL_build_141 ?_
                    exact join_142 z9 (by omega) ls (lv_sub hl [0, 1, 2, 3, 4, 5, 6, 7] rfl)
            exact loop_101 (w4 + 1) 0 v1 as (by omega) (Nat.zero_le _) ha hfr2 H locs hG hwf hPX hSP hS ls (lv_sub hl [0, 1, 3, 4, 5, 6, 7, 8] rfl)
          · exact absurd rfl c_83
        refine n_if_ne (a := w2) (tgt := 53) hx hb (by omega) dL_build_46 (by decide) (fun c_46 => ?_) (fun c_46 => ?_)
        · refine lv_iconst (v := nI 0) hx hb dL_build_53 (by decide) ?_
          refine n_ti (y := bI (decide (w2 = 0))) (by rw [decide_eq_false c_46]; rfl) ?_
          exact join_54 ls (lv_sub hl [0, 1, 2, 3, 4, 5] rfl)
        · refine lv_iconst (v := nI 1) hx hb dL_build_49 (by decide) ?_
          refine lv_goto (tgt := 54) hx hb dL_build_50 (by decide) ?_
          refine n_ti (y := bI (decide (w2 = 0))) (by rw [decide_eq_true c_46]; rfl) ?_
          exact join_54 ls (lv_sub hl [0, 1, 2, 3, 4, 5] rfl)
  exact loop_24 (1 + w8 + 1) 0 (fun _ => L0) as (by omega) (Nat.zero_le _) ha (fun k _ _ => ⟨rfl, rfl⟩) H locs hG hWF0 hPX hSP hS ls (lv_sub hl [0, 1, 2, 4, 3] rfl)
