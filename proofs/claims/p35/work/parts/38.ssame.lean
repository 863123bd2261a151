theorem PX_lt {D : va_G} {cI cL : ClassId} {ad : Nat → Nat} {n now : Nat} {told : Int32} {v : Nat → LV} {H : Heap} (h : PX D cI cL ad n now told v H) : ∀ i, i < 29 → ad i < H.size := by
  intro i hi
  by_cases h0 : i = 0
  · rw [h0]; exact (h.1 0 _ rfl).lt
  by_cases h1 : i = 1
  · rw [h1]; exact (h.1 1 _ rfl).lt
  obtain ⟨j, hj, hij⟩ : ∃ j, j < 9 ∧ (i = 2 + 3 * j ∨ i = 3 + 3 * j ∨ i = 4 + 3 * j) := ⟨(i - 2) / 3, by omega, by omega⟩
  rcases hij with e1 | e1 | e1
  · rw [e1]; exact (h.2 j hj 0 _ rfl).lt
  · rw [e1]; exact (h.2 j hj 1 _ rfl).lt
  · rw [e1]; exact (h.2 j hj 2 _ rfl).lt
theorem PX_keep {D : va_G} {cI cL : ClassId} {ad : Nat → Nat} {n now : Nat} {told : Int32} {v : Nat → LV} {A : Nat → Prop} {H0 H : Heap} (hP : PX D cI cL ad n now told v H0) (hno : ∀ i, i < 29 → ¬ A (ad i)) (hk : ∀ q : Nat, q < H0.size → ¬ A q → H[q]? = H0[q]?) : PX D cI cL ad n now told v H := by
  refine ⟨hP.1.kept (fun i x hx => hk x.1 (hP.1 i x hx).lt ?_), fun j hj => (hP.2 j hj).kept (fun i x hx => hk x.1 (hP.2 j hj i x hx).lt ?_)⟩
  · match i, hx with
    | 0, hx => cases hx; exact hno 0 (by omega)
    | 1, hx => cases hx; exact hno 1 (by omega)
  · match i, hx with
    | 0, hx => cases hx; exact hno (2 + 3 * j) (by omega)
    | 1, hx => cases hx; exact hno (3 + 3 * j) (by omega)
    | 2, hx => cases hx; exact hno (4 + 3 * j) (by omega)
section SDb
variable {p : Program} {l : Launch} {e : Env} {R : Room} {s : State} {m : MethodId} {args : Array Value} {below : List Frame} {meth : Method} {c : Code} {H : Heap} {locs : List Loc} {cells slots : Nat} {Q : State → Prop}
variable {y : MethodName} {bytes cc : ByteArray} {maxL nL n index pc mc ms : Nat} {ret : Option FieldType} {ws : List Cond} {rm : Room} {Ts : List Cond} {own C : String} {b : Addr} {As rest st : List Value} {ls : Array Slot}
variable {D : va_G} {T : List (ClassId × FieldType)} {A1 : Nat → Prop} {Ph : Heap → Prop}
theorem callDb {r : UInt64} {a : Array Value} {g : JFrame} (hr : CallRun p l e R s m args below meth c H locs cells slots 0 0 g rest (QDb r a) (fun _ => False)) (kk : W p l e R s m args below meth c H locs cells slots Q { g with pc := g.pc + 3, stack := .double r :: rest }) : W p l e R s m args below meth c H locs cells slots Q g := by
  intro T hT X
  obtain ⟨v, st₀, t, T', L, h0, X', hL, e1, ⟨hv, hh⟩, st⟩ := hr T hT X
  cases hv
  obtain ⟨t2, a1, b1⟩ := kk T' (by rw [e1, hh, h0]) (Stand.forget X' (fun q h => (hL q h).elim))
  exact ⟨t2, st t2 a1, b1⟩
theorem rVd {r : UInt64} (S : CallFix p m c cc nL s args Ts own) (hM : Met l y ws rm (PC D T A1 (.ref b :: As) Ph) (QDb r) 0 0 (fun _ => False)) (cw : CallW R s args own C index y bytes maxL ret ws rm 0 0 n) (hK : va_K D vwCl T s) (hE : EN A1 s H) (hPh : Ph H) (hr : RC s H C b)
    (hn : As.length = n) (hsize : ls.size = nL) (hst : st = As.reverse ++ .ref b :: rest) (hW : (rest.map fun v => v.category).sum ≤ 8) (hdg : decode cc pc = .ok (.invokevirtual index, 3)) (hf : cells ≤ R.cells ∧ slots ≤ R.slots)
    (kk : W p l e R s m args below meth c H locs cells slots Q (F0 m (pc + 3) ls (.double r :: rest))) : W p l e R s m args below meth c H locs cells slots Q (F0 m pc ls st) :=
  callDb (g := F0 m pc ls st) (W.runV S hM cw ⟨PC_blind, hr, PCuse hK hE hPh⟩ rfl hn hsize hst (lv_room hW) hdg hf) kk
theorem n_td {x z : UInt64} (h : x = z) (k : W p l e R s m args below meth c H locs cells slots Q (F0 m pc ls (.double z :: rest))) : W p l e R s m args below meth c H locs cells slots Q (F0 m pc ls (.double x :: rest)) := by
  subst h; exact k
end SDb
theorem dcmpOK {s n : Nat} (hs : s ≤ 32) (hn : n ≤ 8) : Op.cmpValue (FP.dcmp (meanF s n) (meanF s n)) .l = nI 0 := by
  have : ∀ s, s < 33 → ∀ n, n < 9 → Op.cmpValue (FP.dcmp (meanF s n) (meanF s n)) .l = nI 0 := by decide +kernel
  exact this s (by omega) n (by omega)
set_option maxHeartbeats 4000000 in
set_option maxRecDepth 100000 in
/-- isSame -/
theorem c_X2_isSame (l : Launch) (D : va_G) (cI cZ cL cJ : ClassId) (cB : ClassId) (ad as : Nat → Nat) (n now : Nat) (told : Int32) (v : Nat → LV) (hwf : WFX n now v) (hn6 : now ≤ 60000) (sz : Nat) : Met l yX2_isSame wsX2_isSame ({ frames := 5, cells := 8, slots := 8 * (now + 1), locals := 109 } : Room) (PCZ D cB (TY cI cZ cL cJ) (fun q => sz ≤ q) [.ref (as 0), .ref (ad 0)] sz (fun H => PX D cI cL ad n now told v H ∧ SP D cI cZ cJ cB as n now told v H)) (va_Qi (fun r (_ : Unit) => r = 1) (fun _ _ => True) (fun q => sz ≤ q)) 8 (8 * (now + 1)) (fun _ => False) := by
  refine Met.ofW (cc := cX2_isSame) (maxL := 7) (ret := (some .boolean)) (by decide) rfl ?_
  intro p e s m args below meth c s₁ B hml hv
  obtain ⟨⟨⟨rfl, hK, hE, hP0, hS0⟩, hEA⟩, hsz⟩ := hv
  subst hsz
  obtain ⟨hn8, hnow, hwl⟩ := hwf
  have hKB := hEA.2
  have hx := B.exec
  have hb := B.bytes
  have hr := B.returns
  have hts := atoms_spec (ws := wsX2_isSame) B.pre
  have hown : s.vm.findClass RX2 = some m.cls := findClass_of_methodNamed B.named
  have hlocks := B.notSynchronized
  have hNF := hE.2.1.1
  have hin0 : ∀ w ∈ wsX00, w ∈ wsX2_isSame := by decide +kernel
  have hin1 : ∀ w ∈ wsX10, w ∈ wsX2_isSame := by decide +kernel
  have hin2 : ∀ w ∈ wsX20, w ∈ wsX2_isSame := by decide +kernel
  have hl := lv_entry ([.ref (as 0), .ref (ad 0)]) (n := 7) (Nat.le_of_ble_eq_true rfl)
  rw [lg_entry_eq]
  generalize (lg_sl ([.ref (as 0), .ref (ad 0)]) ++ List.replicate (7 - (lg_sl ([.ref (as 0), .ref (ad 0)])).length) Slot.unset).toArray = ls at hl ⊢
  have hl : lv_has ls 7 [(0, .ref (as 0)), (1, .ref (ad 0))] := hl
  refine lv_iconst (v := nI 0) hx hb dX2_isSame_0 (by decide) ?_
  refine lv_istore_n (lv' := [(2, .int (nI 0)), (0, .ref (as 0)), (1, .ref (ad 0))]) hx hb dX2_isSame_1 rfl hl (by decide) rfl (fun ls hl => ?_)
  refine lv_iconst (v := nI 0) hx hb dX2_isSame_2 (by decide) ?_
  refine lv_istore_n (lv' := [(3, .int (nI 0)), (2, .int (nI 0)), (0, .ref (as 0)), (1, .ref (ad 0))]) hx hb dX2_isSame_3 rfl hl (by decide) rfl (fun ls hl => ?_)
  refine lv_iconst (v := nI 0) hx hb dX2_isSame_4 (by decide) ?_
  refine W.widen (k := 0) (n := 0 * (now + 1)) (Nat.le_refl _) (Nat.zero_le _) ?_
  refine lv_istore (lv' := [(4, .int (nI 0)), (3, .int (nI 0)), (2, .int (nI 0)), (0, .ref (as 0)), (1, .ref (ad 0))]) hx hb dX2_isSame_5 hl (by decide) rfl (fun ls hl => ?_)
  have loop_7 : ∀ (fu : Nat) (j : Nat), n + 1 - j ≤ fu → j ≤ n → ∀ (H : Heap) (locs : List Loc), va_S (fun q => s.heap.size ≤ q) s.heap H locs → ∀ (ls : Array Slot), lv_has ls 7 [(4, .int (nI j)), (3, .int (nI (btsN v j))), (2, .int (nI (litN v j now))), (1, .ref (ad 0)), (0, .ref (as 0))] → W p l e (headSpec wsX2_isSame ({ frames := 5, cells := 8, slots := 8 * (now + 1), locals := 109 } : Room)).room s m [.ref (as 0), .ref (ad 0)].toArray below meth c H locs j (j * (now + 1)) (MQ below (va_Qi (fun r (_ : Unit) => r = 1) (fun _ _ => True) (fun q => s.heap.size ≤ q)) [.ref (as 0), .ref (ad 0)].toArray s 8 (8 * (now + 1)) (fun _ => False)) (F0 m 7 ls []) := by
    intro fu
    induction fu with
    | zero => intro j hn_7 hj; exact absurd hn_7 (by omega)
    | succ fu ih_7 =>
      intro j hn_7 hj H locs hS ls hl
      have hPX : PX D cI cL ad n now told v H := PX_keep hP0 (fun i hi => Nat.not_le.mpr (PX_lt hP0 i hi)) hS.2.1
      have hSP : SP D cI cZ cJ cB as n now told v H := SP_keep hS0 (fun u hu => Nat.not_le.mpr (SP_lt hS0 u hu)) hS.2.1
      have hE1 : EN noA s H := (hE.kept hS.2.1).narrow (fun _ h => h.elim)
      refine lv_iload hx hb dX2_isSame_7 (lv_at hl 0 rfl) ?_
      refine lv_aload_n hx hb dX2_isSame_9 rfl (lv_at hl 4 rfl) ?_
      refine va_get (D := D) (ci := 2) (v := .int (nI n)) (C := RX2) (T := TX2) (N := 6) hx hb hts hin2 hown hK hSP.1 0 rfl rfl 2 (by decide) (hts (.fieldLink RX2 31 "LanternPrimesLaw$Sim" "lamps" "I") (List.mem_of_getElem? (i := 1) rfl)) (fun _ h9 => h9) rfl dX2_isSame_10 ?_
      refine n_icmp_ge (a := j) (b := n) (tgt := 256) hx hb (by omega) (by omega) dX2_isSame_13 (by decide) (fun c_13 => ?_) (fun c_13 => ?_)
      · refine W.widen (k := 8) (n := 8 * (now + 1)) (by omega) (Nat.mul_le_mul_right _ (by omega)) ?_
        have e_j : j = n := by omega
        rw [e_j] at hl
        refine lv_aload_n hx hb dX2_isSame_256 rfl (lv_at hl 3 rfl) ?_
        refine rV (r := nI n) (As := []) (rest := []) ⟨hx, hb, hml, hown, hts⟩ (c_X1_lamps l D cI cZ cL cJ ad n now told v ⟨hn8, hnow, hwl⟩) (cwV 0 hts gX2_isSame_X1_lamps rfl rfl rfl (by decide +kernel) ⟨(Nat.le_of_ble_eq_true rfl), (Nat.le_of_ble_eq_true rfl)⟩) hK hE1 hPX (RC_of (q := (RX1, TX1, 5)) (ci := 1) hK rfl (vpa hPX.1 0 rfl)) rfl hl.1 rfl (Nat.le_of_ble_eq_true rfl) dX2_isSame_257 ⟨(Nat.le_refl _), (Nat.le_refl _)⟩ ?_
        refine lv_aload_n hx hb dX2_isSame_260 rfl (lv_at hl 4 rfl) ?_
        refine va_get (D := D) (ci := 2) (v := .int (nI n)) (C := RX2) (T := TX2) (N := 6) hx hb hts hin2 hown hK hSP.1 0 rfl rfl 2 (by decide) (hts (.fieldLink RX2 31 "LanternPrimesLaw$Sim" "lamps" "I") (List.mem_of_getElem? (i := 1) rfl)) (fun _ h9 => h9) rfl dX2_isSame_261 ?_
        refine n_icmp_ne (a := n) (b := n) (tgt := 344) hx hb (by omega) (by omega) dX2_isSame_264 (by decide) (fun c_264 => ?_) (fun c_264 => ?_)
        · exact absurd rfl c_264
        · refine lv_aload_n hx hb dX2_isSame_267 rfl (lv_at hl 3 rfl) ?_
          refine rV (r := nI now) (As := []) (rest := []) ⟨hx, hb, hml, hown, hts⟩ (c_X1_now l D cI cZ cL cJ ad n now told v ⟨hn8, hnow, hwl⟩) (cwV 0 hts gX2_isSame_X1_now rfl rfl rfl (by decide +kernel) ⟨(Nat.le_of_ble_eq_true rfl), (Nat.le_of_ble_eq_true rfl)⟩) hK hE1 hPX (RC_of (q := (RX1, TX1, 5)) (ci := 1) hK rfl (vpa hPX.1 0 rfl)) rfl hl.1 rfl (Nat.le_of_ble_eq_true rfl) dX2_isSame_268 ⟨(Nat.le_refl _), (Nat.le_refl _)⟩ ?_
          refine lv_aload_n hx hb dX2_isSame_271 rfl (lv_at hl 4 rfl) ?_
          refine va_get (D := D) (ci := 2) (v := .int (nI now)) (C := RX2) (T := TX2) (N := 6) hx hb hts hin2 hown hK hSP.1 0 rfl rfl 0 (by decide) (hts (.fieldLink RX2 35 "LanternPrimesLaw$Sim" "now" "I") (List.mem_of_getElem? (i := 2) rfl)) (fun _ h9 => h9) rfl dX2_isSame_272 ?_
          refine n_icmp_ne (a := now) (b := now) (tgt := 344) hx hb (by omega) (by omega) dX2_isSame_275 (by decide) (fun c_275 => ?_) (fun c_275 => ?_)
          · exact absurd rfl c_275
          · refine lv_aload_n hx hb dX2_isSame_278 rfl (lv_at hl 3 rfl) ?_
            refine rV (r := told) (As := []) (rest := []) ⟨hx, hb, hml, hown, hts⟩ (c_X1_changesSeen l D cI cZ cL cJ ad n now told v ⟨hn8, hnow, hwl⟩) (cwV 0 hts gX2_isSame_X1_changesSeen rfl rfl rfl (by decide +kernel) ⟨(Nat.le_of_ble_eq_true rfl), (Nat.le_of_ble_eq_true rfl)⟩) hK hE1 hPX (RC_of (q := (RX1, TX1, 5)) (ci := 1) hK rfl (vpa hPX.1 0 rfl)) rfl hl.1 rfl (Nat.le_of_ble_eq_true rfl) dX2_isSame_279 ⟨(Nat.le_refl _), (Nat.le_refl _)⟩ ?_
            refine lv_aload_n hx hb dX2_isSame_282 rfl (lv_at hl 4 rfl) ?_
            refine va_get (D := D) (ci := 2) (v := .int told) (C := RX2) (T := TX2) (N := 6) hx hb hts hin2 hown hK hSP.1 0 rfl rfl 1 (by decide) (hts (.fieldLink RX2 49 "LanternPrimesLaw$Sim" "seen" "I") (List.mem_of_getElem? (i := 5) rfl)) (fun _ h9 => h9) rfl dX2_isSame_283 ?_
            refine lv_icmp_ne (tgt := 344) hx hb dX2_isSame_286 (by decide) (fun c_286 => ?_) (fun c_286 => ?_)
            · exact absurd rfl c_286
            · refine lv_aload_n hx hb dX2_isSame_289 rfl (lv_at hl 3 rfl) ?_
              refine rV (r := nI (litN v n now)) (As := []) (rest := []) ⟨hx, hb, hml, hown, hts⟩ (c_X1_litLamps l D cI cZ cL cJ ad n now told v ⟨hn8, hnow, hwl⟩) (cwV 0 hts gX2_isSame_X1_litLamps rfl rfl rfl (by decide +kernel) ⟨(Nat.le_of_ble_eq_true rfl), (Nat.le_of_ble_eq_true rfl)⟩) hK hE1 hPX (RC_of (q := (RX1, TX1, 5)) (ci := 1) hK rfl (vpa hPX.1 0 rfl)) rfl hl.1 rfl (Nat.le_of_ble_eq_true rfl) dX2_isSame_290 ⟨(Nat.le_refl _), (Nat.le_refl _)⟩ ?_
              refine lv_iload_n hx hb dX2_isSame_293 rfl (lv_at hl 2 rfl) ?_
              refine lv_icmp_ne (tgt := 344) hx hb dX2_isSame_294 (by decide) (fun c_294 => ?_) (fun c_294 => ?_)
              · exact absurd rfl c_294
              · refine lv_aload_n hx hb dX2_isSame_297 rfl (lv_at hl 3 rfl) ?_
                refine rV (r := bI (dkB v n (-1) now)) (As := []) (rest := []) ⟨hx, hb, hml, hown, hts⟩ (c_X1_isDark l D cI cZ cL cJ ad n now told v ⟨hn8, hnow, hwl⟩) (cwV 0 hts gX2_isSame_X1_isDark rfl rfl rfl (by decide +kernel) ⟨(Nat.le_of_ble_eq_true rfl), (Nat.le_of_ble_eq_true rfl)⟩) hK hE1 hPX (RC_of (q := (RX1, TX1, 5)) (ci := 1) hK rfl (vpa hPX.1 0 rfl)) rfl hl.1 rfl (Nat.le_of_ble_eq_true rfl) dX2_isSame_298 ⟨(Nat.le_refl _), (Nat.le_refl _)⟩ ?_
                have join_310 : ∀ (ls : Array Slot), lv_has ls 7 [(4, .int (nI n)), (3, .int (nI (btsN v n))), (2, .int (nI (litN v n now))), (1, .ref (ad 0)), (0, .ref (as 0))] → W p l e (headSpec wsX2_isSame ({ frames := 5, cells := 8, slots := 8 * (now + 1), locals := 109 } : Room)).room s m [.ref (as 0), .ref (ad 0)].toArray below meth c H locs 8 (8 * (now + 1)) (MQ below (va_Qi (fun r (_ : Unit) => r = 1) (fun _ _ => True) (fun q => s.heap.size ≤ q)) [.ref (as 0), .ref (ad 0)].toArray s 8 (8 * (now + 1)) (fun _ => False)) (F0 m 310 ls [.int (bI (dkB v n (-1) now)), .int (bI (dkB v n (-1) now))]) := by
                  intro   ls hl
                  refine lv_icmp_ne (tgt := 344) hx hb dX2_isSame_310 (by decide) (fun c_310 => ?_) (fun c_310 => ?_)
                  · exact absurd rfl c_310
                  · refine lv_aload_n hx hb dX2_isSame_313 rfl (lv_at hl 3 rfl) ?_
                    refine rVd (r := meanF (btsN v n) n) (As := []) (rest := []) ⟨hx, hb, hml, hown, hts⟩ (c_X1_meanBeats l D cI cZ cL cJ ad n now told v ⟨hn8, hnow, hwl⟩) (cwV 0 hts gX2_isSame_X1_meanBeats rfl rfl rfl (by decide +kernel) ⟨(Nat.le_of_ble_eq_true rfl), (Nat.le_of_ble_eq_true rfl)⟩) hK hE1 hPX (RC_of (q := (RX1, TX1, 5)) (ci := 1) hK rfl (vpa hPX.1 0 rfl)) rfl hl.1 rfl (Nat.le_of_ble_eq_true rfl) dX2_isSame_314 ⟨(Nat.le_refl _), (Nat.le_refl _)⟩ ?_
                    have join_336 : ∀ (ls : Array Slot), lv_has ls 7 [(4, .int (nI n)), (3, .int (nI (btsN v n))), (2, .int (nI (litN v n now))), (1, .ref (ad 0)), (0, .ref (as 0))] → W p l e (headSpec wsX2_isSame ({ frames := 5, cells := 8, slots := 8 * (now + 1), locals := 109 } : Room)).room s m [.ref (as 0), .ref (ad 0)].toArray below meth c H locs 8 (8 * (now + 1)) (MQ below (va_Qi (fun r (_ : Unit) => r = 1) (fun _ _ => True) (fun q => s.heap.size ≤ q)) [.ref (as 0), .ref (ad 0)].toArray s 8 (8 * (now + 1)) (fun _ => False)) (F0 m 336 ls [.double (meanF (btsN v n) n), .double (meanF (btsN v n) n)]) := by
                      intro   ls hl
                      refine lv_dcmp hx hb dX2_isSame_336 ?_
                      refine n_ti (y := nI 0) (dcmpOK (by have := btsN_le hwl n hn8; omega) hn8) ?_
                      refine n_if_ne (a := 0) (tgt := 344) hx hb (by decide) dX2_isSame_337 (by decide) (fun c_337 => ?_) (fun c_337 => ?_)
                      · exact absurd rfl c_337
                      · refine lv_iconst (v := nI 1) hx hb dX2_isSame_340 (by decide) ?_
                        refine lv_goto (tgt := 345) hx hb dX2_isSame_341 (by decide) ?_
                        refine va_forget hS.2.2 ?_
                        refine n_ti (y := bI true) rfl ?_
                        exact W.zret (v := bI true) hx hb hr (bI_narrow _) (fun t9 ht9 hW => ⟨⟨bI true, (), rfl, rfl, trivial⟩, hS.F ht9⟩) (fun q h => by cases h) dX2_isSame_345
                    refine lv_aload_n hx hb dX2_isSame_317 rfl (lv_at hl 4 rfl) ?_
                    refine va_get (D := D) (ci := 2) (v := .int (nI n)) (C := RX2) (T := TX2) (N := 6) hx hb hts hin2 hown hK hSP.1 0 rfl rfl 2 (by decide) (hts (.fieldLink RX2 31 "LanternPrimesLaw$Sim" "lamps" "I") (List.mem_of_getElem? (i := 1) rfl)) (fun _ h9 => h9) rfl dX2_isSame_318 ?_
                    refine n_if_ne (a := n) (tgt := 328) hx hb (by omega) dX2_isSame_321 (by decide) (fun c_321 => ?_) (fun c_321 => ?_)
                    · refine lv_iload_n hx hb dX2_isSame_328 rfl (lv_at hl 1 rfl) ?_
                      refine lv_i2d hx hb dX2_isSame_329 ?_
                      refine lv_aload_n hx hb dX2_isSame_330 rfl (lv_at hl 4 rfl) ?_
                      refine va_get (D := D) (ci := 2) (v := .int (nI n)) (C := RX2) (T := TX2) (N := 6) hx hb hts hin2 hown hK hSP.1 0 rfl rfl 2 (by decide) (hts (.fieldLink RX2 31 "LanternPrimesLaw$Sim" "lamps" "I") (List.mem_of_getElem? (i := 1) rfl)) (fun _ h9 => h9) rfl dX2_isSame_331 ?_
                      refine lv_i2d hx hb dX2_isSame_334 ?_
                      refine lv_ddiv hx hb dX2_isSame_335 (meanOK (by have := btsN_le hwl n hn8; omega) (by omega) hn8) ?_
                      refine n_td (z := meanF (btsN v n) n) (by unfold meanF; rw [if_neg c_321]) ?_
                      exact join_336 ls (lv_sub hl [0, 1, 2, 3, 4] rfl)
                    · refine lv_dconst0 hx hb dX2_isSame_324 ?_
                      refine lv_goto (tgt := 336) hx hb dX2_isSame_325 (by decide) ?_
                      refine n_td (z := meanF (btsN v n) n) (by unfold meanF; rw [if_pos c_321]) ?_
                      exact join_336 ls (lv_sub hl [0, 1, 2, 3, 4] rfl)
                refine lv_iload_n hx hb dX2_isSame_301 rfl (lv_at hl 2 rfl) ?_
                refine n_if_ne (a := litN v n now) (tgt := 309) hx hb (Nat.lt_of_le_of_lt (cnt_le _ _) (by omega)) dX2_isSame_302 (by decide) (fun c_302 => ?_) (fun c_302 => ?_)
                · refine lv_iconst (v := nI 0) hx hb dX2_isSame_309 (by decide) ?_
                  refine n_ti (y := bI (dkB v n (-1) now)) (by unfold dkB; rw [ltN_all hn8]; rw [decide_eq_false c_302]; rfl) ?_
                  exact join_310 ls (lv_sub hl [0, 1, 2, 3, 4] rfl)
                · refine lv_iconst (v := nI 1) hx hb dX2_isSame_305 (by decide) ?_
                  refine lv_goto (tgt := 310) hx hb dX2_isSame_306 (by decide) ?_
                  refine n_ti (y := bI (dkB v n (-1) now)) (by unfold dkB; rw [ltN_all hn8]; rw [decide_eq_true c_302]; rfl) ?_
                  exact join_310 ls (lv_sub hl [0, 1, 2, 3, 4] rfl)
      · have hw4 := (hwl j (by omega)).1
        have hs4 := strk_le (v j) now (lbc (v j))
        refine lv_aload_n hx hb dX2_isSame_16 rfl (lv_at hl 4 rfl) ?_
        refine lv_iload hx hb dX2_isSame_17 (lv_at hl 0 rfl) ?_
        refine lv_aload_n hx hb dX2_isSame_19 rfl (lv_at hl 4 rfl) ?_
        refine va_get (D := D) (ci := 2) (v := .int (nI now)) (C := RX2) (T := TX2) (N := 6) hx hb hts hin2 hown hK hSP.1 0 rfl rfl 0 (by decide) (hts (.fieldLink RX2 35 "LanternPrimesLaw$Sim" "now" "I") (List.mem_of_getElem? (i := 2) rfl)) (fun _ h9 => h9) rfl dX2_isSame_20 ?_
        have h_mul := Nat.mul_le_mul_right (now + 1) (show j + 1 ≤ 8 by omega)
        rw [Nat.succ_mul] at h_mul
        refine va_callr (va_runV (As := [.int (nI j), .int (nI now)]) (rest := []) ⟨hx, hb, hml, hown, hts⟩ (c_X2_row l D cI cZ cL cJ cB as n now told v ⟨hn8, hnow, hwl⟩ j (by omega) now hnow H.size) (cwV 2 hts gX2_isSame_X2_row rfl rfl rfl (by decide +kernel) ⟨(Nat.le_of_ble_eq_true rfl), (Nat.le_of_ble_eq_true rfl)⟩) ⟨PCZ_blind, (RC_of (q := (RX2, TX2, 6)) (ci := 2) hK rfl (vpa hSP.1 0 rfl)), PCZuse hK ((hE.kept hS.2.1).narrow (fun q h => Nat.le_trans hS.1 h)) hEA hSP⟩ rfl rfl hl.1 rfl (lv_room (Nat.le_of_ble_eq_true rfl)) dX2_isSame_23 ⟨by show j + 1 ≤ 8; omega, by show j * (now + 1) + (now + 1) ≤ 8 * (now + 1); exact h_mul⟩) hS (fun q h1 h2 => absurd h2 (Nat.not_le.mpr h1)) (fun q h => h.elim) (fun u z t H1 locs ht hvm hu hB hz1 hk1 hS => ?_)
        obtain ⟨hzg, hZ⟩ := hB
        rw [ht] at hZ
        clear hPX hSP hE1
        have hk9 := hk1
        have hPX : PX D cI cL ad n now told v H1 := PX_keep hP0 (fun i hi => Nat.not_le.mpr (PX_lt hP0 i hi)) hS.2.1
        have hSP : SP D cI cZ cJ cB as n now told v H1 := SP_keep hS0 (fun u hu => Nat.not_le.mpr (SP_lt hS0 u hu)) hS.2.1
        have hE1 : EN noA s H1 := (hE.kept hS.2.1).narrow (fun _ h => h.elim)
        refine lv_aload_n hx hb dX2_isSame_26 rfl (lv_at hl 4 rfl) ?_
        refine va_get (D := D) (ci := 2) (v := .int (nI now)) (C := RX2) (T := TX2) (N := 6) hx hb hts hin2 hown hK hSP.1 0 rfl rfl 0 (by decide) (hts (.fieldLink RX2 35 "LanternPrimesLaw$Sim" "now" "I") (List.mem_of_getElem? (i := 2) rfl)) (fun _ h9 => h9) rfl dX2_isSame_27 ?_
        refine n_zald (v := bI (onB (v j) now)) (j := now) hx hb hK (vp1 hZ) 0 1 rfl rfl (by omega) (by omega) rfl dX2_isSame_30 ?_
        refine lv_istore (lv' := [(5, .int (bI (onB (v j) now))), (4, .int (nI j)), (3, .int (nI (btsN v j))), (2, .int (nI (litN v j now))), (1, .ref (ad 0)), (0, .ref (as 0))]) hx hb dX2_isSame_31 hl (by decide) rfl (fun ls hl => ?_)
        have join_54 : ∀ (ls : Array Slot), lv_has ls 7 [(5, .int (bI (onB (v j) now))), (4, .int (nI j)), (3, .int (nI (btsN v j))), (2, .int (nI (litN v j now))), (1, .ref (ad 0)), (0, .ref (as 0))] → W p l e (headSpec wsX2_isSame ({ frames := 5, cells := 8, slots := 8 * (now + 1), locals := 109 } : Room)).room s m [.ref (as 0), .ref (ad 0)].toArray below meth c H1 locs (j + 1) (j * (now + 1) + (now + 1)) (MQ below (va_Qi (fun r (_ : Unit) => r = 1) (fun _ _ => True) (fun q => s.heap.size ≤ q)) [.ref (as 0), .ref (ad 0)].toArray s 8 (8 * (now + 1)) (fun _ => False)) (F0 m 54 ls [.int (nI (if litB (v j) now = true then 1 else 0)), .int (nI (litN v j now))]) := by
          intro   ls hl
          refine n_iadd (v := nI (litN v (j + 1) now)) hx hb dX2_isSame_54 (nI_add _ _) ?_
          refine lv_istore_n (lv' := [(2, .int (nI (litN v (j + 1) now))), (5, .int (bI (onB (v j) now))), (4, .int (nI j)), (3, .int (nI (btsN v j))), (1, .ref (ad 0)), (0, .ref (as 0))]) hx hb dX2_isSame_55 rfl hl (by decide) rfl (fun ls hl => ?_)
          refine lv_iload_n hx hb dX2_isSame_56 rfl (lv_at hl 3 rfl) ?_
          refine lv_aload_n hx hb dX2_isSame_57 rfl (lv_at hl 5 rfl) ?_
          refine va_get (D := D) (ci := 2) (v := .ref (as 3)) (C := RX2) (T := TX2) (N := 6) hx hb hts hin2 hown hK hSP.1 0 rfl rfl 5 (by decide) (hts (.fieldLink RX2 18 "LanternPrimesLaw$Sim" "beats" "[[[I") (List.mem_of_getElem? (i := 4) rfl)) (fun _ h9 => h9) rfl dX2_isSame_58 ?_
          refine lv_iload hx hb dX2_isSame_61 (lv_at hl 2 rfl) ?_
          refine n_aaldA (v := as (4 + 5 * j)) (j := j) hx hb hKB hSP.1 3 0 rfl rfl (by omega) (by decide) rfl dX2_isSame_63 ?_
          refine va_alen (v := nI (lbc (v j))) hx hb hK (vp1 (hSP.2 j (by omega)).1) 0 3 rfl rfl rfl dX2_isSame_64 ?_
          refine n_iadd (v := nI (btsN v (j + 1))) hx hb dX2_isSame_65 (nI_add _ _) ?_
          refine lv_istore_n (lv' := [(3, .int (nI (btsN v (j + 1)))), (2, .int (nI (litN v (j + 1) now))), (5, .int (bI (onB (v j) now))), (4, .int (nI j)), (1, .ref (ad 0)), (0, .ref (as 0))]) hx hb dX2_isSame_66 rfl hl (by decide) rfl (fun ls hl => ?_)
          refine lv_aload_n hx hb dX2_isSame_67 rfl (lv_at hl 4 rfl) ?_
          refine lv_iload hx hb dX2_isSame_68 (lv_at hl 3 rfl) ?_
          refine rV (r := nI (lbc (v j))) (As := [.int (nI j)]) (rest := []) ⟨hx, hb, hml, hown, hts⟩ (e_X1_beatsOf l D cI cZ cL cJ ad n now told v ⟨hn8, hnow, hwl⟩ j (by omega)) (cwV 1 hts gX2_isSame_X1_beatsOf rfl rfl rfl (by decide +kernel) ⟨(Nat.le_of_ble_eq_true rfl), (Nat.le_of_ble_eq_true rfl)⟩) hK hE1 hPX (RC_of (q := (RX1, TX1, 5)) (ci := 1) hK rfl (vpa hPX.1 0 rfl)) rfl hl.1 rfl (Nat.le_of_ble_eq_true rfl) dX2_isSame_70 ⟨(by show j + 1 ≤ 8; omega), (by show j * (now + 1) + (now + 1) ≤ 8 * (now + 1); exact h_mul)⟩ ?_
          refine lv_aload_n hx hb dX2_isSame_73 rfl (lv_at hl 5 rfl) ?_
          refine va_get (D := D) (ci := 2) (v := .ref (as 3)) (C := RX2) (T := TX2) (N := 6) hx hb hts hin2 hown hK hSP.1 0 rfl rfl 5 (by decide) (hts (.fieldLink RX2 18 "LanternPrimesLaw$Sim" "beats" "[[[I") (List.mem_of_getElem? (i := 4) rfl)) (fun _ h9 => h9) rfl dX2_isSame_74 ?_
          refine lv_iload hx hb dX2_isSame_77 (lv_at hl 3 rfl) ?_
          refine n_aaldA (v := as (4 + 5 * j)) (j := j) hx hb hKB hSP.1 3 0 rfl rfl (by omega) (by decide) rfl dX2_isSame_79 ?_
          refine va_alen (v := nI (lbc (v j))) hx hb hK (vp1 (hSP.2 j (by omega)).1) 0 3 rfl rfl rfl dX2_isSame_80 ?_
          refine n_icmp_ne (a := lbc (v j)) (b := lbc (v j)) (tgt := 178) hx hb (by omega) (by omega) dX2_isSame_81 (by decide) (fun c_81 => ?_) (fun c_81 => ?_)
          · exact absurd rfl c_81
          · refine lv_aload_n hx hb dX2_isSame_84 rfl (lv_at hl 4 rfl) ?_
            refine lv_iload hx hb dX2_isSame_85 (lv_at hl 3 rfl) ?_
            refine rV (r := bI (lcv (v j))) (As := [.int (nI j)]) (rest := []) ⟨hx, hb, hml, hown, hts⟩ (e_X1_isCovered l D cI cZ cL cJ ad n now told v ⟨hn8, hnow, hwl⟩ j (by omega)) (cwV 1 hts gX2_isSame_X1_isCovered rfl rfl rfl (by decide +kernel) ⟨(Nat.le_of_ble_eq_true rfl), (Nat.le_of_ble_eq_true rfl)⟩) hK hE1 hPX (RC_of (q := (RX1, TX1, 5)) (ci := 1) hK rfl (vpa hPX.1 0 rfl)) rfl hl.1 rfl (Nat.le_of_ble_eq_true rfl) dX2_isSame_87 ⟨(by show j + 1 ≤ 8; omega), (by show j * (now + 1) + (now + 1) ≤ 8 * (now + 1); exact h_mul)⟩ ?_
            refine lv_aload_n hx hb dX2_isSame_90 rfl (lv_at hl 5 rfl) ?_
            refine va_get (D := D) (ci := 2) (v := .ref (as 2)) (C := RX2) (T := TX2) (N := 6) hx hb hts hin2 hown hK hSP.1 0 rfl rfl 4 (by decide) (hts (.fieldLink RX2 13 "LanternPrimesLaw$Sim" "covered" "[Z") (List.mem_of_getElem? (i := 3) rfl)) (fun _ h9 => h9) rfl dX2_isSame_91 ?_
            refine lv_iload hx hb dX2_isSame_94 (lv_at hl 3 rfl) ?_
            refine n_zald (v := bI (lcv (v j))) (j := j) hx hb hK hSP.1 2 1 rfl rfl (by omega) (by decide) rfl dX2_isSame_96 ?_
            refine lv_icmp_ne (tgt := 178) hx hb dX2_isSame_97 (by decide) (fun c_97 => ?_) (fun c_97 => ?_)
            · exact absurd rfl c_97
            · refine lv_aload_n hx hb dX2_isSame_100 rfl (lv_at hl 4 rfl) ?_
              refine lv_iload hx hb dX2_isSame_101 (lv_at hl 3 rfl) ?_
              refine rV (r := bI (onB (v j) now)) (As := [.int (nI j)]) (rest := []) ⟨hx, hb, hml, hown, hts⟩ (e_X1_isOn l D cI cZ cL cJ ad n now told v ⟨hn8, hnow, hwl⟩ j (by omega)) (cwV 1 hts gX2_isSame_X1_isOn rfl rfl rfl (by decide +kernel) ⟨(Nat.le_of_ble_eq_true rfl), (Nat.le_of_ble_eq_true rfl)⟩) hK hE1 hPX (RC_of (q := (RX1, TX1, 5)) (ci := 1) hK rfl (vpa hPX.1 0 rfl)) rfl hl.1 rfl (Nat.le_of_ble_eq_true rfl) dX2_isSame_103 ⟨(by show j + 1 ≤ 8; omega), (by show j * (now + 1) + (now + 1) ≤ 8 * (now + 1); exact h_mul)⟩ ?_
              refine lv_iload hx hb dX2_isSame_106 (lv_at hl 2 rfl) ?_
              refine lv_icmp_ne (tgt := 178) hx hb dX2_isSame_108 (by decide) (fun c_108 => ?_) (fun c_108 => ?_)
              · exact absurd rfl c_108
              · refine lv_aload_n hx hb dX2_isSame_111 rfl (lv_at hl 4 rfl) ?_
                refine lv_iload hx hb dX2_isSame_112 (lv_at hl 3 rfl) ?_
                refine rV (r := bI (litB (v j) now)) (As := [.int (nI j)]) (rest := []) ⟨hx, hb, hml, hown, hts⟩ (e_X1_isLit l D cI cZ cL cJ ad n now told v ⟨hn8, hnow, hwl⟩ j (by omega)) (cwV 1 hts gX2_isSame_X1_isLit rfl rfl rfl (by decide +kernel) ⟨(Nat.le_of_ble_eq_true rfl), (Nat.le_of_ble_eq_true rfl)⟩) hK hE1 hPX (RC_of (q := (RX1, TX1, 5)) (ci := 1) hK rfl (vpa hPX.1 0 rfl)) rfl hl.1 rfl (Nat.le_of_ble_eq_true rfl) dX2_isSame_114 ⟨(by show j + 1 ≤ 8; omega), (by show j * (now + 1) + (now + 1) ≤ 8 * (now + 1); exact h_mul)⟩ ?_
                have join_137 : ∀ (ls : Array Slot), lv_has ls 7 [(5, .int (bI (onB (v j) now))), (4, .int (nI j)), (3, .int (nI (btsN v (j + 1)))), (2, .int (nI (litN v (j + 1) now))), (1, .ref (ad 0)), (0, .ref (as 0))] → W p l e (headSpec wsX2_isSame ({ frames := 5, cells := 8, slots := 8 * (now + 1), locals := 109 } : Room)).room s m [.ref (as 0), .ref (ad 0)].toArray below meth c H1 locs (j + 1) (j * (now + 1) + (now + 1)) (MQ below (va_Qi (fun r (_ : Unit) => r = 1) (fun _ _ => True) (fun q => s.heap.size ≤ q)) [.ref (as 0), .ref (ad 0)].toArray s 8 (8 * (now + 1)) (fun _ => False)) (F0 m 137 ls [.int (bI (litB (v j) now)), .int (bI (litB (v j) now))]) := by
                  intro   ls hl
                  refine lv_icmp_ne (tgt := 178) hx hb dX2_isSame_137 (by decide) (fun c_137 => ?_) (fun c_137 => ?_)
                  · exact absurd rfl c_137
                  · refine lv_aload_n hx hb dX2_isSame_140 rfl (lv_at hl 4 rfl) ?_
                    refine lv_iload hx hb dX2_isSame_141 (lv_at hl 1 rfl) ?_
                    refine lv_aload_n hx hb dX2_isSame_143 rfl (lv_at hl 5 rfl) ?_
                    refine va_get (D := D) (ci := 2) (v := .int (nI now)) (C := RX2) (T := TX2) (N := 6) hx hb hts hin2 hown hK hSP.1 0 rfl rfl 0 (by decide) (hts (.fieldLink RX2 35 "LanternPrimesLaw$Sim" "now" "I") (List.mem_of_getElem? (i := 2) rfl)) (fun _ h9 => h9) rfl dX2_isSame_144 ?_
                    refine rV (r := bI (onB (v j) now)) (As := [.int (nI j), .int (nI now)]) (rest := []) ⟨hx, hb, hml, hown, hts⟩ (e_X1_isOnAt l D cI cZ cL cJ ad n now told v ⟨hn8, hnow, hwl⟩ j (by omega) now hn6) (cwV 2 hts gX2_isSame_X1_isOnAt rfl rfl rfl (by decide +kernel) ⟨(Nat.le_of_ble_eq_true rfl), (Nat.le_of_ble_eq_true rfl)⟩) hK hE1 hPX (RC_of (q := (RX1, TX1, 5)) (ci := 1) hK rfl (vpa hPX.1 0 rfl)) rfl hl.1 rfl (Nat.le_of_ble_eq_true rfl) dX2_isSame_147 ⟨(by show j + 1 ≤ 8; omega), (by show j * (now + 1) + (now + 1) ≤ 8 * (now + 1); exact h_mul)⟩ ?_
                    refine lv_iload hx hb dX2_isSame_150 (lv_at hl 0 rfl) ?_
                    refine lv_icmp_ne (tgt := 178) hx hb dX2_isSame_152 (by decide) (fun c_152 => ?_) (fun c_152 => ?_)
                    · exact absurd rfl c_152
                    · refine lv_aload_n hx hb dX2_isSame_155 rfl (lv_at hl 4 rfl) ?_
                      refine lv_iload hx hb dX2_isSame_156 (lv_at hl 1 rfl) ?_
                      refine lv_aload_n hx hb dX2_isSame_158 rfl (lv_at hl 5 rfl) ?_
                      refine va_get (D := D) (ci := 2) (v := .int (nI now)) (C := RX2) (T := TX2) (N := 6) hx hb hts hin2 hown hK hSP.1 0 rfl rfl 0 (by decide) (hts (.fieldLink RX2 35 "LanternPrimesLaw$Sim" "now" "I") (List.mem_of_getElem? (i := 2) rfl)) (fun _ h9 => h9) rfl dX2_isSame_159 ?_
                      refine rV (r := nI (strk (v j) now (lbc (v j)))) (As := [.int (nI j), .int (nI now)]) (rest := []) ⟨hx, hb, hml, hown, hts⟩ (e_X1_strikesAt l D cI cZ cL cJ ad n now told v ⟨hn8, hnow, hwl⟩ j (by omega) now hn6) (cwV 2 hts gX2_isSame_X1_strikesAt rfl rfl rfl (by decide +kernel) ⟨(Nat.le_of_ble_eq_true rfl), (Nat.le_of_ble_eq_true rfl)⟩) hK hE1 hPX (RC_of (q := (RX1, TX1, 5)) (ci := 1) hK rfl (vpa hPX.1 0 rfl)) rfl hl.1 rfl (Nat.le_of_ble_eq_true rfl) dX2_isSame_162 ⟨(by show j + 1 ≤ 8; omega), (by show j * (now + 1) + (now + 1) ≤ 8 * (now + 1); exact h_mul)⟩ ?_
                      refine lv_aload_n hx hb dX2_isSame_165 rfl (lv_at hl 5 rfl) ?_
                      refine lv_iload hx hb dX2_isSame_166 (lv_at hl 1 rfl) ?_
                      refine lv_aload_n hx hb dX2_isSame_168 rfl (lv_at hl 5 rfl) ?_
                      refine va_get (D := D) (ci := 2) (v := .int (nI now)) (C := RX2) (T := TX2) (N := 6) hx hb hts hin2 hown hK hSP.1 0 rfl rfl 0 (by decide) (hts (.fieldLink RX2 35 "LanternPrimesLaw$Sim" "now" "I") (List.mem_of_getElem? (i := 2) rfl)) (fun _ h9 => h9) rfl dX2_isSame_169 ?_
                      refine rVs (r := nI (strk (v j) now (lbc (v j)))) (As := [.int (nI j), .int (nI now)]) (rest := [.int (nI (strk (v j) now (lbc (v j))))]) ⟨hx, hb, hml, hown, hts⟩ (c_X2_strikes l D cI cZ cL cJ cB as n now told v ⟨hn8, hnow, hwl⟩ j (by omega) now (by omega)) (cwV 2 hts gX2_isSame_X2_strikes rfl rfl rfl (by decide +kernel) ⟨(Nat.le_of_ble_eq_true rfl), (Nat.le_of_ble_eq_true rfl)⟩) hK hEA hE1 hSP (RC_of (q := (RX2, TX2, 6)) (ci := 2) hK rfl (vpa hSP.1 0 rfl)) rfl hl.1 rfl (Nat.le_of_ble_eq_true rfl) dX2_isSame_172 ⟨(by show j + 1 ≤ 8; omega), (by show j * (now + 1) + (now + 1) ≤ 8 * (now + 1); exact h_mul)⟩ ?_
                      refine n_icmp_eq (a := strk (v j) now (lbc (v j))) (b := strk (v j) now (lbc (v j))) (tgt := 180) hx hb (by omega) (by omega) dX2_isSame_175 (by decide) (fun c_175 => ?_) (fun c_175 => ?_)
                      · refine lv_iconst (v := nI 0) hx hb dX2_isSame_180 (by decide) ?_
                        refine lv_istore (lv' := [(6, .int (nI 0)), (5, .int (bI (onB (v j) now))), (4, .int (nI j)), (3, .int (nI (btsN v (j + 1)))), (2, .int (nI (litN v (j + 1) now))), (1, .ref (ad 0)), (0, .ref (as 0))]) hx hb dX2_isSame_181 hl (by decide) rfl (fun ls hl => ?_)
                        have loop_183 : ∀ (fu : Nat) (i : Nat), lbc (v j) + 1 - i ≤ fu → i ≤ lbc (v j) → ∀ (ls : Array Slot), lv_has ls 7 [(6, .int (nI i)), (5, .int (bI (onB (v j) now))), (4, .int (nI j)), (3, .int (nI (btsN v (j + 1)))), (2, .int (nI (litN v (j + 1) now))), (1, .ref (ad 0)), (0, .ref (as 0))] → W p l e (headSpec wsX2_isSame ({ frames := 5, cells := 8, slots := 8 * (now + 1), locals := 109 } : Room)).room s m [.ref (as 0), .ref (ad 0)].toArray below meth c H1 locs (j + 1) (j * (now + 1) + (now + 1)) (MQ below (va_Qi (fun r (_ : Unit) => r = 1) (fun _ _ => True) (fun q => s.heap.size ≤ q)) [.ref (as 0), .ref (ad 0)].toArray s 8 (8 * (now + 1)) (fun _ => False)) (F0 m 183 ls []) := by
                          intro fu
                          induction fu with
                          | zero => intro i hn_183 hi; exact absurd hn_183 (by omega)
                          | succ fu ih_183 =>
                            intro i hn_183 hi ls hl
                            refine lv_iload hx hb dX2_isSame_183 (lv_at hl 0 rfl) ?_
                            refine lv_aload_n hx hb dX2_isSame_185 rfl (lv_at hl 6 rfl) ?_
                            refine va_get (D := D) (ci := 2) (v := .ref (as 3)) (C := RX2) (T := TX2) (N := 6) hx hb hts hin2 hown hK hSP.1 0 rfl rfl 5 (by decide) (hts (.fieldLink RX2 18 "LanternPrimesLaw$Sim" "beats" "[[[I") (List.mem_of_getElem? (i := 4) rfl)) (fun _ h9 => h9) rfl dX2_isSame_186 ?_
                            refine lv_iload hx hb dX2_isSame_189 (lv_at hl 2 rfl) ?_
                            refine n_aaldA (v := as (4 + 5 * j)) (j := j) hx hb hKB hSP.1 3 0 rfl rfl (by omega) (by decide) rfl dX2_isSame_191 ?_
                            refine va_alen (v := nI (lbc (v j))) hx hb hK (vp1 (hSP.2 j (by omega)).1) 0 3 rfl rfl rfl dX2_isSame_192 ?_
                            refine n_icmp_ge (a := i) (b := lbc (v j)) (tgt := 250) hx hb (by omega) (by omega) dX2_isSame_193 (by decide) (fun c_193 => ?_) (fun c_193 => ?_)
                            · refine W.widen (k := j + 1) (n := (j + 1) * (now + 1)) (Nat.le_refl _) (by rw [Nat.succ_mul]; exact Nat.le_refl _) ?_
                              refine lv_iinc (v := nI (j + 1)) (lv' := [(4, .int (nI (j + 1))), (6, .int (nI i)), (5, .int (bI (onB (v j) now))), (3, .int (nI (btsN v (j + 1)))), (2, .int (nI (litN v (j + 1) now))), (1, .ref (ad 0)), (0, .ref (as 0))]) hx hb dX2_isSame_250 hl (k := 2) rfl (nI_inc _) (by decide) rfl (fun ls hl => ?_)
                              refine lv_goto (tgt := 7) hx hb dX2_isSame_253 (by decide) ?_
                              exact ih_7 (j + 1) (by omega) (by omega) H1 locs hS ls (lv_sub hl [0, 3, 4, 5, 6] rfl)
                            · refine lv_aload_n hx hb dX2_isSame_196 rfl (lv_at hl 5 rfl) ?_
                              refine lv_iload hx hb dX2_isSame_197 (lv_at hl 2 rfl) ?_
                              refine lv_iload hx hb dX2_isSame_199 (lv_at hl 0 rfl) ?_
                              refine rV (r := nI (lnu (v j) i)) (As := [.int (nI j), .int (nI i)]) (rest := []) ⟨hx, hb, hml, hown, hts⟩ (e_X1_numberOf l D cI cZ cL cJ ad n now told v ⟨hn8, hnow, hwl⟩ j (by omega) i (by omega)) (cwV 2 hts gX2_isSame_X1_numberOf rfl rfl rfl (by decide +kernel) ⟨(Nat.le_of_ble_eq_true rfl), (Nat.le_of_ble_eq_true rfl)⟩) hK hE1 hPX (RC_of (q := (RX1, TX1, 5)) (ci := 1) hK rfl (vpa hPX.1 0 rfl)) rfl hl.1 rfl (Nat.le_of_ble_eq_true rfl) dX2_isSame_201 ⟨(by show j + 1 ≤ 8; omega), (by show j * (now + 1) + (now + 1) ≤ 8 * (now + 1); exact h_mul)⟩ ?_
                              refine lv_aload_n hx hb dX2_isSame_204 rfl (lv_at hl 6 rfl) ?_
                              refine va_get (D := D) (ci := 2) (v := .ref (as 3)) (C := RX2) (T := TX2) (N := 6) hx hb hts hin2 hown hK hSP.1 0 rfl rfl 5 (by decide) (hts (.fieldLink RX2 18 "LanternPrimesLaw$Sim" "beats" "[[[I") (List.mem_of_getElem? (i := 4) rfl)) (fun _ h9 => h9) rfl dX2_isSame_205 ?_
                              refine lv_iload hx hb dX2_isSame_208 (lv_at hl 2 rfl) ?_
                              refine n_aaldA (v := as (4 + 5 * j)) (j := j) hx hb hKB hSP.1 3 0 rfl rfl (by omega) (by decide) rfl dX2_isSame_210 ?_
                              refine lv_iload hx hb dX2_isSame_211 (lv_at hl 0 rfl) ?_
                              refine n_aaldA (v := as (5 + 5 * j + i)) (j := i) hx hb hK (vp1 (hSP.2 j (by omega)).1) 0 3 rfl rfl (by omega) (by omega) rfl dX2_isSame_213 ?_
                              refine lv_iconst (v := nI 0) hx hb dX2_isSame_214 (by decide) ?_
                              refine n_iald (v := nI (lnu (v j) i)) (j := 0) hx hb hK (vp1 ((hSP.2 j (by omega)).2 i (by omega))) 0 0 rfl rfl (by decide) (by decide) rfl dX2_isSame_215 ?_
                              refine lv_icmp_ne (tgt := 242) hx hb dX2_isSame_216 (by decide) (fun c_216 => ?_) (fun c_216 => ?_)
                              · exact absurd rfl c_216
                              · refine lv_aload_n hx hb dX2_isSame_219 rfl (lv_at hl 5 rfl) ?_
                                refine lv_iload hx hb dX2_isSame_220 (lv_at hl 2 rfl) ?_
                                refine lv_iload hx hb dX2_isSame_222 (lv_at hl 0 rfl) ?_
                                refine rV (r := nI (lof (v j) i)) (As := [.int (nI j), .int (nI i)]) (rest := []) ⟨hx, hb, hml, hown, hts⟩ (e_X1_offsetOf l D cI cZ cL cJ ad n now told v ⟨hn8, hnow, hwl⟩ j (by omega) i (by omega)) (cwV 2 hts gX2_isSame_X1_offsetOf rfl rfl rfl (by decide +kernel) ⟨(Nat.le_of_ble_eq_true rfl), (Nat.le_of_ble_eq_true rfl)⟩) hK hE1 hPX (RC_of (q := (RX1, TX1, 5)) (ci := 1) hK rfl (vpa hPX.1 0 rfl)) rfl hl.1 rfl (Nat.le_of_ble_eq_true rfl) dX2_isSame_224 ⟨(by show j + 1 ≤ 8; omega), (by show j * (now + 1) + (now + 1) ≤ 8 * (now + 1); exact h_mul)⟩ ?_
                                refine lv_aload_n hx hb dX2_isSame_227 rfl (lv_at hl 6 rfl) ?_
                                refine va_get (D := D) (ci := 2) (v := .ref (as 3)) (C := RX2) (T := TX2) (N := 6) hx hb hts hin2 hown hK hSP.1 0 rfl rfl 5 (by decide) (hts (.fieldLink RX2 18 "LanternPrimesLaw$Sim" "beats" "[[[I") (List.mem_of_getElem? (i := 4) rfl)) (fun _ h9 => h9) rfl dX2_isSame_228 ?_
                                refine lv_iload hx hb dX2_isSame_231 (lv_at hl 2 rfl) ?_
                                refine n_aaldA (v := as (4 + 5 * j)) (j := j) hx hb hKB hSP.1 3 0 rfl rfl (by omega) (by decide) rfl dX2_isSame_233 ?_
                                refine lv_iload hx hb dX2_isSame_234 (lv_at hl 0 rfl) ?_
                                refine n_aaldA (v := as (5 + 5 * j + i)) (j := i) hx hb hK (vp1 (hSP.2 j (by omega)).1) 0 3 rfl rfl (by omega) (by omega) rfl dX2_isSame_236 ?_
                                refine lv_iconst (v := nI 1) hx hb dX2_isSame_237 (by decide) ?_
                                refine n_iald (v := nI (lof (v j) i)) (j := 1) hx hb hK (vp1 ((hSP.2 j (by omega)).2 i (by omega))) 0 0 rfl rfl (by decide) (by decide) rfl dX2_isSame_238 ?_
                                refine lv_icmp_eq (tgt := 244) hx hb dX2_isSame_239 (by decide) (fun c_239 => ?_) (fun c_239 => ?_)
                                · refine lv_iinc (v := nI (i + 1)) (lv' := [(6, .int (nI (i + 1))), (5, .int (bI (onB (v j) now))), (4, .int (nI j)), (3, .int (nI (btsN v (j + 1)))), (2, .int (nI (litN v (j + 1) now))), (1, .ref (ad 0)), (0, .ref (as 0))]) hx hb dX2_isSame_244 hl (k := 0) rfl (nI_inc _) (by decide) rfl (fun ls hl => ?_)
                                  refine lv_goto (tgt := 183) hx hb dX2_isSame_247 (by decide) ?_
                                  exact ih_183 (i + 1) (by omega) (by omega) ls (lv_sub hl [0, 1, 2, 3, 4, 5, 6] rfl)
                                · exact absurd rfl c_239
                        exact loop_183 (lbc (v j) + 1) 0 (by omega) (Nat.zero_le _) ls (lv_sub hl [0, 1, 2, 3, 4, 5, 6] rfl)
                      · exact absurd rfl c_175
                refine lv_iload hx hb dX2_isSame_117 (lv_at hl 2 rfl) ?_
                refine b_if_eq (b := onB (v j) now) (tgt := 136) hx hb dX2_isSame_119 (by decide) (fun c_119 => ?_) (fun c_119 => ?_)
                · refine lv_iconst (v := nI 0) hx hb dX2_isSame_136 (by decide) ?_
                  refine n_ti (y := bI (litB (v j) now)) (by unfold litB; rw [c_119, Bool.and_false]; rfl) ?_
                  exact join_137 ls (lv_sub hl [2, 3, 0, 1, 4, 5] rfl)
                · refine lv_aload_n hx hb dX2_isSame_122 rfl (lv_at hl 5 rfl) ?_
                  refine va_get (D := D) (ci := 2) (v := .ref (as 2)) (C := RX2) (T := TX2) (N := 6) hx hb hts hin2 hown hK hSP.1 0 rfl rfl 4 (by decide) (hts (.fieldLink RX2 13 "LanternPrimesLaw$Sim" "covered" "[Z") (List.mem_of_getElem? (i := 3) rfl)) (fun _ h9 => h9) rfl dX2_isSame_123 ?_
                  refine lv_iload hx hb dX2_isSame_126 (lv_at hl 3 rfl) ?_
                  refine n_zald (v := bI (lcv (v j))) (j := j) hx hb hK hSP.1 2 1 rfl rfl (by omega) (by decide) rfl dX2_isSame_128 ?_
                  refine b_if_ne (b := lcv (v j)) (tgt := 136) hx hb dX2_isSame_129 (by decide) (fun c_129 => ?_) (fun c_129 => ?_)
                  · refine lv_iconst (v := nI 0) hx hb dX2_isSame_136 (by decide) ?_
                    refine n_ti (y := bI (litB (v j) now)) (by unfold litB; rw [c_129]; rfl) ?_
                    exact join_137 ls (lv_sub hl [2, 3, 0, 1, 4, 5] rfl)
                  · refine lv_iconst (v := nI 1) hx hb dX2_isSame_132 (by decide) ?_
                    refine lv_goto (tgt := 137) hx hb dX2_isSame_133 (by decide) ?_
                    refine n_ti (y := bI (litB (v j) now)) (by unfold litB; rw [c_119, c_129]; rfl) ?_
                    exact join_137 ls (lv_sub hl [2, 3, 0, 1, 4, 5] rfl)
        refine lv_iload_n hx hb dX2_isSame_33 rfl (lv_at hl 3 rfl) ?_
        refine lv_iload hx hb dX2_isSame_34 (lv_at hl 0 rfl) ?_
        refine b_if_eq (b := onB (v j) now) (tgt := 53) hx hb dX2_isSame_36 (by decide) (fun c_36 => ?_) (fun c_36 => ?_)
        · refine lv_iconst (v := nI 0) hx hb dX2_isSame_53 (by decide) ?_
          refine n_ti (y := nI (if litB (v j) now = true then 1 else 0)) (by unfold litB; rw [c_36, Bool.and_false]; rfl) ?_
          exact join_54 ls (lv_sub hl [0, 1, 2, 3, 4, 5] rfl)
        · refine lv_aload_n hx hb dX2_isSame_39 rfl (lv_at hl 5 rfl) ?_
          refine va_get (D := D) (ci := 2) (v := .ref (as 2)) (C := RX2) (T := TX2) (N := 6) hx hb hts hin2 hown hK hSP.1 0 rfl rfl 4 (by decide) (hts (.fieldLink RX2 13 "LanternPrimesLaw$Sim" "covered" "[Z") (List.mem_of_getElem? (i := 3) rfl)) (fun _ h9 => h9) rfl dX2_isSame_40 ?_
          refine lv_iload hx hb dX2_isSame_43 (lv_at hl 1 rfl) ?_
          refine n_zald (v := bI (lcv (v j))) (j := j) hx hb hK hSP.1 2 1 rfl rfl (by omega) (by decide) rfl dX2_isSame_45 ?_
          refine b_if_ne (b := lcv (v j)) (tgt := 53) hx hb dX2_isSame_46 (by decide) (fun c_46 => ?_) (fun c_46 => ?_)
          · refine lv_iconst (v := nI 0) hx hb dX2_isSame_53 (by decide) ?_
            refine n_ti (y := nI (if litB (v j) now = true then 1 else 0)) (by unfold litB; rw [c_46]; rfl) ?_
            exact join_54 ls (lv_sub hl [0, 1, 2, 3, 4, 5] rfl)
          · refine lv_iconst (v := nI 1) hx hb dX2_isSame_49 (by decide) ?_
            refine lv_goto (tgt := 54) hx hb dX2_isSame_50 (by decide) ?_
            refine n_ti (y := nI (if litB (v j) now = true then 1 else 0)) (by unfold litB; rw [c_36, c_46]; rfl) ?_
            exact join_54 ls (lv_sub hl [0, 1, 2, 3, 4, 5] rfl)
  exact loop_7 (n + 1) 0 (by omega) (Nat.zero_le _) s.heap [] va_S.rf ls (lv_sub hl [0, 1, 2, 4, 3] rfl)
