theorem updv_same {v : Nat → LV} {j : Nat} {L' : LV} (h : lbc L' = lbc (v j) ∧ lnu L' = lnu (v j) ∧ lof L' = lof (v j)) (i : Nat) : lbc (updv v j L' i) = lbc (v i) ∧ lnu (updv v j L' i) = lnu (v i) ∧ lof (updv v j L' i) = lof (v i) := by
  by_cases e : i = j
  · rw [show updv v j L' i = L' from if_pos e, e]; exact h
  · rw [show updv v j L' i = v i from if_neg e]; exact ⟨rfl, rfl, rfl⟩
theorem rgOk_of {a n : Nat} (ha : a < 2 ^ 31) (hn : n < 2 ^ 31) (h : a < n) : rgOk (nI a) (nI n) = true := by
  unfold rgOk
  rw [decide_eq_false (nn ha), decide_eq_true ((nI_ltI ha hn).mpr h)]
  rfl
set_option maxHeartbeats 16000000 in
set_option maxRecDepth 100000 in
/-- the law: act -/
theorem c_L_act (l : Launch) (D : va_G) (cI cZ cL cJ : ClassId) (cB : ClassId) (hst : l.stackTraces = false) (lo : Nat) (ad as : Nat → Nat) (n now : Nat) (told : Int32) (v : Nat → LV) (hwf : WFX n now v) (hG : GW lo ad as v) (hn1 : 1 ≤ n) (hnow9 : now + 500 ≤ 60000) (x : Int32) : Met l yL_act wsL_act ({ frames := 8, cells := 6, slots := 31, locals := 130 } : Room) (PCL D cB (TY cI cZ cL cJ) (fun q => lo ≤ q) [.ref (ad 0), .ref (as 0), .int x] (fun H => PX D cI cL ad n now told v H ∧ SP D cI cZ cJ cB as n now told v H)) (va_Qi (fun r (u : Nat × Nat × Int32 × (Nat → LV) × (Nat → Nat)) => r = 1 ∧ GW lo ad u.2.2.2.2 u.2.2.2.1 ∧ WFX u.1 u.2.1 u.2.2.2.1 ∧ 1 ≤ u.1 ∧ now ≤ u.2.1 ∧ u.2.1 ≤ now + 500 ∧ u.2.2.2.2 0 = as 0) (fun u t => PX D cI cL ad u.1 u.2.1 u.2.2.1 u.2.2.2.1 t.heap ∧ SP D cI cZ cJ cB u.2.2.2.2 u.1 u.2.1 u.2.2.1 u.2.2.2.1 t.heap) (fun q => lo ≤ q)) 6 31 (fun q => lo ≤ q) := by
  refine MetWH (cc := cL_act) (maxL := 9) (ret := (some .boolean)) (hh := [(201, 225, 226, 46)]) (by decide) rfl ?_
  intro p e s m args below meth c s₁ B hml htab hv
  obtain ⟨⟨⟨rfl, hK, hE, hP0, hS0⟩, hEA⟩, hEL⟩ := hv
  have hn8 := hwf.1
  have hwl := hwf.2.2
  have hw4 : ∀ i, i < 8 → lbc (v i) ≤ 4 := fun i hi => (hwl i hi).1
  have hKB := hEA.2
  have hx := B.exec
  have hb := B.bytes
  have hr := B.returns
  have hts := atoms_spec (ws := wsL_act) B.pre
  have hown : s.vm.findClass RL = some m.cls := findClass_of_methodNamed B.named
  have hlocks := B.notSynchronized
  have hin2 : ∀ w ∈ wsX20, w ∈ wsL_act := by decide +kernel
  have hE0 : EN noA s s.heap := hE.narrow (fun _ h => h.elim)
  have hS : va_S (fun q => lo ≤ q) s.heap s.heap [] := va_S.rf
  have hPX := hP0
  have hSP := hS0
  have hal := PX_lt hP0
  have hsl := SP_lt hS0
  have hlo : lo ≤ s.heap.size := Nat.le_trans (hG.2.1.1 0 (by decide)) (Nat.le_of_lt (hal 0 (by decide)))
  have hl := lv_entry ([.ref (ad 0), .ref (as 0), .int x]) (n := 9) (Nat.le_of_ble_eq_true rfl)
  rw [lg_entry_eq]
  generalize (lg_sl ([.ref (ad 0), .ref (as 0), .int x]) ++ List.replicate (9 - (lg_sl ([.ref (ad 0), .ref (as 0), .int x])).length) Slot.unset).toArray = ls at hl ⊢
  have hl : lv_has ls 9 [(0, .ref (ad 0)), (1, .ref (as 0)), (2, .int x)] := hl
  refine lv_aload_n hx hb dL_act_0 rfl (lv_at hl 1 rfl) ?_
  refine va_get (D := D) (ci := 2) (v := .int (nI n)) (C := RX2) (T := TX2) (N := 6) hx hb hts hin2 hown hK hSP.1 0 rfl rfl 2 (by decide) (hts (.fieldLink RL 9 "LanternPrimesLaw$Sim" "lamps" "I") (List.mem_of_getElem? (i := 2) rfl)) (fun _ h9 => h9) rfl dL_act_1 ?_
  refine n_if_eq (a := n) (tgt := 25) hx hb (by omega) dL_act_4 (by decide) (fun c_4 => ?_) (fun c_4 => ?_)
  · exact absurd c_4 (by omega)
  · have join_81 : ∀ (ls : Array Slot), lv_has ls 9 [(0, .ref (ad 0)), (1, .ref (as 0)), (2, .int x)] → W p l e (headSpec wsL_act ({ frames := 8, cells := 6, slots := 31, locals := 130 } : Room)).room s m [.ref (ad 0), .ref (as 0), .int x].toArray below meth c s.heap [] 0 0 (MQ below (va_Qi (fun r (u : Nat × Nat × Int32 × (Nat → LV) × (Nat → Nat)) => r = 1 ∧ GW lo ad u.2.2.2.2 u.2.2.2.1 ∧ WFX u.1 u.2.1 u.2.2.2.1 ∧ 1 ≤ u.1 ∧ now ≤ u.2.1 ∧ u.2.1 ≤ now + 500 ∧ u.2.2.2.2 0 = as 0) (fun u t => PX D cI cL ad u.1 u.2.1 u.2.2.1 u.2.2.2.1 t.heap ∧ SP D cI cZ cJ cB u.2.2.2.2 u.1 u.2.1 u.2.2.1 u.2.2.2.1 t.heap) (fun q => lo ≤ q)) [.ref (ad 0), .ref (as 0), .int x].toArray s 6 31 (fun q => lo ≤ q)) (F0 m 81 ls []) := by
      intro   ls hl
      refine lv_iload_n hx hb dL_act_81 rfl (lv_at hl 2 rfl) ?_
      refine lv_iconst (v := nI 4) hx hb dL_act_82 (by decide) ?_
      refine lv_ishr hx hb dL_act_83 ?_
      obtain ⟨x4, hx4⟩ : ∃ y, x >>> (nI 4 &&& 31) = y := ⟨_, rfl⟩
      refine n_ti hx4 ?_
      refine lv_aload_n hx hb dL_act_84 rfl (lv_at hl 1 rfl) ?_
      refine va_get (D := D) (ci := 2) (v := .int (nI n)) (C := RX2) (T := TX2) (N := 6) hx hb hts hin2 hown hK hSP.1 0 rfl rfl 2 (by decide) (hts (.fieldLink RL 9 "LanternPrimesLaw$Sim" "lamps" "I") (List.mem_of_getElem? (i := 2) rfl)) (fun _ h9 => h9) rfl dL_act_85 ?_
      refine rS (r := nI (blw x4 n)) (As := [.int x4, .int (nI n)]) (rest := []) ⟨hx, hb, hml, hown, hts⟩ (c_L_below l D cI cZ cL cJ x4 n hn1 (by omega)) (va_cwS 2 hts gL_act_L_below rfl rfl rfl (by decide +kernel) ⟨(Nat.le_of_ble_eq_true rfl), (Nat.le_of_ble_eq_true rfl)⟩) hK hE0 trivial rfl hl.1 rfl (Nat.le_of_ble_eq_true rfl) dL_act_88 ⟨(Nat.le_of_ble_eq_true rfl), (Nat.le_of_ble_eq_true rfl)⟩ ?_
      obtain ⟨j, hj, e_j⟩ : ∃ y, y < n ∧ blw x4 n = y := ⟨_, blw_lt _ hn1, rfl⟩
      rw [e_j]
      refine lv_istore_n (lv' := [(3, .int (nI j)), (0, .ref (ad 0)), (1, .ref (as 0)), (2, .int x)]) hx hb dL_act_91 rfl hl (by decide) rfl (fun ls hl => ?_)
      refine lv_aload_n hx hb dL_act_92 rfl (lv_at hl 2 rfl) ?_
      refine va_get (D := D) (ci := 2) (v := .ref (as 3)) (C := RX2) (T := TX2) (N := 6) hx hb hts hin2 hown hK hSP.1 0 rfl rfl 5 (by decide) (hts (.fieldLink RL 31 "LanternPrimesLaw$Sim" "beats" "[[[I") (List.mem_of_getElem? (i := 4) rfl)) (fun _ h9 => h9) rfl dL_act_93 ?_
      refine lv_iload_n hx hb dL_act_96 rfl (lv_at hl 0 rfl) ?_
      refine n_aaldA (v := as (4 + 5 * j)) (j := j) hx hb hKB hSP.1 3 0 rfl rfl (by omega) (by decide) rfl dL_act_97 ?_
      refine va_alen (v := nI (lbc (v j))) hx hb hK (vp1 (hSP.2 j (by omega)).1) 0 3 rfl rfl rfl dL_act_98 ?_
      have join_148 : ∀ (ls : Array Slot), lv_has ls 9 [(4, .int (nI (lbc (v j)))), (3, .int (nI j)), (0, .ref (ad 0)), (1, .ref (as 0)), (2, .int x)] → W p l e (headSpec wsL_act ({ frames := 8, cells := 6, slots := 31, locals := 130 } : Room)).room s m [.ref (ad 0), .ref (as 0), .int x].toArray below meth c s.heap [] 0 0 (MQ below (va_Qi (fun r (u : Nat × Nat × Int32 × (Nat → LV) × (Nat → Nat)) => r = 1 ∧ GW lo ad u.2.2.2.2 u.2.2.2.1 ∧ WFX u.1 u.2.1 u.2.2.2.1 ∧ 1 ≤ u.1 ∧ now ≤ u.2.1 ∧ u.2.1 ≤ now + 500 ∧ u.2.2.2.2 0 = as 0) (fun u t => PX D cI cL ad u.1 u.2.1 u.2.2.1 u.2.2.2.1 t.heap ∧ SP D cI cZ cJ cB u.2.2.2.2 u.1 u.2.1 u.2.2.1 u.2.2.2.1 t.heap) (fun q => lo ≤ q)) [.ref (ad 0), .ref (as 0), .int x].toArray s 6 31 (fun q => lo ≤ q)) (F0 m 148 ls []) := by
        intro   ls hl
        have hjn4 := hw4 j (by omega)
        obtain ⟨ns, hZ, hT⟩ := hEL
        refine va_gets (v := .ref ns) hx hb hZ hS hown (hts (.fieldLink RL 35 "LanternPrimesLaw$Sim" "NUMBERS" "[I") (List.mem_of_getElem? (i := 5) rfl)) (fun _ h9 => h9) dL_act_148 ?_
        refine lv_iload_n hx hb dL_act_151 rfl (lv_at hl 4 rfl) ?_
        refine lv_bipush (v := nI 6) hx hb dL_act_152 (by decide) ?_
        refine lv_ishr hx hb dL_act_154 ?_
        obtain ⟨x6, hx6⟩ : ∃ y, x >>> (nI 6 &&& 31) = y := ⟨_, rfl⟩
        refine n_ti hx6 ?_
        refine lv_bipush (v := nI 6) hx hb dL_act_155 (by decide) ?_
        refine rS (r := nI (blw x6 6)) (As := [.int x6, .int (nI 6)]) (rest := [.ref ns]) ⟨hx, hb, hml, hown, hts⟩ (c_L_below l D cI cZ cL cJ x6 6 (by decide) (by omega)) (va_cwS 2 hts gL_act_L_below rfl rfl rfl (by decide +kernel) ⟨(Nat.le_of_ble_eq_true rfl), (Nat.le_of_ble_eq_true rfl)⟩) hK hE0 trivial rfl hl.1 rfl (Nat.le_of_ble_eq_true rfl) dL_act_157 ⟨(Nat.le_of_ble_eq_true rfl), (Nat.le_of_ble_eq_true rfl)⟩ ?_
        obtain ⟨z6, hz6, e_z6⟩ : ∃ y, y < 6 ∧ blw x6 6 = y := ⟨_, blw_lt _ (by decide), rfl⟩
        rw [e_z6]
        refine n_ti6 (j := z6) hx hb hT va_S.rf hz6 dL_act_160 ?_
        have hz13 := isP_le (NUMf_P hz6)
        refine lv_istore (lv' := [(5, .int (nI (NUMf z6))), (4, .int (nI (lbc (v j)))), (3, .int (nI j)), (0, .ref (ad 0)), (1, .ref (as 0)), (2, .int x)]) hx hb dL_act_161 hl (by decide) rfl (fun ls hl => ?_)
        refine lv_iload_n hx hb dL_act_163 rfl (lv_at hl 5 rfl) ?_
        refine lv_bipush (v := nI 8) hx hb dL_act_164 (by decide) ?_
        refine lv_ishr hx hb dL_act_166 ?_
        obtain ⟨x8, hx8⟩ : ∃ y, x >>> (nI 8 &&& 31) = y := ⟨_, rfl⟩
        refine n_ti hx8 ?_
        refine lv_iload hx hb dL_act_167 (lv_at hl 0 rfl) ?_
        refine rS (r := nI (blw x8 (NUMf z6))) (As := [.int x8, .int (nI (NUMf z6))]) (rest := []) ⟨hx, hb, hml, hown, hts⟩ (c_L_below l D cI cZ cL cJ x8 (NUMf z6) (by omega) (by omega)) (va_cwS 2 hts gL_act_L_below rfl rfl rfl (by decide +kernel) ⟨(Nat.le_of_ble_eq_true rfl), (Nat.le_of_ble_eq_true rfl)⟩) hK hE0 trivial rfl hl.1 rfl (Nat.le_of_ble_eq_true rfl) dL_act_169 ⟨(Nat.le_of_ble_eq_true rfl), (Nat.le_of_ble_eq_true rfl)⟩ ?_
        obtain ⟨o, ho, e_o⟩ : ∃ y, y < NUMf z6 ∧ blw x8 (NUMf z6) = y := ⟨_, blw_lt _ (by omega), rfl⟩
        rw [e_o]
        refine lv_istore (lv' := [(6, .int (nI o)), (5, .int (nI (NUMf z6))), (4, .int (nI (lbc (v j)))), (3, .int (nI j)), (0, .ref (ad 0)), (1, .ref (as 0)), (2, .int x)]) hx hb dL_act_172 hl (by decide) rfl (fun ls hl => ?_)
        refine lv_iload hx hb dL_act_174 (lv_at hl 2 rfl) ?_
        refine lv_iconst (v := nI 4) hx hb dL_act_176 (by decide) ?_
        refine n_icmp_ge (a := lbc (v j)) (b := 4) (tgt := 184) hx hb (by omega) (by omega) dL_act_177 (by decide) (fun c_177 => ?_) (fun c_177 => ?_)
        · refine lv_iconst (v := nI 0) hx hb dL_act_184 (by decide) ?_
          refine lv_istore (lv' := [(7, .int (nI 0)), (6, .int (nI o)), (5, .int (nI (NUMf z6))), (4, .int (nI (lbc (v j)))), (3, .int (nI j)), (0, .ref (ad 0)), (1, .ref (as 0)), (2, .int x)]) hx hb dL_act_185 hl (by decide) rfl (fun ls hl => ?_)
          refine lv_iload hx hb dL_act_187 (lv_at hl 0 rfl) ?_
          refine n_if_eq (a := 0) (tgt := 201) hx hb (by decide) dL_act_189 (by decide) (fun c_189 => ?_) (fun c_189 => ?_)
          · refine lv_aload_n hx hb dL_act_201 rfl (lv_at hl 5 rfl) ?_
            refine lv_iload_n hx hb dL_act_202 rfl (lv_at hl 4 rfl) ?_
            refine lv_iload hx hb dL_act_203 (lv_at hl 2 rfl) ?_
            refine lv_iload hx hb dL_act_205 (lv_at hl 1 rfl) ?_
            have hcd3 : cd3 (lpOk n (nI j)) (prB (nI (NUMf z6)) && rgOk (nI o) (nI (NUMf z6))) (decide (lbc (v (ixx (nI j))) < 4)) = 3 := by
              have a1 : lpOk n (nI j) = true := rgOk_of (by omega) (by omega) hj
              have a2 : prB (nI (NUMf z6)) = true := prB_t.mpr ⟨z6, hz6, rfl⟩
              have a3 : rgOk (nI o) (nI (NUMf z6)) = true := rgOk_of (by omega) (by omega) ho
              rw [a1, a2, a3, ixx_nI (by omega), decide_eq_false (by omega)]
              rfl
            refine lxW (A0 := (fun q => lo ≤ q)) (As := [.int (nI j), .int (nI (NUMf z6)), .int (nI o)]) (rest := []) ⟨hx, hb, hml, hown, hts⟩ (c_X1_addBeat l D cI cZ cL cJ hst ad n now told v hwf hG.1.1 (nI j) (nI (NUMf z6)) (nI o)) (cwV 3 hts gL_act_X1_addBeat rfl rfl rfl (by decide +kernel) ⟨(Nat.le_of_ble_eq_true rfl), (Nat.le_of_ble_eq_true rfl)⟩) hK ((hE.kept hS.2.1).narrow (AX_lo hG)) hPX (RC_of (q := (RX1, TX1, 5)) (ci := 1) hK rfl (vpa hPX.1 0 rfl)) rfl hl.1 rfl (Nat.le_of_ble_eq_true rfl) dL_act_207 ⟨(Nat.le_of_ble_eq_true rfl), (Nat.le_of_ble_eq_true rfl)⟩ hS (AX_lo hG) (fun E ce q9 H locs hp hz1 hk1 hS hce hcv hcl => ?_) (fun H locs hok _ _ _ _ => absurd hok (by rw [hcd3]; decide))
            rw [hcd3] at hp
            rcases exC3 hp with ⟨h9, _⟩ | ⟨h9, _⟩ | ⟨_, rfl⟩
            · exact absurd h9 (by decide)
            · exact absurd h9 (by decide)
            refine vx_catch (name := "java/lang/IllegalStateException") hown [] ⟨201, 225, 226, 46⟩ [] (by rw [htab]; rfl) (fun y hy => by cases hy) rfl (by decide) (hts (.classLink RL 46 "java/lang/IllegalStateException") (List.mem_of_getElem? (i := 1) rfl)) (va_Nw.use rfl (hE.2.2.1.2.2 _ (by decide))) hce hcv hcl ?_
            show W _ _ _ _ _ _ _ _ _ _ _ _ _ _ _ (F0 m 226 ls [.ref q9])
            have hPX := PX_keep (A := fun _ => False) hPX (fun _ _ h => h) (fun q h _ => hk1 q h)
            have hSP := SP_keep (A := fun _ => False) hSP (fun _ _ h => h) (fun q h _ => hk1 q h)
            refine lv_astore (lv' := [(8, .ref q9), (7, .int (nI 0)), (6, .int (nI o)), (5, .int (nI (NUMf z6))), (4, .int (nI (lbc (v j)))), (3, .int (nI j)), (0, .ref (ad 0)), (1, .ref (as 0)), (2, .int x)]) hx hb dL_act_226 hl (by decide) rfl (fun ls hl => ?_)
            refine lv_iload hx hb dL_act_228 (lv_at hl 1 rfl) ?_
            refine n_if_ne (a := 0) (tgt := 237) hx hb (by decide) dL_act_230 (by decide) (fun c_230 => ?_) (fun c_230 => ?_)
            · exact absurd rfl c_230
            · refine lv_iconst (v := nI 1) hx hb dL_act_233 (by decide) ?_
              refine lv_goto (tgt := 238) hx hb dL_act_234 (by decide) ?_
              refine n_ti (y := bI true) rfl ?_
              refine W.widen (k := 6) (n := 31) (Nat.le_of_ble_eq_true rfl) (Nat.le_of_ble_eq_true rfl) ?_
              exact W.zret (v := bI true) hx hb hr (bI_narrow _) (fun t ht hW => ⟨⟨bI true, (n, now, told, v, as), rfl, ⟨rfl, hG, hwf, hn1, by show now ≤ now; omega, by show now ≤ now + 500; omega, rfl⟩, by show PX D cI cL ad n now told v t.heap ∧ SP D cI cZ cJ cB as n now told v t.heap; rw [ht]; exact ⟨hPX, hSP⟩⟩, hS.F ht⟩) (fun q hq => hS.2.2 q hq) dL_act_238
          · exact absurd rfl c_189
        · refine lv_iconst (v := nI 1) hx hb dL_act_180 (by decide) ?_
          refine lv_goto (tgt := 185) hx hb dL_act_181 (by decide) ?_
          refine lv_istore (lv' := [(7, .int (nI 1)), (6, .int (nI o)), (5, .int (nI (NUMf z6))), (4, .int (nI (lbc (v j)))), (3, .int (nI j)), (0, .ref (ad 0)), (1, .ref (as 0)), (2, .int x)]) hx hb dL_act_185 hl (by decide) rfl (fun ls hl => ?_)
          refine lv_iload hx hb dL_act_187 (lv_at hl 0 rfl) ?_
          refine n_if_eq (a := 1) (tgt := 201) hx hb (by decide) dL_act_189 (by decide) (fun c_189 => ?_) (fun c_189 => ?_)
          · exact absurd c_189 (by decide)
          · refine lv_aload_n hx hb dL_act_192 rfl (lv_at hl 6 rfl) ?_
            refine lv_iload_n hx hb dL_act_193 rfl (lv_at hl 4 rfl) ?_
            refine lv_iload hx hb dL_act_194 (lv_at hl 2 rfl) ?_
            refine lv_iload hx hb dL_act_196 (lv_at hl 1 rfl) ?_
            refine va_callv (va_runV (As := [.int (nI j), .int (nI (NUMf z6)), .int (nI o)]) (rest := []) ⟨hx, hb, hml, hown, hts⟩ (c_X2_addBeat l D cI cZ cL cJ cB as n now told v hwf hG.1.2 j (by omega) (by omega) (NUMf z6) o s.heap.size) (cwV 3 hts gL_act_X2_addBeat rfl rfl rfl (by decide +kernel) ⟨(Nat.le_of_ble_eq_true rfl), (Nat.le_of_ble_eq_true rfl)⟩) ⟨PCZ_blind, (RC_of (q := (RX2, TX2, 6)) (ci := 2) hK rfl (vpa hSP.1 0 rfl)), PCZuse hK (hE.narrow (fun q h => h.elim (fun h => by rw [h]; exact hG.2.1.2 3 (Us.lo (by decide))) (fun h => Nat.le_trans hlo h))) hEA hSP⟩ rfl rfl hl.1 rfl (lv_room (Nat.le_of_ble_eq_true rfl)) dL_act_198 ⟨(Nat.le_of_ble_eq_true rfl), (Nat.le_of_ble_eq_true rfl)⟩) hS (fun q _ h => h.elim (fun h => by rw [h]; exact hG.2.1.2 3 (Us.lo (by decide))) (fun h => Nat.le_trans hlo h)) (fun q h => h.elim (fun h => by rw [h]; exact hG.2.1.2 3 (Us.lo (by decide))) (fun h => Nat.le_trans hlo h)) (fun as' t H locs ht hvm hu hB hz1 hk1 hS => ?_)
            have hB : SP D cI cZ cJ cB as' n now told (updv v j (addL (v j) (NUMf z6) o)) t.heap := hB
            rw [ht] at hB
            obtain ⟨hI2, ha0, hsrc⟩ := hu
            have hPX := PX_s hPX (fun q h i hi e => h.elim (fun h => hG.2.2 i 3 hi (Us.lo (by decide)) (e.symm.trans h)) (fun h => by have := hal i hi; omega)) hk1
            have hG2 : GW lo ad as' (updv v j (addL (v j) (NUMf z6) o)) := GW_step hG hal hlo hI2 hsrc
            refine lv_aload_n hx hb dL_act_201 rfl (lv_at hl 5 rfl) ?_
            refine lv_iload_n hx hb dL_act_202 rfl (lv_at hl 4 rfl) ?_
            refine lv_iload hx hb dL_act_203 (lv_at hl 2 rfl) ?_
            refine lv_iload hx hb dL_act_205 (lv_at hl 1 rfl) ?_
            refine wV (As := [.int (nI j), .int (nI (NUMf z6)), .int (nI o)]) (rest := []) ⟨hx, hb, hml, hown, hts⟩ (e_X1_addBeat l D cI cZ cL cJ ad n now told v hwf hG.1.1 j (by omega) z6 o hz6 ho (by omega)) (cwV 3 hts gL_act_X1_addBeat rfl rfl rfl (by decide +kernel) ⟨(Nat.le_of_ble_eq_true rfl), (Nat.le_of_ble_eq_true rfl)⟩) hK ((hE.kept hS.2.1).narrow (AX_lo hG)) hPX (RC_of (q := (RX1, TX1, 5)) (ci := 1) hK rfl (vpa hPX.1 0 rfl)) rfl hl.1 rfl (Nat.le_of_ble_eq_true rfl) dL_act_207 ⟨(Nat.le_of_ble_eq_true rfl), (Nat.le_of_ble_eq_true rfl)⟩ hS (AX_lo hG) (fun H locs _ hPX hz1 hk1 hS => ?_)
            have hSP : SP D cI cZ cJ cB as' n now told (updv v j (addL (v j) (NUMf z6) o)) H := SP_x hG2 hB hk1
            refine lv_iload hx hb dL_act_210 (lv_at hl 3 rfl) ?_
            refine n_icmp_ne (a := lbc (v j)) (b := lbc (v j)) (tgt := 224) hx hb (by omega) (by omega) dL_act_212 (by decide) (fun c_212 => ?_) (fun c_212 => ?_)
            · exact absurd rfl c_212
            · refine lv_iload hx hb dL_act_215 (lv_at hl 0 rfl) ?_
              refine n_if_eq (a := 1) (tgt := 224) hx hb (by decide) dL_act_217 (by decide) (fun c_217 => ?_) (fun c_217 => ?_)
              · exact absurd c_217 (by decide)
              · refine lv_iconst (v := nI 1) hx hb dL_act_220 (by decide) ?_
                refine lv_goto (tgt := 225) hx hb dL_act_221 (by decide) ?_
                refine n_ti (y := bI true) rfl ?_
                refine W.widen (k := 6) (n := 31) (Nat.le_of_ble_eq_true rfl) (Nat.le_of_ble_eq_true rfl) ?_
                exact W.zret (v := bI true) hx hb hr (bI_narrow _) (fun t ht hW => ⟨⟨bI true, (n, now, told, (updv v j (addL (v j) (NUMf z6) o)), as'), rfl, ⟨rfl, hG2, (wf_upd hwf (fun h => addL_wf (hwl j h) (by omega) (NUMf_P hz6) ho)), hn1, by show now ≤ now; omega, by show now ≤ now + 500; omega, ha0⟩, by show PX D cI cL ad n now told (updv v j (addL (v j) (NUMf z6) o)) t.heap ∧ SP D cI cZ cJ cB (as') n now told (updv v j (addL (v j) (NUMf z6) o)) t.heap; rw [ht]; exact ⟨hPX, hSP⟩⟩, hS.F ht⟩) (fun q hq => hS.2.2 q hq) dL_act_225
      refine lv_istore (lv' := [(4, .int (nI (lbc (v j)))), (3, .int (nI j)), (0, .ref (ad 0)), (1, .ref (as 0)), (2, .int x)]) hx hb dL_act_99 hl (by decide) rfl (fun ls hl => ?_)
      refine lv_iload_n hx hb dL_act_101 rfl (lv_at hl 4 rfl) ?_
      refine lv_bipush (v := nI 14) hx hb dL_act_102 (by decide) ?_
      refine rS (r := nI (blw x 14)) (As := [.int x, .int (nI 14)]) (rest := []) ⟨hx, hb, hml, hown, hts⟩ (c_L_below l D cI cZ cL cJ x 14 (by decide) (by omega)) (va_cwS 2 hts gL_act_L_below rfl rfl rfl (by decide +kernel) ⟨(Nat.le_of_ble_eq_true rfl), (Nat.le_of_ble_eq_true rfl)⟩) hK hE0 trivial rfl hl.1 rfl (Nat.le_of_ble_eq_true rfl) dL_act_104 ⟨(Nat.le_of_ble_eq_true rfl), (Nat.le_of_ble_eq_true rfl)⟩ ?_
      obtain ⟨w14, hw14, e_w14⟩ : ∃ y, y < 14 ∧ blw x 14 = y := ⟨_, blw_lt _ (by decide), rfl⟩
      rw [e_w14]
      have hjn4 := hw4 j (by omega)
      rcases (show w14 = 0 ∨ w14 = 1 ∨ w14 = 2 ∨ w14 = 3 ∨ w14 = 4 ∨ w14 = 5 ∨ w14 = 6 ∨ 7 ≤ w14 by omega) with hw9 | hw9 | hw9 | hw9 | hw9 | hw9 | hw9 | hw9
      · rw [hw9]
        refine lv_tableIn (off := 41) (tgt := 148) hx hb dL_act_107 (by decide) (by decide) (by decide) (by decide) ?_
        exact join_148 ls (lv_sub hl [0, 1, 2, 3, 4] rfl)
      · rw [hw9]
        refine lv_tableIn (off := 41) (tgt := 148) hx hb dL_act_107 (by decide) (by decide) (by decide) (by decide) ?_
        exact join_148 ls (lv_sub hl [0, 1, 2, 3, 4] rfl)
      · rw [hw9]
        refine lv_tableIn (off := 41) (tgt := 148) hx hb dL_act_107 (by decide) (by decide) (by decide) (by decide) ?_
        exact join_148 ls (lv_sub hl [0, 1, 2, 3, 4] rfl)
      · rw [hw9]
        refine lv_tableIn (off := 41) (tgt := 148) hx hb dL_act_107 (by decide) (by decide) (by decide) (by decide) ?_
        exact join_148 ls (lv_sub hl [0, 1, 2, 3, 4] rfl)
      · rw [hw9]
        refine lv_tableIn (off := 132) (tgt := 239) hx hb dL_act_107 (by decide) (by decide) (by decide) (by decide) ?_
        refine lv_iload hx hb dL_act_239 (lv_at hl 0 rfl) ?_
        refine n_if_ne (a := lbc (v j)) (tgt := 246) hx hb (by omega) dL_act_241 (by decide) (fun c_241 => ?_) (fun c_241 => ?_)
        · refine lv_iload_n hx hb dL_act_246 rfl (lv_at hl 4 rfl) ?_
          refine lv_bipush (v := nI 7) hx hb dL_act_247 (by decide) ?_
          refine lv_ishr hx hb dL_act_249 ?_
          obtain ⟨x7, hx7⟩ : ∃ y, x >>> (nI 7 &&& 31) = y := ⟨_, rfl⟩
          refine n_ti hx7 ?_
          refine lv_iload hx hb dL_act_250 (lv_at hl 0 rfl) ?_
          refine rS (r := nI (blw x7 (lbc (v j)))) (As := [.int x7, .int (nI (lbc (v j)))]) (rest := []) ⟨hx, hb, hml, hown, hts⟩ (c_L_below l D cI cZ cL cJ x7 (lbc (v j)) (by omega) (by omega)) (va_cwS 2 hts gL_act_L_below rfl rfl rfl (by decide +kernel) ⟨(Nat.le_of_ble_eq_true rfl), (Nat.le_of_ble_eq_true rfl)⟩) hK hE0 trivial rfl hl.1 rfl (Nat.le_of_ble_eq_true rfl) dL_act_252 ⟨(Nat.le_of_ble_eq_true rfl), (Nat.le_of_ble_eq_true rfl)⟩ ?_
          obtain ⟨bz, hbz, e_bz⟩ : ∃ y, y < lbc (v j) ∧ blw x7 (lbc (v j)) = y := ⟨_, blw_lt _ (by omega), rfl⟩
          rw [e_bz]
          refine lv_istore (lv' := [(5, .int (nI bz)), (4, .int (nI (lbc (v j)))), (3, .int (nI j)), (0, .ref (ad 0)), (1, .ref (as 0)), (2, .int x)]) hx hb dL_act_255 hl (by decide) rfl (fun ls hl => ?_)
          refine lv_aload_n hx hb dL_act_257 rfl (lv_at hl 4 rfl) ?_
          refine va_get (D := D) (ci := 2) (v := .ref (as 3)) (C := RX2) (T := TX2) (N := 6) hx hb hts hin2 hown hK hSP.1 0 rfl rfl 5 (by decide) (hts (.fieldLink RL 31 "LanternPrimesLaw$Sim" "beats" "[[[I") (List.mem_of_getElem? (i := 4) rfl)) (fun _ h9 => h9) rfl dL_act_258 ?_
          refine lv_iload_n hx hb dL_act_261 rfl (lv_at hl 2 rfl) ?_
          refine n_aaldA (v := as (4 + 5 * j)) (j := j) hx hb hKB hSP.1 3 0 rfl rfl (by omega) (by decide) rfl dL_act_262 ?_
          refine lv_iload hx hb dL_act_263 (lv_at hl 0 rfl) ?_
          refine n_aaldA (v := as (5 + 5 * j + bz)) (j := bz) hx hb hK (vp1 (hSP.2 j (by omega)).1) 0 3 rfl rfl hbz (by omega) rfl dL_act_265 ?_
          have hni := (hwl j (by omega)).2 bz hbz
          have hp13 := isP_le hni.1
          refine lv_iconst (v := nI 1) hx hb dL_act_266 (by decide) ?_
          refine n_iald (v := nI (lof (v j) bz)) (j := 1) hx hb hK (vp1 ((hSP.2 j (by omega)).2 bz hbz)) 0 0 rfl rfl (by decide) (by decide) rfl dL_act_267 ?_
          refine lv_istore (lv' := [(6, .int (nI (lof (v j) bz))), (5, .int (nI bz)), (4, .int (nI (lbc (v j)))), (3, .int (nI j)), (0, .ref (ad 0)), (1, .ref (as 0)), (2, .int x)]) hx hb dL_act_268 hl (by decide) rfl (fun ls hl => ?_)
          refine lv_aload_n hx hb dL_act_270 rfl (lv_at hl 5 rfl) ?_
          refine va_get (D := D) (ci := 2) (v := .ref (as 3)) (C := RX2) (T := TX2) (N := 6) hx hb hts hin2 hown hK hSP.1 0 rfl rfl 5 (by decide) (hts (.fieldLink RL 31 "LanternPrimesLaw$Sim" "beats" "[[[I") (List.mem_of_getElem? (i := 4) rfl)) (fun _ h9 => h9) rfl dL_act_271 ?_
          refine lv_iload_n hx hb dL_act_274 rfl (lv_at hl 3 rfl) ?_
          refine n_aaldA (v := as (4 + 5 * j)) (j := j) hx hb hKB hSP.1 3 0 rfl rfl (by omega) (by decide) rfl dL_act_275 ?_
          refine lv_iload hx hb dL_act_276 (lv_at hl 1 rfl) ?_
          refine n_aaldA (v := as (5 + 5 * j + bz)) (j := bz) hx hb hK (vp1 (hSP.2 j (by omega)).1) 0 3 rfl rfl hbz (by omega) rfl dL_act_278 ?_
          refine lv_iconst (v := nI 1) hx hb dL_act_279 (by decide) ?_
          refine lv_iload_n hx hb dL_act_280 rfl (lv_at hl 6 rfl) ?_
          refine lv_bipush (v := nI 9) hx hb dL_act_281 (by decide) ?_
          refine lv_ishr hx hb dL_act_283 ?_
          obtain ⟨x9, hx9⟩ : ∃ y, x >>> (nI 9 &&& 31) = y := ⟨_, rfl⟩
          refine n_ti hx9 ?_
          refine lv_aload_n hx hb dL_act_284 rfl (lv_at hl 5 rfl) ?_
          refine va_get (D := D) (ci := 2) (v := .ref (as 3)) (C := RX2) (T := TX2) (N := 6) hx hb hts hin2 hown hK hSP.1 0 rfl rfl 5 (by decide) (hts (.fieldLink RL 31 "LanternPrimesLaw$Sim" "beats" "[[[I") (List.mem_of_getElem? (i := 4) rfl)) (fun _ h9 => h9) rfl dL_act_285 ?_
          refine lv_iload_n hx hb dL_act_288 rfl (lv_at hl 3 rfl) ?_
          refine n_aaldA (v := as (4 + 5 * j)) (j := j) hx hb hKB hSP.1 3 0 rfl rfl (by omega) (by decide) rfl dL_act_289 ?_
          refine lv_iload hx hb dL_act_290 (lv_at hl 1 rfl) ?_
          refine n_aaldA (v := as (5 + 5 * j + bz)) (j := bz) hx hb hK (vp1 (hSP.2 j (by omega)).1) 0 3 rfl rfl hbz (by omega) rfl dL_act_292 ?_
          refine lv_iconst (v := nI 0) hx hb dL_act_293 (by decide) ?_
          refine n_iald (v := nI (lnu (v j) bz)) (j := 0) hx hb hK (vp1 ((hSP.2 j (by omega)).2 bz hbz)) 0 0 rfl rfl (by decide) (by decide) rfl dL_act_294 ?_
          refine rS (r := nI (blw x9 (lnu (v j) bz))) (As := [.int x9, .int (nI (lnu (v j) bz))]) (rest := [.int (nI 1), .ref (as (5 + 5 * j + bz))]) ⟨hx, hb, hml, hown, hts⟩ (c_L_below l D cI cZ cL cJ x9 (lnu (v j) bz) (by omega) (by omega)) (va_cwS 2 hts gL_act_L_below rfl rfl rfl (by decide +kernel) ⟨(Nat.le_of_ble_eq_true rfl), (Nat.le_of_ble_eq_true rfl)⟩) hK hE0 trivial rfl hl.1 rfl (Nat.le_of_ble_eq_true rfl) dL_act_295 ⟨(Nat.le_of_ble_eq_true rfl), (Nat.le_of_ble_eq_true rfl)⟩ ?_
          obtain ⟨o, ho, e_o⟩ : ∃ y, y < lnu (v j) bz ∧ blw x9 (lnu (v j) bz) = y := ⟨_, blw_lt _ (by omega), rfl⟩
          rw [e_o]
          refine n_iastK (f := btF (v j) bz) (f' := upd (btF (v j) bz) 1 (nI o)) hx hb hK ((hSP.2 j (by omega)).2 bz hbz) hS (hG.2.1.2 _ (Us.bt (by omega) hbz)) 0 rfl (by decide) (by decide) rfl dL_act_298 (fun H locs h_b hS hz2 hk2 => ?_)
          have hPX := PX_s (A := fun q => q = as (5 + 5 * j + bz)) hPX (fun q h i hi e => hG.2.2 i _ hi (Us.bt (by omega) hbz) (e.symm.trans h)) (fun q _ h => hk2 q h)
          have hSP2 : SP D cI cZ cJ cB as n now told (updv v j (setOf (v j) bz o)) H := SP_bt hG.1.2 (by omega) hbz hw4 hSP (fun q _ h => hk2 q h) h_b
          have hG2 : GW lo ad as (updv v j (setOf (v j) bz o)) := GW_use hG (Us_same rfl)
          have hSPv := hSP2
          refine lv_aload_n hx hb dL_act_299 rfl (lv_at hl 4 rfl) ?_
          refine lv_iload_n hx hb dL_act_300 rfl (lv_at hl 3 rfl) ?_
          refine lv_iload hx hb dL_act_301 (lv_at hl 1 rfl) ?_
          refine lv_aload_n hx hb dL_act_303 rfl (lv_at hl 5 rfl) ?_
          refine va_get (D := D) (ci := 2) (v := .ref (as 3)) (C := RX2) (T := TX2) (N := 6) hx hb hts hin2 hown hK hSP2.1 0 rfl rfl 5 (by decide) (hts (.fieldLink RL 31 "LanternPrimesLaw$Sim" "beats" "[[[I") (List.mem_of_getElem? (i := 4) rfl)) (fun _ h9 => h9) rfl dL_act_304 ?_
          refine lv_iload_n hx hb dL_act_307 rfl (lv_at hl 3 rfl) ?_
          refine n_aaldA (v := as (4 + 5 * j)) (j := j) hx hb hKB hSP2.1 3 0 rfl rfl (by omega) (by decide) rfl dL_act_308 ?_
          refine lv_iload hx hb dL_act_309 (lv_at hl 1 rfl) ?_
          refine n_aaldA (v := as (5 + 5 * j + bz)) (j := bz) hx hb hK (vp1 (hSP2.2 j (by omega)).1) 0 3 rfl rfl (by rw [show (updv v j (setOf (v j) bz o)) j = setOf (v j) bz o from if_pos rfl]; exact hbz) (by rw [show (updv v j (setOf (v j) bz o)) j = setOf (v j) bz o from if_pos rfl]; show lbc (v j) < 2 ^ 31; omega) rfl dL_act_311 ?_
          refine lv_iconst (v := nI 1) hx hb dL_act_312 (by decide) ?_
          refine n_iald (v := nI o) (j := 1) hx hb hK (vp1 h_b) 0 0 rfl rfl (by decide) (by decide) rfl dL_act_313 ?_
          refine wV (As := [.int (nI j), .int (nI bz), .int (nI o)]) (rest := []) ⟨hx, hb, hml, hown, hts⟩ (e_X1_moveBeat l D cI cZ cL cJ ad n now told v hwf hG.1.1 j (by omega) bz hbz o ho) (cwV 3 hts gL_act_X1_moveBeat rfl rfl rfl (by decide +kernel) ⟨(Nat.le_of_ble_eq_true rfl), (Nat.le_of_ble_eq_true rfl)⟩) hK ((hE.kept hS.2.1).narrow (AX_lo hG)) hPX (RC_of (q := (RX1, TX1, 5)) (ci := 1) hK rfl (vpa hPX.1 0 rfl)) rfl hl.1 rfl (Nat.le_of_ble_eq_true rfl) dL_act_314 ⟨(Nat.le_of_ble_eq_true rfl), (Nat.le_of_ble_eq_true rfl)⟩ hS (AX_lo hG) (fun H locs _ hPX hz1 hk1 hS => ?_)
          have hSP : SP D cI cZ cJ cB as n now told (updv v j (setOf (v j) bz o)) H := SP_x hG2 hSP2 hk1
          refine lv_iload hx hb dL_act_317 (lv_at hl 0 rfl) ?_
          refine lv_icmp_ne (tgt := 326) hx hb dL_act_319 (by decide) (fun c_319 => ?_) (fun c_319 => ?_)
          · exact absurd rfl c_319
          · refine lv_iconst (v := nI 1) hx hb dL_act_322 (by decide) ?_
            refine lv_goto (tgt := 327) hx hb dL_act_323 (by decide) ?_
            refine n_ti (y := bI true) rfl ?_
            refine W.widen (k := 6) (n := 31) (Nat.le_of_ble_eq_true rfl) (Nat.le_of_ble_eq_true rfl) ?_
            exact W.zret (v := bI true) hx hb hr (bI_narrow _) (fun t ht hW => ⟨⟨bI true, (n, now, told, (updv v j (setOf (v j) bz o)), as), rfl, ⟨rfl, hG2, (wf_upd hwf (fun h => wfl_of (hwl j h) ho)), hn1, by show now ≤ now; omega, by show now ≤ now + 500; omega, rfl⟩, by show PX D cI cL ad n now told (updv v j (setOf (v j) bz o)) t.heap ∧ SP D cI cZ cJ cB as n now told (updv v j (setOf (v j) bz o)) t.heap; rw [ht]; exact ⟨hPX, hSP⟩⟩, hS.F ht⟩) (fun q hq => hS.2.2 q hq) dL_act_327
        · refine lv_iconst (v := nI 1) hx hb dL_act_244 (by decide) ?_
          refine n_ti (y := bI true) rfl ?_
          refine W.widen (k := 6) (n := 31) (Nat.le_of_ble_eq_true rfl) (Nat.le_of_ble_eq_true rfl) ?_
          exact W.zret (v := bI true) hx hb hr (bI_narrow _) (fun t ht hW => ⟨⟨bI true, (n, now, told, v, as), rfl, ⟨rfl, hG, hwf, hn1, by show now ≤ now; omega, by show now ≤ now + 500; omega, rfl⟩, by show PX D cI cL ad n now told v t.heap ∧ SP D cI cZ cJ cB as n now told v t.heap; rw [ht]; exact ⟨hPX, hSP⟩⟩, hS.F ht⟩) (fun q hq => hS.2.2 q hq) dL_act_245
      · rw [hw9]
        refine lv_tableIn (off := 221) (tgt := 328) hx hb dL_act_107 (by decide) (by decide) (by decide) (by decide) ?_
        refine lv_iload hx hb dL_act_328 (lv_at hl 0 rfl) ?_
        refine n_if_ne (a := lbc (v j)) (tgt := 335) hx hb (by omega) dL_act_330 (by decide) (fun c_330 => ?_) (fun c_330 => ?_)
        · refine lv_iload_n hx hb dL_act_335 rfl (lv_at hl 4 rfl) ?_
          refine lv_bipush (v := nI 7) hx hb dL_act_336 (by decide) ?_
          refine lv_ishr hx hb dL_act_338 ?_
          obtain ⟨x7, hx7⟩ : ∃ y, x >>> (nI 7 &&& 31) = y := ⟨_, rfl⟩
          refine n_ti hx7 ?_
          refine lv_iload hx hb dL_act_339 (lv_at hl 0 rfl) ?_
          refine rS (r := nI (blw x7 (lbc (v j)))) (As := [.int x7, .int (nI (lbc (v j)))]) (rest := []) ⟨hx, hb, hml, hown, hts⟩ (c_L_below l D cI cZ cL cJ x7 (lbc (v j)) (by omega) (by omega)) (va_cwS 2 hts gL_act_L_below rfl rfl rfl (by decide +kernel) ⟨(Nat.le_of_ble_eq_true rfl), (Nat.le_of_ble_eq_true rfl)⟩) hK hE0 trivial rfl hl.1 rfl (Nat.le_of_ble_eq_true rfl) dL_act_341 ⟨(Nat.le_of_ble_eq_true rfl), (Nat.le_of_ble_eq_true rfl)⟩ ?_
          obtain ⟨bz, hbz, e_bz⟩ : ∃ y, y < lbc (v j) ∧ blw x7 (lbc (v j)) = y := ⟨_, blw_lt _ (by omega), rfl⟩
          rw [e_bz]
          refine lv_istore (lv' := [(5, .int (nI bz)), (4, .int (nI (lbc (v j)))), (3, .int (nI j)), (0, .ref (ad 0)), (1, .ref (as 0)), (2, .int x)]) hx hb dL_act_344 hl (by decide) rfl (fun ls hl => ?_)
          refine lv_aload_n hx hb dL_act_346 rfl (lv_at hl 4 rfl) ?_
          refine lv_iload_n hx hb dL_act_347 rfl (lv_at hl 2 rfl) ?_
          refine lv_iload hx hb dL_act_348 (lv_at hl 0 rfl) ?_
          refine va_callv (va_runV (As := [.int (nI j), .int (nI bz)]) (rest := []) ⟨hx, hb, hml, hown, hts⟩ (c_X2_takeBeat l D cI cZ cL cJ cB as n now told v hwf hG.1.2 j (by omega) bz hbz s.heap.size) (cwV 2 hts gL_act_X2_takeBeat rfl rfl rfl (by decide +kernel) ⟨(Nat.le_of_ble_eq_true rfl), (Nat.le_of_ble_eq_true rfl)⟩) ⟨PCZ_blind, (RC_of (q := (RX2, TX2, 6)) (ci := 2) hK rfl (vpa hSP.1 0 rfl)), PCZuse hK (hE.narrow (fun q h => h.elim (fun h => by rw [h]; exact hG.2.1.2 3 (Us.lo (by decide))) (fun h => Nat.le_trans hlo h))) hEA hSP⟩ rfl rfl hl.1 rfl (lv_room (Nat.le_of_ble_eq_true rfl)) dL_act_350 ⟨(Nat.le_of_ble_eq_true rfl), (Nat.le_of_ble_eq_true rfl)⟩) hS (fun q _ h => h.elim (fun h => by rw [h]; exact hG.2.1.2 3 (Us.lo (by decide))) (fun h => Nat.le_trans hlo h)) (fun q h => h.elim (fun h => by rw [h]; exact hG.2.1.2 3 (Us.lo (by decide))) (fun h => Nat.le_trans hlo h)) (fun as' t H locs ht hvm hu hB hz1 hk1 hS => ?_)
          have hB : SP D cI cZ cJ cB as' n now told (updv v j (remL (v j) bz)) t.heap := hB
          rw [ht] at hB
          obtain ⟨hI2, ha0, hsrc⟩ := hu
          have hPX := PX_s hPX (fun q h i hi e => h.elim (fun h => hG.2.2 i 3 hi (Us.lo (by decide)) (e.symm.trans h)) (fun h => by have := hal i hi; omega)) hk1
          have hG2 : GW lo ad as' (updv v j (remL (v j) bz)) := GW_step hG hal hlo hI2 hsrc
          refine lv_aload_n hx hb dL_act_353 rfl (lv_at hl 3 rfl) ?_
          refine lv_iload_n hx hb dL_act_354 rfl (lv_at hl 2 rfl) ?_
          refine lv_iload hx hb dL_act_355 (lv_at hl 0 rfl) ?_
          refine wV (As := [.int (nI j), .int (nI bz)]) (rest := []) ⟨hx, hb, hml, hown, hts⟩ (e_X1_takeBeat l D cI cZ cL cJ ad n now told v hwf hG.1.1 j (by omega) bz hbz) (cwV 2 hts gL_act_X1_takeBeat rfl rfl rfl (by decide +kernel) ⟨(Nat.le_of_ble_eq_true rfl), (Nat.le_of_ble_eq_true rfl)⟩) hK ((hE.kept hS.2.1).narrow (AX_lo hG)) hPX (RC_of (q := (RX1, TX1, 5)) (ci := 1) hK rfl (vpa hPX.1 0 rfl)) rfl hl.1 rfl (Nat.le_of_ble_eq_true rfl) dL_act_357 ⟨(Nat.le_of_ble_eq_true rfl), (Nat.le_of_ble_eq_true rfl)⟩ hS (AX_lo hG) (fun H locs _ hPX hz1 hk1 hS => ?_)
          have hSP : SP D cI cZ cJ cB as' n now told (updv v j (remL (v j) bz)) H := SP_x hG2 hB hk1
          refine lv_iload hx hb dL_act_360 (lv_at hl 1 rfl) ?_
          refine lv_iconst (v := nI 1) hx hb dL_act_362 (by decide) ?_
          refine n_isub (v := nI (lbc (v j) - 1)) hx hb dL_act_363 (pk_sub (by omega)) ?_
          refine n_icmp_ne (a := lbc (v j) - 1) (b := lbc (v j) - 1) (tgt := 371) hx hb (by omega) (by omega) dL_act_364 (by decide) (fun c_364 => ?_) (fun c_364 => ?_)
          · exact absurd rfl c_364
          · refine lv_iconst (v := nI 1) hx hb dL_act_367 (by decide) ?_
            refine lv_goto (tgt := 372) hx hb dL_act_368 (by decide) ?_
            refine n_ti (y := bI true) rfl ?_
            refine W.widen (k := 6) (n := 31) (Nat.le_of_ble_eq_true rfl) (Nat.le_of_ble_eq_true rfl) ?_
            exact W.zret (v := bI true) hx hb hr (bI_narrow _) (fun t ht hW => ⟨⟨bI true, (n, now, told, (updv v j (remL (v j) bz)), as'), rfl, ⟨rfl, hG2, (wf_upd hwf (fun h => wfl_rem (hwl j h))), hn1, by show now ≤ now; omega, by show now ≤ now + 500; omega, ha0⟩, by show PX D cI cL ad n now told (updv v j (remL (v j) bz)) t.heap ∧ SP D cI cZ cJ cB (as') n now told (updv v j (remL (v j) bz)) t.heap; rw [ht]; exact ⟨hPX, hSP⟩⟩, hS.F ht⟩) (fun q hq => hS.2.2 q hq) dL_act_372
        · refine lv_iconst (v := nI 1) hx hb dL_act_333 (by decide) ?_
          refine n_ti (y := bI true) rfl ?_
          refine W.widen (k := 6) (n := 31) (Nat.le_of_ble_eq_true rfl) (Nat.le_of_ble_eq_true rfl) ?_
          exact W.zret (v := bI true) hx hb hr (bI_narrow _) (fun t ht hW => ⟨⟨bI true, (n, now, told, v, as), rfl, ⟨rfl, hG, hwf, hn1, by show now ≤ now; omega, by show now ≤ now + 500; omega, rfl⟩, by show PX D cI cL ad n now told v t.heap ∧ SP D cI cZ cJ cB as n now told v t.heap; rw [ht]; exact ⟨hPX, hSP⟩⟩, hS.F ht⟩) (fun q hq => hS.2.2 q hq) dL_act_334
      · rw [hw9]
        refine lv_tableIn (off := 266) (tgt := 373) hx hb dL_act_107 (by decide) (by decide) (by decide) (by decide) ?_
        refine lv_aload_n hx hb dL_act_373 rfl (lv_at hl 3 rfl) ?_
        refine va_get (D := D) (ci := 2) (v := .ref (as 2)) (C := RX2) (T := TX2) (N := 6) hx hb hts hin2 hown hK hSP.1 0 rfl rfl 4 (by decide) (hts (.fieldLink RL 57 "LanternPrimesLaw$Sim" "covered" "[Z") (List.mem_of_getElem? (i := 6) rfl)) (fun _ h9 => h9) rfl dL_act_374 ?_
        refine lv_iload_n hx hb dL_act_377 rfl (lv_at hl 1 rfl) ?_
        refine lv_aload_n hx hb dL_act_378 rfl (lv_at hl 3 rfl) ?_
        refine va_get (D := D) (ci := 2) (v := .ref (as 2)) (C := RX2) (T := TX2) (N := 6) hx hb hts hin2 hown hK hSP.1 0 rfl rfl 4 (by decide) (hts (.fieldLink RL 57 "LanternPrimesLaw$Sim" "covered" "[Z") (List.mem_of_getElem? (i := 6) rfl)) (fun _ h9 => h9) rfl dL_act_379 ?_
        refine lv_iload_n hx hb dL_act_382 rfl (lv_at hl 1 rfl) ?_
        refine n_zald (v := bI (lcv (v j))) (j := j) hx hb hK hSP.1 2 1 rfl rfl (by omega) (by decide) rfl dL_act_383 ?_
        have join_392 : ∀ (ls : Array Slot), lv_has ls 9 [(4, .int (nI (lbc (v j)))), (3, .int (nI j)), (0, .ref (ad 0)), (1, .ref (as 0)), (2, .int x)] → W p l e (headSpec wsL_act ({ frames := 8, cells := 6, slots := 31, locals := 130 } : Room)).room s m [.ref (ad 0), .ref (as 0), .int x].toArray below meth c s.heap [] 0 0 (MQ below (va_Qi (fun r (u : Nat × Nat × Int32 × (Nat → LV) × (Nat → Nat)) => r = 1 ∧ GW lo ad u.2.2.2.2 u.2.2.2.1 ∧ WFX u.1 u.2.1 u.2.2.2.1 ∧ 1 ≤ u.1 ∧ now ≤ u.2.1 ∧ u.2.1 ≤ now + 500 ∧ u.2.2.2.2 0 = as 0) (fun u t => PX D cI cL ad u.1 u.2.1 u.2.2.1 u.2.2.2.1 t.heap ∧ SP D cI cZ cJ cB u.2.2.2.2 u.1 u.2.1 u.2.2.1 u.2.2.2.1 t.heap) (fun q => lo ≤ q)) [.ref (ad 0), .ref (as 0), .int x].toArray s 6 31 (fun q => lo ≤ q)) (F0 m 392 ls [.int (bI (!(lcv (v j)))), .int (nI j), .ref (as 2)]) := by
          intro   ls hl
          refine n_zastK (f := fun j => bI (lcv (v j))) (f' := fun i => bI (lcv ((updv v j (setCv (v j) (!(lcv (v j))))) i))) hx hb hK (hSP.1 2 _ rfl) hS (hG.2.1.2 2 (Us.lo (by decide))) 1 rfl (by omega) (by decide) (by funext i; unfold upd updv; by_cases e : i = j <;> simp only [e, if_true, if_false] <;> rfl) dL_act_392 (fun H locs h_2 hS hz2 hk2 => ?_)
          have hPX := PX_s (A := fun q => q = as 2) hPX (fun q h i hi e => hG.2.2 i 2 hi (Us.lo (by decide)) (e.symm.trans h)) (fun q _ h => hk2 q h)
          have h_0 := (hSP.1 0 _ rfl).kept (hk2 _ (fun e => absurd (hG.1.2 0 2 (Us.lo (by decide)) (Us.lo (by decide)) e) (by decide)))
          have h_1 := (hSP.1 1 _ rfl).kept (hk2 _ (fun e => absurd (hG.1.2 1 2 (Us.lo (by decide)) (Us.lo (by decide)) e) (by decide)))
          have eon : (fun j => bI (lon (v j))) = fun i => bI (lon ((updv v j (setCv (v j) (!(lcv (v j))))) i)) := by funext i; unfold updv; by_cases e : i = j <;> simp only [e, if_true, if_false] <;> rfl
          rw [eon] at h_1
          have hSP2 : SP D cI cZ cJ cB as n now told (updv v j (setCv (v j) (!(lcv (v j))))) H := SP_012 hG.1.2 hSP (fun i _ => updv_same (v := v) (j := j) (L' := setCv (v j) (!(lcv (v j)))) ⟨rfl, rfl, rfl⟩ i) (fun q _ _ _ h4 => hk2 q h4) h_0 h_1 h_2
          have hG2 : GW lo ad as (updv v j (setCv (v j) (!(lcv (v j))))) := GW_use hG (Us_same rfl)
          refine lv_aload_n hx hb dL_act_393 rfl (lv_at hl 2 rfl) ?_
          refine lv_iload_n hx hb dL_act_394 rfl (lv_at hl 1 rfl) ?_
          refine wV (As := [.int (nI j)]) (rest := []) ⟨hx, hb, hml, hown, hts⟩ (e_X1_turnShutter l D cI cZ cL cJ ad n now told v hwf hG.1.1 j (by omega)) (cwV 1 hts gL_act_X1_turnShutter rfl rfl rfl (by decide +kernel) ⟨(Nat.le_of_ble_eq_true rfl), (Nat.le_of_ble_eq_true rfl)⟩) hK ((hE.kept hS.2.1).narrow (AX_lo hG)) hPX (RC_of (q := (RX1, TX1, 5)) (ci := 1) hK rfl (vpa hPX.1 0 rfl)) rfl hl.1 rfl (Nat.le_of_ble_eq_true rfl) dL_act_395 ⟨(Nat.le_of_ble_eq_true rfl), (Nat.le_of_ble_eq_true rfl)⟩ hS (AX_lo hG) (fun H locs _ hPX hz1 hk1 hS => ?_)
          have hSP : SP D cI cZ cJ cB as n now told (updv v j (setCv (v j) (!(lcv (v j))))) H := SP_x hG2 hSP2 hk1
          refine lv_aload_n hx hb dL_act_398 rfl (lv_at hl 3 rfl) ?_
          refine va_get (D := D) (ci := 2) (v := .ref (as 2)) (C := RX2) (T := TX2) (N := 6) hx hb hts hin2 hown hK hSP.1 0 rfl rfl 4 (by decide) (hts (.fieldLink RL 57 "LanternPrimesLaw$Sim" "covered" "[Z") (List.mem_of_getElem? (i := 6) rfl)) (fun _ h9 => h9) rfl dL_act_399 ?_
          refine lv_iload_n hx hb dL_act_402 rfl (lv_at hl 1 rfl) ?_
          refine n_zald (v := bI (!(lcv (v j)))) (j := j) hx hb hK hSP.1 2 1 rfl rfl (by omega) (by decide) (by unfold updv; rw [if_pos rfl]; rfl) dL_act_403 ?_
          refine lv_icmp_ne (tgt := 411) hx hb dL_act_404 (by decide) (fun c_404 => ?_) (fun c_404 => ?_)
          · exact absurd rfl c_404
          · refine lv_iconst (v := nI 1) hx hb dL_act_407 (by decide) ?_
            refine lv_goto (tgt := 412) hx hb dL_act_408 (by decide) ?_
            refine n_ti (y := bI true) rfl ?_
            refine W.widen (k := 6) (n := 31) (Nat.le_of_ble_eq_true rfl) (Nat.le_of_ble_eq_true rfl) ?_
            exact W.zret (v := bI true) hx hb hr (bI_narrow _) (fun t ht hW => ⟨⟨bI true, (n, now, told, (updv v j (setCv (v j) (!(lcv (v j))))), as), rfl, ⟨rfl, hG2, (wf_upd hwf (fun h => wfl_cv (hwl j h))), hn1, by show now ≤ now; omega, by show now ≤ now + 500; omega, rfl⟩, by show PX D cI cL ad n now told (updv v j (setCv (v j) (!(lcv (v j))))) t.heap ∧ SP D cI cZ cJ cB as n now told (updv v j (setCv (v j) (!(lcv (v j))))) t.heap; rw [ht]; exact ⟨hPX, hSP⟩⟩, hS.F ht⟩) (fun q hq => hS.2.2 q hq) dL_act_412
        refine b_if_ne (b := lcv (v j)) (tgt := 391) hx hb dL_act_384 (by decide) (fun c_384 => ?_) (fun c_384 => ?_)
        · refine lv_iconst (v := nI 0) hx hb dL_act_391 (by decide) ?_
          refine n_ti (y := bI (!(lcv (v j)))) (by rw [c_384]; rfl) ?_
          exact join_392 ls (lv_sub hl [0, 1, 2, 3, 4] rfl)
        · refine lv_iconst (v := nI 1) hx hb dL_act_387 (by decide) ?_
          refine lv_goto (tgt := 392) hx hb dL_act_388 (by decide) ?_
          refine n_ti (y := bI (!(lcv (v j)))) (by rw [c_384]; rfl) ?_
          exact join_392 ls (lv_sub hl [0, 1, 2, 3, 4] rfl)
      · refine lv_tableOut (tgt := 413) hx hb dL_act_107 (Or.inr (by rw [nI_toInt (by omega)]; omega)) (by decide) ?_
        have join_441 : ∀ (y : Nat), 1 ≤ y → y ≤ 500 → ∀ (ls : Array Slot), lv_has ls 9 [(4, .int (nI (lbc (v j)))), (3, .int (nI j)), (0, .ref (ad 0)), (1, .ref (as 0)), (2, .int x)] → W p l e (headSpec wsL_act ({ frames := 8, cells := 6, slots := 31, locals := 130 } : Room)).room s m [.ref (ad 0), .ref (as 0), .int x].toArray below meth c s.heap [] 0 0 (MQ below (va_Qi (fun r (u : Nat × Nat × Int32 × (Nat → LV) × (Nat → Nat)) => r = 1 ∧ GW lo ad u.2.2.2.2 u.2.2.2.1 ∧ WFX u.1 u.2.1 u.2.2.2.1 ∧ 1 ≤ u.1 ∧ now ≤ u.2.1 ∧ u.2.1 ≤ now + 500 ∧ u.2.2.2.2 0 = as 0) (fun u t => PX D cI cL ad u.1 u.2.1 u.2.2.1 u.2.2.2.1 t.heap ∧ SP D cI cZ cJ cB u.2.2.2.2 u.1 u.2.1 u.2.2.1 u.2.2.2.1 t.heap) (fun q => lo ≤ q)) [.ref (ad 0), .ref (as 0), .int x].toArray s 6 31 (fun q => lo ≤ q)) (F0 m 441 ls [.int (nI y)]) := by
          intro y hy1 hy2 ls hl
          refine lv_istore (lv' := [(5, .int (nI y)), (4, .int (nI (lbc (v j)))), (3, .int (nI j)), (0, .ref (ad 0)), (1, .ref (as 0)), (2, .int x)]) hx hb dL_act_441 hl (by decide) rfl (fun ls hl => ?_)
          refine lv_aload_n hx hb dL_act_443 rfl (lv_at hl 3 rfl) ?_
          refine lv_iload hx hb dL_act_444 (lv_at hl 0 rfl) ?_
          refine wV (As := [.int (nI y)]) (rest := []) ⟨hx, hb, hml, hown, hts⟩ (e_X1_pass l D cI cZ cL cJ ad n now told v hwf hG.1.1 y hy1 hy2) (cwV 1 hts gL_act_X1_pass rfl rfl rfl (by decide +kernel) ⟨(Nat.le_of_ble_eq_true rfl), (Nat.le_of_ble_eq_true rfl)⟩) hK ((hE.kept hS.2.1).narrow (AX_lo hG)) hPX (RC_of (q := (RX1, TX1, 5)) (ci := 1) hK rfl (vpa hPX.1 0 rfl)) rfl hl.1 rfl (Nat.le_of_ble_eq_true rfl) dL_act_446 ⟨(Nat.le_of_ble_eq_true rfl), (Nat.le_of_ble_eq_true rfl)⟩ hS (AX_lo hG) (fun H locs _ hPX hz1 hk1 hS => ?_)
          have hSP2 : SP D cI cZ cJ cB as n now told v H := SP_x hG hSP hk1
          have hPX2 := hPX
          refine lv_aload_n hx hb dL_act_449 rfl (lv_at hl 4 rfl) ?_
          refine lv_iload hx hb dL_act_450 (lv_at hl 0 rfl) ?_
          have h_00 : ∀ q, q ∈ [as 0] → lo ≤ q := fun q h => by rw [List.mem_singleton.mp h]; exact hG.2.1.2 0 (Us.lo (by decide))
          refine wVs (As := [.int (nI y)]) (rest := [.int (nI (psN v n now y))]) ⟨hx, hb, hml, hown, hts⟩ (c_X2_pass l D cI cZ cL cJ cB as n now told v hwf hG.1.2 y hy2 (by omega)) (cwV 1 hts gL_act_X2_pass rfl rfl rfl (by decide +kernel) ⟨(Nat.le_of_ble_eq_true rfl), (Nat.le_of_ble_eq_true rfl)⟩) hK hEA ((hE.kept hS.2.1).narrow h_00) hSP2 (RC_of (q := (RX2, TX2, 6)) (ci := 2) hK rfl (vpa hSP2.1 0 rfl)) rfl hl.1 rfl (Nat.le_of_ble_eq_true rfl) dL_act_452 ⟨(Nat.le_of_ble_eq_true rfl), (Nat.le_of_ble_eq_true rfl)⟩ hS h_00 (fun H locs _ hSP hz1 hk1 hS => ?_)
          have hPX := PX_s hPX2 (fun q h i hi e => hG.2.2 i 0 hi (Us.lo (by decide)) (e.symm.trans (List.mem_singleton.mp h))) hk1
          have hwf2 : WFX n (now + y) v := ⟨hn8, by omega, hwl⟩
          refine lv_icmp_ne (tgt := 462) hx hb dL_act_455 (by decide) (fun c_455 => ?_) (fun c_455 => ?_)
          · exact absurd rfl c_455
          · refine lv_iconst (v := nI 1) hx hb dL_act_458 (by decide) ?_
            refine lv_goto (tgt := 463) hx hb dL_act_459 (by decide) ?_
            refine n_ti (y := bI true) rfl ?_
            refine W.widen (k := 6) (n := 31) (Nat.le_of_ble_eq_true rfl) (Nat.le_of_ble_eq_true rfl) ?_
            exact W.zret (v := bI true) hx hb hr (bI_narrow _) (fun t ht hW => ⟨⟨bI true, (n, now + y, (told + nI (psN v n now y)), v, as), rfl, ⟨rfl, hG, hwf2, hn1, by show now ≤ (now + y); omega, by show (now + y) ≤ now + 500; omega, rfl⟩, by show PX D cI cL ad n (now + y) (told + nI (psN v n now y)) v t.heap ∧ SP D cI cZ cJ cB as n (now + y) (told + nI (psN v n now y)) v t.heap; rw [ht]; exact ⟨hPX, hSP⟩⟩, hS.F ht⟩) (fun q hq => hS.2.2 q hq) dL_act_463
        refine lv_iconst (v := nI 1) hx hb dL_act_413 (by decide) ?_
        refine lv_iload_n hx hb dL_act_414 rfl (lv_at hl 4 rfl) ?_
        refine lv_bipush (v := nI 6) hx hb dL_act_415 (by decide) ?_
        refine lv_ishr hx hb dL_act_417 ?_
        obtain ⟨x6, hx6⟩ : ∃ y, x >>> (nI 6 &&& 31) = y := ⟨_, rfl⟩
        refine n_ti hx6 ?_
        refine lv_iload_n hx hb dL_act_418 rfl (lv_at hl 4 rfl) ?_
        refine lv_bipush (v := nI 9) hx hb dL_act_419 (by decide) ?_
        refine lv_ishr hx hb dL_act_421 ?_
        obtain ⟨x9, hx9⟩ : ∃ y, x >>> (nI 9 &&& 31) = y := ⟨_, rfl⟩
        refine n_ti hx9 ?_
        refine lv_iconst (v := nI 5) hx hb dL_act_422 (by decide) ?_
        refine rS (r := nI (blw x9 5)) (As := [.int x9, .int (nI 5)]) (rest := [.int x6, .int (nI 1)]) ⟨hx, hb, hml, hown, hts⟩ (c_L_below l D cI cZ cL cJ x9 5 (by decide) (by omega)) (va_cwS 2 hts gL_act_L_below rfl rfl rfl (by decide +kernel) ⟨(Nat.le_of_ble_eq_true rfl), (Nat.le_of_ble_eq_true rfl)⟩) hK hE0 trivial rfl hl.1 rfl (Nat.le_of_ble_eq_true rfl) dL_act_423 ⟨(Nat.le_of_ble_eq_true rfl), (Nat.le_of_ble_eq_true rfl)⟩ ?_
        obtain ⟨w5, hw5, e_w5⟩ : ∃ y, y < 5 ∧ blw x9 5 = y := ⟨_, blw_lt _ (by decide), rfl⟩
        rw [e_w5]
        refine n_if_ne (a := w5) (tgt := 435) hx hb (by omega) dL_act_426 (by decide) (fun c_426 => ?_) (fun c_426 => ?_)
        · refine lv_bipush (v := nI 9) hx hb dL_act_435 (by decide) ?_
          refine rS (r := nI (blw x6 9)) (As := [.int x6, .int (nI 9)]) (rest := [.int (nI 1)]) ⟨hx, hb, hml, hown, hts⟩ (c_L_below l D cI cZ cL cJ x6 9 (by decide) (by omega)) (va_cwS 2 hts gL_act_L_below rfl rfl rfl (by decide +kernel) ⟨(Nat.le_of_ble_eq_true rfl), (Nat.le_of_ble_eq_true rfl)⟩) hK hE0 trivial rfl hl.1 rfl (Nat.le_of_ble_eq_true rfl) dL_act_437 ⟨(Nat.le_of_ble_eq_true rfl), (Nat.le_of_ble_eq_true rfl)⟩ ?_
          obtain ⟨y9, hy9, e_y9⟩ : ∃ y, y < 9 ∧ blw x6 9 = y := ⟨_, blw_lt _ (by decide), rfl⟩
          rw [e_y9]
          refine n_iadd (v := nI (1 + y9)) hx hb dL_act_440 (nI_add _ _) ?_
          exact join_441 (1 + y9) (by omega) (by omega) ls (lv_sub hl [0, 1, 2, 3, 4] rfl)
        · refine lv_sipush (v := nI 500) hx hb dL_act_429 (by decide) ?_
          refine lv_goto (tgt := 437) hx hb dL_act_432 (by decide) ?_
          refine rS (r := nI (blw x6 500)) (As := [.int x6, .int (nI 500)]) (rest := [.int (nI 1)]) ⟨hx, hb, hml, hown, hts⟩ (c_L_below l D cI cZ cL cJ x6 500 (by decide) (by omega)) (va_cwS 2 hts gL_act_L_below rfl rfl rfl (by decide +kernel) ⟨(Nat.le_of_ble_eq_true rfl), (Nat.le_of_ble_eq_true rfl)⟩) hK hE0 trivial rfl hl.1 rfl (Nat.le_of_ble_eq_true rfl) dL_act_437 ⟨(Nat.le_of_ble_eq_true rfl), (Nat.le_of_ble_eq_true rfl)⟩ ?_
          obtain ⟨y9, hy9, e_y9⟩ : ∃ y, y < 500 ∧ blw x6 500 = y := ⟨_, blw_lt _ (by decide), rfl⟩
          rw [e_y9]
          refine n_iadd (v := nI (1 + y9)) hx hb dL_act_440 (nI_add _ _) ?_
          exact join_441 (1 + y9) (by omega) (by omega) ls (lv_sub hl [0, 1, 2, 3, 4] rfl)
    refine lv_iload_n hx hb dL_act_7 rfl (lv_at hl 2 rfl) ?_
    refine lv_bipush (v := nI 20) hx hb dL_act_8 (by decide) ?_
    refine rS (r := nI (blw x 20)) (As := [.int x, .int (nI 20)]) (rest := []) ⟨hx, hb, hml, hown, hts⟩ (c_L_below l D cI cZ cL cJ x 20 (by decide) (by omega)) (va_cwS 2 hts gL_act_L_below rfl rfl rfl (by decide +kernel) ⟨(Nat.le_of_ble_eq_true rfl), (Nat.le_of_ble_eq_true rfl)⟩) hK hE0 trivial rfl hl.1 rfl (Nat.le_of_ble_eq_true rfl) dL_act_10 ⟨(Nat.le_of_ble_eq_true rfl), (Nat.le_of_ble_eq_true rfl)⟩ ?_
    obtain ⟨y20, hy20, e_y20⟩ : ∃ y, y < 20 ∧ blw x 20 = y := ⟨_, blw_lt _ (by decide), rfl⟩
    rw [e_y20]
    refine n_if_ne (a := y20) (tgt := 81) hx hb (by omega) dL_act_13 (by decide) (fun c_13 => ?_) (fun c_13 => ?_)
    · exact join_81 ls (lv_sub hl [0, 1, 2] rfl)
    · refine lv_aload_n hx hb dL_act_16 rfl (lv_at hl 1 rfl) ?_
      refine va_get (D := D) (ci := 2) (v := .int (nI n)) (C := RX2) (T := TX2) (N := 6) hx hb hts hin2 hown hK hSP.1 0 rfl rfl 2 (by decide) (hts (.fieldLink RL 9 "LanternPrimesLaw$Sim" "lamps" "I") (List.mem_of_getElem? (i := 2) rfl)) (fun _ h9 => h9) rfl dL_act_17 ?_
      refine lv_bipush (v := nI 8) hx hb dL_act_20 (by decide) ?_
      refine n_icmp_ge (a := n) (b := 8) (tgt := 81) hx hb (by omega) (by omega) dL_act_22 (by decide) (fun c_22 => ?_) (fun c_22 => ?_)
      · exact join_81 ls (lv_sub hl [0, 1, 2] rfl)
      · refine lv_iload_n hx hb dL_act_25 rfl (lv_at hl 2 rfl) ?_
        refine lv_iconst (v := nI 4) hx hb dL_act_26 (by decide) ?_
        refine lv_ishr hx hb dL_act_27 ?_
        obtain ⟨x4, hx4⟩ : ∃ y, x >>> (nI 4 &&& 31) = y := ⟨_, rfl⟩
        refine n_ti hx4 ?_
        refine lv_iconst (v := nI 2) hx hb dL_act_28 (by decide) ?_
        refine rS (r := nI (blw x4 2)) (As := [.int x4, .int (nI 2)]) (rest := []) ⟨hx, hb, hml, hown, hts⟩ (c_L_below l D cI cZ cL cJ x4 2 (by decide) (by omega)) (va_cwS 2 hts gL_act_L_below rfl rfl rfl (by decide +kernel) ⟨(Nat.le_of_ble_eq_true rfl), (Nat.le_of_ble_eq_true rfl)⟩) hK hE0 trivial rfl hl.1 rfl (Nat.le_of_ble_eq_true rfl) dL_act_29 ⟨(Nat.le_of_ble_eq_true rfl), (Nat.le_of_ble_eq_true rfl)⟩ ?_
        obtain ⟨w2, hw2, e_w2⟩ : ∃ y, y < 2 ∧ blw x4 2 = y := ⟨_, blw_lt _ (by decide), rfl⟩
        rw [e_w2]
        have join_40 : ∀ (ls : Array Slot), lv_has ls 9 [(0, .ref (ad 0)), (1, .ref (as 0)), (2, .int x)] → W p l e (headSpec wsL_act ({ frames := 8, cells := 6, slots := 31, locals := 130 } : Room)).room s m [.ref (ad 0), .ref (as 0), .int x].toArray below meth c s.heap [] 0 0 (MQ below (va_Qi (fun r (u : Nat × Nat × Int32 × (Nat → LV) × (Nat → Nat)) => r = 1 ∧ GW lo ad u.2.2.2.2 u.2.2.2.1 ∧ WFX u.1 u.2.1 u.2.2.2.1 ∧ 1 ≤ u.1 ∧ now ≤ u.2.1 ∧ u.2.1 ≤ now + 500 ∧ u.2.2.2.2 0 = as 0) (fun u t => PX D cI cL ad u.1 u.2.1 u.2.2.1 u.2.2.2.1 t.heap ∧ SP D cI cZ cJ cB u.2.2.2.2 u.1 u.2.1 u.2.2.1 u.2.2.2.1 t.heap) (fun q => lo ≤ q)) [.ref (ad 0), .ref (as 0), .int x].toArray s 6 31 (fun q => lo ≤ q)) (F0 m 40 ls [.int (bI (decide (w2 = 0)))]) := by
          intro   ls hl
          refine lv_istore_n (lv' := [(3, .int (bI (decide (w2 = 0)))), (0, .ref (ad 0)), (1, .ref (as 0)), (2, .int x)]) hx hb dL_act_40 rfl hl (by decide) rfl (fun ls hl => ?_)
          refine lv_aload_n hx hb dL_act_41 rfl (lv_at hl 2 rfl) ?_
          refine va_get (D := D) (ci := 2) (v := .ref (as 1)) (C := RX2) (T := TX2) (N := 6) hx hb hts hin2 hown hK hSP.1 0 rfl rfl 3 (by decide) (hts (.fieldLink RL 21 "LanternPrimesLaw$Sim" "begins" "[Z") (List.mem_of_getElem? (i := 3) rfl)) (fun _ h9 => h9) rfl dL_act_42 ?_
          refine lv_aload_n hx hb dL_act_45 rfl (lv_at hl 2 rfl) ?_
          refine va_get (D := D) (ci := 2) (v := .int (nI n)) (C := RX2) (T := TX2) (N := 6) hx hb hts hin2 hown hK hSP.1 0 rfl rfl 2 (by decide) (hts (.fieldLink RL 9 "LanternPrimesLaw$Sim" "lamps" "I") (List.mem_of_getElem? (i := 2) rfl)) (fun _ h9 => h9) rfl dL_act_46 ?_
          refine lv_iload_n hx hb dL_act_49 rfl (lv_at hl 0 rfl) ?_
          refine n_zastK (f := fun j => bI (lon (v j))) (f' := fun j => bI (lon ((updv v n (setOn (v n) (decide (w2 = 0)))) j))) hx hb hK (hSP.1 1 _ rfl) hS (hG.2.1.2 1 (Us.lo (by decide))) 1 rfl (by omega) (by decide) (by funext i; unfold upd updv; by_cases e : i = n <;> simp only [e, if_true, if_false] <;> rfl) dL_act_50 (fun H locs h_1 hS hz2 hk2 => ?_)
          have h_0 := (hSP.1 0 _ rfl).kept (hk2 _ (fun e => absurd (hG.1.2 0 1 (Us.lo (by decide)) (Us.lo (by decide)) e) (by decide)))
          refine lv_aload_n hx hb dL_act_51 rfl (lv_at hl 2 rfl) ?_
          refine lv_dup hx hb dL_act_52 rfl ?_
          refine va_get (D := D) (ci := 2) (v := .int (nI n)) (C := RX2) (T := TX2) (N := 6) hx hb hts hin2 hown hK (vp1 h_0) 0 rfl rfl 2 (by decide) (hts (.fieldLink RL 9 "LanternPrimesLaw$Sim" "lamps" "I") (List.mem_of_getElem? (i := 2) rfl)) (fun _ h9 => h9) rfl dL_act_53 ?_
          refine lv_iconst (v := nI 1) hx hb dL_act_56 (by decide) ?_
          refine n_iadd (v := nI (n + 1)) hx hb dL_act_57 (nI_add _ _) ?_
          refine n_putS (k := 2) hx hb hts hin2 hown hK h_0 hS (hG.2.1.2 0 (Us.lo (by decide))) (by decide) (hts (.fieldLink RL 9 "LanternPrimesLaw$Sim" "lamps" "I") (List.mem_of_getElem? (i := 2) rfl)) rfl (by decide) (by decide +kernel) (by show 2 < 6; decide) dL_act_58 (fun H locs h_0 hS hz3 hk3 => ?_)
          have h_1 := h_1.kept (hk3 _ (fun e => absurd (hG.1.2 1 0 (Us.lo (by decide)) (Us.lo (by decide)) e) (by decide)))
          have hk5 : ∀ q : Nat, q ≠ as 0 → q ≠ as 1 → H[q]? = s.heap[q]? := fun q h0 h1 => (hk3 q h0).trans (hk2 q h1)
          have hPX := PX_s (A := fun q => q = as 0 ∨ q = as 1) hPX (fun q h i hi e => h.elim (fun h => hG.2.2 i 0 hi (Us.lo (by decide)) (e.symm.trans h)) (fun h => hG.2.2 i 1 hi (Us.lo (by decide)) (e.symm.trans h))) (fun q _ h => hk5 q (fun e => h (Or.inl e)) (fun e => h (Or.inr e)))
          have h_2 := (hSP.1 2 _ rfl).kept (hk5 _ (fun e => absurd (hG.1.2 2 0 (Us.lo (by decide)) (Us.lo (by decide)) e) (by decide)) (fun e => absurd (hG.1.2 2 1 (Us.lo (by decide)) (Us.lo (by decide)) e) (by decide)))
          have ecv : (fun j => bI (lcv (v j))) = fun j => bI (lcv ((updv v n (setOn (v n) (decide (w2 = 0)))) j)) := by funext i; unfold updv; by_cases e : i = n <;> simp only [e, if_true, if_false] <;> rfl
          rw [ecv] at h_2
          have hSP2 : SP D cI cZ cJ cB as (n + 1) now told (updv v n (setOn (v n) (decide (w2 = 0)))) H := SP_012 hG.1.2 hSP (fun i _ => updv_same (v := v) (j := n) (L' := setOn (v n) (decide (w2 = 0))) ⟨rfl, rfl, rfl⟩ i) (fun q _ h2 h3 _ => hk5 q h2 h3) h_0 h_1 h_2
          have hG2 : GW lo ad as (updv v n (setOn (v n) (decide (w2 = 0)))) := GW_use hG (Us_same rfl)
          refine lv_aload_n hx hb dL_act_61 rfl (lv_at hl 1 rfl) ?_
          refine lv_iload_n hx hb dL_act_62 rfl (lv_at hl 0 rfl) ?_
          refine wV (As := [.int (bI (decide (w2 = 0)))]) (rest := []) ⟨hx, hb, hml, hown, hts⟩ (e_X1_addLamp l D cI cZ cL cJ ad n now told v hwf hG.1.1 (decide (w2 = 0)) (by omega)) (cwV 1 hts gL_act_X1_addLamp rfl rfl rfl (by decide +kernel) ⟨(Nat.le_of_ble_eq_true rfl), (Nat.le_of_ble_eq_true rfl)⟩) hK ((hE.kept hS.2.1).narrow (AX_lo hG)) hPX (RC_of (q := (RX1, TX1, 5)) (ci := 1) hK rfl (vpa hPX.1 0 rfl)) rfl hl.1 rfl (Nat.le_of_ble_eq_true rfl) dL_act_63 ⟨(Nat.le_of_ble_eq_true rfl), (Nat.le_of_ble_eq_true rfl)⟩ hS (AX_lo hG) (fun H locs _ hPX hz1 hk1 hS => ?_)
          have hSP : SP D cI cZ cJ cB as (n + 1) now told (updv v n (setOn (v n) (decide (w2 = 0)))) H := SP_x hG2 hSP2 hk1
          refine lv_aload_n hx hb dL_act_66 rfl (lv_at hl 2 rfl) ?_
          refine va_get (D := D) (ci := 2) (v := .int (nI (n + 1))) (C := RX2) (T := TX2) (N := 6) hx hb hts hin2 hown hK hSP.1 0 rfl rfl 2 (by decide) (hts (.fieldLink RL 9 "LanternPrimesLaw$Sim" "lamps" "I") (List.mem_of_getElem? (i := 2) rfl)) (fun _ h9 => h9) rfl dL_act_67 ?_
          refine lv_iconst (v := nI 1) hx hb dL_act_70 (by decide) ?_
          refine n_isub (v := nI n) hx hb dL_act_71 (by rw [pk_sub (by omega), Nat.add_sub_cancel]) ?_
          refine n_icmp_ne (a := n) (b := n) (tgt := 79) hx hb (by omega) (by omega) dL_act_72 (by decide) (fun c_72 => ?_) (fun c_72 => ?_)
          · exact absurd rfl c_72
          · refine lv_iconst (v := nI 1) hx hb dL_act_75 (by decide) ?_
            refine lv_goto (tgt := 80) hx hb dL_act_76 (by decide) ?_
            refine n_ti (y := bI true) rfl ?_
            refine W.widen (k := 6) (n := 31) (Nat.le_of_ble_eq_true rfl) (Nat.le_of_ble_eq_true rfl) ?_
            exact W.zret (v := bI true) hx hb hr (bI_narrow _) (fun t ht hW => ⟨⟨bI true, (n + 1, now, told, (updv v n (setOn (v n) (decide (w2 = 0)))), as), rfl, ⟨rfl, hG2, (wf_n (wf_upd hwf (fun h => wfl_on (hwl n h))) (by omega)), (by show 1 ≤ n + 1; omega), by show now ≤ now; omega, by show now ≤ now + 500; omega, rfl⟩, by show PX D cI cL ad (n + 1) now told (updv v n (setOn (v n) (decide (w2 = 0)))) t.heap ∧ SP D cI cZ cJ cB as (n + 1) now told (updv v n (setOn (v n) (decide (w2 = 0)))) t.heap; rw [ht]; exact ⟨hPX, hSP⟩⟩, hS.F ht⟩) (fun q hq => hS.2.2 q hq) dL_act_80
        refine n_if_ne (a := w2) (tgt := 39) hx hb (by omega) dL_act_32 (by decide) (fun c_32 => ?_) (fun c_32 => ?_)
        · refine lv_iconst (v := nI 0) hx hb dL_act_39 (by decide) ?_
          refine n_ti (y := bI (decide (w2 = 0))) (by rw [decide_eq_false c_32]; rfl) ?_
          exact join_40 ls (lv_sub hl [0, 1, 2] rfl)
        · refine lv_iconst (v := nI 1) hx hb dL_act_35 (by decide) ?_
          refine lv_goto (tgt := 40) hx hb dL_act_36 (by decide) ?_
          refine n_ti (y := bI (decide (w2 = 0))) (by rw [decide_eq_true c_32]; rfl) ?_
          exact join_40 ls (lv_sub hl [0, 1, 2] rfl)
