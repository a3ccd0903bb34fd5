set_option maxHeartbeats 4000000 in
set_option maxRecDepth 100000 in
theorem m_error (l : Launch) (G : va_G) (C : Nat → ClassId) (b : Nat → Nat) (σ : SG) (ρ : KM) (hbl : g_bl σ ≤ 40) : WrC l yX4_errorPosition wsX4_errorPosition ({ frames := 2, cells := 0, slots := 0, locals := 54 } : Room) G (tysC C) (wM C b σ ρ) [.ref (b 0)] (pM C b (aErr σ) σ) := by
  intro sz
  refine Met.ofW (cc := cX4_errorPosition) (maxL := 1) (ret := (some .long)) (by decide) rfl ?_
  intro p e s m args below meth c s₁ B hml hv
  obtain ⟨rfl, hsz, hP, hK, hN, hD0⟩ := hv
  have hx := B.exec
  have hb := B.bytes
  have hr := B.returns
  have hts := atoms_spec (ws := wsX4_errorPosition) B.pre
  have hown : s.vm.findClass RX4 = some m.cls := findClass_of_methodNamed B.named
  have hlocks := B.notSynchronized
  have hX4 : ∀ w ∈ wsX40, w ∈ wsX4_errorPosition := by decide +kernel
  subst hsz
  have hD := hD0.self (sz := s.heap.size)
  generalize hAe : va_A (wM C b σ ρ) s.heap.size = A at hD ⊢
  have hA : ∀ q : Nat, s.heap.size ≤ q → A q := fun q h => by rw [← hAe]; exact Or.inr h
  have hS : va_S A s.heap s.heap [] := va_S.rf
  have hP : va_P G vwCl (wM C b σ ρ) s.heap := hP
  have hl := lv_entry ([.ref (b 0)]) (n := 1) (Nat.le_of_ble_eq_true rfl)
  rw [lg_entry_eq]
  generalize (lg_sl ([.ref (b 0)]) ++ List.replicate (1 - (lg_sl ([.ref (b 0)])).length) Slot.unset).toArray = ls at hl ⊢
  have hl : lv_has ls 1 [(0, .ref (b 0))] := hl
  refine lv_aload_n hx hb dX4_errorPosition_0 rfl (lv_at hl 0 rfl) ?_
  refine wr_callV (As := []) (rest := []) ⟨hx, hb, hml, hown, hts⟩ (m_parse l G C b σ ρ hbl) (cwV 0 hts gX4_errorPosition_X4_parse rfl rfl rfl (by decide +kernel) ⟨Nat.le_of_ble_eq_true rfl, Nat.le_of_ble_eq_true rfl⟩) hK hN hP hD hS hA (0) 4 wM_e0 rfl rfl rfl hl.1 rfl (Nat.le_of_ble_eq_true rfl) dX4_errorPosition_1 ⟨Nat.zero_le _, Nat.zero_le _⟩ (fun v_ w1 H locs hw hP hD hS => ?_)
  obtain ⟨rfl, f, rfl, hf⟩ := hw
  have r_le := rd_le σ (m_rd ρ)
  have r_s := (rd_same σ (m_rd ρ)).1
  have r_p := rd_pl σ (m_rd ρ)
  have r_d := rd_dg σ (m_rd ρ)
  have r_r : whN σ → ∀ j, j < 5 → z_nu (nRun (g_bf σ) 0 (g_bl σ) (n0 (m_rd ρ))).2 j = rwN σ j := fun h j hj => rd_row (m_rd ρ) h hj
  generalize hR : nRun (g_bf σ) 0 (g_bl σ) (n0 (m_rd ρ)) = rr at *
  have r_f : whN σ → ∀ j, j < 5 → f j = rwN σ j := fun h j hj => by rw [hf (by rw [r_s]; exact h.1)]; exact r_r h j hj
  refine W.eq (g2 := F0 m 4 ls []) rfl ?_
  refine lv_aload_n hx hb dX4_errorPosition_4 rfl (lv_at hl 0 rfl) ?_
  refine va_get (D := G) (ci := 4) (v := .int (nI rr.1)) (C := RX4) (T := TX4) (N := 13) hx hb hts hX4 hown hK hP (0) wM_e0 rfl 10 (by decide) (hts (.fieldLink RX4 63 "DraftSurveyModel" "errorAt" "I") (by decide +kernel)) (fun _ h9 => h9) rfl dX4_errorPosition_5 ?_
  refine lv_i2l (v := lN rr.1) hx hb dX4_errorPosition_8 (nI_l (by omega)) ?_
  refine wr_lret hx hb hr hlocks hAe hP hD hS ?_ dX4_errorPosition_9
  exact ⟨congrArg (fun z => some (Value.long (lN z))) r_s, (f, nI rr.1, (if (rr.1 = g_bl σ ∧ z_pl rr.2 = 4 ∧ 0 < z_dg rr.2) then 1 else 0), m_h ρ), rfl⟩

set_option maxHeartbeats 4000000 in
set_option maxRecDepth 100000 in
theorem m_addRow (l : Launch) (G : va_G) (C : Nat → ClassId) (b : Nat → Nat) (σ : SG) (ρ : KM) (hbl : g_bl σ ≤ 40) (hn : g_n σ ≤ 10) : WrC l yX4_addRow wsX4_addRow ({ frames := 2, cells := 0, slots := 0, locals := 54 } : Room) G (tysC C) (wM C b σ ρ) [.ref (b 0)] (pM C b (aAddR σ) (nAddR σ)) := by
  intro sz
  refine Met.ofW (cc := cX4_addRow) (maxL := 2) (ret := (some .long)) (by decide) rfl ?_
  intro p e s m args below meth c s₁ B hml hv
  obtain ⟨rfl, hsz, hP, hK, hN, hD0⟩ := hv
  have hx := B.exec
  have hb := B.bytes
  have hr := B.returns
  have hts := atoms_spec (ws := wsX4_addRow) B.pre
  have hown : s.vm.findClass RX4 = some m.cls := findClass_of_methodNamed B.named
  have hlocks := B.notSynchronized
  have hX4 : ∀ w ∈ wsX40, w ∈ wsX4_addRow := by decide +kernel
  subst hsz
  have hD := hD0.self (sz := s.heap.size)
  generalize hAe : va_A (wM C b σ ρ) s.heap.size = A at hD ⊢
  have hA : ∀ q : Nat, s.heap.size ≤ q → A q := fun q h => by rw [← hAe]; exact Or.inr h
  have hS : va_S A s.heap s.heap [] := va_S.rf
  have hP : va_P G vwCl (wM C b σ ρ) s.heap := hP
  have hl := lv_entry ([.ref (b 0)]) (n := 2) (Nat.le_of_ble_eq_true rfl)
  rw [lg_entry_eq]
  generalize (lg_sl ([.ref (b 0)]) ++ List.replicate (2 - (lg_sl ([.ref (b 0)])).length) Slot.unset).toArray = ls at hl ⊢
  have hl : lv_has ls 2 [(0, .ref (b 0))] := hl
  refine lv_aload_n hx hb dX4_addRow_0 rfl (lv_at hl 0 rfl) ?_
  refine wr_callV (As := []) (rest := []) ⟨hx, hb, hml, hown, hts⟩ (m_parse l G C b σ ρ hbl) (cwV 0 hts gX4_addRow_X4_parse rfl rfl rfl (by decide +kernel) ⟨Nat.le_of_ble_eq_true rfl, Nat.le_of_ble_eq_true rfl⟩) hK hN hP hD hS hA (0) 4 wM_e0 rfl rfl rfl hl.1 rfl (Nat.le_of_ble_eq_true rfl) dX4_addRow_1 ⟨Nat.zero_le _, Nat.zero_le _⟩ (fun v_ w1 H locs hw hP hD hS => ?_)
  obtain ⟨rfl, f, rfl, hf⟩ := hw
  have r_le := rd_le σ (m_rd ρ)
  have r_s := (rd_same σ (m_rd ρ)).1
  have r_p := rd_pl σ (m_rd ρ)
  have r_d := rd_dg σ (m_rd ρ)
  have r_r : whN σ → ∀ j, j < 5 → z_nu (nRun (g_bf σ) 0 (g_bl σ) (n0 (m_rd ρ))).2 j = rwN σ j := fun h j hj => rd_row (m_rd ρ) h hj
  generalize hR : nRun (g_bf σ) 0 (g_bl σ) (n0 (m_rd ρ)) = rr at *
  have r_f : whN σ → ∀ j, j < 5 → f j = rwN σ j := fun h j hj => by rw [hf (by rw [r_s]; exact h.1)]; exact r_r h j hj
  refine W.eq (g2 := F0 m 4 ls []) rfl ?_
  refine lv_aload_n hx hb dX4_addRow_4 rfl (lv_at hl 0 rfl) ?_
  refine va_get (D := G) (ci := 4) (v := .int (if (rr.1 = g_bl σ ∧ z_pl rr.2 = 4 ∧ 0 < z_dg rr.2) then 1 else 0)) (C := RX4) (T := TX4) (N := 13) hx hb hts hX4 hown hK hP (0) wM_e0 rfl 11 (by decide) (hts (.fieldLink RX4 76 "DraftSurveyModel" "isRow" "Z") (by decide +kernel)) (fun _ h9 => h9) rfl dX4_addRow_5 ?_
  refine br_bne (tgt := 15) hx hb dX4_addRow_8 (by decide) (fun c_1 => ?_) (fun c_1 => ?_)
  · skip
    refine lv_aload_n hx hb dX4_addRow_15 rfl (lv_at hl 0 rfl) ?_
    refine va_get (D := G) (ci := 4) (v := .int (nI (g_n σ))) (C := RX4) (T := TX4) (N := 13) hx hb hts hX4 hown hK hP (0) wM_e0 rfl 2 (by decide) (hts (.fieldLink RX4 85 "DraftSurveyModel" "rows" "I") (by decide +kernel)) (fun _ h9 => h9) rfl dX4_addRow_16 ?_
    refine lv_bipush (v := 10) hx hb dX4_addRow_19 (by decide) ?_
    refine ic_ne (tgt := 28) hx hb dX4_addRow_21 (by decide) (fun c_2 => ?_) (fun c_2 => ?_)
    · skip
      have c_2 : ¬ (g_n σ) = 10 := fun z9 => c_2 ((nI_eq (a := (g_n σ)) (b := 10) (by omega) (by omega)).mpr z9)
      refine lv_aload_n hx hb dX4_addRow_28 rfl (lv_at hl 0 rfl) ?_
      refine va_get (D := G) (ci := 4) (v := .int (nI (g_n σ))) (C := RX4) (T := TX4) (N := 13) hx hb hts hX4 hown hK hP (0) wM_e0 rfl 2 (by decide) (hts (.fieldLink RX4 85 "DraftSurveyModel" "rows" "I") (by decide +kernel)) (fun _ h9 => h9) rfl dX4_addRow_29 ?_
      refine ic_if_le (tgt := 81) hx hb dX4_addRow_32 (by decide) (fun c_3 => ?_) (fun c_3 => ?_)
      · skip
        have c_3 : ¬ 0 < (g_n σ) := fun z9 => c_3 ((nI_ltI (a := 0) (b := (g_n σ)) (by omega) (by omega)).mpr z9)
        refine lv_iconst (v := 0) hx hb dX4_addRow_81 (by decide) ?_
        refine lv_istore_n (lv' := [(1, .int 0), (0, .ref (b 0))]) hx hb dX4_addRow_82 rfl hl (by decide) rfl (fun ls hl => ?_)
        refine lv_iload_n hx hb dX4_addRow_83 rfl (lv_at hl 0 rfl) ?_
        refine lv_iconst (v := 5) hx hb dX4_addRow_84 (by decide) ?_
        refine ic_ge (tgt := 113) hx hb dX4_addRow_85 (by decide) (fun c_4 => ?_) (fun c_4 => ?_)
        · skip
          exact absurd c_4 (by decide)
        · skip
          refine lv_aload_n hx hb dX4_addRow_88 rfl (lv_at hl 1 rfl) ?_
          refine va_get (D := G) (ci := 4) (v := .ref (b 2)) (C := RX4) (T := TX4) (N := 13) hx hb hts hX4 hown hK hP (0) wM_e0 rfl 3 (by decide) (hts (.fieldLink RX4 13 "DraftSurveyModel" "table" "[J") (by decide +kernel)) (fun _ h9 => h9) rfl dX4_addRow_89 ?_
          refine lv_iconst (v := 5) hx hb dX4_addRow_92 (by decide) ?_
          refine lv_aload_n hx hb dX4_addRow_93 rfl (lv_at hl 1 rfl) ?_
          refine va_get (D := G) (ci := 4) (v := .int (nI (g_n σ))) (C := RX4) (T := TX4) (N := 13) hx hb hts hX4 hown hK hP (0) wM_e0 rfl 2 (by decide) (hts (.fieldLink RX4 85 "DraftSurveyModel" "rows" "I") (by decide +kernel)) (fun _ h9 => h9) rfl dX4_addRow_94 ?_
          refine lv_imul hx hb dX4_addRow_97 ?_
          refine tp_i (v := nI (5 * (g_n σ))) (pk_mul 5 (g_n σ)) ?_
          refine lv_iload_n hx hb dX4_addRow_98 rfl (lv_at hl 0 rfl) ?_
          refine lv_iadd hx hb dX4_addRow_99 ?_
          refine tp_i (v := nI ((5 * (g_n σ)) + 0)) (nI_add (5 * (g_n σ)) 0) ?_
          refine lv_aload_n hx hb dX4_addRow_100 rfl (lv_at hl 1 rfl) ?_
          refine va_get (D := G) (ci := 4) (v := .ref (b 6)) (C := RX4) (T := TX4) (N := 13) hx hb hts hX4 hown hK hP (0) wM_e0 rfl 9 (by decide) (hts (.fieldLink RX4 32 "DraftSurveyModel" "read" "[J") (by decide +kernel)) (fun _ h9 => h9) rfl dX4_addRow_101 ?_
          refine lv_iload_n hx hb dX4_addRow_104 rfl (lv_at hl 0 rfl) ?_
          refine ar_l (k := 0) (v := f 0) hx hb hK hP (6) 1 wM_e6 rfl rfl (by decide) (by decide) rfl dX4_addRow_105 ?_
          refine as_l (k := ((5 * (g_n σ)) + 0)) hx hb hK hP hD hS (2) 1 wM_e2 rfl rfl (by omega) (by decide) dX4_addRow_106 (fun H locs hP hD hS => ?_)
          have hP : va_P G vwCl (wM C b (u_tb σ (vp_updL (g_tb σ) ((5 * (g_n σ)) + 0) (f 0))) (f, nI rr.1, (if (rr.1 = g_bl σ ∧ z_pl rr.2 = 4 ∧ 0 < z_dg rr.2) then 1 else 0), m_h ρ)) H := hP
          have hD : va_D A (wM C b (u_tb σ (vp_updL (g_tb σ) ((5 * (g_n σ)) + 0) (f 0))) (f, nI rr.1, (if (rr.1 = g_bl σ ∧ z_pl rr.2 = 4 ∧ 0 < z_dg rr.2) then 1 else 0), m_h ρ)) := hD
          refine lv_iinc (v := 1) (lv' := [(1, .int 1), (0, .ref (b 0))]) hx hb dX4_addRow_107 hl (k := 0) rfl (by decide) (by decide) rfl (fun ls hl => ?_)
          refine lv_goto (tgt := 83) hx hb dX4_addRow_110 (by decide) ?_
          refine lv_iload_n hx hb dX4_addRow_83 rfl (lv_at hl 0 rfl) ?_
          refine lv_iconst (v := 5) hx hb dX4_addRow_84 (by decide) ?_
          refine ic_ge (tgt := 113) hx hb dX4_addRow_85 (by decide) (fun c_5 => ?_) (fun c_5 => ?_)
          · skip
            exact absurd c_5 (by decide)
          · skip
            refine lv_aload_n hx hb dX4_addRow_88 rfl (lv_at hl 1 rfl) ?_
            refine va_get (D := G) (ci := 4) (v := .ref (b 2)) (C := RX4) (T := TX4) (N := 13) hx hb hts hX4 hown hK hP (0) wM_e0 rfl 3 (by decide) (hts (.fieldLink RX4 13 "DraftSurveyModel" "table" "[J") (by decide +kernel)) (fun _ h9 => h9) rfl dX4_addRow_89 ?_
            refine lv_iconst (v := 5) hx hb dX4_addRow_92 (by decide) ?_
            refine lv_aload_n hx hb dX4_addRow_93 rfl (lv_at hl 1 rfl) ?_
            refine va_get (D := G) (ci := 4) (v := .int (nI (g_n σ))) (C := RX4) (T := TX4) (N := 13) hx hb hts hX4 hown hK hP (0) wM_e0 rfl 2 (by decide) (hts (.fieldLink RX4 85 "DraftSurveyModel" "rows" "I") (by decide +kernel)) (fun _ h9 => h9) rfl dX4_addRow_94 ?_
            refine lv_imul hx hb dX4_addRow_97 ?_
            refine tp_i (v := nI (5 * (g_n σ))) (pk_mul 5 (g_n σ)) ?_
            refine lv_iload_n hx hb dX4_addRow_98 rfl (lv_at hl 0 rfl) ?_
            refine lv_iadd hx hb dX4_addRow_99 ?_
            refine tp_i (v := nI ((5 * (g_n σ)) + 1)) (nI_add (5 * (g_n σ)) 1) ?_
            refine lv_aload_n hx hb dX4_addRow_100 rfl (lv_at hl 1 rfl) ?_
            refine va_get (D := G) (ci := 4) (v := .ref (b 6)) (C := RX4) (T := TX4) (N := 13) hx hb hts hX4 hown hK hP (0) wM_e0 rfl 9 (by decide) (hts (.fieldLink RX4 32 "DraftSurveyModel" "read" "[J") (by decide +kernel)) (fun _ h9 => h9) rfl dX4_addRow_101 ?_
            refine lv_iload_n hx hb dX4_addRow_104 rfl (lv_at hl 0 rfl) ?_
            refine ar_l (k := 1) (v := f 1) hx hb hK hP (6) 1 wM_e6 rfl rfl (by decide) (by decide) rfl dX4_addRow_105 ?_
            refine as_l (k := ((5 * (g_n σ)) + 1)) hx hb hK hP hD hS (2) 1 wM_e2 rfl rfl (by omega) (by decide) dX4_addRow_106 (fun H locs hP hD hS => ?_)
            have hP : va_P G vwCl (wM C b (u_tb (u_tb σ (vp_updL (g_tb σ) ((5 * (g_n σ)) + 0) (f 0))) (vp_updL (vp_updL (g_tb σ) ((5 * (g_n σ)) + 0) (f 0)) ((5 * (g_n σ)) + 1) (f 1))) (f, nI rr.1, (if (rr.1 = g_bl σ ∧ z_pl rr.2 = 4 ∧ 0 < z_dg rr.2) then 1 else 0), m_h ρ)) H := hP
            have hD : va_D A (wM C b (u_tb (u_tb σ (vp_updL (g_tb σ) ((5 * (g_n σ)) + 0) (f 0))) (vp_updL (vp_updL (g_tb σ) ((5 * (g_n σ)) + 0) (f 0)) ((5 * (g_n σ)) + 1) (f 1))) (f, nI rr.1, (if (rr.1 = g_bl σ ∧ z_pl rr.2 = 4 ∧ 0 < z_dg rr.2) then 1 else 0), m_h ρ)) := hD
            refine lv_iinc (v := 2) (lv' := [(1, .int 2), (0, .ref (b 0))]) hx hb dX4_addRow_107 hl (k := 0) rfl (by decide) (by decide) rfl (fun ls hl => ?_)
            refine lv_goto (tgt := 83) hx hb dX4_addRow_110 (by decide) ?_
            refine lv_iload_n hx hb dX4_addRow_83 rfl (lv_at hl 0 rfl) ?_
            refine lv_iconst (v := 5) hx hb dX4_addRow_84 (by decide) ?_
            refine ic_ge (tgt := 113) hx hb dX4_addRow_85 (by decide) (fun c_6 => ?_) (fun c_6 => ?_)
            · skip
              exact absurd c_6 (by decide)
            · skip
              refine lv_aload_n hx hb dX4_addRow_88 rfl (lv_at hl 1 rfl) ?_
              refine va_get (D := G) (ci := 4) (v := .ref (b 2)) (C := RX4) (T := TX4) (N := 13) hx hb hts hX4 hown hK hP (0) wM_e0 rfl 3 (by decide) (hts (.fieldLink RX4 13 "DraftSurveyModel" "table" "[J") (by decide +kernel)) (fun _ h9 => h9) rfl dX4_addRow_89 ?_
              refine lv_iconst (v := 5) hx hb dX4_addRow_92 (by decide) ?_
              refine lv_aload_n hx hb dX4_addRow_93 rfl (lv_at hl 1 rfl) ?_
              refine va_get (D := G) (ci := 4) (v := .int (nI (g_n σ))) (C := RX4) (T := TX4) (N := 13) hx hb hts hX4 hown hK hP (0) wM_e0 rfl 2 (by decide) (hts (.fieldLink RX4 85 "DraftSurveyModel" "rows" "I") (by decide +kernel)) (fun _ h9 => h9) rfl dX4_addRow_94 ?_
              refine lv_imul hx hb dX4_addRow_97 ?_
              refine tp_i (v := nI (5 * (g_n σ))) (pk_mul 5 (g_n σ)) ?_
              refine lv_iload_n hx hb dX4_addRow_98 rfl (lv_at hl 0 rfl) ?_
              refine lv_iadd hx hb dX4_addRow_99 ?_
              refine tp_i (v := nI ((5 * (g_n σ)) + 2)) (nI_add (5 * (g_n σ)) 2) ?_
              refine lv_aload_n hx hb dX4_addRow_100 rfl (lv_at hl 1 rfl) ?_
              refine va_get (D := G) (ci := 4) (v := .ref (b 6)) (C := RX4) (T := TX4) (N := 13) hx hb hts hX4 hown hK hP (0) wM_e0 rfl 9 (by decide) (hts (.fieldLink RX4 32 "DraftSurveyModel" "read" "[J") (by decide +kernel)) (fun _ h9 => h9) rfl dX4_addRow_101 ?_
              refine lv_iload_n hx hb dX4_addRow_104 rfl (lv_at hl 0 rfl) ?_
              refine ar_l (k := 2) (v := f 2) hx hb hK hP (6) 1 wM_e6 rfl rfl (by decide) (by decide) rfl dX4_addRow_105 ?_
              refine as_l (k := ((5 * (g_n σ)) + 2)) hx hb hK hP hD hS (2) 1 wM_e2 rfl rfl (by omega) (by decide) dX4_addRow_106 (fun H locs hP hD hS => ?_)
              have hP : va_P G vwCl (wM C b (u_tb (u_tb (u_tb σ (vp_updL (g_tb σ) ((5 * (g_n σ)) + 0) (f 0))) (vp_updL (vp_updL (g_tb σ) ((5 * (g_n σ)) + 0) (f 0)) ((5 * (g_n σ)) + 1) (f 1))) (vp_updL (vp_updL (vp_updL (g_tb σ) ((5 * (g_n σ)) + 0) (f 0)) ((5 * (g_n σ)) + 1) (f 1)) ((5 * (g_n σ)) + 2) (f 2))) (f, nI rr.1, (if (rr.1 = g_bl σ ∧ z_pl rr.2 = 4 ∧ 0 < z_dg rr.2) then 1 else 0), m_h ρ)) H := hP
              have hD : va_D A (wM C b (u_tb (u_tb (u_tb σ (vp_updL (g_tb σ) ((5 * (g_n σ)) + 0) (f 0))) (vp_updL (vp_updL (g_tb σ) ((5 * (g_n σ)) + 0) (f 0)) ((5 * (g_n σ)) + 1) (f 1))) (vp_updL (vp_updL (vp_updL (g_tb σ) ((5 * (g_n σ)) + 0) (f 0)) ((5 * (g_n σ)) + 1) (f 1)) ((5 * (g_n σ)) + 2) (f 2))) (f, nI rr.1, (if (rr.1 = g_bl σ ∧ z_pl rr.2 = 4 ∧ 0 < z_dg rr.2) then 1 else 0), m_h ρ)) := hD
              refine lv_iinc (v := 3) (lv' := [(1, .int 3), (0, .ref (b 0))]) hx hb dX4_addRow_107 hl (k := 0) rfl (by decide) (by decide) rfl (fun ls hl => ?_)
              refine lv_goto (tgt := 83) hx hb dX4_addRow_110 (by decide) ?_
              refine lv_iload_n hx hb dX4_addRow_83 rfl (lv_at hl 0 rfl) ?_
              refine lv_iconst (v := 5) hx hb dX4_addRow_84 (by decide) ?_
              refine ic_ge (tgt := 113) hx hb dX4_addRow_85 (by decide) (fun c_7 => ?_) (fun c_7 => ?_)
              · skip
                exact absurd c_7 (by decide)
              · skip
                refine lv_aload_n hx hb dX4_addRow_88 rfl (lv_at hl 1 rfl) ?_
                refine va_get (D := G) (ci := 4) (v := .ref (b 2)) (C := RX4) (T := TX4) (N := 13) hx hb hts hX4 hown hK hP (0) wM_e0 rfl 3 (by decide) (hts (.fieldLink RX4 13 "DraftSurveyModel" "table" "[J") (by decide +kernel)) (fun _ h9 => h9) rfl dX4_addRow_89 ?_
                refine lv_iconst (v := 5) hx hb dX4_addRow_92 (by decide) ?_
                refine lv_aload_n hx hb dX4_addRow_93 rfl (lv_at hl 1 rfl) ?_
                refine va_get (D := G) (ci := 4) (v := .int (nI (g_n σ))) (C := RX4) (T := TX4) (N := 13) hx hb hts hX4 hown hK hP (0) wM_e0 rfl 2 (by decide) (hts (.fieldLink RX4 85 "DraftSurveyModel" "rows" "I") (by decide +kernel)) (fun _ h9 => h9) rfl dX4_addRow_94 ?_
                refine lv_imul hx hb dX4_addRow_97 ?_
                refine tp_i (v := nI (5 * (g_n σ))) (pk_mul 5 (g_n σ)) ?_
                refine lv_iload_n hx hb dX4_addRow_98 rfl (lv_at hl 0 rfl) ?_
                refine lv_iadd hx hb dX4_addRow_99 ?_
                refine tp_i (v := nI ((5 * (g_n σ)) + 3)) (nI_add (5 * (g_n σ)) 3) ?_
                refine lv_aload_n hx hb dX4_addRow_100 rfl (lv_at hl 1 rfl) ?_
                refine va_get (D := G) (ci := 4) (v := .ref (b 6)) (C := RX4) (T := TX4) (N := 13) hx hb hts hX4 hown hK hP (0) wM_e0 rfl 9 (by decide) (hts (.fieldLink RX4 32 "DraftSurveyModel" "read" "[J") (by decide +kernel)) (fun _ h9 => h9) rfl dX4_addRow_101 ?_
                refine lv_iload_n hx hb dX4_addRow_104 rfl (lv_at hl 0 rfl) ?_
                refine ar_l (k := 3) (v := f 3) hx hb hK hP (6) 1 wM_e6 rfl rfl (by decide) (by decide) rfl dX4_addRow_105 ?_
                refine as_l (k := ((5 * (g_n σ)) + 3)) hx hb hK hP hD hS (2) 1 wM_e2 rfl rfl (by omega) (by decide) dX4_addRow_106 (fun H locs hP hD hS => ?_)
                have hP : va_P G vwCl (wM C b (u_tb (u_tb (u_tb (u_tb σ (vp_updL (g_tb σ) ((5 * (g_n σ)) + 0) (f 0))) (vp_updL (vp_updL (g_tb σ) ((5 * (g_n σ)) + 0) (f 0)) ((5 * (g_n σ)) + 1) (f 1))) (vp_updL (vp_updL (vp_updL (g_tb σ) ((5 * (g_n σ)) + 0) (f 0)) ((5 * (g_n σ)) + 1) (f 1)) ((5 * (g_n σ)) + 2) (f 2))) (vp_updL (vp_updL (vp_updL (vp_updL (g_tb σ) ((5 * (g_n σ)) + 0) (f 0)) ((5 * (g_n σ)) + 1) (f 1)) ((5 * (g_n σ)) + 2) (f 2)) ((5 * (g_n σ)) + 3) (f 3))) (f, nI rr.1, (if (rr.1 = g_bl σ ∧ z_pl rr.2 = 4 ∧ 0 < z_dg rr.2) then 1 else 0), m_h ρ)) H := hP
                have hD : va_D A (wM C b (u_tb (u_tb (u_tb (u_tb σ (vp_updL (g_tb σ) ((5 * (g_n σ)) + 0) (f 0))) (vp_updL (vp_updL (g_tb σ) ((5 * (g_n σ)) + 0) (f 0)) ((5 * (g_n σ)) + 1) (f 1))) (vp_updL (vp_updL (vp_updL (g_tb σ) ((5 * (g_n σ)) + 0) (f 0)) ((5 * (g_n σ)) + 1) (f 1)) ((5 * (g_n σ)) + 2) (f 2))) (vp_updL (vp_updL (vp_updL (vp_updL (g_tb σ) ((5 * (g_n σ)) + 0) (f 0)) ((5 * (g_n σ)) + 1) (f 1)) ((5 * (g_n σ)) + 2) (f 2)) ((5 * (g_n σ)) + 3) (f 3))) (f, nI rr.1, (if (rr.1 = g_bl σ ∧ z_pl rr.2 = 4 ∧ 0 < z_dg rr.2) then 1 else 0), m_h ρ)) := hD
                refine lv_iinc (v := 4) (lv' := [(1, .int 4), (0, .ref (b 0))]) hx hb dX4_addRow_107 hl (k := 0) rfl (by decide) (by decide) rfl (fun ls hl => ?_)
                refine lv_goto (tgt := 83) hx hb dX4_addRow_110 (by decide) ?_
                refine lv_iload_n hx hb dX4_addRow_83 rfl (lv_at hl 0 rfl) ?_
                refine lv_iconst (v := 5) hx hb dX4_addRow_84 (by decide) ?_
                refine ic_ge (tgt := 113) hx hb dX4_addRow_85 (by decide) (fun c_8 => ?_) (fun c_8 => ?_)
                · skip
                  exact absurd c_8 (by decide)
                · skip
                  refine lv_aload_n hx hb dX4_addRow_88 rfl (lv_at hl 1 rfl) ?_
                  refine va_get (D := G) (ci := 4) (v := .ref (b 2)) (C := RX4) (T := TX4) (N := 13) hx hb hts hX4 hown hK hP (0) wM_e0 rfl 3 (by decide) (hts (.fieldLink RX4 13 "DraftSurveyModel" "table" "[J") (by decide +kernel)) (fun _ h9 => h9) rfl dX4_addRow_89 ?_
                  refine lv_iconst (v := 5) hx hb dX4_addRow_92 (by decide) ?_
                  refine lv_aload_n hx hb dX4_addRow_93 rfl (lv_at hl 1 rfl) ?_
                  refine va_get (D := G) (ci := 4) (v := .int (nI (g_n σ))) (C := RX4) (T := TX4) (N := 13) hx hb hts hX4 hown hK hP (0) wM_e0 rfl 2 (by decide) (hts (.fieldLink RX4 85 "DraftSurveyModel" "rows" "I") (by decide +kernel)) (fun _ h9 => h9) rfl dX4_addRow_94 ?_
                  refine lv_imul hx hb dX4_addRow_97 ?_
                  refine tp_i (v := nI (5 * (g_n σ))) (pk_mul 5 (g_n σ)) ?_
                  refine lv_iload_n hx hb dX4_addRow_98 rfl (lv_at hl 0 rfl) ?_
                  refine lv_iadd hx hb dX4_addRow_99 ?_
                  refine tp_i (v := nI ((5 * (g_n σ)) + 4)) (nI_add (5 * (g_n σ)) 4) ?_
                  refine lv_aload_n hx hb dX4_addRow_100 rfl (lv_at hl 1 rfl) ?_
                  refine va_get (D := G) (ci := 4) (v := .ref (b 6)) (C := RX4) (T := TX4) (N := 13) hx hb hts hX4 hown hK hP (0) wM_e0 rfl 9 (by decide) (hts (.fieldLink RX4 32 "DraftSurveyModel" "read" "[J") (by decide +kernel)) (fun _ h9 => h9) rfl dX4_addRow_101 ?_
                  refine lv_iload_n hx hb dX4_addRow_104 rfl (lv_at hl 0 rfl) ?_
                  refine ar_l (k := 4) (v := f 4) hx hb hK hP (6) 1 wM_e6 rfl rfl (by decide) (by decide) rfl dX4_addRow_105 ?_
                  refine as_l (k := ((5 * (g_n σ)) + 4)) hx hb hK hP hD hS (2) 1 wM_e2 rfl rfl (by omega) (by decide) dX4_addRow_106 (fun H locs hP hD hS => ?_)
                  have hP : va_P G vwCl (wM C b (u_tb (u_tb (u_tb (u_tb (u_tb σ (vp_updL (g_tb σ) ((5 * (g_n σ)) + 0) (f 0))) (vp_updL (vp_updL (g_tb σ) ((5 * (g_n σ)) + 0) (f 0)) ((5 * (g_n σ)) + 1) (f 1))) (vp_updL (vp_updL (vp_updL (g_tb σ) ((5 * (g_n σ)) + 0) (f 0)) ((5 * (g_n σ)) + 1) (f 1)) ((5 * (g_n σ)) + 2) (f 2))) (vp_updL (vp_updL (vp_updL (vp_updL (g_tb σ) ((5 * (g_n σ)) + 0) (f 0)) ((5 * (g_n σ)) + 1) (f 1)) ((5 * (g_n σ)) + 2) (f 2)) ((5 * (g_n σ)) + 3) (f 3))) (vp_updL (vp_updL (vp_updL (vp_updL (vp_updL (g_tb σ) ((5 * (g_n σ)) + 0) (f 0)) ((5 * (g_n σ)) + 1) (f 1)) ((5 * (g_n σ)) + 2) (f 2)) ((5 * (g_n σ)) + 3) (f 3)) ((5 * (g_n σ)) + 4) (f 4))) (f, nI rr.1, (if (rr.1 = g_bl σ ∧ z_pl rr.2 = 4 ∧ 0 < z_dg rr.2) then 1 else 0), m_h ρ)) H := hP
                  have hD : va_D A (wM C b (u_tb (u_tb (u_tb (u_tb (u_tb σ (vp_updL (g_tb σ) ((5 * (g_n σ)) + 0) (f 0))) (vp_updL (vp_updL (g_tb σ) ((5 * (g_n σ)) + 0) (f 0)) ((5 * (g_n σ)) + 1) (f 1))) (vp_updL (vp_updL (vp_updL (g_tb σ) ((5 * (g_n σ)) + 0) (f 0)) ((5 * (g_n σ)) + 1) (f 1)) ((5 * (g_n σ)) + 2) (f 2))) (vp_updL (vp_updL (vp_updL (vp_updL (g_tb σ) ((5 * (g_n σ)) + 0) (f 0)) ((5 * (g_n σ)) + 1) (f 1)) ((5 * (g_n σ)) + 2) (f 2)) ((5 * (g_n σ)) + 3) (f 3))) (vp_updL (vp_updL (vp_updL (vp_updL (vp_updL (g_tb σ) ((5 * (g_n σ)) + 0) (f 0)) ((5 * (g_n σ)) + 1) (f 1)) ((5 * (g_n σ)) + 2) (f 2)) ((5 * (g_n σ)) + 3) (f 3)) ((5 * (g_n σ)) + 4) (f 4))) (f, nI rr.1, (if (rr.1 = g_bl σ ∧ z_pl rr.2 = 4 ∧ 0 < z_dg rr.2) then 1 else 0), m_h ρ)) := hD
                  refine lv_iinc (v := 5) (lv' := [(1, .int 5), (0, .ref (b 0))]) hx hb dX4_addRow_107 hl (k := 0) rfl (by decide) (by decide) rfl (fun ls hl => ?_)
                  refine lv_goto (tgt := 83) hx hb dX4_addRow_110 (by decide) ?_
                  refine lv_iload_n hx hb dX4_addRow_83 rfl (lv_at hl 0 rfl) ?_
                  refine lv_iconst (v := 5) hx hb dX4_addRow_84 (by decide) ?_
                  refine ic_ge (tgt := 113) hx hb dX4_addRow_85 (by decide) (fun c_9 => ?_) (fun c_9 => ?_)
                  · skip
                    refine lv_aload_n hx hb dX4_addRow_113 rfl (lv_at hl 1 rfl) ?_
                    refine lv_dup hx hb dX4_addRow_114 rfl ?_
                    refine va_get (D := G) (ci := 4) (v := .int (nI (g_n σ))) (C := RX4) (T := TX4) (N := 13) hx hb hts hX4 hown hK hP (0) wM_e0 rfl 2 (by decide) (hts (.fieldLink RX4 85 "DraftSurveyModel" "rows" "I") (by decide +kernel)) (fun _ h9 => h9) rfl dX4_addRow_115 ?_
                    refine lv_iconst (v := 1) hx hb dX4_addRow_118 (by decide) ?_
                    refine lv_iadd hx hb dX4_addRow_119 ?_
                    refine tp_i (v := nI ((g_n σ) + 1)) (nI_add (g_n σ) 1) ?_
                    refine va_put (D := G) (ci := 4) (v := .int (nI ((g_n σ) + 1))) (ty := .int) (C := RX4) (T := TX4) (N := 13) hx hb hts hX4 tyX4 tyX4_ok nmX4 hown hK hP hD hS (0) wM_e0 rfl 2 (by decide) (hts (.fieldLink RX4 85 "DraftSurveyModel" "rows" "I") (by decide +kernel)) (fun _ h9 => h9) rfl (by decide +kernel) rfl rfl (Nat.le_of_ble_eq_true rfl) dX4_addRow_120 (fun H locs hP hD hS => ?_)
                    have hP : va_P G vwCl (wM C b (u_n (u_tb (u_tb (u_tb (u_tb (u_tb σ (vp_updL (g_tb σ) ((5 * (g_n σ)) + 0) (f 0))) (vp_updL (vp_updL (g_tb σ) ((5 * (g_n σ)) + 0) (f 0)) ((5 * (g_n σ)) + 1) (f 1))) (vp_updL (vp_updL (vp_updL (g_tb σ) ((5 * (g_n σ)) + 0) (f 0)) ((5 * (g_n σ)) + 1) (f 1)) ((5 * (g_n σ)) + 2) (f 2))) (vp_updL (vp_updL (vp_updL (vp_updL (g_tb σ) ((5 * (g_n σ)) + 0) (f 0)) ((5 * (g_n σ)) + 1) (f 1)) ((5 * (g_n σ)) + 2) (f 2)) ((5 * (g_n σ)) + 3) (f 3))) (vp_updL (vp_updL (vp_updL (vp_updL (vp_updL (g_tb σ) ((5 * (g_n σ)) + 0) (f 0)) ((5 * (g_n σ)) + 1) (f 1)) ((5 * (g_n σ)) + 2) (f 2)) ((5 * (g_n σ)) + 3) (f 3)) ((5 * (g_n σ)) + 4) (f 4))) ((g_n σ) + 1)) (f, nI rr.1, (if (rr.1 = g_bl σ ∧ z_pl rr.2 = 4 ∧ 0 < z_dg rr.2) then 1 else 0), m_h ρ)) H := hP
                    have hD : va_D A (wM C b (u_n (u_tb (u_tb (u_tb (u_tb (u_tb σ (vp_updL (g_tb σ) ((5 * (g_n σ)) + 0) (f 0))) (vp_updL (vp_updL (g_tb σ) ((5 * (g_n σ)) + 0) (f 0)) ((5 * (g_n σ)) + 1) (f 1))) (vp_updL (vp_updL (vp_updL (g_tb σ) ((5 * (g_n σ)) + 0) (f 0)) ((5 * (g_n σ)) + 1) (f 1)) ((5 * (g_n σ)) + 2) (f 2))) (vp_updL (vp_updL (vp_updL (vp_updL (g_tb σ) ((5 * (g_n σ)) + 0) (f 0)) ((5 * (g_n σ)) + 1) (f 1)) ((5 * (g_n σ)) + 2) (f 2)) ((5 * (g_n σ)) + 3) (f 3))) (vp_updL (vp_updL (vp_updL (vp_updL (vp_updL (g_tb σ) ((5 * (g_n σ)) + 0) (f 0)) ((5 * (g_n σ)) + 1) (f 1)) ((5 * (g_n σ)) + 2) (f 2)) ((5 * (g_n σ)) + 3) (f 3)) ((5 * (g_n σ)) + 4) (f 4))) ((g_n σ) + 1)) (f, nI rr.1, (if (rr.1 = g_bl σ ∧ z_pl rr.2 = 4 ∧ 0 < z_dg rr.2) then 1 else 0), m_h ρ)) := hD
                    refine lv_aload_n hx hb dX4_addRow_123 rfl (lv_at hl 1 rfl) ?_
                    refine lv_iconst (v := 0) hx hb dX4_addRow_124 (by decide) ?_
                    refine va_put (D := G) (ci := 4) (v := .int 0) (ty := .int) (C := RX4) (T := TX4) (N := 13) hx hb hts hX4 tyX4 tyX4_ok nmX4 hown hK hP hD hS (0) wM_e0 rfl 0 (by decide) (hts (.fieldLink RX4 47 "DraftSurveyModel" "bufferLength" "I") (by decide +kernel)) (fun _ h9 => h9) rfl (by decide +kernel) rfl rfl (Nat.le_of_ble_eq_true rfl) dX4_addRow_125 (fun H locs hP hD hS => ?_)
                    have hP : va_P G vwCl (wM C b (u_bl (u_n (u_tb (u_tb (u_tb (u_tb (u_tb σ (vp_updL (g_tb σ) ((5 * (g_n σ)) + 0) (f 0))) (vp_updL (vp_updL (g_tb σ) ((5 * (g_n σ)) + 0) (f 0)) ((5 * (g_n σ)) + 1) (f 1))) (vp_updL (vp_updL (vp_updL (g_tb σ) ((5 * (g_n σ)) + 0) (f 0)) ((5 * (g_n σ)) + 1) (f 1)) ((5 * (g_n σ)) + 2) (f 2))) (vp_updL (vp_updL (vp_updL (vp_updL (g_tb σ) ((5 * (g_n σ)) + 0) (f 0)) ((5 * (g_n σ)) + 1) (f 1)) ((5 * (g_n σ)) + 2) (f 2)) ((5 * (g_n σ)) + 3) (f 3))) (vp_updL (vp_updL (vp_updL (vp_updL (vp_updL (g_tb σ) ((5 * (g_n σ)) + 0) (f 0)) ((5 * (g_n σ)) + 1) (f 1)) ((5 * (g_n σ)) + 2) (f 2)) ((5 * (g_n σ)) + 3) (f 3)) ((5 * (g_n σ)) + 4) (f 4))) ((g_n σ) + 1)) 0) (f, nI rr.1, (if (rr.1 = g_bl σ ∧ z_pl rr.2 = 4 ∧ 0 < z_dg rr.2) then 1 else 0), m_h ρ)) H := hP
                    have hD : va_D A (wM C b (u_bl (u_n (u_tb (u_tb (u_tb (u_tb (u_tb σ (vp_updL (g_tb σ) ((5 * (g_n σ)) + 0) (f 0))) (vp_updL (vp_updL (g_tb σ) ((5 * (g_n σ)) + 0) (f 0)) ((5 * (g_n σ)) + 1) (f 1))) (vp_updL (vp_updL (vp_updL (g_tb σ) ((5 * (g_n σ)) + 0) (f 0)) ((5 * (g_n σ)) + 1) (f 1)) ((5 * (g_n σ)) + 2) (f 2))) (vp_updL (vp_updL (vp_updL (vp_updL (g_tb σ) ((5 * (g_n σ)) + 0) (f 0)) ((5 * (g_n σ)) + 1) (f 1)) ((5 * (g_n σ)) + 2) (f 2)) ((5 * (g_n σ)) + 3) (f 3))) (vp_updL (vp_updL (vp_updL (vp_updL (vp_updL (g_tb σ) ((5 * (g_n σ)) + 0) (f 0)) ((5 * (g_n σ)) + 1) (f 1)) ((5 * (g_n σ)) + 2) (f 2)) ((5 * (g_n σ)) + 3) (f 3)) ((5 * (g_n σ)) + 4) (f 4))) ((g_n σ) + 1)) 0) (f, nI rr.1, (if (rr.1 = g_bl σ ∧ z_pl rr.2 = 4 ∧ 0 < z_dg rr.2) then 1 else 0), m_h ρ)) := hD
                    refine lv_aload_n hx hb dX4_addRow_128 rfl (lv_at hl 1 rfl) ?_
                    refine va_get (D := G) (ci := 4) (v := .int (nI ((g_n σ) + 1))) (C := RX4) (T := TX4) (N := 13) hx hb hts hX4 hown hK hP (0) wM_e0 rfl 2 (by decide) (hts (.fieldLink RX4 85 "DraftSurveyModel" "rows" "I") (by decide +kernel)) (fun _ h9 => h9) rfl dX4_addRow_129 ?_
                    refine lv_i2l (v := lN ((g_n σ) + 1)) hx hb dX4_addRow_132 (nI_l (by omega)) ?_
                    refine wr_lret hx hb hr hlocks hAe hP hD hS ?_ dX4_addRow_133
                    exact ⟨congrArg (fun z => some (Value.long z)) ((if_pos (show whN σ from ⟨by rw [← r_s]; exact c_1.1, by rw [← r_p]; exact c_1.2.1, by rw [← r_d]; exact c_1.2.2⟩)).trans ((if_pos (show g_n σ < 10 by omega)).trans (if_pos (show ascN σ from Or.inl (by omega))))).symm, (f, nI rr.1, (if (rr.1 = g_bl σ ∧ z_pl rr.2 = 4 ∧ 0 < z_dg rr.2) then 1 else 0), m_h ρ), congrArg (fun z => wM C b z (f, nI rr.1, (if (rr.1 = g_bl σ ∧ z_pl rr.2 = 4 ∧ 0 < z_dg rr.2) then 1 else 0), m_h ρ)) ((congrArg (fun t => u_bl (u_n (u_tb σ t) (g_n σ + 1)) 0) (putR_eq (r_f (show whN σ from ⟨by rw [← r_s]; exact c_1.1, by rw [← r_p]; exact c_1.2.1, by rw [← r_d]; exact c_1.2.2⟩)))).trans ((if_pos (show whN σ from ⟨by rw [← r_s]; exact c_1.1, by rw [← r_p]; exact c_1.2.1, by rw [← r_d]; exact c_1.2.2⟩)).trans ((if_pos (show g_n σ < 10 by omega)).trans (if_pos (show ascN σ from Or.inl (by omega))))).symm)⟩
                  · skip
                    exact absurd c_9 (by decide)
      · skip
        have c_3 : 0 < (g_n σ) := (nI_ltI (a := 0) (b := (g_n σ)) (by omega) (by omega)).mp c_3
        refine lv_aload_n hx hb dX4_addRow_35 rfl (lv_at hl 0 rfl) ?_
        refine va_get (D := G) (ci := 4) (v := .ref (b 6)) (C := RX4) (T := TX4) (N := 13) hx hb hts hX4 hown hK hP (0) wM_e0 rfl 9 (by decide) (hts (.fieldLink RX4 32 "DraftSurveyModel" "read" "[J") (by decide +kernel)) (fun _ h9 => h9) rfl dX4_addRow_36 ?_
        refine lv_iconst (v := 0) hx hb dX4_addRow_39 (by decide) ?_
        refine ar_l (k := 0) (v := f 0) hx hb hK hP (6) 1 wM_e6 rfl rfl (by decide) (by decide) rfl dX4_addRow_40 ?_
        refine lv_aload_n hx hb dX4_addRow_41 rfl (lv_at hl 0 rfl) ?_
        refine lv_aload_n hx hb dX4_addRow_42 rfl (lv_at hl 0 rfl) ?_
        refine va_get (D := G) (ci := 4) (v := .int (nI (g_n σ))) (C := RX4) (T := TX4) (N := 13) hx hb hts hX4 hown hK hP (0) wM_e0 rfl 2 (by decide) (hts (.fieldLink RX4 85 "DraftSurveyModel" "rows" "I") (by decide +kernel)) (fun _ h9 => h9) rfl dX4_addRow_43 ?_
        refine lv_iconst (v := 1) hx hb dX4_addRow_46 (by decide) ?_
        refine lv_isub hx hb dX4_addRow_47 ?_
        refine tp_i (v := nI ((g_n σ) - 1)) (pk_sub (a := (g_n σ)) (b := 1) (by omega)) ?_
        refine lv_iconst (v := 0) hx hb dX4_addRow_48 (by decide) ?_
        refine rd_callV (As := [.int (nI ((g_n σ) - 1)), .int 0]) (rest := [.long (f 0)]) ⟨hx, hb, hml, hown, hts⟩ (m_cell l G C b σ (f, nI rr.1, (if (rr.1 = g_bl σ ∧ z_pl rr.2 = 4 ∧ 0 < z_dg rr.2) then 1 else 0), m_h ρ) (r := ((g_n σ) - 1)) (q := 0) (by omega) (by omega)) (cwV 2 hts gX4_addRow_X4_cell rfl rfl rfl (by decide +kernel) ⟨Nat.le_of_ble_eq_true rfl, Nat.le_of_ble_eq_true rfl⟩) hK hN hP (0) 4 wM_e0 rfl rfl rfl hl.1 rfl (Nat.le_of_ble_eq_true rfl) dX4_addRow_49 ⟨Nat.zero_le _, Nat.zero_le _⟩ ?_
        refine lc_le (tgt := 77) hx hb dX4_addRow_52 dX4_addRow_53 (by decide) (fun c_10 => ?_) (fun c_10 => ?_)
        · skip
          refine lv_ldc2 (v := (-9000000000000000005)) hx hb hown (hts (.constantLong RX4 92 (-9000000000000000005)) (by decide +kernel)) dX4_addRow_77 ?_
          refine wr_lret hx hb hr hlocks hAe hP hD hS ?_ dX4_addRow_80
          exact ⟨congrArg (fun z => some (Value.long z)) ((if_pos (show whN σ from ⟨by rw [← r_s]; exact c_1.1, by rw [← r_p]; exact c_1.2.1, by rw [← r_d]; exact c_1.2.2⟩)).trans ((if_pos (show g_n σ < 10 by omega)).trans (if_neg (fun q => by have r0 := r_f (show whN σ from ⟨by rw [← r_s]; exact c_1.1, by rw [← r_p]; exact c_1.2.1, by rw [← r_d]; exact c_1.2.2⟩) 0 (by decide); have r1 := r_f (show whN σ from ⟨by rw [← r_s]; exact c_1.1, by rw [← r_p]; exact c_1.2.1, by rw [← r_d]; exact c_1.2.2⟩) 1 (by decide); have q : ascN σ := q; unfold ascN at q; rw [← r0, ← r1] at q; exact c_10 (q.resolve_left (by omega)).1)))).symm, (f, nI rr.1, (if (rr.1 = g_bl σ ∧ z_pl rr.2 = 4 ∧ 0 < z_dg rr.2) then 1 else 0), m_h ρ), congrArg (fun z => wM C b z (f, nI rr.1, (if (rr.1 = g_bl σ ∧ z_pl rr.2 = 4 ∧ 0 < z_dg rr.2) then 1 else 0), m_h ρ)) ((if_pos (show whN σ from ⟨by rw [← r_s]; exact c_1.1, by rw [← r_p]; exact c_1.2.1, by rw [← r_d]; exact c_1.2.2⟩)).trans ((if_pos (show g_n σ < 10 by omega)).trans (if_neg (fun q => by have r0 := r_f (show whN σ from ⟨by rw [← r_s]; exact c_1.1, by rw [← r_p]; exact c_1.2.1, by rw [← r_d]; exact c_1.2.2⟩) 0 (by decide); have r1 := r_f (show whN σ from ⟨by rw [← r_s]; exact c_1.1, by rw [← r_p]; exact c_1.2.1, by rw [← r_d]; exact c_1.2.2⟩) 1 (by decide); have q : ascN σ := q; unfold ascN at q; rw [← r0, ← r1] at q; exact c_10 (q.resolve_left (by omega)).1)))).symm⟩
        · skip
          refine lv_aload_n hx hb dX4_addRow_56 rfl (lv_at hl 0 rfl) ?_
          refine va_get (D := G) (ci := 4) (v := .ref (b 6)) (C := RX4) (T := TX4) (N := 13) hx hb hts hX4 hown hK hP (0) wM_e0 rfl 9 (by decide) (hts (.fieldLink RX4 32 "DraftSurveyModel" "read" "[J") (by decide +kernel)) (fun _ h9 => h9) rfl dX4_addRow_57 ?_
          refine lv_iconst (v := 1) hx hb dX4_addRow_60 (by decide) ?_
          refine ar_l (k := 1) (v := f 1) hx hb hK hP (6) 1 wM_e6 rfl rfl (by decide) (by decide) rfl dX4_addRow_61 ?_
          refine lv_aload_n hx hb dX4_addRow_62 rfl (lv_at hl 0 rfl) ?_
          refine lv_aload_n hx hb dX4_addRow_63 rfl (lv_at hl 0 rfl) ?_
          refine va_get (D := G) (ci := 4) (v := .int (nI (g_n σ))) (C := RX4) (T := TX4) (N := 13) hx hb hts hX4 hown hK hP (0) wM_e0 rfl 2 (by decide) (hts (.fieldLink RX4 85 "DraftSurveyModel" "rows" "I") (by decide +kernel)) (fun _ h9 => h9) rfl dX4_addRow_64 ?_
          refine lv_iconst (v := 1) hx hb dX4_addRow_67 (by decide) ?_
          refine lv_isub hx hb dX4_addRow_68 ?_
          refine tp_i (v := nI ((g_n σ) - 1)) (pk_sub (a := (g_n σ)) (b := 1) (by omega)) ?_
          refine lv_iconst (v := 1) hx hb dX4_addRow_69 (by decide) ?_
          refine rd_callV (As := [.int (nI ((g_n σ) - 1)), .int 1]) (rest := [.long (f 1)]) ⟨hx, hb, hml, hown, hts⟩ (m_cell l G C b σ (f, nI rr.1, (if (rr.1 = g_bl σ ∧ z_pl rr.2 = 4 ∧ 0 < z_dg rr.2) then 1 else 0), m_h ρ) (r := ((g_n σ) - 1)) (q := 1) (by omega) (by omega)) (cwV 2 hts gX4_addRow_X4_cell rfl rfl rfl (by decide +kernel) ⟨Nat.le_of_ble_eq_true rfl, Nat.le_of_ble_eq_true rfl⟩) hK hN hP (0) 4 wM_e0 rfl rfl rfl hl.1 rfl (Nat.le_of_ble_eq_true rfl) dX4_addRow_70 ⟨Nat.zero_le _, Nat.zero_le _⟩ ?_
          refine lc_ge (tgt := 81) hx hb dX4_addRow_73 dX4_addRow_74 (by decide) (fun c_11 => ?_) (fun c_11 => ?_)
          · skip
            refine lv_iconst (v := 0) hx hb dX4_addRow_81 (by decide) ?_
            refine lv_istore_n (lv' := [(1, .int 0), (0, .ref (b 0))]) hx hb dX4_addRow_82 rfl hl (by decide) rfl (fun ls hl => ?_)
            refine lv_iload_n hx hb dX4_addRow_83 rfl (lv_at hl 0 rfl) ?_
            refine lv_iconst (v := 5) hx hb dX4_addRow_84 (by decide) ?_
            refine ic_ge (tgt := 113) hx hb dX4_addRow_85 (by decide) (fun c_12 => ?_) (fun c_12 => ?_)
            · skip
              exact absurd c_12 (by decide)
            · skip
              refine lv_aload_n hx hb dX4_addRow_88 rfl (lv_at hl 1 rfl) ?_
              refine va_get (D := G) (ci := 4) (v := .ref (b 2)) (C := RX4) (T := TX4) (N := 13) hx hb hts hX4 hown hK hP (0) wM_e0 rfl 3 (by decide) (hts (.fieldLink RX4 13 "DraftSurveyModel" "table" "[J") (by decide +kernel)) (fun _ h9 => h9) rfl dX4_addRow_89 ?_
              refine lv_iconst (v := 5) hx hb dX4_addRow_92 (by decide) ?_
              refine lv_aload_n hx hb dX4_addRow_93 rfl (lv_at hl 1 rfl) ?_
              refine va_get (D := G) (ci := 4) (v := .int (nI (g_n σ))) (C := RX4) (T := TX4) (N := 13) hx hb hts hX4 hown hK hP (0) wM_e0 rfl 2 (by decide) (hts (.fieldLink RX4 85 "DraftSurveyModel" "rows" "I") (by decide +kernel)) (fun _ h9 => h9) rfl dX4_addRow_94 ?_
              refine lv_imul hx hb dX4_addRow_97 ?_
              refine tp_i (v := nI (5 * (g_n σ))) (pk_mul 5 (g_n σ)) ?_
              refine lv_iload_n hx hb dX4_addRow_98 rfl (lv_at hl 0 rfl) ?_
              refine lv_iadd hx hb dX4_addRow_99 ?_
              refine tp_i (v := nI ((5 * (g_n σ)) + 0)) (nI_add (5 * (g_n σ)) 0) ?_
              refine lv_aload_n hx hb dX4_addRow_100 rfl (lv_at hl 1 rfl) ?_
              refine va_get (D := G) (ci := 4) (v := .ref (b 6)) (C := RX4) (T := TX4) (N := 13) hx hb hts hX4 hown hK hP (0) wM_e0 rfl 9 (by decide) (hts (.fieldLink RX4 32 "DraftSurveyModel" "read" "[J") (by decide +kernel)) (fun _ h9 => h9) rfl dX4_addRow_101 ?_
              refine lv_iload_n hx hb dX4_addRow_104 rfl (lv_at hl 0 rfl) ?_
              refine ar_l (k := 0) (v := f 0) hx hb hK hP (6) 1 wM_e6 rfl rfl (by decide) (by decide) rfl dX4_addRow_105 ?_
              refine as_l (k := ((5 * (g_n σ)) + 0)) hx hb hK hP hD hS (2) 1 wM_e2 rfl rfl (by omega) (by decide) dX4_addRow_106 (fun H locs hP hD hS => ?_)
              have hP : va_P G vwCl (wM C b (u_tb σ (vp_updL (g_tb σ) ((5 * (g_n σ)) + 0) (f 0))) (f, nI rr.1, (if (rr.1 = g_bl σ ∧ z_pl rr.2 = 4 ∧ 0 < z_dg rr.2) then 1 else 0), m_h ρ)) H := hP
              have hD : va_D A (wM C b (u_tb σ (vp_updL (g_tb σ) ((5 * (g_n σ)) + 0) (f 0))) (f, nI rr.1, (if (rr.1 = g_bl σ ∧ z_pl rr.2 = 4 ∧ 0 < z_dg rr.2) then 1 else 0), m_h ρ)) := hD
              refine lv_iinc (v := 1) (lv' := [(1, .int 1), (0, .ref (b 0))]) hx hb dX4_addRow_107 hl (k := 0) rfl (by decide) (by decide) rfl (fun ls hl => ?_)
              refine lv_goto (tgt := 83) hx hb dX4_addRow_110 (by decide) ?_
              refine lv_iload_n hx hb dX4_addRow_83 rfl (lv_at hl 0 rfl) ?_
              refine lv_iconst (v := 5) hx hb dX4_addRow_84 (by decide) ?_
              refine ic_ge (tgt := 113) hx hb dX4_addRow_85 (by decide) (fun c_13 => ?_) (fun c_13 => ?_)
              · skip
                exact absurd c_13 (by decide)
              · skip
                refine lv_aload_n hx hb dX4_addRow_88 rfl (lv_at hl 1 rfl) ?_
                refine va_get (D := G) (ci := 4) (v := .ref (b 2)) (C := RX4) (T := TX4) (N := 13) hx hb hts hX4 hown hK hP (0) wM_e0 rfl 3 (by decide) (hts (.fieldLink RX4 13 "DraftSurveyModel" "table" "[J") (by decide +kernel)) (fun _ h9 => h9) rfl dX4_addRow_89 ?_
                refine lv_iconst (v := 5) hx hb dX4_addRow_92 (by decide) ?_
                refine lv_aload_n hx hb dX4_addRow_93 rfl (lv_at hl 1 rfl) ?_
                refine va_get (D := G) (ci := 4) (v := .int (nI (g_n σ))) (C := RX4) (T := TX4) (N := 13) hx hb hts hX4 hown hK hP (0) wM_e0 rfl 2 (by decide) (hts (.fieldLink RX4 85 "DraftSurveyModel" "rows" "I") (by decide +kernel)) (fun _ h9 => h9) rfl dX4_addRow_94 ?_
                refine lv_imul hx hb dX4_addRow_97 ?_
                refine tp_i (v := nI (5 * (g_n σ))) (pk_mul 5 (g_n σ)) ?_
                refine lv_iload_n hx hb dX4_addRow_98 rfl (lv_at hl 0 rfl) ?_
                refine lv_iadd hx hb dX4_addRow_99 ?_
                refine tp_i (v := nI ((5 * (g_n σ)) + 1)) (nI_add (5 * (g_n σ)) 1) ?_
                refine lv_aload_n hx hb dX4_addRow_100 rfl (lv_at hl 1 rfl) ?_
                refine va_get (D := G) (ci := 4) (v := .ref (b 6)) (C := RX4) (T := TX4) (N := 13) hx hb hts hX4 hown hK hP (0) wM_e0 rfl 9 (by decide) (hts (.fieldLink RX4 32 "DraftSurveyModel" "read" "[J") (by decide +kernel)) (fun _ h9 => h9) rfl dX4_addRow_101 ?_
                refine lv_iload_n hx hb dX4_addRow_104 rfl (lv_at hl 0 rfl) ?_
                refine ar_l (k := 1) (v := f 1) hx hb hK hP (6) 1 wM_e6 rfl rfl (by decide) (by decide) rfl dX4_addRow_105 ?_
                refine as_l (k := ((5 * (g_n σ)) + 1)) hx hb hK hP hD hS (2) 1 wM_e2 rfl rfl (by omega) (by decide) dX4_addRow_106 (fun H locs hP hD hS => ?_)
                have hP : va_P G vwCl (wM C b (u_tb (u_tb σ (vp_updL (g_tb σ) ((5 * (g_n σ)) + 0) (f 0))) (vp_updL (vp_updL (g_tb σ) ((5 * (g_n σ)) + 0) (f 0)) ((5 * (g_n σ)) + 1) (f 1))) (f, nI rr.1, (if (rr.1 = g_bl σ ∧ z_pl rr.2 = 4 ∧ 0 < z_dg rr.2) then 1 else 0), m_h ρ)) H := hP
                have hD : va_D A (wM C b (u_tb (u_tb σ (vp_updL (g_tb σ) ((5 * (g_n σ)) + 0) (f 0))) (vp_updL (vp_updL (g_tb σ) ((5 * (g_n σ)) + 0) (f 0)) ((5 * (g_n σ)) + 1) (f 1))) (f, nI rr.1, (if (rr.1 = g_bl σ ∧ z_pl rr.2 = 4 ∧ 0 < z_dg rr.2) then 1 else 0), m_h ρ)) := hD
                refine lv_iinc (v := 2) (lv' := [(1, .int 2), (0, .ref (b 0))]) hx hb dX4_addRow_107 hl (k := 0) rfl (by decide) (by decide) rfl (fun ls hl => ?_)
                refine lv_goto (tgt := 83) hx hb dX4_addRow_110 (by decide) ?_
                refine lv_iload_n hx hb dX4_addRow_83 rfl (lv_at hl 0 rfl) ?_
                refine lv_iconst (v := 5) hx hb dX4_addRow_84 (by decide) ?_
                refine ic_ge (tgt := 113) hx hb dX4_addRow_85 (by decide) (fun c_14 => ?_) (fun c_14 => ?_)
                · skip
                  exact absurd c_14 (by decide)
                · skip
                  refine lv_aload_n hx hb dX4_addRow_88 rfl (lv_at hl 1 rfl) ?_
                  refine va_get (D := G) (ci := 4) (v := .ref (b 2)) (C := RX4) (T := TX4) (N := 13) hx hb hts hX4 hown hK hP (0) wM_e0 rfl 3 (by decide) (hts (.fieldLink RX4 13 "DraftSurveyModel" "table" "[J") (by decide +kernel)) (fun _ h9 => h9) rfl dX4_addRow_89 ?_
                  refine lv_iconst (v := 5) hx hb dX4_addRow_92 (by decide) ?_
                  refine lv_aload_n hx hb dX4_addRow_93 rfl (lv_at hl 1 rfl) ?_
                  refine va_get (D := G) (ci := 4) (v := .int (nI (g_n σ))) (C := RX4) (T := TX4) (N := 13) hx hb hts hX4 hown hK hP (0) wM_e0 rfl 2 (by decide) (hts (.fieldLink RX4 85 "DraftSurveyModel" "rows" "I") (by decide +kernel)) (fun _ h9 => h9) rfl dX4_addRow_94 ?_
                  refine lv_imul hx hb dX4_addRow_97 ?_
                  refine tp_i (v := nI (5 * (g_n σ))) (pk_mul 5 (g_n σ)) ?_
                  refine lv_iload_n hx hb dX4_addRow_98 rfl (lv_at hl 0 rfl) ?_
                  refine lv_iadd hx hb dX4_addRow_99 ?_
                  refine tp_i (v := nI ((5 * (g_n σ)) + 2)) (nI_add (5 * (g_n σ)) 2) ?_
                  refine lv_aload_n hx hb dX4_addRow_100 rfl (lv_at hl 1 rfl) ?_
                  refine va_get (D := G) (ci := 4) (v := .ref (b 6)) (C := RX4) (T := TX4) (N := 13) hx hb hts hX4 hown hK hP (0) wM_e0 rfl 9 (by decide) (hts (.fieldLink RX4 32 "DraftSurveyModel" "read" "[J") (by decide +kernel)) (fun _ h9 => h9) rfl dX4_addRow_101 ?_
                  refine lv_iload_n hx hb dX4_addRow_104 rfl (lv_at hl 0 rfl) ?_
                  refine ar_l (k := 2) (v := f 2) hx hb hK hP (6) 1 wM_e6 rfl rfl (by decide) (by decide) rfl dX4_addRow_105 ?_
                  refine as_l (k := ((5 * (g_n σ)) + 2)) hx hb hK hP hD hS (2) 1 wM_e2 rfl rfl (by omega) (by decide) dX4_addRow_106 (fun H locs hP hD hS => ?_)
                  have hP : va_P G vwCl (wM C b (u_tb (u_tb (u_tb σ (vp_updL (g_tb σ) ((5 * (g_n σ)) + 0) (f 0))) (vp_updL (vp_updL (g_tb σ) ((5 * (g_n σ)) + 0) (f 0)) ((5 * (g_n σ)) + 1) (f 1))) (vp_updL (vp_updL (vp_updL (g_tb σ) ((5 * (g_n σ)) + 0) (f 0)) ((5 * (g_n σ)) + 1) (f 1)) ((5 * (g_n σ)) + 2) (f 2))) (f, nI rr.1, (if (rr.1 = g_bl σ ∧ z_pl rr.2 = 4 ∧ 0 < z_dg rr.2) then 1 else 0), m_h ρ)) H := hP
                  have hD : va_D A (wM C b (u_tb (u_tb (u_tb σ (vp_updL (g_tb σ) ((5 * (g_n σ)) + 0) (f 0))) (vp_updL (vp_updL (g_tb σ) ((5 * (g_n σ)) + 0) (f 0)) ((5 * (g_n σ)) + 1) (f 1))) (vp_updL (vp_updL (vp_updL (g_tb σ) ((5 * (g_n σ)) + 0) (f 0)) ((5 * (g_n σ)) + 1) (f 1)) ((5 * (g_n σ)) + 2) (f 2))) (f, nI rr.1, (if (rr.1 = g_bl σ ∧ z_pl rr.2 = 4 ∧ 0 < z_dg rr.2) then 1 else 0), m_h ρ)) := hD
                  refine lv_iinc (v := 3) (lv' := [(1, .int 3), (0, .ref (b 0))]) hx hb dX4_addRow_107 hl (k := 0) rfl (by decide) (by decide) rfl (fun ls hl => ?_)
                  refine lv_goto (tgt := 83) hx hb dX4_addRow_110 (by decide) ?_
                  refine lv_iload_n hx hb dX4_addRow_83 rfl (lv_at hl 0 rfl) ?_
                  refine lv_iconst (v := 5) hx hb dX4_addRow_84 (by decide) ?_
                  refine ic_ge (tgt := 113) hx hb dX4_addRow_85 (by decide) (fun c_15 => ?_) (fun c_15 => ?_)
                  · skip
                    exact absurd c_15 (by decide)
                  · skip
                    refine lv_aload_n hx hb dX4_addRow_88 rfl (lv_at hl 1 rfl) ?_
                    refine va_get (D := G) (ci := 4) (v := .ref (b 2)) (C := RX4) (T := TX4) (N := 13) hx hb hts hX4 hown hK hP (0) wM_e0 rfl 3 (by decide) (hts (.fieldLink RX4 13 "DraftSurveyModel" "table" "[J") (by decide +kernel)) (fun _ h9 => h9) rfl dX4_addRow_89 ?_
                    refine lv_iconst (v := 5) hx hb dX4_addRow_92 (by decide) ?_
                    refine lv_aload_n hx hb dX4_addRow_93 rfl (lv_at hl 1 rfl) ?_
                    refine va_get (D := G) (ci := 4) (v := .int (nI (g_n σ))) (C := RX4) (T := TX4) (N := 13) hx hb hts hX4 hown hK hP (0) wM_e0 rfl 2 (by decide) (hts (.fieldLink RX4 85 "DraftSurveyModel" "rows" "I") (by decide +kernel)) (fun _ h9 => h9) rfl dX4_addRow_94 ?_
                    refine lv_imul hx hb dX4_addRow_97 ?_
                    refine tp_i (v := nI (5 * (g_n σ))) (pk_mul 5 (g_n σ)) ?_
                    refine lv_iload_n hx hb dX4_addRow_98 rfl (lv_at hl 0 rfl) ?_
                    refine lv_iadd hx hb dX4_addRow_99 ?_
                    refine tp_i (v := nI ((5 * (g_n σ)) + 3)) (nI_add (5 * (g_n σ)) 3) ?_
                    refine lv_aload_n hx hb dX4_addRow_100 rfl (lv_at hl 1 rfl) ?_
                    refine va_get (D := G) (ci := 4) (v := .ref (b 6)) (C := RX4) (T := TX4) (N := 13) hx hb hts hX4 hown hK hP (0) wM_e0 rfl 9 (by decide) (hts (.fieldLink RX4 32 "DraftSurveyModel" "read" "[J") (by decide +kernel)) (fun _ h9 => h9) rfl dX4_addRow_101 ?_
                    refine lv_iload_n hx hb dX4_addRow_104 rfl (lv_at hl 0 rfl) ?_
                    refine ar_l (k := 3) (v := f 3) hx hb hK hP (6) 1 wM_e6 rfl rfl (by decide) (by decide) rfl dX4_addRow_105 ?_
                    refine as_l (k := ((5 * (g_n σ)) + 3)) hx hb hK hP hD hS (2) 1 wM_e2 rfl rfl (by omega) (by decide) dX4_addRow_106 (fun H locs hP hD hS => ?_)
                    have hP : va_P G vwCl (wM C b (u_tb (u_tb (u_tb (u_tb σ (vp_updL (g_tb σ) ((5 * (g_n σ)) + 0) (f 0))) (vp_updL (vp_updL (g_tb σ) ((5 * (g_n σ)) + 0) (f 0)) ((5 * (g_n σ)) + 1) (f 1))) (vp_updL (vp_updL (vp_updL (g_tb σ) ((5 * (g_n σ)) + 0) (f 0)) ((5 * (g_n σ)) + 1) (f 1)) ((5 * (g_n σ)) + 2) (f 2))) (vp_updL (vp_updL (vp_updL (vp_updL (g_tb σ) ((5 * (g_n σ)) + 0) (f 0)) ((5 * (g_n σ)) + 1) (f 1)) ((5 * (g_n σ)) + 2) (f 2)) ((5 * (g_n σ)) + 3) (f 3))) (f, nI rr.1, (if (rr.1 = g_bl σ ∧ z_pl rr.2 = 4 ∧ 0 < z_dg rr.2) then 1 else 0), m_h ρ)) H := hP
                    have hD : va_D A (wM C b (u_tb (u_tb (u_tb (u_tb σ (vp_updL (g_tb σ) ((5 * (g_n σ)) + 0) (f 0))) (vp_updL (vp_updL (g_tb σ) ((5 * (g_n σ)) + 0) (f 0)) ((5 * (g_n σ)) + 1) (f 1))) (vp_updL (vp_updL (vp_updL (g_tb σ) ((5 * (g_n σ)) + 0) (f 0)) ((5 * (g_n σ)) + 1) (f 1)) ((5 * (g_n σ)) + 2) (f 2))) (vp_updL (vp_updL (vp_updL (vp_updL (g_tb σ) ((5 * (g_n σ)) + 0) (f 0)) ((5 * (g_n σ)) + 1) (f 1)) ((5 * (g_n σ)) + 2) (f 2)) ((5 * (g_n σ)) + 3) (f 3))) (f, nI rr.1, (if (rr.1 = g_bl σ ∧ z_pl rr.2 = 4 ∧ 0 < z_dg rr.2) then 1 else 0), m_h ρ)) := hD
                    refine lv_iinc (v := 4) (lv' := [(1, .int 4), (0, .ref (b 0))]) hx hb dX4_addRow_107 hl (k := 0) rfl (by decide) (by decide) rfl (fun ls hl => ?_)
                    refine lv_goto (tgt := 83) hx hb dX4_addRow_110 (by decide) ?_
                    refine lv_iload_n hx hb dX4_addRow_83 rfl (lv_at hl 0 rfl) ?_
                    refine lv_iconst (v := 5) hx hb dX4_addRow_84 (by decide) ?_
                    refine ic_ge (tgt := 113) hx hb dX4_addRow_85 (by decide) (fun c_16 => ?_) (fun c_16 => ?_)
                    · skip
                      exact absurd c_16 (by decide)
                    · skip
                      refine lv_aload_n hx hb dX4_addRow_88 rfl (lv_at hl 1 rfl) ?_
                      refine va_get (D := G) (ci := 4) (v := .ref (b 2)) (C := RX4) (T := TX4) (N := 13) hx hb hts hX4 hown hK hP (0) wM_e0 rfl 3 (by decide) (hts (.fieldLink RX4 13 "DraftSurveyModel" "table" "[J") (by decide +kernel)) (fun _ h9 => h9) rfl dX4_addRow_89 ?_
                      refine lv_iconst (v := 5) hx hb dX4_addRow_92 (by decide) ?_
                      refine lv_aload_n hx hb dX4_addRow_93 rfl (lv_at hl 1 rfl) ?_
                      refine va_get (D := G) (ci := 4) (v := .int (nI (g_n σ))) (C := RX4) (T := TX4) (N := 13) hx hb hts hX4 hown hK hP (0) wM_e0 rfl 2 (by decide) (hts (.fieldLink RX4 85 "DraftSurveyModel" "rows" "I") (by decide +kernel)) (fun _ h9 => h9) rfl dX4_addRow_94 ?_
                      refine lv_imul hx hb dX4_addRow_97 ?_
                      refine tp_i (v := nI (5 * (g_n σ))) (pk_mul 5 (g_n σ)) ?_
                      refine lv_iload_n hx hb dX4_addRow_98 rfl (lv_at hl 0 rfl) ?_
                      refine lv_iadd hx hb dX4_addRow_99 ?_
                      refine tp_i (v := nI ((5 * (g_n σ)) + 4)) (nI_add (5 * (g_n σ)) 4) ?_
                      refine lv_aload_n hx hb dX4_addRow_100 rfl (lv_at hl 1 rfl) ?_
                      refine va_get (D := G) (ci := 4) (v := .ref (b 6)) (C := RX4) (T := TX4) (N := 13) hx hb hts hX4 hown hK hP (0) wM_e0 rfl 9 (by decide) (hts (.fieldLink RX4 32 "DraftSurveyModel" "read" "[J") (by decide +kernel)) (fun _ h9 => h9) rfl dX4_addRow_101 ?_
                      refine lv_iload_n hx hb dX4_addRow_104 rfl (lv_at hl 0 rfl) ?_
                      refine ar_l (k := 4) (v := f 4) hx hb hK hP (6) 1 wM_e6 rfl rfl (by decide) (by decide) rfl dX4_addRow_105 ?_
                      refine as_l (k := ((5 * (g_n σ)) + 4)) hx hb hK hP hD hS (2) 1 wM_e2 rfl rfl (by omega) (by decide) dX4_addRow_106 (fun H locs hP hD hS => ?_)
                      have hP : va_P G vwCl (wM C b (u_tb (u_tb (u_tb (u_tb (u_tb σ (vp_updL (g_tb σ) ((5 * (g_n σ)) + 0) (f 0))) (vp_updL (vp_updL (g_tb σ) ((5 * (g_n σ)) + 0) (f 0)) ((5 * (g_n σ)) + 1) (f 1))) (vp_updL (vp_updL (vp_updL (g_tb σ) ((5 * (g_n σ)) + 0) (f 0)) ((5 * (g_n σ)) + 1) (f 1)) ((5 * (g_n σ)) + 2) (f 2))) (vp_updL (vp_updL (vp_updL (vp_updL (g_tb σ) ((5 * (g_n σ)) + 0) (f 0)) ((5 * (g_n σ)) + 1) (f 1)) ((5 * (g_n σ)) + 2) (f 2)) ((5 * (g_n σ)) + 3) (f 3))) (vp_updL (vp_updL (vp_updL (vp_updL (vp_updL (g_tb σ) ((5 * (g_n σ)) + 0) (f 0)) ((5 * (g_n σ)) + 1) (f 1)) ((5 * (g_n σ)) + 2) (f 2)) ((5 * (g_n σ)) + 3) (f 3)) ((5 * (g_n σ)) + 4) (f 4))) (f, nI rr.1, (if (rr.1 = g_bl σ ∧ z_pl rr.2 = 4 ∧ 0 < z_dg rr.2) then 1 else 0), m_h ρ)) H := hP
                      have hD : va_D A (wM C b (u_tb (u_tb (u_tb (u_tb (u_tb σ (vp_updL (g_tb σ) ((5 * (g_n σ)) + 0) (f 0))) (vp_updL (vp_updL (g_tb σ) ((5 * (g_n σ)) + 0) (f 0)) ((5 * (g_n σ)) + 1) (f 1))) (vp_updL (vp_updL (vp_updL (g_tb σ) ((5 * (g_n σ)) + 0) (f 0)) ((5 * (g_n σ)) + 1) (f 1)) ((5 * (g_n σ)) + 2) (f 2))) (vp_updL (vp_updL (vp_updL (vp_updL (g_tb σ) ((5 * (g_n σ)) + 0) (f 0)) ((5 * (g_n σ)) + 1) (f 1)) ((5 * (g_n σ)) + 2) (f 2)) ((5 * (g_n σ)) + 3) (f 3))) (vp_updL (vp_updL (vp_updL (vp_updL (vp_updL (g_tb σ) ((5 * (g_n σ)) + 0) (f 0)) ((5 * (g_n σ)) + 1) (f 1)) ((5 * (g_n σ)) + 2) (f 2)) ((5 * (g_n σ)) + 3) (f 3)) ((5 * (g_n σ)) + 4) (f 4))) (f, nI rr.1, (if (rr.1 = g_bl σ ∧ z_pl rr.2 = 4 ∧ 0 < z_dg rr.2) then 1 else 0), m_h ρ)) := hD
                      refine lv_iinc (v := 5) (lv' := [(1, .int 5), (0, .ref (b 0))]) hx hb dX4_addRow_107 hl (k := 0) rfl (by decide) (by decide) rfl (fun ls hl => ?_)
                      refine lv_goto (tgt := 83) hx hb dX4_addRow_110 (by decide) ?_
                      refine lv_iload_n hx hb dX4_addRow_83 rfl (lv_at hl 0 rfl) ?_
                      refine lv_iconst (v := 5) hx hb dX4_addRow_84 (by decide) ?_
                      refine ic_ge (tgt := 113) hx hb dX4_addRow_85 (by decide) (fun c_17 => ?_) (fun c_17 => ?_)
                      · skip
                        refine lv_aload_n hx hb dX4_addRow_113 rfl (lv_at hl 1 rfl) ?_
                        refine lv_dup hx hb dX4_addRow_114 rfl ?_
                        refine va_get (D := G) (ci := 4) (v := .int (nI (g_n σ))) (C := RX4) (T := TX4) (N := 13) hx hb hts hX4 hown hK hP (0) wM_e0 rfl 2 (by decide) (hts (.fieldLink RX4 85 "DraftSurveyModel" "rows" "I") (by decide +kernel)) (fun _ h9 => h9) rfl dX4_addRow_115 ?_
                        refine lv_iconst (v := 1) hx hb dX4_addRow_118 (by decide) ?_
                        refine lv_iadd hx hb dX4_addRow_119 ?_
                        refine tp_i (v := nI ((g_n σ) + 1)) (nI_add (g_n σ) 1) ?_
                        refine va_put (D := G) (ci := 4) (v := .int (nI ((g_n σ) + 1))) (ty := .int) (C := RX4) (T := TX4) (N := 13) hx hb hts hX4 tyX4 tyX4_ok nmX4 hown hK hP hD hS (0) wM_e0 rfl 2 (by decide) (hts (.fieldLink RX4 85 "DraftSurveyModel" "rows" "I") (by decide +kernel)) (fun _ h9 => h9) rfl (by decide +kernel) rfl rfl (Nat.le_of_ble_eq_true rfl) dX4_addRow_120 (fun H locs hP hD hS => ?_)
                        have hP : va_P G vwCl (wM C b (u_n (u_tb (u_tb (u_tb (u_tb (u_tb σ (vp_updL (g_tb σ) ((5 * (g_n σ)) + 0) (f 0))) (vp_updL (vp_updL (g_tb σ) ((5 * (g_n σ)) + 0) (f 0)) ((5 * (g_n σ)) + 1) (f 1))) (vp_updL (vp_updL (vp_updL (g_tb σ) ((5 * (g_n σ)) + 0) (f 0)) ((5 * (g_n σ)) + 1) (f 1)) ((5 * (g_n σ)) + 2) (f 2))) (vp_updL (vp_updL (vp_updL (vp_updL (g_tb σ) ((5 * (g_n σ)) + 0) (f 0)) ((5 * (g_n σ)) + 1) (f 1)) ((5 * (g_n σ)) + 2) (f 2)) ((5 * (g_n σ)) + 3) (f 3))) (vp_updL (vp_updL (vp_updL (vp_updL (vp_updL (g_tb σ) ((5 * (g_n σ)) + 0) (f 0)) ((5 * (g_n σ)) + 1) (f 1)) ((5 * (g_n σ)) + 2) (f 2)) ((5 * (g_n σ)) + 3) (f 3)) ((5 * (g_n σ)) + 4) (f 4))) ((g_n σ) + 1)) (f, nI rr.1, (if (rr.1 = g_bl σ ∧ z_pl rr.2 = 4 ∧ 0 < z_dg rr.2) then 1 else 0), m_h ρ)) H := hP
                        have hD : va_D A (wM C b (u_n (u_tb (u_tb (u_tb (u_tb (u_tb σ (vp_updL (g_tb σ) ((5 * (g_n σ)) + 0) (f 0))) (vp_updL (vp_updL (g_tb σ) ((5 * (g_n σ)) + 0) (f 0)) ((5 * (g_n σ)) + 1) (f 1))) (vp_updL (vp_updL (vp_updL (g_tb σ) ((5 * (g_n σ)) + 0) (f 0)) ((5 * (g_n σ)) + 1) (f 1)) ((5 * (g_n σ)) + 2) (f 2))) (vp_updL (vp_updL (vp_updL (vp_updL (g_tb σ) ((5 * (g_n σ)) + 0) (f 0)) ((5 * (g_n σ)) + 1) (f 1)) ((5 * (g_n σ)) + 2) (f 2)) ((5 * (g_n σ)) + 3) (f 3))) (vp_updL (vp_updL (vp_updL (vp_updL (vp_updL (g_tb σ) ((5 * (g_n σ)) + 0) (f 0)) ((5 * (g_n σ)) + 1) (f 1)) ((5 * (g_n σ)) + 2) (f 2)) ((5 * (g_n σ)) + 3) (f 3)) ((5 * (g_n σ)) + 4) (f 4))) ((g_n σ) + 1)) (f, nI rr.1, (if (rr.1 = g_bl σ ∧ z_pl rr.2 = 4 ∧ 0 < z_dg rr.2) then 1 else 0), m_h ρ)) := hD
                        refine lv_aload_n hx hb dX4_addRow_123 rfl (lv_at hl 1 rfl) ?_
                        refine lv_iconst (v := 0) hx hb dX4_addRow_124 (by decide) ?_
                        refine va_put (D := G) (ci := 4) (v := .int 0) (ty := .int) (C := RX4) (T := TX4) (N := 13) hx hb hts hX4 tyX4 tyX4_ok nmX4 hown hK hP hD hS (0) wM_e0 rfl 0 (by decide) (hts (.fieldLink RX4 47 "DraftSurveyModel" "bufferLength" "I") (by decide +kernel)) (fun _ h9 => h9) rfl (by decide +kernel) rfl rfl (Nat.le_of_ble_eq_true rfl) dX4_addRow_125 (fun H locs hP hD hS => ?_)
                        have hP : va_P G vwCl (wM C b (u_bl (u_n (u_tb (u_tb (u_tb (u_tb (u_tb σ (vp_updL (g_tb σ) ((5 * (g_n σ)) + 0) (f 0))) (vp_updL (vp_updL (g_tb σ) ((5 * (g_n σ)) + 0) (f 0)) ((5 * (g_n σ)) + 1) (f 1))) (vp_updL (vp_updL (vp_updL (g_tb σ) ((5 * (g_n σ)) + 0) (f 0)) ((5 * (g_n σ)) + 1) (f 1)) ((5 * (g_n σ)) + 2) (f 2))) (vp_updL (vp_updL (vp_updL (vp_updL (g_tb σ) ((5 * (g_n σ)) + 0) (f 0)) ((5 * (g_n σ)) + 1) (f 1)) ((5 * (g_n σ)) + 2) (f 2)) ((5 * (g_n σ)) + 3) (f 3))) (vp_updL (vp_updL (vp_updL (vp_updL (vp_updL (g_tb σ) ((5 * (g_n σ)) + 0) (f 0)) ((5 * (g_n σ)) + 1) (f 1)) ((5 * (g_n σ)) + 2) (f 2)) ((5 * (g_n σ)) + 3) (f 3)) ((5 * (g_n σ)) + 4) (f 4))) ((g_n σ) + 1)) 0) (f, nI rr.1, (if (rr.1 = g_bl σ ∧ z_pl rr.2 = 4 ∧ 0 < z_dg rr.2) then 1 else 0), m_h ρ)) H := hP
                        have hD : va_D A (wM C b (u_bl (u_n (u_tb (u_tb (u_tb (u_tb (u_tb σ (vp_updL (g_tb σ) ((5 * (g_n σ)) + 0) (f 0))) (vp_updL (vp_updL (g_tb σ) ((5 * (g_n σ)) + 0) (f 0)) ((5 * (g_n σ)) + 1) (f 1))) (vp_updL (vp_updL (vp_updL (g_tb σ) ((5 * (g_n σ)) + 0) (f 0)) ((5 * (g_n σ)) + 1) (f 1)) ((5 * (g_n σ)) + 2) (f 2))) (vp_updL (vp_updL (vp_updL (vp_updL (g_tb σ) ((5 * (g_n σ)) + 0) (f 0)) ((5 * (g_n σ)) + 1) (f 1)) ((5 * (g_n σ)) + 2) (f 2)) ((5 * (g_n σ)) + 3) (f 3))) (vp_updL (vp_updL (vp_updL (vp_updL (vp_updL (g_tb σ) ((5 * (g_n σ)) + 0) (f 0)) ((5 * (g_n σ)) + 1) (f 1)) ((5 * (g_n σ)) + 2) (f 2)) ((5 * (g_n σ)) + 3) (f 3)) ((5 * (g_n σ)) + 4) (f 4))) ((g_n σ) + 1)) 0) (f, nI rr.1, (if (rr.1 = g_bl σ ∧ z_pl rr.2 = 4 ∧ 0 < z_dg rr.2) then 1 else 0), m_h ρ)) := hD
                        refine lv_aload_n hx hb dX4_addRow_128 rfl (lv_at hl 1 rfl) ?_
                        refine va_get (D := G) (ci := 4) (v := .int (nI ((g_n σ) + 1))) (C := RX4) (T := TX4) (N := 13) hx hb hts hX4 hown hK hP (0) wM_e0 rfl 2 (by decide) (hts (.fieldLink RX4 85 "DraftSurveyModel" "rows" "I") (by decide +kernel)) (fun _ h9 => h9) rfl dX4_addRow_129 ?_
                        refine lv_i2l (v := lN ((g_n σ) + 1)) hx hb dX4_addRow_132 (nI_l (by omega)) ?_
                        refine wr_lret hx hb hr hlocks hAe hP hD hS ?_ dX4_addRow_133
                        exact ⟨congrArg (fun z => some (Value.long z)) ((if_pos (show whN σ from ⟨by rw [← r_s]; exact c_1.1, by rw [← r_p]; exact c_1.2.1, by rw [← r_d]; exact c_1.2.2⟩)).trans ((if_pos (show g_n σ < 10 by omega)).trans (if_pos (show ascN σ from by have r0 := r_f (show whN σ from ⟨by rw [← r_s]; exact c_1.1, by rw [← r_p]; exact c_1.2.1, by rw [← r_d]; exact c_1.2.2⟩) 0 (by decide); have r1 := r_f (show whN σ from ⟨by rw [← r_s]; exact c_1.1, by rw [← r_p]; exact c_1.2.1, by rw [← r_d]; exact c_1.2.2⟩) 1 (by decide); unfold ascN; rw [← r0, ← r1]; exact Or.inr ⟨c_10, c_11⟩)))).symm, (f, nI rr.1, (if (rr.1 = g_bl σ ∧ z_pl rr.2 = 4 ∧ 0 < z_dg rr.2) then 1 else 0), m_h ρ), congrArg (fun z => wM C b z (f, nI rr.1, (if (rr.1 = g_bl σ ∧ z_pl rr.2 = 4 ∧ 0 < z_dg rr.2) then 1 else 0), m_h ρ)) ((congrArg (fun t => u_bl (u_n (u_tb σ t) (g_n σ + 1)) 0) (putR_eq (r_f (show whN σ from ⟨by rw [← r_s]; exact c_1.1, by rw [← r_p]; exact c_1.2.1, by rw [← r_d]; exact c_1.2.2⟩)))).trans ((if_pos (show whN σ from ⟨by rw [← r_s]; exact c_1.1, by rw [← r_p]; exact c_1.2.1, by rw [← r_d]; exact c_1.2.2⟩)).trans ((if_pos (show g_n σ < 10 by omega)).trans (if_pos (show ascN σ from by have r0 := r_f (show whN σ from ⟨by rw [← r_s]; exact c_1.1, by rw [← r_p]; exact c_1.2.1, by rw [← r_d]; exact c_1.2.2⟩) 0 (by decide); have r1 := r_f (show whN σ from ⟨by rw [← r_s]; exact c_1.1, by rw [← r_p]; exact c_1.2.1, by rw [← r_d]; exact c_1.2.2⟩) 1 (by decide); unfold ascN; rw [← r0, ← r1]; exact Or.inr ⟨c_10, c_11⟩)))).symm)⟩
                      · skip
                        exact absurd c_17 (by decide)
          · skip
            refine lv_ldc2 (v := (-9000000000000000005)) hx hb hown (hts (.constantLong RX4 92 (-9000000000000000005)) (by decide +kernel)) dX4_addRow_77 ?_
            refine wr_lret hx hb hr hlocks hAe hP hD hS ?_ dX4_addRow_80
            exact ⟨congrArg (fun z => some (Value.long z)) ((if_pos (show whN σ from ⟨by rw [← r_s]; exact c_1.1, by rw [← r_p]; exact c_1.2.1, by rw [← r_d]; exact c_1.2.2⟩)).trans ((if_pos (show g_n σ < 10 by omega)).trans (if_neg (fun q => by have r0 := r_f (show whN σ from ⟨by rw [← r_s]; exact c_1.1, by rw [← r_p]; exact c_1.2.1, by rw [← r_d]; exact c_1.2.2⟩) 0 (by decide); have r1 := r_f (show whN σ from ⟨by rw [← r_s]; exact c_1.1, by rw [← r_p]; exact c_1.2.1, by rw [← r_d]; exact c_1.2.2⟩) 1 (by decide); have q : ascN σ := q; unfold ascN at q; rw [← r0, ← r1] at q; exact (q.resolve_left (by omega)).2 c_11)))).symm, (f, nI rr.1, (if (rr.1 = g_bl σ ∧ z_pl rr.2 = 4 ∧ 0 < z_dg rr.2) then 1 else 0), m_h ρ), congrArg (fun z => wM C b z (f, nI rr.1, (if (rr.1 = g_bl σ ∧ z_pl rr.2 = 4 ∧ 0 < z_dg rr.2) then 1 else 0), m_h ρ)) ((if_pos (show whN σ from ⟨by rw [← r_s]; exact c_1.1, by rw [← r_p]; exact c_1.2.1, by rw [← r_d]; exact c_1.2.2⟩)).trans ((if_pos (show g_n σ < 10 by omega)).trans (if_neg (fun q => by have r0 := r_f (show whN σ from ⟨by rw [← r_s]; exact c_1.1, by rw [← r_p]; exact c_1.2.1, by rw [← r_d]; exact c_1.2.2⟩) 0 (by decide); have r1 := r_f (show whN σ from ⟨by rw [← r_s]; exact c_1.1, by rw [← r_p]; exact c_1.2.1, by rw [← r_d]; exact c_1.2.2⟩) 1 (by decide); have q : ascN σ := q; unfold ascN at q; rw [← r0, ← r1] at q; exact (q.resolve_left (by omega)).2 c_11)))).symm⟩
    · skip
      have c_2 : (g_n σ) = 10 := (nI_eq (a := (g_n σ)) (b := 10) (by omega) (by omega)).mp c_2
      refine lv_ldc2 (v := (-9000000000000000006)) hx hb hown (hts (.constantLong RX4 51 (-9000000000000000006)) (by decide +kernel)) dX4_addRow_24 ?_
      refine wr_lret hx hb hr hlocks hAe hP hD hS ?_ dX4_addRow_27
      exact ⟨congrArg (fun z => some (Value.long z)) ((if_pos (show whN σ from ⟨by rw [← r_s]; exact c_1.1, by rw [← r_p]; exact c_1.2.1, by rw [← r_d]; exact c_1.2.2⟩)).trans (if_neg (show ¬ g_n σ < 10 by omega))).symm, (f, nI rr.1, (if (rr.1 = g_bl σ ∧ z_pl rr.2 = 4 ∧ 0 < z_dg rr.2) then 1 else 0), m_h ρ), congrArg (fun z => wM C b z (f, nI rr.1, (if (rr.1 = g_bl σ ∧ z_pl rr.2 = 4 ∧ 0 < z_dg rr.2) then 1 else 0), m_h ρ)) ((if_pos (show whN σ from ⟨by rw [← r_s]; exact c_1.1, by rw [← r_p]; exact c_1.2.1, by rw [← r_d]; exact c_1.2.2⟩)).trans (if_neg (show ¬ g_n σ < 10 by omega))).symm⟩
  · skip
    refine lv_ldc2 (v := (-9000000000000000004)) hx hb hown (hts (.constantLong RX4 83 (-9000000000000000004)) (by decide +kernel)) dX4_addRow_11 ?_
    refine wr_lret hx hb hr hlocks hAe hP hD hS ?_ dX4_addRow_14
    exact ⟨congrArg (fun z => some (Value.long z)) (if_neg (fun q => c_1 ⟨by have := q.1; omega, by have := q.2.1; omega, by have := q.2.2; omega⟩)).symm, (f, nI rr.1, (if (rr.1 = g_bl σ ∧ z_pl rr.2 = 4 ∧ 0 < z_dg rr.2) then 1 else 0), m_h ρ), congrArg (fun z => wM C b z (f, nI rr.1, (if (rr.1 = g_bl σ ∧ z_pl rr.2 = 4 ∧ 0 < z_dg rr.2) then 1 else 0), m_h ρ)) (if_neg (fun q => c_1 ⟨by have := q.1; omega, by have := q.2.1; omega, by have := q.2.2; omega⟩)).symm⟩
