set_option maxHeartbeats 4000000 in
set_option maxRecDepth 100000 in
theorem c_svI (l : Launch) (G : va_G) (C : Nat → ClassId) (a : Nat → Nat) (σ : SG) (κ : KX) {j : Nat} (hj : j < 4) : RdC l yX3_surveyAt wsX3_surveyAt ({ frames := 0, cells := 0, slots := 0, locals := 0 } : Room) G (tysC C) (wX C a σ κ) [.ref (a 0), .int (nI j)] (.ref (a (7 + 3 * j))) := by
  refine Met.ofW (cc := cX3_surveyAt) (maxL := 2) (ret := (some (.object "DraftSurvey$Survey"))) (by decide) rfl ?_
  intro p e s m args below meth c s₁ B hml hv
  obtain ⟨rfl, hP, hK, hN⟩ := hv
  have hx := B.exec
  have hb := B.bytes
  have hr := B.returns
  have hts := atoms_spec (ws := wsX3_surveyAt) B.pre
  have hown : s.vm.findClass RX3 = some m.cls := findClass_of_methodNamed B.named
  have hlocks := B.notSynchronized
  have hX3 : ∀ w ∈ wsX30, w ∈ wsX3_surveyAt := by decide +kernel
  have hP : va_P G vwCl (wX C a σ κ) s.heap := hP
  have hl := lv_entry ([.ref (a 0), .int (nI j)]) (n := 2) (Nat.le_of_ble_eq_true rfl)
  rw [lg_entry_eq]
  generalize (lg_sl ([.ref (a 0), .int (nI j)]) ++ List.replicate (2 - (lg_sl ([.ref (a 0), .int (nI j)])).length) Slot.unset).toArray = ls at hl ⊢
  have hl : lv_has ls 2 [(0, .ref (a 0)), (1, .int (nI j))] := hl
  refine lv_iload_n hx hb dX3_surveyAt_0 rfl (lv_at hl 1 rfl) ?_
  refine lv_if_lt (tgt := 9) hx hb dX3_surveyAt_1 (by decide) (fun c_1 => ?_) (fun c_1 => ?_)
  · skip
    have c_1 : j < 0 := (nI_ltI (a := j) (b := 0) (by omega) (by omega)).mp c_1
    exact (show False by omega).elim
  · skip
    have c_1 : ¬ j < 0 := fun z9 => c_1 ((nI_ltI (a := j) (b := 0) (by omega) (by omega)).mpr z9)
    refine lv_iload_n hx hb dX3_surveyAt_4 rfl (lv_at hl 1 rfl) ?_
    refine lv_iconst (v := 4) hx hb dX3_surveyAt_5 (by decide) ?_
    refine lv_icmp_lt (tgt := 11) hx hb dX3_surveyAt_6 (by decide) (fun c_2 => ?_) (fun c_2 => ?_)
    · skip
      have c_2 : j < 4 := (nI_ltI (a := j) (b := 4) (by omega) (by omega)).mp c_2
      refine lv_aload_n hx hb dX3_surveyAt_11 rfl (lv_at hl 0 rfl) ?_
      refine va_get (D := G) (ci := 3) (v := .ref (a 6)) (C := RX3) (T := TX3) (N := 7) hx hb hts hX3 hown hK hP (0) wX_e0 rfl 4 (by decide) (hts (.fieldLink RX3 33 "DraftSurvey" "surveys" "[LDraftSurvey$Survey;") (by decide +kernel)) (fun _ h9 => h9) rfl dX3_surveyAt_12 ?_
      refine lv_iload_n hx hb dX3_surveyAt_15 rfl (lv_at hl 1 rfl) ?_
      refine ar_q (k := j) (x := a (7 + 3 * j)) hx hb hK hP (6) 2 wX_e6 rfl rfl (by omega) (by decide) rfl dX3_surveyAt_16 ?_
      exact rd_aret hx hb hr (Or.inl ⟨_, rfl⟩) (Or.inr ⟨_, rfl⟩) hlocks (rfl) dX3_surveyAt_17
    · skip
      have c_2 : ¬ j < 4 := fun z9 => c_2 ((nI_ltI (a := j) (b := 4) (by omega) (by omega)).mpr z9)
      exact (show False by omega).elim

set_option maxHeartbeats 4000000 in
set_option maxRecDepth 100000 in
theorem c_svO (l : Launch) (G : va_G) (C : Nat → ClassId) (a : Nat → Nat) (σ : SG) (κ : KX) {x : Int32} (hx_ : ¬ inS x 4) : RdC l yX3_surveyAt wsX3_surveyAt ({ frames := 0, cells := 0, slots := 0, locals := 0 } : Room) G (tysC C) (wX C a σ κ) [.ref (a 0), .int x] (.null) := by
  refine Met.ofW (cc := cX3_surveyAt) (maxL := 2) (ret := (some (.object "DraftSurvey$Survey"))) (by decide) rfl ?_
  intro p e s m args below meth c s₁ B hml hv
  obtain ⟨rfl, hP, hK, hN⟩ := hv
  have hx := B.exec
  have hb := B.bytes
  have hr := B.returns
  have hts := atoms_spec (ws := wsX3_surveyAt) B.pre
  have hown : s.vm.findClass RX3 = some m.cls := findClass_of_methodNamed B.named
  have hlocks := B.notSynchronized
  have hP : va_P G vwCl (wX C a σ κ) s.heap := hP
  have hl := lv_entry ([.ref (a 0), .int x]) (n := 2) (Nat.le_of_ble_eq_true rfl)
  rw [lg_entry_eq]
  generalize (lg_sl ([.ref (a 0), .int x]) ++ List.replicate (2 - (lg_sl ([.ref (a 0), .int x])).length) Slot.unset).toArray = ls at hl ⊢
  have hl : lv_has ls 2 [(0, .ref (a 0)), (1, .int x)] := hl
  refine lv_iload_n hx hb dX3_surveyAt_0 rfl (lv_at hl 1 rfl) ?_
  refine lv_if_lt (tgt := 9) hx hb dX3_surveyAt_1 (by decide) (fun c_1 => ?_) (fun c_1 => ?_)
  · skip
    refine lv_null hx hb dX3_surveyAt_9 ?_
    exact rd_aret hx hb hr (Or.inl ⟨_, rfl⟩) (Or.inl rfl) hlocks (rfl) dX3_surveyAt_10
  · skip
    refine lv_iload_n hx hb dX3_surveyAt_4 rfl (lv_at hl 1 rfl) ?_
    refine lv_iconst (v := 4) hx hb dX3_surveyAt_5 (by decide) ?_
    refine lv_icmp_lt (tgt := 11) hx hb dX3_surveyAt_6 (by decide) (fun c_2 => ?_) (fun c_2 => ?_)
    · skip
      exact absurd ⟨c_1, c_2⟩ hx_
    · skip
      refine lv_null hx hb dX3_surveyAt_9 ?_
      exact rd_aret hx hb hr (Or.inl ⟨_, rfl⟩) (Or.inl rfl) hlocks (rfl) dX3_surveyAt_10

set_option maxHeartbeats 4000000 in
set_option maxRecDepth 100000 in
theorem c_can (l : Launch) (G : va_G) (C : Nat → ClassId) (a : Nat → Nat) (σ : SG) (κ : KX) (hn : g_n σ ≤ 10) {j : Nat} (hj : j < 4) (h : Int64) : RdC l yX3_canCompute wsX3_canCompute ({ frames := 3, cells := 0, slots := 0, locals := 65 } : Room) G (tysC C) (wX C a σ κ) [.ref (a 0), .ref (a (7 + 3 * j)), .long h] (.int (if cmp σ j h then 1 else 0)) := by
  refine Met.ofW (cc := cX3_canCompute) (maxL := 4) (ret := (some .boolean)) (by decide) rfl ?_
  intro p e s m args below meth c s₁ B hml hv
  obtain ⟨rfl, hP, hK, hN⟩ := hv
  have hx := B.exec
  have hb := B.bytes
  have hr := B.returns
  have hts := atoms_spec (ws := wsX3_canCompute) B.pre
  have hown : s.vm.findClass RX3 = some m.cls := findClass_of_methodNamed B.named
  have hlocks := B.notSynchronized
  have hX3 : ∀ w ∈ wsX30, w ∈ wsX3_canCompute := by decide +kernel
  have hP : va_P G vwCl (wX C a σ κ) s.heap := hP
  have hl := lv_entry ([.ref (a 0), .ref (a (7 + 3 * j)), .long h]) (n := 4) (Nat.le_of_ble_eq_true rfl)
  rw [lg_entry_eq]
  generalize (lg_sl ([.ref (a 0), .ref (a (7 + 3 * j)), .long h]) ++ List.replicate (4 - (lg_sl ([.ref (a 0), .ref (a (7 + 3 * j)), .long h])).length) Slot.unset).toArray = ls at hl ⊢
  have hl : lv_has ls 4 [(0, .ref (a 0)), (1, .ref (a (7 + 3 * j))), (2, .long h)] := hl
  refine lv_aload_n hx hb dX3_canCompute_0 rfl (lv_at hl 0 rfl) ?_
  refine va_get (D := G) (ci := 3) (v := .ref (a 4)) (C := RX3) (T := TX3) (N := 7) hx hb hts hX3 hown hK hP (0) wX_e0 rfl 3 (by decide) (hts (.fieldLink RX3 27 "DraftSurvey" "table" "LDraftSurvey$Table;") (by decide +kernel)) (fun _ h9 => h9) rfl dX3_canCompute_1 ?_
  refine lv_aload_n hx hb dX3_canCompute_4 rfl (lv_at hl 1 rfl) ?_
  refine rd_callV (As := []) (rest := [.ref (a 4)]) ⟨hx, hb, hml, hown, hts⟩ (c_mean1 l G C a σ κ hj) (cwV 0 hts gX3_canCompute_X1_meanDraft rfl rfl rfl (by decide +kernel) ⟨Nat.le_of_ble_eq_true rfl, Nat.le_of_ble_eq_true rfl⟩) hK hN hP (7 + 3 * j) 1 (wX_sv hj) rfl rfl rfl hl.1 rfl (Nat.le_of_ble_eq_true rfl) dX3_canCompute_5 ⟨Nat.zero_le _, Nat.zero_le _⟩ ?_
  refine lv_lload_n hx hb dX3_canCompute_8 rfl (lv_at hl 2 rfl) ?_
  refine lv_ladd hx hb dX3_canCompute_9 ?_
  refine rd_callV (As := [.long ((qm σ j) + h)]) (rest := []) ⟨hx, hb, hml, hown, hts⟩ (c_covers l G C a σ κ hn ((qm σ j) + h)) (cwV 1 hts gX3_canCompute_X2_covers rfl rfl rfl (by decide +kernel) ⟨Nat.le_of_ble_eq_true rfl, Nat.le_of_ble_eq_true rfl⟩) hK hN hP (4) 2 wX_e4 rfl rfl rfl hl.1 rfl (Nat.le_of_ble_eq_true rfl) dX3_canCompute_10 ⟨Nat.zero_le _, Nat.zero_le _⟩ ?_
  exact rd_zret hx hb hr hlocks bl_if (rfl) dX3_canCompute_13

set_option maxHeartbeats 4000000 in
set_option maxRecDepth 100000 in
theorem c_canM (l : Launch) (G : va_G) (C : Nat → ClassId) (a : Nat → Nat) (σ : SG) (κ : KX) (hn : g_n σ ≤ 10) {j : Nat} (hj : j < 4) : RdC l yX3_canComputeMargins wsX3_canComputeMargins ({ frames := 4, cells := 0, slots := 0, locals := 88 } : Room) G (tysC C) (wX C a σ κ) [.ref (a 0), .ref (a (7 + 3 * j))] (.int (if cmm σ j then 1 else 0)) := by
  refine Met.ofW (cc := cX3_canComputeMargins) (maxL := 2) (ret := (some .boolean)) (by decide) rfl ?_
  intro p e s m args below meth c s₁ B hml hv
  obtain ⟨rfl, hP, hK, hN⟩ := hv
  have hx := B.exec
  have hb := B.bytes
  have hr := B.returns
  have hts := atoms_spec (ws := wsX3_canComputeMargins) B.pre
  have hown : s.vm.findClass RX3 = some m.cls := findClass_of_methodNamed B.named
  have hlocks := B.notSynchronized
  have hX3 : ∀ w ∈ wsX30, w ∈ wsX3_canComputeMargins := by decide +kernel
  have hP : va_P G vwCl (wX C a σ κ) s.heap := hP
  have hl := lv_entry ([.ref (a 0), .ref (a (7 + 3 * j))]) (n := 2) (Nat.le_of_ble_eq_true rfl)
  rw [lg_entry_eq]
  generalize (lg_sl ([.ref (a 0), .ref (a (7 + 3 * j))]) ++ List.replicate (2 - (lg_sl ([.ref (a 0), .ref (a (7 + 3 * j))])).length) Slot.unset).toArray = ls at hl ⊢
  have hl : lv_has ls 2 [(0, .ref (a 0)), (1, .ref (a (7 + 3 * j)))] := hl
  refine lv_aload_n hx hb dX3_canComputeMargins_0 rfl (lv_at hl 0 rfl) ?_
  refine lv_aload_n hx hb dX3_canComputeMargins_1 rfl (lv_at hl 1 rfl) ?_
  refine lv_aload_n hx hb dX3_canComputeMargins_2 rfl (lv_at hl 0 rfl) ?_
  refine va_get (D := G) (ci := 3) (v := .long (g_mar σ)) (C := RX3) (T := TX3) (N := 7) hx hb hts hX3 hown hK hP (0) wX_e0 rfl 6 (by decide) (hts (.fieldLink RX3 44 "DraftSurvey" "margin" "J") (by decide +kernel)) (fun _ h9 => h9) rfl dX3_canComputeMargins_3 ?_
  refine lv_lneg hx hb dX3_canComputeMargins_6 ?_
  refine rd_callV (As := [.ref (a (7 + 3 * j)), .long (-(g_mar σ))]) (rest := []) ⟨hx, hb, hml, hown, hts⟩ (c_can l G C a σ κ hn (j := j) hj (-(g_mar σ))) (cwV 2 hts gX3_canComputeMargins_X3_canCompute rfl rfl rfl (by decide +kernel) ⟨Nat.le_of_ble_eq_true rfl, Nat.le_of_ble_eq_true rfl⟩) hK hN hP (0) 3 wX_e0 rfl rfl rfl hl.1 rfl (Nat.le_of_ble_eq_true rfl) dX3_canComputeMargins_7 ⟨Nat.zero_le _, Nat.zero_le _⟩ ?_
  refine br_beq (tgt := 29) hx hb dX3_canComputeMargins_10 (by decide) (fun c_1 => ?_) (fun c_1 => ?_)
  · skip
    refine lv_iconst (v := 0) hx hb dX3_canComputeMargins_29 (by decide) ?_
    exact rd_zret hx hb hr hlocks (Or.inl rfl) (congrArg Value.int (if_neg (fun q => c_1 q.1)).symm) dX3_canComputeMargins_30
  · skip
    refine lv_aload_n hx hb dX3_canComputeMargins_13 rfl (lv_at hl 0 rfl) ?_
    refine lv_aload_n hx hb dX3_canComputeMargins_14 rfl (lv_at hl 1 rfl) ?_
    refine lv_aload_n hx hb dX3_canComputeMargins_15 rfl (lv_at hl 0 rfl) ?_
    refine va_get (D := G) (ci := 3) (v := .long (g_mar σ)) (C := RX3) (T := TX3) (N := 7) hx hb hts hX3 hown hK hP (0) wX_e0 rfl 6 (by decide) (hts (.fieldLink RX3 44 "DraftSurvey" "margin" "J") (by decide +kernel)) (fun _ h9 => h9) rfl dX3_canComputeMargins_16 ?_
    refine rd_callV (As := [.ref (a (7 + 3 * j)), .long (g_mar σ)]) (rest := []) ⟨hx, hb, hml, hown, hts⟩ (c_can l G C a σ κ hn (j := j) hj (g_mar σ)) (cwV 2 hts gX3_canComputeMargins_X3_canCompute rfl rfl rfl (by decide +kernel) ⟨Nat.le_of_ble_eq_true rfl, Nat.le_of_ble_eq_true rfl⟩) hK hN hP (0) 3 wX_e0 rfl rfl rfl hl.1 rfl (Nat.le_of_ble_eq_true rfl) dX3_canComputeMargins_19 ⟨Nat.zero_le _, Nat.zero_le _⟩ ?_
    refine br_beq (tgt := 29) hx hb dX3_canComputeMargins_22 (by decide) (fun c_2 => ?_) (fun c_2 => ?_)
    · skip
      refine lv_iconst (v := 0) hx hb dX3_canComputeMargins_29 (by decide) ?_
      exact rd_zret hx hb hr hlocks (Or.inl rfl) (congrArg Value.int (if_neg (fun q => c_2 q.2)).symm) dX3_canComputeMargins_30
    · skip
      refine lv_iconst (v := 1) hx hb dX3_canComputeMargins_25 (by decide) ?_
      refine lv_goto (tgt := 30) hx hb dX3_canComputeMargins_26 (by decide) ?_
      exact rd_zret hx hb hr hlocks (Or.inr rfl) (congrArg Value.int (if_pos ⟨c_1, c_2⟩).symm) dX3_canComputeMargins_30

set_option maxHeartbeats 4000000 in
set_option maxRecDepth 100000 in
theorem c_fstA (l : Launch) (G : va_G) (C : Nat → ClassId) (a : Nat → Nat) (σ : SG) (κ : KX) (hn : g_n σ ≤ 10) (d t : Int64) : RdC l yX3_firstCorrectionAt wsX3_firstCorrectionAt ({ frames := 2, cells := 0, slots := 0, locals := 61 } : Room) G (tysC C) (wX C a σ κ) [.ref (a 0), .long d, .long t] (.long (fc σ d t)) := by
  refine Met.ofW (cc := cX3_firstCorrectionAt) (maxL := 7) (ret := (some .long)) (by decide) rfl ?_
  intro p e s m args below meth c s₁ B hml hv
  obtain ⟨rfl, hP, hK, hN⟩ := hv
  have hx := B.exec
  have hb := B.bytes
  have hr := B.returns
  have hts := atoms_spec (ws := wsX3_firstCorrectionAt) B.pre
  have hown : s.vm.findClass RX3 = some m.cls := findClass_of_methodNamed B.named
  have hlocks := B.notSynchronized
  have hX3 : ∀ w ∈ wsX30, w ∈ wsX3_firstCorrectionAt := by decide +kernel
  have hP : va_P G vwCl (wX C a σ κ) s.heap := hP
  have hl := lv_entry ([.ref (a 0), .long d, .long t]) (n := 7) (Nat.le_of_ble_eq_true rfl)
  rw [lg_entry_eq]
  generalize (lg_sl ([.ref (a 0), .long d, .long t]) ++ List.replicate (7 - (lg_sl ([.ref (a 0), .long d, .long t])).length) Slot.unset).toArray = ls at hl ⊢
  have hl : lv_has ls 7 [(0, .ref (a 0)), (1, .long d), (3, .long t)] := hl
  refine lv_lload_n hx hb dX3_firstCorrectionAt_0 rfl (lv_at hl 2 rfl) ?_
  refine lv_aload_n hx hb dX3_firstCorrectionAt_1 rfl (lv_at hl 0 rfl) ?_
  refine va_get (D := G) (ci := 3) (v := .ref (a 4)) (C := RX3) (T := TX3) (N := 7) hx hb hts hX3 hown hK hP (0) wX_e0 rfl 3 (by decide) (hts (.fieldLink RX3 27 "DraftSurvey" "table" "LDraftSurvey$Table;") (by decide +kernel)) (fun _ h9 => h9) rfl dX3_firstCorrectionAt_2 ?_
  refine lv_iconst (v := 2) hx hb dX3_firstCorrectionAt_5 (by decide) ?_
  refine lv_lload_n hx hb dX3_firstCorrectionAt_6 rfl (lv_at hl 1 rfl) ?_
  refine rd_callV (As := [.int 2, .long d]) (rest := [.long t]) ⟨hx, hb, hml, hown, hts⟩ (c_value l G C a σ κ hn (q := 2) (by decide) d) (cwV 2 hts gX3_firstCorrectionAt_X2_valueAt rfl rfl rfl (by decide +kernel) ⟨Nat.le_of_ble_eq_true rfl, Nat.le_of_ble_eq_true rfl⟩) hK hN hP (4) 2 wX_e4 rfl rfl rfl hl.1 rfl (Nat.le_of_ble_eq_true rfl) dX3_firstCorrectionAt_7 ⟨Nat.zero_le _, Nat.zero_le _⟩ ?_
  refine lv_lmul hx hb dX3_firstCorrectionAt_10 ?_
  refine lv_aload_n hx hb dX3_firstCorrectionAt_11 rfl (lv_at hl 0 rfl) ?_
  refine va_get (D := G) (ci := 3) (v := .ref (a 4)) (C := RX3) (T := TX3) (N := 7) hx hb hts hX3 hown hK hP (0) wX_e0 rfl 3 (by decide) (hts (.fieldLink RX3 27 "DraftSurvey" "table" "LDraftSurvey$Table;") (by decide +kernel)) (fun _ h9 => h9) rfl dX3_firstCorrectionAt_12 ?_
  refine lv_iconst (v := 3) hx hb dX3_firstCorrectionAt_15 (by decide) ?_
  refine lv_lload_n hx hb dX3_firstCorrectionAt_16 rfl (lv_at hl 1 rfl) ?_
  refine rd_callV (As := [.int 3, .long d]) (rest := [.long (t * (vA σ 2 d))]) ⟨hx, hb, hml, hown, hts⟩ (c_value l G C a σ κ hn (q := 3) (by decide) d) (cwV 2 hts gX3_firstCorrectionAt_X2_valueAt rfl rfl rfl (by decide +kernel) ⟨Nat.le_of_ble_eq_true rfl, Nat.le_of_ble_eq_true rfl⟩) hK hN hP (4) 2 wX_e4 rfl rfl rfl hl.1 rfl (Nat.le_of_ble_eq_true rfl) dX3_firstCorrectionAt_17 ⟨Nat.zero_le _, Nat.zero_le _⟩ ?_
  refine lv_lmul hx hb dX3_firstCorrectionAt_20 ?_
  refine lv_lstore (lv' := [(5, .long ((t * (vA σ 2 d)) * (vA σ 3 d))), (0, .ref (a 0)), (1, .long d), (3, .long t)]) hx hb dX3_firstCorrectionAt_21 hl (by decide) rfl (fun ls hl => ?_)
  refine lv_lload hx hb dX3_firstCorrectionAt_23 (lv_at hl 0 rfl) ?_
  refine lv_ldc2 (v := 100) hx hb hown (hts (.constantLong RX3 195 (100)) (by decide +kernel)) dX3_firstCorrectionAt_25 ?_
  refine lv_aload_n hx hb dX3_firstCorrectionAt_28 rfl (lv_at hl 1 rfl) ?_
  refine va_get (D := G) (ci := 3) (v := .long (g_len σ)) (C := RX3) (T := TX3) (N := 7) hx hb hts hX3 hown hK hP (0) wX_e0 rfl 5 (by decide) (hts (.fieldLink RX3 40 "DraftSurvey" "length" "J") (by decide +kernel)) (fun _ h9 => h9) rfl dX3_firstCorrectionAt_29 ?_
  refine lv_lmul hx hb dX3_firstCorrectionAt_32 ?_
  refine rd_callS (As := [.long ((t * (vA σ 2 d)) * (vA σ 3 d)), .long (100 * (g_len σ))]) (rest := []) ⟨hx, hb, hml, hown, hts⟩ (c_quot l G C a σ κ ((t * (vA σ 2 d)) * (vA σ 3 d)) (100 * (g_len σ))) (va_cwS 2 hts gX3_firstCorrectionAt_X3_quotient rfl rfl rfl (by decide +kernel) ⟨Nat.le_of_ble_eq_true rfl, Nat.le_of_ble_eq_true rfl⟩) hK hN hP rfl hl.1 rfl (Nat.le_of_ble_eq_true rfl) dX3_firstCorrectionAt_33 ⟨Nat.zero_le _, Nat.zero_le _⟩ ?_
  exact rd_lret hx hb hr hlocks (rfl) dX3_firstCorrectionAt_36

set_option maxHeartbeats 4000000 in
set_option maxRecDepth 100000 in
theorem c_sndA (l : Launch) (G : va_G) (C : Nat → ClassId) (a : Nat → Nat) (σ : SG) (κ : KX) (hn : g_n σ ≤ 10) (h0 : 0 < g_n σ) (d t : Int64) : RdC l yX3_secondCorrectionAt wsX3_secondCorrectionAt ({ frames := 2, cells := 0, slots := 0, locals := 61 } : Room) G (tysC C) (wX C a σ κ) [.ref (a 0), .long d, .long t] (.long (sc σ d t)) := by
  refine Met.ofW (cc := cX3_secondCorrectionAt) (maxL := 11) (ret := (some .long)) (by decide) rfl ?_
  intro p e s m args below meth c s₁ B hml hv
  obtain ⟨rfl, hP, hK, hN⟩ := hv
  have hx := B.exec
  have hb := B.bytes
  have hr := B.returns
  have hts := atoms_spec (ws := wsX3_secondCorrectionAt) B.pre
  have hown : s.vm.findClass RX3 = some m.cls := findClass_of_methodNamed B.named
  have hlocks := B.notSynchronized
  have hX3 : ∀ w ∈ wsX30, w ∈ wsX3_secondCorrectionAt := by decide +kernel
  have hP : va_P G vwCl (wX C a σ κ) s.heap := hP
  have hl := lv_entry ([.ref (a 0), .long d, .long t]) (n := 11) (Nat.le_of_ble_eq_true rfl)
  rw [lg_entry_eq]
  generalize (lg_sl ([.ref (a 0), .long d, .long t]) ++ List.replicate (11 - (lg_sl ([.ref (a 0), .long d, .long t])).length) Slot.unset).toArray = ls at hl ⊢
  have hl : lv_has ls 11 [(0, .ref (a 0)), (1, .long d), (3, .long t)] := hl
  refine lv_lload_n hx hb dX3_secondCorrectionAt_0 rfl (lv_at hl 1 rfl) ?_
  refine lv_ldc2 (v := 500) hx hb hown (hts (.constantLong RX3 200 (500)) (by decide +kernel)) dX3_secondCorrectionAt_1 ?_
  refine lv_lsub hx hb dX3_secondCorrectionAt_4 ?_
  refine lv_aload_n hx hb dX3_secondCorrectionAt_5 rfl (lv_at hl 0 rfl) ?_
  refine va_get (D := G) (ci := 3) (v := .ref (a 4)) (C := RX3) (T := TX3) (N := 7) hx hb hts hX3 hown hK hP (0) wX_e0 rfl 3 (by decide) (hts (.fieldLink RX3 27 "DraftSurvey" "table" "LDraftSurvey$Table;") (by decide +kernel)) (fun _ h9 => h9) rfl dX3_secondCorrectionAt_6 ?_
  refine rd_callV (As := []) (rest := [.long (d - 500)]) ⟨hx, hb, hml, hown, hts⟩ (c_first l G C a σ κ hn (by omega)) (cwV 0 hts gX3_secondCorrectionAt_X2_firstDraft rfl rfl rfl (by decide +kernel) ⟨Nat.le_of_ble_eq_true rfl, Nat.le_of_ble_eq_true rfl⟩) hK hN hP (4) 2 wX_e4 rfl rfl rfl hl.1 rfl (Nat.le_of_ble_eq_true rfl) dX3_secondCorrectionAt_9 ⟨Nat.zero_le _, Nat.zero_le _⟩ ?_
  refine va_mmax_long hx hb (hml.trans hl.1.symm) hown (hts (.methodLink RX3 205 Lib.MathLoose.max_long.x) (by decide +kernel)) (hts (.static Lib.MathLoose.max_long.x) (by decide +kernel)) (hts (.initialized "java/lang/Math") (by decide +kernel)) (hts (.code Lib.MathLoose.max_long.x Lib.MathLoose.max_long.code 4 (some .long)) (by decide +kernel)) (Nat.le_of_ble_eq_true rfl) (Nat.le_of_ble_eq_true rfl) (Nat.zero_le _) (Nat.zero_le _) dX3_secondCorrectionAt_12 ?_
  refine tp_l (v := mxL (d - 500) (fst_ σ)) rfl ?_
  refine lv_lstore (lv' := [(5, .long (mxL (d - 500) (fst_ σ))), (0, .ref (a 0)), (1, .long d), (3, .long t)]) hx hb dX3_secondCorrectionAt_15 hl (by decide) rfl (fun ls hl => ?_)
  refine lv_lload_n hx hb dX3_secondCorrectionAt_17 rfl (lv_at hl 2 rfl) ?_
  refine lv_ldc2 (v := 500) hx hb hown (hts (.constantLong RX3 200 (500)) (by decide +kernel)) dX3_secondCorrectionAt_18 ?_
  refine lv_ladd hx hb dX3_secondCorrectionAt_21 ?_
  refine lv_aload_n hx hb dX3_secondCorrectionAt_22 rfl (lv_at hl 1 rfl) ?_
  refine va_get (D := G) (ci := 3) (v := .ref (a 4)) (C := RX3) (T := TX3) (N := 7) hx hb hts hX3 hown hK hP (0) wX_e0 rfl 3 (by decide) (hts (.fieldLink RX3 27 "DraftSurvey" "table" "LDraftSurvey$Table;") (by decide +kernel)) (fun _ h9 => h9) rfl dX3_secondCorrectionAt_23 ?_
  refine rd_callV (As := []) (rest := [.long (d + 500)]) ⟨hx, hb, hml, hown, hts⟩ (c_last l G C a σ κ hn (by omega)) (cwV 0 hts gX3_secondCorrectionAt_X2_lastDraft rfl rfl rfl (by decide +kernel) ⟨Nat.le_of_ble_eq_true rfl, Nat.le_of_ble_eq_true rfl⟩) hK hN hP (4) 2 wX_e4 rfl rfl rfl hl.1 rfl (Nat.le_of_ble_eq_true rfl) dX3_secondCorrectionAt_26 ⟨Nat.zero_le _, Nat.zero_le _⟩ ?_
  refine va_mmin_long hx hb (hml.trans hl.1.symm) hown (hts (.methodLink RX3 213 Lib.MathLoose.min_long.x) (by decide +kernel)) (hts (.static Lib.MathLoose.min_long.x) (by decide +kernel)) (hts (.initialized "java/lang/Math") (by decide +kernel)) (hts (.code Lib.MathLoose.min_long.x Lib.MathLoose.min_long.code 4 (some .long)) (by decide +kernel)) (Nat.le_of_ble_eq_true rfl) (Nat.le_of_ble_eq_true rfl) (Nat.zero_le _) (Nat.zero_le _) dX3_secondCorrectionAt_29 ?_
  refine tp_l (v := mnL (d + 500) (lst_ σ)) rfl ?_
  refine lv_lstore (lv' := [(7, .long (mnL (d + 500) (lst_ σ))), (5, .long (mxL (d - 500) (fst_ σ))), (0, .ref (a 0)), (1, .long d), (3, .long t)]) hx hb dX3_secondCorrectionAt_32 hl (by decide) rfl (fun ls hl => ?_)
  refine lv_aload_n hx hb dX3_secondCorrectionAt_34 rfl (lv_at hl 2 rfl) ?_
  refine va_get (D := G) (ci := 3) (v := .ref (a 4)) (C := RX3) (T := TX3) (N := 7) hx hb hts hX3 hown hK hP (0) wX_e0 rfl 3 (by decide) (hts (.fieldLink RX3 27 "DraftSurvey" "table" "LDraftSurvey$Table;") (by decide +kernel)) (fun _ h9 => h9) rfl dX3_secondCorrectionAt_35 ?_
  refine lv_iconst (v := 4) hx hb dX3_secondCorrectionAt_38 (by decide) ?_
  refine lv_lload hx hb dX3_secondCorrectionAt_39 (lv_at hl 0 rfl) ?_
  refine rd_callV (As := [.int 4, .long (mnL (d + 500) (lst_ σ))]) (rest := []) ⟨hx, hb, hml, hown, hts⟩ (c_value l G C a σ κ hn (q := 4) (by decide) (mnL (d + 500) (lst_ σ))) (cwV 2 hts gX3_secondCorrectionAt_X2_valueAt rfl rfl rfl (by decide +kernel) ⟨Nat.le_of_ble_eq_true rfl, Nat.le_of_ble_eq_true rfl⟩) hK hN hP (4) 2 wX_e4 rfl rfl rfl hl.1 rfl (Nat.le_of_ble_eq_true rfl) dX3_secondCorrectionAt_41 ⟨Nat.zero_le _, Nat.zero_le _⟩ ?_
  refine lv_aload_n hx hb dX3_secondCorrectionAt_44 rfl (lv_at hl 2 rfl) ?_
  refine va_get (D := G) (ci := 3) (v := .ref (a 4)) (C := RX3) (T := TX3) (N := 7) hx hb hts hX3 hown hK hP (0) wX_e0 rfl 3 (by decide) (hts (.fieldLink RX3 27 "DraftSurvey" "table" "LDraftSurvey$Table;") (by decide +kernel)) (fun _ h9 => h9) rfl dX3_secondCorrectionAt_45 ?_
  refine lv_iconst (v := 4) hx hb dX3_secondCorrectionAt_48 (by decide) ?_
  refine lv_lload hx hb dX3_secondCorrectionAt_49 (lv_at hl 1 rfl) ?_
  refine rd_callV (As := [.int 4, .long (mxL (d - 500) (fst_ σ))]) (rest := [.long (vA σ 4 (mnL (d + 500) (lst_ σ)))]) ⟨hx, hb, hml, hown, hts⟩ (c_value l G C a σ κ hn (q := 4) (by decide) (mxL (d - 500) (fst_ σ))) (cwV 2 hts gX3_secondCorrectionAt_X2_valueAt rfl rfl rfl (by decide +kernel) ⟨Nat.le_of_ble_eq_true rfl, Nat.le_of_ble_eq_true rfl⟩) hK hN hP (4) 2 wX_e4 rfl rfl rfl hl.1 rfl (Nat.le_of_ble_eq_true rfl) dX3_secondCorrectionAt_51 ⟨Nat.zero_le _, Nat.zero_le _⟩ ?_
  refine lv_lsub hx hb dX3_secondCorrectionAt_54 ?_
  refine lv_lstore (lv' := [(9, .long ((vA σ 4 (mnL (d + 500) (lst_ σ))) - (vA σ 4 (mxL (d - 500) (fst_ σ))))), (7, .long (mnL (d + 500) (lst_ σ))), (5, .long (mxL (d - 500) (fst_ σ))), (0, .ref (a 0)), (1, .long d), (3, .long t)]) hx hb dX3_secondCorrectionAt_55 hl (by decide) rfl (fun ls hl => ?_)
  refine lv_ldc2 (v := 50) hx hb hown (hts (.constantLong RX3 216 (50)) (by decide +kernel)) dX3_secondCorrectionAt_57 ?_
  refine lv_lload_n hx hb dX3_secondCorrectionAt_60 rfl (lv_at hl 5 rfl) ?_
  refine lv_lmul hx hb dX3_secondCorrectionAt_61 ?_
  refine lv_lload_n hx hb dX3_secondCorrectionAt_62 rfl (lv_at hl 5 rfl) ?_
  refine lv_lmul hx hb dX3_secondCorrectionAt_63 ?_
  refine lv_lload hx hb dX3_secondCorrectionAt_64 (lv_at hl 0 rfl) ?_
  refine lv_lmul hx hb dX3_secondCorrectionAt_66 ?_
  refine lv_ldc2 (v := 1000) hx hb hown (hts (.constantLong RX3 218 (1000)) (by decide +kernel)) dX3_secondCorrectionAt_67 ?_
  refine lv_aload_n hx hb dX3_secondCorrectionAt_70 rfl (lv_at hl 3 rfl) ?_
  refine va_get (D := G) (ci := 3) (v := .long (g_len σ)) (C := RX3) (T := TX3) (N := 7) hx hb hts hX3 hown hK hP (0) wX_e0 rfl 5 (by decide) (hts (.fieldLink RX3 40 "DraftSurvey" "length" "J") (by decide +kernel)) (fun _ h9 => h9) rfl dX3_secondCorrectionAt_71 ?_
  refine lv_lmul hx hb dX3_secondCorrectionAt_74 ?_
  refine rd_callS (As := [.long (((50 * t) * t) * ((vA σ 4 (mnL (d + 500) (lst_ σ))) - (vA σ 4 (mxL (d - 500) (fst_ σ))))), .long (1000 * (g_len σ))]) (rest := []) ⟨hx, hb, hml, hown, hts⟩ (c_quot l G C a σ κ (((50 * t) * t) * ((vA σ 4 (mnL (d + 500) (lst_ σ))) - (vA σ 4 (mxL (d - 500) (fst_ σ))))) (1000 * (g_len σ))) (va_cwS 2 hts gX3_secondCorrectionAt_X3_quotient rfl rfl rfl (by decide +kernel) ⟨Nat.le_of_ble_eq_true rfl, Nat.le_of_ble_eq_true rfl⟩) hK hN hP rfl hl.1 rfl (Nat.le_of_ble_eq_true rfl) dX3_secondCorrectionAt_75 ⟨Nat.zero_le _, Nat.zero_le _⟩ ?_
  exact rd_lret hx hb hr hlocks (rfl) dX3_secondCorrectionAt_78

set_option maxHeartbeats 4000000 in
set_option maxRecDepth 100000 in
theorem c_dispO (l : Launch) (G : va_G) (C : Nat → ClassId) (a : Nat → Nat) (σ : SG) (κ : KX) (hn : g_n σ ≤ 10) (h0 : 0 < g_n σ) {j : Nat} (hj : j < 4) (h : Int64) : RdC l yX3_displacementOf wsX3_displacementOf ({ frames := 3, cells := 0, slots := 0, locals := 91 } : Room) G (tysC C) (wX C a σ κ) [.ref (a 0), .ref (a (7 + 3 * j)), .long h] (.long (dp σ j h)) := by
  refine Met.ofW (cc := cX3_displacementOf) (maxL := 10) (ret := (some .long)) (by decide) rfl ?_
  intro p e s m args below meth c s₁ B hml hv
  obtain ⟨rfl, hP, hK, hN⟩ := hv
  have hx := B.exec
  have hb := B.bytes
  have hr := B.returns
  have hts := atoms_spec (ws := wsX3_displacementOf) B.pre
  have hown : s.vm.findClass RX3 = some m.cls := findClass_of_methodNamed B.named
  have hlocks := B.notSynchronized
  have hX1 : ∀ w ∈ wsX10, w ∈ wsX3_displacementOf := by decide +kernel
  have hX3 : ∀ w ∈ wsX30, w ∈ wsX3_displacementOf := by decide +kernel
  have hP : va_P G vwCl (wX C a σ κ) s.heap := hP
  have hl := lv_entry ([.ref (a 0), .ref (a (7 + 3 * j)), .long h]) (n := 10) (Nat.le_of_ble_eq_true rfl)
  rw [lg_entry_eq]
  generalize (lg_sl ([.ref (a 0), .ref (a (7 + 3 * j)), .long h]) ++ List.replicate (10 - (lg_sl ([.ref (a 0), .ref (a (7 + 3 * j)), .long h])).length) Slot.unset).toArray = ls at hl ⊢
  have hl : lv_has ls 10 [(0, .ref (a 0)), (1, .ref (a (7 + 3 * j))), (2, .long h)] := hl
  refine lv_aload_n hx hb dX3_displacementOf_0 rfl (lv_at hl 1 rfl) ?_
  refine rd_callV (As := []) (rest := []) ⟨hx, hb, hml, hown, hts⟩ (c_mean1 l G C a σ κ hj) (cwV 0 hts gX3_displacementOf_X1_meanDraft rfl rfl rfl (by decide +kernel) ⟨Nat.le_of_ble_eq_true rfl, Nat.le_of_ble_eq_true rfl⟩) hK hN hP (7 + 3 * j) 1 (wX_sv hj) rfl rfl rfl hl.1 rfl (Nat.le_of_ble_eq_true rfl) dX3_displacementOf_1 ⟨Nat.zero_le _, Nat.zero_le _⟩ ?_
  refine lv_lload_n hx hb dX3_displacementOf_4 rfl (lv_at hl 2 rfl) ?_
  refine lv_ladd hx hb dX3_displacementOf_5 ?_
  refine lv_lstore (lv' := [(4, .long ((qm σ j) + h)), (0, .ref (a 0)), (1, .ref (a (7 + 3 * j))), (2, .long h)]) hx hb dX3_displacementOf_6 hl (by decide) rfl (fun ls hl => ?_)
  refine lv_aload_n hx hb dX3_displacementOf_8 rfl (lv_at hl 2 rfl) ?_
  refine rd_callV (As := []) (rest := []) ⟨hx, hb, hml, hown, hts⟩ (c_trim1 l G C a σ κ hj) (cwV 0 hts gX3_displacementOf_X1_sternTrim rfl rfl rfl (by decide +kernel) ⟨Nat.le_of_ble_eq_true rfl, Nat.le_of_ble_eq_true rfl⟩) hK hN hP (7 + 3 * j) 1 (wX_sv hj) rfl rfl rfl hl.1 rfl (Nat.le_of_ble_eq_true rfl) dX3_displacementOf_9 ⟨Nat.zero_le _, Nat.zero_le _⟩ ?_
  refine lv_lstore (lv' := [(6, .long (tr σ j)), (4, .long ((qm σ j) + h)), (0, .ref (a 0)), (1, .ref (a (7 + 3 * j))), (2, .long h)]) hx hb dX3_displacementOf_12 hl (by decide) rfl (fun ls hl => ?_)
  refine lv_aload_n hx hb dX3_displacementOf_14 rfl (lv_at hl 2 rfl) ?_
  refine va_get (D := G) (ci := 3) (v := .ref (a 4)) (C := RX3) (T := TX3) (N := 7) hx hb hts hX3 hown hK hP (0) wX_e0 rfl 3 (by decide) (hts (.fieldLink RX3 27 "DraftSurvey" "table" "LDraftSurvey$Table;") (by decide +kernel)) (fun _ h9 => h9) rfl dX3_displacementOf_15 ?_
  refine lv_iconst (v := 1) hx hb dX3_displacementOf_18 (by decide) ?_
  refine lv_lload hx hb dX3_displacementOf_19 (lv_at hl 1 rfl) ?_
  refine rd_callV (As := [.int 1, .long ((qm σ j) + h)]) (rest := []) ⟨hx, hb, hml, hown, hts⟩ (c_value l G C a σ κ hn (q := 1) (by decide) ((qm σ j) + h)) (cwV 2 hts gX3_displacementOf_X2_valueAt rfl rfl rfl (by decide +kernel) ⟨Nat.le_of_ble_eq_true rfl, Nat.le_of_ble_eq_true rfl⟩) hK hN hP (4) 2 wX_e4 rfl rfl rfl hl.1 rfl (Nat.le_of_ble_eq_true rfl) dX3_displacementOf_21 ⟨Nat.zero_le _, Nat.zero_le _⟩ ?_
  refine lv_aload_n hx hb dX3_displacementOf_24 rfl (lv_at hl 2 rfl) ?_
  refine lv_lload hx hb dX3_displacementOf_25 (lv_at hl 1 rfl) ?_
  refine lv_lload hx hb dX3_displacementOf_27 (lv_at hl 0 rfl) ?_
  refine rd_callV (As := [.long ((qm σ j) + h), .long (tr σ j)]) (rest := [.long (vA σ 1 ((qm σ j) + h))]) ⟨hx, hb, hml, hown, hts⟩ (c_fstA l G C a σ κ hn ((qm σ j) + h) (tr σ j)) (cwV 2 hts gX3_displacementOf_X3_firstCorrectionAt rfl rfl rfl (by decide +kernel) ⟨Nat.le_of_ble_eq_true rfl, Nat.le_of_ble_eq_true rfl⟩) hK hN hP (0) 3 wX_e0 rfl rfl rfl hl.1 rfl (Nat.le_of_ble_eq_true rfl) dX3_displacementOf_29 ⟨Nat.zero_le _, Nat.zero_le _⟩ ?_
  refine lv_ladd hx hb dX3_displacementOf_32 ?_
  refine lv_aload_n hx hb dX3_displacementOf_33 rfl (lv_at hl 2 rfl) ?_
  refine lv_lload hx hb dX3_displacementOf_34 (lv_at hl 1 rfl) ?_
  refine lv_lload hx hb dX3_displacementOf_36 (lv_at hl 0 rfl) ?_
  refine rd_callV (As := [.long ((qm σ j) + h), .long (tr σ j)]) (rest := [.long ((vA σ 1 ((qm σ j) + h)) + (fc σ ((qm σ j) + h) (tr σ j)))]) ⟨hx, hb, hml, hown, hts⟩ (c_sndA l G C a σ κ hn h0 ((qm σ j) + h) (tr σ j)) (cwV 2 hts gX3_displacementOf_X3_secondCorrectionAt rfl rfl rfl (by decide +kernel) ⟨Nat.le_of_ble_eq_true rfl, Nat.le_of_ble_eq_true rfl⟩) hK hN hP (0) 3 wX_e0 rfl rfl rfl hl.1 rfl (Nat.le_of_ble_eq_true rfl) dX3_displacementOf_38 ⟨Nat.zero_le _, Nat.zero_le _⟩ ?_
  refine lv_ladd hx hb dX3_displacementOf_41 ?_
  refine lv_lstore (lv' := [(8, .long (((vA σ 1 ((qm σ j) + h)) + (fc σ ((qm σ j) + h) (tr σ j))) + (sc σ ((qm σ j) + h) (tr σ j)))), (6, .long (tr σ j)), (4, .long ((qm σ j) + h)), (0, .ref (a 0)), (1, .ref (a (7 + 3 * j))), (2, .long h)]) hx hb dX3_displacementOf_42 hl (by decide) rfl (fun ls hl => ?_)
  refine lv_lload hx hb dX3_displacementOf_44 (lv_at hl 0 rfl) ?_
  refine lv_aload_n hx hb dX3_displacementOf_46 rfl (lv_at hl 4 rfl) ?_
  refine va_getN (D := G) (ci := 1) (v := .long (g_dn σ j)) (C := RX1) (T := TX1) (N := 3) hx hb hts hX1 hown hK hP (7 + 3 * j) (wX_sv hj) rfl 2 (by decide) (va_Nw.use rfl hN.2.2.1) (fun _ h9 => h9) rfl dX3_displacementOf_47 ?_
  refine lv_lmul hx hb dX3_displacementOf_50 ?_
  refine lv_ldc2 (v := 1025) hx hb hown (hts (.constantLong RX3 220 (1025)) (by decide +kernel)) dX3_displacementOf_51 ?_
  refine rd_callS (As := [.long ((((vA σ 1 ((qm σ j) + h)) + (fc σ ((qm σ j) + h) (tr σ j))) + (sc σ ((qm σ j) + h) (tr σ j))) * (g_dn σ j)), .long 1025]) (rest := []) ⟨hx, hb, hml, hown, hts⟩ (c_fdiv l G C a σ κ ((((vA σ 1 ((qm σ j) + h)) + (fc σ ((qm σ j) + h) (tr σ j))) + (sc σ ((qm σ j) + h) (tr σ j))) * (g_dn σ j)) 1025 (by decide)) (va_cwS 2 hts gX3_displacementOf_J9_floorDiv_f86c9 rfl rfl rfl (by decide +kernel) ⟨Nat.le_of_ble_eq_true rfl, Nat.le_of_ble_eq_true rfl⟩) hK hN hP rfl hl.1 rfl (Nat.le_of_ble_eq_true rfl) dX3_displacementOf_54 ⟨Nat.zero_le _, Nat.zero_le _⟩ ?_
  exact rd_lret hx hb hr hlocks (rfl) dX3_displacementOf_57

set_option maxHeartbeats 4000000 in
set_option maxRecDepth 100000 in
theorem c_netO (l : Launch) (G : va_G) (C : Nat → ClassId) (a : Nat → Nat) (σ : SG) (κ : KX) (hn : g_n σ ≤ 10) (h0 : 0 < g_n σ) {j : Nat} (hj : j < 4) (h : Int64) : RdC l yX3_netWeightOf wsX3_netWeightOf ({ frames := 4, cells := 0, slots := 0, locals := 120 } : Room) G (tysC C) (wX C a σ κ) [.ref (a 0), .ref (a (7 + 3 * j)), .long h] (.long (nw σ j h)) := by
  refine Met.ofW (cc := cX3_netWeightOf) (maxL := 4) (ret := (some .long)) (by decide) rfl ?_
  intro p e s m args below meth c s₁ B hml hv
  obtain ⟨rfl, hP, hK, hN⟩ := hv
  have hx := B.exec
  have hb := B.bytes
  have hr := B.returns
  have hts := atoms_spec (ws := wsX3_netWeightOf) B.pre
  have hown : s.vm.findClass RX3 = some m.cls := findClass_of_methodNamed B.named
  have hlocks := B.notSynchronized
  have hP : va_P G vwCl (wX C a σ κ) s.heap := hP
  have hl := lv_entry ([.ref (a 0), .ref (a (7 + 3 * j)), .long h]) (n := 4) (Nat.le_of_ble_eq_true rfl)
  rw [lg_entry_eq]
  generalize (lg_sl ([.ref (a 0), .ref (a (7 + 3 * j)), .long h]) ++ List.replicate (4 - (lg_sl ([.ref (a 0), .ref (a (7 + 3 * j)), .long h])).length) Slot.unset).toArray = ls at hl ⊢
  have hl : lv_has ls 4 [(0, .ref (a 0)), (1, .ref (a (7 + 3 * j))), (2, .long h)] := hl
  refine lv_aload_n hx hb dX3_netWeightOf_0 rfl (lv_at hl 0 rfl) ?_
  refine lv_aload_n hx hb dX3_netWeightOf_1 rfl (lv_at hl 1 rfl) ?_
  refine lv_lload_n hx hb dX3_netWeightOf_2 rfl (lv_at hl 2 rfl) ?_
  refine rd_callV (As := [.ref (a (7 + 3 * j)), .long h]) (rest := []) ⟨hx, hb, hml, hown, hts⟩ (c_dispO l G C a σ κ hn h0 (j := j) hj h) (cwV 2 hts gX3_netWeightOf_X3_displacementOf rfl rfl rfl (by decide +kernel) ⟨Nat.le_of_ble_eq_true rfl, Nat.le_of_ble_eq_true rfl⟩) hK hN hP (0) 3 wX_e0 rfl rfl rfl hl.1 rfl (Nat.le_of_ble_eq_true rfl) dX3_netWeightOf_3 ⟨Nat.zero_le _, Nat.zero_le _⟩ ?_
  refine lv_aload_n hx hb dX3_netWeightOf_6 rfl (lv_at hl 1 rfl) ?_
  refine rd_callV (As := []) (rest := [.long (dp σ j h)]) ⟨hx, hb, hml, hown, hts⟩ (c_ded1 l G C a σ κ hj) (cwV 0 hts gX3_netWeightOf_X1_deducted rfl rfl rfl (by decide +kernel) ⟨Nat.le_of_ble_eq_true rfl, Nat.le_of_ble_eq_true rfl⟩) hK hN hP (7 + 3 * j) 1 (wX_sv hj) rfl rfl rfl hl.1 rfl (Nat.le_of_ble_eq_true rfl) dX3_netWeightOf_7 ⟨Nat.zero_le _, Nat.zero_le _⟩ ?_
  refine lv_lsub hx hb dX3_netWeightOf_10 ?_
  exact rd_lret hx hb hr hlocks (rfl) dX3_netWeightOf_11

set_option maxHeartbeats 4000000 in
set_option maxRecDepth 100000 in
theorem c_light (l : Launch) (G : va_G) (C : Nat → ClassId) (a : Nat → Nat) (σ : SG) (κ : KX) (hn : g_n σ ≤ 10) (h0 : 0 < g_n σ) {j : Nat} (hj : j < 4) : RdC l yX3_lightWeight wsX3_lightWeight ({ frames := 5, cells := 0, slots := 0, locals := 143 } : Room) G (tysC C) (wX C a σ κ) [.ref (a 0), .ref (a (7 + 3 * j))] (.long (li σ j)) := by
  refine Met.ofW (cc := cX3_lightWeight) (maxL := 2) (ret := (some .long)) (by decide) rfl ?_
  intro p e s m args below meth c s₁ B hml hv
  obtain ⟨rfl, hP, hK, hN⟩ := hv
  have hx := B.exec
  have hb := B.bytes
  have hr := B.returns
  have hts := atoms_spec (ws := wsX3_lightWeight) B.pre
  have hown : s.vm.findClass RX3 = some m.cls := findClass_of_methodNamed B.named
  have hlocks := B.notSynchronized
  have hX3 : ∀ w ∈ wsX30, w ∈ wsX3_lightWeight := by decide +kernel
  have hP : va_P G vwCl (wX C a σ κ) s.heap := hP
  have hl := lv_entry ([.ref (a 0), .ref (a (7 + 3 * j))]) (n := 2) (Nat.le_of_ble_eq_true rfl)
  rw [lg_entry_eq]
  generalize (lg_sl ([.ref (a 0), .ref (a (7 + 3 * j))]) ++ List.replicate (2 - (lg_sl ([.ref (a 0), .ref (a (7 + 3 * j))])).length) Slot.unset).toArray = ls at hl ⊢
  have hl : lv_has ls 2 [(0, .ref (a 0)), (1, .ref (a (7 + 3 * j)))] := hl
  refine lv_aload_n hx hb dX3_lightWeight_0 rfl (lv_at hl 0 rfl) ?_
  refine lv_aload_n hx hb dX3_lightWeight_1 rfl (lv_at hl 1 rfl) ?_
  refine lv_aload_n hx hb dX3_lightWeight_2 rfl (lv_at hl 0 rfl) ?_
  refine va_get (D := G) (ci := 3) (v := .long (g_mar σ)) (C := RX3) (T := TX3) (N := 7) hx hb hts hX3 hown hK hP (0) wX_e0 rfl 6 (by decide) (hts (.fieldLink RX3 44 "DraftSurvey" "margin" "J") (by decide +kernel)) (fun _ h9 => h9) rfl dX3_lightWeight_3 ?_
  refine lv_lneg hx hb dX3_lightWeight_6 ?_
  refine rd_callV (As := [.ref (a (7 + 3 * j)), .long (-(g_mar σ))]) (rest := []) ⟨hx, hb, hml, hown, hts⟩ (c_netO l G C a σ κ hn h0 (j := j) hj (-(g_mar σ))) (cwV 2 hts gX3_lightWeight_X3_netWeightOf rfl rfl rfl (by decide +kernel) ⟨Nat.le_of_ble_eq_true rfl, Nat.le_of_ble_eq_true rfl⟩) hK hN hP (0) 3 wX_e0 rfl rfl rfl hl.1 rfl (Nat.le_of_ble_eq_true rfl) dX3_lightWeight_7 ⟨Nat.zero_le _, Nat.zero_le _⟩ ?_
  refine lv_aload_n hx hb dX3_lightWeight_10 rfl (lv_at hl 0 rfl) ?_
  refine lv_aload_n hx hb dX3_lightWeight_11 rfl (lv_at hl 1 rfl) ?_
  refine lv_aload_n hx hb dX3_lightWeight_12 rfl (lv_at hl 0 rfl) ?_
  refine va_get (D := G) (ci := 3) (v := .long (g_mar σ)) (C := RX3) (T := TX3) (N := 7) hx hb hts hX3 hown hK hP (0) wX_e0 rfl 6 (by decide) (hts (.fieldLink RX3 44 "DraftSurvey" "margin" "J") (by decide +kernel)) (fun _ h9 => h9) rfl dX3_lightWeight_13 ?_
  refine rd_callV (As := [.ref (a (7 + 3 * j)), .long (g_mar σ)]) (rest := [.long (nw σ j (-(g_mar σ)))]) ⟨hx, hb, hml, hown, hts⟩ (c_netO l G C a σ κ hn h0 (j := j) hj (g_mar σ)) (cwV 2 hts gX3_lightWeight_X3_netWeightOf rfl rfl rfl (by decide +kernel) ⟨Nat.le_of_ble_eq_true rfl, Nat.le_of_ble_eq_true rfl⟩) hK hN hP (0) 3 wX_e0 rfl rfl rfl hl.1 rfl (Nat.le_of_ble_eq_true rfl) dX3_lightWeight_16 ⟨Nat.zero_le _, Nat.zero_le _⟩ ?_
  refine va_mmin_long hx hb (hml.trans hl.1.symm) hown (hts (.methodLink RX3 213 Lib.MathLoose.min_long.x) (by decide +kernel)) (hts (.static Lib.MathLoose.min_long.x) (by decide +kernel)) (hts (.initialized "java/lang/Math") (by decide +kernel)) (hts (.code Lib.MathLoose.min_long.x Lib.MathLoose.min_long.code 4 (some .long)) (by decide +kernel)) (Nat.le_of_ble_eq_true rfl) (Nat.le_of_ble_eq_true rfl) (Nat.zero_le _) (Nat.zero_le _) dX3_lightWeight_19 ?_
  refine tp_l (v := mnL (nw σ j (-(g_mar σ))) (nw σ j (g_mar σ))) rfl ?_
  exact rd_lret hx hb hr hlocks (rfl) dX3_lightWeight_22

set_option maxHeartbeats 4000000 in
set_option maxRecDepth 100000 in
theorem c_heavy (l : Launch) (G : va_G) (C : Nat → ClassId) (a : Nat → Nat) (σ : SG) (κ : KX) (hn : g_n σ ≤ 10) (h0 : 0 < g_n σ) {j : Nat} (hj : j < 4) : RdC l yX3_heavyWeight wsX3_heavyWeight ({ frames := 5, cells := 0, slots := 0, locals := 143 } : Room) G (tysC C) (wX C a σ κ) [.ref (a 0), .ref (a (7 + 3 * j))] (.long (he σ j)) := by
  refine Met.ofW (cc := cX3_heavyWeight) (maxL := 2) (ret := (some .long)) (by decide) rfl ?_
  intro p e s m args below meth c s₁ B hml hv
  obtain ⟨rfl, hP, hK, hN⟩ := hv
  have hx := B.exec
  have hb := B.bytes
  have hr := B.returns
  have hts := atoms_spec (ws := wsX3_heavyWeight) B.pre
  have hown : s.vm.findClass RX3 = some m.cls := findClass_of_methodNamed B.named
  have hlocks := B.notSynchronized
  have hX3 : ∀ w ∈ wsX30, w ∈ wsX3_heavyWeight := by decide +kernel
  have hP : va_P G vwCl (wX C a σ κ) s.heap := hP
  have hl := lv_entry ([.ref (a 0), .ref (a (7 + 3 * j))]) (n := 2) (Nat.le_of_ble_eq_true rfl)
  rw [lg_entry_eq]
  generalize (lg_sl ([.ref (a 0), .ref (a (7 + 3 * j))]) ++ List.replicate (2 - (lg_sl ([.ref (a 0), .ref (a (7 + 3 * j))])).length) Slot.unset).toArray = ls at hl ⊢
  have hl : lv_has ls 2 [(0, .ref (a 0)), (1, .ref (a (7 + 3 * j)))] := hl
  refine lv_aload_n hx hb dX3_heavyWeight_0 rfl (lv_at hl 0 rfl) ?_
  refine lv_aload_n hx hb dX3_heavyWeight_1 rfl (lv_at hl 1 rfl) ?_
  refine lv_aload_n hx hb dX3_heavyWeight_2 rfl (lv_at hl 0 rfl) ?_
  refine va_get (D := G) (ci := 3) (v := .long (g_mar σ)) (C := RX3) (T := TX3) (N := 7) hx hb hts hX3 hown hK hP (0) wX_e0 rfl 6 (by decide) (hts (.fieldLink RX3 44 "DraftSurvey" "margin" "J") (by decide +kernel)) (fun _ h9 => h9) rfl dX3_heavyWeight_3 ?_
  refine lv_lneg hx hb dX3_heavyWeight_6 ?_
  refine rd_callV (As := [.ref (a (7 + 3 * j)), .long (-(g_mar σ))]) (rest := []) ⟨hx, hb, hml, hown, hts⟩ (c_netO l G C a σ κ hn h0 (j := j) hj (-(g_mar σ))) (cwV 2 hts gX3_heavyWeight_X3_netWeightOf rfl rfl rfl (by decide +kernel) ⟨Nat.le_of_ble_eq_true rfl, Nat.le_of_ble_eq_true rfl⟩) hK hN hP (0) 3 wX_e0 rfl rfl rfl hl.1 rfl (Nat.le_of_ble_eq_true rfl) dX3_heavyWeight_7 ⟨Nat.zero_le _, Nat.zero_le _⟩ ?_
  refine lv_aload_n hx hb dX3_heavyWeight_10 rfl (lv_at hl 0 rfl) ?_
  refine lv_aload_n hx hb dX3_heavyWeight_11 rfl (lv_at hl 1 rfl) ?_
  refine lv_aload_n hx hb dX3_heavyWeight_12 rfl (lv_at hl 0 rfl) ?_
  refine va_get (D := G) (ci := 3) (v := .long (g_mar σ)) (C := RX3) (T := TX3) (N := 7) hx hb hts hX3 hown hK hP (0) wX_e0 rfl 6 (by decide) (hts (.fieldLink RX3 44 "DraftSurvey" "margin" "J") (by decide +kernel)) (fun _ h9 => h9) rfl dX3_heavyWeight_13 ?_
  refine rd_callV (As := [.ref (a (7 + 3 * j)), .long (g_mar σ)]) (rest := [.long (nw σ j (-(g_mar σ)))]) ⟨hx, hb, hml, hown, hts⟩ (c_netO l G C a σ κ hn h0 (j := j) hj (g_mar σ)) (cwV 2 hts gX3_heavyWeight_X3_netWeightOf rfl rfl rfl (by decide +kernel) ⟨Nat.le_of_ble_eq_true rfl, Nat.le_of_ble_eq_true rfl⟩) hK hN hP (0) 3 wX_e0 rfl rfl rfl hl.1 rfl (Nat.le_of_ble_eq_true rfl) dX3_heavyWeight_16 ⟨Nat.zero_le _, Nat.zero_le _⟩ ?_
  refine va_mmax_long hx hb (hml.trans hl.1.symm) hown (hts (.methodLink RX3 205 Lib.MathLoose.max_long.x) (by decide +kernel)) (hts (.static Lib.MathLoose.max_long.x) (by decide +kernel)) (hts (.initialized "java/lang/Math") (by decide +kernel)) (hts (.code Lib.MathLoose.max_long.x Lib.MathLoose.max_long.code 4 (some .long)) (by decide +kernel)) (Nat.le_of_ble_eq_true rfl) (Nat.le_of_ble_eq_true rfl) (Nat.zero_le _) (Nat.zero_le _) dX3_heavyWeight_19 ?_
  refine tp_l (v := mxL (nw σ j (-(g_mar σ))) (nw σ j (g_mar σ))) rfl ?_
  exact rd_lret hx hb hr hlocks (rfl) dX3_heavyWeight_22
