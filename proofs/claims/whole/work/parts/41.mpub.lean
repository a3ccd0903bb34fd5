set_option maxHeartbeats 4000000 in
set_option maxRecDepth 100000 in
theorem m_isI (l : Launch) (G : va_G) (C : Nat → ClassId) (b : Nat → Nat) (σ : SG) (ρ : KM) {j : Nat} (hj : j < 4) : RdC l yX4_isSurvey wsX4_isSurvey ({ frames := 1, cells := 0, slots := 0, locals := 25 } : Room) G (tysC C) (wM C b σ ρ) [.int (nI j)] (.int 1) := by
  refine Met.ofW (cc := cX4_isSurvey) (maxL := 1) (ret := (some .boolean)) (by decide) rfl ?_
  intro p e s m args below meth c s₁ B hml hv
  obtain ⟨rfl, hP, hK, hN⟩ := hv
  have hx := B.exec
  have hb := B.bytes
  have hr := B.returns
  have hts := atoms_spec (ws := wsX4_isSurvey) B.pre
  have hown : s.vm.findClass RX4 = some m.cls := findClass_of_methodNamed B.named
  have hlocks := B.notSynchronized
  have hP : va_P G vwCl (wM C b σ ρ) s.heap := hP
  have hl := lv_entry ([.int (nI j)]) (n := 1) (Nat.le_of_ble_eq_true rfl)
  rw [lg_entry_eq]
  generalize (lg_sl ([.int (nI j)]) ++ List.replicate (1 - (lg_sl ([.int (nI j)])).length) Slot.unset).toArray = ls at hl ⊢
  have hl : lv_has ls 1 [(0, .int (nI j))] := hl
  refine lv_iload_n hx hb dX4_isSurvey_0 rfl (lv_at hl 0 rfl) ?_
  refine lv_i2l (v := lN j) hx hb dX4_isSurvey_1 (nI_l (by omega)) ?_
  refine lv_lconst (v := 0) hx hb dX4_isSurvey_2 (by decide) ?_
  refine lv_ldc2 (v := 3) hx hb hown (hts (.constantLong RX4 100 (3)) (by decide +kernel)) dX4_isSurvey_3 ?_
  refine rd_callS (As := [.long (lN j), .long 0, .long 3]) (rest := []) ⟨hx, hb, hml, hown, hts⟩ (m_within_t l G C b σ ρ (lj_0 (by omega)) (lj_h (j := j) (m := 3) (by omega) (by decide))) (va_cwS 3 hts gX4_isSurvey_X4_within rfl rfl rfl (by decide +kernel) ⟨Nat.le_of_ble_eq_true rfl, Nat.le_of_ble_eq_true rfl⟩) hK hN hP rfl hl.1 rfl (Nat.le_of_ble_eq_true rfl) dX4_isSurvey_6 ⟨Nat.zero_le _, Nat.zero_le _⟩ ?_
  exact rd_zret hx hb hr hlocks (Or.inr rfl) (rfl) dX4_isSurvey_9

set_option maxHeartbeats 4000000 in
set_option maxRecDepth 100000 in
theorem m_isO (l : Launch) (G : va_G) (C : Nat → ClassId) (b : Nat → Nat) (σ : SG) (ρ : KM) {x : Int32} (hx_ : ¬ inS x 4) : RdC l yX4_isSurvey wsX4_isSurvey ({ frames := 1, cells := 0, slots := 0, locals := 25 } : Room) G (tysC C) (wM C b σ ρ) [.int x] (.int 0) := by
  refine Met.ofW (cc := cX4_isSurvey) (maxL := 1) (ret := (some .boolean)) (by decide) rfl ?_
  intro p e s m args below meth c s₁ B hml hv
  obtain ⟨rfl, hP, hK, hN⟩ := hv
  have hx := B.exec
  have hb := B.bytes
  have hr := B.returns
  have hts := atoms_spec (ws := wsX4_isSurvey) B.pre
  have hown : s.vm.findClass RX4 = some m.cls := findClass_of_methodNamed B.named
  have hlocks := B.notSynchronized
  have hP : va_P G vwCl (wM C b σ ρ) s.heap := hP
  have hl := lv_entry ([.int x]) (n := 1) (Nat.le_of_ble_eq_true rfl)
  rw [lg_entry_eq]
  generalize (lg_sl ([.int x]) ++ List.replicate (1 - (lg_sl ([.int x])).length) Slot.unset).toArray = ls at hl ⊢
  have hl : lv_has ls 1 [(0, .int x)] := hl
  refine lv_iload_n hx hb dX4_isSurvey_0 rfl (lv_at hl 0 rfl) ?_
  refine lv_i2l (v := x.toInt64) hx hb dX4_isSurvey_1 rfl ?_
  refine lv_lconst (v := 0) hx hb dX4_isSurvey_2 (by decide) ?_
  refine lv_ldc2 (v := 3) hx hb hown (hts (.constantLong RX4 100 (3)) (by decide +kernel)) dX4_isSurvey_3 ?_
  refine rd_callS (As := [.long x.toInt64, .long 0, .long 3]) (rest := []) ⟨hx, hb, hml, hown, hts⟩ (m_within_f l G C b σ ρ (w_f (lo := 0) (hi := 3) rfl rfl (inS_3 hx_))) (va_cwS 3 hts gX4_isSurvey_X4_within rfl rfl rfl (by decide +kernel) ⟨Nat.le_of_ble_eq_true rfl, Nat.le_of_ble_eq_true rfl⟩) hK hN hP rfl hl.1 rfl (Nat.le_of_ble_eq_true rfl) dX4_isSurvey_6 ⟨Nat.zero_le _, Nat.zero_le _⟩ ?_
  exact rd_zret hx hb hr hlocks (Or.inl rfl) (rfl) dX4_isSurvey_9

set_option maxHeartbeats 4000000 in
set_option maxRecDepth 100000 in
theorem m_trim_i (l : Launch) (G : va_G) (C : Nat → ClassId) (b : Nat → Nat) (σ : SG) (ρ : KM) (hI : Inv σ) {j : Nat} (hj : j < 4) : RdC l yX4_trim wsX4_trim ({ frames := 3, cells := 0, slots := 0, locals := 76 } : Room) G (tysC C) (wM C b σ ρ) [.ref (b 0), .int (nI j)] (.long (tr σ j)) := by
  refine Met.ofW (cc := cX4_trim) (maxL := 2) (ret := (some .long)) (by decide) rfl ?_
  intro p e s m args below meth c s₁ B hml hv
  obtain ⟨rfl, hP, hK, hN⟩ := hv
  have hx := B.exec
  have hb := B.bytes
  have hr := B.returns
  have hts := atoms_spec (ws := wsX4_trim) B.pre
  have hown : s.vm.findClass RX4 = some m.cls := findClass_of_methodNamed B.named
  have hlocks := B.notSynchronized
  have hP : va_P G vwCl (wM C b σ ρ) s.heap := hP
  have hl := lv_entry ([.ref (b 0), .int (nI j)]) (n := 2) (Nat.le_of_ble_eq_true rfl)
  rw [lg_entry_eq]
  generalize (lg_sl ([.ref (b 0), .int (nI j)]) ++ List.replicate (2 - (lg_sl ([.ref (b 0), .int (nI j)])).length) Slot.unset).toArray = ls at hl ⊢
  have hl : lv_has ls 2 [(0, .ref (b 0)), (1, .int (nI j))] := hl
  refine lv_iload_n hx hb dX4_trim_0 rfl (lv_at hl 1 rfl) ?_
  refine rd_callS (As := [.int (nI j)]) (rest := []) ⟨hx, hb, hml, hown, hts⟩ (m_isI l G C b σ ρ (j := j) hj) (va_cwS 1 hts gX4_trim_X4_isSurvey rfl rfl rfl (by decide +kernel) ⟨Nat.le_of_ble_eq_true rfl, Nat.le_of_ble_eq_true rfl⟩) hK hN hP rfl hl.1 rfl (Nat.le_of_ble_eq_true rfl) dX4_trim_1 ⟨Nat.zero_le _, Nat.zero_le _⟩ ?_
  refine lv_if_eq (tgt := 16) hx hb dX4_trim_4 (by decide) (fun c_1 => ?_) (fun c_1 => ?_)
  · skip
    exact absurd c_1 (by decide)
  · skip
    refine lv_aload_n hx hb dX4_trim_7 rfl (lv_at hl 0 rfl) ?_
    refine lv_iload_n hx hb dX4_trim_8 rfl (lv_at hl 1 rfl) ?_
    refine lv_lconst (v := 0) hx hb dX4_trim_9 (by decide) ?_
    refine rd_callV (As := [.int (nI j), .long 0]) (rest := []) ⟨hx, hb, hml, hown, hts⟩ (m_trimOf l G C b σ ρ hI (j := j) hj sm_0) (cwV 2 hts gX4_trim_X4_trimOf rfl rfl rfl (by decide +kernel) ⟨Nat.le_of_ble_eq_true rfl, Nat.le_of_ble_eq_true rfl⟩) hK hN hP (0) 4 wM_e0 rfl rfl rfl hl.1 rfl (Nat.le_of_ble_eq_true rfl) dX4_trim_10 ⟨Nat.zero_le _, Nat.zero_le _⟩ ?_
    refine lv_goto (tgt := 19) hx hb dX4_trim_13 (by decide) ?_
    exact rd_lret hx hb hr hlocks (rfl) dX4_trim_19

set_option maxHeartbeats 4000000 in
set_option maxRecDepth 100000 in
theorem m_trim_o (l : Launch) (G : va_G) (C : Nat → ClassId) (b : Nat → Nat) (σ : SG) (ρ : KM) {x : Int32} (hx_ : ¬ inS x 4) : RdC l yX4_trim wsX4_trim ({ frames := 3, cells := 0, slots := 0, locals := 76 } : Room) G (tysC C) (wM C b σ ρ) [.ref (b 0), .int x] (.long NO_S) := by
  refine Met.ofW (cc := cX4_trim) (maxL := 2) (ret := (some .long)) (by decide) rfl ?_
  intro p e s m args below meth c s₁ B hml hv
  obtain ⟨rfl, hP, hK, hN⟩ := hv
  have hx := B.exec
  have hb := B.bytes
  have hr := B.returns
  have hts := atoms_spec (ws := wsX4_trim) B.pre
  have hown : s.vm.findClass RX4 = some m.cls := findClass_of_methodNamed B.named
  have hlocks := B.notSynchronized
  have hP : va_P G vwCl (wM C b σ ρ) s.heap := hP
  have hl := lv_entry ([.ref (b 0), .int x]) (n := 2) (Nat.le_of_ble_eq_true rfl)
  rw [lg_entry_eq]
  generalize (lg_sl ([.ref (b 0), .int x]) ++ List.replicate (2 - (lg_sl ([.ref (b 0), .int x])).length) Slot.unset).toArray = ls at hl ⊢
  have hl : lv_has ls 2 [(0, .ref (b 0)), (1, .int x)] := hl
  refine lv_iload_n hx hb dX4_trim_0 rfl (lv_at hl 1 rfl) ?_
  refine rd_callS (As := [.int x]) (rest := []) ⟨hx, hb, hml, hown, hts⟩ (m_isO l G C b σ ρ hx_) (va_cwS 1 hts gX4_trim_X4_isSurvey rfl rfl rfl (by decide +kernel) ⟨Nat.le_of_ble_eq_true rfl, Nat.le_of_ble_eq_true rfl⟩) hK hN hP rfl hl.1 rfl (Nat.le_of_ble_eq_true rfl) dX4_trim_1 ⟨Nat.zero_le _, Nat.zero_le _⟩ ?_
  refine lv_if_eq (tgt := 16) hx hb dX4_trim_4 (by decide) (fun c_1 => ?_) (fun c_1 => ?_)
  · skip
    refine lv_ldc2 (v := (-9000000000000000001)) hx hb hown (hts (.constantLong RX4 125 (-9000000000000000001)) (by decide +kernel)) dX4_trim_16 ?_
    exact rd_lret hx hb hr hlocks (rfl) dX4_trim_19
  · skip
    exact absurd c_1 (by decide)

theorem m_trim (l : Launch) (G : va_G) (C : Nat → ClassId) (b : Nat → Nat) (σ : SG) (ρ : KM) (hI : Inv σ) (x : Int32) : RdC l yX4_trim wsX4_trim ({ frames := 3, cells := 0, slots := 0, locals := 76 } : Room) G (tysC C) (wM C b σ ρ) [.ref (b 0), .int x] (.long (aTrim σ x)) := by
  by_cases h : inS x 4
  · obtain ⟨j, hj, rfl⟩ := inS_nI h
    rw [show aTrim σ (nI j) = tr σ j from by unfold aTrim; rw [if_pos h, cl4 hj]]
    exact m_trim_i l G C b σ ρ hI hj
  · rw [show aTrim σ x = NO_S from if_neg h]
    exact m_trim_o l G C b σ ρ h

set_option maxHeartbeats 4000000 in
set_option maxRecDepth 100000 in
theorem m_defl_i (l : Launch) (G : va_G) (C : Nat → ClassId) (b : Nat → Nat) (σ : SG) (ρ : KM) (hI : Inv σ) {j : Nat} (hj : j < 4) : RdC l yX4_deflection wsX4_deflection ({ frames := 3, cells := 0, slots := 0, locals := 74 } : Room) G (tysC C) (wM C b σ ρ) [.ref (b 0), .int (nI j)] (.long (df σ j)) := by
  refine Met.ofW (cc := cX4_deflection) (maxL := 2) (ret := (some .long)) (by decide) rfl ?_
  intro p e s m args below meth c s₁ B hml hv
  obtain ⟨rfl, hP, hK, hN⟩ := hv
  have hx := B.exec
  have hb := B.bytes
  have hr := B.returns
  have hts := atoms_spec (ws := wsX4_deflection) B.pre
  have hown : s.vm.findClass RX4 = some m.cls := findClass_of_methodNamed B.named
  have hlocks := B.notSynchronized
  have hP : va_P G vwCl (wM C b σ ρ) s.heap := hP
  have hl := lv_entry ([.ref (b 0), .int (nI j)]) (n := 2) (Nat.le_of_ble_eq_true rfl)
  rw [lg_entry_eq]
  generalize (lg_sl ([.ref (b 0), .int (nI j)]) ++ List.replicate (2 - (lg_sl ([.ref (b 0), .int (nI j)])).length) Slot.unset).toArray = ls at hl ⊢
  have hl : lv_has ls 2 [(0, .ref (b 0)), (1, .int (nI j))] := hl
  refine lv_iload_n hx hb dX4_deflection_0 rfl (lv_at hl 1 rfl) ?_
  refine rd_callS (As := [.int (nI j)]) (rest := []) ⟨hx, hb, hml, hown, hts⟩ (m_isI l G C b σ ρ (j := j) hj) (va_cwS 1 hts gX4_deflection_X4_isSurvey rfl rfl rfl (by decide +kernel) ⟨Nat.le_of_ble_eq_true rfl, Nat.le_of_ble_eq_true rfl⟩) hK hN hP rfl hl.1 rfl (Nat.le_of_ble_eq_true rfl) dX4_deflection_1 ⟨Nat.zero_le _, Nat.zero_le _⟩ ?_
  refine lv_if_eq (tgt := 15) hx hb dX4_deflection_4 (by decide) (fun c_1 => ?_) (fun c_1 => ?_)
  · skip
    exact absurd c_1 (by decide)
  · skip
    refine lv_aload_n hx hb dX4_deflection_7 rfl (lv_at hl 0 rfl) ?_
    refine lv_iload_n hx hb dX4_deflection_8 rfl (lv_at hl 1 rfl) ?_
    refine rd_callV (As := [.int (nI j)]) (rest := []) ⟨hx, hb, hml, hown, hts⟩ (m_deflOf l G C b σ ρ hI (j := j) hj) (cwV 1 hts gX4_deflection_X4_deflectionOf rfl rfl rfl (by decide +kernel) ⟨Nat.le_of_ble_eq_true rfl, Nat.le_of_ble_eq_true rfl⟩) hK hN hP (0) 4 wM_e0 rfl rfl rfl hl.1 rfl (Nat.le_of_ble_eq_true rfl) dX4_deflection_9 ⟨Nat.zero_le _, Nat.zero_le _⟩ ?_
    refine lv_goto (tgt := 18) hx hb dX4_deflection_12 (by decide) ?_
    exact rd_lret hx hb hr hlocks (rfl) dX4_deflection_18

set_option maxHeartbeats 4000000 in
set_option maxRecDepth 100000 in
theorem m_defl_o (l : Launch) (G : va_G) (C : Nat → ClassId) (b : Nat → Nat) (σ : SG) (ρ : KM) {x : Int32} (hx_ : ¬ inS x 4) : RdC l yX4_deflection wsX4_deflection ({ frames := 3, cells := 0, slots := 0, locals := 74 } : Room) G (tysC C) (wM C b σ ρ) [.ref (b 0), .int x] (.long NO_S) := by
  refine Met.ofW (cc := cX4_deflection) (maxL := 2) (ret := (some .long)) (by decide) rfl ?_
  intro p e s m args below meth c s₁ B hml hv
  obtain ⟨rfl, hP, hK, hN⟩ := hv
  have hx := B.exec
  have hb := B.bytes
  have hr := B.returns
  have hts := atoms_spec (ws := wsX4_deflection) B.pre
  have hown : s.vm.findClass RX4 = some m.cls := findClass_of_methodNamed B.named
  have hlocks := B.notSynchronized
  have hP : va_P G vwCl (wM C b σ ρ) s.heap := hP
  have hl := lv_entry ([.ref (b 0), .int x]) (n := 2) (Nat.le_of_ble_eq_true rfl)
  rw [lg_entry_eq]
  generalize (lg_sl ([.ref (b 0), .int x]) ++ List.replicate (2 - (lg_sl ([.ref (b 0), .int x])).length) Slot.unset).toArray = ls at hl ⊢
  have hl : lv_has ls 2 [(0, .ref (b 0)), (1, .int x)] := hl
  refine lv_iload_n hx hb dX4_deflection_0 rfl (lv_at hl 1 rfl) ?_
  refine rd_callS (As := [.int x]) (rest := []) ⟨hx, hb, hml, hown, hts⟩ (m_isO l G C b σ ρ hx_) (va_cwS 1 hts gX4_deflection_X4_isSurvey rfl rfl rfl (by decide +kernel) ⟨Nat.le_of_ble_eq_true rfl, Nat.le_of_ble_eq_true rfl⟩) hK hN hP rfl hl.1 rfl (Nat.le_of_ble_eq_true rfl) dX4_deflection_1 ⟨Nat.zero_le _, Nat.zero_le _⟩ ?_
  refine lv_if_eq (tgt := 15) hx hb dX4_deflection_4 (by decide) (fun c_1 => ?_) (fun c_1 => ?_)
  · skip
    refine lv_ldc2 (v := (-9000000000000000001)) hx hb hown (hts (.constantLong RX4 125 (-9000000000000000001)) (by decide +kernel)) dX4_deflection_15 ?_
    exact rd_lret hx hb hr hlocks (rfl) dX4_deflection_18
  · skip
    exact absurd c_1 (by decide)

theorem m_defl (l : Launch) (G : va_G) (C : Nat → ClassId) (b : Nat → Nat) (σ : SG) (ρ : KM) (hI : Inv σ) (x : Int32) : RdC l yX4_deflection wsX4_deflection ({ frames := 3, cells := 0, slots := 0, locals := 74 } : Room) G (tysC C) (wM C b σ ρ) [.ref (b 0), .int x] (.long (aDefl σ x)) := by
  by_cases h : inS x 4
  · obtain ⟨j, hj, rfl⟩ := inS_nI h
    rw [show aDefl σ (nI j) = df σ j from by unfold aDefl; rw [if_pos h, cl4 hj]]
    exact m_defl_i l G C b σ ρ hI hj
  · rw [show aDefl σ x = NO_S from if_neg h]
    exact m_defl_o l G C b σ ρ h

set_option maxHeartbeats 4000000 in
set_option maxRecDepth 100000 in
theorem m_heel_i (l : Launch) (G : va_G) (C : Nat → ClassId) (b : Nat → Nat) (σ : SG) (ρ : KM) (hI : Inv σ) {j : Nat} (hj : j < 4) : RdC l yX4_heel wsX4_heel ({ frames := 2, cells := 0, slots := 0, locals := 45 } : Room) G (tysC C) (wM C b σ ρ) [.ref (b 0), .int (nI j)] (.long (hl_ σ j)) := by
  refine Met.ofW (cc := cX4_heel) (maxL := 2) (ret := (some .long)) (by decide) rfl ?_
  intro p e s m args below meth c s₁ B hml hv
  obtain ⟨rfl, hP, hK, hN⟩ := hv
  have hx := B.exec
  have hb := B.bytes
  have hr := B.returns
  have hts := atoms_spec (ws := wsX4_heel) B.pre
  have hown : s.vm.findClass RX4 = some m.cls := findClass_of_methodNamed B.named
  have hlocks := B.notSynchronized
  have hP : va_P G vwCl (wM C b σ ρ) s.heap := hP
  have hl := lv_entry ([.ref (b 0), .int (nI j)]) (n := 2) (Nat.le_of_ble_eq_true rfl)
  rw [lg_entry_eq]
  generalize (lg_sl ([.ref (b 0), .int (nI j)]) ++ List.replicate (2 - (lg_sl ([.ref (b 0), .int (nI j)])).length) Slot.unset).toArray = ls at hl ⊢
  have hl : lv_has ls 2 [(0, .ref (b 0)), (1, .int (nI j))] := hl
  refine lv_iload_n hx hb dX4_heel_0 rfl (lv_at hl 1 rfl) ?_
  refine rd_callS (As := [.int (nI j)]) (rest := []) ⟨hx, hb, hml, hown, hts⟩ (m_isI l G C b σ ρ (j := j) hj) (va_cwS 1 hts gX4_heel_X4_isSurvey rfl rfl rfl (by decide +kernel) ⟨Nat.le_of_ble_eq_true rfl, Nat.le_of_ble_eq_true rfl⟩) hK hN hP rfl hl.1 rfl (Nat.le_of_ble_eq_true rfl) dX4_heel_1 ⟨Nat.zero_le _, Nat.zero_le _⟩ ?_
  refine lv_if_eq (tgt := 15) hx hb dX4_heel_4 (by decide) (fun c_1 => ?_) (fun c_1 => ?_)
  · skip
    exact absurd c_1 (by decide)
  · skip
    refine lv_aload_n hx hb dX4_heel_7 rfl (lv_at hl 0 rfl) ?_
    refine lv_iload_n hx hb dX4_heel_8 rfl (lv_at hl 1 rfl) ?_
    refine rd_callV (As := [.int (nI j)]) (rest := []) ⟨hx, hb, hml, hown, hts⟩ (m_heelOf l G C b σ ρ hI (j := j) hj) (cwV 1 hts gX4_heel_X4_heelOf rfl rfl rfl (by decide +kernel) ⟨Nat.le_of_ble_eq_true rfl, Nat.le_of_ble_eq_true rfl⟩) hK hN hP (0) 4 wM_e0 rfl rfl rfl hl.1 rfl (Nat.le_of_ble_eq_true rfl) dX4_heel_9 ⟨Nat.zero_le _, Nat.zero_le _⟩ ?_
    refine lv_goto (tgt := 18) hx hb dX4_heel_12 (by decide) ?_
    exact rd_lret hx hb hr hlocks (rfl) dX4_heel_18

set_option maxHeartbeats 4000000 in
set_option maxRecDepth 100000 in
theorem m_heel_o (l : Launch) (G : va_G) (C : Nat → ClassId) (b : Nat → Nat) (σ : SG) (ρ : KM) {x : Int32} (hx_ : ¬ inS x 4) : RdC l yX4_heel wsX4_heel ({ frames := 2, cells := 0, slots := 0, locals := 45 } : Room) G (tysC C) (wM C b σ ρ) [.ref (b 0), .int x] (.long NO_S) := by
  refine Met.ofW (cc := cX4_heel) (maxL := 2) (ret := (some .long)) (by decide) rfl ?_
  intro p e s m args below meth c s₁ B hml hv
  obtain ⟨rfl, hP, hK, hN⟩ := hv
  have hx := B.exec
  have hb := B.bytes
  have hr := B.returns
  have hts := atoms_spec (ws := wsX4_heel) B.pre
  have hown : s.vm.findClass RX4 = some m.cls := findClass_of_methodNamed B.named
  have hlocks := B.notSynchronized
  have hP : va_P G vwCl (wM C b σ ρ) s.heap := hP
  have hl := lv_entry ([.ref (b 0), .int x]) (n := 2) (Nat.le_of_ble_eq_true rfl)
  rw [lg_entry_eq]
  generalize (lg_sl ([.ref (b 0), .int x]) ++ List.replicate (2 - (lg_sl ([.ref (b 0), .int x])).length) Slot.unset).toArray = ls at hl ⊢
  have hl : lv_has ls 2 [(0, .ref (b 0)), (1, .int x)] := hl
  refine lv_iload_n hx hb dX4_heel_0 rfl (lv_at hl 1 rfl) ?_
  refine rd_callS (As := [.int x]) (rest := []) ⟨hx, hb, hml, hown, hts⟩ (m_isO l G C b σ ρ hx_) (va_cwS 1 hts gX4_heel_X4_isSurvey rfl rfl rfl (by decide +kernel) ⟨Nat.le_of_ble_eq_true rfl, Nat.le_of_ble_eq_true rfl⟩) hK hN hP rfl hl.1 rfl (Nat.le_of_ble_eq_true rfl) dX4_heel_1 ⟨Nat.zero_le _, Nat.zero_le _⟩ ?_
  refine lv_if_eq (tgt := 15) hx hb dX4_heel_4 (by decide) (fun c_1 => ?_) (fun c_1 => ?_)
  · skip
    refine lv_ldc2 (v := (-9000000000000000001)) hx hb hown (hts (.constantLong RX4 125 (-9000000000000000001)) (by decide +kernel)) dX4_heel_15 ?_
    exact rd_lret hx hb hr hlocks (rfl) dX4_heel_18
  · skip
    exact absurd c_1 (by decide)

theorem m_heel (l : Launch) (G : va_G) (C : Nat → ClassId) (b : Nat → Nat) (σ : SG) (ρ : KM) (hI : Inv σ) (x : Int32) : RdC l yX4_heel wsX4_heel ({ frames := 2, cells := 0, slots := 0, locals := 45 } : Room) G (tysC C) (wM C b σ ρ) [.ref (b 0), .int x] (.long (aHeel σ x)) := by
  by_cases h : inS x 4
  · obtain ⟨j, hj, rfl⟩ := inS_nI h
    rw [show aHeel σ (nI j) = hl_ σ j from by unfold aHeel; rw [if_pos h, cl4 hj]]
    exact m_heel_i l G C b σ ρ hI hj
  · rw [show aHeel σ x = NO_S from if_neg h]
    exact m_heel_o l G C b σ ρ h

set_option maxHeartbeats 4000000 in
set_option maxRecDepth 100000 in
theorem m_quar_i (l : Launch) (G : va_G) (C : Nat → ClassId) (b : Nat → Nat) (σ : SG) (ρ : KM) (hI : Inv σ) {j : Nat} (hj : j < 4) : RdC l yX4_quarterMean wsX4_quarterMean ({ frames := 3, cells := 0, slots := 0, locals := 76 } : Room) G (tysC C) (wM C b σ ρ) [.ref (b 0), .int (nI j)] (.long (qm σ j)) := by
  refine Met.ofW (cc := cX4_quarterMean) (maxL := 2) (ret := (some .long)) (by decide) rfl ?_
  intro p e s m args below meth c s₁ B hml hv
  obtain ⟨rfl, hP, hK, hN⟩ := hv
  have hx := B.exec
  have hb := B.bytes
  have hr := B.returns
  have hts := atoms_spec (ws := wsX4_quarterMean) B.pre
  have hown : s.vm.findClass RX4 = some m.cls := findClass_of_methodNamed B.named
  have hlocks := B.notSynchronized
  have hP : va_P G vwCl (wM C b σ ρ) s.heap := hP
  have hl := lv_entry ([.ref (b 0), .int (nI j)]) (n := 2) (Nat.le_of_ble_eq_true rfl)
  rw [lg_entry_eq]
  generalize (lg_sl ([.ref (b 0), .int (nI j)]) ++ List.replicate (2 - (lg_sl ([.ref (b 0), .int (nI j)])).length) Slot.unset).toArray = ls at hl ⊢
  have hl : lv_has ls 2 [(0, .ref (b 0)), (1, .int (nI j))] := hl
  refine lv_iload_n hx hb dX4_quarterMean_0 rfl (lv_at hl 1 rfl) ?_
  refine rd_callS (As := [.int (nI j)]) (rest := []) ⟨hx, hb, hml, hown, hts⟩ (m_isI l G C b σ ρ (j := j) hj) (va_cwS 1 hts gX4_quarterMean_X4_isSurvey rfl rfl rfl (by decide +kernel) ⟨Nat.le_of_ble_eq_true rfl, Nat.le_of_ble_eq_true rfl⟩) hK hN hP rfl hl.1 rfl (Nat.le_of_ble_eq_true rfl) dX4_quarterMean_1 ⟨Nat.zero_le _, Nat.zero_le _⟩ ?_
  refine lv_if_eq (tgt := 16) hx hb dX4_quarterMean_4 (by decide) (fun c_1 => ?_) (fun c_1 => ?_)
  · skip
    exact absurd c_1 (by decide)
  · skip
    refine lv_aload_n hx hb dX4_quarterMean_7 rfl (lv_at hl 0 rfl) ?_
    refine lv_iload_n hx hb dX4_quarterMean_8 rfl (lv_at hl 1 rfl) ?_
    refine lv_lconst (v := 0) hx hb dX4_quarterMean_9 (by decide) ?_
    refine rd_callV (As := [.int (nI j), .long 0]) (rest := []) ⟨hx, hb, hml, hown, hts⟩ (m_quarter l G C b σ ρ hI (j := j) hj sm_0) (cwV 2 hts gX4_quarterMean_X4_quarter rfl rfl rfl (by decide +kernel) ⟨Nat.le_of_ble_eq_true rfl, Nat.le_of_ble_eq_true rfl⟩) hK hN hP (0) 4 wM_e0 rfl rfl rfl hl.1 rfl (Nat.le_of_ble_eq_true rfl) dX4_quarterMean_10 ⟨Nat.zero_le _, Nat.zero_le _⟩ ?_
    refine tp_l (v := qm σ j) (by rw [Int64.add_zero]) ?_
    refine lv_goto (tgt := 19) hx hb dX4_quarterMean_13 (by decide) ?_
    exact rd_lret hx hb hr hlocks (rfl) dX4_quarterMean_19

set_option maxHeartbeats 4000000 in
set_option maxRecDepth 100000 in
theorem m_quar_o (l : Launch) (G : va_G) (C : Nat → ClassId) (b : Nat → Nat) (σ : SG) (ρ : KM) {x : Int32} (hx_ : ¬ inS x 4) : RdC l yX4_quarterMean wsX4_quarterMean ({ frames := 3, cells := 0, slots := 0, locals := 76 } : Room) G (tysC C) (wM C b σ ρ) [.ref (b 0), .int x] (.long NO_S) := by
  refine Met.ofW (cc := cX4_quarterMean) (maxL := 2) (ret := (some .long)) (by decide) rfl ?_
  intro p e s m args below meth c s₁ B hml hv
  obtain ⟨rfl, hP, hK, hN⟩ := hv
  have hx := B.exec
  have hb := B.bytes
  have hr := B.returns
  have hts := atoms_spec (ws := wsX4_quarterMean) B.pre
  have hown : s.vm.findClass RX4 = some m.cls := findClass_of_methodNamed B.named
  have hlocks := B.notSynchronized
  have hP : va_P G vwCl (wM C b σ ρ) s.heap := hP
  have hl := lv_entry ([.ref (b 0), .int x]) (n := 2) (Nat.le_of_ble_eq_true rfl)
  rw [lg_entry_eq]
  generalize (lg_sl ([.ref (b 0), .int x]) ++ List.replicate (2 - (lg_sl ([.ref (b 0), .int x])).length) Slot.unset).toArray = ls at hl ⊢
  have hl : lv_has ls 2 [(0, .ref (b 0)), (1, .int x)] := hl
  refine lv_iload_n hx hb dX4_quarterMean_0 rfl (lv_at hl 1 rfl) ?_
  refine rd_callS (As := [.int x]) (rest := []) ⟨hx, hb, hml, hown, hts⟩ (m_isO l G C b σ ρ hx_) (va_cwS 1 hts gX4_quarterMean_X4_isSurvey rfl rfl rfl (by decide +kernel) ⟨Nat.le_of_ble_eq_true rfl, Nat.le_of_ble_eq_true rfl⟩) hK hN hP rfl hl.1 rfl (Nat.le_of_ble_eq_true rfl) dX4_quarterMean_1 ⟨Nat.zero_le _, Nat.zero_le _⟩ ?_
  refine lv_if_eq (tgt := 16) hx hb dX4_quarterMean_4 (by decide) (fun c_1 => ?_) (fun c_1 => ?_)
  · skip
    refine lv_ldc2 (v := (-9000000000000000001)) hx hb hown (hts (.constantLong RX4 125 (-9000000000000000001)) (by decide +kernel)) dX4_quarterMean_16 ?_
    exact rd_lret hx hb hr hlocks (rfl) dX4_quarterMean_19
  · skip
    exact absurd c_1 (by decide)

theorem m_quar (l : Launch) (G : va_G) (C : Nat → ClassId) (b : Nat → Nat) (σ : SG) (ρ : KM) (hI : Inv σ) (x : Int32) : RdC l yX4_quarterMean wsX4_quarterMean ({ frames := 3, cells := 0, slots := 0, locals := 76 } : Room) G (tysC C) (wM C b σ ρ) [.ref (b 0), .int x] (.long (aQuar σ x)) := by
  by_cases h : inS x 4
  · obtain ⟨j, hj, rfl⟩ := inS_nI h
    rw [show aQuar σ (nI j) = qm σ j from by unfold aQuar; rw [if_pos h, cl4 hj]]
    exact m_quar_i l G C b σ ρ hI hj
  · rw [show aQuar σ x = NO_S from if_neg h]
    exact m_quar_o l G C b σ ρ h

set_option maxHeartbeats 4000000 in
set_option maxRecDepth 100000 in
theorem m_first1_i (l : Launch) (G : va_G) (C : Nat → ClassId) (b : Nat → Nat) (σ : SG) (ρ : KM) (hI : Inv σ) {j : Nat} (hj : j < 4) : RdC l yX4_firstCorrection wsX4_firstCorrection ({ frames := 5, cells := 0, slots := 0, locals := 122 } : Room) G (tysC C) (wM C b σ ρ) [.ref (b 0), .int (nI j)] (.long (tFirst σ j)) := by
  refine Met.ofW (cc := cX4_firstCorrection) (maxL := 2) (ret := (some .long)) (by decide) rfl ?_
  intro p e s m args below meth c s₁ B hml hv
  obtain ⟨rfl, hP, hK, hN⟩ := hv
  have hx := B.exec
  have hb := B.bytes
  have hr := B.returns
  have hts := atoms_spec (ws := wsX4_firstCorrection) B.pre
  have hown : s.vm.findClass RX4 = some m.cls := findClass_of_methodNamed B.named
  have hlocks := B.notSynchronized
  have hP : va_P G vwCl (wM C b σ ρ) s.heap := hP
  have hl := lv_entry ([.ref (b 0), .int (nI j)]) (n := 2) (Nat.le_of_ble_eq_true rfl)
  rw [lg_entry_eq]
  generalize (lg_sl ([.ref (b 0), .int (nI j)]) ++ List.replicate (2 - (lg_sl ([.ref (b 0), .int (nI j)])).length) Slot.unset).toArray = ls at hl ⊢
  have hl : lv_has ls 2 [(0, .ref (b 0)), (1, .int (nI j))] := hl
  refine lv_iload_n hx hb dX4_firstCorrection_0 rfl (lv_at hl 1 rfl) ?_
  refine rd_callS (As := [.int (nI j)]) (rest := []) ⟨hx, hb, hml, hown, hts⟩ (m_isI l G C b σ ρ (j := j) hj) (va_cwS 1 hts gX4_firstCorrection_X4_isSurvey rfl rfl rfl (by decide +kernel) ⟨Nat.le_of_ble_eq_true rfl, Nat.le_of_ble_eq_true rfl⟩) hK hN hP rfl hl.1 rfl (Nat.le_of_ble_eq_true rfl) dX4_firstCorrection_1 ⟨Nat.zero_le _, Nat.zero_le _⟩ ?_
  refine lv_if_eq (tgt := 15) hx hb dX4_firstCorrection_4 (by decide) (fun c_1 => ?_) (fun c_1 => ?_)
  · skip
    exact absurd c_1 (by decide)
  · skip
    refine lv_aload_n hx hb dX4_firstCorrection_7 rfl (lv_at hl 0 rfl) ?_
    refine lv_iload_n hx hb dX4_firstCorrection_8 rfl (lv_at hl 1 rfl) ?_
    refine rd_callV (As := [.int (nI j)]) (rest := []) ⟨hx, hb, hml, hown, hts⟩ (m_fstT l G C b σ ρ hI (j := j) hj) (cwV 1 hts gX4_firstCorrection_X4_firstTold rfl rfl rfl (by decide +kernel) ⟨Nat.le_of_ble_eq_true rfl, Nat.le_of_ble_eq_true rfl⟩) hK hN hP (0) 4 wM_e0 rfl rfl rfl hl.1 rfl (Nat.le_of_ble_eq_true rfl) dX4_firstCorrection_9 ⟨Nat.zero_le _, Nat.zero_le _⟩ ?_
    refine lv_goto (tgt := 18) hx hb dX4_firstCorrection_12 (by decide) ?_
    exact rd_lret hx hb hr hlocks (rfl) dX4_firstCorrection_18

set_option maxHeartbeats 4000000 in
set_option maxRecDepth 100000 in
theorem m_first1_o (l : Launch) (G : va_G) (C : Nat → ClassId) (b : Nat → Nat) (σ : SG) (ρ : KM) {x : Int32} (hx_ : ¬ inS x 4) : RdC l yX4_firstCorrection wsX4_firstCorrection ({ frames := 5, cells := 0, slots := 0, locals := 122 } : Room) G (tysC C) (wM C b σ ρ) [.ref (b 0), .int x] (.long NO_S) := by
  refine Met.ofW (cc := cX4_firstCorrection) (maxL := 2) (ret := (some .long)) (by decide) rfl ?_
  intro p e s m args below meth c s₁ B hml hv
  obtain ⟨rfl, hP, hK, hN⟩ := hv
  have hx := B.exec
  have hb := B.bytes
  have hr := B.returns
  have hts := atoms_spec (ws := wsX4_firstCorrection) B.pre
  have hown : s.vm.findClass RX4 = some m.cls := findClass_of_methodNamed B.named
  have hlocks := B.notSynchronized
  have hP : va_P G vwCl (wM C b σ ρ) s.heap := hP
  have hl := lv_entry ([.ref (b 0), .int x]) (n := 2) (Nat.le_of_ble_eq_true rfl)
  rw [lg_entry_eq]
  generalize (lg_sl ([.ref (b 0), .int x]) ++ List.replicate (2 - (lg_sl ([.ref (b 0), .int x])).length) Slot.unset).toArray = ls at hl ⊢
  have hl : lv_has ls 2 [(0, .ref (b 0)), (1, .int x)] := hl
  refine lv_iload_n hx hb dX4_firstCorrection_0 rfl (lv_at hl 1 rfl) ?_
  refine rd_callS (As := [.int x]) (rest := []) ⟨hx, hb, hml, hown, hts⟩ (m_isO l G C b σ ρ hx_) (va_cwS 1 hts gX4_firstCorrection_X4_isSurvey rfl rfl rfl (by decide +kernel) ⟨Nat.le_of_ble_eq_true rfl, Nat.le_of_ble_eq_true rfl⟩) hK hN hP rfl hl.1 rfl (Nat.le_of_ble_eq_true rfl) dX4_firstCorrection_1 ⟨Nat.zero_le _, Nat.zero_le _⟩ ?_
  refine lv_if_eq (tgt := 15) hx hb dX4_firstCorrection_4 (by decide) (fun c_1 => ?_) (fun c_1 => ?_)
  · skip
    refine lv_ldc2 (v := (-9000000000000000001)) hx hb hown (hts (.constantLong RX4 125 (-9000000000000000001)) (by decide +kernel)) dX4_firstCorrection_15 ?_
    exact rd_lret hx hb hr hlocks (rfl) dX4_firstCorrection_18
  · skip
    exact absurd c_1 (by decide)

theorem m_first1 (l : Launch) (G : va_G) (C : Nat → ClassId) (b : Nat → Nat) (σ : SG) (ρ : KM) (hI : Inv σ) (x : Int32) : RdC l yX4_firstCorrection wsX4_firstCorrection ({ frames := 5, cells := 0, slots := 0, locals := 122 } : Room) G (tysC C) (wM C b σ ρ) [.ref (b 0), .int x] (.long (aFirst σ x)) := by
  by_cases h : inS x 4
  · obtain ⟨j, hj, rfl⟩ := inS_nI h
    rw [show aFirst σ (nI j) = tFirst σ j from by unfold aFirst; rw [if_pos h, cl4 hj]]
    exact m_first1_i l G C b σ ρ hI hj
  · rw [show aFirst σ x = NO_S from if_neg h]
    exact m_first1_o l G C b σ ρ h

set_option maxHeartbeats 4000000 in
set_option maxRecDepth 100000 in
theorem m_second1_i (l : Launch) (G : va_G) (C : Nat → ClassId) (b : Nat → Nat) (σ : SG) (ρ : KM) (hI : Inv σ) {j : Nat} (hj : j < 4) : RdC l yX4_secondCorrection wsX4_secondCorrection ({ frames := 5, cells := 0, slots := 0, locals := 128 } : Room) G (tysC C) (wM C b σ ρ) [.ref (b 0), .int (nI j)] (.long (tSecond σ j)) := by
  refine Met.ofW (cc := cX4_secondCorrection) (maxL := 2) (ret := (some .long)) (by decide) rfl ?_
  intro p e s m args below meth c s₁ B hml hv
  obtain ⟨rfl, hP, hK, hN⟩ := hv
  have hx := B.exec
  have hb := B.bytes
  have hr := B.returns
  have hts := atoms_spec (ws := wsX4_secondCorrection) B.pre
  have hown : s.vm.findClass RX4 = some m.cls := findClass_of_methodNamed B.named
  have hlocks := B.notSynchronized
  have hP : va_P G vwCl (wM C b σ ρ) s.heap := hP
  have hl := lv_entry ([.ref (b 0), .int (nI j)]) (n := 2) (Nat.le_of_ble_eq_true rfl)
  rw [lg_entry_eq]
  generalize (lg_sl ([.ref (b 0), .int (nI j)]) ++ List.replicate (2 - (lg_sl ([.ref (b 0), .int (nI j)])).length) Slot.unset).toArray = ls at hl ⊢
  have hl : lv_has ls 2 [(0, .ref (b 0)), (1, .int (nI j))] := hl
  refine lv_iload_n hx hb dX4_secondCorrection_0 rfl (lv_at hl 1 rfl) ?_
  refine rd_callS (As := [.int (nI j)]) (rest := []) ⟨hx, hb, hml, hown, hts⟩ (m_isI l G C b σ ρ (j := j) hj) (va_cwS 1 hts gX4_secondCorrection_X4_isSurvey rfl rfl rfl (by decide +kernel) ⟨Nat.le_of_ble_eq_true rfl, Nat.le_of_ble_eq_true rfl⟩) hK hN hP rfl hl.1 rfl (Nat.le_of_ble_eq_true rfl) dX4_secondCorrection_1 ⟨Nat.zero_le _, Nat.zero_le _⟩ ?_
  refine lv_if_eq (tgt := 15) hx hb dX4_secondCorrection_4 (by decide) (fun c_1 => ?_) (fun c_1 => ?_)
  · skip
    exact absurd c_1 (by decide)
  · skip
    refine lv_aload_n hx hb dX4_secondCorrection_7 rfl (lv_at hl 0 rfl) ?_
    refine lv_iload_n hx hb dX4_secondCorrection_8 rfl (lv_at hl 1 rfl) ?_
    refine rd_callV (As := [.int (nI j)]) (rest := []) ⟨hx, hb, hml, hown, hts⟩ (m_sndT l G C b σ ρ hI (j := j) hj) (cwV 1 hts gX4_secondCorrection_X4_secondTold rfl rfl rfl (by decide +kernel) ⟨Nat.le_of_ble_eq_true rfl, Nat.le_of_ble_eq_true rfl⟩) hK hN hP (0) 4 wM_e0 rfl rfl rfl hl.1 rfl (Nat.le_of_ble_eq_true rfl) dX4_secondCorrection_9 ⟨Nat.zero_le _, Nat.zero_le _⟩ ?_
    refine lv_goto (tgt := 18) hx hb dX4_secondCorrection_12 (by decide) ?_
    exact rd_lret hx hb hr hlocks (rfl) dX4_secondCorrection_18

set_option maxHeartbeats 4000000 in
set_option maxRecDepth 100000 in
theorem m_second1_o (l : Launch) (G : va_G) (C : Nat → ClassId) (b : Nat → Nat) (σ : SG) (ρ : KM) {x : Int32} (hx_ : ¬ inS x 4) : RdC l yX4_secondCorrection wsX4_secondCorrection ({ frames := 5, cells := 0, slots := 0, locals := 128 } : Room) G (tysC C) (wM C b σ ρ) [.ref (b 0), .int x] (.long NO_S) := by
  refine Met.ofW (cc := cX4_secondCorrection) (maxL := 2) (ret := (some .long)) (by decide) rfl ?_
  intro p e s m args below meth c s₁ B hml hv
  obtain ⟨rfl, hP, hK, hN⟩ := hv
  have hx := B.exec
  have hb := B.bytes
  have hr := B.returns
  have hts := atoms_spec (ws := wsX4_secondCorrection) B.pre
  have hown : s.vm.findClass RX4 = some m.cls := findClass_of_methodNamed B.named
  have hlocks := B.notSynchronized
  have hP : va_P G vwCl (wM C b σ ρ) s.heap := hP
  have hl := lv_entry ([.ref (b 0), .int x]) (n := 2) (Nat.le_of_ble_eq_true rfl)
  rw [lg_entry_eq]
  generalize (lg_sl ([.ref (b 0), .int x]) ++ List.replicate (2 - (lg_sl ([.ref (b 0), .int x])).length) Slot.unset).toArray = ls at hl ⊢
  have hl : lv_has ls 2 [(0, .ref (b 0)), (1, .int x)] := hl
  refine lv_iload_n hx hb dX4_secondCorrection_0 rfl (lv_at hl 1 rfl) ?_
  refine rd_callS (As := [.int x]) (rest := []) ⟨hx, hb, hml, hown, hts⟩ (m_isO l G C b σ ρ hx_) (va_cwS 1 hts gX4_secondCorrection_X4_isSurvey rfl rfl rfl (by decide +kernel) ⟨Nat.le_of_ble_eq_true rfl, Nat.le_of_ble_eq_true rfl⟩) hK hN hP rfl hl.1 rfl (Nat.le_of_ble_eq_true rfl) dX4_secondCorrection_1 ⟨Nat.zero_le _, Nat.zero_le _⟩ ?_
  refine lv_if_eq (tgt := 15) hx hb dX4_secondCorrection_4 (by decide) (fun c_1 => ?_) (fun c_1 => ?_)
  · skip
    refine lv_ldc2 (v := (-9000000000000000001)) hx hb hown (hts (.constantLong RX4 125 (-9000000000000000001)) (by decide +kernel)) dX4_secondCorrection_15 ?_
    exact rd_lret hx hb hr hlocks (rfl) dX4_secondCorrection_18
  · skip
    exact absurd c_1 (by decide)

theorem m_second1 (l : Launch) (G : va_G) (C : Nat → ClassId) (b : Nat → Nat) (σ : SG) (ρ : KM) (hI : Inv σ) (x : Int32) : RdC l yX4_secondCorrection wsX4_secondCorrection ({ frames := 5, cells := 0, slots := 0, locals := 128 } : Room) G (tysC C) (wM C b σ ρ) [.ref (b 0), .int x] (.long (aSecond σ x)) := by
  by_cases h : inS x 4
  · obtain ⟨j, hj, rfl⟩ := inS_nI h
    rw [show aSecond σ (nI j) = tSecond σ j from by unfold aSecond; rw [if_pos h, cl4 hj]]
    exact m_second1_i l G C b σ ρ hI hj
  · rw [show aSecond σ x = NO_S from if_neg h]
    exact m_second1_o l G C b σ ρ h

set_option maxHeartbeats 4000000 in
set_option maxRecDepth 100000 in
theorem m_net1_i (l : Launch) (G : va_G) (C : Nat → ClassId) (b : Nat → Nat) (σ : SG) (ρ : KM) (hI : Inv σ) {j : Nat} (hj : j < 4) : RdC l yX4_netWeight wsX4_netWeight ({ frames := 7, cells := 0, slots := 0, locals := 179 } : Room) G (tysC C) (wM C b σ ρ) [.ref (b 0), .int (nI j)] (.long (tNet σ j)) := by
  refine Met.ofW (cc := cX4_netWeight) (maxL := 2) (ret := (some .long)) (by decide) rfl ?_
  intro p e s m args below meth c s₁ B hml hv
  obtain ⟨rfl, hP, hK, hN⟩ := hv
  have hx := B.exec
  have hb := B.bytes
  have hr := B.returns
  have hts := atoms_spec (ws := wsX4_netWeight) B.pre
  have hown : s.vm.findClass RX4 = some m.cls := findClass_of_methodNamed B.named
  have hlocks := B.notSynchronized
  have hP : va_P G vwCl (wM C b σ ρ) s.heap := hP
  have hl := lv_entry ([.ref (b 0), .int (nI j)]) (n := 2) (Nat.le_of_ble_eq_true rfl)
  rw [lg_entry_eq]
  generalize (lg_sl ([.ref (b 0), .int (nI j)]) ++ List.replicate (2 - (lg_sl ([.ref (b 0), .int (nI j)])).length) Slot.unset).toArray = ls at hl ⊢
  have hl : lv_has ls 2 [(0, .ref (b 0)), (1, .int (nI j))] := hl
  refine lv_iload_n hx hb dX4_netWeight_0 rfl (lv_at hl 1 rfl) ?_
  refine rd_callS (As := [.int (nI j)]) (rest := []) ⟨hx, hb, hml, hown, hts⟩ (m_isI l G C b σ ρ (j := j) hj) (va_cwS 1 hts gX4_netWeight_X4_isSurvey rfl rfl rfl (by decide +kernel) ⟨Nat.le_of_ble_eq_true rfl, Nat.le_of_ble_eq_true rfl⟩) hK hN hP rfl hl.1 rfl (Nat.le_of_ble_eq_true rfl) dX4_netWeight_1 ⟨Nat.zero_le _, Nat.zero_le _⟩ ?_
  refine lv_if_eq (tgt := 15) hx hb dX4_netWeight_4 (by decide) (fun c_1 => ?_) (fun c_1 => ?_)
  · skip
    exact absurd c_1 (by decide)
  · skip
    refine lv_aload_n hx hb dX4_netWeight_7 rfl (lv_at hl 0 rfl) ?_
    refine lv_iload_n hx hb dX4_netWeight_8 rfl (lv_at hl 1 rfl) ?_
    refine rd_callV (As := [.int (nI j)]) (rest := []) ⟨hx, hb, hml, hown, hts⟩ (m_netT l G C b σ ρ hI (j := j) hj) (cwV 1 hts gX4_netWeight_X4_netTold rfl rfl rfl (by decide +kernel) ⟨Nat.le_of_ble_eq_true rfl, Nat.le_of_ble_eq_true rfl⟩) hK hN hP (0) 4 wM_e0 rfl rfl rfl hl.1 rfl (Nat.le_of_ble_eq_true rfl) dX4_netWeight_9 ⟨Nat.zero_le _, Nat.zero_le _⟩ ?_
    refine lv_goto (tgt := 18) hx hb dX4_netWeight_12 (by decide) ?_
    exact rd_lret hx hb hr hlocks (rfl) dX4_netWeight_18

set_option maxHeartbeats 4000000 in
set_option maxRecDepth 100000 in
theorem m_net1_o (l : Launch) (G : va_G) (C : Nat → ClassId) (b : Nat → Nat) (σ : SG) (ρ : KM) {x : Int32} (hx_ : ¬ inS x 4) : RdC l yX4_netWeight wsX4_netWeight ({ frames := 7, cells := 0, slots := 0, locals := 179 } : Room) G (tysC C) (wM C b σ ρ) [.ref (b 0), .int x] (.long NO_S) := by
  refine Met.ofW (cc := cX4_netWeight) (maxL := 2) (ret := (some .long)) (by decide) rfl ?_
  intro p e s m args below meth c s₁ B hml hv
  obtain ⟨rfl, hP, hK, hN⟩ := hv
  have hx := B.exec
  have hb := B.bytes
  have hr := B.returns
  have hts := atoms_spec (ws := wsX4_netWeight) B.pre
  have hown : s.vm.findClass RX4 = some m.cls := findClass_of_methodNamed B.named
  have hlocks := B.notSynchronized
  have hP : va_P G vwCl (wM C b σ ρ) s.heap := hP
  have hl := lv_entry ([.ref (b 0), .int x]) (n := 2) (Nat.le_of_ble_eq_true rfl)
  rw [lg_entry_eq]
  generalize (lg_sl ([.ref (b 0), .int x]) ++ List.replicate (2 - (lg_sl ([.ref (b 0), .int x])).length) Slot.unset).toArray = ls at hl ⊢
  have hl : lv_has ls 2 [(0, .ref (b 0)), (1, .int x)] := hl
  refine lv_iload_n hx hb dX4_netWeight_0 rfl (lv_at hl 1 rfl) ?_
  refine rd_callS (As := [.int x]) (rest := []) ⟨hx, hb, hml, hown, hts⟩ (m_isO l G C b σ ρ hx_) (va_cwS 1 hts gX4_netWeight_X4_isSurvey rfl rfl rfl (by decide +kernel) ⟨Nat.le_of_ble_eq_true rfl, Nat.le_of_ble_eq_true rfl⟩) hK hN hP rfl hl.1 rfl (Nat.le_of_ble_eq_true rfl) dX4_netWeight_1 ⟨Nat.zero_le _, Nat.zero_le _⟩ ?_
  refine lv_if_eq (tgt := 15) hx hb dX4_netWeight_4 (by decide) (fun c_1 => ?_) (fun c_1 => ?_)
  · skip
    refine lv_ldc2 (v := (-9000000000000000001)) hx hb hown (hts (.constantLong RX4 125 (-9000000000000000001)) (by decide +kernel)) dX4_netWeight_15 ?_
    exact rd_lret hx hb hr hlocks (rfl) dX4_netWeight_18
  · skip
    exact absurd c_1 (by decide)

theorem m_net1 (l : Launch) (G : va_G) (C : Nat → ClassId) (b : Nat → Nat) (σ : SG) (ρ : KM) (hI : Inv σ) (x : Int32) : RdC l yX4_netWeight wsX4_netWeight ({ frames := 7, cells := 0, slots := 0, locals := 179 } : Room) G (tysC C) (wM C b σ ρ) [.ref (b 0), .int x] (.long (aNet σ x)) := by
  by_cases h : inS x 4
  · obtain ⟨j, hj, rfl⟩ := inS_nI h
    rw [show aNet σ (nI j) = tNet σ j from by unfold aNet; rw [if_pos h, cl4 hj]]
    exact m_net1_i l G C b σ ρ hI hj
  · rw [show aNet σ x = NO_S from if_neg h]
    exact m_net1_o l G C b σ ρ h

set_option maxHeartbeats 4000000 in
set_option maxRecDepth 100000 in
theorem m_disp_t (l : Launch) (G : va_G) (C : Nat → ClassId) (b : Nat → Nat) (σ : SG) (ρ : KM) (hI : Inv σ) {j : Nat} (hj : j < 4) {h : Int32} (hh : ¬ h < -1000 ∧ ¬ 1000 < h) : RdC l yX4_displacement wsX4_displacement ({ frames := 6, cells := 0, slots := 0, locals := 155 } : Room) G (tysC C) (wM C b σ ρ) [.ref (b 0), .int (nI j), .int h] (.long (tDisp σ j h.toInt64)) := by
  refine Met.ofW (cc := cX4_displacement) (maxL := 3) (ret := (some .long)) (by decide) rfl ?_
  intro p e s m args below meth c s₁ B hml hv
  obtain ⟨rfl, hP, hK, hN⟩ := hv
  have hx := B.exec
  have hb := B.bytes
  have hr := B.returns
  have hts := atoms_spec (ws := wsX4_displacement) B.pre
  have hown : s.vm.findClass RX4 = some m.cls := findClass_of_methodNamed B.named
  have hlocks := B.notSynchronized
  have hP : va_P G vwCl (wM C b σ ρ) s.heap := hP
  have hl := lv_entry ([.ref (b 0), .int (nI j), .int h]) (n := 3) (Nat.le_of_ble_eq_true rfl)
  rw [lg_entry_eq]
  generalize (lg_sl ([.ref (b 0), .int (nI j), .int h]) ++ List.replicate (3 - (lg_sl ([.ref (b 0), .int (nI j), .int h])).length) Slot.unset).toArray = ls at hl ⊢
  have hl : lv_has ls 3 [(0, .ref (b 0)), (1, .int (nI j)), (2, .int h)] := hl
  refine lv_iload_n hx hb dX4_displacement_0 rfl (lv_at hl 1 rfl) ?_
  refine rd_callS (As := [.int (nI j)]) (rest := []) ⟨hx, hb, hml, hown, hts⟩ (m_isI l G C b σ ρ (j := j) hj) (va_cwS 1 hts gX4_displacement_X4_isSurvey rfl rfl rfl (by decide +kernel) ⟨Nat.le_of_ble_eq_true rfl, Nat.le_of_ble_eq_true rfl⟩) hK hN hP rfl hl.1 rfl (Nat.le_of_ble_eq_true rfl) dX4_displacement_1 ⟨Nat.zero_le _, Nat.zero_le _⟩ ?_
  refine ic_if_ne (tgt := 11) hx hb dX4_displacement_4 (by decide) (fun c_1 => ?_) (fun c_1 => ?_)
  · skip
    refine lv_iload_n hx hb dX4_displacement_11 rfl (lv_at hl 2 rfl) ?_
    refine lv_i2l (v := h.toInt64) hx hb dX4_displacement_12 rfl ?_
    refine lv_ldc2 (v := (-1000)) hx hb hown (hts (.constantLong RX4 183 (-1000)) (by decide +kernel)) dX4_displacement_13 ?_
    refine lv_ldc2 (v := 1000) hx hb hown (hts (.constantLong RX4 159 (1000)) (by decide +kernel)) dX4_displacement_16 ?_
    refine rd_callS (As := [.long h.toInt64, .long (-1000), .long 1000]) (rest := []) ⟨hx, hb, hml, hown, hts⟩ (m_within_t l G C b σ ρ (w_t1 (lo := -1000) rfl hh.1) (w_t2 (hi := 1000) rfl hh.2)) (va_cwS 3 hts gX4_displacement_X4_within rfl rfl rfl (by decide +kernel) ⟨Nat.le_of_ble_eq_true rfl, Nat.le_of_ble_eq_true rfl⟩) hK hN hP rfl hl.1 rfl (Nat.le_of_ble_eq_true rfl) dX4_displacement_19 ⟨Nat.zero_le _, Nat.zero_le _⟩ ?_
    refine lv_if_eq (tgt := 35) hx hb dX4_displacement_22 (by decide) (fun c_2 => ?_) (fun c_2 => ?_)
    · skip
      exact absurd c_2 (by decide)
    · skip
      refine lv_aload_n hx hb dX4_displacement_25 rfl (lv_at hl 0 rfl) ?_
      refine lv_iload_n hx hb dX4_displacement_26 rfl (lv_at hl 1 rfl) ?_
      refine lv_iload_n hx hb dX4_displacement_27 rfl (lv_at hl 2 rfl) ?_
      refine lv_i2l (v := h.toInt64) hx hb dX4_displacement_28 rfl ?_
      refine rd_callV (As := [.int (nI j), .long h.toInt64]) (rest := []) ⟨hx, hb, hml, hown, hts⟩ (m_dspT l G C b σ ρ hI (j := j) hj (sm_of hh)) (cwV 2 hts gX4_displacement_X4_displacedTold rfl rfl rfl (by decide +kernel) ⟨Nat.le_of_ble_eq_true rfl, Nat.le_of_ble_eq_true rfl⟩) hK hN hP (0) 4 wM_e0 rfl rfl rfl hl.1 rfl (Nat.le_of_ble_eq_true rfl) dX4_displacement_29 ⟨Nat.zero_le _, Nat.zero_le _⟩ ?_
      refine lv_goto (tgt := 38) hx hb dX4_displacement_32 (by decide) ?_
      exact rd_lret hx hb hr hlocks (rfl) dX4_displacement_38
  · skip
    exact absurd c_1 (by decide)

set_option maxHeartbeats 4000000 in
set_option maxRecDepth 100000 in
theorem m_disp_f (l : Launch) (G : va_G) (C : Nat → ClassId) (b : Nat → Nat) (σ : SG) (ρ : KM) {j : Nat} (hj : j < 4) {h : Int32} (hh : ¬ (¬ h < -1000 ∧ ¬ 1000 < h)) : RdC l yX4_displacement wsX4_displacement ({ frames := 6, cells := 0, slots := 0, locals := 155 } : Room) G (tysC C) (wM C b σ ρ) [.ref (b 0), .int (nI j), .int h] (.long OOR) := by
  refine Met.ofW (cc := cX4_displacement) (maxL := 3) (ret := (some .long)) (by decide) rfl ?_
  intro p e s m args below meth c s₁ B hml hv
  obtain ⟨rfl, hP, hK, hN⟩ := hv
  have hx := B.exec
  have hb := B.bytes
  have hr := B.returns
  have hts := atoms_spec (ws := wsX4_displacement) B.pre
  have hown : s.vm.findClass RX4 = some m.cls := findClass_of_methodNamed B.named
  have hlocks := B.notSynchronized
  have hP : va_P G vwCl (wM C b σ ρ) s.heap := hP
  have hl := lv_entry ([.ref (b 0), .int (nI j), .int h]) (n := 3) (Nat.le_of_ble_eq_true rfl)
  rw [lg_entry_eq]
  generalize (lg_sl ([.ref (b 0), .int (nI j), .int h]) ++ List.replicate (3 - (lg_sl ([.ref (b 0), .int (nI j), .int h])).length) Slot.unset).toArray = ls at hl ⊢
  have hl : lv_has ls 3 [(0, .ref (b 0)), (1, .int (nI j)), (2, .int h)] := hl
  refine lv_iload_n hx hb dX4_displacement_0 rfl (lv_at hl 1 rfl) ?_
  refine rd_callS (As := [.int (nI j)]) (rest := []) ⟨hx, hb, hml, hown, hts⟩ (m_isI l G C b σ ρ (j := j) hj) (va_cwS 1 hts gX4_displacement_X4_isSurvey rfl rfl rfl (by decide +kernel) ⟨Nat.le_of_ble_eq_true rfl, Nat.le_of_ble_eq_true rfl⟩) hK hN hP rfl hl.1 rfl (Nat.le_of_ble_eq_true rfl) dX4_displacement_1 ⟨Nat.zero_le _, Nat.zero_le _⟩ ?_
  refine ic_if_ne (tgt := 11) hx hb dX4_displacement_4 (by decide) (fun c_1 => ?_) (fun c_1 => ?_)
  · skip
    refine lv_iload_n hx hb dX4_displacement_11 rfl (lv_at hl 2 rfl) ?_
    refine lv_i2l (v := h.toInt64) hx hb dX4_displacement_12 rfl ?_
    refine lv_ldc2 (v := (-1000)) hx hb hown (hts (.constantLong RX4 183 (-1000)) (by decide +kernel)) dX4_displacement_13 ?_
    refine lv_ldc2 (v := 1000) hx hb hown (hts (.constantLong RX4 159 (1000)) (by decide +kernel)) dX4_displacement_16 ?_
    refine rd_callS (As := [.long h.toInt64, .long (-1000), .long 1000]) (rest := []) ⟨hx, hb, hml, hown, hts⟩ (m_within_f l G C b σ ρ (w_f (lo := -1000) (hi := 1000) rfl rfl hh)) (va_cwS 3 hts gX4_displacement_X4_within rfl rfl rfl (by decide +kernel) ⟨Nat.le_of_ble_eq_true rfl, Nat.le_of_ble_eq_true rfl⟩) hK hN hP rfl hl.1 rfl (Nat.le_of_ble_eq_true rfl) dX4_displacement_19 ⟨Nat.zero_le _, Nat.zero_le _⟩ ?_
    refine lv_if_eq (tgt := 35) hx hb dX4_displacement_22 (by decide) (fun c_2 => ?_) (fun c_2 => ?_)
    · skip
      refine lv_ldc2 (v := (-9000000000000000003)) hx hb hown (hts (.constantLong RX4 45 (-9000000000000000003)) (by decide +kernel)) dX4_displacement_35 ?_
      exact rd_lret hx hb hr hlocks (rfl) dX4_displacement_38
    · skip
      exact absurd c_2 (by decide)
  · skip
    exact absurd c_1 (by decide)

set_option maxHeartbeats 4000000 in
set_option maxRecDepth 100000 in
theorem m_disp_o (l : Launch) (G : va_G) (C : Nat → ClassId) (b : Nat → Nat) (σ : SG) (ρ : KM) {x : Int32} (hx_ : ¬ inS x 4) (h : Int32) : RdC l yX4_displacement wsX4_displacement ({ frames := 6, cells := 0, slots := 0, locals := 155 } : Room) G (tysC C) (wM C b σ ρ) [.ref (b 0), .int x, .int h] (.long NO_S) := by
  refine Met.ofW (cc := cX4_displacement) (maxL := 3) (ret := (some .long)) (by decide) rfl ?_
  intro p e s m args below meth c s₁ B hml hv
  obtain ⟨rfl, hP, hK, hN⟩ := hv
  have hx := B.exec
  have hb := B.bytes
  have hr := B.returns
  have hts := atoms_spec (ws := wsX4_displacement) B.pre
  have hown : s.vm.findClass RX4 = some m.cls := findClass_of_methodNamed B.named
  have hlocks := B.notSynchronized
  have hP : va_P G vwCl (wM C b σ ρ) s.heap := hP
  have hl := lv_entry ([.ref (b 0), .int x, .int h]) (n := 3) (Nat.le_of_ble_eq_true rfl)
  rw [lg_entry_eq]
  generalize (lg_sl ([.ref (b 0), .int x, .int h]) ++ List.replicate (3 - (lg_sl ([.ref (b 0), .int x, .int h])).length) Slot.unset).toArray = ls at hl ⊢
  have hl : lv_has ls 3 [(0, .ref (b 0)), (1, .int x), (2, .int h)] := hl
  refine lv_iload_n hx hb dX4_displacement_0 rfl (lv_at hl 1 rfl) ?_
  refine rd_callS (As := [.int x]) (rest := []) ⟨hx, hb, hml, hown, hts⟩ (m_isO l G C b σ ρ hx_) (va_cwS 1 hts gX4_displacement_X4_isSurvey rfl rfl rfl (by decide +kernel) ⟨Nat.le_of_ble_eq_true rfl, Nat.le_of_ble_eq_true rfl⟩) hK hN hP rfl hl.1 rfl (Nat.le_of_ble_eq_true rfl) dX4_displacement_1 ⟨Nat.zero_le _, Nat.zero_le _⟩ ?_
  refine ic_if_ne (tgt := 11) hx hb dX4_displacement_4 (by decide) (fun c_1 => ?_) (fun c_1 => ?_)
  · skip
    exact absurd c_1 (by decide)
  · skip
    refine lv_ldc2 (v := (-9000000000000000001)) hx hb hown (hts (.constantLong RX4 125 (-9000000000000000001)) (by decide +kernel)) dX4_displacement_7 ?_
    exact rd_lret hx hb hr hlocks (rfl) dX4_displacement_10

theorem m_disp (l : Launch) (G : va_G) (C : Nat → ClassId) (b : Nat → Nat) (σ : SG) (ρ : KM) (hI : Inv σ) (x h : Int32) : RdC l yX4_displacement wsX4_displacement ({ frames := 6, cells := 0, slots := 0, locals := 155 } : Room) G (tysC C) (wM C b σ ρ) [.ref (b 0), .int x, .int h] (.long (aDisp σ x h)) := by
  by_cases g : inS x 4
  · obtain ⟨j, hj, rfl⟩ := inS_nI g
    by_cases k : ¬ h < -1000 ∧ ¬ 1000 < h
    · rw [show aDisp σ (nI j) h = tDisp σ j h.toInt64 from by unfold aDisp; rw [if_pos g, if_pos k, cl4 hj]]
      exact m_disp_t l G C b σ ρ hI hj k
    · rw [show aDisp σ (nI j) h = OOR from by unfold aDisp; rw [if_pos g, if_neg k]]
      exact m_disp_f l G C b σ ρ hj k
  · rw [show aDisp σ x h = NO_S from if_neg g]
    exact m_disp_o l G C b σ ρ g h

set_option maxHeartbeats 4000000 in
set_option maxRecDepth 100000 in
theorem m_read_ii (l : Launch) (G : va_G) (C : Nat → ClassId) (b : Nat → Nat) (σ : SG) (ρ : KM) {j : Nat} (hj : j < 4) {m_ : Nat} (hm : m_ < 6) : RdC l yX4_reading wsX4_reading ({ frames := 2, cells := 0, slots := 0, locals := 45 } : Room) G (tysC C) (wM C b σ ρ) [.ref (b 0), .int (nI j), .int (nI m_)] (.long (g_rd σ (6 * j + m_))) := by
  refine Met.ofW (cc := cX4_reading) (maxL := 3) (ret := (some .long)) (by decide) rfl ?_
  intro p e s m args below meth c s₁ B hml hv
  obtain ⟨rfl, hP, hK, hN⟩ := hv
  have hx := B.exec
  have hb := B.bytes
  have hr := B.returns
  have hts := atoms_spec (ws := wsX4_reading) B.pre
  have hown : s.vm.findClass RX4 = some m.cls := findClass_of_methodNamed B.named
  have hlocks := B.notSynchronized
  have hX4 : ∀ w ∈ wsX40, w ∈ wsX4_reading := by decide +kernel
  have hP : va_P G vwCl (wM C b σ ρ) s.heap := hP
  have hl := lv_entry ([.ref (b 0), .int (nI j), .int (nI m_)]) (n := 3) (Nat.le_of_ble_eq_true rfl)
  rw [lg_entry_eq]
  generalize (lg_sl ([.ref (b 0), .int (nI j), .int (nI m_)]) ++ List.replicate (3 - (lg_sl ([.ref (b 0), .int (nI j), .int (nI m_)])).length) Slot.unset).toArray = ls at hl ⊢
  have hl : lv_has ls 3 [(0, .ref (b 0)), (1, .int (nI j)), (2, .int (nI m_))] := hl
  refine lv_iload_n hx hb dX4_reading_0 rfl (lv_at hl 1 rfl) ?_
  refine rd_callS (As := [.int (nI j)]) (rest := []) ⟨hx, hb, hml, hown, hts⟩ (m_isI l G C b σ ρ (j := j) hj) (va_cwS 1 hts gX4_reading_X4_isSurvey rfl rfl rfl (by decide +kernel) ⟨Nat.le_of_ble_eq_true rfl, Nat.le_of_ble_eq_true rfl⟩) hK hN hP rfl hl.1 rfl (Nat.le_of_ble_eq_true rfl) dX4_reading_1 ⟨Nat.zero_le _, Nat.zero_le _⟩ ?_
  refine ic_if_ne (tgt := 11) hx hb dX4_reading_4 (by decide) (fun c_1 => ?_) (fun c_1 => ?_)
  · skip
    refine lv_iload_n hx hb dX4_reading_11 rfl (lv_at hl 2 rfl) ?_
    refine lv_i2l (v := lN m_) hx hb dX4_reading_12 (nI_l (by omega)) ?_
    refine lv_lconst (v := 0) hx hb dX4_reading_13 (by decide) ?_
    refine lv_ldc2 (v := 5) hx hb hown (hts (.constantLong RX4 127 (5)) (by decide +kernel)) dX4_reading_14 ?_
    refine rd_callS (As := [.long (lN m_), .long 0, .long 5]) (rest := []) ⟨hx, hb, hml, hown, hts⟩ (m_within_t l G C b σ ρ (lj_0 (by omega)) (lj_h (j := m_) (m := 5) (by omega) (by decide))) (va_cwS 3 hts gX4_reading_X4_within rfl rfl rfl (by decide +kernel) ⟨Nat.le_of_ble_eq_true rfl, Nat.le_of_ble_eq_true rfl⟩) hK hN hP rfl hl.1 rfl (Nat.le_of_ble_eq_true rfl) dX4_reading_17 ⟨Nat.zero_le _, Nat.zero_le _⟩ ?_
    refine lv_if_eq (tgt := 37) hx hb dX4_reading_20 (by decide) (fun c_2 => ?_) (fun c_2 => ?_)
    · skip
      exact absurd c_2 (by decide)
    · skip
      refine lv_aload_n hx hb dX4_reading_23 rfl (lv_at hl 0 rfl) ?_
      refine va_get (D := G) (ci := 4) (v := .ref (b 3)) (C := RX4) (T := TX4) (N := 13) hx hb hts hX4 hown hK hP (0) wM_e0 rfl 4 (by decide) (hts (.fieldLink RX4 17 "DraftSurveyModel" "readings" "[J") (by decide +kernel)) (fun _ h9 => h9) rfl dX4_reading_24 ?_
      refine lv_bipush (v := 6) hx hb dX4_reading_27 (by decide) ?_
      refine lv_iload_n hx hb dX4_reading_29 rfl (lv_at hl 1 rfl) ?_
      refine lv_imul hx hb dX4_reading_30 ?_
      refine tp_i (v := nI (6 * j)) (pk_mul 6 j) ?_
      refine lv_iload_n hx hb dX4_reading_31 rfl (lv_at hl 2 rfl) ?_
      refine lv_iadd hx hb dX4_reading_32 ?_
      refine tp_i (v := nI ((6 * j) + m_)) (nI_add (6 * j) m_) ?_
      refine ar_l (k := ((6 * j) + m_)) (v := g_rd σ ((6 * j) + m_)) hx hb hK hP (3) 1 wM_e3 rfl rfl (by omega) (by decide) rfl dX4_reading_33 ?_
      refine lv_goto (tgt := 40) hx hb dX4_reading_34 (by decide) ?_
      exact rd_lret hx hb hr hlocks (rfl) dX4_reading_40
  · skip
    exact absurd c_1 (by decide)

set_option maxHeartbeats 4000000 in
set_option maxRecDepth 100000 in
theorem m_read_io (l : Launch) (G : va_G) (C : Nat → ClassId) (b : Nat → Nat) (σ : SG) (ρ : KM) {j : Nat} (hj : j < 4) {y : Int32} (hy_ : ¬ inS y 6) : RdC l yX4_reading wsX4_reading ({ frames := 2, cells := 0, slots := 0, locals := 45 } : Room) G (tysC C) (wM C b σ ρ) [.ref (b 0), .int (nI j), .int y] (.long NO_I) := by
  refine Met.ofW (cc := cX4_reading) (maxL := 3) (ret := (some .long)) (by decide) rfl ?_
  intro p e s m args below meth c s₁ B hml hv
  obtain ⟨rfl, hP, hK, hN⟩ := hv
  have hx := B.exec
  have hb := B.bytes
  have hr := B.returns
  have hts := atoms_spec (ws := wsX4_reading) B.pre
  have hown : s.vm.findClass RX4 = some m.cls := findClass_of_methodNamed B.named
  have hlocks := B.notSynchronized
  have hP : va_P G vwCl (wM C b σ ρ) s.heap := hP
  have hl := lv_entry ([.ref (b 0), .int (nI j), .int y]) (n := 3) (Nat.le_of_ble_eq_true rfl)
  rw [lg_entry_eq]
  generalize (lg_sl ([.ref (b 0), .int (nI j), .int y]) ++ List.replicate (3 - (lg_sl ([.ref (b 0), .int (nI j), .int y])).length) Slot.unset).toArray = ls at hl ⊢
  have hl : lv_has ls 3 [(0, .ref (b 0)), (1, .int (nI j)), (2, .int y)] := hl
  refine lv_iload_n hx hb dX4_reading_0 rfl (lv_at hl 1 rfl) ?_
  refine rd_callS (As := [.int (nI j)]) (rest := []) ⟨hx, hb, hml, hown, hts⟩ (m_isI l G C b σ ρ (j := j) hj) (va_cwS 1 hts gX4_reading_X4_isSurvey rfl rfl rfl (by decide +kernel) ⟨Nat.le_of_ble_eq_true rfl, Nat.le_of_ble_eq_true rfl⟩) hK hN hP rfl hl.1 rfl (Nat.le_of_ble_eq_true rfl) dX4_reading_1 ⟨Nat.zero_le _, Nat.zero_le _⟩ ?_
  refine ic_if_ne (tgt := 11) hx hb dX4_reading_4 (by decide) (fun c_1 => ?_) (fun c_1 => ?_)
  · skip
    refine lv_iload_n hx hb dX4_reading_11 rfl (lv_at hl 2 rfl) ?_
    refine lv_i2l (v := y.toInt64) hx hb dX4_reading_12 rfl ?_
    refine lv_lconst (v := 0) hx hb dX4_reading_13 (by decide) ?_
    refine lv_ldc2 (v := 5) hx hb hown (hts (.constantLong RX4 127 (5)) (by decide +kernel)) dX4_reading_14 ?_
    refine rd_callS (As := [.long y.toInt64, .long 0, .long 5]) (rest := []) ⟨hx, hb, hml, hown, hts⟩ (m_within_f l G C b σ ρ (w_f (lo := 0) (hi := 5) rfl rfl (inS_5 hy_))) (va_cwS 3 hts gX4_reading_X4_within rfl rfl rfl (by decide +kernel) ⟨Nat.le_of_ble_eq_true rfl, Nat.le_of_ble_eq_true rfl⟩) hK hN hP rfl hl.1 rfl (Nat.le_of_ble_eq_true rfl) dX4_reading_17 ⟨Nat.zero_le _, Nat.zero_le _⟩ ?_
    refine lv_if_eq (tgt := 37) hx hb dX4_reading_20 (by decide) (fun c_2 => ?_) (fun c_2 => ?_)
    · skip
      refine lv_ldc2 (v := (-9000000000000000002)) hx hb hown (hts (.constantLong RX4 94 (-9000000000000000002)) (by decide +kernel)) dX4_reading_37 ?_
      exact rd_lret hx hb hr hlocks (rfl) dX4_reading_40
    · skip
      exact absurd c_2 (by decide)
  · skip
    exact absurd c_1 (by decide)

set_option maxHeartbeats 4000000 in
set_option maxRecDepth 100000 in
theorem m_read_o (l : Launch) (G : va_G) (C : Nat → ClassId) (b : Nat → Nat) (σ : SG) (ρ : KM) {x : Int32} (hx_ : ¬ inS x 4) (y : Int32) : RdC l yX4_reading wsX4_reading ({ frames := 2, cells := 0, slots := 0, locals := 45 } : Room) G (tysC C) (wM C b σ ρ) [.ref (b 0), .int x, .int y] (.long NO_S) := by
  refine Met.ofW (cc := cX4_reading) (maxL := 3) (ret := (some .long)) (by decide) rfl ?_
  intro p e s m args below meth c s₁ B hml hv
  obtain ⟨rfl, hP, hK, hN⟩ := hv
  have hx := B.exec
  have hb := B.bytes
  have hr := B.returns
  have hts := atoms_spec (ws := wsX4_reading) B.pre
  have hown : s.vm.findClass RX4 = some m.cls := findClass_of_methodNamed B.named
  have hlocks := B.notSynchronized
  have hP : va_P G vwCl (wM C b σ ρ) s.heap := hP
  have hl := lv_entry ([.ref (b 0), .int x, .int y]) (n := 3) (Nat.le_of_ble_eq_true rfl)
  rw [lg_entry_eq]
  generalize (lg_sl ([.ref (b 0), .int x, .int y]) ++ List.replicate (3 - (lg_sl ([.ref (b 0), .int x, .int y])).length) Slot.unset).toArray = ls at hl ⊢
  have hl : lv_has ls 3 [(0, .ref (b 0)), (1, .int x), (2, .int y)] := hl
  refine lv_iload_n hx hb dX4_reading_0 rfl (lv_at hl 1 rfl) ?_
  refine rd_callS (As := [.int x]) (rest := []) ⟨hx, hb, hml, hown, hts⟩ (m_isO l G C b σ ρ hx_) (va_cwS 1 hts gX4_reading_X4_isSurvey rfl rfl rfl (by decide +kernel) ⟨Nat.le_of_ble_eq_true rfl, Nat.le_of_ble_eq_true rfl⟩) hK hN hP rfl hl.1 rfl (Nat.le_of_ble_eq_true rfl) dX4_reading_1 ⟨Nat.zero_le _, Nat.zero_le _⟩ ?_
  refine ic_if_ne (tgt := 11) hx hb dX4_reading_4 (by decide) (fun c_1 => ?_) (fun c_1 => ?_)
  · skip
    exact absurd c_1 (by decide)
  · skip
    refine lv_ldc2 (v := (-9000000000000000001)) hx hb hown (hts (.constantLong RX4 125 (-9000000000000000001)) (by decide +kernel)) dX4_reading_7 ?_
    exact rd_lret hx hb hr hlocks (rfl) dX4_reading_10

theorem m_read (l : Launch) (G : va_G) (C : Nat → ClassId) (b : Nat → Nat) (σ : SG) (ρ : KM) (x y : Int32) : RdC l yX4_reading wsX4_reading ({ frames := 2, cells := 0, slots := 0, locals := 45 } : Room) G (tysC C) (wM C b σ ρ) [.ref (b 0), .int x, .int y] (.long (aRead σ x y)) := by
  by_cases g : inS x 4
  · obtain ⟨j, hj, rfl⟩ := inS_nI g
    by_cases k : inS y 6
    · obtain ⟨i, hi, rfl⟩ := inS_nI6 k
      rw [show aRead σ (nI j) (nI i) = g_rd σ (6 * j + i) from by unfold aRead; rw [if_pos g, if_pos k, cl4 hj, cl6 hi]]
      exact m_read_ii l G C b σ ρ hj hi
    · rw [show aRead σ (nI j) y = NO_I from by unfold aRead; rw [if_pos g, if_neg k]]
      exact m_read_io l G C b σ ρ hj k
  · rw [show aRead σ x y = NO_S from if_neg g]
    exact m_read_o l G C b σ ρ g y

set_option maxHeartbeats 4000000 in
set_option maxRecDepth 100000 in
theorem m_cargo_ii (l : Launch) (G : va_G) (C : Nat → ClassId) (b : Nat → Nat) (σ : SG) (ρ : KM) (hI : Inv σ) {i j : Nat} (hi : i < 4) (hj : j < 4) : RdC l yX4_cargo wsX4_cargo ({ frames := 7, cells := 0, slots := 0, locals := 180 } : Room) G (tysC C) (wM C b σ ρ) [.ref (b 0), .int (nI i), .int (nI j)] (.long (tCargo σ i j)) := by
  refine Met.ofW (cc := cX4_cargo) (maxL := 3) (ret := (some .long)) (by decide) rfl ?_
  intro p e s m args below meth c s₁ B hml hv
  obtain ⟨rfl, hP, hK, hN⟩ := hv
  have hx := B.exec
  have hb := B.bytes
  have hr := B.returns
  have hts := atoms_spec (ws := wsX4_cargo) B.pre
  have hown : s.vm.findClass RX4 = some m.cls := findClass_of_methodNamed B.named
  have hlocks := B.notSynchronized
  have hP : va_P G vwCl (wM C b σ ρ) s.heap := hP
  have hl := lv_entry ([.ref (b 0), .int (nI i), .int (nI j)]) (n := 3) (Nat.le_of_ble_eq_true rfl)
  rw [lg_entry_eq]
  generalize (lg_sl ([.ref (b 0), .int (nI i), .int (nI j)]) ++ List.replicate (3 - (lg_sl ([.ref (b 0), .int (nI i), .int (nI j)])).length) Slot.unset).toArray = ls at hl ⊢
  have hl : lv_has ls 3 [(0, .ref (b 0)), (1, .int (nI i)), (2, .int (nI j))] := hl
  refine lv_iload_n hx hb dX4_cargo_0 rfl (lv_at hl 1 rfl) ?_
  refine rd_callS (As := [.int (nI i)]) (rest := []) ⟨hx, hb, hml, hown, hts⟩ (m_isI l G C b σ ρ (j := i) hi) (va_cwS 1 hts gX4_cargo_X4_isSurvey rfl rfl rfl (by decide +kernel) ⟨Nat.le_of_ble_eq_true rfl, Nat.le_of_ble_eq_true rfl⟩) hK hN hP rfl hl.1 rfl (Nat.le_of_ble_eq_true rfl) dX4_cargo_1 ⟨Nat.zero_le _, Nat.zero_le _⟩ ?_
  refine lv_if_eq (tgt := 23) hx hb dX4_cargo_4 (by decide) (fun c_1 => ?_) (fun c_1 => ?_)
  · skip
    exact absurd c_1 (by decide)
  · skip
    refine lv_iload_n hx hb dX4_cargo_7 rfl (lv_at hl 2 rfl) ?_
    refine rd_callS (As := [.int (nI j)]) (rest := []) ⟨hx, hb, hml, hown, hts⟩ (m_isI l G C b σ ρ (j := j) hj) (va_cwS 1 hts gX4_cargo_X4_isSurvey rfl rfl rfl (by decide +kernel) ⟨Nat.le_of_ble_eq_true rfl, Nat.le_of_ble_eq_true rfl⟩) hK hN hP rfl hl.1 rfl (Nat.le_of_ble_eq_true rfl) dX4_cargo_8 ⟨Nat.zero_le _, Nat.zero_le _⟩ ?_
    refine lv_if_eq (tgt := 23) hx hb dX4_cargo_11 (by decide) (fun c_2 => ?_) (fun c_2 => ?_)
    · skip
      exact absurd c_2 (by decide)
    · skip
      refine lv_aload_n hx hb dX4_cargo_14 rfl (lv_at hl 0 rfl) ?_
      refine lv_iload_n hx hb dX4_cargo_15 rfl (lv_at hl 1 rfl) ?_
      refine lv_iload_n hx hb dX4_cargo_16 rfl (lv_at hl 2 rfl) ?_
      refine rd_callV (As := [.int (nI i), .int (nI j)]) (rest := []) ⟨hx, hb, hml, hown, hts⟩ (m_carT l G C b σ ρ hI (i := i) (j := j) hi hj) (cwV 2 hts gX4_cargo_X4_cargoTold rfl rfl rfl (by decide +kernel) ⟨Nat.le_of_ble_eq_true rfl, Nat.le_of_ble_eq_true rfl⟩) hK hN hP (0) 4 wM_e0 rfl rfl rfl hl.1 rfl (Nat.le_of_ble_eq_true rfl) dX4_cargo_17 ⟨Nat.zero_le _, Nat.zero_le _⟩ ?_
      refine lv_goto (tgt := 26) hx hb dX4_cargo_20 (by decide) ?_
      exact rd_lret hx hb hr hlocks (rfl) dX4_cargo_26

set_option maxHeartbeats 4000000 in
set_option maxRecDepth 100000 in
theorem m_cargo_o (l : Launch) (G : va_G) (C : Nat → ClassId) (b : Nat → Nat) (σ : SG) (ρ : KM) {x : Int32} (hx_ : ¬ inS x 4) (y : Int32) : RdC l yX4_cargo wsX4_cargo ({ frames := 7, cells := 0, slots := 0, locals := 180 } : Room) G (tysC C) (wM C b σ ρ) [.ref (b 0), .int x, .int y] (.long NO_S) := by
  refine Met.ofW (cc := cX4_cargo) (maxL := 3) (ret := (some .long)) (by decide) rfl ?_
  intro p e s m args below meth c s₁ B hml hv
  obtain ⟨rfl, hP, hK, hN⟩ := hv
  have hx := B.exec
  have hb := B.bytes
  have hr := B.returns
  have hts := atoms_spec (ws := wsX4_cargo) B.pre
  have hown : s.vm.findClass RX4 = some m.cls := findClass_of_methodNamed B.named
  have hlocks := B.notSynchronized
  have hP : va_P G vwCl (wM C b σ ρ) s.heap := hP
  have hl := lv_entry ([.ref (b 0), .int x, .int y]) (n := 3) (Nat.le_of_ble_eq_true rfl)
  rw [lg_entry_eq]
  generalize (lg_sl ([.ref (b 0), .int x, .int y]) ++ List.replicate (3 - (lg_sl ([.ref (b 0), .int x, .int y])).length) Slot.unset).toArray = ls at hl ⊢
  have hl : lv_has ls 3 [(0, .ref (b 0)), (1, .int x), (2, .int y)] := hl
  refine lv_iload_n hx hb dX4_cargo_0 rfl (lv_at hl 1 rfl) ?_
  refine rd_callS (As := [.int x]) (rest := []) ⟨hx, hb, hml, hown, hts⟩ (m_isO l G C b σ ρ hx_) (va_cwS 1 hts gX4_cargo_X4_isSurvey rfl rfl rfl (by decide +kernel) ⟨Nat.le_of_ble_eq_true rfl, Nat.le_of_ble_eq_true rfl⟩) hK hN hP rfl hl.1 rfl (Nat.le_of_ble_eq_true rfl) dX4_cargo_1 ⟨Nat.zero_le _, Nat.zero_le _⟩ ?_
  refine lv_if_eq (tgt := 23) hx hb dX4_cargo_4 (by decide) (fun c_1 => ?_) (fun c_1 => ?_)
  · skip
    refine lv_ldc2 (v := (-9000000000000000001)) hx hb hown (hts (.constantLong RX4 125 (-9000000000000000001)) (by decide +kernel)) dX4_cargo_23 ?_
    exact rd_lret hx hb hr hlocks (rfl) dX4_cargo_26
  · skip
    exact absurd c_1 (by decide)

set_option maxHeartbeats 4000000 in
set_option maxRecDepth 100000 in
theorem m_cargo_io (l : Launch) (G : va_G) (C : Nat → ClassId) (b : Nat → Nat) (σ : SG) (ρ : KM) {i : Nat} (hi : i < 4) {y : Int32} (hy_ : ¬ inS y 4) : RdC l yX4_cargo wsX4_cargo ({ frames := 7, cells := 0, slots := 0, locals := 180 } : Room) G (tysC C) (wM C b σ ρ) [.ref (b 0), .int (nI i), .int y] (.long NO_S) := by
  refine Met.ofW (cc := cX4_cargo) (maxL := 3) (ret := (some .long)) (by decide) rfl ?_
  intro p e s m args below meth c s₁ B hml hv
  obtain ⟨rfl, hP, hK, hN⟩ := hv
  have hx := B.exec
  have hb := B.bytes
  have hr := B.returns
  have hts := atoms_spec (ws := wsX4_cargo) B.pre
  have hown : s.vm.findClass RX4 = some m.cls := findClass_of_methodNamed B.named
  have hlocks := B.notSynchronized
  have hP : va_P G vwCl (wM C b σ ρ) s.heap := hP
  have hl := lv_entry ([.ref (b 0), .int (nI i), .int y]) (n := 3) (Nat.le_of_ble_eq_true rfl)
  rw [lg_entry_eq]
  generalize (lg_sl ([.ref (b 0), .int (nI i), .int y]) ++ List.replicate (3 - (lg_sl ([.ref (b 0), .int (nI i), .int y])).length) Slot.unset).toArray = ls at hl ⊢
  have hl : lv_has ls 3 [(0, .ref (b 0)), (1, .int (nI i)), (2, .int y)] := hl
  refine lv_iload_n hx hb dX4_cargo_0 rfl (lv_at hl 1 rfl) ?_
  refine rd_callS (As := [.int (nI i)]) (rest := []) ⟨hx, hb, hml, hown, hts⟩ (m_isI l G C b σ ρ (j := i) hi) (va_cwS 1 hts gX4_cargo_X4_isSurvey rfl rfl rfl (by decide +kernel) ⟨Nat.le_of_ble_eq_true rfl, Nat.le_of_ble_eq_true rfl⟩) hK hN hP rfl hl.1 rfl (Nat.le_of_ble_eq_true rfl) dX4_cargo_1 ⟨Nat.zero_le _, Nat.zero_le _⟩ ?_
  refine lv_if_eq (tgt := 23) hx hb dX4_cargo_4 (by decide) (fun c_1 => ?_) (fun c_1 => ?_)
  · skip
    exact absurd c_1 (by decide)
  · skip
    refine lv_iload_n hx hb dX4_cargo_7 rfl (lv_at hl 2 rfl) ?_
    refine rd_callS (As := [.int y]) (rest := []) ⟨hx, hb, hml, hown, hts⟩ (m_isO l G C b σ ρ hy_) (va_cwS 1 hts gX4_cargo_X4_isSurvey rfl rfl rfl (by decide +kernel) ⟨Nat.le_of_ble_eq_true rfl, Nat.le_of_ble_eq_true rfl⟩) hK hN hP rfl hl.1 rfl (Nat.le_of_ble_eq_true rfl) dX4_cargo_8 ⟨Nat.zero_le _, Nat.zero_le _⟩ ?_
    refine lv_if_eq (tgt := 23) hx hb dX4_cargo_11 (by decide) (fun c_2 => ?_) (fun c_2 => ?_)
    · skip
      refine lv_ldc2 (v := (-9000000000000000001)) hx hb hown (hts (.constantLong RX4 125 (-9000000000000000001)) (by decide +kernel)) dX4_cargo_23 ?_
      exact rd_lret hx hb hr hlocks (rfl) dX4_cargo_26
    · skip
      exact absurd c_2 (by decide)

theorem m_cargo (l : Launch) (G : va_G) (C : Nat → ClassId) (b : Nat → Nat) (σ : SG) (ρ : KM) (hI : Inv σ) (x y : Int32) : RdC l yX4_cargo wsX4_cargo ({ frames := 7, cells := 0, slots := 0, locals := 180 } : Room) G (tysC C) (wM C b σ ρ) [.ref (b 0), .int x, .int y] (.long (aCargo σ x y)) := by
  by_cases g : inS x 4
  · obtain ⟨i, hi, rfl⟩ := inS_nI g
    by_cases k : inS y 4
    · obtain ⟨j, hj, rfl⟩ := inS_nI k
      rw [show aCargo σ (nI i) (nI j) = tCargo σ i j from by unfold aCargo; rw [if_pos ⟨g, k⟩, cl4 hi, cl4 hj]]
      exact m_cargo_ii l G C b σ ρ hI hi hj
    · rw [show aCargo σ (nI i) y = NO_S from if_neg (fun q => k q.2)]
      exact m_cargo_io l G C b σ ρ hi k
  · rw [show aCargo σ x y = NO_S from if_neg (fun q => g q.1)]
    exact m_cargo_o l G C b σ ρ g y

set_option maxHeartbeats 4000000 in
set_option maxRecDepth 100000 in
theorem m_low_ii (l : Launch) (G : va_G) (C : Nat → ClassId) (b : Nat → Nat) (σ : SG) (ρ : KM) (hI : Inv σ) {i j : Nat} (hi : i < 4) (hj : j < 4) : RdC l yX4_cargoLow wsX4_cargoLow ({ frames := 8, cells := 0, slots := 0, locals := 205 } : Room) G (tysC C) (wM C b σ ρ) [.ref (b 0), .int (nI i), .int (nI j)] (.long (tLow σ i j)) := by
  refine Met.ofW (cc := cX4_cargoLow) (maxL := 3) (ret := (some .long)) (by decide) rfl ?_
  intro p e s m args below meth c s₁ B hml hv
  obtain ⟨rfl, hP, hK, hN⟩ := hv
  have hx := B.exec
  have hb := B.bytes
  have hr := B.returns
  have hts := atoms_spec (ws := wsX4_cargoLow) B.pre
  have hown : s.vm.findClass RX4 = some m.cls := findClass_of_methodNamed B.named
  have hlocks := B.notSynchronized
  have hP : va_P G vwCl (wM C b σ ρ) s.heap := hP
  have hl := lv_entry ([.ref (b 0), .int (nI i), .int (nI j)]) (n := 3) (Nat.le_of_ble_eq_true rfl)
  rw [lg_entry_eq]
  generalize (lg_sl ([.ref (b 0), .int (nI i), .int (nI j)]) ++ List.replicate (3 - (lg_sl ([.ref (b 0), .int (nI i), .int (nI j)])).length) Slot.unset).toArray = ls at hl ⊢
  have hl : lv_has ls 3 [(0, .ref (b 0)), (1, .int (nI i)), (2, .int (nI j))] := hl
  refine lv_iload_n hx hb dX4_cargoLow_0 rfl (lv_at hl 1 rfl) ?_
  refine rd_callS (As := [.int (nI i)]) (rest := []) ⟨hx, hb, hml, hown, hts⟩ (m_isI l G C b σ ρ (j := i) hi) (va_cwS 1 hts gX4_cargoLow_X4_isSurvey rfl rfl rfl (by decide +kernel) ⟨Nat.le_of_ble_eq_true rfl, Nat.le_of_ble_eq_true rfl⟩) hK hN hP rfl hl.1 rfl (Nat.le_of_ble_eq_true rfl) dX4_cargoLow_1 ⟨Nat.zero_le _, Nat.zero_le _⟩ ?_
  refine lv_if_eq (tgt := 23) hx hb dX4_cargoLow_4 (by decide) (fun c_1 => ?_) (fun c_1 => ?_)
  · skip
    exact absurd c_1 (by decide)
  · skip
    refine lv_iload_n hx hb dX4_cargoLow_7 rfl (lv_at hl 2 rfl) ?_
    refine rd_callS (As := [.int (nI j)]) (rest := []) ⟨hx, hb, hml, hown, hts⟩ (m_isI l G C b σ ρ (j := j) hj) (va_cwS 1 hts gX4_cargoLow_X4_isSurvey rfl rfl rfl (by decide +kernel) ⟨Nat.le_of_ble_eq_true rfl, Nat.le_of_ble_eq_true rfl⟩) hK hN hP rfl hl.1 rfl (Nat.le_of_ble_eq_true rfl) dX4_cargoLow_8 ⟨Nat.zero_le _, Nat.zero_le _⟩ ?_
    refine lv_if_eq (tgt := 23) hx hb dX4_cargoLow_11 (by decide) (fun c_2 => ?_) (fun c_2 => ?_)
    · skip
      exact absurd c_2 (by decide)
    · skip
      refine lv_aload_n hx hb dX4_cargoLow_14 rfl (lv_at hl 0 rfl) ?_
      refine lv_iload_n hx hb dX4_cargoLow_15 rfl (lv_at hl 1 rfl) ?_
      refine lv_iload_n hx hb dX4_cargoLow_16 rfl (lv_at hl 2 rfl) ?_
      refine rd_callV (As := [.int (nI i), .int (nI j)]) (rest := []) ⟨hx, hb, hml, hown, hts⟩ (m_lowT l G C b σ ρ hI (i := i) (j := j) hi hj) (cwV 2 hts gX4_cargoLow_X4_lowTold rfl rfl rfl (by decide +kernel) ⟨Nat.le_of_ble_eq_true rfl, Nat.le_of_ble_eq_true rfl⟩) hK hN hP (0) 4 wM_e0 rfl rfl rfl hl.1 rfl (Nat.le_of_ble_eq_true rfl) dX4_cargoLow_17 ⟨Nat.zero_le _, Nat.zero_le _⟩ ?_
      refine lv_goto (tgt := 26) hx hb dX4_cargoLow_20 (by decide) ?_
      exact rd_lret hx hb hr hlocks (rfl) dX4_cargoLow_26

set_option maxHeartbeats 4000000 in
set_option maxRecDepth 100000 in
theorem m_low_o (l : Launch) (G : va_G) (C : Nat → ClassId) (b : Nat → Nat) (σ : SG) (ρ : KM) {x : Int32} (hx_ : ¬ inS x 4) (y : Int32) : RdC l yX4_cargoLow wsX4_cargoLow ({ frames := 8, cells := 0, slots := 0, locals := 205 } : Room) G (tysC C) (wM C b σ ρ) [.ref (b 0), .int x, .int y] (.long NO_S) := by
  refine Met.ofW (cc := cX4_cargoLow) (maxL := 3) (ret := (some .long)) (by decide) rfl ?_
  intro p e s m args below meth c s₁ B hml hv
  obtain ⟨rfl, hP, hK, hN⟩ := hv
  have hx := B.exec
  have hb := B.bytes
  have hr := B.returns
  have hts := atoms_spec (ws := wsX4_cargoLow) B.pre
  have hown : s.vm.findClass RX4 = some m.cls := findClass_of_methodNamed B.named
  have hlocks := B.notSynchronized
  have hP : va_P G vwCl (wM C b σ ρ) s.heap := hP
  have hl := lv_entry ([.ref (b 0), .int x, .int y]) (n := 3) (Nat.le_of_ble_eq_true rfl)
  rw [lg_entry_eq]
  generalize (lg_sl ([.ref (b 0), .int x, .int y]) ++ List.replicate (3 - (lg_sl ([.ref (b 0), .int x, .int y])).length) Slot.unset).toArray = ls at hl ⊢
  have hl : lv_has ls 3 [(0, .ref (b 0)), (1, .int x), (2, .int y)] := hl
  refine lv_iload_n hx hb dX4_cargoLow_0 rfl (lv_at hl 1 rfl) ?_
  refine rd_callS (As := [.int x]) (rest := []) ⟨hx, hb, hml, hown, hts⟩ (m_isO l G C b σ ρ hx_) (va_cwS 1 hts gX4_cargoLow_X4_isSurvey rfl rfl rfl (by decide +kernel) ⟨Nat.le_of_ble_eq_true rfl, Nat.le_of_ble_eq_true rfl⟩) hK hN hP rfl hl.1 rfl (Nat.le_of_ble_eq_true rfl) dX4_cargoLow_1 ⟨Nat.zero_le _, Nat.zero_le _⟩ ?_
  refine lv_if_eq (tgt := 23) hx hb dX4_cargoLow_4 (by decide) (fun c_1 => ?_) (fun c_1 => ?_)
  · skip
    refine lv_ldc2 (v := (-9000000000000000001)) hx hb hown (hts (.constantLong RX4 125 (-9000000000000000001)) (by decide +kernel)) dX4_cargoLow_23 ?_
    exact rd_lret hx hb hr hlocks (rfl) dX4_cargoLow_26
  · skip
    exact absurd c_1 (by decide)

set_option maxHeartbeats 4000000 in
set_option maxRecDepth 100000 in
theorem m_low_io (l : Launch) (G : va_G) (C : Nat → ClassId) (b : Nat → Nat) (σ : SG) (ρ : KM) {i : Nat} (hi : i < 4) {y : Int32} (hy_ : ¬ inS y 4) : RdC l yX4_cargoLow wsX4_cargoLow ({ frames := 8, cells := 0, slots := 0, locals := 205 } : Room) G (tysC C) (wM C b σ ρ) [.ref (b 0), .int (nI i), .int y] (.long NO_S) := by
  refine Met.ofW (cc := cX4_cargoLow) (maxL := 3) (ret := (some .long)) (by decide) rfl ?_
  intro p e s m args below meth c s₁ B hml hv
  obtain ⟨rfl, hP, hK, hN⟩ := hv
  have hx := B.exec
  have hb := B.bytes
  have hr := B.returns
  have hts := atoms_spec (ws := wsX4_cargoLow) B.pre
  have hown : s.vm.findClass RX4 = some m.cls := findClass_of_methodNamed B.named
  have hlocks := B.notSynchronized
  have hP : va_P G vwCl (wM C b σ ρ) s.heap := hP
  have hl := lv_entry ([.ref (b 0), .int (nI i), .int y]) (n := 3) (Nat.le_of_ble_eq_true rfl)
  rw [lg_entry_eq]
  generalize (lg_sl ([.ref (b 0), .int (nI i), .int y]) ++ List.replicate (3 - (lg_sl ([.ref (b 0), .int (nI i), .int y])).length) Slot.unset).toArray = ls at hl ⊢
  have hl : lv_has ls 3 [(0, .ref (b 0)), (1, .int (nI i)), (2, .int y)] := hl
  refine lv_iload_n hx hb dX4_cargoLow_0 rfl (lv_at hl 1 rfl) ?_
  refine rd_callS (As := [.int (nI i)]) (rest := []) ⟨hx, hb, hml, hown, hts⟩ (m_isI l G C b σ ρ (j := i) hi) (va_cwS 1 hts gX4_cargoLow_X4_isSurvey rfl rfl rfl (by decide +kernel) ⟨Nat.le_of_ble_eq_true rfl, Nat.le_of_ble_eq_true rfl⟩) hK hN hP rfl hl.1 rfl (Nat.le_of_ble_eq_true rfl) dX4_cargoLow_1 ⟨Nat.zero_le _, Nat.zero_le _⟩ ?_
  refine lv_if_eq (tgt := 23) hx hb dX4_cargoLow_4 (by decide) (fun c_1 => ?_) (fun c_1 => ?_)
  · skip
    exact absurd c_1 (by decide)
  · skip
    refine lv_iload_n hx hb dX4_cargoLow_7 rfl (lv_at hl 2 rfl) ?_
    refine rd_callS (As := [.int y]) (rest := []) ⟨hx, hb, hml, hown, hts⟩ (m_isO l G C b σ ρ hy_) (va_cwS 1 hts gX4_cargoLow_X4_isSurvey rfl rfl rfl (by decide +kernel) ⟨Nat.le_of_ble_eq_true rfl, Nat.le_of_ble_eq_true rfl⟩) hK hN hP rfl hl.1 rfl (Nat.le_of_ble_eq_true rfl) dX4_cargoLow_8 ⟨Nat.zero_le _, Nat.zero_le _⟩ ?_
    refine lv_if_eq (tgt := 23) hx hb dX4_cargoLow_11 (by decide) (fun c_2 => ?_) (fun c_2 => ?_)
    · skip
      refine lv_ldc2 (v := (-9000000000000000001)) hx hb hown (hts (.constantLong RX4 125 (-9000000000000000001)) (by decide +kernel)) dX4_cargoLow_23 ?_
      exact rd_lret hx hb hr hlocks (rfl) dX4_cargoLow_26
    · skip
      exact absurd c_2 (by decide)

theorem m_low (l : Launch) (G : va_G) (C : Nat → ClassId) (b : Nat → Nat) (σ : SG) (ρ : KM) (hI : Inv σ) (x y : Int32) : RdC l yX4_cargoLow wsX4_cargoLow ({ frames := 8, cells := 0, slots := 0, locals := 205 } : Room) G (tysC C) (wM C b σ ρ) [.ref (b 0), .int x, .int y] (.long (aLow σ x y)) := by
  by_cases g : inS x 4
  · obtain ⟨i, hi, rfl⟩ := inS_nI g
    by_cases k : inS y 4
    · obtain ⟨j, hj, rfl⟩ := inS_nI k
      rw [show aLow σ (nI i) (nI j) = tLow σ i j from by unfold aLow; rw [if_pos ⟨g, k⟩, cl4 hi, cl4 hj]]
      exact m_low_ii l G C b σ ρ hI hi hj
    · rw [show aLow σ (nI i) y = NO_S from if_neg (fun q => k q.2)]
      exact m_low_io l G C b σ ρ hi k
  · rw [show aLow σ x y = NO_S from if_neg (fun q => g q.1)]
    exact m_low_o l G C b σ ρ g y

set_option maxHeartbeats 4000000 in
set_option maxRecDepth 100000 in
theorem m_high_ii (l : Launch) (G : va_G) (C : Nat → ClassId) (b : Nat → Nat) (σ : SG) (ρ : KM) (hI : Inv σ) {i j : Nat} (hi : i < 4) (hj : j < 4) : RdC l yX4_cargoHigh wsX4_cargoHigh ({ frames := 8, cells := 0, slots := 0, locals := 205 } : Room) G (tysC C) (wM C b σ ρ) [.ref (b 0), .int (nI i), .int (nI j)] (.long (tHigh σ i j)) := by
  refine Met.ofW (cc := cX4_cargoHigh) (maxL := 3) (ret := (some .long)) (by decide) rfl ?_
  intro p e s m args below meth c s₁ B hml hv
  obtain ⟨rfl, hP, hK, hN⟩ := hv
  have hx := B.exec
  have hb := B.bytes
  have hr := B.returns
  have hts := atoms_spec (ws := wsX4_cargoHigh) B.pre
  have hown : s.vm.findClass RX4 = some m.cls := findClass_of_methodNamed B.named
  have hlocks := B.notSynchronized
  have hP : va_P G vwCl (wM C b σ ρ) s.heap := hP
  have hl := lv_entry ([.ref (b 0), .int (nI i), .int (nI j)]) (n := 3) (Nat.le_of_ble_eq_true rfl)
  rw [lg_entry_eq]
  generalize (lg_sl ([.ref (b 0), .int (nI i), .int (nI j)]) ++ List.replicate (3 - (lg_sl ([.ref (b 0), .int (nI i), .int (nI j)])).length) Slot.unset).toArray = ls at hl ⊢
  have hl : lv_has ls 3 [(0, .ref (b 0)), (1, .int (nI i)), (2, .int (nI j))] := hl
  refine lv_iload_n hx hb dX4_cargoHigh_0 rfl (lv_at hl 1 rfl) ?_
  refine rd_callS (As := [.int (nI i)]) (rest := []) ⟨hx, hb, hml, hown, hts⟩ (m_isI l G C b σ ρ (j := i) hi) (va_cwS 1 hts gX4_cargoHigh_X4_isSurvey rfl rfl rfl (by decide +kernel) ⟨Nat.le_of_ble_eq_true rfl, Nat.le_of_ble_eq_true rfl⟩) hK hN hP rfl hl.1 rfl (Nat.le_of_ble_eq_true rfl) dX4_cargoHigh_1 ⟨Nat.zero_le _, Nat.zero_le _⟩ ?_
  refine lv_if_eq (tgt := 23) hx hb dX4_cargoHigh_4 (by decide) (fun c_1 => ?_) (fun c_1 => ?_)
  · skip
    exact absurd c_1 (by decide)
  · skip
    refine lv_iload_n hx hb dX4_cargoHigh_7 rfl (lv_at hl 2 rfl) ?_
    refine rd_callS (As := [.int (nI j)]) (rest := []) ⟨hx, hb, hml, hown, hts⟩ (m_isI l G C b σ ρ (j := j) hj) (va_cwS 1 hts gX4_cargoHigh_X4_isSurvey rfl rfl rfl (by decide +kernel) ⟨Nat.le_of_ble_eq_true rfl, Nat.le_of_ble_eq_true rfl⟩) hK hN hP rfl hl.1 rfl (Nat.le_of_ble_eq_true rfl) dX4_cargoHigh_8 ⟨Nat.zero_le _, Nat.zero_le _⟩ ?_
    refine lv_if_eq (tgt := 23) hx hb dX4_cargoHigh_11 (by decide) (fun c_2 => ?_) (fun c_2 => ?_)
    · skip
      exact absurd c_2 (by decide)
    · skip
      refine lv_aload_n hx hb dX4_cargoHigh_14 rfl (lv_at hl 0 rfl) ?_
      refine lv_iload_n hx hb dX4_cargoHigh_15 rfl (lv_at hl 1 rfl) ?_
      refine lv_iload_n hx hb dX4_cargoHigh_16 rfl (lv_at hl 2 rfl) ?_
      refine rd_callV (As := [.int (nI i), .int (nI j)]) (rest := []) ⟨hx, hb, hml, hown, hts⟩ (m_highT l G C b σ ρ hI (i := i) (j := j) hi hj) (cwV 2 hts gX4_cargoHigh_X4_highTold rfl rfl rfl (by decide +kernel) ⟨Nat.le_of_ble_eq_true rfl, Nat.le_of_ble_eq_true rfl⟩) hK hN hP (0) 4 wM_e0 rfl rfl rfl hl.1 rfl (Nat.le_of_ble_eq_true rfl) dX4_cargoHigh_17 ⟨Nat.zero_le _, Nat.zero_le _⟩ ?_
      refine lv_goto (tgt := 26) hx hb dX4_cargoHigh_20 (by decide) ?_
      exact rd_lret hx hb hr hlocks (rfl) dX4_cargoHigh_26

set_option maxHeartbeats 4000000 in
set_option maxRecDepth 100000 in
theorem m_high_o (l : Launch) (G : va_G) (C : Nat → ClassId) (b : Nat → Nat) (σ : SG) (ρ : KM) {x : Int32} (hx_ : ¬ inS x 4) (y : Int32) : RdC l yX4_cargoHigh wsX4_cargoHigh ({ frames := 8, cells := 0, slots := 0, locals := 205 } : Room) G (tysC C) (wM C b σ ρ) [.ref (b 0), .int x, .int y] (.long NO_S) := by
  refine Met.ofW (cc := cX4_cargoHigh) (maxL := 3) (ret := (some .long)) (by decide) rfl ?_
  intro p e s m args below meth c s₁ B hml hv
  obtain ⟨rfl, hP, hK, hN⟩ := hv
  have hx := B.exec
  have hb := B.bytes
  have hr := B.returns
  have hts := atoms_spec (ws := wsX4_cargoHigh) B.pre
  have hown : s.vm.findClass RX4 = some m.cls := findClass_of_methodNamed B.named
  have hlocks := B.notSynchronized
  have hP : va_P G vwCl (wM C b σ ρ) s.heap := hP
  have hl := lv_entry ([.ref (b 0), .int x, .int y]) (n := 3) (Nat.le_of_ble_eq_true rfl)
  rw [lg_entry_eq]
  generalize (lg_sl ([.ref (b 0), .int x, .int y]) ++ List.replicate (3 - (lg_sl ([.ref (b 0), .int x, .int y])).length) Slot.unset).toArray = ls at hl ⊢
  have hl : lv_has ls 3 [(0, .ref (b 0)), (1, .int x), (2, .int y)] := hl
  refine lv_iload_n hx hb dX4_cargoHigh_0 rfl (lv_at hl 1 rfl) ?_
  refine rd_callS (As := [.int x]) (rest := []) ⟨hx, hb, hml, hown, hts⟩ (m_isO l G C b σ ρ hx_) (va_cwS 1 hts gX4_cargoHigh_X4_isSurvey rfl rfl rfl (by decide +kernel) ⟨Nat.le_of_ble_eq_true rfl, Nat.le_of_ble_eq_true rfl⟩) hK hN hP rfl hl.1 rfl (Nat.le_of_ble_eq_true rfl) dX4_cargoHigh_1 ⟨Nat.zero_le _, Nat.zero_le _⟩ ?_
  refine lv_if_eq (tgt := 23) hx hb dX4_cargoHigh_4 (by decide) (fun c_1 => ?_) (fun c_1 => ?_)
  · skip
    refine lv_ldc2 (v := (-9000000000000000001)) hx hb hown (hts (.constantLong RX4 125 (-9000000000000000001)) (by decide +kernel)) dX4_cargoHigh_23 ?_
    exact rd_lret hx hb hr hlocks (rfl) dX4_cargoHigh_26
  · skip
    exact absurd c_1 (by decide)

set_option maxHeartbeats 4000000 in
set_option maxRecDepth 100000 in
theorem m_high_io (l : Launch) (G : va_G) (C : Nat → ClassId) (b : Nat → Nat) (σ : SG) (ρ : KM) {i : Nat} (hi : i < 4) {y : Int32} (hy_ : ¬ inS y 4) : RdC l yX4_cargoHigh wsX4_cargoHigh ({ frames := 8, cells := 0, slots := 0, locals := 205 } : Room) G (tysC C) (wM C b σ ρ) [.ref (b 0), .int (nI i), .int y] (.long NO_S) := by
  refine Met.ofW (cc := cX4_cargoHigh) (maxL := 3) (ret := (some .long)) (by decide) rfl ?_
  intro p e s m args below meth c s₁ B hml hv
  obtain ⟨rfl, hP, hK, hN⟩ := hv
  have hx := B.exec
  have hb := B.bytes
  have hr := B.returns
  have hts := atoms_spec (ws := wsX4_cargoHigh) B.pre
  have hown : s.vm.findClass RX4 = some m.cls := findClass_of_methodNamed B.named
  have hlocks := B.notSynchronized
  have hP : va_P G vwCl (wM C b σ ρ) s.heap := hP
  have hl := lv_entry ([.ref (b 0), .int (nI i), .int y]) (n := 3) (Nat.le_of_ble_eq_true rfl)
  rw [lg_entry_eq]
  generalize (lg_sl ([.ref (b 0), .int (nI i), .int y]) ++ List.replicate (3 - (lg_sl ([.ref (b 0), .int (nI i), .int y])).length) Slot.unset).toArray = ls at hl ⊢
  have hl : lv_has ls 3 [(0, .ref (b 0)), (1, .int (nI i)), (2, .int y)] := hl
  refine lv_iload_n hx hb dX4_cargoHigh_0 rfl (lv_at hl 1 rfl) ?_
  refine rd_callS (As := [.int (nI i)]) (rest := []) ⟨hx, hb, hml, hown, hts⟩ (m_isI l G C b σ ρ (j := i) hi) (va_cwS 1 hts gX4_cargoHigh_X4_isSurvey rfl rfl rfl (by decide +kernel) ⟨Nat.le_of_ble_eq_true rfl, Nat.le_of_ble_eq_true rfl⟩) hK hN hP rfl hl.1 rfl (Nat.le_of_ble_eq_true rfl) dX4_cargoHigh_1 ⟨Nat.zero_le _, Nat.zero_le _⟩ ?_
  refine lv_if_eq (tgt := 23) hx hb dX4_cargoHigh_4 (by decide) (fun c_1 => ?_) (fun c_1 => ?_)
  · skip
    exact absurd c_1 (by decide)
  · skip
    refine lv_iload_n hx hb dX4_cargoHigh_7 rfl (lv_at hl 2 rfl) ?_
    refine rd_callS (As := [.int y]) (rest := []) ⟨hx, hb, hml, hown, hts⟩ (m_isO l G C b σ ρ hy_) (va_cwS 1 hts gX4_cargoHigh_X4_isSurvey rfl rfl rfl (by decide +kernel) ⟨Nat.le_of_ble_eq_true rfl, Nat.le_of_ble_eq_true rfl⟩) hK hN hP rfl hl.1 rfl (Nat.le_of_ble_eq_true rfl) dX4_cargoHigh_8 ⟨Nat.zero_le _, Nat.zero_le _⟩ ?_
    refine lv_if_eq (tgt := 23) hx hb dX4_cargoHigh_11 (by decide) (fun c_2 => ?_) (fun c_2 => ?_)
    · skip
      refine lv_ldc2 (v := (-9000000000000000001)) hx hb hown (hts (.constantLong RX4 125 (-9000000000000000001)) (by decide +kernel)) dX4_cargoHigh_23 ?_
      exact rd_lret hx hb hr hlocks (rfl) dX4_cargoHigh_26
    · skip
      exact absurd c_2 (by decide)

theorem m_high (l : Launch) (G : va_G) (C : Nat → ClassId) (b : Nat → Nat) (σ : SG) (ρ : KM) (hI : Inv σ) (x y : Int32) : RdC l yX4_cargoHigh wsX4_cargoHigh ({ frames := 8, cells := 0, slots := 0, locals := 205 } : Room) G (tysC C) (wM C b σ ρ) [.ref (b 0), .int x, .int y] (.long (aHigh σ x y)) := by
  by_cases g : inS x 4
  · obtain ⟨i, hi, rfl⟩ := inS_nI g
    by_cases k : inS y 4
    · obtain ⟨j, hj, rfl⟩ := inS_nI k
      rw [show aHigh σ (nI i) (nI j) = tHigh σ i j from by unfold aHigh; rw [if_pos ⟨g, k⟩, cl4 hi, cl4 hj]]
      exact m_high_ii l G C b σ ρ hI hi hj
    · rw [show aHigh σ (nI i) y = NO_S from if_neg (fun q => k q.2)]
      exact m_high_io l G C b σ ρ hi k
  · rw [show aHigh σ x y = NO_S from if_neg (fun q => g q.1)]
    exact m_high_o l G C b σ ρ g y

set_option maxHeartbeats 4000000 in
set_option maxRecDepth 100000 in
theorem m_rowCount (l : Launch) (G : va_G) (C : Nat → ClassId) (b : Nat → Nat) (σ : SG) (ρ : KM) (hn : g_n σ ≤ 10) : RdC l yX4_rowCount wsX4_rowCount ({ frames := 0, cells := 0, slots := 0, locals := 0 } : Room) G (tysC C) (wM C b σ ρ) [.ref (b 0)] (.long (lN (g_n σ))) := by
  refine Met.ofW (cc := cX4_rowCount) (maxL := 1) (ret := (some .long)) (by decide) rfl ?_
  intro p e s m args below meth c s₁ B hml hv
  obtain ⟨rfl, hP, hK, hN⟩ := hv
  have hx := B.exec
  have hb := B.bytes
  have hr := B.returns
  have hts := atoms_spec (ws := wsX4_rowCount) B.pre
  have hown : s.vm.findClass RX4 = some m.cls := findClass_of_methodNamed B.named
  have hlocks := B.notSynchronized
  have hX4 : ∀ w ∈ wsX40, w ∈ wsX4_rowCount := by decide +kernel
  have hP : va_P G vwCl (wM C b σ ρ) s.heap := hP
  have hl := lv_entry ([.ref (b 0)]) (n := 1) (Nat.le_of_ble_eq_true rfl)
  rw [lg_entry_eq]
  generalize (lg_sl ([.ref (b 0)]) ++ List.replicate (1 - (lg_sl ([.ref (b 0)])).length) Slot.unset).toArray = ls at hl ⊢
  have hl : lv_has ls 1 [(0, .ref (b 0))] := hl
  refine lv_aload_n hx hb dX4_rowCount_0 rfl (lv_at hl 0 rfl) ?_
  refine va_get (D := G) (ci := 4) (v := .int (nI (g_n σ))) (C := RX4) (T := TX4) (N := 13) hx hb hts hX4 hown hK hP (0) wM_e0 rfl 2 (by decide) (hts (.fieldLink RX4 85 "DraftSurveyModel" "rows" "I") (by decide +kernel)) (fun _ h9 => h9) rfl dX4_rowCount_1 ?_
  refine lv_i2l (v := lN (g_n σ)) hx hb dX4_rowCount_4 (nI_l (by omega)) ?_
  exact rd_lret hx hb hr hlocks (rfl) dX4_rowCount_5

set_option maxHeartbeats 4000000 in
set_option maxRecDepth 100000 in
theorem m_rowD_i (l : Launch) (G : va_G) (C : Nat → ClassId) (b : Nat → Nat) (σ : SG) (ρ : KM) (hn : g_n σ ≤ 10) {i : Nat} (hi : i < g_n σ) : RdC l yX4_rowDraft wsX4_rowDraft ({ frames := 1, cells := 0, slots := 0, locals := 25 } : Room) G (tysC C) (wM C b σ ρ) [.ref (b 0), .int (nI i)] (.long (g_tb σ (5 * i + 0))) := by
  refine Met.ofW (cc := cX4_rowDraft) (maxL := 2) (ret := (some .long)) (by decide) rfl ?_
  intro p e s m args below meth c s₁ B hml hv
  obtain ⟨rfl, hP, hK, hN⟩ := hv
  have hx := B.exec
  have hb := B.bytes
  have hr := B.returns
  have hts := atoms_spec (ws := wsX4_rowDraft) B.pre
  have hown : s.vm.findClass RX4 = some m.cls := findClass_of_methodNamed B.named
  have hlocks := B.notSynchronized
  have hX4 : ∀ w ∈ wsX40, w ∈ wsX4_rowDraft := by decide +kernel
  have hP : va_P G vwCl (wM C b σ ρ) s.heap := hP
  have hl := lv_entry ([.ref (b 0), .int (nI i)]) (n := 2) (Nat.le_of_ble_eq_true rfl)
  rw [lg_entry_eq]
  generalize (lg_sl ([.ref (b 0), .int (nI i)]) ++ List.replicate (2 - (lg_sl ([.ref (b 0), .int (nI i)])).length) Slot.unset).toArray = ls at hl ⊢
  have hl : lv_has ls 2 [(0, .ref (b 0)), (1, .int (nI i))] := hl
  refine lv_iload_n hx hb dX4_rowDraft_0 rfl (lv_at hl 1 rfl) ?_
  refine lv_i2l (v := lN i) hx hb dX4_rowDraft_1 (nI_l (by omega)) ?_
  refine lv_lconst (v := 0) hx hb dX4_rowDraft_2 (by decide) ?_
  refine lv_aload_n hx hb dX4_rowDraft_3 rfl (lv_at hl 0 rfl) ?_
  refine va_get (D := G) (ci := 4) (v := .int (nI (g_n σ))) (C := RX4) (T := TX4) (N := 13) hx hb hts hX4 hown hK hP (0) wM_e0 rfl 2 (by decide) (hts (.fieldLink RX4 85 "DraftSurveyModel" "rows" "I") (by decide +kernel)) (fun _ h9 => h9) rfl dX4_rowDraft_4 ?_
  refine lv_iconst (v := 1) hx hb dX4_rowDraft_7 (by decide) ?_
  refine lv_isub hx hb dX4_rowDraft_8 ?_
  refine lv_i2l (v := (nI (g_n σ) - 1).toInt64) hx hb dX4_rowDraft_9 rfl ?_
  refine rd_callS (As := [.long (lN i), .long 0, .long ((nI (g_n σ) - 1).toInt64)]) (rest := []) ⟨hx, hb, hml, hown, hts⟩ (m_within_t l G C b σ ρ (lj_0 (by omega)) (rw_i hn hi)) (va_cwS 3 hts gX4_rowDraft_X4_within rfl rfl rfl (by decide +kernel) ⟨Nat.le_of_ble_eq_true rfl, Nat.le_of_ble_eq_true rfl⟩) hK hN hP rfl hl.1 rfl (Nat.le_of_ble_eq_true rfl) dX4_rowDraft_10 ⟨Nat.zero_le _, Nat.zero_le _⟩ ?_
  refine lv_if_eq (tgt := 25) hx hb dX4_rowDraft_13 (by decide) (fun c_1 => ?_) (fun c_1 => ?_)
  · skip
    exact absurd c_1 (by decide)
  · skip
    refine lv_aload_n hx hb dX4_rowDraft_16 rfl (lv_at hl 0 rfl) ?_
    refine lv_iload_n hx hb dX4_rowDraft_17 rfl (lv_at hl 1 rfl) ?_
    refine lv_iconst (v := 0) hx hb dX4_rowDraft_18 (by decide) ?_
    refine rd_callV (As := [.int (nI i), .int 0]) (rest := []) ⟨hx, hb, hml, hown, hts⟩ (m_cell l G C b σ ρ (r := i) (q := 0) (by omega) (by omega)) (cwV 2 hts gX4_rowDraft_X4_cell rfl rfl rfl (by decide +kernel) ⟨Nat.le_of_ble_eq_true rfl, Nat.le_of_ble_eq_true rfl⟩) hK hN hP (0) 4 wM_e0 rfl rfl rfl hl.1 rfl (Nat.le_of_ble_eq_true rfl) dX4_rowDraft_19 ⟨Nat.zero_le _, Nat.zero_le _⟩ ?_
    refine lv_goto (tgt := 28) hx hb dX4_rowDraft_22 (by decide) ?_
    exact rd_lret hx hb hr hlocks (rfl) dX4_rowDraft_28

set_option maxHeartbeats 4000000 in
set_option maxRecDepth 100000 in
theorem m_rowD_o (l : Launch) (G : va_G) (C : Nat → ClassId) (b : Nat → Nat) (σ : SG) (ρ : KM) (hn : g_n σ ≤ 10) {x : Int32} (hx_ : ¬ (¬ x < 0 ∧ x < nI (g_n σ))) : RdC l yX4_rowDraft wsX4_rowDraft ({ frames := 1, cells := 0, slots := 0, locals := 25 } : Room) G (tysC C) (wM C b σ ρ) [.ref (b 0), .int x] (.long NO_I) := by
  refine Met.ofW (cc := cX4_rowDraft) (maxL := 2) (ret := (some .long)) (by decide) rfl ?_
  intro p e s m args below meth c s₁ B hml hv
  obtain ⟨rfl, hP, hK, hN⟩ := hv
  have hx := B.exec
  have hb := B.bytes
  have hr := B.returns
  have hts := atoms_spec (ws := wsX4_rowDraft) B.pre
  have hown : s.vm.findClass RX4 = some m.cls := findClass_of_methodNamed B.named
  have hlocks := B.notSynchronized
  have hX4 : ∀ w ∈ wsX40, w ∈ wsX4_rowDraft := by decide +kernel
  have hP : va_P G vwCl (wM C b σ ρ) s.heap := hP
  have hl := lv_entry ([.ref (b 0), .int x]) (n := 2) (Nat.le_of_ble_eq_true rfl)
  rw [lg_entry_eq]
  generalize (lg_sl ([.ref (b 0), .int x]) ++ List.replicate (2 - (lg_sl ([.ref (b 0), .int x])).length) Slot.unset).toArray = ls at hl ⊢
  have hl : lv_has ls 2 [(0, .ref (b 0)), (1, .int x)] := hl
  refine lv_iload_n hx hb dX4_rowDraft_0 rfl (lv_at hl 1 rfl) ?_
  refine lv_i2l (v := x.toInt64) hx hb dX4_rowDraft_1 rfl ?_
  refine lv_lconst (v := 0) hx hb dX4_rowDraft_2 (by decide) ?_
  refine lv_aload_n hx hb dX4_rowDraft_3 rfl (lv_at hl 0 rfl) ?_
  refine va_get (D := G) (ci := 4) (v := .int (nI (g_n σ))) (C := RX4) (T := TX4) (N := 13) hx hb hts hX4 hown hK hP (0) wM_e0 rfl 2 (by decide) (hts (.fieldLink RX4 85 "DraftSurveyModel" "rows" "I") (by decide +kernel)) (fun _ h9 => h9) rfl dX4_rowDraft_4 ?_
  refine lv_iconst (v := 1) hx hb dX4_rowDraft_7 (by decide) ?_
  refine lv_isub hx hb dX4_rowDraft_8 ?_
  refine lv_i2l (v := (nI (g_n σ) - 1).toInt64) hx hb dX4_rowDraft_9 rfl ?_
  refine rd_callS (As := [.long x.toInt64, .long 0, .long ((nI (g_n σ) - 1).toInt64)]) (rest := []) ⟨hx, hb, hml, hown, hts⟩ (m_within_f l G C b σ ρ (rw_o hn hx_)) (va_cwS 3 hts gX4_rowDraft_X4_within rfl rfl rfl (by decide +kernel) ⟨Nat.le_of_ble_eq_true rfl, Nat.le_of_ble_eq_true rfl⟩) hK hN hP rfl hl.1 rfl (Nat.le_of_ble_eq_true rfl) dX4_rowDraft_10 ⟨Nat.zero_le _, Nat.zero_le _⟩ ?_
  refine lv_if_eq (tgt := 25) hx hb dX4_rowDraft_13 (by decide) (fun c_1 => ?_) (fun c_1 => ?_)
  · skip
    refine lv_ldc2 (v := (-9000000000000000002)) hx hb hown (hts (.constantLong RX4 94 (-9000000000000000002)) (by decide +kernel)) dX4_rowDraft_25 ?_
    exact rd_lret hx hb hr hlocks (rfl) dX4_rowDraft_28
  · skip
    exact absurd c_1 (by decide)

theorem m_rowD (l : Launch) (G : va_G) (C : Nat → ClassId) (b : Nat → Nat) (σ : SG) (ρ : KM) (hn : g_n σ ≤ 10) (x : Int32) : RdC l yX4_rowDraft wsX4_rowDraft ({ frames := 1, cells := 0, slots := 0, locals := 25 } : Room) G (tysC C) (wM C b σ ρ) [.ref (b 0), .int x] (.long (aRowDraft σ x)) := by
  by_cases h : ¬ x < 0 ∧ x < nI (g_n σ)
  · obtain ⟨i, hi, rfl⟩ := nI_of h.1
    have q : i < g_n σ := (nI_ltI hi (by omega)).mp h.2
    rw [show aRowDraft σ (nI i) = g_tb σ (5 * i + 0) from by unfold aRowDraft; rw [if_pos h, nI_clamp hi]]
    exact m_rowD_i l G C b σ ρ hn q
  · rw [show aRowDraft σ x = NO_I from if_neg h]
    exact m_rowD_o l G C b σ ρ hn h

set_option maxHeartbeats 4000000 in
set_option maxRecDepth 100000 in
theorem m_val_i (l : Launch) (G : va_G) (C : Nat → ClassId) (b : Nat → Nat) (σ : SG) (ρ : KM) (hI : Inv σ) {i : Nat} (hi : i < 4) (d : Int32) : RdC l yX4_tableValue wsX4_tableValue ({ frames := 2, cells := 0, slots := 0, locals := 51 } : Room) G (tysC C) (wM C b σ ρ) [.ref (b 0), .int (nI i), .int d] (.long (if cov σ d.toInt64 then vA σ (i + 1) d.toInt64 else NCO)) := by
  refine Met.ofW (cc := cX4_tableValue) (maxL := 3) (ret := (some .long)) (by decide) rfl ?_
  intro p e s m args below meth c s₁ B hml hv
  obtain ⟨rfl, hP, hK, hN⟩ := hv
  have hx := B.exec
  have hb := B.bytes
  have hr := B.returns
  have hts := atoms_spec (ws := wsX4_tableValue) B.pre
  have hown : s.vm.findClass RX4 = some m.cls := findClass_of_methodNamed B.named
  have hlocks := B.notSynchronized
  have hP : va_P G vwCl (wM C b σ ρ) s.heap := hP
  have hl := lv_entry ([.ref (b 0), .int (nI i), .int d]) (n := 3) (Nat.le_of_ble_eq_true rfl)
  rw [lg_entry_eq]
  generalize (lg_sl ([.ref (b 0), .int (nI i), .int d]) ++ List.replicate (3 - (lg_sl ([.ref (b 0), .int (nI i), .int d])).length) Slot.unset).toArray = ls at hl ⊢
  have hl : lv_has ls 3 [(0, .ref (b 0)), (1, .int (nI i)), (2, .int d)] := hl
  refine lv_iload_n hx hb dX4_tableValue_0 rfl (lv_at hl 1 rfl) ?_
  refine lv_i2l (v := lN i) hx hb dX4_tableValue_1 (nI_l (by omega)) ?_
  refine lv_lconst (v := 0) hx hb dX4_tableValue_2 (by decide) ?_
  refine lv_ldc2 (v := 3) hx hb hown (hts (.constantLong RX4 100 (3)) (by decide +kernel)) dX4_tableValue_3 ?_
  refine rd_callS (As := [.long (lN i), .long 0, .long 3]) (rest := []) ⟨hx, hb, hml, hown, hts⟩ (m_within_t l G C b σ ρ (lj_0 (by omega)) (lj_h (j := i) (m := 3) (by omega) (by decide))) (va_cwS 3 hts gX4_tableValue_X4_within rfl rfl rfl (by decide +kernel) ⟨Nat.le_of_ble_eq_true rfl, Nat.le_of_ble_eq_true rfl⟩) hK hN hP rfl hl.1 rfl (Nat.le_of_ble_eq_true rfl) dX4_tableValue_6 ⟨Nat.zero_le _, Nat.zero_le _⟩ ?_
  refine ic_if_ne (tgt := 16) hx hb dX4_tableValue_9 (by decide) (fun c_1 => ?_) (fun c_1 => ?_)
  · skip
    refine lv_aload_n hx hb dX4_tableValue_16 rfl (lv_at hl 0 rfl) ?_
    refine lv_iload_n hx hb dX4_tableValue_17 rfl (lv_at hl 2 rfl) ?_
    refine lv_i2l (v := d.toInt64) hx hb dX4_tableValue_18 rfl ?_
    refine rd_callV (As := [.long d.toInt64]) (rest := []) ⟨hx, hb, hml, hown, hts⟩ (m_cov l G C b σ ρ (inv_n hI) d.toInt64) (cwV 1 hts gX4_tableValue_X4_isCovered rfl rfl rfl (by decide +kernel) ⟨Nat.le_of_ble_eq_true rfl, Nat.le_of_ble_eq_true rfl⟩) hK hN hP (0) 4 wM_e0 rfl rfl rfl hl.1 rfl (Nat.le_of_ble_eq_true rfl) dX4_tableValue_19 ⟨Nat.zero_le _, Nat.zero_le _⟩ ?_
    refine br_beq (tgt := 35) hx hb dX4_tableValue_22 (by decide) (fun c_2 => ?_) (fun c_2 => ?_)
    · skip
      refine lv_ldc2 (v := (-9000000000000000007)) hx hb hown (hts (.constantLong RX4 110 (-9000000000000000007)) (by decide +kernel)) dX4_tableValue_35 ?_
      exact rd_lret hx hb hr hlocks (congrArg Value.long (if_neg c_2).symm) dX4_tableValue_38
    · skip
      refine lv_aload_n hx hb dX4_tableValue_25 rfl (lv_at hl 0 rfl) ?_
      refine lv_iload_n hx hb dX4_tableValue_26 rfl (lv_at hl 1 rfl) ?_
      refine lv_iload_n hx hb dX4_tableValue_27 rfl (lv_at hl 2 rfl) ?_
      refine lv_i2l (v := d.toInt64) hx hb dX4_tableValue_28 rfl ?_
      refine rd_callV (As := [.int (nI i), .long d.toInt64]) (rest := []) ⟨hx, hb, hml, hown, hts⟩ (m_at l G C b σ ρ hI (q := i) (by omega) c_2) (cwV 2 hts gX4_tableValue_X4_at rfl rfl rfl (by decide +kernel) ⟨Nat.le_of_ble_eq_true rfl, Nat.le_of_ble_eq_true rfl⟩) hK hN hP (0) 4 wM_e0 rfl rfl rfl hl.1 rfl (Nat.le_of_ble_eq_true rfl) dX4_tableValue_29 ⟨Nat.zero_le _, Nat.zero_le _⟩ ?_
      refine lv_goto (tgt := 38) hx hb dX4_tableValue_32 (by decide) ?_
      exact rd_lret hx hb hr hlocks (congrArg Value.long (if_pos c_2).symm) dX4_tableValue_38
  · skip
    exact absurd c_1 (by decide)

set_option maxHeartbeats 4000000 in
set_option maxRecDepth 100000 in
theorem m_val_o (l : Launch) (G : va_G) (C : Nat → ClassId) (b : Nat → Nat) (σ : SG) (ρ : KM) {x : Int32} (hx_ : ¬ inS x 4) (d : Int32) : RdC l yX4_tableValue wsX4_tableValue ({ frames := 2, cells := 0, slots := 0, locals := 51 } : Room) G (tysC C) (wM C b σ ρ) [.ref (b 0), .int x, .int d] (.long NO_I) := by
  refine Met.ofW (cc := cX4_tableValue) (maxL := 3) (ret := (some .long)) (by decide) rfl ?_
  intro p e s m args below meth c s₁ B hml hv
  obtain ⟨rfl, hP, hK, hN⟩ := hv
  have hx := B.exec
  have hb := B.bytes
  have hr := B.returns
  have hts := atoms_spec (ws := wsX4_tableValue) B.pre
  have hown : s.vm.findClass RX4 = some m.cls := findClass_of_methodNamed B.named
  have hlocks := B.notSynchronized
  have hP : va_P G vwCl (wM C b σ ρ) s.heap := hP
  have hl := lv_entry ([.ref (b 0), .int x, .int d]) (n := 3) (Nat.le_of_ble_eq_true rfl)
  rw [lg_entry_eq]
  generalize (lg_sl ([.ref (b 0), .int x, .int d]) ++ List.replicate (3 - (lg_sl ([.ref (b 0), .int x, .int d])).length) Slot.unset).toArray = ls at hl ⊢
  have hl : lv_has ls 3 [(0, .ref (b 0)), (1, .int x), (2, .int d)] := hl
  refine lv_iload_n hx hb dX4_tableValue_0 rfl (lv_at hl 1 rfl) ?_
  refine lv_i2l (v := x.toInt64) hx hb dX4_tableValue_1 rfl ?_
  refine lv_lconst (v := 0) hx hb dX4_tableValue_2 (by decide) ?_
  refine lv_ldc2 (v := 3) hx hb hown (hts (.constantLong RX4 100 (3)) (by decide +kernel)) dX4_tableValue_3 ?_
  refine rd_callS (As := [.long x.toInt64, .long 0, .long 3]) (rest := []) ⟨hx, hb, hml, hown, hts⟩ (m_within_f l G C b σ ρ (w_f (lo := 0) (hi := 3) rfl rfl (inS_3 hx_))) (va_cwS 3 hts gX4_tableValue_X4_within rfl rfl rfl (by decide +kernel) ⟨Nat.le_of_ble_eq_true rfl, Nat.le_of_ble_eq_true rfl⟩) hK hN hP rfl hl.1 rfl (Nat.le_of_ble_eq_true rfl) dX4_tableValue_6 ⟨Nat.zero_le _, Nat.zero_le _⟩ ?_
  refine ic_if_ne (tgt := 16) hx hb dX4_tableValue_9 (by decide) (fun c_1 => ?_) (fun c_1 => ?_)
  · skip
    exact absurd c_1 (by decide)
  · skip
    refine lv_ldc2 (v := (-9000000000000000002)) hx hb hown (hts (.constantLong RX4 94 (-9000000000000000002)) (by decide +kernel)) dX4_tableValue_12 ?_
    exact rd_lret hx hb hr hlocks (rfl) dX4_tableValue_15

theorem m_val (l : Launch) (G : va_G) (C : Nat → ClassId) (b : Nat → Nat) (σ : SG) (ρ : KM) (hI : Inv σ) (x d : Int32) : RdC l yX4_tableValue wsX4_tableValue ({ frames := 2, cells := 0, slots := 0, locals := 51 } : Room) G (tysC C) (wM C b σ ρ) [.ref (b 0), .int x, .int d] (.long (aValue σ x d)) := by
  by_cases g : inS x 4
  · obtain ⟨i, hi, rfl⟩ := inS_nI g
    rw [show aValue σ (nI i) d = (if cov σ d.toInt64 then vA σ (i + 1) d.toInt64 else NCO) from by unfold aValue; rw [if_pos g, cl4 hi]]
    exact m_val_i l G C b σ ρ hI hi d
  · rw [show aValue σ x d = NO_I from if_neg g]
    exact m_val_o l G C b σ ρ g d
theorem c_val (l : Launch) (G : va_G) (C : Nat → ClassId) (a : Nat → Nat) (σ : SG) (κ : KX) (hI : Inv σ) (x d : Int32) : RdC l yX3_tableValue wsX3_tableValue ({ frames := 2, cells := 0, slots := 0, locals := 61 } : Room) G (tysC C) (wX C a σ κ) [.ref (a 0), .int x, .int d] (.long (aValue σ x d)) := by
  by_cases g : inS x 4
  · obtain ⟨i, hi, rfl⟩ := inS_nI g
    rw [aValue_in hI hi d]
    exact c_val_i l G C a σ κ (inv_n hI) hi d
  · rw [show aValue σ x d = NO_I from if_neg g]
    exact c_val_o l G C a σ κ (inv_n hI) g d

set_option maxHeartbeats 4000000 in
set_option maxRecDepth 100000 in
theorem m_draftFor (l : Launch) (G : va_G) (C : Nat → ClassId) (b : Nat → Nat) (σ : SG) (ρ : KM) (hI : Inv σ) (x : Int32) : RdC l yX4_draftFor wsX4_draftFor ({ frames := 2, cells := 0, slots := 0, locals := 51 } : Room) G (tysC C) (wM C b σ ρ) [.ref (b 0), .int x] (.long (aDraftFor σ x)) := by
  refine Met.ofW (cc := cX4_draftFor) (maxL := 8) (ret := (some .long)) (by decide) rfl ?_
  intro p e s m args below meth c s₁ B hml hv
  obtain ⟨rfl, hP, hK, hN⟩ := hv
  have hx := B.exec
  have hb := B.bytes
  have hr := B.returns
  have hts := atoms_spec (ws := wsX4_draftFor) B.pre
  have hown : s.vm.findClass RX4 = some m.cls := findClass_of_methodNamed B.named
  have hlocks := B.notSynchronized
  have hX4 : ∀ w ∈ wsX40, w ∈ wsX4_draftFor := by decide +kernel
  have hP : va_P G vwCl (wM C b σ ρ) s.heap := hP
  have hl := lv_entry ([.ref (b 0), .int x]) (n := 8) (Nat.le_of_ble_eq_true rfl)
  rw [lg_entry_eq]
  generalize (lg_sl ([.ref (b 0), .int x]) ++ List.replicate (8 - (lg_sl ([.ref (b 0), .int x])).length) Slot.unset).toArray = ls at hl ⊢
  have hl : lv_has ls 8 [(0, .ref (b 0)), (1, .int x)] := hl
  have hn := inv_n hI
  refine lv_aload_n hx hb dX4_draftFor_0 rfl (lv_at hl 0 rfl) ?_
  refine va_get (D := G) (ci := 4) (v := .int (nI (g_n σ))) (C := RX4) (T := TX4) (N := 13) hx hb hts hX4 hown hK hP (0) wM_e0 rfl 2 (by decide) (hts (.fieldLink RX4 85 "DraftSurveyModel" "rows" "I") (by decide +kernel)) (fun _ h9 => h9) rfl dX4_draftFor_1 ?_
  refine lv_if_eq (tgt := 24) hx hb dX4_draftFor_4 (by decide) (fun c_1 => ?_) (fun c_1 => ?_)
  · skip
    have c_1 : (g_n σ) = 0 := (nI_eq (a := (g_n σ)) (b := 0) (by omega) (by omega)).mp c_1
    refine lv_ldc2 (v := (-9000000000000000007)) hx hb hown (hts (.constantLong RX4 110 (-9000000000000000007)) (by decide +kernel)) dX4_draftFor_24 ?_
    exact rd_lret hx hb hr hlocks (congrArg Value.long (ld_0 c_1)) dX4_draftFor_27
  · skip
    have c_1 : ¬ (g_n σ) = 0 := fun z9 => c_1 ((nI_eq (a := (g_n σ)) (b := 0) (by omega) (by omega)).mpr z9)
    refine lv_aload_n hx hb dX4_draftFor_7 rfl (lv_at hl 0 rfl) ?_
    refine lv_aload_n hx hb dX4_draftFor_8 rfl (lv_at hl 0 rfl) ?_
    refine va_get (D := G) (ci := 4) (v := .int (nI (g_n σ))) (C := RX4) (T := TX4) (N := 13) hx hb hts hX4 hown hK hP (0) wM_e0 rfl 2 (by decide) (hts (.fieldLink RX4 85 "DraftSurveyModel" "rows" "I") (by decide +kernel)) (fun _ h9 => h9) rfl dX4_draftFor_9 ?_
    refine lv_iconst (v := 1) hx hb dX4_draftFor_12 (by decide) ?_
    refine lv_isub hx hb dX4_draftFor_13 ?_
    refine tp_i (v := nI ((g_n σ) - 1)) (pk_sub (a := (g_n σ)) (b := 1) (by omega)) ?_
    refine lv_iconst (v := 1) hx hb dX4_draftFor_14 (by decide) ?_
    refine rd_callV (As := [.int (nI ((g_n σ) - 1)), .int 1]) (rest := []) ⟨hx, hb, hml, hown, hts⟩ (m_cell l G C b σ ρ (r := ((g_n σ) - 1)) (q := 1) (by omega) (by omega)) (cwV 2 hts gX4_draftFor_X4_cell rfl rfl rfl (by decide +kernel) ⟨Nat.le_of_ble_eq_true rfl, Nat.le_of_ble_eq_true rfl⟩) hK hN hP (0) 4 wM_e0 rfl rfl rfl hl.1 rfl (Nat.le_of_ble_eq_true rfl) dX4_draftFor_15 ⟨Nat.zero_le _, Nat.zero_le _⟩ ?_
    refine lv_iload_n hx hb dX4_draftFor_18 rfl (lv_at hl 1 rfl) ?_
    refine lv_i2l (v := x.toInt64) hx hb dX4_draftFor_19 rfl ?_
    refine lc_ge (tgt := 28) hx hb dX4_draftFor_20 dX4_draftFor_21 (by decide) (fun c_2 => ?_) (fun c_2 => ?_)
    · skip
      have h0 : 0 < g_n σ := by omega
      have hk := ld_key hI h0 c_2
      have b_1 := Dt_b hI h0
      have b_2 := Dt_b hI (i := g_n σ - 1) (by omega)
      refine lv_aload_n hx hb dX4_draftFor_28 rfl (lv_at hl 0 rfl) ?_
      refine lv_iconst (v := 0) hx hb dX4_draftFor_29 (by decide) ?_
      refine lv_iconst (v := 0) hx hb dX4_draftFor_30 (by decide) ?_
      refine rd_callV (As := [.int 0, .int 0]) (rest := []) ⟨hx, hb, hml, hown, hts⟩ (m_cell l G C b σ ρ (r := 0) (q := 0) (by omega) (by omega)) (cwV 2 hts gX4_draftFor_X4_cell rfl rfl rfl (by decide +kernel) ⟨Nat.le_of_ble_eq_true rfl, Nat.le_of_ble_eq_true rfl⟩) hK hN hP (0) 4 wM_e0 rfl rfl rfl hl.1 rfl (Nat.le_of_ble_eq_true rfl) dX4_draftFor_31 ⟨Nat.zero_le _, Nat.zero_le _⟩ ?_
      refine lv_lstore_n (lv' := [(2, .long (g_tb σ (5 * 0 + 0))), (0, .ref (b 0)), (1, .int x)]) hx hb dX4_draftFor_34 rfl hl (by decide) rfl (fun ls hl => ?_)
      refine lv_aload_n hx hb dX4_draftFor_35 rfl (lv_at hl 1 rfl) ?_
      refine lv_aload_n hx hb dX4_draftFor_36 rfl (lv_at hl 1 rfl) ?_
      refine va_get (D := G) (ci := 4) (v := .int (nI (g_n σ))) (C := RX4) (T := TX4) (N := 13) hx hb hts hX4 hown hK hP (0) wM_e0 rfl 2 (by decide) (hts (.fieldLink RX4 85 "DraftSurveyModel" "rows" "I") (by decide +kernel)) (fun _ h9 => h9) rfl dX4_draftFor_37 ?_
      refine lv_iconst (v := 1) hx hb dX4_draftFor_40 (by decide) ?_
      refine lv_isub hx hb dX4_draftFor_41 ?_
      refine tp_i (v := nI ((g_n σ) - 1)) (pk_sub (a := (g_n σ)) (b := 1) (by omega)) ?_
      refine lv_iconst (v := 0) hx hb dX4_draftFor_42 (by decide) ?_
      refine rd_callV (As := [.int (nI ((g_n σ) - 1)), .int 0]) (rest := []) ⟨hx, hb, hml, hown, hts⟩ (m_cell l G C b σ ρ (r := ((g_n σ) - 1)) (q := 0) (by omega) (by omega)) (cwV 2 hts gX4_draftFor_X4_cell rfl rfl rfl (by decide +kernel) ⟨Nat.le_of_ble_eq_true rfl, Nat.le_of_ble_eq_true rfl⟩) hK hN hP (0) 4 wM_e0 rfl rfl rfl hl.1 rfl (Nat.le_of_ble_eq_true rfl) dX4_draftFor_43 ⟨Nat.zero_le _, Nat.zero_le _⟩ ?_
      refine lv_lstore (lv' := [(4, .long (g_tb σ (5 * ((g_n σ) - 1) + 0))), (2, .long (g_tb σ (5 * 0 + 0))), (0, .ref (b 0)), (1, .int x)]) hx hb dX4_draftFor_46 hl (by decide) rfl (fun ls hl => ?_)
      have key48 : ∀ (n_ : Nat) (lo : Int64) (hi : Int64), hi.toInt - lo.toInt + 1 ≤ (n_ : Int) → Dt σ 0 ≤ lo.toInt → hi.toInt ≤ Dt σ (g_n σ - 1) → lo.toInt ≤ (lD σ x.toInt64).toInt → (lD σ x.toInt64).toInt ≤ hi.toInt → ∀ ls : Array Slot, lv_has ls 8 [(0, .ref (b 0)), (1, .int x), (2, .long lo), (4, .long hi)] → W p l e (headSpec wsX4_draftFor ({ frames := 2, cells := 0, slots := 0, locals := 51 } : Room)).room s m ([.ref (b 0), .int x] : List Value).toArray below meth c s.heap [] 0 0 (MQ below (k2_QcV (.long (aDraftFor σ x))) ([.ref (b 0), .int x] : List Value).toArray s 0 0 (fun _ => False)) (F0 m 48 ls []) := by
        intro n_
        induction n_ with
        | zero =>
          intro lo hi g_0 g_1 g_2 g_3 g_4 ls hl
          exact absurd g_0 (by omega)
        | succ n_ ih =>
          intro lo hi g_0 g_1 g_2 g_3 g_4 ls hl
          have d_1 : lo.toInt ≤ hi.toInt := by omega
          refine lv_lload_n hx hb dX4_draftFor_48 rfl (lv_at hl 2 rfl) ?_
          refine lv_lload hx hb dX4_draftFor_49 (lv_at hl 3 rfl) ?_
          refine lc_ge (tgt := 93) hx hb dX4_draftFor_51 dX4_draftFor_52 (by decide) (fun c_3 => ?_) (fun c_3 => ?_)
          · skip
            refine lv_lload_n hx hb dX4_draftFor_93 rfl (lv_at hl 2 rfl) ?_
            exact rd_lret hx hb hr hlocks (congrArg Value.long (ti_eq (show lo.toInt = (lD σ x.toInt64).toInt from by have z := c_3; rw [ti_lt] at z; omega))) dX4_draftFor_94
          · skip
            have z_1 := ti_lt.mp c_3
            refine lv_lload_n hx hb dX4_draftFor_55 rfl (lv_at hl 2 rfl) ?_
            refine lv_lload hx hb dX4_draftFor_56 (lv_at hl 3 rfl) ?_
            refine lv_ladd hx hb dX4_draftFor_58 ?_
            refine lv_ldc2 (v := 2) hx hb hown (hts (.constantLong RX4 133 (2)) (by decide +kernel)) dX4_draftFor_59 ?_
            refine lv_ldiv hx hb dX4_draftFor_62 (by decide) ?_
            refine lv_lstore (lv' := [(6, .long ((lo + hi) / 2)), (0, .ref (b 0)), (1, .int x), (2, .long lo), (4, .long hi)]) hx hb dX4_draftFor_63 hl (by decide) rfl (fun ls hl => ?_)
            refine lv_aload_n hx hb dX4_draftFor_65 rfl (lv_at hl 1 rfl) ?_
            refine lv_iconst (v := 0) hx hb dX4_draftFor_66 (by decide) ?_
            refine lv_lload hx hb dX4_draftFor_67 (lv_at hl 0 rfl) ?_
            refine rd_callV (As := [.int 0, .long ((lo + hi) / 2)]) (rest := []) ⟨hx, hb, hml, hown, hts⟩ (m_at l G C b σ ρ hI (q := 0) (by decide) (ld_cov hI h0 (d := (lo + hi) / 2) (by rw [mid_t (by omega) (by omega) (by omega) (by omega)]; omega) (by rw [mid_t (by omega) (by omega) (by omega) (by omega)]; omega))) (cwV 2 hts gX4_draftFor_X4_at rfl rfl rfl (by decide +kernel) ⟨Nat.le_of_ble_eq_true rfl, Nat.le_of_ble_eq_true rfl⟩) hK hN hP (0) 4 wM_e0 rfl rfl rfl hl.1 rfl (Nat.le_of_ble_eq_true rfl) dX4_draftFor_69 ⟨Nat.zero_le _, Nat.zero_le _⟩ ?_
            refine lv_iload_n hx hb dX4_draftFor_72 rfl (lv_at hl 2 rfl) ?_
            refine lv_i2l (v := x.toInt64) hx hb dX4_draftFor_73 rfl ?_
            refine lc_lt (tgt := 85) hx hb dX4_draftFor_74 dX4_draftFor_75 (by decide) (fun c_4 => ?_) (fun c_4 => ?_)
            · skip
              refine lv_lload hx hb dX4_draftFor_85 (lv_at hl 0 rfl) ?_
              refine lv_lconst (v := 1) hx hb dX4_draftFor_87 (by decide) ?_
              refine lv_ladd hx hb dX4_draftFor_88 ?_
              refine lv_lstore_n (lv' := [(2, .long (((lo + hi) / 2) + 1)), (6, .long ((lo + hi) / 2)), (0, .ref (b 0)), (1, .int x), (4, .long hi)]) hx hb dX4_draftFor_89 rfl hl (by decide) rfl (fun ls hl => ?_)
              refine lv_goto (tgt := 48) hx hb dX4_draftFor_90 (by decide) ?_
              have m_1 : ((lo + hi) / 2).toInt = (lo.toInt + hi.toInt) / 2 := mid_t (by omega) (by omega) (by omega) (by omega)
              have m_2 := (hk.2 ((lo + hi) / 2) (ld_cov hI h0 (by omega) (by omega)))
              have m_3 := m_2.mp (ti_lt.mp c_4)
              have m_4 : ((lo + hi) / 2 + 1).toInt = ((lo + hi) / 2).toInt + 1 := suc_t (by omega) (by omega)
              exact ih (((lo + hi) / 2) + 1) hi (by omega) (by omega) (by omega) (by omega) (by omega) ls (lv_sub hl [2, 3, 0, 4] rfl)
            · skip
              refine lv_lload hx hb dX4_draftFor_78 (lv_at hl 0 rfl) ?_
              refine lv_lstore (lv' := [(4, .long ((lo + hi) / 2)), (6, .long ((lo + hi) / 2)), (0, .ref (b 0)), (1, .int x), (2, .long lo)]) hx hb dX4_draftFor_80 hl (by decide) rfl (fun ls hl => ?_)
              refine lv_goto (tgt := 90) hx hb dX4_draftFor_82 (by decide) ?_
              refine lv_goto (tgt := 48) hx hb dX4_draftFor_90 (by decide) ?_
              have m_1 : ((lo + hi) / 2).toInt = (lo.toInt + hi.toInt) / 2 := mid_t (by omega) (by omega) (by omega) (by omega)
              have m_2 := (hk.2 ((lo + hi) / 2) (ld_cov hI h0 (by omega) (by omega)))
              have m_3 : ¬ ((lo + hi) / 2).toInt < (lD σ x.toInt64).toInt := fun z => c_4 (ti_lt.mpr (m_2.mpr z))
              exact ih lo ((lo + hi) / 2) (by omega) (by omega) (by omega) (by omega) (by omega) ls (lv_sub hl [2, 3, 4, 0] rfl)
      exact key48 30001 (g_tb σ (5 * 0 + 0)) (g_tb σ (5 * (g_n σ - 1) + 0)) (by show Dt σ (g_n σ - 1) - Dt σ 0 + 1 ≤ _; omega) (Int.le_refl _) (Int.le_refl _) hk.1.1 hk.1.2 ls (lv_sub hl [2, 3, 1, 0] rfl)
    · skip
      refine lv_ldc2 (v := (-9000000000000000007)) hx hb hown (hts (.constantLong RX4 110 (-9000000000000000007)) (by decide +kernel)) dX4_draftFor_24 ?_
      exact rd_lret hx hb hr hlocks (congrArg Value.long (ld_no hI (by omega) c_2)) dX4_draftFor_27
