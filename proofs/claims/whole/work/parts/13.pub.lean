set_option maxHeartbeats 4000000 in
set_option maxRecDepth 100000 in
theorem c_trim_i (l : Launch) (G : va_G) (C : Nat → ClassId) (a : Nat → Nat) (σ : SG) (κ : KX) {j : Nat} (hj : j < 4) : RdC l yX3_trim wsX3_trim ({ frames := 3, cells := 0, slots := 0, locals := 65 } : Room) G (tysC C) (wX C a σ κ) [.ref (a 0), .int (nI j)] (.long (tr σ j)) := by
  refine Met.ofW (cc := cX3_trim) (maxL := 3) (ret := (some .long)) (by decide) rfl ?_
  intro p e s m args below meth c s₁ B hml hv
  obtain ⟨rfl, hP, hK, hN⟩ := hv
  have hx := B.exec
  have hb := B.bytes
  have hr := B.returns
  have hts := atoms_spec (ws := wsX3_trim) B.pre
  have hown : s.vm.findClass RX3 = some m.cls := findClass_of_methodNamed B.named
  have hlocks := B.notSynchronized
  have hP : va_P G vwCl (wX C a σ κ) s.heap := hP
  have hl := lv_entry ([.ref (a 0), .int (nI j)]) (n := 3) (Nat.le_of_ble_eq_true rfl)
  rw [lg_entry_eq]
  generalize (lg_sl ([.ref (a 0), .int (nI j)]) ++ List.replicate (3 - (lg_sl ([.ref (a 0), .int (nI j)])).length) Slot.unset).toArray = ls at hl ⊢
  have hl : lv_has ls 3 [(0, .ref (a 0)), (1, .int (nI j))] := hl
  refine lv_aload_n hx hb dX3_trim_0 rfl (lv_at hl 0 rfl) ?_
  refine lv_iload_n hx hb dX3_trim_1 rfl (lv_at hl 1 rfl) ?_
  refine rd_callV (As := [.int (nI j)]) (rest := []) ⟨hx, hb, hml, hown, hts⟩ (c_svI l G C a σ κ (j := j) hj) (cwV 1 hts gX3_trim_X3_surveyAt rfl rfl rfl (by decide +kernel) ⟨Nat.le_of_ble_eq_true rfl, Nat.le_of_ble_eq_true rfl⟩) hK hN hP (0) 3 wX_e0 rfl rfl rfl hl.1 rfl (Nat.le_of_ble_eq_true rfl) dX3_trim_2 ⟨Nat.zero_le _, Nat.zero_le _⟩ ?_
  refine lv_astore_n (lv' := [(2, .ref (a (7 + 3 * j))), (0, .ref (a 0)), (1, .int (nI j))]) hx hb dX3_trim_5 rfl hl (by decide) rfl (fun ls hl => ?_)
  refine lv_aload_n hx hb dX3_trim_6 rfl (lv_at hl 0 rfl) ?_
  refine lv_ifnonnull (tgt := 16) hx hb dX3_trim_7 (by decide) ?_
  refine lv_aload_n hx hb dX3_trim_16 rfl (lv_at hl 0 rfl) ?_
  refine rd_callV (As := []) (rest := []) ⟨hx, hb, hml, hown, hts⟩ (c_trim1 l G C a σ κ hj) (cwV 0 hts gX3_trim_X1_sternTrim rfl rfl rfl (by decide +kernel) ⟨Nat.le_of_ble_eq_true rfl, Nat.le_of_ble_eq_true rfl⟩) hK hN hP (7 + 3 * j) 1 (wX_sv hj) rfl rfl rfl hl.1 rfl (Nat.le_of_ble_eq_true rfl) dX3_trim_17 ⟨Nat.zero_le _, Nat.zero_le _⟩ ?_
  exact rd_lret hx hb hr hlocks (rfl) dX3_trim_20

set_option maxHeartbeats 4000000 in
set_option maxRecDepth 100000 in
theorem c_trim_o (l : Launch) (G : va_G) (C : Nat → ClassId) (a : Nat → Nat) (σ : SG) (κ : KX) {x : Int32} (hx_ : ¬ inS x 4) : RdC l yX3_trim wsX3_trim ({ frames := 3, cells := 0, slots := 0, locals := 65 } : Room) G (tysC C) (wX C a σ κ) [.ref (a 0), .int x] (.long NO_S) := by
  refine Met.ofW (cc := cX3_trim) (maxL := 3) (ret := (some .long)) (by decide) rfl ?_
  intro p e s m args below meth c s₁ B hml hv
  obtain ⟨rfl, hP, hK, hN⟩ := hv
  have hx := B.exec
  have hb := B.bytes
  have hr := B.returns
  have hts := atoms_spec (ws := wsX3_trim) B.pre
  have hown : s.vm.findClass RX3 = some m.cls := findClass_of_methodNamed B.named
  have hlocks := B.notSynchronized
  have hP : va_P G vwCl (wX C a σ κ) s.heap := hP
  have hl := lv_entry ([.ref (a 0), .int x]) (n := 3) (Nat.le_of_ble_eq_true rfl)
  rw [lg_entry_eq]
  generalize (lg_sl ([.ref (a 0), .int x]) ++ List.replicate (3 - (lg_sl ([.ref (a 0), .int x])).length) Slot.unset).toArray = ls at hl ⊢
  have hl : lv_has ls 3 [(0, .ref (a 0)), (1, .int x)] := hl
  refine lv_aload_n hx hb dX3_trim_0 rfl (lv_at hl 0 rfl) ?_
  refine lv_iload_n hx hb dX3_trim_1 rfl (lv_at hl 1 rfl) ?_
  refine rd_callV (As := [.int x]) (rest := []) ⟨hx, hb, hml, hown, hts⟩ (c_svO l G C a σ κ hx_) (cwV 1 hts gX3_trim_X3_surveyAt rfl rfl rfl (by decide +kernel) ⟨Nat.le_of_ble_eq_true rfl, Nat.le_of_ble_eq_true rfl⟩) hK hN hP (0) 3 wX_e0 rfl rfl rfl hl.1 rfl (Nat.le_of_ble_eq_true rfl) dX3_trim_2 ⟨Nat.zero_le _, Nat.zero_le _⟩ ?_
  refine lv_astore_nN (lv' := [(2, .null), (0, .ref (a 0)), (1, .int x)]) hx hb dX3_trim_5 rfl hl (by decide) rfl (fun ls hl => ?_)
  refine lv_aload_nN hx hb dX3_trim_6 rfl (lv_at hl 0 rfl) ?_
  refine lv_ifnonnullN hx hb dX3_trim_7 ?_
  refine lv_ldc2 (v := (-9000000000000000001)) hx hb hown (hts (.constantLong RX3 96 (-9000000000000000001)) (by decide +kernel)) dX3_trim_10 ?_
  refine lv_goto (tgt := 20) hx hb dX3_trim_13 (by decide) ?_
  exact rd_lret hx hb hr hlocks (rfl) dX3_trim_20

theorem c_trim (l : Launch) (G : va_G) (C : Nat → ClassId) (a : Nat → Nat) (σ : SG) (κ : KX) (x : Int32) : RdC l yX3_trim wsX3_trim ({ frames := 3, cells := 0, slots := 0, locals := 65 } : Room) G (tysC C) (wX C a σ κ) [.ref (a 0), .int x] (.long (aTrim σ x)) := by
  by_cases h : inS x 4
  · obtain ⟨j, hj, rfl⟩ := inS_nI h
    rw [show aTrim σ (nI j) = tr σ j from by unfold aTrim; rw [if_pos h, cl4 hj]]
    exact c_trim_i l G C a σ κ hj
  · rw [show aTrim σ x = NO_S from if_neg h]
    exact c_trim_o l G C a σ κ h

set_option maxHeartbeats 4000000 in
set_option maxRecDepth 100000 in
theorem c_defl_i (l : Launch) (G : va_G) (C : Nat → ClassId) (a : Nat → Nat) (σ : SG) (κ : KX) {j : Nat} (hj : j < 4) : RdC l yX3_deflection wsX3_deflection ({ frames := 3, cells := 0, slots := 0, locals := 65 } : Room) G (tysC C) (wX C a σ κ) [.ref (a 0), .int (nI j)] (.long (df σ j)) := by
  refine Met.ofW (cc := cX3_deflection) (maxL := 3) (ret := (some .long)) (by decide) rfl ?_
  intro p e s m args below meth c s₁ B hml hv
  obtain ⟨rfl, hP, hK, hN⟩ := hv
  have hx := B.exec
  have hb := B.bytes
  have hr := B.returns
  have hts := atoms_spec (ws := wsX3_deflection) B.pre
  have hown : s.vm.findClass RX3 = some m.cls := findClass_of_methodNamed B.named
  have hlocks := B.notSynchronized
  have hP : va_P G vwCl (wX C a σ κ) s.heap := hP
  have hl := lv_entry ([.ref (a 0), .int (nI j)]) (n := 3) (Nat.le_of_ble_eq_true rfl)
  rw [lg_entry_eq]
  generalize (lg_sl ([.ref (a 0), .int (nI j)]) ++ List.replicate (3 - (lg_sl ([.ref (a 0), .int (nI j)])).length) Slot.unset).toArray = ls at hl ⊢
  have hl : lv_has ls 3 [(0, .ref (a 0)), (1, .int (nI j))] := hl
  refine lv_aload_n hx hb dX3_deflection_0 rfl (lv_at hl 0 rfl) ?_
  refine lv_iload_n hx hb dX3_deflection_1 rfl (lv_at hl 1 rfl) ?_
  refine rd_callV (As := [.int (nI j)]) (rest := []) ⟨hx, hb, hml, hown, hts⟩ (c_svI l G C a σ κ (j := j) hj) (cwV 1 hts gX3_deflection_X3_surveyAt rfl rfl rfl (by decide +kernel) ⟨Nat.le_of_ble_eq_true rfl, Nat.le_of_ble_eq_true rfl⟩) hK hN hP (0) 3 wX_e0 rfl rfl rfl hl.1 rfl (Nat.le_of_ble_eq_true rfl) dX3_deflection_2 ⟨Nat.zero_le _, Nat.zero_le _⟩ ?_
  refine lv_astore_n (lv' := [(2, .ref (a (7 + 3 * j))), (0, .ref (a 0)), (1, .int (nI j))]) hx hb dX3_deflection_5 rfl hl (by decide) rfl (fun ls hl => ?_)
  refine lv_aload_n hx hb dX3_deflection_6 rfl (lv_at hl 0 rfl) ?_
  refine lv_ifnonnull (tgt := 16) hx hb dX3_deflection_7 (by decide) ?_
  refine lv_aload_n hx hb dX3_deflection_16 rfl (lv_at hl 0 rfl) ?_
  refine rd_callV (As := []) (rest := []) ⟨hx, hb, hml, hown, hts⟩ (c_defl1 l G C a σ κ hj) (cwV 0 hts gX3_deflection_X1_hullDeflection rfl rfl rfl (by decide +kernel) ⟨Nat.le_of_ble_eq_true rfl, Nat.le_of_ble_eq_true rfl⟩) hK hN hP (7 + 3 * j) 1 (wX_sv hj) rfl rfl rfl hl.1 rfl (Nat.le_of_ble_eq_true rfl) dX3_deflection_17 ⟨Nat.zero_le _, Nat.zero_le _⟩ ?_
  exact rd_lret hx hb hr hlocks (rfl) dX3_deflection_20

set_option maxHeartbeats 4000000 in
set_option maxRecDepth 100000 in
theorem c_defl_o (l : Launch) (G : va_G) (C : Nat → ClassId) (a : Nat → Nat) (σ : SG) (κ : KX) {x : Int32} (hx_ : ¬ inS x 4) : RdC l yX3_deflection wsX3_deflection ({ frames := 3, cells := 0, slots := 0, locals := 65 } : Room) G (tysC C) (wX C a σ κ) [.ref (a 0), .int x] (.long NO_S) := by
  refine Met.ofW (cc := cX3_deflection) (maxL := 3) (ret := (some .long)) (by decide) rfl ?_
  intro p e s m args below meth c s₁ B hml hv
  obtain ⟨rfl, hP, hK, hN⟩ := hv
  have hx := B.exec
  have hb := B.bytes
  have hr := B.returns
  have hts := atoms_spec (ws := wsX3_deflection) B.pre
  have hown : s.vm.findClass RX3 = some m.cls := findClass_of_methodNamed B.named
  have hlocks := B.notSynchronized
  have hP : va_P G vwCl (wX C a σ κ) s.heap := hP
  have hl := lv_entry ([.ref (a 0), .int x]) (n := 3) (Nat.le_of_ble_eq_true rfl)
  rw [lg_entry_eq]
  generalize (lg_sl ([.ref (a 0), .int x]) ++ List.replicate (3 - (lg_sl ([.ref (a 0), .int x])).length) Slot.unset).toArray = ls at hl ⊢
  have hl : lv_has ls 3 [(0, .ref (a 0)), (1, .int x)] := hl
  refine lv_aload_n hx hb dX3_deflection_0 rfl (lv_at hl 0 rfl) ?_
  refine lv_iload_n hx hb dX3_deflection_1 rfl (lv_at hl 1 rfl) ?_
  refine rd_callV (As := [.int x]) (rest := []) ⟨hx, hb, hml, hown, hts⟩ (c_svO l G C a σ κ hx_) (cwV 1 hts gX3_deflection_X3_surveyAt rfl rfl rfl (by decide +kernel) ⟨Nat.le_of_ble_eq_true rfl, Nat.le_of_ble_eq_true rfl⟩) hK hN hP (0) 3 wX_e0 rfl rfl rfl hl.1 rfl (Nat.le_of_ble_eq_true rfl) dX3_deflection_2 ⟨Nat.zero_le _, Nat.zero_le _⟩ ?_
  refine lv_astore_nN (lv' := [(2, .null), (0, .ref (a 0)), (1, .int x)]) hx hb dX3_deflection_5 rfl hl (by decide) rfl (fun ls hl => ?_)
  refine lv_aload_nN hx hb dX3_deflection_6 rfl (lv_at hl 0 rfl) ?_
  refine lv_ifnonnullN hx hb dX3_deflection_7 ?_
  refine lv_ldc2 (v := (-9000000000000000001)) hx hb hown (hts (.constantLong RX3 96 (-9000000000000000001)) (by decide +kernel)) dX3_deflection_10 ?_
  refine lv_goto (tgt := 20) hx hb dX3_deflection_13 (by decide) ?_
  exact rd_lret hx hb hr hlocks (rfl) dX3_deflection_20

theorem c_defl (l : Launch) (G : va_G) (C : Nat → ClassId) (a : Nat → Nat) (σ : SG) (κ : KX) (x : Int32) : RdC l yX3_deflection wsX3_deflection ({ frames := 3, cells := 0, slots := 0, locals := 65 } : Room) G (tysC C) (wX C a σ κ) [.ref (a 0), .int x] (.long (aDefl σ x)) := by
  by_cases h : inS x 4
  · obtain ⟨j, hj, rfl⟩ := inS_nI h
    rw [show aDefl σ (nI j) = df σ j from by unfold aDefl; rw [if_pos h, cl4 hj]]
    exact c_defl_i l G C a σ κ hj
  · rw [show aDefl σ x = NO_S from if_neg h]
    exact c_defl_o l G C a σ κ h

set_option maxHeartbeats 4000000 in
set_option maxRecDepth 100000 in
theorem c_heel_i (l : Launch) (G : va_G) (C : Nat → ClassId) (a : Nat → Nat) (σ : SG) (κ : KX) {j : Nat} (hj : j < 4) : RdC l yX3_heel wsX3_heel ({ frames := 1, cells := 0, slots := 0, locals := 21 } : Room) G (tysC C) (wX C a σ κ) [.ref (a 0), .int (nI j)] (.long (hl_ σ j)) := by
  refine Met.ofW (cc := cX3_heel) (maxL := 3) (ret := (some .long)) (by decide) rfl ?_
  intro p e s m args below meth c s₁ B hml hv
  obtain ⟨rfl, hP, hK, hN⟩ := hv
  have hx := B.exec
  have hb := B.bytes
  have hr := B.returns
  have hts := atoms_spec (ws := wsX3_heel) B.pre
  have hown : s.vm.findClass RX3 = some m.cls := findClass_of_methodNamed B.named
  have hlocks := B.notSynchronized
  have hP : va_P G vwCl (wX C a σ κ) s.heap := hP
  have hl := lv_entry ([.ref (a 0), .int (nI j)]) (n := 3) (Nat.le_of_ble_eq_true rfl)
  rw [lg_entry_eq]
  generalize (lg_sl ([.ref (a 0), .int (nI j)]) ++ List.replicate (3 - (lg_sl ([.ref (a 0), .int (nI j)])).length) Slot.unset).toArray = ls at hl ⊢
  have hl : lv_has ls 3 [(0, .ref (a 0)), (1, .int (nI j))] := hl
  refine lv_aload_n hx hb dX3_heel_0 rfl (lv_at hl 0 rfl) ?_
  refine lv_iload_n hx hb dX3_heel_1 rfl (lv_at hl 1 rfl) ?_
  refine rd_callV (As := [.int (nI j)]) (rest := []) ⟨hx, hb, hml, hown, hts⟩ (c_svI l G C a σ κ (j := j) hj) (cwV 1 hts gX3_heel_X3_surveyAt rfl rfl rfl (by decide +kernel) ⟨Nat.le_of_ble_eq_true rfl, Nat.le_of_ble_eq_true rfl⟩) hK hN hP (0) 3 wX_e0 rfl rfl rfl hl.1 rfl (Nat.le_of_ble_eq_true rfl) dX3_heel_2 ⟨Nat.zero_le _, Nat.zero_le _⟩ ?_
  refine lv_astore_n (lv' := [(2, .ref (a (7 + 3 * j))), (0, .ref (a 0)), (1, .int (nI j))]) hx hb dX3_heel_5 rfl hl (by decide) rfl (fun ls hl => ?_)
  refine lv_aload_n hx hb dX3_heel_6 rfl (lv_at hl 0 rfl) ?_
  refine lv_ifnonnull (tgt := 16) hx hb dX3_heel_7 (by decide) ?_
  refine lv_aload_n hx hb dX3_heel_16 rfl (lv_at hl 0 rfl) ?_
  refine rd_callV (As := []) (rest := []) ⟨hx, hb, hml, hown, hts⟩ (c_heel1 l G C a σ κ hj) (cwV 0 hts gX3_heel_X1_starboardHeel rfl rfl rfl (by decide +kernel) ⟨Nat.le_of_ble_eq_true rfl, Nat.le_of_ble_eq_true rfl⟩) hK hN hP (7 + 3 * j) 1 (wX_sv hj) rfl rfl rfl hl.1 rfl (Nat.le_of_ble_eq_true rfl) dX3_heel_17 ⟨Nat.zero_le _, Nat.zero_le _⟩ ?_
  exact rd_lret hx hb hr hlocks (rfl) dX3_heel_20

set_option maxHeartbeats 4000000 in
set_option maxRecDepth 100000 in
theorem c_heel_o (l : Launch) (G : va_G) (C : Nat → ClassId) (a : Nat → Nat) (σ : SG) (κ : KX) {x : Int32} (hx_ : ¬ inS x 4) : RdC l yX3_heel wsX3_heel ({ frames := 1, cells := 0, slots := 0, locals := 21 } : Room) G (tysC C) (wX C a σ κ) [.ref (a 0), .int x] (.long NO_S) := by
  refine Met.ofW (cc := cX3_heel) (maxL := 3) (ret := (some .long)) (by decide) rfl ?_
  intro p e s m args below meth c s₁ B hml hv
  obtain ⟨rfl, hP, hK, hN⟩ := hv
  have hx := B.exec
  have hb := B.bytes
  have hr := B.returns
  have hts := atoms_spec (ws := wsX3_heel) B.pre
  have hown : s.vm.findClass RX3 = some m.cls := findClass_of_methodNamed B.named
  have hlocks := B.notSynchronized
  have hP : va_P G vwCl (wX C a σ κ) s.heap := hP
  have hl := lv_entry ([.ref (a 0), .int x]) (n := 3) (Nat.le_of_ble_eq_true rfl)
  rw [lg_entry_eq]
  generalize (lg_sl ([.ref (a 0), .int x]) ++ List.replicate (3 - (lg_sl ([.ref (a 0), .int x])).length) Slot.unset).toArray = ls at hl ⊢
  have hl : lv_has ls 3 [(0, .ref (a 0)), (1, .int x)] := hl
  refine lv_aload_n hx hb dX3_heel_0 rfl (lv_at hl 0 rfl) ?_
  refine lv_iload_n hx hb dX3_heel_1 rfl (lv_at hl 1 rfl) ?_
  refine rd_callV (As := [.int x]) (rest := []) ⟨hx, hb, hml, hown, hts⟩ (c_svO l G C a σ κ hx_) (cwV 1 hts gX3_heel_X3_surveyAt rfl rfl rfl (by decide +kernel) ⟨Nat.le_of_ble_eq_true rfl, Nat.le_of_ble_eq_true rfl⟩) hK hN hP (0) 3 wX_e0 rfl rfl rfl hl.1 rfl (Nat.le_of_ble_eq_true rfl) dX3_heel_2 ⟨Nat.zero_le _, Nat.zero_le _⟩ ?_
  refine lv_astore_nN (lv' := [(2, .null), (0, .ref (a 0)), (1, .int x)]) hx hb dX3_heel_5 rfl hl (by decide) rfl (fun ls hl => ?_)
  refine lv_aload_nN hx hb dX3_heel_6 rfl (lv_at hl 0 rfl) ?_
  refine lv_ifnonnullN hx hb dX3_heel_7 ?_
  refine lv_ldc2 (v := (-9000000000000000001)) hx hb hown (hts (.constantLong RX3 96 (-9000000000000000001)) (by decide +kernel)) dX3_heel_10 ?_
  refine lv_goto (tgt := 20) hx hb dX3_heel_13 (by decide) ?_
  exact rd_lret hx hb hr hlocks (rfl) dX3_heel_20

theorem c_heel (l : Launch) (G : va_G) (C : Nat → ClassId) (a : Nat → Nat) (σ : SG) (κ : KX) (x : Int32) : RdC l yX3_heel wsX3_heel ({ frames := 1, cells := 0, slots := 0, locals := 21 } : Room) G (tysC C) (wX C a σ κ) [.ref (a 0), .int x] (.long (aHeel σ x)) := by
  by_cases h : inS x 4
  · obtain ⟨j, hj, rfl⟩ := inS_nI h
    rw [show aHeel σ (nI j) = hl_ σ j from by unfold aHeel; rw [if_pos h, cl4 hj]]
    exact c_heel_i l G C a σ κ hj
  · rw [show aHeel σ x = NO_S from if_neg h]
    exact c_heel_o l G C a σ κ h

set_option maxHeartbeats 4000000 in
set_option maxRecDepth 100000 in
theorem c_quar_i (l : Launch) (G : va_G) (C : Nat → ClassId) (a : Nat → Nat) (σ : SG) (κ : KX) {j : Nat} (hj : j < 4) : RdC l yX3_quarterMean wsX3_quarterMean ({ frames := 3, cells := 0, slots := 0, locals := 65 } : Room) G (tysC C) (wX C a σ κ) [.ref (a 0), .int (nI j)] (.long (qm σ j)) := by
  refine Met.ofW (cc := cX3_quarterMean) (maxL := 3) (ret := (some .long)) (by decide) rfl ?_
  intro p e s m args below meth c s₁ B hml hv
  obtain ⟨rfl, hP, hK, hN⟩ := hv
  have hx := B.exec
  have hb := B.bytes
  have hr := B.returns
  have hts := atoms_spec (ws := wsX3_quarterMean) B.pre
  have hown : s.vm.findClass RX3 = some m.cls := findClass_of_methodNamed B.named
  have hlocks := B.notSynchronized
  have hP : va_P G vwCl (wX C a σ κ) s.heap := hP
  have hl := lv_entry ([.ref (a 0), .int (nI j)]) (n := 3) (Nat.le_of_ble_eq_true rfl)
  rw [lg_entry_eq]
  generalize (lg_sl ([.ref (a 0), .int (nI j)]) ++ List.replicate (3 - (lg_sl ([.ref (a 0), .int (nI j)])).length) Slot.unset).toArray = ls at hl ⊢
  have hl : lv_has ls 3 [(0, .ref (a 0)), (1, .int (nI j))] := hl
  refine lv_aload_n hx hb dX3_quarterMean_0 rfl (lv_at hl 0 rfl) ?_
  refine lv_iload_n hx hb dX3_quarterMean_1 rfl (lv_at hl 1 rfl) ?_
  refine rd_callV (As := [.int (nI j)]) (rest := []) ⟨hx, hb, hml, hown, hts⟩ (c_svI l G C a σ κ (j := j) hj) (cwV 1 hts gX3_quarterMean_X3_surveyAt rfl rfl rfl (by decide +kernel) ⟨Nat.le_of_ble_eq_true rfl, Nat.le_of_ble_eq_true rfl⟩) hK hN hP (0) 3 wX_e0 rfl rfl rfl hl.1 rfl (Nat.le_of_ble_eq_true rfl) dX3_quarterMean_2 ⟨Nat.zero_le _, Nat.zero_le _⟩ ?_
  refine lv_astore_n (lv' := [(2, .ref (a (7 + 3 * j))), (0, .ref (a 0)), (1, .int (nI j))]) hx hb dX3_quarterMean_5 rfl hl (by decide) rfl (fun ls hl => ?_)
  refine lv_aload_n hx hb dX3_quarterMean_6 rfl (lv_at hl 0 rfl) ?_
  refine lv_ifnonnull (tgt := 16) hx hb dX3_quarterMean_7 (by decide) ?_
  refine lv_aload_n hx hb dX3_quarterMean_16 rfl (lv_at hl 0 rfl) ?_
  refine rd_callV (As := []) (rest := []) ⟨hx, hb, hml, hown, hts⟩ (c_mean1 l G C a σ κ hj) (cwV 0 hts gX3_quarterMean_X1_meanDraft rfl rfl rfl (by decide +kernel) ⟨Nat.le_of_ble_eq_true rfl, Nat.le_of_ble_eq_true rfl⟩) hK hN hP (7 + 3 * j) 1 (wX_sv hj) rfl rfl rfl hl.1 rfl (Nat.le_of_ble_eq_true rfl) dX3_quarterMean_17 ⟨Nat.zero_le _, Nat.zero_le _⟩ ?_
  exact rd_lret hx hb hr hlocks (rfl) dX3_quarterMean_20

set_option maxHeartbeats 4000000 in
set_option maxRecDepth 100000 in
theorem c_quar_o (l : Launch) (G : va_G) (C : Nat → ClassId) (a : Nat → Nat) (σ : SG) (κ : KX) {x : Int32} (hx_ : ¬ inS x 4) : RdC l yX3_quarterMean wsX3_quarterMean ({ frames := 3, cells := 0, slots := 0, locals := 65 } : Room) G (tysC C) (wX C a σ κ) [.ref (a 0), .int x] (.long NO_S) := by
  refine Met.ofW (cc := cX3_quarterMean) (maxL := 3) (ret := (some .long)) (by decide) rfl ?_
  intro p e s m args below meth c s₁ B hml hv
  obtain ⟨rfl, hP, hK, hN⟩ := hv
  have hx := B.exec
  have hb := B.bytes
  have hr := B.returns
  have hts := atoms_spec (ws := wsX3_quarterMean) B.pre
  have hown : s.vm.findClass RX3 = some m.cls := findClass_of_methodNamed B.named
  have hlocks := B.notSynchronized
  have hP : va_P G vwCl (wX C a σ κ) s.heap := hP
  have hl := lv_entry ([.ref (a 0), .int x]) (n := 3) (Nat.le_of_ble_eq_true rfl)
  rw [lg_entry_eq]
  generalize (lg_sl ([.ref (a 0), .int x]) ++ List.replicate (3 - (lg_sl ([.ref (a 0), .int x])).length) Slot.unset).toArray = ls at hl ⊢
  have hl : lv_has ls 3 [(0, .ref (a 0)), (1, .int x)] := hl
  refine lv_aload_n hx hb dX3_quarterMean_0 rfl (lv_at hl 0 rfl) ?_
  refine lv_iload_n hx hb dX3_quarterMean_1 rfl (lv_at hl 1 rfl) ?_
  refine rd_callV (As := [.int x]) (rest := []) ⟨hx, hb, hml, hown, hts⟩ (c_svO l G C a σ κ hx_) (cwV 1 hts gX3_quarterMean_X3_surveyAt rfl rfl rfl (by decide +kernel) ⟨Nat.le_of_ble_eq_true rfl, Nat.le_of_ble_eq_true rfl⟩) hK hN hP (0) 3 wX_e0 rfl rfl rfl hl.1 rfl (Nat.le_of_ble_eq_true rfl) dX3_quarterMean_2 ⟨Nat.zero_le _, Nat.zero_le _⟩ ?_
  refine lv_astore_nN (lv' := [(2, .null), (0, .ref (a 0)), (1, .int x)]) hx hb dX3_quarterMean_5 rfl hl (by decide) rfl (fun ls hl => ?_)
  refine lv_aload_nN hx hb dX3_quarterMean_6 rfl (lv_at hl 0 rfl) ?_
  refine lv_ifnonnullN hx hb dX3_quarterMean_7 ?_
  refine lv_ldc2 (v := (-9000000000000000001)) hx hb hown (hts (.constantLong RX3 96 (-9000000000000000001)) (by decide +kernel)) dX3_quarterMean_10 ?_
  refine lv_goto (tgt := 20) hx hb dX3_quarterMean_13 (by decide) ?_
  exact rd_lret hx hb hr hlocks (rfl) dX3_quarterMean_20

theorem c_quar (l : Launch) (G : va_G) (C : Nat → ClassId) (a : Nat → Nat) (σ : SG) (κ : KX) (x : Int32) : RdC l yX3_quarterMean wsX3_quarterMean ({ frames := 3, cells := 0, slots := 0, locals := 65 } : Room) G (tysC C) (wX C a σ κ) [.ref (a 0), .int x] (.long (aQuar σ x)) := by
  by_cases h : inS x 4
  · obtain ⟨j, hj, rfl⟩ := inS_nI h
    rw [show aQuar σ (nI j) = qm σ j from by unfold aQuar; rw [if_pos h, cl4 hj]]
    exact c_quar_i l G C a σ κ hj
  · rw [show aQuar σ x = NO_S from if_neg h]
    exact c_quar_o l G C a σ κ h

set_option maxHeartbeats 4000000 in
set_option maxRecDepth 100000 in
theorem c_first1_i (l : Launch) (G : va_G) (C : Nat → ClassId) (a : Nat → Nat) (σ : SG) (κ : KX) (hn : g_n σ ≤ 10) {j : Nat} (hj : j < 4) : RdC l yX3_firstCorrection wsX3_firstCorrection ({ frames := 4, cells := 0, slots := 0, locals := 88 } : Room) G (tysC C) (wX C a σ κ) [.ref (a 0), .int (nI j)] (.long (tFirst σ j)) := by
  refine Met.ofW (cc := cX3_firstCorrection) (maxL := 3) (ret := (some .long)) (by decide) rfl ?_
  intro p e s m args below meth c s₁ B hml hv
  obtain ⟨rfl, hP, hK, hN⟩ := hv
  have hx := B.exec
  have hb := B.bytes
  have hr := B.returns
  have hts := atoms_spec (ws := wsX3_firstCorrection) B.pre
  have hown : s.vm.findClass RX3 = some m.cls := findClass_of_methodNamed B.named
  have hlocks := B.notSynchronized
  have hP : va_P G vwCl (wX C a σ κ) s.heap := hP
  have hl := lv_entry ([.ref (a 0), .int (nI j)]) (n := 3) (Nat.le_of_ble_eq_true rfl)
  rw [lg_entry_eq]
  generalize (lg_sl ([.ref (a 0), .int (nI j)]) ++ List.replicate (3 - (lg_sl ([.ref (a 0), .int (nI j)])).length) Slot.unset).toArray = ls at hl ⊢
  have hl : lv_has ls 3 [(0, .ref (a 0)), (1, .int (nI j))] := hl
  refine lv_aload_n hx hb dX3_firstCorrection_0 rfl (lv_at hl 0 rfl) ?_
  refine lv_iload_n hx hb dX3_firstCorrection_1 rfl (lv_at hl 1 rfl) ?_
  refine rd_callV (As := [.int (nI j)]) (rest := []) ⟨hx, hb, hml, hown, hts⟩ (c_svI l G C a σ κ (j := j) hj) (cwV 1 hts gX3_firstCorrection_X3_surveyAt rfl rfl rfl (by decide +kernel) ⟨Nat.le_of_ble_eq_true rfl, Nat.le_of_ble_eq_true rfl⟩) hK hN hP (0) 3 wX_e0 rfl rfl rfl hl.1 rfl (Nat.le_of_ble_eq_true rfl) dX3_firstCorrection_2 ⟨Nat.zero_le _, Nat.zero_le _⟩ ?_
  refine lv_astore_n (lv' := [(2, .ref (a (7 + 3 * j))), (0, .ref (a 0)), (1, .int (nI j))]) hx hb dX3_firstCorrection_5 rfl hl (by decide) rfl (fun ls hl => ?_)
  refine lv_aload_n hx hb dX3_firstCorrection_6 rfl (lv_at hl 0 rfl) ?_
  refine lv_ifnonnull (tgt := 14) hx hb dX3_firstCorrection_7 (by decide) ?_
  refine lv_aload_n hx hb dX3_firstCorrection_14 rfl (lv_at hl 1 rfl) ?_
  refine lv_aload_n hx hb dX3_firstCorrection_15 rfl (lv_at hl 0 rfl) ?_
  refine lv_lconst (v := 0) hx hb dX3_firstCorrection_16 (by decide) ?_
  refine rd_callV (As := [.ref (a (7 + 3 * j)), .long 0]) (rest := []) ⟨hx, hb, hml, hown, hts⟩ (c_can l G C a σ κ hn (j := j) hj 0) (cwV 2 hts gX3_firstCorrection_X3_canCompute rfl rfl rfl (by decide +kernel) ⟨Nat.le_of_ble_eq_true rfl, Nat.le_of_ble_eq_true rfl⟩) hK hN hP (0) 3 wX_e0 rfl rfl rfl hl.1 rfl (Nat.le_of_ble_eq_true rfl) dX3_firstCorrection_17 ⟨Nat.zero_le _, Nat.zero_le _⟩ ?_
  refine br_bne (tgt := 27) hx hb dX3_firstCorrection_20 (by decide) (fun c_1 => ?_) (fun c_1 => ?_)
  · skip
    refine lv_aload_n hx hb dX3_firstCorrection_27 rfl (lv_at hl 1 rfl) ?_
    refine lv_aload_n hx hb dX3_firstCorrection_28 rfl (lv_at hl 0 rfl) ?_
    refine rd_callV (As := []) (rest := [.ref (a 0)]) ⟨hx, hb, hml, hown, hts⟩ (c_mean1 l G C a σ κ hj) (cwV 0 hts gX3_firstCorrection_X1_meanDraft rfl rfl rfl (by decide +kernel) ⟨Nat.le_of_ble_eq_true rfl, Nat.le_of_ble_eq_true rfl⟩) hK hN hP (7 + 3 * j) 1 (wX_sv hj) rfl rfl rfl hl.1 rfl (Nat.le_of_ble_eq_true rfl) dX3_firstCorrection_29 ⟨Nat.zero_le _, Nat.zero_le _⟩ ?_
    refine lv_aload_n hx hb dX3_firstCorrection_32 rfl (lv_at hl 0 rfl) ?_
    refine rd_callV (As := []) (rest := [.long (qm σ j), .ref (a 0)]) ⟨hx, hb, hml, hown, hts⟩ (c_trim1 l G C a σ κ hj) (cwV 0 hts gX3_firstCorrection_X1_sternTrim rfl rfl rfl (by decide +kernel) ⟨Nat.le_of_ble_eq_true rfl, Nat.le_of_ble_eq_true rfl⟩) hK hN hP (7 + 3 * j) 1 (wX_sv hj) rfl rfl rfl hl.1 rfl (Nat.le_of_ble_eq_true rfl) dX3_firstCorrection_33 ⟨Nat.zero_le _, Nat.zero_le _⟩ ?_
    refine rd_callV (As := [.long (qm σ j), .long (tr σ j)]) (rest := []) ⟨hx, hb, hml, hown, hts⟩ (c_fstA l G C a σ κ hn (qm σ j) (tr σ j)) (cwV 2 hts gX3_firstCorrection_X3_firstCorrectionAt rfl rfl rfl (by decide +kernel) ⟨Nat.le_of_ble_eq_true rfl, Nat.le_of_ble_eq_true rfl⟩) hK hN hP (0) 3 wX_e0 rfl rfl rfl hl.1 rfl (Nat.le_of_ble_eq_true rfl) dX3_firstCorrection_36 ⟨Nat.zero_le _, Nat.zero_le _⟩ ?_
    exact rd_lret hx hb hr hlocks (congrArg Value.long (if_pos c_1).symm) dX3_firstCorrection_39
  · skip
    refine lv_ldc2 (v := (-9000000000000000007)) hx hb hown (hts (.constantLong RX3 126 (-9000000000000000007)) (by decide +kernel)) dX3_firstCorrection_23 ?_
    exact rd_lret hx hb hr hlocks (congrArg Value.long (if_neg c_1).symm) dX3_firstCorrection_26

set_option maxHeartbeats 4000000 in
set_option maxRecDepth 100000 in
theorem c_first1_o (l : Launch) (G : va_G) (C : Nat → ClassId) (a : Nat → Nat) (σ : SG) (κ : KX) (hn : g_n σ ≤ 10) {x : Int32} (hx_ : ¬ inS x 4) : RdC l yX3_firstCorrection wsX3_firstCorrection ({ frames := 4, cells := 0, slots := 0, locals := 88 } : Room) G (tysC C) (wX C a σ κ) [.ref (a 0), .int x] (.long NO_S) := by
  refine Met.ofW (cc := cX3_firstCorrection) (maxL := 3) (ret := (some .long)) (by decide) rfl ?_
  intro p e s m args below meth c s₁ B hml hv
  obtain ⟨rfl, hP, hK, hN⟩ := hv
  have hx := B.exec
  have hb := B.bytes
  have hr := B.returns
  have hts := atoms_spec (ws := wsX3_firstCorrection) B.pre
  have hown : s.vm.findClass RX3 = some m.cls := findClass_of_methodNamed B.named
  have hlocks := B.notSynchronized
  have hP : va_P G vwCl (wX C a σ κ) s.heap := hP
  have hl := lv_entry ([.ref (a 0), .int x]) (n := 3) (Nat.le_of_ble_eq_true rfl)
  rw [lg_entry_eq]
  generalize (lg_sl ([.ref (a 0), .int x]) ++ List.replicate (3 - (lg_sl ([.ref (a 0), .int x])).length) Slot.unset).toArray = ls at hl ⊢
  have hl : lv_has ls 3 [(0, .ref (a 0)), (1, .int x)] := hl
  refine lv_aload_n hx hb dX3_firstCorrection_0 rfl (lv_at hl 0 rfl) ?_
  refine lv_iload_n hx hb dX3_firstCorrection_1 rfl (lv_at hl 1 rfl) ?_
  refine rd_callV (As := [.int x]) (rest := []) ⟨hx, hb, hml, hown, hts⟩ (c_svO l G C a σ κ hx_) (cwV 1 hts gX3_firstCorrection_X3_surveyAt rfl rfl rfl (by decide +kernel) ⟨Nat.le_of_ble_eq_true rfl, Nat.le_of_ble_eq_true rfl⟩) hK hN hP (0) 3 wX_e0 rfl rfl rfl hl.1 rfl (Nat.le_of_ble_eq_true rfl) dX3_firstCorrection_2 ⟨Nat.zero_le _, Nat.zero_le _⟩ ?_
  refine lv_astore_nN (lv' := [(2, .null), (0, .ref (a 0)), (1, .int x)]) hx hb dX3_firstCorrection_5 rfl hl (by decide) rfl (fun ls hl => ?_)
  refine lv_aload_nN hx hb dX3_firstCorrection_6 rfl (lv_at hl 0 rfl) ?_
  refine lv_ifnonnullN hx hb dX3_firstCorrection_7 ?_
  refine lv_ldc2 (v := (-9000000000000000001)) hx hb hown (hts (.constantLong RX3 96 (-9000000000000000001)) (by decide +kernel)) dX3_firstCorrection_10 ?_
  exact rd_lret hx hb hr hlocks (rfl) dX3_firstCorrection_13

theorem c_first1 (l : Launch) (G : va_G) (C : Nat → ClassId) (a : Nat → Nat) (σ : SG) (κ : KX) (hn : g_n σ ≤ 10) (x : Int32) : RdC l yX3_firstCorrection wsX3_firstCorrection ({ frames := 4, cells := 0, slots := 0, locals := 88 } : Room) G (tysC C) (wX C a σ κ) [.ref (a 0), .int x] (.long (aFirst σ x)) := by
  by_cases h : inS x 4
  · obtain ⟨j, hj, rfl⟩ := inS_nI h
    rw [show aFirst σ (nI j) = tFirst σ j from by unfold aFirst; rw [if_pos h, cl4 hj]]
    exact c_first1_i l G C a σ κ hn hj
  · rw [show aFirst σ x = NO_S from if_neg h]
    exact c_first1_o l G C a σ κ hn h

set_option maxHeartbeats 4000000 in
set_option maxRecDepth 100000 in
theorem c_second1_i (l : Launch) (G : va_G) (C : Nat → ClassId) (a : Nat → Nat) (σ : SG) (κ : KX) (hn : g_n σ ≤ 10) {j : Nat} (hj : j < 4) : RdC l yX3_secondCorrection wsX3_secondCorrection ({ frames := 4, cells := 0, slots := 0, locals := 91 } : Room) G (tysC C) (wX C a σ κ) [.ref (a 0), .int (nI j)] (.long (tSecond σ j)) := by
  refine Met.ofW (cc := cX3_secondCorrection) (maxL := 3) (ret := (some .long)) (by decide) rfl ?_
  intro p e s m args below meth c s₁ B hml hv
  obtain ⟨rfl, hP, hK, hN⟩ := hv
  have hx := B.exec
  have hb := B.bytes
  have hr := B.returns
  have hts := atoms_spec (ws := wsX3_secondCorrection) B.pre
  have hown : s.vm.findClass RX3 = some m.cls := findClass_of_methodNamed B.named
  have hlocks := B.notSynchronized
  have hP : va_P G vwCl (wX C a σ κ) s.heap := hP
  have hl := lv_entry ([.ref (a 0), .int (nI j)]) (n := 3) (Nat.le_of_ble_eq_true rfl)
  rw [lg_entry_eq]
  generalize (lg_sl ([.ref (a 0), .int (nI j)]) ++ List.replicate (3 - (lg_sl ([.ref (a 0), .int (nI j)])).length) Slot.unset).toArray = ls at hl ⊢
  have hl : lv_has ls 3 [(0, .ref (a 0)), (1, .int (nI j))] := hl
  refine lv_aload_n hx hb dX3_secondCorrection_0 rfl (lv_at hl 0 rfl) ?_
  refine lv_iload_n hx hb dX3_secondCorrection_1 rfl (lv_at hl 1 rfl) ?_
  refine rd_callV (As := [.int (nI j)]) (rest := []) ⟨hx, hb, hml, hown, hts⟩ (c_svI l G C a σ κ (j := j) hj) (cwV 1 hts gX3_secondCorrection_X3_surveyAt rfl rfl rfl (by decide +kernel) ⟨Nat.le_of_ble_eq_true rfl, Nat.le_of_ble_eq_true rfl⟩) hK hN hP (0) 3 wX_e0 rfl rfl rfl hl.1 rfl (Nat.le_of_ble_eq_true rfl) dX3_secondCorrection_2 ⟨Nat.zero_le _, Nat.zero_le _⟩ ?_
  refine lv_astore_n (lv' := [(2, .ref (a (7 + 3 * j))), (0, .ref (a 0)), (1, .int (nI j))]) hx hb dX3_secondCorrection_5 rfl hl (by decide) rfl (fun ls hl => ?_)
  refine lv_aload_n hx hb dX3_secondCorrection_6 rfl (lv_at hl 0 rfl) ?_
  refine lv_ifnonnull (tgt := 14) hx hb dX3_secondCorrection_7 (by decide) ?_
  refine lv_aload_n hx hb dX3_secondCorrection_14 rfl (lv_at hl 1 rfl) ?_
  refine lv_aload_n hx hb dX3_secondCorrection_15 rfl (lv_at hl 0 rfl) ?_
  refine lv_lconst (v := 0) hx hb dX3_secondCorrection_16 (by decide) ?_
  refine rd_callV (As := [.ref (a (7 + 3 * j)), .long 0]) (rest := []) ⟨hx, hb, hml, hown, hts⟩ (c_can l G C a σ κ hn (j := j) hj 0) (cwV 2 hts gX3_secondCorrection_X3_canCompute rfl rfl rfl (by decide +kernel) ⟨Nat.le_of_ble_eq_true rfl, Nat.le_of_ble_eq_true rfl⟩) hK hN hP (0) 3 wX_e0 rfl rfl rfl hl.1 rfl (Nat.le_of_ble_eq_true rfl) dX3_secondCorrection_17 ⟨Nat.zero_le _, Nat.zero_le _⟩ ?_
  refine br_bne (tgt := 27) hx hb dX3_secondCorrection_20 (by decide) (fun c_1 => ?_) (fun c_1 => ?_)
  · skip
    refine lv_aload_n hx hb dX3_secondCorrection_27 rfl (lv_at hl 1 rfl) ?_
    refine lv_aload_n hx hb dX3_secondCorrection_28 rfl (lv_at hl 0 rfl) ?_
    refine rd_callV (As := []) (rest := [.ref (a 0)]) ⟨hx, hb, hml, hown, hts⟩ (c_mean1 l G C a σ κ hj) (cwV 0 hts gX3_secondCorrection_X1_meanDraft rfl rfl rfl (by decide +kernel) ⟨Nat.le_of_ble_eq_true rfl, Nat.le_of_ble_eq_true rfl⟩) hK hN hP (7 + 3 * j) 1 (wX_sv hj) rfl rfl rfl hl.1 rfl (Nat.le_of_ble_eq_true rfl) dX3_secondCorrection_29 ⟨Nat.zero_le _, Nat.zero_le _⟩ ?_
    refine lv_aload_n hx hb dX3_secondCorrection_32 rfl (lv_at hl 0 rfl) ?_
    refine rd_callV (As := []) (rest := [.long (qm σ j), .ref (a 0)]) ⟨hx, hb, hml, hown, hts⟩ (c_trim1 l G C a σ κ hj) (cwV 0 hts gX3_secondCorrection_X1_sternTrim rfl rfl rfl (by decide +kernel) ⟨Nat.le_of_ble_eq_true rfl, Nat.le_of_ble_eq_true rfl⟩) hK hN hP (7 + 3 * j) 1 (wX_sv hj) rfl rfl rfl hl.1 rfl (Nat.le_of_ble_eq_true rfl) dX3_secondCorrection_33 ⟨Nat.zero_le _, Nat.zero_le _⟩ ?_
    refine rd_callV (As := [.long (qm σ j), .long (tr σ j)]) (rest := []) ⟨hx, hb, hml, hown, hts⟩ (c_sndA l G C a σ κ hn c_1.1 (qm σ j) (tr σ j)) (cwV 2 hts gX3_secondCorrection_X3_secondCorrectionAt rfl rfl rfl (by decide +kernel) ⟨Nat.le_of_ble_eq_true rfl, Nat.le_of_ble_eq_true rfl⟩) hK hN hP (0) 3 wX_e0 rfl rfl rfl hl.1 rfl (Nat.le_of_ble_eq_true rfl) dX3_secondCorrection_36 ⟨Nat.zero_le _, Nat.zero_le _⟩ ?_
    exact rd_lret hx hb hr hlocks (congrArg Value.long (if_pos c_1).symm) dX3_secondCorrection_39
  · skip
    refine lv_ldc2 (v := (-9000000000000000007)) hx hb hown (hts (.constantLong RX3 126 (-9000000000000000007)) (by decide +kernel)) dX3_secondCorrection_23 ?_
    exact rd_lret hx hb hr hlocks (congrArg Value.long (if_neg c_1).symm) dX3_secondCorrection_26

set_option maxHeartbeats 4000000 in
set_option maxRecDepth 100000 in
theorem c_second1_o (l : Launch) (G : va_G) (C : Nat → ClassId) (a : Nat → Nat) (σ : SG) (κ : KX) (hn : g_n σ ≤ 10) {x : Int32} (hx_ : ¬ inS x 4) : RdC l yX3_secondCorrection wsX3_secondCorrection ({ frames := 4, cells := 0, slots := 0, locals := 91 } : Room) G (tysC C) (wX C a σ κ) [.ref (a 0), .int x] (.long NO_S) := by
  refine Met.ofW (cc := cX3_secondCorrection) (maxL := 3) (ret := (some .long)) (by decide) rfl ?_
  intro p e s m args below meth c s₁ B hml hv
  obtain ⟨rfl, hP, hK, hN⟩ := hv
  have hx := B.exec
  have hb := B.bytes
  have hr := B.returns
  have hts := atoms_spec (ws := wsX3_secondCorrection) B.pre
  have hown : s.vm.findClass RX3 = some m.cls := findClass_of_methodNamed B.named
  have hlocks := B.notSynchronized
  have hP : va_P G vwCl (wX C a σ κ) s.heap := hP
  have hl := lv_entry ([.ref (a 0), .int x]) (n := 3) (Nat.le_of_ble_eq_true rfl)
  rw [lg_entry_eq]
  generalize (lg_sl ([.ref (a 0), .int x]) ++ List.replicate (3 - (lg_sl ([.ref (a 0), .int x])).length) Slot.unset).toArray = ls at hl ⊢
  have hl : lv_has ls 3 [(0, .ref (a 0)), (1, .int x)] := hl
  refine lv_aload_n hx hb dX3_secondCorrection_0 rfl (lv_at hl 0 rfl) ?_
  refine lv_iload_n hx hb dX3_secondCorrection_1 rfl (lv_at hl 1 rfl) ?_
  refine rd_callV (As := [.int x]) (rest := []) ⟨hx, hb, hml, hown, hts⟩ (c_svO l G C a σ κ hx_) (cwV 1 hts gX3_secondCorrection_X3_surveyAt rfl rfl rfl (by decide +kernel) ⟨Nat.le_of_ble_eq_true rfl, Nat.le_of_ble_eq_true rfl⟩) hK hN hP (0) 3 wX_e0 rfl rfl rfl hl.1 rfl (Nat.le_of_ble_eq_true rfl) dX3_secondCorrection_2 ⟨Nat.zero_le _, Nat.zero_le _⟩ ?_
  refine lv_astore_nN (lv' := [(2, .null), (0, .ref (a 0)), (1, .int x)]) hx hb dX3_secondCorrection_5 rfl hl (by decide) rfl (fun ls hl => ?_)
  refine lv_aload_nN hx hb dX3_secondCorrection_6 rfl (lv_at hl 0 rfl) ?_
  refine lv_ifnonnullN hx hb dX3_secondCorrection_7 ?_
  refine lv_ldc2 (v := (-9000000000000000001)) hx hb hown (hts (.constantLong RX3 96 (-9000000000000000001)) (by decide +kernel)) dX3_secondCorrection_10 ?_
  exact rd_lret hx hb hr hlocks (rfl) dX3_secondCorrection_13

theorem c_second1 (l : Launch) (G : va_G) (C : Nat → ClassId) (a : Nat → Nat) (σ : SG) (κ : KX) (hn : g_n σ ≤ 10) (x : Int32) : RdC l yX3_secondCorrection wsX3_secondCorrection ({ frames := 4, cells := 0, slots := 0, locals := 91 } : Room) G (tysC C) (wX C a σ κ) [.ref (a 0), .int x] (.long (aSecond σ x)) := by
  by_cases h : inS x 4
  · obtain ⟨j, hj, rfl⟩ := inS_nI h
    rw [show aSecond σ (nI j) = tSecond σ j from by unfold aSecond; rw [if_pos h, cl4 hj]]
    exact c_second1_i l G C a σ κ hn hj
  · rw [show aSecond σ x = NO_S from if_neg h]
    exact c_second1_o l G C a σ κ hn h

set_option maxHeartbeats 4000000 in
set_option maxRecDepth 100000 in
theorem c_net1_i (l : Launch) (G : va_G) (C : Nat → ClassId) (a : Nat → Nat) (σ : SG) (κ : KX) (hn : g_n σ ≤ 10) {j : Nat} (hj : j < 4) : RdC l yX3_netWeight wsX3_netWeight ({ frames := 5, cells := 0, slots := 0, locals := 143 } : Room) G (tysC C) (wX C a σ κ) [.ref (a 0), .int (nI j)] (.long (tNet σ j)) := by
  refine Met.ofW (cc := cX3_netWeight) (maxL := 3) (ret := (some .long)) (by decide) rfl ?_
  intro p e s m args below meth c s₁ B hml hv
  obtain ⟨rfl, hP, hK, hN⟩ := hv
  have hx := B.exec
  have hb := B.bytes
  have hr := B.returns
  have hts := atoms_spec (ws := wsX3_netWeight) B.pre
  have hown : s.vm.findClass RX3 = some m.cls := findClass_of_methodNamed B.named
  have hlocks := B.notSynchronized
  have hP : va_P G vwCl (wX C a σ κ) s.heap := hP
  have hl := lv_entry ([.ref (a 0), .int (nI j)]) (n := 3) (Nat.le_of_ble_eq_true rfl)
  rw [lg_entry_eq]
  generalize (lg_sl ([.ref (a 0), .int (nI j)]) ++ List.replicate (3 - (lg_sl ([.ref (a 0), .int (nI j)])).length) Slot.unset).toArray = ls at hl ⊢
  have hl : lv_has ls 3 [(0, .ref (a 0)), (1, .int (nI j))] := hl
  refine lv_aload_n hx hb dX3_netWeight_0 rfl (lv_at hl 0 rfl) ?_
  refine lv_iload_n hx hb dX3_netWeight_1 rfl (lv_at hl 1 rfl) ?_
  refine rd_callV (As := [.int (nI j)]) (rest := []) ⟨hx, hb, hml, hown, hts⟩ (c_svI l G C a σ κ (j := j) hj) (cwV 1 hts gX3_netWeight_X3_surveyAt rfl rfl rfl (by decide +kernel) ⟨Nat.le_of_ble_eq_true rfl, Nat.le_of_ble_eq_true rfl⟩) hK hN hP (0) 3 wX_e0 rfl rfl rfl hl.1 rfl (Nat.le_of_ble_eq_true rfl) dX3_netWeight_2 ⟨Nat.zero_le _, Nat.zero_le _⟩ ?_
  refine lv_astore_n (lv' := [(2, .ref (a (7 + 3 * j))), (0, .ref (a 0)), (1, .int (nI j))]) hx hb dX3_netWeight_5 rfl hl (by decide) rfl (fun ls hl => ?_)
  refine lv_aload_n hx hb dX3_netWeight_6 rfl (lv_at hl 0 rfl) ?_
  refine lv_ifnonnull (tgt := 14) hx hb dX3_netWeight_7 (by decide) ?_
  refine lv_aload_n hx hb dX3_netWeight_14 rfl (lv_at hl 1 rfl) ?_
  refine lv_aload_n hx hb dX3_netWeight_15 rfl (lv_at hl 0 rfl) ?_
  refine lv_lconst (v := 0) hx hb dX3_netWeight_16 (by decide) ?_
  refine rd_callV (As := [.ref (a (7 + 3 * j)), .long 0]) (rest := []) ⟨hx, hb, hml, hown, hts⟩ (c_can l G C a σ κ hn (j := j) hj 0) (cwV 2 hts gX3_netWeight_X3_canCompute rfl rfl rfl (by decide +kernel) ⟨Nat.le_of_ble_eq_true rfl, Nat.le_of_ble_eq_true rfl⟩) hK hN hP (0) 3 wX_e0 rfl rfl rfl hl.1 rfl (Nat.le_of_ble_eq_true rfl) dX3_netWeight_17 ⟨Nat.zero_le _, Nat.zero_le _⟩ ?_
  refine br_bne (tgt := 27) hx hb dX3_netWeight_20 (by decide) (fun c_1 => ?_) (fun c_1 => ?_)
  · skip
    refine lv_aload_n hx hb dX3_netWeight_27 rfl (lv_at hl 1 rfl) ?_
    refine lv_aload_n hx hb dX3_netWeight_28 rfl (lv_at hl 0 rfl) ?_
    refine lv_lconst (v := 0) hx hb dX3_netWeight_29 (by decide) ?_
    refine rd_callV (As := [.ref (a (7 + 3 * j)), .long 0]) (rest := []) ⟨hx, hb, hml, hown, hts⟩ (c_netO l G C a σ κ hn c_1.1 (j := j) hj 0) (cwV 2 hts gX3_netWeight_X3_netWeightOf rfl rfl rfl (by decide +kernel) ⟨Nat.le_of_ble_eq_true rfl, Nat.le_of_ble_eq_true rfl⟩) hK hN hP (0) 3 wX_e0 rfl rfl rfl hl.1 rfl (Nat.le_of_ble_eq_true rfl) dX3_netWeight_30 ⟨Nat.zero_le _, Nat.zero_le _⟩ ?_
    exact rd_lret hx hb hr hlocks (congrArg Value.long (if_pos c_1).symm) dX3_netWeight_33
  · skip
    refine lv_ldc2 (v := (-9000000000000000007)) hx hb hown (hts (.constantLong RX3 126 (-9000000000000000007)) (by decide +kernel)) dX3_netWeight_23 ?_
    exact rd_lret hx hb hr hlocks (congrArg Value.long (if_neg c_1).symm) dX3_netWeight_26

set_option maxHeartbeats 4000000 in
set_option maxRecDepth 100000 in
theorem c_net1_o (l : Launch) (G : va_G) (C : Nat → ClassId) (a : Nat → Nat) (σ : SG) (κ : KX) (hn : g_n σ ≤ 10) {x : Int32} (hx_ : ¬ inS x 4) : RdC l yX3_netWeight wsX3_netWeight ({ frames := 5, cells := 0, slots := 0, locals := 143 } : Room) G (tysC C) (wX C a σ κ) [.ref (a 0), .int x] (.long NO_S) := by
  refine Met.ofW (cc := cX3_netWeight) (maxL := 3) (ret := (some .long)) (by decide) rfl ?_
  intro p e s m args below meth c s₁ B hml hv
  obtain ⟨rfl, hP, hK, hN⟩ := hv
  have hx := B.exec
  have hb := B.bytes
  have hr := B.returns
  have hts := atoms_spec (ws := wsX3_netWeight) B.pre
  have hown : s.vm.findClass RX3 = some m.cls := findClass_of_methodNamed B.named
  have hlocks := B.notSynchronized
  have hP : va_P G vwCl (wX C a σ κ) s.heap := hP
  have hl := lv_entry ([.ref (a 0), .int x]) (n := 3) (Nat.le_of_ble_eq_true rfl)
  rw [lg_entry_eq]
  generalize (lg_sl ([.ref (a 0), .int x]) ++ List.replicate (3 - (lg_sl ([.ref (a 0), .int x])).length) Slot.unset).toArray = ls at hl ⊢
  have hl : lv_has ls 3 [(0, .ref (a 0)), (1, .int x)] := hl
  refine lv_aload_n hx hb dX3_netWeight_0 rfl (lv_at hl 0 rfl) ?_
  refine lv_iload_n hx hb dX3_netWeight_1 rfl (lv_at hl 1 rfl) ?_
  refine rd_callV (As := [.int x]) (rest := []) ⟨hx, hb, hml, hown, hts⟩ (c_svO l G C a σ κ hx_) (cwV 1 hts gX3_netWeight_X3_surveyAt rfl rfl rfl (by decide +kernel) ⟨Nat.le_of_ble_eq_true rfl, Nat.le_of_ble_eq_true rfl⟩) hK hN hP (0) 3 wX_e0 rfl rfl rfl hl.1 rfl (Nat.le_of_ble_eq_true rfl) dX3_netWeight_2 ⟨Nat.zero_le _, Nat.zero_le _⟩ ?_
  refine lv_astore_nN (lv' := [(2, .null), (0, .ref (a 0)), (1, .int x)]) hx hb dX3_netWeight_5 rfl hl (by decide) rfl (fun ls hl => ?_)
  refine lv_aload_nN hx hb dX3_netWeight_6 rfl (lv_at hl 0 rfl) ?_
  refine lv_ifnonnullN hx hb dX3_netWeight_7 ?_
  refine lv_ldc2 (v := (-9000000000000000001)) hx hb hown (hts (.constantLong RX3 96 (-9000000000000000001)) (by decide +kernel)) dX3_netWeight_10 ?_
  exact rd_lret hx hb hr hlocks (rfl) dX3_netWeight_13

theorem c_net1 (l : Launch) (G : va_G) (C : Nat → ClassId) (a : Nat → Nat) (σ : SG) (κ : KX) (hn : g_n σ ≤ 10) (x : Int32) : RdC l yX3_netWeight wsX3_netWeight ({ frames := 5, cells := 0, slots := 0, locals := 143 } : Room) G (tysC C) (wX C a σ κ) [.ref (a 0), .int x] (.long (aNet σ x)) := by
  by_cases h : inS x 4
  · obtain ⟨j, hj, rfl⟩ := inS_nI h
    rw [show aNet σ (nI j) = tNet σ j from by unfold aNet; rw [if_pos h, cl4 hj]]
    exact c_net1_i l G C a σ κ hn hj
  · rw [show aNet σ x = NO_S from if_neg h]
    exact c_net1_o l G C a σ κ hn h

set_option maxHeartbeats 4000000 in
set_option maxRecDepth 100000 in
theorem c_disp_i (l : Launch) (G : va_G) (C : Nat → ClassId) (a : Nat → Nat) (σ : SG) (κ : KX) (hn : g_n σ ≤ 10) {j : Nat} (hj : j < 4) (h : Int32) : RdC l yX3_displacement wsX3_displacement ({ frames := 4, cells := 0, slots := 0, locals := 120 } : Room) G (tysC C) (wX C a σ κ) [.ref (a 0), .int (nI j), .int h] (.long (if ¬ h < -1000 ∧ ¬ 1000 < h then tDisp σ j h.toInt64 else OOR)) := by
  refine Met.ofW (cc := cX3_displacement) (maxL := 4) (ret := (some .long)) (by decide) rfl ?_
  intro p e s m args below meth c s₁ B hml hv
  obtain ⟨rfl, hP, hK, hN⟩ := hv
  have hx := B.exec
  have hb := B.bytes
  have hr := B.returns
  have hts := atoms_spec (ws := wsX3_displacement) B.pre
  have hown : s.vm.findClass RX3 = some m.cls := findClass_of_methodNamed B.named
  have hlocks := B.notSynchronized
  have hP : va_P G vwCl (wX C a σ κ) s.heap := hP
  have hl := lv_entry ([.ref (a 0), .int (nI j), .int h]) (n := 4) (Nat.le_of_ble_eq_true rfl)
  rw [lg_entry_eq]
  generalize (lg_sl ([.ref (a 0), .int (nI j), .int h]) ++ List.replicate (4 - (lg_sl ([.ref (a 0), .int (nI j), .int h])).length) Slot.unset).toArray = ls at hl ⊢
  have hl : lv_has ls 4 [(0, .ref (a 0)), (1, .int (nI j)), (2, .int h)] := hl
  refine lv_aload_n hx hb dX3_displacement_0 rfl (lv_at hl 0 rfl) ?_
  refine lv_iload_n hx hb dX3_displacement_1 rfl (lv_at hl 1 rfl) ?_
  refine rd_callV (As := [.int (nI j)]) (rest := []) ⟨hx, hb, hml, hown, hts⟩ (c_svI l G C a σ κ (j := j) hj) (cwV 1 hts gX3_displacement_X3_surveyAt rfl rfl rfl (by decide +kernel) ⟨Nat.le_of_ble_eq_true rfl, Nat.le_of_ble_eq_true rfl⟩) hK hN hP (0) 3 wX_e0 rfl rfl rfl hl.1 rfl (Nat.le_of_ble_eq_true rfl) dX3_displacement_2 ⟨Nat.zero_le _, Nat.zero_le _⟩ ?_
  refine lv_astore_n (lv' := [(3, .ref (a (7 + 3 * j))), (0, .ref (a 0)), (1, .int (nI j)), (2, .int h)]) hx hb dX3_displacement_5 rfl hl (by decide) rfl (fun ls hl => ?_)
  refine lv_aload_n hx hb dX3_displacement_6 rfl (lv_at hl 0 rfl) ?_
  refine lv_ifnonnull (tgt := 14) hx hb dX3_displacement_7 (by decide) ?_
  refine lv_iload_n hx hb dX3_displacement_14 rfl (lv_at hl 3 rfl) ?_
  refine lv_sipush (v := (-1000)) hx hb dX3_displacement_15 (by decide) ?_
  refine lv_icmp_lt (tgt := 28) hx hb dX3_displacement_18 (by decide) (fun c_1 => ?_) (fun c_1 => ?_)
  · skip
    refine lv_ldc2 (v := (-9000000000000000003)) hx hb hown (hts (.constantLong RX3 47 (-9000000000000000003)) (by decide +kernel)) dX3_displacement_28 ?_
    exact rd_lret hx hb hr hlocks (congrArg Value.long (if_neg (fun q => q.1 c_1)).symm) dX3_displacement_31
  · skip
    refine lv_iload_n hx hb dX3_displacement_21 rfl (lv_at hl 3 rfl) ?_
    refine lv_sipush (v := 1000) hx hb dX3_displacement_22 (by decide) ?_
    refine ic_le (tgt := 32) hx hb dX3_displacement_25 (by decide) (fun c_2 => ?_) (fun c_2 => ?_)
    · skip
      refine lv_aload_n hx hb dX3_displacement_32 rfl (lv_at hl 1 rfl) ?_
      refine lv_aload_n hx hb dX3_displacement_33 rfl (lv_at hl 0 rfl) ?_
      refine lv_iload_n hx hb dX3_displacement_34 rfl (lv_at hl 3 rfl) ?_
      refine lv_i2l (v := h.toInt64) hx hb dX3_displacement_35 rfl ?_
      refine rd_callV (As := [.ref (a (7 + 3 * j)), .long h.toInt64]) (rest := []) ⟨hx, hb, hml, hown, hts⟩ (c_can l G C a σ κ hn (j := j) hj h.toInt64) (cwV 2 hts gX3_displacement_X3_canCompute rfl rfl rfl (by decide +kernel) ⟨Nat.le_of_ble_eq_true rfl, Nat.le_of_ble_eq_true rfl⟩) hK hN hP (0) 3 wX_e0 rfl rfl rfl hl.1 rfl (Nat.le_of_ble_eq_true rfl) dX3_displacement_36 ⟨Nat.zero_le _, Nat.zero_le _⟩ ?_
      refine br_bne (tgt := 46) hx hb dX3_displacement_39 (by decide) (fun c_3 => ?_) (fun c_3 => ?_)
      · skip
        refine lv_aload_n hx hb dX3_displacement_46 rfl (lv_at hl 1 rfl) ?_
        refine lv_aload_n hx hb dX3_displacement_47 rfl (lv_at hl 0 rfl) ?_
        refine lv_iload_n hx hb dX3_displacement_48 rfl (lv_at hl 3 rfl) ?_
        refine lv_i2l (v := h.toInt64) hx hb dX3_displacement_49 rfl ?_
        refine rd_callV (As := [.ref (a (7 + 3 * j)), .long h.toInt64]) (rest := []) ⟨hx, hb, hml, hown, hts⟩ (c_dispO l G C a σ κ hn c_3.1 (j := j) hj h.toInt64) (cwV 2 hts gX3_displacement_X3_displacementOf rfl rfl rfl (by decide +kernel) ⟨Nat.le_of_ble_eq_true rfl, Nat.le_of_ble_eq_true rfl⟩) hK hN hP (0) 3 wX_e0 rfl rfl rfl hl.1 rfl (Nat.le_of_ble_eq_true rfl) dX3_displacement_50 ⟨Nat.zero_le _, Nat.zero_le _⟩ ?_
        exact rd_lret hx hb hr hlocks (congrArg Value.long ((if_pos ⟨c_1, c_2⟩).trans (if_pos c_3)).symm) dX3_displacement_53
      · skip
        refine lv_ldc2 (v := (-9000000000000000007)) hx hb hown (hts (.constantLong RX3 126 (-9000000000000000007)) (by decide +kernel)) dX3_displacement_42 ?_
        exact rd_lret hx hb hr hlocks (congrArg Value.long ((if_pos ⟨c_1, c_2⟩).trans (if_neg c_3)).symm) dX3_displacement_45
    · skip
      refine lv_ldc2 (v := (-9000000000000000003)) hx hb hown (hts (.constantLong RX3 47 (-9000000000000000003)) (by decide +kernel)) dX3_displacement_28 ?_
      exact rd_lret hx hb hr hlocks (congrArg Value.long (if_neg (fun q => q.2 c_2)).symm) dX3_displacement_31

set_option maxHeartbeats 4000000 in
set_option maxRecDepth 100000 in
theorem c_disp_o (l : Launch) (G : va_G) (C : Nat → ClassId) (a : Nat → Nat) (σ : SG) (κ : KX) (hn : g_n σ ≤ 10) {x : Int32} (hx_ : ¬ inS x 4) (h : Int32) : RdC l yX3_displacement wsX3_displacement ({ frames := 4, cells := 0, slots := 0, locals := 120 } : Room) G (tysC C) (wX C a σ κ) [.ref (a 0), .int x, .int h] (.long NO_S) := by
  refine Met.ofW (cc := cX3_displacement) (maxL := 4) (ret := (some .long)) (by decide) rfl ?_
  intro p e s m args below meth c s₁ B hml hv
  obtain ⟨rfl, hP, hK, hN⟩ := hv
  have hx := B.exec
  have hb := B.bytes
  have hr := B.returns
  have hts := atoms_spec (ws := wsX3_displacement) B.pre
  have hown : s.vm.findClass RX3 = some m.cls := findClass_of_methodNamed B.named
  have hlocks := B.notSynchronized
  have hP : va_P G vwCl (wX C a σ κ) s.heap := hP
  have hl := lv_entry ([.ref (a 0), .int x, .int h]) (n := 4) (Nat.le_of_ble_eq_true rfl)
  rw [lg_entry_eq]
  generalize (lg_sl ([.ref (a 0), .int x, .int h]) ++ List.replicate (4 - (lg_sl ([.ref (a 0), .int x, .int h])).length) Slot.unset).toArray = ls at hl ⊢
  have hl : lv_has ls 4 [(0, .ref (a 0)), (1, .int x), (2, .int h)] := hl
  refine lv_aload_n hx hb dX3_displacement_0 rfl (lv_at hl 0 rfl) ?_
  refine lv_iload_n hx hb dX3_displacement_1 rfl (lv_at hl 1 rfl) ?_
  refine rd_callV (As := [.int x]) (rest := []) ⟨hx, hb, hml, hown, hts⟩ (c_svO l G C a σ κ hx_) (cwV 1 hts gX3_displacement_X3_surveyAt rfl rfl rfl (by decide +kernel) ⟨Nat.le_of_ble_eq_true rfl, Nat.le_of_ble_eq_true rfl⟩) hK hN hP (0) 3 wX_e0 rfl rfl rfl hl.1 rfl (Nat.le_of_ble_eq_true rfl) dX3_displacement_2 ⟨Nat.zero_le _, Nat.zero_le _⟩ ?_
  refine lv_astore_nN (lv' := [(3, .null), (0, .ref (a 0)), (1, .int x), (2, .int h)]) hx hb dX3_displacement_5 rfl hl (by decide) rfl (fun ls hl => ?_)
  refine lv_aload_nN hx hb dX3_displacement_6 rfl (lv_at hl 0 rfl) ?_
  refine lv_ifnonnullN hx hb dX3_displacement_7 ?_
  refine lv_ldc2 (v := (-9000000000000000001)) hx hb hown (hts (.constantLong RX3 96 (-9000000000000000001)) (by decide +kernel)) dX3_displacement_10 ?_
  exact rd_lret hx hb hr hlocks (rfl) dX3_displacement_13

theorem c_disp (l : Launch) (G : va_G) (C : Nat → ClassId) (a : Nat → Nat) (σ : SG) (κ : KX) (hn : g_n σ ≤ 10) (x h : Int32) : RdC l yX3_displacement wsX3_displacement ({ frames := 4, cells := 0, slots := 0, locals := 120 } : Room) G (tysC C) (wX C a σ κ) [.ref (a 0), .int x, .int h] (.long (aDisp σ x h)) := by
  by_cases g : inS x 4
  · obtain ⟨j, hj, rfl⟩ := inS_nI g
    rw [show aDisp σ (nI j) h = (if ¬ h < -1000 ∧ ¬ 1000 < h then tDisp σ j h.toInt64 else OOR) from by unfold aDisp; rw [if_pos g, cl4 hj]]
    exact c_disp_i l G C a σ κ hn hj h
  · rw [show aDisp σ x h = NO_S from if_neg g]
    exact c_disp_o l G C a σ κ hn g h
theorem c_disp_k (l : Launch) (G : va_G) (C : Nat → ClassId) (a : Nat → Nat) (σ : SG) (κ : KX) (hn : g_n σ ≤ 10) {j : Nat} (hj : j < 4) {h : Int32} {h2 : Int64} (e : ¬ h < -1000 ∧ ¬ 1000 < h) (e2 : h.toInt64 = h2) : RdC l yX3_displacement wsX3_displacement ({ frames := 4, cells := 0, slots := 0, locals := 120 } : Room) G (tysC C) (wX C a σ κ) [.ref (a 0), .int (nI j), .int h] (.long (tDisp σ j h2)) := by
  have q := c_disp_i l G C a σ κ hn hj h
  rw [if_pos e, e2] at q
  exact q

set_option maxHeartbeats 4000000 in
set_option maxRecDepth 100000 in
theorem c_read_ii (l : Launch) (G : va_G) (C : Nat → ClassId) (a : Nat → Nat) (σ : SG) (κ : KX) {j : Nat} (hj : j < 4) {m_ : Nat} (hm : m_ < 6) : RdC l yX3_reading wsX3_reading ({ frames := 1, cells := 0, slots := 0, locals := 21 } : Room) G (tysC C) (wX C a σ κ) [.ref (a 0), .int (nI j), .int (nI m_)] (.long (g_rd σ (6 * j + m_))) := by
  refine Met.ofW (cc := cX3_reading) (maxL := 4) (ret := (some .long)) (by decide) rfl ?_
  intro p e s m args below meth c s₁ B hml hv
  obtain ⟨rfl, hP, hK, hN⟩ := hv
  have hx := B.exec
  have hb := B.bytes
  have hr := B.returns
  have hts := atoms_spec (ws := wsX3_reading) B.pre
  have hown : s.vm.findClass RX3 = some m.cls := findClass_of_methodNamed B.named
  have hlocks := B.notSynchronized
  have hX1 : ∀ w ∈ wsX10, w ∈ wsX3_reading := by decide +kernel
  have hP : va_P G vwCl (wX C a σ κ) s.heap := hP
  have hl := lv_entry ([.ref (a 0), .int (nI j), .int (nI m_)]) (n := 4) (Nat.le_of_ble_eq_true rfl)
  rw [lg_entry_eq]
  generalize (lg_sl ([.ref (a 0), .int (nI j), .int (nI m_)]) ++ List.replicate (4 - (lg_sl ([.ref (a 0), .int (nI j), .int (nI m_)])).length) Slot.unset).toArray = ls at hl ⊢
  have hl : lv_has ls 4 [(0, .ref (a 0)), (1, .int (nI j)), (2, .int (nI m_))] := hl
  refine lv_aload_n hx hb dX3_reading_0 rfl (lv_at hl 0 rfl) ?_
  refine lv_iload_n hx hb dX3_reading_1 rfl (lv_at hl 1 rfl) ?_
  refine rd_callV (As := [.int (nI j)]) (rest := []) ⟨hx, hb, hml, hown, hts⟩ (c_svI l G C a σ κ (j := j) hj) (cwV 1 hts gX3_reading_X3_surveyAt rfl rfl rfl (by decide +kernel) ⟨Nat.le_of_ble_eq_true rfl, Nat.le_of_ble_eq_true rfl⟩) hK hN hP (0) 3 wX_e0 rfl rfl rfl hl.1 rfl (Nat.le_of_ble_eq_true rfl) dX3_reading_2 ⟨Nat.zero_le _, Nat.zero_le _⟩ ?_
  refine lv_astore_n (lv' := [(3, .ref (a (7 + 3 * j))), (0, .ref (a 0)), (1, .int (nI j)), (2, .int (nI m_))]) hx hb dX3_reading_5 rfl hl (by decide) rfl (fun ls hl => ?_)
  refine lv_aload_n hx hb dX3_reading_6 rfl (lv_at hl 0 rfl) ?_
  refine lv_ifnonnull (tgt := 14) hx hb dX3_reading_7 (by decide) ?_
  refine lv_iload_n hx hb dX3_reading_14 rfl (lv_at hl 3 rfl) ?_
  refine lv_if_lt (tgt := 24) hx hb dX3_reading_15 (by decide) (fun c_1 => ?_) (fun c_1 => ?_)
  · skip
    have c_1 : m_ < 0 := (nI_ltI (a := m_) (b := 0) (by omega) (by omega)).mp c_1
    exact (show False by omega).elim
  · skip
    have c_1 : ¬ m_ < 0 := fun z9 => c_1 ((nI_ltI (a := m_) (b := 0) (by omega) (by omega)).mpr z9)
    refine lv_iload_n hx hb dX3_reading_18 rfl (lv_at hl 3 rfl) ?_
    refine lv_bipush (v := 6) hx hb dX3_reading_19 (by decide) ?_
    refine lv_icmp_lt (tgt := 28) hx hb dX3_reading_21 (by decide) (fun c_2 => ?_) (fun c_2 => ?_)
    · skip
      have c_2 : m_ < 6 := (nI_ltI (a := m_) (b := 6) (by omega) (by omega)).mp c_2
      refine lv_aload_n hx hb dX3_reading_28 rfl (lv_at hl 0 rfl) ?_
      refine va_getN (D := G) (ci := 1) (v := .ref (a (8 + 3 * j))) (C := RX1) (T := TX1) (N := 3) hx hb hts hX1 hown hK hP (7 + 3 * j) (wX_sv hj) rfl 0 (by decide) (va_Nw.use rfl hN.2.1) (fun _ h9 => h9) rfl dX3_reading_29 ?_
      refine lv_iload_n hx hb dX3_reading_32 rfl (lv_at hl 3 rfl) ?_
      refine ar_l (k := m_) (v := g_rd σ (6 * j + m_)) hx hb hK hP (8 + 3 * j) 1 (wX_rd hj) rfl rfl (by omega) (by decide) (slc_at (by omega)) dX3_reading_33 ?_
      exact rd_lret hx hb hr hlocks (rfl) dX3_reading_34
    · skip
      have c_2 : ¬ m_ < 6 := fun z9 => c_2 ((nI_ltI (a := m_) (b := 6) (by omega) (by omega)).mpr z9)
      exact (show False by omega).elim

set_option maxHeartbeats 4000000 in
set_option maxRecDepth 100000 in
theorem c_read_io (l : Launch) (G : va_G) (C : Nat → ClassId) (a : Nat → Nat) (σ : SG) (κ : KX) {j : Nat} (hj : j < 4) {y : Int32} (hy_ : ¬ inS y 6) : RdC l yX3_reading wsX3_reading ({ frames := 1, cells := 0, slots := 0, locals := 21 } : Room) G (tysC C) (wX C a σ κ) [.ref (a 0), .int (nI j), .int y] (.long NO_I) := by
  refine Met.ofW (cc := cX3_reading) (maxL := 4) (ret := (some .long)) (by decide) rfl ?_
  intro p e s m args below meth c s₁ B hml hv
  obtain ⟨rfl, hP, hK, hN⟩ := hv
  have hx := B.exec
  have hb := B.bytes
  have hr := B.returns
  have hts := atoms_spec (ws := wsX3_reading) B.pre
  have hown : s.vm.findClass RX3 = some m.cls := findClass_of_methodNamed B.named
  have hlocks := B.notSynchronized
  have hP : va_P G vwCl (wX C a σ κ) s.heap := hP
  have hl := lv_entry ([.ref (a 0), .int (nI j), .int y]) (n := 4) (Nat.le_of_ble_eq_true rfl)
  rw [lg_entry_eq]
  generalize (lg_sl ([.ref (a 0), .int (nI j), .int y]) ++ List.replicate (4 - (lg_sl ([.ref (a 0), .int (nI j), .int y])).length) Slot.unset).toArray = ls at hl ⊢
  have hl : lv_has ls 4 [(0, .ref (a 0)), (1, .int (nI j)), (2, .int y)] := hl
  refine lv_aload_n hx hb dX3_reading_0 rfl (lv_at hl 0 rfl) ?_
  refine lv_iload_n hx hb dX3_reading_1 rfl (lv_at hl 1 rfl) ?_
  refine rd_callV (As := [.int (nI j)]) (rest := []) ⟨hx, hb, hml, hown, hts⟩ (c_svI l G C a σ κ (j := j) hj) (cwV 1 hts gX3_reading_X3_surveyAt rfl rfl rfl (by decide +kernel) ⟨Nat.le_of_ble_eq_true rfl, Nat.le_of_ble_eq_true rfl⟩) hK hN hP (0) 3 wX_e0 rfl rfl rfl hl.1 rfl (Nat.le_of_ble_eq_true rfl) dX3_reading_2 ⟨Nat.zero_le _, Nat.zero_le _⟩ ?_
  refine lv_astore_n (lv' := [(3, .ref (a (7 + 3 * j))), (0, .ref (a 0)), (1, .int (nI j)), (2, .int y)]) hx hb dX3_reading_5 rfl hl (by decide) rfl (fun ls hl => ?_)
  refine lv_aload_n hx hb dX3_reading_6 rfl (lv_at hl 0 rfl) ?_
  refine lv_ifnonnull (tgt := 14) hx hb dX3_reading_7 (by decide) ?_
  refine lv_iload_n hx hb dX3_reading_14 rfl (lv_at hl 3 rfl) ?_
  refine lv_if_lt (tgt := 24) hx hb dX3_reading_15 (by decide) (fun c_1 => ?_) (fun c_1 => ?_)
  · skip
    refine lv_ldc2 (v := (-9000000000000000002)) hx hb hown (hts (.constantLong RX3 81 (-9000000000000000002)) (by decide +kernel)) dX3_reading_24 ?_
    exact rd_lret hx hb hr hlocks (rfl) dX3_reading_27
  · skip
    refine lv_iload_n hx hb dX3_reading_18 rfl (lv_at hl 3 rfl) ?_
    refine lv_bipush (v := 6) hx hb dX3_reading_19 (by decide) ?_
    refine lv_icmp_lt (tgt := 28) hx hb dX3_reading_21 (by decide) (fun c_2 => ?_) (fun c_2 => ?_)
    · skip
      exact absurd ⟨c_1, c_2⟩ hy_
    · skip
      refine lv_ldc2 (v := (-9000000000000000002)) hx hb hown (hts (.constantLong RX3 81 (-9000000000000000002)) (by decide +kernel)) dX3_reading_24 ?_
      exact rd_lret hx hb hr hlocks (rfl) dX3_reading_27

set_option maxHeartbeats 4000000 in
set_option maxRecDepth 100000 in
theorem c_read_o (l : Launch) (G : va_G) (C : Nat → ClassId) (a : Nat → Nat) (σ : SG) (κ : KX) {x : Int32} (hx_ : ¬ inS x 4) (y : Int32) : RdC l yX3_reading wsX3_reading ({ frames := 1, cells := 0, slots := 0, locals := 21 } : Room) G (tysC C) (wX C a σ κ) [.ref (a 0), .int x, .int y] (.long NO_S) := by
  refine Met.ofW (cc := cX3_reading) (maxL := 4) (ret := (some .long)) (by decide) rfl ?_
  intro p e s m args below meth c s₁ B hml hv
  obtain ⟨rfl, hP, hK, hN⟩ := hv
  have hx := B.exec
  have hb := B.bytes
  have hr := B.returns
  have hts := atoms_spec (ws := wsX3_reading) B.pre
  have hown : s.vm.findClass RX3 = some m.cls := findClass_of_methodNamed B.named
  have hlocks := B.notSynchronized
  have hP : va_P G vwCl (wX C a σ κ) s.heap := hP
  have hl := lv_entry ([.ref (a 0), .int x, .int y]) (n := 4) (Nat.le_of_ble_eq_true rfl)
  rw [lg_entry_eq]
  generalize (lg_sl ([.ref (a 0), .int x, .int y]) ++ List.replicate (4 - (lg_sl ([.ref (a 0), .int x, .int y])).length) Slot.unset).toArray = ls at hl ⊢
  have hl : lv_has ls 4 [(0, .ref (a 0)), (1, .int x), (2, .int y)] := hl
  refine lv_aload_n hx hb dX3_reading_0 rfl (lv_at hl 0 rfl) ?_
  refine lv_iload_n hx hb dX3_reading_1 rfl (lv_at hl 1 rfl) ?_
  refine rd_callV (As := [.int x]) (rest := []) ⟨hx, hb, hml, hown, hts⟩ (c_svO l G C a σ κ hx_) (cwV 1 hts gX3_reading_X3_surveyAt rfl rfl rfl (by decide +kernel) ⟨Nat.le_of_ble_eq_true rfl, Nat.le_of_ble_eq_true rfl⟩) hK hN hP (0) 3 wX_e0 rfl rfl rfl hl.1 rfl (Nat.le_of_ble_eq_true rfl) dX3_reading_2 ⟨Nat.zero_le _, Nat.zero_le _⟩ ?_
  refine lv_astore_nN (lv' := [(3, .null), (0, .ref (a 0)), (1, .int x), (2, .int y)]) hx hb dX3_reading_5 rfl hl (by decide) rfl (fun ls hl => ?_)
  refine lv_aload_nN hx hb dX3_reading_6 rfl (lv_at hl 0 rfl) ?_
  refine lv_ifnonnullN hx hb dX3_reading_7 ?_
  refine lv_ldc2 (v := (-9000000000000000001)) hx hb hown (hts (.constantLong RX3 96 (-9000000000000000001)) (by decide +kernel)) dX3_reading_10 ?_
  exact rd_lret hx hb hr hlocks (rfl) dX3_reading_13

theorem c_read (l : Launch) (G : va_G) (C : Nat → ClassId) (a : Nat → Nat) (σ : SG) (κ : KX) (x y : Int32) : RdC l yX3_reading wsX3_reading ({ frames := 1, cells := 0, slots := 0, locals := 21 } : Room) G (tysC C) (wX C a σ κ) [.ref (a 0), .int x, .int y] (.long (aRead σ x y)) := by
  by_cases g : inS x 4
  · obtain ⟨j, hj, rfl⟩ := inS_nI g
    by_cases k : inS y 6
    · obtain ⟨i, hi, rfl⟩ := inS_nI6 k
      rw [show aRead σ (nI j) (nI i) = g_rd σ (6 * j + i) from by unfold aRead; rw [if_pos g, if_pos k, cl4 hj, cl6 hi]]
      exact c_read_ii l G C a σ κ hj hi
    · rw [show aRead σ (nI j) y = NO_I from by unfold aRead; rw [if_pos g, if_neg k]]
      exact c_read_io l G C a σ κ hj k
  · rw [show aRead σ x y = NO_S from if_neg g]
    exact c_read_o l G C a σ κ g y

set_option maxHeartbeats 4000000 in
set_option maxRecDepth 100000 in
theorem c_cargo_ii (l : Launch) (G : va_G) (C : Nat → ClassId) (a : Nat → Nat) (σ : SG) (κ : KX) (hn : g_n σ ≤ 10) {i j : Nat} (hi : i < 4) (hj : j < 4) : RdC l yX3_cargo wsX3_cargo ({ frames := 5, cells := 0, slots := 0, locals := 143 } : Room) G (tysC C) (wX C a σ κ) [.ref (a 0), .int (nI i), .int (nI j)] (.long (tCargo σ i j)) := by
  refine Met.ofW (cc := cX3_cargo) (maxL := 5) (ret := (some .long)) (by decide) rfl ?_
  intro p e s m args below meth c s₁ B hml hv
  obtain ⟨rfl, hP, hK, hN⟩ := hv
  have hx := B.exec
  have hb := B.bytes
  have hr := B.returns
  have hts := atoms_spec (ws := wsX3_cargo) B.pre
  have hown : s.vm.findClass RX3 = some m.cls := findClass_of_methodNamed B.named
  have hlocks := B.notSynchronized
  have hP : va_P G vwCl (wX C a σ κ) s.heap := hP
  have hl := lv_entry ([.ref (a 0), .int (nI i), .int (nI j)]) (n := 5) (Nat.le_of_ble_eq_true rfl)
  rw [lg_entry_eq]
  generalize (lg_sl ([.ref (a 0), .int (nI i), .int (nI j)]) ++ List.replicate (5 - (lg_sl ([.ref (a 0), .int (nI i), .int (nI j)])).length) Slot.unset).toArray = ls at hl ⊢
  have hl : lv_has ls 5 [(0, .ref (a 0)), (1, .int (nI i)), (2, .int (nI j))] := hl
  refine lv_aload_n hx hb dX3_cargo_0 rfl (lv_at hl 0 rfl) ?_
  refine lv_iload_n hx hb dX3_cargo_1 rfl (lv_at hl 1 rfl) ?_
  refine rd_callV (As := [.int (nI i)]) (rest := []) ⟨hx, hb, hml, hown, hts⟩ (c_svI l G C a σ κ (j := i) (by omega)) (cwV 1 hts gX3_cargo_X3_surveyAt rfl rfl rfl (by decide +kernel) ⟨Nat.le_of_ble_eq_true rfl, Nat.le_of_ble_eq_true rfl⟩) hK hN hP (0) 3 wX_e0 rfl rfl rfl hl.1 rfl (Nat.le_of_ble_eq_true rfl) dX3_cargo_2 ⟨Nat.zero_le _, Nat.zero_le _⟩ ?_
  refine lv_astore_n (lv' := [(3, .ref (a (7 + 3 * i))), (0, .ref (a 0)), (1, .int (nI i)), (2, .int (nI j))]) hx hb dX3_cargo_5 rfl hl (by decide) rfl (fun ls hl => ?_)
  refine lv_aload_n hx hb dX3_cargo_6 rfl (lv_at hl 1 rfl) ?_
  refine lv_iload_n hx hb dX3_cargo_7 rfl (lv_at hl 3 rfl) ?_
  refine rd_callV (As := [.int (nI j)]) (rest := []) ⟨hx, hb, hml, hown, hts⟩ (c_svI l G C a σ κ (j := j) hj) (cwV 1 hts gX3_cargo_X3_surveyAt rfl rfl rfl (by decide +kernel) ⟨Nat.le_of_ble_eq_true rfl, Nat.le_of_ble_eq_true rfl⟩) hK hN hP (0) 3 wX_e0 rfl rfl rfl hl.1 rfl (Nat.le_of_ble_eq_true rfl) dX3_cargo_8 ⟨Nat.zero_le _, Nat.zero_le _⟩ ?_
  refine lv_astore (lv' := [(4, .ref (a (7 + 3 * j))), (3, .ref (a (7 + 3 * i))), (0, .ref (a 0)), (1, .int (nI i)), (2, .int (nI j))]) hx hb dX3_cargo_11 hl (by decide) rfl (fun ls hl => ?_)
  refine lv_aload_n hx hb dX3_cargo_13 rfl (lv_at hl 1 rfl) ?_
  refine lv_ifnull hx hb dX3_cargo_14 ?_
  refine lv_aload hx hb dX3_cargo_17 (lv_at hl 0 rfl) ?_
  refine lv_ifnonnull (tgt := 26) hx hb dX3_cargo_19 (by decide) ?_
  refine lv_aload_n hx hb dX3_cargo_26 rfl (lv_at hl 2 rfl) ?_
  refine lv_aload_n hx hb dX3_cargo_27 rfl (lv_at hl 1 rfl) ?_
  refine lv_lconst (v := 0) hx hb dX3_cargo_28 (by decide) ?_
  refine rd_callV (As := [.ref (a (7 + 3 * i)), .long 0]) (rest := []) ⟨hx, hb, hml, hown, hts⟩ (c_can l G C a σ κ hn (j := i) (by omega) 0) (cwV 2 hts gX3_cargo_X3_canCompute rfl rfl rfl (by decide +kernel) ⟨Nat.le_of_ble_eq_true rfl, Nat.le_of_ble_eq_true rfl⟩) hK hN hP (0) 3 wX_e0 rfl rfl rfl hl.1 rfl (Nat.le_of_ble_eq_true rfl) dX3_cargo_29 ⟨Nat.zero_le _, Nat.zero_le _⟩ ?_
  refine br_beq (tgt := 45) hx hb dX3_cargo_32 (by decide) (fun c_1 => ?_) (fun c_1 => ?_)
  · skip
    refine lv_ldc2 (v := (-9000000000000000007)) hx hb hown (hts (.constantLong RX3 126 (-9000000000000000007)) (by decide +kernel)) dX3_cargo_45 ?_
    exact rd_lret hx hb hr hlocks (congrArg Value.long (if_neg (fun q => c_1 q.1)).symm) dX3_cargo_48
  · skip
    refine lv_aload_n hx hb dX3_cargo_35 rfl (lv_at hl 2 rfl) ?_
    refine lv_aload hx hb dX3_cargo_36 (lv_at hl 0 rfl) ?_
    refine lv_lconst (v := 0) hx hb dX3_cargo_38 (by decide) ?_
    refine rd_callV (As := [.ref (a (7 + 3 * j)), .long 0]) (rest := []) ⟨hx, hb, hml, hown, hts⟩ (c_can l G C a σ κ hn (j := j) hj 0) (cwV 2 hts gX3_cargo_X3_canCompute rfl rfl rfl (by decide +kernel) ⟨Nat.le_of_ble_eq_true rfl, Nat.le_of_ble_eq_true rfl⟩) hK hN hP (0) 3 wX_e0 rfl rfl rfl hl.1 rfl (Nat.le_of_ble_eq_true rfl) dX3_cargo_39 ⟨Nat.zero_le _, Nat.zero_le _⟩ ?_
    refine br_bne (tgt := 49) hx hb dX3_cargo_42 (by decide) (fun c_2 => ?_) (fun c_2 => ?_)
    · skip
      refine lv_aload_n hx hb dX3_cargo_49 rfl (lv_at hl 2 rfl) ?_
      refine lv_aload hx hb dX3_cargo_50 (lv_at hl 0 rfl) ?_
      refine lv_lconst (v := 0) hx hb dX3_cargo_52 (by decide) ?_
      refine rd_callV (As := [.ref (a (7 + 3 * j)), .long 0]) (rest := []) ⟨hx, hb, hml, hown, hts⟩ (c_netO l G C a σ κ hn c_2.1 (j := j) hj 0) (cwV 2 hts gX3_cargo_X3_netWeightOf rfl rfl rfl (by decide +kernel) ⟨Nat.le_of_ble_eq_true rfl, Nat.le_of_ble_eq_true rfl⟩) hK hN hP (0) 3 wX_e0 rfl rfl rfl hl.1 rfl (Nat.le_of_ble_eq_true rfl) dX3_cargo_53 ⟨Nat.zero_le _, Nat.zero_le _⟩ ?_
      refine lv_aload_n hx hb dX3_cargo_56 rfl (lv_at hl 2 rfl) ?_
      refine lv_aload_n hx hb dX3_cargo_57 rfl (lv_at hl 1 rfl) ?_
      refine lv_lconst (v := 0) hx hb dX3_cargo_58 (by decide) ?_
      refine rd_callV (As := [.ref (a (7 + 3 * i)), .long 0]) (rest := [.long (nw σ j 0)]) ⟨hx, hb, hml, hown, hts⟩ (c_netO l G C a σ κ hn c_2.1 (j := i) (by omega) 0) (cwV 2 hts gX3_cargo_X3_netWeightOf rfl rfl rfl (by decide +kernel) ⟨Nat.le_of_ble_eq_true rfl, Nat.le_of_ble_eq_true rfl⟩) hK hN hP (0) 3 wX_e0 rfl rfl rfl hl.1 rfl (Nat.le_of_ble_eq_true rfl) dX3_cargo_59 ⟨Nat.zero_le _, Nat.zero_le _⟩ ?_
      refine lv_lsub hx hb dX3_cargo_62 ?_
      exact rd_lret hx hb hr hlocks (congrArg Value.long (if_pos ⟨c_1, c_2⟩).symm) dX3_cargo_63
    · skip
      refine lv_ldc2 (v := (-9000000000000000007)) hx hb hown (hts (.constantLong RX3 126 (-9000000000000000007)) (by decide +kernel)) dX3_cargo_45 ?_
      exact rd_lret hx hb hr hlocks (congrArg Value.long (if_neg (fun q => c_2 q.2)).symm) dX3_cargo_48

set_option maxHeartbeats 4000000 in
set_option maxRecDepth 100000 in
theorem c_cargo_oi (l : Launch) (G : va_G) (C : Nat → ClassId) (a : Nat → Nat) (σ : SG) (κ : KX) (hn : g_n σ ≤ 10) {x : Int32} (hx_ : ¬ inS x 4) {j : Nat} (hj : j < 4) : RdC l yX3_cargo wsX3_cargo ({ frames := 5, cells := 0, slots := 0, locals := 143 } : Room) G (tysC C) (wX C a σ κ) [.ref (a 0), .int x, .int (nI j)] (.long NO_S) := by
  refine Met.ofW (cc := cX3_cargo) (maxL := 5) (ret := (some .long)) (by decide) rfl ?_
  intro p e s m args below meth c s₁ B hml hv
  obtain ⟨rfl, hP, hK, hN⟩ := hv
  have hx := B.exec
  have hb := B.bytes
  have hr := B.returns
  have hts := atoms_spec (ws := wsX3_cargo) B.pre
  have hown : s.vm.findClass RX3 = some m.cls := findClass_of_methodNamed B.named
  have hlocks := B.notSynchronized
  have hP : va_P G vwCl (wX C a σ κ) s.heap := hP
  have hl := lv_entry ([.ref (a 0), .int x, .int (nI j)]) (n := 5) (Nat.le_of_ble_eq_true rfl)
  rw [lg_entry_eq]
  generalize (lg_sl ([.ref (a 0), .int x, .int (nI j)]) ++ List.replicate (5 - (lg_sl ([.ref (a 0), .int x, .int (nI j)])).length) Slot.unset).toArray = ls at hl ⊢
  have hl : lv_has ls 5 [(0, .ref (a 0)), (1, .int x), (2, .int (nI j))] := hl
  refine lv_aload_n hx hb dX3_cargo_0 rfl (lv_at hl 0 rfl) ?_
  refine lv_iload_n hx hb dX3_cargo_1 rfl (lv_at hl 1 rfl) ?_
  refine rd_callV (As := [.int x]) (rest := []) ⟨hx, hb, hml, hown, hts⟩ (c_svO l G C a σ κ hx_) (cwV 1 hts gX3_cargo_X3_surveyAt rfl rfl rfl (by decide +kernel) ⟨Nat.le_of_ble_eq_true rfl, Nat.le_of_ble_eq_true rfl⟩) hK hN hP (0) 3 wX_e0 rfl rfl rfl hl.1 rfl (Nat.le_of_ble_eq_true rfl) dX3_cargo_2 ⟨Nat.zero_le _, Nat.zero_le _⟩ ?_
  refine lv_astore_nN (lv' := [(3, .null), (0, .ref (a 0)), (1, .int x), (2, .int (nI j))]) hx hb dX3_cargo_5 rfl hl (by decide) rfl (fun ls hl => ?_)
  refine lv_aload_n hx hb dX3_cargo_6 rfl (lv_at hl 1 rfl) ?_
  refine lv_iload_n hx hb dX3_cargo_7 rfl (lv_at hl 3 rfl) ?_
  refine rd_callV (As := [.int (nI j)]) (rest := []) ⟨hx, hb, hml, hown, hts⟩ (c_svI l G C a σ κ (j := j) hj) (cwV 1 hts gX3_cargo_X3_surveyAt rfl rfl rfl (by decide +kernel) ⟨Nat.le_of_ble_eq_true rfl, Nat.le_of_ble_eq_true rfl⟩) hK hN hP (0) 3 wX_e0 rfl rfl rfl hl.1 rfl (Nat.le_of_ble_eq_true rfl) dX3_cargo_8 ⟨Nat.zero_le _, Nat.zero_le _⟩ ?_
  refine lv_astore (lv' := [(4, .ref (a (7 + 3 * j))), (3, .null), (0, .ref (a 0)), (1, .int x), (2, .int (nI j))]) hx hb dX3_cargo_11 hl (by decide) rfl (fun ls hl => ?_)
  refine lv_aload_nN hx hb dX3_cargo_13 rfl (lv_at hl 1 rfl) ?_
  refine lv_ifnullN (tgt := 22) hx hb dX3_cargo_14 (by decide) ?_
  refine lv_ldc2 (v := (-9000000000000000001)) hx hb hown (hts (.constantLong RX3 96 (-9000000000000000001)) (by decide +kernel)) dX3_cargo_22 ?_
  exact rd_lret hx hb hr hlocks (rfl) dX3_cargo_25

set_option maxHeartbeats 4000000 in
set_option maxRecDepth 100000 in
theorem c_cargo_io (l : Launch) (G : va_G) (C : Nat → ClassId) (a : Nat → Nat) (σ : SG) (κ : KX) (hn : g_n σ ≤ 10) {i : Nat} (hi : i < 4) {y : Int32} (hy_ : ¬ inS y 4) : RdC l yX3_cargo wsX3_cargo ({ frames := 5, cells := 0, slots := 0, locals := 143 } : Room) G (tysC C) (wX C a σ κ) [.ref (a 0), .int (nI i), .int y] (.long NO_S) := by
  refine Met.ofW (cc := cX3_cargo) (maxL := 5) (ret := (some .long)) (by decide) rfl ?_
  intro p e s m args below meth c s₁ B hml hv
  obtain ⟨rfl, hP, hK, hN⟩ := hv
  have hx := B.exec
  have hb := B.bytes
  have hr := B.returns
  have hts := atoms_spec (ws := wsX3_cargo) B.pre
  have hown : s.vm.findClass RX3 = some m.cls := findClass_of_methodNamed B.named
  have hlocks := B.notSynchronized
  have hP : va_P G vwCl (wX C a σ κ) s.heap := hP
  have hl := lv_entry ([.ref (a 0), .int (nI i), .int y]) (n := 5) (Nat.le_of_ble_eq_true rfl)
  rw [lg_entry_eq]
  generalize (lg_sl ([.ref (a 0), .int (nI i), .int y]) ++ List.replicate (5 - (lg_sl ([.ref (a 0), .int (nI i), .int y])).length) Slot.unset).toArray = ls at hl ⊢
  have hl : lv_has ls 5 [(0, .ref (a 0)), (1, .int (nI i)), (2, .int y)] := hl
  refine lv_aload_n hx hb dX3_cargo_0 rfl (lv_at hl 0 rfl) ?_
  refine lv_iload_n hx hb dX3_cargo_1 rfl (lv_at hl 1 rfl) ?_
  refine rd_callV (As := [.int (nI i)]) (rest := []) ⟨hx, hb, hml, hown, hts⟩ (c_svI l G C a σ κ (j := i) (by omega)) (cwV 1 hts gX3_cargo_X3_surveyAt rfl rfl rfl (by decide +kernel) ⟨Nat.le_of_ble_eq_true rfl, Nat.le_of_ble_eq_true rfl⟩) hK hN hP (0) 3 wX_e0 rfl rfl rfl hl.1 rfl (Nat.le_of_ble_eq_true rfl) dX3_cargo_2 ⟨Nat.zero_le _, Nat.zero_le _⟩ ?_
  refine lv_astore_n (lv' := [(3, .ref (a (7 + 3 * i))), (0, .ref (a 0)), (1, .int (nI i)), (2, .int y)]) hx hb dX3_cargo_5 rfl hl (by decide) rfl (fun ls hl => ?_)
  refine lv_aload_n hx hb dX3_cargo_6 rfl (lv_at hl 1 rfl) ?_
  refine lv_iload_n hx hb dX3_cargo_7 rfl (lv_at hl 3 rfl) ?_
  refine rd_callV (As := [.int y]) (rest := []) ⟨hx, hb, hml, hown, hts⟩ (c_svO l G C a σ κ hy_) (cwV 1 hts gX3_cargo_X3_surveyAt rfl rfl rfl (by decide +kernel) ⟨Nat.le_of_ble_eq_true rfl, Nat.le_of_ble_eq_true rfl⟩) hK hN hP (0) 3 wX_e0 rfl rfl rfl hl.1 rfl (Nat.le_of_ble_eq_true rfl) dX3_cargo_8 ⟨Nat.zero_le _, Nat.zero_le _⟩ ?_
  refine lv_astoreN (lv' := [(4, .null), (3, .ref (a (7 + 3 * i))), (0, .ref (a 0)), (1, .int (nI i)), (2, .int y)]) hx hb dX3_cargo_11 hl (by decide) rfl (fun ls hl => ?_)
  refine lv_aload_n hx hb dX3_cargo_13 rfl (lv_at hl 1 rfl) ?_
  refine lv_ifnull hx hb dX3_cargo_14 ?_
  refine lv_aloadN hx hb dX3_cargo_17 (lv_at hl 0 rfl) ?_
  refine lv_ifnonnullN hx hb dX3_cargo_19 ?_
  refine lv_ldc2 (v := (-9000000000000000001)) hx hb hown (hts (.constantLong RX3 96 (-9000000000000000001)) (by decide +kernel)) dX3_cargo_22 ?_
  exact rd_lret hx hb hr hlocks (rfl) dX3_cargo_25

set_option maxHeartbeats 4000000 in
set_option maxRecDepth 100000 in
theorem c_cargo_oo (l : Launch) (G : va_G) (C : Nat → ClassId) (a : Nat → Nat) (σ : SG) (κ : KX) (hn : g_n σ ≤ 10) {x y : Int32} (hx_ : ¬ inS x 4) (hy_ : ¬ inS y 4) : RdC l yX3_cargo wsX3_cargo ({ frames := 5, cells := 0, slots := 0, locals := 143 } : Room) G (tysC C) (wX C a σ κ) [.ref (a 0), .int x, .int y] (.long NO_S) := by
  refine Met.ofW (cc := cX3_cargo) (maxL := 5) (ret := (some .long)) (by decide) rfl ?_
  intro p e s m args below meth c s₁ B hml hv
  obtain ⟨rfl, hP, hK, hN⟩ := hv
  have hx := B.exec
  have hb := B.bytes
  have hr := B.returns
  have hts := atoms_spec (ws := wsX3_cargo) B.pre
  have hown : s.vm.findClass RX3 = some m.cls := findClass_of_methodNamed B.named
  have hlocks := B.notSynchronized
  have hP : va_P G vwCl (wX C a σ κ) s.heap := hP
  have hl := lv_entry ([.ref (a 0), .int x, .int y]) (n := 5) (Nat.le_of_ble_eq_true rfl)
  rw [lg_entry_eq]
  generalize (lg_sl ([.ref (a 0), .int x, .int y]) ++ List.replicate (5 - (lg_sl ([.ref (a 0), .int x, .int y])).length) Slot.unset).toArray = ls at hl ⊢
  have hl : lv_has ls 5 [(0, .ref (a 0)), (1, .int x), (2, .int y)] := hl
  refine lv_aload_n hx hb dX3_cargo_0 rfl (lv_at hl 0 rfl) ?_
  refine lv_iload_n hx hb dX3_cargo_1 rfl (lv_at hl 1 rfl) ?_
  refine rd_callV (As := [.int x]) (rest := []) ⟨hx, hb, hml, hown, hts⟩ (c_svO l G C a σ κ hx_) (cwV 1 hts gX3_cargo_X3_surveyAt rfl rfl rfl (by decide +kernel) ⟨Nat.le_of_ble_eq_true rfl, Nat.le_of_ble_eq_true rfl⟩) hK hN hP (0) 3 wX_e0 rfl rfl rfl hl.1 rfl (Nat.le_of_ble_eq_true rfl) dX3_cargo_2 ⟨Nat.zero_le _, Nat.zero_le _⟩ ?_
  refine lv_astore_nN (lv' := [(3, .null), (0, .ref (a 0)), (1, .int x), (2, .int y)]) hx hb dX3_cargo_5 rfl hl (by decide) rfl (fun ls hl => ?_)
  refine lv_aload_n hx hb dX3_cargo_6 rfl (lv_at hl 1 rfl) ?_
  refine lv_iload_n hx hb dX3_cargo_7 rfl (lv_at hl 3 rfl) ?_
  refine rd_callV (As := [.int y]) (rest := []) ⟨hx, hb, hml, hown, hts⟩ (c_svO l G C a σ κ hy_) (cwV 1 hts gX3_cargo_X3_surveyAt rfl rfl rfl (by decide +kernel) ⟨Nat.le_of_ble_eq_true rfl, Nat.le_of_ble_eq_true rfl⟩) hK hN hP (0) 3 wX_e0 rfl rfl rfl hl.1 rfl (Nat.le_of_ble_eq_true rfl) dX3_cargo_8 ⟨Nat.zero_le _, Nat.zero_le _⟩ ?_
  refine lv_astoreN (lv' := [(4, .null), (3, .null), (0, .ref (a 0)), (1, .int x), (2, .int y)]) hx hb dX3_cargo_11 hl (by decide) rfl (fun ls hl => ?_)
  refine lv_aload_nN hx hb dX3_cargo_13 rfl (lv_at hl 1 rfl) ?_
  refine lv_ifnullN (tgt := 22) hx hb dX3_cargo_14 (by decide) ?_
  refine lv_ldc2 (v := (-9000000000000000001)) hx hb hown (hts (.constantLong RX3 96 (-9000000000000000001)) (by decide +kernel)) dX3_cargo_22 ?_
  exact rd_lret hx hb hr hlocks (rfl) dX3_cargo_25

theorem c_cargo (l : Launch) (G : va_G) (C : Nat → ClassId) (a : Nat → Nat) (σ : SG) (κ : KX) (hn : g_n σ ≤ 10) (x y : Int32) : RdC l yX3_cargo wsX3_cargo ({ frames := 5, cells := 0, slots := 0, locals := 143 } : Room) G (tysC C) (wX C a σ κ) [.ref (a 0), .int x, .int y] (.long (aCargo σ x y)) := by
  by_cases g : inS x 4
  · obtain ⟨i, hi, rfl⟩ := inS_nI g
    by_cases k : inS y 4
    · obtain ⟨j, hj, rfl⟩ := inS_nI k
      rw [show aCargo σ (nI i) (nI j) = tCargo σ i j from by unfold aCargo; rw [if_pos ⟨g, k⟩, cl4 hi, cl4 hj]]
      exact c_cargo_ii l G C a σ κ hn hi hj
    · rw [show aCargo σ (nI i) y = NO_S from if_neg (fun q => k q.2)]
      exact c_cargo_io l G C a σ κ hn hi k
  · rw [show aCargo σ x y = NO_S from if_neg (fun q => g q.1)]
    by_cases k : inS y 4
    · obtain ⟨j, hj, rfl⟩ := inS_nI k
      exact c_cargo_oi l G C a σ κ hn g hj
    · exact c_cargo_oo l G C a σ κ hn g k

set_option maxHeartbeats 4000000 in
set_option maxRecDepth 100000 in
theorem c_low_ii (l : Launch) (G : va_G) (C : Nat → ClassId) (a : Nat → Nat) (σ : SG) (κ : KX) (hn : g_n σ ≤ 10) {i j : Nat} (hi : i < 4) (hj : j < 4) : RdC l yX3_cargoLow wsX3_cargoLow ({ frames := 6, cells := 0, slots := 0, locals := 164 } : Room) G (tysC C) (wX C a σ κ) [.ref (a 0), .int (nI i), .int (nI j)] (.long (tLow σ i j)) := by
  refine Met.ofW (cc := cX3_cargoLow) (maxL := 5) (ret := (some .long)) (by decide) rfl ?_
  intro p e s m args below meth c s₁ B hml hv
  obtain ⟨rfl, hP, hK, hN⟩ := hv
  have hx := B.exec
  have hb := B.bytes
  have hr := B.returns
  have hts := atoms_spec (ws := wsX3_cargoLow) B.pre
  have hown : s.vm.findClass RX3 = some m.cls := findClass_of_methodNamed B.named
  have hlocks := B.notSynchronized
  have hP : va_P G vwCl (wX C a σ κ) s.heap := hP
  have hl := lv_entry ([.ref (a 0), .int (nI i), .int (nI j)]) (n := 5) (Nat.le_of_ble_eq_true rfl)
  rw [lg_entry_eq]
  generalize (lg_sl ([.ref (a 0), .int (nI i), .int (nI j)]) ++ List.replicate (5 - (lg_sl ([.ref (a 0), .int (nI i), .int (nI j)])).length) Slot.unset).toArray = ls at hl ⊢
  have hl : lv_has ls 5 [(0, .ref (a 0)), (1, .int (nI i)), (2, .int (nI j))] := hl
  refine lv_aload_n hx hb dX3_cargoLow_0 rfl (lv_at hl 0 rfl) ?_
  refine lv_iload_n hx hb dX3_cargoLow_1 rfl (lv_at hl 1 rfl) ?_
  refine rd_callV (As := [.int (nI i)]) (rest := []) ⟨hx, hb, hml, hown, hts⟩ (c_svI l G C a σ κ (j := i) (by omega)) (cwV 1 hts gX3_cargoLow_X3_surveyAt rfl rfl rfl (by decide +kernel) ⟨Nat.le_of_ble_eq_true rfl, Nat.le_of_ble_eq_true rfl⟩) hK hN hP (0) 3 wX_e0 rfl rfl rfl hl.1 rfl (Nat.le_of_ble_eq_true rfl) dX3_cargoLow_2 ⟨Nat.zero_le _, Nat.zero_le _⟩ ?_
  refine lv_astore_n (lv' := [(3, .ref (a (7 + 3 * i))), (0, .ref (a 0)), (1, .int (nI i)), (2, .int (nI j))]) hx hb dX3_cargoLow_5 rfl hl (by decide) rfl (fun ls hl => ?_)
  refine lv_aload_n hx hb dX3_cargoLow_6 rfl (lv_at hl 1 rfl) ?_
  refine lv_iload_n hx hb dX3_cargoLow_7 rfl (lv_at hl 3 rfl) ?_
  refine rd_callV (As := [.int (nI j)]) (rest := []) ⟨hx, hb, hml, hown, hts⟩ (c_svI l G C a σ κ (j := j) hj) (cwV 1 hts gX3_cargoLow_X3_surveyAt rfl rfl rfl (by decide +kernel) ⟨Nat.le_of_ble_eq_true rfl, Nat.le_of_ble_eq_true rfl⟩) hK hN hP (0) 3 wX_e0 rfl rfl rfl hl.1 rfl (Nat.le_of_ble_eq_true rfl) dX3_cargoLow_8 ⟨Nat.zero_le _, Nat.zero_le _⟩ ?_
  refine lv_astore (lv' := [(4, .ref (a (7 + 3 * j))), (3, .ref (a (7 + 3 * i))), (0, .ref (a 0)), (1, .int (nI i)), (2, .int (nI j))]) hx hb dX3_cargoLow_11 hl (by decide) rfl (fun ls hl => ?_)
  refine lv_aload_n hx hb dX3_cargoLow_13 rfl (lv_at hl 1 rfl) ?_
  refine lv_ifnull hx hb dX3_cargoLow_14 ?_
  refine lv_aload hx hb dX3_cargoLow_17 (lv_at hl 0 rfl) ?_
  refine lv_ifnonnull (tgt := 26) hx hb dX3_cargoLow_19 (by decide) ?_
  refine lv_aload_n hx hb dX3_cargoLow_26 rfl (lv_at hl 2 rfl) ?_
  refine lv_aload_n hx hb dX3_cargoLow_27 rfl (lv_at hl 1 rfl) ?_
  refine rd_callV (As := [.ref (a (7 + 3 * i))]) (rest := []) ⟨hx, hb, hml, hown, hts⟩ (c_canM l G C a σ κ hn (j := i) (by omega)) (cwV 1 hts gX3_cargoLow_X3_canComputeMargins rfl rfl rfl (by decide +kernel) ⟨Nat.le_of_ble_eq_true rfl, Nat.le_of_ble_eq_true rfl⟩) hK hN hP (0) 3 wX_e0 rfl rfl rfl hl.1 rfl (Nat.le_of_ble_eq_true rfl) dX3_cargoLow_28 ⟨Nat.zero_le _, Nat.zero_le _⟩ ?_
  refine br_beq (tgt := 43) hx hb dX3_cargoLow_31 (by decide) (fun c_1 => ?_) (fun c_1 => ?_)
  · skip
    refine lv_ldc2 (v := (-9000000000000000007)) hx hb hown (hts (.constantLong RX3 126 (-9000000000000000007)) (by decide +kernel)) dX3_cargoLow_43 ?_
    exact rd_lret hx hb hr hlocks (congrArg Value.long (if_neg (fun q => c_1 q.1)).symm) dX3_cargoLow_46
  · skip
    refine lv_aload_n hx hb dX3_cargoLow_34 rfl (lv_at hl 2 rfl) ?_
    refine lv_aload hx hb dX3_cargoLow_35 (lv_at hl 0 rfl) ?_
    refine rd_callV (As := [.ref (a (7 + 3 * j))]) (rest := []) ⟨hx, hb, hml, hown, hts⟩ (c_canM l G C a σ κ hn (j := j) hj) (cwV 1 hts gX3_cargoLow_X3_canComputeMargins rfl rfl rfl (by decide +kernel) ⟨Nat.le_of_ble_eq_true rfl, Nat.le_of_ble_eq_true rfl⟩) hK hN hP (0) 3 wX_e0 rfl rfl rfl hl.1 rfl (Nat.le_of_ble_eq_true rfl) dX3_cargoLow_37 ⟨Nat.zero_le _, Nat.zero_le _⟩ ?_
    refine br_bne (tgt := 47) hx hb dX3_cargoLow_40 (by decide) (fun c_2 => ?_) (fun c_2 => ?_)
    · skip
      refine lv_aload_n hx hb dX3_cargoLow_47 rfl (lv_at hl 2 rfl) ?_
      refine lv_aload hx hb dX3_cargoLow_48 (lv_at hl 0 rfl) ?_
      refine rd_callV (As := [.ref (a (7 + 3 * j))]) (rest := []) ⟨hx, hb, hml, hown, hts⟩ (c_light l G C a σ κ hn c_2.1.1 (j := j) hj) (cwV 1 hts gX3_cargoLow_X3_lightWeight rfl rfl rfl (by decide +kernel) ⟨Nat.le_of_ble_eq_true rfl, Nat.le_of_ble_eq_true rfl⟩) hK hN hP (0) 3 wX_e0 rfl rfl rfl hl.1 rfl (Nat.le_of_ble_eq_true rfl) dX3_cargoLow_50 ⟨Nat.zero_le _, Nat.zero_le _⟩ ?_
      refine lv_aload_n hx hb dX3_cargoLow_53 rfl (lv_at hl 2 rfl) ?_
      refine lv_aload_n hx hb dX3_cargoLow_54 rfl (lv_at hl 1 rfl) ?_
      refine rd_callV (As := [.ref (a (7 + 3 * i))]) (rest := [.long (li σ j)]) ⟨hx, hb, hml, hown, hts⟩ (c_heavy l G C a σ κ hn c_2.1.1 (j := i) (by omega)) (cwV 1 hts gX3_cargoLow_X3_heavyWeight rfl rfl rfl (by decide +kernel) ⟨Nat.le_of_ble_eq_true rfl, Nat.le_of_ble_eq_true rfl⟩) hK hN hP (0) 3 wX_e0 rfl rfl rfl hl.1 rfl (Nat.le_of_ble_eq_true rfl) dX3_cargoLow_55 ⟨Nat.zero_le _, Nat.zero_le _⟩ ?_
      refine lv_lsub hx hb dX3_cargoLow_58 ?_
      exact rd_lret hx hb hr hlocks (congrArg Value.long (if_pos ⟨c_1, c_2⟩).symm) dX3_cargoLow_59
    · skip
      refine lv_ldc2 (v := (-9000000000000000007)) hx hb hown (hts (.constantLong RX3 126 (-9000000000000000007)) (by decide +kernel)) dX3_cargoLow_43 ?_
      exact rd_lret hx hb hr hlocks (congrArg Value.long (if_neg (fun q => c_2 q.2)).symm) dX3_cargoLow_46

set_option maxHeartbeats 4000000 in
set_option maxRecDepth 100000 in
theorem c_low_oi (l : Launch) (G : va_G) (C : Nat → ClassId) (a : Nat → Nat) (σ : SG) (κ : KX) (hn : g_n σ ≤ 10) {x : Int32} (hx_ : ¬ inS x 4) {j : Nat} (hj : j < 4) : RdC l yX3_cargoLow wsX3_cargoLow ({ frames := 6, cells := 0, slots := 0, locals := 164 } : Room) G (tysC C) (wX C a σ κ) [.ref (a 0), .int x, .int (nI j)] (.long NO_S) := by
  refine Met.ofW (cc := cX3_cargoLow) (maxL := 5) (ret := (some .long)) (by decide) rfl ?_
  intro p e s m args below meth c s₁ B hml hv
  obtain ⟨rfl, hP, hK, hN⟩ := hv
  have hx := B.exec
  have hb := B.bytes
  have hr := B.returns
  have hts := atoms_spec (ws := wsX3_cargoLow) B.pre
  have hown : s.vm.findClass RX3 = some m.cls := findClass_of_methodNamed B.named
  have hlocks := B.notSynchronized
  have hP : va_P G vwCl (wX C a σ κ) s.heap := hP
  have hl := lv_entry ([.ref (a 0), .int x, .int (nI j)]) (n := 5) (Nat.le_of_ble_eq_true rfl)
  rw [lg_entry_eq]
  generalize (lg_sl ([.ref (a 0), .int x, .int (nI j)]) ++ List.replicate (5 - (lg_sl ([.ref (a 0), .int x, .int (nI j)])).length) Slot.unset).toArray = ls at hl ⊢
  have hl : lv_has ls 5 [(0, .ref (a 0)), (1, .int x), (2, .int (nI j))] := hl
  refine lv_aload_n hx hb dX3_cargoLow_0 rfl (lv_at hl 0 rfl) ?_
  refine lv_iload_n hx hb dX3_cargoLow_1 rfl (lv_at hl 1 rfl) ?_
  refine rd_callV (As := [.int x]) (rest := []) ⟨hx, hb, hml, hown, hts⟩ (c_svO l G C a σ κ hx_) (cwV 1 hts gX3_cargoLow_X3_surveyAt rfl rfl rfl (by decide +kernel) ⟨Nat.le_of_ble_eq_true rfl, Nat.le_of_ble_eq_true rfl⟩) hK hN hP (0) 3 wX_e0 rfl rfl rfl hl.1 rfl (Nat.le_of_ble_eq_true rfl) dX3_cargoLow_2 ⟨Nat.zero_le _, Nat.zero_le _⟩ ?_
  refine lv_astore_nN (lv' := [(3, .null), (0, .ref (a 0)), (1, .int x), (2, .int (nI j))]) hx hb dX3_cargoLow_5 rfl hl (by decide) rfl (fun ls hl => ?_)
  refine lv_aload_n hx hb dX3_cargoLow_6 rfl (lv_at hl 1 rfl) ?_
  refine lv_iload_n hx hb dX3_cargoLow_7 rfl (lv_at hl 3 rfl) ?_
  refine rd_callV (As := [.int (nI j)]) (rest := []) ⟨hx, hb, hml, hown, hts⟩ (c_svI l G C a σ κ (j := j) hj) (cwV 1 hts gX3_cargoLow_X3_surveyAt rfl rfl rfl (by decide +kernel) ⟨Nat.le_of_ble_eq_true rfl, Nat.le_of_ble_eq_true rfl⟩) hK hN hP (0) 3 wX_e0 rfl rfl rfl hl.1 rfl (Nat.le_of_ble_eq_true rfl) dX3_cargoLow_8 ⟨Nat.zero_le _, Nat.zero_le _⟩ ?_
  refine lv_astore (lv' := [(4, .ref (a (7 + 3 * j))), (3, .null), (0, .ref (a 0)), (1, .int x), (2, .int (nI j))]) hx hb dX3_cargoLow_11 hl (by decide) rfl (fun ls hl => ?_)
  refine lv_aload_nN hx hb dX3_cargoLow_13 rfl (lv_at hl 1 rfl) ?_
  refine lv_ifnullN (tgt := 22) hx hb dX3_cargoLow_14 (by decide) ?_
  refine lv_ldc2 (v := (-9000000000000000001)) hx hb hown (hts (.constantLong RX3 96 (-9000000000000000001)) (by decide +kernel)) dX3_cargoLow_22 ?_
  exact rd_lret hx hb hr hlocks (rfl) dX3_cargoLow_25

set_option maxHeartbeats 4000000 in
set_option maxRecDepth 100000 in
theorem c_low_io (l : Launch) (G : va_G) (C : Nat → ClassId) (a : Nat → Nat) (σ : SG) (κ : KX) (hn : g_n σ ≤ 10) {i : Nat} (hi : i < 4) {y : Int32} (hy_ : ¬ inS y 4) : RdC l yX3_cargoLow wsX3_cargoLow ({ frames := 6, cells := 0, slots := 0, locals := 164 } : Room) G (tysC C) (wX C a σ κ) [.ref (a 0), .int (nI i), .int y] (.long NO_S) := by
  refine Met.ofW (cc := cX3_cargoLow) (maxL := 5) (ret := (some .long)) (by decide) rfl ?_
  intro p e s m args below meth c s₁ B hml hv
  obtain ⟨rfl, hP, hK, hN⟩ := hv
  have hx := B.exec
  have hb := B.bytes
  have hr := B.returns
  have hts := atoms_spec (ws := wsX3_cargoLow) B.pre
  have hown : s.vm.findClass RX3 = some m.cls := findClass_of_methodNamed B.named
  have hlocks := B.notSynchronized
  have hP : va_P G vwCl (wX C a σ κ) s.heap := hP
  have hl := lv_entry ([.ref (a 0), .int (nI i), .int y]) (n := 5) (Nat.le_of_ble_eq_true rfl)
  rw [lg_entry_eq]
  generalize (lg_sl ([.ref (a 0), .int (nI i), .int y]) ++ List.replicate (5 - (lg_sl ([.ref (a 0), .int (nI i), .int y])).length) Slot.unset).toArray = ls at hl ⊢
  have hl : lv_has ls 5 [(0, .ref (a 0)), (1, .int (nI i)), (2, .int y)] := hl
  refine lv_aload_n hx hb dX3_cargoLow_0 rfl (lv_at hl 0 rfl) ?_
  refine lv_iload_n hx hb dX3_cargoLow_1 rfl (lv_at hl 1 rfl) ?_
  refine rd_callV (As := [.int (nI i)]) (rest := []) ⟨hx, hb, hml, hown, hts⟩ (c_svI l G C a σ κ (j := i) (by omega)) (cwV 1 hts gX3_cargoLow_X3_surveyAt rfl rfl rfl (by decide +kernel) ⟨Nat.le_of_ble_eq_true rfl, Nat.le_of_ble_eq_true rfl⟩) hK hN hP (0) 3 wX_e0 rfl rfl rfl hl.1 rfl (Nat.le_of_ble_eq_true rfl) dX3_cargoLow_2 ⟨Nat.zero_le _, Nat.zero_le _⟩ ?_
  refine lv_astore_n (lv' := [(3, .ref (a (7 + 3 * i))), (0, .ref (a 0)), (1, .int (nI i)), (2, .int y)]) hx hb dX3_cargoLow_5 rfl hl (by decide) rfl (fun ls hl => ?_)
  refine lv_aload_n hx hb dX3_cargoLow_6 rfl (lv_at hl 1 rfl) ?_
  refine lv_iload_n hx hb dX3_cargoLow_7 rfl (lv_at hl 3 rfl) ?_
  refine rd_callV (As := [.int y]) (rest := []) ⟨hx, hb, hml, hown, hts⟩ (c_svO l G C a σ κ hy_) (cwV 1 hts gX3_cargoLow_X3_surveyAt rfl rfl rfl (by decide +kernel) ⟨Nat.le_of_ble_eq_true rfl, Nat.le_of_ble_eq_true rfl⟩) hK hN hP (0) 3 wX_e0 rfl rfl rfl hl.1 rfl (Nat.le_of_ble_eq_true rfl) dX3_cargoLow_8 ⟨Nat.zero_le _, Nat.zero_le _⟩ ?_
  refine lv_astoreN (lv' := [(4, .null), (3, .ref (a (7 + 3 * i))), (0, .ref (a 0)), (1, .int (nI i)), (2, .int y)]) hx hb dX3_cargoLow_11 hl (by decide) rfl (fun ls hl => ?_)
  refine lv_aload_n hx hb dX3_cargoLow_13 rfl (lv_at hl 1 rfl) ?_
  refine lv_ifnull hx hb dX3_cargoLow_14 ?_
  refine lv_aloadN hx hb dX3_cargoLow_17 (lv_at hl 0 rfl) ?_
  refine lv_ifnonnullN hx hb dX3_cargoLow_19 ?_
  refine lv_ldc2 (v := (-9000000000000000001)) hx hb hown (hts (.constantLong RX3 96 (-9000000000000000001)) (by decide +kernel)) dX3_cargoLow_22 ?_
  exact rd_lret hx hb hr hlocks (rfl) dX3_cargoLow_25

set_option maxHeartbeats 4000000 in
set_option maxRecDepth 100000 in
theorem c_low_oo (l : Launch) (G : va_G) (C : Nat → ClassId) (a : Nat → Nat) (σ : SG) (κ : KX) (hn : g_n σ ≤ 10) {x y : Int32} (hx_ : ¬ inS x 4) (hy_ : ¬ inS y 4) : RdC l yX3_cargoLow wsX3_cargoLow ({ frames := 6, cells := 0, slots := 0, locals := 164 } : Room) G (tysC C) (wX C a σ κ) [.ref (a 0), .int x, .int y] (.long NO_S) := by
  refine Met.ofW (cc := cX3_cargoLow) (maxL := 5) (ret := (some .long)) (by decide) rfl ?_
  intro p e s m args below meth c s₁ B hml hv
  obtain ⟨rfl, hP, hK, hN⟩ := hv
  have hx := B.exec
  have hb := B.bytes
  have hr := B.returns
  have hts := atoms_spec (ws := wsX3_cargoLow) B.pre
  have hown : s.vm.findClass RX3 = some m.cls := findClass_of_methodNamed B.named
  have hlocks := B.notSynchronized
  have hP : va_P G vwCl (wX C a σ κ) s.heap := hP
  have hl := lv_entry ([.ref (a 0), .int x, .int y]) (n := 5) (Nat.le_of_ble_eq_true rfl)
  rw [lg_entry_eq]
  generalize (lg_sl ([.ref (a 0), .int x, .int y]) ++ List.replicate (5 - (lg_sl ([.ref (a 0), .int x, .int y])).length) Slot.unset).toArray = ls at hl ⊢
  have hl : lv_has ls 5 [(0, .ref (a 0)), (1, .int x), (2, .int y)] := hl
  refine lv_aload_n hx hb dX3_cargoLow_0 rfl (lv_at hl 0 rfl) ?_
  refine lv_iload_n hx hb dX3_cargoLow_1 rfl (lv_at hl 1 rfl) ?_
  refine rd_callV (As := [.int x]) (rest := []) ⟨hx, hb, hml, hown, hts⟩ (c_svO l G C a σ κ hx_) (cwV 1 hts gX3_cargoLow_X3_surveyAt rfl rfl rfl (by decide +kernel) ⟨Nat.le_of_ble_eq_true rfl, Nat.le_of_ble_eq_true rfl⟩) hK hN hP (0) 3 wX_e0 rfl rfl rfl hl.1 rfl (Nat.le_of_ble_eq_true rfl) dX3_cargoLow_2 ⟨Nat.zero_le _, Nat.zero_le _⟩ ?_
  refine lv_astore_nN (lv' := [(3, .null), (0, .ref (a 0)), (1, .int x), (2, .int y)]) hx hb dX3_cargoLow_5 rfl hl (by decide) rfl (fun ls hl => ?_)
  refine lv_aload_n hx hb dX3_cargoLow_6 rfl (lv_at hl 1 rfl) ?_
  refine lv_iload_n hx hb dX3_cargoLow_7 rfl (lv_at hl 3 rfl) ?_
  refine rd_callV (As := [.int y]) (rest := []) ⟨hx, hb, hml, hown, hts⟩ (c_svO l G C a σ κ hy_) (cwV 1 hts gX3_cargoLow_X3_surveyAt rfl rfl rfl (by decide +kernel) ⟨Nat.le_of_ble_eq_true rfl, Nat.le_of_ble_eq_true rfl⟩) hK hN hP (0) 3 wX_e0 rfl rfl rfl hl.1 rfl (Nat.le_of_ble_eq_true rfl) dX3_cargoLow_8 ⟨Nat.zero_le _, Nat.zero_le _⟩ ?_
  refine lv_astoreN (lv' := [(4, .null), (3, .null), (0, .ref (a 0)), (1, .int x), (2, .int y)]) hx hb dX3_cargoLow_11 hl (by decide) rfl (fun ls hl => ?_)
  refine lv_aload_nN hx hb dX3_cargoLow_13 rfl (lv_at hl 1 rfl) ?_
  refine lv_ifnullN (tgt := 22) hx hb dX3_cargoLow_14 (by decide) ?_
  refine lv_ldc2 (v := (-9000000000000000001)) hx hb hown (hts (.constantLong RX3 96 (-9000000000000000001)) (by decide +kernel)) dX3_cargoLow_22 ?_
  exact rd_lret hx hb hr hlocks (rfl) dX3_cargoLow_25

theorem c_low (l : Launch) (G : va_G) (C : Nat → ClassId) (a : Nat → Nat) (σ : SG) (κ : KX) (hn : g_n σ ≤ 10) (x y : Int32) : RdC l yX3_cargoLow wsX3_cargoLow ({ frames := 6, cells := 0, slots := 0, locals := 164 } : Room) G (tysC C) (wX C a σ κ) [.ref (a 0), .int x, .int y] (.long (aLow σ x y)) := by
  by_cases g : inS x 4
  · obtain ⟨i, hi, rfl⟩ := inS_nI g
    by_cases k : inS y 4
    · obtain ⟨j, hj, rfl⟩ := inS_nI k
      rw [show aLow σ (nI i) (nI j) = tLow σ i j from by unfold aLow; rw [if_pos ⟨g, k⟩, cl4 hi, cl4 hj]]
      exact c_low_ii l G C a σ κ hn hi hj
    · rw [show aLow σ (nI i) y = NO_S from if_neg (fun q => k q.2)]
      exact c_low_io l G C a σ κ hn hi k
  · rw [show aLow σ x y = NO_S from if_neg (fun q => g q.1)]
    by_cases k : inS y 4
    · obtain ⟨j, hj, rfl⟩ := inS_nI k
      exact c_low_oi l G C a σ κ hn g hj
    · exact c_low_oo l G C a σ κ hn g k

set_option maxHeartbeats 4000000 in
set_option maxRecDepth 100000 in
theorem c_high_ii (l : Launch) (G : va_G) (C : Nat → ClassId) (a : Nat → Nat) (σ : SG) (κ : KX) (hn : g_n σ ≤ 10) {i j : Nat} (hi : i < 4) (hj : j < 4) : RdC l yX3_cargoHigh wsX3_cargoHigh ({ frames := 6, cells := 0, slots := 0, locals := 164 } : Room) G (tysC C) (wX C a σ κ) [.ref (a 0), .int (nI i), .int (nI j)] (.long (tHigh σ i j)) := by
  refine Met.ofW (cc := cX3_cargoHigh) (maxL := 5) (ret := (some .long)) (by decide) rfl ?_
  intro p e s m args below meth c s₁ B hml hv
  obtain ⟨rfl, hP, hK, hN⟩ := hv
  have hx := B.exec
  have hb := B.bytes
  have hr := B.returns
  have hts := atoms_spec (ws := wsX3_cargoHigh) B.pre
  have hown : s.vm.findClass RX3 = some m.cls := findClass_of_methodNamed B.named
  have hlocks := B.notSynchronized
  have hP : va_P G vwCl (wX C a σ κ) s.heap := hP
  have hl := lv_entry ([.ref (a 0), .int (nI i), .int (nI j)]) (n := 5) (Nat.le_of_ble_eq_true rfl)
  rw [lg_entry_eq]
  generalize (lg_sl ([.ref (a 0), .int (nI i), .int (nI j)]) ++ List.replicate (5 - (lg_sl ([.ref (a 0), .int (nI i), .int (nI j)])).length) Slot.unset).toArray = ls at hl ⊢
  have hl : lv_has ls 5 [(0, .ref (a 0)), (1, .int (nI i)), (2, .int (nI j))] := hl
  refine lv_aload_n hx hb dX3_cargoHigh_0 rfl (lv_at hl 0 rfl) ?_
  refine lv_iload_n hx hb dX3_cargoHigh_1 rfl (lv_at hl 1 rfl) ?_
  refine rd_callV (As := [.int (nI i)]) (rest := []) ⟨hx, hb, hml, hown, hts⟩ (c_svI l G C a σ κ (j := i) (by omega)) (cwV 1 hts gX3_cargoHigh_X3_surveyAt rfl rfl rfl (by decide +kernel) ⟨Nat.le_of_ble_eq_true rfl, Nat.le_of_ble_eq_true rfl⟩) hK hN hP (0) 3 wX_e0 rfl rfl rfl hl.1 rfl (Nat.le_of_ble_eq_true rfl) dX3_cargoHigh_2 ⟨Nat.zero_le _, Nat.zero_le _⟩ ?_
  refine lv_astore_n (lv' := [(3, .ref (a (7 + 3 * i))), (0, .ref (a 0)), (1, .int (nI i)), (2, .int (nI j))]) hx hb dX3_cargoHigh_5 rfl hl (by decide) rfl (fun ls hl => ?_)
  refine lv_aload_n hx hb dX3_cargoHigh_6 rfl (lv_at hl 1 rfl) ?_
  refine lv_iload_n hx hb dX3_cargoHigh_7 rfl (lv_at hl 3 rfl) ?_
  refine rd_callV (As := [.int (nI j)]) (rest := []) ⟨hx, hb, hml, hown, hts⟩ (c_svI l G C a σ κ (j := j) hj) (cwV 1 hts gX3_cargoHigh_X3_surveyAt rfl rfl rfl (by decide +kernel) ⟨Nat.le_of_ble_eq_true rfl, Nat.le_of_ble_eq_true rfl⟩) hK hN hP (0) 3 wX_e0 rfl rfl rfl hl.1 rfl (Nat.le_of_ble_eq_true rfl) dX3_cargoHigh_8 ⟨Nat.zero_le _, Nat.zero_le _⟩ ?_
  refine lv_astore (lv' := [(4, .ref (a (7 + 3 * j))), (3, .ref (a (7 + 3 * i))), (0, .ref (a 0)), (1, .int (nI i)), (2, .int (nI j))]) hx hb dX3_cargoHigh_11 hl (by decide) rfl (fun ls hl => ?_)
  refine lv_aload_n hx hb dX3_cargoHigh_13 rfl (lv_at hl 1 rfl) ?_
  refine lv_ifnull hx hb dX3_cargoHigh_14 ?_
  refine lv_aload hx hb dX3_cargoHigh_17 (lv_at hl 0 rfl) ?_
  refine lv_ifnonnull (tgt := 26) hx hb dX3_cargoHigh_19 (by decide) ?_
  refine lv_aload_n hx hb dX3_cargoHigh_26 rfl (lv_at hl 2 rfl) ?_
  refine lv_aload_n hx hb dX3_cargoHigh_27 rfl (lv_at hl 1 rfl) ?_
  refine rd_callV (As := [.ref (a (7 + 3 * i))]) (rest := []) ⟨hx, hb, hml, hown, hts⟩ (c_canM l G C a σ κ hn (j := i) (by omega)) (cwV 1 hts gX3_cargoHigh_X3_canComputeMargins rfl rfl rfl (by decide +kernel) ⟨Nat.le_of_ble_eq_true rfl, Nat.le_of_ble_eq_true rfl⟩) hK hN hP (0) 3 wX_e0 rfl rfl rfl hl.1 rfl (Nat.le_of_ble_eq_true rfl) dX3_cargoHigh_28 ⟨Nat.zero_le _, Nat.zero_le _⟩ ?_
  refine br_beq (tgt := 43) hx hb dX3_cargoHigh_31 (by decide) (fun c_1 => ?_) (fun c_1 => ?_)
  · skip
    refine lv_ldc2 (v := (-9000000000000000007)) hx hb hown (hts (.constantLong RX3 126 (-9000000000000000007)) (by decide +kernel)) dX3_cargoHigh_43 ?_
    exact rd_lret hx hb hr hlocks (congrArg Value.long (if_neg (fun q => c_1 q.1)).symm) dX3_cargoHigh_46
  · skip
    refine lv_aload_n hx hb dX3_cargoHigh_34 rfl (lv_at hl 2 rfl) ?_
    refine lv_aload hx hb dX3_cargoHigh_35 (lv_at hl 0 rfl) ?_
    refine rd_callV (As := [.ref (a (7 + 3 * j))]) (rest := []) ⟨hx, hb, hml, hown, hts⟩ (c_canM l G C a σ κ hn (j := j) hj) (cwV 1 hts gX3_cargoHigh_X3_canComputeMargins rfl rfl rfl (by decide +kernel) ⟨Nat.le_of_ble_eq_true rfl, Nat.le_of_ble_eq_true rfl⟩) hK hN hP (0) 3 wX_e0 rfl rfl rfl hl.1 rfl (Nat.le_of_ble_eq_true rfl) dX3_cargoHigh_37 ⟨Nat.zero_le _, Nat.zero_le _⟩ ?_
    refine br_bne (tgt := 47) hx hb dX3_cargoHigh_40 (by decide) (fun c_2 => ?_) (fun c_2 => ?_)
    · skip
      refine lv_aload_n hx hb dX3_cargoHigh_47 rfl (lv_at hl 2 rfl) ?_
      refine lv_aload hx hb dX3_cargoHigh_48 (lv_at hl 0 rfl) ?_
      refine rd_callV (As := [.ref (a (7 + 3 * j))]) (rest := []) ⟨hx, hb, hml, hown, hts⟩ (c_heavy l G C a σ κ hn c_2.1.1 (j := j) hj) (cwV 1 hts gX3_cargoHigh_X3_heavyWeight rfl rfl rfl (by decide +kernel) ⟨Nat.le_of_ble_eq_true rfl, Nat.le_of_ble_eq_true rfl⟩) hK hN hP (0) 3 wX_e0 rfl rfl rfl hl.1 rfl (Nat.le_of_ble_eq_true rfl) dX3_cargoHigh_50 ⟨Nat.zero_le _, Nat.zero_le _⟩ ?_
      refine lv_aload_n hx hb dX3_cargoHigh_53 rfl (lv_at hl 2 rfl) ?_
      refine lv_aload_n hx hb dX3_cargoHigh_54 rfl (lv_at hl 1 rfl) ?_
      refine rd_callV (As := [.ref (a (7 + 3 * i))]) (rest := [.long (he σ j)]) ⟨hx, hb, hml, hown, hts⟩ (c_light l G C a σ κ hn c_2.1.1 (j := i) (by omega)) (cwV 1 hts gX3_cargoHigh_X3_lightWeight rfl rfl rfl (by decide +kernel) ⟨Nat.le_of_ble_eq_true rfl, Nat.le_of_ble_eq_true rfl⟩) hK hN hP (0) 3 wX_e0 rfl rfl rfl hl.1 rfl (Nat.le_of_ble_eq_true rfl) dX3_cargoHigh_55 ⟨Nat.zero_le _, Nat.zero_le _⟩ ?_
      refine lv_lsub hx hb dX3_cargoHigh_58 ?_
      exact rd_lret hx hb hr hlocks (congrArg Value.long (if_pos ⟨c_1, c_2⟩).symm) dX3_cargoHigh_59
    · skip
      refine lv_ldc2 (v := (-9000000000000000007)) hx hb hown (hts (.constantLong RX3 126 (-9000000000000000007)) (by decide +kernel)) dX3_cargoHigh_43 ?_
      exact rd_lret hx hb hr hlocks (congrArg Value.long (if_neg (fun q => c_2 q.2)).symm) dX3_cargoHigh_46

set_option maxHeartbeats 4000000 in
set_option maxRecDepth 100000 in
theorem c_high_oi (l : Launch) (G : va_G) (C : Nat → ClassId) (a : Nat → Nat) (σ : SG) (κ : KX) (hn : g_n σ ≤ 10) {x : Int32} (hx_ : ¬ inS x 4) {j : Nat} (hj : j < 4) : RdC l yX3_cargoHigh wsX3_cargoHigh ({ frames := 6, cells := 0, slots := 0, locals := 164 } : Room) G (tysC C) (wX C a σ κ) [.ref (a 0), .int x, .int (nI j)] (.long NO_S) := by
  refine Met.ofW (cc := cX3_cargoHigh) (maxL := 5) (ret := (some .long)) (by decide) rfl ?_
  intro p e s m args below meth c s₁ B hml hv
  obtain ⟨rfl, hP, hK, hN⟩ := hv
  have hx := B.exec
  have hb := B.bytes
  have hr := B.returns
  have hts := atoms_spec (ws := wsX3_cargoHigh) B.pre
  have hown : s.vm.findClass RX3 = some m.cls := findClass_of_methodNamed B.named
  have hlocks := B.notSynchronized
  have hP : va_P G vwCl (wX C a σ κ) s.heap := hP
  have hl := lv_entry ([.ref (a 0), .int x, .int (nI j)]) (n := 5) (Nat.le_of_ble_eq_true rfl)
  rw [lg_entry_eq]
  generalize (lg_sl ([.ref (a 0), .int x, .int (nI j)]) ++ List.replicate (5 - (lg_sl ([.ref (a 0), .int x, .int (nI j)])).length) Slot.unset).toArray = ls at hl ⊢
  have hl : lv_has ls 5 [(0, .ref (a 0)), (1, .int x), (2, .int (nI j))] := hl
  refine lv_aload_n hx hb dX3_cargoHigh_0 rfl (lv_at hl 0 rfl) ?_
  refine lv_iload_n hx hb dX3_cargoHigh_1 rfl (lv_at hl 1 rfl) ?_
  refine rd_callV (As := [.int x]) (rest := []) ⟨hx, hb, hml, hown, hts⟩ (c_svO l G C a σ κ hx_) (cwV 1 hts gX3_cargoHigh_X3_surveyAt rfl rfl rfl (by decide +kernel) ⟨Nat.le_of_ble_eq_true rfl, Nat.le_of_ble_eq_true rfl⟩) hK hN hP (0) 3 wX_e0 rfl rfl rfl hl.1 rfl (Nat.le_of_ble_eq_true rfl) dX3_cargoHigh_2 ⟨Nat.zero_le _, Nat.zero_le _⟩ ?_
  refine lv_astore_nN (lv' := [(3, .null), (0, .ref (a 0)), (1, .int x), (2, .int (nI j))]) hx hb dX3_cargoHigh_5 rfl hl (by decide) rfl (fun ls hl => ?_)
  refine lv_aload_n hx hb dX3_cargoHigh_6 rfl (lv_at hl 1 rfl) ?_
  refine lv_iload_n hx hb dX3_cargoHigh_7 rfl (lv_at hl 3 rfl) ?_
  refine rd_callV (As := [.int (nI j)]) (rest := []) ⟨hx, hb, hml, hown, hts⟩ (c_svI l G C a σ κ (j := j) hj) (cwV 1 hts gX3_cargoHigh_X3_surveyAt rfl rfl rfl (by decide +kernel) ⟨Nat.le_of_ble_eq_true rfl, Nat.le_of_ble_eq_true rfl⟩) hK hN hP (0) 3 wX_e0 rfl rfl rfl hl.1 rfl (Nat.le_of_ble_eq_true rfl) dX3_cargoHigh_8 ⟨Nat.zero_le _, Nat.zero_le _⟩ ?_
  refine lv_astore (lv' := [(4, .ref (a (7 + 3 * j))), (3, .null), (0, .ref (a 0)), (1, .int x), (2, .int (nI j))]) hx hb dX3_cargoHigh_11 hl (by decide) rfl (fun ls hl => ?_)
  refine lv_aload_nN hx hb dX3_cargoHigh_13 rfl (lv_at hl 1 rfl) ?_
  refine lv_ifnullN (tgt := 22) hx hb dX3_cargoHigh_14 (by decide) ?_
  refine lv_ldc2 (v := (-9000000000000000001)) hx hb hown (hts (.constantLong RX3 96 (-9000000000000000001)) (by decide +kernel)) dX3_cargoHigh_22 ?_
  exact rd_lret hx hb hr hlocks (rfl) dX3_cargoHigh_25

set_option maxHeartbeats 4000000 in
set_option maxRecDepth 100000 in
theorem c_high_io (l : Launch) (G : va_G) (C : Nat → ClassId) (a : Nat → Nat) (σ : SG) (κ : KX) (hn : g_n σ ≤ 10) {i : Nat} (hi : i < 4) {y : Int32} (hy_ : ¬ inS y 4) : RdC l yX3_cargoHigh wsX3_cargoHigh ({ frames := 6, cells := 0, slots := 0, locals := 164 } : Room) G (tysC C) (wX C a σ κ) [.ref (a 0), .int (nI i), .int y] (.long NO_S) := by
  refine Met.ofW (cc := cX3_cargoHigh) (maxL := 5) (ret := (some .long)) (by decide) rfl ?_
  intro p e s m args below meth c s₁ B hml hv
  obtain ⟨rfl, hP, hK, hN⟩ := hv
  have hx := B.exec
  have hb := B.bytes
  have hr := B.returns
  have hts := atoms_spec (ws := wsX3_cargoHigh) B.pre
  have hown : s.vm.findClass RX3 = some m.cls := findClass_of_methodNamed B.named
  have hlocks := B.notSynchronized
  have hP : va_P G vwCl (wX C a σ κ) s.heap := hP
  have hl := lv_entry ([.ref (a 0), .int (nI i), .int y]) (n := 5) (Nat.le_of_ble_eq_true rfl)
  rw [lg_entry_eq]
  generalize (lg_sl ([.ref (a 0), .int (nI i), .int y]) ++ List.replicate (5 - (lg_sl ([.ref (a 0), .int (nI i), .int y])).length) Slot.unset).toArray = ls at hl ⊢
  have hl : lv_has ls 5 [(0, .ref (a 0)), (1, .int (nI i)), (2, .int y)] := hl
  refine lv_aload_n hx hb dX3_cargoHigh_0 rfl (lv_at hl 0 rfl) ?_
  refine lv_iload_n hx hb dX3_cargoHigh_1 rfl (lv_at hl 1 rfl) ?_
  refine rd_callV (As := [.int (nI i)]) (rest := []) ⟨hx, hb, hml, hown, hts⟩ (c_svI l G C a σ κ (j := i) (by omega)) (cwV 1 hts gX3_cargoHigh_X3_surveyAt rfl rfl rfl (by decide +kernel) ⟨Nat.le_of_ble_eq_true rfl, Nat.le_of_ble_eq_true rfl⟩) hK hN hP (0) 3 wX_e0 rfl rfl rfl hl.1 rfl (Nat.le_of_ble_eq_true rfl) dX3_cargoHigh_2 ⟨Nat.zero_le _, Nat.zero_le _⟩ ?_
  refine lv_astore_n (lv' := [(3, .ref (a (7 + 3 * i))), (0, .ref (a 0)), (1, .int (nI i)), (2, .int y)]) hx hb dX3_cargoHigh_5 rfl hl (by decide) rfl (fun ls hl => ?_)
  refine lv_aload_n hx hb dX3_cargoHigh_6 rfl (lv_at hl 1 rfl) ?_
  refine lv_iload_n hx hb dX3_cargoHigh_7 rfl (lv_at hl 3 rfl) ?_
  refine rd_callV (As := [.int y]) (rest := []) ⟨hx, hb, hml, hown, hts⟩ (c_svO l G C a σ κ hy_) (cwV 1 hts gX3_cargoHigh_X3_surveyAt rfl rfl rfl (by decide +kernel) ⟨Nat.le_of_ble_eq_true rfl, Nat.le_of_ble_eq_true rfl⟩) hK hN hP (0) 3 wX_e0 rfl rfl rfl hl.1 rfl (Nat.le_of_ble_eq_true rfl) dX3_cargoHigh_8 ⟨Nat.zero_le _, Nat.zero_le _⟩ ?_
  refine lv_astoreN (lv' := [(4, .null), (3, .ref (a (7 + 3 * i))), (0, .ref (a 0)), (1, .int (nI i)), (2, .int y)]) hx hb dX3_cargoHigh_11 hl (by decide) rfl (fun ls hl => ?_)
  refine lv_aload_n hx hb dX3_cargoHigh_13 rfl (lv_at hl 1 rfl) ?_
  refine lv_ifnull hx hb dX3_cargoHigh_14 ?_
  refine lv_aloadN hx hb dX3_cargoHigh_17 (lv_at hl 0 rfl) ?_
  refine lv_ifnonnullN hx hb dX3_cargoHigh_19 ?_
  refine lv_ldc2 (v := (-9000000000000000001)) hx hb hown (hts (.constantLong RX3 96 (-9000000000000000001)) (by decide +kernel)) dX3_cargoHigh_22 ?_
  exact rd_lret hx hb hr hlocks (rfl) dX3_cargoHigh_25

set_option maxHeartbeats 4000000 in
set_option maxRecDepth 100000 in
theorem c_high_oo (l : Launch) (G : va_G) (C : Nat → ClassId) (a : Nat → Nat) (σ : SG) (κ : KX) (hn : g_n σ ≤ 10) {x y : Int32} (hx_ : ¬ inS x 4) (hy_ : ¬ inS y 4) : RdC l yX3_cargoHigh wsX3_cargoHigh ({ frames := 6, cells := 0, slots := 0, locals := 164 } : Room) G (tysC C) (wX C a σ κ) [.ref (a 0), .int x, .int y] (.long NO_S) := by
  refine Met.ofW (cc := cX3_cargoHigh) (maxL := 5) (ret := (some .long)) (by decide) rfl ?_
  intro p e s m args below meth c s₁ B hml hv
  obtain ⟨rfl, hP, hK, hN⟩ := hv
  have hx := B.exec
  have hb := B.bytes
  have hr := B.returns
  have hts := atoms_spec (ws := wsX3_cargoHigh) B.pre
  have hown : s.vm.findClass RX3 = some m.cls := findClass_of_methodNamed B.named
  have hlocks := B.notSynchronized
  have hP : va_P G vwCl (wX C a σ κ) s.heap := hP
  have hl := lv_entry ([.ref (a 0), .int x, .int y]) (n := 5) (Nat.le_of_ble_eq_true rfl)
  rw [lg_entry_eq]
  generalize (lg_sl ([.ref (a 0), .int x, .int y]) ++ List.replicate (5 - (lg_sl ([.ref (a 0), .int x, .int y])).length) Slot.unset).toArray = ls at hl ⊢
  have hl : lv_has ls 5 [(0, .ref (a 0)), (1, .int x), (2, .int y)] := hl
  refine lv_aload_n hx hb dX3_cargoHigh_0 rfl (lv_at hl 0 rfl) ?_
  refine lv_iload_n hx hb dX3_cargoHigh_1 rfl (lv_at hl 1 rfl) ?_
  refine rd_callV (As := [.int x]) (rest := []) ⟨hx, hb, hml, hown, hts⟩ (c_svO l G C a σ κ hx_) (cwV 1 hts gX3_cargoHigh_X3_surveyAt rfl rfl rfl (by decide +kernel) ⟨Nat.le_of_ble_eq_true rfl, Nat.le_of_ble_eq_true rfl⟩) hK hN hP (0) 3 wX_e0 rfl rfl rfl hl.1 rfl (Nat.le_of_ble_eq_true rfl) dX3_cargoHigh_2 ⟨Nat.zero_le _, Nat.zero_le _⟩ ?_
  refine lv_astore_nN (lv' := [(3, .null), (0, .ref (a 0)), (1, .int x), (2, .int y)]) hx hb dX3_cargoHigh_5 rfl hl (by decide) rfl (fun ls hl => ?_)
  refine lv_aload_n hx hb dX3_cargoHigh_6 rfl (lv_at hl 1 rfl) ?_
  refine lv_iload_n hx hb dX3_cargoHigh_7 rfl (lv_at hl 3 rfl) ?_
  refine rd_callV (As := [.int y]) (rest := []) ⟨hx, hb, hml, hown, hts⟩ (c_svO l G C a σ κ hy_) (cwV 1 hts gX3_cargoHigh_X3_surveyAt rfl rfl rfl (by decide +kernel) ⟨Nat.le_of_ble_eq_true rfl, Nat.le_of_ble_eq_true rfl⟩) hK hN hP (0) 3 wX_e0 rfl rfl rfl hl.1 rfl (Nat.le_of_ble_eq_true rfl) dX3_cargoHigh_8 ⟨Nat.zero_le _, Nat.zero_le _⟩ ?_
  refine lv_astoreN (lv' := [(4, .null), (3, .null), (0, .ref (a 0)), (1, .int x), (2, .int y)]) hx hb dX3_cargoHigh_11 hl (by decide) rfl (fun ls hl => ?_)
  refine lv_aload_nN hx hb dX3_cargoHigh_13 rfl (lv_at hl 1 rfl) ?_
  refine lv_ifnullN (tgt := 22) hx hb dX3_cargoHigh_14 (by decide) ?_
  refine lv_ldc2 (v := (-9000000000000000001)) hx hb hown (hts (.constantLong RX3 96 (-9000000000000000001)) (by decide +kernel)) dX3_cargoHigh_22 ?_
  exact rd_lret hx hb hr hlocks (rfl) dX3_cargoHigh_25

theorem c_high (l : Launch) (G : va_G) (C : Nat → ClassId) (a : Nat → Nat) (σ : SG) (κ : KX) (hn : g_n σ ≤ 10) (x y : Int32) : RdC l yX3_cargoHigh wsX3_cargoHigh ({ frames := 6, cells := 0, slots := 0, locals := 164 } : Room) G (tysC C) (wX C a σ κ) [.ref (a 0), .int x, .int y] (.long (aHigh σ x y)) := by
  by_cases g : inS x 4
  · obtain ⟨i, hi, rfl⟩ := inS_nI g
    by_cases k : inS y 4
    · obtain ⟨j, hj, rfl⟩ := inS_nI k
      rw [show aHigh σ (nI i) (nI j) = tHigh σ i j from by unfold aHigh; rw [if_pos ⟨g, k⟩, cl4 hi, cl4 hj]]
      exact c_high_ii l G C a σ κ hn hi hj
    · rw [show aHigh σ (nI i) y = NO_S from if_neg (fun q => k q.2)]
      exact c_high_io l G C a σ κ hn hi k
  · rw [show aHigh σ x y = NO_S from if_neg (fun q => g q.1)]
    by_cases k : inS y 4
    · obtain ⟨j, hj, rfl⟩ := inS_nI k
      exact c_high_oi l G C a σ κ hn g hj
    · exact c_high_oo l G C a σ κ hn g k

set_option maxHeartbeats 4000000 in
set_option maxRecDepth 100000 in
theorem c_draftFor (l : Launch) (G : va_G) (C : Nat → ClassId) (a : Nat → Nat) (σ : SG) (κ : KX) (hn : g_n σ ≤ 10) (x : Int32) : RdC l yX3_draftFor wsX3_draftFor ({ frames := 3, cells := 0, slots := 0, locals := 81 } : Room) G (tysC C) (wX C a σ κ) [.ref (a 0), .int x] (.long (aDraftFor σ x)) := by
  refine Met.ofW (cc := cX3_draftFor) (maxL := 2) (ret := (some .long)) (by decide) rfl ?_
  intro p e s m args below meth c s₁ B hml hv
  obtain ⟨rfl, hP, hK, hN⟩ := hv
  have hx := B.exec
  have hb := B.bytes
  have hr := B.returns
  have hts := atoms_spec (ws := wsX3_draftFor) B.pre
  have hown : s.vm.findClass RX3 = some m.cls := findClass_of_methodNamed B.named
  have hlocks := B.notSynchronized
  have hX3 : ∀ w ∈ wsX30, w ∈ wsX3_draftFor := by decide +kernel
  have hP : va_P G vwCl (wX C a σ κ) s.heap := hP
  have hl := lv_entry ([.ref (a 0), .int x]) (n := 2) (Nat.le_of_ble_eq_true rfl)
  rw [lg_entry_eq]
  generalize (lg_sl ([.ref (a 0), .int x]) ++ List.replicate (2 - (lg_sl ([.ref (a 0), .int x])).length) Slot.unset).toArray = ls at hl ⊢
  have hl : lv_has ls 2 [(0, .ref (a 0)), (1, .int x)] := hl
  refine lv_aload_n hx hb dX3_draftFor_0 rfl (lv_at hl 0 rfl) ?_
  refine va_get (D := G) (ci := 3) (v := .ref (a 4)) (C := RX3) (T := TX3) (N := 7) hx hb hts hX3 hown hK hP (0) wX_e0 rfl 3 (by decide) (hts (.fieldLink RX3 27 "DraftSurvey" "table" "LDraftSurvey$Table;") (by decide +kernel)) (fun _ h9 => h9) rfl dX3_draftFor_1 ?_
  refine lv_iload_n hx hb dX3_draftFor_4 rfl (lv_at hl 1 rfl) ?_
  refine lv_i2l (v := x.toInt64) hx hb dX3_draftFor_5 rfl ?_
  refine rd_callV (As := [.long x.toInt64]) (rest := []) ⟨hx, hb, hml, hown, hts⟩ (c_least l G C a σ κ hn x.toInt64) (cwV 1 hts gX3_draftFor_X2_leastDraftFor rfl rfl rfl (by decide +kernel) ⟨Nat.le_of_ble_eq_true rfl, Nat.le_of_ble_eq_true rfl⟩) hK hN hP (4) 2 wX_e4 rfl rfl rfl hl.1 rfl (Nat.le_of_ble_eq_true rfl) dX3_draftFor_6 ⟨Nat.zero_le _, Nat.zero_le _⟩ ?_
  exact rd_lret hx hb hr hlocks (rfl) dX3_draftFor_9

set_option maxHeartbeats 4000000 in
set_option maxRecDepth 100000 in
theorem c_rowCount (l : Launch) (G : va_G) (C : Nat → ClassId) (a : Nat → Nat) (σ : SG) (κ : KX) (hn : g_n σ ≤ 10) : RdC l yX3_rowCount wsX3_rowCount ({ frames := 0, cells := 0, slots := 0, locals := 0 } : Room) G (tysC C) (wX C a σ κ) [.ref (a 0)] (.long (lN (g_n σ))) := by
  refine Met.ofW (cc := cX3_rowCount) (maxL := 1) (ret := (some .long)) (by decide) rfl ?_
  intro p e s m args below meth c s₁ B hml hv
  obtain ⟨rfl, hP, hK, hN⟩ := hv
  have hx := B.exec
  have hb := B.bytes
  have hr := B.returns
  have hts := atoms_spec (ws := wsX3_rowCount) B.pre
  have hown : s.vm.findClass RX3 = some m.cls := findClass_of_methodNamed B.named
  have hlocks := B.notSynchronized
  have hX2 : ∀ w ∈ wsX20, w ∈ wsX3_rowCount := by decide +kernel
  have hX3 : ∀ w ∈ wsX30, w ∈ wsX3_rowCount := by decide +kernel
  have hP : va_P G vwCl (wX C a σ κ) s.heap := hP
  have hl := lv_entry ([.ref (a 0)]) (n := 1) (Nat.le_of_ble_eq_true rfl)
  rw [lg_entry_eq]
  generalize (lg_sl ([.ref (a 0)]) ++ List.replicate (1 - (lg_sl ([.ref (a 0)])).length) Slot.unset).toArray = ls at hl ⊢
  have hl : lv_has ls 1 [(0, .ref (a 0))] := hl
  refine lv_aload_n hx hb dX3_rowCount_0 rfl (lv_at hl 0 rfl) ?_
  refine va_get (D := G) (ci := 3) (v := .ref (a 4)) (C := RX3) (T := TX3) (N := 7) hx hb hts hX3 hown hK hP (0) wX_e0 rfl 3 (by decide) (hts (.fieldLink RX3 27 "DraftSurvey" "table" "LDraftSurvey$Table;") (by decide +kernel)) (fun _ h9 => h9) rfl dX3_rowCount_1 ?_
  refine va_getN (D := G) (ci := 2) (v := .int (nI (g_n σ))) (C := RX2) (T := TX2) (N := 2) hx hb hts hX2 hown hK hP (4) wX_e4 rfl 1 (by decide) (va_Nw.use rfl hN.1) (fun _ h9 => h9) rfl dX3_rowCount_4 ?_
  refine lv_i2l (v := lN (g_n σ)) hx hb dX3_rowCount_7 (nI_l (by omega)) ?_
  exact rd_lret hx hb hr hlocks (rfl) dX3_rowCount_8

set_option maxHeartbeats 4000000 in
set_option maxRecDepth 100000 in
theorem c_rowD_i (l : Launch) (G : va_G) (C : Nat → ClassId) (a : Nat → Nat) (σ : SG) (κ : KX) (hn : g_n σ ≤ 10) {i : Nat} (hi : i < 2 ^ 31) : RdC l yX3_rowDraft wsX3_rowDraft ({ frames := 1, cells := 0, slots := 0, locals := 22 } : Room) G (tysC C) (wX C a σ κ) [.ref (a 0), .int (nI i)] (.long (if i < g_n σ then g_tb σ (5 * i + 0) else NO_I)) := by
  refine Met.ofW (cc := cX3_rowDraft) (maxL := 2) (ret := (some .long)) (by decide) rfl ?_
  intro p e s m args below meth c s₁ B hml hv
  obtain ⟨rfl, hP, hK, hN⟩ := hv
  have hx := B.exec
  have hb := B.bytes
  have hr := B.returns
  have hts := atoms_spec (ws := wsX3_rowDraft) B.pre
  have hown : s.vm.findClass RX3 = some m.cls := findClass_of_methodNamed B.named
  have hlocks := B.notSynchronized
  have hX2 : ∀ w ∈ wsX20, w ∈ wsX3_rowDraft := by decide +kernel
  have hX3 : ∀ w ∈ wsX30, w ∈ wsX3_rowDraft := by decide +kernel
  have hP : va_P G vwCl (wX C a σ κ) s.heap := hP
  have hl := lv_entry ([.ref (a 0), .int (nI i)]) (n := 2) (Nat.le_of_ble_eq_true rfl)
  rw [lg_entry_eq]
  generalize (lg_sl ([.ref (a 0), .int (nI i)]) ++ List.replicate (2 - (lg_sl ([.ref (a 0), .int (nI i)])).length) Slot.unset).toArray = ls at hl ⊢
  have hl : lv_has ls 2 [(0, .ref (a 0)), (1, .int (nI i))] := hl
  refine lv_iload_n hx hb dX3_rowDraft_0 rfl (lv_at hl 1 rfl) ?_
  refine lv_if_lt (tgt := 15) hx hb dX3_rowDraft_1 (by decide) (fun c_1 => ?_) (fun c_1 => ?_)
  · skip
    have c_1 : i < 0 := (nI_ltI (a := i) (b := 0) (by omega) (by omega)).mp c_1
    exact (show False by omega).elim
  · skip
    have c_1 : ¬ i < 0 := fun z9 => c_1 ((nI_ltI (a := i) (b := 0) (by omega) (by omega)).mpr z9)
    refine lv_iload_n hx hb dX3_rowDraft_4 rfl (lv_at hl 1 rfl) ?_
    refine lv_aload_n hx hb dX3_rowDraft_5 rfl (lv_at hl 0 rfl) ?_
    refine va_get (D := G) (ci := 3) (v := .ref (a 4)) (C := RX3) (T := TX3) (N := 7) hx hb hts hX3 hown hK hP (0) wX_e0 rfl 3 (by decide) (hts (.fieldLink RX3 27 "DraftSurvey" "table" "LDraftSurvey$Table;") (by decide +kernel)) (fun _ h9 => h9) rfl dX3_rowDraft_6 ?_
    refine va_getN (D := G) (ci := 2) (v := .int (nI (g_n σ))) (C := RX2) (T := TX2) (N := 2) hx hb hts hX2 hown hK hP (4) wX_e4 rfl 1 (by decide) (va_Nw.use rfl hN.1) (fun _ h9 => h9) rfl dX3_rowDraft_9 ?_
    refine lv_icmp_lt (tgt := 19) hx hb dX3_rowDraft_12 (by decide) (fun c_2 => ?_) (fun c_2 => ?_)
    · skip
      have c_2 : i < (g_n σ) := (nI_ltI (a := i) (b := (g_n σ)) (by omega) (by omega)).mp c_2
      refine lv_aload_n hx hb dX3_rowDraft_19 rfl (lv_at hl 0 rfl) ?_
      refine va_get (D := G) (ci := 3) (v := .ref (a 4)) (C := RX3) (T := TX3) (N := 7) hx hb hts hX3 hown hK hP (0) wX_e0 rfl 3 (by decide) (hts (.fieldLink RX3 27 "DraftSurvey" "table" "LDraftSurvey$Table;") (by decide +kernel)) (fun _ h9 => h9) rfl dX3_rowDraft_20 ?_
      refine lv_iload_n hx hb dX3_rowDraft_23 rfl (lv_at hl 1 rfl) ?_
      refine lv_iconst (v := 0) hx hb dX3_rowDraft_24 (by decide) ?_
      refine rd_callV (As := [.int (nI i), .int 0]) (rest := []) ⟨hx, hb, hml, hown, hts⟩ (c_cell l G C a σ κ (r := i) (q := 0) hn (by omega) (by omega)) (cwV 2 hts gX3_rowDraft_X2_cell rfl rfl rfl (by decide +kernel) ⟨Nat.le_of_ble_eq_true rfl, Nat.le_of_ble_eq_true rfl⟩) hK hN hP (4) 2 wX_e4 rfl rfl rfl hl.1 rfl (Nat.le_of_ble_eq_true rfl) dX3_rowDraft_25 ⟨Nat.zero_le _, Nat.zero_le _⟩ ?_
      exact rd_lret hx hb hr hlocks (congrArg Value.long (if_pos c_2).symm) dX3_rowDraft_28
    · skip
      have c_2 : ¬ i < (g_n σ) := fun z9 => c_2 ((nI_ltI (a := i) (b := (g_n σ)) (by omega) (by omega)).mpr z9)
      refine lv_ldc2 (v := (-9000000000000000002)) hx hb hown (hts (.constantLong RX3 81 (-9000000000000000002)) (by decide +kernel)) dX3_rowDraft_15 ?_
      exact rd_lret hx hb hr hlocks (congrArg Value.long (if_neg c_2).symm) dX3_rowDraft_18

set_option maxHeartbeats 4000000 in
set_option maxRecDepth 100000 in
theorem c_rowD_o (l : Launch) (G : va_G) (C : Nat → ClassId) (a : Nat → Nat) (σ : SG) (κ : KX) (hn : g_n σ ≤ 10) {x : Int32} (hx_ : x < 0) : RdC l yX3_rowDraft wsX3_rowDraft ({ frames := 1, cells := 0, slots := 0, locals := 22 } : Room) G (tysC C) (wX C a σ κ) [.ref (a 0), .int x] (.long NO_I) := by
  refine Met.ofW (cc := cX3_rowDraft) (maxL := 2) (ret := (some .long)) (by decide) rfl ?_
  intro p e s m args below meth c s₁ B hml hv
  obtain ⟨rfl, hP, hK, hN⟩ := hv
  have hx := B.exec
  have hb := B.bytes
  have hr := B.returns
  have hts := atoms_spec (ws := wsX3_rowDraft) B.pre
  have hown : s.vm.findClass RX3 = some m.cls := findClass_of_methodNamed B.named
  have hlocks := B.notSynchronized
  have hP : va_P G vwCl (wX C a σ κ) s.heap := hP
  have hl := lv_entry ([.ref (a 0), .int x]) (n := 2) (Nat.le_of_ble_eq_true rfl)
  rw [lg_entry_eq]
  generalize (lg_sl ([.ref (a 0), .int x]) ++ List.replicate (2 - (lg_sl ([.ref (a 0), .int x])).length) Slot.unset).toArray = ls at hl ⊢
  have hl : lv_has ls 2 [(0, .ref (a 0)), (1, .int x)] := hl
  refine lv_iload_n hx hb dX3_rowDraft_0 rfl (lv_at hl 1 rfl) ?_
  refine lv_if_lt (tgt := 15) hx hb dX3_rowDraft_1 (by decide) (fun c_1 => ?_) (fun c_1 => ?_)
  · skip
    refine lv_ldc2 (v := (-9000000000000000002)) hx hb hown (hts (.constantLong RX3 81 (-9000000000000000002)) (by decide +kernel)) dX3_rowDraft_15 ?_
    exact rd_lret hx hb hr hlocks (rfl) dX3_rowDraft_18
  · skip
    exact absurd hx_ c_1

theorem c_rowD (l : Launch) (G : va_G) (C : Nat → ClassId) (a : Nat → Nat) (σ : SG) (κ : KX) (hn : g_n σ ≤ 10) (x : Int32) : RdC l yX3_rowDraft wsX3_rowDraft ({ frames := 1, cells := 0, slots := 0, locals := 22 } : Room) G (tysC C) (wX C a σ κ) [.ref (a 0), .int x] (.long (aRowDraft σ x)) := by
  by_cases h : x < 0
  · rw [show aRowDraft σ x = NO_I from if_neg (fun q => q.1 h)]
    exact c_rowD_o l G C a σ κ hn h
  · obtain ⟨i, hi, rfl⟩ := nI_of h
    rw [show aRowDraft σ (nI i) = (if i < g_n σ then g_tb σ (5 * i + 0) else NO_I) from by
      unfold aRowDraft
      rw [nI_clamp hi]
      by_cases q : i < g_n σ
      · rw [if_pos ⟨h, (nI_ltI hi (by omega)).mpr q⟩, if_pos q]
      · rw [if_neg (fun z => q ((nI_ltI hi (by omega)).mp z.2)), if_neg q]]
    exact c_rowD_i l G C a σ κ hn hi

set_option maxHeartbeats 4000000 in
set_option maxRecDepth 100000 in
theorem c_val_i (l : Launch) (G : va_G) (C : Nat → ClassId) (a : Nat → Nat) (σ : SG) (κ : KX) (hn : g_n σ ≤ 10) {i : Nat} (hi : i < 4) (d : Int32) : RdC l yX3_tableValue wsX3_tableValue ({ frames := 2, cells := 0, slots := 0, locals := 61 } : Room) G (tysC C) (wX C a σ κ) [.ref (a 0), .int (nI i), .int d] (.long (vA σ (i + 1) d.toInt64)) := by
  refine Met.ofW (cc := cX3_tableValue) (maxL := 3) (ret := (some .long)) (by decide) rfl ?_
  intro p e s m args below meth c s₁ B hml hv
  obtain ⟨rfl, hP, hK, hN⟩ := hv
  have hx := B.exec
  have hb := B.bytes
  have hr := B.returns
  have hts := atoms_spec (ws := wsX3_tableValue) B.pre
  have hown : s.vm.findClass RX3 = some m.cls := findClass_of_methodNamed B.named
  have hlocks := B.notSynchronized
  have hX3 : ∀ w ∈ wsX30, w ∈ wsX3_tableValue := by decide +kernel
  have hP : va_P G vwCl (wX C a σ κ) s.heap := hP
  have hl := lv_entry ([.ref (a 0), .int (nI i), .int d]) (n := 3) (Nat.le_of_ble_eq_true rfl)
  rw [lg_entry_eq]
  generalize (lg_sl ([.ref (a 0), .int (nI i), .int d]) ++ List.replicate (3 - (lg_sl ([.ref (a 0), .int (nI i), .int d])).length) Slot.unset).toArray = ls at hl ⊢
  have hl : lv_has ls 3 [(0, .ref (a 0)), (1, .int (nI i)), (2, .int d)] := hl
  refine lv_iload_n hx hb dX3_tableValue_0 rfl (lv_at hl 1 rfl) ?_
  refine lv_if_lt (tgt := 9) hx hb dX3_tableValue_1 (by decide) (fun c_1 => ?_) (fun c_1 => ?_)
  · skip
    have c_1 : i < 0 := (nI_ltI (a := i) (b := 0) (by omega) (by omega)).mp c_1
    exact (show False by omega).elim
  · skip
    have c_1 : ¬ i < 0 := fun z9 => c_1 ((nI_ltI (a := i) (b := 0) (by omega) (by omega)).mpr z9)
    refine lv_iload_n hx hb dX3_tableValue_4 rfl (lv_at hl 1 rfl) ?_
    refine lv_iconst (v := 4) hx hb dX3_tableValue_5 (by decide) ?_
    refine lv_icmp_lt (tgt := 13) hx hb dX3_tableValue_6 (by decide) (fun c_2 => ?_) (fun c_2 => ?_)
    · skip
      have c_2 : i < 4 := (nI_ltI (a := i) (b := 4) (by omega) (by omega)).mp c_2
      refine lv_aload_n hx hb dX3_tableValue_13 rfl (lv_at hl 0 rfl) ?_
      refine va_get (D := G) (ci := 3) (v := .ref (a 4)) (C := RX3) (T := TX3) (N := 7) hx hb hts hX3 hown hK hP (0) wX_e0 rfl 3 (by decide) (hts (.fieldLink RX3 27 "DraftSurvey" "table" "LDraftSurvey$Table;") (by decide +kernel)) (fun _ h9 => h9) rfl dX3_tableValue_14 ?_
      refine lv_iload_n hx hb dX3_tableValue_17 rfl (lv_at hl 1 rfl) ?_
      refine lv_iconst (v := 1) hx hb dX3_tableValue_18 (by decide) ?_
      refine lv_iadd hx hb dX3_tableValue_19 ?_
      refine tp_i (v := nI (i + 1)) (nI_add i 1) ?_
      refine lv_iload_n hx hb dX3_tableValue_20 rfl (lv_at hl 2 rfl) ?_
      refine lv_i2l (v := d.toInt64) hx hb dX3_tableValue_21 rfl ?_
      refine rd_callV (As := [.int (nI (i + 1)), .long d.toInt64]) (rest := []) ⟨hx, hb, hml, hown, hts⟩ (c_value l G C a σ κ hn (q := (i + 1)) (by omega) d.toInt64) (cwV 2 hts gX3_tableValue_X2_valueAt rfl rfl rfl (by decide +kernel) ⟨Nat.le_of_ble_eq_true rfl, Nat.le_of_ble_eq_true rfl⟩) hK hN hP (4) 2 wX_e4 rfl rfl rfl hl.1 rfl (Nat.le_of_ble_eq_true rfl) dX3_tableValue_22 ⟨Nat.zero_le _, Nat.zero_le _⟩ ?_
      exact rd_lret hx hb hr hlocks (rfl) dX3_tableValue_25
    · skip
      have c_2 : ¬ i < 4 := fun z9 => c_2 ((nI_ltI (a := i) (b := 4) (by omega) (by omega)).mpr z9)
      exact (show False by omega).elim

set_option maxHeartbeats 4000000 in
set_option maxRecDepth 100000 in
theorem c_val_o (l : Launch) (G : va_G) (C : Nat → ClassId) (a : Nat → Nat) (σ : SG) (κ : KX) (hn : g_n σ ≤ 10) {x : Int32} (hx_ : ¬ inS x 4) (d : Int32) : RdC l yX3_tableValue wsX3_tableValue ({ frames := 2, cells := 0, slots := 0, locals := 61 } : Room) G (tysC C) (wX C a σ κ) [.ref (a 0), .int x, .int d] (.long NO_I) := by
  refine Met.ofW (cc := cX3_tableValue) (maxL := 3) (ret := (some .long)) (by decide) rfl ?_
  intro p e s m args below meth c s₁ B hml hv
  obtain ⟨rfl, hP, hK, hN⟩ := hv
  have hx := B.exec
  have hb := B.bytes
  have hr := B.returns
  have hts := atoms_spec (ws := wsX3_tableValue) B.pre
  have hown : s.vm.findClass RX3 = some m.cls := findClass_of_methodNamed B.named
  have hlocks := B.notSynchronized
  have hP : va_P G vwCl (wX C a σ κ) s.heap := hP
  have hl := lv_entry ([.ref (a 0), .int x, .int d]) (n := 3) (Nat.le_of_ble_eq_true rfl)
  rw [lg_entry_eq]
  generalize (lg_sl ([.ref (a 0), .int x, .int d]) ++ List.replicate (3 - (lg_sl ([.ref (a 0), .int x, .int d])).length) Slot.unset).toArray = ls at hl ⊢
  have hl : lv_has ls 3 [(0, .ref (a 0)), (1, .int x), (2, .int d)] := hl
  refine lv_iload_n hx hb dX3_tableValue_0 rfl (lv_at hl 1 rfl) ?_
  refine lv_if_lt (tgt := 9) hx hb dX3_tableValue_1 (by decide) (fun c_1 => ?_) (fun c_1 => ?_)
  · skip
    refine lv_ldc2 (v := (-9000000000000000002)) hx hb hown (hts (.constantLong RX3 81 (-9000000000000000002)) (by decide +kernel)) dX3_tableValue_9 ?_
    exact rd_lret hx hb hr hlocks (rfl) dX3_tableValue_12
  · skip
    refine lv_iload_n hx hb dX3_tableValue_4 rfl (lv_at hl 1 rfl) ?_
    refine lv_iconst (v := 4) hx hb dX3_tableValue_5 (by decide) ?_
    refine lv_icmp_lt (tgt := 13) hx hb dX3_tableValue_6 (by decide) (fun c_2 => ?_) (fun c_2 => ?_)
    · skip
      exact absurd ⟨c_1, c_2⟩ hx_
    · skip
      refine lv_ldc2 (v := (-9000000000000000002)) hx hb hown (hts (.constantLong RX3 81 (-9000000000000000002)) (by decide +kernel)) dX3_tableValue_9 ?_
      exact rd_lret hx hb hr hlocks (rfl) dX3_tableValue_12

set_option maxHeartbeats 4000000 in
set_option maxRecDepth 100000 in
theorem c_best (l : Launch) (G : va_G) (C : Nat → ClassId) (a : Nat → Nat) (σ : SG) (κ : KX) (hn : g_n σ ≤ 10) : RdC l yX3_heaviest wsX3_heaviest ({ frames := 5, cells := 0, slots := 0, locals := 143 } : Room) G (tysC C) (wX C a σ κ) [.ref (a 0)] (.long (aHeaviest σ)) := by
  refine Met.ofW (cc := cX3_heaviest) (maxL := 9) (ret := (some .long)) (by decide) rfl ?_
  intro p e s m args below meth c s₁ B hml hv
  obtain ⟨rfl, hP, hK, hN⟩ := hv
  have hx := B.exec
  have hb := B.bytes
  have hr := B.returns
  have hts := atoms_spec (ws := wsX3_heaviest) B.pre
  have hown : s.vm.findClass RX3 = some m.cls := findClass_of_methodNamed B.named
  have hlocks := B.notSynchronized
  have hP : va_P G vwCl (wX C a σ κ) s.heap := hP
  have hl := lv_entry ([.ref (a 0)]) (n := 9) (Nat.le_of_ble_eq_true rfl)
  rw [lg_entry_eq]
  generalize (lg_sl ([.ref (a 0)]) ++ List.replicate (9 - (lg_sl ([.ref (a 0)])).length) Slot.unset).toArray = ls at hl ⊢
  have hl : lv_has ls 9 [(0, .ref (a 0))] := hl
  refine lv_ldc2 (v := (-9000000000000000007)) hx hb hown (hts (.constantLong RX3 126 (-9000000000000000007)) (by decide +kernel)) dX3_heaviest_0 ?_
  refine lv_lstore_n (lv' := [(1, .long (-9000000000000000007)), (0, .ref (a 0))]) hx hb dX3_heaviest_3 rfl hl (by decide) rfl (fun ls hl => ?_)
  refine lv_lconst (v := 0) hx hb dX3_heaviest_4 (by decide) ?_
  refine lv_lstore_n (lv' := [(3, .long 0), (1, .long (-9000000000000000007)), (0, .ref (a 0))]) hx hb dX3_heaviest_5 rfl hl (by decide) rfl (fun ls hl => ?_)
  refine lv_iconst (v := 0) hx hb dX3_heaviest_6 (by decide) ?_
  refine lv_istore (lv' := [(5, .int 0), (3, .long 0), (1, .long (-9000000000000000007)), (0, .ref (a 0))]) hx hb dX3_heaviest_7 hl (by decide) rfl (fun ls hl => ?_)
  have key9 : ∀ (n_ : Nat) (k : Nat) (hv : Int64) (gv : Int64), 5 ≤ k + n_ → k ≤ 4 → hv = hbA (hbs σ k) → gv = hbW σ (hbs σ k) → ∀ ls : Array Slot, lv_has ls 9 [(0, .ref (a 0)), (1, .long hv), (3, .long gv), (5, .int (nI k))] → W p l e (headSpec wsX3_heaviest ({ frames := 5, cells := 0, slots := 0, locals := 143 } : Room)).room s m ([.ref (a 0)] : List Value).toArray below meth c s.heap [] 0 0 (MQ below (k2_QcV (.long (aHeaviest σ))) ([.ref (a 0)] : List Value).toArray s 0 0 (fun _ => False)) (F0 m 9 ls []) := by
    intro n_
    induction n_ with
    | zero =>
      intro k hv gv g_0 g_1 g_2 g_3 ls hl
      exact absurd g_0 (by omega)
    | succ n_ ih =>
      intro k hv gv g_0 g_1 g_2 g_3 ls hl
      refine lv_iload hx hb dX3_heaviest_9 (lv_at hl 3 rfl) ?_
      refine lv_iconst (v := 4) hx hb dX3_heaviest_11 (by decide) ?_
      refine ic_ge (tgt := 75) hx hb dX3_heaviest_12 (by decide) (fun c_1 => ?_) (fun c_1 => ?_)
      · skip
        have c_1 : ¬ k < 4 := fun z9 => c_1 ((nI_ltI (a := k) (b := 4) (by omega) (by omega)).mpr z9)
        refine lv_lload_n hx hb dX3_heaviest_75 rfl (lv_at hl 1 rfl) ?_
        exact rd_lret hx hb hr hlocks (congrArg Value.long (by rw [g_2, show k = 4 from by omega]; rfl)) dX3_heaviest_76
      · skip
        have c_1 : k < 4 := (nI_ltI (a := k) (b := 4) (by omega) (by omega)).mp c_1
        refine lv_aload_n hx hb dX3_heaviest_15 rfl (lv_at hl 0 rfl) ?_
        refine lv_iload hx hb dX3_heaviest_16 (lv_at hl 3 rfl) ?_
        refine rd_callV (As := [.int (nI k)]) (rest := []) ⟨hx, hb, hml, hown, hts⟩ (c_svI l G C a σ κ (j := k) (by omega)) (cwV 1 hts gX3_heaviest_X3_surveyAt rfl rfl rfl (by decide +kernel) ⟨Nat.le_of_ble_eq_true rfl, Nat.le_of_ble_eq_true rfl⟩) hK hN hP (0) 3 wX_e0 rfl rfl rfl hl.1 rfl (Nat.le_of_ble_eq_true rfl) dX3_heaviest_18 ⟨Nat.zero_le _, Nat.zero_le _⟩ ?_
        refine lv_astore (lv' := [(6, .ref (a (7 + 3 * k))), (0, .ref (a 0)), (1, .long hv), (3, .long gv), (5, .int (nI k))]) hx hb dX3_heaviest_21 hl (by decide) rfl (fun ls hl => ?_)
        refine lv_aload hx hb dX3_heaviest_23 (lv_at hl 0 rfl) ?_
        refine lv_ifnull hx hb dX3_heaviest_25 ?_
        refine lv_aload_n hx hb dX3_heaviest_28 rfl (lv_at hl 1 rfl) ?_
        refine lv_aload hx hb dX3_heaviest_29 (lv_at hl 0 rfl) ?_
        refine lv_lconst (v := 0) hx hb dX3_heaviest_31 (by decide) ?_
        refine rd_callV (As := [.ref (a (7 + 3 * k)), .long 0]) (rest := []) ⟨hx, hb, hml, hown, hts⟩ (c_can l G C a σ κ hn (j := k) (by omega) 0) (cwV 2 hts gX3_heaviest_X3_canCompute rfl rfl rfl (by decide +kernel) ⟨Nat.le_of_ble_eq_true rfl, Nat.le_of_ble_eq_true rfl⟩) hK hN hP (0) 3 wX_e0 rfl rfl rfl hl.1 rfl (Nat.le_of_ble_eq_true rfl) dX3_heaviest_32 ⟨Nat.zero_le _, Nat.zero_le _⟩ ?_
        refine br_beq (tgt := 69) hx hb dX3_heaviest_35 (by decide) (fun c_2 => ?_) (fun c_2 => ?_)
        · skip
          refine lv_iinc (v := nI (k + 1)) (lv' := [(5, .int (nI (k + 1))), (6, .ref (a (7 + 3 * k))), (0, .ref (a 0)), (1, .long hv), (3, .long gv)]) hx hb dX3_heaviest_69 hl (k := 4) rfl (nI_add k 1) (by decide) rfl (fun ls hl => ?_)
          refine lv_goto (tgt := 9) hx hb dX3_heaviest_72 (by decide) ?_
          exact ih (k + 1) hv gv (by omega) (by omega) (by rw [hb_no c_2]; exact g_2) (by rw [hb_no c_2]; exact g_3) ls (lv_sub hl [2, 3, 4, 0] rfl)
        · skip
          refine lv_aload_n hx hb dX3_heaviest_38 rfl (lv_at hl 1 rfl) ?_
          refine lv_aload hx hb dX3_heaviest_39 (lv_at hl 0 rfl) ?_
          refine lv_lconst (v := 0) hx hb dX3_heaviest_41 (by decide) ?_
          refine rd_callV (As := [.ref (a (7 + 3 * k)), .long 0]) (rest := []) ⟨hx, hb, hml, hown, hts⟩ (c_netO l G C a σ κ hn c_2.1 (j := k) (by omega) 0) (cwV 2 hts gX3_heaviest_X3_netWeightOf rfl rfl rfl (by decide +kernel) ⟨Nat.le_of_ble_eq_true rfl, Nat.le_of_ble_eq_true rfl⟩) hK hN hP (0) 3 wX_e0 rfl rfl rfl hl.1 rfl (Nat.le_of_ble_eq_true rfl) dX3_heaviest_42 ⟨Nat.zero_le _, Nat.zero_le _⟩ ?_
          refine lv_lstore (lv' := [(7, .long (nw σ k 0)), (6, .ref (a (7 + 3 * k))), (0, .ref (a 0)), (1, .long hv), (3, .long gv), (5, .int (nI k))]) hx hb dX3_heaviest_45 hl (by decide) rfl (fun ls hl => ?_)
          refine lv_lload_n hx hb dX3_heaviest_47 rfl (lv_at hl 3 rfl) ?_
          refine lv_ldc2 (v := (-9000000000000000007)) hx hb hown (hts (.constantLong RX3 126 (-9000000000000000007)) (by decide +kernel)) dX3_heaviest_48 ?_
          refine lc_eq (tgt := 62) hx hb dX3_heaviest_51 dX3_heaviest_52 (by decide) (fun c_3 => ?_) (fun c_3 => ?_)
          · skip
            refine lv_iload hx hb dX3_heaviest_62 (lv_at hl 5 rfl) ?_
            refine lv_i2l (v := lN k) hx hb dX3_heaviest_64 (nI_l (by omega)) ?_
            refine lv_lstore_n (lv' := [(1, .long (lN k)), (7, .long (nw σ k 0)), (6, .ref (a (7 + 3 * k))), (0, .ref (a 0)), (3, .long gv), (5, .int (nI k))]) hx hb dX3_heaviest_65 rfl hl (by decide) rfl (fun ls hl => ?_)
            refine lv_lload hx hb dX3_heaviest_66 (lv_at hl 1 rfl) ?_
            refine lv_lstore_n (lv' := [(3, .long (nw σ k 0)), (1, .long (lN k)), (7, .long (nw σ k 0)), (6, .ref (a (7 + 3 * k))), (0, .ref (a 0)), (5, .int (nI k))]) hx hb dX3_heaviest_68 rfl hl (by decide) rfl (fun ls hl => ?_)
            refine lv_iinc (v := nI (k + 1)) (lv' := [(5, .int (nI (k + 1))), (3, .long (nw σ k 0)), (1, .long (lN k)), (7, .long (nw σ k 0)), (6, .ref (a (7 + 3 * k))), (0, .ref (a 0))]) hx hb dX3_heaviest_69 hl (k := 5) rfl (nI_add k 1) (by decide) rfl (fun ls hl => ?_)
            refine lv_goto (tgt := 9) hx hb dX3_heaviest_72 (by decide) ?_
            exact ih (k + 1) (lN k) (nw σ k 0) (by omega) (by omega) (by rw [hb_new c_2 (by rw [← g_2]; exact c_3) (by omega)]; exact rfl) (by rw [hb_new c_2 (by rw [← g_2]; exact c_3) (by omega)]; exact rfl) ls (lv_sub hl [5, 2, 1, 0] rfl)
          · skip
            refine lv_lload hx hb dX3_heaviest_55 (lv_at hl 0 rfl) ?_
            refine lv_lload_n hx hb dX3_heaviest_57 rfl (lv_at hl 4 rfl) ?_
            refine lc_le (tgt := 69) hx hb dX3_heaviest_58 dX3_heaviest_59 (by decide) (fun c_4 => ?_) (fun c_4 => ?_)
            · skip
              refine lv_iinc (v := nI (k + 1)) (lv' := [(5, .int (nI (k + 1))), (7, .long (nw σ k 0)), (6, .ref (a (7 + 3 * k))), (0, .ref (a 0)), (1, .long hv), (3, .long gv)]) hx hb dX3_heaviest_69 hl (k := 5) rfl (nI_add k 1) (by decide) rfl (fun ls hl => ?_)
              refine lv_goto (tgt := 9) hx hb dX3_heaviest_72 (by decide) ?_
              exact ih (k + 1) hv gv (by omega) (by omega) (by rw [hb_old c_2 (by rw [← g_2]; exact c_3) (by rw [← g_3]; exact c_4)]; exact g_2) (by rw [hb_old c_2 (by rw [← g_2]; exact c_3) (by rw [← g_3]; exact c_4)]; exact g_3) ls (lv_sub hl [3, 4, 5, 0] rfl)
            · skip
              refine lv_iload hx hb dX3_heaviest_62 (lv_at hl 5 rfl) ?_
              refine lv_i2l (v := lN k) hx hb dX3_heaviest_64 (nI_l (by omega)) ?_
              refine lv_lstore_n (lv' := [(1, .long (lN k)), (7, .long (nw σ k 0)), (6, .ref (a (7 + 3 * k))), (0, .ref (a 0)), (3, .long gv), (5, .int (nI k))]) hx hb dX3_heaviest_65 rfl hl (by decide) rfl (fun ls hl => ?_)
              refine lv_lload hx hb dX3_heaviest_66 (lv_at hl 1 rfl) ?_
              refine lv_lstore_n (lv' := [(3, .long (nw σ k 0)), (1, .long (lN k)), (7, .long (nw σ k 0)), (6, .ref (a (7 + 3 * k))), (0, .ref (a 0)), (5, .int (nI k))]) hx hb dX3_heaviest_68 rfl hl (by decide) rfl (fun ls hl => ?_)
              refine lv_iinc (v := nI (k + 1)) (lv' := [(5, .int (nI (k + 1))), (3, .long (nw σ k 0)), (1, .long (lN k)), (7, .long (nw σ k 0)), (6, .ref (a (7 + 3 * k))), (0, .ref (a 0))]) hx hb dX3_heaviest_69 hl (k := 5) rfl (nI_add k 1) (by decide) rfl (fun ls hl => ?_)
              refine lv_goto (tgt := 9) hx hb dX3_heaviest_72 (by decide) ?_
              exact ih (k + 1) (lN k) (nw σ k 0) (by omega) (by omega) (by rw [hb_gt c_2 (by rw [← g_2]; exact c_3) (by rw [← g_3]; exact c_4)]; exact rfl) (by rw [hb_gt c_2 (by rw [← g_2]; exact c_3) (by rw [← g_3]; exact c_4)]; exact rfl) ls (lv_sub hl [5, 2, 1, 0] rfl)
  exact key9 5 0 (-9000000000000000007) 0 (by omega) (by omega) rfl rfl ls (lv_sub hl [3, 2, 1, 0] rfl)

set_option maxHeartbeats 4000000 in
set_option maxRecDepth 100000 in
theorem c_hash (l : Launch) (G : va_G) (C : Nat → ClassId) (a : Nat → Nat) (σ : SG) (κ : KX) (h v : Int64) : RdC l yX3_hashWith wsX3_hashWith ({ frames := 0, cells := 0, slots := 0, locals := 0 } : Room) G (tysC C) (wX C a σ κ) [.long h, .long v] (.long (hsO h v)) := by
  refine Met.ofW (cc := cX3_hashWith) (maxL := 4) (ret := (some .long)) (by decide) rfl ?_
  intro p e s m args below meth c s₁ B hml hv
  obtain ⟨rfl, hP, hK, hN⟩ := hv
  have hx := B.exec
  have hb := B.bytes
  have hr := B.returns
  have hts := atoms_spec (ws := wsX3_hashWith) B.pre
  have hown : s.vm.findClass RX3 = some m.cls := findClass_of_methodNamed B.named
  have hlocks := B.notSynchronized
  have hP : va_P G vwCl (wX C a σ κ) s.heap := hP
  have hl := lv_entry ([.long h, .long v]) (n := 4) (Nat.le_of_ble_eq_true rfl)
  rw [lg_entry_eq]
  generalize (lg_sl ([.long h, .long v]) ++ List.replicate (4 - (lg_sl ([.long h, .long v])).length) Slot.unset).toArray = ls at hl ⊢
  have hl : lv_has ls 4 [(0, .long h), (2, .long v)] := hl
  refine lv_ldc2 (v := 31) hx hb hown (hts (.constantLong RX3 228 (31)) (by decide +kernel)) dX3_hashWith_0 ?_
  refine lv_lload_n hx hb dX3_hashWith_3 rfl (lv_at hl 0 rfl) ?_
  refine lv_lmul hx hb dX3_hashWith_4 ?_
  refine lv_lload_n hx hb dX3_hashWith_5 rfl (lv_at hl 1 rfl) ?_
  refine lv_ladd hx hb dX3_hashWith_6 ?_
  exact rd_lret hx hb hr hlocks (rfl) dX3_hashWith_7

set_option maxHeartbeats 4000000 in
set_option maxRecDepth 100000 in
theorem c_hsT (l : Launch) (G : va_G) (C : Nat → ClassId) (a : Nat → Nat) (σ : SG) (κ : KX) (hn : g_n σ ≤ 10) (h : Int64) : RdC l yX3_hashOfTable wsX3_hashOfTable ({ frames := 1, cells := 0, slots := 0, locals := 23 } : Room) G (tysC C) (wX C a σ κ) [.ref (a 0), .long h] (.long (hsL (g_tb σ) (hsO h (lN (g_n σ))) (5 * g_n σ))) := by
  refine Met.ofW (cc := cX3_hashOfTable) (maxL := 7) (ret := (some .long)) (by decide) rfl ?_
  intro p e s m args below meth c s₁ B hml hv
  obtain ⟨rfl, hP, hK, hN⟩ := hv
  have hx := B.exec
  have hb := B.bytes
  have hr := B.returns
  have hts := atoms_spec (ws := wsX3_hashOfTable) B.pre
  have hown : s.vm.findClass RX3 = some m.cls := findClass_of_methodNamed B.named
  have hlocks := B.notSynchronized
  have hX2 : ∀ w ∈ wsX20, w ∈ wsX3_hashOfTable := by decide +kernel
  have hX3 : ∀ w ∈ wsX30, w ∈ wsX3_hashOfTable := by decide +kernel
  have hP : va_P G vwCl (wX C a σ κ) s.heap := hP
  have hl := lv_entry ([.ref (a 0), .long h]) (n := 7) (Nat.le_of_ble_eq_true rfl)
  rw [lg_entry_eq]
  generalize (lg_sl ([.ref (a 0), .long h]) ++ List.replicate (7 - (lg_sl ([.ref (a 0), .long h])).length) Slot.unset).toArray = ls at hl ⊢
  have hl : lv_has ls 7 [(0, .ref (a 0)), (1, .long h)] := hl
  refine lv_lload_n hx hb dX3_hashOfTable_0 rfl (lv_at hl 1 rfl) ?_
  refine lv_aload_n hx hb dX3_hashOfTable_1 rfl (lv_at hl 0 rfl) ?_
  refine va_get (D := G) (ci := 3) (v := .ref (a 4)) (C := RX3) (T := TX3) (N := 7) hx hb hts hX3 hown hK hP (0) wX_e0 rfl 3 (by decide) (hts (.fieldLink RX3 27 "DraftSurvey" "table" "LDraftSurvey$Table;") (by decide +kernel)) (fun _ h9 => h9) rfl dX3_hashOfTable_2 ?_
  refine va_getN (D := G) (ci := 2) (v := .int (nI (g_n σ))) (C := RX2) (T := TX2) (N := 2) hx hb hts hX2 hown hK hP (4) wX_e4 rfl 1 (by decide) (va_Nw.use rfl hN.1) (fun _ h9 => h9) rfl dX3_hashOfTable_5 ?_
  refine lv_i2l (v := lN (g_n σ)) hx hb dX3_hashOfTable_8 (nI_l (by omega)) ?_
  refine rd_callS (As := [.long h, .long (lN (g_n σ))]) (rest := []) ⟨hx, hb, hml, hown, hts⟩ (c_hash l G C a σ κ h (lN (g_n σ))) (va_cwS 2 hts gX3_hashOfTable_X3_hashWith rfl rfl rfl (by decide +kernel) ⟨Nat.le_of_ble_eq_true rfl, Nat.le_of_ble_eq_true rfl⟩) hK hN hP rfl hl.1 rfl (Nat.le_of_ble_eq_true rfl) dX3_hashOfTable_9 ⟨Nat.zero_le _, Nat.zero_le _⟩ ?_
  refine lv_lstore_n (lv' := [(3, .long (hsO h (lN (g_n σ)))), (0, .ref (a 0)), (1, .long h)]) hx hb dX3_hashOfTable_12 rfl hl (by decide) rfl (fun ls hl => ?_)
  refine lv_iconst (v := 0) hx hb dX3_hashOfTable_13 (by decide) ?_
  refine lv_istore (lv' := [(5, .int 0), (3, .long (hsO h (lN (g_n σ)))), (0, .ref (a 0)), (1, .long h)]) hx hb dX3_hashOfTable_14 hl (by decide) rfl (fun ls hl => ?_)
  have key16 : ∀ (n_ : Nat) (k : Nat) (hv : Int64), g_n σ + 1 ≤ k + n_ → k ≤ g_n σ → hv = hsL (g_tb σ) (hsO h (lN (g_n σ))) (5 * k) → ∀ ls : Array Slot, lv_has ls 7 [(0, .ref (a 0)), (3, .long hv), (5, .int (nI k))] → W p l e (headSpec wsX3_hashOfTable ({ frames := 1, cells := 0, slots := 0, locals := 23 } : Room)).room s m ([.ref (a 0), .long h] : List Value).toArray below meth c s.heap [] 0 0 (MQ below (k2_QcV (.long (hsL (g_tb σ) (hsO h (lN (g_n σ))) (5 * g_n σ)))) ([.ref (a 0), .long h] : List Value).toArray s 0 0 (fun _ => False)) (F0 m 16 ls []) := by
    intro n_
    induction n_ with
    | zero =>
      intro k hv g_0 g_1 g_2 ls hl
      exact absurd g_0 (by omega)
    | succ n_ ih =>
      intro k hv g_0 g_1 g_2 ls hl
      refine lv_iload hx hb dX3_hashOfTable_16 (lv_at hl 2 rfl) ?_
      refine lv_aload_n hx hb dX3_hashOfTable_18 rfl (lv_at hl 0 rfl) ?_
      refine va_get (D := G) (ci := 3) (v := .ref (a 4)) (C := RX3) (T := TX3) (N := 7) hx hb hts hX3 hown hK hP (0) wX_e0 rfl 3 (by decide) (hts (.fieldLink RX3 27 "DraftSurvey" "table" "LDraftSurvey$Table;") (by decide +kernel)) (fun _ h9 => h9) rfl dX3_hashOfTable_19 ?_
      refine va_getN (D := G) (ci := 2) (v := .int (nI (g_n σ))) (C := RX2) (T := TX2) (N := 2) hx hb hts hX2 hown hK hP (4) wX_e4 rfl 1 (by decide) (va_Nw.use rfl hN.1) (fun _ h9 => h9) rfl dX3_hashOfTable_22 ?_
      refine ic_ge (tgt := 65) hx hb dX3_hashOfTable_25 (by decide) (fun c_1 => ?_) (fun c_1 => ?_)
      · skip
        have c_1 : ¬ k < (g_n σ) := fun z9 => c_1 ((nI_ltI (a := k) (b := (g_n σ)) (by omega) (by omega)).mpr z9)
        refine lv_lload_n hx hb dX3_hashOfTable_65 rfl (lv_at hl 1 rfl) ?_
        exact rd_lret hx hb hr hlocks (congrArg Value.long (by rw [g_2, show k = g_n σ from by omega])) dX3_hashOfTable_66
      · skip
        have c_1 : k < (g_n σ) := (nI_ltI (a := k) (b := (g_n σ)) (by omega) (by omega)).mp c_1
        refine lv_iconst (v := 0) hx hb dX3_hashOfTable_28 (by decide) ?_
        refine lv_istore (lv' := [(6, .int 0), (0, .ref (a 0)), (3, .long hv), (5, .int (nI k))]) hx hb dX3_hashOfTable_29 hl (by decide) rfl (fun ls hl => ?_)
        refine lv_iload hx hb dX3_hashOfTable_31 (lv_at hl 0 rfl) ?_
        refine lv_iconst (v := 5) hx hb dX3_hashOfTable_33 (by decide) ?_
        refine ic_ge (tgt := 59) hx hb dX3_hashOfTable_34 (by decide) (fun c_2 => ?_) (fun c_2 => ?_)
        · skip
          exact absurd c_2 (by decide)
        · skip
          refine lv_lload_n hx hb dX3_hashOfTable_37 rfl (lv_at hl 2 rfl) ?_
          refine lv_aload_n hx hb dX3_hashOfTable_38 rfl (lv_at hl 1 rfl) ?_
          refine va_get (D := G) (ci := 3) (v := .ref (a 4)) (C := RX3) (T := TX3) (N := 7) hx hb hts hX3 hown hK hP (0) wX_e0 rfl 3 (by decide) (hts (.fieldLink RX3 27 "DraftSurvey" "table" "LDraftSurvey$Table;") (by decide +kernel)) (fun _ h9 => h9) rfl dX3_hashOfTable_39 ?_
          refine lv_iload hx hb dX3_hashOfTable_42 (lv_at hl 3 rfl) ?_
          refine lv_iload hx hb dX3_hashOfTable_44 (lv_at hl 0 rfl) ?_
          refine rd_callV (As := [.int (nI k), .int 0]) (rest := [.long hv]) ⟨hx, hb, hml, hown, hts⟩ (c_cell l G C a σ κ (r := k) (q := 0) hn (by omega) (by omega)) (cwV 2 hts gX3_hashOfTable_X2_cell rfl rfl rfl (by decide +kernel) ⟨Nat.le_of_ble_eq_true rfl, Nat.le_of_ble_eq_true rfl⟩) hK hN hP (4) 2 wX_e4 rfl rfl rfl hl.1 rfl (Nat.le_of_ble_eq_true rfl) dX3_hashOfTable_46 ⟨Nat.zero_le _, Nat.zero_le _⟩ ?_
          refine rd_callS (As := [.long hv, .long (g_tb σ (5 * k + 0))]) (rest := []) ⟨hx, hb, hml, hown, hts⟩ (c_hash l G C a σ κ hv (g_tb σ (5 * k + 0))) (va_cwS 2 hts gX3_hashOfTable_X3_hashWith rfl rfl rfl (by decide +kernel) ⟨Nat.le_of_ble_eq_true rfl, Nat.le_of_ble_eq_true rfl⟩) hK hN hP rfl hl.1 rfl (Nat.le_of_ble_eq_true rfl) dX3_hashOfTable_49 ⟨Nat.zero_le _, Nat.zero_le _⟩ ?_
          refine lv_lstore_n (lv' := [(3, .long (hsO hv (g_tb σ (5 * k + 0)))), (6, .int 0), (0, .ref (a 0)), (5, .int (nI k))]) hx hb dX3_hashOfTable_52 rfl hl (by decide) rfl (fun ls hl => ?_)
          refine lv_iinc (v := 1) (lv' := [(6, .int 1), (3, .long (hsO hv (g_tb σ (5 * k + 0)))), (0, .ref (a 0)), (5, .int (nI k))]) hx hb dX3_hashOfTable_53 hl (k := 1) rfl (by decide) (by decide) rfl (fun ls hl => ?_)
          refine lv_goto (tgt := 31) hx hb dX3_hashOfTable_56 (by decide) ?_
          refine lv_iload hx hb dX3_hashOfTable_31 (lv_at hl 0 rfl) ?_
          refine lv_iconst (v := 5) hx hb dX3_hashOfTable_33 (by decide) ?_
          refine ic_ge (tgt := 59) hx hb dX3_hashOfTable_34 (by decide) (fun c_3 => ?_) (fun c_3 => ?_)
          · skip
            exact absurd c_3 (by decide)
          · skip
            refine lv_lload_n hx hb dX3_hashOfTable_37 rfl (lv_at hl 1 rfl) ?_
            refine lv_aload_n hx hb dX3_hashOfTable_38 rfl (lv_at hl 2 rfl) ?_
            refine va_get (D := G) (ci := 3) (v := .ref (a 4)) (C := RX3) (T := TX3) (N := 7) hx hb hts hX3 hown hK hP (0) wX_e0 rfl 3 (by decide) (hts (.fieldLink RX3 27 "DraftSurvey" "table" "LDraftSurvey$Table;") (by decide +kernel)) (fun _ h9 => h9) rfl dX3_hashOfTable_39 ?_
            refine lv_iload hx hb dX3_hashOfTable_42 (lv_at hl 3 rfl) ?_
            refine lv_iload hx hb dX3_hashOfTable_44 (lv_at hl 0 rfl) ?_
            refine rd_callV (As := [.int (nI k), .int 1]) (rest := [.long (hsO hv (g_tb σ (5 * k + 0)))]) ⟨hx, hb, hml, hown, hts⟩ (c_cell l G C a σ κ (r := k) (q := 1) hn (by omega) (by omega)) (cwV 2 hts gX3_hashOfTable_X2_cell rfl rfl rfl (by decide +kernel) ⟨Nat.le_of_ble_eq_true rfl, Nat.le_of_ble_eq_true rfl⟩) hK hN hP (4) 2 wX_e4 rfl rfl rfl hl.1 rfl (Nat.le_of_ble_eq_true rfl) dX3_hashOfTable_46 ⟨Nat.zero_le _, Nat.zero_le _⟩ ?_
            refine rd_callS (As := [.long (hsO hv (g_tb σ (5 * k + 0))), .long (g_tb σ (5 * k + 1))]) (rest := []) ⟨hx, hb, hml, hown, hts⟩ (c_hash l G C a σ κ (hsO hv (g_tb σ (5 * k + 0))) (g_tb σ (5 * k + 1))) (va_cwS 2 hts gX3_hashOfTable_X3_hashWith rfl rfl rfl (by decide +kernel) ⟨Nat.le_of_ble_eq_true rfl, Nat.le_of_ble_eq_true rfl⟩) hK hN hP rfl hl.1 rfl (Nat.le_of_ble_eq_true rfl) dX3_hashOfTable_49 ⟨Nat.zero_le _, Nat.zero_le _⟩ ?_
            refine lv_lstore_n (lv' := [(3, .long (hsO (hsO hv (g_tb σ (5 * k + 0))) (g_tb σ (5 * k + 1)))), (6, .int 1), (0, .ref (a 0)), (5, .int (nI k))]) hx hb dX3_hashOfTable_52 rfl hl (by decide) rfl (fun ls hl => ?_)
            refine lv_iinc (v := 2) (lv' := [(6, .int 2), (3, .long (hsO (hsO hv (g_tb σ (5 * k + 0))) (g_tb σ (5 * k + 1)))), (0, .ref (a 0)), (5, .int (nI k))]) hx hb dX3_hashOfTable_53 hl (k := 1) rfl (by decide) (by decide) rfl (fun ls hl => ?_)
            refine lv_goto (tgt := 31) hx hb dX3_hashOfTable_56 (by decide) ?_
            refine lv_iload hx hb dX3_hashOfTable_31 (lv_at hl 0 rfl) ?_
            refine lv_iconst (v := 5) hx hb dX3_hashOfTable_33 (by decide) ?_
            refine ic_ge (tgt := 59) hx hb dX3_hashOfTable_34 (by decide) (fun c_4 => ?_) (fun c_4 => ?_)
            · skip
              exact absurd c_4 (by decide)
            · skip
              refine lv_lload_n hx hb dX3_hashOfTable_37 rfl (lv_at hl 1 rfl) ?_
              refine lv_aload_n hx hb dX3_hashOfTable_38 rfl (lv_at hl 2 rfl) ?_
              refine va_get (D := G) (ci := 3) (v := .ref (a 4)) (C := RX3) (T := TX3) (N := 7) hx hb hts hX3 hown hK hP (0) wX_e0 rfl 3 (by decide) (hts (.fieldLink RX3 27 "DraftSurvey" "table" "LDraftSurvey$Table;") (by decide +kernel)) (fun _ h9 => h9) rfl dX3_hashOfTable_39 ?_
              refine lv_iload hx hb dX3_hashOfTable_42 (lv_at hl 3 rfl) ?_
              refine lv_iload hx hb dX3_hashOfTable_44 (lv_at hl 0 rfl) ?_
              refine rd_callV (As := [.int (nI k), .int 2]) (rest := [.long (hsO (hsO hv (g_tb σ (5 * k + 0))) (g_tb σ (5 * k + 1)))]) ⟨hx, hb, hml, hown, hts⟩ (c_cell l G C a σ κ (r := k) (q := 2) hn (by omega) (by omega)) (cwV 2 hts gX3_hashOfTable_X2_cell rfl rfl rfl (by decide +kernel) ⟨Nat.le_of_ble_eq_true rfl, Nat.le_of_ble_eq_true rfl⟩) hK hN hP (4) 2 wX_e4 rfl rfl rfl hl.1 rfl (Nat.le_of_ble_eq_true rfl) dX3_hashOfTable_46 ⟨Nat.zero_le _, Nat.zero_le _⟩ ?_
              refine rd_callS (As := [.long (hsO (hsO hv (g_tb σ (5 * k + 0))) (g_tb σ (5 * k + 1))), .long (g_tb σ (5 * k + 2))]) (rest := []) ⟨hx, hb, hml, hown, hts⟩ (c_hash l G C a σ κ (hsO (hsO hv (g_tb σ (5 * k + 0))) (g_tb σ (5 * k + 1))) (g_tb σ (5 * k + 2))) (va_cwS 2 hts gX3_hashOfTable_X3_hashWith rfl rfl rfl (by decide +kernel) ⟨Nat.le_of_ble_eq_true rfl, Nat.le_of_ble_eq_true rfl⟩) hK hN hP rfl hl.1 rfl (Nat.le_of_ble_eq_true rfl) dX3_hashOfTable_49 ⟨Nat.zero_le _, Nat.zero_le _⟩ ?_
              refine lv_lstore_n (lv' := [(3, .long (hsO (hsO (hsO hv (g_tb σ (5 * k + 0))) (g_tb σ (5 * k + 1))) (g_tb σ (5 * k + 2)))), (6, .int 2), (0, .ref (a 0)), (5, .int (nI k))]) hx hb dX3_hashOfTable_52 rfl hl (by decide) rfl (fun ls hl => ?_)
              refine lv_iinc (v := 3) (lv' := [(6, .int 3), (3, .long (hsO (hsO (hsO hv (g_tb σ (5 * k + 0))) (g_tb σ (5 * k + 1))) (g_tb σ (5 * k + 2)))), (0, .ref (a 0)), (5, .int (nI k))]) hx hb dX3_hashOfTable_53 hl (k := 1) rfl (by decide) (by decide) rfl (fun ls hl => ?_)
              refine lv_goto (tgt := 31) hx hb dX3_hashOfTable_56 (by decide) ?_
              refine lv_iload hx hb dX3_hashOfTable_31 (lv_at hl 0 rfl) ?_
              refine lv_iconst (v := 5) hx hb dX3_hashOfTable_33 (by decide) ?_
              refine ic_ge (tgt := 59) hx hb dX3_hashOfTable_34 (by decide) (fun c_5 => ?_) (fun c_5 => ?_)
              · skip
                exact absurd c_5 (by decide)
              · skip
                refine lv_lload_n hx hb dX3_hashOfTable_37 rfl (lv_at hl 1 rfl) ?_
                refine lv_aload_n hx hb dX3_hashOfTable_38 rfl (lv_at hl 2 rfl) ?_
                refine va_get (D := G) (ci := 3) (v := .ref (a 4)) (C := RX3) (T := TX3) (N := 7) hx hb hts hX3 hown hK hP (0) wX_e0 rfl 3 (by decide) (hts (.fieldLink RX3 27 "DraftSurvey" "table" "LDraftSurvey$Table;") (by decide +kernel)) (fun _ h9 => h9) rfl dX3_hashOfTable_39 ?_
                refine lv_iload hx hb dX3_hashOfTable_42 (lv_at hl 3 rfl) ?_
                refine lv_iload hx hb dX3_hashOfTable_44 (lv_at hl 0 rfl) ?_
                refine rd_callV (As := [.int (nI k), .int 3]) (rest := [.long (hsO (hsO (hsO hv (g_tb σ (5 * k + 0))) (g_tb σ (5 * k + 1))) (g_tb σ (5 * k + 2)))]) ⟨hx, hb, hml, hown, hts⟩ (c_cell l G C a σ κ (r := k) (q := 3) hn (by omega) (by omega)) (cwV 2 hts gX3_hashOfTable_X2_cell rfl rfl rfl (by decide +kernel) ⟨Nat.le_of_ble_eq_true rfl, Nat.le_of_ble_eq_true rfl⟩) hK hN hP (4) 2 wX_e4 rfl rfl rfl hl.1 rfl (Nat.le_of_ble_eq_true rfl) dX3_hashOfTable_46 ⟨Nat.zero_le _, Nat.zero_le _⟩ ?_
                refine rd_callS (As := [.long (hsO (hsO (hsO hv (g_tb σ (5 * k + 0))) (g_tb σ (5 * k + 1))) (g_tb σ (5 * k + 2))), .long (g_tb σ (5 * k + 3))]) (rest := []) ⟨hx, hb, hml, hown, hts⟩ (c_hash l G C a σ κ (hsO (hsO (hsO hv (g_tb σ (5 * k + 0))) (g_tb σ (5 * k + 1))) (g_tb σ (5 * k + 2))) (g_tb σ (5 * k + 3))) (va_cwS 2 hts gX3_hashOfTable_X3_hashWith rfl rfl rfl (by decide +kernel) ⟨Nat.le_of_ble_eq_true rfl, Nat.le_of_ble_eq_true rfl⟩) hK hN hP rfl hl.1 rfl (Nat.le_of_ble_eq_true rfl) dX3_hashOfTable_49 ⟨Nat.zero_le _, Nat.zero_le _⟩ ?_
                refine lv_lstore_n (lv' := [(3, .long (hsO (hsO (hsO (hsO hv (g_tb σ (5 * k + 0))) (g_tb σ (5 * k + 1))) (g_tb σ (5 * k + 2))) (g_tb σ (5 * k + 3)))), (6, .int 3), (0, .ref (a 0)), (5, .int (nI k))]) hx hb dX3_hashOfTable_52 rfl hl (by decide) rfl (fun ls hl => ?_)
                refine lv_iinc (v := 4) (lv' := [(6, .int 4), (3, .long (hsO (hsO (hsO (hsO hv (g_tb σ (5 * k + 0))) (g_tb σ (5 * k + 1))) (g_tb σ (5 * k + 2))) (g_tb σ (5 * k + 3)))), (0, .ref (a 0)), (5, .int (nI k))]) hx hb dX3_hashOfTable_53 hl (k := 1) rfl (by decide) (by decide) rfl (fun ls hl => ?_)
                refine lv_goto (tgt := 31) hx hb dX3_hashOfTable_56 (by decide) ?_
                refine lv_iload hx hb dX3_hashOfTable_31 (lv_at hl 0 rfl) ?_
                refine lv_iconst (v := 5) hx hb dX3_hashOfTable_33 (by decide) ?_
                refine ic_ge (tgt := 59) hx hb dX3_hashOfTable_34 (by decide) (fun c_6 => ?_) (fun c_6 => ?_)
                · skip
                  exact absurd c_6 (by decide)
                · skip
                  refine lv_lload_n hx hb dX3_hashOfTable_37 rfl (lv_at hl 1 rfl) ?_
                  refine lv_aload_n hx hb dX3_hashOfTable_38 rfl (lv_at hl 2 rfl) ?_
                  refine va_get (D := G) (ci := 3) (v := .ref (a 4)) (C := RX3) (T := TX3) (N := 7) hx hb hts hX3 hown hK hP (0) wX_e0 rfl 3 (by decide) (hts (.fieldLink RX3 27 "DraftSurvey" "table" "LDraftSurvey$Table;") (by decide +kernel)) (fun _ h9 => h9) rfl dX3_hashOfTable_39 ?_
                  refine lv_iload hx hb dX3_hashOfTable_42 (lv_at hl 3 rfl) ?_
                  refine lv_iload hx hb dX3_hashOfTable_44 (lv_at hl 0 rfl) ?_
                  refine rd_callV (As := [.int (nI k), .int 4]) (rest := [.long (hsO (hsO (hsO (hsO hv (g_tb σ (5 * k + 0))) (g_tb σ (5 * k + 1))) (g_tb σ (5 * k + 2))) (g_tb σ (5 * k + 3)))]) ⟨hx, hb, hml, hown, hts⟩ (c_cell l G C a σ κ (r := k) (q := 4) hn (by omega) (by omega)) (cwV 2 hts gX3_hashOfTable_X2_cell rfl rfl rfl (by decide +kernel) ⟨Nat.le_of_ble_eq_true rfl, Nat.le_of_ble_eq_true rfl⟩) hK hN hP (4) 2 wX_e4 rfl rfl rfl hl.1 rfl (Nat.le_of_ble_eq_true rfl) dX3_hashOfTable_46 ⟨Nat.zero_le _, Nat.zero_le _⟩ ?_
                  refine rd_callS (As := [.long (hsO (hsO (hsO (hsO hv (g_tb σ (5 * k + 0))) (g_tb σ (5 * k + 1))) (g_tb σ (5 * k + 2))) (g_tb σ (5 * k + 3))), .long (g_tb σ (5 * k + 4))]) (rest := []) ⟨hx, hb, hml, hown, hts⟩ (c_hash l G C a σ κ (hsO (hsO (hsO (hsO hv (g_tb σ (5 * k + 0))) (g_tb σ (5 * k + 1))) (g_tb σ (5 * k + 2))) (g_tb σ (5 * k + 3))) (g_tb σ (5 * k + 4))) (va_cwS 2 hts gX3_hashOfTable_X3_hashWith rfl rfl rfl (by decide +kernel) ⟨Nat.le_of_ble_eq_true rfl, Nat.le_of_ble_eq_true rfl⟩) hK hN hP rfl hl.1 rfl (Nat.le_of_ble_eq_true rfl) dX3_hashOfTable_49 ⟨Nat.zero_le _, Nat.zero_le _⟩ ?_
                  refine lv_lstore_n (lv' := [(3, .long (hsO (hsO (hsO (hsO (hsO hv (g_tb σ (5 * k + 0))) (g_tb σ (5 * k + 1))) (g_tb σ (5 * k + 2))) (g_tb σ (5 * k + 3))) (g_tb σ (5 * k + 4)))), (6, .int 4), (0, .ref (a 0)), (5, .int (nI k))]) hx hb dX3_hashOfTable_52 rfl hl (by decide) rfl (fun ls hl => ?_)
                  refine lv_iinc (v := 5) (lv' := [(6, .int 5), (3, .long (hsO (hsO (hsO (hsO (hsO hv (g_tb σ (5 * k + 0))) (g_tb σ (5 * k + 1))) (g_tb σ (5 * k + 2))) (g_tb σ (5 * k + 3))) (g_tb σ (5 * k + 4)))), (0, .ref (a 0)), (5, .int (nI k))]) hx hb dX3_hashOfTable_53 hl (k := 1) rfl (by decide) (by decide) rfl (fun ls hl => ?_)
                  refine lv_goto (tgt := 31) hx hb dX3_hashOfTable_56 (by decide) ?_
                  refine lv_iload hx hb dX3_hashOfTable_31 (lv_at hl 0 rfl) ?_
                  refine lv_iconst (v := 5) hx hb dX3_hashOfTable_33 (by decide) ?_
                  refine ic_ge (tgt := 59) hx hb dX3_hashOfTable_34 (by decide) (fun c_7 => ?_) (fun c_7 => ?_)
                  · skip
                    refine lv_iinc (v := nI (k + 1)) (lv' := [(5, .int (nI (k + 1))), (6, .int 5), (3, .long (hsO (hsO (hsO (hsO (hsO hv (g_tb σ (5 * k + 0))) (g_tb σ (5 * k + 1))) (g_tb σ (5 * k + 2))) (g_tb σ (5 * k + 3))) (g_tb σ (5 * k + 4)))), (0, .ref (a 0))]) hx hb dX3_hashOfTable_59 hl (k := 3) rfl (nI_add k 1) (by decide) rfl (fun ls hl => ?_)
                    refine lv_goto (tgt := 16) hx hb dX3_hashOfTable_62 (by decide) ?_
                    exact ih (k + 1) (hsO (hsO (hsO (hsO (hsO hv (g_tb σ (5 * k + 0))) (g_tb σ (5 * k + 1))) (g_tb σ (5 * k + 2))) (g_tb σ (5 * k + 3))) (g_tb σ (5 * k + 4))) (by omega) (by omega) (by rw [g_2, show 5 * (k + 1) = 5 * k + 5 from by omega]; rfl) ls (lv_sub hl [3, 2, 0] rfl)
                  · skip
                    exact absurd c_7 (by decide)
  exact key16 (g_n σ + 1) 0 (hsO h (lN (g_n σ))) (by omega) (Nat.zero_le _) rfl ls (lv_sub hl [2, 1, 0] rfl)

set_option maxHeartbeats 4000000 in
set_option maxRecDepth 100000 in
theorem c_hsB (l : Launch) (G : va_G) (C : Nat → ClassId) (a : Nat → Nat) (σ : SG) (κ : KX) (hbl : g_bl σ ≤ 40) (h : Int64) : RdC l yX3_hashOfBuffer wsX3_hashOfBuffer ({ frames := 1, cells := 0, slots := 0, locals := 23 } : Room) G (tysC C) (wX C a σ κ) [.ref (a 0), .long h] (.long (hsB σ h)) := by
  refine Met.ofW (cc := cX3_hashOfBuffer) (maxL := 6) (ret := (some .long)) (by decide) rfl ?_
  intro p e s m args below meth c s₁ B hml hv
  obtain ⟨rfl, hP, hK, hN⟩ := hv
  have hx := B.exec
  have hb := B.bytes
  have hr := B.returns
  have hts := atoms_spec (ws := wsX3_hashOfBuffer) B.pre
  have hown : s.vm.findClass RX3 = some m.cls := findClass_of_methodNamed B.named
  have hlocks := B.notSynchronized
  have hX3 : ∀ w ∈ wsX30, w ∈ wsX3_hashOfBuffer := by decide +kernel
  have hP : va_P G vwCl (wX C a σ κ) s.heap := hP
  have hl := lv_entry ([.ref (a 0), .long h]) (n := 6) (Nat.le_of_ble_eq_true rfl)
  rw [lg_entry_eq]
  generalize (lg_sl ([.ref (a 0), .long h]) ++ List.replicate (6 - (lg_sl ([.ref (a 0), .long h])).length) Slot.unset).toArray = ls at hl ⊢
  have hl : lv_has ls 6 [(0, .ref (a 0)), (1, .long h)] := hl
  refine lv_lload_n hx hb dX3_hashOfBuffer_0 rfl (lv_at hl 1 rfl) ?_
  refine lv_aload_n hx hb dX3_hashOfBuffer_1 rfl (lv_at hl 0 rfl) ?_
  refine va_get (D := G) (ci := 3) (v := .int (nI (g_bl σ))) (C := RX3) (T := TX3) (N := 7) hx hb hts hX3 hown hK hP (0) wX_e0 rfl 1 (by decide) (hts (.fieldLink RX3 13 "DraftSurvey" "bufferLength" "I") (by decide +kernel)) (fun _ h9 => h9) rfl dX3_hashOfBuffer_2 ?_
  refine lv_i2l (v := lN (g_bl σ)) hx hb dX3_hashOfBuffer_5 (nI_l (by omega)) ?_
  refine rd_callS (As := [.long h, .long (lN (g_bl σ))]) (rest := []) ⟨hx, hb, hml, hown, hts⟩ (c_hash l G C a σ κ h (lN (g_bl σ))) (va_cwS 2 hts gX3_hashOfBuffer_X3_hashWith rfl rfl rfl (by decide +kernel) ⟨Nat.le_of_ble_eq_true rfl, Nat.le_of_ble_eq_true rfl⟩) hK hN hP rfl hl.1 rfl (Nat.le_of_ble_eq_true rfl) dX3_hashOfBuffer_6 ⟨Nat.zero_le _, Nat.zero_le _⟩ ?_
  refine lv_lstore_n (lv' := [(3, .long (hsO h (lN (g_bl σ)))), (0, .ref (a 0)), (1, .long h)]) hx hb dX3_hashOfBuffer_9 rfl hl (by decide) rfl (fun ls hl => ?_)
  refine lv_iconst (v := 0) hx hb dX3_hashOfBuffer_10 (by decide) ?_
  refine lv_istore (lv' := [(5, .int 0), (3, .long (hsO h (lN (g_bl σ)))), (0, .ref (a 0)), (1, .long h)]) hx hb dX3_hashOfBuffer_11 hl (by decide) rfl (fun ls hl => ?_)
  have key13 : ∀ (n_ : Nat) (k : Nat) (hv : Int64), g_bl σ + 1 ≤ k + n_ → k ≤ g_bl σ → hv = hsL (fun k => (g_bf σ k).toInt64) (hsO h (lN (g_bl σ))) k → ∀ ls : Array Slot, lv_has ls 6 [(0, .ref (a 0)), (3, .long hv), (5, .int (nI k))] → W p l e (headSpec wsX3_hashOfBuffer ({ frames := 1, cells := 0, slots := 0, locals := 23 } : Room)).room s m ([.ref (a 0), .long h] : List Value).toArray below meth c s.heap [] 0 0 (MQ below (k2_QcV (.long (hsB σ h))) ([.ref (a 0), .long h] : List Value).toArray s 0 0 (fun _ => False)) (F0 m 13 ls []) := by
    intro n_
    induction n_ with
    | zero =>
      intro k hv g_0 g_1 g_2 ls hl
      exact absurd g_0 (by omega)
    | succ n_ ih =>
      intro k hv g_0 g_1 g_2 ls hl
      refine lv_iload hx hb dX3_hashOfBuffer_13 (lv_at hl 2 rfl) ?_
      refine lv_aload_n hx hb dX3_hashOfBuffer_15 rfl (lv_at hl 0 rfl) ?_
      refine va_get (D := G) (ci := 3) (v := .int (nI (g_bl σ))) (C := RX3) (T := TX3) (N := 7) hx hb hts hX3 hown hK hP (0) wX_e0 rfl 1 (by decide) (hts (.fieldLink RX3 13 "DraftSurvey" "bufferLength" "I") (by decide +kernel)) (fun _ h9 => h9) rfl dX3_hashOfBuffer_16 ?_
      refine ic_ge (tgt := 48) hx hb dX3_hashOfBuffer_19 (by decide) (fun c_1 => ?_) (fun c_1 => ?_)
      · skip
        have c_1 : ¬ k < (g_bl σ) := fun z9 => c_1 ((nI_ltI (a := k) (b := (g_bl σ)) (by omega) (by omega)).mpr z9)
        refine lv_lload_n hx hb dX3_hashOfBuffer_48 rfl (lv_at hl 1 rfl) ?_
        exact rd_lret hx hb hr hlocks (congrArg Value.long (by rw [g_2, show k = g_bl σ from by omega]; rfl)) dX3_hashOfBuffer_49
      · skip
        have c_1 : k < (g_bl σ) := (nI_ltI (a := k) (b := (g_bl σ)) (by omega) (by omega)).mp c_1
        refine lv_iload hx hb dX3_hashOfBuffer_22 (lv_at hl 2 rfl) ?_
        refine lv_bipush (v := 40) hx hb dX3_hashOfBuffer_24 (by decide) ?_
        refine ic_ge (tgt := 48) hx hb dX3_hashOfBuffer_26 (by decide) (fun c_2 => ?_) (fun c_2 => ?_)
        · skip
          have c_2 : ¬ k < 40 := fun z9 => c_2 ((nI_ltI (a := k) (b := 40) (by omega) (by omega)).mpr z9)
          exact (show False by omega).elim
        · skip
          have c_2 : k < 40 := (nI_ltI (a := k) (b := 40) (by omega) (by omega)).mp c_2
          refine lv_lload_n hx hb dX3_hashOfBuffer_29 rfl (lv_at hl 1 rfl) ?_
          refine lv_aload_n hx hb dX3_hashOfBuffer_30 rfl (lv_at hl 0 rfl) ?_
          refine va_get (D := G) (ci := 3) (v := .ref (a 1)) (C := RX3) (T := TX3) (N := 7) hx hb hts hX3 hown hK hP (0) wX_e0 rfl 0 (by decide) (hts (.fieldLink RX3 9 "DraftSurvey" "buffer" "[I") (by decide +kernel)) (fun _ h9 => h9) rfl dX3_hashOfBuffer_31 ?_
          refine lv_iload hx hb dX3_hashOfBuffer_34 (lv_at hl 2 rfl) ?_
          refine ar_i (k := k) (v := g_bf σ k) hx hb hK hP (1) 0 wX_e1 rfl rfl (by omega) (by decide) rfl dX3_hashOfBuffer_36 ?_
          refine lv_i2l (v := (g_bf σ k).toInt64) hx hb dX3_hashOfBuffer_37 rfl ?_
          refine rd_callS (As := [.long hv, .long ((g_bf σ k).toInt64)]) (rest := []) ⟨hx, hb, hml, hown, hts⟩ (c_hash l G C a σ κ hv ((g_bf σ k).toInt64)) (va_cwS 2 hts gX3_hashOfBuffer_X3_hashWith rfl rfl rfl (by decide +kernel) ⟨Nat.le_of_ble_eq_true rfl, Nat.le_of_ble_eq_true rfl⟩) hK hN hP rfl hl.1 rfl (Nat.le_of_ble_eq_true rfl) dX3_hashOfBuffer_38 ⟨Nat.zero_le _, Nat.zero_le _⟩ ?_
          refine lv_lstore_n (lv' := [(3, .long (hsO hv ((g_bf σ k).toInt64))), (0, .ref (a 0)), (5, .int (nI k))]) hx hb dX3_hashOfBuffer_41 rfl hl (by decide) rfl (fun ls hl => ?_)
          refine lv_iinc (v := nI (k + 1)) (lv' := [(5, .int (nI (k + 1))), (3, .long (hsO hv ((g_bf σ k).toInt64))), (0, .ref (a 0))]) hx hb dX3_hashOfBuffer_42 hl (k := 2) rfl (nI_add k 1) (by decide) rfl (fun ls hl => ?_)
          refine lv_goto (tgt := 13) hx hb dX3_hashOfBuffer_45 (by decide) ?_
          exact ih (k + 1) (hsO hv ((g_bf σ k).toInt64)) (by omega) (by omega) (by rw [g_2]; rfl) ls (lv_sub hl [2, 1, 0] rfl)
  exact key13 (g_bl σ + 1) 0 (hsO h (lN (g_bl σ))) (by omega) (Nat.zero_le _) rfl ls (lv_sub hl [2, 1, 0] rfl)

set_option maxHeartbeats 4000000 in
set_option maxRecDepth 100000 in
theorem c_hsS (l : Launch) (G : va_G) (C : Nat → ClassId) (a : Nat → Nat) (σ : SG) (κ : KX) (hn : g_n σ ≤ 10) {j : Nat} (hj : j < 4) (h : Int64) : RdC l yX3_hashOfSurvey wsX3_hashOfSurvey ({ frames := 6, cells := 0, slots := 0, locals := 165 } : Room) G (tysC C) (wX C a σ κ) [.ref (a 0), .long h, .int (nI j)] (.long (hsS σ j h)) := by
  refine Met.ofW (cc := cX3_hashOfSurvey) (maxL := 7) (ret := (some .long)) (by decide) rfl ?_
  intro p e s m args below meth c s₁ B hml hv
  obtain ⟨rfl, hP, hK, hN⟩ := hv
  have hx := B.exec
  have hb := B.bytes
  have hr := B.returns
  have hts := atoms_spec (ws := wsX3_hashOfSurvey) B.pre
  have hown : s.vm.findClass RX3 = some m.cls := findClass_of_methodNamed B.named
  have hlocks := B.notSynchronized
  have hP : va_P G vwCl (wX C a σ κ) s.heap := hP
  have hl := lv_entry ([.ref (a 0), .long h, .int (nI j)]) (n := 7) (Nat.le_of_ble_eq_true rfl)
  rw [lg_entry_eq]
  generalize (lg_sl ([.ref (a 0), .long h, .int (nI j)]) ++ List.replicate (7 - (lg_sl ([.ref (a 0), .long h, .int (nI j)])).length) Slot.unset).toArray = ls at hl ⊢
  have hl : lv_has ls 7 [(0, .ref (a 0)), (1, .long h), (3, .int (nI j))] := hl
  refine lv_lload_n hx hb dX3_hashOfSurvey_0 rfl (lv_at hl 1 rfl) ?_
  refine lv_lstore (lv' := [(4, .long h), (0, .ref (a 0)), (1, .long h), (3, .int (nI j))]) hx hb dX3_hashOfSurvey_1 hl (by decide) rfl (fun ls hl => ?_)
  refine lv_iconst (v := 0) hx hb dX3_hashOfSurvey_3 (by decide) ?_
  refine lv_istore (lv' := [(6, .int 0), (4, .long h), (0, .ref (a 0)), (1, .long h), (3, .int (nI j))]) hx hb dX3_hashOfSurvey_4 hl (by decide) rfl (fun ls hl => ?_)
  refine lv_iload hx hb dX3_hashOfSurvey_6 (lv_at hl 0 rfl) ?_
  refine lv_bipush (v := 6) hx hb dX3_hashOfSurvey_8 (by decide) ?_
  refine ic_ge (tgt := 33) hx hb dX3_hashOfSurvey_10 (by decide) (fun c_1 => ?_) (fun c_1 => ?_)
  · skip
    exact absurd c_1 (by decide)
  · skip
    refine lv_lload hx hb dX3_hashOfSurvey_13 (lv_at hl 1 rfl) ?_
    refine lv_aload_n hx hb dX3_hashOfSurvey_15 rfl (lv_at hl 2 rfl) ?_
    refine lv_iload_n hx hb dX3_hashOfSurvey_16 rfl (lv_at hl 4 rfl) ?_
    refine lv_iload hx hb dX3_hashOfSurvey_17 (lv_at hl 0 rfl) ?_
    refine rd_callV (As := [.int (nI j), .int 0]) (rest := [.long h]) ⟨hx, hb, hml, hown, hts⟩ (c_read_ii l G C a σ κ (j := j) hj (m_ := 0) (by decide)) (cwV 2 hts gX3_hashOfSurvey_X3_reading rfl rfl rfl (by decide +kernel) ⟨Nat.le_of_ble_eq_true rfl, Nat.le_of_ble_eq_true rfl⟩) hK hN hP (0) 3 wX_e0 rfl rfl rfl hl.1 rfl (Nat.le_of_ble_eq_true rfl) dX3_hashOfSurvey_19 ⟨Nat.zero_le _, Nat.zero_le _⟩ ?_
    refine rd_callS (As := [.long h, .long (g_rd σ (6 * j + 0))]) (rest := []) ⟨hx, hb, hml, hown, hts⟩ (c_hash l G C a σ κ h (g_rd σ (6 * j + 0))) (va_cwS 2 hts gX3_hashOfSurvey_X3_hashWith rfl rfl rfl (by decide +kernel) ⟨Nat.le_of_ble_eq_true rfl, Nat.le_of_ble_eq_true rfl⟩) hK hN hP rfl hl.1 rfl (Nat.le_of_ble_eq_true rfl) dX3_hashOfSurvey_22 ⟨Nat.zero_le _, Nat.zero_le _⟩ ?_
    refine lv_lstore (lv' := [(4, .long (hsO h (g_rd σ (6 * j + 0)))), (6, .int 0), (0, .ref (a 0)), (1, .long h), (3, .int (nI j))]) hx hb dX3_hashOfSurvey_25 hl (by decide) rfl (fun ls hl => ?_)
    refine lv_iinc (v := 1) (lv' := [(6, .int 1), (4, .long (hsO h (g_rd σ (6 * j + 0)))), (0, .ref (a 0)), (1, .long h), (3, .int (nI j))]) hx hb dX3_hashOfSurvey_27 hl (k := 1) rfl (by decide) (by decide) rfl (fun ls hl => ?_)
    refine lv_goto (tgt := 6) hx hb dX3_hashOfSurvey_30 (by decide) ?_
    refine lv_iload hx hb dX3_hashOfSurvey_6 (lv_at hl 0 rfl) ?_
    refine lv_bipush (v := 6) hx hb dX3_hashOfSurvey_8 (by decide) ?_
    refine ic_ge (tgt := 33) hx hb dX3_hashOfSurvey_10 (by decide) (fun c_2 => ?_) (fun c_2 => ?_)
    · skip
      exact absurd c_2 (by decide)
    · skip
      refine lv_lload hx hb dX3_hashOfSurvey_13 (lv_at hl 1 rfl) ?_
      refine lv_aload_n hx hb dX3_hashOfSurvey_15 rfl (lv_at hl 2 rfl) ?_
      refine lv_iload_n hx hb dX3_hashOfSurvey_16 rfl (lv_at hl 4 rfl) ?_
      refine lv_iload hx hb dX3_hashOfSurvey_17 (lv_at hl 0 rfl) ?_
      refine rd_callV (As := [.int (nI j), .int 1]) (rest := [.long (hsO h (g_rd σ (6 * j + 0)))]) ⟨hx, hb, hml, hown, hts⟩ (c_read_ii l G C a σ κ (j := j) hj (m_ := 1) (by decide)) (cwV 2 hts gX3_hashOfSurvey_X3_reading rfl rfl rfl (by decide +kernel) ⟨Nat.le_of_ble_eq_true rfl, Nat.le_of_ble_eq_true rfl⟩) hK hN hP (0) 3 wX_e0 rfl rfl rfl hl.1 rfl (Nat.le_of_ble_eq_true rfl) dX3_hashOfSurvey_19 ⟨Nat.zero_le _, Nat.zero_le _⟩ ?_
      refine rd_callS (As := [.long (hsO h (g_rd σ (6 * j + 0))), .long (g_rd σ (6 * j + 1))]) (rest := []) ⟨hx, hb, hml, hown, hts⟩ (c_hash l G C a σ κ (hsO h (g_rd σ (6 * j + 0))) (g_rd σ (6 * j + 1))) (va_cwS 2 hts gX3_hashOfSurvey_X3_hashWith rfl rfl rfl (by decide +kernel) ⟨Nat.le_of_ble_eq_true rfl, Nat.le_of_ble_eq_true rfl⟩) hK hN hP rfl hl.1 rfl (Nat.le_of_ble_eq_true rfl) dX3_hashOfSurvey_22 ⟨Nat.zero_le _, Nat.zero_le _⟩ ?_
      refine lv_lstore (lv' := [(4, .long (hsO (hsO h (g_rd σ (6 * j + 0))) (g_rd σ (6 * j + 1)))), (6, .int 1), (0, .ref (a 0)), (1, .long h), (3, .int (nI j))]) hx hb dX3_hashOfSurvey_25 hl (by decide) rfl (fun ls hl => ?_)
      refine lv_iinc (v := 2) (lv' := [(6, .int 2), (4, .long (hsO (hsO h (g_rd σ (6 * j + 0))) (g_rd σ (6 * j + 1)))), (0, .ref (a 0)), (1, .long h), (3, .int (nI j))]) hx hb dX3_hashOfSurvey_27 hl (k := 1) rfl (by decide) (by decide) rfl (fun ls hl => ?_)
      refine lv_goto (tgt := 6) hx hb dX3_hashOfSurvey_30 (by decide) ?_
      refine lv_iload hx hb dX3_hashOfSurvey_6 (lv_at hl 0 rfl) ?_
      refine lv_bipush (v := 6) hx hb dX3_hashOfSurvey_8 (by decide) ?_
      refine ic_ge (tgt := 33) hx hb dX3_hashOfSurvey_10 (by decide) (fun c_3 => ?_) (fun c_3 => ?_)
      · skip
        exact absurd c_3 (by decide)
      · skip
        refine lv_lload hx hb dX3_hashOfSurvey_13 (lv_at hl 1 rfl) ?_
        refine lv_aload_n hx hb dX3_hashOfSurvey_15 rfl (lv_at hl 2 rfl) ?_
        refine lv_iload_n hx hb dX3_hashOfSurvey_16 rfl (lv_at hl 4 rfl) ?_
        refine lv_iload hx hb dX3_hashOfSurvey_17 (lv_at hl 0 rfl) ?_
        refine rd_callV (As := [.int (nI j), .int 2]) (rest := [.long (hsO (hsO h (g_rd σ (6 * j + 0))) (g_rd σ (6 * j + 1)))]) ⟨hx, hb, hml, hown, hts⟩ (c_read_ii l G C a σ κ (j := j) hj (m_ := 2) (by decide)) (cwV 2 hts gX3_hashOfSurvey_X3_reading rfl rfl rfl (by decide +kernel) ⟨Nat.le_of_ble_eq_true rfl, Nat.le_of_ble_eq_true rfl⟩) hK hN hP (0) 3 wX_e0 rfl rfl rfl hl.1 rfl (Nat.le_of_ble_eq_true rfl) dX3_hashOfSurvey_19 ⟨Nat.zero_le _, Nat.zero_le _⟩ ?_
        refine rd_callS (As := [.long (hsO (hsO h (g_rd σ (6 * j + 0))) (g_rd σ (6 * j + 1))), .long (g_rd σ (6 * j + 2))]) (rest := []) ⟨hx, hb, hml, hown, hts⟩ (c_hash l G C a σ κ (hsO (hsO h (g_rd σ (6 * j + 0))) (g_rd σ (6 * j + 1))) (g_rd σ (6 * j + 2))) (va_cwS 2 hts gX3_hashOfSurvey_X3_hashWith rfl rfl rfl (by decide +kernel) ⟨Nat.le_of_ble_eq_true rfl, Nat.le_of_ble_eq_true rfl⟩) hK hN hP rfl hl.1 rfl (Nat.le_of_ble_eq_true rfl) dX3_hashOfSurvey_22 ⟨Nat.zero_le _, Nat.zero_le _⟩ ?_
        refine lv_lstore (lv' := [(4, .long (hsO (hsO (hsO h (g_rd σ (6 * j + 0))) (g_rd σ (6 * j + 1))) (g_rd σ (6 * j + 2)))), (6, .int 2), (0, .ref (a 0)), (1, .long h), (3, .int (nI j))]) hx hb dX3_hashOfSurvey_25 hl (by decide) rfl (fun ls hl => ?_)
        refine lv_iinc (v := 3) (lv' := [(6, .int 3), (4, .long (hsO (hsO (hsO h (g_rd σ (6 * j + 0))) (g_rd σ (6 * j + 1))) (g_rd σ (6 * j + 2)))), (0, .ref (a 0)), (1, .long h), (3, .int (nI j))]) hx hb dX3_hashOfSurvey_27 hl (k := 1) rfl (by decide) (by decide) rfl (fun ls hl => ?_)
        refine lv_goto (tgt := 6) hx hb dX3_hashOfSurvey_30 (by decide) ?_
        refine lv_iload hx hb dX3_hashOfSurvey_6 (lv_at hl 0 rfl) ?_
        refine lv_bipush (v := 6) hx hb dX3_hashOfSurvey_8 (by decide) ?_
        refine ic_ge (tgt := 33) hx hb dX3_hashOfSurvey_10 (by decide) (fun c_4 => ?_) (fun c_4 => ?_)
        · skip
          exact absurd c_4 (by decide)
        · skip
          refine lv_lload hx hb dX3_hashOfSurvey_13 (lv_at hl 1 rfl) ?_
          refine lv_aload_n hx hb dX3_hashOfSurvey_15 rfl (lv_at hl 2 rfl) ?_
          refine lv_iload_n hx hb dX3_hashOfSurvey_16 rfl (lv_at hl 4 rfl) ?_
          refine lv_iload hx hb dX3_hashOfSurvey_17 (lv_at hl 0 rfl) ?_
          refine rd_callV (As := [.int (nI j), .int 3]) (rest := [.long (hsO (hsO (hsO h (g_rd σ (6 * j + 0))) (g_rd σ (6 * j + 1))) (g_rd σ (6 * j + 2)))]) ⟨hx, hb, hml, hown, hts⟩ (c_read_ii l G C a σ κ (j := j) hj (m_ := 3) (by decide)) (cwV 2 hts gX3_hashOfSurvey_X3_reading rfl rfl rfl (by decide +kernel) ⟨Nat.le_of_ble_eq_true rfl, Nat.le_of_ble_eq_true rfl⟩) hK hN hP (0) 3 wX_e0 rfl rfl rfl hl.1 rfl (Nat.le_of_ble_eq_true rfl) dX3_hashOfSurvey_19 ⟨Nat.zero_le _, Nat.zero_le _⟩ ?_
          refine rd_callS (As := [.long (hsO (hsO (hsO h (g_rd σ (6 * j + 0))) (g_rd σ (6 * j + 1))) (g_rd σ (6 * j + 2))), .long (g_rd σ (6 * j + 3))]) (rest := []) ⟨hx, hb, hml, hown, hts⟩ (c_hash l G C a σ κ (hsO (hsO (hsO h (g_rd σ (6 * j + 0))) (g_rd σ (6 * j + 1))) (g_rd σ (6 * j + 2))) (g_rd σ (6 * j + 3))) (va_cwS 2 hts gX3_hashOfSurvey_X3_hashWith rfl rfl rfl (by decide +kernel) ⟨Nat.le_of_ble_eq_true rfl, Nat.le_of_ble_eq_true rfl⟩) hK hN hP rfl hl.1 rfl (Nat.le_of_ble_eq_true rfl) dX3_hashOfSurvey_22 ⟨Nat.zero_le _, Nat.zero_le _⟩ ?_
          refine lv_lstore (lv' := [(4, .long (hsO (hsO (hsO (hsO h (g_rd σ (6 * j + 0))) (g_rd σ (6 * j + 1))) (g_rd σ (6 * j + 2))) (g_rd σ (6 * j + 3)))), (6, .int 3), (0, .ref (a 0)), (1, .long h), (3, .int (nI j))]) hx hb dX3_hashOfSurvey_25 hl (by decide) rfl (fun ls hl => ?_)
          refine lv_iinc (v := 4) (lv' := [(6, .int 4), (4, .long (hsO (hsO (hsO (hsO h (g_rd σ (6 * j + 0))) (g_rd σ (6 * j + 1))) (g_rd σ (6 * j + 2))) (g_rd σ (6 * j + 3)))), (0, .ref (a 0)), (1, .long h), (3, .int (nI j))]) hx hb dX3_hashOfSurvey_27 hl (k := 1) rfl (by decide) (by decide) rfl (fun ls hl => ?_)
          refine lv_goto (tgt := 6) hx hb dX3_hashOfSurvey_30 (by decide) ?_
          refine lv_iload hx hb dX3_hashOfSurvey_6 (lv_at hl 0 rfl) ?_
          refine lv_bipush (v := 6) hx hb dX3_hashOfSurvey_8 (by decide) ?_
          refine ic_ge (tgt := 33) hx hb dX3_hashOfSurvey_10 (by decide) (fun c_5 => ?_) (fun c_5 => ?_)
          · skip
            exact absurd c_5 (by decide)
          · skip
            refine lv_lload hx hb dX3_hashOfSurvey_13 (lv_at hl 1 rfl) ?_
            refine lv_aload_n hx hb dX3_hashOfSurvey_15 rfl (lv_at hl 2 rfl) ?_
            refine lv_iload_n hx hb dX3_hashOfSurvey_16 rfl (lv_at hl 4 rfl) ?_
            refine lv_iload hx hb dX3_hashOfSurvey_17 (lv_at hl 0 rfl) ?_
            refine rd_callV (As := [.int (nI j), .int 4]) (rest := [.long (hsO (hsO (hsO (hsO h (g_rd σ (6 * j + 0))) (g_rd σ (6 * j + 1))) (g_rd σ (6 * j + 2))) (g_rd σ (6 * j + 3)))]) ⟨hx, hb, hml, hown, hts⟩ (c_read_ii l G C a σ κ (j := j) hj (m_ := 4) (by decide)) (cwV 2 hts gX3_hashOfSurvey_X3_reading rfl rfl rfl (by decide +kernel) ⟨Nat.le_of_ble_eq_true rfl, Nat.le_of_ble_eq_true rfl⟩) hK hN hP (0) 3 wX_e0 rfl rfl rfl hl.1 rfl (Nat.le_of_ble_eq_true rfl) dX3_hashOfSurvey_19 ⟨Nat.zero_le _, Nat.zero_le _⟩ ?_
            refine rd_callS (As := [.long (hsO (hsO (hsO (hsO h (g_rd σ (6 * j + 0))) (g_rd σ (6 * j + 1))) (g_rd σ (6 * j + 2))) (g_rd σ (6 * j + 3))), .long (g_rd σ (6 * j + 4))]) (rest := []) ⟨hx, hb, hml, hown, hts⟩ (c_hash l G C a σ κ (hsO (hsO (hsO (hsO h (g_rd σ (6 * j + 0))) (g_rd σ (6 * j + 1))) (g_rd σ (6 * j + 2))) (g_rd σ (6 * j + 3))) (g_rd σ (6 * j + 4))) (va_cwS 2 hts gX3_hashOfSurvey_X3_hashWith rfl rfl rfl (by decide +kernel) ⟨Nat.le_of_ble_eq_true rfl, Nat.le_of_ble_eq_true rfl⟩) hK hN hP rfl hl.1 rfl (Nat.le_of_ble_eq_true rfl) dX3_hashOfSurvey_22 ⟨Nat.zero_le _, Nat.zero_le _⟩ ?_
            refine lv_lstore (lv' := [(4, .long (hsO (hsO (hsO (hsO (hsO h (g_rd σ (6 * j + 0))) (g_rd σ (6 * j + 1))) (g_rd σ (6 * j + 2))) (g_rd σ (6 * j + 3))) (g_rd σ (6 * j + 4)))), (6, .int 4), (0, .ref (a 0)), (1, .long h), (3, .int (nI j))]) hx hb dX3_hashOfSurvey_25 hl (by decide) rfl (fun ls hl => ?_)
            refine lv_iinc (v := 5) (lv' := [(6, .int 5), (4, .long (hsO (hsO (hsO (hsO (hsO h (g_rd σ (6 * j + 0))) (g_rd σ (6 * j + 1))) (g_rd σ (6 * j + 2))) (g_rd σ (6 * j + 3))) (g_rd σ (6 * j + 4)))), (0, .ref (a 0)), (1, .long h), (3, .int (nI j))]) hx hb dX3_hashOfSurvey_27 hl (k := 1) rfl (by decide) (by decide) rfl (fun ls hl => ?_)
            refine lv_goto (tgt := 6) hx hb dX3_hashOfSurvey_30 (by decide) ?_
            refine lv_iload hx hb dX3_hashOfSurvey_6 (lv_at hl 0 rfl) ?_
            refine lv_bipush (v := 6) hx hb dX3_hashOfSurvey_8 (by decide) ?_
            refine ic_ge (tgt := 33) hx hb dX3_hashOfSurvey_10 (by decide) (fun c_6 => ?_) (fun c_6 => ?_)
            · skip
              exact absurd c_6 (by decide)
            · skip
              refine lv_lload hx hb dX3_hashOfSurvey_13 (lv_at hl 1 rfl) ?_
              refine lv_aload_n hx hb dX3_hashOfSurvey_15 rfl (lv_at hl 2 rfl) ?_
              refine lv_iload_n hx hb dX3_hashOfSurvey_16 rfl (lv_at hl 4 rfl) ?_
              refine lv_iload hx hb dX3_hashOfSurvey_17 (lv_at hl 0 rfl) ?_
              refine rd_callV (As := [.int (nI j), .int 5]) (rest := [.long (hsO (hsO (hsO (hsO (hsO h (g_rd σ (6 * j + 0))) (g_rd σ (6 * j + 1))) (g_rd σ (6 * j + 2))) (g_rd σ (6 * j + 3))) (g_rd σ (6 * j + 4)))]) ⟨hx, hb, hml, hown, hts⟩ (c_read_ii l G C a σ κ (j := j) hj (m_ := 5) (by decide)) (cwV 2 hts gX3_hashOfSurvey_X3_reading rfl rfl rfl (by decide +kernel) ⟨Nat.le_of_ble_eq_true rfl, Nat.le_of_ble_eq_true rfl⟩) hK hN hP (0) 3 wX_e0 rfl rfl rfl hl.1 rfl (Nat.le_of_ble_eq_true rfl) dX3_hashOfSurvey_19 ⟨Nat.zero_le _, Nat.zero_le _⟩ ?_
              refine rd_callS (As := [.long (hsO (hsO (hsO (hsO (hsO h (g_rd σ (6 * j + 0))) (g_rd σ (6 * j + 1))) (g_rd σ (6 * j + 2))) (g_rd σ (6 * j + 3))) (g_rd σ (6 * j + 4))), .long (g_rd σ (6 * j + 5))]) (rest := []) ⟨hx, hb, hml, hown, hts⟩ (c_hash l G C a σ κ (hsO (hsO (hsO (hsO (hsO h (g_rd σ (6 * j + 0))) (g_rd σ (6 * j + 1))) (g_rd σ (6 * j + 2))) (g_rd σ (6 * j + 3))) (g_rd σ (6 * j + 4))) (g_rd σ (6 * j + 5))) (va_cwS 2 hts gX3_hashOfSurvey_X3_hashWith rfl rfl rfl (by decide +kernel) ⟨Nat.le_of_ble_eq_true rfl, Nat.le_of_ble_eq_true rfl⟩) hK hN hP rfl hl.1 rfl (Nat.le_of_ble_eq_true rfl) dX3_hashOfSurvey_22 ⟨Nat.zero_le _, Nat.zero_le _⟩ ?_
              refine lv_lstore (lv' := [(4, .long (hsO (hsO (hsO (hsO (hsO (hsO h (g_rd σ (6 * j + 0))) (g_rd σ (6 * j + 1))) (g_rd σ (6 * j + 2))) (g_rd σ (6 * j + 3))) (g_rd σ (6 * j + 4))) (g_rd σ (6 * j + 5)))), (6, .int 5), (0, .ref (a 0)), (1, .long h), (3, .int (nI j))]) hx hb dX3_hashOfSurvey_25 hl (by decide) rfl (fun ls hl => ?_)
              refine lv_iinc (v := 6) (lv' := [(6, .int 6), (4, .long (hsO (hsO (hsO (hsO (hsO (hsO h (g_rd σ (6 * j + 0))) (g_rd σ (6 * j + 1))) (g_rd σ (6 * j + 2))) (g_rd σ (6 * j + 3))) (g_rd σ (6 * j + 4))) (g_rd σ (6 * j + 5)))), (0, .ref (a 0)), (1, .long h), (3, .int (nI j))]) hx hb dX3_hashOfSurvey_27 hl (k := 1) rfl (by decide) (by decide) rfl (fun ls hl => ?_)
              refine lv_goto (tgt := 6) hx hb dX3_hashOfSurvey_30 (by decide) ?_
              refine lv_iload hx hb dX3_hashOfSurvey_6 (lv_at hl 0 rfl) ?_
              refine lv_bipush (v := 6) hx hb dX3_hashOfSurvey_8 (by decide) ?_
              refine ic_ge (tgt := 33) hx hb dX3_hashOfSurvey_10 (by decide) (fun c_7 => ?_) (fun c_7 => ?_)
              · skip
                refine lv_lload hx hb dX3_hashOfSurvey_33 (lv_at hl 1 rfl) ?_
                refine lv_aload_n hx hb dX3_hashOfSurvey_35 rfl (lv_at hl 2 rfl) ?_
                refine lv_iload_n hx hb dX3_hashOfSurvey_36 rfl (lv_at hl 4 rfl) ?_
                refine rd_callV (As := [.int (nI j)]) (rest := [.long (hsO (hsO (hsO (hsO (hsO (hsO h (g_rd σ (6 * j + 0))) (g_rd σ (6 * j + 1))) (g_rd σ (6 * j + 2))) (g_rd σ (6 * j + 3))) (g_rd σ (6 * j + 4))) (g_rd σ (6 * j + 5)))]) ⟨hx, hb, hml, hown, hts⟩ (c_trim_i l G C a σ κ (j := j) hj) (cwV 1 hts gX3_hashOfSurvey_X3_trim rfl rfl rfl (by decide +kernel) ⟨Nat.le_of_ble_eq_true rfl, Nat.le_of_ble_eq_true rfl⟩) hK hN hP (0) 3 wX_e0 rfl rfl rfl hl.1 rfl (Nat.le_of_ble_eq_true rfl) dX3_hashOfSurvey_37 ⟨Nat.zero_le _, Nat.zero_le _⟩ ?_
                refine rd_callS (As := [.long (hsO (hsO (hsO (hsO (hsO (hsO h (g_rd σ (6 * j + 0))) (g_rd σ (6 * j + 1))) (g_rd σ (6 * j + 2))) (g_rd σ (6 * j + 3))) (g_rd σ (6 * j + 4))) (g_rd σ (6 * j + 5))), .long (tr σ j)]) (rest := []) ⟨hx, hb, hml, hown, hts⟩ (c_hash l G C a σ κ (hsO (hsO (hsO (hsO (hsO (hsO h (g_rd σ (6 * j + 0))) (g_rd σ (6 * j + 1))) (g_rd σ (6 * j + 2))) (g_rd σ (6 * j + 3))) (g_rd σ (6 * j + 4))) (g_rd σ (6 * j + 5))) (tr σ j)) (va_cwS 2 hts gX3_hashOfSurvey_X3_hashWith rfl rfl rfl (by decide +kernel) ⟨Nat.le_of_ble_eq_true rfl, Nat.le_of_ble_eq_true rfl⟩) hK hN hP rfl hl.1 rfl (Nat.le_of_ble_eq_true rfl) dX3_hashOfSurvey_40 ⟨Nat.zero_le _, Nat.zero_le _⟩ ?_
                refine lv_lstore (lv' := [(4, .long (hsO (hsO (hsO (hsO (hsO (hsO (hsO h (g_rd σ (6 * j + 0))) (g_rd σ (6 * j + 1))) (g_rd σ (6 * j + 2))) (g_rd σ (6 * j + 3))) (g_rd σ (6 * j + 4))) (g_rd σ (6 * j + 5))) (tr σ j))), (6, .int 6), (0, .ref (a 0)), (1, .long h), (3, .int (nI j))]) hx hb dX3_hashOfSurvey_43 hl (by decide) rfl (fun ls hl => ?_)
                refine lv_lload hx hb dX3_hashOfSurvey_45 (lv_at hl 0 rfl) ?_
                refine lv_aload_n hx hb dX3_hashOfSurvey_47 rfl (lv_at hl 2 rfl) ?_
                refine lv_iload_n hx hb dX3_hashOfSurvey_48 rfl (lv_at hl 4 rfl) ?_
                refine rd_callV (As := [.int (nI j)]) (rest := [.long (hsO (hsO (hsO (hsO (hsO (hsO (hsO h (g_rd σ (6 * j + 0))) (g_rd σ (6 * j + 1))) (g_rd σ (6 * j + 2))) (g_rd σ (6 * j + 3))) (g_rd σ (6 * j + 4))) (g_rd σ (6 * j + 5))) (tr σ j))]) ⟨hx, hb, hml, hown, hts⟩ (c_defl_i l G C a σ κ (j := j) hj) (cwV 1 hts gX3_hashOfSurvey_X3_deflection rfl rfl rfl (by decide +kernel) ⟨Nat.le_of_ble_eq_true rfl, Nat.le_of_ble_eq_true rfl⟩) hK hN hP (0) 3 wX_e0 rfl rfl rfl hl.1 rfl (Nat.le_of_ble_eq_true rfl) dX3_hashOfSurvey_49 ⟨Nat.zero_le _, Nat.zero_le _⟩ ?_
                refine rd_callS (As := [.long (hsO (hsO (hsO (hsO (hsO (hsO (hsO h (g_rd σ (6 * j + 0))) (g_rd σ (6 * j + 1))) (g_rd σ (6 * j + 2))) (g_rd σ (6 * j + 3))) (g_rd σ (6 * j + 4))) (g_rd σ (6 * j + 5))) (tr σ j)), .long (df σ j)]) (rest := []) ⟨hx, hb, hml, hown, hts⟩ (c_hash l G C a σ κ (hsO (hsO (hsO (hsO (hsO (hsO (hsO h (g_rd σ (6 * j + 0))) (g_rd σ (6 * j + 1))) (g_rd σ (6 * j + 2))) (g_rd σ (6 * j + 3))) (g_rd σ (6 * j + 4))) (g_rd σ (6 * j + 5))) (tr σ j)) (df σ j)) (va_cwS 2 hts gX3_hashOfSurvey_X3_hashWith rfl rfl rfl (by decide +kernel) ⟨Nat.le_of_ble_eq_true rfl, Nat.le_of_ble_eq_true rfl⟩) hK hN hP rfl hl.1 rfl (Nat.le_of_ble_eq_true rfl) dX3_hashOfSurvey_52 ⟨Nat.zero_le _, Nat.zero_le _⟩ ?_
                refine lv_lstore (lv' := [(4, .long (hsO (hsO (hsO (hsO (hsO (hsO (hsO (hsO h (g_rd σ (6 * j + 0))) (g_rd σ (6 * j + 1))) (g_rd σ (6 * j + 2))) (g_rd σ (6 * j + 3))) (g_rd σ (6 * j + 4))) (g_rd σ (6 * j + 5))) (tr σ j)) (df σ j))), (6, .int 6), (0, .ref (a 0)), (1, .long h), (3, .int (nI j))]) hx hb dX3_hashOfSurvey_55 hl (by decide) rfl (fun ls hl => ?_)
                refine lv_lload hx hb dX3_hashOfSurvey_57 (lv_at hl 0 rfl) ?_
                refine lv_aload_n hx hb dX3_hashOfSurvey_59 rfl (lv_at hl 2 rfl) ?_
                refine lv_iload_n hx hb dX3_hashOfSurvey_60 rfl (lv_at hl 4 rfl) ?_
                refine rd_callV (As := [.int (nI j)]) (rest := [.long (hsO (hsO (hsO (hsO (hsO (hsO (hsO (hsO h (g_rd σ (6 * j + 0))) (g_rd σ (6 * j + 1))) (g_rd σ (6 * j + 2))) (g_rd σ (6 * j + 3))) (g_rd σ (6 * j + 4))) (g_rd σ (6 * j + 5))) (tr σ j)) (df σ j))]) ⟨hx, hb, hml, hown, hts⟩ (c_heel_i l G C a σ κ (j := j) hj) (cwV 1 hts gX3_hashOfSurvey_X3_heel rfl rfl rfl (by decide +kernel) ⟨Nat.le_of_ble_eq_true rfl, Nat.le_of_ble_eq_true rfl⟩) hK hN hP (0) 3 wX_e0 rfl rfl rfl hl.1 rfl (Nat.le_of_ble_eq_true rfl) dX3_hashOfSurvey_61 ⟨Nat.zero_le _, Nat.zero_le _⟩ ?_
                refine rd_callS (As := [.long (hsO (hsO (hsO (hsO (hsO (hsO (hsO (hsO h (g_rd σ (6 * j + 0))) (g_rd σ (6 * j + 1))) (g_rd σ (6 * j + 2))) (g_rd σ (6 * j + 3))) (g_rd σ (6 * j + 4))) (g_rd σ (6 * j + 5))) (tr σ j)) (df σ j)), .long (hl_ σ j)]) (rest := []) ⟨hx, hb, hml, hown, hts⟩ (c_hash l G C a σ κ (hsO (hsO (hsO (hsO (hsO (hsO (hsO (hsO h (g_rd σ (6 * j + 0))) (g_rd σ (6 * j + 1))) (g_rd σ (6 * j + 2))) (g_rd σ (6 * j + 3))) (g_rd σ (6 * j + 4))) (g_rd σ (6 * j + 5))) (tr σ j)) (df σ j)) (hl_ σ j)) (va_cwS 2 hts gX3_hashOfSurvey_X3_hashWith rfl rfl rfl (by decide +kernel) ⟨Nat.le_of_ble_eq_true rfl, Nat.le_of_ble_eq_true rfl⟩) hK hN hP rfl hl.1 rfl (Nat.le_of_ble_eq_true rfl) dX3_hashOfSurvey_64 ⟨Nat.zero_le _, Nat.zero_le _⟩ ?_
                refine lv_lstore (lv' := [(4, .long (hsO (hsO (hsO (hsO (hsO (hsO (hsO (hsO (hsO h (g_rd σ (6 * j + 0))) (g_rd σ (6 * j + 1))) (g_rd σ (6 * j + 2))) (g_rd σ (6 * j + 3))) (g_rd σ (6 * j + 4))) (g_rd σ (6 * j + 5))) (tr σ j)) (df σ j)) (hl_ σ j))), (6, .int 6), (0, .ref (a 0)), (1, .long h), (3, .int (nI j))]) hx hb dX3_hashOfSurvey_67 hl (by decide) rfl (fun ls hl => ?_)
                refine lv_lload hx hb dX3_hashOfSurvey_69 (lv_at hl 0 rfl) ?_
                refine lv_aload_n hx hb dX3_hashOfSurvey_71 rfl (lv_at hl 2 rfl) ?_
                refine lv_iload_n hx hb dX3_hashOfSurvey_72 rfl (lv_at hl 4 rfl) ?_
                refine rd_callV (As := [.int (nI j)]) (rest := [.long (hsO (hsO (hsO (hsO (hsO (hsO (hsO (hsO (hsO h (g_rd σ (6 * j + 0))) (g_rd σ (6 * j + 1))) (g_rd σ (6 * j + 2))) (g_rd σ (6 * j + 3))) (g_rd σ (6 * j + 4))) (g_rd σ (6 * j + 5))) (tr σ j)) (df σ j)) (hl_ σ j))]) ⟨hx, hb, hml, hown, hts⟩ (c_quar_i l G C a σ κ (j := j) hj) (cwV 1 hts gX3_hashOfSurvey_X3_quarterMean rfl rfl rfl (by decide +kernel) ⟨Nat.le_of_ble_eq_true rfl, Nat.le_of_ble_eq_true rfl⟩) hK hN hP (0) 3 wX_e0 rfl rfl rfl hl.1 rfl (Nat.le_of_ble_eq_true rfl) dX3_hashOfSurvey_73 ⟨Nat.zero_le _, Nat.zero_le _⟩ ?_
                refine rd_callS (As := [.long (hsO (hsO (hsO (hsO (hsO (hsO (hsO (hsO (hsO h (g_rd σ (6 * j + 0))) (g_rd σ (6 * j + 1))) (g_rd σ (6 * j + 2))) (g_rd σ (6 * j + 3))) (g_rd σ (6 * j + 4))) (g_rd σ (6 * j + 5))) (tr σ j)) (df σ j)) (hl_ σ j)), .long (qm σ j)]) (rest := []) ⟨hx, hb, hml, hown, hts⟩ (c_hash l G C a σ κ (hsO (hsO (hsO (hsO (hsO (hsO (hsO (hsO (hsO h (g_rd σ (6 * j + 0))) (g_rd σ (6 * j + 1))) (g_rd σ (6 * j + 2))) (g_rd σ (6 * j + 3))) (g_rd σ (6 * j + 4))) (g_rd σ (6 * j + 5))) (tr σ j)) (df σ j)) (hl_ σ j)) (qm σ j)) (va_cwS 2 hts gX3_hashOfSurvey_X3_hashWith rfl rfl rfl (by decide +kernel) ⟨Nat.le_of_ble_eq_true rfl, Nat.le_of_ble_eq_true rfl⟩) hK hN hP rfl hl.1 rfl (Nat.le_of_ble_eq_true rfl) dX3_hashOfSurvey_76 ⟨Nat.zero_le _, Nat.zero_le _⟩ ?_
                refine lv_lstore (lv' := [(4, .long (hsO (hsO (hsO (hsO (hsO (hsO (hsO (hsO (hsO (hsO h (g_rd σ (6 * j + 0))) (g_rd σ (6 * j + 1))) (g_rd σ (6 * j + 2))) (g_rd σ (6 * j + 3))) (g_rd σ (6 * j + 4))) (g_rd σ (6 * j + 5))) (tr σ j)) (df σ j)) (hl_ σ j)) (qm σ j))), (6, .int 6), (0, .ref (a 0)), (1, .long h), (3, .int (nI j))]) hx hb dX3_hashOfSurvey_79 hl (by decide) rfl (fun ls hl => ?_)
                refine lv_lload hx hb dX3_hashOfSurvey_81 (lv_at hl 0 rfl) ?_
                refine lv_aload_n hx hb dX3_hashOfSurvey_83 rfl (lv_at hl 2 rfl) ?_
                refine lv_iload_n hx hb dX3_hashOfSurvey_84 rfl (lv_at hl 4 rfl) ?_
                refine rd_callV (As := [.int (nI j)]) (rest := [.long (hsO (hsO (hsO (hsO (hsO (hsO (hsO (hsO (hsO (hsO h (g_rd σ (6 * j + 0))) (g_rd σ (6 * j + 1))) (g_rd σ (6 * j + 2))) (g_rd σ (6 * j + 3))) (g_rd σ (6 * j + 4))) (g_rd σ (6 * j + 5))) (tr σ j)) (df σ j)) (hl_ σ j)) (qm σ j))]) ⟨hx, hb, hml, hown, hts⟩ (c_first1_i l G C a σ κ hn (j := j) hj) (cwV 1 hts gX3_hashOfSurvey_X3_firstCorrection rfl rfl rfl (by decide +kernel) ⟨Nat.le_of_ble_eq_true rfl, Nat.le_of_ble_eq_true rfl⟩) hK hN hP (0) 3 wX_e0 rfl rfl rfl hl.1 rfl (Nat.le_of_ble_eq_true rfl) dX3_hashOfSurvey_85 ⟨Nat.zero_le _, Nat.zero_le _⟩ ?_
                refine rd_callS (As := [.long (hsO (hsO (hsO (hsO (hsO (hsO (hsO (hsO (hsO (hsO h (g_rd σ (6 * j + 0))) (g_rd σ (6 * j + 1))) (g_rd σ (6 * j + 2))) (g_rd σ (6 * j + 3))) (g_rd σ (6 * j + 4))) (g_rd σ (6 * j + 5))) (tr σ j)) (df σ j)) (hl_ σ j)) (qm σ j)), .long (tFirst σ j)]) (rest := []) ⟨hx, hb, hml, hown, hts⟩ (c_hash l G C a σ κ (hsO (hsO (hsO (hsO (hsO (hsO (hsO (hsO (hsO (hsO h (g_rd σ (6 * j + 0))) (g_rd σ (6 * j + 1))) (g_rd σ (6 * j + 2))) (g_rd σ (6 * j + 3))) (g_rd σ (6 * j + 4))) (g_rd σ (6 * j + 5))) (tr σ j)) (df σ j)) (hl_ σ j)) (qm σ j)) (tFirst σ j)) (va_cwS 2 hts gX3_hashOfSurvey_X3_hashWith rfl rfl rfl (by decide +kernel) ⟨Nat.le_of_ble_eq_true rfl, Nat.le_of_ble_eq_true rfl⟩) hK hN hP rfl hl.1 rfl (Nat.le_of_ble_eq_true rfl) dX3_hashOfSurvey_88 ⟨Nat.zero_le _, Nat.zero_le _⟩ ?_
                refine lv_lstore (lv' := [(4, .long (hsO (hsO (hsO (hsO (hsO (hsO (hsO (hsO (hsO (hsO (hsO h (g_rd σ (6 * j + 0))) (g_rd σ (6 * j + 1))) (g_rd σ (6 * j + 2))) (g_rd σ (6 * j + 3))) (g_rd σ (6 * j + 4))) (g_rd σ (6 * j + 5))) (tr σ j)) (df σ j)) (hl_ σ j)) (qm σ j)) (tFirst σ j))), (6, .int 6), (0, .ref (a 0)), (1, .long h), (3, .int (nI j))]) hx hb dX3_hashOfSurvey_91 hl (by decide) rfl (fun ls hl => ?_)
                refine lv_lload hx hb dX3_hashOfSurvey_93 (lv_at hl 0 rfl) ?_
                refine lv_aload_n hx hb dX3_hashOfSurvey_95 rfl (lv_at hl 2 rfl) ?_
                refine lv_iload_n hx hb dX3_hashOfSurvey_96 rfl (lv_at hl 4 rfl) ?_
                refine rd_callV (As := [.int (nI j)]) (rest := [.long (hsO (hsO (hsO (hsO (hsO (hsO (hsO (hsO (hsO (hsO (hsO h (g_rd σ (6 * j + 0))) (g_rd σ (6 * j + 1))) (g_rd σ (6 * j + 2))) (g_rd σ (6 * j + 3))) (g_rd σ (6 * j + 4))) (g_rd σ (6 * j + 5))) (tr σ j)) (df σ j)) (hl_ σ j)) (qm σ j)) (tFirst σ j))]) ⟨hx, hb, hml, hown, hts⟩ (c_second1_i l G C a σ κ hn (j := j) hj) (cwV 1 hts gX3_hashOfSurvey_X3_secondCorrection rfl rfl rfl (by decide +kernel) ⟨Nat.le_of_ble_eq_true rfl, Nat.le_of_ble_eq_true rfl⟩) hK hN hP (0) 3 wX_e0 rfl rfl rfl hl.1 rfl (Nat.le_of_ble_eq_true rfl) dX3_hashOfSurvey_97 ⟨Nat.zero_le _, Nat.zero_le _⟩ ?_
                refine rd_callS (As := [.long (hsO (hsO (hsO (hsO (hsO (hsO (hsO (hsO (hsO (hsO (hsO h (g_rd σ (6 * j + 0))) (g_rd σ (6 * j + 1))) (g_rd σ (6 * j + 2))) (g_rd σ (6 * j + 3))) (g_rd σ (6 * j + 4))) (g_rd σ (6 * j + 5))) (tr σ j)) (df σ j)) (hl_ σ j)) (qm σ j)) (tFirst σ j)), .long (tSecond σ j)]) (rest := []) ⟨hx, hb, hml, hown, hts⟩ (c_hash l G C a σ κ (hsO (hsO (hsO (hsO (hsO (hsO (hsO (hsO (hsO (hsO (hsO h (g_rd σ (6 * j + 0))) (g_rd σ (6 * j + 1))) (g_rd σ (6 * j + 2))) (g_rd σ (6 * j + 3))) (g_rd σ (6 * j + 4))) (g_rd σ (6 * j + 5))) (tr σ j)) (df σ j)) (hl_ σ j)) (qm σ j)) (tFirst σ j)) (tSecond σ j)) (va_cwS 2 hts gX3_hashOfSurvey_X3_hashWith rfl rfl rfl (by decide +kernel) ⟨Nat.le_of_ble_eq_true rfl, Nat.le_of_ble_eq_true rfl⟩) hK hN hP rfl hl.1 rfl (Nat.le_of_ble_eq_true rfl) dX3_hashOfSurvey_100 ⟨Nat.zero_le _, Nat.zero_le _⟩ ?_
                refine lv_lstore (lv' := [(4, .long (hsO (hsO (hsO (hsO (hsO (hsO (hsO (hsO (hsO (hsO (hsO (hsO h (g_rd σ (6 * j + 0))) (g_rd σ (6 * j + 1))) (g_rd σ (6 * j + 2))) (g_rd σ (6 * j + 3))) (g_rd σ (6 * j + 4))) (g_rd σ (6 * j + 5))) (tr σ j)) (df σ j)) (hl_ σ j)) (qm σ j)) (tFirst σ j)) (tSecond σ j))), (6, .int 6), (0, .ref (a 0)), (1, .long h), (3, .int (nI j))]) hx hb dX3_hashOfSurvey_103 hl (by decide) rfl (fun ls hl => ?_)
                refine lv_lload hx hb dX3_hashOfSurvey_105 (lv_at hl 0 rfl) ?_
                refine lv_aload_n hx hb dX3_hashOfSurvey_107 rfl (lv_at hl 2 rfl) ?_
                refine lv_iload_n hx hb dX3_hashOfSurvey_108 rfl (lv_at hl 4 rfl) ?_
                refine lv_sipush (v := (-500)) hx hb dX3_hashOfSurvey_109 (by decide) ?_
                refine rd_callV (As := [.int (nI j), .int (-500)]) (rest := [.long (hsO (hsO (hsO (hsO (hsO (hsO (hsO (hsO (hsO (hsO (hsO (hsO h (g_rd σ (6 * j + 0))) (g_rd σ (6 * j + 1))) (g_rd σ (6 * j + 2))) (g_rd σ (6 * j + 3))) (g_rd σ (6 * j + 4))) (g_rd σ (6 * j + 5))) (tr σ j)) (df σ j)) (hl_ σ j)) (qm σ j)) (tFirst σ j)) (tSecond σ j))]) ⟨hx, hb, hml, hown, hts⟩ (c_disp_k l G C a σ κ hn (j := j) hj (h := (-500)) (h2 := (-500)) (by decide) (by decide)) (cwV 2 hts gX3_hashOfSurvey_X3_displacement rfl rfl rfl (by decide +kernel) ⟨Nat.le_of_ble_eq_true rfl, Nat.le_of_ble_eq_true rfl⟩) hK hN hP (0) 3 wX_e0 rfl rfl rfl hl.1 rfl (Nat.le_of_ble_eq_true rfl) dX3_hashOfSurvey_112 ⟨Nat.zero_le _, Nat.zero_le _⟩ ?_
                refine rd_callS (As := [.long (hsO (hsO (hsO (hsO (hsO (hsO (hsO (hsO (hsO (hsO (hsO (hsO h (g_rd σ (6 * j + 0))) (g_rd σ (6 * j + 1))) (g_rd σ (6 * j + 2))) (g_rd σ (6 * j + 3))) (g_rd σ (6 * j + 4))) (g_rd σ (6 * j + 5))) (tr σ j)) (df σ j)) (hl_ σ j)) (qm σ j)) (tFirst σ j)) (tSecond σ j)), .long (tDisp σ j (-500))]) (rest := []) ⟨hx, hb, hml, hown, hts⟩ (c_hash l G C a σ κ (hsO (hsO (hsO (hsO (hsO (hsO (hsO (hsO (hsO (hsO (hsO (hsO h (g_rd σ (6 * j + 0))) (g_rd σ (6 * j + 1))) (g_rd σ (6 * j + 2))) (g_rd σ (6 * j + 3))) (g_rd σ (6 * j + 4))) (g_rd σ (6 * j + 5))) (tr σ j)) (df σ j)) (hl_ σ j)) (qm σ j)) (tFirst σ j)) (tSecond σ j)) (tDisp σ j (-500))) (va_cwS 2 hts gX3_hashOfSurvey_X3_hashWith rfl rfl rfl (by decide +kernel) ⟨Nat.le_of_ble_eq_true rfl, Nat.le_of_ble_eq_true rfl⟩) hK hN hP rfl hl.1 rfl (Nat.le_of_ble_eq_true rfl) dX3_hashOfSurvey_115 ⟨Nat.zero_le _, Nat.zero_le _⟩ ?_
                refine lv_lstore (lv' := [(4, .long (hsO (hsO (hsO (hsO (hsO (hsO (hsO (hsO (hsO (hsO (hsO (hsO (hsO h (g_rd σ (6 * j + 0))) (g_rd σ (6 * j + 1))) (g_rd σ (6 * j + 2))) (g_rd σ (6 * j + 3))) (g_rd σ (6 * j + 4))) (g_rd σ (6 * j + 5))) (tr σ j)) (df σ j)) (hl_ σ j)) (qm σ j)) (tFirst σ j)) (tSecond σ j)) (tDisp σ j (-500)))), (6, .int 6), (0, .ref (a 0)), (1, .long h), (3, .int (nI j))]) hx hb dX3_hashOfSurvey_118 hl (by decide) rfl (fun ls hl => ?_)
                refine lv_lload hx hb dX3_hashOfSurvey_120 (lv_at hl 0 rfl) ?_
                refine lv_aload_n hx hb dX3_hashOfSurvey_122 rfl (lv_at hl 2 rfl) ?_
                refine lv_iload_n hx hb dX3_hashOfSurvey_123 rfl (lv_at hl 4 rfl) ?_
                refine lv_iconst (v := 0) hx hb dX3_hashOfSurvey_124 (by decide) ?_
                refine rd_callV (As := [.int (nI j), .int 0]) (rest := [.long (hsO (hsO (hsO (hsO (hsO (hsO (hsO (hsO (hsO (hsO (hsO (hsO (hsO h (g_rd σ (6 * j + 0))) (g_rd σ (6 * j + 1))) (g_rd σ (6 * j + 2))) (g_rd σ (6 * j + 3))) (g_rd σ (6 * j + 4))) (g_rd σ (6 * j + 5))) (tr σ j)) (df σ j)) (hl_ σ j)) (qm σ j)) (tFirst σ j)) (tSecond σ j)) (tDisp σ j (-500)))]) ⟨hx, hb, hml, hown, hts⟩ (c_disp_k l G C a σ κ hn (j := j) hj (h := 0) (h2 := 0) (by decide) (by decide)) (cwV 2 hts gX3_hashOfSurvey_X3_displacement rfl rfl rfl (by decide +kernel) ⟨Nat.le_of_ble_eq_true rfl, Nat.le_of_ble_eq_true rfl⟩) hK hN hP (0) 3 wX_e0 rfl rfl rfl hl.1 rfl (Nat.le_of_ble_eq_true rfl) dX3_hashOfSurvey_125 ⟨Nat.zero_le _, Nat.zero_le _⟩ ?_
                refine rd_callS (As := [.long (hsO (hsO (hsO (hsO (hsO (hsO (hsO (hsO (hsO (hsO (hsO (hsO (hsO h (g_rd σ (6 * j + 0))) (g_rd σ (6 * j + 1))) (g_rd σ (6 * j + 2))) (g_rd σ (6 * j + 3))) (g_rd σ (6 * j + 4))) (g_rd σ (6 * j + 5))) (tr σ j)) (df σ j)) (hl_ σ j)) (qm σ j)) (tFirst σ j)) (tSecond σ j)) (tDisp σ j (-500))), .long (tDisp σ j 0)]) (rest := []) ⟨hx, hb, hml, hown, hts⟩ (c_hash l G C a σ κ (hsO (hsO (hsO (hsO (hsO (hsO (hsO (hsO (hsO (hsO (hsO (hsO (hsO h (g_rd σ (6 * j + 0))) (g_rd σ (6 * j + 1))) (g_rd σ (6 * j + 2))) (g_rd σ (6 * j + 3))) (g_rd σ (6 * j + 4))) (g_rd σ (6 * j + 5))) (tr σ j)) (df σ j)) (hl_ σ j)) (qm σ j)) (tFirst σ j)) (tSecond σ j)) (tDisp σ j (-500))) (tDisp σ j 0)) (va_cwS 2 hts gX3_hashOfSurvey_X3_hashWith rfl rfl rfl (by decide +kernel) ⟨Nat.le_of_ble_eq_true rfl, Nat.le_of_ble_eq_true rfl⟩) hK hN hP rfl hl.1 rfl (Nat.le_of_ble_eq_true rfl) dX3_hashOfSurvey_128 ⟨Nat.zero_le _, Nat.zero_le _⟩ ?_
                refine lv_lstore (lv' := [(4, .long (hsO (hsO (hsO (hsO (hsO (hsO (hsO (hsO (hsO (hsO (hsO (hsO (hsO (hsO h (g_rd σ (6 * j + 0))) (g_rd σ (6 * j + 1))) (g_rd σ (6 * j + 2))) (g_rd σ (6 * j + 3))) (g_rd σ (6 * j + 4))) (g_rd σ (6 * j + 5))) (tr σ j)) (df σ j)) (hl_ σ j)) (qm σ j)) (tFirst σ j)) (tSecond σ j)) (tDisp σ j (-500))) (tDisp σ j 0))), (6, .int 6), (0, .ref (a 0)), (1, .long h), (3, .int (nI j))]) hx hb dX3_hashOfSurvey_131 hl (by decide) rfl (fun ls hl => ?_)
                refine lv_lload hx hb dX3_hashOfSurvey_133 (lv_at hl 0 rfl) ?_
                refine lv_aload_n hx hb dX3_hashOfSurvey_135 rfl (lv_at hl 2 rfl) ?_
                refine lv_iload_n hx hb dX3_hashOfSurvey_136 rfl (lv_at hl 4 rfl) ?_
                refine lv_sipush (v := 500) hx hb dX3_hashOfSurvey_137 (by decide) ?_
                refine rd_callV (As := [.int (nI j), .int 500]) (rest := [.long (hsO (hsO (hsO (hsO (hsO (hsO (hsO (hsO (hsO (hsO (hsO (hsO (hsO (hsO h (g_rd σ (6 * j + 0))) (g_rd σ (6 * j + 1))) (g_rd σ (6 * j + 2))) (g_rd σ (6 * j + 3))) (g_rd σ (6 * j + 4))) (g_rd σ (6 * j + 5))) (tr σ j)) (df σ j)) (hl_ σ j)) (qm σ j)) (tFirst σ j)) (tSecond σ j)) (tDisp σ j (-500))) (tDisp σ j 0))]) ⟨hx, hb, hml, hown, hts⟩ (c_disp_k l G C a σ κ hn (j := j) hj (h := 500) (h2 := 500) (by decide) (by decide)) (cwV 2 hts gX3_hashOfSurvey_X3_displacement rfl rfl rfl (by decide +kernel) ⟨Nat.le_of_ble_eq_true rfl, Nat.le_of_ble_eq_true rfl⟩) hK hN hP (0) 3 wX_e0 rfl rfl rfl hl.1 rfl (Nat.le_of_ble_eq_true rfl) dX3_hashOfSurvey_140 ⟨Nat.zero_le _, Nat.zero_le _⟩ ?_
                refine rd_callS (As := [.long (hsO (hsO (hsO (hsO (hsO (hsO (hsO (hsO (hsO (hsO (hsO (hsO (hsO (hsO h (g_rd σ (6 * j + 0))) (g_rd σ (6 * j + 1))) (g_rd σ (6 * j + 2))) (g_rd σ (6 * j + 3))) (g_rd σ (6 * j + 4))) (g_rd σ (6 * j + 5))) (tr σ j)) (df σ j)) (hl_ σ j)) (qm σ j)) (tFirst σ j)) (tSecond σ j)) (tDisp σ j (-500))) (tDisp σ j 0)), .long (tDisp σ j 500)]) (rest := []) ⟨hx, hb, hml, hown, hts⟩ (c_hash l G C a σ κ (hsO (hsO (hsO (hsO (hsO (hsO (hsO (hsO (hsO (hsO (hsO (hsO (hsO (hsO h (g_rd σ (6 * j + 0))) (g_rd σ (6 * j + 1))) (g_rd σ (6 * j + 2))) (g_rd σ (6 * j + 3))) (g_rd σ (6 * j + 4))) (g_rd σ (6 * j + 5))) (tr σ j)) (df σ j)) (hl_ σ j)) (qm σ j)) (tFirst σ j)) (tSecond σ j)) (tDisp σ j (-500))) (tDisp σ j 0)) (tDisp σ j 500)) (va_cwS 2 hts gX3_hashOfSurvey_X3_hashWith rfl rfl rfl (by decide +kernel) ⟨Nat.le_of_ble_eq_true rfl, Nat.le_of_ble_eq_true rfl⟩) hK hN hP rfl hl.1 rfl (Nat.le_of_ble_eq_true rfl) dX3_hashOfSurvey_143 ⟨Nat.zero_le _, Nat.zero_le _⟩ ?_
                refine lv_lstore (lv' := [(4, .long (hsO (hsO (hsO (hsO (hsO (hsO (hsO (hsO (hsO (hsO (hsO (hsO (hsO (hsO (hsO h (g_rd σ (6 * j + 0))) (g_rd σ (6 * j + 1))) (g_rd σ (6 * j + 2))) (g_rd σ (6 * j + 3))) (g_rd σ (6 * j + 4))) (g_rd σ (6 * j + 5))) (tr σ j)) (df σ j)) (hl_ σ j)) (qm σ j)) (tFirst σ j)) (tSecond σ j)) (tDisp σ j (-500))) (tDisp σ j 0)) (tDisp σ j 500))), (6, .int 6), (0, .ref (a 0)), (1, .long h), (3, .int (nI j))]) hx hb dX3_hashOfSurvey_146 hl (by decide) rfl (fun ls hl => ?_)
                refine lv_lload hx hb dX3_hashOfSurvey_148 (lv_at hl 0 rfl) ?_
                refine lv_aload_n hx hb dX3_hashOfSurvey_150 rfl (lv_at hl 2 rfl) ?_
                refine lv_iload_n hx hb dX3_hashOfSurvey_151 rfl (lv_at hl 4 rfl) ?_
                refine rd_callV (As := [.int (nI j)]) (rest := [.long (hsO (hsO (hsO (hsO (hsO (hsO (hsO (hsO (hsO (hsO (hsO (hsO (hsO (hsO (hsO h (g_rd σ (6 * j + 0))) (g_rd σ (6 * j + 1))) (g_rd σ (6 * j + 2))) (g_rd σ (6 * j + 3))) (g_rd σ (6 * j + 4))) (g_rd σ (6 * j + 5))) (tr σ j)) (df σ j)) (hl_ σ j)) (qm σ j)) (tFirst σ j)) (tSecond σ j)) (tDisp σ j (-500))) (tDisp σ j 0)) (tDisp σ j 500))]) ⟨hx, hb, hml, hown, hts⟩ (c_net1_i l G C a σ κ hn (j := j) hj) (cwV 1 hts gX3_hashOfSurvey_X3_netWeight rfl rfl rfl (by decide +kernel) ⟨Nat.le_of_ble_eq_true rfl, Nat.le_of_ble_eq_true rfl⟩) hK hN hP (0) 3 wX_e0 rfl rfl rfl hl.1 rfl (Nat.le_of_ble_eq_true rfl) dX3_hashOfSurvey_152 ⟨Nat.zero_le _, Nat.zero_le _⟩ ?_
                refine rd_callS (As := [.long (hsO (hsO (hsO (hsO (hsO (hsO (hsO (hsO (hsO (hsO (hsO (hsO (hsO (hsO (hsO h (g_rd σ (6 * j + 0))) (g_rd σ (6 * j + 1))) (g_rd σ (6 * j + 2))) (g_rd σ (6 * j + 3))) (g_rd σ (6 * j + 4))) (g_rd σ (6 * j + 5))) (tr σ j)) (df σ j)) (hl_ σ j)) (qm σ j)) (tFirst σ j)) (tSecond σ j)) (tDisp σ j (-500))) (tDisp σ j 0)) (tDisp σ j 500)), .long (tNet σ j)]) (rest := []) ⟨hx, hb, hml, hown, hts⟩ (c_hash l G C a σ κ (hsO (hsO (hsO (hsO (hsO (hsO (hsO (hsO (hsO (hsO (hsO (hsO (hsO (hsO (hsO h (g_rd σ (6 * j + 0))) (g_rd σ (6 * j + 1))) (g_rd σ (6 * j + 2))) (g_rd σ (6 * j + 3))) (g_rd σ (6 * j + 4))) (g_rd σ (6 * j + 5))) (tr σ j)) (df σ j)) (hl_ σ j)) (qm σ j)) (tFirst σ j)) (tSecond σ j)) (tDisp σ j (-500))) (tDisp σ j 0)) (tDisp σ j 500)) (tNet σ j)) (va_cwS 2 hts gX3_hashOfSurvey_X3_hashWith rfl rfl rfl (by decide +kernel) ⟨Nat.le_of_ble_eq_true rfl, Nat.le_of_ble_eq_true rfl⟩) hK hN hP rfl hl.1 rfl (Nat.le_of_ble_eq_true rfl) dX3_hashOfSurvey_155 ⟨Nat.zero_le _, Nat.zero_le _⟩ ?_
                exact rd_lret hx hb hr hlocks (rfl) dX3_hashOfSurvey_158
              · skip
                exact absurd c_7 (by decide)

set_option maxHeartbeats 4000000 in
set_option maxRecDepth 100000 in
theorem c_digest (l : Launch) (G : va_G) (C : Nat → ClassId) (a : Nat → Nat) (σ : SG) (κ : KX) (hn : g_n σ ≤ 10) (hbl : g_bl σ ≤ 40) : RdC l yX3_digest wsX3_digest ({ frames := 7, cells := 0, slots := 0, locals := 191 } : Room) G (tysC C) (wX C a σ κ) [.ref (a 0)] (.long (aDigest σ)) := by
  refine Met.ofW (cc := cX3_digest) (maxL := 4) (ret := (some .long)) (by decide) rfl ?_
  intro p e s m args below meth c s₁ B hml hv
  obtain ⟨rfl, hP, hK, hN⟩ := hv
  have hx := B.exec
  have hb := B.bytes
  have hr := B.returns
  have hts := atoms_spec (ws := wsX3_digest) B.pre
  have hown : s.vm.findClass RX3 = some m.cls := findClass_of_methodNamed B.named
  have hlocks := B.notSynchronized
  have hX3 : ∀ w ∈ wsX30, w ∈ wsX3_digest := by decide +kernel
  have hP : va_P G vwCl (wX C a σ κ) s.heap := hP
  have hl := lv_entry ([.ref (a 0)]) (n := 4) (Nat.le_of_ble_eq_true rfl)
  rw [lg_entry_eq]
  generalize (lg_sl ([.ref (a 0)]) ++ List.replicate (4 - (lg_sl ([.ref (a 0)])).length) Slot.unset).toArray = ls at hl ⊢
  have hl : lv_has ls 4 [(0, .ref (a 0))] := hl
  refine lv_aload_n hx hb dX3_digest_0 rfl (lv_at hl 0 rfl) ?_
  refine lv_ldc2 (v := 1759) hx hb hown (hts (.constantLong RX3 157 (1759)) (by decide +kernel)) dX3_digest_1 ?_
  refine rd_callV (As := [.long 1759]) (rest := []) ⟨hx, hb, hml, hown, hts⟩ (c_hsT l G C a σ κ hn 1759) (cwV 1 hts gX3_digest_X3_hashOfTable rfl rfl rfl (by decide +kernel) ⟨Nat.le_of_ble_eq_true rfl, Nat.le_of_ble_eq_true rfl⟩) hK hN hP (0) 3 wX_e0 rfl rfl rfl hl.1 rfl (Nat.le_of_ble_eq_true rfl) dX3_digest_4 ⟨Nat.zero_le _, Nat.zero_le _⟩ ?_
  refine lv_lstore_n (lv' := [(1, .long (hsL (g_tb σ) (hsO 1759 (lN (g_n σ))) (5 * g_n σ))), (0, .ref (a 0))]) hx hb dX3_digest_7 rfl hl (by decide) rfl (fun ls hl => ?_)
  refine lv_iconst (v := 0) hx hb dX3_digest_8 (by decide) ?_
  refine lv_istore_n (lv' := [(3, .int 0), (1, .long (hsL (g_tb σ) (hsO 1759 (lN (g_n σ))) (5 * g_n σ))), (0, .ref (a 0))]) hx hb dX3_digest_9 rfl hl (by decide) rfl (fun ls hl => ?_)
  refine lv_iload_n hx hb dX3_digest_10 rfl (lv_at hl 0 rfl) ?_
  refine lv_iconst (v := 4) hx hb dX3_digest_11 (by decide) ?_
  refine ic_ge (tgt := 28) hx hb dX3_digest_12 (by decide) (fun c_1 => ?_) (fun c_1 => ?_)
  · skip
    exact absurd c_1 (by decide)
  · skip
    refine lv_aload_n hx hb dX3_digest_15 rfl (lv_at hl 2 rfl) ?_
    refine lv_lload_n hx hb dX3_digest_16 rfl (lv_at hl 1 rfl) ?_
    refine lv_iload_n hx hb dX3_digest_17 rfl (lv_at hl 0 rfl) ?_
    refine rd_callV (As := [.long (hsL (g_tb σ) (hsO 1759 (lN (g_n σ))) (5 * g_n σ)), .int 0]) (rest := []) ⟨hx, hb, hml, hown, hts⟩ (c_hsS l G C a σ κ hn (j := 0) (by decide) (hsL (g_tb σ) (hsO 1759 (lN (g_n σ))) (5 * g_n σ))) (cwV 2 hts gX3_digest_X3_hashOfSurvey rfl rfl rfl (by decide +kernel) ⟨Nat.le_of_ble_eq_true rfl, Nat.le_of_ble_eq_true rfl⟩) hK hN hP (0) 3 wX_e0 rfl rfl rfl hl.1 rfl (Nat.le_of_ble_eq_true rfl) dX3_digest_18 ⟨Nat.zero_le _, Nat.zero_le _⟩ ?_
    refine lv_lstore_n (lv' := [(1, .long (hsS σ 0 (hsL (g_tb σ) (hsO 1759 (lN (g_n σ))) (5 * g_n σ)))), (3, .int 0), (0, .ref (a 0))]) hx hb dX3_digest_21 rfl hl (by decide) rfl (fun ls hl => ?_)
    refine lv_iinc (v := 1) (lv' := [(3, .int 1), (1, .long (hsS σ 0 (hsL (g_tb σ) (hsO 1759 (lN (g_n σ))) (5 * g_n σ)))), (0, .ref (a 0))]) hx hb dX3_digest_22 hl (k := 1) rfl (by decide) (by decide) rfl (fun ls hl => ?_)
    refine lv_goto (tgt := 10) hx hb dX3_digest_25 (by decide) ?_
    refine lv_iload_n hx hb dX3_digest_10 rfl (lv_at hl 0 rfl) ?_
    refine lv_iconst (v := 4) hx hb dX3_digest_11 (by decide) ?_
    refine ic_ge (tgt := 28) hx hb dX3_digest_12 (by decide) (fun c_2 => ?_) (fun c_2 => ?_)
    · skip
      exact absurd c_2 (by decide)
    · skip
      refine lv_aload_n hx hb dX3_digest_15 rfl (lv_at hl 2 rfl) ?_
      refine lv_lload_n hx hb dX3_digest_16 rfl (lv_at hl 1 rfl) ?_
      refine lv_iload_n hx hb dX3_digest_17 rfl (lv_at hl 0 rfl) ?_
      refine rd_callV (As := [.long (hsS σ 0 (hsL (g_tb σ) (hsO 1759 (lN (g_n σ))) (5 * g_n σ))), .int 1]) (rest := []) ⟨hx, hb, hml, hown, hts⟩ (c_hsS l G C a σ κ hn (j := 1) (by decide) (hsS σ 0 (hsL (g_tb σ) (hsO 1759 (lN (g_n σ))) (5 * g_n σ)))) (cwV 2 hts gX3_digest_X3_hashOfSurvey rfl rfl rfl (by decide +kernel) ⟨Nat.le_of_ble_eq_true rfl, Nat.le_of_ble_eq_true rfl⟩) hK hN hP (0) 3 wX_e0 rfl rfl rfl hl.1 rfl (Nat.le_of_ble_eq_true rfl) dX3_digest_18 ⟨Nat.zero_le _, Nat.zero_le _⟩ ?_
      refine lv_lstore_n (lv' := [(1, .long (hsS σ 1 (hsS σ 0 (hsL (g_tb σ) (hsO 1759 (lN (g_n σ))) (5 * g_n σ))))), (3, .int 1), (0, .ref (a 0))]) hx hb dX3_digest_21 rfl hl (by decide) rfl (fun ls hl => ?_)
      refine lv_iinc (v := 2) (lv' := [(3, .int 2), (1, .long (hsS σ 1 (hsS σ 0 (hsL (g_tb σ) (hsO 1759 (lN (g_n σ))) (5 * g_n σ))))), (0, .ref (a 0))]) hx hb dX3_digest_22 hl (k := 1) rfl (by decide) (by decide) rfl (fun ls hl => ?_)
      refine lv_goto (tgt := 10) hx hb dX3_digest_25 (by decide) ?_
      refine lv_iload_n hx hb dX3_digest_10 rfl (lv_at hl 0 rfl) ?_
      refine lv_iconst (v := 4) hx hb dX3_digest_11 (by decide) ?_
      refine ic_ge (tgt := 28) hx hb dX3_digest_12 (by decide) (fun c_3 => ?_) (fun c_3 => ?_)
      · skip
        exact absurd c_3 (by decide)
      · skip
        refine lv_aload_n hx hb dX3_digest_15 rfl (lv_at hl 2 rfl) ?_
        refine lv_lload_n hx hb dX3_digest_16 rfl (lv_at hl 1 rfl) ?_
        refine lv_iload_n hx hb dX3_digest_17 rfl (lv_at hl 0 rfl) ?_
        refine rd_callV (As := [.long (hsS σ 1 (hsS σ 0 (hsL (g_tb σ) (hsO 1759 (lN (g_n σ))) (5 * g_n σ)))), .int 2]) (rest := []) ⟨hx, hb, hml, hown, hts⟩ (c_hsS l G C a σ κ hn (j := 2) (by decide) (hsS σ 1 (hsS σ 0 (hsL (g_tb σ) (hsO 1759 (lN (g_n σ))) (5 * g_n σ))))) (cwV 2 hts gX3_digest_X3_hashOfSurvey rfl rfl rfl (by decide +kernel) ⟨Nat.le_of_ble_eq_true rfl, Nat.le_of_ble_eq_true rfl⟩) hK hN hP (0) 3 wX_e0 rfl rfl rfl hl.1 rfl (Nat.le_of_ble_eq_true rfl) dX3_digest_18 ⟨Nat.zero_le _, Nat.zero_le _⟩ ?_
        refine lv_lstore_n (lv' := [(1, .long (hsS σ 2 (hsS σ 1 (hsS σ 0 (hsL (g_tb σ) (hsO 1759 (lN (g_n σ))) (5 * g_n σ)))))), (3, .int 2), (0, .ref (a 0))]) hx hb dX3_digest_21 rfl hl (by decide) rfl (fun ls hl => ?_)
        refine lv_iinc (v := 3) (lv' := [(3, .int 3), (1, .long (hsS σ 2 (hsS σ 1 (hsS σ 0 (hsL (g_tb σ) (hsO 1759 (lN (g_n σ))) (5 * g_n σ)))))), (0, .ref (a 0))]) hx hb dX3_digest_22 hl (k := 1) rfl (by decide) (by decide) rfl (fun ls hl => ?_)
        refine lv_goto (tgt := 10) hx hb dX3_digest_25 (by decide) ?_
        refine lv_iload_n hx hb dX3_digest_10 rfl (lv_at hl 0 rfl) ?_
        refine lv_iconst (v := 4) hx hb dX3_digest_11 (by decide) ?_
        refine ic_ge (tgt := 28) hx hb dX3_digest_12 (by decide) (fun c_4 => ?_) (fun c_4 => ?_)
        · skip
          exact absurd c_4 (by decide)
        · skip
          refine lv_aload_n hx hb dX3_digest_15 rfl (lv_at hl 2 rfl) ?_
          refine lv_lload_n hx hb dX3_digest_16 rfl (lv_at hl 1 rfl) ?_
          refine lv_iload_n hx hb dX3_digest_17 rfl (lv_at hl 0 rfl) ?_
          refine rd_callV (As := [.long (hsS σ 2 (hsS σ 1 (hsS σ 0 (hsL (g_tb σ) (hsO 1759 (lN (g_n σ))) (5 * g_n σ))))), .int 3]) (rest := []) ⟨hx, hb, hml, hown, hts⟩ (c_hsS l G C a σ κ hn (j := 3) (by decide) (hsS σ 2 (hsS σ 1 (hsS σ 0 (hsL (g_tb σ) (hsO 1759 (lN (g_n σ))) (5 * g_n σ)))))) (cwV 2 hts gX3_digest_X3_hashOfSurvey rfl rfl rfl (by decide +kernel) ⟨Nat.le_of_ble_eq_true rfl, Nat.le_of_ble_eq_true rfl⟩) hK hN hP (0) 3 wX_e0 rfl rfl rfl hl.1 rfl (Nat.le_of_ble_eq_true rfl) dX3_digest_18 ⟨Nat.zero_le _, Nat.zero_le _⟩ ?_
          refine lv_lstore_n (lv' := [(1, .long (hsS σ 3 (hsS σ 2 (hsS σ 1 (hsS σ 0 (hsL (g_tb σ) (hsO 1759 (lN (g_n σ))) (5 * g_n σ))))))), (3, .int 3), (0, .ref (a 0))]) hx hb dX3_digest_21 rfl hl (by decide) rfl (fun ls hl => ?_)
          refine lv_iinc (v := 4) (lv' := [(3, .int 4), (1, .long (hsS σ 3 (hsS σ 2 (hsS σ 1 (hsS σ 0 (hsL (g_tb σ) (hsO 1759 (lN (g_n σ))) (5 * g_n σ))))))), (0, .ref (a 0))]) hx hb dX3_digest_22 hl (k := 1) rfl (by decide) (by decide) rfl (fun ls hl => ?_)
          refine lv_goto (tgt := 10) hx hb dX3_digest_25 (by decide) ?_
          refine lv_iload_n hx hb dX3_digest_10 rfl (lv_at hl 0 rfl) ?_
          refine lv_iconst (v := 4) hx hb dX3_digest_11 (by decide) ?_
          refine ic_ge (tgt := 28) hx hb dX3_digest_12 (by decide) (fun c_5 => ?_) (fun c_5 => ?_)
          · skip
            refine lv_lload_n hx hb dX3_digest_28 rfl (lv_at hl 1 rfl) ?_
            refine lv_aload_n hx hb dX3_digest_29 rfl (lv_at hl 2 rfl) ?_
            refine lv_iconst (v := 0) hx hb dX3_digest_30 (by decide) ?_
            refine lv_iconst (v := 1) hx hb dX3_digest_31 (by decide) ?_
            refine rd_callV (As := [.int 0, .int 1]) (rest := [.long (hsS σ 3 (hsS σ 2 (hsS σ 1 (hsS σ 0 (hsL (g_tb σ) (hsO 1759 (lN (g_n σ))) (5 * g_n σ))))))]) ⟨hx, hb, hml, hown, hts⟩ (c_cargo_ii l G C a σ κ hn (i := 0) (j := 1) (by decide) (by decide)) (cwV 2 hts gX3_digest_X3_cargo rfl rfl rfl (by decide +kernel) ⟨Nat.le_of_ble_eq_true rfl, Nat.le_of_ble_eq_true rfl⟩) hK hN hP (0) 3 wX_e0 rfl rfl rfl hl.1 rfl (Nat.le_of_ble_eq_true rfl) dX3_digest_32 ⟨Nat.zero_le _, Nat.zero_le _⟩ ?_
            refine rd_callS (As := [.long (hsS σ 3 (hsS σ 2 (hsS σ 1 (hsS σ 0 (hsL (g_tb σ) (hsO 1759 (lN (g_n σ))) (5 * g_n σ)))))), .long (tCargo σ 0 1)]) (rest := []) ⟨hx, hb, hml, hown, hts⟩ (c_hash l G C a σ κ (hsS σ 3 (hsS σ 2 (hsS σ 1 (hsS σ 0 (hsL (g_tb σ) (hsO 1759 (lN (g_n σ))) (5 * g_n σ)))))) (tCargo σ 0 1)) (va_cwS 2 hts gX3_digest_X3_hashWith rfl rfl rfl (by decide +kernel) ⟨Nat.le_of_ble_eq_true rfl, Nat.le_of_ble_eq_true rfl⟩) hK hN hP rfl hl.1 rfl (Nat.le_of_ble_eq_true rfl) dX3_digest_35 ⟨Nat.zero_le _, Nat.zero_le _⟩ ?_
            refine lv_lstore_n (lv' := [(1, .long (hsO (hsS σ 3 (hsS σ 2 (hsS σ 1 (hsS σ 0 (hsL (g_tb σ) (hsO 1759 (lN (g_n σ))) (5 * g_n σ)))))) (tCargo σ 0 1))), (3, .int 4), (0, .ref (a 0))]) hx hb dX3_digest_38 rfl hl (by decide) rfl (fun ls hl => ?_)
            refine lv_lload_n hx hb dX3_digest_39 rfl (lv_at hl 0 rfl) ?_
            refine lv_aload_n hx hb dX3_digest_40 rfl (lv_at hl 2 rfl) ?_
            refine lv_iconst (v := 0) hx hb dX3_digest_41 (by decide) ?_
            refine lv_iconst (v := 1) hx hb dX3_digest_42 (by decide) ?_
            refine rd_callV (As := [.int 0, .int 1]) (rest := [.long (hsO (hsS σ 3 (hsS σ 2 (hsS σ 1 (hsS σ 0 (hsL (g_tb σ) (hsO 1759 (lN (g_n σ))) (5 * g_n σ)))))) (tCargo σ 0 1))]) ⟨hx, hb, hml, hown, hts⟩ (c_low_ii l G C a σ κ hn (i := 0) (j := 1) (by decide) (by decide)) (cwV 2 hts gX3_digest_X3_cargoLow rfl rfl rfl (by decide +kernel) ⟨Nat.le_of_ble_eq_true rfl, Nat.le_of_ble_eq_true rfl⟩) hK hN hP (0) 3 wX_e0 rfl rfl rfl hl.1 rfl (Nat.le_of_ble_eq_true rfl) dX3_digest_43 ⟨Nat.zero_le _, Nat.zero_le _⟩ ?_
            refine rd_callS (As := [.long (hsO (hsS σ 3 (hsS σ 2 (hsS σ 1 (hsS σ 0 (hsL (g_tb σ) (hsO 1759 (lN (g_n σ))) (5 * g_n σ)))))) (tCargo σ 0 1)), .long (tLow σ 0 1)]) (rest := []) ⟨hx, hb, hml, hown, hts⟩ (c_hash l G C a σ κ (hsO (hsS σ 3 (hsS σ 2 (hsS σ 1 (hsS σ 0 (hsL (g_tb σ) (hsO 1759 (lN (g_n σ))) (5 * g_n σ)))))) (tCargo σ 0 1)) (tLow σ 0 1)) (va_cwS 2 hts gX3_digest_X3_hashWith rfl rfl rfl (by decide +kernel) ⟨Nat.le_of_ble_eq_true rfl, Nat.le_of_ble_eq_true rfl⟩) hK hN hP rfl hl.1 rfl (Nat.le_of_ble_eq_true rfl) dX3_digest_46 ⟨Nat.zero_le _, Nat.zero_le _⟩ ?_
            refine lv_lstore_n (lv' := [(1, .long (hsO (hsO (hsS σ 3 (hsS σ 2 (hsS σ 1 (hsS σ 0 (hsL (g_tb σ) (hsO 1759 (lN (g_n σ))) (5 * g_n σ)))))) (tCargo σ 0 1)) (tLow σ 0 1))), (3, .int 4), (0, .ref (a 0))]) hx hb dX3_digest_49 rfl hl (by decide) rfl (fun ls hl => ?_)
            refine lv_lload_n hx hb dX3_digest_50 rfl (lv_at hl 0 rfl) ?_
            refine lv_aload_n hx hb dX3_digest_51 rfl (lv_at hl 2 rfl) ?_
            refine lv_iconst (v := 0) hx hb dX3_digest_52 (by decide) ?_
            refine lv_iconst (v := 1) hx hb dX3_digest_53 (by decide) ?_
            refine rd_callV (As := [.int 0, .int 1]) (rest := [.long (hsO (hsO (hsS σ 3 (hsS σ 2 (hsS σ 1 (hsS σ 0 (hsL (g_tb σ) (hsO 1759 (lN (g_n σ))) (5 * g_n σ)))))) (tCargo σ 0 1)) (tLow σ 0 1))]) ⟨hx, hb, hml, hown, hts⟩ (c_high_ii l G C a σ κ hn (i := 0) (j := 1) (by decide) (by decide)) (cwV 2 hts gX3_digest_X3_cargoHigh rfl rfl rfl (by decide +kernel) ⟨Nat.le_of_ble_eq_true rfl, Nat.le_of_ble_eq_true rfl⟩) hK hN hP (0) 3 wX_e0 rfl rfl rfl hl.1 rfl (Nat.le_of_ble_eq_true rfl) dX3_digest_54 ⟨Nat.zero_le _, Nat.zero_le _⟩ ?_
            refine rd_callS (As := [.long (hsO (hsO (hsS σ 3 (hsS σ 2 (hsS σ 1 (hsS σ 0 (hsL (g_tb σ) (hsO 1759 (lN (g_n σ))) (5 * g_n σ)))))) (tCargo σ 0 1)) (tLow σ 0 1)), .long (tHigh σ 0 1)]) (rest := []) ⟨hx, hb, hml, hown, hts⟩ (c_hash l G C a σ κ (hsO (hsO (hsS σ 3 (hsS σ 2 (hsS σ 1 (hsS σ 0 (hsL (g_tb σ) (hsO 1759 (lN (g_n σ))) (5 * g_n σ)))))) (tCargo σ 0 1)) (tLow σ 0 1)) (tHigh σ 0 1)) (va_cwS 2 hts gX3_digest_X3_hashWith rfl rfl rfl (by decide +kernel) ⟨Nat.le_of_ble_eq_true rfl, Nat.le_of_ble_eq_true rfl⟩) hK hN hP rfl hl.1 rfl (Nat.le_of_ble_eq_true rfl) dX3_digest_57 ⟨Nat.zero_le _, Nat.zero_le _⟩ ?_
            refine lv_lstore_n (lv' := [(1, .long (hsO (hsO (hsO (hsS σ 3 (hsS σ 2 (hsS σ 1 (hsS σ 0 (hsL (g_tb σ) (hsO 1759 (lN (g_n σ))) (5 * g_n σ)))))) (tCargo σ 0 1)) (tLow σ 0 1)) (tHigh σ 0 1))), (3, .int 4), (0, .ref (a 0))]) hx hb dX3_digest_60 rfl hl (by decide) rfl (fun ls hl => ?_)
            refine lv_lload_n hx hb dX3_digest_61 rfl (lv_at hl 0 rfl) ?_
            refine lv_aload_n hx hb dX3_digest_62 rfl (lv_at hl 2 rfl) ?_
            refine rd_callV (As := []) (rest := [.long (hsO (hsO (hsO (hsS σ 3 (hsS σ 2 (hsS σ 1 (hsS σ 0 (hsL (g_tb σ) (hsO 1759 (lN (g_n σ))) (5 * g_n σ)))))) (tCargo σ 0 1)) (tLow σ 0 1)) (tHigh σ 0 1))]) ⟨hx, hb, hml, hown, hts⟩ (c_best l G C a σ κ hn) (cwV 0 hts gX3_digest_X3_heaviest rfl rfl rfl (by decide +kernel) ⟨Nat.le_of_ble_eq_true rfl, Nat.le_of_ble_eq_true rfl⟩) hK hN hP (0) 3 wX_e0 rfl rfl rfl hl.1 rfl (Nat.le_of_ble_eq_true rfl) dX3_digest_63 ⟨Nat.zero_le _, Nat.zero_le _⟩ ?_
            refine rd_callS (As := [.long (hsO (hsO (hsO (hsS σ 3 (hsS σ 2 (hsS σ 1 (hsS σ 0 (hsL (g_tb σ) (hsO 1759 (lN (g_n σ))) (5 * g_n σ)))))) (tCargo σ 0 1)) (tLow σ 0 1)) (tHigh σ 0 1)), .long (aHeaviest σ)]) (rest := []) ⟨hx, hb, hml, hown, hts⟩ (c_hash l G C a σ κ (hsO (hsO (hsO (hsS σ 3 (hsS σ 2 (hsS σ 1 (hsS σ 0 (hsL (g_tb σ) (hsO 1759 (lN (g_n σ))) (5 * g_n σ)))))) (tCargo σ 0 1)) (tLow σ 0 1)) (tHigh σ 0 1)) (aHeaviest σ)) (va_cwS 2 hts gX3_digest_X3_hashWith rfl rfl rfl (by decide +kernel) ⟨Nat.le_of_ble_eq_true rfl, Nat.le_of_ble_eq_true rfl⟩) hK hN hP rfl hl.1 rfl (Nat.le_of_ble_eq_true rfl) dX3_digest_66 ⟨Nat.zero_le _, Nat.zero_le _⟩ ?_
            refine lv_lstore_n (lv' := [(1, .long (hsO (hsO (hsO (hsO (hsS σ 3 (hsS σ 2 (hsS σ 1 (hsS σ 0 (hsL (g_tb σ) (hsO 1759 (lN (g_n σ))) (5 * g_n σ)))))) (tCargo σ 0 1)) (tLow σ 0 1)) (tHigh σ 0 1)) (aHeaviest σ))), (3, .int 4), (0, .ref (a 0))]) hx hb dX3_digest_69 rfl hl (by decide) rfl (fun ls hl => ?_)
            refine lv_lload_n hx hb dX3_digest_70 rfl (lv_at hl 0 rfl) ?_
            refine lv_aload_n hx hb dX3_digest_71 rfl (lv_at hl 2 rfl) ?_
            refine va_get (D := G) (ci := 3) (v := .long (g_len σ)) (C := RX3) (T := TX3) (N := 7) hx hb hts hX3 hown hK hP (0) wX_e0 rfl 5 (by decide) (hts (.fieldLink RX3 40 "DraftSurvey" "length" "J") (by decide +kernel)) (fun _ h9 => h9) rfl dX3_digest_72 ?_
            refine rd_callS (As := [.long (hsO (hsO (hsO (hsO (hsS σ 3 (hsS σ 2 (hsS σ 1 (hsS σ 0 (hsL (g_tb σ) (hsO 1759 (lN (g_n σ))) (5 * g_n σ)))))) (tCargo σ 0 1)) (tLow σ 0 1)) (tHigh σ 0 1)) (aHeaviest σ)), .long (g_len σ)]) (rest := []) ⟨hx, hb, hml, hown, hts⟩ (c_hash l G C a σ κ (hsO (hsO (hsO (hsO (hsS σ 3 (hsS σ 2 (hsS σ 1 (hsS σ 0 (hsL (g_tb σ) (hsO 1759 (lN (g_n σ))) (5 * g_n σ)))))) (tCargo σ 0 1)) (tLow σ 0 1)) (tHigh σ 0 1)) (aHeaviest σ)) (g_len σ)) (va_cwS 2 hts gX3_digest_X3_hashWith rfl rfl rfl (by decide +kernel) ⟨Nat.le_of_ble_eq_true rfl, Nat.le_of_ble_eq_true rfl⟩) hK hN hP rfl hl.1 rfl (Nat.le_of_ble_eq_true rfl) dX3_digest_75 ⟨Nat.zero_le _, Nat.zero_le _⟩ ?_
            refine lv_lstore_n (lv' := [(1, .long (hsO (hsO (hsO (hsO (hsO (hsS σ 3 (hsS σ 2 (hsS σ 1 (hsS σ 0 (hsL (g_tb σ) (hsO 1759 (lN (g_n σ))) (5 * g_n σ)))))) (tCargo σ 0 1)) (tLow σ 0 1)) (tHigh σ 0 1)) (aHeaviest σ)) (g_len σ))), (3, .int 4), (0, .ref (a 0))]) hx hb dX3_digest_78 rfl hl (by decide) rfl (fun ls hl => ?_)
            refine lv_lload_n hx hb dX3_digest_79 rfl (lv_at hl 0 rfl) ?_
            refine lv_aload_n hx hb dX3_digest_80 rfl (lv_at hl 2 rfl) ?_
            refine va_get (D := G) (ci := 3) (v := .long (g_mar σ)) (C := RX3) (T := TX3) (N := 7) hx hb hts hX3 hown hK hP (0) wX_e0 rfl 6 (by decide) (hts (.fieldLink RX3 44 "DraftSurvey" "margin" "J") (by decide +kernel)) (fun _ h9 => h9) rfl dX3_digest_81 ?_
            refine rd_callS (As := [.long (hsO (hsO (hsO (hsO (hsO (hsS σ 3 (hsS σ 2 (hsS σ 1 (hsS σ 0 (hsL (g_tb σ) (hsO 1759 (lN (g_n σ))) (5 * g_n σ)))))) (tCargo σ 0 1)) (tLow σ 0 1)) (tHigh σ 0 1)) (aHeaviest σ)) (g_len σ)), .long (g_mar σ)]) (rest := []) ⟨hx, hb, hml, hown, hts⟩ (c_hash l G C a σ κ (hsO (hsO (hsO (hsO (hsO (hsS σ 3 (hsS σ 2 (hsS σ 1 (hsS σ 0 (hsL (g_tb σ) (hsO 1759 (lN (g_n σ))) (5 * g_n σ)))))) (tCargo σ 0 1)) (tLow σ 0 1)) (tHigh σ 0 1)) (aHeaviest σ)) (g_len σ)) (g_mar σ)) (va_cwS 2 hts gX3_digest_X3_hashWith rfl rfl rfl (by decide +kernel) ⟨Nat.le_of_ble_eq_true rfl, Nat.le_of_ble_eq_true rfl⟩) hK hN hP rfl hl.1 rfl (Nat.le_of_ble_eq_true rfl) dX3_digest_84 ⟨Nat.zero_le _, Nat.zero_le _⟩ ?_
            refine lv_lstore_n (lv' := [(1, .long (hsO (hsO (hsO (hsO (hsO (hsO (hsS σ 3 (hsS σ 2 (hsS σ 1 (hsS σ 0 (hsL (g_tb σ) (hsO 1759 (lN (g_n σ))) (5 * g_n σ)))))) (tCargo σ 0 1)) (tLow σ 0 1)) (tHigh σ 0 1)) (aHeaviest σ)) (g_len σ)) (g_mar σ))), (3, .int 4), (0, .ref (a 0))]) hx hb dX3_digest_87 rfl hl (by decide) rfl (fun ls hl => ?_)
            refine lv_aload_n hx hb dX3_digest_88 rfl (lv_at hl 2 rfl) ?_
            refine lv_lload_n hx hb dX3_digest_89 rfl (lv_at hl 0 rfl) ?_
            refine rd_callV (As := [.long (hsO (hsO (hsO (hsO (hsO (hsO (hsS σ 3 (hsS σ 2 (hsS σ 1 (hsS σ 0 (hsL (g_tb σ) (hsO 1759 (lN (g_n σ))) (5 * g_n σ)))))) (tCargo σ 0 1)) (tLow σ 0 1)) (tHigh σ 0 1)) (aHeaviest σ)) (g_len σ)) (g_mar σ))]) (rest := []) ⟨hx, hb, hml, hown, hts⟩ (c_hsB l G C a σ κ hbl (hsO (hsO (hsO (hsO (hsO (hsO (hsS σ 3 (hsS σ 2 (hsS σ 1 (hsS σ 0 (hsL (g_tb σ) (hsO 1759 (lN (g_n σ))) (5 * g_n σ)))))) (tCargo σ 0 1)) (tLow σ 0 1)) (tHigh σ 0 1)) (aHeaviest σ)) (g_len σ)) (g_mar σ))) (cwV 1 hts gX3_digest_X3_hashOfBuffer rfl rfl rfl (by decide +kernel) ⟨Nat.le_of_ble_eq_true rfl, Nat.le_of_ble_eq_true rfl⟩) hK hN hP (0) 3 wX_e0 rfl rfl rfl hl.1 rfl (Nat.le_of_ble_eq_true rfl) dX3_digest_90 ⟨Nat.zero_le _, Nat.zero_le _⟩ ?_
            exact rd_lret hx hb hr hlocks (rfl) dX3_digest_93
          · skip
            exact absurd c_5 (by decide)
