set_option maxHeartbeats 4000000 in
set_option maxRecDepth 100000 in
theorem c_clearB (l : Launch) (G : va_G) (C : Nat → ClassId) (a : Nat → Nat) (σ : SG) (κ : KX) (hbl : g_bl σ ≤ 40) : WrC l yX3_clearBuffer wsX3_clearBuffer ({ frames := 0, cells := 0, slots := 0, locals := 0 } : Room) G (tysC C) (wX C a σ κ) [.ref (a 0)] (pX C a (lN (g_bl σ)) (u_bl σ 0)) := by
  intro sz
  refine Met.ofW (cc := cX3_clearBuffer) (maxL := 3) (ret := (some .long)) (by decide) rfl ?_
  intro p e s m args below meth c s₁ B hml hv
  obtain ⟨rfl, hsz, hP, hK, hN, hD0⟩ := hv
  have hx := B.exec
  have hb := B.bytes
  have hr := B.returns
  have hts := atoms_spec (ws := wsX3_clearBuffer) B.pre
  have hown : s.vm.findClass RX3 = some m.cls := findClass_of_methodNamed B.named
  have hlocks := B.notSynchronized
  have hX3 : ∀ w ∈ wsX30, w ∈ wsX3_clearBuffer := by decide +kernel
  subst hsz
  have hD := hD0.self (sz := s.heap.size)
  generalize hAe : va_A (wX C a σ κ) s.heap.size = A at hD ⊢
  have hA : ∀ q : Nat, s.heap.size ≤ q → A q := fun q h => by rw [← hAe]; exact Or.inr h
  have hS : va_S A s.heap s.heap [] := va_S.rf
  have hP : va_P G vwCl (wX C a σ κ) s.heap := hP
  have hl := lv_entry ([.ref (a 0)]) (n := 3) (Nat.le_of_ble_eq_true rfl)
  rw [lg_entry_eq]
  generalize (lg_sl ([.ref (a 0)]) ++ List.replicate (3 - (lg_sl ([.ref (a 0)])).length) Slot.unset).toArray = ls at hl ⊢
  have hl : lv_has ls 3 [(0, .ref (a 0))] := hl
  refine lv_aload_n hx hb dX3_clearBuffer_0 rfl (lv_at hl 0 rfl) ?_
  refine va_get (D := G) (ci := 3) (v := .int (nI (g_bl σ))) (C := RX3) (T := TX3) (N := 7) hx hb hts hX3 hown hK hP (0) wX_e0 rfl 1 (by decide) (hts (.fieldLink RX3 13 "DraftSurvey" "bufferLength" "I") (by decide +kernel)) (fun _ h9 => h9) rfl dX3_clearBuffer_1 ?_
  refine lv_i2l (v := lN (g_bl σ)) hx hb dX3_clearBuffer_4 (nI_l (by omega)) ?_
  refine lv_lstore_n (lv' := [(1, .long (lN (g_bl σ))), (0, .ref (a 0))]) hx hb dX3_clearBuffer_5 rfl hl (by decide) rfl (fun ls hl => ?_)
  refine lv_aload_n hx hb dX3_clearBuffer_6 rfl (lv_at hl 1 rfl) ?_
  refine lv_iconst (v := 0) hx hb dX3_clearBuffer_7 (by decide) ?_
  refine va_put (D := G) (ci := 3) (v := .int 0) (ty := .int) (C := RX3) (T := TX3) (N := 7) hx hb hts hX3 tyX3 tyX3_ok nmX3 hown hK hP hD hS (0) wX_e0 rfl 1 (by decide) (hts (.fieldLink RX3 13 "DraftSurvey" "bufferLength" "I") (by decide +kernel)) (fun _ h9 => h9) rfl (by decide +kernel) rfl rfl (Nat.le_of_ble_eq_true rfl) dX3_clearBuffer_8 (fun H locs hP hD hS => ?_)
  have hP : va_P G vwCl (wX C a (u_bl σ 0) κ) H := hP
  have hD : va_D A (wX C a (u_bl σ 0) κ) := hD
  refine lv_lload_n hx hb dX3_clearBuffer_11 rfl (lv_at hl 0 rfl) ?_
  refine wr_lret hx hb hr hlocks hAe hP hD hS ?_ dX3_clearBuffer_12
  exact ⟨congrArg (fun z => some (Value.long z)) rfl, κ, congrArg (fun z => wX C a z κ) rfl⟩

set_option maxHeartbeats 4000000 in
set_option maxRecDepth 100000 in
theorem c_clearT (l : Launch) (G : va_G) (C : Nat → ClassId) (a : Nat → Nat) (σ : SG) (κ : KX) (hn : g_n σ ≤ 10) : WrC l yX3_clearTable wsX3_clearTable ({ frames := 0, cells := 0, slots := 0, locals := 0 } : Room) G (tysC C) (wX C a σ κ) [.ref (a 0)] (pX C a (lN (g_n σ)) (u_n σ 0)) := by
  intro sz
  refine Met.ofW (cc := cX3_clearTable) (maxL := 3) (ret := (some .long)) (by decide) rfl ?_
  intro p e s m args below meth c s₁ B hml hv
  obtain ⟨rfl, hsz, hP, hK, hN, hD0⟩ := hv
  have hx := B.exec
  have hb := B.bytes
  have hr := B.returns
  have hts := atoms_spec (ws := wsX3_clearTable) B.pre
  have hown : s.vm.findClass RX3 = some m.cls := findClass_of_methodNamed B.named
  have hlocks := B.notSynchronized
  have hX2 : ∀ w ∈ wsX20, w ∈ wsX3_clearTable := by decide +kernel
  have hX3 : ∀ w ∈ wsX30, w ∈ wsX3_clearTable := by decide +kernel
  subst hsz
  have hD := hD0.self (sz := s.heap.size)
  generalize hAe : va_A (wX C a σ κ) s.heap.size = A at hD ⊢
  have hA : ∀ q : Nat, s.heap.size ≤ q → A q := fun q h => by rw [← hAe]; exact Or.inr h
  have hS : va_S A s.heap s.heap [] := va_S.rf
  have hP : va_P G vwCl (wX C a σ κ) s.heap := hP
  have hl := lv_entry ([.ref (a 0)]) (n := 3) (Nat.le_of_ble_eq_true rfl)
  rw [lg_entry_eq]
  generalize (lg_sl ([.ref (a 0)]) ++ List.replicate (3 - (lg_sl ([.ref (a 0)])).length) Slot.unset).toArray = ls at hl ⊢
  have hl : lv_has ls 3 [(0, .ref (a 0))] := hl
  refine lv_aload_n hx hb dX3_clearTable_0 rfl (lv_at hl 0 rfl) ?_
  refine va_get (D := G) (ci := 3) (v := .ref (a 4)) (C := RX3) (T := TX3) (N := 7) hx hb hts hX3 hown hK hP (0) wX_e0 rfl 3 (by decide) (hts (.fieldLink RX3 27 "DraftSurvey" "table" "LDraftSurvey$Table;") (by decide +kernel)) (fun _ h9 => h9) rfl dX3_clearTable_1 ?_
  refine va_getN (D := G) (ci := 2) (v := .int (nI (g_n σ))) (C := RX2) (T := TX2) (N := 2) hx hb hts hX2 hown hK hP (4) wX_e4 rfl 1 (by decide) (va_Nw.use rfl hN.1) (fun _ h9 => h9) rfl dX3_clearTable_4 ?_
  refine lv_i2l (v := lN (g_n σ)) hx hb dX3_clearTable_7 (nI_l (by omega)) ?_
  refine lv_lstore_n (lv' := [(1, .long (lN (g_n σ))), (0, .ref (a 0))]) hx hb dX3_clearTable_8 rfl hl (by decide) rfl (fun ls hl => ?_)
  refine lv_aload_n hx hb dX3_clearTable_9 rfl (lv_at hl 1 rfl) ?_
  refine va_get (D := G) (ci := 3) (v := .ref (a 4)) (C := RX3) (T := TX3) (N := 7) hx hb hts hX3 hown hK hP (0) wX_e0 rfl 3 (by decide) (hts (.fieldLink RX3 27 "DraftSurvey" "table" "LDraftSurvey$Table;") (by decide +kernel)) (fun _ h9 => h9) rfl dX3_clearTable_10 ?_
  refine lv_iconst (v := 0) hx hb dX3_clearTable_13 (by decide) ?_
  refine va_putN (D := G) (ci := 2) (v := .int 0) (ty := .int) (C := RX2) (T := TX2) (N := 2) hx hb hts hX2 tyX2 tyX2_ok nmX2 hown hK hP hD hS (4) wX_e4 rfl 1 (by decide) (va_Nw.use rfl hN.1) (fun _ h9 => h9) rfl (by decide +kernel) rfl rfl (Nat.le_of_ble_eq_true rfl) dX3_clearTable_14 (fun H locs hP hD hS => ?_)
  have hP : va_P G vwCl (wX C a (u_n σ 0) κ) H := hP
  have hD : va_D A (wX C a (u_n σ 0) κ) := hD
  refine lv_lload_n hx hb dX3_clearTable_17 rfl (lv_at hl 0 rfl) ?_
  refine wr_lret hx hb hr hlocks hAe hP hD hS ?_ dX3_clearTable_18
  exact ⟨congrArg (fun z => some (Value.long z)) rfl, κ, congrArg (fun z => wX C a z κ) rfl⟩

set_option maxHeartbeats 4000000 in
set_option maxRecDepth 100000 in
theorem m_clearB (l : Launch) (G : va_G) (C : Nat → ClassId) (b : Nat → Nat) (σ : SG) (ρ : KM) (hbl : g_bl σ ≤ 40) : WrC l yX4_clearBuffer wsX4_clearBuffer ({ frames := 0, cells := 0, slots := 0, locals := 0 } : Room) G (tysC C) (wM C b σ ρ) [.ref (b 0)] (pM C b (lN (g_bl σ)) (u_bl σ 0)) := by
  intro sz
  refine Met.ofW (cc := cX4_clearBuffer) (maxL := 2) (ret := (some .long)) (by decide) rfl ?_
  intro p e s m args below meth c s₁ B hml hv
  obtain ⟨rfl, hsz, hP, hK, hN, hD0⟩ := hv
  have hx := B.exec
  have hb := B.bytes
  have hr := B.returns
  have hts := atoms_spec (ws := wsX4_clearBuffer) B.pre
  have hown : s.vm.findClass RX4 = some m.cls := findClass_of_methodNamed B.named
  have hlocks := B.notSynchronized
  have hX4 : ∀ w ∈ wsX40, w ∈ wsX4_clearBuffer := by decide +kernel
  subst hsz
  have hD := hD0.self (sz := s.heap.size)
  generalize hAe : va_A (wM C b σ ρ) s.heap.size = A at hD ⊢
  have hA : ∀ q : Nat, s.heap.size ≤ q → A q := fun q h => by rw [← hAe]; exact Or.inr h
  have hS : va_S A s.heap s.heap [] := va_S.rf
  have hP : va_P G vwCl (wM C b σ ρ) s.heap := hP
  have hl := lv_entry ([.ref (b 0)]) (n := 2) (Nat.le_of_ble_eq_true rfl)
  rw [lg_entry_eq]
  generalize (lg_sl ([.ref (b 0)]) ++ List.replicate (2 - (lg_sl ([.ref (b 0)])).length) Slot.unset).toArray = ls at hl ⊢
  have hl : lv_has ls 2 [(0, .ref (b 0))] := hl
  refine lv_aload_n hx hb dX4_clearBuffer_0 rfl (lv_at hl 0 rfl) ?_
  refine va_get (D := G) (ci := 4) (v := .int (nI (g_bl σ))) (C := RX4) (T := TX4) (N := 13) hx hb hts hX4 hown hK hP (0) wM_e0 rfl 0 (by decide) (hts (.fieldLink RX4 47 "DraftSurveyModel" "bufferLength" "I") (by decide +kernel)) (fun _ h9 => h9) rfl dX4_clearBuffer_1 ?_
  refine lv_istore_n (lv' := [(1, .int (nI (g_bl σ))), (0, .ref (b 0))]) hx hb dX4_clearBuffer_4 rfl hl (by decide) rfl (fun ls hl => ?_)
  refine lv_aload_n hx hb dX4_clearBuffer_5 rfl (lv_at hl 1 rfl) ?_
  refine lv_iconst (v := 0) hx hb dX4_clearBuffer_6 (by decide) ?_
  refine va_put (D := G) (ci := 4) (v := .int 0) (ty := .int) (C := RX4) (T := TX4) (N := 13) hx hb hts hX4 tyX4 tyX4_ok nmX4 hown hK hP hD hS (0) wM_e0 rfl 0 (by decide) (hts (.fieldLink RX4 47 "DraftSurveyModel" "bufferLength" "I") (by decide +kernel)) (fun _ h9 => h9) rfl (by decide +kernel) rfl rfl (Nat.le_of_ble_eq_true rfl) dX4_clearBuffer_7 (fun H locs hP hD hS => ?_)
  have hP : va_P G vwCl (wM C b (u_bl σ 0) ρ) H := hP
  have hD : va_D A (wM C b (u_bl σ 0) ρ) := hD
  refine lv_iload_n hx hb dX4_clearBuffer_10 rfl (lv_at hl 0 rfl) ?_
  refine lv_i2l (v := lN (g_bl σ)) hx hb dX4_clearBuffer_11 (nI_l (by omega)) ?_
  refine wr_lret hx hb hr hlocks hAe hP hD hS ?_ dX4_clearBuffer_12
  exact ⟨congrArg (fun z => some (Value.long z)) rfl, ρ, congrArg (fun z => wM C b z ρ) rfl⟩

set_option maxHeartbeats 4000000 in
set_option maxRecDepth 100000 in
theorem m_clearT (l : Launch) (G : va_G) (C : Nat → ClassId) (b : Nat → Nat) (σ : SG) (ρ : KM) (hn : g_n σ ≤ 10) : WrC l yX4_clearTable wsX4_clearTable ({ frames := 0, cells := 0, slots := 0, locals := 0 } : Room) G (tysC C) (wM C b σ ρ) [.ref (b 0)] (pM C b (lN (g_n σ)) (u_n σ 0)) := by
  intro sz
  refine Met.ofW (cc := cX4_clearTable) (maxL := 2) (ret := (some .long)) (by decide) rfl ?_
  intro p e s m args below meth c s₁ B hml hv
  obtain ⟨rfl, hsz, hP, hK, hN, hD0⟩ := hv
  have hx := B.exec
  have hb := B.bytes
  have hr := B.returns
  have hts := atoms_spec (ws := wsX4_clearTable) B.pre
  have hown : s.vm.findClass RX4 = some m.cls := findClass_of_methodNamed B.named
  have hlocks := B.notSynchronized
  have hX4 : ∀ w ∈ wsX40, w ∈ wsX4_clearTable := by decide +kernel
  subst hsz
  have hD := hD0.self (sz := s.heap.size)
  generalize hAe : va_A (wM C b σ ρ) s.heap.size = A at hD ⊢
  have hA : ∀ q : Nat, s.heap.size ≤ q → A q := fun q h => by rw [← hAe]; exact Or.inr h
  have hS : va_S A s.heap s.heap [] := va_S.rf
  have hP : va_P G vwCl (wM C b σ ρ) s.heap := hP
  have hl := lv_entry ([.ref (b 0)]) (n := 2) (Nat.le_of_ble_eq_true rfl)
  rw [lg_entry_eq]
  generalize (lg_sl ([.ref (b 0)]) ++ List.replicate (2 - (lg_sl ([.ref (b 0)])).length) Slot.unset).toArray = ls at hl ⊢
  have hl : lv_has ls 2 [(0, .ref (b 0))] := hl
  refine lv_aload_n hx hb dX4_clearTable_0 rfl (lv_at hl 0 rfl) ?_
  refine va_get (D := G) (ci := 4) (v := .int (nI (g_n σ))) (C := RX4) (T := TX4) (N := 13) hx hb hts hX4 hown hK hP (0) wM_e0 rfl 2 (by decide) (hts (.fieldLink RX4 85 "DraftSurveyModel" "rows" "I") (by decide +kernel)) (fun _ h9 => h9) rfl dX4_clearTable_1 ?_
  refine lv_istore_n (lv' := [(1, .int (nI (g_n σ))), (0, .ref (b 0))]) hx hb dX4_clearTable_4 rfl hl (by decide) rfl (fun ls hl => ?_)
  refine lv_aload_n hx hb dX4_clearTable_5 rfl (lv_at hl 1 rfl) ?_
  refine lv_iconst (v := 0) hx hb dX4_clearTable_6 (by decide) ?_
  refine va_put (D := G) (ci := 4) (v := .int 0) (ty := .int) (C := RX4) (T := TX4) (N := 13) hx hb hts hX4 tyX4 tyX4_ok nmX4 hown hK hP hD hS (0) wM_e0 rfl 2 (by decide) (hts (.fieldLink RX4 85 "DraftSurveyModel" "rows" "I") (by decide +kernel)) (fun _ h9 => h9) rfl (by decide +kernel) rfl rfl (Nat.le_of_ble_eq_true rfl) dX4_clearTable_7 (fun H locs hP hD hS => ?_)
  have hP : va_P G vwCl (wM C b (u_n σ 0) ρ) H := hP
  have hD : va_D A (wM C b (u_n σ 0) ρ) := hD
  refine lv_iload_n hx hb dX4_clearTable_10 rfl (lv_at hl 0 rfl) ?_
  refine lv_i2l (v := lN (g_n σ)) hx hb dX4_clearTable_11 (nI_l (by omega)) ?_
  refine wr_lret hx hb hr hlocks hAe hP hD hS ?_ dX4_clearTable_12
  exact ⟨congrArg (fun z => some (Value.long z)) rfl, ρ, congrArg (fun z => wM C b z ρ) rfl⟩

set_option maxHeartbeats 4000000 in
set_option maxRecDepth 100000 in
theorem c_append (l : Launch) (G : va_G) (C : Nat → ClassId) (a : Nat → Nat) (σ : SG) (κ : KX) (hbl : g_bl σ ≤ 40) (c_ : Int32) : WrC l yX3_append wsX3_append ({ frames := 0, cells := 0, slots := 0, locals := 0 } : Room) G (tysC C) (wX C a σ κ) [.ref (a 0), .int c_] (pX C a (aAppend σ c_) (nAppend σ c_)) := by
  intro sz
  refine Met.ofW (cc := cX3_append) (maxL := 2) (ret := (some .long)) (by decide) rfl ?_
  intro p e s m args below meth c s₁ B hml hv
  obtain ⟨rfl, hsz, hP, hK, hN, hD0⟩ := hv
  have hx := B.exec
  have hb := B.bytes
  have hr := B.returns
  have hts := atoms_spec (ws := wsX3_append) B.pre
  have hown : s.vm.findClass RX3 = some m.cls := findClass_of_methodNamed B.named
  have hlocks := B.notSynchronized
  have hX3 : ∀ w ∈ wsX30, w ∈ wsX3_append := by decide +kernel
  subst hsz
  have hD := hD0.self (sz := s.heap.size)
  generalize hAe : va_A (wX C a σ κ) s.heap.size = A at hD ⊢
  have hA : ∀ q : Nat, s.heap.size ≤ q → A q := fun q h => by rw [← hAe]; exact Or.inr h
  have hS : va_S A s.heap s.heap [] := va_S.rf
  have hP : va_P G vwCl (wX C a σ κ) s.heap := hP
  have hl := lv_entry ([.ref (a 0), .int c_]) (n := 2) (Nat.le_of_ble_eq_true rfl)
  rw [lg_entry_eq]
  generalize (lg_sl ([.ref (a 0), .int c_]) ++ List.replicate (2 - (lg_sl ([.ref (a 0), .int c_])).length) Slot.unset).toArray = ls at hl ⊢
  have hl : lv_has ls 2 [(0, .ref (a 0)), (1, .int c_)] := hl
  refine lv_iload_n hx hb dX3_append_0 rfl (lv_at hl 1 rfl) ?_
  refine lv_bipush (v := 32) hx hb dX3_append_1 (by decide) ?_
  refine lv_icmp_lt (tgt := 12) hx hb dX3_append_3 (by decide) (fun c_1 => ?_) (fun c_1 => ?_)
  · skip
    refine lv_ldc2 (v := (-9000000000000000003)) hx hb hown (hts (.constantLong RX3 47 (-9000000000000000003)) (by decide +kernel)) dX3_append_12 ?_
    refine wr_lret hx hb hr hlocks hAe hP hD hS ?_ dX3_append_15
    exact ⟨congrArg (fun z => some (Value.long z)) (if_neg (fun q => q.1 c_1)).symm, κ, congrArg (fun z => wX C a z κ) (if_neg (fun q => q.1 c_1)).symm⟩
  · skip
    refine lv_iload_n hx hb dX3_append_6 rfl (lv_at hl 1 rfl) ?_
    refine lv_bipush (v := 126) hx hb dX3_append_7 (by decide) ?_
    refine ic_le (tgt := 16) hx hb dX3_append_9 (by decide) (fun c_2 => ?_) (fun c_2 => ?_)
    · skip
      refine lv_aload_n hx hb dX3_append_16 rfl (lv_at hl 0 rfl) ?_
      refine va_get (D := G) (ci := 3) (v := .int (nI (g_bl σ))) (C := RX3) (T := TX3) (N := 7) hx hb hts hX3 hown hK hP (0) wX_e0 rfl 1 (by decide) (hts (.fieldLink RX3 13 "DraftSurvey" "bufferLength" "I") (by decide +kernel)) (fun _ h9 => h9) rfl dX3_append_17 ?_
      refine lv_if_lt (tgt := 32) hx hb dX3_append_20 (by decide) (fun c_3 => ?_) (fun c_3 => ?_)
      · skip
        have c_3 : (g_bl σ) < 0 := (nI_ltI (a := (g_bl σ)) (b := 0) (by omega) (by omega)).mp c_3
        exact (show False by omega).elim
      · skip
        have c_3 : ¬ (g_bl σ) < 0 := fun z9 => c_3 ((nI_ltI (a := (g_bl σ)) (b := 0) (by omega) (by omega)).mpr z9)
        refine lv_aload_n hx hb dX3_append_23 rfl (lv_at hl 0 rfl) ?_
        refine va_get (D := G) (ci := 3) (v := .int (nI (g_bl σ))) (C := RX3) (T := TX3) (N := 7) hx hb hts hX3 hown hK hP (0) wX_e0 rfl 1 (by decide) (hts (.fieldLink RX3 13 "DraftSurvey" "bufferLength" "I") (by decide +kernel)) (fun _ h9 => h9) rfl dX3_append_24 ?_
        refine lv_bipush (v := 40) hx hb dX3_append_27 (by decide) ?_
        refine lv_icmp_lt (tgt := 36) hx hb dX3_append_29 (by decide) (fun c_4 => ?_) (fun c_4 => ?_)
        · skip
          have c_4 : (g_bl σ) < 40 := (nI_ltI (a := (g_bl σ)) (b := 40) (by omega) (by omega)).mp c_4
          refine lv_aload_n hx hb dX3_append_36 rfl (lv_at hl 0 rfl) ?_
          refine va_get (D := G) (ci := 3) (v := .ref (a 1)) (C := RX3) (T := TX3) (N := 7) hx hb hts hX3 hown hK hP (0) wX_e0 rfl 0 (by decide) (hts (.fieldLink RX3 9 "DraftSurvey" "buffer" "[I") (by decide +kernel)) (fun _ h9 => h9) rfl dX3_append_37 ?_
          refine lv_aload_n hx hb dX3_append_40 rfl (lv_at hl 0 rfl) ?_
          refine va_get (D := G) (ci := 3) (v := .int (nI (g_bl σ))) (C := RX3) (T := TX3) (N := 7) hx hb hts hX3 hown hK hP (0) wX_e0 rfl 1 (by decide) (hts (.fieldLink RX3 13 "DraftSurvey" "bufferLength" "I") (by decide +kernel)) (fun _ h9 => h9) rfl dX3_append_41 ?_
          refine lv_iload_n hx hb dX3_append_44 rfl (lv_at hl 1 rfl) ?_
          refine as_i (k := (g_bl σ)) hx hb hK hP hD hS (1) 0 wX_e1 rfl rfl (by omega) (by decide) dX3_append_45 (fun H locs hP hD hS => ?_)
          have hP : va_P G vwCl (wX C a (u_bf σ (upd (g_bf σ) (g_bl σ) c_)) κ) H := hP
          have hD : va_D A (wX C a (u_bf σ (upd (g_bf σ) (g_bl σ) c_)) κ) := hD
          refine lv_aload_n hx hb dX3_append_46 rfl (lv_at hl 0 rfl) ?_
          refine lv_dup hx hb dX3_append_47 rfl ?_
          refine va_get (D := G) (ci := 3) (v := .int (nI (g_bl σ))) (C := RX3) (T := TX3) (N := 7) hx hb hts hX3 hown hK hP (0) wX_e0 rfl 1 (by decide) (hts (.fieldLink RX3 13 "DraftSurvey" "bufferLength" "I") (by decide +kernel)) (fun _ h9 => h9) rfl dX3_append_48 ?_
          refine lv_iconst (v := 1) hx hb dX3_append_51 (by decide) ?_
          refine lv_iadd hx hb dX3_append_52 ?_
          refine tp_i (v := nI ((g_bl σ) + 1)) (nI_add (g_bl σ) 1) ?_
          refine va_put (D := G) (ci := 3) (v := .int (nI ((g_bl σ) + 1))) (ty := .int) (C := RX3) (T := TX3) (N := 7) hx hb hts hX3 tyX3 tyX3_ok nmX3 hown hK hP hD hS (0) wX_e0 rfl 1 (by decide) (hts (.fieldLink RX3 13 "DraftSurvey" "bufferLength" "I") (by decide +kernel)) (fun _ h9 => h9) rfl (by decide +kernel) rfl rfl (Nat.le_of_ble_eq_true rfl) dX3_append_53 (fun H locs hP hD hS => ?_)
          have hP : va_P G vwCl (wX C a (u_bl (u_bf σ (upd (g_bf σ) (g_bl σ) c_)) ((g_bl σ) + 1)) κ) H := hP
          have hD : va_D A (wX C a (u_bl (u_bf σ (upd (g_bf σ) (g_bl σ) c_)) ((g_bl σ) + 1)) κ) := hD
          refine lv_aload_n hx hb dX3_append_56 rfl (lv_at hl 0 rfl) ?_
          refine va_get (D := G) (ci := 3) (v := .int (nI ((g_bl σ) + 1))) (C := RX3) (T := TX3) (N := 7) hx hb hts hX3 hown hK hP (0) wX_e0 rfl 1 (by decide) (hts (.fieldLink RX3 13 "DraftSurvey" "bufferLength" "I") (by decide +kernel)) (fun _ h9 => h9) rfl dX3_append_57 ?_
          refine lv_i2l (v := lN ((g_bl σ) + 1)) hx hb dX3_append_60 (nI_l (by omega)) ?_
          refine wr_lret hx hb hr hlocks hAe hP hD hS ?_ dX3_append_61
          exact ⟨congrArg (fun z => some (Value.long z)) ((if_pos ⟨c_1, c_2⟩).trans (if_pos c_4)).symm, κ, congrArg (fun z => wX C a z κ) ((if_pos ⟨c_1, c_2⟩).trans (if_pos c_4)).symm⟩
        · skip
          have c_4 : ¬ (g_bl σ) < 40 := fun z9 => c_4 ((nI_ltI (a := (g_bl σ)) (b := 40) (by omega) (by omega)).mpr z9)
          refine lv_ldc2 (v := (-9000000000000000006)) hx hb hown (hts (.constantLong RX3 49 (-9000000000000000006)) (by decide +kernel)) dX3_append_32 ?_
          refine wr_lret hx hb hr hlocks hAe hP hD hS ?_ dX3_append_35
          exact ⟨congrArg (fun z => some (Value.long z)) ((if_pos ⟨c_1, c_2⟩).trans (if_neg c_4)).symm, κ, congrArg (fun z => wX C a z κ) ((if_pos ⟨c_1, c_2⟩).trans (if_neg c_4)).symm⟩
    · skip
      refine lv_ldc2 (v := (-9000000000000000003)) hx hb hown (hts (.constantLong RX3 47 (-9000000000000000003)) (by decide +kernel)) dX3_append_12 ?_
      refine wr_lret hx hb hr hlocks hAe hP hD hS ?_ dX3_append_15
      exact ⟨congrArg (fun z => some (Value.long z)) (if_neg (fun q => q.2 c_2)).symm, κ, congrArg (fun z => wX C a z κ) (if_neg (fun q => q.2 c_2)).symm⟩

set_option maxHeartbeats 4000000 in
set_option maxRecDepth 100000 in
theorem c_setL (l : Launch) (G : va_G) (C : Nat → ClassId) (a : Nat → Nat) (σ : SG) (κ : KX) (x : Int32) : WrC l yX3_setLength wsX3_setLength ({ frames := 0, cells := 0, slots := 0, locals := 0 } : Room) G (tysC C) (wX C a σ κ) [.ref (a 0), .int x] (pX C a (aSetL σ x) (nSetL σ x)) := by
  intro sz
  refine Met.ofW (cc := cX3_setLength) (maxL := 4) (ret := (some .long)) (by decide) rfl ?_
  intro p e s m args below meth c s₁ B hml hv
  obtain ⟨rfl, hsz, hP, hK, hN, hD0⟩ := hv
  have hx := B.exec
  have hb := B.bytes
  have hr := B.returns
  have hts := atoms_spec (ws := wsX3_setLength) B.pre
  have hown : s.vm.findClass RX3 = some m.cls := findClass_of_methodNamed B.named
  have hlocks := B.notSynchronized
  have hX3 : ∀ w ∈ wsX30, w ∈ wsX3_setLength := by decide +kernel
  subst hsz
  have hD := hD0.self (sz := s.heap.size)
  generalize hAe : va_A (wX C a σ κ) s.heap.size = A at hD ⊢
  have hA : ∀ q : Nat, s.heap.size ≤ q → A q := fun q h => by rw [← hAe]; exact Or.inr h
  have hS : va_S A s.heap s.heap [] := va_S.rf
  have hP : va_P G vwCl (wX C a σ κ) s.heap := hP
  have hl := lv_entry ([.ref (a 0), .int x]) (n := 4) (Nat.le_of_ble_eq_true rfl)
  rw [lg_entry_eq]
  generalize (lg_sl ([.ref (a 0), .int x]) ++ List.replicate (4 - (lg_sl ([.ref (a 0), .int x])).length) Slot.unset).toArray = ls at hl ⊢
  have hl : lv_has ls 4 [(0, .ref (a 0)), (1, .int x)] := hl
  refine lv_iload_n hx hb dX3_setLength_0 rfl (lv_at hl 1 rfl) ?_
  refine lv_sipush (v := 10000) hx hb dX3_setLength_1 (by decide) ?_
  refine lv_icmp_lt (tgt := 13) hx hb dX3_setLength_4 (by decide) (fun c_1 => ?_) (fun c_1 => ?_)
  · skip
    refine lv_ldc2 (v := (-9000000000000000003)) hx hb hown (hts (.constantLong RX3 47 (-9000000000000000003)) (by decide +kernel)) dX3_setLength_13 ?_
    refine wr_lret hx hb hr hlocks hAe hP hD hS ?_ dX3_setLength_16
    exact ⟨congrArg (fun z => some (Value.long z)) (if_neg (fun q => q.1 c_1)).symm, κ, congrArg (fun z => wX C a z κ) (if_neg (fun q => q.1 c_1)).symm⟩
  · skip
    refine lv_iload_n hx hb dX3_setLength_7 rfl (lv_at hl 1 rfl) ?_
    refine lv_ldc (v := 400000) hx hb hown (hts (.constant RX3 91 (400000)) (by decide +kernel)) dX3_setLength_8 ?_
    refine ic_le (tgt := 17) hx hb dX3_setLength_10 (by decide) (fun c_2 => ?_) (fun c_2 => ?_)
    · skip
      refine lv_aload_n hx hb dX3_setLength_17 rfl (lv_at hl 0 rfl) ?_
      refine va_get (D := G) (ci := 3) (v := .long (g_len σ)) (C := RX3) (T := TX3) (N := 7) hx hb hts hX3 hown hK hP (0) wX_e0 rfl 5 (by decide) (hts (.fieldLink RX3 40 "DraftSurvey" "length" "J") (by decide +kernel)) (fun _ h9 => h9) rfl dX3_setLength_18 ?_
      refine lv_lstore_n (lv' := [(2, .long (g_len σ)), (0, .ref (a 0)), (1, .int x)]) hx hb dX3_setLength_21 rfl hl (by decide) rfl (fun ls hl => ?_)
      refine lv_aload_n hx hb dX3_setLength_22 rfl (lv_at hl 1 rfl) ?_
      refine lv_iload_n hx hb dX3_setLength_23 rfl (lv_at hl 2 rfl) ?_
      refine lv_i2l (v := x.toInt64) hx hb dX3_setLength_24 rfl ?_
      refine va_put (D := G) (ci := 3) (v := .long x.toInt64) (ty := .long) (C := RX3) (T := TX3) (N := 7) hx hb hts hX3 tyX3 tyX3_ok nmX3 hown hK hP hD hS (0) wX_e0 rfl 5 (by decide) (hts (.fieldLink RX3 40 "DraftSurvey" "length" "J") (by decide +kernel)) (fun _ h9 => h9) rfl (by decide +kernel) rfl rfl (Nat.le_of_ble_eq_true rfl) dX3_setLength_25 (fun H locs hP hD hS => ?_)
      have hP : va_P G vwCl (wX C a (u_len σ x.toInt64) κ) H := hP
      have hD : va_D A (wX C a (u_len σ x.toInt64) κ) := hD
      refine lv_lload_n hx hb dX3_setLength_28 rfl (lv_at hl 0 rfl) ?_
      refine wr_lret hx hb hr hlocks hAe hP hD hS ?_ dX3_setLength_29
      exact ⟨congrArg (fun z => some (Value.long z)) (if_pos ⟨c_1, c_2⟩).symm, κ, congrArg (fun z => wX C a z κ) (if_pos ⟨c_1, c_2⟩).symm⟩
    · skip
      refine lv_ldc2 (v := (-9000000000000000003)) hx hb hown (hts (.constantLong RX3 47 (-9000000000000000003)) (by decide +kernel)) dX3_setLength_13 ?_
      refine wr_lret hx hb hr hlocks hAe hP hD hS ?_ dX3_setLength_16
      exact ⟨congrArg (fun z => some (Value.long z)) (if_neg (fun q => q.2 c_2)).symm, κ, congrArg (fun z => wX C a z κ) (if_neg (fun q => q.2 c_2)).symm⟩

set_option maxHeartbeats 4000000 in
set_option maxRecDepth 100000 in
theorem c_setM (l : Launch) (G : va_G) (C : Nat → ClassId) (a : Nat → Nat) (σ : SG) (κ : KX) (x : Int32) : WrC l yX3_setMargin wsX3_setMargin ({ frames := 0, cells := 0, slots := 0, locals := 0 } : Room) G (tysC C) (wX C a σ κ) [.ref (a 0), .int x] (pX C a (aSetM σ x) (nSetM σ x)) := by
  intro sz
  refine Met.ofW (cc := cX3_setMargin) (maxL := 4) (ret := (some .long)) (by decide) rfl ?_
  intro p e s m args below meth c s₁ B hml hv
  obtain ⟨rfl, hsz, hP, hK, hN, hD0⟩ := hv
  have hx := B.exec
  have hb := B.bytes
  have hr := B.returns
  have hts := atoms_spec (ws := wsX3_setMargin) B.pre
  have hown : s.vm.findClass RX3 = some m.cls := findClass_of_methodNamed B.named
  have hlocks := B.notSynchronized
  have hX3 : ∀ w ∈ wsX30, w ∈ wsX3_setMargin := by decide +kernel
  subst hsz
  have hD := hD0.self (sz := s.heap.size)
  generalize hAe : va_A (wX C a σ κ) s.heap.size = A at hD ⊢
  have hA : ∀ q : Nat, s.heap.size ≤ q → A q := fun q h => by rw [← hAe]; exact Or.inr h
  have hS : va_S A s.heap s.heap [] := va_S.rf
  have hP : va_P G vwCl (wX C a σ κ) s.heap := hP
  have hl := lv_entry ([.ref (a 0), .int x]) (n := 4) (Nat.le_of_ble_eq_true rfl)
  rw [lg_entry_eq]
  generalize (lg_sl ([.ref (a 0), .int x]) ++ List.replicate (4 - (lg_sl ([.ref (a 0), .int x])).length) Slot.unset).toArray = ls at hl ⊢
  have hl : lv_has ls 4 [(0, .ref (a 0)), (1, .int x)] := hl
  refine lv_iload_n hx hb dX3_setMargin_0 rfl (lv_at hl 1 rfl) ?_
  refine lv_if_lt (tgt := 10) hx hb dX3_setMargin_1 (by decide) (fun c_1 => ?_) (fun c_1 => ?_)
  · skip
    refine lv_ldc2 (v := (-9000000000000000003)) hx hb hown (hts (.constantLong RX3 47 (-9000000000000000003)) (by decide +kernel)) dX3_setMargin_10 ?_
    refine wr_lret hx hb hr hlocks hAe hP hD hS ?_ dX3_setMargin_13
    exact ⟨congrArg (fun z => some (Value.long z)) (if_neg (fun q => q.1 c_1)).symm, κ, congrArg (fun z => wX C a z κ) (if_neg (fun q => q.1 c_1)).symm⟩
  · skip
    refine lv_iload_n hx hb dX3_setMargin_4 rfl (lv_at hl 1 rfl) ?_
    refine lv_bipush (v := 100) hx hb dX3_setMargin_5 (by decide) ?_
    refine ic_le (tgt := 14) hx hb dX3_setMargin_7 (by decide) (fun c_2 => ?_) (fun c_2 => ?_)
    · skip
      refine lv_aload_n hx hb dX3_setMargin_14 rfl (lv_at hl 0 rfl) ?_
      refine va_get (D := G) (ci := 3) (v := .long (g_mar σ)) (C := RX3) (T := TX3) (N := 7) hx hb hts hX3 hown hK hP (0) wX_e0 rfl 6 (by decide) (hts (.fieldLink RX3 44 "DraftSurvey" "margin" "J") (by decide +kernel)) (fun _ h9 => h9) rfl dX3_setMargin_15 ?_
      refine lv_lstore_n (lv' := [(2, .long (g_mar σ)), (0, .ref (a 0)), (1, .int x)]) hx hb dX3_setMargin_18 rfl hl (by decide) rfl (fun ls hl => ?_)
      refine lv_aload_n hx hb dX3_setMargin_19 rfl (lv_at hl 1 rfl) ?_
      refine lv_iload_n hx hb dX3_setMargin_20 rfl (lv_at hl 2 rfl) ?_
      refine lv_i2l (v := x.toInt64) hx hb dX3_setMargin_21 rfl ?_
      refine va_put (D := G) (ci := 3) (v := .long x.toInt64) (ty := .long) (C := RX3) (T := TX3) (N := 7) hx hb hts hX3 tyX3 tyX3_ok nmX3 hown hK hP hD hS (0) wX_e0 rfl 6 (by decide) (hts (.fieldLink RX3 44 "DraftSurvey" "margin" "J") (by decide +kernel)) (fun _ h9 => h9) rfl (by decide +kernel) rfl rfl (Nat.le_of_ble_eq_true rfl) dX3_setMargin_22 (fun H locs hP hD hS => ?_)
      have hP : va_P G vwCl (wX C a (u_mar σ x.toInt64) κ) H := hP
      have hD : va_D A (wX C a (u_mar σ x.toInt64) κ) := hD
      refine lv_lload_n hx hb dX3_setMargin_25 rfl (lv_at hl 0 rfl) ?_
      refine wr_lret hx hb hr hlocks hAe hP hD hS ?_ dX3_setMargin_26
      exact ⟨congrArg (fun z => some (Value.long z)) (if_pos ⟨c_1, c_2⟩).symm, κ, congrArg (fun z => wX C a z κ) (if_pos ⟨c_1, c_2⟩).symm⟩
    · skip
      refine lv_ldc2 (v := (-9000000000000000003)) hx hb hown (hts (.constantLong RX3 47 (-9000000000000000003)) (by decide +kernel)) dX3_setMargin_10 ?_
      refine wr_lret hx hb hr hlocks hAe hP hD hS ?_ dX3_setMargin_13
      exact ⟨congrArg (fun z => some (Value.long z)) (if_neg (fun q => q.2 c_2)).symm, κ, congrArg (fun z => wX C a z κ) (if_neg (fun q => q.2 c_2)).symm⟩

set_option maxHeartbeats 4000000 in
set_option maxRecDepth 100000 in
theorem c_setD_i (l : Launch) (G : va_G) (C : Nat → ClassId) (a : Nat → Nat) (σ : SG) (κ : KX) {j : Nat} (hj : j < 4) (d : Int32) : WrC l yX3_setDensity wsX3_setDensity ({ frames := 1, cells := 0, slots := 0, locals := 21 } : Room) G (tysC C) (wX C a σ κ) [.ref (a 0), .int (nI j), .int d] (pX C a (if ¬ d < 950 ∧ ¬ 1050 < d then g_dn σ j else OOR) (if ¬ d < 950 ∧ ¬ 1050 < d then u_dn σ (vp_updL (g_dn σ) j d.toInt64) else σ)) := by
  intro sz
  refine Met.ofW (cc := cX3_setDensity) (maxL := 6) (ret := (some .long)) (by decide) rfl ?_
  intro p e s m args below meth c s₁ B hml hv
  obtain ⟨rfl, hsz, hP, hK, hN, hD0⟩ := hv
  have hx := B.exec
  have hb := B.bytes
  have hr := B.returns
  have hts := atoms_spec (ws := wsX3_setDensity) B.pre
  have hown : s.vm.findClass RX3 = some m.cls := findClass_of_methodNamed B.named
  have hlocks := B.notSynchronized
  have hX1 : ∀ w ∈ wsX10, w ∈ wsX3_setDensity := by decide +kernel
  subst hsz
  have hD := hD0.self (sz := s.heap.size)
  generalize hAe : va_A (wX C a σ κ) s.heap.size = A at hD ⊢
  have hA : ∀ q : Nat, s.heap.size ≤ q → A q := fun q h => by rw [← hAe]; exact Or.inr h
  have hS : va_S A s.heap s.heap [] := va_S.rf
  have hP : va_P G vwCl (wX C a σ κ) s.heap := hP
  have hl := lv_entry ([.ref (a 0), .int (nI j), .int d]) (n := 6) (Nat.le_of_ble_eq_true rfl)
  rw [lg_entry_eq]
  generalize (lg_sl ([.ref (a 0), .int (nI j), .int d]) ++ List.replicate (6 - (lg_sl ([.ref (a 0), .int (nI j), .int d])).length) Slot.unset).toArray = ls at hl ⊢
  have hl : lv_has ls 6 [(0, .ref (a 0)), (1, .int (nI j)), (2, .int d)] := hl
  refine lv_aload_n hx hb dX3_setDensity_0 rfl (lv_at hl 0 rfl) ?_
  refine lv_iload_n hx hb dX3_setDensity_1 rfl (lv_at hl 1 rfl) ?_
  refine rd_callV (As := [.int (nI j)]) (rest := []) ⟨hx, hb, hml, hown, hts⟩ (c_svI l G C a σ κ (j := j) hj) (cwV 1 hts gX3_setDensity_X3_surveyAt rfl rfl rfl (by decide +kernel) ⟨Nat.le_of_ble_eq_true rfl, Nat.le_of_ble_eq_true rfl⟩) hK hN hP (0) 3 wX_e0 rfl rfl rfl hl.1 rfl (Nat.le_of_ble_eq_true rfl) dX3_setDensity_2 ⟨Nat.zero_le _, Nat.zero_le _⟩ ?_
  refine lv_astore_n (lv' := [(3, .ref (a (7 + 3 * j))), (0, .ref (a 0)), (1, .int (nI j)), (2, .int d)]) hx hb dX3_setDensity_5 rfl hl (by decide) rfl (fun ls hl => ?_)
  refine lv_aload_n hx hb dX3_setDensity_6 rfl (lv_at hl 0 rfl) ?_
  refine lv_ifnonnull (tgt := 14) hx hb dX3_setDensity_7 (by decide) ?_
  refine lv_iload_n hx hb dX3_setDensity_14 rfl (lv_at hl 3 rfl) ?_
  refine lv_sipush (v := 950) hx hb dX3_setDensity_15 (by decide) ?_
  refine lv_icmp_lt (tgt := 28) hx hb dX3_setDensity_18 (by decide) (fun c_1 => ?_) (fun c_1 => ?_)
  · skip
    refine lv_ldc2 (v := (-9000000000000000003)) hx hb hown (hts (.constantLong RX3 47 (-9000000000000000003)) (by decide +kernel)) dX3_setDensity_28 ?_
    refine wr_lret hx hb hr hlocks hAe hP hD hS ?_ dX3_setDensity_31
    exact ⟨congrArg (fun z => some (Value.long z)) (if_neg (fun q => q.1 c_1)).symm, κ, congrArg (fun z => wX C a z κ) (if_neg (fun q => q.1 c_1)).symm⟩
  · skip
    refine lv_iload_n hx hb dX3_setDensity_21 rfl (lv_at hl 3 rfl) ?_
    refine lv_sipush (v := 1050) hx hb dX3_setDensity_22 (by decide) ?_
    refine ic_le (tgt := 32) hx hb dX3_setDensity_25 (by decide) (fun c_2 => ?_) (fun c_2 => ?_)
    · skip
      refine lv_aload_n hx hb dX3_setDensity_32 rfl (lv_at hl 0 rfl) ?_
      refine va_getN (D := G) (ci := 1) (v := .long (g_dn σ j)) (C := RX1) (T := TX1) (N := 3) hx hb hts hX1 hown hK hP (7 + 3 * j) (wX_sv hj) rfl 2 (by decide) (va_Nw.use rfl hN.2.2.1) (fun _ h9 => h9) rfl dX3_setDensity_33 ?_
      refine lv_lstore (lv' := [(4, .long (g_dn σ j)), (3, .ref (a (7 + 3 * j))), (0, .ref (a 0)), (1, .int (nI j)), (2, .int d)]) hx hb dX3_setDensity_36 hl (by decide) rfl (fun ls hl => ?_)
      refine lv_aload_n hx hb dX3_setDensity_38 rfl (lv_at hl 1 rfl) ?_
      refine lv_iload_n hx hb dX3_setDensity_39 rfl (lv_at hl 4 rfl) ?_
      refine lv_i2l (v := d.toInt64) hx hb dX3_setDensity_40 rfl ?_
      refine va_putN (D := G) (ci := 1) (v := .long d.toInt64) (ty := .long) (C := RX1) (T := TX1) (N := 3) hx hb hts hX1 tyX1 tyX1_ok nmX1 hown hK hP hD hS (7 + 3 * j) (wX_sv hj) rfl 2 (by decide) (va_Nw.use rfl hN.2.2.1) (fun _ h9 => h9) rfl (by decide +kernel) rfl rfl (Nat.le_of_ble_eq_true rfl) dX3_setDensity_41 (fun H locs hP hD hS => ?_)
      dsimp only [List.set] at hP hD
      rw [wX_sdn hj] at hP hD
      have hP : va_P G vwCl (wX C a (u_dn σ (vp_updL (g_dn σ) j d.toInt64)) κ) H := hP
      have hD : va_D A (wX C a (u_dn σ (vp_updL (g_dn σ) j d.toInt64)) κ) := hD
      refine lv_lload hx hb dX3_setDensity_44 (lv_at hl 0 rfl) ?_
      refine wr_lret hx hb hr hlocks hAe hP hD hS ?_ dX3_setDensity_46
      exact ⟨congrArg (fun z => some (Value.long z)) (if_pos ⟨c_1, c_2⟩).symm, κ, congrArg (fun z => wX C a z κ) (if_pos ⟨c_1, c_2⟩).symm⟩
    · skip
      refine lv_ldc2 (v := (-9000000000000000003)) hx hb hown (hts (.constantLong RX3 47 (-9000000000000000003)) (by decide +kernel)) dX3_setDensity_28 ?_
      refine wr_lret hx hb hr hlocks hAe hP hD hS ?_ dX3_setDensity_31
      exact ⟨congrArg (fun z => some (Value.long z)) (if_neg (fun q => q.2 c_2)).symm, κ, congrArg (fun z => wX C a z κ) (if_neg (fun q => q.2 c_2)).symm⟩

set_option maxHeartbeats 4000000 in
set_option maxRecDepth 100000 in
theorem c_setD_o (l : Launch) (G : va_G) (C : Nat → ClassId) (a : Nat → Nat) (σ : SG) (κ : KX) {x : Int32} (hx_ : ¬ inS x 4) (d : Int32) : WrC l yX3_setDensity wsX3_setDensity ({ frames := 1, cells := 0, slots := 0, locals := 21 } : Room) G (tysC C) (wX C a σ κ) [.ref (a 0), .int x, .int d] (pX C a NO_S σ) := by
  intro sz
  refine Met.ofW (cc := cX3_setDensity) (maxL := 6) (ret := (some .long)) (by decide) rfl ?_
  intro p e s m args below meth c s₁ B hml hv
  obtain ⟨rfl, hsz, hP, hK, hN, hD0⟩ := hv
  have hx := B.exec
  have hb := B.bytes
  have hr := B.returns
  have hts := atoms_spec (ws := wsX3_setDensity) B.pre
  have hown : s.vm.findClass RX3 = some m.cls := findClass_of_methodNamed B.named
  have hlocks := B.notSynchronized
  subst hsz
  have hD := hD0.self (sz := s.heap.size)
  generalize hAe : va_A (wX C a σ κ) s.heap.size = A at hD ⊢
  have hA : ∀ q : Nat, s.heap.size ≤ q → A q := fun q h => by rw [← hAe]; exact Or.inr h
  have hS : va_S A s.heap s.heap [] := va_S.rf
  have hP : va_P G vwCl (wX C a σ κ) s.heap := hP
  have hl := lv_entry ([.ref (a 0), .int x, .int d]) (n := 6) (Nat.le_of_ble_eq_true rfl)
  rw [lg_entry_eq]
  generalize (lg_sl ([.ref (a 0), .int x, .int d]) ++ List.replicate (6 - (lg_sl ([.ref (a 0), .int x, .int d])).length) Slot.unset).toArray = ls at hl ⊢
  have hl : lv_has ls 6 [(0, .ref (a 0)), (1, .int x), (2, .int d)] := hl
  refine lv_aload_n hx hb dX3_setDensity_0 rfl (lv_at hl 0 rfl) ?_
  refine lv_iload_n hx hb dX3_setDensity_1 rfl (lv_at hl 1 rfl) ?_
  refine rd_callV (As := [.int x]) (rest := []) ⟨hx, hb, hml, hown, hts⟩ (c_svO l G C a σ κ hx_) (cwV 1 hts gX3_setDensity_X3_surveyAt rfl rfl rfl (by decide +kernel) ⟨Nat.le_of_ble_eq_true rfl, Nat.le_of_ble_eq_true rfl⟩) hK hN hP (0) 3 wX_e0 rfl rfl rfl hl.1 rfl (Nat.le_of_ble_eq_true rfl) dX3_setDensity_2 ⟨Nat.zero_le _, Nat.zero_le _⟩ ?_
  refine lv_astore_nN (lv' := [(3, .null), (0, .ref (a 0)), (1, .int x), (2, .int d)]) hx hb dX3_setDensity_5 rfl hl (by decide) rfl (fun ls hl => ?_)
  refine lv_aload_nN hx hb dX3_setDensity_6 rfl (lv_at hl 0 rfl) ?_
  refine lv_ifnonnullN hx hb dX3_setDensity_7 ?_
  refine lv_ldc2 (v := (-9000000000000000001)) hx hb hown (hts (.constantLong RX3 96 (-9000000000000000001)) (by decide +kernel)) dX3_setDensity_10 ?_
  refine wr_lret hx hb hr hlocks hAe hP hD hS ?_ dX3_setDensity_13
  exact ⟨congrArg (fun z => some (Value.long z)) rfl, κ, congrArg (fun z => wX C a z κ) rfl⟩

theorem c_setD (l : Launch) (G : va_G) (C : Nat → ClassId) (a : Nat → Nat) (σ : SG) (κ : KX) (x d : Int32) : WrC l yX3_setDensity wsX3_setDensity ({ frames := 1, cells := 0, slots := 0, locals := 21 } : Room) G (tysC C) (wX C a σ κ) [.ref (a 0), .int x, .int d] (pX C a (aSetD σ x d) (nSetD σ x d)) := by
  by_cases g : inS x 4
  · obtain ⟨j, hj, rfl⟩ := inS_nI g
    rw [show aSetD σ (nI j) d = (if ¬ d < 950 ∧ ¬ 1050 < d then g_dn σ j else OOR) from by unfold aSetD; rw [if_pos g, cl4 hj],
      show nSetD σ (nI j) d = (if ¬ d < 950 ∧ ¬ 1050 < d then u_dn σ (vp_updL (g_dn σ) j d.toInt64) else σ) from by
        unfold nSetD
        rw [cl4 hj]
        by_cases q : ¬ d < 950 ∧ ¬ 1050 < d
        · rw [if_pos q, if_pos ⟨g, q.1, q.2⟩]
        · rw [if_neg q, if_neg (fun z => q z.2)]]
    exact c_setD_i l G C a σ κ hj d
  · rw [show aSetD σ x d = NO_S from if_neg g, show nSetD σ x d = σ from if_neg (fun z => g z.1)]
    exact c_setD_o l G C a σ κ g d

set_option maxHeartbeats 4000000 in
set_option maxRecDepth 100000 in
theorem c_setR_i (l : Launch) (G : va_G) (C : Nat → ClassId) (a : Nat → Nat) (σ : SG) (κ : KX) {j : Nat} (hj : j < 4) {m_ : Nat} (hm : m_ < 6) (d : Int32) : WrC l yX3_setReading wsX3_setReading ({ frames := 1, cells := 0, slots := 0, locals := 21 } : Room) G (tysC C) (wX C a σ κ) [.ref (a 0), .int (nI j), .int (nI m_), .int d] (pX C a (if ¬ d < 0 ∧ ¬ 30000 < d then g_rd σ (6 * j + m_) else OOR) (if ¬ d < 0 ∧ ¬ 30000 < d then u_rd σ (vp_updL (g_rd σ) (6 * j + m_) d.toInt64) else σ)) := by
  intro sz
  refine Met.ofW (cc := cX3_setReading) (maxL := 7) (ret := (some .long)) (by decide) rfl ?_
  intro p e s m args below meth c s₁ B hml hv
  obtain ⟨rfl, hsz, hP, hK, hN, hD0⟩ := hv
  have hx := B.exec
  have hb := B.bytes
  have hr := B.returns
  have hts := atoms_spec (ws := wsX3_setReading) B.pre
  have hown : s.vm.findClass RX3 = some m.cls := findClass_of_methodNamed B.named
  have hlocks := B.notSynchronized
  have hX1 : ∀ w ∈ wsX10, w ∈ wsX3_setReading := by decide +kernel
  subst hsz
  have hD := hD0.self (sz := s.heap.size)
  generalize hAe : va_A (wX C a σ κ) s.heap.size = A at hD ⊢
  have hA : ∀ q : Nat, s.heap.size ≤ q → A q := fun q h => by rw [← hAe]; exact Or.inr h
  have hS : va_S A s.heap s.heap [] := va_S.rf
  have hP : va_P G vwCl (wX C a σ κ) s.heap := hP
  have hl := lv_entry ([.ref (a 0), .int (nI j), .int (nI m_), .int d]) (n := 7) (Nat.le_of_ble_eq_true rfl)
  rw [lg_entry_eq]
  generalize (lg_sl ([.ref (a 0), .int (nI j), .int (nI m_), .int d]) ++ List.replicate (7 - (lg_sl ([.ref (a 0), .int (nI j), .int (nI m_), .int d])).length) Slot.unset).toArray = ls at hl ⊢
  have hl : lv_has ls 7 [(0, .ref (a 0)), (1, .int (nI j)), (2, .int (nI m_)), (3, .int d)] := hl
  refine lv_aload_n hx hb dX3_setReading_0 rfl (lv_at hl 0 rfl) ?_
  refine lv_iload_n hx hb dX3_setReading_1 rfl (lv_at hl 1 rfl) ?_
  refine rd_callV (As := [.int (nI j)]) (rest := []) ⟨hx, hb, hml, hown, hts⟩ (c_svI l G C a σ κ (j := j) hj) (cwV 1 hts gX3_setReading_X3_surveyAt rfl rfl rfl (by decide +kernel) ⟨Nat.le_of_ble_eq_true rfl, Nat.le_of_ble_eq_true rfl⟩) hK hN hP (0) 3 wX_e0 rfl rfl rfl hl.1 rfl (Nat.le_of_ble_eq_true rfl) dX3_setReading_2 ⟨Nat.zero_le _, Nat.zero_le _⟩ ?_
  refine lv_astore (lv' := [(4, .ref (a (7 + 3 * j))), (0, .ref (a 0)), (1, .int (nI j)), (2, .int (nI m_)), (3, .int d)]) hx hb dX3_setReading_5 hl (by decide) rfl (fun ls hl => ?_)
  refine lv_aload hx hb dX3_setReading_7 (lv_at hl 0 rfl) ?_
  refine lv_ifnonnull (tgt := 16) hx hb dX3_setReading_9 (by decide) ?_
  refine lv_iload_n hx hb dX3_setReading_16 rfl (lv_at hl 3 rfl) ?_
  refine lv_if_lt (tgt := 26) hx hb dX3_setReading_17 (by decide) (fun c_1 => ?_) (fun c_1 => ?_)
  · skip
    have c_1 : m_ < 0 := (nI_ltI (a := m_) (b := 0) (by omega) (by omega)).mp c_1
    exact (show False by omega).elim
  · skip
    have c_1 : ¬ m_ < 0 := fun z9 => c_1 ((nI_ltI (a := m_) (b := 0) (by omega) (by omega)).mpr z9)
    refine lv_iload_n hx hb dX3_setReading_20 rfl (lv_at hl 3 rfl) ?_
    refine lv_bipush (v := 6) hx hb dX3_setReading_21 (by decide) ?_
    refine lv_icmp_lt (tgt := 30) hx hb dX3_setReading_23 (by decide) (fun c_2 => ?_) (fun c_2 => ?_)
    · skip
      have c_2 : m_ < 6 := (nI_ltI (a := m_) (b := 6) (by omega) (by omega)).mp c_2
      refine lv_iload_n hx hb dX3_setReading_30 rfl (lv_at hl 4 rfl) ?_
      refine lv_if_lt (tgt := 41) hx hb dX3_setReading_31 (by decide) (fun c_3 => ?_) (fun c_3 => ?_)
      · skip
        refine lv_ldc2 (v := (-9000000000000000003)) hx hb hown (hts (.constantLong RX3 47 (-9000000000000000003)) (by decide +kernel)) dX3_setReading_41 ?_
        refine wr_lret hx hb hr hlocks hAe hP hD hS ?_ dX3_setReading_44
        exact ⟨congrArg (fun z => some (Value.long z)) (if_neg (fun q => q.1 c_3)).symm, κ, congrArg (fun z => wX C a z κ) (if_neg (fun q => q.1 c_3)).symm⟩
      · skip
        refine lv_iload_n hx hb dX3_setReading_34 rfl (lv_at hl 4 rfl) ?_
        refine lv_sipush (v := 30000) hx hb dX3_setReading_35 (by decide) ?_
        refine ic_le (tgt := 45) hx hb dX3_setReading_38 (by decide) (fun c_4 => ?_) (fun c_4 => ?_)
        · skip
          refine lv_aload hx hb dX3_setReading_45 (lv_at hl 0 rfl) ?_
          refine va_getN (D := G) (ci := 1) (v := .ref (a (8 + 3 * j))) (C := RX1) (T := TX1) (N := 3) hx hb hts hX1 hown hK hP (7 + 3 * j) (wX_sv hj) rfl 0 (by decide) (va_Nw.use rfl hN.2.1) (fun _ h9 => h9) rfl dX3_setReading_47 ?_
          refine lv_iload_n hx hb dX3_setReading_50 rfl (lv_at hl 3 rfl) ?_
          refine ar_l (k := m_) (v := g_rd σ (6 * j + m_)) hx hb hK hP (8 + 3 * j) 1 (wX_rd hj) rfl rfl (by omega) (by decide) (slc_at (by omega)) dX3_setReading_51 ?_
          refine lv_lstore (lv' := [(5, .long (g_rd σ (6 * j + m_))), (4, .ref (a (7 + 3 * j))), (0, .ref (a 0)), (1, .int (nI j)), (2, .int (nI m_)), (3, .int d)]) hx hb dX3_setReading_52 hl (by decide) rfl (fun ls hl => ?_)
          refine lv_aload hx hb dX3_setReading_54 (lv_at hl 1 rfl) ?_
          refine va_getN (D := G) (ci := 1) (v := .ref (a (8 + 3 * j))) (C := RX1) (T := TX1) (N := 3) hx hb hts hX1 hown hK hP (7 + 3 * j) (wX_sv hj) rfl 0 (by decide) (va_Nw.use rfl hN.2.1) (fun _ h9 => h9) rfl dX3_setReading_56 ?_
          refine lv_iload_n hx hb dX3_setReading_59 rfl (lv_at hl 4 rfl) ?_
          refine lv_iload_n hx hb dX3_setReading_60 rfl (lv_at hl 5 rfl) ?_
          refine lv_i2l (v := d.toInt64) hx hb dX3_setReading_61 rfl ?_
          refine as_l (k := m_) hx hb hK hP hD hS (8 + 3 * j) 1 (wX_rd hj) rfl rfl (by omega) (by decide) dX3_setReading_62 (fun H locs hP hD hS => ?_)
          rw [wX_srd hj hm] at hP hD
          have hP : va_P G vwCl (wX C a (u_rd σ (vp_updL (g_rd σ) (6 * j + m_) d.toInt64)) κ) H := hP
          have hD : va_D A (wX C a (u_rd σ (vp_updL (g_rd σ) (6 * j + m_) d.toInt64)) κ) := hD
          refine lv_lload hx hb dX3_setReading_63 (lv_at hl 0 rfl) ?_
          refine wr_lret hx hb hr hlocks hAe hP hD hS ?_ dX3_setReading_65
          exact ⟨congrArg (fun z => some (Value.long z)) (if_pos ⟨c_3, c_4⟩).symm, κ, congrArg (fun z => wX C a z κ) (if_pos ⟨c_3, c_4⟩).symm⟩
        · skip
          refine lv_ldc2 (v := (-9000000000000000003)) hx hb hown (hts (.constantLong RX3 47 (-9000000000000000003)) (by decide +kernel)) dX3_setReading_41 ?_
          refine wr_lret hx hb hr hlocks hAe hP hD hS ?_ dX3_setReading_44
          exact ⟨congrArg (fun z => some (Value.long z)) (if_neg (fun q => q.2 c_4)).symm, κ, congrArg (fun z => wX C a z κ) (if_neg (fun q => q.2 c_4)).symm⟩
    · skip
      have c_2 : ¬ m_ < 6 := fun z9 => c_2 ((nI_ltI (a := m_) (b := 6) (by omega) (by omega)).mpr z9)
      exact (show False by omega).elim

set_option maxHeartbeats 4000000 in
set_option maxRecDepth 100000 in
theorem c_setR_k (l : Launch) (G : va_G) (C : Nat → ClassId) (a : Nat → Nat) (σ : SG) (κ : KX) {j : Nat} (hj : j < 4) {y : Int32} (hy_ : ¬ inS y 6) (d : Int32) : WrC l yX3_setReading wsX3_setReading ({ frames := 1, cells := 0, slots := 0, locals := 21 } : Room) G (tysC C) (wX C a σ κ) [.ref (a 0), .int (nI j), .int y, .int d] (pX C a NO_I σ) := by
  intro sz
  refine Met.ofW (cc := cX3_setReading) (maxL := 7) (ret := (some .long)) (by decide) rfl ?_
  intro p e s m args below meth c s₁ B hml hv
  obtain ⟨rfl, hsz, hP, hK, hN, hD0⟩ := hv
  have hx := B.exec
  have hb := B.bytes
  have hr := B.returns
  have hts := atoms_spec (ws := wsX3_setReading) B.pre
  have hown : s.vm.findClass RX3 = some m.cls := findClass_of_methodNamed B.named
  have hlocks := B.notSynchronized
  subst hsz
  have hD := hD0.self (sz := s.heap.size)
  generalize hAe : va_A (wX C a σ κ) s.heap.size = A at hD ⊢
  have hA : ∀ q : Nat, s.heap.size ≤ q → A q := fun q h => by rw [← hAe]; exact Or.inr h
  have hS : va_S A s.heap s.heap [] := va_S.rf
  have hP : va_P G vwCl (wX C a σ κ) s.heap := hP
  have hl := lv_entry ([.ref (a 0), .int (nI j), .int y, .int d]) (n := 7) (Nat.le_of_ble_eq_true rfl)
  rw [lg_entry_eq]
  generalize (lg_sl ([.ref (a 0), .int (nI j), .int y, .int d]) ++ List.replicate (7 - (lg_sl ([.ref (a 0), .int (nI j), .int y, .int d])).length) Slot.unset).toArray = ls at hl ⊢
  have hl : lv_has ls 7 [(0, .ref (a 0)), (1, .int (nI j)), (2, .int y), (3, .int d)] := hl
  refine lv_aload_n hx hb dX3_setReading_0 rfl (lv_at hl 0 rfl) ?_
  refine lv_iload_n hx hb dX3_setReading_1 rfl (lv_at hl 1 rfl) ?_
  refine rd_callV (As := [.int (nI j)]) (rest := []) ⟨hx, hb, hml, hown, hts⟩ (c_svI l G C a σ κ (j := j) hj) (cwV 1 hts gX3_setReading_X3_surveyAt rfl rfl rfl (by decide +kernel) ⟨Nat.le_of_ble_eq_true rfl, Nat.le_of_ble_eq_true rfl⟩) hK hN hP (0) 3 wX_e0 rfl rfl rfl hl.1 rfl (Nat.le_of_ble_eq_true rfl) dX3_setReading_2 ⟨Nat.zero_le _, Nat.zero_le _⟩ ?_
  refine lv_astore (lv' := [(4, .ref (a (7 + 3 * j))), (0, .ref (a 0)), (1, .int (nI j)), (2, .int y), (3, .int d)]) hx hb dX3_setReading_5 hl (by decide) rfl (fun ls hl => ?_)
  refine lv_aload hx hb dX3_setReading_7 (lv_at hl 0 rfl) ?_
  refine lv_ifnonnull (tgt := 16) hx hb dX3_setReading_9 (by decide) ?_
  refine lv_iload_n hx hb dX3_setReading_16 rfl (lv_at hl 3 rfl) ?_
  refine lv_if_lt (tgt := 26) hx hb dX3_setReading_17 (by decide) (fun c_1 => ?_) (fun c_1 => ?_)
  · skip
    refine lv_ldc2 (v := (-9000000000000000002)) hx hb hown (hts (.constantLong RX3 81 (-9000000000000000002)) (by decide +kernel)) dX3_setReading_26 ?_
    refine wr_lret hx hb hr hlocks hAe hP hD hS ?_ dX3_setReading_29
    exact ⟨congrArg (fun z => some (Value.long z)) rfl, κ, congrArg (fun z => wX C a z κ) rfl⟩
  · skip
    refine lv_iload_n hx hb dX3_setReading_20 rfl (lv_at hl 3 rfl) ?_
    refine lv_bipush (v := 6) hx hb dX3_setReading_21 (by decide) ?_
    refine lv_icmp_lt (tgt := 30) hx hb dX3_setReading_23 (by decide) (fun c_2 => ?_) (fun c_2 => ?_)
    · skip
      exact absurd ⟨c_1, c_2⟩ hy_
    · skip
      refine lv_ldc2 (v := (-9000000000000000002)) hx hb hown (hts (.constantLong RX3 81 (-9000000000000000002)) (by decide +kernel)) dX3_setReading_26 ?_
      refine wr_lret hx hb hr hlocks hAe hP hD hS ?_ dX3_setReading_29
      exact ⟨congrArg (fun z => some (Value.long z)) rfl, κ, congrArg (fun z => wX C a z κ) rfl⟩

set_option maxHeartbeats 4000000 in
set_option maxRecDepth 100000 in
theorem c_setR_o (l : Launch) (G : va_G) (C : Nat → ClassId) (a : Nat → Nat) (σ : SG) (κ : KX) {x : Int32} (hx_ : ¬ inS x 4) (y d : Int32) : WrC l yX3_setReading wsX3_setReading ({ frames := 1, cells := 0, slots := 0, locals := 21 } : Room) G (tysC C) (wX C a σ κ) [.ref (a 0), .int x, .int y, .int d] (pX C a NO_S σ) := by
  intro sz
  refine Met.ofW (cc := cX3_setReading) (maxL := 7) (ret := (some .long)) (by decide) rfl ?_
  intro p e s m args below meth c s₁ B hml hv
  obtain ⟨rfl, hsz, hP, hK, hN, hD0⟩ := hv
  have hx := B.exec
  have hb := B.bytes
  have hr := B.returns
  have hts := atoms_spec (ws := wsX3_setReading) B.pre
  have hown : s.vm.findClass RX3 = some m.cls := findClass_of_methodNamed B.named
  have hlocks := B.notSynchronized
  subst hsz
  have hD := hD0.self (sz := s.heap.size)
  generalize hAe : va_A (wX C a σ κ) s.heap.size = A at hD ⊢
  have hA : ∀ q : Nat, s.heap.size ≤ q → A q := fun q h => by rw [← hAe]; exact Or.inr h
  have hS : va_S A s.heap s.heap [] := va_S.rf
  have hP : va_P G vwCl (wX C a σ κ) s.heap := hP
  have hl := lv_entry ([.ref (a 0), .int x, .int y, .int d]) (n := 7) (Nat.le_of_ble_eq_true rfl)
  rw [lg_entry_eq]
  generalize (lg_sl ([.ref (a 0), .int x, .int y, .int d]) ++ List.replicate (7 - (lg_sl ([.ref (a 0), .int x, .int y, .int d])).length) Slot.unset).toArray = ls at hl ⊢
  have hl : lv_has ls 7 [(0, .ref (a 0)), (1, .int x), (2, .int y), (3, .int d)] := hl
  refine lv_aload_n hx hb dX3_setReading_0 rfl (lv_at hl 0 rfl) ?_
  refine lv_iload_n hx hb dX3_setReading_1 rfl (lv_at hl 1 rfl) ?_
  refine rd_callV (As := [.int x]) (rest := []) ⟨hx, hb, hml, hown, hts⟩ (c_svO l G C a σ κ hx_) (cwV 1 hts gX3_setReading_X3_surveyAt rfl rfl rfl (by decide +kernel) ⟨Nat.le_of_ble_eq_true rfl, Nat.le_of_ble_eq_true rfl⟩) hK hN hP (0) 3 wX_e0 rfl rfl rfl hl.1 rfl (Nat.le_of_ble_eq_true rfl) dX3_setReading_2 ⟨Nat.zero_le _, Nat.zero_le _⟩ ?_
  refine lv_astoreN (lv' := [(4, .null), (0, .ref (a 0)), (1, .int x), (2, .int y), (3, .int d)]) hx hb dX3_setReading_5 hl (by decide) rfl (fun ls hl => ?_)
  refine lv_aloadN hx hb dX3_setReading_7 (lv_at hl 0 rfl) ?_
  refine lv_ifnonnullN hx hb dX3_setReading_9 ?_
  refine lv_ldc2 (v := (-9000000000000000001)) hx hb hown (hts (.constantLong RX3 96 (-9000000000000000001)) (by decide +kernel)) dX3_setReading_12 ?_
  refine wr_lret hx hb hr hlocks hAe hP hD hS ?_ dX3_setReading_15
  exact ⟨congrArg (fun z => some (Value.long z)) rfl, κ, congrArg (fun z => wX C a z κ) rfl⟩

theorem c_setR (l : Launch) (G : va_G) (C : Nat → ClassId) (a : Nat → Nat) (σ : SG) (κ : KX) (x y d : Int32) : WrC l yX3_setReading wsX3_setReading ({ frames := 1, cells := 0, slots := 0, locals := 21 } : Room) G (tysC C) (wX C a σ κ) [.ref (a 0), .int x, .int y, .int d] (pX C a (aSetR σ x y d) (nSetR σ x y d)) := by
  by_cases g : inS x 4
  · obtain ⟨j, hj, rfl⟩ := inS_nI g
    by_cases k : inS y 6
    · obtain ⟨m_, hm, rfl⟩ := inS_nI6 k
      rw [show aSetR σ (nI j) (nI m_) d = (if ¬ d < 0 ∧ ¬ 30000 < d then g_rd σ (6 * j + m_) else OOR) from by unfold aSetR; rw [if_pos g, if_pos k, cl4 hj, cl6 hm],
        show nSetR σ (nI j) (nI m_) d = (if ¬ d < 0 ∧ ¬ 30000 < d then u_rd σ (vp_updL (g_rd σ) (6 * j + m_) d.toInt64) else σ) from by
          unfold nSetR
          rw [cl4 hj, cl6 hm]
          by_cases q : ¬ d < 0 ∧ ¬ 30000 < d
          · rw [if_pos q, if_pos ⟨g, k, q.1, q.2⟩]
          · rw [if_neg q, if_neg (fun z => q z.2.2)]]
      exact c_setR_i l G C a σ κ hj hm d
    · rw [show aSetR σ (nI j) y d = NO_I from by unfold aSetR; rw [if_pos g, if_neg k], show nSetR σ (nI j) y d = σ from if_neg (fun z => k z.2.1)]
      exact c_setR_k l G C a σ κ hj k d
  · rw [show aSetR σ x y d = NO_S from if_neg g, show nSetR σ x y d = σ from if_neg (fun z => g z.1)]
    exact c_setR_o l G C a σ κ g y d

set_option maxHeartbeats 4000000 in
set_option maxRecDepth 100000 in
theorem c_setW_i (l : Launch) (G : va_G) (C : Nat → ClassId) (a : Nat → Nat) (σ : SG) (κ : KX) {j : Nat} (hj : j < 4) {m_ : Nat} (hm : m_ < 4) (d : Int32) : WrC l yX3_setDeduction wsX3_setDeduction ({ frames := 1, cells := 0, slots := 0, locals := 21 } : Room) G (tysC C) (wX C a σ κ) [.ref (a 0), .int (nI j), .int (nI m_), .int d] (pX C a (if ¬ d < 0 ∧ ¬ 9999999 < d then g_dd σ (4 * j + m_) else OOR) (if ¬ d < 0 ∧ ¬ 9999999 < d then u_dd σ (vp_updL (g_dd σ) (4 * j + m_) d.toInt64) else σ)) := by
  intro sz
  refine Met.ofW (cc := cX3_setDeduction) (maxL := 7) (ret := (some .long)) (by decide) rfl ?_
  intro p e s m args below meth c s₁ B hml hv
  obtain ⟨rfl, hsz, hP, hK, hN, hD0⟩ := hv
  have hx := B.exec
  have hb := B.bytes
  have hr := B.returns
  have hts := atoms_spec (ws := wsX3_setDeduction) B.pre
  have hown : s.vm.findClass RX3 = some m.cls := findClass_of_methodNamed B.named
  have hlocks := B.notSynchronized
  have hX1 : ∀ w ∈ wsX10, w ∈ wsX3_setDeduction := by decide +kernel
  subst hsz
  have hD := hD0.self (sz := s.heap.size)
  generalize hAe : va_A (wX C a σ κ) s.heap.size = A at hD ⊢
  have hA : ∀ q : Nat, s.heap.size ≤ q → A q := fun q h => by rw [← hAe]; exact Or.inr h
  have hS : va_S A s.heap s.heap [] := va_S.rf
  have hP : va_P G vwCl (wX C a σ κ) s.heap := hP
  have hl := lv_entry ([.ref (a 0), .int (nI j), .int (nI m_), .int d]) (n := 7) (Nat.le_of_ble_eq_true rfl)
  rw [lg_entry_eq]
  generalize (lg_sl ([.ref (a 0), .int (nI j), .int (nI m_), .int d]) ++ List.replicate (7 - (lg_sl ([.ref (a 0), .int (nI j), .int (nI m_), .int d])).length) Slot.unset).toArray = ls at hl ⊢
  have hl : lv_has ls 7 [(0, .ref (a 0)), (1, .int (nI j)), (2, .int (nI m_)), (3, .int d)] := hl
  refine lv_aload_n hx hb dX3_setDeduction_0 rfl (lv_at hl 0 rfl) ?_
  refine lv_iload_n hx hb dX3_setDeduction_1 rfl (lv_at hl 1 rfl) ?_
  refine rd_callV (As := [.int (nI j)]) (rest := []) ⟨hx, hb, hml, hown, hts⟩ (c_svI l G C a σ κ (j := j) hj) (cwV 1 hts gX3_setDeduction_X3_surveyAt rfl rfl rfl (by decide +kernel) ⟨Nat.le_of_ble_eq_true rfl, Nat.le_of_ble_eq_true rfl⟩) hK hN hP (0) 3 wX_e0 rfl rfl rfl hl.1 rfl (Nat.le_of_ble_eq_true rfl) dX3_setDeduction_2 ⟨Nat.zero_le _, Nat.zero_le _⟩ ?_
  refine lv_astore (lv' := [(4, .ref (a (7 + 3 * j))), (0, .ref (a 0)), (1, .int (nI j)), (2, .int (nI m_)), (3, .int d)]) hx hb dX3_setDeduction_5 hl (by decide) rfl (fun ls hl => ?_)
  refine lv_aload hx hb dX3_setDeduction_7 (lv_at hl 0 rfl) ?_
  refine lv_ifnonnull (tgt := 16) hx hb dX3_setDeduction_9 (by decide) ?_
  refine lv_iload_n hx hb dX3_setDeduction_16 rfl (lv_at hl 3 rfl) ?_
  refine lv_if_lt (tgt := 25) hx hb dX3_setDeduction_17 (by decide) (fun c_1 => ?_) (fun c_1 => ?_)
  · skip
    have c_1 : m_ < 0 := (nI_ltI (a := m_) (b := 0) (by omega) (by omega)).mp c_1
    exact (show False by omega).elim
  · skip
    have c_1 : ¬ m_ < 0 := fun z9 => c_1 ((nI_ltI (a := m_) (b := 0) (by omega) (by omega)).mpr z9)
    refine lv_iload_n hx hb dX3_setDeduction_20 rfl (lv_at hl 3 rfl) ?_
    refine lv_iconst (v := 4) hx hb dX3_setDeduction_21 (by decide) ?_
    refine lv_icmp_lt (tgt := 29) hx hb dX3_setDeduction_22 (by decide) (fun c_2 => ?_) (fun c_2 => ?_)
    · skip
      have c_2 : m_ < 4 := (nI_ltI (a := m_) (b := 4) (by omega) (by omega)).mp c_2
      refine lv_iload_n hx hb dX3_setDeduction_29 rfl (lv_at hl 4 rfl) ?_
      refine lv_if_lt (tgt := 39) hx hb dX3_setDeduction_30 (by decide) (fun c_3 => ?_) (fun c_3 => ?_)
      · skip
        refine lv_ldc2 (v := (-9000000000000000003)) hx hb hown (hts (.constantLong RX3 47 (-9000000000000000003)) (by decide +kernel)) dX3_setDeduction_39 ?_
        refine wr_lret hx hb hr hlocks hAe hP hD hS ?_ dX3_setDeduction_42
        exact ⟨congrArg (fun z => some (Value.long z)) (if_neg (fun q => q.1 c_3)).symm, κ, congrArg (fun z => wX C a z κ) (if_neg (fun q => q.1 c_3)).symm⟩
      · skip
        refine lv_iload_n hx hb dX3_setDeduction_33 rfl (lv_at hl 4 rfl) ?_
        refine lv_ldc (v := 9999999) hx hb hown (hts (.constant RX3 105 (9999999)) (by decide +kernel)) dX3_setDeduction_34 ?_
        refine ic_le (tgt := 43) hx hb dX3_setDeduction_36 (by decide) (fun c_4 => ?_) (fun c_4 => ?_)
        · skip
          refine lv_aload hx hb dX3_setDeduction_43 (lv_at hl 0 rfl) ?_
          refine va_getN (D := G) (ci := 1) (v := .ref (a (9 + 3 * j))) (C := RX1) (T := TX1) (N := 3) hx hb hts hX1 hown hK hP (7 + 3 * j) (wX_sv hj) rfl 1 (by decide) (va_Nw.use rfl hN.2.2.2.1) (fun _ h9 => h9) rfl dX3_setDeduction_45 ?_
          refine lv_iload_n hx hb dX3_setDeduction_48 rfl (lv_at hl 3 rfl) ?_
          refine ar_l (k := m_) (v := g_dd σ (4 * j + m_)) hx hb hK hP (9 + 3 * j) 1 (wX_dd hj) rfl rfl (by omega) (by decide) (slc_at (by omega)) dX3_setDeduction_49 ?_
          refine lv_lstore (lv' := [(5, .long (g_dd σ (4 * j + m_))), (4, .ref (a (7 + 3 * j))), (0, .ref (a 0)), (1, .int (nI j)), (2, .int (nI m_)), (3, .int d)]) hx hb dX3_setDeduction_50 hl (by decide) rfl (fun ls hl => ?_)
          refine lv_aload hx hb dX3_setDeduction_52 (lv_at hl 1 rfl) ?_
          refine va_getN (D := G) (ci := 1) (v := .ref (a (9 + 3 * j))) (C := RX1) (T := TX1) (N := 3) hx hb hts hX1 hown hK hP (7 + 3 * j) (wX_sv hj) rfl 1 (by decide) (va_Nw.use rfl hN.2.2.2.1) (fun _ h9 => h9) rfl dX3_setDeduction_54 ?_
          refine lv_iload_n hx hb dX3_setDeduction_57 rfl (lv_at hl 4 rfl) ?_
          refine lv_iload_n hx hb dX3_setDeduction_58 rfl (lv_at hl 5 rfl) ?_
          refine lv_i2l (v := d.toInt64) hx hb dX3_setDeduction_59 rfl ?_
          refine as_l (k := m_) hx hb hK hP hD hS (9 + 3 * j) 1 (wX_dd hj) rfl rfl (by omega) (by decide) dX3_setDeduction_60 (fun H locs hP hD hS => ?_)
          rw [wX_sdd hj hm] at hP hD
          have hP : va_P G vwCl (wX C a (u_dd σ (vp_updL (g_dd σ) (4 * j + m_) d.toInt64)) κ) H := hP
          have hD : va_D A (wX C a (u_dd σ (vp_updL (g_dd σ) (4 * j + m_) d.toInt64)) κ) := hD
          refine lv_lload hx hb dX3_setDeduction_61 (lv_at hl 0 rfl) ?_
          refine wr_lret hx hb hr hlocks hAe hP hD hS ?_ dX3_setDeduction_63
          exact ⟨congrArg (fun z => some (Value.long z)) (if_pos ⟨c_3, c_4⟩).symm, κ, congrArg (fun z => wX C a z κ) (if_pos ⟨c_3, c_4⟩).symm⟩
        · skip
          refine lv_ldc2 (v := (-9000000000000000003)) hx hb hown (hts (.constantLong RX3 47 (-9000000000000000003)) (by decide +kernel)) dX3_setDeduction_39 ?_
          refine wr_lret hx hb hr hlocks hAe hP hD hS ?_ dX3_setDeduction_42
          exact ⟨congrArg (fun z => some (Value.long z)) (if_neg (fun q => q.2 c_4)).symm, κ, congrArg (fun z => wX C a z κ) (if_neg (fun q => q.2 c_4)).symm⟩
    · skip
      have c_2 : ¬ m_ < 4 := fun z9 => c_2 ((nI_ltI (a := m_) (b := 4) (by omega) (by omega)).mpr z9)
      exact (show False by omega).elim

set_option maxHeartbeats 4000000 in
set_option maxRecDepth 100000 in
theorem c_setW_k (l : Launch) (G : va_G) (C : Nat → ClassId) (a : Nat → Nat) (σ : SG) (κ : KX) {j : Nat} (hj : j < 4) {y : Int32} (hy_ : ¬ inS y 4) (d : Int32) : WrC l yX3_setDeduction wsX3_setDeduction ({ frames := 1, cells := 0, slots := 0, locals := 21 } : Room) G (tysC C) (wX C a σ κ) [.ref (a 0), .int (nI j), .int y, .int d] (pX C a NO_I σ) := by
  intro sz
  refine Met.ofW (cc := cX3_setDeduction) (maxL := 7) (ret := (some .long)) (by decide) rfl ?_
  intro p e s m args below meth c s₁ B hml hv
  obtain ⟨rfl, hsz, hP, hK, hN, hD0⟩ := hv
  have hx := B.exec
  have hb := B.bytes
  have hr := B.returns
  have hts := atoms_spec (ws := wsX3_setDeduction) B.pre
  have hown : s.vm.findClass RX3 = some m.cls := findClass_of_methodNamed B.named
  have hlocks := B.notSynchronized
  subst hsz
  have hD := hD0.self (sz := s.heap.size)
  generalize hAe : va_A (wX C a σ κ) s.heap.size = A at hD ⊢
  have hA : ∀ q : Nat, s.heap.size ≤ q → A q := fun q h => by rw [← hAe]; exact Or.inr h
  have hS : va_S A s.heap s.heap [] := va_S.rf
  have hP : va_P G vwCl (wX C a σ κ) s.heap := hP
  have hl := lv_entry ([.ref (a 0), .int (nI j), .int y, .int d]) (n := 7) (Nat.le_of_ble_eq_true rfl)
  rw [lg_entry_eq]
  generalize (lg_sl ([.ref (a 0), .int (nI j), .int y, .int d]) ++ List.replicate (7 - (lg_sl ([.ref (a 0), .int (nI j), .int y, .int d])).length) Slot.unset).toArray = ls at hl ⊢
  have hl : lv_has ls 7 [(0, .ref (a 0)), (1, .int (nI j)), (2, .int y), (3, .int d)] := hl
  refine lv_aload_n hx hb dX3_setDeduction_0 rfl (lv_at hl 0 rfl) ?_
  refine lv_iload_n hx hb dX3_setDeduction_1 rfl (lv_at hl 1 rfl) ?_
  refine rd_callV (As := [.int (nI j)]) (rest := []) ⟨hx, hb, hml, hown, hts⟩ (c_svI l G C a σ κ (j := j) hj) (cwV 1 hts gX3_setDeduction_X3_surveyAt rfl rfl rfl (by decide +kernel) ⟨Nat.le_of_ble_eq_true rfl, Nat.le_of_ble_eq_true rfl⟩) hK hN hP (0) 3 wX_e0 rfl rfl rfl hl.1 rfl (Nat.le_of_ble_eq_true rfl) dX3_setDeduction_2 ⟨Nat.zero_le _, Nat.zero_le _⟩ ?_
  refine lv_astore (lv' := [(4, .ref (a (7 + 3 * j))), (0, .ref (a 0)), (1, .int (nI j)), (2, .int y), (3, .int d)]) hx hb dX3_setDeduction_5 hl (by decide) rfl (fun ls hl => ?_)
  refine lv_aload hx hb dX3_setDeduction_7 (lv_at hl 0 rfl) ?_
  refine lv_ifnonnull (tgt := 16) hx hb dX3_setDeduction_9 (by decide) ?_
  refine lv_iload_n hx hb dX3_setDeduction_16 rfl (lv_at hl 3 rfl) ?_
  refine lv_if_lt (tgt := 25) hx hb dX3_setDeduction_17 (by decide) (fun c_1 => ?_) (fun c_1 => ?_)
  · skip
    refine lv_ldc2 (v := (-9000000000000000002)) hx hb hown (hts (.constantLong RX3 81 (-9000000000000000002)) (by decide +kernel)) dX3_setDeduction_25 ?_
    refine wr_lret hx hb hr hlocks hAe hP hD hS ?_ dX3_setDeduction_28
    exact ⟨congrArg (fun z => some (Value.long z)) rfl, κ, congrArg (fun z => wX C a z κ) rfl⟩
  · skip
    refine lv_iload_n hx hb dX3_setDeduction_20 rfl (lv_at hl 3 rfl) ?_
    refine lv_iconst (v := 4) hx hb dX3_setDeduction_21 (by decide) ?_
    refine lv_icmp_lt (tgt := 29) hx hb dX3_setDeduction_22 (by decide) (fun c_2 => ?_) (fun c_2 => ?_)
    · skip
      exact absurd ⟨c_1, c_2⟩ hy_
    · skip
      refine lv_ldc2 (v := (-9000000000000000002)) hx hb hown (hts (.constantLong RX3 81 (-9000000000000000002)) (by decide +kernel)) dX3_setDeduction_25 ?_
      refine wr_lret hx hb hr hlocks hAe hP hD hS ?_ dX3_setDeduction_28
      exact ⟨congrArg (fun z => some (Value.long z)) rfl, κ, congrArg (fun z => wX C a z κ) rfl⟩

set_option maxHeartbeats 4000000 in
set_option maxRecDepth 100000 in
theorem c_setW_o (l : Launch) (G : va_G) (C : Nat → ClassId) (a : Nat → Nat) (σ : SG) (κ : KX) {x : Int32} (hx_ : ¬ inS x 4) (y d : Int32) : WrC l yX3_setDeduction wsX3_setDeduction ({ frames := 1, cells := 0, slots := 0, locals := 21 } : Room) G (tysC C) (wX C a σ κ) [.ref (a 0), .int x, .int y, .int d] (pX C a NO_S σ) := by
  intro sz
  refine Met.ofW (cc := cX3_setDeduction) (maxL := 7) (ret := (some .long)) (by decide) rfl ?_
  intro p e s m args below meth c s₁ B hml hv
  obtain ⟨rfl, hsz, hP, hK, hN, hD0⟩ := hv
  have hx := B.exec
  have hb := B.bytes
  have hr := B.returns
  have hts := atoms_spec (ws := wsX3_setDeduction) B.pre
  have hown : s.vm.findClass RX3 = some m.cls := findClass_of_methodNamed B.named
  have hlocks := B.notSynchronized
  subst hsz
  have hD := hD0.self (sz := s.heap.size)
  generalize hAe : va_A (wX C a σ κ) s.heap.size = A at hD ⊢
  have hA : ∀ q : Nat, s.heap.size ≤ q → A q := fun q h => by rw [← hAe]; exact Or.inr h
  have hS : va_S A s.heap s.heap [] := va_S.rf
  have hP : va_P G vwCl (wX C a σ κ) s.heap := hP
  have hl := lv_entry ([.ref (a 0), .int x, .int y, .int d]) (n := 7) (Nat.le_of_ble_eq_true rfl)
  rw [lg_entry_eq]
  generalize (lg_sl ([.ref (a 0), .int x, .int y, .int d]) ++ List.replicate (7 - (lg_sl ([.ref (a 0), .int x, .int y, .int d])).length) Slot.unset).toArray = ls at hl ⊢
  have hl : lv_has ls 7 [(0, .ref (a 0)), (1, .int x), (2, .int y), (3, .int d)] := hl
  refine lv_aload_n hx hb dX3_setDeduction_0 rfl (lv_at hl 0 rfl) ?_
  refine lv_iload_n hx hb dX3_setDeduction_1 rfl (lv_at hl 1 rfl) ?_
  refine rd_callV (As := [.int x]) (rest := []) ⟨hx, hb, hml, hown, hts⟩ (c_svO l G C a σ κ hx_) (cwV 1 hts gX3_setDeduction_X3_surveyAt rfl rfl rfl (by decide +kernel) ⟨Nat.le_of_ble_eq_true rfl, Nat.le_of_ble_eq_true rfl⟩) hK hN hP (0) 3 wX_e0 rfl rfl rfl hl.1 rfl (Nat.le_of_ble_eq_true rfl) dX3_setDeduction_2 ⟨Nat.zero_le _, Nat.zero_le _⟩ ?_
  refine lv_astoreN (lv' := [(4, .null), (0, .ref (a 0)), (1, .int x), (2, .int y), (3, .int d)]) hx hb dX3_setDeduction_5 hl (by decide) rfl (fun ls hl => ?_)
  refine lv_aloadN hx hb dX3_setDeduction_7 (lv_at hl 0 rfl) ?_
  refine lv_ifnonnullN hx hb dX3_setDeduction_9 ?_
  refine lv_ldc2 (v := (-9000000000000000001)) hx hb hown (hts (.constantLong RX3 96 (-9000000000000000001)) (by decide +kernel)) dX3_setDeduction_12 ?_
  refine wr_lret hx hb hr hlocks hAe hP hD hS ?_ dX3_setDeduction_15
  exact ⟨congrArg (fun z => some (Value.long z)) rfl, κ, congrArg (fun z => wX C a z κ) rfl⟩

theorem c_setW (l : Launch) (G : va_G) (C : Nat → ClassId) (a : Nat → Nat) (σ : SG) (κ : KX) (x y d : Int32) : WrC l yX3_setDeduction wsX3_setDeduction ({ frames := 1, cells := 0, slots := 0, locals := 21 } : Room) G (tysC C) (wX C a σ κ) [.ref (a 0), .int x, .int y, .int d] (pX C a (aSetW σ x y d) (nSetW σ x y d)) := by
  by_cases g : inS x 4
  · obtain ⟨j, hj, rfl⟩ := inS_nI g
    by_cases k : inS y 4
    · obtain ⟨m_, hm, rfl⟩ := inS_nI k
      rw [show aSetW σ (nI j) (nI m_) d = (if ¬ d < 0 ∧ ¬ 9999999 < d then g_dd σ (4 * j + m_) else OOR) from by unfold aSetW; rw [if_pos g, if_pos k, cl4 hj, cl4 hm],
        show nSetW σ (nI j) (nI m_) d = (if ¬ d < 0 ∧ ¬ 9999999 < d then u_dd σ (vp_updL (g_dd σ) (4 * j + m_) d.toInt64) else σ) from by
          unfold nSetW
          rw [cl4 hj, cl4 hm]
          by_cases q : ¬ d < 0 ∧ ¬ 9999999 < d
          · rw [if_pos q, if_pos ⟨g, k, q.1, q.2⟩]
          · rw [if_neg q, if_neg (fun z => q z.2.2)]]
      exact c_setW_i l G C a σ κ hj hm d
    · rw [show aSetW σ (nI j) y d = NO_I from by unfold aSetW; rw [if_pos g, if_neg k], show nSetW σ (nI j) y d = σ from if_neg (fun z => k z.2.1)]
      exact c_setW_k l G C a σ κ hj k d
  · rw [show aSetW σ x y d = NO_S from if_neg g, show nSetW σ x y d = σ from if_neg (fun z => g z.1)]
    exact c_setW_o l G C a σ κ g y d
