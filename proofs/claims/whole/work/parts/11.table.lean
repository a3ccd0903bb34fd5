set_option maxHeartbeats 4000000 in
set_option maxRecDepth 100000 in
theorem c_cell (l : Launch) (G : va_G) (C : Nat → ClassId) (a : Nat → Nat) (σ : SG) (κ : KX) {r q : Nat} (hn : g_n σ ≤ 10) (hr : r < g_n σ) (hq : q < 5) : RdC l yX2_cell wsX2_cell ({ frames := 0, cells := 0, slots := 0, locals := 0 } : Room) G (tysC C) (wX C a σ κ) [.ref (a 4), .int (nI r), .int (nI q)] (.long (g_tb σ (5 * r + q))) := by
  refine Met.ofW (cc := cX2_cell) (maxL := 3) (ret := (some .long)) (by decide) rfl ?_
  intro p e s m args below meth c s₁ B hml hv
  obtain ⟨rfl, hP, hK, hN⟩ := hv
  have hx := B.exec
  have hb := B.bytes
  have hr := B.returns
  have hts := atoms_spec (ws := wsX2_cell) B.pre
  have hown : s.vm.findClass RX2 = some m.cls := findClass_of_methodNamed B.named
  have hlocks := B.notSynchronized
  have hX2 : ∀ w ∈ wsX20, w ∈ wsX2_cell := by decide +kernel
  have hP : va_P G vwCl (wX C a σ κ) s.heap := hP
  have hl := lv_entry ([.ref (a 4), .int (nI r), .int (nI q)]) (n := 3) (Nat.le_of_ble_eq_true rfl)
  rw [lg_entry_eq]
  generalize (lg_sl ([.ref (a 4), .int (nI r), .int (nI q)]) ++ List.replicate (3 - (lg_sl ([.ref (a 4), .int (nI r), .int (nI q)])).length) Slot.unset).toArray = ls at hl ⊢
  have hl : lv_has ls 3 [(0, .ref (a 4)), (1, .int (nI r)), (2, .int (nI q))] := hl
  refine lv_iload_n hx hb dX2_cell_0 rfl (lv_at hl 1 rfl) ?_
  refine lv_if_lt (tgt := 27) hx hb dX2_cell_1 (by decide) (fun c_1 => ?_) (fun c_1 => ?_)
  · skip
    have c_1 : r < 0 := (nI_ltI (a := r) (b := 0) (by omega) (by omega)).mp c_1
    exact (show False by omega).elim
  · skip
    have c_1 : ¬ r < 0 := fun z9 => c_1 ((nI_ltI (a := r) (b := 0) (by omega) (by omega)).mpr z9)
    refine lv_iload_n hx hb dX2_cell_4 rfl (lv_at hl 1 rfl) ?_
    refine lv_aload_n hx hb dX2_cell_5 rfl (lv_at hl 0 rfl) ?_
    refine va_get (D := G) (ci := 2) (v := .int (nI (g_n σ))) (C := RX2) (T := TX2) (N := 2) hx hb hts hX2 hown hK hP (4) wX_e4 rfl 1 (by decide) (hts (.fieldLink RX2 15 "DraftSurvey$Table" "rows" "I") (by decide +kernel)) (fun _ h9 => h9) rfl dX2_cell_6 ?_
    refine ic_ge (tgt := 27) hx hb dX2_cell_9 (by decide) (fun c_2 => ?_) (fun c_2 => ?_)
    · skip
      have c_2 : ¬ r < (g_n σ) := fun z9 => c_2 ((nI_ltI (a := r) (b := (g_n σ)) (by omega) (by omega)).mpr z9)
      exact (show False by omega).elim
    · skip
      have c_2 : r < (g_n σ) := (nI_ltI (a := r) (b := (g_n σ)) (by omega) (by omega)).mp c_2
      refine lv_iload_n hx hb dX2_cell_12 rfl (lv_at hl 1 rfl) ?_
      refine lv_bipush (v := 10) hx hb dX2_cell_13 (by decide) ?_
      refine ic_ge (tgt := 27) hx hb dX2_cell_15 (by decide) (fun c_3 => ?_) (fun c_3 => ?_)
      · skip
        have c_3 : ¬ r < 10 := fun z9 => c_3 ((nI_ltI (a := r) (b := 10) (by omega) (by omega)).mpr z9)
        exact (show False by omega).elim
      · skip
        have c_3 : r < 10 := (nI_ltI (a := r) (b := 10) (by omega) (by omega)).mp c_3
        refine lv_iload_n hx hb dX2_cell_18 rfl (lv_at hl 2 rfl) ?_
        refine lv_if_lt (tgt := 27) hx hb dX2_cell_19 (by decide) (fun c_4 => ?_) (fun c_4 => ?_)
        · skip
          have c_4 : q < 0 := (nI_ltI (a := q) (b := 0) (by omega) (by omega)).mp c_4
          exact (show False by omega).elim
        · skip
          have c_4 : ¬ q < 0 := fun z9 => c_4 ((nI_ltI (a := q) (b := 0) (by omega) (by omega)).mpr z9)
          refine lv_iload_n hx hb dX2_cell_22 rfl (lv_at hl 2 rfl) ?_
          refine lv_iconst (v := 5) hx hb dX2_cell_23 (by decide) ?_
          refine lv_icmp_lt (tgt := 29) hx hb dX2_cell_24 (by decide) (fun c_5 => ?_) (fun c_5 => ?_)
          · skip
            have c_5 : q < 5 := (nI_ltI (a := q) (b := 5) (by omega) (by omega)).mp c_5
            refine lv_aload_n hx hb dX2_cell_29 rfl (lv_at hl 0 rfl) ?_
            refine va_get (D := G) (ci := 2) (v := .ref (a 5)) (C := RX2) (T := TX2) (N := 2) hx hb hts hX2 hown hK hP (4) wX_e4 rfl 0 (by decide) (hts (.fieldLink RX2 9 "DraftSurvey$Table" "cells" "[J") (by decide +kernel)) (fun _ h9 => h9) rfl dX2_cell_30 ?_
            refine lv_iload_n hx hb dX2_cell_33 rfl (lv_at hl 1 rfl) ?_
            refine lv_iconst (v := 5) hx hb dX2_cell_34 (by decide) ?_
            refine lv_imul hx hb dX2_cell_35 ?_
            refine tp_i (v := nI (r * 5)) (pk_mul r 5) ?_
            refine lv_iload_n hx hb dX2_cell_36 rfl (lv_at hl 2 rfl) ?_
            refine lv_iadd hx hb dX2_cell_37 ?_
            refine tp_i (v := nI ((r * 5) + q)) (nI_add (r * 5) q) ?_
            refine ar_l (k := ((r * 5) + q)) (v := g_tb σ ((r * 5) + q)) hx hb hK hP (5) 1 wX_e5 rfl rfl (by omega) (by decide) rfl dX2_cell_38 ?_
            exact rd_lret hx hb hr hlocks (congrArg Value.long (by rw [Nat.mul_comm])) dX2_cell_39
          · skip
            have c_5 : ¬ q < 5 := fun z9 => c_5 ((nI_ltI (a := q) (b := 5) (by omega) (by omega)).mpr z9)
            exact (show False by omega).elim

set_option maxHeartbeats 4000000 in
set_option maxRecDepth 100000 in
theorem c_full (l : Launch) (G : va_G) (C : Nat → ClassId) (a : Nat → Nat) (σ : SG) (κ : KX) (hn : g_n σ ≤ 10) : RdC l yX2_isFull wsX2_isFull ({ frames := 0, cells := 0, slots := 0, locals := 0 } : Room) G (tysC C) (wX C a σ κ) [.ref (a 4)] (.int (if ¬ g_n σ < 10 then 1 else 0)) := by
  refine Met.ofW (cc := cX2_isFull) (maxL := 1) (ret := (some .boolean)) (by decide) rfl ?_
  intro p e s m args below meth c s₁ B hml hv
  obtain ⟨rfl, hP, hK, hN⟩ := hv
  have hx := B.exec
  have hb := B.bytes
  have hr := B.returns
  have hts := atoms_spec (ws := wsX2_isFull) B.pre
  have hown : s.vm.findClass RX2 = some m.cls := findClass_of_methodNamed B.named
  have hlocks := B.notSynchronized
  have hX2 : ∀ w ∈ wsX20, w ∈ wsX2_isFull := by decide +kernel
  have hP : va_P G vwCl (wX C a σ κ) s.heap := hP
  have hl := lv_entry ([.ref (a 4)]) (n := 1) (Nat.le_of_ble_eq_true rfl)
  rw [lg_entry_eq]
  generalize (lg_sl ([.ref (a 4)]) ++ List.replicate (1 - (lg_sl ([.ref (a 4)])).length) Slot.unset).toArray = ls at hl ⊢
  have hl : lv_has ls 1 [(0, .ref (a 4))] := hl
  refine lv_aload_n hx hb dX2_isFull_0 rfl (lv_at hl 0 rfl) ?_
  refine va_get (D := G) (ci := 2) (v := .int (nI (g_n σ))) (C := RX2) (T := TX2) (N := 2) hx hb hts hX2 hown hK hP (4) wX_e4 rfl 1 (by decide) (hts (.fieldLink RX2 15 "DraftSurvey$Table" "rows" "I") (by decide +kernel)) (fun _ h9 => h9) rfl dX2_isFull_1 ?_
  refine lv_bipush (v := 10) hx hb dX2_isFull_4 (by decide) ?_
  refine lv_icmp_lt (tgt := 13) hx hb dX2_isFull_6 (by decide) (fun c_1 => ?_) (fun c_1 => ?_)
  · skip
    have c_1 : (g_n σ) < 10 := (nI_ltI (a := (g_n σ)) (b := 10) (by omega) (by omega)).mp c_1
    refine lv_iconst (v := 0) hx hb dX2_isFull_13 (by decide) ?_
    exact rd_zret hx hb hr hlocks (Or.inl rfl) (congrArg Value.int (by simp only [c_1, not_true_eq_false, not_false_eq_true, if_true, if_false, and_true, true_and, and_false, false_and, and_self, or_true, true_or, or_false, false_or, or_self, eq_self])) dX2_isFull_14
  · skip
    have c_1 : ¬ (g_n σ) < 10 := fun z9 => c_1 ((nI_ltI (a := (g_n σ)) (b := 10) (by omega) (by omega)).mpr z9)
    refine lv_iconst (v := 1) hx hb dX2_isFull_9 (by decide) ?_
    refine lv_goto (tgt := 14) hx hb dX2_isFull_10 (by decide) ?_
    exact rd_zret hx hb hr hlocks (Or.inr rfl) (congrArg Value.int (by simp only [c_1, not_true_eq_false, not_false_eq_true, if_true, if_false, and_true, true_and, and_false, false_and, and_self, or_true, true_or, or_false, false_or, or_self, eq_self])) dX2_isFull_14

set_option maxHeartbeats 4000000 in
set_option maxRecDepth 100000 in
theorem c_first (l : Launch) (G : va_G) (C : Nat → ClassId) (a : Nat → Nat) (σ : SG) (κ : KX) (hn : g_n σ ≤ 10) (h0 : 0 < g_n σ) : RdC l yX2_firstDraft wsX2_firstDraft ({ frames := 1, cells := 0, slots := 0, locals := 22 } : Room) G (tysC C) (wX C a σ κ) [.ref (a 4)] (.long (fst_ σ)) := by
  refine Met.ofW (cc := cX2_firstDraft) (maxL := 1) (ret := (some .long)) (by decide) rfl ?_
  intro p e s m args below meth c s₁ B hml hv
  obtain ⟨rfl, hP, hK, hN⟩ := hv
  have hx := B.exec
  have hb := B.bytes
  have hr := B.returns
  have hts := atoms_spec (ws := wsX2_firstDraft) B.pre
  have hown : s.vm.findClass RX2 = some m.cls := findClass_of_methodNamed B.named
  have hlocks := B.notSynchronized
  have hP : va_P G vwCl (wX C a σ κ) s.heap := hP
  have hl := lv_entry ([.ref (a 4)]) (n := 1) (Nat.le_of_ble_eq_true rfl)
  rw [lg_entry_eq]
  generalize (lg_sl ([.ref (a 4)]) ++ List.replicate (1 - (lg_sl ([.ref (a 4)])).length) Slot.unset).toArray = ls at hl ⊢
  have hl : lv_has ls 1 [(0, .ref (a 4))] := hl
  refine lv_aload_n hx hb dX2_firstDraft_0 rfl (lv_at hl 0 rfl) ?_
  refine lv_iconst (v := 0) hx hb dX2_firstDraft_1 (by decide) ?_
  refine lv_iconst (v := 0) hx hb dX2_firstDraft_2 (by decide) ?_
  refine rd_callV (As := [.int 0, .int 0]) (rest := []) ⟨hx, hb, hml, hown, hts⟩ (c_cell l G C a σ κ (r := 0) (q := 0) hn (by omega) (by omega)) (cwV 2 hts gX2_firstDraft_X2_cell rfl rfl rfl (by decide +kernel) ⟨Nat.le_of_ble_eq_true rfl, Nat.le_of_ble_eq_true rfl⟩) hK hN hP (4) 2 wX_e4 rfl rfl rfl hl.1 rfl (Nat.le_of_ble_eq_true rfl) dX2_firstDraft_3 ⟨Nat.zero_le _, Nat.zero_le _⟩ ?_
  exact rd_lret hx hb hr hlocks (rfl) dX2_firstDraft_6

set_option maxHeartbeats 4000000 in
set_option maxRecDepth 100000 in
theorem c_last (l : Launch) (G : va_G) (C : Nat → ClassId) (a : Nat → Nat) (σ : SG) (κ : KX) (hn : g_n σ ≤ 10) (h0 : 0 < g_n σ) : RdC l yX2_lastDraft wsX2_lastDraft ({ frames := 1, cells := 0, slots := 0, locals := 22 } : Room) G (tysC C) (wX C a σ κ) [.ref (a 4)] (.long (lst_ σ)) := by
  refine Met.ofW (cc := cX2_lastDraft) (maxL := 1) (ret := (some .long)) (by decide) rfl ?_
  intro p e s m args below meth c s₁ B hml hv
  obtain ⟨rfl, hP, hK, hN⟩ := hv
  have hx := B.exec
  have hb := B.bytes
  have hr := B.returns
  have hts := atoms_spec (ws := wsX2_lastDraft) B.pre
  have hown : s.vm.findClass RX2 = some m.cls := findClass_of_methodNamed B.named
  have hlocks := B.notSynchronized
  have hX2 : ∀ w ∈ wsX20, w ∈ wsX2_lastDraft := by decide +kernel
  have hP : va_P G vwCl (wX C a σ κ) s.heap := hP
  have hl := lv_entry ([.ref (a 4)]) (n := 1) (Nat.le_of_ble_eq_true rfl)
  rw [lg_entry_eq]
  generalize (lg_sl ([.ref (a 4)]) ++ List.replicate (1 - (lg_sl ([.ref (a 4)])).length) Slot.unset).toArray = ls at hl ⊢
  have hl : lv_has ls 1 [(0, .ref (a 4))] := hl
  refine lv_aload_n hx hb dX2_lastDraft_0 rfl (lv_at hl 0 rfl) ?_
  refine lv_aload_n hx hb dX2_lastDraft_1 rfl (lv_at hl 0 rfl) ?_
  refine va_get (D := G) (ci := 2) (v := .int (nI (g_n σ))) (C := RX2) (T := TX2) (N := 2) hx hb hts hX2 hown hK hP (4) wX_e4 rfl 1 (by decide) (hts (.fieldLink RX2 15 "DraftSurvey$Table" "rows" "I") (by decide +kernel)) (fun _ h9 => h9) rfl dX2_lastDraft_2 ?_
  refine lv_iconst (v := 1) hx hb dX2_lastDraft_5 (by decide) ?_
  refine lv_isub hx hb dX2_lastDraft_6 ?_
  refine tp_i (v := nI ((g_n σ) - 1)) (pk_sub (a := (g_n σ)) (b := 1) (by omega)) ?_
  refine lv_iconst (v := 0) hx hb dX2_lastDraft_7 (by decide) ?_
  refine rd_callV (As := [.int (nI ((g_n σ) - 1)), .int 0]) (rest := []) ⟨hx, hb, hml, hown, hts⟩ (c_cell l G C a σ κ (r := ((g_n σ) - 1)) (q := 0) hn (by omega) (by omega)) (cwV 2 hts gX2_lastDraft_X2_cell rfl rfl rfl (by decide +kernel) ⟨Nat.le_of_ble_eq_true rfl, Nat.le_of_ble_eq_true rfl⟩) hK hN hP (4) 2 wX_e4 rfl rfl rfl hl.1 rfl (Nat.le_of_ble_eq_true rfl) dX2_lastDraft_8 ⟨Nat.zero_le _, Nat.zero_le _⟩ ?_
  exact rd_lret hx hb hr hlocks (rfl) dX2_lastDraft_11

set_option maxHeartbeats 4000000 in
set_option maxRecDepth 100000 in
theorem c_follow (l : Launch) (G : va_G) (C : Nat → ClassId) (a : Nat → Nat) (σ : SG) (κ : KX) (hn : g_n σ ≤ 10) (d x : Int64) : RdC l yX2_canFollow wsX2_canFollow ({ frames := 2, cells := 0, slots := 0, locals := 42 } : Room) G (tysC C) (wX C a σ κ) [.ref (a 4), .long d, .long x] (.int (if (g_n σ = 0 ∨ (lst_ σ < d ∧ ¬ x < g_tb σ (5 * (g_n σ - 1) + 1))) then 1 else 0)) := by
  refine Met.ofW (cc := cX2_canFollow) (maxL := 5) (ret := (some .boolean)) (by decide) rfl ?_
  intro p e s m args below meth c s₁ B hml hv
  obtain ⟨rfl, hP, hK, hN⟩ := hv
  have hx := B.exec
  have hb := B.bytes
  have hr := B.returns
  have hts := atoms_spec (ws := wsX2_canFollow) B.pre
  have hown : s.vm.findClass RX2 = some m.cls := findClass_of_methodNamed B.named
  have hlocks := B.notSynchronized
  have hX2 : ∀ w ∈ wsX20, w ∈ wsX2_canFollow := by decide +kernel
  have hP : va_P G vwCl (wX C a σ κ) s.heap := hP
  have hl := lv_entry ([.ref (a 4), .long d, .long x]) (n := 5) (Nat.le_of_ble_eq_true rfl)
  rw [lg_entry_eq]
  generalize (lg_sl ([.ref (a 4), .long d, .long x]) ++ List.replicate (5 - (lg_sl ([.ref (a 4), .long d, .long x])).length) Slot.unset).toArray = ls at hl ⊢
  have hl : lv_has ls 5 [(0, .ref (a 4)), (1, .long d), (3, .long x)] := hl
  refine lv_aload_n hx hb dX2_canFollow_0 rfl (lv_at hl 0 rfl) ?_
  refine va_get (D := G) (ci := 2) (v := .int (nI (g_n σ))) (C := RX2) (T := TX2) (N := 2) hx hb hts hX2 hown hK hP (4) wX_e4 rfl 1 (by decide) (hts (.fieldLink RX2 15 "DraftSurvey$Table" "rows" "I") (by decide +kernel)) (fun _ h9 => h9) rfl dX2_canFollow_1 ?_
  refine lv_if_eq (tgt := 32) hx hb dX2_canFollow_4 (by decide) (fun c_1 => ?_) (fun c_1 => ?_)
  · skip
    have c_1 : (g_n σ) = 0 := (nI_eq (a := (g_n σ)) (b := 0) (by omega) (by omega)).mp c_1
    refine lv_iconst (v := 1) hx hb dX2_canFollow_32 (by decide) ?_
    refine lv_goto (tgt := 37) hx hb dX2_canFollow_33 (by decide) ?_
    exact rd_zret hx hb hr hlocks (Or.inr rfl) (congrArg Value.int (by simp only [eq_true c_1, not_true_eq_false, not_false_eq_true, if_true, if_false, and_true, true_and, and_false, false_and, and_self, or_true, true_or, or_false, false_or, or_self, eq_self])) dX2_canFollow_37
  · skip
    have c_1 : ¬ (g_n σ) = 0 := fun z9 => c_1 ((nI_eq (a := (g_n σ)) (b := 0) (by omega) (by omega)).mpr z9)
    refine lv_lload_n hx hb dX2_canFollow_7 rfl (lv_at hl 1 rfl) ?_
    refine lv_aload_n hx hb dX2_canFollow_8 rfl (lv_at hl 0 rfl) ?_
    refine rd_callV (As := []) (rest := [.long d]) ⟨hx, hb, hml, hown, hts⟩ (c_last l G C a σ κ hn (by omega)) (cwV 0 hts gX2_canFollow_X2_lastDraft rfl rfl rfl (by decide +kernel) ⟨Nat.le_of_ble_eq_true rfl, Nat.le_of_ble_eq_true rfl⟩) hK hN hP (4) 2 wX_e4 rfl rfl rfl hl.1 rfl (Nat.le_of_ble_eq_true rfl) dX2_canFollow_9 ⟨Nat.zero_le _, Nat.zero_le _⟩ ?_
    refine lc_le (tgt := 36) hx hb dX2_canFollow_12 dX2_canFollow_13 (by decide) (fun c_2 => ?_) (fun c_2 => ?_)
    · skip
      refine lv_iconst (v := 0) hx hb dX2_canFollow_36 (by decide) ?_
      exact rd_zret hx hb hr hlocks (Or.inl rfl) (congrArg Value.int (by simp only [c_1, c_2, not_true_eq_false, not_false_eq_true, if_true, if_false, and_true, true_and, and_false, false_and, and_self, or_true, true_or, or_false, false_or, or_self, eq_self])) dX2_canFollow_37
    · skip
      refine lv_lload_n hx hb dX2_canFollow_16 rfl (lv_at hl 2 rfl) ?_
      refine lv_aload_n hx hb dX2_canFollow_17 rfl (lv_at hl 0 rfl) ?_
      refine lv_aload_n hx hb dX2_canFollow_18 rfl (lv_at hl 0 rfl) ?_
      refine va_get (D := G) (ci := 2) (v := .int (nI (g_n σ))) (C := RX2) (T := TX2) (N := 2) hx hb hts hX2 hown hK hP (4) wX_e4 rfl 1 (by decide) (hts (.fieldLink RX2 15 "DraftSurvey$Table" "rows" "I") (by decide +kernel)) (fun _ h9 => h9) rfl dX2_canFollow_19 ?_
      refine lv_iconst (v := 1) hx hb dX2_canFollow_22 (by decide) ?_
      refine lv_isub hx hb dX2_canFollow_23 ?_
      refine tp_i (v := nI ((g_n σ) - 1)) (pk_sub (a := (g_n σ)) (b := 1) (by omega)) ?_
      refine lv_iconst (v := 1) hx hb dX2_canFollow_24 (by decide) ?_
      refine rd_callV (As := [.int (nI ((g_n σ) - 1)), .int 1]) (rest := [.long x]) ⟨hx, hb, hml, hown, hts⟩ (c_cell l G C a σ κ (r := ((g_n σ) - 1)) (q := 1) hn (by omega) (by omega)) (cwV 2 hts gX2_canFollow_X2_cell rfl rfl rfl (by decide +kernel) ⟨Nat.le_of_ble_eq_true rfl, Nat.le_of_ble_eq_true rfl⟩) hK hN hP (4) 2 wX_e4 rfl rfl rfl hl.1 rfl (Nat.le_of_ble_eq_true rfl) dX2_canFollow_25 ⟨Nat.zero_le _, Nat.zero_le _⟩ ?_
      refine lc_lt (tgt := 36) hx hb dX2_canFollow_28 dX2_canFollow_29 (by decide) (fun c_3 => ?_) (fun c_3 => ?_)
      · skip
        refine lv_iconst (v := 0) hx hb dX2_canFollow_36 (by decide) ?_
        exact rd_zret hx hb hr hlocks (Or.inl rfl) (congrArg Value.int (by simp only [c_1, c_2, c_3, not_true_eq_false, not_false_eq_true, if_true, if_false, and_true, true_and, and_false, false_and, and_self, or_true, true_or, or_false, false_or, or_self, eq_self])) dX2_canFollow_37
      · skip
        refine lv_iconst (v := 1) hx hb dX2_canFollow_32 (by decide) ?_
        refine lv_goto (tgt := 37) hx hb dX2_canFollow_33 (by decide) ?_
        exact rd_zret hx hb hr hlocks (Or.inr rfl) (congrArg Value.int (by simp only [c_1, c_2, c_3, not_true_eq_false, not_false_eq_true, if_true, if_false, and_true, true_and, and_false, false_and, and_self, or_true, true_or, or_false, false_or, or_self, eq_self])) dX2_canFollow_37

set_option maxHeartbeats 4000000 in
set_option maxRecDepth 100000 in
theorem c_covers (l : Launch) (G : va_G) (C : Nat → ClassId) (a : Nat → Nat) (σ : SG) (κ : KX) (hn : g_n σ ≤ 10) (d : Int64) : RdC l yX2_covers wsX2_covers ({ frames := 2, cells := 0, slots := 0, locals := 42 } : Room) G (tysC C) (wX C a σ κ) [.ref (a 4), .long d] (.int (if cov σ d then 1 else 0)) := by
  refine Met.ofW (cc := cX2_covers) (maxL := 3) (ret := (some .boolean)) (by decide) rfl ?_
  intro p e s m args below meth c s₁ B hml hv
  obtain ⟨rfl, hP, hK, hN⟩ := hv
  have hx := B.exec
  have hb := B.bytes
  have hr := B.returns
  have hts := atoms_spec (ws := wsX2_covers) B.pre
  have hown : s.vm.findClass RX2 = some m.cls := findClass_of_methodNamed B.named
  have hlocks := B.notSynchronized
  have hX2 : ∀ w ∈ wsX20, w ∈ wsX2_covers := by decide +kernel
  have hP : va_P G vwCl (wX C a σ κ) s.heap := hP
  have hl := lv_entry ([.ref (a 4), .long d]) (n := 3) (Nat.le_of_ble_eq_true rfl)
  rw [lg_entry_eq]
  generalize (lg_sl ([.ref (a 4), .long d]) ++ List.replicate (3 - (lg_sl ([.ref (a 4), .long d])).length) Slot.unset).toArray = ls at hl ⊢
  have hl : lv_has ls 3 [(0, .ref (a 4)), (1, .long d)] := hl
  refine lv_aload_n hx hb dX2_covers_0 rfl (lv_at hl 0 rfl) ?_
  refine va_get (D := G) (ci := 2) (v := .int (nI (g_n σ))) (C := RX2) (T := TX2) (N := 2) hx hb hts hX2 hown hK hP (4) wX_e4 rfl 1 (by decide) (hts (.fieldLink RX2 15 "DraftSurvey$Table" "rows" "I") (by decide +kernel)) (fun _ h9 => h9) rfl dX2_covers_1 ?_
  refine ic_if_le (tgt := 29) hx hb dX2_covers_4 (by decide) (fun c_1 => ?_) (fun c_1 => ?_)
  · skip
    have c_1 : ¬ 0 < (g_n σ) := fun z9 => c_1 ((nI_ltI (a := 0) (b := (g_n σ)) (by omega) (by omega)).mpr z9)
    refine lv_iconst (v := 0) hx hb dX2_covers_29 (by decide) ?_
    exact rd_zret hx hb hr hlocks (Or.inl rfl) (congrArg Value.int (by simp only [cov, c_1, not_true_eq_false, not_false_eq_true, if_true, if_false, and_true, true_and, and_false, false_and, and_self, or_true, true_or, or_false, false_or, or_self, eq_self])) dX2_covers_30
  · skip
    have c_1 : 0 < (g_n σ) := (nI_ltI (a := 0) (b := (g_n σ)) (by omega) (by omega)).mp c_1
    refine lv_lload_n hx hb dX2_covers_7 rfl (lv_at hl 1 rfl) ?_
    refine lv_aload_n hx hb dX2_covers_8 rfl (lv_at hl 0 rfl) ?_
    refine rd_callV (As := []) (rest := [.long d]) ⟨hx, hb, hml, hown, hts⟩ (c_first l G C a σ κ hn (by omega)) (cwV 0 hts gX2_covers_X2_firstDraft rfl rfl rfl (by decide +kernel) ⟨Nat.le_of_ble_eq_true rfl, Nat.le_of_ble_eq_true rfl⟩) hK hN hP (4) 2 wX_e4 rfl rfl rfl hl.1 rfl (Nat.le_of_ble_eq_true rfl) dX2_covers_9 ⟨Nat.zero_le _, Nat.zero_le _⟩ ?_
    refine lc_lt (tgt := 29) hx hb dX2_covers_12 dX2_covers_13 (by decide) (fun c_2 => ?_) (fun c_2 => ?_)
    · skip
      refine lv_iconst (v := 0) hx hb dX2_covers_29 (by decide) ?_
      exact rd_zret hx hb hr hlocks (Or.inl rfl) (congrArg Value.int (by simp only [cov, c_1, c_2, not_true_eq_false, not_false_eq_true, if_true, if_false, and_true, true_and, and_false, false_and, and_self, or_true, true_or, or_false, false_or, or_self, eq_self])) dX2_covers_30
    · skip
      refine lv_lload_n hx hb dX2_covers_16 rfl (lv_at hl 1 rfl) ?_
      refine lv_aload_n hx hb dX2_covers_17 rfl (lv_at hl 0 rfl) ?_
      refine rd_callV (As := []) (rest := [.long d]) ⟨hx, hb, hml, hown, hts⟩ (c_last l G C a σ κ hn (by omega)) (cwV 0 hts gX2_covers_X2_lastDraft rfl rfl rfl (by decide +kernel) ⟨Nat.le_of_ble_eq_true rfl, Nat.le_of_ble_eq_true rfl⟩) hK hN hP (4) 2 wX_e4 rfl rfl rfl hl.1 rfl (Nat.le_of_ble_eq_true rfl) dX2_covers_18 ⟨Nat.zero_le _, Nat.zero_le _⟩ ?_
      refine lc_gt (tgt := 29) hx hb dX2_covers_21 dX2_covers_22 (by decide) (fun c_3 => ?_) (fun c_3 => ?_)
      · skip
        refine lv_iconst (v := 0) hx hb dX2_covers_29 (by decide) ?_
        exact rd_zret hx hb hr hlocks (Or.inl rfl) (congrArg Value.int (by simp only [cov, c_1, c_2, c_3, not_true_eq_false, not_false_eq_true, if_true, if_false, and_true, true_and, and_false, false_and, and_self, or_true, true_or, or_false, false_or, or_self, eq_self])) dX2_covers_30
      · skip
        refine lv_iconst (v := 1) hx hb dX2_covers_25 (by decide) ?_
        refine lv_goto (tgt := 30) hx hb dX2_covers_26 (by decide) ?_
        exact rd_zret hx hb hr hlocks (Or.inr rfl) (congrArg Value.int (by simp only [cov, c_1, c_2, c_3, not_true_eq_false, not_false_eq_true, if_true, if_false, and_true, true_and, and_false, false_and, and_self, or_true, true_or, or_false, false_or, or_self, eq_self])) dX2_covers_30

set_option maxHeartbeats 4000000 in
set_option maxRecDepth 100000 in
theorem c_value (l : Launch) (G : va_G) (C : Nat → ClassId) (a : Nat → Nat) (σ : SG) (κ : KX) (hn : g_n σ ≤ 10) {q : Nat} (hq : q < 5) (d : Int64) : RdC l yX2_valueAt wsX2_valueAt ({ frames := 1, cells := 0, slots := 0, locals := 25 } : Room) G (tysC C) (wX C a σ κ) [.ref (a 4), .int (nI q), .long d] (.long (vA σ q d)) := by
  refine Met.ofW (cc := cX2_valueAt) (maxL := 17) (ret := (some .long)) (by decide) rfl ?_
  intro p e s m args below meth c s₁ B hml hv
  obtain ⟨rfl, hP, hK, hN⟩ := hv
  have hx := B.exec
  have hb := B.bytes
  have hr := B.returns
  have hts := atoms_spec (ws := wsX2_valueAt) B.pre
  have hown : s.vm.findClass RX2 = some m.cls := findClass_of_methodNamed B.named
  have hlocks := B.notSynchronized
  have hX2 : ∀ w ∈ wsX20, w ∈ wsX2_valueAt := by decide +kernel
  have hP : va_P G vwCl (wX C a σ κ) s.heap := hP
  have hl := lv_entry ([.ref (a 4), .int (nI q), .long d]) (n := 17) (Nat.le_of_ble_eq_true rfl)
  rw [lg_entry_eq]
  generalize (lg_sl ([.ref (a 4), .int (nI q), .long d]) ++ List.replicate (17 - (lg_sl ([.ref (a 4), .int (nI q), .long d])).length) Slot.unset).toArray = ls at hl ⊢
  have hl : lv_has ls 17 [(0, .ref (a 4)), (1, .int (nI q)), (2, .long d)] := hl
  refine lv_iconst (v := 0) hx hb dX2_valueAt_0 (by decide) ?_
  refine lv_istore (lv' := [(4, .int 0), (0, .ref (a 4)), (1, .int (nI q)), (2, .long d)]) hx hb dX2_valueAt_1 hl (by decide) rfl (fun ls hl => ?_)
  have key3 : ∀ (n_ : Nat) (k : Nat), g_n σ + 1 ≤ k + n_ → k ≤ g_n σ → upf (fun r => g_tb σ (5 * r + 0)) d k (g_n σ - k) = upf (fun r => g_tb σ (5 * r + 0)) d 0 (g_n σ) → ∀ ls : Array Slot, lv_has ls 17 [(0, .ref (a 4)), (1, .int (nI q)), (2, .long d), (4, .int (nI k))] → W p l e (headSpec wsX2_valueAt ({ frames := 1, cells := 0, slots := 0, locals := 25 } : Room)).room s m ([.ref (a 4), .int (nI q), .long d] : List Value).toArray below meth c s.heap [] 0 0 (MQ below (k2_QcV (.long (vA σ q d))) ([.ref (a 4), .int (nI q), .long d] : List Value).toArray s 0 0 (fun _ => False)) (F0 m 3 ls []) := by
    intro n_
    induction n_ with
    | zero =>
      intro k g_0 g_1 g_2 ls hl
      exact absurd g_0 (by omega)
    | succ n_ ih =>
      intro k g_0 g_1 g_2 ls hl
      refine lv_iload hx hb dX2_valueAt_3 (lv_at hl 3 rfl) ?_
      refine lv_aload_n hx hb dX2_valueAt_5 rfl (lv_at hl 0 rfl) ?_
      refine va_get (D := G) (ci := 2) (v := .int (nI (g_n σ))) (C := RX2) (T := TX2) (N := 2) hx hb hts hX2 hown hK hP (4) wX_e4 rfl 1 (by decide) (hts (.fieldLink RX2 15 "DraftSurvey$Table" "rows" "I") (by decide +kernel)) (fun _ h9 => h9) rfl dX2_valueAt_6 ?_
      refine ic_ge (tgt := 30) hx hb dX2_valueAt_9 (by decide) (fun c_1 => ?_) (fun c_1 => ?_)
      · skip
        have c_1 : ¬ k < (g_n σ) := fun z9 => c_1 ((nI_ltI (a := k) (b := (g_n σ)) (by omega) (by omega)).mpr z9)
        have hst : upf (fun r => g_tb σ (5 * r + 0)) d 0 (g_n σ) = k := by rw [← g_2]; exact upf_end c_1
        refine lv_iload hx hb dX2_valueAt_30 (lv_at hl 3 rfl) ?_
        refine lv_aload_n hx hb dX2_valueAt_32 rfl (lv_at hl 0 rfl) ?_
        refine va_get (D := G) (ci := 2) (v := .int (nI (g_n σ))) (C := RX2) (T := TX2) (N := 2) hx hb hts hX2 hown hK hP (4) wX_e4 rfl 1 (by decide) (hts (.fieldLink RX2 15 "DraftSurvey$Table" "rows" "I") (by decide +kernel)) (fun _ h9 => h9) rfl dX2_valueAt_33 ?_
        refine lv_icmp_lt (tgt := 43) hx hb dX2_valueAt_36 (by decide) (fun c_2 => ?_) (fun c_2 => ?_)
        · skip
          have c_2 : k < (g_n σ) := (nI_ltI (a := k) (b := (g_n σ)) (by omega) (by omega)).mp c_2
          exact absurd c_2 c_1
        · skip
          have c_2 : ¬ k < (g_n σ) := fun z9 => c_2 ((nI_ltI (a := k) (b := (g_n σ)) (by omega) (by omega)).mpr z9)
          refine lv_ldc2 (v := (-9000000000000000007)) hx hb hown (hts (.constantLong RX2 36 (-9000000000000000007)) (by decide +kernel)) dX2_valueAt_39 ?_
          exact rd_lret hx hb hr hlocks (congrArg Value.long (by simp only [vA, hst, vaU, ipl, c_1, c_2, not_true_eq_false, not_false_eq_true, if_true, if_false, and_true, true_and, and_false, false_and, and_self, or_true, true_or, or_false, false_or, or_self, eq_self])) dX2_valueAt_42
      · skip
        have c_1 : k < (g_n σ) := (nI_ltI (a := k) (b := (g_n σ)) (by omega) (by omega)).mp c_1
        refine lv_aload_n hx hb dX2_valueAt_12 rfl (lv_at hl 0 rfl) ?_
        refine lv_iload hx hb dX2_valueAt_13 (lv_at hl 3 rfl) ?_
        refine lv_iconst (v := 0) hx hb dX2_valueAt_15 (by decide) ?_
        refine rd_callV (As := [.int (nI k), .int 0]) (rest := []) ⟨hx, hb, hml, hown, hts⟩ (c_cell l G C a σ κ (r := k) (q := 0) hn (by omega) (by omega)) (cwV 2 hts gX2_valueAt_X2_cell rfl rfl rfl (by decide +kernel) ⟨Nat.le_of_ble_eq_true rfl, Nat.le_of_ble_eq_true rfl⟩) hK hN hP (4) 2 wX_e4 rfl rfl rfl hl.1 rfl (Nat.le_of_ble_eq_true rfl) dX2_valueAt_16 ⟨Nat.zero_le _, Nat.zero_le _⟩ ?_
        refine lv_lload_n hx hb dX2_valueAt_19 rfl (lv_at hl 2 rfl) ?_
        refine lc_ge (tgt := 30) hx hb dX2_valueAt_20 dX2_valueAt_21 (by decide) (fun c_3 => ?_) (fun c_3 => ?_)
        · skip
          have hst : upf (fun r => g_tb σ (5 * r + 0)) d 0 (g_n σ) = k := by rw [← g_2]; exact upf_here c_1 c_3
          refine lv_iload hx hb dX2_valueAt_30 (lv_at hl 3 rfl) ?_
          refine lv_aload_n hx hb dX2_valueAt_32 rfl (lv_at hl 0 rfl) ?_
          refine va_get (D := G) (ci := 2) (v := .int (nI (g_n σ))) (C := RX2) (T := TX2) (N := 2) hx hb hts hX2 hown hK hP (4) wX_e4 rfl 1 (by decide) (hts (.fieldLink RX2 15 "DraftSurvey$Table" "rows" "I") (by decide +kernel)) (fun _ h9 => h9) rfl dX2_valueAt_33 ?_
          refine lv_icmp_lt (tgt := 43) hx hb dX2_valueAt_36 (by decide) (fun c_4 => ?_) (fun c_4 => ?_)
          · skip
            have c_4 : k < (g_n σ) := (nI_ltI (a := k) (b := (g_n σ)) (by omega) (by omega)).mp c_4
            refine lv_aload_n hx hb dX2_valueAt_43 rfl (lv_at hl 0 rfl) ?_
            refine lv_iload hx hb dX2_valueAt_44 (lv_at hl 3 rfl) ?_
            refine lv_iconst (v := 0) hx hb dX2_valueAt_46 (by decide) ?_
            refine rd_callV (As := [.int (nI k), .int 0]) (rest := []) ⟨hx, hb, hml, hown, hts⟩ (c_cell l G C a σ κ (r := k) (q := 0) hn (by omega) (by omega)) (cwV 2 hts gX2_valueAt_X2_cell rfl rfl rfl (by decide +kernel) ⟨Nat.le_of_ble_eq_true rfl, Nat.le_of_ble_eq_true rfl⟩) hK hN hP (4) 2 wX_e4 rfl rfl rfl hl.1 rfl (Nat.le_of_ble_eq_true rfl) dX2_valueAt_47 ⟨Nat.zero_le _, Nat.zero_le _⟩ ?_
            refine lv_lstore (lv' := [(5, .long (g_tb σ (5 * k + 0))), (0, .ref (a 4)), (1, .int (nI q)), (2, .long d), (4, .int (nI k))]) hx hb dX2_valueAt_50 hl (by decide) rfl (fun ls hl => ?_)
            refine lv_aload_n hx hb dX2_valueAt_52 rfl (lv_at hl 1 rfl) ?_
            refine lv_iload hx hb dX2_valueAt_53 (lv_at hl 4 rfl) ?_
            refine lv_iload_n hx hb dX2_valueAt_55 rfl (lv_at hl 2 rfl) ?_
            refine rd_callV (As := [.int (nI k), .int (nI q)]) (rest := []) ⟨hx, hb, hml, hown, hts⟩ (c_cell l G C a σ κ (r := k) (q := q) hn (by omega) (by omega)) (cwV 2 hts gX2_valueAt_X2_cell rfl rfl rfl (by decide +kernel) ⟨Nat.le_of_ble_eq_true rfl, Nat.le_of_ble_eq_true rfl⟩) hK hN hP (4) 2 wX_e4 rfl rfl rfl hl.1 rfl (Nat.le_of_ble_eq_true rfl) dX2_valueAt_56 ⟨Nat.zero_le _, Nat.zero_le _⟩ ?_
            refine lv_lstore (lv' := [(7, .long (g_tb σ (5 * k + q))), (5, .long (g_tb σ (5 * k + 0))), (0, .ref (a 4)), (1, .int (nI q)), (2, .long d), (4, .int (nI k))]) hx hb dX2_valueAt_59 hl (by decide) rfl (fun ls hl => ?_)
            refine lv_lload hx hb dX2_valueAt_61 (lv_at hl 1 rfl) ?_
            refine lv_lload_n hx hb dX2_valueAt_63 rfl (lv_at hl 4 rfl) ?_
            refine lc_ne (tgt := 71) hx hb dX2_valueAt_64 dX2_valueAt_65 (by decide) (fun c_5 => ?_) (fun c_5 => ?_)
            · skip
              refine lv_iload hx hb dX2_valueAt_71 (lv_at hl 5 rfl) ?_
              refine ic_if_ne (tgt := 80) hx hb dX2_valueAt_73 (by decide) (fun c_6 => ?_) (fun c_6 => ?_)
              · skip
                have c_6 : ¬ k = 0 := fun z9 => c_6 ((nI_eq (a := k) (b := 0) (by omega) (by omega)).mpr z9)
                refine lv_aload_n hx hb dX2_valueAt_80 rfl (lv_at hl 2 rfl) ?_
                refine lv_iload hx hb dX2_valueAt_81 (lv_at hl 5 rfl) ?_
                refine lv_iconst (v := 1) hx hb dX2_valueAt_83 (by decide) ?_
                refine lv_isub hx hb dX2_valueAt_84 ?_
                refine tp_i (v := nI (k - 1)) (pk_sub (a := k) (b := 1) (by omega)) ?_
                refine lv_iconst (v := 0) hx hb dX2_valueAt_85 (by decide) ?_
                refine rd_callV (As := [.int (nI (k - 1)), .int 0]) (rest := []) ⟨hx, hb, hml, hown, hts⟩ (c_cell l G C a σ κ (r := (k - 1)) (q := 0) hn (by omega) (by omega)) (cwV 2 hts gX2_valueAt_X2_cell rfl rfl rfl (by decide +kernel) ⟨Nat.le_of_ble_eq_true rfl, Nat.le_of_ble_eq_true rfl⟩) hK hN hP (4) 2 wX_e4 rfl rfl rfl hl.1 rfl (Nat.le_of_ble_eq_true rfl) dX2_valueAt_86 ⟨Nat.zero_le _, Nat.zero_le _⟩ ?_
                refine lv_lstore (lv' := [(9, .long (g_tb σ (5 * (k - 1) + 0))), (7, .long (g_tb σ (5 * k + q))), (5, .long (g_tb σ (5 * k + 0))), (0, .ref (a 4)), (1, .int (nI q)), (2, .long d), (4, .int (nI k))]) hx hb dX2_valueAt_89 hl (by decide) rfl (fun ls hl => ?_)
                refine lv_aload_n hx hb dX2_valueAt_91 rfl (lv_at hl 3 rfl) ?_
                refine lv_iload hx hb dX2_valueAt_92 (lv_at hl 6 rfl) ?_
                refine lv_iconst (v := 1) hx hb dX2_valueAt_94 (by decide) ?_
                refine lv_isub hx hb dX2_valueAt_95 ?_
                refine tp_i (v := nI (k - 1)) (pk_sub (a := k) (b := 1) (by omega)) ?_
                refine lv_iload_n hx hb dX2_valueAt_96 rfl (lv_at hl 4 rfl) ?_
                refine rd_callV (As := [.int (nI (k - 1)), .int (nI q)]) (rest := []) ⟨hx, hb, hml, hown, hts⟩ (c_cell l G C a σ κ (r := (k - 1)) (q := q) hn (by omega) (by omega)) (cwV 2 hts gX2_valueAt_X2_cell rfl rfl rfl (by decide +kernel) ⟨Nat.le_of_ble_eq_true rfl, Nat.le_of_ble_eq_true rfl⟩) hK hN hP (4) 2 wX_e4 rfl rfl rfl hl.1 rfl (Nat.le_of_ble_eq_true rfl) dX2_valueAt_97 ⟨Nat.zero_le _, Nat.zero_le _⟩ ?_
                refine lv_lstore (lv' := [(11, .long (g_tb σ (5 * (k - 1) + q))), (9, .long (g_tb σ (5 * (k - 1) + 0))), (7, .long (g_tb σ (5 * k + q))), (5, .long (g_tb σ (5 * k + 0))), (0, .ref (a 4)), (1, .int (nI q)), (2, .long d), (4, .int (nI k))]) hx hb dX2_valueAt_100 hl (by decide) rfl (fun ls hl => ?_)
                refine lv_lload hx hb dX2_valueAt_102 (lv_at hl 2 rfl) ?_
                refine lv_lload hx hb dX2_valueAt_104 (lv_at hl 0 rfl) ?_
                refine lv_lsub hx hb dX2_valueAt_106 ?_
                refine lv_lload_n hx hb dX2_valueAt_107 rfl (lv_at hl 6 rfl) ?_
                refine lv_lload hx hb dX2_valueAt_108 (lv_at hl 1 rfl) ?_
                refine lv_lsub hx hb dX2_valueAt_110 ?_
                refine lv_lmul hx hb dX2_valueAt_111 ?_
                refine lv_lstore (lv' := [(13, .long (((g_tb σ (5 * k + q)) - (g_tb σ (5 * (k - 1) + q))) * (d - (g_tb σ (5 * (k - 1) + 0))))), (11, .long (g_tb σ (5 * (k - 1) + q))), (9, .long (g_tb σ (5 * (k - 1) + 0))), (7, .long (g_tb σ (5 * k + q))), (5, .long (g_tb σ (5 * k + 0))), (0, .ref (a 4)), (1, .int (nI q)), (2, .long d), (4, .int (nI k))]) hx hb dX2_valueAt_112 hl (by decide) rfl (fun ls hl => ?_)
                refine lv_lload hx hb dX2_valueAt_114 (lv_at hl 4 rfl) ?_
                refine lv_lload hx hb dX2_valueAt_116 (lv_at hl 2 rfl) ?_
                refine lv_lsub hx hb dX2_valueAt_118 ?_
                refine lv_lstore (lv' := [(15, .long ((g_tb σ (5 * k + 0)) - (g_tb σ (5 * (k - 1) + 0)))), (13, .long (((g_tb σ (5 * k + q)) - (g_tb σ (5 * (k - 1) + q))) * (d - (g_tb σ (5 * (k - 1) + 0))))), (11, .long (g_tb σ (5 * (k - 1) + q))), (9, .long (g_tb σ (5 * (k - 1) + 0))), (7, .long (g_tb σ (5 * k + q))), (5, .long (g_tb σ (5 * k + 0))), (0, .ref (a 4)), (1, .int (nI q)), (2, .long d), (4, .int (nI k))]) hx hb dX2_valueAt_119 hl (by decide) rfl (fun ls hl => ?_)
                refine lv_lload hx hb dX2_valueAt_121 (lv_at hl 0 rfl) ?_
                refine lv_lconst (v := 0) hx hb dX2_valueAt_123 (by decide) ?_
                refine lc_ne (tgt := 133) hx hb dX2_valueAt_124 dX2_valueAt_125 (by decide) (fun c_7 => ?_) (fun c_7 => ?_)
                · skip
                  refine lv_lload hx hb dX2_valueAt_133 (lv_at hl 2 rfl) ?_
                  refine lv_lload hx hb dX2_valueAt_135 (lv_at hl 1 rfl) ?_
                  refine lv_lload hx hb dX2_valueAt_137 (lv_at hl 0 rfl) ?_
                  refine rd_callS (As := [.long (((g_tb σ (5 * k + q)) - (g_tb σ (5 * (k - 1) + q))) * (d - (g_tb σ (5 * (k - 1) + 0)))), .long ((g_tb σ (5 * k + 0)) - (g_tb σ (5 * (k - 1) + 0)))]) (rest := [.long (g_tb σ (5 * (k - 1) + q))]) ⟨hx, hb, hml, hown, hts⟩ (c_fdiv l G C a σ κ (((g_tb σ (5 * k + q)) - (g_tb σ (5 * (k - 1) + q))) * (d - (g_tb σ (5 * (k - 1) + 0)))) ((g_tb σ (5 * k + 0)) - (g_tb σ (5 * (k - 1) + 0))) c_7) (va_cwS 2 hts gX2_valueAt_J9_floorDiv_f86c9 rfl rfl rfl (by decide +kernel) ⟨Nat.le_of_ble_eq_true rfl, Nat.le_of_ble_eq_true rfl⟩) hK hN hP rfl hl.1 rfl (Nat.le_of_ble_eq_true rfl) dX2_valueAt_139 ⟨Nat.zero_le _, Nat.zero_le _⟩ ?_
                  refine lv_ladd hx hb dX2_valueAt_142 ?_
                  exact rd_lret hx hb hr hlocks (congrArg Value.long (by simp only [vA, hst, vaU, ipl, c_1, c_3, c_4, c_5, c_6, c_7, not_true_eq_false, not_false_eq_true, if_true, if_false, and_true, true_and, and_false, false_and, and_self, or_true, true_or, or_false, false_or, or_self, eq_self])) dX2_valueAt_143
                · skip
                  refine lv_lload hx hb dX2_valueAt_128 (lv_at hl 2 rfl) ?_
                  refine lv_goto (tgt := 143) hx hb dX2_valueAt_130 (by decide) ?_
                  exact rd_lret hx hb hr hlocks (congrArg Value.long (by simp only [vA, hst, vaU, ipl, c_1, c_3, c_4, c_5, c_6, eq_true c_7, not_true_eq_false, not_false_eq_true, if_true, if_false, and_true, true_and, and_false, false_and, and_self, or_true, true_or, or_false, false_or, or_self, eq_self])) dX2_valueAt_143
              · skip
                have c_6 : k = 0 := (nI_eq (a := k) (b := 0) (by omega) (by omega)).mp c_6
                refine lv_ldc2 (v := (-9000000000000000007)) hx hb hown (hts (.constantLong RX2 36 (-9000000000000000007)) (by decide +kernel)) dX2_valueAt_76 ?_
                exact rd_lret hx hb hr hlocks (congrArg Value.long (by simp only [vA, hst, vaU, ipl, c_1, c_3, c_4, c_5, eq_true c_6, not_true_eq_false, not_false_eq_true, if_true, if_false, and_true, true_and, and_false, false_and, and_self, or_true, true_or, or_false, false_or, or_self, eq_self])) dX2_valueAt_79
            · skip
              refine lv_lload hx hb dX2_valueAt_68 (lv_at hl 0 rfl) ?_
              exact rd_lret hx hb hr hlocks (congrArg Value.long (by simp only [vA, hst, vaU, ipl, c_1, c_3, c_4, eq_true c_5, not_true_eq_false, not_false_eq_true, if_true, if_false, and_true, true_and, and_false, false_and, and_self, or_true, true_or, or_false, false_or, or_self, eq_self])) dX2_valueAt_70
          · skip
            have c_4 : ¬ k < (g_n σ) := fun z9 => c_4 ((nI_ltI (a := k) (b := (g_n σ)) (by omega) (by omega)).mpr z9)
            exact absurd c_1 c_4
        · skip
          refine lv_iinc (v := nI (k + 1)) (lv' := [(4, .int (nI (k + 1))), (0, .ref (a 4)), (1, .int (nI q)), (2, .long d)]) hx hb dX2_valueAt_24 hl (k := 3) rfl (nI_add k 1) (by decide) rfl (fun ls hl => ?_)
          refine lv_goto (tgt := 3) hx hb dX2_valueAt_27 (by decide) ?_
          exact ih (k + 1) (by omega) (by omega) (by rw [← g_2]; exact (upf_lt c_1 c_3).symm) ls (lv_sub hl [1, 2, 3, 0] rfl)
  exact key3 (g_n σ + 1) 0 (by omega) (Nat.zero_le _) rfl ls (lv_sub hl [1, 2, 3, 0] rfl)

set_option maxHeartbeats 4000000 in
set_option maxRecDepth 100000 in
theorem c_quot (l : Launch) (G : va_G) (C : Nat → ClassId) (a : Nat → Nat) (σ : SG) (κ : KX) (x y : Int64) : RdC l yX3_quotient wsX3_quotient ({ frames := 1, cells := 0, slots := 0, locals := 25 } : Room) G (tysC C) (wX C a σ κ) [.long x, .long y] (.long (qt x y)) := by
  refine Met.ofW (cc := cX3_quotient) (maxL := 4) (ret := (some .long)) (by decide) rfl ?_
  intro p e s m args below meth c s₁ B hml hv
  obtain ⟨rfl, hP, hK, hN⟩ := hv
  have hx := B.exec
  have hb := B.bytes
  have hr := B.returns
  have hts := atoms_spec (ws := wsX3_quotient) B.pre
  have hown : s.vm.findClass RX3 = some m.cls := findClass_of_methodNamed B.named
  have hlocks := B.notSynchronized
  have hP : va_P G vwCl (wX C a σ κ) s.heap := hP
  have hl := lv_entry ([.long x, .long y]) (n := 4) (Nat.le_of_ble_eq_true rfl)
  rw [lg_entry_eq]
  generalize (lg_sl ([.long x, .long y]) ++ List.replicate (4 - (lg_sl ([.long x, .long y])).length) Slot.unset).toArray = ls at hl ⊢
  have hl : lv_has ls 4 [(0, .long x), (2, .long y)] := hl
  refine lv_lload_n hx hb dX3_quotient_0 rfl (lv_at hl 1 rfl) ?_
  refine lv_lconst (v := 0) hx hb dX3_quotient_1 (by decide) ?_
  refine lc_ne (tgt := 10) hx hb dX3_quotient_2 dX3_quotient_3 (by decide) (fun c_1 => ?_) (fun c_1 => ?_)
  · skip
    refine lv_lload_n hx hb dX3_quotient_10 rfl (lv_at hl 0 rfl) ?_
    refine lv_lload_n hx hb dX3_quotient_11 rfl (lv_at hl 1 rfl) ?_
    refine rd_callS (As := [.long x, .long y]) (rest := []) ⟨hx, hb, hml, hown, hts⟩ (c_fdiv l G C a σ κ x y c_1) (va_cwS 2 hts gX3_quotient_J9_floorDiv_f86c9 rfl rfl rfl (by decide +kernel) ⟨Nat.le_of_ble_eq_true rfl, Nat.le_of_ble_eq_true rfl⟩) hK hN hP rfl hl.1 rfl (Nat.le_of_ble_eq_true rfl) dX3_quotient_12 ⟨Nat.zero_le _, Nat.zero_le _⟩ ?_
    exact rd_lret hx hb hr hlocks (congrArg Value.long (by simp only [qt, c_1, not_true_eq_false, not_false_eq_true, if_true, if_false, and_true, true_and, and_false, false_and, and_self, or_true, true_or, or_false, false_or, or_self, eq_self])) dX3_quotient_15
  · skip
    refine lv_lconst (v := 0) hx hb dX3_quotient_6 (by decide) ?_
    refine lv_goto (tgt := 15) hx hb dX3_quotient_7 (by decide) ?_
    exact rd_lret hx hb hr hlocks (congrArg Value.long (by simp only [qt, eq_true c_1, not_true_eq_false, not_false_eq_true, if_true, if_false, and_true, true_and, and_false, false_and, and_self, or_true, true_or, or_false, false_or, or_self, eq_self])) dX3_quotient_15

set_option maxHeartbeats 4000000 in
set_option maxRecDepth 100000 in
theorem c_least (l : Launch) (G : va_G) (C : Nat → ClassId) (a : Nat → Nat) (σ : SG) (κ : KX) (hn : g_n σ ≤ 10) (d : Int64) : RdC l yX2_leastDraftFor wsX2_leastDraftFor ({ frames := 2, cells := 0, slots := 0, locals := 48 } : Room) G (tysC C) (wX C a σ κ) [.ref (a 4), .long d] (.long (lD σ d)) := by
  refine Met.ofW (cc := cX2_leastDraftFor) (maxL := 14) (ret := (some .long)) (by decide) rfl ?_
  intro p e s m args below meth c s₁ B hml hv
  obtain ⟨rfl, hP, hK, hN⟩ := hv
  have hx := B.exec
  have hb := B.bytes
  have hr := B.returns
  have hts := atoms_spec (ws := wsX2_leastDraftFor) B.pre
  have hown : s.vm.findClass RX2 = some m.cls := findClass_of_methodNamed B.named
  have hlocks := B.notSynchronized
  have hX2 : ∀ w ∈ wsX20, w ∈ wsX2_leastDraftFor := by decide +kernel
  have hP : va_P G vwCl (wX C a σ κ) s.heap := hP
  have hl := lv_entry ([.ref (a 4), .long d]) (n := 14) (Nat.le_of_ble_eq_true rfl)
  rw [lg_entry_eq]
  generalize (lg_sl ([.ref (a 4), .long d]) ++ List.replicate (14 - (lg_sl ([.ref (a 4), .long d])).length) Slot.unset).toArray = ls at hl ⊢
  have hl : lv_has ls 14 [(0, .ref (a 4)), (1, .long d)] := hl
  refine lv_iconst (v := 0) hx hb dX2_leastDraftFor_0 (by decide) ?_
  refine lv_istore_n (lv' := [(3, .int 0), (0, .ref (a 4)), (1, .long d)]) hx hb dX2_leastDraftFor_1 rfl hl (by decide) rfl (fun ls hl => ?_)
  have key2 : ∀ (n_ : Nat) (k : Nat), g_n σ + 1 ≤ k + n_ → k ≤ g_n σ → upf (fun r => g_tb σ (5 * r + 1)) d k (g_n σ - k) = upf (fun r => g_tb σ (5 * r + 1)) d 0 (g_n σ) → ∀ ls : Array Slot, lv_has ls 14 [(0, .ref (a 4)), (1, .long d), (3, .int (nI k))] → W p l e (headSpec wsX2_leastDraftFor ({ frames := 2, cells := 0, slots := 0, locals := 48 } : Room)).room s m ([.ref (a 4), .long d] : List Value).toArray below meth c s.heap [] 0 0 (MQ below (k2_QcV (.long (lD σ d))) ([.ref (a 4), .long d] : List Value).toArray s 0 0 (fun _ => False)) (F0 m 2 ls []) := by
    intro n_
    induction n_ with
    | zero =>
      intro k g_0 g_1 g_2 ls hl
      exact absurd g_0 (by omega)
    | succ n_ ih =>
      intro k g_0 g_1 g_2 ls hl
      refine lv_iload_n hx hb dX2_leastDraftFor_2 rfl (lv_at hl 2 rfl) ?_
      refine lv_aload_n hx hb dX2_leastDraftFor_3 rfl (lv_at hl 0 rfl) ?_
      refine va_get (D := G) (ci := 2) (v := .int (nI (g_n σ))) (C := RX2) (T := TX2) (N := 2) hx hb hts hX2 hown hK hP (4) wX_e4 rfl 1 (by decide) (hts (.fieldLink RX2 15 "DraftSurvey$Table" "rows" "I") (by decide +kernel)) (fun _ h9 => h9) rfl dX2_leastDraftFor_4 ?_
      refine ic_ge (tgt := 27) hx hb dX2_leastDraftFor_7 (by decide) (fun c_1 => ?_) (fun c_1 => ?_)
      · skip
        have c_1 : ¬ k < (g_n σ) := fun z9 => c_1 ((nI_ltI (a := k) (b := (g_n σ)) (by omega) (by omega)).mpr z9)
        have hst : upf (fun r => g_tb σ (5 * r + 1)) d 0 (g_n σ) = k := by rw [← g_2]; exact upf_end c_1
        refine lv_iload_n hx hb dX2_leastDraftFor_27 rfl (lv_at hl 2 rfl) ?_
        refine lv_aload_n hx hb dX2_leastDraftFor_28 rfl (lv_at hl 0 rfl) ?_
        refine va_get (D := G) (ci := 2) (v := .int (nI (g_n σ))) (C := RX2) (T := TX2) (N := 2) hx hb hts hX2 hown hK hP (4) wX_e4 rfl 1 (by decide) (hts (.fieldLink RX2 15 "DraftSurvey$Table" "rows" "I") (by decide +kernel)) (fun _ h9 => h9) rfl dX2_leastDraftFor_29 ?_
        refine lv_icmp_lt (tgt := 39) hx hb dX2_leastDraftFor_32 (by decide) (fun c_2 => ?_) (fun c_2 => ?_)
        · skip
          have c_2 : k < (g_n σ) := (nI_ltI (a := k) (b := (g_n σ)) (by omega) (by omega)).mp c_2
          exact absurd c_2 c_1
        · skip
          have c_2 : ¬ k < (g_n σ) := fun z9 => c_2 ((nI_ltI (a := k) (b := (g_n σ)) (by omega) (by omega)).mpr z9)
          refine lv_ldc2 (v := (-9000000000000000007)) hx hb hown (hts (.constantLong RX2 36 (-9000000000000000007)) (by decide +kernel)) dX2_leastDraftFor_35 ?_
          exact rd_lret hx hb hr hlocks (congrArg Value.long (by simp only [lD, hst, ldU, c_1, c_2, not_true_eq_false, not_false_eq_true, if_true, if_false, and_true, true_and, and_false, false_and, and_self, or_true, true_or, or_false, false_or, or_self, eq_self])) dX2_leastDraftFor_38
      · skip
        have c_1 : k < (g_n σ) := (nI_ltI (a := k) (b := (g_n σ)) (by omega) (by omega)).mp c_1
        refine lv_aload_n hx hb dX2_leastDraftFor_10 rfl (lv_at hl 0 rfl) ?_
        refine lv_iload_n hx hb dX2_leastDraftFor_11 rfl (lv_at hl 2 rfl) ?_
        refine lv_iconst (v := 1) hx hb dX2_leastDraftFor_12 (by decide) ?_
        refine rd_callV (As := [.int (nI k), .int 1]) (rest := []) ⟨hx, hb, hml, hown, hts⟩ (c_cell l G C a σ κ (r := k) (q := 1) hn (by omega) (by omega)) (cwV 2 hts gX2_leastDraftFor_X2_cell rfl rfl rfl (by decide +kernel) ⟨Nat.le_of_ble_eq_true rfl, Nat.le_of_ble_eq_true rfl⟩) hK hN hP (4) 2 wX_e4 rfl rfl rfl hl.1 rfl (Nat.le_of_ble_eq_true rfl) dX2_leastDraftFor_13 ⟨Nat.zero_le _, Nat.zero_le _⟩ ?_
        refine lv_lload_n hx hb dX2_leastDraftFor_16 rfl (lv_at hl 1 rfl) ?_
        refine lc_ge (tgt := 27) hx hb dX2_leastDraftFor_17 dX2_leastDraftFor_18 (by decide) (fun c_3 => ?_) (fun c_3 => ?_)
        · skip
          have hst : upf (fun r => g_tb σ (5 * r + 1)) d 0 (g_n σ) = k := by rw [← g_2]; exact upf_here c_1 c_3
          refine lv_iload_n hx hb dX2_leastDraftFor_27 rfl (lv_at hl 2 rfl) ?_
          refine lv_aload_n hx hb dX2_leastDraftFor_28 rfl (lv_at hl 0 rfl) ?_
          refine va_get (D := G) (ci := 2) (v := .int (nI (g_n σ))) (C := RX2) (T := TX2) (N := 2) hx hb hts hX2 hown hK hP (4) wX_e4 rfl 1 (by decide) (hts (.fieldLink RX2 15 "DraftSurvey$Table" "rows" "I") (by decide +kernel)) (fun _ h9 => h9) rfl dX2_leastDraftFor_29 ?_
          refine lv_icmp_lt (tgt := 39) hx hb dX2_leastDraftFor_32 (by decide) (fun c_4 => ?_) (fun c_4 => ?_)
          · skip
            have c_4 : k < (g_n σ) := (nI_ltI (a := k) (b := (g_n σ)) (by omega) (by omega)).mp c_4
            refine lv_iload_n hx hb dX2_leastDraftFor_39 rfl (lv_at hl 2 rfl) ?_
            refine ic_if_ne (tgt := 48) hx hb dX2_leastDraftFor_40 (by decide) (fun c_5 => ?_) (fun c_5 => ?_)
            · skip
              have c_5 : ¬ k = 0 := fun z9 => c_5 ((nI_eq (a := k) (b := 0) (by omega) (by omega)).mpr z9)
              refine lv_aload_n hx hb dX2_leastDraftFor_48 rfl (lv_at hl 0 rfl) ?_
              refine lv_iload_n hx hb dX2_leastDraftFor_49 rfl (lv_at hl 2 rfl) ?_
              refine lv_iconst (v := 1) hx hb dX2_leastDraftFor_50 (by decide) ?_
              refine lv_isub hx hb dX2_leastDraftFor_51 ?_
              refine tp_i (v := nI (k - 1)) (pk_sub (a := k) (b := 1) (by omega)) ?_
              refine lv_iconst (v := 0) hx hb dX2_leastDraftFor_52 (by decide) ?_
              refine rd_callV (As := [.int (nI (k - 1)), .int 0]) (rest := []) ⟨hx, hb, hml, hown, hts⟩ (c_cell l G C a σ κ (r := (k - 1)) (q := 0) hn (by omega) (by omega)) (cwV 2 hts gX2_leastDraftFor_X2_cell rfl rfl rfl (by decide +kernel) ⟨Nat.le_of_ble_eq_true rfl, Nat.le_of_ble_eq_true rfl⟩) hK hN hP (4) 2 wX_e4 rfl rfl rfl hl.1 rfl (Nat.le_of_ble_eq_true rfl) dX2_leastDraftFor_53 ⟨Nat.zero_le _, Nat.zero_le _⟩ ?_
              refine lv_lstore (lv' := [(4, .long (g_tb σ (5 * (k - 1) + 0))), (0, .ref (a 4)), (1, .long d), (3, .int (nI k))]) hx hb dX2_leastDraftFor_56 hl (by decide) rfl (fun ls hl => ?_)
              refine lv_aload_n hx hb dX2_leastDraftFor_58 rfl (lv_at hl 1 rfl) ?_
              refine lv_iload_n hx hb dX2_leastDraftFor_59 rfl (lv_at hl 3 rfl) ?_
              refine lv_iconst (v := 1) hx hb dX2_leastDraftFor_60 (by decide) ?_
              refine lv_isub hx hb dX2_leastDraftFor_61 ?_
              refine tp_i (v := nI (k - 1)) (pk_sub (a := k) (b := 1) (by omega)) ?_
              refine lv_iconst (v := 1) hx hb dX2_leastDraftFor_62 (by decide) ?_
              refine rd_callV (As := [.int (nI (k - 1)), .int 1]) (rest := []) ⟨hx, hb, hml, hown, hts⟩ (c_cell l G C a σ κ (r := (k - 1)) (q := 1) hn (by omega) (by omega)) (cwV 2 hts gX2_leastDraftFor_X2_cell rfl rfl rfl (by decide +kernel) ⟨Nat.le_of_ble_eq_true rfl, Nat.le_of_ble_eq_true rfl⟩) hK hN hP (4) 2 wX_e4 rfl rfl rfl hl.1 rfl (Nat.le_of_ble_eq_true rfl) dX2_leastDraftFor_63 ⟨Nat.zero_le _, Nat.zero_le _⟩ ?_
              refine lv_lstore (lv' := [(6, .long (g_tb σ (5 * (k - 1) + 1))), (4, .long (g_tb σ (5 * (k - 1) + 0))), (0, .ref (a 4)), (1, .long d), (3, .int (nI k))]) hx hb dX2_leastDraftFor_66 hl (by decide) rfl (fun ls hl => ?_)
              refine lv_aload_n hx hb dX2_leastDraftFor_68 rfl (lv_at hl 2 rfl) ?_
              refine lv_iload_n hx hb dX2_leastDraftFor_69 rfl (lv_at hl 4 rfl) ?_
              refine lv_iconst (v := 0) hx hb dX2_leastDraftFor_70 (by decide) ?_
              refine rd_callV (As := [.int (nI k), .int 0]) (rest := []) ⟨hx, hb, hml, hown, hts⟩ (c_cell l G C a σ κ (r := k) (q := 0) hn (by omega) (by omega)) (cwV 2 hts gX2_leastDraftFor_X2_cell rfl rfl rfl (by decide +kernel) ⟨Nat.le_of_ble_eq_true rfl, Nat.le_of_ble_eq_true rfl⟩) hK hN hP (4) 2 wX_e4 rfl rfl rfl hl.1 rfl (Nat.le_of_ble_eq_true rfl) dX2_leastDraftFor_71 ⟨Nat.zero_le _, Nat.zero_le _⟩ ?_
              refine lv_lload hx hb dX2_leastDraftFor_74 (lv_at hl 1 rfl) ?_
              refine lv_lsub hx hb dX2_leastDraftFor_76 ?_
              refine lv_lstore (lv' := [(8, .long ((g_tb σ (5 * k + 0)) - (g_tb σ (5 * (k - 1) + 0)))), (6, .long (g_tb σ (5 * (k - 1) + 1))), (4, .long (g_tb σ (5 * (k - 1) + 0))), (0, .ref (a 4)), (1, .long d), (3, .int (nI k))]) hx hb dX2_leastDraftFor_77 hl (by decide) rfl (fun ls hl => ?_)
              refine lv_aload_n hx hb dX2_leastDraftFor_79 rfl (lv_at hl 3 rfl) ?_
              refine lv_iload_n hx hb dX2_leastDraftFor_80 rfl (lv_at hl 5 rfl) ?_
              refine lv_iconst (v := 1) hx hb dX2_leastDraftFor_81 (by decide) ?_
              refine rd_callV (As := [.int (nI k), .int 1]) (rest := []) ⟨hx, hb, hml, hown, hts⟩ (c_cell l G C a σ κ (r := k) (q := 1) hn (by omega) (by omega)) (cwV 2 hts gX2_leastDraftFor_X2_cell rfl rfl rfl (by decide +kernel) ⟨Nat.le_of_ble_eq_true rfl, Nat.le_of_ble_eq_true rfl⟩) hK hN hP (4) 2 wX_e4 rfl rfl rfl hl.1 rfl (Nat.le_of_ble_eq_true rfl) dX2_leastDraftFor_82 ⟨Nat.zero_le _, Nat.zero_le _⟩ ?_
              refine lv_lload hx hb dX2_leastDraftFor_85 (lv_at hl 1 rfl) ?_
              refine lv_lsub hx hb dX2_leastDraftFor_87 ?_
              refine lv_lstore (lv' := [(10, .long ((g_tb σ (5 * k + 1)) - (g_tb σ (5 * (k - 1) + 1)))), (8, .long ((g_tb σ (5 * k + 0)) - (g_tb σ (5 * (k - 1) + 0)))), (6, .long (g_tb σ (5 * (k - 1) + 1))), (4, .long (g_tb σ (5 * (k - 1) + 0))), (0, .ref (a 4)), (1, .long d), (3, .int (nI k))]) hx hb dX2_leastDraftFor_88 hl (by decide) rfl (fun ls hl => ?_)
              refine lv_lload_n hx hb dX2_leastDraftFor_90 rfl (lv_at hl 5 rfl) ?_
              refine lv_lload hx hb dX2_leastDraftFor_91 (lv_at hl 2 rfl) ?_
              refine lv_lsub hx hb dX2_leastDraftFor_93 ?_
              refine lv_lstore (lv' := [(12, .long (d - (g_tb σ (5 * (k - 1) + 1)))), (10, .long ((g_tb σ (5 * k + 1)) - (g_tb σ (5 * (k - 1) + 1)))), (8, .long ((g_tb σ (5 * k + 0)) - (g_tb σ (5 * (k - 1) + 0)))), (6, .long (g_tb σ (5 * (k - 1) + 1))), (4, .long (g_tb σ (5 * (k - 1) + 0))), (0, .ref (a 4)), (1, .long d), (3, .int (nI k))]) hx hb dX2_leastDraftFor_94 hl (by decide) rfl (fun ls hl => ?_)
              refine lv_lload hx hb dX2_leastDraftFor_96 (lv_at hl 4 rfl) ?_
              refine lv_lload hx hb dX2_leastDraftFor_98 (lv_at hl 0 rfl) ?_
              refine lv_lneg hx hb dX2_leastDraftFor_100 ?_
              refine lv_lload hx hb dX2_leastDraftFor_101 (lv_at hl 2 rfl) ?_
              refine lv_lmul hx hb dX2_leastDraftFor_103 ?_
              refine lv_lload hx hb dX2_leastDraftFor_104 (lv_at hl 1 rfl) ?_
              refine rd_callSN (As := [.long ((-(d - (g_tb σ (5 * (k - 1) + 1)))) * ((g_tb σ (5 * k + 0)) - (g_tb σ (5 * (k - 1) + 0)))), .long ((g_tb σ (5 * k + 1)) - (g_tb σ (5 * (k - 1) + 1)))]) (rest := [.long (g_tb σ (5 * (k - 1) + 0))]) ⟨hx, hb, hml, hown, hts⟩ (c_quot l G C a σ κ ((-(d - (g_tb σ (5 * (k - 1) + 1)))) * ((g_tb σ (5 * k + 0)) - (g_tb σ (5 * (k - 1) + 0)))) ((g_tb σ (5 * k + 1)) - (g_tb σ (5 * (k - 1) + 1)))) ⟨va_cnB 2 hts gX2_leastDraftFor_X3_quotient_n44 rfl rfl rfl hN.2.2.2.2.2 (hts (.initialized RX3) (by decide +kernel)) (by decide +kernel) ⟨Nat.le_of_ble_eq_true rfl, Nat.le_of_ble_eq_true rfl⟩, hts (.static yX3_quotient) (by decide +kernel), trivial⟩ hK hN hP rfl hl.1 rfl (Nat.le_of_ble_eq_true rfl) dX2_leastDraftFor_106 ⟨Nat.zero_le _, Nat.zero_le _⟩ ?_
              refine lv_lsub hx hb dX2_leastDraftFor_109 ?_
              exact rd_lret hx hb hr hlocks (congrArg Value.long (by simp only [lD, hst, ldU, c_1, c_3, c_4, c_5, not_true_eq_false, not_false_eq_true, if_true, if_false, and_true, true_and, and_false, false_and, and_self, or_true, true_or, or_false, false_or, or_self, eq_self])) dX2_leastDraftFor_110
            · skip
              have c_5 : k = 0 := (nI_eq (a := k) (b := 0) (by omega) (by omega)).mp c_5
              refine lv_aload_n hx hb dX2_leastDraftFor_43 rfl (lv_at hl 0 rfl) ?_
              refine rd_callV (As := []) (rest := []) ⟨hx, hb, hml, hown, hts⟩ (c_first l G C a σ κ hn (by omega)) (cwV 0 hts gX2_leastDraftFor_X2_firstDraft rfl rfl rfl (by decide +kernel) ⟨Nat.le_of_ble_eq_true rfl, Nat.le_of_ble_eq_true rfl⟩) hK hN hP (4) 2 wX_e4 rfl rfl rfl hl.1 rfl (Nat.le_of_ble_eq_true rfl) dX2_leastDraftFor_44 ⟨Nat.zero_le _, Nat.zero_le _⟩ ?_
              exact rd_lret hx hb hr hlocks (congrArg Value.long (by simp only [lD, hst, ldU, c_1, c_3, c_4, eq_true c_5, not_true_eq_false, not_false_eq_true, if_true, if_false, and_true, true_and, and_false, false_and, and_self, or_true, true_or, or_false, false_or, or_self, eq_self])) dX2_leastDraftFor_47
          · skip
            have c_4 : ¬ k < (g_n σ) := fun z9 => c_4 ((nI_ltI (a := k) (b := (g_n σ)) (by omega) (by omega)).mpr z9)
            exact absurd c_1 c_4
        · skip
          refine lv_iinc (v := nI (k + 1)) (lv' := [(3, .int (nI (k + 1))), (0, .ref (a 4)), (1, .long d)]) hx hb dX2_leastDraftFor_21 hl (k := 2) rfl (nI_add k 1) (by decide) rfl (fun ls hl => ?_)
          refine lv_goto (tgt := 2) hx hb dX2_leastDraftFor_24 (by decide) ?_
          exact ih (k + 1) (by omega) (by omega) (by rw [← g_2]; exact (upf_lt c_1 c_3).symm) ls (lv_sub hl [1, 2, 0] rfl)
  exact key2 (g_n σ + 1) 0 (by omega) (Nat.zero_le _) rfl ls (lv_sub hl [1, 2, 0] rfl)
