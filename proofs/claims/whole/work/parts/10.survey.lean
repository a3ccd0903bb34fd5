set_option maxHeartbeats 4000000 in
set_option maxRecDepth 100000 in
theorem c_fdiv (l : Launch) (G : va_G) (C : Nat → ClassId) (a : Nat → Nat) (σ : SG) (κ : KX) (x y : Int64) (hy : ¬ y = 0) : RdC l yJ9_floorDiv_f86c9 wsJ9_floorDiv_f86c9 ({ frames := 0, cells := 0, slots := 0, locals := 0 } : Room) G (tysC C) (wX C a σ κ) [.long x, .long y] (.long (fd x y)) := by
  refine mt_F (cc := cJ9_floorDiv_f86c9) (maxL := 6) (ret := (some .long)) (by decide +kernel) rfl ?_
  intro p e s m args below meth c s₁ B hml hv
  obtain ⟨rfl, hP, hK, hN⟩ := hv
  have hx := B.exec
  have hb := B.bytes
  have hr := B.returns
  have hts := atoms_spec (ws := wsJ9_floorDiv_f86c9) B.pre
  have hown : s.vm.findClass RJ9 = some m.cls := findClass_of_methodNamed B.named
  have hlocks := B.notSynchronized
  have hP : va_P G vwCl (wX C a σ κ) s.heap := hP
  have hl := lv_entry ([.long x, .long y]) (n := 6) (Nat.le_of_ble_eq_true rfl)
  rw [lg_entry_eq]
  generalize (lg_sl ([.long x, .long y]) ++ List.replicate (6 - (lg_sl ([.long x, .long y])).length) Slot.unset).toArray = ls at hl ⊢
  have hl : lv_has ls 6 [(0, .long x), (2, .long y)] := hl
  refine lv_lload_n hx hb dJ9_floorDiv_f86c9_0 rfl (lv_at hl 0 rfl) ?_
  refine lv_lload_n hx hb dJ9_floorDiv_f86c9_1 rfl (lv_at hl 1 rfl) ?_
  refine lv_ldiv hx hb dJ9_floorDiv_f86c9_2 hy ?_
  refine lv_lstore (lv' := [(4, .long (x / y)), (0, .long x), (2, .long y)]) hx hb dJ9_floorDiv_f86c9_3 hl (by decide) rfl (fun ls hl => ?_)
  refine lv_lload_n hx hb dJ9_floorDiv_f86c9_5 rfl (lv_at hl 1 rfl) ?_
  refine lv_lload_n hx hb dJ9_floorDiv_f86c9_6 rfl (lv_at hl 2 rfl) ?_
  refine lv_lxor hx hb dJ9_floorDiv_f86c9_7 ?_
  refine lv_lconst (v := 0) hx hb dJ9_floorDiv_f86c9_8 (by decide) ?_
  refine lc_ge (tgt := 27) hx hb dJ9_floorDiv_f86c9_9 dJ9_floorDiv_f86c9_10 (by decide) (fun c_1 => ?_) (fun c_1 => ?_)
  · skip
    refine lv_lload hx hb dJ9_floorDiv_f86c9_27 (lv_at hl 0 rfl) ?_
    exact rd_lret hx hb hr hlocks (congrArg Value.long (by simp only [fd, c_1, not_true_eq_false, not_false_eq_true, if_true, if_false, and_true, true_and, and_false, false_and, and_self, or_true, true_or, or_false, false_or, or_self, eq_self])) dJ9_floorDiv_f86c9_29
  · skip
    refine lv_lload hx hb dJ9_floorDiv_f86c9_13 (lv_at hl 0 rfl) ?_
    refine lv_lload_n hx hb dJ9_floorDiv_f86c9_15 rfl (lv_at hl 2 rfl) ?_
    refine lv_lmul hx hb dJ9_floorDiv_f86c9_16 ?_
    refine lv_lload_n hx hb dJ9_floorDiv_f86c9_17 rfl (lv_at hl 1 rfl) ?_
    refine lc_eq (tgt := 27) hx hb dJ9_floorDiv_f86c9_18 dJ9_floorDiv_f86c9_19 (by decide) (fun c_2 => ?_) (fun c_2 => ?_)
    · skip
      refine lv_lload hx hb dJ9_floorDiv_f86c9_27 (lv_at hl 0 rfl) ?_
      exact rd_lret hx hb hr hlocks (congrArg Value.long (by simp only [fd, c_1, eq_true c_2, not_true_eq_false, not_false_eq_true, if_true, if_false, and_true, true_and, and_false, false_and, and_self, or_true, true_or, or_false, false_or, or_self, eq_self])) dJ9_floorDiv_f86c9_29
    · skip
      refine lv_lload hx hb dJ9_floorDiv_f86c9_22 (lv_at hl 0 rfl) ?_
      refine lv_lconst (v := 1) hx hb dJ9_floorDiv_f86c9_24 (by decide) ?_
      refine lv_lsub hx hb dJ9_floorDiv_f86c9_25 ?_
      exact rd_lret hx hb hr hlocks (congrArg Value.long (by simp only [fd, c_1, c_2, not_true_eq_false, not_false_eq_true, if_true, if_false, and_true, true_and, and_false, false_and, and_self, or_true, true_or, or_false, false_or, or_self, eq_self])) dJ9_floorDiv_f86c9_26

set_option maxHeartbeats 4000000 in
set_option maxRecDepth 100000 in
theorem c_forward (l : Launch) (G : va_G) (C : Nat → ClassId) (a : Nat → Nat) (σ : SG) (κ : KX) {j : Nat} (hj : j < 4) : RdC l yX1_forwardDraft wsX1_forwardDraft ({ frames := 1, cells := 0, slots := 0, locals := 25 } : Room) G (tysC C) (wX C a σ κ) [.ref (a (7 + 3 * j))] (.long (fF σ j)) := by
  refine Met.ofW (cc := cX1_forwardDraft) (maxL := 1) (ret := (some .long)) (by decide) rfl ?_
  intro p e s m args below meth c s₁ B hml hv
  obtain ⟨rfl, hP, hK, hN⟩ := hv
  have hx := B.exec
  have hb := B.bytes
  have hr := B.returns
  have hts := atoms_spec (ws := wsX1_forwardDraft) B.pre
  have hown : s.vm.findClass RX1 = some m.cls := findClass_of_methodNamed B.named
  have hlocks := B.notSynchronized
  have hX1 : ∀ w ∈ wsX10, w ∈ wsX1_forwardDraft := by decide +kernel
  have hP : va_P G vwCl (wX C a σ κ) s.heap := hP
  have hl := lv_entry ([.ref (a (7 + 3 * j))]) (n := 1) (Nat.le_of_ble_eq_true rfl)
  rw [lg_entry_eq]
  generalize (lg_sl ([.ref (a (7 + 3 * j))]) ++ List.replicate (1 - (lg_sl ([.ref (a (7 + 3 * j))])).length) Slot.unset).toArray = ls at hl ⊢
  have hl : lv_has ls 1 [(0, .ref (a (7 + 3 * j)))] := hl
  refine lv_aload_n hx hb dX1_forwardDraft_0 rfl (lv_at hl 0 rfl) ?_
  refine va_get (D := G) (ci := 1) (v := .ref (a (8 + 3 * j))) (C := RX1) (T := TX1) (N := 3) hx hb hts hX1 hown hK hP (7 + 3 * j) (wX_sv hj) rfl 0 (by decide) (hts (.fieldLink RX1 9 "DraftSurvey$Survey" "readings" "[J") (by decide +kernel)) (fun _ h9 => h9) rfl dX1_forwardDraft_1 ?_
  refine lv_iconst (v := 0) hx hb dX1_forwardDraft_4 (by decide) ?_
  refine ar_l (k := 0) (v := g_rd σ (6 * j + 0)) hx hb hK hP (8 + 3 * j) 1 (wX_rd hj) rfl rfl (by decide) (by decide) (slc_at (by decide)) dX1_forwardDraft_5 ?_
  refine lv_aload_n hx hb dX1_forwardDraft_6 rfl (lv_at hl 0 rfl) ?_
  refine va_get (D := G) (ci := 1) (v := .ref (a (8 + 3 * j))) (C := RX1) (T := TX1) (N := 3) hx hb hts hX1 hown hK hP (7 + 3 * j) (wX_sv hj) rfl 0 (by decide) (hts (.fieldLink RX1 9 "DraftSurvey$Survey" "readings" "[J") (by decide +kernel)) (fun _ h9 => h9) rfl dX1_forwardDraft_7 ?_
  refine lv_iconst (v := 1) hx hb dX1_forwardDraft_10 (by decide) ?_
  refine ar_l (k := 1) (v := g_rd σ (6 * j + 1)) hx hb hK hP (8 + 3 * j) 1 (wX_rd hj) rfl rfl (by decide) (by decide) (slc_at (by decide)) dX1_forwardDraft_11 ?_
  refine lv_ladd hx hb dX1_forwardDraft_12 ?_
  refine lv_ldc2 (v := 2) hx hb hown (hts (.constantLong RX1 24 (2)) (by decide +kernel)) dX1_forwardDraft_13 ?_
  refine rd_callS (As := [.long ((g_rd σ (6 * j + 0)) + (g_rd σ (6 * j + 1))), .long 2]) (rest := []) ⟨hx, hb, hml, hown, hts⟩ (c_fdiv l G C a σ κ ((g_rd σ (6 * j + 0)) + (g_rd σ (6 * j + 1))) 2 (by decide)) (va_cwS 2 hts gX1_forwardDraft_J9_floorDiv_f86c9 rfl rfl rfl (by decide +kernel) ⟨Nat.le_of_ble_eq_true rfl, Nat.le_of_ble_eq_true rfl⟩) hK hN hP rfl hl.1 rfl (Nat.le_of_ble_eq_true rfl) dX1_forwardDraft_16 ⟨Nat.zero_le _, Nat.zero_le _⟩ ?_
  exact rd_lret hx hb hr hlocks (rfl) dX1_forwardDraft_19

set_option maxHeartbeats 4000000 in
set_option maxRecDepth 100000 in
theorem c_midship (l : Launch) (G : va_G) (C : Nat → ClassId) (a : Nat → Nat) (σ : SG) (κ : KX) {j : Nat} (hj : j < 4) : RdC l yX1_midshipDraft wsX1_midshipDraft ({ frames := 1, cells := 0, slots := 0, locals := 25 } : Room) G (tysC C) (wX C a σ κ) [.ref (a (7 + 3 * j))] (.long (fM σ j)) := by
  refine Met.ofW (cc := cX1_midshipDraft) (maxL := 1) (ret := (some .long)) (by decide) rfl ?_
  intro p e s m args below meth c s₁ B hml hv
  obtain ⟨rfl, hP, hK, hN⟩ := hv
  have hx := B.exec
  have hb := B.bytes
  have hr := B.returns
  have hts := atoms_spec (ws := wsX1_midshipDraft) B.pre
  have hown : s.vm.findClass RX1 = some m.cls := findClass_of_methodNamed B.named
  have hlocks := B.notSynchronized
  have hX1 : ∀ w ∈ wsX10, w ∈ wsX1_midshipDraft := by decide +kernel
  have hP : va_P G vwCl (wX C a σ κ) s.heap := hP
  have hl := lv_entry ([.ref (a (7 + 3 * j))]) (n := 1) (Nat.le_of_ble_eq_true rfl)
  rw [lg_entry_eq]
  generalize (lg_sl ([.ref (a (7 + 3 * j))]) ++ List.replicate (1 - (lg_sl ([.ref (a (7 + 3 * j))])).length) Slot.unset).toArray = ls at hl ⊢
  have hl : lv_has ls 1 [(0, .ref (a (7 + 3 * j)))] := hl
  refine lv_aload_n hx hb dX1_midshipDraft_0 rfl (lv_at hl 0 rfl) ?_
  refine va_get (D := G) (ci := 1) (v := .ref (a (8 + 3 * j))) (C := RX1) (T := TX1) (N := 3) hx hb hts hX1 hown hK hP (7 + 3 * j) (wX_sv hj) rfl 0 (by decide) (hts (.fieldLink RX1 9 "DraftSurvey$Survey" "readings" "[J") (by decide +kernel)) (fun _ h9 => h9) rfl dX1_midshipDraft_1 ?_
  refine lv_iconst (v := 2) hx hb dX1_midshipDraft_4 (by decide) ?_
  refine ar_l (k := 2) (v := g_rd σ (6 * j + 2)) hx hb hK hP (8 + 3 * j) 1 (wX_rd hj) rfl rfl (by decide) (by decide) (slc_at (by decide)) dX1_midshipDraft_5 ?_
  refine lv_aload_n hx hb dX1_midshipDraft_6 rfl (lv_at hl 0 rfl) ?_
  refine va_get (D := G) (ci := 1) (v := .ref (a (8 + 3 * j))) (C := RX1) (T := TX1) (N := 3) hx hb hts hX1 hown hK hP (7 + 3 * j) (wX_sv hj) rfl 0 (by decide) (hts (.fieldLink RX1 9 "DraftSurvey$Survey" "readings" "[J") (by decide +kernel)) (fun _ h9 => h9) rfl dX1_midshipDraft_7 ?_
  refine lv_iconst (v := 3) hx hb dX1_midshipDraft_10 (by decide) ?_
  refine ar_l (k := 3) (v := g_rd σ (6 * j + 3)) hx hb hK hP (8 + 3 * j) 1 (wX_rd hj) rfl rfl (by decide) (by decide) (slc_at (by decide)) dX1_midshipDraft_11 ?_
  refine lv_ladd hx hb dX1_midshipDraft_12 ?_
  refine lv_ldc2 (v := 2) hx hb hown (hts (.constantLong RX1 24 (2)) (by decide +kernel)) dX1_midshipDraft_13 ?_
  refine rd_callS (As := [.long ((g_rd σ (6 * j + 2)) + (g_rd σ (6 * j + 3))), .long 2]) (rest := []) ⟨hx, hb, hml, hown, hts⟩ (c_fdiv l G C a σ κ ((g_rd σ (6 * j + 2)) + (g_rd σ (6 * j + 3))) 2 (by decide)) (va_cwS 2 hts gX1_midshipDraft_J9_floorDiv_f86c9 rfl rfl rfl (by decide +kernel) ⟨Nat.le_of_ble_eq_true rfl, Nat.le_of_ble_eq_true rfl⟩) hK hN hP rfl hl.1 rfl (Nat.le_of_ble_eq_true rfl) dX1_midshipDraft_16 ⟨Nat.zero_le _, Nat.zero_le _⟩ ?_
  exact rd_lret hx hb hr hlocks (rfl) dX1_midshipDraft_19

set_option maxHeartbeats 4000000 in
set_option maxRecDepth 100000 in
theorem c_aft (l : Launch) (G : va_G) (C : Nat → ClassId) (a : Nat → Nat) (σ : SG) (κ : KX) {j : Nat} (hj : j < 4) : RdC l yX1_aftDraft wsX1_aftDraft ({ frames := 1, cells := 0, slots := 0, locals := 25 } : Room) G (tysC C) (wX C a σ κ) [.ref (a (7 + 3 * j))] (.long (fA σ j)) := by
  refine Met.ofW (cc := cX1_aftDraft) (maxL := 1) (ret := (some .long)) (by decide) rfl ?_
  intro p e s m args below meth c s₁ B hml hv
  obtain ⟨rfl, hP, hK, hN⟩ := hv
  have hx := B.exec
  have hb := B.bytes
  have hr := B.returns
  have hts := atoms_spec (ws := wsX1_aftDraft) B.pre
  have hown : s.vm.findClass RX1 = some m.cls := findClass_of_methodNamed B.named
  have hlocks := B.notSynchronized
  have hX1 : ∀ w ∈ wsX10, w ∈ wsX1_aftDraft := by decide +kernel
  have hP : va_P G vwCl (wX C a σ κ) s.heap := hP
  have hl := lv_entry ([.ref (a (7 + 3 * j))]) (n := 1) (Nat.le_of_ble_eq_true rfl)
  rw [lg_entry_eq]
  generalize (lg_sl ([.ref (a (7 + 3 * j))]) ++ List.replicate (1 - (lg_sl ([.ref (a (7 + 3 * j))])).length) Slot.unset).toArray = ls at hl ⊢
  have hl : lv_has ls 1 [(0, .ref (a (7 + 3 * j)))] := hl
  refine lv_aload_n hx hb dX1_aftDraft_0 rfl (lv_at hl 0 rfl) ?_
  refine va_get (D := G) (ci := 1) (v := .ref (a (8 + 3 * j))) (C := RX1) (T := TX1) (N := 3) hx hb hts hX1 hown hK hP (7 + 3 * j) (wX_sv hj) rfl 0 (by decide) (hts (.fieldLink RX1 9 "DraftSurvey$Survey" "readings" "[J") (by decide +kernel)) (fun _ h9 => h9) rfl dX1_aftDraft_1 ?_
  refine lv_iconst (v := 4) hx hb dX1_aftDraft_4 (by decide) ?_
  refine ar_l (k := 4) (v := g_rd σ (6 * j + 4)) hx hb hK hP (8 + 3 * j) 1 (wX_rd hj) rfl rfl (by decide) (by decide) (slc_at (by decide)) dX1_aftDraft_5 ?_
  refine lv_aload_n hx hb dX1_aftDraft_6 rfl (lv_at hl 0 rfl) ?_
  refine va_get (D := G) (ci := 1) (v := .ref (a (8 + 3 * j))) (C := RX1) (T := TX1) (N := 3) hx hb hts hX1 hown hK hP (7 + 3 * j) (wX_sv hj) rfl 0 (by decide) (hts (.fieldLink RX1 9 "DraftSurvey$Survey" "readings" "[J") (by decide +kernel)) (fun _ h9 => h9) rfl dX1_aftDraft_7 ?_
  refine lv_iconst (v := 5) hx hb dX1_aftDraft_10 (by decide) ?_
  refine ar_l (k := 5) (v := g_rd σ (6 * j + 5)) hx hb hK hP (8 + 3 * j) 1 (wX_rd hj) rfl rfl (by decide) (by decide) (slc_at (by decide)) dX1_aftDraft_11 ?_
  refine lv_ladd hx hb dX1_aftDraft_12 ?_
  refine lv_ldc2 (v := 2) hx hb hown (hts (.constantLong RX1 24 (2)) (by decide +kernel)) dX1_aftDraft_13 ?_
  refine rd_callS (As := [.long ((g_rd σ (6 * j + 4)) + (g_rd σ (6 * j + 5))), .long 2]) (rest := []) ⟨hx, hb, hml, hown, hts⟩ (c_fdiv l G C a σ κ ((g_rd σ (6 * j + 4)) + (g_rd σ (6 * j + 5))) 2 (by decide)) (va_cwS 2 hts gX1_aftDraft_J9_floorDiv_f86c9 rfl rfl rfl (by decide +kernel) ⟨Nat.le_of_ble_eq_true rfl, Nat.le_of_ble_eq_true rfl⟩) hK hN hP rfl hl.1 rfl (Nat.le_of_ble_eq_true rfl) dX1_aftDraft_16 ⟨Nat.zero_le _, Nat.zero_le _⟩ ?_
  exact rd_lret hx hb hr hlocks (rfl) dX1_aftDraft_19

set_option maxHeartbeats 4000000 in
set_option maxRecDepth 100000 in
theorem c_trim1 (l : Launch) (G : va_G) (C : Nat → ClassId) (a : Nat → Nat) (σ : SG) (κ : KX) {j : Nat} (hj : j < 4) : RdC l yX1_sternTrim wsX1_sternTrim ({ frames := 2, cells := 0, slots := 0, locals := 45 } : Room) G (tysC C) (wX C a σ κ) [.ref (a (7 + 3 * j))] (.long (tr σ j)) := by
  refine Met.ofW (cc := cX1_sternTrim) (maxL := 1) (ret := (some .long)) (by decide) rfl ?_
  intro p e s m args below meth c s₁ B hml hv
  obtain ⟨rfl, hP, hK, hN⟩ := hv
  have hx := B.exec
  have hb := B.bytes
  have hr := B.returns
  have hts := atoms_spec (ws := wsX1_sternTrim) B.pre
  have hown : s.vm.findClass RX1 = some m.cls := findClass_of_methodNamed B.named
  have hlocks := B.notSynchronized
  have hP : va_P G vwCl (wX C a σ κ) s.heap := hP
  have hl := lv_entry ([.ref (a (7 + 3 * j))]) (n := 1) (Nat.le_of_ble_eq_true rfl)
  rw [lg_entry_eq]
  generalize (lg_sl ([.ref (a (7 + 3 * j))]) ++ List.replicate (1 - (lg_sl ([.ref (a (7 + 3 * j))])).length) Slot.unset).toArray = ls at hl ⊢
  have hl : lv_has ls 1 [(0, .ref (a (7 + 3 * j)))] := hl
  refine lv_aload_n hx hb dX1_sternTrim_0 rfl (lv_at hl 0 rfl) ?_
  refine rd_callV (As := []) (rest := []) ⟨hx, hb, hml, hown, hts⟩ (c_aft l G C a σ κ hj) (cwV 0 hts gX1_sternTrim_X1_aftDraft rfl rfl rfl (by decide +kernel) ⟨Nat.le_of_ble_eq_true rfl, Nat.le_of_ble_eq_true rfl⟩) hK hN hP (7 + 3 * j) 1 (wX_sv hj) rfl rfl rfl hl.1 rfl (Nat.le_of_ble_eq_true rfl) dX1_sternTrim_1 ⟨Nat.zero_le _, Nat.zero_le _⟩ ?_
  refine lv_aload_n hx hb dX1_sternTrim_4 rfl (lv_at hl 0 rfl) ?_
  refine rd_callV (As := []) (rest := [.long (fA σ j)]) ⟨hx, hb, hml, hown, hts⟩ (c_forward l G C a σ κ hj) (cwV 0 hts gX1_sternTrim_X1_forwardDraft rfl rfl rfl (by decide +kernel) ⟨Nat.le_of_ble_eq_true rfl, Nat.le_of_ble_eq_true rfl⟩) hK hN hP (7 + 3 * j) 1 (wX_sv hj) rfl rfl rfl hl.1 rfl (Nat.le_of_ble_eq_true rfl) dX1_sternTrim_5 ⟨Nat.zero_le _, Nat.zero_le _⟩ ?_
  refine lv_lsub hx hb dX1_sternTrim_8 ?_
  exact rd_lret hx hb hr hlocks (rfl) dX1_sternTrim_9

set_option maxHeartbeats 4000000 in
set_option maxRecDepth 100000 in
theorem c_defl1 (l : Launch) (G : va_G) (C : Nat → ClassId) (a : Nat → Nat) (σ : SG) (κ : KX) {j : Nat} (hj : j < 4) : RdC l yX1_hullDeflection wsX1_hullDeflection ({ frames := 2, cells := 0, slots := 0, locals := 45 } : Room) G (tysC C) (wX C a σ κ) [.ref (a (7 + 3 * j))] (.long (df σ j)) := by
  refine Met.ofW (cc := cX1_hullDeflection) (maxL := 1) (ret := (some .long)) (by decide) rfl ?_
  intro p e s m args below meth c s₁ B hml hv
  obtain ⟨rfl, hP, hK, hN⟩ := hv
  have hx := B.exec
  have hb := B.bytes
  have hr := B.returns
  have hts := atoms_spec (ws := wsX1_hullDeflection) B.pre
  have hown : s.vm.findClass RX1 = some m.cls := findClass_of_methodNamed B.named
  have hlocks := B.notSynchronized
  have hP : va_P G vwCl (wX C a σ κ) s.heap := hP
  have hl := lv_entry ([.ref (a (7 + 3 * j))]) (n := 1) (Nat.le_of_ble_eq_true rfl)
  rw [lg_entry_eq]
  generalize (lg_sl ([.ref (a (7 + 3 * j))]) ++ List.replicate (1 - (lg_sl ([.ref (a (7 + 3 * j))])).length) Slot.unset).toArray = ls at hl ⊢
  have hl : lv_has ls 1 [(0, .ref (a (7 + 3 * j)))] := hl
  refine lv_aload_n hx hb dX1_hullDeflection_0 rfl (lv_at hl 0 rfl) ?_
  refine rd_callV (As := []) (rest := []) ⟨hx, hb, hml, hown, hts⟩ (c_midship l G C a σ κ hj) (cwV 0 hts gX1_hullDeflection_X1_midshipDraft rfl rfl rfl (by decide +kernel) ⟨Nat.le_of_ble_eq_true rfl, Nat.le_of_ble_eq_true rfl⟩) hK hN hP (7 + 3 * j) 1 (wX_sv hj) rfl rfl rfl hl.1 rfl (Nat.le_of_ble_eq_true rfl) dX1_hullDeflection_1 ⟨Nat.zero_le _, Nat.zero_le _⟩ ?_
  refine lv_aload_n hx hb dX1_hullDeflection_4 rfl (lv_at hl 0 rfl) ?_
  refine rd_callV (As := []) (rest := [.long (fM σ j)]) ⟨hx, hb, hml, hown, hts⟩ (c_forward l G C a σ κ hj) (cwV 0 hts gX1_hullDeflection_X1_forwardDraft rfl rfl rfl (by decide +kernel) ⟨Nat.le_of_ble_eq_true rfl, Nat.le_of_ble_eq_true rfl⟩) hK hN hP (7 + 3 * j) 1 (wX_sv hj) rfl rfl rfl hl.1 rfl (Nat.le_of_ble_eq_true rfl) dX1_hullDeflection_5 ⟨Nat.zero_le _, Nat.zero_le _⟩ ?_
  refine lv_aload_n hx hb dX1_hullDeflection_8 rfl (lv_at hl 0 rfl) ?_
  refine rd_callV (As := []) (rest := [.long (fF σ j), .long (fM σ j)]) ⟨hx, hb, hml, hown, hts⟩ (c_aft l G C a σ κ hj) (cwV 0 hts gX1_hullDeflection_X1_aftDraft rfl rfl rfl (by decide +kernel) ⟨Nat.le_of_ble_eq_true rfl, Nat.le_of_ble_eq_true rfl⟩) hK hN hP (7 + 3 * j) 1 (wX_sv hj) rfl rfl rfl hl.1 rfl (Nat.le_of_ble_eq_true rfl) dX1_hullDeflection_9 ⟨Nat.zero_le _, Nat.zero_le _⟩ ?_
  refine lv_ladd hx hb dX1_hullDeflection_12 ?_
  refine lv_ldc2 (v := 2) hx hb hown (hts (.constantLong RX1 24 (2)) (by decide +kernel)) dX1_hullDeflection_13 ?_
  refine rd_callS (As := [.long ((fF σ j) + (fA σ j)), .long 2]) (rest := [.long (fM σ j)]) ⟨hx, hb, hml, hown, hts⟩ (c_fdiv l G C a σ κ ((fF σ j) + (fA σ j)) 2 (by decide)) (va_cwS 2 hts gX1_hullDeflection_J9_floorDiv_f86c9 rfl rfl rfl (by decide +kernel) ⟨Nat.le_of_ble_eq_true rfl, Nat.le_of_ble_eq_true rfl⟩) hK hN hP rfl hl.1 rfl (Nat.le_of_ble_eq_true rfl) dX1_hullDeflection_16 ⟨Nat.zero_le _, Nat.zero_le _⟩ ?_
  refine lv_lsub hx hb dX1_hullDeflection_19 ?_
  exact rd_lret hx hb hr hlocks (rfl) dX1_hullDeflection_20

set_option maxHeartbeats 4000000 in
set_option maxRecDepth 100000 in
theorem c_heel1 (l : Launch) (G : va_G) (C : Nat → ClassId) (a : Nat → Nat) (σ : SG) (κ : KX) {j : Nat} (hj : j < 4) : RdC l yX1_starboardHeel wsX1_starboardHeel ({ frames := 0, cells := 0, slots := 0, locals := 0 } : Room) G (tysC C) (wX C a σ κ) [.ref (a (7 + 3 * j))] (.long (hl_ σ j)) := by
  refine Met.ofW (cc := cX1_starboardHeel) (maxL := 1) (ret := (some .long)) (by decide) rfl ?_
  intro p e s m args below meth c s₁ B hml hv
  obtain ⟨rfl, hP, hK, hN⟩ := hv
  have hx := B.exec
  have hb := B.bytes
  have hr := B.returns
  have hts := atoms_spec (ws := wsX1_starboardHeel) B.pre
  have hown : s.vm.findClass RX1 = some m.cls := findClass_of_methodNamed B.named
  have hlocks := B.notSynchronized
  have hX1 : ∀ w ∈ wsX10, w ∈ wsX1_starboardHeel := by decide +kernel
  have hP : va_P G vwCl (wX C a σ κ) s.heap := hP
  have hl := lv_entry ([.ref (a (7 + 3 * j))]) (n := 1) (Nat.le_of_ble_eq_true rfl)
  rw [lg_entry_eq]
  generalize (lg_sl ([.ref (a (7 + 3 * j))]) ++ List.replicate (1 - (lg_sl ([.ref (a (7 + 3 * j))])).length) Slot.unset).toArray = ls at hl ⊢
  have hl : lv_has ls 1 [(0, .ref (a (7 + 3 * j)))] := hl
  refine lv_aload_n hx hb dX1_starboardHeel_0 rfl (lv_at hl 0 rfl) ?_
  refine va_get (D := G) (ci := 1) (v := .ref (a (8 + 3 * j))) (C := RX1) (T := TX1) (N := 3) hx hb hts hX1 hown hK hP (7 + 3 * j) (wX_sv hj) rfl 0 (by decide) (hts (.fieldLink RX1 9 "DraftSurvey$Survey" "readings" "[J") (by decide +kernel)) (fun _ h9 => h9) rfl dX1_starboardHeel_1 ?_
  refine lv_iconst (v := 3) hx hb dX1_starboardHeel_4 (by decide) ?_
  refine ar_l (k := 3) (v := g_rd σ (6 * j + 3)) hx hb hK hP (8 + 3 * j) 1 (wX_rd hj) rfl rfl (by decide) (by decide) (slc_at (by decide)) dX1_starboardHeel_5 ?_
  refine lv_aload_n hx hb dX1_starboardHeel_6 rfl (lv_at hl 0 rfl) ?_
  refine va_get (D := G) (ci := 1) (v := .ref (a (8 + 3 * j))) (C := RX1) (T := TX1) (N := 3) hx hb hts hX1 hown hK hP (7 + 3 * j) (wX_sv hj) rfl 0 (by decide) (hts (.fieldLink RX1 9 "DraftSurvey$Survey" "readings" "[J") (by decide +kernel)) (fun _ h9 => h9) rfl dX1_starboardHeel_7 ?_
  refine lv_iconst (v := 2) hx hb dX1_starboardHeel_10 (by decide) ?_
  refine ar_l (k := 2) (v := g_rd σ (6 * j + 2)) hx hb hK hP (8 + 3 * j) 1 (wX_rd hj) rfl rfl (by decide) (by decide) (slc_at (by decide)) dX1_starboardHeel_11 ?_
  refine lv_lsub hx hb dX1_starboardHeel_12 ?_
  exact rd_lret hx hb hr hlocks (rfl) dX1_starboardHeel_13

set_option maxHeartbeats 4000000 in
set_option maxRecDepth 100000 in
theorem c_mean1 (l : Launch) (G : va_G) (C : Nat → ClassId) (a : Nat → Nat) (σ : SG) (κ : KX) {j : Nat} (hj : j < 4) : RdC l yX1_meanDraft wsX1_meanDraft ({ frames := 2, cells := 0, slots := 0, locals := 45 } : Room) G (tysC C) (wX C a σ κ) [.ref (a (7 + 3 * j))] (.long (qm σ j)) := by
  refine Met.ofW (cc := cX1_meanDraft) (maxL := 1) (ret := (some .long)) (by decide) rfl ?_
  intro p e s m args below meth c s₁ B hml hv
  obtain ⟨rfl, hP, hK, hN⟩ := hv
  have hx := B.exec
  have hb := B.bytes
  have hr := B.returns
  have hts := atoms_spec (ws := wsX1_meanDraft) B.pre
  have hown : s.vm.findClass RX1 = some m.cls := findClass_of_methodNamed B.named
  have hlocks := B.notSynchronized
  have hP : va_P G vwCl (wX C a σ κ) s.heap := hP
  have hl := lv_entry ([.ref (a (7 + 3 * j))]) (n := 1) (Nat.le_of_ble_eq_true rfl)
  rw [lg_entry_eq]
  generalize (lg_sl ([.ref (a (7 + 3 * j))]) ++ List.replicate (1 - (lg_sl ([.ref (a (7 + 3 * j))])).length) Slot.unset).toArray = ls at hl ⊢
  have hl : lv_has ls 1 [(0, .ref (a (7 + 3 * j)))] := hl
  refine lv_aload_n hx hb dX1_meanDraft_0 rfl (lv_at hl 0 rfl) ?_
  refine rd_callV (As := []) (rest := []) ⟨hx, hb, hml, hown, hts⟩ (c_forward l G C a σ κ hj) (cwV 0 hts gX1_meanDraft_X1_forwardDraft rfl rfl rfl (by decide +kernel) ⟨Nat.le_of_ble_eq_true rfl, Nat.le_of_ble_eq_true rfl⟩) hK hN hP (7 + 3 * j) 1 (wX_sv hj) rfl rfl rfl hl.1 rfl (Nat.le_of_ble_eq_true rfl) dX1_meanDraft_1 ⟨Nat.zero_le _, Nat.zero_le _⟩ ?_
  refine lv_ldc2 (v := 6) hx hb hown (hts (.constantLong RX1 42 (6)) (by decide +kernel)) dX1_meanDraft_4 ?_
  refine lv_aload_n hx hb dX1_meanDraft_7 rfl (lv_at hl 0 rfl) ?_
  refine rd_callV (As := []) (rest := [.long 6, .long (fF σ j)]) ⟨hx, hb, hml, hown, hts⟩ (c_midship l G C a σ κ hj) (cwV 0 hts gX1_meanDraft_X1_midshipDraft rfl rfl rfl (by decide +kernel) ⟨Nat.le_of_ble_eq_true rfl, Nat.le_of_ble_eq_true rfl⟩) hK hN hP (7 + 3 * j) 1 (wX_sv hj) rfl rfl rfl hl.1 rfl (Nat.le_of_ble_eq_true rfl) dX1_meanDraft_8 ⟨Nat.zero_le _, Nat.zero_le _⟩ ?_
  refine lv_lmul hx hb dX1_meanDraft_11 ?_
  refine lv_ladd hx hb dX1_meanDraft_12 ?_
  refine lv_aload_n hx hb dX1_meanDraft_13 rfl (lv_at hl 0 rfl) ?_
  refine rd_callV (As := []) (rest := [.long ((fF σ j) + (6 * (fM σ j)))]) ⟨hx, hb, hml, hown, hts⟩ (c_aft l G C a σ κ hj) (cwV 0 hts gX1_meanDraft_X1_aftDraft rfl rfl rfl (by decide +kernel) ⟨Nat.le_of_ble_eq_true rfl, Nat.le_of_ble_eq_true rfl⟩) hK hN hP (7 + 3 * j) 1 (wX_sv hj) rfl rfl rfl hl.1 rfl (Nat.le_of_ble_eq_true rfl) dX1_meanDraft_14 ⟨Nat.zero_le _, Nat.zero_le _⟩ ?_
  refine lv_ladd hx hb dX1_meanDraft_17 ?_
  refine lv_ldc2 (v := 8) hx hb hown (hts (.constantLong RX1 44 (8)) (by decide +kernel)) dX1_meanDraft_18 ?_
  refine rd_callS (As := [.long (((fF σ j) + (6 * (fM σ j))) + (fA σ j)), .long 8]) (rest := []) ⟨hx, hb, hml, hown, hts⟩ (c_fdiv l G C a σ κ (((fF σ j) + (6 * (fM σ j))) + (fA σ j)) 8 (by decide)) (va_cwS 2 hts gX1_meanDraft_J9_floorDiv_f86c9 rfl rfl rfl (by decide +kernel) ⟨Nat.le_of_ble_eq_true rfl, Nat.le_of_ble_eq_true rfl⟩) hK hN hP rfl hl.1 rfl (Nat.le_of_ble_eq_true rfl) dX1_meanDraft_21 ⟨Nat.zero_le _, Nat.zero_le _⟩ ?_
  exact rd_lret hx hb hr hlocks (rfl) dX1_meanDraft_24

set_option maxHeartbeats 4000000 in
set_option maxRecDepth 100000 in
theorem c_ded1 (l : Launch) (G : va_G) (C : Nat → ClassId) (a : Nat → Nat) (σ : SG) (κ : KX) {j : Nat} (hj : j < 4) : RdC l yX1_deducted wsX1_deducted ({ frames := 0, cells := 0, slots := 0, locals := 0 } : Room) G (tysC C) (wX C a σ κ) [.ref (a (7 + 3 * j))] (.long (de σ j)) := by
  refine Met.ofW (cc := cX1_deducted) (maxL := 4) (ret := (some .long)) (by decide) rfl ?_
  intro p e s m args below meth c s₁ B hml hv
  obtain ⟨rfl, hP, hK, hN⟩ := hv
  have hx := B.exec
  have hb := B.bytes
  have hr := B.returns
  have hts := atoms_spec (ws := wsX1_deducted) B.pre
  have hown : s.vm.findClass RX1 = some m.cls := findClass_of_methodNamed B.named
  have hlocks := B.notSynchronized
  have hX1 : ∀ w ∈ wsX10, w ∈ wsX1_deducted := by decide +kernel
  have hP : va_P G vwCl (wX C a σ κ) s.heap := hP
  have hl := lv_entry ([.ref (a (7 + 3 * j))]) (n := 4) (Nat.le_of_ble_eq_true rfl)
  rw [lg_entry_eq]
  generalize (lg_sl ([.ref (a (7 + 3 * j))]) ++ List.replicate (4 - (lg_sl ([.ref (a (7 + 3 * j))])).length) Slot.unset).toArray = ls at hl ⊢
  have hl : lv_has ls 4 [(0, .ref (a (7 + 3 * j)))] := hl
  refine lv_lconst (v := 0) hx hb dX1_deducted_0 (by decide) ?_
  refine lv_lstore_n (lv' := [(1, .long 0), (0, .ref (a (7 + 3 * j)))]) hx hb dX1_deducted_1 rfl hl (by decide) rfl (fun ls hl => ?_)
  refine lv_iconst (v := 0) hx hb dX1_deducted_2 (by decide) ?_
  refine lv_istore_n (lv' := [(3, .int 0), (1, .long 0), (0, .ref (a (7 + 3 * j)))]) hx hb dX1_deducted_3 rfl hl (by decide) rfl (fun ls hl => ?_)
  refine lv_iload_n hx hb dX1_deducted_4 rfl (lv_at hl 0 rfl) ?_
  refine lv_iconst (v := 4) hx hb dX1_deducted_5 (by decide) ?_
  refine ic_ge (tgt := 24) hx hb dX1_deducted_6 (by decide) (fun c_1 => ?_) (fun c_1 => ?_)
  · skip
    exact absurd c_1 (by decide)
  · skip
    refine lv_lload_n hx hb dX1_deducted_9 rfl (lv_at hl 1 rfl) ?_
    refine lv_aload_n hx hb dX1_deducted_10 rfl (lv_at hl 2 rfl) ?_
    refine va_get (D := G) (ci := 1) (v := .ref (a (9 + 3 * j))) (C := RX1) (T := TX1) (N := 3) hx hb hts hX1 hown hK hP (7 + 3 * j) (wX_sv hj) rfl 1 (by decide) (hts (.fieldLink RX1 15 "DraftSurvey$Survey" "deductions" "[J") (by decide +kernel)) (fun _ h9 => h9) rfl dX1_deducted_11 ?_
    refine lv_iload_n hx hb dX1_deducted_14 rfl (lv_at hl 0 rfl) ?_
    refine ar_l (k := 0) (v := g_dd σ (4 * j + 0)) hx hb hK hP (9 + 3 * j) 1 (wX_dd hj) rfl rfl (by decide) (by decide) (slc_at (by decide)) dX1_deducted_15 ?_
    refine lv_ladd hx hb dX1_deducted_16 ?_
    refine lv_lstore_n (lv' := [(1, .long (0 + (g_dd σ (4 * j + 0)))), (3, .int 0), (0, .ref (a (7 + 3 * j)))]) hx hb dX1_deducted_17 rfl hl (by decide) rfl (fun ls hl => ?_)
    refine lv_iinc (v := 1) (lv' := [(3, .int 1), (1, .long (0 + (g_dd σ (4 * j + 0)))), (0, .ref (a (7 + 3 * j)))]) hx hb dX1_deducted_18 hl (k := 1) rfl (by decide) (by decide) rfl (fun ls hl => ?_)
    refine lv_goto (tgt := 4) hx hb dX1_deducted_21 (by decide) ?_
    refine lv_iload_n hx hb dX1_deducted_4 rfl (lv_at hl 0 rfl) ?_
    refine lv_iconst (v := 4) hx hb dX1_deducted_5 (by decide) ?_
    refine ic_ge (tgt := 24) hx hb dX1_deducted_6 (by decide) (fun c_2 => ?_) (fun c_2 => ?_)
    · skip
      exact absurd c_2 (by decide)
    · skip
      refine lv_lload_n hx hb dX1_deducted_9 rfl (lv_at hl 1 rfl) ?_
      refine lv_aload_n hx hb dX1_deducted_10 rfl (lv_at hl 2 rfl) ?_
      refine va_get (D := G) (ci := 1) (v := .ref (a (9 + 3 * j))) (C := RX1) (T := TX1) (N := 3) hx hb hts hX1 hown hK hP (7 + 3 * j) (wX_sv hj) rfl 1 (by decide) (hts (.fieldLink RX1 15 "DraftSurvey$Survey" "deductions" "[J") (by decide +kernel)) (fun _ h9 => h9) rfl dX1_deducted_11 ?_
      refine lv_iload_n hx hb dX1_deducted_14 rfl (lv_at hl 0 rfl) ?_
      refine ar_l (k := 1) (v := g_dd σ (4 * j + 1)) hx hb hK hP (9 + 3 * j) 1 (wX_dd hj) rfl rfl (by decide) (by decide) (slc_at (by decide)) dX1_deducted_15 ?_
      refine lv_ladd hx hb dX1_deducted_16 ?_
      refine lv_lstore_n (lv' := [(1, .long ((0 + (g_dd σ (4 * j + 0))) + (g_dd σ (4 * j + 1)))), (3, .int 1), (0, .ref (a (7 + 3 * j)))]) hx hb dX1_deducted_17 rfl hl (by decide) rfl (fun ls hl => ?_)
      refine lv_iinc (v := 2) (lv' := [(3, .int 2), (1, .long ((0 + (g_dd σ (4 * j + 0))) + (g_dd σ (4 * j + 1)))), (0, .ref (a (7 + 3 * j)))]) hx hb dX1_deducted_18 hl (k := 1) rfl (by decide) (by decide) rfl (fun ls hl => ?_)
      refine lv_goto (tgt := 4) hx hb dX1_deducted_21 (by decide) ?_
      refine lv_iload_n hx hb dX1_deducted_4 rfl (lv_at hl 0 rfl) ?_
      refine lv_iconst (v := 4) hx hb dX1_deducted_5 (by decide) ?_
      refine ic_ge (tgt := 24) hx hb dX1_deducted_6 (by decide) (fun c_3 => ?_) (fun c_3 => ?_)
      · skip
        exact absurd c_3 (by decide)
      · skip
        refine lv_lload_n hx hb dX1_deducted_9 rfl (lv_at hl 1 rfl) ?_
        refine lv_aload_n hx hb dX1_deducted_10 rfl (lv_at hl 2 rfl) ?_
        refine va_get (D := G) (ci := 1) (v := .ref (a (9 + 3 * j))) (C := RX1) (T := TX1) (N := 3) hx hb hts hX1 hown hK hP (7 + 3 * j) (wX_sv hj) rfl 1 (by decide) (hts (.fieldLink RX1 15 "DraftSurvey$Survey" "deductions" "[J") (by decide +kernel)) (fun _ h9 => h9) rfl dX1_deducted_11 ?_
        refine lv_iload_n hx hb dX1_deducted_14 rfl (lv_at hl 0 rfl) ?_
        refine ar_l (k := 2) (v := g_dd σ (4 * j + 2)) hx hb hK hP (9 + 3 * j) 1 (wX_dd hj) rfl rfl (by decide) (by decide) (slc_at (by decide)) dX1_deducted_15 ?_
        refine lv_ladd hx hb dX1_deducted_16 ?_
        refine lv_lstore_n (lv' := [(1, .long (((0 + (g_dd σ (4 * j + 0))) + (g_dd σ (4 * j + 1))) + (g_dd σ (4 * j + 2)))), (3, .int 2), (0, .ref (a (7 + 3 * j)))]) hx hb dX1_deducted_17 rfl hl (by decide) rfl (fun ls hl => ?_)
        refine lv_iinc (v := 3) (lv' := [(3, .int 3), (1, .long (((0 + (g_dd σ (4 * j + 0))) + (g_dd σ (4 * j + 1))) + (g_dd σ (4 * j + 2)))), (0, .ref (a (7 + 3 * j)))]) hx hb dX1_deducted_18 hl (k := 1) rfl (by decide) (by decide) rfl (fun ls hl => ?_)
        refine lv_goto (tgt := 4) hx hb dX1_deducted_21 (by decide) ?_
        refine lv_iload_n hx hb dX1_deducted_4 rfl (lv_at hl 0 rfl) ?_
        refine lv_iconst (v := 4) hx hb dX1_deducted_5 (by decide) ?_
        refine ic_ge (tgt := 24) hx hb dX1_deducted_6 (by decide) (fun c_4 => ?_) (fun c_4 => ?_)
        · skip
          exact absurd c_4 (by decide)
        · skip
          refine lv_lload_n hx hb dX1_deducted_9 rfl (lv_at hl 1 rfl) ?_
          refine lv_aload_n hx hb dX1_deducted_10 rfl (lv_at hl 2 rfl) ?_
          refine va_get (D := G) (ci := 1) (v := .ref (a (9 + 3 * j))) (C := RX1) (T := TX1) (N := 3) hx hb hts hX1 hown hK hP (7 + 3 * j) (wX_sv hj) rfl 1 (by decide) (hts (.fieldLink RX1 15 "DraftSurvey$Survey" "deductions" "[J") (by decide +kernel)) (fun _ h9 => h9) rfl dX1_deducted_11 ?_
          refine lv_iload_n hx hb dX1_deducted_14 rfl (lv_at hl 0 rfl) ?_
          refine ar_l (k := 3) (v := g_dd σ (4 * j + 3)) hx hb hK hP (9 + 3 * j) 1 (wX_dd hj) rfl rfl (by decide) (by decide) (slc_at (by decide)) dX1_deducted_15 ?_
          refine lv_ladd hx hb dX1_deducted_16 ?_
          refine lv_lstore_n (lv' := [(1, .long ((((0 + (g_dd σ (4 * j + 0))) + (g_dd σ (4 * j + 1))) + (g_dd σ (4 * j + 2))) + (g_dd σ (4 * j + 3)))), (3, .int 3), (0, .ref (a (7 + 3 * j)))]) hx hb dX1_deducted_17 rfl hl (by decide) rfl (fun ls hl => ?_)
          refine lv_iinc (v := 4) (lv' := [(3, .int 4), (1, .long ((((0 + (g_dd σ (4 * j + 0))) + (g_dd σ (4 * j + 1))) + (g_dd σ (4 * j + 2))) + (g_dd σ (4 * j + 3)))), (0, .ref (a (7 + 3 * j)))]) hx hb dX1_deducted_18 hl (k := 1) rfl (by decide) (by decide) rfl (fun ls hl => ?_)
          refine lv_goto (tgt := 4) hx hb dX1_deducted_21 (by decide) ?_
          refine lv_iload_n hx hb dX1_deducted_4 rfl (lv_at hl 0 rfl) ?_
          refine lv_iconst (v := 4) hx hb dX1_deducted_5 (by decide) ?_
          refine ic_ge (tgt := 24) hx hb dX1_deducted_6 (by decide) (fun c_5 => ?_) (fun c_5 => ?_)
          · skip
            refine lv_lload_n hx hb dX1_deducted_24 rfl (lv_at hl 1 rfl) ?_
            exact rd_lret hx hb hr hlocks (rfl) dX1_deducted_25
          · skip
            exact absurd c_5 (by decide)
