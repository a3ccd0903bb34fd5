set_option maxHeartbeats 4000000 in
set_option maxRecDepth 100000 in
theorem m_within (l : Launch) (G : va_G) (C : Nat → ClassId) (b : Nat → Nat) (σ : SG) (ρ : KM) (v lo hi : Int64) : RdC l yX4_within wsX4_within ({ frames := 0, cells := 0, slots := 0, locals := 0 } : Room) G (tysC C) (wM C b σ ρ) [.long v, .long lo, .long hi] (.int (if ¬ v < lo ∧ ¬ hi < v then 1 else 0)) := by
  refine Met.ofW (cc := cX4_within) (maxL := 6) (ret := (some .boolean)) (by decide) rfl ?_
  intro p e s m args below meth c s₁ B hml hv
  obtain ⟨rfl, hP, hK, hN⟩ := hv
  have hx := B.exec
  have hb := B.bytes
  have hr := B.returns
  have hts := atoms_spec (ws := wsX4_within) B.pre
  have hown : s.vm.findClass RX4 = some m.cls := findClass_of_methodNamed B.named
  have hlocks := B.notSynchronized
  have hP : va_P G vwCl (wM C b σ ρ) s.heap := hP
  have hl := lv_entry ([.long v, .long lo, .long hi]) (n := 6) (Nat.le_of_ble_eq_true rfl)
  rw [lg_entry_eq]
  generalize (lg_sl ([.long v, .long lo, .long hi]) ++ List.replicate (6 - (lg_sl ([.long v, .long lo, .long hi])).length) Slot.unset).toArray = ls at hl ⊢
  have hl : lv_has ls 6 [(0, .long v), (2, .long lo), (4, .long hi)] := hl
  refine lv_lload_n hx hb dX4_within_0 rfl (lv_at hl 0 rfl) ?_
  refine lv_lload_n hx hb dX4_within_1 rfl (lv_at hl 1 rfl) ?_
  refine lc_lt (tgt := 17) hx hb dX4_within_2 dX4_within_3 (by decide) (fun c_1 => ?_) (fun c_1 => ?_)
  · skip
    refine lv_iconst (v := 0) hx hb dX4_within_17 (by decide) ?_
    exact rd_zret hx hb hr hlocks (Or.inl rfl) (congrArg Value.int (by simp only [c_1, not_true_eq_false, not_false_eq_true, if_true, if_false, and_true, true_and, and_false, false_and, and_self, or_true, true_or, or_false, false_or, or_self, eq_self])) dX4_within_18
  · skip
    refine lv_lload_n hx hb dX4_within_6 rfl (lv_at hl 0 rfl) ?_
    refine lv_lload hx hb dX4_within_7 (lv_at hl 2 rfl) ?_
    refine lc_gt (tgt := 17) hx hb dX4_within_9 dX4_within_10 (by decide) (fun c_2 => ?_) (fun c_2 => ?_)
    · skip
      refine lv_iconst (v := 0) hx hb dX4_within_17 (by decide) ?_
      exact rd_zret hx hb hr hlocks (Or.inl rfl) (congrArg Value.int (by simp only [c_1, c_2, not_true_eq_false, not_false_eq_true, if_true, if_false, and_true, true_and, and_false, false_and, and_self, or_true, true_or, or_false, false_or, or_self, eq_self])) dX4_within_18
    · skip
      refine lv_iconst (v := 1) hx hb dX4_within_13 (by decide) ?_
      refine lv_goto (tgt := 18) hx hb dX4_within_14 (by decide) ?_
      exact rd_zret hx hb hr hlocks (Or.inr rfl) (congrArg Value.int (by simp only [c_1, c_2, not_true_eq_false, not_false_eq_true, if_true, if_false, and_true, true_and, and_false, false_and, and_self, or_true, true_or, or_false, false_or, or_self, eq_self])) dX4_within_18

set_option maxHeartbeats 4000000 in
set_option maxRecDepth 100000 in
theorem m_within_t (l : Launch) (G : va_G) (C : Nat → ClassId) (b : Nat → Nat) (σ : SG) (ρ : KM) {v lo hi : Int64} (h1 : ¬ v < lo) (h2 : ¬ hi < v) : RdC l yX4_within wsX4_within ({ frames := 0, cells := 0, slots := 0, locals := 0 } : Room) G (tysC C) (wM C b σ ρ) [.long v, .long lo, .long hi] (.int 1) := by
  refine Met.ofW (cc := cX4_within) (maxL := 6) (ret := (some .boolean)) (by decide) rfl ?_
  intro p e s m args below meth c s₁ B hml hv
  obtain ⟨rfl, hP, hK, hN⟩ := hv
  have hx := B.exec
  have hb := B.bytes
  have hr := B.returns
  have hts := atoms_spec (ws := wsX4_within) B.pre
  have hown : s.vm.findClass RX4 = some m.cls := findClass_of_methodNamed B.named
  have hlocks := B.notSynchronized
  have hP : va_P G vwCl (wM C b σ ρ) s.heap := hP
  have hl := lv_entry ([.long v, .long lo, .long hi]) (n := 6) (Nat.le_of_ble_eq_true rfl)
  rw [lg_entry_eq]
  generalize (lg_sl ([.long v, .long lo, .long hi]) ++ List.replicate (6 - (lg_sl ([.long v, .long lo, .long hi])).length) Slot.unset).toArray = ls at hl ⊢
  have hl : lv_has ls 6 [(0, .long v), (2, .long lo), (4, .long hi)] := hl
  refine lv_lload_n hx hb dX4_within_0 rfl (lv_at hl 0 rfl) ?_
  refine lv_lload_n hx hb dX4_within_1 rfl (lv_at hl 1 rfl) ?_
  refine lc_lt (tgt := 17) hx hb dX4_within_2 dX4_within_3 (by decide) (fun c_1 => ?_) (fun c_1 => ?_)
  · skip
    exact (show False from by first | exact h1 c_1 | exact h2 c_1).elim
  · skip
    refine lv_lload_n hx hb dX4_within_6 rfl (lv_at hl 0 rfl) ?_
    refine lv_lload hx hb dX4_within_7 (lv_at hl 2 rfl) ?_
    refine lc_gt (tgt := 17) hx hb dX4_within_9 dX4_within_10 (by decide) (fun c_2 => ?_) (fun c_2 => ?_)
    · skip
      exact (show False from by first | exact h1 c_2 | exact h2 c_2).elim
    · skip
      refine lv_iconst (v := 1) hx hb dX4_within_13 (by decide) ?_
      refine lv_goto (tgt := 18) hx hb dX4_within_14 (by decide) ?_
      exact rd_zret hx hb hr hlocks (Or.inr rfl) (rfl) dX4_within_18

set_option maxHeartbeats 4000000 in
set_option maxRecDepth 100000 in
theorem m_within_f (l : Launch) (G : va_G) (C : Nat → ClassId) (b : Nat → Nat) (σ : SG) (ρ : KM) {v lo hi : Int64} (h : v < lo ∨ hi < v) : RdC l yX4_within wsX4_within ({ frames := 0, cells := 0, slots := 0, locals := 0 } : Room) G (tysC C) (wM C b σ ρ) [.long v, .long lo, .long hi] (.int 0) := by
  refine Met.ofW (cc := cX4_within) (maxL := 6) (ret := (some .boolean)) (by decide) rfl ?_
  intro p e s m args below meth c s₁ B hml hv
  obtain ⟨rfl, hP, hK, hN⟩ := hv
  have hx := B.exec
  have hb := B.bytes
  have hr := B.returns
  have hts := atoms_spec (ws := wsX4_within) B.pre
  have hown : s.vm.findClass RX4 = some m.cls := findClass_of_methodNamed B.named
  have hlocks := B.notSynchronized
  have hP : va_P G vwCl (wM C b σ ρ) s.heap := hP
  have hl := lv_entry ([.long v, .long lo, .long hi]) (n := 6) (Nat.le_of_ble_eq_true rfl)
  rw [lg_entry_eq]
  generalize (lg_sl ([.long v, .long lo, .long hi]) ++ List.replicate (6 - (lg_sl ([.long v, .long lo, .long hi])).length) Slot.unset).toArray = ls at hl ⊢
  have hl : lv_has ls 6 [(0, .long v), (2, .long lo), (4, .long hi)] := hl
  refine lv_lload_n hx hb dX4_within_0 rfl (lv_at hl 0 rfl) ?_
  refine lv_lload_n hx hb dX4_within_1 rfl (lv_at hl 1 rfl) ?_
  refine lc_lt (tgt := 17) hx hb dX4_within_2 dX4_within_3 (by decide) (fun c_1 => ?_) (fun c_1 => ?_)
  · skip
    refine lv_iconst (v := 0) hx hb dX4_within_17 (by decide) ?_
    exact rd_zret hx hb hr hlocks (Or.inl rfl) (rfl) dX4_within_18
  · skip
    refine lv_lload_n hx hb dX4_within_6 rfl (lv_at hl 0 rfl) ?_
    refine lv_lload hx hb dX4_within_7 (lv_at hl 2 rfl) ?_
    refine lc_gt (tgt := 17) hx hb dX4_within_9 dX4_within_10 (by decide) (fun c_2 => ?_) (fun c_2 => ?_)
    · skip
      refine lv_iconst (v := 0) hx hb dX4_within_17 (by decide) ?_
      exact rd_zret hx hb hr hlocks (Or.inl rfl) (rfl) dX4_within_18
    · skip
      exact (h.elim c_1 c_2).elim

set_option maxHeartbeats 4000000 in
set_option maxRecDepth 100000 in
theorem m_quot (l : Launch) (G : va_G) (C : Nat → ClassId) (b : Nat → Nat) (σ : SG) (ρ : KM) (x y : Int64) (hy : ¬ y = 0) : RdC l yX4_quotient wsX4_quotient ({ frames := 0, cells := 0, slots := 0, locals := 0 } : Room) G (tysC C) (wM C b σ ρ) [.long x, .long y] (.long (fd x y)) := by
  refine Met.ofW (cc := cX4_quotient) (maxL := 6) (ret := (some .long)) (by decide) rfl ?_
  intro p e s m args below meth c s₁ B hml hv
  obtain ⟨rfl, hP, hK, hN⟩ := hv
  have hx := B.exec
  have hb := B.bytes
  have hr := B.returns
  have hts := atoms_spec (ws := wsX4_quotient) B.pre
  have hown : s.vm.findClass RX4 = some m.cls := findClass_of_methodNamed B.named
  have hlocks := B.notSynchronized
  have hP : va_P G vwCl (wM C b σ ρ) s.heap := hP
  have hl := lv_entry ([.long x, .long y]) (n := 6) (Nat.le_of_ble_eq_true rfl)
  rw [lg_entry_eq]
  generalize (lg_sl ([.long x, .long y]) ++ List.replicate (6 - (lg_sl ([.long x, .long y])).length) Slot.unset).toArray = ls at hl ⊢
  have hl : lv_has ls 6 [(0, .long x), (2, .long y)] := hl
  refine lv_lload_n hx hb dX4_quotient_0 rfl (lv_at hl 0 rfl) ?_
  refine lv_lload_n hx hb dX4_quotient_1 rfl (lv_at hl 1 rfl) ?_
  refine lv_ldiv hx hb dX4_quotient_2 hy ?_
  refine lv_lstore (lv' := [(4, .long (x / y)), (0, .long x), (2, .long y)]) hx hb dX4_quotient_3 hl (by decide) rfl (fun ls hl => ?_)
  refine lv_lload_n hx hb dX4_quotient_5 rfl (lv_at hl 1 rfl) ?_
  refine lv_lload_n hx hb dX4_quotient_6 rfl (lv_at hl 2 rfl) ?_
  refine lv_lrem hx hb dX4_quotient_7 hy ?_
  refine lv_lconst (v := 0) hx hb dX4_quotient_8 (by decide) ?_
  refine lc_eq (tgt := 45) hx hb dX4_quotient_9 dX4_quotient_10 (by decide) (fun c_1 => ?_) (fun c_1 => ?_)
  · skip
    refine lv_lload hx hb dX4_quotient_45 (lv_at hl 0 rfl) ?_
    exact rd_lret hx hb hr hlocks (congrArg Value.long (qz c_1)) dX4_quotient_47
  · skip
    refine lv_lload_n hx hb dX4_quotient_13 rfl (lv_at hl 1 rfl) ?_
    refine lv_lconst (v := 0) hx hb dX4_quotient_14 (by decide) ?_
    refine lc_ge (tgt := 23) hx hb dX4_quotient_15 dX4_quotient_16 (by decide) (fun c_2 => ?_) (fun c_2 => ?_)
    · skip
      refine lv_iconst (v := 0) hx hb dX4_quotient_23 (by decide) ?_
      refine lv_lload_n hx hb dX4_quotient_24 rfl (lv_at hl 2 rfl) ?_
      refine lv_lconst (v := 0) hx hb dX4_quotient_25 (by decide) ?_
      refine lc_ge (tgt := 34) hx hb dX4_quotient_26 dX4_quotient_27 (by decide) (fun c_3 => ?_) (fun c_3 => ?_)
      · skip
        refine lv_iconst (v := 0) hx hb dX4_quotient_34 (by decide) ?_
        refine lv_icmp_eq (tgt := 45) hx hb dX4_quotient_35 (by decide) (fun c_4 => ?_) (fun c_4 => ?_)
        · skip
          refine lv_lload hx hb dX4_quotient_45 (lv_at hl 0 rfl) ?_
          exact rd_lret hx hb hr hlocks (congrArg Value.long (qs ⟨fun q => absurd q c_2, fun q => absurd q c_3⟩)) dX4_quotient_47
        · skip
          exact absurd c_4 (by decide)
      · skip
        refine lv_iconst (v := 1) hx hb dX4_quotient_30 (by decide) ?_
        refine lv_goto (tgt := 35) hx hb dX4_quotient_31 (by decide) ?_
        refine lv_icmp_eq (tgt := 45) hx hb dX4_quotient_35 (by decide) (fun c_5 => ?_) (fun c_5 => ?_)
        · skip
          exact absurd c_5 (by decide)
        · skip
          refine lv_lload hx hb dX4_quotient_38 (lv_at hl 0 rfl) ?_
          refine lv_lconst (v := 1) hx hb dX4_quotient_40 (by decide) ?_
          refine lv_lsub hx hb dX4_quotient_41 ?_
          refine lv_goto (tgt := 47) hx hb dX4_quotient_42 (by decide) ?_
          exact rd_lret hx hb hr hlocks (congrArg Value.long (qd c_1 (fun q => c_2 (q.mpr c_3)))) dX4_quotient_47
    · skip
      refine lv_iconst (v := 1) hx hb dX4_quotient_19 (by decide) ?_
      refine lv_goto (tgt := 24) hx hb dX4_quotient_20 (by decide) ?_
      refine lv_lload_n hx hb dX4_quotient_24 rfl (lv_at hl 2 rfl) ?_
      refine lv_lconst (v := 0) hx hb dX4_quotient_25 (by decide) ?_
      refine lc_ge (tgt := 34) hx hb dX4_quotient_26 dX4_quotient_27 (by decide) (fun c_6 => ?_) (fun c_6 => ?_)
      · skip
        refine lv_iconst (v := 0) hx hb dX4_quotient_34 (by decide) ?_
        refine lv_icmp_eq (tgt := 45) hx hb dX4_quotient_35 (by decide) (fun c_7 => ?_) (fun c_7 => ?_)
        · skip
          exact absurd c_7 (by decide)
        · skip
          refine lv_lload hx hb dX4_quotient_38 (lv_at hl 0 rfl) ?_
          refine lv_lconst (v := 1) hx hb dX4_quotient_40 (by decide) ?_
          refine lv_lsub hx hb dX4_quotient_41 ?_
          refine lv_goto (tgt := 47) hx hb dX4_quotient_42 (by decide) ?_
          exact rd_lret hx hb hr hlocks (congrArg Value.long (qd c_1 (fun q => c_6 (q.mp c_2)))) dX4_quotient_47
      · skip
        refine lv_iconst (v := 1) hx hb dX4_quotient_30 (by decide) ?_
        refine lv_goto (tgt := 35) hx hb dX4_quotient_31 (by decide) ?_
        refine lv_icmp_eq (tgt := 45) hx hb dX4_quotient_35 (by decide) (fun c_8 => ?_) (fun c_8 => ?_)
        · skip
          refine lv_lload hx hb dX4_quotient_45 (lv_at hl 0 rfl) ?_
          exact rd_lret hx hb hr hlocks (congrArg Value.long (qs ⟨fun _ => c_6, fun _ => c_2⟩)) dX4_quotient_47
        · skip
          exact absurd c_8 (by decide)

set_option maxHeartbeats 4000000 in
set_option maxRecDepth 100000 in
theorem m_cell (l : Launch) (G : va_G) (C : Nat → ClassId) (b : Nat → Nat) (σ : SG) (ρ : KM) {r q : Nat} (hr : r < 10) (hq : q < 5) : RdC l yX4_cell wsX4_cell ({ frames := 0, cells := 0, slots := 0, locals := 0 } : Room) G (tysC C) (wM C b σ ρ) [.ref (b 0), .int (nI r), .int (nI q)] (.long (g_tb σ (5 * r + q))) := by
  refine Met.ofW (cc := cX4_cell) (maxL := 3) (ret := (some .long)) (by decide) rfl ?_
  intro p e s m args below meth c s₁ B hml hv
  obtain ⟨rfl, hP, hK, hN⟩ := hv
  have hx := B.exec
  have hb := B.bytes
  have hr := B.returns
  have hts := atoms_spec (ws := wsX4_cell) B.pre
  have hown : s.vm.findClass RX4 = some m.cls := findClass_of_methodNamed B.named
  have hlocks := B.notSynchronized
  have hX4 : ∀ w ∈ wsX40, w ∈ wsX4_cell := by decide +kernel
  have hP : va_P G vwCl (wM C b σ ρ) s.heap := hP
  have hl := lv_entry ([.ref (b 0), .int (nI r), .int (nI q)]) (n := 3) (Nat.le_of_ble_eq_true rfl)
  rw [lg_entry_eq]
  generalize (lg_sl ([.ref (b 0), .int (nI r), .int (nI q)]) ++ List.replicate (3 - (lg_sl ([.ref (b 0), .int (nI r), .int (nI q)])).length) Slot.unset).toArray = ls at hl ⊢
  have hl : lv_has ls 3 [(0, .ref (b 0)), (1, .int (nI r)), (2, .int (nI q))] := hl
  refine lv_aload_n hx hb dX4_cell_0 rfl (lv_at hl 0 rfl) ?_
  refine va_get (D := G) (ci := 4) (v := .ref (b 2)) (C := RX4) (T := TX4) (N := 13) hx hb hts hX4 hown hK hP (0) wM_e0 rfl 3 (by decide) (hts (.fieldLink RX4 13 "DraftSurveyModel" "table" "[J") (by decide +kernel)) (fun _ h9 => h9) rfl dX4_cell_1 ?_
  refine lv_iconst (v := 5) hx hb dX4_cell_4 (by decide) ?_
  refine lv_iload_n hx hb dX4_cell_5 rfl (lv_at hl 1 rfl) ?_
  refine lv_imul hx hb dX4_cell_6 ?_
  refine tp_i (v := nI (5 * r)) (pk_mul 5 r) ?_
  refine lv_iload_n hx hb dX4_cell_7 rfl (lv_at hl 2 rfl) ?_
  refine lv_iadd hx hb dX4_cell_8 ?_
  refine tp_i (v := nI ((5 * r) + q)) (nI_add (5 * r) q) ?_
  refine ar_l (k := ((5 * r) + q)) (v := g_tb σ ((5 * r) + q)) hx hb hK hP (2) 1 wM_e2 rfl rfl (by omega) (by decide) rfl dX4_cell_9 ?_
  exact rd_lret hx hb hr hlocks (rfl) dX4_cell_10

set_option maxHeartbeats 4000000 in
set_option maxRecDepth 100000 in
theorem m_cov (l : Launch) (G : va_G) (C : Nat → ClassId) (b : Nat → Nat) (σ : SG) (ρ : KM) (hn : g_n σ ≤ 10) (d : Int64) : RdC l yX4_isCovered wsX4_isCovered ({ frames := 1, cells := 0, slots := 0, locals := 25 } : Room) G (tysC C) (wM C b σ ρ) [.ref (b 0), .long d] (.int (if cov σ d then 1 else 0)) := by
  refine Met.ofW (cc := cX4_isCovered) (maxL := 3) (ret := (some .boolean)) (by decide) rfl ?_
  intro p e s m args below meth c s₁ B hml hv
  obtain ⟨rfl, hP, hK, hN⟩ := hv
  have hx := B.exec
  have hb := B.bytes
  have hr := B.returns
  have hts := atoms_spec (ws := wsX4_isCovered) B.pre
  have hown : s.vm.findClass RX4 = some m.cls := findClass_of_methodNamed B.named
  have hlocks := B.notSynchronized
  have hX4 : ∀ w ∈ wsX40, w ∈ wsX4_isCovered := by decide +kernel
  have hP : va_P G vwCl (wM C b σ ρ) s.heap := hP
  have hl := lv_entry ([.ref (b 0), .long d]) (n := 3) (Nat.le_of_ble_eq_true rfl)
  rw [lg_entry_eq]
  generalize (lg_sl ([.ref (b 0), .long d]) ++ List.replicate (3 - (lg_sl ([.ref (b 0), .long d])).length) Slot.unset).toArray = ls at hl ⊢
  have hl : lv_has ls 3 [(0, .ref (b 0)), (1, .long d)] := hl
  refine lv_aload_n hx hb dX4_isCovered_0 rfl (lv_at hl 0 rfl) ?_
  refine va_get (D := G) (ci := 4) (v := .int (nI (g_n σ))) (C := RX4) (T := TX4) (N := 13) hx hb hts hX4 hown hK hP (0) wM_e0 rfl 2 (by decide) (hts (.fieldLink RX4 85 "DraftSurveyModel" "rows" "I") (by decide +kernel)) (fun _ h9 => h9) rfl dX4_isCovered_1 ?_
  refine ic_if_le (tgt := 35) hx hb dX4_isCovered_4 (by decide) (fun c_1 => ?_) (fun c_1 => ?_)
  · skip
    have c_1 : ¬ 0 < (g_n σ) := fun z9 => c_1 ((nI_ltI (a := 0) (b := (g_n σ)) (by omega) (by omega)).mpr z9)
    refine lv_iconst (v := 0) hx hb dX4_isCovered_35 (by decide) ?_
    exact rd_zret hx hb hr hlocks (Or.inl rfl) (congrArg Value.int (if_neg (fun q => c_1 q.1)).symm) dX4_isCovered_36
  · skip
    have c_1 : 0 < (g_n σ) := (nI_ltI (a := 0) (b := (g_n σ)) (by omega) (by omega)).mp c_1
    refine lv_lload_n hx hb dX4_isCovered_7 rfl (lv_at hl 1 rfl) ?_
    refine lv_aload_n hx hb dX4_isCovered_8 rfl (lv_at hl 0 rfl) ?_
    refine lv_iconst (v := 0) hx hb dX4_isCovered_9 (by decide) ?_
    refine lv_iconst (v := 0) hx hb dX4_isCovered_10 (by decide) ?_
    refine rd_callV (As := [.int 0, .int 0]) (rest := [.long d]) ⟨hx, hb, hml, hown, hts⟩ (m_cell l G C b σ ρ (r := 0) (q := 0) (by omega) (by omega)) (cwV 2 hts gX4_isCovered_X4_cell rfl rfl rfl (by decide +kernel) ⟨Nat.le_of_ble_eq_true rfl, Nat.le_of_ble_eq_true rfl⟩) hK hN hP (0) 4 wM_e0 rfl rfl rfl hl.1 rfl (Nat.le_of_ble_eq_true rfl) dX4_isCovered_11 ⟨Nat.zero_le _, Nat.zero_le _⟩ ?_
    refine lv_aload_n hx hb dX4_isCovered_14 rfl (lv_at hl 0 rfl) ?_
    refine lv_aload_n hx hb dX4_isCovered_15 rfl (lv_at hl 0 rfl) ?_
    refine va_get (D := G) (ci := 4) (v := .int (nI (g_n σ))) (C := RX4) (T := TX4) (N := 13) hx hb hts hX4 hown hK hP (0) wM_e0 rfl 2 (by decide) (hts (.fieldLink RX4 85 "DraftSurveyModel" "rows" "I") (by decide +kernel)) (fun _ h9 => h9) rfl dX4_isCovered_16 ?_
    refine lv_iconst (v := 1) hx hb dX4_isCovered_19 (by decide) ?_
    refine lv_isub hx hb dX4_isCovered_20 ?_
    refine tp_i (v := nI ((g_n σ) - 1)) (pk_sub (a := (g_n σ)) (b := 1) (by omega)) ?_
    refine lv_iconst (v := 0) hx hb dX4_isCovered_21 (by decide) ?_
    refine rd_callV (As := [.int (nI ((g_n σ) - 1)), .int 0]) (rest := [.long (g_tb σ (5 * 0 + 0)), .long d]) ⟨hx, hb, hml, hown, hts⟩ (m_cell l G C b σ ρ (r := ((g_n σ) - 1)) (q := 0) (by omega) (by omega)) (cwV 2 hts gX4_isCovered_X4_cell rfl rfl rfl (by decide +kernel) ⟨Nat.le_of_ble_eq_true rfl, Nat.le_of_ble_eq_true rfl⟩) hK hN hP (0) 4 wM_e0 rfl rfl rfl hl.1 rfl (Nat.le_of_ble_eq_true rfl) dX4_isCovered_22 ⟨Nat.zero_le _, Nat.zero_le _⟩ ?_
    refine rd_callS (As := [.long d, .long (g_tb σ (5 * 0 + 0)), .long (g_tb σ (5 * ((g_n σ) - 1) + 0))]) (rest := []) ⟨hx, hb, hml, hown, hts⟩ (m_within l G C b σ ρ d (g_tb σ (5 * 0 + 0)) (g_tb σ (5 * ((g_n σ) - 1) + 0))) (va_cwS 3 hts gX4_isCovered_X4_within rfl rfl rfl (by decide +kernel) ⟨Nat.le_of_ble_eq_true rfl, Nat.le_of_ble_eq_true rfl⟩) hK hN hP rfl hl.1 rfl (Nat.le_of_ble_eq_true rfl) dX4_isCovered_25 ⟨Nat.zero_le _, Nat.zero_le _⟩ ?_
    refine br_beq (tgt := 35) hx hb dX4_isCovered_28 (by decide) (fun c_2 => ?_) (fun c_2 => ?_)
    · skip
      refine lv_iconst (v := 0) hx hb dX4_isCovered_35 (by decide) ?_
      exact rd_zret hx hb hr hlocks (Or.inl rfl) (congrArg Value.int (if_neg (fun q => c_2 q.2)).symm) dX4_isCovered_36
    · skip
      refine lv_iconst (v := 1) hx hb dX4_isCovered_31 (by decide) ?_
      refine lv_goto (tgt := 36) hx hb dX4_isCovered_32 (by decide) ?_
      exact rd_zret hx hb hr hlocks (Or.inr rfl) (congrArg Value.int (if_pos ⟨c_1, c_2⟩).symm) dX4_isCovered_36

set_option maxHeartbeats 4000000 in
set_option maxRecDepth 100000 in
theorem m_at (l : Launch) (G : va_G) (C : Nat → ClassId) (b : Nat → Nat) (σ : SG) (ρ : KM) (hI : Inv σ) {q : Nat} (hq : q < 4) {d : Int64} (hc : cov σ d) : RdC l yX4_at wsX4_at ({ frames := 1, cells := 0, slots := 0, locals := 25 } : Room) G (tysC C) (wM C b σ ρ) [.ref (b 0), .int (nI q), .long d] (.long (vA σ (q + 1) d)) := by
  refine Met.ofW (cc := cX4_at) (maxL := 7) (ret := (some .long)) (by decide) rfl ?_
  intro p e s m args below meth c s₁ B hml hv
  obtain ⟨rfl, hP, hK, hN⟩ := hv
  have hx := B.exec
  have hb := B.bytes
  have hr := B.returns
  have hts := atoms_spec (ws := wsX4_at) B.pre
  have hown : s.vm.findClass RX4 = some m.cls := findClass_of_methodNamed B.named
  have hlocks := B.notSynchronized
  have hX4 : ∀ w ∈ wsX40, w ∈ wsX4_at := by decide +kernel
  have hP : va_P G vwCl (wM C b σ ρ) s.heap := hP
  have hl := lv_entry ([.ref (b 0), .int (nI q), .long d]) (n := 7) (Nat.le_of_ble_eq_true rfl)
  rw [lg_entry_eq]
  generalize (lg_sl ([.ref (b 0), .int (nI q), .long d]) ++ List.replicate (7 - (lg_sl ([.ref (b 0), .int (nI q), .long d])).length) Slot.unset).toArray = ls at hl ⊢
  have hl : lv_has ls 7 [(0, .ref (b 0)), (1, .int (nI q)), (2, .long d)] := hl
  have hn := inv_n hI
  refine lv_iconst (v := 0) hx hb dX4_at_0 (by decide) ?_
  refine lv_istore (lv' := [(4, .int 0), (0, .ref (b 0)), (1, .int (nI q)), (2, .long d)]) hx hb dX4_at_1 hl (by decide) rfl (fun ls hl => ?_)
  have key3 : ∀ (n_ : Nat) (k : Nat), g_n σ ≤ k + n_ → k < g_n σ → ¬ d < g_tb σ (5 * k + 0) → ∀ ls : Array Slot, lv_has ls 7 [(0, .ref (b 0)), (1, .int (nI q)), (2, .long d), (4, .int (nI k))] → W p l e (headSpec wsX4_at ({ frames := 1, cells := 0, slots := 0, locals := 25 } : Room)).room s m ([.ref (b 0), .int (nI q), .long d] : List Value).toArray below meth c s.heap [] 0 0 (MQ below (k2_QcV (.long (vA σ (q + 1) d))) ([.ref (b 0), .int (nI q), .long d] : List Value).toArray s 0 0 (fun _ => False)) (F0 m 3 ls []) := by
    intro n_
    induction n_ with
    | zero =>
      intro k g_0 g_1 g_2 ls hl
      exact absurd g_0 (by omega)
    | succ n_ ih =>
      intro k g_0 g_1 g_2 ls hl
      refine lv_iload hx hb dX4_at_3 (lv_at hl 3 rfl) ?_
      refine lv_iconst (v := 1) hx hb dX4_at_5 (by decide) ?_
      refine lv_iadd hx hb dX4_at_6 ?_
      refine tp_i (v := nI (k + 1)) (nI_add k 1) ?_
      refine lv_aload_n hx hb dX4_at_7 rfl (lv_at hl 0 rfl) ?_
      refine va_get (D := G) (ci := 4) (v := .int (nI (g_n σ))) (C := RX4) (T := TX4) (N := 13) hx hb hts hX4 hown hK hP (0) wM_e0 rfl 2 (by decide) (hts (.fieldLink RX4 85 "DraftSurveyModel" "rows" "I") (by decide +kernel)) (fun _ h9 => h9) rfl dX4_at_8 ?_
      refine ic_ge (tgt := 34) hx hb dX4_at_11 (by decide) (fun c_1 => ?_) (fun c_1 => ?_)
      · skip
        have c_1 : ¬ (k + 1) < (g_n σ) := fun z9 => c_1 ((nI_ltI (a := (k + 1)) (b := (g_n σ)) (by omega) (by omega)).mpr z9)
        refine lv_aload_n hx hb dX4_at_34 rfl (lv_at hl 0 rfl) ?_
        refine lv_iload hx hb dX4_at_35 (lv_at hl 3 rfl) ?_
        refine lv_iload_n hx hb dX4_at_37 rfl (lv_at hl 1 rfl) ?_
        refine lv_iconst (v := 1) hx hb dX4_at_38 (by decide) ?_
        refine lv_iadd hx hb dX4_at_39 ?_
        refine tp_i (v := nI (q + 1)) (nI_add q 1) ?_
        refine rd_callV (As := [.int (nI k), .int (nI (q + 1))]) (rest := []) ⟨hx, hb, hml, hown, hts⟩ (m_cell l G C b σ ρ (r := k) (q := (q + 1)) (by omega) (by omega)) (cwV 2 hts gX4_at_X4_cell rfl rfl rfl (by decide +kernel) ⟨Nat.le_of_ble_eq_true rfl, Nat.le_of_ble_eq_true rfl⟩) hK hN hP (0) 4 wM_e0 rfl rfl rfl hl.1 rfl (Nat.le_of_ble_eq_true rfl) dX4_at_40 ⟨Nat.zero_le _, Nat.zero_le _⟩ ?_
        refine lv_lstore (lv' := [(5, .long (g_tb σ (5 * k + (q + 1)))), (0, .ref (b 0)), (1, .int (nI q)), (2, .long d), (4, .int (nI k))]) hx hb dX4_at_43 hl (by decide) rfl (fun ls hl => ?_)
        refine lv_aload_n hx hb dX4_at_45 rfl (lv_at hl 1 rfl) ?_
        refine lv_iload hx hb dX4_at_46 (lv_at hl 4 rfl) ?_
        refine lv_iconst (v := 0) hx hb dX4_at_48 (by decide) ?_
        refine rd_callV (As := [.int (nI k), .int 0]) (rest := []) ⟨hx, hb, hml, hown, hts⟩ (m_cell l G C b σ ρ (r := k) (q := 0) (by omega) (by omega)) (cwV 2 hts gX4_at_X4_cell rfl rfl rfl (by decide +kernel) ⟨Nat.le_of_ble_eq_true rfl, Nat.le_of_ble_eq_true rfl⟩) hK hN hP (0) 4 wM_e0 rfl rfl rfl hl.1 rfl (Nat.le_of_ble_eq_true rfl) dX4_at_49 ⟨Nat.zero_le _, Nat.zero_le _⟩ ?_
        refine lv_lload_n hx hb dX4_at_52 rfl (lv_at hl 3 rfl) ?_
        refine lc_ne (tgt := 60) hx hb dX4_at_53 dX4_at_54 (by decide) (fun c_2 => ?_) (fun c_2 => ?_)
        · skip
          exact absurd (at_last hc g_1 c_1 g_2) c_2
        · skip
          refine lv_lload hx hb dX4_at_57 (lv_at hl 0 rfl) ?_
          exact rd_lret hx hb hr hlocks (congrArg Value.long (at_eq hI g_1 c_2)) dX4_at_59
      · skip
        have c_1 : (k + 1) < (g_n σ) := (nI_ltI (a := (k + 1)) (b := (g_n σ)) (by omega) (by omega)).mp c_1
        refine lv_aload_n hx hb dX4_at_14 rfl (lv_at hl 0 rfl) ?_
        refine lv_iload hx hb dX4_at_15 (lv_at hl 3 rfl) ?_
        refine lv_iconst (v := 1) hx hb dX4_at_17 (by decide) ?_
        refine lv_iadd hx hb dX4_at_18 ?_
        refine tp_i (v := nI (k + 1)) (nI_add k 1) ?_
        refine lv_iconst (v := 0) hx hb dX4_at_19 (by decide) ?_
        refine rd_callV (As := [.int (nI (k + 1)), .int 0]) (rest := []) ⟨hx, hb, hml, hown, hts⟩ (m_cell l G C b σ ρ (r := (k + 1)) (q := 0) (by omega) (by omega)) (cwV 2 hts gX4_at_X4_cell rfl rfl rfl (by decide +kernel) ⟨Nat.le_of_ble_eq_true rfl, Nat.le_of_ble_eq_true rfl⟩) hK hN hP (0) 4 wM_e0 rfl rfl rfl hl.1 rfl (Nat.le_of_ble_eq_true rfl) dX4_at_20 ⟨Nat.zero_le _, Nat.zero_le _⟩ ?_
        refine lv_lload_n hx hb dX4_at_23 rfl (lv_at hl 2 rfl) ?_
        refine lc_gt (tgt := 34) hx hb dX4_at_24 dX4_at_25 (by decide) (fun c_3 => ?_) (fun c_3 => ?_)
        · skip
          refine lv_aload_n hx hb dX4_at_34 rfl (lv_at hl 0 rfl) ?_
          refine lv_iload hx hb dX4_at_35 (lv_at hl 3 rfl) ?_
          refine lv_iload_n hx hb dX4_at_37 rfl (lv_at hl 1 rfl) ?_
          refine lv_iconst (v := 1) hx hb dX4_at_38 (by decide) ?_
          refine lv_iadd hx hb dX4_at_39 ?_
          refine tp_i (v := nI (q + 1)) (nI_add q 1) ?_
          refine rd_callV (As := [.int (nI k), .int (nI (q + 1))]) (rest := []) ⟨hx, hb, hml, hown, hts⟩ (m_cell l G C b σ ρ (r := k) (q := (q + 1)) (by omega) (by omega)) (cwV 2 hts gX4_at_X4_cell rfl rfl rfl (by decide +kernel) ⟨Nat.le_of_ble_eq_true rfl, Nat.le_of_ble_eq_true rfl⟩) hK hN hP (0) 4 wM_e0 rfl rfl rfl hl.1 rfl (Nat.le_of_ble_eq_true rfl) dX4_at_40 ⟨Nat.zero_le _, Nat.zero_le _⟩ ?_
          refine lv_lstore (lv' := [(5, .long (g_tb σ (5 * k + (q + 1)))), (0, .ref (b 0)), (1, .int (nI q)), (2, .long d), (4, .int (nI k))]) hx hb dX4_at_43 hl (by decide) rfl (fun ls hl => ?_)
          refine lv_aload_n hx hb dX4_at_45 rfl (lv_at hl 1 rfl) ?_
          refine lv_iload hx hb dX4_at_46 (lv_at hl 4 rfl) ?_
          refine lv_iconst (v := 0) hx hb dX4_at_48 (by decide) ?_
          refine rd_callV (As := [.int (nI k), .int 0]) (rest := []) ⟨hx, hb, hml, hown, hts⟩ (m_cell l G C b σ ρ (r := k) (q := 0) (by omega) (by omega)) (cwV 2 hts gX4_at_X4_cell rfl rfl rfl (by decide +kernel) ⟨Nat.le_of_ble_eq_true rfl, Nat.le_of_ble_eq_true rfl⟩) hK hN hP (0) 4 wM_e0 rfl rfl rfl hl.1 rfl (Nat.le_of_ble_eq_true rfl) dX4_at_49 ⟨Nat.zero_le _, Nat.zero_le _⟩ ?_
          refine lv_lload_n hx hb dX4_at_52 rfl (lv_at hl 3 rfl) ?_
          refine lc_ne (tgt := 60) hx hb dX4_at_53 dX4_at_54 (by decide) (fun c_4 => ?_) (fun c_4 => ?_)
          · skip
            refine lv_lload hx hb dX4_at_60 (lv_at hl 0 rfl) ?_
            refine lv_aload_n hx hb dX4_at_62 rfl (lv_at hl 1 rfl) ?_
            refine lv_iload hx hb dX4_at_63 (lv_at hl 4 rfl) ?_
            refine lv_iconst (v := 1) hx hb dX4_at_65 (by decide) ?_
            refine lv_iadd hx hb dX4_at_66 ?_
            refine tp_i (v := nI (k + 1)) (nI_add k 1) ?_
            refine lv_iload_n hx hb dX4_at_67 rfl (lv_at hl 2 rfl) ?_
            refine lv_iconst (v := 1) hx hb dX4_at_68 (by decide) ?_
            refine lv_iadd hx hb dX4_at_69 ?_
            refine tp_i (v := nI (q + 1)) (nI_add q 1) ?_
            refine rd_callV (As := [.int (nI (k + 1)), .int (nI (q + 1))]) (rest := [.long (g_tb σ (5 * k + (q + 1)))]) ⟨hx, hb, hml, hown, hts⟩ (m_cell l G C b σ ρ (r := (k + 1)) (q := (q + 1)) (by omega) (by omega)) (cwV 2 hts gX4_at_X4_cell rfl rfl rfl (by decide +kernel) ⟨Nat.le_of_ble_eq_true rfl, Nat.le_of_ble_eq_true rfl⟩) hK hN hP (0) 4 wM_e0 rfl rfl rfl hl.1 rfl (Nat.le_of_ble_eq_true rfl) dX4_at_70 ⟨Nat.zero_le _, Nat.zero_le _⟩ ?_
            refine lv_lload hx hb dX4_at_73 (lv_at hl 0 rfl) ?_
            refine lv_lsub hx hb dX4_at_75 ?_
            refine lv_lload_n hx hb dX4_at_76 rfl (lv_at hl 3 rfl) ?_
            refine lv_aload_n hx hb dX4_at_77 rfl (lv_at hl 1 rfl) ?_
            refine lv_iload hx hb dX4_at_78 (lv_at hl 4 rfl) ?_
            refine lv_iconst (v := 0) hx hb dX4_at_80 (by decide) ?_
            refine rd_callV (As := [.int (nI k), .int 0]) (rest := [.long d, .long ((g_tb σ (5 * (k + 1) + (q + 1))) - (g_tb σ (5 * k + (q + 1)))), .long (g_tb σ (5 * k + (q + 1)))]) ⟨hx, hb, hml, hown, hts⟩ (m_cell l G C b σ ρ (r := k) (q := 0) (by omega) (by omega)) (cwV 2 hts gX4_at_X4_cell rfl rfl rfl (by decide +kernel) ⟨Nat.le_of_ble_eq_true rfl, Nat.le_of_ble_eq_true rfl⟩) hK hN hP (0) 4 wM_e0 rfl rfl rfl hl.1 rfl (Nat.le_of_ble_eq_true rfl) dX4_at_81 ⟨Nat.zero_le _, Nat.zero_le _⟩ ?_
            refine lv_lsub hx hb dX4_at_84 ?_
            refine lv_lmul hx hb dX4_at_85 ?_
            refine lv_aload_n hx hb dX4_at_86 rfl (lv_at hl 1 rfl) ?_
            refine lv_iload hx hb dX4_at_87 (lv_at hl 4 rfl) ?_
            refine lv_iconst (v := 1) hx hb dX4_at_89 (by decide) ?_
            refine lv_iadd hx hb dX4_at_90 ?_
            refine tp_i (v := nI (k + 1)) (nI_add k 1) ?_
            refine lv_iconst (v := 0) hx hb dX4_at_91 (by decide) ?_
            refine rd_callV (As := [.int (nI (k + 1)), .int 0]) (rest := [.long (((g_tb σ (5 * (k + 1) + (q + 1))) - (g_tb σ (5 * k + (q + 1)))) * (d - (g_tb σ (5 * k + 0)))), .long (g_tb σ (5 * k + (q + 1)))]) ⟨hx, hb, hml, hown, hts⟩ (m_cell l G C b σ ρ (r := (k + 1)) (q := 0) (by omega) (by omega)) (cwV 2 hts gX4_at_X4_cell rfl rfl rfl (by decide +kernel) ⟨Nat.le_of_ble_eq_true rfl, Nat.le_of_ble_eq_true rfl⟩) hK hN hP (0) 4 wM_e0 rfl rfl rfl hl.1 rfl (Nat.le_of_ble_eq_true rfl) dX4_at_92 ⟨Nat.zero_le _, Nat.zero_le _⟩ ?_
            refine lv_aload_n hx hb dX4_at_95 rfl (lv_at hl 1 rfl) ?_
            refine lv_iload hx hb dX4_at_96 (lv_at hl 4 rfl) ?_
            refine lv_iconst (v := 0) hx hb dX4_at_98 (by decide) ?_
            refine rd_callV (As := [.int (nI k), .int 0]) (rest := [.long (g_tb σ (5 * (k + 1) + 0)), .long (((g_tb σ (5 * (k + 1) + (q + 1))) - (g_tb σ (5 * k + (q + 1)))) * (d - (g_tb σ (5 * k + 0)))), .long (g_tb σ (5 * k + (q + 1)))]) ⟨hx, hb, hml, hown, hts⟩ (m_cell l G C b σ ρ (r := k) (q := 0) (by omega) (by omega)) (cwV 2 hts gX4_at_X4_cell rfl rfl rfl (by decide +kernel) ⟨Nat.le_of_ble_eq_true rfl, Nat.le_of_ble_eq_true rfl⟩) hK hN hP (0) 4 wM_e0 rfl rfl rfl hl.1 rfl (Nat.le_of_ble_eq_true rfl) dX4_at_99 ⟨Nat.zero_le _, Nat.zero_le _⟩ ?_
            refine lv_lsub hx hb dX4_at_102 ?_
            refine rd_callS (As := [.long (((g_tb σ (5 * (k + 1) + (q + 1))) - (g_tb σ (5 * k + (q + 1)))) * (d - (g_tb σ (5 * k + 0)))), .long ((g_tb σ (5 * (k + 1) + 0)) - (g_tb σ (5 * k + 0)))]) (rest := [.long (g_tb σ (5 * k + (q + 1)))]) ⟨hx, hb, hml, hown, hts⟩ (m_quot l G C b σ ρ (((g_tb σ (5 * (k + 1) + (q + 1))) - (g_tb σ (5 * k + (q + 1)))) * (d - (g_tb σ (5 * k + 0)))) ((g_tb σ (5 * (k + 1) + 0)) - (g_tb σ (5 * k + 0))) (sub_ne (inv_st hI (k := k) c_1))) (va_cwS 2 hts gX4_at_X4_quotient rfl rfl rfl (by decide +kernel) ⟨Nat.le_of_ble_eq_true rfl, Nat.le_of_ble_eq_true rfl⟩) hK hN hP rfl hl.1 rfl (Nat.le_of_ble_eq_true rfl) dX4_at_103 ⟨Nat.zero_le _, Nat.zero_le _⟩ ?_
            refine lv_ladd hx hb dX4_at_106 ?_
            exact rd_lret hx hb hr hlocks (congrArg Value.long (at_mid hI (k := k) c_1 g_2 c_4 c_3)) dX4_at_107
          · skip
            refine lv_lload hx hb dX4_at_57 (lv_at hl 0 rfl) ?_
            exact rd_lret hx hb hr hlocks (congrArg Value.long (at_eq hI g_1 c_4)) dX4_at_59
        · skip
          refine lv_iinc (v := nI (k + 1)) (lv' := [(4, .int (nI (k + 1))), (0, .ref (b 0)), (1, .int (nI q)), (2, .long d)]) hx hb dX4_at_28 hl (k := 3) rfl (nI_add k 1) (by decide) rfl (fun ls hl => ?_)
          refine lv_goto (tgt := 3) hx hb dX4_at_31 (by decide) ?_
          exact ih (k + 1) (by omega) (by omega) c_3 ls (lv_sub hl [1, 2, 3, 0] rfl)
  exact key3 (g_n σ) 0 (by omega) hc.1 hc.2.1 ls (lv_sub hl [1, 2, 3, 0] rfl)

set_option maxHeartbeats 4000000 in
set_option maxRecDepth 100000 in
theorem m_mean0 (l : Launch) (G : va_G) (C : Nat → ClassId) (b : Nat → Nat) (σ : SG) (ρ : KM) (hI : Inv σ) {j : Nat} (hj : j < 4) {h : Int64} (hh : sm h) : RdC l yX4_mean wsX4_mean ({ frames := 1, cells := 0, slots := 0, locals := 25 } : Room) G (tysC C) (wM C b σ ρ) [.ref (b 0), .int (nI j), .int 0, .long h] (.long (fF σ j + h)) := by
  refine Met.ofW (cc := cX4_mean) (maxL := 9) (ret := (some .long)) (by decide) rfl ?_
  intro p e s m args below meth c s₁ B hml hv
  obtain ⟨rfl, hP, hK, hN⟩ := hv
  have hx := B.exec
  have hb := B.bytes
  have hr := B.returns
  have hts := atoms_spec (ws := wsX4_mean) B.pre
  have hown : s.vm.findClass RX4 = some m.cls := findClass_of_methodNamed B.named
  have hlocks := B.notSynchronized
  have hX4 : ∀ w ∈ wsX40, w ∈ wsX4_mean := by decide +kernel
  have hP : va_P G vwCl (wM C b σ ρ) s.heap := hP
  have hl := lv_entry ([.ref (b 0), .int (nI j), .int 0, .long h]) (n := 9) (Nat.le_of_ble_eq_true rfl)
  rw [lg_entry_eq]
  generalize (lg_sl ([.ref (b 0), .int (nI j), .int 0, .long h]) ++ List.replicate (9 - (lg_sl ([.ref (b 0), .int (nI j), .int 0, .long h])).length) Slot.unset).toArray = ls at hl ⊢
  have hl : lv_has ls 9 [(0, .ref (b 0)), (1, .int (nI j)), (2, .int 0), (3, .long h)] := hl
  refine lv_aload_n hx hb dX4_mean_0 rfl (lv_at hl 0 rfl) ?_
  refine va_get (D := G) (ci := 4) (v := .ref (b 3)) (C := RX4) (T := TX4) (N := 13) hx hb hts hX4 hown hK hP (0) wM_e0 rfl 4 (by decide) (hts (.fieldLink RX4 17 "DraftSurveyModel" "readings" "[J") (by decide +kernel)) (fun _ h9 => h9) rfl dX4_mean_1 ?_
  refine lv_bipush (v := 6) hx hb dX4_mean_4 (by decide) ?_
  refine lv_iload_n hx hb dX4_mean_6 rfl (lv_at hl 1 rfl) ?_
  refine lv_imul hx hb dX4_mean_7 ?_
  refine tp_i (v := nI (6 * j)) (pk_mul 6 j) ?_
  refine lv_iconst (v := 2) hx hb dX4_mean_8 (by decide) ?_
  refine lv_iload_n hx hb dX4_mean_9 rfl (lv_at hl 2 rfl) ?_
  refine lv_imul hx hb dX4_mean_10 ?_
  refine tp_i (v := 0) (by decide) ?_
  refine lv_iadd hx hb dX4_mean_11 ?_
  refine tp_i (v := nI ((6 * j) + 0)) (nI_add (6 * j) 0) ?_
  refine ar_l (k := ((6 * j) + 0)) (v := g_rd σ ((6 * j) + 0)) hx hb hK hP (3) 1 wM_e3 rfl rfl (by omega) (by decide) rfl dX4_mean_12 ?_
  refine lv_lload_n hx hb dX4_mean_13 rfl (lv_at hl 3 rfl) ?_
  refine lv_ladd hx hb dX4_mean_14 ?_
  refine lv_lstore (lv' := [(5, .long ((g_rd σ ((6 * j) + 0)) + h)), (0, .ref (b 0)), (1, .int (nI j)), (2, .int 0), (3, .long h)]) hx hb dX4_mean_15 hl (by decide) rfl (fun ls hl => ?_)
  refine lv_aload_n hx hb dX4_mean_17 rfl (lv_at hl 1 rfl) ?_
  refine va_get (D := G) (ci := 4) (v := .ref (b 3)) (C := RX4) (T := TX4) (N := 13) hx hb hts hX4 hown hK hP (0) wM_e0 rfl 4 (by decide) (hts (.fieldLink RX4 17 "DraftSurveyModel" "readings" "[J") (by decide +kernel)) (fun _ h9 => h9) rfl dX4_mean_18 ?_
  refine lv_bipush (v := 6) hx hb dX4_mean_21 (by decide) ?_
  refine lv_iload_n hx hb dX4_mean_23 rfl (lv_at hl 2 rfl) ?_
  refine lv_imul hx hb dX4_mean_24 ?_
  refine tp_i (v := nI (6 * j)) (pk_mul 6 j) ?_
  refine lv_iconst (v := 2) hx hb dX4_mean_25 (by decide) ?_
  refine lv_iload_n hx hb dX4_mean_26 rfl (lv_at hl 3 rfl) ?_
  refine lv_imul hx hb dX4_mean_27 ?_
  refine tp_i (v := 0) (by decide) ?_
  refine lv_iadd hx hb dX4_mean_28 ?_
  refine tp_i (v := nI ((6 * j) + 0)) (nI_add (6 * j) 0) ?_
  refine lv_iconst (v := 1) hx hb dX4_mean_29 (by decide) ?_
  refine lv_iadd hx hb dX4_mean_30 ?_
  refine tp_i (v := nI (((6 * j) + 0) + 1)) (nI_add ((6 * j) + 0) 1) ?_
  refine ar_l (k := (((6 * j) + 0) + 1)) (v := g_rd σ (((6 * j) + 0) + 1)) hx hb hK hP (3) 1 wM_e3 rfl rfl (by omega) (by decide) rfl dX4_mean_31 ?_
  refine lv_lload_n hx hb dX4_mean_32 rfl (lv_at hl 4 rfl) ?_
  refine lv_ladd hx hb dX4_mean_33 ?_
  refine lv_lstore (lv' := [(7, .long ((g_rd σ (((6 * j) + 0) + 1)) + h)), (5, .long ((g_rd σ ((6 * j) + 0)) + h)), (0, .ref (b 0)), (1, .int (nI j)), (2, .int 0), (3, .long h)]) hx hb dX4_mean_34 hl (by decide) rfl (fun ls hl => ?_)
  refine lv_lload hx hb dX4_mean_36 (lv_at hl 1 rfl) ?_
  refine lv_lload hx hb dX4_mean_38 (lv_at hl 0 rfl) ?_
  refine lv_ladd hx hb dX4_mean_40 ?_
  refine lv_ldc2 (v := 2) hx hb hown (hts (.constantLong RX4 133 (2)) (by decide +kernel)) dX4_mean_41 ?_
  refine rd_callS (As := [.long (((g_rd σ ((6 * j) + 0)) + h) + ((g_rd σ (((6 * j) + 0) + 1)) + h)), .long 2]) (rest := []) ⟨hx, hb, hml, hown, hts⟩ (m_quot l G C b σ ρ (((g_rd σ ((6 * j) + 0)) + h) + ((g_rd σ (((6 * j) + 0) + 1)) + h)) 2 (by decide)) (va_cwS 2 hts gX4_mean_X4_quotient rfl rfl rfl (by decide +kernel) ⟨Nat.le_of_ble_eq_true rfl, Nat.le_of_ble_eq_true rfl⟩) hK hN hP rfl hl.1 rfl (Nat.le_of_ble_eq_true rfl) dX4_mean_44 ⟨Nat.zero_le _, Nat.zero_le _⟩ ?_
  exact rd_lret hx hb hr hlocks (congrArg Value.long (mean_sh (inv_rd hI (by omega)) (inv_rd hI (by omega)) hh)) dX4_mean_47

set_option maxHeartbeats 4000000 in
set_option maxRecDepth 100000 in
theorem m_mean1 (l : Launch) (G : va_G) (C : Nat → ClassId) (b : Nat → Nat) (σ : SG) (ρ : KM) (hI : Inv σ) {j : Nat} (hj : j < 4) {h : Int64} (hh : sm h) : RdC l yX4_mean wsX4_mean ({ frames := 1, cells := 0, slots := 0, locals := 25 } : Room) G (tysC C) (wM C b σ ρ) [.ref (b 0), .int (nI j), .int 1, .long h] (.long (fM σ j + h)) := by
  refine Met.ofW (cc := cX4_mean) (maxL := 9) (ret := (some .long)) (by decide) rfl ?_
  intro p e s m args below meth c s₁ B hml hv
  obtain ⟨rfl, hP, hK, hN⟩ := hv
  have hx := B.exec
  have hb := B.bytes
  have hr := B.returns
  have hts := atoms_spec (ws := wsX4_mean) B.pre
  have hown : s.vm.findClass RX4 = some m.cls := findClass_of_methodNamed B.named
  have hlocks := B.notSynchronized
  have hX4 : ∀ w ∈ wsX40, w ∈ wsX4_mean := by decide +kernel
  have hP : va_P G vwCl (wM C b σ ρ) s.heap := hP
  have hl := lv_entry ([.ref (b 0), .int (nI j), .int 1, .long h]) (n := 9) (Nat.le_of_ble_eq_true rfl)
  rw [lg_entry_eq]
  generalize (lg_sl ([.ref (b 0), .int (nI j), .int 1, .long h]) ++ List.replicate (9 - (lg_sl ([.ref (b 0), .int (nI j), .int 1, .long h])).length) Slot.unset).toArray = ls at hl ⊢
  have hl : lv_has ls 9 [(0, .ref (b 0)), (1, .int (nI j)), (2, .int 1), (3, .long h)] := hl
  refine lv_aload_n hx hb dX4_mean_0 rfl (lv_at hl 0 rfl) ?_
  refine va_get (D := G) (ci := 4) (v := .ref (b 3)) (C := RX4) (T := TX4) (N := 13) hx hb hts hX4 hown hK hP (0) wM_e0 rfl 4 (by decide) (hts (.fieldLink RX4 17 "DraftSurveyModel" "readings" "[J") (by decide +kernel)) (fun _ h9 => h9) rfl dX4_mean_1 ?_
  refine lv_bipush (v := 6) hx hb dX4_mean_4 (by decide) ?_
  refine lv_iload_n hx hb dX4_mean_6 rfl (lv_at hl 1 rfl) ?_
  refine lv_imul hx hb dX4_mean_7 ?_
  refine tp_i (v := nI (6 * j)) (pk_mul 6 j) ?_
  refine lv_iconst (v := 2) hx hb dX4_mean_8 (by decide) ?_
  refine lv_iload_n hx hb dX4_mean_9 rfl (lv_at hl 2 rfl) ?_
  refine lv_imul hx hb dX4_mean_10 ?_
  refine tp_i (v := 2) (by decide) ?_
  refine lv_iadd hx hb dX4_mean_11 ?_
  refine tp_i (v := nI ((6 * j) + 2)) (nI_add (6 * j) 2) ?_
  refine ar_l (k := ((6 * j) + 2)) (v := g_rd σ ((6 * j) + 2)) hx hb hK hP (3) 1 wM_e3 rfl rfl (by omega) (by decide) rfl dX4_mean_12 ?_
  refine lv_lload_n hx hb dX4_mean_13 rfl (lv_at hl 3 rfl) ?_
  refine lv_ladd hx hb dX4_mean_14 ?_
  refine lv_lstore (lv' := [(5, .long ((g_rd σ ((6 * j) + 2)) + h)), (0, .ref (b 0)), (1, .int (nI j)), (2, .int 1), (3, .long h)]) hx hb dX4_mean_15 hl (by decide) rfl (fun ls hl => ?_)
  refine lv_aload_n hx hb dX4_mean_17 rfl (lv_at hl 1 rfl) ?_
  refine va_get (D := G) (ci := 4) (v := .ref (b 3)) (C := RX4) (T := TX4) (N := 13) hx hb hts hX4 hown hK hP (0) wM_e0 rfl 4 (by decide) (hts (.fieldLink RX4 17 "DraftSurveyModel" "readings" "[J") (by decide +kernel)) (fun _ h9 => h9) rfl dX4_mean_18 ?_
  refine lv_bipush (v := 6) hx hb dX4_mean_21 (by decide) ?_
  refine lv_iload_n hx hb dX4_mean_23 rfl (lv_at hl 2 rfl) ?_
  refine lv_imul hx hb dX4_mean_24 ?_
  refine tp_i (v := nI (6 * j)) (pk_mul 6 j) ?_
  refine lv_iconst (v := 2) hx hb dX4_mean_25 (by decide) ?_
  refine lv_iload_n hx hb dX4_mean_26 rfl (lv_at hl 3 rfl) ?_
  refine lv_imul hx hb dX4_mean_27 ?_
  refine tp_i (v := 2) (by decide) ?_
  refine lv_iadd hx hb dX4_mean_28 ?_
  refine tp_i (v := nI ((6 * j) + 2)) (nI_add (6 * j) 2) ?_
  refine lv_iconst (v := 1) hx hb dX4_mean_29 (by decide) ?_
  refine lv_iadd hx hb dX4_mean_30 ?_
  refine tp_i (v := nI (((6 * j) + 2) + 1)) (nI_add ((6 * j) + 2) 1) ?_
  refine ar_l (k := (((6 * j) + 2) + 1)) (v := g_rd σ (((6 * j) + 2) + 1)) hx hb hK hP (3) 1 wM_e3 rfl rfl (by omega) (by decide) rfl dX4_mean_31 ?_
  refine lv_lload_n hx hb dX4_mean_32 rfl (lv_at hl 4 rfl) ?_
  refine lv_ladd hx hb dX4_mean_33 ?_
  refine lv_lstore (lv' := [(7, .long ((g_rd σ (((6 * j) + 2) + 1)) + h)), (5, .long ((g_rd σ ((6 * j) + 2)) + h)), (0, .ref (b 0)), (1, .int (nI j)), (2, .int 1), (3, .long h)]) hx hb dX4_mean_34 hl (by decide) rfl (fun ls hl => ?_)
  refine lv_lload hx hb dX4_mean_36 (lv_at hl 1 rfl) ?_
  refine lv_lload hx hb dX4_mean_38 (lv_at hl 0 rfl) ?_
  refine lv_ladd hx hb dX4_mean_40 ?_
  refine lv_ldc2 (v := 2) hx hb hown (hts (.constantLong RX4 133 (2)) (by decide +kernel)) dX4_mean_41 ?_
  refine rd_callS (As := [.long (((g_rd σ ((6 * j) + 2)) + h) + ((g_rd σ (((6 * j) + 2) + 1)) + h)), .long 2]) (rest := []) ⟨hx, hb, hml, hown, hts⟩ (m_quot l G C b σ ρ (((g_rd σ ((6 * j) + 2)) + h) + ((g_rd σ (((6 * j) + 2) + 1)) + h)) 2 (by decide)) (va_cwS 2 hts gX4_mean_X4_quotient rfl rfl rfl (by decide +kernel) ⟨Nat.le_of_ble_eq_true rfl, Nat.le_of_ble_eq_true rfl⟩) hK hN hP rfl hl.1 rfl (Nat.le_of_ble_eq_true rfl) dX4_mean_44 ⟨Nat.zero_le _, Nat.zero_le _⟩ ?_
  exact rd_lret hx hb hr hlocks (congrArg Value.long (mean_sh (inv_rd hI (by omega)) (inv_rd hI (by omega)) hh)) dX4_mean_47

set_option maxHeartbeats 4000000 in
set_option maxRecDepth 100000 in
theorem m_mean2 (l : Launch) (G : va_G) (C : Nat → ClassId) (b : Nat → Nat) (σ : SG) (ρ : KM) (hI : Inv σ) {j : Nat} (hj : j < 4) {h : Int64} (hh : sm h) : RdC l yX4_mean wsX4_mean ({ frames := 1, cells := 0, slots := 0, locals := 25 } : Room) G (tysC C) (wM C b σ ρ) [.ref (b 0), .int (nI j), .int 2, .long h] (.long (fA σ j + h)) := by
  refine Met.ofW (cc := cX4_mean) (maxL := 9) (ret := (some .long)) (by decide) rfl ?_
  intro p e s m args below meth c s₁ B hml hv
  obtain ⟨rfl, hP, hK, hN⟩ := hv
  have hx := B.exec
  have hb := B.bytes
  have hr := B.returns
  have hts := atoms_spec (ws := wsX4_mean) B.pre
  have hown : s.vm.findClass RX4 = some m.cls := findClass_of_methodNamed B.named
  have hlocks := B.notSynchronized
  have hX4 : ∀ w ∈ wsX40, w ∈ wsX4_mean := by decide +kernel
  have hP : va_P G vwCl (wM C b σ ρ) s.heap := hP
  have hl := lv_entry ([.ref (b 0), .int (nI j), .int 2, .long h]) (n := 9) (Nat.le_of_ble_eq_true rfl)
  rw [lg_entry_eq]
  generalize (lg_sl ([.ref (b 0), .int (nI j), .int 2, .long h]) ++ List.replicate (9 - (lg_sl ([.ref (b 0), .int (nI j), .int 2, .long h])).length) Slot.unset).toArray = ls at hl ⊢
  have hl : lv_has ls 9 [(0, .ref (b 0)), (1, .int (nI j)), (2, .int 2), (3, .long h)] := hl
  refine lv_aload_n hx hb dX4_mean_0 rfl (lv_at hl 0 rfl) ?_
  refine va_get (D := G) (ci := 4) (v := .ref (b 3)) (C := RX4) (T := TX4) (N := 13) hx hb hts hX4 hown hK hP (0) wM_e0 rfl 4 (by decide) (hts (.fieldLink RX4 17 "DraftSurveyModel" "readings" "[J") (by decide +kernel)) (fun _ h9 => h9) rfl dX4_mean_1 ?_
  refine lv_bipush (v := 6) hx hb dX4_mean_4 (by decide) ?_
  refine lv_iload_n hx hb dX4_mean_6 rfl (lv_at hl 1 rfl) ?_
  refine lv_imul hx hb dX4_mean_7 ?_
  refine tp_i (v := nI (6 * j)) (pk_mul 6 j) ?_
  refine lv_iconst (v := 2) hx hb dX4_mean_8 (by decide) ?_
  refine lv_iload_n hx hb dX4_mean_9 rfl (lv_at hl 2 rfl) ?_
  refine lv_imul hx hb dX4_mean_10 ?_
  refine tp_i (v := 4) (by decide) ?_
  refine lv_iadd hx hb dX4_mean_11 ?_
  refine tp_i (v := nI ((6 * j) + 4)) (nI_add (6 * j) 4) ?_
  refine ar_l (k := ((6 * j) + 4)) (v := g_rd σ ((6 * j) + 4)) hx hb hK hP (3) 1 wM_e3 rfl rfl (by omega) (by decide) rfl dX4_mean_12 ?_
  refine lv_lload_n hx hb dX4_mean_13 rfl (lv_at hl 3 rfl) ?_
  refine lv_ladd hx hb dX4_mean_14 ?_
  refine lv_lstore (lv' := [(5, .long ((g_rd σ ((6 * j) + 4)) + h)), (0, .ref (b 0)), (1, .int (nI j)), (2, .int 2), (3, .long h)]) hx hb dX4_mean_15 hl (by decide) rfl (fun ls hl => ?_)
  refine lv_aload_n hx hb dX4_mean_17 rfl (lv_at hl 1 rfl) ?_
  refine va_get (D := G) (ci := 4) (v := .ref (b 3)) (C := RX4) (T := TX4) (N := 13) hx hb hts hX4 hown hK hP (0) wM_e0 rfl 4 (by decide) (hts (.fieldLink RX4 17 "DraftSurveyModel" "readings" "[J") (by decide +kernel)) (fun _ h9 => h9) rfl dX4_mean_18 ?_
  refine lv_bipush (v := 6) hx hb dX4_mean_21 (by decide) ?_
  refine lv_iload_n hx hb dX4_mean_23 rfl (lv_at hl 2 rfl) ?_
  refine lv_imul hx hb dX4_mean_24 ?_
  refine tp_i (v := nI (6 * j)) (pk_mul 6 j) ?_
  refine lv_iconst (v := 2) hx hb dX4_mean_25 (by decide) ?_
  refine lv_iload_n hx hb dX4_mean_26 rfl (lv_at hl 3 rfl) ?_
  refine lv_imul hx hb dX4_mean_27 ?_
  refine tp_i (v := 4) (by decide) ?_
  refine lv_iadd hx hb dX4_mean_28 ?_
  refine tp_i (v := nI ((6 * j) + 4)) (nI_add (6 * j) 4) ?_
  refine lv_iconst (v := 1) hx hb dX4_mean_29 (by decide) ?_
  refine lv_iadd hx hb dX4_mean_30 ?_
  refine tp_i (v := nI (((6 * j) + 4) + 1)) (nI_add ((6 * j) + 4) 1) ?_
  refine ar_l (k := (((6 * j) + 4) + 1)) (v := g_rd σ (((6 * j) + 4) + 1)) hx hb hK hP (3) 1 wM_e3 rfl rfl (by omega) (by decide) rfl dX4_mean_31 ?_
  refine lv_lload_n hx hb dX4_mean_32 rfl (lv_at hl 4 rfl) ?_
  refine lv_ladd hx hb dX4_mean_33 ?_
  refine lv_lstore (lv' := [(7, .long ((g_rd σ (((6 * j) + 4) + 1)) + h)), (5, .long ((g_rd σ ((6 * j) + 4)) + h)), (0, .ref (b 0)), (1, .int (nI j)), (2, .int 2), (3, .long h)]) hx hb dX4_mean_34 hl (by decide) rfl (fun ls hl => ?_)
  refine lv_lload hx hb dX4_mean_36 (lv_at hl 1 rfl) ?_
  refine lv_lload hx hb dX4_mean_38 (lv_at hl 0 rfl) ?_
  refine lv_ladd hx hb dX4_mean_40 ?_
  refine lv_ldc2 (v := 2) hx hb hown (hts (.constantLong RX4 133 (2)) (by decide +kernel)) dX4_mean_41 ?_
  refine rd_callS (As := [.long (((g_rd σ ((6 * j) + 4)) + h) + ((g_rd σ (((6 * j) + 4) + 1)) + h)), .long 2]) (rest := []) ⟨hx, hb, hml, hown, hts⟩ (m_quot l G C b σ ρ (((g_rd σ ((6 * j) + 4)) + h) + ((g_rd σ (((6 * j) + 4) + 1)) + h)) 2 (by decide)) (va_cwS 2 hts gX4_mean_X4_quotient rfl rfl rfl (by decide +kernel) ⟨Nat.le_of_ble_eq_true rfl, Nat.le_of_ble_eq_true rfl⟩) hK hN hP rfl hl.1 rfl (Nat.le_of_ble_eq_true rfl) dX4_mean_44 ⟨Nat.zero_le _, Nat.zero_le _⟩ ?_
  exact rd_lret hx hb hr hlocks (congrArg Value.long (mean_sh (inv_rd hI (by omega)) (inv_rd hI (by omega)) hh)) dX4_mean_47

set_option maxHeartbeats 4000000 in
set_option maxRecDepth 100000 in
theorem m_trimOf (l : Launch) (G : va_G) (C : Nat → ClassId) (b : Nat → Nat) (σ : SG) (ρ : KM) (hI : Inv σ) {j : Nat} (hj : j < 4) {h : Int64} (hh : sm h) : RdC l yX4_trimOf wsX4_trimOf ({ frames := 2, cells := 0, slots := 0, locals := 53 } : Room) G (tysC C) (wM C b σ ρ) [.ref (b 0), .int (nI j), .long h] (.long (tr σ j)) := by
  refine Met.ofW (cc := cX4_trimOf) (maxL := 4) (ret := (some .long)) (by decide) rfl ?_
  intro p e s m args below meth c s₁ B hml hv
  obtain ⟨rfl, hP, hK, hN⟩ := hv
  have hx := B.exec
  have hb := B.bytes
  have hr := B.returns
  have hts := atoms_spec (ws := wsX4_trimOf) B.pre
  have hown : s.vm.findClass RX4 = some m.cls := findClass_of_methodNamed B.named
  have hlocks := B.notSynchronized
  have hP : va_P G vwCl (wM C b σ ρ) s.heap := hP
  have hl := lv_entry ([.ref (b 0), .int (nI j), .long h]) (n := 4) (Nat.le_of_ble_eq_true rfl)
  rw [lg_entry_eq]
  generalize (lg_sl ([.ref (b 0), .int (nI j), .long h]) ++ List.replicate (4 - (lg_sl ([.ref (b 0), .int (nI j), .long h])).length) Slot.unset).toArray = ls at hl ⊢
  have hl : lv_has ls 4 [(0, .ref (b 0)), (1, .int (nI j)), (2, .long h)] := hl
  refine lv_aload_n hx hb dX4_trimOf_0 rfl (lv_at hl 0 rfl) ?_
  refine lv_iload_n hx hb dX4_trimOf_1 rfl (lv_at hl 1 rfl) ?_
  refine lv_iconst (v := 2) hx hb dX4_trimOf_2 (by decide) ?_
  refine lv_lload_n hx hb dX4_trimOf_3 rfl (lv_at hl 2 rfl) ?_
  refine rd_callV (As := [.int (nI j), .int 2, .long h]) (rest := []) ⟨hx, hb, hml, hown, hts⟩ (m_mean2 l G C b σ ρ hI (j := j) hj hh) (cwV 3 hts gX4_trimOf_X4_mean rfl rfl rfl (by decide +kernel) ⟨Nat.le_of_ble_eq_true rfl, Nat.le_of_ble_eq_true rfl⟩) hK hN hP (0) 4 wM_e0 rfl rfl rfl hl.1 rfl (Nat.le_of_ble_eq_true rfl) dX4_trimOf_4 ⟨Nat.zero_le _, Nat.zero_le _⟩ ?_
  refine lv_aload_n hx hb dX4_trimOf_7 rfl (lv_at hl 0 rfl) ?_
  refine lv_iload_n hx hb dX4_trimOf_8 rfl (lv_at hl 1 rfl) ?_
  refine lv_iconst (v := 0) hx hb dX4_trimOf_9 (by decide) ?_
  refine lv_lload_n hx hb dX4_trimOf_10 rfl (lv_at hl 2 rfl) ?_
  refine rd_callV (As := [.int (nI j), .int 0, .long h]) (rest := [.long (fA σ j + h)]) ⟨hx, hb, hml, hown, hts⟩ (m_mean0 l G C b σ ρ hI (j := j) hj hh) (cwV 3 hts gX4_trimOf_X4_mean rfl rfl rfl (by decide +kernel) ⟨Nat.le_of_ble_eq_true rfl, Nat.le_of_ble_eq_true rfl⟩) hK hN hP (0) 4 wM_e0 rfl rfl rfl hl.1 rfl (Nat.le_of_ble_eq_true rfl) dX4_trimOf_11 ⟨Nat.zero_le _, Nat.zero_le _⟩ ?_
  refine lv_lsub hx hb dX4_trimOf_14 ?_
  exact rd_lret hx hb hr hlocks (congrArg Value.long (by unfold tr; grind)) dX4_trimOf_15

set_option maxHeartbeats 4000000 in
set_option maxRecDepth 100000 in
theorem m_quarter (l : Launch) (G : va_G) (C : Nat → ClassId) (b : Nat → Nat) (σ : SG) (ρ : KM) (hI : Inv σ) {j : Nat} (hj : j < 4) {h : Int64} (hh : sm h) : RdC l yX4_quarter wsX4_quarter ({ frames := 2, cells := 0, slots := 0, locals := 53 } : Room) G (tysC C) (wM C b σ ρ) [.ref (b 0), .int (nI j), .long h] (.long (qm σ j + h)) := by
  refine Met.ofW (cc := cX4_quarter) (maxL := 4) (ret := (some .long)) (by decide) rfl ?_
  intro p e s m args below meth c s₁ B hml hv
  obtain ⟨rfl, hP, hK, hN⟩ := hv
  have hx := B.exec
  have hb := B.bytes
  have hr := B.returns
  have hts := atoms_spec (ws := wsX4_quarter) B.pre
  have hown : s.vm.findClass RX4 = some m.cls := findClass_of_methodNamed B.named
  have hlocks := B.notSynchronized
  have hP : va_P G vwCl (wM C b σ ρ) s.heap := hP
  have hl := lv_entry ([.ref (b 0), .int (nI j), .long h]) (n := 4) (Nat.le_of_ble_eq_true rfl)
  rw [lg_entry_eq]
  generalize (lg_sl ([.ref (b 0), .int (nI j), .long h]) ++ List.replicate (4 - (lg_sl ([.ref (b 0), .int (nI j), .long h])).length) Slot.unset).toArray = ls at hl ⊢
  have hl : lv_has ls 4 [(0, .ref (b 0)), (1, .int (nI j)), (2, .long h)] := hl
  refine lv_aload_n hx hb dX4_quarter_0 rfl (lv_at hl 0 rfl) ?_
  refine lv_iload_n hx hb dX4_quarter_1 rfl (lv_at hl 1 rfl) ?_
  refine lv_iconst (v := 0) hx hb dX4_quarter_2 (by decide) ?_
  refine lv_lload_n hx hb dX4_quarter_3 rfl (lv_at hl 2 rfl) ?_
  refine rd_callV (As := [.int (nI j), .int 0, .long h]) (rest := []) ⟨hx, hb, hml, hown, hts⟩ (m_mean0 l G C b σ ρ hI (j := j) hj hh) (cwV 3 hts gX4_quarter_X4_mean rfl rfl rfl (by decide +kernel) ⟨Nat.le_of_ble_eq_true rfl, Nat.le_of_ble_eq_true rfl⟩) hK hN hP (0) 4 wM_e0 rfl rfl rfl hl.1 rfl (Nat.le_of_ble_eq_true rfl) dX4_quarter_4 ⟨Nat.zero_le _, Nat.zero_le _⟩ ?_
  refine lv_ldc2 (v := 6) hx hb hown (hts (.constantLong RX4 139 (6)) (by decide +kernel)) dX4_quarter_7 ?_
  refine lv_aload_n hx hb dX4_quarter_10 rfl (lv_at hl 0 rfl) ?_
  refine lv_iload_n hx hb dX4_quarter_11 rfl (lv_at hl 1 rfl) ?_
  refine lv_iconst (v := 1) hx hb dX4_quarter_12 (by decide) ?_
  refine lv_lload_n hx hb dX4_quarter_13 rfl (lv_at hl 2 rfl) ?_
  refine rd_callV (As := [.int (nI j), .int 1, .long h]) (rest := [.long 6, .long (fF σ j + h)]) ⟨hx, hb, hml, hown, hts⟩ (m_mean1 l G C b σ ρ hI (j := j) hj hh) (cwV 3 hts gX4_quarter_X4_mean rfl rfl rfl (by decide +kernel) ⟨Nat.le_of_ble_eq_true rfl, Nat.le_of_ble_eq_true rfl⟩) hK hN hP (0) 4 wM_e0 rfl rfl rfl hl.1 rfl (Nat.le_of_ble_eq_true rfl) dX4_quarter_14 ⟨Nat.zero_le _, Nat.zero_le _⟩ ?_
  refine lv_lmul hx hb dX4_quarter_17 ?_
  refine lv_ladd hx hb dX4_quarter_18 ?_
  refine lv_aload_n hx hb dX4_quarter_19 rfl (lv_at hl 0 rfl) ?_
  refine lv_iload_n hx hb dX4_quarter_20 rfl (lv_at hl 1 rfl) ?_
  refine lv_iconst (v := 2) hx hb dX4_quarter_21 (by decide) ?_
  refine lv_lload_n hx hb dX4_quarter_22 rfl (lv_at hl 2 rfl) ?_
  refine rd_callV (As := [.int (nI j), .int 2, .long h]) (rest := [.long ((fF σ j + h) + (6 * (fM σ j + h)))]) ⟨hx, hb, hml, hown, hts⟩ (m_mean2 l G C b σ ρ hI (j := j) hj hh) (cwV 3 hts gX4_quarter_X4_mean rfl rfl rfl (by decide +kernel) ⟨Nat.le_of_ble_eq_true rfl, Nat.le_of_ble_eq_true rfl⟩) hK hN hP (0) 4 wM_e0 rfl rfl rfl hl.1 rfl (Nat.le_of_ble_eq_true rfl) dX4_quarter_23 ⟨Nat.zero_le _, Nat.zero_le _⟩ ?_
  refine lv_ladd hx hb dX4_quarter_26 ?_
  refine lv_ldc2 (v := 8) hx hb hown (hts (.constantLong RX4 141 (8)) (by decide +kernel)) dX4_quarter_27 ?_
  refine rd_callS (As := [.long (((fF σ j + h) + (6 * (fM σ j + h))) + (fA σ j + h)), .long 8]) (rest := []) ⟨hx, hb, hml, hown, hts⟩ (m_quot l G C b σ ρ (((fF σ j + h) + (6 * (fM σ j + h))) + (fA σ j + h)) 8 (by decide)) (va_cwS 2 hts gX4_quarter_X4_quotient rfl rfl rfl (by decide +kernel) ⟨Nat.le_of_ble_eq_true rfl, Nat.le_of_ble_eq_true rfl⟩) hK hN hP rfl hl.1 rfl (Nat.le_of_ble_eq_true rfl) dX4_quarter_30 ⟨Nat.zero_le _, Nat.zero_le _⟩ ?_
  exact rd_lret hx hb hr hlocks (congrArg Value.long (quar_sh (fF_dr hI hj) (fM_dr hI hj) (fA_dr hI hj) hh)) dX4_quarter_33

set_option maxHeartbeats 4000000 in
set_option maxRecDepth 100000 in
theorem m_deflOf (l : Launch) (G : va_G) (C : Nat → ClassId) (b : Nat → Nat) (σ : SG) (ρ : KM) (hI : Inv σ) {j : Nat} (hj : j < 4) : RdC l yX4_deflectionOf wsX4_deflectionOf ({ frames := 2, cells := 0, slots := 0, locals := 53 } : Room) G (tysC C) (wM C b σ ρ) [.ref (b 0), .int (nI j)] (.long (df σ j)) := by
  refine Met.ofW (cc := cX4_deflectionOf) (maxL := 2) (ret := (some .long)) (by decide) rfl ?_
  intro p e s m args below meth c s₁ B hml hv
  obtain ⟨rfl, hP, hK, hN⟩ := hv
  have hx := B.exec
  have hb := B.bytes
  have hr := B.returns
  have hts := atoms_spec (ws := wsX4_deflectionOf) B.pre
  have hown : s.vm.findClass RX4 = some m.cls := findClass_of_methodNamed B.named
  have hlocks := B.notSynchronized
  have hP : va_P G vwCl (wM C b σ ρ) s.heap := hP
  have hl := lv_entry ([.ref (b 0), .int (nI j)]) (n := 2) (Nat.le_of_ble_eq_true rfl)
  rw [lg_entry_eq]
  generalize (lg_sl ([.ref (b 0), .int (nI j)]) ++ List.replicate (2 - (lg_sl ([.ref (b 0), .int (nI j)])).length) Slot.unset).toArray = ls at hl ⊢
  have hl : lv_has ls 2 [(0, .ref (b 0)), (1, .int (nI j))] := hl
  refine lv_aload_n hx hb dX4_deflectionOf_0 rfl (lv_at hl 0 rfl) ?_
  refine lv_iload_n hx hb dX4_deflectionOf_1 rfl (lv_at hl 1 rfl) ?_
  refine lv_iconst (v := 1) hx hb dX4_deflectionOf_2 (by decide) ?_
  refine lv_lconst (v := 0) hx hb dX4_deflectionOf_3 (by decide) ?_
  refine rd_callV (As := [.int (nI j), .int 1, .long 0]) (rest := []) ⟨hx, hb, hml, hown, hts⟩ (m_mean1 l G C b σ ρ hI (j := j) hj sm_0) (cwV 3 hts gX4_deflectionOf_X4_mean rfl rfl rfl (by decide +kernel) ⟨Nat.le_of_ble_eq_true rfl, Nat.le_of_ble_eq_true rfl⟩) hK hN hP (0) 4 wM_e0 rfl rfl rfl hl.1 rfl (Nat.le_of_ble_eq_true rfl) dX4_deflectionOf_4 ⟨Nat.zero_le _, Nat.zero_le _⟩ ?_
  refine lv_aload_n hx hb dX4_deflectionOf_7 rfl (lv_at hl 0 rfl) ?_
  refine lv_iload_n hx hb dX4_deflectionOf_8 rfl (lv_at hl 1 rfl) ?_
  refine lv_iconst (v := 0) hx hb dX4_deflectionOf_9 (by decide) ?_
  refine lv_lconst (v := 0) hx hb dX4_deflectionOf_10 (by decide) ?_
  refine rd_callV (As := [.int (nI j), .int 0, .long 0]) (rest := [.long (fM σ j + 0)]) ⟨hx, hb, hml, hown, hts⟩ (m_mean0 l G C b σ ρ hI (j := j) hj sm_0) (cwV 3 hts gX4_deflectionOf_X4_mean rfl rfl rfl (by decide +kernel) ⟨Nat.le_of_ble_eq_true rfl, Nat.le_of_ble_eq_true rfl⟩) hK hN hP (0) 4 wM_e0 rfl rfl rfl hl.1 rfl (Nat.le_of_ble_eq_true rfl) dX4_deflectionOf_11 ⟨Nat.zero_le _, Nat.zero_le _⟩ ?_
  refine lv_aload_n hx hb dX4_deflectionOf_14 rfl (lv_at hl 0 rfl) ?_
  refine lv_iload_n hx hb dX4_deflectionOf_15 rfl (lv_at hl 1 rfl) ?_
  refine lv_iconst (v := 2) hx hb dX4_deflectionOf_16 (by decide) ?_
  refine lv_lconst (v := 0) hx hb dX4_deflectionOf_17 (by decide) ?_
  refine rd_callV (As := [.int (nI j), .int 2, .long 0]) (rest := [.long (fF σ j + 0), .long (fM σ j + 0)]) ⟨hx, hb, hml, hown, hts⟩ (m_mean2 l G C b σ ρ hI (j := j) hj sm_0) (cwV 3 hts gX4_deflectionOf_X4_mean rfl rfl rfl (by decide +kernel) ⟨Nat.le_of_ble_eq_true rfl, Nat.le_of_ble_eq_true rfl⟩) hK hN hP (0) 4 wM_e0 rfl rfl rfl hl.1 rfl (Nat.le_of_ble_eq_true rfl) dX4_deflectionOf_18 ⟨Nat.zero_le _, Nat.zero_le _⟩ ?_
  refine lv_ladd hx hb dX4_deflectionOf_21 ?_
  refine lv_ldc2 (v := 2) hx hb hown (hts (.constantLong RX4 133 (2)) (by decide +kernel)) dX4_deflectionOf_22 ?_
  refine rd_callS (As := [.long ((fF σ j + 0) + (fA σ j + 0)), .long 2]) (rest := [.long (fM σ j + 0)]) ⟨hx, hb, hml, hown, hts⟩ (m_quot l G C b σ ρ ((fF σ j + 0) + (fA σ j + 0)) 2 (by decide)) (va_cwS 2 hts gX4_deflectionOf_X4_quotient rfl rfl rfl (by decide +kernel) ⟨Nat.le_of_ble_eq_true rfl, Nat.le_of_ble_eq_true rfl⟩) hK hN hP rfl hl.1 rfl (Nat.le_of_ble_eq_true rfl) dX4_deflectionOf_25 ⟨Nat.zero_le _, Nat.zero_le _⟩ ?_
  refine lv_lsub hx hb dX4_deflectionOf_28 ?_
  exact rd_lret hx hb hr hlocks (congrArg Value.long (by simp only [df, Int64.add_zero])) dX4_deflectionOf_29

set_option maxHeartbeats 4000000 in
set_option maxRecDepth 100000 in
theorem m_heelOf (l : Launch) (G : va_G) (C : Nat → ClassId) (b : Nat → Nat) (σ : SG) (ρ : KM) (hI : Inv σ) {j : Nat} (hj : j < 4) : RdC l yX4_heelOf wsX4_heelOf ({ frames := 0, cells := 0, slots := 0, locals := 0 } : Room) G (tysC C) (wM C b σ ρ) [.ref (b 0), .int (nI j)] (.long (hl_ σ j)) := by
  refine Met.ofW (cc := cX4_heelOf) (maxL := 2) (ret := (some .long)) (by decide) rfl ?_
  intro p e s m args below meth c s₁ B hml hv
  obtain ⟨rfl, hP, hK, hN⟩ := hv
  have hx := B.exec
  have hb := B.bytes
  have hr := B.returns
  have hts := atoms_spec (ws := wsX4_heelOf) B.pre
  have hown : s.vm.findClass RX4 = some m.cls := findClass_of_methodNamed B.named
  have hlocks := B.notSynchronized
  have hX4 : ∀ w ∈ wsX40, w ∈ wsX4_heelOf := by decide +kernel
  have hP : va_P G vwCl (wM C b σ ρ) s.heap := hP
  have hl := lv_entry ([.ref (b 0), .int (nI j)]) (n := 2) (Nat.le_of_ble_eq_true rfl)
  rw [lg_entry_eq]
  generalize (lg_sl ([.ref (b 0), .int (nI j)]) ++ List.replicate (2 - (lg_sl ([.ref (b 0), .int (nI j)])).length) Slot.unset).toArray = ls at hl ⊢
  have hl : lv_has ls 2 [(0, .ref (b 0)), (1, .int (nI j))] := hl
  refine lv_aload_n hx hb dX4_heelOf_0 rfl (lv_at hl 0 rfl) ?_
  refine va_get (D := G) (ci := 4) (v := .ref (b 3)) (C := RX4) (T := TX4) (N := 13) hx hb hts hX4 hown hK hP (0) wM_e0 rfl 4 (by decide) (hts (.fieldLink RX4 17 "DraftSurveyModel" "readings" "[J") (by decide +kernel)) (fun _ h9 => h9) rfl dX4_heelOf_1 ?_
  refine lv_bipush (v := 6) hx hb dX4_heelOf_4 (by decide) ?_
  refine lv_iload_n hx hb dX4_heelOf_6 rfl (lv_at hl 1 rfl) ?_
  refine lv_imul hx hb dX4_heelOf_7 ?_
  refine tp_i (v := nI (6 * j)) (pk_mul 6 j) ?_
  refine lv_iconst (v := 3) hx hb dX4_heelOf_8 (by decide) ?_
  refine lv_iadd hx hb dX4_heelOf_9 ?_
  refine tp_i (v := nI ((6 * j) + 3)) (nI_add (6 * j) 3) ?_
  refine ar_l (k := ((6 * j) + 3)) (v := g_rd σ ((6 * j) + 3)) hx hb hK hP (3) 1 wM_e3 rfl rfl (by omega) (by decide) rfl dX4_heelOf_10 ?_
  refine lv_aload_n hx hb dX4_heelOf_11 rfl (lv_at hl 0 rfl) ?_
  refine va_get (D := G) (ci := 4) (v := .ref (b 3)) (C := RX4) (T := TX4) (N := 13) hx hb hts hX4 hown hK hP (0) wM_e0 rfl 4 (by decide) (hts (.fieldLink RX4 17 "DraftSurveyModel" "readings" "[J") (by decide +kernel)) (fun _ h9 => h9) rfl dX4_heelOf_12 ?_
  refine lv_bipush (v := 6) hx hb dX4_heelOf_15 (by decide) ?_
  refine lv_iload_n hx hb dX4_heelOf_17 rfl (lv_at hl 1 rfl) ?_
  refine lv_imul hx hb dX4_heelOf_18 ?_
  refine tp_i (v := nI (6 * j)) (pk_mul 6 j) ?_
  refine lv_iconst (v := 2) hx hb dX4_heelOf_19 (by decide) ?_
  refine lv_iadd hx hb dX4_heelOf_20 ?_
  refine tp_i (v := nI ((6 * j) + 2)) (nI_add (6 * j) 2) ?_
  refine ar_l (k := ((6 * j) + 2)) (v := g_rd σ ((6 * j) + 2)) hx hb hK hP (3) 1 wM_e3 rfl rfl (by omega) (by decide) rfl dX4_heelOf_21 ?_
  refine lv_lsub hx hb dX4_heelOf_22 ?_
  exact rd_lret hx hb hr hlocks (rfl) dX4_heelOf_23

set_option maxHeartbeats 4000000 in
set_option maxRecDepth 100000 in
theorem m_comp (l : Launch) (G : va_G) (C : Nat → ClassId) (b : Nat → Nat) (σ : SG) (ρ : KM) (hI : Inv σ) {j : Nat} (hj : j < 4) {h : Int64} (hh : sm h) : RdC l yX4_isComputable wsX4_isComputable ({ frames := 3, cells := 0, slots := 0, locals := 76 } : Room) G (tysC C) (wM C b σ ρ) [.ref (b 0), .int (nI j), .long h] (.int (if cmp σ j h then 1 else 0)) := by
  refine Met.ofW (cc := cX4_isComputable) (maxL := 4) (ret := (some .boolean)) (by decide) rfl ?_
  intro p e s m args below meth c s₁ B hml hv
  obtain ⟨rfl, hP, hK, hN⟩ := hv
  have hx := B.exec
  have hb := B.bytes
  have hr := B.returns
  have hts := atoms_spec (ws := wsX4_isComputable) B.pre
  have hown : s.vm.findClass RX4 = some m.cls := findClass_of_methodNamed B.named
  have hlocks := B.notSynchronized
  have hP : va_P G vwCl (wM C b σ ρ) s.heap := hP
  have hl := lv_entry ([.ref (b 0), .int (nI j), .long h]) (n := 4) (Nat.le_of_ble_eq_true rfl)
  rw [lg_entry_eq]
  generalize (lg_sl ([.ref (b 0), .int (nI j), .long h]) ++ List.replicate (4 - (lg_sl ([.ref (b 0), .int (nI j), .long h])).length) Slot.unset).toArray = ls at hl ⊢
  have hl : lv_has ls 4 [(0, .ref (b 0)), (1, .int (nI j)), (2, .long h)] := hl
  refine lv_aload_n hx hb dX4_isComputable_0 rfl (lv_at hl 0 rfl) ?_
  refine lv_aload_n hx hb dX4_isComputable_1 rfl (lv_at hl 0 rfl) ?_
  refine lv_iload_n hx hb dX4_isComputable_2 rfl (lv_at hl 1 rfl) ?_
  refine lv_lload_n hx hb dX4_isComputable_3 rfl (lv_at hl 2 rfl) ?_
  refine rd_callV (As := [.int (nI j), .long h]) (rest := [.ref (b 0)]) ⟨hx, hb, hml, hown, hts⟩ (m_quarter l G C b σ ρ hI (j := j) hj hh) (cwV 2 hts gX4_isComputable_X4_quarter rfl rfl rfl (by decide +kernel) ⟨Nat.le_of_ble_eq_true rfl, Nat.le_of_ble_eq_true rfl⟩) hK hN hP (0) 4 wM_e0 rfl rfl rfl hl.1 rfl (Nat.le_of_ble_eq_true rfl) dX4_isComputable_4 ⟨Nat.zero_le _, Nat.zero_le _⟩ ?_
  refine rd_callV (As := [.long (qm σ j + h)]) (rest := []) ⟨hx, hb, hml, hown, hts⟩ (m_cov l G C b σ ρ (inv_n hI) (qm σ j + h)) (cwV 1 hts gX4_isComputable_X4_isCovered rfl rfl rfl (by decide +kernel) ⟨Nat.le_of_ble_eq_true rfl, Nat.le_of_ble_eq_true rfl⟩) hK hN hP (0) 4 wM_e0 rfl rfl rfl hl.1 rfl (Nat.le_of_ble_eq_true rfl) dX4_isComputable_7 ⟨Nat.zero_le _, Nat.zero_le _⟩ ?_
  exact rd_zret hx hb hr hlocks bl_if (rfl) dX4_isComputable_10

set_option maxHeartbeats 4000000 in
set_option maxRecDepth 100000 in
theorem m_first (l : Launch) (G : va_G) (C : Nat → ClassId) (b : Nat → Nat) (σ : SG) (ρ : KM) (hI : Inv σ) {j : Nat} (hj : j < 4) {h : Int64} (hh : sm h) (hc : cmp σ j h) : RdC l yX4_first wsX4_first ({ frames := 3, cells := 0, slots := 0, locals := 76 } : Room) G (tysC C) (wM C b σ ρ) [.ref (b 0), .int (nI j), .long h] (.long (fc σ (qm σ j + h) (tr σ j))) := by
  refine Met.ofW (cc := cX4_first) (maxL := 6) (ret := (some .long)) (by decide) rfl ?_
  intro p e s m args below meth c s₁ B hml hv
  obtain ⟨rfl, hP, hK, hN⟩ := hv
  have hx := B.exec
  have hb := B.bytes
  have hr := B.returns
  have hts := atoms_spec (ws := wsX4_first) B.pre
  have hown : s.vm.findClass RX4 = some m.cls := findClass_of_methodNamed B.named
  have hlocks := B.notSynchronized
  have hX4 : ∀ w ∈ wsX40, w ∈ wsX4_first := by decide +kernel
  have hP : va_P G vwCl (wM C b σ ρ) s.heap := hP
  have hl := lv_entry ([.ref (b 0), .int (nI j), .long h]) (n := 6) (Nat.le_of_ble_eq_true rfl)
  rw [lg_entry_eq]
  generalize (lg_sl ([.ref (b 0), .int (nI j), .long h]) ++ List.replicate (6 - (lg_sl ([.ref (b 0), .int (nI j), .long h])).length) Slot.unset).toArray = ls at hl ⊢
  have hl : lv_has ls 6 [(0, .ref (b 0)), (1, .int (nI j)), (2, .long h)] := hl
  refine lv_aload_n hx hb dX4_first_0 rfl (lv_at hl 0 rfl) ?_
  refine lv_iload_n hx hb dX4_first_1 rfl (lv_at hl 1 rfl) ?_
  refine lv_lload_n hx hb dX4_first_2 rfl (lv_at hl 2 rfl) ?_
  refine rd_callV (As := [.int (nI j), .long h]) (rest := []) ⟨hx, hb, hml, hown, hts⟩ (m_quarter l G C b σ ρ hI (j := j) hj hh) (cwV 2 hts gX4_first_X4_quarter rfl rfl rfl (by decide +kernel) ⟨Nat.le_of_ble_eq_true rfl, Nat.le_of_ble_eq_true rfl⟩) hK hN hP (0) 4 wM_e0 rfl rfl rfl hl.1 rfl (Nat.le_of_ble_eq_true rfl) dX4_first_3 ⟨Nat.zero_le _, Nat.zero_le _⟩ ?_
  refine lv_lstore (lv' := [(4, .long (qm σ j + h)), (0, .ref (b 0)), (1, .int (nI j)), (2, .long h)]) hx hb dX4_first_6 hl (by decide) rfl (fun ls hl => ?_)
  refine lv_aload_n hx hb dX4_first_8 rfl (lv_at hl 1 rfl) ?_
  refine lv_iload_n hx hb dX4_first_9 rfl (lv_at hl 2 rfl) ?_
  refine lv_lload_n hx hb dX4_first_10 rfl (lv_at hl 3 rfl) ?_
  refine rd_callV (As := [.int (nI j), .long h]) (rest := []) ⟨hx, hb, hml, hown, hts⟩ (m_trimOf l G C b σ ρ hI (j := j) hj hh) (cwV 2 hts gX4_first_X4_trimOf rfl rfl rfl (by decide +kernel) ⟨Nat.le_of_ble_eq_true rfl, Nat.le_of_ble_eq_true rfl⟩) hK hN hP (0) 4 wM_e0 rfl rfl rfl hl.1 rfl (Nat.le_of_ble_eq_true rfl) dX4_first_11 ⟨Nat.zero_le _, Nat.zero_le _⟩ ?_
  refine lv_aload_n hx hb dX4_first_14 rfl (lv_at hl 1 rfl) ?_
  refine lv_iconst (v := 1) hx hb dX4_first_15 (by decide) ?_
  refine lv_lload hx hb dX4_first_16 (lv_at hl 0 rfl) ?_
  refine rd_callV (As := [.int 1, .long (qm σ j + h)]) (rest := [.long (tr σ j)]) ⟨hx, hb, hml, hown, hts⟩ (m_at l G C b σ ρ hI (q := 1) (by decide) hc) (cwV 2 hts gX4_first_X4_at rfl rfl rfl (by decide +kernel) ⟨Nat.le_of_ble_eq_true rfl, Nat.le_of_ble_eq_true rfl⟩) hK hN hP (0) 4 wM_e0 rfl rfl rfl hl.1 rfl (Nat.le_of_ble_eq_true rfl) dX4_first_18 ⟨Nat.zero_le _, Nat.zero_le _⟩ ?_
  refine lv_lmul hx hb dX4_first_21 ?_
  refine lv_aload_n hx hb dX4_first_22 rfl (lv_at hl 1 rfl) ?_
  refine lv_iconst (v := 2) hx hb dX4_first_23 (by decide) ?_
  refine lv_lload hx hb dX4_first_24 (lv_at hl 0 rfl) ?_
  refine rd_callV (As := [.int 2, .long (qm σ j + h)]) (rest := [.long ((tr σ j) * (vA σ 2 (qm σ j + h)))]) ⟨hx, hb, hml, hown, hts⟩ (m_at l G C b σ ρ hI (q := 2) (by decide) hc) (cwV 2 hts gX4_first_X4_at rfl rfl rfl (by decide +kernel) ⟨Nat.le_of_ble_eq_true rfl, Nat.le_of_ble_eq_true rfl⟩) hK hN hP (0) 4 wM_e0 rfl rfl rfl hl.1 rfl (Nat.le_of_ble_eq_true rfl) dX4_first_26 ⟨Nat.zero_le _, Nat.zero_le _⟩ ?_
  refine lv_lmul hx hb dX4_first_29 ?_
  refine lv_ldc2 (v := 100) hx hb hown (hts (.constantLong RX4 116 (100)) (by decide +kernel)) dX4_first_30 ?_
  refine lv_aload_n hx hb dX4_first_33 rfl (lv_at hl 1 rfl) ?_
  refine va_get (D := G) (ci := 4) (v := .long (g_len σ)) (C := RX4) (T := TX4) (N := 13) hx hb hts hX4 hown hK hP (0) wM_e0 rfl 7 (by decide) (hts (.fieldLink RX4 28 "DraftSurveyModel" "length" "J") (by decide +kernel)) (fun _ h9 => h9) rfl dX4_first_34 ?_
  refine lv_lmul hx hb dX4_first_37 ?_
  refine rd_callS (As := [.long (((tr σ j) * (vA σ 2 (qm σ j + h))) * (vA σ 3 (qm σ j + h))), .long (100 * (g_len σ))]) (rest := []) ⟨hx, hb, hml, hown, hts⟩ (m_quot l G C b σ ρ (((tr σ j) * (vA σ 2 (qm σ j + h))) * (vA σ 3 (qm σ j + h))) (100 * (g_len σ)) (len_100 hI)) (va_cwS 2 hts gX4_first_X4_quotient rfl rfl rfl (by decide +kernel) ⟨Nat.le_of_ble_eq_true rfl, Nat.le_of_ble_eq_true rfl⟩) hK hN hP rfl hl.1 rfl (Nat.le_of_ble_eq_true rfl) dX4_first_38 ⟨Nat.zero_le _, Nat.zero_le _⟩ ?_
  exact rd_lret hx hb hr hlocks (congrArg Value.long (by unfold fc qt; rw [if_neg (len_100 hI)])) dX4_first_41

set_option maxHeartbeats 4000000 in
set_option maxRecDepth 100000 in
theorem m_second (l : Launch) (G : va_G) (C : Nat → ClassId) (b : Nat → Nat) (σ : SG) (ρ : KM) (hI : Inv σ) {j : Nat} (hj : j < 4) {h : Int64} (hh : sm h) (hc : cmp σ j h) : RdC l yX4_second wsX4_second ({ frames := 3, cells := 0, slots := 0, locals := 76 } : Room) G (tysC C) (wM C b σ ρ) [.ref (b 0), .int (nI j), .long h] (.long (sc σ (qm σ j + h) (tr σ j))) := by
  refine Met.ofW (cc := cX4_second) (maxL := 12) (ret := (some .long)) (by decide) rfl ?_
  intro p e s m args below meth c s₁ B hml hv
  obtain ⟨rfl, hP, hK, hN⟩ := hv
  have hx := B.exec
  have hb := B.bytes
  have hr := B.returns
  have hts := atoms_spec (ws := wsX4_second) B.pre
  have hown : s.vm.findClass RX4 = some m.cls := findClass_of_methodNamed B.named
  have hlocks := B.notSynchronized
  have hX4 : ∀ w ∈ wsX40, w ∈ wsX4_second := by decide +kernel
  have hP : va_P G vwCl (wM C b σ ρ) s.heap := hP
  have hl := lv_entry ([.ref (b 0), .int (nI j), .long h]) (n := 12) (Nat.le_of_ble_eq_true rfl)
  rw [lg_entry_eq]
  generalize (lg_sl ([.ref (b 0), .int (nI j), .long h]) ++ List.replicate (12 - (lg_sl ([.ref (b 0), .int (nI j), .long h])).length) Slot.unset).toArray = ls at hl ⊢
  have hl : lv_has ls 12 [(0, .ref (b 0)), (1, .int (nI j)), (2, .long h)] := hl
  have hn := inv_n hI
  have h0 := hc.1
  refine lv_aload_n hx hb dX4_second_0 rfl (lv_at hl 0 rfl) ?_
  refine lv_iload_n hx hb dX4_second_1 rfl (lv_at hl 1 rfl) ?_
  refine lv_lload_n hx hb dX4_second_2 rfl (lv_at hl 2 rfl) ?_
  refine rd_callV (As := [.int (nI j), .long h]) (rest := []) ⟨hx, hb, hml, hown, hts⟩ (m_quarter l G C b σ ρ hI (j := j) hj hh) (cwV 2 hts gX4_second_X4_quarter rfl rfl rfl (by decide +kernel) ⟨Nat.le_of_ble_eq_true rfl, Nat.le_of_ble_eq_true rfl⟩) hK hN hP (0) 4 wM_e0 rfl rfl rfl hl.1 rfl (Nat.le_of_ble_eq_true rfl) dX4_second_3 ⟨Nat.zero_le _, Nat.zero_le _⟩ ?_
  refine lv_lstore (lv' := [(4, .long (qm σ j + h)), (0, .ref (b 0)), (1, .int (nI j)), (2, .long h)]) hx hb dX4_second_6 hl (by decide) rfl (fun ls hl => ?_)
  refine lv_lload hx hb dX4_second_8 (lv_at hl 0 rfl) ?_
  refine lv_ldc2 (v := 500) hx hb hown (hts (.constantLong RX4 155 (500)) (by decide +kernel)) dX4_second_10 ?_
  refine lv_lsub hx hb dX4_second_13 ?_
  refine lv_aload_n hx hb dX4_second_14 rfl (lv_at hl 1 rfl) ?_
  refine lv_iconst (v := 0) hx hb dX4_second_15 (by decide) ?_
  refine lv_iconst (v := 0) hx hb dX4_second_16 (by decide) ?_
  refine rd_callV (As := [.int 0, .int 0]) (rest := [.long ((qm σ j + h) - 500)]) ⟨hx, hb, hml, hown, hts⟩ (m_cell l G C b σ ρ (r := 0) (q := 0) (by omega) (by omega)) (cwV 2 hts gX4_second_X4_cell rfl rfl rfl (by decide +kernel) ⟨Nat.le_of_ble_eq_true rfl, Nat.le_of_ble_eq_true rfl⟩) hK hN hP (0) 4 wM_e0 rfl rfl rfl hl.1 rfl (Nat.le_of_ble_eq_true rfl) dX4_second_17 ⟨Nat.zero_le _, Nat.zero_le _⟩ ?_
  refine lc_ge (tgt := 33) hx hb dX4_second_20 dX4_second_21 (by decide) (fun c_1 => ?_) (fun c_1 => ?_)
  · skip
    refine lv_lload hx hb dX4_second_33 (lv_at hl 0 rfl) ?_
    refine lv_ldc2 (v := 500) hx hb hown (hts (.constantLong RX4 155 (500)) (by decide +kernel)) dX4_second_35 ?_
    refine lv_lsub hx hb dX4_second_38 ?_
    refine tp_l (v := mxL ((qm σ j + h) - 500) (fst_ σ)) (mx_f c_1) ?_
    refine lv_lstore (lv' := [(6, .long (mxL ((qm σ j + h) - 500) (fst_ σ))), (4, .long (qm σ j + h)), (0, .ref (b 0)), (1, .int (nI j)), (2, .long h)]) hx hb dX4_second_39 hl (by decide) rfl (fun ls hl => ?_)
    refine lv_lload hx hb dX4_second_41 (lv_at hl 1 rfl) ?_
    refine lv_ldc2 (v := 500) hx hb hown (hts (.constantLong RX4 155 (500)) (by decide +kernel)) dX4_second_43 ?_
    refine lv_ladd hx hb dX4_second_46 ?_
    refine lv_aload_n hx hb dX4_second_47 rfl (lv_at hl 2 rfl) ?_
    refine lv_aload_n hx hb dX4_second_48 rfl (lv_at hl 2 rfl) ?_
    refine va_get (D := G) (ci := 4) (v := .int (nI (g_n σ))) (C := RX4) (T := TX4) (N := 13) hx hb hts hX4 hown hK hP (0) wM_e0 rfl 2 (by decide) (hts (.fieldLink RX4 85 "DraftSurveyModel" "rows" "I") (by decide +kernel)) (fun _ h9 => h9) rfl dX4_second_49 ?_
    refine lv_iconst (v := 1) hx hb dX4_second_52 (by decide) ?_
    refine lv_isub hx hb dX4_second_53 ?_
    refine tp_i (v := nI ((g_n σ) - 1)) (pk_sub (a := (g_n σ)) (b := 1) (by omega)) ?_
    refine lv_iconst (v := 0) hx hb dX4_second_54 (by decide) ?_
    refine rd_callV (As := [.int (nI ((g_n σ) - 1)), .int 0]) (rest := [.long ((qm σ j + h) + 500)]) ⟨hx, hb, hml, hown, hts⟩ (m_cell l G C b σ ρ (r := ((g_n σ) - 1)) (q := 0) (by omega) (by omega)) (cwV 2 hts gX4_second_X4_cell rfl rfl rfl (by decide +kernel) ⟨Nat.le_of_ble_eq_true rfl, Nat.le_of_ble_eq_true rfl⟩) hK hN hP (0) 4 wM_e0 rfl rfl rfl hl.1 rfl (Nat.le_of_ble_eq_true rfl) dX4_second_55 ⟨Nat.zero_le _, Nat.zero_le _⟩ ?_
    refine lc_le (tgt := 76) hx hb dX4_second_58 dX4_second_59 (by decide) (fun c_2 => ?_) (fun c_2 => ?_)
    · skip
      refine lv_lload hx hb dX4_second_76 (lv_at hl 1 rfl) ?_
      refine lv_ldc2 (v := 500) hx hb hown (hts (.constantLong RX4 155 (500)) (by decide +kernel)) dX4_second_78 ?_
      refine lv_ladd hx hb dX4_second_81 ?_
      refine tp_l (v := mnL ((qm σ j + h) + 500) (lst_ σ)) (mn_n c_2) ?_
      refine lv_lstore (lv' := [(8, .long (mnL ((qm σ j + h) + 500) (lst_ σ))), (6, .long (mxL ((qm σ j + h) - 500) (fst_ σ))), (4, .long (qm σ j + h)), (0, .ref (b 0)), (1, .int (nI j)), (2, .long h)]) hx hb dX4_second_82 hl (by decide) rfl (fun ls hl => ?_)
      refine lv_aload_n hx hb dX4_second_84 rfl (lv_at hl 3 rfl) ?_
      refine lv_iload_n hx hb dX4_second_85 rfl (lv_at hl 4 rfl) ?_
      refine lv_lload_n hx hb dX4_second_86 rfl (lv_at hl 5 rfl) ?_
      refine rd_callV (As := [.int (nI j), .long h]) (rest := []) ⟨hx, hb, hml, hown, hts⟩ (m_trimOf l G C b σ ρ hI (j := j) hj hh) (cwV 2 hts gX4_second_X4_trimOf rfl rfl rfl (by decide +kernel) ⟨Nat.le_of_ble_eq_true rfl, Nat.le_of_ble_eq_true rfl⟩) hK hN hP (0) 4 wM_e0 rfl rfl rfl hl.1 rfl (Nat.le_of_ble_eq_true rfl) dX4_second_87 ⟨Nat.zero_le _, Nat.zero_le _⟩ ?_
      refine lv_lstore (lv' := [(10, .long (tr σ j)), (8, .long (mnL ((qm σ j + h) + 500) (lst_ σ))), (6, .long (mxL ((qm σ j + h) - 500) (fst_ σ))), (4, .long (qm σ j + h)), (0, .ref (b 0)), (1, .int (nI j)), (2, .long h)]) hx hb dX4_second_90 hl (by decide) rfl (fun ls hl => ?_)
      refine lv_ldc2 (v := 50) hx hb hown (hts (.constantLong RX4 157 (50)) (by decide +kernel)) dX4_second_92 ?_
      refine lv_lload hx hb dX4_second_95 (lv_at hl 0 rfl) ?_
      refine lv_lmul hx hb dX4_second_97 ?_
      refine lv_lload hx hb dX4_second_98 (lv_at hl 0 rfl) ?_
      refine lv_lmul hx hb dX4_second_100 ?_
      refine lv_aload_n hx hb dX4_second_101 rfl (lv_at hl 4 rfl) ?_
      refine lv_iconst (v := 3) hx hb dX4_second_102 (by decide) ?_
      refine lv_lload hx hb dX4_second_103 (lv_at hl 1 rfl) ?_
      refine rd_callV (As := [.int 3, .long (mnL ((qm σ j + h) + 500) (lst_ σ))]) (rest := [.long ((50 * (tr σ j)) * (tr σ j))]) ⟨hx, hb, hml, hown, hts⟩ (m_at l G C b σ ρ hI (q := 3) (by decide) (cov_hi hI hc)) (cwV 2 hts gX4_second_X4_at rfl rfl rfl (by decide +kernel) ⟨Nat.le_of_ble_eq_true rfl, Nat.le_of_ble_eq_true rfl⟩) hK hN hP (0) 4 wM_e0 rfl rfl rfl hl.1 rfl (Nat.le_of_ble_eq_true rfl) dX4_second_105 ⟨Nat.zero_le _, Nat.zero_le _⟩ ?_
      refine lv_aload_n hx hb dX4_second_108 rfl (lv_at hl 4 rfl) ?_
      refine lv_iconst (v := 3) hx hb dX4_second_109 (by decide) ?_
      refine lv_lload hx hb dX4_second_110 (lv_at hl 2 rfl) ?_
      refine rd_callV (As := [.int 3, .long (mxL ((qm σ j + h) - 500) (fst_ σ))]) (rest := [.long (vA σ 4 (mnL ((qm σ j + h) + 500) (lst_ σ))), .long ((50 * (tr σ j)) * (tr σ j))]) ⟨hx, hb, hml, hown, hts⟩ (m_at l G C b σ ρ hI (q := 3) (by decide) (cov_lo hI hc)) (cwV 2 hts gX4_second_X4_at rfl rfl rfl (by decide +kernel) ⟨Nat.le_of_ble_eq_true rfl, Nat.le_of_ble_eq_true rfl⟩) hK hN hP (0) 4 wM_e0 rfl rfl rfl hl.1 rfl (Nat.le_of_ble_eq_true rfl) dX4_second_112 ⟨Nat.zero_le _, Nat.zero_le _⟩ ?_
      refine lv_lsub hx hb dX4_second_115 ?_
      refine lv_lmul hx hb dX4_second_116 ?_
      refine lv_ldc2 (v := 1000) hx hb hown (hts (.constantLong RX4 159 (1000)) (by decide +kernel)) dX4_second_117 ?_
      refine lv_aload_n hx hb dX4_second_120 rfl (lv_at hl 4 rfl) ?_
      refine va_get (D := G) (ci := 4) (v := .long (g_len σ)) (C := RX4) (T := TX4) (N := 13) hx hb hts hX4 hown hK hP (0) wM_e0 rfl 7 (by decide) (hts (.fieldLink RX4 28 "DraftSurveyModel" "length" "J") (by decide +kernel)) (fun _ h9 => h9) rfl dX4_second_121 ?_
      refine lv_lmul hx hb dX4_second_124 ?_
      refine rd_callS (As := [.long (((50 * (tr σ j)) * (tr σ j)) * ((vA σ 4 (mnL ((qm σ j + h) + 500) (lst_ σ))) - (vA σ 4 (mxL ((qm σ j + h) - 500) (fst_ σ))))), .long (1000 * (g_len σ))]) (rest := []) ⟨hx, hb, hml, hown, hts⟩ (m_quot l G C b σ ρ (((50 * (tr σ j)) * (tr σ j)) * ((vA σ 4 (mnL ((qm σ j + h) + 500) (lst_ σ))) - (vA σ 4 (mxL ((qm σ j + h) - 500) (fst_ σ))))) (1000 * (g_len σ)) (len_1000 hI)) (va_cwS 2 hts gX4_second_X4_quotient rfl rfl rfl (by decide +kernel) ⟨Nat.le_of_ble_eq_true rfl, Nat.le_of_ble_eq_true rfl⟩) hK hN hP rfl hl.1 rfl (Nat.le_of_ble_eq_true rfl) dX4_second_125 ⟨Nat.zero_le _, Nat.zero_le _⟩ ?_
      exact rd_lret hx hb hr hlocks (congrArg Value.long (by unfold sc qt; rw [if_neg (len_1000 hI)])) dX4_second_128
    · skip
      refine lv_aload_n hx hb dX4_second_62 rfl (lv_at hl 2 rfl) ?_
      refine lv_aload_n hx hb dX4_second_63 rfl (lv_at hl 2 rfl) ?_
      refine va_get (D := G) (ci := 4) (v := .int (nI (g_n σ))) (C := RX4) (T := TX4) (N := 13) hx hb hts hX4 hown hK hP (0) wM_e0 rfl 2 (by decide) (hts (.fieldLink RX4 85 "DraftSurveyModel" "rows" "I") (by decide +kernel)) (fun _ h9 => h9) rfl dX4_second_64 ?_
      refine lv_iconst (v := 1) hx hb dX4_second_67 (by decide) ?_
      refine lv_isub hx hb dX4_second_68 ?_
      refine tp_i (v := nI ((g_n σ) - 1)) (pk_sub (a := (g_n σ)) (b := 1) (by omega)) ?_
      refine lv_iconst (v := 0) hx hb dX4_second_69 (by decide) ?_
      refine rd_callV (As := [.int (nI ((g_n σ) - 1)), .int 0]) (rest := []) ⟨hx, hb, hml, hown, hts⟩ (m_cell l G C b σ ρ (r := ((g_n σ) - 1)) (q := 0) (by omega) (by omega)) (cwV 2 hts gX4_second_X4_cell rfl rfl rfl (by decide +kernel) ⟨Nat.le_of_ble_eq_true rfl, Nat.le_of_ble_eq_true rfl⟩) hK hN hP (0) 4 wM_e0 rfl rfl rfl hl.1 rfl (Nat.le_of_ble_eq_true rfl) dX4_second_70 ⟨Nat.zero_le _, Nat.zero_le _⟩ ?_
      refine lv_goto (tgt := 82) hx hb dX4_second_73 (by decide) ?_
      refine tp_l (v := mnL ((qm σ j + h) + 500) (lst_ σ)) (mn_g c_2) ?_
      refine lv_lstore (lv' := [(8, .long (mnL ((qm σ j + h) + 500) (lst_ σ))), (6, .long (mxL ((qm σ j + h) - 500) (fst_ σ))), (4, .long (qm σ j + h)), (0, .ref (b 0)), (1, .int (nI j)), (2, .long h)]) hx hb dX4_second_82 hl (by decide) rfl (fun ls hl => ?_)
      refine lv_aload_n hx hb dX4_second_84 rfl (lv_at hl 3 rfl) ?_
      refine lv_iload_n hx hb dX4_second_85 rfl (lv_at hl 4 rfl) ?_
      refine lv_lload_n hx hb dX4_second_86 rfl (lv_at hl 5 rfl) ?_
      refine rd_callV (As := [.int (nI j), .long h]) (rest := []) ⟨hx, hb, hml, hown, hts⟩ (m_trimOf l G C b σ ρ hI (j := j) hj hh) (cwV 2 hts gX4_second_X4_trimOf rfl rfl rfl (by decide +kernel) ⟨Nat.le_of_ble_eq_true rfl, Nat.le_of_ble_eq_true rfl⟩) hK hN hP (0) 4 wM_e0 rfl rfl rfl hl.1 rfl (Nat.le_of_ble_eq_true rfl) dX4_second_87 ⟨Nat.zero_le _, Nat.zero_le _⟩ ?_
      refine lv_lstore (lv' := [(10, .long (tr σ j)), (8, .long (mnL ((qm σ j + h) + 500) (lst_ σ))), (6, .long (mxL ((qm σ j + h) - 500) (fst_ σ))), (4, .long (qm σ j + h)), (0, .ref (b 0)), (1, .int (nI j)), (2, .long h)]) hx hb dX4_second_90 hl (by decide) rfl (fun ls hl => ?_)
      refine lv_ldc2 (v := 50) hx hb hown (hts (.constantLong RX4 157 (50)) (by decide +kernel)) dX4_second_92 ?_
      refine lv_lload hx hb dX4_second_95 (lv_at hl 0 rfl) ?_
      refine lv_lmul hx hb dX4_second_97 ?_
      refine lv_lload hx hb dX4_second_98 (lv_at hl 0 rfl) ?_
      refine lv_lmul hx hb dX4_second_100 ?_
      refine lv_aload_n hx hb dX4_second_101 rfl (lv_at hl 4 rfl) ?_
      refine lv_iconst (v := 3) hx hb dX4_second_102 (by decide) ?_
      refine lv_lload hx hb dX4_second_103 (lv_at hl 1 rfl) ?_
      refine rd_callV (As := [.int 3, .long (mnL ((qm σ j + h) + 500) (lst_ σ))]) (rest := [.long ((50 * (tr σ j)) * (tr σ j))]) ⟨hx, hb, hml, hown, hts⟩ (m_at l G C b σ ρ hI (q := 3) (by decide) (cov_hi hI hc)) (cwV 2 hts gX4_second_X4_at rfl rfl rfl (by decide +kernel) ⟨Nat.le_of_ble_eq_true rfl, Nat.le_of_ble_eq_true rfl⟩) hK hN hP (0) 4 wM_e0 rfl rfl rfl hl.1 rfl (Nat.le_of_ble_eq_true rfl) dX4_second_105 ⟨Nat.zero_le _, Nat.zero_le _⟩ ?_
      refine lv_aload_n hx hb dX4_second_108 rfl (lv_at hl 4 rfl) ?_
      refine lv_iconst (v := 3) hx hb dX4_second_109 (by decide) ?_
      refine lv_lload hx hb dX4_second_110 (lv_at hl 2 rfl) ?_
      refine rd_callV (As := [.int 3, .long (mxL ((qm σ j + h) - 500) (fst_ σ))]) (rest := [.long (vA σ 4 (mnL ((qm σ j + h) + 500) (lst_ σ))), .long ((50 * (tr σ j)) * (tr σ j))]) ⟨hx, hb, hml, hown, hts⟩ (m_at l G C b σ ρ hI (q := 3) (by decide) (cov_lo hI hc)) (cwV 2 hts gX4_second_X4_at rfl rfl rfl (by decide +kernel) ⟨Nat.le_of_ble_eq_true rfl, Nat.le_of_ble_eq_true rfl⟩) hK hN hP (0) 4 wM_e0 rfl rfl rfl hl.1 rfl (Nat.le_of_ble_eq_true rfl) dX4_second_112 ⟨Nat.zero_le _, Nat.zero_le _⟩ ?_
      refine lv_lsub hx hb dX4_second_115 ?_
      refine lv_lmul hx hb dX4_second_116 ?_
      refine lv_ldc2 (v := 1000) hx hb hown (hts (.constantLong RX4 159 (1000)) (by decide +kernel)) dX4_second_117 ?_
      refine lv_aload_n hx hb dX4_second_120 rfl (lv_at hl 4 rfl) ?_
      refine va_get (D := G) (ci := 4) (v := .long (g_len σ)) (C := RX4) (T := TX4) (N := 13) hx hb hts hX4 hown hK hP (0) wM_e0 rfl 7 (by decide) (hts (.fieldLink RX4 28 "DraftSurveyModel" "length" "J") (by decide +kernel)) (fun _ h9 => h9) rfl dX4_second_121 ?_
      refine lv_lmul hx hb dX4_second_124 ?_
      refine rd_callS (As := [.long (((50 * (tr σ j)) * (tr σ j)) * ((vA σ 4 (mnL ((qm σ j + h) + 500) (lst_ σ))) - (vA σ 4 (mxL ((qm σ j + h) - 500) (fst_ σ))))), .long (1000 * (g_len σ))]) (rest := []) ⟨hx, hb, hml, hown, hts⟩ (m_quot l G C b σ ρ (((50 * (tr σ j)) * (tr σ j)) * ((vA σ 4 (mnL ((qm σ j + h) + 500) (lst_ σ))) - (vA σ 4 (mxL ((qm σ j + h) - 500) (fst_ σ))))) (1000 * (g_len σ)) (len_1000 hI)) (va_cwS 2 hts gX4_second_X4_quotient rfl rfl rfl (by decide +kernel) ⟨Nat.le_of_ble_eq_true rfl, Nat.le_of_ble_eq_true rfl⟩) hK hN hP rfl hl.1 rfl (Nat.le_of_ble_eq_true rfl) dX4_second_125 ⟨Nat.zero_le _, Nat.zero_le _⟩ ?_
      exact rd_lret hx hb hr hlocks (congrArg Value.long (by unfold sc qt; rw [if_neg (len_1000 hI)])) dX4_second_128
  · skip
    refine lv_aload_n hx hb dX4_second_24 rfl (lv_at hl 1 rfl) ?_
    refine lv_iconst (v := 0) hx hb dX4_second_25 (by decide) ?_
    refine lv_iconst (v := 0) hx hb dX4_second_26 (by decide) ?_
    refine rd_callV (As := [.int 0, .int 0]) (rest := []) ⟨hx, hb, hml, hown, hts⟩ (m_cell l G C b σ ρ (r := 0) (q := 0) (by omega) (by omega)) (cwV 2 hts gX4_second_X4_cell rfl rfl rfl (by decide +kernel) ⟨Nat.le_of_ble_eq_true rfl, Nat.le_of_ble_eq_true rfl⟩) hK hN hP (0) 4 wM_e0 rfl rfl rfl hl.1 rfl (Nat.le_of_ble_eq_true rfl) dX4_second_27 ⟨Nat.zero_le _, Nat.zero_le _⟩ ?_
    refine lv_goto (tgt := 39) hx hb dX4_second_30 (by decide) ?_
    refine tp_l (v := mxL ((qm σ j + h) - 500) (fst_ σ)) (mx_t c_1) ?_
    refine lv_lstore (lv' := [(6, .long (mxL ((qm σ j + h) - 500) (fst_ σ))), (4, .long (qm σ j + h)), (0, .ref (b 0)), (1, .int (nI j)), (2, .long h)]) hx hb dX4_second_39 hl (by decide) rfl (fun ls hl => ?_)
    refine lv_lload hx hb dX4_second_41 (lv_at hl 1 rfl) ?_
    refine lv_ldc2 (v := 500) hx hb hown (hts (.constantLong RX4 155 (500)) (by decide +kernel)) dX4_second_43 ?_
    refine lv_ladd hx hb dX4_second_46 ?_
    refine lv_aload_n hx hb dX4_second_47 rfl (lv_at hl 2 rfl) ?_
    refine lv_aload_n hx hb dX4_second_48 rfl (lv_at hl 2 rfl) ?_
    refine va_get (D := G) (ci := 4) (v := .int (nI (g_n σ))) (C := RX4) (T := TX4) (N := 13) hx hb hts hX4 hown hK hP (0) wM_e0 rfl 2 (by decide) (hts (.fieldLink RX4 85 "DraftSurveyModel" "rows" "I") (by decide +kernel)) (fun _ h9 => h9) rfl dX4_second_49 ?_
    refine lv_iconst (v := 1) hx hb dX4_second_52 (by decide) ?_
    refine lv_isub hx hb dX4_second_53 ?_
    refine tp_i (v := nI ((g_n σ) - 1)) (pk_sub (a := (g_n σ)) (b := 1) (by omega)) ?_
    refine lv_iconst (v := 0) hx hb dX4_second_54 (by decide) ?_
    refine rd_callV (As := [.int (nI ((g_n σ) - 1)), .int 0]) (rest := [.long ((qm σ j + h) + 500)]) ⟨hx, hb, hml, hown, hts⟩ (m_cell l G C b σ ρ (r := ((g_n σ) - 1)) (q := 0) (by omega) (by omega)) (cwV 2 hts gX4_second_X4_cell rfl rfl rfl (by decide +kernel) ⟨Nat.le_of_ble_eq_true rfl, Nat.le_of_ble_eq_true rfl⟩) hK hN hP (0) 4 wM_e0 rfl rfl rfl hl.1 rfl (Nat.le_of_ble_eq_true rfl) dX4_second_55 ⟨Nat.zero_le _, Nat.zero_le _⟩ ?_
    refine lc_le (tgt := 76) hx hb dX4_second_58 dX4_second_59 (by decide) (fun c_3 => ?_) (fun c_3 => ?_)
    · skip
      refine lv_lload hx hb dX4_second_76 (lv_at hl 1 rfl) ?_
      refine lv_ldc2 (v := 500) hx hb hown (hts (.constantLong RX4 155 (500)) (by decide +kernel)) dX4_second_78 ?_
      refine lv_ladd hx hb dX4_second_81 ?_
      refine tp_l (v := mnL ((qm σ j + h) + 500) (lst_ σ)) (mn_n c_3) ?_
      refine lv_lstore (lv' := [(8, .long (mnL ((qm σ j + h) + 500) (lst_ σ))), (6, .long (mxL ((qm σ j + h) - 500) (fst_ σ))), (4, .long (qm σ j + h)), (0, .ref (b 0)), (1, .int (nI j)), (2, .long h)]) hx hb dX4_second_82 hl (by decide) rfl (fun ls hl => ?_)
      refine lv_aload_n hx hb dX4_second_84 rfl (lv_at hl 3 rfl) ?_
      refine lv_iload_n hx hb dX4_second_85 rfl (lv_at hl 4 rfl) ?_
      refine lv_lload_n hx hb dX4_second_86 rfl (lv_at hl 5 rfl) ?_
      refine rd_callV (As := [.int (nI j), .long h]) (rest := []) ⟨hx, hb, hml, hown, hts⟩ (m_trimOf l G C b σ ρ hI (j := j) hj hh) (cwV 2 hts gX4_second_X4_trimOf rfl rfl rfl (by decide +kernel) ⟨Nat.le_of_ble_eq_true rfl, Nat.le_of_ble_eq_true rfl⟩) hK hN hP (0) 4 wM_e0 rfl rfl rfl hl.1 rfl (Nat.le_of_ble_eq_true rfl) dX4_second_87 ⟨Nat.zero_le _, Nat.zero_le _⟩ ?_
      refine lv_lstore (lv' := [(10, .long (tr σ j)), (8, .long (mnL ((qm σ j + h) + 500) (lst_ σ))), (6, .long (mxL ((qm σ j + h) - 500) (fst_ σ))), (4, .long (qm σ j + h)), (0, .ref (b 0)), (1, .int (nI j)), (2, .long h)]) hx hb dX4_second_90 hl (by decide) rfl (fun ls hl => ?_)
      refine lv_ldc2 (v := 50) hx hb hown (hts (.constantLong RX4 157 (50)) (by decide +kernel)) dX4_second_92 ?_
      refine lv_lload hx hb dX4_second_95 (lv_at hl 0 rfl) ?_
      refine lv_lmul hx hb dX4_second_97 ?_
      refine lv_lload hx hb dX4_second_98 (lv_at hl 0 rfl) ?_
      refine lv_lmul hx hb dX4_second_100 ?_
      refine lv_aload_n hx hb dX4_second_101 rfl (lv_at hl 4 rfl) ?_
      refine lv_iconst (v := 3) hx hb dX4_second_102 (by decide) ?_
      refine lv_lload hx hb dX4_second_103 (lv_at hl 1 rfl) ?_
      refine rd_callV (As := [.int 3, .long (mnL ((qm σ j + h) + 500) (lst_ σ))]) (rest := [.long ((50 * (tr σ j)) * (tr σ j))]) ⟨hx, hb, hml, hown, hts⟩ (m_at l G C b σ ρ hI (q := 3) (by decide) (cov_hi hI hc)) (cwV 2 hts gX4_second_X4_at rfl rfl rfl (by decide +kernel) ⟨Nat.le_of_ble_eq_true rfl, Nat.le_of_ble_eq_true rfl⟩) hK hN hP (0) 4 wM_e0 rfl rfl rfl hl.1 rfl (Nat.le_of_ble_eq_true rfl) dX4_second_105 ⟨Nat.zero_le _, Nat.zero_le _⟩ ?_
      refine lv_aload_n hx hb dX4_second_108 rfl (lv_at hl 4 rfl) ?_
      refine lv_iconst (v := 3) hx hb dX4_second_109 (by decide) ?_
      refine lv_lload hx hb dX4_second_110 (lv_at hl 2 rfl) ?_
      refine rd_callV (As := [.int 3, .long (mxL ((qm σ j + h) - 500) (fst_ σ))]) (rest := [.long (vA σ 4 (mnL ((qm σ j + h) + 500) (lst_ σ))), .long ((50 * (tr σ j)) * (tr σ j))]) ⟨hx, hb, hml, hown, hts⟩ (m_at l G C b σ ρ hI (q := 3) (by decide) (cov_lo hI hc)) (cwV 2 hts gX4_second_X4_at rfl rfl rfl (by decide +kernel) ⟨Nat.le_of_ble_eq_true rfl, Nat.le_of_ble_eq_true rfl⟩) hK hN hP (0) 4 wM_e0 rfl rfl rfl hl.1 rfl (Nat.le_of_ble_eq_true rfl) dX4_second_112 ⟨Nat.zero_le _, Nat.zero_le _⟩ ?_
      refine lv_lsub hx hb dX4_second_115 ?_
      refine lv_lmul hx hb dX4_second_116 ?_
      refine lv_ldc2 (v := 1000) hx hb hown (hts (.constantLong RX4 159 (1000)) (by decide +kernel)) dX4_second_117 ?_
      refine lv_aload_n hx hb dX4_second_120 rfl (lv_at hl 4 rfl) ?_
      refine va_get (D := G) (ci := 4) (v := .long (g_len σ)) (C := RX4) (T := TX4) (N := 13) hx hb hts hX4 hown hK hP (0) wM_e0 rfl 7 (by decide) (hts (.fieldLink RX4 28 "DraftSurveyModel" "length" "J") (by decide +kernel)) (fun _ h9 => h9) rfl dX4_second_121 ?_
      refine lv_lmul hx hb dX4_second_124 ?_
      refine rd_callS (As := [.long (((50 * (tr σ j)) * (tr σ j)) * ((vA σ 4 (mnL ((qm σ j + h) + 500) (lst_ σ))) - (vA σ 4 (mxL ((qm σ j + h) - 500) (fst_ σ))))), .long (1000 * (g_len σ))]) (rest := []) ⟨hx, hb, hml, hown, hts⟩ (m_quot l G C b σ ρ (((50 * (tr σ j)) * (tr σ j)) * ((vA σ 4 (mnL ((qm σ j + h) + 500) (lst_ σ))) - (vA σ 4 (mxL ((qm σ j + h) - 500) (fst_ σ))))) (1000 * (g_len σ)) (len_1000 hI)) (va_cwS 2 hts gX4_second_X4_quotient rfl rfl rfl (by decide +kernel) ⟨Nat.le_of_ble_eq_true rfl, Nat.le_of_ble_eq_true rfl⟩) hK hN hP rfl hl.1 rfl (Nat.le_of_ble_eq_true rfl) dX4_second_125 ⟨Nat.zero_le _, Nat.zero_le _⟩ ?_
      exact rd_lret hx hb hr hlocks (congrArg Value.long (by unfold sc qt; rw [if_neg (len_1000 hI)])) dX4_second_128
    · skip
      refine lv_aload_n hx hb dX4_second_62 rfl (lv_at hl 2 rfl) ?_
      refine lv_aload_n hx hb dX4_second_63 rfl (lv_at hl 2 rfl) ?_
      refine va_get (D := G) (ci := 4) (v := .int (nI (g_n σ))) (C := RX4) (T := TX4) (N := 13) hx hb hts hX4 hown hK hP (0) wM_e0 rfl 2 (by decide) (hts (.fieldLink RX4 85 "DraftSurveyModel" "rows" "I") (by decide +kernel)) (fun _ h9 => h9) rfl dX4_second_64 ?_
      refine lv_iconst (v := 1) hx hb dX4_second_67 (by decide) ?_
      refine lv_isub hx hb dX4_second_68 ?_
      refine tp_i (v := nI ((g_n σ) - 1)) (pk_sub (a := (g_n σ)) (b := 1) (by omega)) ?_
      refine lv_iconst (v := 0) hx hb dX4_second_69 (by decide) ?_
      refine rd_callV (As := [.int (nI ((g_n σ) - 1)), .int 0]) (rest := []) ⟨hx, hb, hml, hown, hts⟩ (m_cell l G C b σ ρ (r := ((g_n σ) - 1)) (q := 0) (by omega) (by omega)) (cwV 2 hts gX4_second_X4_cell rfl rfl rfl (by decide +kernel) ⟨Nat.le_of_ble_eq_true rfl, Nat.le_of_ble_eq_true rfl⟩) hK hN hP (0) 4 wM_e0 rfl rfl rfl hl.1 rfl (Nat.le_of_ble_eq_true rfl) dX4_second_70 ⟨Nat.zero_le _, Nat.zero_le _⟩ ?_
      refine lv_goto (tgt := 82) hx hb dX4_second_73 (by decide) ?_
      refine tp_l (v := mnL ((qm σ j + h) + 500) (lst_ σ)) (mn_g c_3) ?_
      refine lv_lstore (lv' := [(8, .long (mnL ((qm σ j + h) + 500) (lst_ σ))), (6, .long (mxL ((qm σ j + h) - 500) (fst_ σ))), (4, .long (qm σ j + h)), (0, .ref (b 0)), (1, .int (nI j)), (2, .long h)]) hx hb dX4_second_82 hl (by decide) rfl (fun ls hl => ?_)
      refine lv_aload_n hx hb dX4_second_84 rfl (lv_at hl 3 rfl) ?_
      refine lv_iload_n hx hb dX4_second_85 rfl (lv_at hl 4 rfl) ?_
      refine lv_lload_n hx hb dX4_second_86 rfl (lv_at hl 5 rfl) ?_
      refine rd_callV (As := [.int (nI j), .long h]) (rest := []) ⟨hx, hb, hml, hown, hts⟩ (m_trimOf l G C b σ ρ hI (j := j) hj hh) (cwV 2 hts gX4_second_X4_trimOf rfl rfl rfl (by decide +kernel) ⟨Nat.le_of_ble_eq_true rfl, Nat.le_of_ble_eq_true rfl⟩) hK hN hP (0) 4 wM_e0 rfl rfl rfl hl.1 rfl (Nat.le_of_ble_eq_true rfl) dX4_second_87 ⟨Nat.zero_le _, Nat.zero_le _⟩ ?_
      refine lv_lstore (lv' := [(10, .long (tr σ j)), (8, .long (mnL ((qm σ j + h) + 500) (lst_ σ))), (6, .long (mxL ((qm σ j + h) - 500) (fst_ σ))), (4, .long (qm σ j + h)), (0, .ref (b 0)), (1, .int (nI j)), (2, .long h)]) hx hb dX4_second_90 hl (by decide) rfl (fun ls hl => ?_)
      refine lv_ldc2 (v := 50) hx hb hown (hts (.constantLong RX4 157 (50)) (by decide +kernel)) dX4_second_92 ?_
      refine lv_lload hx hb dX4_second_95 (lv_at hl 0 rfl) ?_
      refine lv_lmul hx hb dX4_second_97 ?_
      refine lv_lload hx hb dX4_second_98 (lv_at hl 0 rfl) ?_
      refine lv_lmul hx hb dX4_second_100 ?_
      refine lv_aload_n hx hb dX4_second_101 rfl (lv_at hl 4 rfl) ?_
      refine lv_iconst (v := 3) hx hb dX4_second_102 (by decide) ?_
      refine lv_lload hx hb dX4_second_103 (lv_at hl 1 rfl) ?_
      refine rd_callV (As := [.int 3, .long (mnL ((qm σ j + h) + 500) (lst_ σ))]) (rest := [.long ((50 * (tr σ j)) * (tr σ j))]) ⟨hx, hb, hml, hown, hts⟩ (m_at l G C b σ ρ hI (q := 3) (by decide) (cov_hi hI hc)) (cwV 2 hts gX4_second_X4_at rfl rfl rfl (by decide +kernel) ⟨Nat.le_of_ble_eq_true rfl, Nat.le_of_ble_eq_true rfl⟩) hK hN hP (0) 4 wM_e0 rfl rfl rfl hl.1 rfl (Nat.le_of_ble_eq_true rfl) dX4_second_105 ⟨Nat.zero_le _, Nat.zero_le _⟩ ?_
      refine lv_aload_n hx hb dX4_second_108 rfl (lv_at hl 4 rfl) ?_
      refine lv_iconst (v := 3) hx hb dX4_second_109 (by decide) ?_
      refine lv_lload hx hb dX4_second_110 (lv_at hl 2 rfl) ?_
      refine rd_callV (As := [.int 3, .long (mxL ((qm σ j + h) - 500) (fst_ σ))]) (rest := [.long (vA σ 4 (mnL ((qm σ j + h) + 500) (lst_ σ))), .long ((50 * (tr σ j)) * (tr σ j))]) ⟨hx, hb, hml, hown, hts⟩ (m_at l G C b σ ρ hI (q := 3) (by decide) (cov_lo hI hc)) (cwV 2 hts gX4_second_X4_at rfl rfl rfl (by decide +kernel) ⟨Nat.le_of_ble_eq_true rfl, Nat.le_of_ble_eq_true rfl⟩) hK hN hP (0) 4 wM_e0 rfl rfl rfl hl.1 rfl (Nat.le_of_ble_eq_true rfl) dX4_second_112 ⟨Nat.zero_le _, Nat.zero_le _⟩ ?_
      refine lv_lsub hx hb dX4_second_115 ?_
      refine lv_lmul hx hb dX4_second_116 ?_
      refine lv_ldc2 (v := 1000) hx hb hown (hts (.constantLong RX4 159 (1000)) (by decide +kernel)) dX4_second_117 ?_
      refine lv_aload_n hx hb dX4_second_120 rfl (lv_at hl 4 rfl) ?_
      refine va_get (D := G) (ci := 4) (v := .long (g_len σ)) (C := RX4) (T := TX4) (N := 13) hx hb hts hX4 hown hK hP (0) wM_e0 rfl 7 (by decide) (hts (.fieldLink RX4 28 "DraftSurveyModel" "length" "J") (by decide +kernel)) (fun _ h9 => h9) rfl dX4_second_121 ?_
      refine lv_lmul hx hb dX4_second_124 ?_
      refine rd_callS (As := [.long (((50 * (tr σ j)) * (tr σ j)) * ((vA σ 4 (mnL ((qm σ j + h) + 500) (lst_ σ))) - (vA σ 4 (mxL ((qm σ j + h) - 500) (fst_ σ))))), .long (1000 * (g_len σ))]) (rest := []) ⟨hx, hb, hml, hown, hts⟩ (m_quot l G C b σ ρ (((50 * (tr σ j)) * (tr σ j)) * ((vA σ 4 (mnL ((qm σ j + h) + 500) (lst_ σ))) - (vA σ 4 (mxL ((qm σ j + h) - 500) (fst_ σ))))) (1000 * (g_len σ)) (len_1000 hI)) (va_cwS 2 hts gX4_second_X4_quotient rfl rfl rfl (by decide +kernel) ⟨Nat.le_of_ble_eq_true rfl, Nat.le_of_ble_eq_true rfl⟩) hK hN hP rfl hl.1 rfl (Nat.le_of_ble_eq_true rfl) dX4_second_125 ⟨Nat.zero_le _, Nat.zero_le _⟩ ?_
      exact rd_lret hx hb hr hlocks (congrArg Value.long (by unfold sc qt; rw [if_neg (len_1000 hI)])) dX4_second_128

set_option maxHeartbeats 4000000 in
set_option maxRecDepth 100000 in
theorem m_displ (l : Launch) (G : va_G) (C : Nat → ClassId) (b : Nat → Nat) (σ : SG) (ρ : KM) (hI : Inv σ) {j : Nat} (hj : j < 4) {h : Int64} (hh : sm h) (hc : cmp σ j h) : RdC l yX4_displaced wsX4_displaced ({ frames := 4, cells := 0, slots := 0, locals := 107 } : Room) G (tysC C) (wM C b σ ρ) [.ref (b 0), .int (nI j), .long h] (.long (dp σ j h)) := by
  refine Met.ofW (cc := cX4_displaced) (maxL := 6) (ret := (some .long)) (by decide) rfl ?_
  intro p e s m args below meth c s₁ B hml hv
  obtain ⟨rfl, hP, hK, hN⟩ := hv
  have hx := B.exec
  have hb := B.bytes
  have hr := B.returns
  have hts := atoms_spec (ws := wsX4_displaced) B.pre
  have hown : s.vm.findClass RX4 = some m.cls := findClass_of_methodNamed B.named
  have hlocks := B.notSynchronized
  have hX4 : ∀ w ∈ wsX40, w ∈ wsX4_displaced := by decide +kernel
  have hP : va_P G vwCl (wM C b σ ρ) s.heap := hP
  have hl := lv_entry ([.ref (b 0), .int (nI j), .long h]) (n := 6) (Nat.le_of_ble_eq_true rfl)
  rw [lg_entry_eq]
  generalize (lg_sl ([.ref (b 0), .int (nI j), .long h]) ++ List.replicate (6 - (lg_sl ([.ref (b 0), .int (nI j), .long h])).length) Slot.unset).toArray = ls at hl ⊢
  have hl : lv_has ls 6 [(0, .ref (b 0)), (1, .int (nI j)), (2, .long h)] := hl
  refine lv_aload_n hx hb dX4_displaced_0 rfl (lv_at hl 0 rfl) ?_
  refine lv_iconst (v := 0) hx hb dX4_displaced_1 (by decide) ?_
  refine lv_aload_n hx hb dX4_displaced_2 rfl (lv_at hl 0 rfl) ?_
  refine lv_iload_n hx hb dX4_displaced_3 rfl (lv_at hl 1 rfl) ?_
  refine lv_lload_n hx hb dX4_displaced_4 rfl (lv_at hl 2 rfl) ?_
  refine rd_callV (As := [.int (nI j), .long h]) (rest := [.int 0, .ref (b 0)]) ⟨hx, hb, hml, hown, hts⟩ (m_quarter l G C b σ ρ hI (j := j) hj hh) (cwV 2 hts gX4_displaced_X4_quarter rfl rfl rfl (by decide +kernel) ⟨Nat.le_of_ble_eq_true rfl, Nat.le_of_ble_eq_true rfl⟩) hK hN hP (0) 4 wM_e0 rfl rfl rfl hl.1 rfl (Nat.le_of_ble_eq_true rfl) dX4_displaced_5 ⟨Nat.zero_le _, Nat.zero_le _⟩ ?_
  refine rd_callV (As := [.int 0, .long (qm σ j + h)]) (rest := []) ⟨hx, hb, hml, hown, hts⟩ (m_at l G C b σ ρ hI (q := 0) (by decide) hc) (cwV 2 hts gX4_displaced_X4_at rfl rfl rfl (by decide +kernel) ⟨Nat.le_of_ble_eq_true rfl, Nat.le_of_ble_eq_true rfl⟩) hK hN hP (0) 4 wM_e0 rfl rfl rfl hl.1 rfl (Nat.le_of_ble_eq_true rfl) dX4_displaced_8 ⟨Nat.zero_le _, Nat.zero_le _⟩ ?_
  refine lv_aload_n hx hb dX4_displaced_11 rfl (lv_at hl 0 rfl) ?_
  refine lv_iload_n hx hb dX4_displaced_12 rfl (lv_at hl 1 rfl) ?_
  refine lv_lload_n hx hb dX4_displaced_13 rfl (lv_at hl 2 rfl) ?_
  refine rd_callV (As := [.int (nI j), .long h]) (rest := [.long (vA σ 1 (qm σ j + h))]) ⟨hx, hb, hml, hown, hts⟩ (m_first l G C b σ ρ hI (j := j) hj hh hc) (cwV 2 hts gX4_displaced_X4_first rfl rfl rfl (by decide +kernel) ⟨Nat.le_of_ble_eq_true rfl, Nat.le_of_ble_eq_true rfl⟩) hK hN hP (0) 4 wM_e0 rfl rfl rfl hl.1 rfl (Nat.le_of_ble_eq_true rfl) dX4_displaced_14 ⟨Nat.zero_le _, Nat.zero_le _⟩ ?_
  refine lv_ladd hx hb dX4_displaced_17 ?_
  refine lv_aload_n hx hb dX4_displaced_18 rfl (lv_at hl 0 rfl) ?_
  refine lv_iload_n hx hb dX4_displaced_19 rfl (lv_at hl 1 rfl) ?_
  refine lv_lload_n hx hb dX4_displaced_20 rfl (lv_at hl 2 rfl) ?_
  refine rd_callV (As := [.int (nI j), .long h]) (rest := [.long ((vA σ 1 (qm σ j + h)) + (fc σ (qm σ j + h) (tr σ j)))]) ⟨hx, hb, hml, hown, hts⟩ (m_second l G C b σ ρ hI (j := j) hj hh hc) (cwV 2 hts gX4_displaced_X4_second rfl rfl rfl (by decide +kernel) ⟨Nat.le_of_ble_eq_true rfl, Nat.le_of_ble_eq_true rfl⟩) hK hN hP (0) 4 wM_e0 rfl rfl rfl hl.1 rfl (Nat.le_of_ble_eq_true rfl) dX4_displaced_21 ⟨Nat.zero_le _, Nat.zero_le _⟩ ?_
  refine lv_ladd hx hb dX4_displaced_24 ?_
  refine lv_lstore (lv' := [(4, .long (((vA σ 1 (qm σ j + h)) + (fc σ (qm σ j + h) (tr σ j))) + (sc σ (qm σ j + h) (tr σ j)))), (0, .ref (b 0)), (1, .int (nI j)), (2, .long h)]) hx hb dX4_displaced_25 hl (by decide) rfl (fun ls hl => ?_)
  refine lv_lload hx hb dX4_displaced_27 (lv_at hl 0 rfl) ?_
  refine lv_aload_n hx hb dX4_displaced_29 rfl (lv_at hl 1 rfl) ?_
  refine va_get (D := G) (ci := 4) (v := .ref (b 4)) (C := RX4) (T := TX4) (N := 13) hx hb hts hX4 hown hK hP (0) wM_e0 rfl 5 (by decide) (hts (.fieldLink RX4 20 "DraftSurveyModel" "densities" "[J") (by decide +kernel)) (fun _ h9 => h9) rfl dX4_displaced_30 ?_
  refine lv_iload_n hx hb dX4_displaced_33 rfl (lv_at hl 2 rfl) ?_
  refine ar_l (k := j) (v := g_dn σ j) hx hb hK hP (4) 1 wM_e4 rfl rfl (by omega) (by decide) rfl dX4_displaced_34 ?_
  refine lv_lmul hx hb dX4_displaced_35 ?_
  refine lv_ldc2 (v := 1025) hx hb hown (hts (.constantLong RX4 35 (1025)) (by decide +kernel)) dX4_displaced_36 ?_
  refine rd_callS (As := [.long ((((vA σ 1 (qm σ j + h)) + (fc σ (qm σ j + h) (tr σ j))) + (sc σ (qm σ j + h) (tr σ j))) * (g_dn σ j)), .long 1025]) (rest := []) ⟨hx, hb, hml, hown, hts⟩ (m_quot l G C b σ ρ ((((vA σ 1 (qm σ j + h)) + (fc σ (qm σ j + h) (tr σ j))) + (sc σ (qm σ j + h) (tr σ j))) * (g_dn σ j)) 1025 (by decide)) (va_cwS 2 hts gX4_displaced_X4_quotient rfl rfl rfl (by decide +kernel) ⟨Nat.le_of_ble_eq_true rfl, Nat.le_of_ble_eq_true rfl⟩) hK hN hP rfl hl.1 rfl (Nat.le_of_ble_eq_true rfl) dX4_displaced_39 ⟨Nat.zero_le _, Nat.zero_le _⟩ ?_
  exact rd_lret hx hb hr hlocks (rfl) dX4_displaced_42

set_option maxHeartbeats 4000000 in
set_option maxRecDepth 100000 in
theorem m_net (l : Launch) (G : va_G) (C : Nat → ClassId) (b : Nat → Nat) (σ : SG) (ρ : KM) (hI : Inv σ) {j : Nat} (hj : j < 4) {h : Int64} (hh : sm h) (hc : cmp σ j h) : RdC l yX4_net wsX4_net ({ frames := 5, cells := 0, slots := 0, locals := 132 } : Room) G (tysC C) (wM C b σ ρ) [.ref (b 0), .int (nI j), .long h] (.long (nw σ j h)) := by
  refine Met.ofW (cc := cX4_net) (maxL := 7) (ret := (some .long)) (by decide) rfl ?_
  intro p e s m args below meth c s₁ B hml hv
  obtain ⟨rfl, hP, hK, hN⟩ := hv
  have hx := B.exec
  have hb := B.bytes
  have hr := B.returns
  have hts := atoms_spec (ws := wsX4_net) B.pre
  have hown : s.vm.findClass RX4 = some m.cls := findClass_of_methodNamed B.named
  have hlocks := B.notSynchronized
  have hX4 : ∀ w ∈ wsX40, w ∈ wsX4_net := by decide +kernel
  have hP : va_P G vwCl (wM C b σ ρ) s.heap := hP
  have hl := lv_entry ([.ref (b 0), .int (nI j), .long h]) (n := 7) (Nat.le_of_ble_eq_true rfl)
  rw [lg_entry_eq]
  generalize (lg_sl ([.ref (b 0), .int (nI j), .long h]) ++ List.replicate (7 - (lg_sl ([.ref (b 0), .int (nI j), .long h])).length) Slot.unset).toArray = ls at hl ⊢
  have hl : lv_has ls 7 [(0, .ref (b 0)), (1, .int (nI j)), (2, .long h)] := hl
  refine lv_aload_n hx hb dX4_net_0 rfl (lv_at hl 0 rfl) ?_
  refine lv_iload_n hx hb dX4_net_1 rfl (lv_at hl 1 rfl) ?_
  refine lv_lload_n hx hb dX4_net_2 rfl (lv_at hl 2 rfl) ?_
  refine rd_callV (As := [.int (nI j), .long h]) (rest := []) ⟨hx, hb, hml, hown, hts⟩ (m_displ l G C b σ ρ hI (j := j) hj hh hc) (cwV 2 hts gX4_net_X4_displaced rfl rfl rfl (by decide +kernel) ⟨Nat.le_of_ble_eq_true rfl, Nat.le_of_ble_eq_true rfl⟩) hK hN hP (0) 4 wM_e0 rfl rfl rfl hl.1 rfl (Nat.le_of_ble_eq_true rfl) dX4_net_3 ⟨Nat.zero_le _, Nat.zero_le _⟩ ?_
  refine lv_lstore (lv' := [(4, .long (dp σ j h)), (0, .ref (b 0)), (1, .int (nI j)), (2, .long h)]) hx hb dX4_net_6 hl (by decide) rfl (fun ls hl => ?_)
  refine lv_iconst (v := 0) hx hb dX4_net_8 (by decide) ?_
  refine lv_istore (lv' := [(6, .int 0), (4, .long (dp σ j h)), (0, .ref (b 0)), (1, .int (nI j)), (2, .long h)]) hx hb dX4_net_9 hl (by decide) rfl (fun ls hl => ?_)
  refine lv_iload hx hb dX4_net_11 (lv_at hl 0 rfl) ?_
  refine lv_iconst (v := 4) hx hb dX4_net_13 (by decide) ?_
  refine ic_ge (tgt := 39) hx hb dX4_net_14 (by decide) (fun c_1 => ?_) (fun c_1 => ?_)
  · skip
    exact absurd c_1 (by decide)
  · skip
    refine lv_lload hx hb dX4_net_17 (lv_at hl 1 rfl) ?_
    refine lv_aload_n hx hb dX4_net_19 rfl (lv_at hl 2 rfl) ?_
    refine va_get (D := G) (ci := 4) (v := .ref (b 5)) (C := RX4) (T := TX4) (N := 13) hx hb hts hX4 hown hK hP (0) wM_e0 rfl 6 (by decide) (hts (.fieldLink RX4 23 "DraftSurveyModel" "deductions" "[J") (by decide +kernel)) (fun _ h9 => h9) rfl dX4_net_20 ?_
    refine lv_iconst (v := 4) hx hb dX4_net_23 (by decide) ?_
    refine lv_iload_n hx hb dX4_net_24 rfl (lv_at hl 3 rfl) ?_
    refine lv_imul hx hb dX4_net_25 ?_
    refine tp_i (v := nI (4 * j)) (pk_mul 4 j) ?_
    refine lv_iload hx hb dX4_net_26 (lv_at hl 0 rfl) ?_
    refine lv_iadd hx hb dX4_net_28 ?_
    refine tp_i (v := nI ((4 * j) + 0)) (nI_add (4 * j) 0) ?_
    refine ar_l (k := ((4 * j) + 0)) (v := g_dd σ ((4 * j) + 0)) hx hb hK hP (5) 1 wM_e5 rfl rfl (by omega) (by decide) rfl dX4_net_29 ?_
    refine lv_lsub hx hb dX4_net_30 ?_
    refine lv_lstore (lv' := [(4, .long ((dp σ j h) - (g_dd σ ((4 * j) + 0)))), (6, .int 0), (0, .ref (b 0)), (1, .int (nI j)), (2, .long h)]) hx hb dX4_net_31 hl (by decide) rfl (fun ls hl => ?_)
    refine lv_iinc (v := 1) (lv' := [(6, .int 1), (4, .long ((dp σ j h) - (g_dd σ ((4 * j) + 0)))), (0, .ref (b 0)), (1, .int (nI j)), (2, .long h)]) hx hb dX4_net_33 hl (k := 1) rfl (by decide) (by decide) rfl (fun ls hl => ?_)
    refine lv_goto (tgt := 11) hx hb dX4_net_36 (by decide) ?_
    refine lv_iload hx hb dX4_net_11 (lv_at hl 0 rfl) ?_
    refine lv_iconst (v := 4) hx hb dX4_net_13 (by decide) ?_
    refine ic_ge (tgt := 39) hx hb dX4_net_14 (by decide) (fun c_2 => ?_) (fun c_2 => ?_)
    · skip
      exact absurd c_2 (by decide)
    · skip
      refine lv_lload hx hb dX4_net_17 (lv_at hl 1 rfl) ?_
      refine lv_aload_n hx hb dX4_net_19 rfl (lv_at hl 2 rfl) ?_
      refine va_get (D := G) (ci := 4) (v := .ref (b 5)) (C := RX4) (T := TX4) (N := 13) hx hb hts hX4 hown hK hP (0) wM_e0 rfl 6 (by decide) (hts (.fieldLink RX4 23 "DraftSurveyModel" "deductions" "[J") (by decide +kernel)) (fun _ h9 => h9) rfl dX4_net_20 ?_
      refine lv_iconst (v := 4) hx hb dX4_net_23 (by decide) ?_
      refine lv_iload_n hx hb dX4_net_24 rfl (lv_at hl 3 rfl) ?_
      refine lv_imul hx hb dX4_net_25 ?_
      refine tp_i (v := nI (4 * j)) (pk_mul 4 j) ?_
      refine lv_iload hx hb dX4_net_26 (lv_at hl 0 rfl) ?_
      refine lv_iadd hx hb dX4_net_28 ?_
      refine tp_i (v := nI ((4 * j) + 1)) (nI_add (4 * j) 1) ?_
      refine ar_l (k := ((4 * j) + 1)) (v := g_dd σ ((4 * j) + 1)) hx hb hK hP (5) 1 wM_e5 rfl rfl (by omega) (by decide) rfl dX4_net_29 ?_
      refine lv_lsub hx hb dX4_net_30 ?_
      refine lv_lstore (lv' := [(4, .long (((dp σ j h) - (g_dd σ ((4 * j) + 0))) - (g_dd σ ((4 * j) + 1)))), (6, .int 1), (0, .ref (b 0)), (1, .int (nI j)), (2, .long h)]) hx hb dX4_net_31 hl (by decide) rfl (fun ls hl => ?_)
      refine lv_iinc (v := 2) (lv' := [(6, .int 2), (4, .long (((dp σ j h) - (g_dd σ ((4 * j) + 0))) - (g_dd σ ((4 * j) + 1)))), (0, .ref (b 0)), (1, .int (nI j)), (2, .long h)]) hx hb dX4_net_33 hl (k := 1) rfl (by decide) (by decide) rfl (fun ls hl => ?_)
      refine lv_goto (tgt := 11) hx hb dX4_net_36 (by decide) ?_
      refine lv_iload hx hb dX4_net_11 (lv_at hl 0 rfl) ?_
      refine lv_iconst (v := 4) hx hb dX4_net_13 (by decide) ?_
      refine ic_ge (tgt := 39) hx hb dX4_net_14 (by decide) (fun c_3 => ?_) (fun c_3 => ?_)
      · skip
        exact absurd c_3 (by decide)
      · skip
        refine lv_lload hx hb dX4_net_17 (lv_at hl 1 rfl) ?_
        refine lv_aload_n hx hb dX4_net_19 rfl (lv_at hl 2 rfl) ?_
        refine va_get (D := G) (ci := 4) (v := .ref (b 5)) (C := RX4) (T := TX4) (N := 13) hx hb hts hX4 hown hK hP (0) wM_e0 rfl 6 (by decide) (hts (.fieldLink RX4 23 "DraftSurveyModel" "deductions" "[J") (by decide +kernel)) (fun _ h9 => h9) rfl dX4_net_20 ?_
        refine lv_iconst (v := 4) hx hb dX4_net_23 (by decide) ?_
        refine lv_iload_n hx hb dX4_net_24 rfl (lv_at hl 3 rfl) ?_
        refine lv_imul hx hb dX4_net_25 ?_
        refine tp_i (v := nI (4 * j)) (pk_mul 4 j) ?_
        refine lv_iload hx hb dX4_net_26 (lv_at hl 0 rfl) ?_
        refine lv_iadd hx hb dX4_net_28 ?_
        refine tp_i (v := nI ((4 * j) + 2)) (nI_add (4 * j) 2) ?_
        refine ar_l (k := ((4 * j) + 2)) (v := g_dd σ ((4 * j) + 2)) hx hb hK hP (5) 1 wM_e5 rfl rfl (by omega) (by decide) rfl dX4_net_29 ?_
        refine lv_lsub hx hb dX4_net_30 ?_
        refine lv_lstore (lv' := [(4, .long ((((dp σ j h) - (g_dd σ ((4 * j) + 0))) - (g_dd σ ((4 * j) + 1))) - (g_dd σ ((4 * j) + 2)))), (6, .int 2), (0, .ref (b 0)), (1, .int (nI j)), (2, .long h)]) hx hb dX4_net_31 hl (by decide) rfl (fun ls hl => ?_)
        refine lv_iinc (v := 3) (lv' := [(6, .int 3), (4, .long ((((dp σ j h) - (g_dd σ ((4 * j) + 0))) - (g_dd σ ((4 * j) + 1))) - (g_dd σ ((4 * j) + 2)))), (0, .ref (b 0)), (1, .int (nI j)), (2, .long h)]) hx hb dX4_net_33 hl (k := 1) rfl (by decide) (by decide) rfl (fun ls hl => ?_)
        refine lv_goto (tgt := 11) hx hb dX4_net_36 (by decide) ?_
        refine lv_iload hx hb dX4_net_11 (lv_at hl 0 rfl) ?_
        refine lv_iconst (v := 4) hx hb dX4_net_13 (by decide) ?_
        refine ic_ge (tgt := 39) hx hb dX4_net_14 (by decide) (fun c_4 => ?_) (fun c_4 => ?_)
        · skip
          exact absurd c_4 (by decide)
        · skip
          refine lv_lload hx hb dX4_net_17 (lv_at hl 1 rfl) ?_
          refine lv_aload_n hx hb dX4_net_19 rfl (lv_at hl 2 rfl) ?_
          refine va_get (D := G) (ci := 4) (v := .ref (b 5)) (C := RX4) (T := TX4) (N := 13) hx hb hts hX4 hown hK hP (0) wM_e0 rfl 6 (by decide) (hts (.fieldLink RX4 23 "DraftSurveyModel" "deductions" "[J") (by decide +kernel)) (fun _ h9 => h9) rfl dX4_net_20 ?_
          refine lv_iconst (v := 4) hx hb dX4_net_23 (by decide) ?_
          refine lv_iload_n hx hb dX4_net_24 rfl (lv_at hl 3 rfl) ?_
          refine lv_imul hx hb dX4_net_25 ?_
          refine tp_i (v := nI (4 * j)) (pk_mul 4 j) ?_
          refine lv_iload hx hb dX4_net_26 (lv_at hl 0 rfl) ?_
          refine lv_iadd hx hb dX4_net_28 ?_
          refine tp_i (v := nI ((4 * j) + 3)) (nI_add (4 * j) 3) ?_
          refine ar_l (k := ((4 * j) + 3)) (v := g_dd σ ((4 * j) + 3)) hx hb hK hP (5) 1 wM_e5 rfl rfl (by omega) (by decide) rfl dX4_net_29 ?_
          refine lv_lsub hx hb dX4_net_30 ?_
          refine lv_lstore (lv' := [(4, .long (((((dp σ j h) - (g_dd σ ((4 * j) + 0))) - (g_dd σ ((4 * j) + 1))) - (g_dd σ ((4 * j) + 2))) - (g_dd σ ((4 * j) + 3)))), (6, .int 3), (0, .ref (b 0)), (1, .int (nI j)), (2, .long h)]) hx hb dX4_net_31 hl (by decide) rfl (fun ls hl => ?_)
          refine lv_iinc (v := 4) (lv' := [(6, .int 4), (4, .long (((((dp σ j h) - (g_dd σ ((4 * j) + 0))) - (g_dd σ ((4 * j) + 1))) - (g_dd σ ((4 * j) + 2))) - (g_dd σ ((4 * j) + 3)))), (0, .ref (b 0)), (1, .int (nI j)), (2, .long h)]) hx hb dX4_net_33 hl (k := 1) rfl (by decide) (by decide) rfl (fun ls hl => ?_)
          refine lv_goto (tgt := 11) hx hb dX4_net_36 (by decide) ?_
          refine lv_iload hx hb dX4_net_11 (lv_at hl 0 rfl) ?_
          refine lv_iconst (v := 4) hx hb dX4_net_13 (by decide) ?_
          refine ic_ge (tgt := 39) hx hb dX4_net_14 (by decide) (fun c_5 => ?_) (fun c_5 => ?_)
          · skip
            refine lv_lload hx hb dX4_net_39 (lv_at hl 1 rfl) ?_
            exact rd_lret hx hb hr hlocks (congrArg Value.long (by unfold nw de; grind)) dX4_net_41
          · skip
            exact absurd c_5 (by decide)

set_option maxHeartbeats 4000000 in
set_option maxRecDepth 100000 in
theorem m_fstT (l : Launch) (G : va_G) (C : Nat → ClassId) (b : Nat → Nat) (σ : SG) (ρ : KM) (hI : Inv σ) {j : Nat} (hj : j < 4) : RdC l yX4_firstTold wsX4_firstTold ({ frames := 4, cells := 0, slots := 0, locals := 101 } : Room) G (tysC C) (wM C b σ ρ) [.ref (b 0), .int (nI j)] (.long (tFirst σ j)) := by
  refine Met.ofW (cc := cX4_firstTold) (maxL := 2) (ret := (some .long)) (by decide) rfl ?_
  intro p e s m args below meth c s₁ B hml hv
  obtain ⟨rfl, hP, hK, hN⟩ := hv
  have hx := B.exec
  have hb := B.bytes
  have hr := B.returns
  have hts := atoms_spec (ws := wsX4_firstTold) B.pre
  have hown : s.vm.findClass RX4 = some m.cls := findClass_of_methodNamed B.named
  have hlocks := B.notSynchronized
  have hP : va_P G vwCl (wM C b σ ρ) s.heap := hP
  have hl := lv_entry ([.ref (b 0), .int (nI j)]) (n := 2) (Nat.le_of_ble_eq_true rfl)
  rw [lg_entry_eq]
  generalize (lg_sl ([.ref (b 0), .int (nI j)]) ++ List.replicate (2 - (lg_sl ([.ref (b 0), .int (nI j)])).length) Slot.unset).toArray = ls at hl ⊢
  have hl : lv_has ls 2 [(0, .ref (b 0)), (1, .int (nI j))] := hl
  refine lv_aload_n hx hb dX4_firstTold_0 rfl (lv_at hl 0 rfl) ?_
  refine lv_iload_n hx hb dX4_firstTold_1 rfl (lv_at hl 1 rfl) ?_
  refine lv_lconst (v := 0) hx hb dX4_firstTold_2 (by decide) ?_
  refine rd_callV (As := [.int (nI j), .long 0]) (rest := []) ⟨hx, hb, hml, hown, hts⟩ (m_comp l G C b σ ρ hI (j := j) hj sm_0) (cwV 2 hts gX4_firstTold_X4_isComputable rfl rfl rfl (by decide +kernel) ⟨Nat.le_of_ble_eq_true rfl, Nat.le_of_ble_eq_true rfl⟩) hK hN hP (0) 4 wM_e0 rfl rfl rfl hl.1 rfl (Nat.le_of_ble_eq_true rfl) dX4_firstTold_3 ⟨Nat.zero_le _, Nat.zero_le _⟩ ?_
  refine br_beq (tgt := 18) hx hb dX4_firstTold_6 (by decide) (fun c_1 => ?_) (fun c_1 => ?_)
  · skip
    refine lv_ldc2 (v := (-9000000000000000007)) hx hb hown (hts (.constantLong RX4 110 (-9000000000000000007)) (by decide +kernel)) dX4_firstTold_18 ?_
    exact rd_lret hx hb hr hlocks (congrArg Value.long (if_neg c_1).symm) dX4_firstTold_21
  · skip
    refine lv_aload_n hx hb dX4_firstTold_9 rfl (lv_at hl 0 rfl) ?_
    refine lv_iload_n hx hb dX4_firstTold_10 rfl (lv_at hl 1 rfl) ?_
    refine lv_lconst (v := 0) hx hb dX4_firstTold_11 (by decide) ?_
    refine rd_callV (As := [.int (nI j), .long 0]) (rest := []) ⟨hx, hb, hml, hown, hts⟩ (m_first l G C b σ ρ hI (j := j) hj sm_0 c_1) (cwV 2 hts gX4_firstTold_X4_first rfl rfl rfl (by decide +kernel) ⟨Nat.le_of_ble_eq_true rfl, Nat.le_of_ble_eq_true rfl⟩) hK hN hP (0) 4 wM_e0 rfl rfl rfl hl.1 rfl (Nat.le_of_ble_eq_true rfl) dX4_firstTold_12 ⟨Nat.zero_le _, Nat.zero_le _⟩ ?_
    refine tp_l (v := fc σ (qm σ j) (tr σ j)) (by rw [Int64.add_zero]) ?_
    refine lv_goto (tgt := 21) hx hb dX4_firstTold_15 (by decide) ?_
    exact rd_lret hx hb hr hlocks (congrArg Value.long (if_pos c_1).symm) dX4_firstTold_21

set_option maxHeartbeats 4000000 in
set_option maxRecDepth 100000 in
theorem m_sndT (l : Launch) (G : va_G) (C : Nat → ClassId) (b : Nat → Nat) (σ : SG) (ρ : KM) (hI : Inv σ) {j : Nat} (hj : j < 4) : RdC l yX4_secondTold wsX4_secondTold ({ frames := 4, cells := 0, slots := 0, locals := 107 } : Room) G (tysC C) (wM C b σ ρ) [.ref (b 0), .int (nI j)] (.long (tSecond σ j)) := by
  refine Met.ofW (cc := cX4_secondTold) (maxL := 2) (ret := (some .long)) (by decide) rfl ?_
  intro p e s m args below meth c s₁ B hml hv
  obtain ⟨rfl, hP, hK, hN⟩ := hv
  have hx := B.exec
  have hb := B.bytes
  have hr := B.returns
  have hts := atoms_spec (ws := wsX4_secondTold) B.pre
  have hown : s.vm.findClass RX4 = some m.cls := findClass_of_methodNamed B.named
  have hlocks := B.notSynchronized
  have hP : va_P G vwCl (wM C b σ ρ) s.heap := hP
  have hl := lv_entry ([.ref (b 0), .int (nI j)]) (n := 2) (Nat.le_of_ble_eq_true rfl)
  rw [lg_entry_eq]
  generalize (lg_sl ([.ref (b 0), .int (nI j)]) ++ List.replicate (2 - (lg_sl ([.ref (b 0), .int (nI j)])).length) Slot.unset).toArray = ls at hl ⊢
  have hl : lv_has ls 2 [(0, .ref (b 0)), (1, .int (nI j))] := hl
  refine lv_aload_n hx hb dX4_secondTold_0 rfl (lv_at hl 0 rfl) ?_
  refine lv_iload_n hx hb dX4_secondTold_1 rfl (lv_at hl 1 rfl) ?_
  refine lv_lconst (v := 0) hx hb dX4_secondTold_2 (by decide) ?_
  refine rd_callV (As := [.int (nI j), .long 0]) (rest := []) ⟨hx, hb, hml, hown, hts⟩ (m_comp l G C b σ ρ hI (j := j) hj sm_0) (cwV 2 hts gX4_secondTold_X4_isComputable rfl rfl rfl (by decide +kernel) ⟨Nat.le_of_ble_eq_true rfl, Nat.le_of_ble_eq_true rfl⟩) hK hN hP (0) 4 wM_e0 rfl rfl rfl hl.1 rfl (Nat.le_of_ble_eq_true rfl) dX4_secondTold_3 ⟨Nat.zero_le _, Nat.zero_le _⟩ ?_
  refine br_beq (tgt := 18) hx hb dX4_secondTold_6 (by decide) (fun c_1 => ?_) (fun c_1 => ?_)
  · skip
    refine lv_ldc2 (v := (-9000000000000000007)) hx hb hown (hts (.constantLong RX4 110 (-9000000000000000007)) (by decide +kernel)) dX4_secondTold_18 ?_
    exact rd_lret hx hb hr hlocks (congrArg Value.long (if_neg c_1).symm) dX4_secondTold_21
  · skip
    refine lv_aload_n hx hb dX4_secondTold_9 rfl (lv_at hl 0 rfl) ?_
    refine lv_iload_n hx hb dX4_secondTold_10 rfl (lv_at hl 1 rfl) ?_
    refine lv_lconst (v := 0) hx hb dX4_secondTold_11 (by decide) ?_
    refine rd_callV (As := [.int (nI j), .long 0]) (rest := []) ⟨hx, hb, hml, hown, hts⟩ (m_second l G C b σ ρ hI (j := j) hj sm_0 c_1) (cwV 2 hts gX4_secondTold_X4_second rfl rfl rfl (by decide +kernel) ⟨Nat.le_of_ble_eq_true rfl, Nat.le_of_ble_eq_true rfl⟩) hK hN hP (0) 4 wM_e0 rfl rfl rfl hl.1 rfl (Nat.le_of_ble_eq_true rfl) dX4_secondTold_12 ⟨Nat.zero_le _, Nat.zero_le _⟩ ?_
    refine tp_l (v := sc σ (qm σ j) (tr σ j)) (by rw [Int64.add_zero]) ?_
    refine lv_goto (tgt := 21) hx hb dX4_secondTold_15 (by decide) ?_
    exact rd_lret hx hb hr hlocks (congrArg Value.long (if_pos c_1).symm) dX4_secondTold_21

set_option maxHeartbeats 4000000 in
set_option maxRecDepth 100000 in
theorem m_dspT (l : Launch) (G : va_G) (C : Nat → ClassId) (b : Nat → Nat) (σ : SG) (ρ : KM) (hI : Inv σ) {j : Nat} (hj : j < 4) {h : Int64} (hh : sm h) : RdC l yX4_displacedTold wsX4_displacedTold ({ frames := 5, cells := 0, slots := 0, locals := 132 } : Room) G (tysC C) (wM C b σ ρ) [.ref (b 0), .int (nI j), .long h] (.long (tDisp σ j h)) := by
  refine Met.ofW (cc := cX4_displacedTold) (maxL := 4) (ret := (some .long)) (by decide) rfl ?_
  intro p e s m args below meth c s₁ B hml hv
  obtain ⟨rfl, hP, hK, hN⟩ := hv
  have hx := B.exec
  have hb := B.bytes
  have hr := B.returns
  have hts := atoms_spec (ws := wsX4_displacedTold) B.pre
  have hown : s.vm.findClass RX4 = some m.cls := findClass_of_methodNamed B.named
  have hlocks := B.notSynchronized
  have hP : va_P G vwCl (wM C b σ ρ) s.heap := hP
  have hl := lv_entry ([.ref (b 0), .int (nI j), .long h]) (n := 4) (Nat.le_of_ble_eq_true rfl)
  rw [lg_entry_eq]
  generalize (lg_sl ([.ref (b 0), .int (nI j), .long h]) ++ List.replicate (4 - (lg_sl ([.ref (b 0), .int (nI j), .long h])).length) Slot.unset).toArray = ls at hl ⊢
  have hl : lv_has ls 4 [(0, .ref (b 0)), (1, .int (nI j)), (2, .long h)] := hl
  refine lv_aload_n hx hb dX4_displacedTold_0 rfl (lv_at hl 0 rfl) ?_
  refine lv_iload_n hx hb dX4_displacedTold_1 rfl (lv_at hl 1 rfl) ?_
  refine lv_lload_n hx hb dX4_displacedTold_2 rfl (lv_at hl 2 rfl) ?_
  refine rd_callV (As := [.int (nI j), .long h]) (rest := []) ⟨hx, hb, hml, hown, hts⟩ (m_comp l G C b σ ρ hI (j := j) hj hh) (cwV 2 hts gX4_displacedTold_X4_isComputable rfl rfl rfl (by decide +kernel) ⟨Nat.le_of_ble_eq_true rfl, Nat.le_of_ble_eq_true rfl⟩) hK hN hP (0) 4 wM_e0 rfl rfl rfl hl.1 rfl (Nat.le_of_ble_eq_true rfl) dX4_displacedTold_3 ⟨Nat.zero_le _, Nat.zero_le _⟩ ?_
  refine br_beq (tgt := 18) hx hb dX4_displacedTold_6 (by decide) (fun c_1 => ?_) (fun c_1 => ?_)
  · skip
    refine lv_ldc2 (v := (-9000000000000000007)) hx hb hown (hts (.constantLong RX4 110 (-9000000000000000007)) (by decide +kernel)) dX4_displacedTold_18 ?_
    exact rd_lret hx hb hr hlocks (congrArg Value.long (if_neg c_1).symm) dX4_displacedTold_21
  · skip
    refine lv_aload_n hx hb dX4_displacedTold_9 rfl (lv_at hl 0 rfl) ?_
    refine lv_iload_n hx hb dX4_displacedTold_10 rfl (lv_at hl 1 rfl) ?_
    refine lv_lload_n hx hb dX4_displacedTold_11 rfl (lv_at hl 2 rfl) ?_
    refine rd_callV (As := [.int (nI j), .long h]) (rest := []) ⟨hx, hb, hml, hown, hts⟩ (m_displ l G C b σ ρ hI (j := j) hj hh c_1) (cwV 2 hts gX4_displacedTold_X4_displaced rfl rfl rfl (by decide +kernel) ⟨Nat.le_of_ble_eq_true rfl, Nat.le_of_ble_eq_true rfl⟩) hK hN hP (0) 4 wM_e0 rfl rfl rfl hl.1 rfl (Nat.le_of_ble_eq_true rfl) dX4_displacedTold_12 ⟨Nat.zero_le _, Nat.zero_le _⟩ ?_
    refine lv_goto (tgt := 21) hx hb dX4_displacedTold_15 (by decide) ?_
    exact rd_lret hx hb hr hlocks (congrArg Value.long (if_pos c_1).symm) dX4_displacedTold_21

set_option maxHeartbeats 4000000 in
set_option maxRecDepth 100000 in
theorem m_netT (l : Launch) (G : va_G) (C : Nat → ClassId) (b : Nat → Nat) (σ : SG) (ρ : KM) (hI : Inv σ) {j : Nat} (hj : j < 4) : RdC l yX4_netTold wsX4_netTold ({ frames := 6, cells := 0, slots := 0, locals := 158 } : Room) G (tysC C) (wM C b σ ρ) [.ref (b 0), .int (nI j)] (.long (tNet σ j)) := by
  refine Met.ofW (cc := cX4_netTold) (maxL := 2) (ret := (some .long)) (by decide) rfl ?_
  intro p e s m args below meth c s₁ B hml hv
  obtain ⟨rfl, hP, hK, hN⟩ := hv
  have hx := B.exec
  have hb := B.bytes
  have hr := B.returns
  have hts := atoms_spec (ws := wsX4_netTold) B.pre
  have hown : s.vm.findClass RX4 = some m.cls := findClass_of_methodNamed B.named
  have hlocks := B.notSynchronized
  have hP : va_P G vwCl (wM C b σ ρ) s.heap := hP
  have hl := lv_entry ([.ref (b 0), .int (nI j)]) (n := 2) (Nat.le_of_ble_eq_true rfl)
  rw [lg_entry_eq]
  generalize (lg_sl ([.ref (b 0), .int (nI j)]) ++ List.replicate (2 - (lg_sl ([.ref (b 0), .int (nI j)])).length) Slot.unset).toArray = ls at hl ⊢
  have hl : lv_has ls 2 [(0, .ref (b 0)), (1, .int (nI j))] := hl
  refine lv_aload_n hx hb dX4_netTold_0 rfl (lv_at hl 0 rfl) ?_
  refine lv_iload_n hx hb dX4_netTold_1 rfl (lv_at hl 1 rfl) ?_
  refine lv_lconst (v := 0) hx hb dX4_netTold_2 (by decide) ?_
  refine rd_callV (As := [.int (nI j), .long 0]) (rest := []) ⟨hx, hb, hml, hown, hts⟩ (m_comp l G C b σ ρ hI (j := j) hj sm_0) (cwV 2 hts gX4_netTold_X4_isComputable rfl rfl rfl (by decide +kernel) ⟨Nat.le_of_ble_eq_true rfl, Nat.le_of_ble_eq_true rfl⟩) hK hN hP (0) 4 wM_e0 rfl rfl rfl hl.1 rfl (Nat.le_of_ble_eq_true rfl) dX4_netTold_3 ⟨Nat.zero_le _, Nat.zero_le _⟩ ?_
  refine br_beq (tgt := 18) hx hb dX4_netTold_6 (by decide) (fun c_1 => ?_) (fun c_1 => ?_)
  · skip
    refine lv_ldc2 (v := (-9000000000000000007)) hx hb hown (hts (.constantLong RX4 110 (-9000000000000000007)) (by decide +kernel)) dX4_netTold_18 ?_
    exact rd_lret hx hb hr hlocks (congrArg Value.long (if_neg c_1).symm) dX4_netTold_21
  · skip
    refine lv_aload_n hx hb dX4_netTold_9 rfl (lv_at hl 0 rfl) ?_
    refine lv_iload_n hx hb dX4_netTold_10 rfl (lv_at hl 1 rfl) ?_
    refine lv_lconst (v := 0) hx hb dX4_netTold_11 (by decide) ?_
    refine rd_callV (As := [.int (nI j), .long 0]) (rest := []) ⟨hx, hb, hml, hown, hts⟩ (m_net l G C b σ ρ hI (j := j) hj sm_0 c_1) (cwV 2 hts gX4_netTold_X4_net rfl rfl rfl (by decide +kernel) ⟨Nat.le_of_ble_eq_true rfl, Nat.le_of_ble_eq_true rfl⟩) hK hN hP (0) 4 wM_e0 rfl rfl rfl hl.1 rfl (Nat.le_of_ble_eq_true rfl) dX4_netTold_12 ⟨Nat.zero_le _, Nat.zero_le _⟩ ?_
    refine lv_goto (tgt := 21) hx hb dX4_netTold_15 (by decide) ?_
    exact rd_lret hx hb hr hlocks (congrArg Value.long (if_pos c_1).symm) dX4_netTold_21

set_option maxHeartbeats 4000000 in
set_option maxRecDepth 100000 in
theorem m_carT (l : Launch) (G : va_G) (C : Nat → ClassId) (b : Nat → Nat) (σ : SG) (ρ : KM) (hI : Inv σ) {i j : Nat} (hi : i < 4) (hj : j < 4) : RdC l yX4_cargoTold wsX4_cargoTold ({ frames := 6, cells := 0, slots := 0, locals := 158 } : Room) G (tysC C) (wM C b σ ρ) [.ref (b 0), .int (nI i), .int (nI j)] (.long (tCargo σ i j)) := by
  refine Met.ofW (cc := cX4_cargoTold) (maxL := 3) (ret := (some .long)) (by decide) rfl ?_
  intro p e s m args below meth c s₁ B hml hv
  obtain ⟨rfl, hP, hK, hN⟩ := hv
  have hx := B.exec
  have hb := B.bytes
  have hr := B.returns
  have hts := atoms_spec (ws := wsX4_cargoTold) B.pre
  have hown : s.vm.findClass RX4 = some m.cls := findClass_of_methodNamed B.named
  have hlocks := B.notSynchronized
  have hP : va_P G vwCl (wM C b σ ρ) s.heap := hP
  have hl := lv_entry ([.ref (b 0), .int (nI i), .int (nI j)]) (n := 3) (Nat.le_of_ble_eq_true rfl)
  rw [lg_entry_eq]
  generalize (lg_sl ([.ref (b 0), .int (nI i), .int (nI j)]) ++ List.replicate (3 - (lg_sl ([.ref (b 0), .int (nI i), .int (nI j)])).length) Slot.unset).toArray = ls at hl ⊢
  have hl : lv_has ls 3 [(0, .ref (b 0)), (1, .int (nI i)), (2, .int (nI j))] := hl
  refine lv_aload_n hx hb dX4_cargoTold_0 rfl (lv_at hl 0 rfl) ?_
  refine lv_iload_n hx hb dX4_cargoTold_1 rfl (lv_at hl 1 rfl) ?_
  refine lv_lconst (v := 0) hx hb dX4_cargoTold_2 (by decide) ?_
  refine rd_callV (As := [.int (nI i), .long 0]) (rest := []) ⟨hx, hb, hml, hown, hts⟩ (m_comp l G C b σ ρ hI (j := i) hi sm_0) (cwV 2 hts gX4_cargoTold_X4_isComputable rfl rfl rfl (by decide +kernel) ⟨Nat.le_of_ble_eq_true rfl, Nat.le_of_ble_eq_true rfl⟩) hK hN hP (0) 4 wM_e0 rfl rfl rfl hl.1 rfl (Nat.le_of_ble_eq_true rfl) dX4_cargoTold_3 ⟨Nat.zero_le _, Nat.zero_le _⟩ ?_
  refine br_beq (tgt := 34) hx hb dX4_cargoTold_6 (by decide) (fun c_1 => ?_) (fun c_1 => ?_)
  · skip
    refine lv_ldc2 (v := (-9000000000000000007)) hx hb hown (hts (.constantLong RX4 110 (-9000000000000000007)) (by decide +kernel)) dX4_cargoTold_34 ?_
    exact rd_lret hx hb hr hlocks (congrArg Value.long (if_neg (fun q => c_1 q.1)).symm) dX4_cargoTold_37
  · skip
    refine lv_aload_n hx hb dX4_cargoTold_9 rfl (lv_at hl 0 rfl) ?_
    refine lv_iload_n hx hb dX4_cargoTold_10 rfl (lv_at hl 2 rfl) ?_
    refine lv_lconst (v := 0) hx hb dX4_cargoTold_11 (by decide) ?_
    refine rd_callV (As := [.int (nI j), .long 0]) (rest := []) ⟨hx, hb, hml, hown, hts⟩ (m_comp l G C b σ ρ hI (j := j) hj sm_0) (cwV 2 hts gX4_cargoTold_X4_isComputable rfl rfl rfl (by decide +kernel) ⟨Nat.le_of_ble_eq_true rfl, Nat.le_of_ble_eq_true rfl⟩) hK hN hP (0) 4 wM_e0 rfl rfl rfl hl.1 rfl (Nat.le_of_ble_eq_true rfl) dX4_cargoTold_12 ⟨Nat.zero_le _, Nat.zero_le _⟩ ?_
    refine br_beq (tgt := 34) hx hb dX4_cargoTold_15 (by decide) (fun c_2 => ?_) (fun c_2 => ?_)
    · skip
      refine lv_ldc2 (v := (-9000000000000000007)) hx hb hown (hts (.constantLong RX4 110 (-9000000000000000007)) (by decide +kernel)) dX4_cargoTold_34 ?_
      exact rd_lret hx hb hr hlocks (congrArg Value.long (if_neg (fun q => c_2 q.2)).symm) dX4_cargoTold_37
    · skip
      refine lv_aload_n hx hb dX4_cargoTold_18 rfl (lv_at hl 0 rfl) ?_
      refine lv_iload_n hx hb dX4_cargoTold_19 rfl (lv_at hl 2 rfl) ?_
      refine lv_lconst (v := 0) hx hb dX4_cargoTold_20 (by decide) ?_
      refine rd_callV (As := [.int (nI j), .long 0]) (rest := []) ⟨hx, hb, hml, hown, hts⟩ (m_net l G C b σ ρ hI (j := j) hj sm_0 c_2) (cwV 2 hts gX4_cargoTold_X4_net rfl rfl rfl (by decide +kernel) ⟨Nat.le_of_ble_eq_true rfl, Nat.le_of_ble_eq_true rfl⟩) hK hN hP (0) 4 wM_e0 rfl rfl rfl hl.1 rfl (Nat.le_of_ble_eq_true rfl) dX4_cargoTold_21 ⟨Nat.zero_le _, Nat.zero_le _⟩ ?_
      refine lv_aload_n hx hb dX4_cargoTold_24 rfl (lv_at hl 0 rfl) ?_
      refine lv_iload_n hx hb dX4_cargoTold_25 rfl (lv_at hl 1 rfl) ?_
      refine lv_lconst (v := 0) hx hb dX4_cargoTold_26 (by decide) ?_
      refine rd_callV (As := [.int (nI i), .long 0]) (rest := [.long (nw σ j 0)]) ⟨hx, hb, hml, hown, hts⟩ (m_net l G C b σ ρ hI (j := i) hi sm_0 c_1) (cwV 2 hts gX4_cargoTold_X4_net rfl rfl rfl (by decide +kernel) ⟨Nat.le_of_ble_eq_true rfl, Nat.le_of_ble_eq_true rfl⟩) hK hN hP (0) 4 wM_e0 rfl rfl rfl hl.1 rfl (Nat.le_of_ble_eq_true rfl) dX4_cargoTold_27 ⟨Nat.zero_le _, Nat.zero_le _⟩ ?_
      refine lv_lsub hx hb dX4_cargoTold_30 ?_
      refine lv_goto (tgt := 37) hx hb dX4_cargoTold_31 (by decide) ?_
      exact rd_lret hx hb hr hlocks (congrArg Value.long (if_pos ⟨c_1, c_2⟩).symm) dX4_cargoTold_37

set_option maxHeartbeats 4000000 in
set_option maxRecDepth 100000 in
theorem m_hasB (l : Launch) (G : va_G) (C : Nat → ClassId) (b : Nat → Nat) (σ : SG) (ρ : KM) (hI : Inv σ) {j : Nat} (hj : j < 4) : RdC l yX4_hasBounds wsX4_hasBounds ({ frames := 4, cells := 0, slots := 0, locals := 99 } : Room) G (tysC C) (wM C b σ ρ) [.ref (b 0), .int (nI j)] (.int (if cmm σ j then 1 else 0)) := by
  refine Met.ofW (cc := cX4_hasBounds) (maxL := 2) (ret := (some .boolean)) (by decide) rfl ?_
  intro p e s m args below meth c s₁ B hml hv
  obtain ⟨rfl, hP, hK, hN⟩ := hv
  have hx := B.exec
  have hb := B.bytes
  have hr := B.returns
  have hts := atoms_spec (ws := wsX4_hasBounds) B.pre
  have hown : s.vm.findClass RX4 = some m.cls := findClass_of_methodNamed B.named
  have hlocks := B.notSynchronized
  have hX4 : ∀ w ∈ wsX40, w ∈ wsX4_hasBounds := by decide +kernel
  have hP : va_P G vwCl (wM C b σ ρ) s.heap := hP
  have hl := lv_entry ([.ref (b 0), .int (nI j)]) (n := 2) (Nat.le_of_ble_eq_true rfl)
  rw [lg_entry_eq]
  generalize (lg_sl ([.ref (b 0), .int (nI j)]) ++ List.replicate (2 - (lg_sl ([.ref (b 0), .int (nI j)])).length) Slot.unset).toArray = ls at hl ⊢
  have hl : lv_has ls 2 [(0, .ref (b 0)), (1, .int (nI j))] := hl
  refine lv_aload_n hx hb dX4_hasBounds_0 rfl (lv_at hl 0 rfl) ?_
  refine lv_iload_n hx hb dX4_hasBounds_1 rfl (lv_at hl 1 rfl) ?_
  refine lv_aload_n hx hb dX4_hasBounds_2 rfl (lv_at hl 0 rfl) ?_
  refine va_get (D := G) (ci := 4) (v := .long (g_mar σ)) (C := RX4) (T := TX4) (N := 13) hx hb hts hX4 hown hK hP (0) wM_e0 rfl 8 (by decide) (hts (.fieldLink RX4 118 "DraftSurveyModel" "margin" "J") (by decide +kernel)) (fun _ h9 => h9) rfl dX4_hasBounds_3 ?_
  refine lv_lneg hx hb dX4_hasBounds_6 ?_
  refine rd_callV (As := [.int (nI j), .long (-(g_mar σ))]) (rest := []) ⟨hx, hb, hml, hown, hts⟩ (m_comp l G C b σ ρ hI (j := j) hj (sm_marN hI)) (cwV 2 hts gX4_hasBounds_X4_isComputable rfl rfl rfl (by decide +kernel) ⟨Nat.le_of_ble_eq_true rfl, Nat.le_of_ble_eq_true rfl⟩) hK hN hP (0) 4 wM_e0 rfl rfl rfl hl.1 rfl (Nat.le_of_ble_eq_true rfl) dX4_hasBounds_7 ⟨Nat.zero_le _, Nat.zero_le _⟩ ?_
  refine br_beq (tgt := 29) hx hb dX4_hasBounds_10 (by decide) (fun c_1 => ?_) (fun c_1 => ?_)
  · skip
    refine lv_iconst (v := 0) hx hb dX4_hasBounds_29 (by decide) ?_
    exact rd_zret hx hb hr hlocks (Or.inl rfl) (congrArg Value.int (if_neg (fun q => c_1 q.1)).symm) dX4_hasBounds_30
  · skip
    refine lv_aload_n hx hb dX4_hasBounds_13 rfl (lv_at hl 0 rfl) ?_
    refine lv_iload_n hx hb dX4_hasBounds_14 rfl (lv_at hl 1 rfl) ?_
    refine lv_aload_n hx hb dX4_hasBounds_15 rfl (lv_at hl 0 rfl) ?_
    refine va_get (D := G) (ci := 4) (v := .long (g_mar σ)) (C := RX4) (T := TX4) (N := 13) hx hb hts hX4 hown hK hP (0) wM_e0 rfl 8 (by decide) (hts (.fieldLink RX4 118 "DraftSurveyModel" "margin" "J") (by decide +kernel)) (fun _ h9 => h9) rfl dX4_hasBounds_16 ?_
    refine rd_callV (As := [.int (nI j), .long (g_mar σ)]) (rest := []) ⟨hx, hb, hml, hown, hts⟩ (m_comp l G C b σ ρ hI (j := j) hj (sm_mar hI)) (cwV 2 hts gX4_hasBounds_X4_isComputable rfl rfl rfl (by decide +kernel) ⟨Nat.le_of_ble_eq_true rfl, Nat.le_of_ble_eq_true rfl⟩) hK hN hP (0) 4 wM_e0 rfl rfl rfl hl.1 rfl (Nat.le_of_ble_eq_true rfl) dX4_hasBounds_19 ⟨Nat.zero_le _, Nat.zero_le _⟩ ?_
    refine br_beq (tgt := 29) hx hb dX4_hasBounds_22 (by decide) (fun c_2 => ?_) (fun c_2 => ?_)
    · skip
      refine lv_iconst (v := 0) hx hb dX4_hasBounds_29 (by decide) ?_
      exact rd_zret hx hb hr hlocks (Or.inl rfl) (congrArg Value.int (if_neg (fun q => c_2 q.2)).symm) dX4_hasBounds_30
    · skip
      refine lv_iconst (v := 1) hx hb dX4_hasBounds_25 (by decide) ?_
      refine lv_goto (tgt := 30) hx hb dX4_hasBounds_26 (by decide) ?_
      exact rd_zret hx hb hr hlocks (Or.inr rfl) (congrArg Value.int (if_pos ⟨c_1, c_2⟩).symm) dX4_hasBounds_30

set_option maxHeartbeats 4000000 in
set_option maxRecDepth 100000 in
theorem m_light (l : Launch) (G : va_G) (C : Nat → ClassId) (b : Nat → Nat) (σ : SG) (ρ : KM) (hI : Inv σ) {j : Nat} (hj : j < 4) (hc : cmm σ j) : RdC l yX4_light wsX4_light ({ frames := 6, cells := 0, slots := 0, locals := 158 } : Room) G (tysC C) (wM C b σ ρ) [.ref (b 0), .int (nI j)] (.long (li σ j)) := by
  refine Met.ofW (cc := cX4_light) (maxL := 6) (ret := (some .long)) (by decide) rfl ?_
  intro p e s m args below meth c s₁ B hml hv
  obtain ⟨rfl, hP, hK, hN⟩ := hv
  have hx := B.exec
  have hb := B.bytes
  have hr := B.returns
  have hts := atoms_spec (ws := wsX4_light) B.pre
  have hown : s.vm.findClass RX4 = some m.cls := findClass_of_methodNamed B.named
  have hlocks := B.notSynchronized
  have hX4 : ∀ w ∈ wsX40, w ∈ wsX4_light := by decide +kernel
  have hP : va_P G vwCl (wM C b σ ρ) s.heap := hP
  have hl := lv_entry ([.ref (b 0), .int (nI j)]) (n := 6) (Nat.le_of_ble_eq_true rfl)
  rw [lg_entry_eq]
  generalize (lg_sl ([.ref (b 0), .int (nI j)]) ++ List.replicate (6 - (lg_sl ([.ref (b 0), .int (nI j)])).length) Slot.unset).toArray = ls at hl ⊢
  have hl : lv_has ls 6 [(0, .ref (b 0)), (1, .int (nI j))] := hl
  refine lv_aload_n hx hb dX4_light_0 rfl (lv_at hl 0 rfl) ?_
  refine lv_iload_n hx hb dX4_light_1 rfl (lv_at hl 1 rfl) ?_
  refine lv_aload_n hx hb dX4_light_2 rfl (lv_at hl 0 rfl) ?_
  refine va_get (D := G) (ci := 4) (v := .long (g_mar σ)) (C := RX4) (T := TX4) (N := 13) hx hb hts hX4 hown hK hP (0) wM_e0 rfl 8 (by decide) (hts (.fieldLink RX4 118 "DraftSurveyModel" "margin" "J") (by decide +kernel)) (fun _ h9 => h9) rfl dX4_light_3 ?_
  refine lv_lneg hx hb dX4_light_6 ?_
  refine rd_callV (As := [.int (nI j), .long (-(g_mar σ))]) (rest := []) ⟨hx, hb, hml, hown, hts⟩ (m_net l G C b σ ρ hI (j := j) hj (sm_marN hI) hc.1) (cwV 2 hts gX4_light_X4_net rfl rfl rfl (by decide +kernel) ⟨Nat.le_of_ble_eq_true rfl, Nat.le_of_ble_eq_true rfl⟩) hK hN hP (0) 4 wM_e0 rfl rfl rfl hl.1 rfl (Nat.le_of_ble_eq_true rfl) dX4_light_7 ⟨Nat.zero_le _, Nat.zero_le _⟩ ?_
  refine lv_lstore_n (lv' := [(2, .long (nw σ j (-(g_mar σ)))), (0, .ref (b 0)), (1, .int (nI j))]) hx hb dX4_light_10 rfl hl (by decide) rfl (fun ls hl => ?_)
  refine lv_aload_n hx hb dX4_light_11 rfl (lv_at hl 1 rfl) ?_
  refine lv_iload_n hx hb dX4_light_12 rfl (lv_at hl 2 rfl) ?_
  refine lv_aload_n hx hb dX4_light_13 rfl (lv_at hl 1 rfl) ?_
  refine va_get (D := G) (ci := 4) (v := .long (g_mar σ)) (C := RX4) (T := TX4) (N := 13) hx hb hts hX4 hown hK hP (0) wM_e0 rfl 8 (by decide) (hts (.fieldLink RX4 118 "DraftSurveyModel" "margin" "J") (by decide +kernel)) (fun _ h9 => h9) rfl dX4_light_14 ?_
  refine rd_callV (As := [.int (nI j), .long (g_mar σ)]) (rest := []) ⟨hx, hb, hml, hown, hts⟩ (m_net l G C b σ ρ hI (j := j) hj (sm_mar hI) hc.2) (cwV 2 hts gX4_light_X4_net rfl rfl rfl (by decide +kernel) ⟨Nat.le_of_ble_eq_true rfl, Nat.le_of_ble_eq_true rfl⟩) hK hN hP (0) 4 wM_e0 rfl rfl rfl hl.1 rfl (Nat.le_of_ble_eq_true rfl) dX4_light_17 ⟨Nat.zero_le _, Nat.zero_le _⟩ ?_
  refine lv_lstore (lv' := [(4, .long (nw σ j (g_mar σ))), (2, .long (nw σ j (-(g_mar σ)))), (0, .ref (b 0)), (1, .int (nI j))]) hx hb dX4_light_20 hl (by decide) rfl (fun ls hl => ?_)
  refine lv_lload_n hx hb dX4_light_22 rfl (lv_at hl 1 rfl) ?_
  refine lv_lload hx hb dX4_light_23 (lv_at hl 0 rfl) ?_
  refine lc_ge (tgt := 33) hx hb dX4_light_25 dX4_light_26 (by decide) (fun c_1 => ?_) (fun c_1 => ?_)
  · skip
    refine lv_lload hx hb dX4_light_33 (lv_at hl 0 rfl) ?_
    exact rd_lret hx hb hr hlocks (congrArg Value.long (mn_f c_1)) dX4_light_35
  · skip
    refine lv_lload_n hx hb dX4_light_29 rfl (lv_at hl 1 rfl) ?_
    refine lv_goto (tgt := 35) hx hb dX4_light_30 (by decide) ?_
    exact rd_lret hx hb hr hlocks (congrArg Value.long (mn_t c_1)) dX4_light_35

set_option maxHeartbeats 4000000 in
set_option maxRecDepth 100000 in
theorem m_heavy (l : Launch) (G : va_G) (C : Nat → ClassId) (b : Nat → Nat) (σ : SG) (ρ : KM) (hI : Inv σ) {j : Nat} (hj : j < 4) (hc : cmm σ j) : RdC l yX4_heavy wsX4_heavy ({ frames := 6, cells := 0, slots := 0, locals := 158 } : Room) G (tysC C) (wM C b σ ρ) [.ref (b 0), .int (nI j)] (.long (he σ j)) := by
  refine Met.ofW (cc := cX4_heavy) (maxL := 6) (ret := (some .long)) (by decide) rfl ?_
  intro p e s m args below meth c s₁ B hml hv
  obtain ⟨rfl, hP, hK, hN⟩ := hv
  have hx := B.exec
  have hb := B.bytes
  have hr := B.returns
  have hts := atoms_spec (ws := wsX4_heavy) B.pre
  have hown : s.vm.findClass RX4 = some m.cls := findClass_of_methodNamed B.named
  have hlocks := B.notSynchronized
  have hX4 : ∀ w ∈ wsX40, w ∈ wsX4_heavy := by decide +kernel
  have hP : va_P G vwCl (wM C b σ ρ) s.heap := hP
  have hl := lv_entry ([.ref (b 0), .int (nI j)]) (n := 6) (Nat.le_of_ble_eq_true rfl)
  rw [lg_entry_eq]
  generalize (lg_sl ([.ref (b 0), .int (nI j)]) ++ List.replicate (6 - (lg_sl ([.ref (b 0), .int (nI j)])).length) Slot.unset).toArray = ls at hl ⊢
  have hl : lv_has ls 6 [(0, .ref (b 0)), (1, .int (nI j))] := hl
  refine lv_aload_n hx hb dX4_heavy_0 rfl (lv_at hl 0 rfl) ?_
  refine lv_iload_n hx hb dX4_heavy_1 rfl (lv_at hl 1 rfl) ?_
  refine lv_aload_n hx hb dX4_heavy_2 rfl (lv_at hl 0 rfl) ?_
  refine va_get (D := G) (ci := 4) (v := .long (g_mar σ)) (C := RX4) (T := TX4) (N := 13) hx hb hts hX4 hown hK hP (0) wM_e0 rfl 8 (by decide) (hts (.fieldLink RX4 118 "DraftSurveyModel" "margin" "J") (by decide +kernel)) (fun _ h9 => h9) rfl dX4_heavy_3 ?_
  refine lv_lneg hx hb dX4_heavy_6 ?_
  refine rd_callV (As := [.int (nI j), .long (-(g_mar σ))]) (rest := []) ⟨hx, hb, hml, hown, hts⟩ (m_net l G C b σ ρ hI (j := j) hj (sm_marN hI) hc.1) (cwV 2 hts gX4_heavy_X4_net rfl rfl rfl (by decide +kernel) ⟨Nat.le_of_ble_eq_true rfl, Nat.le_of_ble_eq_true rfl⟩) hK hN hP (0) 4 wM_e0 rfl rfl rfl hl.1 rfl (Nat.le_of_ble_eq_true rfl) dX4_heavy_7 ⟨Nat.zero_le _, Nat.zero_le _⟩ ?_
  refine lv_lstore_n (lv' := [(2, .long (nw σ j (-(g_mar σ)))), (0, .ref (b 0)), (1, .int (nI j))]) hx hb dX4_heavy_10 rfl hl (by decide) rfl (fun ls hl => ?_)
  refine lv_aload_n hx hb dX4_heavy_11 rfl (lv_at hl 1 rfl) ?_
  refine lv_iload_n hx hb dX4_heavy_12 rfl (lv_at hl 2 rfl) ?_
  refine lv_aload_n hx hb dX4_heavy_13 rfl (lv_at hl 1 rfl) ?_
  refine va_get (D := G) (ci := 4) (v := .long (g_mar σ)) (C := RX4) (T := TX4) (N := 13) hx hb hts hX4 hown hK hP (0) wM_e0 rfl 8 (by decide) (hts (.fieldLink RX4 118 "DraftSurveyModel" "margin" "J") (by decide +kernel)) (fun _ h9 => h9) rfl dX4_heavy_14 ?_
  refine rd_callV (As := [.int (nI j), .long (g_mar σ)]) (rest := []) ⟨hx, hb, hml, hown, hts⟩ (m_net l G C b σ ρ hI (j := j) hj (sm_mar hI) hc.2) (cwV 2 hts gX4_heavy_X4_net rfl rfl rfl (by decide +kernel) ⟨Nat.le_of_ble_eq_true rfl, Nat.le_of_ble_eq_true rfl⟩) hK hN hP (0) 4 wM_e0 rfl rfl rfl hl.1 rfl (Nat.le_of_ble_eq_true rfl) dX4_heavy_17 ⟨Nat.zero_le _, Nat.zero_le _⟩ ?_
  refine lv_lstore (lv' := [(4, .long (nw σ j (g_mar σ))), (2, .long (nw σ j (-(g_mar σ)))), (0, .ref (b 0)), (1, .int (nI j))]) hx hb dX4_heavy_20 hl (by decide) rfl (fun ls hl => ?_)
  refine lv_lload_n hx hb dX4_heavy_22 rfl (lv_at hl 1 rfl) ?_
  refine lv_lload hx hb dX4_heavy_23 (lv_at hl 0 rfl) ?_
  refine lc_le (tgt := 33) hx hb dX4_heavy_25 dX4_heavy_26 (by decide) (fun c_1 => ?_) (fun c_1 => ?_)
  · skip
    refine lv_lload hx hb dX4_heavy_33 (lv_at hl 0 rfl) ?_
    exact rd_lret hx hb hr hlocks (congrArg Value.long (mx_n c_1)) dX4_heavy_35
  · skip
    refine lv_lload_n hx hb dX4_heavy_29 rfl (lv_at hl 1 rfl) ?_
    refine lv_goto (tgt := 35) hx hb dX4_heavy_30 (by decide) ?_
    exact rd_lret hx hb hr hlocks (congrArg Value.long (mx_g c_1)) dX4_heavy_35

set_option maxHeartbeats 4000000 in
set_option maxRecDepth 100000 in
theorem m_lowT (l : Launch) (G : va_G) (C : Nat → ClassId) (b : Nat → Nat) (σ : SG) (ρ : KM) (hI : Inv σ) {i j : Nat} (hi : i < 4) (hj : j < 4) : RdC l yX4_lowTold wsX4_lowTold ({ frames := 7, cells := 0, slots := 0, locals := 183 } : Room) G (tysC C) (wM C b σ ρ) [.ref (b 0), .int (nI i), .int (nI j)] (.long (tLow σ i j)) := by
  refine Met.ofW (cc := cX4_lowTold) (maxL := 3) (ret := (some .long)) (by decide) rfl ?_
  intro p e s m args below meth c s₁ B hml hv
  obtain ⟨rfl, hP, hK, hN⟩ := hv
  have hx := B.exec
  have hb := B.bytes
  have hr := B.returns
  have hts := atoms_spec (ws := wsX4_lowTold) B.pre
  have hown : s.vm.findClass RX4 = some m.cls := findClass_of_methodNamed B.named
  have hlocks := B.notSynchronized
  have hP : va_P G vwCl (wM C b σ ρ) s.heap := hP
  have hl := lv_entry ([.ref (b 0), .int (nI i), .int (nI j)]) (n := 3) (Nat.le_of_ble_eq_true rfl)
  rw [lg_entry_eq]
  generalize (lg_sl ([.ref (b 0), .int (nI i), .int (nI j)]) ++ List.replicate (3 - (lg_sl ([.ref (b 0), .int (nI i), .int (nI j)])).length) Slot.unset).toArray = ls at hl ⊢
  have hl : lv_has ls 3 [(0, .ref (b 0)), (1, .int (nI i)), (2, .int (nI j))] := hl
  refine lv_aload_n hx hb dX4_lowTold_0 rfl (lv_at hl 0 rfl) ?_
  refine lv_iload_n hx hb dX4_lowTold_1 rfl (lv_at hl 1 rfl) ?_
  refine rd_callV (As := [.int (nI i)]) (rest := []) ⟨hx, hb, hml, hown, hts⟩ (m_hasB l G C b σ ρ hI (j := i) hi) (cwV 1 hts gX4_lowTold_X4_hasBounds rfl rfl rfl (by decide +kernel) ⟨Nat.le_of_ble_eq_true rfl, Nat.le_of_ble_eq_true rfl⟩) hK hN hP (0) 4 wM_e0 rfl rfl rfl hl.1 rfl (Nat.le_of_ble_eq_true rfl) dX4_lowTold_2 ⟨Nat.zero_le _, Nat.zero_le _⟩ ?_
  refine br_beq (tgt := 30) hx hb dX4_lowTold_5 (by decide) (fun c_1 => ?_) (fun c_1 => ?_)
  · skip
    refine lv_ldc2 (v := (-9000000000000000007)) hx hb hown (hts (.constantLong RX4 110 (-9000000000000000007)) (by decide +kernel)) dX4_lowTold_30 ?_
    exact rd_lret hx hb hr hlocks (congrArg Value.long (if_neg (fun q => c_1 q.1)).symm) dX4_lowTold_33
  · skip
    refine lv_aload_n hx hb dX4_lowTold_8 rfl (lv_at hl 0 rfl) ?_
    refine lv_iload_n hx hb dX4_lowTold_9 rfl (lv_at hl 2 rfl) ?_
    refine rd_callV (As := [.int (nI j)]) (rest := []) ⟨hx, hb, hml, hown, hts⟩ (m_hasB l G C b σ ρ hI (j := j) hj) (cwV 1 hts gX4_lowTold_X4_hasBounds rfl rfl rfl (by decide +kernel) ⟨Nat.le_of_ble_eq_true rfl, Nat.le_of_ble_eq_true rfl⟩) hK hN hP (0) 4 wM_e0 rfl rfl rfl hl.1 rfl (Nat.le_of_ble_eq_true rfl) dX4_lowTold_10 ⟨Nat.zero_le _, Nat.zero_le _⟩ ?_
    refine br_beq (tgt := 30) hx hb dX4_lowTold_13 (by decide) (fun c_2 => ?_) (fun c_2 => ?_)
    · skip
      refine lv_ldc2 (v := (-9000000000000000007)) hx hb hown (hts (.constantLong RX4 110 (-9000000000000000007)) (by decide +kernel)) dX4_lowTold_30 ?_
      exact rd_lret hx hb hr hlocks (congrArg Value.long (if_neg (fun q => c_2 q.2)).symm) dX4_lowTold_33
    · skip
      refine lv_aload_n hx hb dX4_lowTold_16 rfl (lv_at hl 0 rfl) ?_
      refine lv_iload_n hx hb dX4_lowTold_17 rfl (lv_at hl 2 rfl) ?_
      refine rd_callV (As := [.int (nI j)]) (rest := []) ⟨hx, hb, hml, hown, hts⟩ (m_light l G C b σ ρ hI (j := j) hj c_2) (cwV 1 hts gX4_lowTold_X4_light rfl rfl rfl (by decide +kernel) ⟨Nat.le_of_ble_eq_true rfl, Nat.le_of_ble_eq_true rfl⟩) hK hN hP (0) 4 wM_e0 rfl rfl rfl hl.1 rfl (Nat.le_of_ble_eq_true rfl) dX4_lowTold_18 ⟨Nat.zero_le _, Nat.zero_le _⟩ ?_
      refine lv_aload_n hx hb dX4_lowTold_21 rfl (lv_at hl 0 rfl) ?_
      refine lv_iload_n hx hb dX4_lowTold_22 rfl (lv_at hl 1 rfl) ?_
      refine rd_callV (As := [.int (nI i)]) (rest := [.long (li σ j)]) ⟨hx, hb, hml, hown, hts⟩ (m_heavy l G C b σ ρ hI (j := i) hi c_1) (cwV 1 hts gX4_lowTold_X4_heavy rfl rfl rfl (by decide +kernel) ⟨Nat.le_of_ble_eq_true rfl, Nat.le_of_ble_eq_true rfl⟩) hK hN hP (0) 4 wM_e0 rfl rfl rfl hl.1 rfl (Nat.le_of_ble_eq_true rfl) dX4_lowTold_23 ⟨Nat.zero_le _, Nat.zero_le _⟩ ?_
      refine lv_lsub hx hb dX4_lowTold_26 ?_
      refine lv_goto (tgt := 33) hx hb dX4_lowTold_27 (by decide) ?_
      exact rd_lret hx hb hr hlocks (congrArg Value.long (if_pos ⟨c_1, c_2⟩).symm) dX4_lowTold_33

set_option maxHeartbeats 4000000 in
set_option maxRecDepth 100000 in
theorem m_highT (l : Launch) (G : va_G) (C : Nat → ClassId) (b : Nat → Nat) (σ : SG) (ρ : KM) (hI : Inv σ) {i j : Nat} (hi : i < 4) (hj : j < 4) : RdC l yX4_highTold wsX4_highTold ({ frames := 7, cells := 0, slots := 0, locals := 183 } : Room) G (tysC C) (wM C b σ ρ) [.ref (b 0), .int (nI i), .int (nI j)] (.long (tHigh σ i j)) := by
  refine Met.ofW (cc := cX4_highTold) (maxL := 3) (ret := (some .long)) (by decide) rfl ?_
  intro p e s m args below meth c s₁ B hml hv
  obtain ⟨rfl, hP, hK, hN⟩ := hv
  have hx := B.exec
  have hb := B.bytes
  have hr := B.returns
  have hts := atoms_spec (ws := wsX4_highTold) B.pre
  have hown : s.vm.findClass RX4 = some m.cls := findClass_of_methodNamed B.named
  have hlocks := B.notSynchronized
  have hP : va_P G vwCl (wM C b σ ρ) s.heap := hP
  have hl := lv_entry ([.ref (b 0), .int (nI i), .int (nI j)]) (n := 3) (Nat.le_of_ble_eq_true rfl)
  rw [lg_entry_eq]
  generalize (lg_sl ([.ref (b 0), .int (nI i), .int (nI j)]) ++ List.replicate (3 - (lg_sl ([.ref (b 0), .int (nI i), .int (nI j)])).length) Slot.unset).toArray = ls at hl ⊢
  have hl : lv_has ls 3 [(0, .ref (b 0)), (1, .int (nI i)), (2, .int (nI j))] := hl
  refine lv_aload_n hx hb dX4_highTold_0 rfl (lv_at hl 0 rfl) ?_
  refine lv_iload_n hx hb dX4_highTold_1 rfl (lv_at hl 1 rfl) ?_
  refine rd_callV (As := [.int (nI i)]) (rest := []) ⟨hx, hb, hml, hown, hts⟩ (m_hasB l G C b σ ρ hI (j := i) hi) (cwV 1 hts gX4_highTold_X4_hasBounds rfl rfl rfl (by decide +kernel) ⟨Nat.le_of_ble_eq_true rfl, Nat.le_of_ble_eq_true rfl⟩) hK hN hP (0) 4 wM_e0 rfl rfl rfl hl.1 rfl (Nat.le_of_ble_eq_true rfl) dX4_highTold_2 ⟨Nat.zero_le _, Nat.zero_le _⟩ ?_
  refine br_beq (tgt := 30) hx hb dX4_highTold_5 (by decide) (fun c_1 => ?_) (fun c_1 => ?_)
  · skip
    refine lv_ldc2 (v := (-9000000000000000007)) hx hb hown (hts (.constantLong RX4 110 (-9000000000000000007)) (by decide +kernel)) dX4_highTold_30 ?_
    exact rd_lret hx hb hr hlocks (congrArg Value.long (if_neg (fun q => c_1 q.1)).symm) dX4_highTold_33
  · skip
    refine lv_aload_n hx hb dX4_highTold_8 rfl (lv_at hl 0 rfl) ?_
    refine lv_iload_n hx hb dX4_highTold_9 rfl (lv_at hl 2 rfl) ?_
    refine rd_callV (As := [.int (nI j)]) (rest := []) ⟨hx, hb, hml, hown, hts⟩ (m_hasB l G C b σ ρ hI (j := j) hj) (cwV 1 hts gX4_highTold_X4_hasBounds rfl rfl rfl (by decide +kernel) ⟨Nat.le_of_ble_eq_true rfl, Nat.le_of_ble_eq_true rfl⟩) hK hN hP (0) 4 wM_e0 rfl rfl rfl hl.1 rfl (Nat.le_of_ble_eq_true rfl) dX4_highTold_10 ⟨Nat.zero_le _, Nat.zero_le _⟩ ?_
    refine br_beq (tgt := 30) hx hb dX4_highTold_13 (by decide) (fun c_2 => ?_) (fun c_2 => ?_)
    · skip
      refine lv_ldc2 (v := (-9000000000000000007)) hx hb hown (hts (.constantLong RX4 110 (-9000000000000000007)) (by decide +kernel)) dX4_highTold_30 ?_
      exact rd_lret hx hb hr hlocks (congrArg Value.long (if_neg (fun q => c_2 q.2)).symm) dX4_highTold_33
    · skip
      refine lv_aload_n hx hb dX4_highTold_16 rfl (lv_at hl 0 rfl) ?_
      refine lv_iload_n hx hb dX4_highTold_17 rfl (lv_at hl 2 rfl) ?_
      refine rd_callV (As := [.int (nI j)]) (rest := []) ⟨hx, hb, hml, hown, hts⟩ (m_heavy l G C b σ ρ hI (j := j) hj c_2) (cwV 1 hts gX4_highTold_X4_heavy rfl rfl rfl (by decide +kernel) ⟨Nat.le_of_ble_eq_true rfl, Nat.le_of_ble_eq_true rfl⟩) hK hN hP (0) 4 wM_e0 rfl rfl rfl hl.1 rfl (Nat.le_of_ble_eq_true rfl) dX4_highTold_18 ⟨Nat.zero_le _, Nat.zero_le _⟩ ?_
      refine lv_aload_n hx hb dX4_highTold_21 rfl (lv_at hl 0 rfl) ?_
      refine lv_iload_n hx hb dX4_highTold_22 rfl (lv_at hl 1 rfl) ?_
      refine rd_callV (As := [.int (nI i)]) (rest := [.long (he σ j)]) ⟨hx, hb, hml, hown, hts⟩ (m_light l G C b σ ρ hI (j := i) hi c_1) (cwV 1 hts gX4_highTold_X4_light rfl rfl rfl (by decide +kernel) ⟨Nat.le_of_ble_eq_true rfl, Nat.le_of_ble_eq_true rfl⟩) hK hN hP (0) 4 wM_e0 rfl rfl rfl hl.1 rfl (Nat.le_of_ble_eq_true rfl) dX4_highTold_23 ⟨Nat.zero_le _, Nat.zero_le _⟩ ?_
      refine lv_lsub hx hb dX4_highTold_26 ?_
      refine lv_goto (tgt := 33) hx hb dX4_highTold_27 (by decide) ?_
      exact rd_lret hx hb hr hlocks (congrArg Value.long (if_pos ⟨c_1, c_2⟩).symm) dX4_highTold_33

set_option maxHeartbeats 4000000 in
set_option maxRecDepth 100000 in
theorem m_best (l : Launch) (G : va_G) (C : Nat → ClassId) (b : Nat → Nat) (σ : SG) (ρ : KM) (hI : Inv σ) : RdC l yX4_heaviestNow wsX4_heaviestNow ({ frames := 6, cells := 0, slots := 0, locals := 158 } : Room) G (tysC C) (wM C b σ ρ) [.ref (b 0)] (.long (aHeaviest σ)) := by
  refine Met.ofW (cc := cX4_heaviestNow) (maxL := 4) (ret := (some .long)) (by decide) rfl ?_
  intro p e s m args below meth c s₁ B hml hv
  obtain ⟨rfl, hP, hK, hN⟩ := hv
  have hx := B.exec
  have hb := B.bytes
  have hr := B.returns
  have hts := atoms_spec (ws := wsX4_heaviestNow) B.pre
  have hown : s.vm.findClass RX4 = some m.cls := findClass_of_methodNamed B.named
  have hlocks := B.notSynchronized
  have hP : va_P G vwCl (wM C b σ ρ) s.heap := hP
  have hl := lv_entry ([.ref (b 0)]) (n := 4) (Nat.le_of_ble_eq_true rfl)
  rw [lg_entry_eq]
  generalize (lg_sl ([.ref (b 0)]) ++ List.replicate (4 - (lg_sl ([.ref (b 0)])).length) Slot.unset).toArray = ls at hl ⊢
  have hl : lv_has ls 4 [(0, .ref (b 0))] := hl
  refine lv_iconst (v := (-1)) hx hb dX4_heaviestNow_0 (by decide) ?_
  refine lv_istore_n (lv' := [(1, .int (-1)), (0, .ref (b 0))]) hx hb dX4_heaviestNow_1 rfl hl (by decide) rfl (fun ls hl => ?_)
  refine lv_iconst (v := 0) hx hb dX4_heaviestNow_2 (by decide) ?_
  refine lv_istore_n (lv' := [(2, .int 0), (1, .int (-1)), (0, .ref (b 0))]) hx hb dX4_heaviestNow_3 rfl hl (by decide) rfl (fun ls hl => ?_)
  have key4 : ∀ (n_ : Nat) (k : Nat) (bv : Int32), 5 ≤ k + n_ → k ≤ 4 → bv = hbI (hbs σ k) → ∀ ls : Array Slot, lv_has ls 4 [(0, .ref (b 0)), (1, .int bv), (2, .int (nI k))] → W p l e (headSpec wsX4_heaviestNow ({ frames := 6, cells := 0, slots := 0, locals := 158 } : Room)).room s m ([.ref (b 0)] : List Value).toArray below meth c s.heap [] 0 0 (MQ below (k2_QcV (.long (aHeaviest σ))) ([.ref (b 0)] : List Value).toArray s 0 0 (fun _ => False)) (F0 m 4 ls []) := by
    intro n_
    induction n_ with
    | zero =>
      intro k bv g_0 g_1 g_2 ls hl
      exact absurd g_0 (by omega)
    | succ n_ ih =>
      intro k bv g_0 g_1 g_2 ls hl
      refine lv_iload_n hx hb dX4_heaviestNow_4 rfl (lv_at hl 2 rfl) ?_
      refine lv_iconst (v := 4) hx hb dX4_heaviestNow_5 (by decide) ?_
      refine ic_ge (tgt := 60) hx hb dX4_heaviestNow_6 (by decide) (fun c_1 => ?_) (fun c_1 => ?_)
      · skip
        have c_1 : ¬ k < 4 := fun z9 => c_1 ((nI_ltI (a := k) (b := 4) (by omega) (by omega)).mpr z9)
        refine lv_iload_n hx hb dX4_heaviestNow_60 rfl (lv_at hl 1 rfl) ?_
        refine ic_if_ge (tgt := 70) hx hb dX4_heaviestNow_61 (by decide) (fun c_2 => ?_) (fun c_2 => ?_)
        · skip
          refine lv_iload_n hx hb dX4_heaviestNow_70 rfl (lv_at hl 1 rfl) ?_
          refine lv_i2l (v := bv.toInt64) hx hb dX4_heaviestNow_71 rfl ?_
          exact rd_lret hx hb hr hlocks (congrArg Value.long (hbE2 (show k = 4 from by omega) g_2 c_2)) dX4_heaviestNow_72
        · skip
          refine lv_ldc2 (v := (-9000000000000000007)) hx hb hown (hts (.constantLong RX4 110 (-9000000000000000007)) (by decide +kernel)) dX4_heaviestNow_64 ?_
          refine lv_goto (tgt := 72) hx hb dX4_heaviestNow_67 (by decide) ?_
          exact rd_lret hx hb hr hlocks (congrArg Value.long (hbE1 (show k = 4 from by omega) g_2 c_2)) dX4_heaviestNow_72
      · skip
        have c_1 : k < 4 := (nI_ltI (a := k) (b := 4) (by omega) (by omega)).mp c_1
        refine lv_aload_n hx hb dX4_heaviestNow_9 rfl (lv_at hl 0 rfl) ?_
        refine lv_iload_n hx hb dX4_heaviestNow_10 rfl (lv_at hl 2 rfl) ?_
        refine lv_lconst (v := 0) hx hb dX4_heaviestNow_11 (by decide) ?_
        refine rd_callV (As := [.int (nI k), .long 0]) (rest := []) ⟨hx, hb, hml, hown, hts⟩ (m_comp l G C b σ ρ hI (j := k) (by omega) sm_0) (cwV 2 hts gX4_heaviestNow_X4_isComputable rfl rfl rfl (by decide +kernel) ⟨Nat.le_of_ble_eq_true rfl, Nat.le_of_ble_eq_true rfl⟩) hK hN hP (0) 4 wM_e0 rfl rfl rfl hl.1 rfl (Nat.le_of_ble_eq_true rfl) dX4_heaviestNow_12 ⟨Nat.zero_le _, Nat.zero_le _⟩ ?_
        refine br_beq (tgt := 42) hx hb dX4_heaviestNow_15 (by decide) (fun c_3 => ?_) (fun c_3 => ?_)
        · skip
          refine lv_iconst (v := 0) hx hb dX4_heaviestNow_42 (by decide) ?_
          refine lv_istore_n (lv' := [(3, .int 0), (0, .ref (b 0)), (1, .int bv), (2, .int (nI k))]) hx hb dX4_heaviestNow_43 rfl hl (by decide) rfl (fun ls hl => ?_)
          refine lv_iload_n hx hb dX4_heaviestNow_44 rfl (lv_at hl 0 rfl) ?_
          refine lv_if_eq (tgt := 52) hx hb dX4_heaviestNow_45 (by decide) (fun c_4 => ?_) (fun c_4 => ?_)
          · skip
            refine lv_iload_n hx hb dX4_heaviestNow_52 rfl (lv_at hl 2 rfl) ?_
            refine lv_istore_n (lv' := [(1, .int bv), (3, .int 0), (0, .ref (b 0)), (2, .int (nI k))]) hx hb dX4_heaviestNow_53 rfl hl (by decide) rfl (fun ls hl => ?_)
            refine lv_iinc (v := nI (k + 1)) (lv' := [(2, .int (nI (k + 1))), (1, .int bv), (3, .int 0), (0, .ref (b 0))]) hx hb dX4_heaviestNow_54 hl (k := 3) rfl (nI_add k 1) (by decide) rfl (fun ls hl => ?_)
            refine lv_goto (tgt := 4) hx hb dX4_heaviestNow_57 (by decide) ?_
            exact ih (k + 1) bv (by omega) (by omega) (by rw [hb_no c_3]; exact g_2) ls (lv_sub hl [3, 1, 0] rfl)
          · skip
            exact absurd c_4 (by decide)
        · skip
          refine lv_iload_n hx hb dX4_heaviestNow_18 rfl (lv_at hl 1 rfl) ?_
          refine lv_if_lt (tgt := 38) hx hb dX4_heaviestNow_19 (by decide) (fun c_5 => ?_) (fun c_5 => ?_)
          · skip
            have e_1 : hbs σ k = none := hbI_neg g_1 (by rw [← g_2]; exact c_5)
            refine lv_iconst (v := 1) hx hb dX4_heaviestNow_38 (by decide) ?_
            refine lv_goto (tgt := 43) hx hb dX4_heaviestNow_39 (by decide) ?_
            refine lv_istore_n (lv' := [(3, .int 1), (0, .ref (b 0)), (1, .int bv), (2, .int (nI k))]) hx hb dX4_heaviestNow_43 rfl hl (by decide) rfl (fun ls hl => ?_)
            refine lv_iload_n hx hb dX4_heaviestNow_44 rfl (lv_at hl 0 rfl) ?_
            refine lv_if_eq (tgt := 52) hx hb dX4_heaviestNow_45 (by decide) (fun c_6 => ?_) (fun c_6 => ?_)
            · skip
              exact absurd c_6 (by decide)
            · skip
              refine lv_iload_n hx hb dX4_heaviestNow_48 rfl (lv_at hl 3 rfl) ?_
              refine lv_goto (tgt := 53) hx hb dX4_heaviestNow_49 (by decide) ?_
              refine lv_istore_n (lv' := [(1, .int (nI k)), (3, .int 1), (0, .ref (b 0)), (2, .int (nI k))]) hx hb dX4_heaviestNow_53 rfl hl (by decide) rfl (fun ls hl => ?_)
              refine lv_iinc (v := nI (k + 1)) (lv' := [(2, .int (nI (k + 1))), (1, .int (nI k)), (3, .int 1), (0, .ref (b 0))]) hx hb dX4_heaviestNow_54 hl (k := 3) rfl (nI_add k 1) (by decide) rfl (fun ls hl => ?_)
              refine lv_goto (tgt := 4) hx hb dX4_heaviestNow_57 (by decide) ?_
              exact ih (k + 1) (nI k) (by omega) (by omega) (by rw [hb_new c_3 (by rw [e_1]; rfl) (by omega)]; exact rfl) ls (lv_sub hl [3, 1, 0] rfl)
          · skip
            obtain ⟨i, hi, e_1⟩ := hbI_pos g_1 (by rw [← g_2]; exact c_5)
            have e_2 : bv = nI i := by rw [g_2, e_1]; rfl
            subst e_2
            refine lv_aload_n hx hb dX4_heaviestNow_22 rfl (lv_at hl 0 rfl) ?_
            refine lv_iload_n hx hb dX4_heaviestNow_23 rfl (lv_at hl 2 rfl) ?_
            refine lv_lconst (v := 0) hx hb dX4_heaviestNow_24 (by decide) ?_
            refine rd_callV (As := [.int (nI k), .long 0]) (rest := []) ⟨hx, hb, hml, hown, hts⟩ (m_net l G C b σ ρ hI (j := k) (by omega) sm_0 c_3) (cwV 2 hts gX4_heaviestNow_X4_net rfl rfl rfl (by decide +kernel) ⟨Nat.le_of_ble_eq_true rfl, Nat.le_of_ble_eq_true rfl⟩) hK hN hP (0) 4 wM_e0 rfl rfl rfl hl.1 rfl (Nat.le_of_ble_eq_true rfl) dX4_heaviestNow_25 ⟨Nat.zero_le _, Nat.zero_le _⟩ ?_
            refine lv_aload_n hx hb dX4_heaviestNow_28 rfl (lv_at hl 0 rfl) ?_
            refine lv_iload_n hx hb dX4_heaviestNow_29 rfl (lv_at hl 1 rfl) ?_
            refine lv_lconst (v := 0) hx hb dX4_heaviestNow_30 (by decide) ?_
            refine rd_callV (As := [.int (nI i), .long 0]) (rest := [.long (nw σ k 0)]) ⟨hx, hb, hml, hown, hts⟩ (m_net l G C b σ ρ hI (j := i) hi sm_0 (hb_cmp e_1)) (cwV 2 hts gX4_heaviestNow_X4_net rfl rfl rfl (by decide +kernel) ⟨Nat.le_of_ble_eq_true rfl, Nat.le_of_ble_eq_true rfl⟩) hK hN hP (0) 4 wM_e0 rfl rfl rfl hl.1 rfl (Nat.le_of_ble_eq_true rfl) dX4_heaviestNow_31 ⟨Nat.zero_le _, Nat.zero_le _⟩ ?_
            refine lc_le (tgt := 42) hx hb dX4_heaviestNow_34 dX4_heaviestNow_35 (by decide) (fun c_7 => ?_) (fun c_7 => ?_)
            · skip
              refine lv_iconst (v := 0) hx hb dX4_heaviestNow_42 (by decide) ?_
              refine lv_istore_n (lv' := [(3, .int 0), (0, .ref (b 0)), (1, .int (nI i)), (2, .int (nI k))]) hx hb dX4_heaviestNow_43 rfl hl (by decide) rfl (fun ls hl => ?_)
              refine lv_iload_n hx hb dX4_heaviestNow_44 rfl (lv_at hl 0 rfl) ?_
              refine lv_if_eq (tgt := 52) hx hb dX4_heaviestNow_45 (by decide) (fun c_8 => ?_) (fun c_8 => ?_)
              · skip
                refine lv_iload_n hx hb dX4_heaviestNow_52 rfl (lv_at hl 2 rfl) ?_
                refine lv_istore_n (lv' := [(1, .int (nI i)), (3, .int 0), (0, .ref (b 0)), (2, .int (nI k))]) hx hb dX4_heaviestNow_53 rfl hl (by decide) rfl (fun ls hl => ?_)
                refine lv_iinc (v := nI (k + 1)) (lv' := [(2, .int (nI (k + 1))), (1, .int (nI i)), (3, .int 0), (0, .ref (b 0))]) hx hb dX4_heaviestNow_54 hl (k := 3) rfl (nI_add k 1) (by decide) rfl (fun ls hl => ?_)
                refine lv_goto (tgt := 4) hx hb dX4_heaviestNow_57 (by decide) ?_
                exact ih (k + 1) (nI i) (by omega) (by omega) (by rw [hb_old c_3 (hbA_ne (by omega) e_1) (by rw [e_1]; exact c_7)]; exact (by rw [e_1]; rfl)) ls (lv_sub hl [3, 1, 0] rfl)
              · skip
                exact absurd c_8 (by decide)
            · skip
              refine lv_iconst (v := 1) hx hb dX4_heaviestNow_38 (by decide) ?_
              refine lv_goto (tgt := 43) hx hb dX4_heaviestNow_39 (by decide) ?_
              refine lv_istore_n (lv' := [(3, .int 1), (0, .ref (b 0)), (1, .int (nI i)), (2, .int (nI k))]) hx hb dX4_heaviestNow_43 rfl hl (by decide) rfl (fun ls hl => ?_)
              refine lv_iload_n hx hb dX4_heaviestNow_44 rfl (lv_at hl 0 rfl) ?_
              refine lv_if_eq (tgt := 52) hx hb dX4_heaviestNow_45 (by decide) (fun c_9 => ?_) (fun c_9 => ?_)
              · skip
                exact absurd c_9 (by decide)
              · skip
                refine lv_iload_n hx hb dX4_heaviestNow_48 rfl (lv_at hl 3 rfl) ?_
                refine lv_goto (tgt := 53) hx hb dX4_heaviestNow_49 (by decide) ?_
                refine lv_istore_n (lv' := [(1, .int (nI k)), (3, .int 1), (0, .ref (b 0)), (2, .int (nI k))]) hx hb dX4_heaviestNow_53 rfl hl (by decide) rfl (fun ls hl => ?_)
                refine lv_iinc (v := nI (k + 1)) (lv' := [(2, .int (nI (k + 1))), (1, .int (nI k)), (3, .int 1), (0, .ref (b 0))]) hx hb dX4_heaviestNow_54 hl (k := 3) rfl (nI_add k 1) (by decide) rfl (fun ls hl => ?_)
                refine lv_goto (tgt := 4) hx hb dX4_heaviestNow_57 (by decide) ?_
                exact ih (k + 1) (nI k) (by omega) (by omega) (by rw [hb_gt c_3 (hbA_ne (by omega) e_1) (by rw [e_1]; exact c_7)]; exact rfl) ls (lv_sub hl [3, 1, 0] rfl)
  exact key4 5 0 (-1) (by omega) (by omega) rfl ls (lv_sub hl [2, 1, 0] rfl)

set_option maxHeartbeats 4000000 in
set_option maxRecDepth 100000 in
theorem m_best1 (l : Launch) (G : va_G) (C : Nat → ClassId) (b : Nat → Nat) (σ : SG) (ρ : KM) (hI : Inv σ) : RdC l yX4_heaviest wsX4_heaviest ({ frames := 7, cells := 0, slots := 0, locals := 181 } : Room) G (tysC C) (wM C b σ ρ) [.ref (b 0)] (.long (aHeaviest σ)) := by
  refine Met.ofW (cc := cX4_heaviest) (maxL := 1) (ret := (some .long)) (by decide) rfl ?_
  intro p e s m args below meth c s₁ B hml hv
  obtain ⟨rfl, hP, hK, hN⟩ := hv
  have hx := B.exec
  have hb := B.bytes
  have hr := B.returns
  have hts := atoms_spec (ws := wsX4_heaviest) B.pre
  have hown : s.vm.findClass RX4 = some m.cls := findClass_of_methodNamed B.named
  have hlocks := B.notSynchronized
  have hP : va_P G vwCl (wM C b σ ρ) s.heap := hP
  have hl := lv_entry ([.ref (b 0)]) (n := 1) (Nat.le_of_ble_eq_true rfl)
  rw [lg_entry_eq]
  generalize (lg_sl ([.ref (b 0)]) ++ List.replicate (1 - (lg_sl ([.ref (b 0)])).length) Slot.unset).toArray = ls at hl ⊢
  have hl : lv_has ls 1 [(0, .ref (b 0))] := hl
  refine lv_aload_n hx hb dX4_heaviest_0 rfl (lv_at hl 0 rfl) ?_
  refine rd_callV (As := []) (rest := []) ⟨hx, hb, hml, hown, hts⟩ (m_best l G C b σ ρ hI) (cwV 0 hts gX4_heaviest_X4_heaviestNow rfl rfl rfl (by decide +kernel) ⟨Nat.le_of_ble_eq_true rfl, Nat.le_of_ble_eq_true rfl⟩) hK hN hP (0) 4 wM_e0 rfl rfl rfl hl.1 rfl (Nat.le_of_ble_eq_true rfl) dX4_heaviest_1 ⟨Nat.zero_le _, Nat.zero_le _⟩ ?_
  exact rd_lret hx hb hr hlocks (rfl) dX4_heaviest_4
