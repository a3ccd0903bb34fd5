set_option maxHeartbeats 4000000 in
set_option maxRecDepth 100000 in
theorem m_mix (l : Launch) (G : va_G) (C : Nat → ClassId) (b : Nat → Nat) (σ : SG) (ρ : KM) (v : Int64) : WrC l yX4_mix wsX4_mix ({ frames := 0, cells := 0, slots := 0, locals := 0 } : Room) G (tysC C) (wM C b σ ρ) [.ref (b 0), .long v] (pE none (wM C b σ (x_h ρ (hsO (m_h ρ) v)))) := by
  intro sz
  refine Met.ofW (cc := cX4_mix) (maxL := 3) (ret := none) (by decide) rfl ?_
  intro p e s m args below meth c s₁ B hml hv
  obtain ⟨rfl, hsz, hP, hK, hN, hD0⟩ := hv
  have hx := B.exec
  have hb := B.bytes
  have hr := B.returns
  have hts := atoms_spec (ws := wsX4_mix) B.pre
  have hown : s.vm.findClass RX4 = some m.cls := findClass_of_methodNamed B.named
  have hlocks := B.notSynchronized
  have hX4 : ∀ w ∈ wsX40, w ∈ wsX4_mix := by decide +kernel
  subst hsz
  have hD := hD0.self (sz := s.heap.size)
  generalize hAe : va_A (wM C b σ ρ) s.heap.size = A at hD ⊢
  have hA : ∀ q : Nat, s.heap.size ≤ q → A q := fun q h => by rw [← hAe]; exact Or.inr h
  have hS : va_S A s.heap s.heap [] := va_S.rf
  have hP : va_P G vwCl (wM C b σ ρ) s.heap := hP
  have hl := lv_entry ([.ref (b 0), .long v]) (n := 3) (Nat.le_of_ble_eq_true rfl)
  rw [lg_entry_eq]
  generalize (lg_sl ([.ref (b 0), .long v]) ++ List.replicate (3 - (lg_sl ([.ref (b 0), .long v])).length) Slot.unset).toArray = ls at hl ⊢
  have hl : lv_has ls 3 [(0, .ref (b 0)), (1, .long v)] := hl
  refine lv_aload_n hx hb dX4_mix_0 rfl (lv_at hl 0 rfl) ?_
  refine lv_ldc2 (v := 31) hx hb hown (hts (.constantLong RX4 213 (31)) (by decide +kernel)) dX4_mix_1 ?_
  refine lv_aload_n hx hb dX4_mix_4 rfl (lv_at hl 0 rfl) ?_
  refine va_get (D := G) (ci := 4) (v := .long (m_h ρ)) (C := RX4) (T := TX4) (N := 13) hx hb hts hX4 hown hK hP (0) wM_e0 rfl 12 (by decide) (hts (.fieldLink RX4 215 "DraftSurveyModel" "h" "J") (by decide +kernel)) (fun _ h9 => h9) rfl dX4_mix_5 ?_
  refine lv_lmul hx hb dX4_mix_8 ?_
  refine lv_lload_n hx hb dX4_mix_9 rfl (lv_at hl 1 rfl) ?_
  refine lv_ladd hx hb dX4_mix_10 ?_
  refine va_put (D := G) (ci := 4) (v := .long ((31 * (m_h ρ)) + v)) (ty := .long) (C := RX4) (T := TX4) (N := 13) hx hb hts hX4 tyX4 tyX4_ok nmX4 hown hK hP hD hS (0) wM_e0 rfl 12 (by decide) (hts (.fieldLink RX4 215 "DraftSurveyModel" "h" "J") (by decide +kernel)) (fun _ h9 => h9) rfl (by decide +kernel) rfl rfl (Nat.le_of_ble_eq_true rfl) dX4_mix_11 (fun H locs hP hD hS => ?_)
  have hP : va_P G vwCl (wM C b σ (x_h ρ ((31 * (m_h ρ)) + v))) H := hP
  have hD : va_D A (wM C b σ (x_h ρ ((31 * (m_h ρ)) + v))) := hD
  refine wr_vret hx hb hr hlocks hAe hP hD hS ?_ dX4_mix_14
  exact ⟨rfl, rfl⟩

set_option maxHeartbeats 4000000 in
set_option maxRecDepth 100000 in
theorem m_mixS (l : Launch) (G : va_G) (C : Nat → ClassId) (b : Nat → Nat) (σ : SG) (ρ : KM) (hI : Inv σ) {j : Nat} (hj : j < 4) : WrC l yX4_mixSurvey wsX4_mixSurvey ({ frames := 7, cells := 0, slots := 0, locals := 179 } : Room) G (tysC C) (wM C b σ ρ) [.ref (b 0), .int (nI j)] (pE none (wM C b σ (x_h ρ (hsS σ j (m_h ρ))))) := by
  intro sz
  refine Met.ofW (cc := cX4_mixSurvey) (maxL := 3) (ret := none) (by decide) rfl ?_
  intro p e s m args below meth c s₁ B hml hv
  obtain ⟨rfl, hsz, hP, hK, hN, hD0⟩ := hv
  have hx := B.exec
  have hb := B.bytes
  have hr := B.returns
  have hts := atoms_spec (ws := wsX4_mixSurvey) B.pre
  have hown : s.vm.findClass RX4 = some m.cls := findClass_of_methodNamed B.named
  have hlocks := B.notSynchronized
  have hX4 : ∀ w ∈ wsX40, w ∈ wsX4_mixSurvey := by decide +kernel
  subst hsz
  have hD := hD0.self (sz := s.heap.size)
  generalize hAe : va_A (wM C b σ ρ) s.heap.size = A at hD ⊢
  have hA : ∀ q : Nat, s.heap.size ≤ q → A q := fun q h => by rw [← hAe]; exact Or.inr h
  have hS : va_S A s.heap s.heap [] := va_S.rf
  have hP : va_P G vwCl (wM C b σ ρ) s.heap := hP
  have hl := lv_entry ([.ref (b 0), .int (nI j)]) (n := 3) (Nat.le_of_ble_eq_true rfl)
  rw [lg_entry_eq]
  generalize (lg_sl ([.ref (b 0), .int (nI j)]) ++ List.replicate (3 - (lg_sl ([.ref (b 0), .int (nI j)])).length) Slot.unset).toArray = ls at hl ⊢
  have hl : lv_has ls 3 [(0, .ref (b 0)), (1, .int (nI j))] := hl
  refine lv_iconst (v := 0) hx hb dX4_mixSurvey_0 (by decide) ?_
  refine lv_istore_n (lv' := [(2, .int 0), (0, .ref (b 0)), (1, .int (nI j))]) hx hb dX4_mixSurvey_1 rfl hl (by decide) rfl (fun ls hl => ?_)
  refine lv_iload_n hx hb dX4_mixSurvey_2 rfl (lv_at hl 0 rfl) ?_
  refine lv_bipush (v := 6) hx hb dX4_mixSurvey_3 (by decide) ?_
  refine ic_ge (tgt := 29) hx hb dX4_mixSurvey_5 (by decide) (fun c_1 => ?_) (fun c_1 => ?_)
  · skip
    exact absurd c_1 (by decide)
  · skip
    refine lv_aload_n hx hb dX4_mixSurvey_8 rfl (lv_at hl 1 rfl) ?_
    refine lv_aload_n hx hb dX4_mixSurvey_9 rfl (lv_at hl 1 rfl) ?_
    refine va_get (D := G) (ci := 4) (v := .ref (b 3)) (C := RX4) (T := TX4) (N := 13) hx hb hts hX4 hown hK hP (0) wM_e0 rfl 4 (by decide) (hts (.fieldLink RX4 17 "DraftSurveyModel" "readings" "[J") (by decide +kernel)) (fun _ h9 => h9) rfl dX4_mixSurvey_10 ?_
    refine lv_bipush (v := 6) hx hb dX4_mixSurvey_13 (by decide) ?_
    refine lv_iload_n hx hb dX4_mixSurvey_15 rfl (lv_at hl 2 rfl) ?_
    refine lv_imul hx hb dX4_mixSurvey_16 ?_
    refine tp_i (v := nI (6 * j)) (pk_mul 6 j) ?_
    refine lv_iload_n hx hb dX4_mixSurvey_17 rfl (lv_at hl 0 rfl) ?_
    refine lv_iadd hx hb dX4_mixSurvey_18 ?_
    refine tp_i (v := nI ((6 * j) + 0)) (nI_add (6 * j) 0) ?_
    refine ar_l (k := ((6 * j) + 0)) (v := g_rd σ ((6 * j) + 0)) hx hb hK hP (3) 1 wM_e3 rfl rfl (by omega) (by decide) rfl dX4_mixSurvey_19 ?_
    refine wr_callV (As := [.long (g_rd σ ((6 * j) + 0))]) (rest := []) ⟨hx, hb, hml, hown, hts⟩ (m_mix l G C b σ ρ (g_rd σ ((6 * j) + 0))) (cwV 1 hts gX4_mixSurvey_X4_mix rfl rfl rfl (by decide +kernel) ⟨Nat.le_of_ble_eq_true rfl, Nat.le_of_ble_eq_true rfl⟩) hK hN hP hD hS hA (0) 4 wM_e0 rfl rfl rfl hl.1 rfl (Nat.le_of_ble_eq_true rfl) dX4_mixSurvey_20 ⟨Nat.zero_le _, Nat.zero_le _⟩ (fun v_ w1 H locs hw hP hD hS => ?_)
    obtain ⟨rfl, rfl⟩ := hw
    have hP : va_P G vwCl (wM C b σ (x_h ρ (hsO (m_h ρ) (g_rd σ ((6 * j) + 0))))) H := hP
    have hD : va_D A (wM C b σ (x_h ρ (hsO (m_h ρ) (g_rd σ ((6 * j) + 0))))) := hD
    refine W.eq (g2 := F0 m 23 ls []) rfl ?_
    refine lv_iinc (v := 1) (lv' := [(2, .int 1), (0, .ref (b 0)), (1, .int (nI j))]) hx hb dX4_mixSurvey_23 hl (k := 0) rfl (by decide) (by decide) rfl (fun ls hl => ?_)
    refine lv_goto (tgt := 2) hx hb dX4_mixSurvey_26 (by decide) ?_
    refine lv_iload_n hx hb dX4_mixSurvey_2 rfl (lv_at hl 0 rfl) ?_
    refine lv_bipush (v := 6) hx hb dX4_mixSurvey_3 (by decide) ?_
    refine ic_ge (tgt := 29) hx hb dX4_mixSurvey_5 (by decide) (fun c_2 => ?_) (fun c_2 => ?_)
    · skip
      exact absurd c_2 (by decide)
    · skip
      refine lv_aload_n hx hb dX4_mixSurvey_8 rfl (lv_at hl 1 rfl) ?_
      refine lv_aload_n hx hb dX4_mixSurvey_9 rfl (lv_at hl 1 rfl) ?_
      refine va_get (D := G) (ci := 4) (v := .ref (b 3)) (C := RX4) (T := TX4) (N := 13) hx hb hts hX4 hown hK hP (0) wM_e0 rfl 4 (by decide) (hts (.fieldLink RX4 17 "DraftSurveyModel" "readings" "[J") (by decide +kernel)) (fun _ h9 => h9) rfl dX4_mixSurvey_10 ?_
      refine lv_bipush (v := 6) hx hb dX4_mixSurvey_13 (by decide) ?_
      refine lv_iload_n hx hb dX4_mixSurvey_15 rfl (lv_at hl 2 rfl) ?_
      refine lv_imul hx hb dX4_mixSurvey_16 ?_
      refine tp_i (v := nI (6 * j)) (pk_mul 6 j) ?_
      refine lv_iload_n hx hb dX4_mixSurvey_17 rfl (lv_at hl 0 rfl) ?_
      refine lv_iadd hx hb dX4_mixSurvey_18 ?_
      refine tp_i (v := nI ((6 * j) + 1)) (nI_add (6 * j) 1) ?_
      refine ar_l (k := ((6 * j) + 1)) (v := g_rd σ ((6 * j) + 1)) hx hb hK hP (3) 1 wM_e3 rfl rfl (by omega) (by decide) rfl dX4_mixSurvey_19 ?_
      refine wr_callV (As := [.long (g_rd σ ((6 * j) + 1))]) (rest := []) ⟨hx, hb, hml, hown, hts⟩ (m_mix l G C b σ (x_h ρ (hsO (m_h ρ) (g_rd σ ((6 * j) + 0)))) (g_rd σ ((6 * j) + 1))) (cwV 1 hts gX4_mixSurvey_X4_mix rfl rfl rfl (by decide +kernel) ⟨Nat.le_of_ble_eq_true rfl, Nat.le_of_ble_eq_true rfl⟩) hK hN hP hD hS hA (0) 4 wM_e0 rfl rfl rfl hl.1 rfl (Nat.le_of_ble_eq_true rfl) dX4_mixSurvey_20 ⟨Nat.zero_le _, Nat.zero_le _⟩ (fun v_ w1 H locs hw hP hD hS => ?_)
      obtain ⟨rfl, rfl⟩ := hw
      have hP : va_P G vwCl (wM C b σ (x_h ρ (hsO (hsO (m_h ρ) (g_rd σ ((6 * j) + 0))) (g_rd σ ((6 * j) + 1))))) H := hP
      have hD : va_D A (wM C b σ (x_h ρ (hsO (hsO (m_h ρ) (g_rd σ ((6 * j) + 0))) (g_rd σ ((6 * j) + 1))))) := hD
      refine W.eq (g2 := F0 m 23 ls []) rfl ?_
      refine lv_iinc (v := 2) (lv' := [(2, .int 2), (0, .ref (b 0)), (1, .int (nI j))]) hx hb dX4_mixSurvey_23 hl (k := 0) rfl (by decide) (by decide) rfl (fun ls hl => ?_)
      refine lv_goto (tgt := 2) hx hb dX4_mixSurvey_26 (by decide) ?_
      refine lv_iload_n hx hb dX4_mixSurvey_2 rfl (lv_at hl 0 rfl) ?_
      refine lv_bipush (v := 6) hx hb dX4_mixSurvey_3 (by decide) ?_
      refine ic_ge (tgt := 29) hx hb dX4_mixSurvey_5 (by decide) (fun c_3 => ?_) (fun c_3 => ?_)
      · skip
        exact absurd c_3 (by decide)
      · skip
        refine lv_aload_n hx hb dX4_mixSurvey_8 rfl (lv_at hl 1 rfl) ?_
        refine lv_aload_n hx hb dX4_mixSurvey_9 rfl (lv_at hl 1 rfl) ?_
        refine va_get (D := G) (ci := 4) (v := .ref (b 3)) (C := RX4) (T := TX4) (N := 13) hx hb hts hX4 hown hK hP (0) wM_e0 rfl 4 (by decide) (hts (.fieldLink RX4 17 "DraftSurveyModel" "readings" "[J") (by decide +kernel)) (fun _ h9 => h9) rfl dX4_mixSurvey_10 ?_
        refine lv_bipush (v := 6) hx hb dX4_mixSurvey_13 (by decide) ?_
        refine lv_iload_n hx hb dX4_mixSurvey_15 rfl (lv_at hl 2 rfl) ?_
        refine lv_imul hx hb dX4_mixSurvey_16 ?_
        refine tp_i (v := nI (6 * j)) (pk_mul 6 j) ?_
        refine lv_iload_n hx hb dX4_mixSurvey_17 rfl (lv_at hl 0 rfl) ?_
        refine lv_iadd hx hb dX4_mixSurvey_18 ?_
        refine tp_i (v := nI ((6 * j) + 2)) (nI_add (6 * j) 2) ?_
        refine ar_l (k := ((6 * j) + 2)) (v := g_rd σ ((6 * j) + 2)) hx hb hK hP (3) 1 wM_e3 rfl rfl (by omega) (by decide) rfl dX4_mixSurvey_19 ?_
        refine wr_callV (As := [.long (g_rd σ ((6 * j) + 2))]) (rest := []) ⟨hx, hb, hml, hown, hts⟩ (m_mix l G C b σ (x_h ρ (hsO (hsO (m_h ρ) (g_rd σ ((6 * j) + 0))) (g_rd σ ((6 * j) + 1)))) (g_rd σ ((6 * j) + 2))) (cwV 1 hts gX4_mixSurvey_X4_mix rfl rfl rfl (by decide +kernel) ⟨Nat.le_of_ble_eq_true rfl, Nat.le_of_ble_eq_true rfl⟩) hK hN hP hD hS hA (0) 4 wM_e0 rfl rfl rfl hl.1 rfl (Nat.le_of_ble_eq_true rfl) dX4_mixSurvey_20 ⟨Nat.zero_le _, Nat.zero_le _⟩ (fun v_ w1 H locs hw hP hD hS => ?_)
        obtain ⟨rfl, rfl⟩ := hw
        have hP : va_P G vwCl (wM C b σ (x_h ρ (hsO (hsO (hsO (m_h ρ) (g_rd σ ((6 * j) + 0))) (g_rd σ ((6 * j) + 1))) (g_rd σ ((6 * j) + 2))))) H := hP
        have hD : va_D A (wM C b σ (x_h ρ (hsO (hsO (hsO (m_h ρ) (g_rd σ ((6 * j) + 0))) (g_rd σ ((6 * j) + 1))) (g_rd σ ((6 * j) + 2))))) := hD
        refine W.eq (g2 := F0 m 23 ls []) rfl ?_
        refine lv_iinc (v := 3) (lv' := [(2, .int 3), (0, .ref (b 0)), (1, .int (nI j))]) hx hb dX4_mixSurvey_23 hl (k := 0) rfl (by decide) (by decide) rfl (fun ls hl => ?_)
        refine lv_goto (tgt := 2) hx hb dX4_mixSurvey_26 (by decide) ?_
        refine lv_iload_n hx hb dX4_mixSurvey_2 rfl (lv_at hl 0 rfl) ?_
        refine lv_bipush (v := 6) hx hb dX4_mixSurvey_3 (by decide) ?_
        refine ic_ge (tgt := 29) hx hb dX4_mixSurvey_5 (by decide) (fun c_4 => ?_) (fun c_4 => ?_)
        · skip
          exact absurd c_4 (by decide)
        · skip
          refine lv_aload_n hx hb dX4_mixSurvey_8 rfl (lv_at hl 1 rfl) ?_
          refine lv_aload_n hx hb dX4_mixSurvey_9 rfl (lv_at hl 1 rfl) ?_
          refine va_get (D := G) (ci := 4) (v := .ref (b 3)) (C := RX4) (T := TX4) (N := 13) hx hb hts hX4 hown hK hP (0) wM_e0 rfl 4 (by decide) (hts (.fieldLink RX4 17 "DraftSurveyModel" "readings" "[J") (by decide +kernel)) (fun _ h9 => h9) rfl dX4_mixSurvey_10 ?_
          refine lv_bipush (v := 6) hx hb dX4_mixSurvey_13 (by decide) ?_
          refine lv_iload_n hx hb dX4_mixSurvey_15 rfl (lv_at hl 2 rfl) ?_
          refine lv_imul hx hb dX4_mixSurvey_16 ?_
          refine tp_i (v := nI (6 * j)) (pk_mul 6 j) ?_
          refine lv_iload_n hx hb dX4_mixSurvey_17 rfl (lv_at hl 0 rfl) ?_
          refine lv_iadd hx hb dX4_mixSurvey_18 ?_
          refine tp_i (v := nI ((6 * j) + 3)) (nI_add (6 * j) 3) ?_
          refine ar_l (k := ((6 * j) + 3)) (v := g_rd σ ((6 * j) + 3)) hx hb hK hP (3) 1 wM_e3 rfl rfl (by omega) (by decide) rfl dX4_mixSurvey_19 ?_
          refine wr_callV (As := [.long (g_rd σ ((6 * j) + 3))]) (rest := []) ⟨hx, hb, hml, hown, hts⟩ (m_mix l G C b σ (x_h ρ (hsO (hsO (hsO (m_h ρ) (g_rd σ ((6 * j) + 0))) (g_rd σ ((6 * j) + 1))) (g_rd σ ((6 * j) + 2)))) (g_rd σ ((6 * j) + 3))) (cwV 1 hts gX4_mixSurvey_X4_mix rfl rfl rfl (by decide +kernel) ⟨Nat.le_of_ble_eq_true rfl, Nat.le_of_ble_eq_true rfl⟩) hK hN hP hD hS hA (0) 4 wM_e0 rfl rfl rfl hl.1 rfl (Nat.le_of_ble_eq_true rfl) dX4_mixSurvey_20 ⟨Nat.zero_le _, Nat.zero_le _⟩ (fun v_ w1 H locs hw hP hD hS => ?_)
          obtain ⟨rfl, rfl⟩ := hw
          have hP : va_P G vwCl (wM C b σ (x_h ρ (hsO (hsO (hsO (hsO (m_h ρ) (g_rd σ ((6 * j) + 0))) (g_rd σ ((6 * j) + 1))) (g_rd σ ((6 * j) + 2))) (g_rd σ ((6 * j) + 3))))) H := hP
          have hD : va_D A (wM C b σ (x_h ρ (hsO (hsO (hsO (hsO (m_h ρ) (g_rd σ ((6 * j) + 0))) (g_rd σ ((6 * j) + 1))) (g_rd σ ((6 * j) + 2))) (g_rd σ ((6 * j) + 3))))) := hD
          refine W.eq (g2 := F0 m 23 ls []) rfl ?_
          refine lv_iinc (v := 4) (lv' := [(2, .int 4), (0, .ref (b 0)), (1, .int (nI j))]) hx hb dX4_mixSurvey_23 hl (k := 0) rfl (by decide) (by decide) rfl (fun ls hl => ?_)
          refine lv_goto (tgt := 2) hx hb dX4_mixSurvey_26 (by decide) ?_
          refine lv_iload_n hx hb dX4_mixSurvey_2 rfl (lv_at hl 0 rfl) ?_
          refine lv_bipush (v := 6) hx hb dX4_mixSurvey_3 (by decide) ?_
          refine ic_ge (tgt := 29) hx hb dX4_mixSurvey_5 (by decide) (fun c_5 => ?_) (fun c_5 => ?_)
          · skip
            exact absurd c_5 (by decide)
          · skip
            refine lv_aload_n hx hb dX4_mixSurvey_8 rfl (lv_at hl 1 rfl) ?_
            refine lv_aload_n hx hb dX4_mixSurvey_9 rfl (lv_at hl 1 rfl) ?_
            refine va_get (D := G) (ci := 4) (v := .ref (b 3)) (C := RX4) (T := TX4) (N := 13) hx hb hts hX4 hown hK hP (0) wM_e0 rfl 4 (by decide) (hts (.fieldLink RX4 17 "DraftSurveyModel" "readings" "[J") (by decide +kernel)) (fun _ h9 => h9) rfl dX4_mixSurvey_10 ?_
            refine lv_bipush (v := 6) hx hb dX4_mixSurvey_13 (by decide) ?_
            refine lv_iload_n hx hb dX4_mixSurvey_15 rfl (lv_at hl 2 rfl) ?_
            refine lv_imul hx hb dX4_mixSurvey_16 ?_
            refine tp_i (v := nI (6 * j)) (pk_mul 6 j) ?_
            refine lv_iload_n hx hb dX4_mixSurvey_17 rfl (lv_at hl 0 rfl) ?_
            refine lv_iadd hx hb dX4_mixSurvey_18 ?_
            refine tp_i (v := nI ((6 * j) + 4)) (nI_add (6 * j) 4) ?_
            refine ar_l (k := ((6 * j) + 4)) (v := g_rd σ ((6 * j) + 4)) hx hb hK hP (3) 1 wM_e3 rfl rfl (by omega) (by decide) rfl dX4_mixSurvey_19 ?_
            refine wr_callV (As := [.long (g_rd σ ((6 * j) + 4))]) (rest := []) ⟨hx, hb, hml, hown, hts⟩ (m_mix l G C b σ (x_h ρ (hsO (hsO (hsO (hsO (m_h ρ) (g_rd σ ((6 * j) + 0))) (g_rd σ ((6 * j) + 1))) (g_rd σ ((6 * j) + 2))) (g_rd σ ((6 * j) + 3)))) (g_rd σ ((6 * j) + 4))) (cwV 1 hts gX4_mixSurvey_X4_mix rfl rfl rfl (by decide +kernel) ⟨Nat.le_of_ble_eq_true rfl, Nat.le_of_ble_eq_true rfl⟩) hK hN hP hD hS hA (0) 4 wM_e0 rfl rfl rfl hl.1 rfl (Nat.le_of_ble_eq_true rfl) dX4_mixSurvey_20 ⟨Nat.zero_le _, Nat.zero_le _⟩ (fun v_ w1 H locs hw hP hD hS => ?_)
            obtain ⟨rfl, rfl⟩ := hw
            have hP : va_P G vwCl (wM C b σ (x_h ρ (hsO (hsO (hsO (hsO (hsO (m_h ρ) (g_rd σ ((6 * j) + 0))) (g_rd σ ((6 * j) + 1))) (g_rd σ ((6 * j) + 2))) (g_rd σ ((6 * j) + 3))) (g_rd σ ((6 * j) + 4))))) H := hP
            have hD : va_D A (wM C b σ (x_h ρ (hsO (hsO (hsO (hsO (hsO (m_h ρ) (g_rd σ ((6 * j) + 0))) (g_rd σ ((6 * j) + 1))) (g_rd σ ((6 * j) + 2))) (g_rd σ ((6 * j) + 3))) (g_rd σ ((6 * j) + 4))))) := hD
            refine W.eq (g2 := F0 m 23 ls []) rfl ?_
            refine lv_iinc (v := 5) (lv' := [(2, .int 5), (0, .ref (b 0)), (1, .int (nI j))]) hx hb dX4_mixSurvey_23 hl (k := 0) rfl (by decide) (by decide) rfl (fun ls hl => ?_)
            refine lv_goto (tgt := 2) hx hb dX4_mixSurvey_26 (by decide) ?_
            refine lv_iload_n hx hb dX4_mixSurvey_2 rfl (lv_at hl 0 rfl) ?_
            refine lv_bipush (v := 6) hx hb dX4_mixSurvey_3 (by decide) ?_
            refine ic_ge (tgt := 29) hx hb dX4_mixSurvey_5 (by decide) (fun c_6 => ?_) (fun c_6 => ?_)
            · skip
              exact absurd c_6 (by decide)
            · skip
              refine lv_aload_n hx hb dX4_mixSurvey_8 rfl (lv_at hl 1 rfl) ?_
              refine lv_aload_n hx hb dX4_mixSurvey_9 rfl (lv_at hl 1 rfl) ?_
              refine va_get (D := G) (ci := 4) (v := .ref (b 3)) (C := RX4) (T := TX4) (N := 13) hx hb hts hX4 hown hK hP (0) wM_e0 rfl 4 (by decide) (hts (.fieldLink RX4 17 "DraftSurveyModel" "readings" "[J") (by decide +kernel)) (fun _ h9 => h9) rfl dX4_mixSurvey_10 ?_
              refine lv_bipush (v := 6) hx hb dX4_mixSurvey_13 (by decide) ?_
              refine lv_iload_n hx hb dX4_mixSurvey_15 rfl (lv_at hl 2 rfl) ?_
              refine lv_imul hx hb dX4_mixSurvey_16 ?_
              refine tp_i (v := nI (6 * j)) (pk_mul 6 j) ?_
              refine lv_iload_n hx hb dX4_mixSurvey_17 rfl (lv_at hl 0 rfl) ?_
              refine lv_iadd hx hb dX4_mixSurvey_18 ?_
              refine tp_i (v := nI ((6 * j) + 5)) (nI_add (6 * j) 5) ?_
              refine ar_l (k := ((6 * j) + 5)) (v := g_rd σ ((6 * j) + 5)) hx hb hK hP (3) 1 wM_e3 rfl rfl (by omega) (by decide) rfl dX4_mixSurvey_19 ?_
              refine wr_callV (As := [.long (g_rd σ ((6 * j) + 5))]) (rest := []) ⟨hx, hb, hml, hown, hts⟩ (m_mix l G C b σ (x_h ρ (hsO (hsO (hsO (hsO (hsO (m_h ρ) (g_rd σ ((6 * j) + 0))) (g_rd σ ((6 * j) + 1))) (g_rd σ ((6 * j) + 2))) (g_rd σ ((6 * j) + 3))) (g_rd σ ((6 * j) + 4)))) (g_rd σ ((6 * j) + 5))) (cwV 1 hts gX4_mixSurvey_X4_mix rfl rfl rfl (by decide +kernel) ⟨Nat.le_of_ble_eq_true rfl, Nat.le_of_ble_eq_true rfl⟩) hK hN hP hD hS hA (0) 4 wM_e0 rfl rfl rfl hl.1 rfl (Nat.le_of_ble_eq_true rfl) dX4_mixSurvey_20 ⟨Nat.zero_le _, Nat.zero_le _⟩ (fun v_ w1 H locs hw hP hD hS => ?_)
              obtain ⟨rfl, rfl⟩ := hw
              have hP : va_P G vwCl (wM C b σ (x_h ρ (hsO (hsO (hsO (hsO (hsO (hsO (m_h ρ) (g_rd σ ((6 * j) + 0))) (g_rd σ ((6 * j) + 1))) (g_rd σ ((6 * j) + 2))) (g_rd σ ((6 * j) + 3))) (g_rd σ ((6 * j) + 4))) (g_rd σ ((6 * j) + 5))))) H := hP
              have hD : va_D A (wM C b σ (x_h ρ (hsO (hsO (hsO (hsO (hsO (hsO (m_h ρ) (g_rd σ ((6 * j) + 0))) (g_rd σ ((6 * j) + 1))) (g_rd σ ((6 * j) + 2))) (g_rd σ ((6 * j) + 3))) (g_rd σ ((6 * j) + 4))) (g_rd σ ((6 * j) + 5))))) := hD
              refine W.eq (g2 := F0 m 23 ls []) rfl ?_
              refine lv_iinc (v := 6) (lv' := [(2, .int 6), (0, .ref (b 0)), (1, .int (nI j))]) hx hb dX4_mixSurvey_23 hl (k := 0) rfl (by decide) (by decide) rfl (fun ls hl => ?_)
              refine lv_goto (tgt := 2) hx hb dX4_mixSurvey_26 (by decide) ?_
              refine lv_iload_n hx hb dX4_mixSurvey_2 rfl (lv_at hl 0 rfl) ?_
              refine lv_bipush (v := 6) hx hb dX4_mixSurvey_3 (by decide) ?_
              refine ic_ge (tgt := 29) hx hb dX4_mixSurvey_5 (by decide) (fun c_7 => ?_) (fun c_7 => ?_)
              · skip
                refine lv_aload_n hx hb dX4_mixSurvey_29 rfl (lv_at hl 1 rfl) ?_
                refine lv_aload_n hx hb dX4_mixSurvey_30 rfl (lv_at hl 1 rfl) ?_
                refine lv_iload_n hx hb dX4_mixSurvey_31 rfl (lv_at hl 2 rfl) ?_
                refine lv_lconst (v := 0) hx hb dX4_mixSurvey_32 (by decide) ?_
                refine rd_callV (As := [.int (nI j), .long 0]) (rest := [.ref (b 0)]) ⟨hx, hb, hml, hown, hts⟩ (m_trimOf l G C b σ (x_h ρ (hsO (hsO (hsO (hsO (hsO (hsO (m_h ρ) (g_rd σ ((6 * j) + 0))) (g_rd σ ((6 * j) + 1))) (g_rd σ ((6 * j) + 2))) (g_rd σ ((6 * j) + 3))) (g_rd σ ((6 * j) + 4))) (g_rd σ ((6 * j) + 5)))) hI (j := j) hj sm_0) (cwV 2 hts gX4_mixSurvey_X4_trimOf rfl rfl rfl (by decide +kernel) ⟨Nat.le_of_ble_eq_true rfl, Nat.le_of_ble_eq_true rfl⟩) hK hN hP (0) 4 wM_e0 rfl rfl rfl hl.1 rfl (Nat.le_of_ble_eq_true rfl) dX4_mixSurvey_33 ⟨Nat.zero_le _, Nat.zero_le _⟩ ?_
                refine wr_callV (As := [.long (tr σ j)]) (rest := []) ⟨hx, hb, hml, hown, hts⟩ (m_mix l G C b σ (x_h ρ (hsO (hsO (hsO (hsO (hsO (hsO (m_h ρ) (g_rd σ ((6 * j) + 0))) (g_rd σ ((6 * j) + 1))) (g_rd σ ((6 * j) + 2))) (g_rd σ ((6 * j) + 3))) (g_rd σ ((6 * j) + 4))) (g_rd σ ((6 * j) + 5)))) (tr σ j)) (cwV 1 hts gX4_mixSurvey_X4_mix rfl rfl rfl (by decide +kernel) ⟨Nat.le_of_ble_eq_true rfl, Nat.le_of_ble_eq_true rfl⟩) hK hN hP hD hS hA (0) 4 wM_e0 rfl rfl rfl hl.1 rfl (Nat.le_of_ble_eq_true rfl) dX4_mixSurvey_36 ⟨Nat.zero_le _, Nat.zero_le _⟩ (fun v_ w1 H locs hw hP hD hS => ?_)
                obtain ⟨rfl, rfl⟩ := hw
                have hP : va_P G vwCl (wM C b σ (x_h ρ (hsO (hsO (hsO (hsO (hsO (hsO (hsO (m_h ρ) (g_rd σ ((6 * j) + 0))) (g_rd σ ((6 * j) + 1))) (g_rd σ ((6 * j) + 2))) (g_rd σ ((6 * j) + 3))) (g_rd σ ((6 * j) + 4))) (g_rd σ ((6 * j) + 5))) (tr σ j)))) H := hP
                have hD : va_D A (wM C b σ (x_h ρ (hsO (hsO (hsO (hsO (hsO (hsO (hsO (m_h ρ) (g_rd σ ((6 * j) + 0))) (g_rd σ ((6 * j) + 1))) (g_rd σ ((6 * j) + 2))) (g_rd σ ((6 * j) + 3))) (g_rd σ ((6 * j) + 4))) (g_rd σ ((6 * j) + 5))) (tr σ j)))) := hD
                refine W.eq (g2 := F0 m 39 ls []) rfl ?_
                refine lv_aload_n hx hb dX4_mixSurvey_39 rfl (lv_at hl 1 rfl) ?_
                refine lv_aload_n hx hb dX4_mixSurvey_40 rfl (lv_at hl 1 rfl) ?_
                refine lv_iload_n hx hb dX4_mixSurvey_41 rfl (lv_at hl 2 rfl) ?_
                refine rd_callV (As := [.int (nI j)]) (rest := [.ref (b 0)]) ⟨hx, hb, hml, hown, hts⟩ (m_deflOf l G C b σ (x_h ρ (hsO (hsO (hsO (hsO (hsO (hsO (hsO (m_h ρ) (g_rd σ ((6 * j) + 0))) (g_rd σ ((6 * j) + 1))) (g_rd σ ((6 * j) + 2))) (g_rd σ ((6 * j) + 3))) (g_rd σ ((6 * j) + 4))) (g_rd σ ((6 * j) + 5))) (tr σ j))) hI (j := j) hj) (cwV 1 hts gX4_mixSurvey_X4_deflectionOf rfl rfl rfl (by decide +kernel) ⟨Nat.le_of_ble_eq_true rfl, Nat.le_of_ble_eq_true rfl⟩) hK hN hP (0) 4 wM_e0 rfl rfl rfl hl.1 rfl (Nat.le_of_ble_eq_true rfl) dX4_mixSurvey_42 ⟨Nat.zero_le _, Nat.zero_le _⟩ ?_
                refine wr_callV (As := [.long (df σ j)]) (rest := []) ⟨hx, hb, hml, hown, hts⟩ (m_mix l G C b σ (x_h ρ (hsO (hsO (hsO (hsO (hsO (hsO (hsO (m_h ρ) (g_rd σ ((6 * j) + 0))) (g_rd σ ((6 * j) + 1))) (g_rd σ ((6 * j) + 2))) (g_rd σ ((6 * j) + 3))) (g_rd σ ((6 * j) + 4))) (g_rd σ ((6 * j) + 5))) (tr σ j))) (df σ j)) (cwV 1 hts gX4_mixSurvey_X4_mix rfl rfl rfl (by decide +kernel) ⟨Nat.le_of_ble_eq_true rfl, Nat.le_of_ble_eq_true rfl⟩) hK hN hP hD hS hA (0) 4 wM_e0 rfl rfl rfl hl.1 rfl (Nat.le_of_ble_eq_true rfl) dX4_mixSurvey_45 ⟨Nat.zero_le _, Nat.zero_le _⟩ (fun v_ w1 H locs hw hP hD hS => ?_)
                obtain ⟨rfl, rfl⟩ := hw
                have hP : va_P G vwCl (wM C b σ (x_h ρ (hsO (hsO (hsO (hsO (hsO (hsO (hsO (hsO (m_h ρ) (g_rd σ ((6 * j) + 0))) (g_rd σ ((6 * j) + 1))) (g_rd σ ((6 * j) + 2))) (g_rd σ ((6 * j) + 3))) (g_rd σ ((6 * j) + 4))) (g_rd σ ((6 * j) + 5))) (tr σ j)) (df σ j)))) H := hP
                have hD : va_D A (wM C b σ (x_h ρ (hsO (hsO (hsO (hsO (hsO (hsO (hsO (hsO (m_h ρ) (g_rd σ ((6 * j) + 0))) (g_rd σ ((6 * j) + 1))) (g_rd σ ((6 * j) + 2))) (g_rd σ ((6 * j) + 3))) (g_rd σ ((6 * j) + 4))) (g_rd σ ((6 * j) + 5))) (tr σ j)) (df σ j)))) := hD
                refine W.eq (g2 := F0 m 48 ls []) rfl ?_
                refine lv_aload_n hx hb dX4_mixSurvey_48 rfl (lv_at hl 1 rfl) ?_
                refine lv_aload_n hx hb dX4_mixSurvey_49 rfl (lv_at hl 1 rfl) ?_
                refine lv_iload_n hx hb dX4_mixSurvey_50 rfl (lv_at hl 2 rfl) ?_
                refine rd_callV (As := [.int (nI j)]) (rest := [.ref (b 0)]) ⟨hx, hb, hml, hown, hts⟩ (m_heelOf l G C b σ (x_h ρ (hsO (hsO (hsO (hsO (hsO (hsO (hsO (hsO (m_h ρ) (g_rd σ ((6 * j) + 0))) (g_rd σ ((6 * j) + 1))) (g_rd σ ((6 * j) + 2))) (g_rd σ ((6 * j) + 3))) (g_rd σ ((6 * j) + 4))) (g_rd σ ((6 * j) + 5))) (tr σ j)) (df σ j))) hI (j := j) hj) (cwV 1 hts gX4_mixSurvey_X4_heelOf rfl rfl rfl (by decide +kernel) ⟨Nat.le_of_ble_eq_true rfl, Nat.le_of_ble_eq_true rfl⟩) hK hN hP (0) 4 wM_e0 rfl rfl rfl hl.1 rfl (Nat.le_of_ble_eq_true rfl) dX4_mixSurvey_51 ⟨Nat.zero_le _, Nat.zero_le _⟩ ?_
                refine wr_callV (As := [.long (hl_ σ j)]) (rest := []) ⟨hx, hb, hml, hown, hts⟩ (m_mix l G C b σ (x_h ρ (hsO (hsO (hsO (hsO (hsO (hsO (hsO (hsO (m_h ρ) (g_rd σ ((6 * j) + 0))) (g_rd σ ((6 * j) + 1))) (g_rd σ ((6 * j) + 2))) (g_rd σ ((6 * j) + 3))) (g_rd σ ((6 * j) + 4))) (g_rd σ ((6 * j) + 5))) (tr σ j)) (df σ j))) (hl_ σ j)) (cwV 1 hts gX4_mixSurvey_X4_mix rfl rfl rfl (by decide +kernel) ⟨Nat.le_of_ble_eq_true rfl, Nat.le_of_ble_eq_true rfl⟩) hK hN hP hD hS hA (0) 4 wM_e0 rfl rfl rfl hl.1 rfl (Nat.le_of_ble_eq_true rfl) dX4_mixSurvey_54 ⟨Nat.zero_le _, Nat.zero_le _⟩ (fun v_ w1 H locs hw hP hD hS => ?_)
                obtain ⟨rfl, rfl⟩ := hw
                have hP : va_P G vwCl (wM C b σ (x_h ρ (hsO (hsO (hsO (hsO (hsO (hsO (hsO (hsO (hsO (m_h ρ) (g_rd σ ((6 * j) + 0))) (g_rd σ ((6 * j) + 1))) (g_rd σ ((6 * j) + 2))) (g_rd σ ((6 * j) + 3))) (g_rd σ ((6 * j) + 4))) (g_rd σ ((6 * j) + 5))) (tr σ j)) (df σ j)) (hl_ σ j)))) H := hP
                have hD : va_D A (wM C b σ (x_h ρ (hsO (hsO (hsO (hsO (hsO (hsO (hsO (hsO (hsO (m_h ρ) (g_rd σ ((6 * j) + 0))) (g_rd σ ((6 * j) + 1))) (g_rd σ ((6 * j) + 2))) (g_rd σ ((6 * j) + 3))) (g_rd σ ((6 * j) + 4))) (g_rd σ ((6 * j) + 5))) (tr σ j)) (df σ j)) (hl_ σ j)))) := hD
                refine W.eq (g2 := F0 m 57 ls []) rfl ?_
                refine lv_aload_n hx hb dX4_mixSurvey_57 rfl (lv_at hl 1 rfl) ?_
                refine lv_aload_n hx hb dX4_mixSurvey_58 rfl (lv_at hl 1 rfl) ?_
                refine lv_iload_n hx hb dX4_mixSurvey_59 rfl (lv_at hl 2 rfl) ?_
                refine lv_lconst (v := 0) hx hb dX4_mixSurvey_60 (by decide) ?_
                refine rd_callV (As := [.int (nI j), .long 0]) (rest := [.ref (b 0)]) ⟨hx, hb, hml, hown, hts⟩ (m_quarter l G C b σ (x_h ρ (hsO (hsO (hsO (hsO (hsO (hsO (hsO (hsO (hsO (m_h ρ) (g_rd σ ((6 * j) + 0))) (g_rd σ ((6 * j) + 1))) (g_rd σ ((6 * j) + 2))) (g_rd σ ((6 * j) + 3))) (g_rd σ ((6 * j) + 4))) (g_rd σ ((6 * j) + 5))) (tr σ j)) (df σ j)) (hl_ σ j))) hI (j := j) hj sm_0) (cwV 2 hts gX4_mixSurvey_X4_quarter rfl rfl rfl (by decide +kernel) ⟨Nat.le_of_ble_eq_true rfl, Nat.le_of_ble_eq_true rfl⟩) hK hN hP (0) 4 wM_e0 rfl rfl rfl hl.1 rfl (Nat.le_of_ble_eq_true rfl) dX4_mixSurvey_61 ⟨Nat.zero_le _, Nat.zero_le _⟩ ?_
                refine tp_l (v := qm σ j) (by rw [Int64.add_zero]) ?_
                refine wr_callV (As := [.long (qm σ j)]) (rest := []) ⟨hx, hb, hml, hown, hts⟩ (m_mix l G C b σ (x_h ρ (hsO (hsO (hsO (hsO (hsO (hsO (hsO (hsO (hsO (m_h ρ) (g_rd σ ((6 * j) + 0))) (g_rd σ ((6 * j) + 1))) (g_rd σ ((6 * j) + 2))) (g_rd σ ((6 * j) + 3))) (g_rd σ ((6 * j) + 4))) (g_rd σ ((6 * j) + 5))) (tr σ j)) (df σ j)) (hl_ σ j))) (qm σ j)) (cwV 1 hts gX4_mixSurvey_X4_mix rfl rfl rfl (by decide +kernel) ⟨Nat.le_of_ble_eq_true rfl, Nat.le_of_ble_eq_true rfl⟩) hK hN hP hD hS hA (0) 4 wM_e0 rfl rfl rfl hl.1 rfl (Nat.le_of_ble_eq_true rfl) dX4_mixSurvey_64 ⟨Nat.zero_le _, Nat.zero_le _⟩ (fun v_ w1 H locs hw hP hD hS => ?_)
                obtain ⟨rfl, rfl⟩ := hw
                have hP : va_P G vwCl (wM C b σ (x_h ρ (hsO (hsO (hsO (hsO (hsO (hsO (hsO (hsO (hsO (hsO (m_h ρ) (g_rd σ ((6 * j) + 0))) (g_rd σ ((6 * j) + 1))) (g_rd σ ((6 * j) + 2))) (g_rd σ ((6 * j) + 3))) (g_rd σ ((6 * j) + 4))) (g_rd σ ((6 * j) + 5))) (tr σ j)) (df σ j)) (hl_ σ j)) (qm σ j)))) H := hP
                have hD : va_D A (wM C b σ (x_h ρ (hsO (hsO (hsO (hsO (hsO (hsO (hsO (hsO (hsO (hsO (m_h ρ) (g_rd σ ((6 * j) + 0))) (g_rd σ ((6 * j) + 1))) (g_rd σ ((6 * j) + 2))) (g_rd σ ((6 * j) + 3))) (g_rd σ ((6 * j) + 4))) (g_rd σ ((6 * j) + 5))) (tr σ j)) (df σ j)) (hl_ σ j)) (qm σ j)))) := hD
                refine W.eq (g2 := F0 m 67 ls []) rfl ?_
                refine lv_aload_n hx hb dX4_mixSurvey_67 rfl (lv_at hl 1 rfl) ?_
                refine lv_aload_n hx hb dX4_mixSurvey_68 rfl (lv_at hl 1 rfl) ?_
                refine lv_iload_n hx hb dX4_mixSurvey_69 rfl (lv_at hl 2 rfl) ?_
                refine rd_callV (As := [.int (nI j)]) (rest := [.ref (b 0)]) ⟨hx, hb, hml, hown, hts⟩ (m_fstT l G C b σ (x_h ρ (hsO (hsO (hsO (hsO (hsO (hsO (hsO (hsO (hsO (hsO (m_h ρ) (g_rd σ ((6 * j) + 0))) (g_rd σ ((6 * j) + 1))) (g_rd σ ((6 * j) + 2))) (g_rd σ ((6 * j) + 3))) (g_rd σ ((6 * j) + 4))) (g_rd σ ((6 * j) + 5))) (tr σ j)) (df σ j)) (hl_ σ j)) (qm σ j))) hI (j := j) hj) (cwV 1 hts gX4_mixSurvey_X4_firstTold rfl rfl rfl (by decide +kernel) ⟨Nat.le_of_ble_eq_true rfl, Nat.le_of_ble_eq_true rfl⟩) hK hN hP (0) 4 wM_e0 rfl rfl rfl hl.1 rfl (Nat.le_of_ble_eq_true rfl) dX4_mixSurvey_70 ⟨Nat.zero_le _, Nat.zero_le _⟩ ?_
                refine wr_callV (As := [.long (tFirst σ j)]) (rest := []) ⟨hx, hb, hml, hown, hts⟩ (m_mix l G C b σ (x_h ρ (hsO (hsO (hsO (hsO (hsO (hsO (hsO (hsO (hsO (hsO (m_h ρ) (g_rd σ ((6 * j) + 0))) (g_rd σ ((6 * j) + 1))) (g_rd σ ((6 * j) + 2))) (g_rd σ ((6 * j) + 3))) (g_rd σ ((6 * j) + 4))) (g_rd σ ((6 * j) + 5))) (tr σ j)) (df σ j)) (hl_ σ j)) (qm σ j))) (tFirst σ j)) (cwV 1 hts gX4_mixSurvey_X4_mix rfl rfl rfl (by decide +kernel) ⟨Nat.le_of_ble_eq_true rfl, Nat.le_of_ble_eq_true rfl⟩) hK hN hP hD hS hA (0) 4 wM_e0 rfl rfl rfl hl.1 rfl (Nat.le_of_ble_eq_true rfl) dX4_mixSurvey_73 ⟨Nat.zero_le _, Nat.zero_le _⟩ (fun v_ w1 H locs hw hP hD hS => ?_)
                obtain ⟨rfl, rfl⟩ := hw
                have hP : va_P G vwCl (wM C b σ (x_h ρ (hsO (hsO (hsO (hsO (hsO (hsO (hsO (hsO (hsO (hsO (hsO (m_h ρ) (g_rd σ ((6 * j) + 0))) (g_rd σ ((6 * j) + 1))) (g_rd σ ((6 * j) + 2))) (g_rd σ ((6 * j) + 3))) (g_rd σ ((6 * j) + 4))) (g_rd σ ((6 * j) + 5))) (tr σ j)) (df σ j)) (hl_ σ j)) (qm σ j)) (tFirst σ j)))) H := hP
                have hD : va_D A (wM C b σ (x_h ρ (hsO (hsO (hsO (hsO (hsO (hsO (hsO (hsO (hsO (hsO (hsO (m_h ρ) (g_rd σ ((6 * j) + 0))) (g_rd σ ((6 * j) + 1))) (g_rd σ ((6 * j) + 2))) (g_rd σ ((6 * j) + 3))) (g_rd σ ((6 * j) + 4))) (g_rd σ ((6 * j) + 5))) (tr σ j)) (df σ j)) (hl_ σ j)) (qm σ j)) (tFirst σ j)))) := hD
                refine W.eq (g2 := F0 m 76 ls []) rfl ?_
                refine lv_aload_n hx hb dX4_mixSurvey_76 rfl (lv_at hl 1 rfl) ?_
                refine lv_aload_n hx hb dX4_mixSurvey_77 rfl (lv_at hl 1 rfl) ?_
                refine lv_iload_n hx hb dX4_mixSurvey_78 rfl (lv_at hl 2 rfl) ?_
                refine rd_callV (As := [.int (nI j)]) (rest := [.ref (b 0)]) ⟨hx, hb, hml, hown, hts⟩ (m_sndT l G C b σ (x_h ρ (hsO (hsO (hsO (hsO (hsO (hsO (hsO (hsO (hsO (hsO (hsO (m_h ρ) (g_rd σ ((6 * j) + 0))) (g_rd σ ((6 * j) + 1))) (g_rd σ ((6 * j) + 2))) (g_rd σ ((6 * j) + 3))) (g_rd σ ((6 * j) + 4))) (g_rd σ ((6 * j) + 5))) (tr σ j)) (df σ j)) (hl_ σ j)) (qm σ j)) (tFirst σ j))) hI (j := j) hj) (cwV 1 hts gX4_mixSurvey_X4_secondTold rfl rfl rfl (by decide +kernel) ⟨Nat.le_of_ble_eq_true rfl, Nat.le_of_ble_eq_true rfl⟩) hK hN hP (0) 4 wM_e0 rfl rfl rfl hl.1 rfl (Nat.le_of_ble_eq_true rfl) dX4_mixSurvey_79 ⟨Nat.zero_le _, Nat.zero_le _⟩ ?_
                refine wr_callV (As := [.long (tSecond σ j)]) (rest := []) ⟨hx, hb, hml, hown, hts⟩ (m_mix l G C b σ (x_h ρ (hsO (hsO (hsO (hsO (hsO (hsO (hsO (hsO (hsO (hsO (hsO (m_h ρ) (g_rd σ ((6 * j) + 0))) (g_rd σ ((6 * j) + 1))) (g_rd σ ((6 * j) + 2))) (g_rd σ ((6 * j) + 3))) (g_rd σ ((6 * j) + 4))) (g_rd σ ((6 * j) + 5))) (tr σ j)) (df σ j)) (hl_ σ j)) (qm σ j)) (tFirst σ j))) (tSecond σ j)) (cwV 1 hts gX4_mixSurvey_X4_mix rfl rfl rfl (by decide +kernel) ⟨Nat.le_of_ble_eq_true rfl, Nat.le_of_ble_eq_true rfl⟩) hK hN hP hD hS hA (0) 4 wM_e0 rfl rfl rfl hl.1 rfl (Nat.le_of_ble_eq_true rfl) dX4_mixSurvey_82 ⟨Nat.zero_le _, Nat.zero_le _⟩ (fun v_ w1 H locs hw hP hD hS => ?_)
                obtain ⟨rfl, rfl⟩ := hw
                have hP : va_P G vwCl (wM C b σ (x_h ρ (hsO (hsO (hsO (hsO (hsO (hsO (hsO (hsO (hsO (hsO (hsO (hsO (m_h ρ) (g_rd σ ((6 * j) + 0))) (g_rd σ ((6 * j) + 1))) (g_rd σ ((6 * j) + 2))) (g_rd σ ((6 * j) + 3))) (g_rd σ ((6 * j) + 4))) (g_rd σ ((6 * j) + 5))) (tr σ j)) (df σ j)) (hl_ σ j)) (qm σ j)) (tFirst σ j)) (tSecond σ j)))) H := hP
                have hD : va_D A (wM C b σ (x_h ρ (hsO (hsO (hsO (hsO (hsO (hsO (hsO (hsO (hsO (hsO (hsO (hsO (m_h ρ) (g_rd σ ((6 * j) + 0))) (g_rd σ ((6 * j) + 1))) (g_rd σ ((6 * j) + 2))) (g_rd σ ((6 * j) + 3))) (g_rd σ ((6 * j) + 4))) (g_rd σ ((6 * j) + 5))) (tr σ j)) (df σ j)) (hl_ σ j)) (qm σ j)) (tFirst σ j)) (tSecond σ j)))) := hD
                refine W.eq (g2 := F0 m 85 ls []) rfl ?_
                refine lv_aload_n hx hb dX4_mixSurvey_85 rfl (lv_at hl 1 rfl) ?_
                refine lv_aload_n hx hb dX4_mixSurvey_86 rfl (lv_at hl 1 rfl) ?_
                refine lv_iload_n hx hb dX4_mixSurvey_87 rfl (lv_at hl 2 rfl) ?_
                refine lv_ldc2 (v := (-500)) hx hb hown (hts (.constantLong RX4 222 (-500)) (by decide +kernel)) dX4_mixSurvey_88 ?_
                refine rd_callV (As := [.int (nI j), .long (-500)]) (rest := [.ref (b 0)]) ⟨hx, hb, hml, hown, hts⟩ (m_dspT l G C b σ (x_h ρ (hsO (hsO (hsO (hsO (hsO (hsO (hsO (hsO (hsO (hsO (hsO (hsO (m_h ρ) (g_rd σ ((6 * j) + 0))) (g_rd σ ((6 * j) + 1))) (g_rd σ ((6 * j) + 2))) (g_rd σ ((6 * j) + 3))) (g_rd σ ((6 * j) + 4))) (g_rd σ ((6 * j) + 5))) (tr σ j)) (df σ j)) (hl_ σ j)) (qm σ j)) (tFirst σ j)) (tSecond σ j))) hI (j := j) hj sm_m5) (cwV 2 hts gX4_mixSurvey_X4_displacedTold rfl rfl rfl (by decide +kernel) ⟨Nat.le_of_ble_eq_true rfl, Nat.le_of_ble_eq_true rfl⟩) hK hN hP (0) 4 wM_e0 rfl rfl rfl hl.1 rfl (Nat.le_of_ble_eq_true rfl) dX4_mixSurvey_91 ⟨Nat.zero_le _, Nat.zero_le _⟩ ?_
                refine wr_callV (As := [.long (tDisp σ j (-500))]) (rest := []) ⟨hx, hb, hml, hown, hts⟩ (m_mix l G C b σ (x_h ρ (hsO (hsO (hsO (hsO (hsO (hsO (hsO (hsO (hsO (hsO (hsO (hsO (m_h ρ) (g_rd σ ((6 * j) + 0))) (g_rd σ ((6 * j) + 1))) (g_rd σ ((6 * j) + 2))) (g_rd σ ((6 * j) + 3))) (g_rd σ ((6 * j) + 4))) (g_rd σ ((6 * j) + 5))) (tr σ j)) (df σ j)) (hl_ σ j)) (qm σ j)) (tFirst σ j)) (tSecond σ j))) (tDisp σ j (-500))) (cwV 1 hts gX4_mixSurvey_X4_mix rfl rfl rfl (by decide +kernel) ⟨Nat.le_of_ble_eq_true rfl, Nat.le_of_ble_eq_true rfl⟩) hK hN hP hD hS hA (0) 4 wM_e0 rfl rfl rfl hl.1 rfl (Nat.le_of_ble_eq_true rfl) dX4_mixSurvey_94 ⟨Nat.zero_le _, Nat.zero_le _⟩ (fun v_ w1 H locs hw hP hD hS => ?_)
                obtain ⟨rfl, rfl⟩ := hw
                have hP : va_P G vwCl (wM C b σ (x_h ρ (hsO (hsO (hsO (hsO (hsO (hsO (hsO (hsO (hsO (hsO (hsO (hsO (hsO (m_h ρ) (g_rd σ ((6 * j) + 0))) (g_rd σ ((6 * j) + 1))) (g_rd σ ((6 * j) + 2))) (g_rd σ ((6 * j) + 3))) (g_rd σ ((6 * j) + 4))) (g_rd σ ((6 * j) + 5))) (tr σ j)) (df σ j)) (hl_ σ j)) (qm σ j)) (tFirst σ j)) (tSecond σ j)) (tDisp σ j (-500))))) H := hP
                have hD : va_D A (wM C b σ (x_h ρ (hsO (hsO (hsO (hsO (hsO (hsO (hsO (hsO (hsO (hsO (hsO (hsO (hsO (m_h ρ) (g_rd σ ((6 * j) + 0))) (g_rd σ ((6 * j) + 1))) (g_rd σ ((6 * j) + 2))) (g_rd σ ((6 * j) + 3))) (g_rd σ ((6 * j) + 4))) (g_rd σ ((6 * j) + 5))) (tr σ j)) (df σ j)) (hl_ σ j)) (qm σ j)) (tFirst σ j)) (tSecond σ j)) (tDisp σ j (-500))))) := hD
                refine W.eq (g2 := F0 m 97 ls []) rfl ?_
                refine lv_aload_n hx hb dX4_mixSurvey_97 rfl (lv_at hl 1 rfl) ?_
                refine lv_aload_n hx hb dX4_mixSurvey_98 rfl (lv_at hl 1 rfl) ?_
                refine lv_iload_n hx hb dX4_mixSurvey_99 rfl (lv_at hl 2 rfl) ?_
                refine lv_lconst (v := 0) hx hb dX4_mixSurvey_100 (by decide) ?_
                refine rd_callV (As := [.int (nI j), .long 0]) (rest := [.ref (b 0)]) ⟨hx, hb, hml, hown, hts⟩ (m_dspT l G C b σ (x_h ρ (hsO (hsO (hsO (hsO (hsO (hsO (hsO (hsO (hsO (hsO (hsO (hsO (hsO (m_h ρ) (g_rd σ ((6 * j) + 0))) (g_rd σ ((6 * j) + 1))) (g_rd σ ((6 * j) + 2))) (g_rd σ ((6 * j) + 3))) (g_rd σ ((6 * j) + 4))) (g_rd σ ((6 * j) + 5))) (tr σ j)) (df σ j)) (hl_ σ j)) (qm σ j)) (tFirst σ j)) (tSecond σ j)) (tDisp σ j (-500)))) hI (j := j) hj sm_0) (cwV 2 hts gX4_mixSurvey_X4_displacedTold rfl rfl rfl (by decide +kernel) ⟨Nat.le_of_ble_eq_true rfl, Nat.le_of_ble_eq_true rfl⟩) hK hN hP (0) 4 wM_e0 rfl rfl rfl hl.1 rfl (Nat.le_of_ble_eq_true rfl) dX4_mixSurvey_101 ⟨Nat.zero_le _, Nat.zero_le _⟩ ?_
                refine wr_callV (As := [.long (tDisp σ j 0)]) (rest := []) ⟨hx, hb, hml, hown, hts⟩ (m_mix l G C b σ (x_h ρ (hsO (hsO (hsO (hsO (hsO (hsO (hsO (hsO (hsO (hsO (hsO (hsO (hsO (m_h ρ) (g_rd σ ((6 * j) + 0))) (g_rd σ ((6 * j) + 1))) (g_rd σ ((6 * j) + 2))) (g_rd σ ((6 * j) + 3))) (g_rd σ ((6 * j) + 4))) (g_rd σ ((6 * j) + 5))) (tr σ j)) (df σ j)) (hl_ σ j)) (qm σ j)) (tFirst σ j)) (tSecond σ j)) (tDisp σ j (-500)))) (tDisp σ j 0)) (cwV 1 hts gX4_mixSurvey_X4_mix rfl rfl rfl (by decide +kernel) ⟨Nat.le_of_ble_eq_true rfl, Nat.le_of_ble_eq_true rfl⟩) hK hN hP hD hS hA (0) 4 wM_e0 rfl rfl rfl hl.1 rfl (Nat.le_of_ble_eq_true rfl) dX4_mixSurvey_104 ⟨Nat.zero_le _, Nat.zero_le _⟩ (fun v_ w1 H locs hw hP hD hS => ?_)
                obtain ⟨rfl, rfl⟩ := hw
                have hP : va_P G vwCl (wM C b σ (x_h ρ (hsO (hsO (hsO (hsO (hsO (hsO (hsO (hsO (hsO (hsO (hsO (hsO (hsO (hsO (m_h ρ) (g_rd σ ((6 * j) + 0))) (g_rd σ ((6 * j) + 1))) (g_rd σ ((6 * j) + 2))) (g_rd σ ((6 * j) + 3))) (g_rd σ ((6 * j) + 4))) (g_rd σ ((6 * j) + 5))) (tr σ j)) (df σ j)) (hl_ σ j)) (qm σ j)) (tFirst σ j)) (tSecond σ j)) (tDisp σ j (-500))) (tDisp σ j 0)))) H := hP
                have hD : va_D A (wM C b σ (x_h ρ (hsO (hsO (hsO (hsO (hsO (hsO (hsO (hsO (hsO (hsO (hsO (hsO (hsO (hsO (m_h ρ) (g_rd σ ((6 * j) + 0))) (g_rd σ ((6 * j) + 1))) (g_rd σ ((6 * j) + 2))) (g_rd σ ((6 * j) + 3))) (g_rd σ ((6 * j) + 4))) (g_rd σ ((6 * j) + 5))) (tr σ j)) (df σ j)) (hl_ σ j)) (qm σ j)) (tFirst σ j)) (tSecond σ j)) (tDisp σ j (-500))) (tDisp σ j 0)))) := hD
                refine W.eq (g2 := F0 m 107 ls []) rfl ?_
                refine lv_aload_n hx hb dX4_mixSurvey_107 rfl (lv_at hl 1 rfl) ?_
                refine lv_aload_n hx hb dX4_mixSurvey_108 rfl (lv_at hl 1 rfl) ?_
                refine lv_iload_n hx hb dX4_mixSurvey_109 rfl (lv_at hl 2 rfl) ?_
                refine lv_ldc2 (v := 500) hx hb hown (hts (.constantLong RX4 155 (500)) (by decide +kernel)) dX4_mixSurvey_110 ?_
                refine rd_callV (As := [.int (nI j), .long 500]) (rest := [.ref (b 0)]) ⟨hx, hb, hml, hown, hts⟩ (m_dspT l G C b σ (x_h ρ (hsO (hsO (hsO (hsO (hsO (hsO (hsO (hsO (hsO (hsO (hsO (hsO (hsO (hsO (m_h ρ) (g_rd σ ((6 * j) + 0))) (g_rd σ ((6 * j) + 1))) (g_rd σ ((6 * j) + 2))) (g_rd σ ((6 * j) + 3))) (g_rd σ ((6 * j) + 4))) (g_rd σ ((6 * j) + 5))) (tr σ j)) (df σ j)) (hl_ σ j)) (qm σ j)) (tFirst σ j)) (tSecond σ j)) (tDisp σ j (-500))) (tDisp σ j 0))) hI (j := j) hj sm_p5) (cwV 2 hts gX4_mixSurvey_X4_displacedTold rfl rfl rfl (by decide +kernel) ⟨Nat.le_of_ble_eq_true rfl, Nat.le_of_ble_eq_true rfl⟩) hK hN hP (0) 4 wM_e0 rfl rfl rfl hl.1 rfl (Nat.le_of_ble_eq_true rfl) dX4_mixSurvey_113 ⟨Nat.zero_le _, Nat.zero_le _⟩ ?_
                refine wr_callV (As := [.long (tDisp σ j 500)]) (rest := []) ⟨hx, hb, hml, hown, hts⟩ (m_mix l G C b σ (x_h ρ (hsO (hsO (hsO (hsO (hsO (hsO (hsO (hsO (hsO (hsO (hsO (hsO (hsO (hsO (m_h ρ) (g_rd σ ((6 * j) + 0))) (g_rd σ ((6 * j) + 1))) (g_rd σ ((6 * j) + 2))) (g_rd σ ((6 * j) + 3))) (g_rd σ ((6 * j) + 4))) (g_rd σ ((6 * j) + 5))) (tr σ j)) (df σ j)) (hl_ σ j)) (qm σ j)) (tFirst σ j)) (tSecond σ j)) (tDisp σ j (-500))) (tDisp σ j 0))) (tDisp σ j 500)) (cwV 1 hts gX4_mixSurvey_X4_mix rfl rfl rfl (by decide +kernel) ⟨Nat.le_of_ble_eq_true rfl, Nat.le_of_ble_eq_true rfl⟩) hK hN hP hD hS hA (0) 4 wM_e0 rfl rfl rfl hl.1 rfl (Nat.le_of_ble_eq_true rfl) dX4_mixSurvey_116 ⟨Nat.zero_le _, Nat.zero_le _⟩ (fun v_ w1 H locs hw hP hD hS => ?_)
                obtain ⟨rfl, rfl⟩ := hw
                have hP : va_P G vwCl (wM C b σ (x_h ρ (hsO (hsO (hsO (hsO (hsO (hsO (hsO (hsO (hsO (hsO (hsO (hsO (hsO (hsO (hsO (m_h ρ) (g_rd σ ((6 * j) + 0))) (g_rd σ ((6 * j) + 1))) (g_rd σ ((6 * j) + 2))) (g_rd σ ((6 * j) + 3))) (g_rd σ ((6 * j) + 4))) (g_rd σ ((6 * j) + 5))) (tr σ j)) (df σ j)) (hl_ σ j)) (qm σ j)) (tFirst σ j)) (tSecond σ j)) (tDisp σ j (-500))) (tDisp σ j 0)) (tDisp σ j 500)))) H := hP
                have hD : va_D A (wM C b σ (x_h ρ (hsO (hsO (hsO (hsO (hsO (hsO (hsO (hsO (hsO (hsO (hsO (hsO (hsO (hsO (hsO (m_h ρ) (g_rd σ ((6 * j) + 0))) (g_rd σ ((6 * j) + 1))) (g_rd σ ((6 * j) + 2))) (g_rd σ ((6 * j) + 3))) (g_rd σ ((6 * j) + 4))) (g_rd σ ((6 * j) + 5))) (tr σ j)) (df σ j)) (hl_ σ j)) (qm σ j)) (tFirst σ j)) (tSecond σ j)) (tDisp σ j (-500))) (tDisp σ j 0)) (tDisp σ j 500)))) := hD
                refine W.eq (g2 := F0 m 119 ls []) rfl ?_
                refine lv_aload_n hx hb dX4_mixSurvey_119 rfl (lv_at hl 1 rfl) ?_
                refine lv_aload_n hx hb dX4_mixSurvey_120 rfl (lv_at hl 1 rfl) ?_
                refine lv_iload_n hx hb dX4_mixSurvey_121 rfl (lv_at hl 2 rfl) ?_
                refine rd_callV (As := [.int (nI j)]) (rest := [.ref (b 0)]) ⟨hx, hb, hml, hown, hts⟩ (m_netT l G C b σ (x_h ρ (hsO (hsO (hsO (hsO (hsO (hsO (hsO (hsO (hsO (hsO (hsO (hsO (hsO (hsO (hsO (m_h ρ) (g_rd σ ((6 * j) + 0))) (g_rd σ ((6 * j) + 1))) (g_rd σ ((6 * j) + 2))) (g_rd σ ((6 * j) + 3))) (g_rd σ ((6 * j) + 4))) (g_rd σ ((6 * j) + 5))) (tr σ j)) (df σ j)) (hl_ σ j)) (qm σ j)) (tFirst σ j)) (tSecond σ j)) (tDisp σ j (-500))) (tDisp σ j 0)) (tDisp σ j 500))) hI (j := j) hj) (cwV 1 hts gX4_mixSurvey_X4_netTold rfl rfl rfl (by decide +kernel) ⟨Nat.le_of_ble_eq_true rfl, Nat.le_of_ble_eq_true rfl⟩) hK hN hP (0) 4 wM_e0 rfl rfl rfl hl.1 rfl (Nat.le_of_ble_eq_true rfl) dX4_mixSurvey_122 ⟨Nat.zero_le _, Nat.zero_le _⟩ ?_
                refine wr_callV (As := [.long (tNet σ j)]) (rest := []) ⟨hx, hb, hml, hown, hts⟩ (m_mix l G C b σ (x_h ρ (hsO (hsO (hsO (hsO (hsO (hsO (hsO (hsO (hsO (hsO (hsO (hsO (hsO (hsO (hsO (m_h ρ) (g_rd σ ((6 * j) + 0))) (g_rd σ ((6 * j) + 1))) (g_rd σ ((6 * j) + 2))) (g_rd σ ((6 * j) + 3))) (g_rd σ ((6 * j) + 4))) (g_rd σ ((6 * j) + 5))) (tr σ j)) (df σ j)) (hl_ σ j)) (qm σ j)) (tFirst σ j)) (tSecond σ j)) (tDisp σ j (-500))) (tDisp σ j 0)) (tDisp σ j 500))) (tNet σ j)) (cwV 1 hts gX4_mixSurvey_X4_mix rfl rfl rfl (by decide +kernel) ⟨Nat.le_of_ble_eq_true rfl, Nat.le_of_ble_eq_true rfl⟩) hK hN hP hD hS hA (0) 4 wM_e0 rfl rfl rfl hl.1 rfl (Nat.le_of_ble_eq_true rfl) dX4_mixSurvey_125 ⟨Nat.zero_le _, Nat.zero_le _⟩ (fun v_ w1 H locs hw hP hD hS => ?_)
                obtain ⟨rfl, rfl⟩ := hw
                have hP : va_P G vwCl (wM C b σ (x_h ρ (hsO (hsO (hsO (hsO (hsO (hsO (hsO (hsO (hsO (hsO (hsO (hsO (hsO (hsO (hsO (hsO (m_h ρ) (g_rd σ ((6 * j) + 0))) (g_rd σ ((6 * j) + 1))) (g_rd σ ((6 * j) + 2))) (g_rd σ ((6 * j) + 3))) (g_rd σ ((6 * j) + 4))) (g_rd σ ((6 * j) + 5))) (tr σ j)) (df σ j)) (hl_ σ j)) (qm σ j)) (tFirst σ j)) (tSecond σ j)) (tDisp σ j (-500))) (tDisp σ j 0)) (tDisp σ j 500)) (tNet σ j)))) H := hP
                have hD : va_D A (wM C b σ (x_h ρ (hsO (hsO (hsO (hsO (hsO (hsO (hsO (hsO (hsO (hsO (hsO (hsO (hsO (hsO (hsO (hsO (m_h ρ) (g_rd σ ((6 * j) + 0))) (g_rd σ ((6 * j) + 1))) (g_rd σ ((6 * j) + 2))) (g_rd σ ((6 * j) + 3))) (g_rd σ ((6 * j) + 4))) (g_rd σ ((6 * j) + 5))) (tr σ j)) (df σ j)) (hl_ σ j)) (qm σ j)) (tFirst σ j)) (tSecond σ j)) (tDisp σ j (-500))) (tDisp σ j 0)) (tDisp σ j 500)) (tNet σ j)))) := hD
                refine W.eq (g2 := F0 m 128 ls []) rfl ?_
                refine wr_vret hx hb hr hlocks hAe hP hD hS ?_ dX4_mixSurvey_128
                exact ⟨rfl, rfl⟩
              · skip
                exact absurd c_7 (by decide)

set_option maxHeartbeats 4000000 in
set_option maxRecDepth 100000 in
theorem m_digest (l : Launch) (G : va_G) (C : Nat → ClassId) (b : Nat → Nat) (σ : SG) (ρ : KM) (hI : Inv σ) : WrC l yX4_digest wsX4_digest ({ frames := 8, cells := 0, slots := 0, locals := 205 } : Room) G (tysC C) (wM C b σ ρ) [.ref (b 0)] (pM C b (aDigest σ) σ) := by
  intro sz
  refine Met.ofW (cc := cX4_digest) (maxL := 2) (ret := (some .long)) (by decide) rfl ?_
  intro p e s m args below meth c s₁ B hml hv
  obtain ⟨rfl, hsz, hP, hK, hN, hD0⟩ := hv
  have hx := B.exec
  have hb := B.bytes
  have hr := B.returns
  have hts := atoms_spec (ws := wsX4_digest) B.pre
  have hown : s.vm.findClass RX4 = some m.cls := findClass_of_methodNamed B.named
  have hlocks := B.notSynchronized
  have hX4 : ∀ w ∈ wsX40, w ∈ wsX4_digest := by decide +kernel
  subst hsz
  have hD := hD0.self (sz := s.heap.size)
  generalize hAe : va_A (wM C b σ ρ) s.heap.size = A at hD ⊢
  have hA : ∀ q : Nat, s.heap.size ≤ q → A q := fun q h => by rw [← hAe]; exact Or.inr h
  have hS : va_S A s.heap s.heap [] := va_S.rf
  have hP : va_P G vwCl (wM C b σ ρ) s.heap := hP
  have hl := lv_entry ([.ref (b 0)]) (n := 2) (Nat.le_of_ble_eq_true rfl)
  rw [lg_entry_eq]
  generalize (lg_sl ([.ref (b 0)]) ++ List.replicate (2 - (lg_sl ([.ref (b 0)])).length) Slot.unset).toArray = ls at hl ⊢
  have hl : lv_has ls 2 [(0, .ref (b 0))] := hl
  have hn := inv_n hI
  have hbl := inv_bl hI
  refine lv_aload_n hx hb dX4_digest_0 rfl (lv_at hl 0 rfl) ?_
  refine lv_ldc2 (v := 1759) hx hb hown (hts (.constantLong RX4 224 (1759)) (by decide +kernel)) dX4_digest_1 ?_
  refine va_put (D := G) (ci := 4) (v := .long 1759) (ty := .long) (C := RX4) (T := TX4) (N := 13) hx hb hts hX4 tyX4 tyX4_ok nmX4 hown hK hP hD hS (0) wM_e0 rfl 12 (by decide) (hts (.fieldLink RX4 215 "DraftSurveyModel" "h" "J") (by decide +kernel)) (fun _ h9 => h9) rfl (by decide +kernel) rfl rfl (Nat.le_of_ble_eq_true rfl) dX4_digest_4 (fun H locs hP hD hS => ?_)
  have hP : va_P G vwCl (wM C b σ (x_h ρ 1759)) H := hP
  have hD : va_D A (wM C b σ (x_h ρ 1759)) := hD
  refine lv_aload_n hx hb dX4_digest_7 rfl (lv_at hl 0 rfl) ?_
  refine lv_aload_n hx hb dX4_digest_8 rfl (lv_at hl 0 rfl) ?_
  refine va_get (D := G) (ci := 4) (v := .int (nI (g_n σ))) (C := RX4) (T := TX4) (N := 13) hx hb hts hX4 hown hK hP (0) wM_e0 rfl 2 (by decide) (hts (.fieldLink RX4 85 "DraftSurveyModel" "rows" "I") (by decide +kernel)) (fun _ h9 => h9) rfl dX4_digest_9 ?_
  refine lv_i2l (v := lN (g_n σ)) hx hb dX4_digest_12 (nI_l (by omega)) ?_
  refine wr_callV (As := [.long (lN (g_n σ))]) (rest := []) ⟨hx, hb, hml, hown, hts⟩ (m_mix l G C b σ (x_h ρ 1759) (lN (g_n σ))) (cwV 1 hts gX4_digest_X4_mix rfl rfl rfl (by decide +kernel) ⟨Nat.le_of_ble_eq_true rfl, Nat.le_of_ble_eq_true rfl⟩) hK hN hP hD hS hA (0) 4 wM_e0 rfl rfl rfl hl.1 rfl (Nat.le_of_ble_eq_true rfl) dX4_digest_13 ⟨Nat.zero_le _, Nat.zero_le _⟩ (fun v_ w1 H locs hw hP hD hS => ?_)
  obtain ⟨rfl, rfl⟩ := hw
  have hP : va_P G vwCl (wM C b σ (x_h ρ (hsO 1759 (lN (g_n σ))))) H := hP
  have hD : va_D A (wM C b σ (x_h ρ (hsO 1759 (lN (g_n σ))))) := hD
  refine W.eq (g2 := F0 m 16 ls []) rfl ?_
  refine lv_iconst (v := 0) hx hb dX4_digest_16 (by decide) ?_
  refine lv_istore_n (lv' := [(1, .int 0), (0, .ref (b 0))]) hx hb dX4_digest_17 rfl hl (by decide) rfl (fun ls hl => ?_)
  have key18 : ∀ (n_ : Nat) (k : Nat) (hv : Int64), 5 * g_n σ + 1 ≤ k + n_ → k ≤ 5 * g_n σ → hv = hsL (g_tb σ) (hsO 1759 (lN (g_n σ))) k → ∀ (H : Heap) (locs : List Loc), va_P G vwCl (wM C b σ (x_h ρ hv)) H → va_D A (wM C b σ (x_h ρ hv)) → va_S A s.heap H locs → ∀ ls : Array Slot, lv_has ls 2 [(0, .ref (b 0)), (1, .int (nI k))] → W p l e (headSpec wsX4_digest ({ frames := 8, cells := 0, slots := 0, locals := 205 } : Room)).room s m ([.ref (b 0)] : List Value).toArray below meth c H locs 0 0 (MQ below (QW G (wM C b σ ρ) s.heap.size (pM C b (aDigest σ) σ)) ([.ref (b 0)] : List Value).toArray s 0 0 A) (F0 m 18 ls []) := by
    intro n_
    induction n_ with
    | zero =>
      intro k hv g_0 g_1 g_2 H locs hP hD hS ls hl
      exact absurd g_0 (by omega)
    | succ n_ ih =>
      intro k hv g_0 g_1 g_2 H locs hP hD hS ls hl
      refine lv_iload_n hx hb dX4_digest_18 rfl (lv_at hl 1 rfl) ?_
      refine lv_iconst (v := 5) hx hb dX4_digest_19 (by decide) ?_
      refine lv_aload_n hx hb dX4_digest_20 rfl (lv_at hl 0 rfl) ?_
      refine va_get (D := G) (ci := 4) (v := .int (nI (g_n σ))) (C := RX4) (T := TX4) (N := 13) hx hb hts hX4 hown hK hP (0) wM_e0 rfl 2 (by decide) (hts (.fieldLink RX4 85 "DraftSurveyModel" "rows" "I") (by decide +kernel)) (fun _ h9 => h9) rfl dX4_digest_21 ?_
      refine lv_imul hx hb dX4_digest_24 ?_
      refine tp_i (v := nI (5 * (g_n σ))) (pk_mul 5 (g_n σ)) ?_
      refine ic_ge (tgt := 44) hx hb dX4_digest_25 (by decide) (fun c_1 => ?_) (fun c_1 => ?_)
      · skip
        have c_1 : ¬ k < (5 * (g_n σ)) := fun z9 => c_1 ((nI_ltI (a := k) (b := (5 * (g_n σ))) (by omega) (by omega)).mpr z9)
        have e_k : k = 5 * g_n σ := by omega
        have e_h : hv = hsT σ := by rw [g_2, e_k]; rfl
        subst e_h
        have hP : va_P G vwCl (wM C b σ (x_h ρ (hsT σ))) H := hP
        have hD : va_D A (wM C b σ (x_h ρ (hsT σ))) := hD
        refine lv_iconst (v := 0) hx hb dX4_digest_44 (by decide) ?_
        refine lv_istore_n (lv' := [(1, .int 0), (0, .ref (b 0))]) hx hb dX4_digest_45 rfl hl (by decide) rfl (fun ls hl => ?_)
        refine lv_iload_n hx hb dX4_digest_46 rfl (lv_at hl 0 rfl) ?_
        refine lv_iconst (v := 4) hx hb dX4_digest_47 (by decide) ?_
        refine ic_ge (tgt := 62) hx hb dX4_digest_48 (by decide) (fun c_2 => ?_) (fun c_2 => ?_)
        · skip
          exact absurd c_2 (by decide)
        · skip
          refine lv_aload_n hx hb dX4_digest_51 rfl (lv_at hl 1 rfl) ?_
          refine lv_iload_n hx hb dX4_digest_52 rfl (lv_at hl 0 rfl) ?_
          refine wr_callV (As := [.int 0]) (rest := []) ⟨hx, hb, hml, hown, hts⟩ (m_mixS l G C b σ (x_h ρ (hsT σ)) hI (j := 0) (by decide)) (cwV 1 hts gX4_digest_X4_mixSurvey rfl rfl rfl (by decide +kernel) ⟨Nat.le_of_ble_eq_true rfl, Nat.le_of_ble_eq_true rfl⟩) hK hN hP hD hS hA (0) 4 wM_e0 rfl rfl rfl hl.1 rfl (Nat.le_of_ble_eq_true rfl) dX4_digest_53 ⟨Nat.zero_le _, Nat.zero_le _⟩ (fun v_ w1 H locs hw hP hD hS => ?_)
          obtain ⟨rfl, rfl⟩ := hw
          have hP : va_P G vwCl (wM C b σ (x_h ρ (hsS σ 0 (hsT σ)))) H := hP
          have hD : va_D A (wM C b σ (x_h ρ (hsS σ 0 (hsT σ)))) := hD
          refine W.eq (g2 := F0 m 56 ls []) rfl ?_
          refine lv_iinc (v := 1) (lv' := [(1, .int 1), (0, .ref (b 0))]) hx hb dX4_digest_56 hl (k := 0) rfl (by decide) (by decide) rfl (fun ls hl => ?_)
          refine lv_goto (tgt := 46) hx hb dX4_digest_59 (by decide) ?_
          refine lv_iload_n hx hb dX4_digest_46 rfl (lv_at hl 0 rfl) ?_
          refine lv_iconst (v := 4) hx hb dX4_digest_47 (by decide) ?_
          refine ic_ge (tgt := 62) hx hb dX4_digest_48 (by decide) (fun c_3 => ?_) (fun c_3 => ?_)
          · skip
            exact absurd c_3 (by decide)
          · skip
            refine lv_aload_n hx hb dX4_digest_51 rfl (lv_at hl 1 rfl) ?_
            refine lv_iload_n hx hb dX4_digest_52 rfl (lv_at hl 0 rfl) ?_
            refine wr_callV (As := [.int 1]) (rest := []) ⟨hx, hb, hml, hown, hts⟩ (m_mixS l G C b σ (x_h ρ (hsS σ 0 (hsT σ))) hI (j := 1) (by decide)) (cwV 1 hts gX4_digest_X4_mixSurvey rfl rfl rfl (by decide +kernel) ⟨Nat.le_of_ble_eq_true rfl, Nat.le_of_ble_eq_true rfl⟩) hK hN hP hD hS hA (0) 4 wM_e0 rfl rfl rfl hl.1 rfl (Nat.le_of_ble_eq_true rfl) dX4_digest_53 ⟨Nat.zero_le _, Nat.zero_le _⟩ (fun v_ w1 H locs hw hP hD hS => ?_)
            obtain ⟨rfl, rfl⟩ := hw
            have hP : va_P G vwCl (wM C b σ (x_h ρ (hsS σ 1 (hsS σ 0 (hsT σ))))) H := hP
            have hD : va_D A (wM C b σ (x_h ρ (hsS σ 1 (hsS σ 0 (hsT σ))))) := hD
            refine W.eq (g2 := F0 m 56 ls []) rfl ?_
            refine lv_iinc (v := 2) (lv' := [(1, .int 2), (0, .ref (b 0))]) hx hb dX4_digest_56 hl (k := 0) rfl (by decide) (by decide) rfl (fun ls hl => ?_)
            refine lv_goto (tgt := 46) hx hb dX4_digest_59 (by decide) ?_
            refine lv_iload_n hx hb dX4_digest_46 rfl (lv_at hl 0 rfl) ?_
            refine lv_iconst (v := 4) hx hb dX4_digest_47 (by decide) ?_
            refine ic_ge (tgt := 62) hx hb dX4_digest_48 (by decide) (fun c_4 => ?_) (fun c_4 => ?_)
            · skip
              exact absurd c_4 (by decide)
            · skip
              refine lv_aload_n hx hb dX4_digest_51 rfl (lv_at hl 1 rfl) ?_
              refine lv_iload_n hx hb dX4_digest_52 rfl (lv_at hl 0 rfl) ?_
              refine wr_callV (As := [.int 2]) (rest := []) ⟨hx, hb, hml, hown, hts⟩ (m_mixS l G C b σ (x_h ρ (hsS σ 1 (hsS σ 0 (hsT σ)))) hI (j := 2) (by decide)) (cwV 1 hts gX4_digest_X4_mixSurvey rfl rfl rfl (by decide +kernel) ⟨Nat.le_of_ble_eq_true rfl, Nat.le_of_ble_eq_true rfl⟩) hK hN hP hD hS hA (0) 4 wM_e0 rfl rfl rfl hl.1 rfl (Nat.le_of_ble_eq_true rfl) dX4_digest_53 ⟨Nat.zero_le _, Nat.zero_le _⟩ (fun v_ w1 H locs hw hP hD hS => ?_)
              obtain ⟨rfl, rfl⟩ := hw
              have hP : va_P G vwCl (wM C b σ (x_h ρ (hsS σ 2 (hsS σ 1 (hsS σ 0 (hsT σ)))))) H := hP
              have hD : va_D A (wM C b σ (x_h ρ (hsS σ 2 (hsS σ 1 (hsS σ 0 (hsT σ)))))) := hD
              refine W.eq (g2 := F0 m 56 ls []) rfl ?_
              refine lv_iinc (v := 3) (lv' := [(1, .int 3), (0, .ref (b 0))]) hx hb dX4_digest_56 hl (k := 0) rfl (by decide) (by decide) rfl (fun ls hl => ?_)
              refine lv_goto (tgt := 46) hx hb dX4_digest_59 (by decide) ?_
              refine lv_iload_n hx hb dX4_digest_46 rfl (lv_at hl 0 rfl) ?_
              refine lv_iconst (v := 4) hx hb dX4_digest_47 (by decide) ?_
              refine ic_ge (tgt := 62) hx hb dX4_digest_48 (by decide) (fun c_5 => ?_) (fun c_5 => ?_)
              · skip
                exact absurd c_5 (by decide)
              · skip
                refine lv_aload_n hx hb dX4_digest_51 rfl (lv_at hl 1 rfl) ?_
                refine lv_iload_n hx hb dX4_digest_52 rfl (lv_at hl 0 rfl) ?_
                refine wr_callV (As := [.int 3]) (rest := []) ⟨hx, hb, hml, hown, hts⟩ (m_mixS l G C b σ (x_h ρ (hsS σ 2 (hsS σ 1 (hsS σ 0 (hsT σ))))) hI (j := 3) (by decide)) (cwV 1 hts gX4_digest_X4_mixSurvey rfl rfl rfl (by decide +kernel) ⟨Nat.le_of_ble_eq_true rfl, Nat.le_of_ble_eq_true rfl⟩) hK hN hP hD hS hA (0) 4 wM_e0 rfl rfl rfl hl.1 rfl (Nat.le_of_ble_eq_true rfl) dX4_digest_53 ⟨Nat.zero_le _, Nat.zero_le _⟩ (fun v_ w1 H locs hw hP hD hS => ?_)
                obtain ⟨rfl, rfl⟩ := hw
                have hP : va_P G vwCl (wM C b σ (x_h ρ (hsS σ 3 (hsS σ 2 (hsS σ 1 (hsS σ 0 (hsT σ))))))) H := hP
                have hD : va_D A (wM C b σ (x_h ρ (hsS σ 3 (hsS σ 2 (hsS σ 1 (hsS σ 0 (hsT σ))))))) := hD
                refine W.eq (g2 := F0 m 56 ls []) rfl ?_
                refine lv_iinc (v := 4) (lv' := [(1, .int 4), (0, .ref (b 0))]) hx hb dX4_digest_56 hl (k := 0) rfl (by decide) (by decide) rfl (fun ls hl => ?_)
                refine lv_goto (tgt := 46) hx hb dX4_digest_59 (by decide) ?_
                refine lv_iload_n hx hb dX4_digest_46 rfl (lv_at hl 0 rfl) ?_
                refine lv_iconst (v := 4) hx hb dX4_digest_47 (by decide) ?_
                refine ic_ge (tgt := 62) hx hb dX4_digest_48 (by decide) (fun c_6 => ?_) (fun c_6 => ?_)
                · skip
                  refine lv_aload_n hx hb dX4_digest_62 rfl (lv_at hl 1 rfl) ?_
                  refine lv_aload_n hx hb dX4_digest_63 rfl (lv_at hl 1 rfl) ?_
                  refine lv_iconst (v := 0) hx hb dX4_digest_64 (by decide) ?_
                  refine lv_iconst (v := 1) hx hb dX4_digest_65 (by decide) ?_
                  refine rd_callV (As := [.int 0, .int 1]) (rest := [.ref (b 0)]) ⟨hx, hb, hml, hown, hts⟩ (m_carT l G C b σ (x_h ρ (hsS σ 3 (hsS σ 2 (hsS σ 1 (hsS σ 0 (hsT σ)))))) hI (i := 0) (j := 1) (by decide) (by decide)) (cwV 2 hts gX4_digest_X4_cargoTold rfl rfl rfl (by decide +kernel) ⟨Nat.le_of_ble_eq_true rfl, Nat.le_of_ble_eq_true rfl⟩) hK hN hP (0) 4 wM_e0 rfl rfl rfl hl.1 rfl (Nat.le_of_ble_eq_true rfl) dX4_digest_66 ⟨Nat.zero_le _, Nat.zero_le _⟩ ?_
                  refine wr_callV (As := [.long (tCargo σ 0 1)]) (rest := []) ⟨hx, hb, hml, hown, hts⟩ (m_mix l G C b σ (x_h ρ (hsS σ 3 (hsS σ 2 (hsS σ 1 (hsS σ 0 (hsT σ)))))) (tCargo σ 0 1)) (cwV 1 hts gX4_digest_X4_mix rfl rfl rfl (by decide +kernel) ⟨Nat.le_of_ble_eq_true rfl, Nat.le_of_ble_eq_true rfl⟩) hK hN hP hD hS hA (0) 4 wM_e0 rfl rfl rfl hl.1 rfl (Nat.le_of_ble_eq_true rfl) dX4_digest_69 ⟨Nat.zero_le _, Nat.zero_le _⟩ (fun v_ w1 H locs hw hP hD hS => ?_)
                  obtain ⟨rfl, rfl⟩ := hw
                  have hP : va_P G vwCl (wM C b σ (x_h ρ (hsO (hsS σ 3 (hsS σ 2 (hsS σ 1 (hsS σ 0 (hsT σ))))) (tCargo σ 0 1)))) H := hP
                  have hD : va_D A (wM C b σ (x_h ρ (hsO (hsS σ 3 (hsS σ 2 (hsS σ 1 (hsS σ 0 (hsT σ))))) (tCargo σ 0 1)))) := hD
                  refine W.eq (g2 := F0 m 72 ls []) rfl ?_
                  refine lv_aload_n hx hb dX4_digest_72 rfl (lv_at hl 1 rfl) ?_
                  refine lv_aload_n hx hb dX4_digest_73 rfl (lv_at hl 1 rfl) ?_
                  refine lv_iconst (v := 0) hx hb dX4_digest_74 (by decide) ?_
                  refine lv_iconst (v := 1) hx hb dX4_digest_75 (by decide) ?_
                  refine rd_callV (As := [.int 0, .int 1]) (rest := [.ref (b 0)]) ⟨hx, hb, hml, hown, hts⟩ (m_lowT l G C b σ (x_h ρ (hsO (hsS σ 3 (hsS σ 2 (hsS σ 1 (hsS σ 0 (hsT σ))))) (tCargo σ 0 1))) hI (i := 0) (j := 1) (by decide) (by decide)) (cwV 2 hts gX4_digest_X4_lowTold rfl rfl rfl (by decide +kernel) ⟨Nat.le_of_ble_eq_true rfl, Nat.le_of_ble_eq_true rfl⟩) hK hN hP (0) 4 wM_e0 rfl rfl rfl hl.1 rfl (Nat.le_of_ble_eq_true rfl) dX4_digest_76 ⟨Nat.zero_le _, Nat.zero_le _⟩ ?_
                  refine wr_callV (As := [.long (tLow σ 0 1)]) (rest := []) ⟨hx, hb, hml, hown, hts⟩ (m_mix l G C b σ (x_h ρ (hsO (hsS σ 3 (hsS σ 2 (hsS σ 1 (hsS σ 0 (hsT σ))))) (tCargo σ 0 1))) (tLow σ 0 1)) (cwV 1 hts gX4_digest_X4_mix rfl rfl rfl (by decide +kernel) ⟨Nat.le_of_ble_eq_true rfl, Nat.le_of_ble_eq_true rfl⟩) hK hN hP hD hS hA (0) 4 wM_e0 rfl rfl rfl hl.1 rfl (Nat.le_of_ble_eq_true rfl) dX4_digest_79 ⟨Nat.zero_le _, Nat.zero_le _⟩ (fun v_ w1 H locs hw hP hD hS => ?_)
                  obtain ⟨rfl, rfl⟩ := hw
                  have hP : va_P G vwCl (wM C b σ (x_h ρ (hsO (hsO (hsS σ 3 (hsS σ 2 (hsS σ 1 (hsS σ 0 (hsT σ))))) (tCargo σ 0 1)) (tLow σ 0 1)))) H := hP
                  have hD : va_D A (wM C b σ (x_h ρ (hsO (hsO (hsS σ 3 (hsS σ 2 (hsS σ 1 (hsS σ 0 (hsT σ))))) (tCargo σ 0 1)) (tLow σ 0 1)))) := hD
                  refine W.eq (g2 := F0 m 82 ls []) rfl ?_
                  refine lv_aload_n hx hb dX4_digest_82 rfl (lv_at hl 1 rfl) ?_
                  refine lv_aload_n hx hb dX4_digest_83 rfl (lv_at hl 1 rfl) ?_
                  refine lv_iconst (v := 0) hx hb dX4_digest_84 (by decide) ?_
                  refine lv_iconst (v := 1) hx hb dX4_digest_85 (by decide) ?_
                  refine rd_callV (As := [.int 0, .int 1]) (rest := [.ref (b 0)]) ⟨hx, hb, hml, hown, hts⟩ (m_highT l G C b σ (x_h ρ (hsO (hsO (hsS σ 3 (hsS σ 2 (hsS σ 1 (hsS σ 0 (hsT σ))))) (tCargo σ 0 1)) (tLow σ 0 1))) hI (i := 0) (j := 1) (by decide) (by decide)) (cwV 2 hts gX4_digest_X4_highTold rfl rfl rfl (by decide +kernel) ⟨Nat.le_of_ble_eq_true rfl, Nat.le_of_ble_eq_true rfl⟩) hK hN hP (0) 4 wM_e0 rfl rfl rfl hl.1 rfl (Nat.le_of_ble_eq_true rfl) dX4_digest_86 ⟨Nat.zero_le _, Nat.zero_le _⟩ ?_
                  refine wr_callV (As := [.long (tHigh σ 0 1)]) (rest := []) ⟨hx, hb, hml, hown, hts⟩ (m_mix l G C b σ (x_h ρ (hsO (hsO (hsS σ 3 (hsS σ 2 (hsS σ 1 (hsS σ 0 (hsT σ))))) (tCargo σ 0 1)) (tLow σ 0 1))) (tHigh σ 0 1)) (cwV 1 hts gX4_digest_X4_mix rfl rfl rfl (by decide +kernel) ⟨Nat.le_of_ble_eq_true rfl, Nat.le_of_ble_eq_true rfl⟩) hK hN hP hD hS hA (0) 4 wM_e0 rfl rfl rfl hl.1 rfl (Nat.le_of_ble_eq_true rfl) dX4_digest_89 ⟨Nat.zero_le _, Nat.zero_le _⟩ (fun v_ w1 H locs hw hP hD hS => ?_)
                  obtain ⟨rfl, rfl⟩ := hw
                  have hP : va_P G vwCl (wM C b σ (x_h ρ (hsO (hsO (hsO (hsS σ 3 (hsS σ 2 (hsS σ 1 (hsS σ 0 (hsT σ))))) (tCargo σ 0 1)) (tLow σ 0 1)) (tHigh σ 0 1)))) H := hP
                  have hD : va_D A (wM C b σ (x_h ρ (hsO (hsO (hsO (hsS σ 3 (hsS σ 2 (hsS σ 1 (hsS σ 0 (hsT σ))))) (tCargo σ 0 1)) (tLow σ 0 1)) (tHigh σ 0 1)))) := hD
                  refine W.eq (g2 := F0 m 92 ls []) rfl ?_
                  refine lv_aload_n hx hb dX4_digest_92 rfl (lv_at hl 1 rfl) ?_
                  refine lv_aload_n hx hb dX4_digest_93 rfl (lv_at hl 1 rfl) ?_
                  refine rd_callV (As := []) (rest := [.ref (b 0)]) ⟨hx, hb, hml, hown, hts⟩ (m_best l G C b σ (x_h ρ (hsO (hsO (hsO (hsS σ 3 (hsS σ 2 (hsS σ 1 (hsS σ 0 (hsT σ))))) (tCargo σ 0 1)) (tLow σ 0 1)) (tHigh σ 0 1))) hI) (cwV 0 hts gX4_digest_X4_heaviestNow rfl rfl rfl (by decide +kernel) ⟨Nat.le_of_ble_eq_true rfl, Nat.le_of_ble_eq_true rfl⟩) hK hN hP (0) 4 wM_e0 rfl rfl rfl hl.1 rfl (Nat.le_of_ble_eq_true rfl) dX4_digest_94 ⟨Nat.zero_le _, Nat.zero_le _⟩ ?_
                  refine wr_callV (As := [.long (aHeaviest σ)]) (rest := []) ⟨hx, hb, hml, hown, hts⟩ (m_mix l G C b σ (x_h ρ (hsO (hsO (hsO (hsS σ 3 (hsS σ 2 (hsS σ 1 (hsS σ 0 (hsT σ))))) (tCargo σ 0 1)) (tLow σ 0 1)) (tHigh σ 0 1))) (aHeaviest σ)) (cwV 1 hts gX4_digest_X4_mix rfl rfl rfl (by decide +kernel) ⟨Nat.le_of_ble_eq_true rfl, Nat.le_of_ble_eq_true rfl⟩) hK hN hP hD hS hA (0) 4 wM_e0 rfl rfl rfl hl.1 rfl (Nat.le_of_ble_eq_true rfl) dX4_digest_97 ⟨Nat.zero_le _, Nat.zero_le _⟩ (fun v_ w1 H locs hw hP hD hS => ?_)
                  obtain ⟨rfl, rfl⟩ := hw
                  have hP : va_P G vwCl (wM C b σ (x_h ρ (hsO (hsO (hsO (hsO (hsS σ 3 (hsS σ 2 (hsS σ 1 (hsS σ 0 (hsT σ))))) (tCargo σ 0 1)) (tLow σ 0 1)) (tHigh σ 0 1)) (aHeaviest σ)))) H := hP
                  have hD : va_D A (wM C b σ (x_h ρ (hsO (hsO (hsO (hsO (hsS σ 3 (hsS σ 2 (hsS σ 1 (hsS σ 0 (hsT σ))))) (tCargo σ 0 1)) (tLow σ 0 1)) (tHigh σ 0 1)) (aHeaviest σ)))) := hD
                  refine W.eq (g2 := F0 m 100 ls []) rfl ?_
                  refine lv_aload_n hx hb dX4_digest_100 rfl (lv_at hl 1 rfl) ?_
                  refine lv_aload_n hx hb dX4_digest_101 rfl (lv_at hl 1 rfl) ?_
                  refine va_get (D := G) (ci := 4) (v := .long (g_len σ)) (C := RX4) (T := TX4) (N := 13) hx hb hts hX4 hown hK hP (0) wM_e0 rfl 7 (by decide) (hts (.fieldLink RX4 28 "DraftSurveyModel" "length" "J") (by decide +kernel)) (fun _ h9 => h9) rfl dX4_digest_102 ?_
                  refine wr_callV (As := [.long (g_len σ)]) (rest := []) ⟨hx, hb, hml, hown, hts⟩ (m_mix l G C b σ (x_h ρ (hsO (hsO (hsO (hsO (hsS σ 3 (hsS σ 2 (hsS σ 1 (hsS σ 0 (hsT σ))))) (tCargo σ 0 1)) (tLow σ 0 1)) (tHigh σ 0 1)) (aHeaviest σ))) (g_len σ)) (cwV 1 hts gX4_digest_X4_mix rfl rfl rfl (by decide +kernel) ⟨Nat.le_of_ble_eq_true rfl, Nat.le_of_ble_eq_true rfl⟩) hK hN hP hD hS hA (0) 4 wM_e0 rfl rfl rfl hl.1 rfl (Nat.le_of_ble_eq_true rfl) dX4_digest_105 ⟨Nat.zero_le _, Nat.zero_le _⟩ (fun v_ w1 H locs hw hP hD hS => ?_)
                  obtain ⟨rfl, rfl⟩ := hw
                  have hP : va_P G vwCl (wM C b σ (x_h ρ (hsO (hsO (hsO (hsO (hsO (hsS σ 3 (hsS σ 2 (hsS σ 1 (hsS σ 0 (hsT σ))))) (tCargo σ 0 1)) (tLow σ 0 1)) (tHigh σ 0 1)) (aHeaviest σ)) (g_len σ)))) H := hP
                  have hD : va_D A (wM C b σ (x_h ρ (hsO (hsO (hsO (hsO (hsO (hsS σ 3 (hsS σ 2 (hsS σ 1 (hsS σ 0 (hsT σ))))) (tCargo σ 0 1)) (tLow σ 0 1)) (tHigh σ 0 1)) (aHeaviest σ)) (g_len σ)))) := hD
                  refine W.eq (g2 := F0 m 108 ls []) rfl ?_
                  refine lv_aload_n hx hb dX4_digest_108 rfl (lv_at hl 1 rfl) ?_
                  refine lv_aload_n hx hb dX4_digest_109 rfl (lv_at hl 1 rfl) ?_
                  refine va_get (D := G) (ci := 4) (v := .long (g_mar σ)) (C := RX4) (T := TX4) (N := 13) hx hb hts hX4 hown hK hP (0) wM_e0 rfl 8 (by decide) (hts (.fieldLink RX4 118 "DraftSurveyModel" "margin" "J") (by decide +kernel)) (fun _ h9 => h9) rfl dX4_digest_110 ?_
                  refine wr_callV (As := [.long (g_mar σ)]) (rest := []) ⟨hx, hb, hml, hown, hts⟩ (m_mix l G C b σ (x_h ρ (hsO (hsO (hsO (hsO (hsO (hsS σ 3 (hsS σ 2 (hsS σ 1 (hsS σ 0 (hsT σ))))) (tCargo σ 0 1)) (tLow σ 0 1)) (tHigh σ 0 1)) (aHeaviest σ)) (g_len σ))) (g_mar σ)) (cwV 1 hts gX4_digest_X4_mix rfl rfl rfl (by decide +kernel) ⟨Nat.le_of_ble_eq_true rfl, Nat.le_of_ble_eq_true rfl⟩) hK hN hP hD hS hA (0) 4 wM_e0 rfl rfl rfl hl.1 rfl (Nat.le_of_ble_eq_true rfl) dX4_digest_113 ⟨Nat.zero_le _, Nat.zero_le _⟩ (fun v_ w1 H locs hw hP hD hS => ?_)
                  obtain ⟨rfl, rfl⟩ := hw
                  have hP : va_P G vwCl (wM C b σ (x_h ρ (hsO (hsO (hsO (hsO (hsO (hsO (hsS σ 3 (hsS σ 2 (hsS σ 1 (hsS σ 0 (hsT σ))))) (tCargo σ 0 1)) (tLow σ 0 1)) (tHigh σ 0 1)) (aHeaviest σ)) (g_len σ)) (g_mar σ)))) H := hP
                  have hD : va_D A (wM C b σ (x_h ρ (hsO (hsO (hsO (hsO (hsO (hsO (hsS σ 3 (hsS σ 2 (hsS σ 1 (hsS σ 0 (hsT σ))))) (tCargo σ 0 1)) (tLow σ 0 1)) (tHigh σ 0 1)) (aHeaviest σ)) (g_len σ)) (g_mar σ)))) := hD
                  refine W.eq (g2 := F0 m 116 ls []) rfl ?_
                  refine lv_aload_n hx hb dX4_digest_116 rfl (lv_at hl 1 rfl) ?_
                  refine lv_aload_n hx hb dX4_digest_117 rfl (lv_at hl 1 rfl) ?_
                  refine va_get (D := G) (ci := 4) (v := .int (nI (g_bl σ))) (C := RX4) (T := TX4) (N := 13) hx hb hts hX4 hown hK hP (0) wM_e0 rfl 0 (by decide) (hts (.fieldLink RX4 47 "DraftSurveyModel" "bufferLength" "I") (by decide +kernel)) (fun _ h9 => h9) rfl dX4_digest_118 ?_
                  refine lv_i2l (v := lN (g_bl σ)) hx hb dX4_digest_121 (nI_l (by omega)) ?_
                  refine wr_callV (As := [.long (lN (g_bl σ))]) (rest := []) ⟨hx, hb, hml, hown, hts⟩ (m_mix l G C b σ (x_h ρ (hsO (hsO (hsO (hsO (hsO (hsO (hsS σ 3 (hsS σ 2 (hsS σ 1 (hsS σ 0 (hsT σ))))) (tCargo σ 0 1)) (tLow σ 0 1)) (tHigh σ 0 1)) (aHeaviest σ)) (g_len σ)) (g_mar σ))) (lN (g_bl σ))) (cwV 1 hts gX4_digest_X4_mix rfl rfl rfl (by decide +kernel) ⟨Nat.le_of_ble_eq_true rfl, Nat.le_of_ble_eq_true rfl⟩) hK hN hP hD hS hA (0) 4 wM_e0 rfl rfl rfl hl.1 rfl (Nat.le_of_ble_eq_true rfl) dX4_digest_122 ⟨Nat.zero_le _, Nat.zero_le _⟩ (fun v_ w1 H locs hw hP hD hS => ?_)
                  obtain ⟨rfl, rfl⟩ := hw
                  have hP : va_P G vwCl (wM C b σ (x_h ρ (hsO (hsO (hsO (hsO (hsO (hsO (hsO (hsS σ 3 (hsS σ 2 (hsS σ 1 (hsS σ 0 (hsT σ))))) (tCargo σ 0 1)) (tLow σ 0 1)) (tHigh σ 0 1)) (aHeaviest σ)) (g_len σ)) (g_mar σ)) (lN (g_bl σ))))) H := hP
                  have hD : va_D A (wM C b σ (x_h ρ (hsO (hsO (hsO (hsO (hsO (hsO (hsO (hsS σ 3 (hsS σ 2 (hsS σ 1 (hsS σ 0 (hsT σ))))) (tCargo σ 0 1)) (tLow σ 0 1)) (tHigh σ 0 1)) (aHeaviest σ)) (g_len σ)) (g_mar σ)) (lN (g_bl σ))))) := hD
                  refine W.eq (g2 := F0 m 125 ls []) rfl ?_
                  have hP : va_P G vwCl (wM C b σ (x_h ρ (hsO (hsE σ (hsS σ 3 (hsS σ 2 (hsS σ 1 (hsS σ 0 (hsT σ)))))) (lN (g_bl σ))))) H := hP
                  have hD : va_D A (wM C b σ (x_h ρ (hsO (hsE σ (hsS σ 3 (hsS σ 2 (hsS σ 1 (hsS σ 0 (hsT σ)))))) (lN (g_bl σ))))) := hD
                  refine lv_iconst (v := 0) hx hb dX4_digest_125 (by decide) ?_
                  refine lv_istore_n (lv' := [(1, .int 0), (0, .ref (b 0))]) hx hb dX4_digest_126 rfl hl (by decide) rfl (fun ls hl => ?_)
                  have key127 : ∀ (n_ : Nat) (k : Nat) (hv : Int64), g_bl σ + 1 ≤ k + n_ → k ≤ g_bl σ → hv = hsL (fun k => (g_bf σ k).toInt64) (hsO (hsE σ (hsS σ 3 (hsS σ 2 (hsS σ 1 (hsS σ 0 (hsT σ)))))) (lN (g_bl σ))) k → ∀ (H : Heap) (locs : List Loc), va_P G vwCl (wM C b σ (x_h ρ hv)) H → va_D A (wM C b σ (x_h ρ hv)) → va_S A s.heap H locs → ∀ ls : Array Slot, lv_has ls 2 [(0, .ref (b 0)), (1, .int (nI k))] → W p l e (headSpec wsX4_digest ({ frames := 8, cells := 0, slots := 0, locals := 205 } : Room)).room s m ([.ref (b 0)] : List Value).toArray below meth c H locs 0 0 (MQ below (QW G (wM C b σ ρ) s.heap.size (pM C b (aDigest σ) σ)) ([.ref (b 0)] : List Value).toArray s 0 0 A) (F0 m 127 ls []) := by
                    intro n_
                    induction n_ with
                    | zero =>
                      intro k hv g_0 g_1 g_2 H locs hP hD hS ls hl
                      exact absurd g_0 (by omega)
                    | succ n_ ih =>
                      intro k hv g_0 g_1 g_2 H locs hP hD hS ls hl
                      refine lv_iload_n hx hb dX4_digest_127 rfl (lv_at hl 1 rfl) ?_
                      refine lv_aload_n hx hb dX4_digest_128 rfl (lv_at hl 0 rfl) ?_
                      refine va_get (D := G) (ci := 4) (v := .int (nI (g_bl σ))) (C := RX4) (T := TX4) (N := 13) hx hb hts hX4 hown hK hP (0) wM_e0 rfl 0 (by decide) (hts (.fieldLink RX4 47 "DraftSurveyModel" "bufferLength" "I") (by decide +kernel)) (fun _ h9 => h9) rfl dX4_digest_129 ?_
                      refine ic_ge (tgt := 152) hx hb dX4_digest_132 (by decide) (fun c_7 => ?_) (fun c_7 => ?_)
                      · skip
                        have c_7 : ¬ k < (g_bl σ) := fun z9 => c_7 ((nI_ltI (a := k) (b := (g_bl σ)) (by omega) (by omega)).mpr z9)
                        refine lv_aload_n hx hb dX4_digest_152 rfl (lv_at hl 0 rfl) ?_
                        refine va_get (D := G) (ci := 4) (v := .long hv) (C := RX4) (T := TX4) (N := 13) hx hb hts hX4 hown hK hP (0) wM_e0 rfl 12 (by decide) (hts (.fieldLink RX4 215 "DraftSurveyModel" "h" "J") (by decide +kernel)) (fun _ h9 => h9) rfl dX4_digest_153 ?_
                        refine wr_lret hx hb hr hlocks hAe hP hD hS ?_ dX4_digest_156
                        exact ⟨congrArg (fun z => some (Value.long z)) (by rw [g_2, show k = g_bl σ from by omega]; rfl), x_h ρ hv, rfl⟩
                      · skip
                        have c_7 : k < (g_bl σ) := (nI_ltI (a := k) (b := (g_bl σ)) (by omega) (by omega)).mp c_7
                        refine lv_aload_n hx hb dX4_digest_135 rfl (lv_at hl 0 rfl) ?_
                        refine lv_aload_n hx hb dX4_digest_136 rfl (lv_at hl 0 rfl) ?_
                        refine va_get (D := G) (ci := 4) (v := .ref (b 1)) (C := RX4) (T := TX4) (N := 13) hx hb hts hX4 hown hK hP (0) wM_e0 rfl 1 (by decide) (hts (.fieldLink RX4 7 "DraftSurveyModel" "buffer" "[I") (by decide +kernel)) (fun _ h9 => h9) rfl dX4_digest_137 ?_
                        refine lv_iload_n hx hb dX4_digest_140 rfl (lv_at hl 1 rfl) ?_
                        refine ar_i (k := k) (v := g_bf σ k) hx hb hK hP (1) 0 wM_e1 rfl rfl (by omega) (by decide) rfl dX4_digest_141 ?_
                        refine lv_i2l (v := (g_bf σ k).toInt64) hx hb dX4_digest_142 rfl ?_
                        refine wr_callV (As := [.long ((g_bf σ k).toInt64)]) (rest := []) ⟨hx, hb, hml, hown, hts⟩ (m_mix l G C b σ (x_h ρ hv) ((g_bf σ k).toInt64)) (cwV 1 hts gX4_digest_X4_mix rfl rfl rfl (by decide +kernel) ⟨Nat.le_of_ble_eq_true rfl, Nat.le_of_ble_eq_true rfl⟩) hK hN hP hD hS hA (0) 4 wM_e0 rfl rfl rfl hl.1 rfl (Nat.le_of_ble_eq_true rfl) dX4_digest_143 ⟨Nat.zero_le _, Nat.zero_le _⟩ (fun v_ w1 H locs hw hP hD hS => ?_)
                        obtain ⟨rfl, rfl⟩ := hw
                        have hP : va_P G vwCl (wM C b σ (x_h ρ (hsO hv ((g_bf σ k).toInt64)))) H := hP
                        have hD : va_D A (wM C b σ (x_h ρ (hsO hv ((g_bf σ k).toInt64)))) := hD
                        refine W.eq (g2 := F0 m 146 ls []) rfl ?_
                        refine lv_iinc (v := nI (k + 1)) (lv' := [(1, .int (nI (k + 1))), (0, .ref (b 0))]) hx hb dX4_digest_146 hl (k := 1) rfl (nI_add k 1) (by decide) rfl (fun ls hl => ?_)
                        refine lv_goto (tgt := 127) hx hb dX4_digest_149 (by decide) ?_
                        exact ih (k + 1) (hsO hv ((g_bf σ k).toInt64)) (by omega) (by omega) (by rw [g_2]; rfl) H locs hP hD hS ls (lv_sub hl [1, 0] rfl)
                  exact key127 (g_bl σ + 1) 0 (hsO (hsE σ (hsS σ 3 (hsS σ 2 (hsS σ 1 (hsS σ 0 (hsT σ)))))) (lN (g_bl σ))) (by omega) (Nat.zero_le _) rfl H locs hP hD hS ls (lv_sub hl [1, 0] rfl)
                · skip
                  exact absurd c_6 (by decide)
      · skip
        have c_1 : k < (5 * (g_n σ)) := (nI_ltI (a := k) (b := (5 * (g_n σ))) (by omega) (by omega)).mp c_1
        refine lv_aload_n hx hb dX4_digest_28 rfl (lv_at hl 0 rfl) ?_
        refine lv_aload_n hx hb dX4_digest_29 rfl (lv_at hl 0 rfl) ?_
        refine va_get (D := G) (ci := 4) (v := .ref (b 2)) (C := RX4) (T := TX4) (N := 13) hx hb hts hX4 hown hK hP (0) wM_e0 rfl 3 (by decide) (hts (.fieldLink RX4 13 "DraftSurveyModel" "table" "[J") (by decide +kernel)) (fun _ h9 => h9) rfl dX4_digest_30 ?_
        refine lv_iload_n hx hb dX4_digest_33 rfl (lv_at hl 1 rfl) ?_
        refine ar_l (k := k) (v := g_tb σ k) hx hb hK hP (2) 1 wM_e2 rfl rfl (by omega) (by decide) rfl dX4_digest_34 ?_
        refine wr_callV (As := [.long (g_tb σ k)]) (rest := []) ⟨hx, hb, hml, hown, hts⟩ (m_mix l G C b σ (x_h ρ hv) (g_tb σ k)) (cwV 1 hts gX4_digest_X4_mix rfl rfl rfl (by decide +kernel) ⟨Nat.le_of_ble_eq_true rfl, Nat.le_of_ble_eq_true rfl⟩) hK hN hP hD hS hA (0) 4 wM_e0 rfl rfl rfl hl.1 rfl (Nat.le_of_ble_eq_true rfl) dX4_digest_35 ⟨Nat.zero_le _, Nat.zero_le _⟩ (fun v_ w1 H locs hw hP hD hS => ?_)
        obtain ⟨rfl, rfl⟩ := hw
        have hP : va_P G vwCl (wM C b σ (x_h ρ (hsO hv (g_tb σ k)))) H := hP
        have hD : va_D A (wM C b σ (x_h ρ (hsO hv (g_tb σ k)))) := hD
        refine W.eq (g2 := F0 m 38 ls []) rfl ?_
        refine lv_iinc (v := nI (k + 1)) (lv' := [(1, .int (nI (k + 1))), (0, .ref (b 0))]) hx hb dX4_digest_38 hl (k := 1) rfl (nI_add k 1) (by decide) rfl (fun ls hl => ?_)
        refine lv_goto (tgt := 18) hx hb dX4_digest_41 (by decide) ?_
        exact ih (k + 1) (hsO hv (g_tb σ k)) (by omega) (by omega) (by rw [g_2]; rfl) H locs hP hD hS ls (lv_sub hl [1, 0] rfl)
  exact key18 (5 * g_n σ + 1) 0 (hsO 1759 (lN (g_n σ))) (by omega) (Nat.zero_le _) rfl H locs hP hD hS ls (lv_sub hl [1, 0] rfl)
