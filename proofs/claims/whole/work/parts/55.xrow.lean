set_option maxHeartbeats 4000000 in
set_option maxRecDepth 100000 in
theorem c_error (l : Launch) (G : va_G) (C : Nat → ClassId) (a : Nat → Nat) (σ : SG) (κ : KX) (tG : Nat) (hbl : g_bl σ ≤ 40) : WrG l yX3_errorPosition wsX3_errorPosition ({ frames := 4, cells := 0, slots := 0, locals := 82 } : Room) G (tysC C) tG (wX C a σ κ) [.ref (a 0)] (pX C a (aErr σ) σ) := by
  intro sz
  refine Met.ofW (cc := cX3_errorPosition) (maxL := 1) (ret := (some .long)) (by decide) rfl ?_
  intro p e s m args below meth c s₁ B hml hv
  obtain ⟨rfl, ⟨hsz, hP, hK, hN, hD0⟩, hZ⟩ := hv
  have hx := B.exec
  have hb := B.bytes
  have hr := B.returns
  have hts := atoms_spec (ws := wsX3_errorPosition) B.pre
  have hown : s.vm.findClass RX3 = some m.cls := findClass_of_methodNamed B.named
  have hlocks := B.notSynchronized
  subst hsz
  have hD := hD0.self (sz := s.heap.size)
  generalize hAe : va_A (wX C a σ κ) s.heap.size = A at hD hZ ⊢
  have hA : ∀ q : Nat, s.heap.size ≤ q → A q := fun q h => by rw [← hAe]; exact Or.inr h
  have hS : va_S A s.heap s.heap [] := va_S.rf
  have hP : va_P G vwCl (wX C a σ κ) s.heap := hP
  have hl := lv_entry ([.ref (a 0)]) (n := 1) (Nat.le_of_ble_eq_true rfl)
  rw [lg_entry_eq]
  generalize (lg_sl ([.ref (a 0)]) ++ List.replicate (1 - (lg_sl ([.ref (a 0)])).length) Slot.unset).toArray = ls at hl ⊢
  have hl : lv_has ls 1 [(0, .ref (a 0))] := hl
  refine lv_aload_n hx hb dX3_errorPosition_0 rfl (lv_at hl 0 rfl) ?_
  refine wr_callG (As := []) (rest := []) ⟨hx, hb, hml, hown, hts⟩ (c_readB l G C a σ κ tG hbl) (cwV 0 hts gX3_errorPosition_X3_readBuffer rfl rfl rfl (by decide +kernel) ⟨Nat.le_of_ble_eq_true rfl, Nat.le_of_ble_eq_true rfl⟩) hK hN hP hD hS hA hZ (0) 3 wX_e0 rfl rfl rfl hl.1 rfl (Nat.le_of_ble_eq_true rfl) dX3_errorPosition_1 ⟨Nat.zero_le _, Nat.zero_le _⟩ (fun v_ w1 H locs hw hP hD hS => ?_)
  obtain ⟨rfl, rfl⟩ := hw
  have r_le := rd_le σ (k_nu κ)
  obtain ⟨hp, hd, hg, hm⟩ := rd_ok σ (k_nu κ) hbl
  have r_s := (rd_same σ (k_nu κ)).1
  have r_p := rd_pl σ (k_nu κ)
  have r_d := rd_dg σ (k_nu κ)
  have r_r : whN σ → ∀ j, j < 5 → z_nu (nRun (g_bf σ) 0 (g_bl σ) (n0 (k_nu κ))).2 j = rwN σ j := fun h j hj => rd_row (k_nu κ) h hj
  generalize hR : nRun (g_bf σ) 0 (g_bl σ) (n0 (k_nu κ)) = rr at *
  refine W.eq (g2 := F0 m 4 ls [.int (nI rr.1)]) rfl ?_
  refine lv_i2l (v := lN rr.1) hx hb dX3_errorPosition_4 (nI_l (by omega)) ?_
  refine wr_lret hx hb hr hlocks hAe hP hD hS ?_ dX3_errorPosition_5
  exact ⟨congrArg (fun z => some (Value.long (lN z))) r_s, eK rr.2, rfl⟩

set_option maxHeartbeats 4000000 in
set_option maxRecDepth 100000 in
theorem c_tadd (l : Launch) (G : va_G) (C : Nat → ClassId) (a : Nat → Nat) (σ : SG) (κ : KX) (hn : g_n σ < 10) : WrC l yX2_add wsX2_add ({ frames := 1, cells := 0, slots := 0, locals := 21 } : Room) G (tysC C) (wX C a σ κ) [.ref (a 4), .ref (a 2)] (pE none (wX C a (u_n (u_tb σ (putR (g_tb σ) (g_n σ) (k_nu κ) 5)) (g_n σ + 1)) κ)) := by
  intro sz
  refine Met.ofW (cc := cX2_add) (maxL := 3) (ret := none) (by decide) rfl ?_
  intro p e s m args below meth c s₁ B hml hv
  obtain ⟨rfl, hsz, hP, hK, hN, hD0⟩ := hv
  have hx := B.exec
  have hb := B.bytes
  have hr := B.returns
  have hts := atoms_spec (ws := wsX2_add) B.pre
  have hown : s.vm.findClass RX2 = some m.cls := findClass_of_methodNamed B.named
  have hlocks := B.notSynchronized
  have hX2 : ∀ w ∈ wsX20, w ∈ wsX2_add := by decide +kernel
  subst hsz
  have hD := hD0.self (sz := s.heap.size)
  generalize hAe : va_A (wX C a σ κ) s.heap.size = A at hD ⊢
  have hA : ∀ q : Nat, s.heap.size ≤ q → A q := fun q h => by rw [← hAe]; exact Or.inr h
  have hS : va_S A s.heap s.heap [] := va_S.rf
  have hP : va_P G vwCl (wX C a σ κ) s.heap := hP
  have hl := lv_entry ([.ref (a 4), .ref (a 2)]) (n := 3) (Nat.le_of_ble_eq_true rfl)
  rw [lg_entry_eq]
  generalize (lg_sl ([.ref (a 4), .ref (a 2)]) ++ List.replicate (3 - (lg_sl ([.ref (a 4), .ref (a 2)])).length) Slot.unset).toArray = ls at hl ⊢
  have hl : lv_has ls 3 [(0, .ref (a 4)), (1, .ref (a 2))] := hl
  refine lv_aload_n hx hb dX2_add_0 rfl (lv_at hl 1 rfl) ?_
  refine lv_ifnull hx hb dX2_add_1 ?_
  refine lv_aload_n hx hb dX2_add_4 rfl (lv_at hl 0 rfl) ?_
  refine va_get (D := G) (ci := 2) (v := .int (nI (g_n σ))) (C := RX2) (T := TX2) (N := 2) hx hb hts hX2 hown hK hP (4) wX_e4 rfl 1 (by decide) (hts (.fieldLink RX2 15 "DraftSurvey$Table" "rows" "I") (by decide +kernel)) (fun _ h9 => h9) rfl dX2_add_5 ?_
  refine lv_if_lt (tgt := 20) hx hb dX2_add_8 (by decide) (fun c_1 => ?_) (fun c_1 => ?_)
  · skip
    have c_1 : (g_n σ) < 0 := (nI_ltI (a := (g_n σ)) (b := 0) (by omega) (by omega)).mp c_1
    exact (show False by omega).elim
  · skip
    have c_1 : ¬ (g_n σ) < 0 := fun z9 => c_1 ((nI_ltI (a := (g_n σ)) (b := 0) (by omega) (by omega)).mpr z9)
    refine lv_aload_n hx hb dX2_add_11 rfl (lv_at hl 0 rfl) ?_
    refine va_get (D := G) (ci := 2) (v := .int (nI (g_n σ))) (C := RX2) (T := TX2) (N := 2) hx hb hts hX2 hown hK hP (4) wX_e4 rfl 1 (by decide) (hts (.fieldLink RX2 15 "DraftSurvey$Table" "rows" "I") (by decide +kernel)) (fun _ h9 => h9) rfl dX2_add_12 ?_
    refine lv_bipush (v := 10) hx hb dX2_add_15 (by decide) ?_
    refine lv_icmp_lt (tgt := 21) hx hb dX2_add_17 (by decide) (fun c_2 => ?_) (fun c_2 => ?_)
    · skip
      have c_2 : (g_n σ) < 10 := (nI_ltI (a := (g_n σ)) (b := 10) (by omega) (by omega)).mp c_2
      refine lv_iconst (v := 0) hx hb dX2_add_21 (by decide) ?_
      refine lv_istore_n (lv' := [(2, .int 0), (0, .ref (a 4)), (1, .ref (a 2))]) hx hb dX2_add_22 rfl hl (by decide) rfl (fun ls hl => ?_)
      refine lv_iload_n hx hb dX2_add_23 rfl (lv_at hl 0 rfl) ?_
      refine lv_iconst (v := 5) hx hb dX2_add_24 (by decide) ?_
      refine ic_ge (tgt := 52) hx hb dX2_add_25 (by decide) (fun c_3 => ?_) (fun c_3 => ?_)
      · skip
        exact absurd c_3 (by decide)
      · skip
        refine lv_aload_n hx hb dX2_add_28 rfl (lv_at hl 1 rfl) ?_
        refine va_get (D := G) (ci := 2) (v := .ref (a 5)) (C := RX2) (T := TX2) (N := 2) hx hb hts hX2 hown hK hP (4) wX_e4 rfl 0 (by decide) (hts (.fieldLink RX2 9 "DraftSurvey$Table" "cells" "[J") (by decide +kernel)) (fun _ h9 => h9) rfl dX2_add_29 ?_
        refine lv_aload_n hx hb dX2_add_32 rfl (lv_at hl 1 rfl) ?_
        refine va_get (D := G) (ci := 2) (v := .int (nI (g_n σ))) (C := RX2) (T := TX2) (N := 2) hx hb hts hX2 hown hK hP (4) wX_e4 rfl 1 (by decide) (hts (.fieldLink RX2 15 "DraftSurvey$Table" "rows" "I") (by decide +kernel)) (fun _ h9 => h9) rfl dX2_add_33 ?_
        refine lv_iconst (v := 5) hx hb dX2_add_36 (by decide) ?_
        refine lv_imul hx hb dX2_add_37 ?_
        refine tp_i (v := nI (5 * (g_n σ))) (by rw [show (5 : Int32) = nI 5 from rfl, pk_mul, Nat.mul_comm]) ?_
        refine lv_iload_n hx hb dX2_add_38 rfl (lv_at hl 0 rfl) ?_
        refine lv_iadd hx hb dX2_add_39 ?_
        refine tp_i (v := nI ((5 * (g_n σ)) + 0)) (nI_add (5 * (g_n σ)) 0) ?_
        refine lv_aload_n hx hb dX2_add_40 rfl (lv_at hl 2 rfl) ?_
        refine lv_iload_n hx hb dX2_add_41 rfl (lv_at hl 0 rfl) ?_
        refine rd_callV (As := [.int 0]) (rest := [.int (nI ((5 * (g_n σ)) + 0)), .ref (a 5)]) ⟨hx, hb, hml, hown, hts⟩ (c_numAt l G C a σ κ (q := 0) (by decide)) (cwV 1 hts gX2_add_X0_numberAt rfl rfl rfl (by decide +kernel) ⟨Nat.le_of_ble_eq_true rfl, Nat.le_of_ble_eq_true rfl⟩) hK hN hP (2) 0 wX_e2 rfl rfl rfl hl.1 rfl (Nat.le_of_ble_eq_true rfl) dX2_add_42 ⟨Nat.zero_le _, Nat.zero_le _⟩ ?_
        refine as_l (k := ((5 * (g_n σ)) + 0)) hx hb hK hP hD hS (5) 1 wX_e5 rfl rfl (by omega) (by decide) dX2_add_45 (fun H locs hP hD hS => ?_)
        have hP : va_P G vwCl (wX C a (u_tb σ (vp_updL (g_tb σ) ((5 * (g_n σ)) + 0) (k_nu κ 0))) κ) H := hP
        have hD : va_D A (wX C a (u_tb σ (vp_updL (g_tb σ) ((5 * (g_n σ)) + 0) (k_nu κ 0))) κ) := hD
        refine lv_iinc (v := 1) (lv' := [(2, .int 1), (0, .ref (a 4)), (1, .ref (a 2))]) hx hb dX2_add_46 hl (k := 0) rfl (by decide) (by decide) rfl (fun ls hl => ?_)
        refine lv_goto (tgt := 23) hx hb dX2_add_49 (by decide) ?_
        refine lv_iload_n hx hb dX2_add_23 rfl (lv_at hl 0 rfl) ?_
        refine lv_iconst (v := 5) hx hb dX2_add_24 (by decide) ?_
        refine ic_ge (tgt := 52) hx hb dX2_add_25 (by decide) (fun c_4 => ?_) (fun c_4 => ?_)
        · skip
          exact absurd c_4 (by decide)
        · skip
          refine lv_aload_n hx hb dX2_add_28 rfl (lv_at hl 1 rfl) ?_
          refine va_get (D := G) (ci := 2) (v := .ref (a 5)) (C := RX2) (T := TX2) (N := 2) hx hb hts hX2 hown hK hP (4) wX_e4 rfl 0 (by decide) (hts (.fieldLink RX2 9 "DraftSurvey$Table" "cells" "[J") (by decide +kernel)) (fun _ h9 => h9) rfl dX2_add_29 ?_
          refine lv_aload_n hx hb dX2_add_32 rfl (lv_at hl 1 rfl) ?_
          refine va_get (D := G) (ci := 2) (v := .int (nI (g_n σ))) (C := RX2) (T := TX2) (N := 2) hx hb hts hX2 hown hK hP (4) wX_e4 rfl 1 (by decide) (hts (.fieldLink RX2 15 "DraftSurvey$Table" "rows" "I") (by decide +kernel)) (fun _ h9 => h9) rfl dX2_add_33 ?_
          refine lv_iconst (v := 5) hx hb dX2_add_36 (by decide) ?_
          refine lv_imul hx hb dX2_add_37 ?_
          refine tp_i (v := nI (5 * (g_n σ))) (by rw [show (5 : Int32) = nI 5 from rfl, pk_mul, Nat.mul_comm]) ?_
          refine lv_iload_n hx hb dX2_add_38 rfl (lv_at hl 0 rfl) ?_
          refine lv_iadd hx hb dX2_add_39 ?_
          refine tp_i (v := nI ((5 * (g_n σ)) + 1)) (nI_add (5 * (g_n σ)) 1) ?_
          refine lv_aload_n hx hb dX2_add_40 rfl (lv_at hl 2 rfl) ?_
          refine lv_iload_n hx hb dX2_add_41 rfl (lv_at hl 0 rfl) ?_
          refine rd_callV (As := [.int 1]) (rest := [.int (nI ((5 * (g_n σ)) + 1)), .ref (a 5)]) ⟨hx, hb, hml, hown, hts⟩ (c_numAt l G C a (u_tb σ (vp_updL (g_tb σ) ((5 * (g_n σ)) + 0) (k_nu κ 0))) κ (q := 1) (by decide)) (cwV 1 hts gX2_add_X0_numberAt rfl rfl rfl (by decide +kernel) ⟨Nat.le_of_ble_eq_true rfl, Nat.le_of_ble_eq_true rfl⟩) hK hN hP (2) 0 wX_e2 rfl rfl rfl hl.1 rfl (Nat.le_of_ble_eq_true rfl) dX2_add_42 ⟨Nat.zero_le _, Nat.zero_le _⟩ ?_
          refine as_l (k := ((5 * (g_n σ)) + 1)) hx hb hK hP hD hS (5) 1 wX_e5 rfl rfl (by omega) (by decide) dX2_add_45 (fun H locs hP hD hS => ?_)
          have hP : va_P G vwCl (wX C a (u_tb (u_tb σ (vp_updL (g_tb σ) ((5 * (g_n σ)) + 0) (k_nu κ 0))) (vp_updL (vp_updL (g_tb σ) ((5 * (g_n σ)) + 0) (k_nu κ 0)) ((5 * (g_n σ)) + 1) (k_nu κ 1))) κ) H := hP
          have hD : va_D A (wX C a (u_tb (u_tb σ (vp_updL (g_tb σ) ((5 * (g_n σ)) + 0) (k_nu κ 0))) (vp_updL (vp_updL (g_tb σ) ((5 * (g_n σ)) + 0) (k_nu κ 0)) ((5 * (g_n σ)) + 1) (k_nu κ 1))) κ) := hD
          refine lv_iinc (v := 2) (lv' := [(2, .int 2), (0, .ref (a 4)), (1, .ref (a 2))]) hx hb dX2_add_46 hl (k := 0) rfl (by decide) (by decide) rfl (fun ls hl => ?_)
          refine lv_goto (tgt := 23) hx hb dX2_add_49 (by decide) ?_
          refine lv_iload_n hx hb dX2_add_23 rfl (lv_at hl 0 rfl) ?_
          refine lv_iconst (v := 5) hx hb dX2_add_24 (by decide) ?_
          refine ic_ge (tgt := 52) hx hb dX2_add_25 (by decide) (fun c_5 => ?_) (fun c_5 => ?_)
          · skip
            exact absurd c_5 (by decide)
          · skip
            refine lv_aload_n hx hb dX2_add_28 rfl (lv_at hl 1 rfl) ?_
            refine va_get (D := G) (ci := 2) (v := .ref (a 5)) (C := RX2) (T := TX2) (N := 2) hx hb hts hX2 hown hK hP (4) wX_e4 rfl 0 (by decide) (hts (.fieldLink RX2 9 "DraftSurvey$Table" "cells" "[J") (by decide +kernel)) (fun _ h9 => h9) rfl dX2_add_29 ?_
            refine lv_aload_n hx hb dX2_add_32 rfl (lv_at hl 1 rfl) ?_
            refine va_get (D := G) (ci := 2) (v := .int (nI (g_n σ))) (C := RX2) (T := TX2) (N := 2) hx hb hts hX2 hown hK hP (4) wX_e4 rfl 1 (by decide) (hts (.fieldLink RX2 15 "DraftSurvey$Table" "rows" "I") (by decide +kernel)) (fun _ h9 => h9) rfl dX2_add_33 ?_
            refine lv_iconst (v := 5) hx hb dX2_add_36 (by decide) ?_
            refine lv_imul hx hb dX2_add_37 ?_
            refine tp_i (v := nI (5 * (g_n σ))) (by rw [show (5 : Int32) = nI 5 from rfl, pk_mul, Nat.mul_comm]) ?_
            refine lv_iload_n hx hb dX2_add_38 rfl (lv_at hl 0 rfl) ?_
            refine lv_iadd hx hb dX2_add_39 ?_
            refine tp_i (v := nI ((5 * (g_n σ)) + 2)) (nI_add (5 * (g_n σ)) 2) ?_
            refine lv_aload_n hx hb dX2_add_40 rfl (lv_at hl 2 rfl) ?_
            refine lv_iload_n hx hb dX2_add_41 rfl (lv_at hl 0 rfl) ?_
            refine rd_callV (As := [.int 2]) (rest := [.int (nI ((5 * (g_n σ)) + 2)), .ref (a 5)]) ⟨hx, hb, hml, hown, hts⟩ (c_numAt l G C a (u_tb (u_tb σ (vp_updL (g_tb σ) ((5 * (g_n σ)) + 0) (k_nu κ 0))) (vp_updL (vp_updL (g_tb σ) ((5 * (g_n σ)) + 0) (k_nu κ 0)) ((5 * (g_n σ)) + 1) (k_nu κ 1))) κ (q := 2) (by decide)) (cwV 1 hts gX2_add_X0_numberAt rfl rfl rfl (by decide +kernel) ⟨Nat.le_of_ble_eq_true rfl, Nat.le_of_ble_eq_true rfl⟩) hK hN hP (2) 0 wX_e2 rfl rfl rfl hl.1 rfl (Nat.le_of_ble_eq_true rfl) dX2_add_42 ⟨Nat.zero_le _, Nat.zero_le _⟩ ?_
            refine as_l (k := ((5 * (g_n σ)) + 2)) hx hb hK hP hD hS (5) 1 wX_e5 rfl rfl (by omega) (by decide) dX2_add_45 (fun H locs hP hD hS => ?_)
            have hP : va_P G vwCl (wX C a (u_tb (u_tb (u_tb σ (vp_updL (g_tb σ) ((5 * (g_n σ)) + 0) (k_nu κ 0))) (vp_updL (vp_updL (g_tb σ) ((5 * (g_n σ)) + 0) (k_nu κ 0)) ((5 * (g_n σ)) + 1) (k_nu κ 1))) (vp_updL (vp_updL (vp_updL (g_tb σ) ((5 * (g_n σ)) + 0) (k_nu κ 0)) ((5 * (g_n σ)) + 1) (k_nu κ 1)) ((5 * (g_n σ)) + 2) (k_nu κ 2))) κ) H := hP
            have hD : va_D A (wX C a (u_tb (u_tb (u_tb σ (vp_updL (g_tb σ) ((5 * (g_n σ)) + 0) (k_nu κ 0))) (vp_updL (vp_updL (g_tb σ) ((5 * (g_n σ)) + 0) (k_nu κ 0)) ((5 * (g_n σ)) + 1) (k_nu κ 1))) (vp_updL (vp_updL (vp_updL (g_tb σ) ((5 * (g_n σ)) + 0) (k_nu κ 0)) ((5 * (g_n σ)) + 1) (k_nu κ 1)) ((5 * (g_n σ)) + 2) (k_nu κ 2))) κ) := hD
            refine lv_iinc (v := 3) (lv' := [(2, .int 3), (0, .ref (a 4)), (1, .ref (a 2))]) hx hb dX2_add_46 hl (k := 0) rfl (by decide) (by decide) rfl (fun ls hl => ?_)
            refine lv_goto (tgt := 23) hx hb dX2_add_49 (by decide) ?_
            refine lv_iload_n hx hb dX2_add_23 rfl (lv_at hl 0 rfl) ?_
            refine lv_iconst (v := 5) hx hb dX2_add_24 (by decide) ?_
            refine ic_ge (tgt := 52) hx hb dX2_add_25 (by decide) (fun c_6 => ?_) (fun c_6 => ?_)
            · skip
              exact absurd c_6 (by decide)
            · skip
              refine lv_aload_n hx hb dX2_add_28 rfl (lv_at hl 1 rfl) ?_
              refine va_get (D := G) (ci := 2) (v := .ref (a 5)) (C := RX2) (T := TX2) (N := 2) hx hb hts hX2 hown hK hP (4) wX_e4 rfl 0 (by decide) (hts (.fieldLink RX2 9 "DraftSurvey$Table" "cells" "[J") (by decide +kernel)) (fun _ h9 => h9) rfl dX2_add_29 ?_
              refine lv_aload_n hx hb dX2_add_32 rfl (lv_at hl 1 rfl) ?_
              refine va_get (D := G) (ci := 2) (v := .int (nI (g_n σ))) (C := RX2) (T := TX2) (N := 2) hx hb hts hX2 hown hK hP (4) wX_e4 rfl 1 (by decide) (hts (.fieldLink RX2 15 "DraftSurvey$Table" "rows" "I") (by decide +kernel)) (fun _ h9 => h9) rfl dX2_add_33 ?_
              refine lv_iconst (v := 5) hx hb dX2_add_36 (by decide) ?_
              refine lv_imul hx hb dX2_add_37 ?_
              refine tp_i (v := nI (5 * (g_n σ))) (by rw [show (5 : Int32) = nI 5 from rfl, pk_mul, Nat.mul_comm]) ?_
              refine lv_iload_n hx hb dX2_add_38 rfl (lv_at hl 0 rfl) ?_
              refine lv_iadd hx hb dX2_add_39 ?_
              refine tp_i (v := nI ((5 * (g_n σ)) + 3)) (nI_add (5 * (g_n σ)) 3) ?_
              refine lv_aload_n hx hb dX2_add_40 rfl (lv_at hl 2 rfl) ?_
              refine lv_iload_n hx hb dX2_add_41 rfl (lv_at hl 0 rfl) ?_
              refine rd_callV (As := [.int 3]) (rest := [.int (nI ((5 * (g_n σ)) + 3)), .ref (a 5)]) ⟨hx, hb, hml, hown, hts⟩ (c_numAt l G C a (u_tb (u_tb (u_tb σ (vp_updL (g_tb σ) ((5 * (g_n σ)) + 0) (k_nu κ 0))) (vp_updL (vp_updL (g_tb σ) ((5 * (g_n σ)) + 0) (k_nu κ 0)) ((5 * (g_n σ)) + 1) (k_nu κ 1))) (vp_updL (vp_updL (vp_updL (g_tb σ) ((5 * (g_n σ)) + 0) (k_nu κ 0)) ((5 * (g_n σ)) + 1) (k_nu κ 1)) ((5 * (g_n σ)) + 2) (k_nu κ 2))) κ (q := 3) (by decide)) (cwV 1 hts gX2_add_X0_numberAt rfl rfl rfl (by decide +kernel) ⟨Nat.le_of_ble_eq_true rfl, Nat.le_of_ble_eq_true rfl⟩) hK hN hP (2) 0 wX_e2 rfl rfl rfl hl.1 rfl (Nat.le_of_ble_eq_true rfl) dX2_add_42 ⟨Nat.zero_le _, Nat.zero_le _⟩ ?_
              refine as_l (k := ((5 * (g_n σ)) + 3)) hx hb hK hP hD hS (5) 1 wX_e5 rfl rfl (by omega) (by decide) dX2_add_45 (fun H locs hP hD hS => ?_)
              have hP : va_P G vwCl (wX C a (u_tb (u_tb (u_tb (u_tb σ (vp_updL (g_tb σ) ((5 * (g_n σ)) + 0) (k_nu κ 0))) (vp_updL (vp_updL (g_tb σ) ((5 * (g_n σ)) + 0) (k_nu κ 0)) ((5 * (g_n σ)) + 1) (k_nu κ 1))) (vp_updL (vp_updL (vp_updL (g_tb σ) ((5 * (g_n σ)) + 0) (k_nu κ 0)) ((5 * (g_n σ)) + 1) (k_nu κ 1)) ((5 * (g_n σ)) + 2) (k_nu κ 2))) (vp_updL (vp_updL (vp_updL (vp_updL (g_tb σ) ((5 * (g_n σ)) + 0) (k_nu κ 0)) ((5 * (g_n σ)) + 1) (k_nu κ 1)) ((5 * (g_n σ)) + 2) (k_nu κ 2)) ((5 * (g_n σ)) + 3) (k_nu κ 3))) κ) H := hP
              have hD : va_D A (wX C a (u_tb (u_tb (u_tb (u_tb σ (vp_updL (g_tb σ) ((5 * (g_n σ)) + 0) (k_nu κ 0))) (vp_updL (vp_updL (g_tb σ) ((5 * (g_n σ)) + 0) (k_nu κ 0)) ((5 * (g_n σ)) + 1) (k_nu κ 1))) (vp_updL (vp_updL (vp_updL (g_tb σ) ((5 * (g_n σ)) + 0) (k_nu κ 0)) ((5 * (g_n σ)) + 1) (k_nu κ 1)) ((5 * (g_n σ)) + 2) (k_nu κ 2))) (vp_updL (vp_updL (vp_updL (vp_updL (g_tb σ) ((5 * (g_n σ)) + 0) (k_nu κ 0)) ((5 * (g_n σ)) + 1) (k_nu κ 1)) ((5 * (g_n σ)) + 2) (k_nu κ 2)) ((5 * (g_n σ)) + 3) (k_nu κ 3))) κ) := hD
              refine lv_iinc (v := 4) (lv' := [(2, .int 4), (0, .ref (a 4)), (1, .ref (a 2))]) hx hb dX2_add_46 hl (k := 0) rfl (by decide) (by decide) rfl (fun ls hl => ?_)
              refine lv_goto (tgt := 23) hx hb dX2_add_49 (by decide) ?_
              refine lv_iload_n hx hb dX2_add_23 rfl (lv_at hl 0 rfl) ?_
              refine lv_iconst (v := 5) hx hb dX2_add_24 (by decide) ?_
              refine ic_ge (tgt := 52) hx hb dX2_add_25 (by decide) (fun c_7 => ?_) (fun c_7 => ?_)
              · skip
                exact absurd c_7 (by decide)
              · skip
                refine lv_aload_n hx hb dX2_add_28 rfl (lv_at hl 1 rfl) ?_
                refine va_get (D := G) (ci := 2) (v := .ref (a 5)) (C := RX2) (T := TX2) (N := 2) hx hb hts hX2 hown hK hP (4) wX_e4 rfl 0 (by decide) (hts (.fieldLink RX2 9 "DraftSurvey$Table" "cells" "[J") (by decide +kernel)) (fun _ h9 => h9) rfl dX2_add_29 ?_
                refine lv_aload_n hx hb dX2_add_32 rfl (lv_at hl 1 rfl) ?_
                refine va_get (D := G) (ci := 2) (v := .int (nI (g_n σ))) (C := RX2) (T := TX2) (N := 2) hx hb hts hX2 hown hK hP (4) wX_e4 rfl 1 (by decide) (hts (.fieldLink RX2 15 "DraftSurvey$Table" "rows" "I") (by decide +kernel)) (fun _ h9 => h9) rfl dX2_add_33 ?_
                refine lv_iconst (v := 5) hx hb dX2_add_36 (by decide) ?_
                refine lv_imul hx hb dX2_add_37 ?_
                refine tp_i (v := nI (5 * (g_n σ))) (by rw [show (5 : Int32) = nI 5 from rfl, pk_mul, Nat.mul_comm]) ?_
                refine lv_iload_n hx hb dX2_add_38 rfl (lv_at hl 0 rfl) ?_
                refine lv_iadd hx hb dX2_add_39 ?_
                refine tp_i (v := nI ((5 * (g_n σ)) + 4)) (nI_add (5 * (g_n σ)) 4) ?_
                refine lv_aload_n hx hb dX2_add_40 rfl (lv_at hl 2 rfl) ?_
                refine lv_iload_n hx hb dX2_add_41 rfl (lv_at hl 0 rfl) ?_
                refine rd_callV (As := [.int 4]) (rest := [.int (nI ((5 * (g_n σ)) + 4)), .ref (a 5)]) ⟨hx, hb, hml, hown, hts⟩ (c_numAt l G C a (u_tb (u_tb (u_tb (u_tb σ (vp_updL (g_tb σ) ((5 * (g_n σ)) + 0) (k_nu κ 0))) (vp_updL (vp_updL (g_tb σ) ((5 * (g_n σ)) + 0) (k_nu κ 0)) ((5 * (g_n σ)) + 1) (k_nu κ 1))) (vp_updL (vp_updL (vp_updL (g_tb σ) ((5 * (g_n σ)) + 0) (k_nu κ 0)) ((5 * (g_n σ)) + 1) (k_nu κ 1)) ((5 * (g_n σ)) + 2) (k_nu κ 2))) (vp_updL (vp_updL (vp_updL (vp_updL (g_tb σ) ((5 * (g_n σ)) + 0) (k_nu κ 0)) ((5 * (g_n σ)) + 1) (k_nu κ 1)) ((5 * (g_n σ)) + 2) (k_nu κ 2)) ((5 * (g_n σ)) + 3) (k_nu κ 3))) κ (q := 4) (by decide)) (cwV 1 hts gX2_add_X0_numberAt rfl rfl rfl (by decide +kernel) ⟨Nat.le_of_ble_eq_true rfl, Nat.le_of_ble_eq_true rfl⟩) hK hN hP (2) 0 wX_e2 rfl rfl rfl hl.1 rfl (Nat.le_of_ble_eq_true rfl) dX2_add_42 ⟨Nat.zero_le _, Nat.zero_le _⟩ ?_
                refine as_l (k := ((5 * (g_n σ)) + 4)) hx hb hK hP hD hS (5) 1 wX_e5 rfl rfl (by omega) (by decide) dX2_add_45 (fun H locs hP hD hS => ?_)
                have hP : va_P G vwCl (wX C a (u_tb (u_tb (u_tb (u_tb (u_tb σ (vp_updL (g_tb σ) ((5 * (g_n σ)) + 0) (k_nu κ 0))) (vp_updL (vp_updL (g_tb σ) ((5 * (g_n σ)) + 0) (k_nu κ 0)) ((5 * (g_n σ)) + 1) (k_nu κ 1))) (vp_updL (vp_updL (vp_updL (g_tb σ) ((5 * (g_n σ)) + 0) (k_nu κ 0)) ((5 * (g_n σ)) + 1) (k_nu κ 1)) ((5 * (g_n σ)) + 2) (k_nu κ 2))) (vp_updL (vp_updL (vp_updL (vp_updL (g_tb σ) ((5 * (g_n σ)) + 0) (k_nu κ 0)) ((5 * (g_n σ)) + 1) (k_nu κ 1)) ((5 * (g_n σ)) + 2) (k_nu κ 2)) ((5 * (g_n σ)) + 3) (k_nu κ 3))) (vp_updL (vp_updL (vp_updL (vp_updL (vp_updL (g_tb σ) ((5 * (g_n σ)) + 0) (k_nu κ 0)) ((5 * (g_n σ)) + 1) (k_nu κ 1)) ((5 * (g_n σ)) + 2) (k_nu κ 2)) ((5 * (g_n σ)) + 3) (k_nu κ 3)) ((5 * (g_n σ)) + 4) (k_nu κ 4))) κ) H := hP
                have hD : va_D A (wX C a (u_tb (u_tb (u_tb (u_tb (u_tb σ (vp_updL (g_tb σ) ((5 * (g_n σ)) + 0) (k_nu κ 0))) (vp_updL (vp_updL (g_tb σ) ((5 * (g_n σ)) + 0) (k_nu κ 0)) ((5 * (g_n σ)) + 1) (k_nu κ 1))) (vp_updL (vp_updL (vp_updL (g_tb σ) ((5 * (g_n σ)) + 0) (k_nu κ 0)) ((5 * (g_n σ)) + 1) (k_nu κ 1)) ((5 * (g_n σ)) + 2) (k_nu κ 2))) (vp_updL (vp_updL (vp_updL (vp_updL (g_tb σ) ((5 * (g_n σ)) + 0) (k_nu κ 0)) ((5 * (g_n σ)) + 1) (k_nu κ 1)) ((5 * (g_n σ)) + 2) (k_nu κ 2)) ((5 * (g_n σ)) + 3) (k_nu κ 3))) (vp_updL (vp_updL (vp_updL (vp_updL (vp_updL (g_tb σ) ((5 * (g_n σ)) + 0) (k_nu κ 0)) ((5 * (g_n σ)) + 1) (k_nu κ 1)) ((5 * (g_n σ)) + 2) (k_nu κ 2)) ((5 * (g_n σ)) + 3) (k_nu κ 3)) ((5 * (g_n σ)) + 4) (k_nu κ 4))) κ) := hD
                refine lv_iinc (v := 5) (lv' := [(2, .int 5), (0, .ref (a 4)), (1, .ref (a 2))]) hx hb dX2_add_46 hl (k := 0) rfl (by decide) (by decide) rfl (fun ls hl => ?_)
                refine lv_goto (tgt := 23) hx hb dX2_add_49 (by decide) ?_
                refine lv_iload_n hx hb dX2_add_23 rfl (lv_at hl 0 rfl) ?_
                refine lv_iconst (v := 5) hx hb dX2_add_24 (by decide) ?_
                refine ic_ge (tgt := 52) hx hb dX2_add_25 (by decide) (fun c_8 => ?_) (fun c_8 => ?_)
                · skip
                  refine lv_aload_n hx hb dX2_add_52 rfl (lv_at hl 1 rfl) ?_
                  refine lv_dup hx hb dX2_add_53 rfl ?_
                  refine va_get (D := G) (ci := 2) (v := .int (nI (g_n σ))) (C := RX2) (T := TX2) (N := 2) hx hb hts hX2 hown hK hP (4) wX_e4 rfl 1 (by decide) (hts (.fieldLink RX2 15 "DraftSurvey$Table" "rows" "I") (by decide +kernel)) (fun _ h9 => h9) rfl dX2_add_54 ?_
                  refine lv_iconst (v := 1) hx hb dX2_add_57 (by decide) ?_
                  refine lv_iadd hx hb dX2_add_58 ?_
                  refine tp_i (v := nI ((g_n σ) + 1)) (nI_add (g_n σ) 1) ?_
                  refine va_put (D := G) (ci := 2) (v := .int (nI ((g_n σ) + 1))) (ty := .int) (C := RX2) (T := TX2) (N := 2) hx hb hts hX2 tyX2 tyX2_ok nmX2 hown hK hP hD hS (4) wX_e4 rfl 1 (by decide) (hts (.fieldLink RX2 15 "DraftSurvey$Table" "rows" "I") (by decide +kernel)) (fun _ h9 => h9) rfl (by decide +kernel) rfl rfl (Nat.le_of_ble_eq_true rfl) dX2_add_59 (fun H locs hP hD hS => ?_)
                  have hP : va_P G vwCl (wX C a (u_n (u_tb (u_tb (u_tb (u_tb (u_tb σ (vp_updL (g_tb σ) ((5 * (g_n σ)) + 0) (k_nu κ 0))) (vp_updL (vp_updL (g_tb σ) ((5 * (g_n σ)) + 0) (k_nu κ 0)) ((5 * (g_n σ)) + 1) (k_nu κ 1))) (vp_updL (vp_updL (vp_updL (g_tb σ) ((5 * (g_n σ)) + 0) (k_nu κ 0)) ((5 * (g_n σ)) + 1) (k_nu κ 1)) ((5 * (g_n σ)) + 2) (k_nu κ 2))) (vp_updL (vp_updL (vp_updL (vp_updL (g_tb σ) ((5 * (g_n σ)) + 0) (k_nu κ 0)) ((5 * (g_n σ)) + 1) (k_nu κ 1)) ((5 * (g_n σ)) + 2) (k_nu κ 2)) ((5 * (g_n σ)) + 3) (k_nu κ 3))) (vp_updL (vp_updL (vp_updL (vp_updL (vp_updL (g_tb σ) ((5 * (g_n σ)) + 0) (k_nu κ 0)) ((5 * (g_n σ)) + 1) (k_nu κ 1)) ((5 * (g_n σ)) + 2) (k_nu κ 2)) ((5 * (g_n σ)) + 3) (k_nu κ 3)) ((5 * (g_n σ)) + 4) (k_nu κ 4))) ((g_n σ) + 1)) κ) H := hP
                  have hD : va_D A (wX C a (u_n (u_tb (u_tb (u_tb (u_tb (u_tb σ (vp_updL (g_tb σ) ((5 * (g_n σ)) + 0) (k_nu κ 0))) (vp_updL (vp_updL (g_tb σ) ((5 * (g_n σ)) + 0) (k_nu κ 0)) ((5 * (g_n σ)) + 1) (k_nu κ 1))) (vp_updL (vp_updL (vp_updL (g_tb σ) ((5 * (g_n σ)) + 0) (k_nu κ 0)) ((5 * (g_n σ)) + 1) (k_nu κ 1)) ((5 * (g_n σ)) + 2) (k_nu κ 2))) (vp_updL (vp_updL (vp_updL (vp_updL (g_tb σ) ((5 * (g_n σ)) + 0) (k_nu κ 0)) ((5 * (g_n σ)) + 1) (k_nu κ 1)) ((5 * (g_n σ)) + 2) (k_nu κ 2)) ((5 * (g_n σ)) + 3) (k_nu κ 3))) (vp_updL (vp_updL (vp_updL (vp_updL (vp_updL (g_tb σ) ((5 * (g_n σ)) + 0) (k_nu κ 0)) ((5 * (g_n σ)) + 1) (k_nu κ 1)) ((5 * (g_n σ)) + 2) (k_nu κ 2)) ((5 * (g_n σ)) + 3) (k_nu κ 3)) ((5 * (g_n σ)) + 4) (k_nu κ 4))) ((g_n σ) + 1)) κ) := hD
                  refine wr_vret hx hb hr hlocks hAe hP hD hS ?_ dX2_add_62
                  exact ⟨rfl, rfl⟩
                · skip
                  exact absurd c_8 (by decide)
    · skip
      have c_2 : ¬ (g_n σ) < 10 := fun z9 => c_2 ((nI_ltI (a := (g_n σ)) (b := 10) (by omega) (by omega)).mpr z9)
      exact (show False by omega).elim

set_option maxHeartbeats 4000000 in
set_option maxRecDepth 100000 in
theorem c_addRow (l : Launch) (G : va_G) (C : Nat → ClassId) (a : Nat → Nat) (σ : SG) (κ : KX) (tG : Nat) (hbl : g_bl σ ≤ 40) (hn : g_n σ ≤ 10) : WrG l yX3_addRow wsX3_addRow ({ frames := 4, cells := 0, slots := 0, locals := 82 } : Room) G (tysC C) tG (wX C a σ κ) [.ref (a 0)] (pX C a (aAddR σ) (nAddR σ)) := by
  intro sz
  refine Met.ofW (cc := cX3_addRow) (maxL := 1) (ret := (some .long)) (by decide) rfl ?_
  intro p e s m args below meth c s₁ B hml hv
  obtain ⟨rfl, ⟨hsz, hP, hK, hN, hD0⟩, hZ⟩ := hv
  have hx := B.exec
  have hb := B.bytes
  have hr := B.returns
  have hts := atoms_spec (ws := wsX3_addRow) B.pre
  have hown : s.vm.findClass RX3 = some m.cls := findClass_of_methodNamed B.named
  have hlocks := B.notSynchronized
  have hX2 : ∀ w ∈ wsX20, w ∈ wsX3_addRow := by decide +kernel
  have hX3 : ∀ w ∈ wsX30, w ∈ wsX3_addRow := by decide +kernel
  subst hsz
  have hD := hD0.self (sz := s.heap.size)
  generalize hAe : va_A (wX C a σ κ) s.heap.size = A at hD hZ ⊢
  have hA : ∀ q : Nat, s.heap.size ≤ q → A q := fun q h => by rw [← hAe]; exact Or.inr h
  have hS : va_S A s.heap s.heap [] := va_S.rf
  have hP : va_P G vwCl (wX C a σ κ) s.heap := hP
  have hl := lv_entry ([.ref (a 0)]) (n := 1) (Nat.le_of_ble_eq_true rfl)
  rw [lg_entry_eq]
  generalize (lg_sl ([.ref (a 0)]) ++ List.replicate (1 - (lg_sl ([.ref (a 0)])).length) Slot.unset).toArray = ls at hl ⊢
  have hl : lv_has ls 1 [(0, .ref (a 0))] := hl
  refine lv_aload_n hx hb dX3_addRow_0 rfl (lv_at hl 0 rfl) ?_
  refine wr_callG (As := []) (rest := []) ⟨hx, hb, hml, hown, hts⟩ (c_readB l G C a σ κ tG hbl) (cwV 0 hts gX3_addRow_X3_readBuffer rfl rfl rfl (by decide +kernel) ⟨Nat.le_of_ble_eq_true rfl, Nat.le_of_ble_eq_true rfl⟩) hK hN hP hD hS hA hZ (0) 3 wX_e0 rfl rfl rfl hl.1 rfl (Nat.le_of_ble_eq_true rfl) dX3_addRow_1 ⟨Nat.zero_le _, Nat.zero_le _⟩ (fun v_ w1 H locs hw hP hD hS => ?_)
  obtain ⟨rfl, rfl⟩ := hw
  have r_le := rd_le σ (k_nu κ)
  obtain ⟨hp, hd, hg, hm⟩ := rd_ok σ (k_nu κ) hbl
  have r_s := (rd_same σ (k_nu κ)).1
  have r_p := rd_pl σ (k_nu κ)
  have r_d := rd_dg σ (k_nu κ)
  have r_r : whN σ → ∀ j, j < 5 → z_nu (nRun (g_bf σ) 0 (g_bl σ) (n0 (k_nu κ))).2 j = rwN σ j := fun h j hj => rd_row (k_nu κ) h hj
  generalize hR : nRun (g_bf σ) 0 (g_bl σ) (n0 (k_nu κ)) = rr at *
  refine W.eq (g2 := F0 m 4 ls [.int (nI rr.1)]) rfl ?_
  refine lv_aload_n hx hb dX3_addRow_4 rfl (lv_at hl 0 rfl) ?_
  refine va_get (D := G) (ci := 3) (v := .int (nI (g_bl σ))) (C := RX3) (T := TX3) (N := 7) hx hb hts hX3 hown hK hP (0) wX_e0 rfl 1 (by decide) (hts (.fieldLink RX3 13 "DraftSurvey" "bufferLength" "I") (by decide +kernel)) (fun _ h9 => h9) rfl dX3_addRow_5 ?_
  refine lv_icmp_lt (tgt := 21) hx hb dX3_addRow_8 (by decide) (fun c_1 => ?_) (fun c_1 => ?_)
  · skip
    have c_1 : rr.1 < (g_bl σ) := (nI_ltI (a := rr.1) (b := (g_bl σ)) (by omega) (by omega)).mp c_1
    refine lv_ldc2 (v := (-9000000000000000004)) hx hb hown (hts (.constantLong RX3 59 (-9000000000000000004)) (by decide +kernel)) dX3_addRow_21 ?_
    refine wr_lret hx hb hr hlocks hAe hP hD hS ?_ dX3_addRow_24
    exact ⟨congrArg (fun z => some (Value.long z)) (if_neg (fun q => absurd q.1 (by omega))).symm, eK rr.2, congrArg (fun z => wX C a z (eK rr.2)) (if_neg (fun q => absurd q.1 (by omega))).symm⟩
  · skip
    have c_1 : ¬ rr.1 < (g_bl σ) := fun z9 => c_1 ((nI_ltI (a := rr.1) (b := (g_bl σ)) (by omega) (by omega)).mpr z9)
    refine lv_aload_n hx hb dX3_addRow_11 rfl (lv_at hl 0 rfl) ?_
    refine va_get (D := G) (ci := 3) (v := .ref (a 2)) (C := RX3) (T := TX3) (N := 7) hx hb hts hX3 hown hK hP (0) wX_e0 rfl 2 (by decide) (hts (.fieldLink RX3 20 "DraftSurvey" "reader" "LDraftSurvey$RowReader;") (by decide +kernel)) (fun _ h9 => h9) rfl dX3_addRow_12 ?_
    refine rd_callV (As := []) (rest := []) ⟨hx, hb, hml, hown, hts⟩ (c_isC l G C a σ (z_nu rr.2) (z_pl rr.2) (z_dg rr.2) (z_ng rr.2) (z_mg rr.2) hp hd hg hm) (cwV 0 hts gX3_addRow_X0_isComplete rfl rfl rfl (by decide +kernel) ⟨Nat.le_of_ble_eq_true rfl, Nat.le_of_ble_eq_true rfl⟩) hK hN hP (2) 0 wX_e2 rfl rfl rfl hl.1 rfl (Nat.le_of_ble_eq_true rfl) dX3_addRow_15 ⟨Nat.zero_le _, Nat.zero_le _⟩ ?_
    refine br_bne (tgt := 25) hx hb dX3_addRow_18 (by decide) (fun c_2 => ?_) (fun c_2 => ?_)
    · skip
      refine lv_aload_n hx hb dX3_addRow_25 rfl (lv_at hl 0 rfl) ?_
      refine va_get (D := G) (ci := 3) (v := .ref (a 4)) (C := RX3) (T := TX3) (N := 7) hx hb hts hX3 hown hK hP (0) wX_e0 rfl 3 (by decide) (hts (.fieldLink RX3 27 "DraftSurvey" "table" "LDraftSurvey$Table;") (by decide +kernel)) (fun _ h9 => h9) rfl dX3_addRow_26 ?_
      refine rd_callV (As := []) (rest := []) ⟨hx, hb, hml, hown, hts⟩ (c_full l G C a σ (eK rr.2) hn) (cwV 0 hts gX3_addRow_X2_isFull rfl rfl rfl (by decide +kernel) ⟨Nat.le_of_ble_eq_true rfl, Nat.le_of_ble_eq_true rfl⟩) hK hN hP (4) 2 wX_e4 rfl rfl rfl hl.1 rfl (Nat.le_of_ble_eq_true rfl) dX3_addRow_29 ⟨Nat.zero_le _, Nat.zero_le _⟩ ?_
      refine br_beq (tgt := 39) hx hb dX3_addRow_32 (by decide) (fun c_3 => ?_) (fun c_3 => ?_)
      · skip
        refine lv_aload_n hx hb dX3_addRow_39 rfl (lv_at hl 0 rfl) ?_
        refine va_get (D := G) (ci := 3) (v := .ref (a 4)) (C := RX3) (T := TX3) (N := 7) hx hb hts hX3 hown hK hP (0) wX_e0 rfl 3 (by decide) (hts (.fieldLink RX3 27 "DraftSurvey" "table" "LDraftSurvey$Table;") (by decide +kernel)) (fun _ h9 => h9) rfl dX3_addRow_40 ?_
        refine lv_aload_n hx hb dX3_addRow_43 rfl (lv_at hl 0 rfl) ?_
        refine va_get (D := G) (ci := 3) (v := .ref (a 2)) (C := RX3) (T := TX3) (N := 7) hx hb hts hX3 hown hK hP (0) wX_e0 rfl 2 (by decide) (hts (.fieldLink RX3 20 "DraftSurvey" "reader" "LDraftSurvey$RowReader;") (by decide +kernel)) (fun _ h9 => h9) rfl dX3_addRow_44 ?_
        refine lv_iconst (v := 0) hx hb dX3_addRow_47 (by decide) ?_
        refine rd_callV (As := [.int 0]) (rest := [.ref (a 4)]) ⟨hx, hb, hml, hown, hts⟩ (c_numAt l G C a σ (eK rr.2) (q := 0) (by decide)) (cwV 1 hts gX3_addRow_X0_numberAt rfl rfl rfl (by decide +kernel) ⟨Nat.le_of_ble_eq_true rfl, Nat.le_of_ble_eq_true rfl⟩) hK hN hP (2) 0 wX_e2 rfl rfl rfl hl.1 rfl (Nat.le_of_ble_eq_true rfl) dX3_addRow_48 ⟨Nat.zero_le _, Nat.zero_le _⟩ ?_
        refine lv_aload_n hx hb dX3_addRow_51 rfl (lv_at hl 0 rfl) ?_
        refine va_get (D := G) (ci := 3) (v := .ref (a 2)) (C := RX3) (T := TX3) (N := 7) hx hb hts hX3 hown hK hP (0) wX_e0 rfl 2 (by decide) (hts (.fieldLink RX3 20 "DraftSurvey" "reader" "LDraftSurvey$RowReader;") (by decide +kernel)) (fun _ h9 => h9) rfl dX3_addRow_52 ?_
        refine lv_iconst (v := 1) hx hb dX3_addRow_55 (by decide) ?_
        refine rd_callV (As := [.int 1]) (rest := [.long (k_nu (eK rr.2) 0), .ref (a 4)]) ⟨hx, hb, hml, hown, hts⟩ (c_numAt l G C a σ (eK rr.2) (q := 1) (by decide)) (cwV 1 hts gX3_addRow_X0_numberAt rfl rfl rfl (by decide +kernel) ⟨Nat.le_of_ble_eq_true rfl, Nat.le_of_ble_eq_true rfl⟩) hK hN hP (2) 0 wX_e2 rfl rfl rfl hl.1 rfl (Nat.le_of_ble_eq_true rfl) dX3_addRow_56 ⟨Nat.zero_le _, Nat.zero_le _⟩ ?_
        refine rd_callV (As := [.long (k_nu (eK rr.2) 0), .long (k_nu (eK rr.2) 1)]) (rest := []) ⟨hx, hb, hml, hown, hts⟩ (c_follow l G C a σ (eK rr.2) hn (k_nu (eK rr.2) 0) (k_nu (eK rr.2) 1)) (cwV 2 hts gX3_addRow_X2_canFollow rfl rfl rfl (by decide +kernel) ⟨Nat.le_of_ble_eq_true rfl, Nat.le_of_ble_eq_true rfl⟩) hK hN hP (4) 2 wX_e4 rfl rfl rfl hl.1 rfl (Nat.le_of_ble_eq_true rfl) dX3_addRow_59 ⟨Nat.zero_le _, Nat.zero_le _⟩ ?_
        refine br_bne (tgt := 69) hx hb dX3_addRow_62 (by decide) (fun c_4 => ?_) (fun c_4 => ?_)
        · skip
          refine lv_aload_n hx hb dX3_addRow_69 rfl (lv_at hl 0 rfl) ?_
          refine va_get (D := G) (ci := 3) (v := .ref (a 4)) (C := RX3) (T := TX3) (N := 7) hx hb hts hX3 hown hK hP (0) wX_e0 rfl 3 (by decide) (hts (.fieldLink RX3 27 "DraftSurvey" "table" "LDraftSurvey$Table;") (by decide +kernel)) (fun _ h9 => h9) rfl dX3_addRow_70 ?_
          refine lv_aload_n hx hb dX3_addRow_73 rfl (lv_at hl 0 rfl) ?_
          refine va_get (D := G) (ci := 3) (v := .ref (a 2)) (C := RX3) (T := TX3) (N := 7) hx hb hts hX3 hown hK hP (0) wX_e0 rfl 2 (by decide) (hts (.fieldLink RX3 20 "DraftSurvey" "reader" "LDraftSurvey$RowReader;") (by decide +kernel)) (fun _ h9 => h9) rfl dX3_addRow_74 ?_
          refine wr_callV (As := [.ref (a 2)]) (rest := []) ⟨hx, hb, hml, hown, hts⟩ (c_tadd l G C a σ (eK rr.2) (by omega)) (cwV 1 hts gX3_addRow_X2_add rfl rfl rfl (by decide +kernel) ⟨Nat.le_of_ble_eq_true rfl, Nat.le_of_ble_eq_true rfl⟩) hK hN hP hD hS hA (4) 2 wX_e4 rfl rfl rfl hl.1 rfl (Nat.le_of_ble_eq_true rfl) dX3_addRow_77 ⟨Nat.zero_le _, Nat.zero_le _⟩ (fun v_ w1 H locs hw hP hD hS => ?_)
          obtain ⟨rfl, rfl⟩ := hw
          refine W.eq (g2 := F0 m 80 ls []) rfl ?_
          refine lv_aload_n hx hb dX3_addRow_80 rfl (lv_at hl 0 rfl) ?_
          refine lv_iconst (v := 0) hx hb dX3_addRow_81 (by decide) ?_
          refine va_put (D := G) (ci := 3) (v := .int 0) (ty := .int) (C := RX3) (T := TX3) (N := 7) hx hb hts hX3 tyX3 tyX3_ok nmX3 hown hK hP hD hS (0) wX_e0 rfl 1 (by decide) (hts (.fieldLink RX3 13 "DraftSurvey" "bufferLength" "I") (by decide +kernel)) (fun _ h9 => h9) rfl (by decide +kernel) rfl rfl (Nat.le_of_ble_eq_true rfl) dX3_addRow_82 (fun H locs hP hD hS => ?_)
          have hP : va_P G vwCl (wX C a (u_bl (u_n (u_tb σ (putR (g_tb σ) (g_n σ) (k_nu (eK rr.2)) 5)) (g_n σ + 1)) 0) (eK rr.2)) H := hP
          have hD : va_D A (wX C a (u_bl (u_n (u_tb σ (putR (g_tb σ) (g_n σ) (k_nu (eK rr.2)) 5)) (g_n σ + 1)) 0) (eK rr.2)) := hD
          refine lv_aload_n hx hb dX3_addRow_85 rfl (lv_at hl 0 rfl) ?_
          refine va_get (D := G) (ci := 3) (v := .ref (a 4)) (C := RX3) (T := TX3) (N := 7) hx hb hts hX3 hown hK hP (0) wX_e0 rfl 3 (by decide) (hts (.fieldLink RX3 27 "DraftSurvey" "table" "LDraftSurvey$Table;") (by decide +kernel)) (fun _ h9 => h9) rfl dX3_addRow_86 ?_
          refine va_getN (D := G) (ci := 2) (v := .int (nI (g_n σ + 1))) (C := RX2) (T := TX2) (N := 2) hx hb hts hX2 hown hK hP (4) wX_e4 rfl 1 (by decide) (va_Nw.use rfl hN.1) (fun _ h9 => h9) rfl dX3_addRow_89 ?_
          refine lv_i2l (v := lN (g_n σ + 1)) hx hb dX3_addRow_92 (nI_l (by omega)) ?_
          refine wr_lret hx hb hr hlocks hAe hP hD hS ?_ dX3_addRow_93
          exact ⟨congrArg (fun z => some (Value.long z)) ((if_pos (show whN σ from ⟨by omega, by rw [← r_p]; exact c_2.1, by rw [← r_d]; exact c_2.2⟩)).trans ((if_pos (show g_n σ < 10 by omega)).trans (if_pos (show ascN σ from by have r0 := r_r (show whN σ from ⟨by omega, by rw [← r_p]; exact c_2.1, by rw [← r_d]; exact c_2.2⟩) 0 (by decide); have r1 := r_r (show whN σ from ⟨by omega, by rw [← r_p]; exact c_2.1, by rw [← r_d]; exact c_2.2⟩) 1 (by decide); unfold ascN; rw [← r0, ← r1]; exact c_4)))).symm, eK rr.2, congrArg (fun z => wX C a z (eK rr.2)) ((congrArg (fun t => u_bl (u_n (u_tb σ t) (g_n σ + 1)) 0) (putR_eq (r_r (show whN σ from ⟨by omega, by rw [← r_p]; exact c_2.1, by rw [← r_d]; exact c_2.2⟩)))).trans ((if_pos (show whN σ from ⟨by omega, by rw [← r_p]; exact c_2.1, by rw [← r_d]; exact c_2.2⟩)).trans ((if_pos (show g_n σ < 10 by omega)).trans (if_pos (show ascN σ from by have r0 := r_r (show whN σ from ⟨by omega, by rw [← r_p]; exact c_2.1, by rw [← r_d]; exact c_2.2⟩) 0 (by decide); have r1 := r_r (show whN σ from ⟨by omega, by rw [← r_p]; exact c_2.1, by rw [← r_d]; exact c_2.2⟩) 1 (by decide); unfold ascN; rw [← r0, ← r1]; exact c_4)))).symm)⟩
        · skip
          refine lv_ldc2 (v := (-9000000000000000005)) hx hb hown (hts (.constantLong RX3 72 (-9000000000000000005)) (by decide +kernel)) dX3_addRow_65 ?_
          refine wr_lret hx hb hr hlocks hAe hP hD hS ?_ dX3_addRow_68
          exact ⟨congrArg (fun z => some (Value.long z)) ((if_pos (show whN σ from ⟨by omega, by rw [← r_p]; exact c_2.1, by rw [← r_d]; exact c_2.2⟩)).trans ((if_pos (show g_n σ < 10 by omega)).trans (if_neg (fun q => c_4 (by have r0 := r_r (show whN σ from ⟨by omega, by rw [← r_p]; exact c_2.1, by rw [← r_d]; exact c_2.2⟩) 0 (by decide); have r1 := r_r (show whN σ from ⟨by omega, by rw [← r_p]; exact c_2.1, by rw [← r_d]; exact c_2.2⟩) 1 (by decide); have q : ascN σ := q; unfold ascN at q; rw [← r0, ← r1] at q; exact q))))).symm, eK rr.2, congrArg (fun z => wX C a z (eK rr.2)) ((if_pos (show whN σ from ⟨by omega, by rw [← r_p]; exact c_2.1, by rw [← r_d]; exact c_2.2⟩)).trans ((if_pos (show g_n σ < 10 by omega)).trans (if_neg (fun q => c_4 (by have r0 := r_r (show whN σ from ⟨by omega, by rw [← r_p]; exact c_2.1, by rw [← r_d]; exact c_2.2⟩) 0 (by decide); have r1 := r_r (show whN σ from ⟨by omega, by rw [← r_p]; exact c_2.1, by rw [← r_d]; exact c_2.2⟩) 1 (by decide); have q : ascN σ := q; unfold ascN at q; rw [← r0, ← r1] at q; exact q))))).symm⟩
      · skip
        refine lv_ldc2 (v := (-9000000000000000006)) hx hb hown (hts (.constantLong RX3 49 (-9000000000000000006)) (by decide +kernel)) dX3_addRow_35 ?_
        refine wr_lret hx hb hr hlocks hAe hP hD hS ?_ dX3_addRow_38
        exact ⟨congrArg (fun z => some (Value.long z)) ((if_pos (show whN σ from ⟨by omega, by rw [← r_p]; exact c_2.1, by rw [← r_d]; exact c_2.2⟩)).trans (if_neg c_3)).symm, eK rr.2, congrArg (fun z => wX C a z (eK rr.2)) ((if_pos (show whN σ from ⟨by omega, by rw [← r_p]; exact c_2.1, by rw [← r_d]; exact c_2.2⟩)).trans (if_neg c_3)).symm⟩
    · skip
      refine lv_ldc2 (v := (-9000000000000000004)) hx hb hown (hts (.constantLong RX3 59 (-9000000000000000004)) (by decide +kernel)) dX3_addRow_21 ?_
      refine wr_lret hx hb hr hlocks hAe hP hD hS ?_ dX3_addRow_24
      exact ⟨congrArg (fun z => some (Value.long z)) (if_neg (fun q => c_2 ⟨by have := q.2.1; omega, by have := q.2.2; omega⟩)).symm, eK rr.2, congrArg (fun z => wX C a z (eK rr.2)) (if_neg (fun q => c_2 ⟨by have := q.2.1; omega, by have := q.2.2; omega⟩)).symm⟩
