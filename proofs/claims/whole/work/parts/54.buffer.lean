set_option maxHeartbeats 4000000 in
set_option maxRecDepth 100000 in
theorem c_readB (l : Launch) (G : va_G) (C : Nat → ClassId) (a : Nat → Nat) (σ : SG) (κ : KX) (tG : Nat) (hbl : g_bl σ ≤ 40) : WrG l yX3_readBuffer wsX3_readBuffer ({ frames := 3, cells := 0, slots := 0, locals := 61 } : Room) G (tysC C) tG (wX C a σ κ) [.ref (a 0)] (pE (some (.int (nI (nRun (g_bf σ) 0 (g_bl σ) (n0 (k_nu κ))).1))) (wX C a σ (eK (nRun (g_bf σ) 0 (g_bl σ) (n0 (k_nu κ))).2))) := by
  intro sz
  refine Met.ofW (cc := cX3_readBuffer) (maxL := 2) (ret := (some .int)) (by decide) rfl ?_
  intro p e s m args below meth c s₁ B hml hv
  obtain ⟨rfl, ⟨hsz, hP, hK, hN, hD0⟩, hZ⟩ := hv
  have hx := B.exec
  have hb := B.bytes
  have hr := B.returns
  have hts := atoms_spec (ws := wsX3_readBuffer) B.pre
  have hown : s.vm.findClass RX3 = some m.cls := findClass_of_methodNamed B.named
  have hlocks := B.notSynchronized
  have hX3 : ∀ w ∈ wsX30, w ∈ wsX3_readBuffer := by decide +kernel
  subst hsz
  have hD := hD0.self (sz := s.heap.size)
  generalize hAe : va_A (wX C a σ κ) s.heap.size = A at hD hZ ⊢
  have hA : ∀ q : Nat, s.heap.size ≤ q → A q := fun q h => by rw [← hAe]; exact Or.inr h
  have hS : va_S A s.heap s.heap [] := va_S.rf
  have hP : va_P G vwCl (wX C a σ κ) s.heap := hP
  have hl := lv_entry ([.ref (a 0)]) (n := 2) (Nat.le_of_ble_eq_true rfl)
  rw [lg_entry_eq]
  generalize (lg_sl ([.ref (a 0)]) ++ List.replicate (2 - (lg_sl ([.ref (a 0)])).length) Slot.unset).toArray = ls at hl ⊢
  have hl : lv_has ls 2 [(0, .ref (a 0))] := hl
  refine lv_aload_n hx hb dX3_readBuffer_0 rfl (lv_at hl 0 rfl) ?_
  refine va_get (D := G) (ci := 3) (v := .ref (a 2)) (C := RX3) (T := TX3) (N := 7) hx hb hts hX3 hown hK hP (0) wX_e0 rfl 2 (by decide) (hts (.fieldLink RX3 20 "DraftSurvey" "reader" "LDraftSurvey$RowReader;") (by decide +kernel)) (fun _ h9 => h9) rfl dX3_readBuffer_1 ?_
  refine wr_callV (As := []) (rest := []) ⟨hx, hb, hml, hown, hts⟩ (c_begin l G C a σ κ) (cwV 0 hts gX3_readBuffer_X0_begin rfl rfl rfl (by decide +kernel) ⟨Nat.le_of_ble_eq_true rfl, Nat.le_of_ble_eq_true rfl⟩) hK hN hP hD hS hA (2) 0 wX_e2 rfl rfl rfl hl.1 rfl (Nat.le_of_ble_eq_true rfl) dX3_readBuffer_4 ⟨Nat.zero_le _, Nat.zero_le _⟩ (fun v_ w1 H locs hw hP hD hS => ?_)
  obtain ⟨rfl, rfl⟩ := hw
  refine W.eq (g2 := F0 m 7 ls []) rfl ?_
  refine lv_iconst (v := 0) hx hb dX3_readBuffer_7 (by decide) ?_
  refine lv_istore_n (lv' := [(1, .int 0), (0, .ref (a 0))]) hx hb dX3_readBuffer_8 rfl hl (by decide) rfl (fun ls hl => ?_)
  have key9 : ∀ (n_ : Nat) (k : Nat) (zv : NK), g_bl σ + 1 ≤ k + n_ → k ≤ g_bl σ → nRun (g_bf σ) k (g_bl σ - k) zv = nRun (g_bf σ) 0 (g_bl σ) (n0 (k_nu κ)) → nOk k zv → ∀ (H : Heap) (locs : List Loc), va_P G vwCl (wX C a σ (eK zv)) H → va_D A (wX C a σ (eK zv)) → va_S A s.heap H locs → ∀ ls : Array Slot, lv_has ls 2 [(0, .ref (a 0)), (1, .int (nI k))] → W p l e (headSpec wsX3_readBuffer ({ frames := 3, cells := 0, slots := 0, locals := 61 } : Room)).room s m ([.ref (a 0)] : List Value).toArray below meth c H locs 0 0 (MQ below (QW G (wX C a σ κ) s.heap.size (pE (some (.int (nI (nRun (g_bf σ) 0 (g_bl σ) (n0 (k_nu κ))).1))) (wX C a σ (eK (nRun (g_bf σ) 0 (g_bl σ) (n0 (k_nu κ))).2)))) ([.ref (a 0)] : List Value).toArray s 0 0 A) (F0 m 9 ls []) := by
    intro n_
    induction n_ with
    | zero =>
      intro k zv g_0 g_1 g_2 g_3 H locs hP hD hS ls hl
      exact absurd g_0 (by omega)
    | succ n_ ih =>
      intro k zv g_0 g_1 g_2 g_3 H locs hP hD hS ls hl
      obtain ⟨nu, pn, dn, gn, mn⟩ := zv
      have g_3p := g_3
      obtain ⟨hp, hd0, hg, hm⟩ := g_3p
      have hp : pn < 5 := hp
      have hd : dn ≤ 40 := by have : dn ≤ k := hd0; omega
      have hg : gn ≤ 1 := hg
      have hm : mn ≤ 9999999 := hm
      refine lv_iload_n hx hb dX3_readBuffer_9 rfl (lv_at hl 1 rfl) ?_
      refine lv_aload_n hx hb dX3_readBuffer_10 rfl (lv_at hl 0 rfl) ?_
      refine va_get (D := G) (ci := 3) (v := .int (nI (g_bl σ))) (C := RX3) (T := TX3) (N := 7) hx hb hts hX3 hown hK hP (0) wX_e0 rfl 1 (by decide) (hts (.fieldLink RX3 13 "DraftSurvey" "bufferLength" "I") (by decide +kernel)) (fun _ h9 => h9) rfl dX3_readBuffer_11 ?_
      refine ic_ge (tgt := 47) hx hb dX3_readBuffer_14 (by decide) (fun c_1 => ?_) (fun c_1 => ?_)
      · skip
        have c_1 : ¬ k < (g_bl σ) := fun z9 => c_1 ((nI_ltI (a := k) (b := (g_bl σ)) (by omega) (by omega)).mpr z9)
        refine lv_aload_n hx hb dX3_readBuffer_47 rfl (lv_at hl 0 rfl) ?_
        refine va_get (D := G) (ci := 3) (v := .int (nI (g_bl σ))) (C := RX3) (T := TX3) (N := 7) hx hb hts hX3 hown hK hP (0) wX_e0 rfl 1 (by decide) (hts (.fieldLink RX3 13 "DraftSurvey" "bufferLength" "I") (by decide +kernel)) (fun _ h9 => h9) rfl dX3_readBuffer_48 ?_
        refine wr_iret hx hb hr hlocks hAe hP hD hS ?_ dX3_readBuffer_51
        exact ⟨congrArg (fun r : Nat × NK => some (Value.int (nI r.1))) ((show (g_bl σ, (nu, pn, dn, gn, mn)) = (k, (nu, pn, dn, gn, mn)) from by rw [show k = g_bl σ from by omega]).trans ((nRun_end c_1).symm.trans g_2)), congrArg (fun r : Nat × NK => wX C a σ (eK r.2)) ((nRun_end (f := g_bf σ) (z := (nu, pn, dn, gn, mn)) c_1).symm.trans g_2)⟩
      · skip
        have c_1 : k < (g_bl σ) := (nI_ltI (a := k) (b := (g_bl σ)) (by omega) (by omega)).mp c_1
        refine lv_iload_n hx hb dX3_readBuffer_17 rfl (lv_at hl 1 rfl) ?_
        refine lv_bipush (v := 40) hx hb dX3_readBuffer_18 (by decide) ?_
        refine ic_ge (tgt := 47) hx hb dX3_readBuffer_20 (by decide) (fun c_2 => ?_) (fun c_2 => ?_)
        · skip
          have c_2 : ¬ k < 40 := fun z9 => c_2 ((nI_ltI (a := k) (b := 40) (by omega) (by omega)).mpr z9)
          exact (show False by omega).elim
        · skip
          have c_2 : k < 40 := (nI_ltI (a := k) (b := 40) (by omega) (by omega)).mp c_2
          refine lv_aload_n hx hb dX3_readBuffer_23 rfl (lv_at hl 0 rfl) ?_
          refine va_get (D := G) (ci := 3) (v := .ref (a 2)) (C := RX3) (T := TX3) (N := 7) hx hb hts hX3 hown hK hP (0) wX_e0 rfl 2 (by decide) (hts (.fieldLink RX3 20 "DraftSurvey" "reader" "LDraftSurvey$RowReader;") (by decide +kernel)) (fun _ h9 => h9) rfl dX3_readBuffer_24 ?_
          refine lv_aload_n hx hb dX3_readBuffer_27 rfl (lv_at hl 0 rfl) ?_
          refine va_get (D := G) (ci := 3) (v := .ref (a 1)) (C := RX3) (T := TX3) (N := 7) hx hb hts hX3 hown hK hP (0) wX_e0 rfl 0 (by decide) (hts (.fieldLink RX3 9 "DraftSurvey" "buffer" "[I") (by decide +kernel)) (fun _ h9 => h9) rfl dX3_readBuffer_28 ?_
          refine lv_iload_n hx hb dX3_readBuffer_31 rfl (lv_at hl 1 rfl) ?_
          refine ar_i (k := k) (v := g_bf σ k) hx hb hK hP (1) 0 wX_e1 rfl rfl (by omega) (by decide) rfl dX3_readBuffer_32 ?_
          refine wr_callG (As := [.int (g_bf σ k)]) (rest := []) ⟨hx, hb, hml, hown, hts⟩ (c_takes l G C a σ nu pn dn gn mn tG hp hd hg hm (g_bf σ k)) (cwV 1 hts gX3_readBuffer_X0_takes rfl rfl rfl (by decide +kernel) ⟨Nat.le_of_ble_eq_true rfl, Nat.le_of_ble_eq_true rfl⟩) hK hN hP hD hS hA hZ (2) 0 wX_e2 rfl rfl rfl hl.1 rfl (Nat.le_of_ble_eq_true rfl) dX3_readBuffer_33 ⟨Nat.zero_le _, Nat.zero_le _⟩ (fun v_ w1 H locs hw hP hD hS => ?_)
          rcases hw with ⟨e_, rfl, rfl⟩ | ⟨z1, e_, rfl, rfl⟩
          · skip
            refine W.eq (g2 := F0 m 36 ls [.int 0]) rfl ?_
            refine ic_if_ne (tgt := 41) hx hb dX3_readBuffer_36 (by decide) (fun c_3 => ?_) (fun c_3 => ?_)
            · skip
              exact absurd c_3 (by decide)
            · skip
              refine lv_iload_n hx hb dX3_readBuffer_39 rfl (lv_at hl 1 rfl) ?_
              refine wr_iret hx hb hr hlocks hAe hP hD hS ?_ dX3_readBuffer_40
              exact ⟨congrArg (fun r : Nat × NK => some (Value.int (nI r.1))) ((nRun_none c_1 e_).symm.trans g_2), congrArg (fun r : Nat × NK => wX C a σ (eK r.2)) ((nRun_none c_1 e_).symm.trans g_2)⟩
          · skip
            refine W.eq (g2 := F0 m 36 ls [.int 1]) rfl ?_
            refine ic_if_ne (tgt := 41) hx hb dX3_readBuffer_36 (by decide) (fun c_4 => ?_) (fun c_4 => ?_)
            · skip
              refine lv_iinc (v := nI (k + 1)) (lv' := [(1, .int (nI (k + 1))), (0, .ref (a 0))]) hx hb dX3_readBuffer_41 hl (k := 1) rfl (nI_add k 1) (by decide) rfl (fun ls hl => ?_)
              refine lv_goto (tgt := 9) hx hb dX3_readBuffer_44 (by decide) ?_
              exact ih (k + 1) z1 (by omega) (by omega) (by rw [← g_2]; exact (nRun_some c_1 e_).symm) (nSt_ok g_3 e_) H locs hP hD hS ls (lv_sub hl [1, 0] rfl)
            · skip
              exact absurd c_4 (by decide)
  exact key9 (g_bl σ + 1) 0 (n0 (k_nu κ)) (by omega) (Nat.zero_le _) rfl (n0_ok 0 _) H locs hP hD hS ls (lv_sub hl [1, 0] rfl)
