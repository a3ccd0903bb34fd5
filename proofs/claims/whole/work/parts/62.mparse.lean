set_option maxHeartbeats 4000000 in
set_option maxRecDepth 100000 in
theorem m_gr0 (l : Launch) (G : va_G) (C : Nat → ClassId) (b : Nat → Nat) (σ : SG) (ρ : KM)  : RdC l yX4_greatest wsX4_greatest ({ frames := 0, cells := 0, slots := 0, locals := 0 } : Room) G (tysC C) (wM C b σ ρ) [.int 0] (.long (lN (grT 0))) := by
  refine Met.ofW (cc := cX4_greatest) (maxL := 1) (ret := (some .long)) (by decide) rfl ?_
  intro p e s m args below meth c s₁ B hml hv
  obtain ⟨rfl, hP, hK, hN⟩ := hv
  have hx := B.exec
  have hb := B.bytes
  have hr := B.returns
  have hts := atoms_spec (ws := wsX4_greatest) B.pre
  have hown : s.vm.findClass RX4 = some m.cls := findClass_of_methodNamed B.named
  have hlocks := B.notSynchronized
  have hP : va_P G vwCl (wM C b σ ρ) s.heap := hP
  have hl := lv_entry ([.int 0]) (n := 1) (Nat.le_of_ble_eq_true rfl)
  rw [lg_entry_eq]
  generalize (lg_sl ([.int 0]) ++ List.replicate (1 - (lg_sl ([.int 0])).length) Slot.unset).toArray = ls at hl ⊢
  have hl : lv_has ls 1 [(0, .int 0)] := hl
  refine lv_iload_n hx hb dX4_greatest_0 rfl (lv_at hl 0 rfl) ?_
  refine lv_tableIn (off := 31) (tgt := 32) hx hb dX4_greatest_1 (by decide) (by decide) (by decide) (by decide) ?_
  refine lv_ldc2 (v := 30000) hx hb hown (hts (.constantLong RX4 53 (30000)) (by decide +kernel)) dX4_greatest_32 ?_
  exact rd_lret hx hb hr hlocks (rfl) dX4_greatest_35

set_option maxHeartbeats 4000000 in
set_option maxRecDepth 100000 in
theorem m_gr1 (l : Launch) (G : va_G) (C : Nat → ClassId) (b : Nat → Nat) (σ : SG) (ρ : KM)  : RdC l yX4_greatest wsX4_greatest ({ frames := 0, cells := 0, slots := 0, locals := 0 } : Room) G (tysC C) (wM C b σ ρ) [.int 1] (.long (lN (grT 1))) := by
  refine Met.ofW (cc := cX4_greatest) (maxL := 1) (ret := (some .long)) (by decide) rfl ?_
  intro p e s m args below meth c s₁ B hml hv
  obtain ⟨rfl, hP, hK, hN⟩ := hv
  have hx := B.exec
  have hb := B.bytes
  have hr := B.returns
  have hts := atoms_spec (ws := wsX4_greatest) B.pre
  have hown : s.vm.findClass RX4 = some m.cls := findClass_of_methodNamed B.named
  have hlocks := B.notSynchronized
  have hP : va_P G vwCl (wM C b σ ρ) s.heap := hP
  have hl := lv_entry ([.int 1]) (n := 1) (Nat.le_of_ble_eq_true rfl)
  rw [lg_entry_eq]
  generalize (lg_sl ([.int 1]) ++ List.replicate (1 - (lg_sl ([.int 1])).length) Slot.unset).toArray = ls at hl ⊢
  have hl : lv_has ls 1 [(0, .int 1)] := hl
  refine lv_iload_n hx hb dX4_greatest_0 rfl (lv_at hl 0 rfl) ?_
  refine lv_tableIn (off := 35) (tgt := 36) hx hb dX4_greatest_1 (by decide) (by decide) (by decide) (by decide) ?_
  refine lv_ldc2 (v := 9999999) hx hb hown (hts (.constantLong RX4 55 (9999999)) (by decide +kernel)) dX4_greatest_36 ?_
  exact rd_lret hx hb hr hlocks (rfl) dX4_greatest_39

set_option maxHeartbeats 4000000 in
set_option maxRecDepth 100000 in
theorem m_gr2 (l : Launch) (G : va_G) (C : Nat → ClassId) (b : Nat → Nat) (σ : SG) (ρ : KM)  : RdC l yX4_greatest wsX4_greatest ({ frames := 0, cells := 0, slots := 0, locals := 0 } : Room) G (tysC C) (wM C b σ ρ) [.int 2] (.long (lN (grT 2))) := by
  refine Met.ofW (cc := cX4_greatest) (maxL := 1) (ret := (some .long)) (by decide) rfl ?_
  intro p e s m args below meth c s₁ B hml hv
  obtain ⟨rfl, hP, hK, hN⟩ := hv
  have hx := B.exec
  have hb := B.bytes
  have hr := B.returns
  have hts := atoms_spec (ws := wsX4_greatest) B.pre
  have hown : s.vm.findClass RX4 = some m.cls := findClass_of_methodNamed B.named
  have hlocks := B.notSynchronized
  have hP : va_P G vwCl (wM C b σ ρ) s.heap := hP
  have hl := lv_entry ([.int 2]) (n := 1) (Nat.le_of_ble_eq_true rfl)
  rw [lg_entry_eq]
  generalize (lg_sl ([.int 2]) ++ List.replicate (1 - (lg_sl ([.int 2])).length) Slot.unset).toArray = ls at hl ⊢
  have hl : lv_has ls 1 [(0, .int 2)] := hl
  refine lv_iload_n hx hb dX4_greatest_0 rfl (lv_at hl 0 rfl) ?_
  refine lv_tableIn (off := 39) (tgt := 40) hx hb dX4_greatest_1 (by decide) (by decide) (by decide) (by decide) ?_
  refine lv_ldc2 (v := 20000) hx hb hown (hts (.constantLong RX4 57 (20000)) (by decide +kernel)) dX4_greatest_40 ?_
  exact rd_lret hx hb hr hlocks (rfl) dX4_greatest_43

set_option maxHeartbeats 4000000 in
set_option maxRecDepth 100000 in
theorem m_gr3 (l : Launch) (G : va_G) (C : Nat → ClassId) (b : Nat → Nat) (σ : SG) (ρ : KM)  : RdC l yX4_greatest wsX4_greatest ({ frames := 0, cells := 0, slots := 0, locals := 0 } : Room) G (tysC C) (wM C b σ ρ) [.int 3] (.long (lN (grT 3))) := by
  refine Met.ofW (cc := cX4_greatest) (maxL := 1) (ret := (some .long)) (by decide) rfl ?_
  intro p e s m args below meth c s₁ B hml hv
  obtain ⟨rfl, hP, hK, hN⟩ := hv
  have hx := B.exec
  have hb := B.bytes
  have hr := B.returns
  have hts := atoms_spec (ws := wsX4_greatest) B.pre
  have hown : s.vm.findClass RX4 = some m.cls := findClass_of_methodNamed B.named
  have hlocks := B.notSynchronized
  have hP : va_P G vwCl (wM C b σ ρ) s.heap := hP
  have hl := lv_entry ([.int 3]) (n := 1) (Nat.le_of_ble_eq_true rfl)
  rw [lg_entry_eq]
  generalize (lg_sl ([.int 3]) ++ List.replicate (1 - (lg_sl ([.int 3])).length) Slot.unset).toArray = ls at hl ⊢
  have hl : lv_has ls 1 [(0, .int 3)] := hl
  refine lv_iload_n hx hb dX4_greatest_0 rfl (lv_at hl 0 rfl) ?_
  refine lv_tableIn (off := 43) (tgt := 44) hx hb dX4_greatest_1 (by decide) (by decide) (by decide) (by decide) ?_
  refine lv_ldc2 (v := 100000) hx hb hown (hts (.constantLong RX4 59 (100000)) (by decide +kernel)) dX4_greatest_44 ?_
  exact rd_lret hx hb hr hlocks (rfl) dX4_greatest_47

set_option maxHeartbeats 4000000 in
set_option maxRecDepth 100000 in
theorem m_gr4 (l : Launch) (G : va_G) (C : Nat → ClassId) (b : Nat → Nat) (σ : SG) (ρ : KM)  : RdC l yX4_greatest wsX4_greatest ({ frames := 0, cells := 0, slots := 0, locals := 0 } : Room) G (tysC C) (wM C b σ ρ) [.int 4] (.long (lN (grT 4))) := by
  refine Met.ofW (cc := cX4_greatest) (maxL := 1) (ret := (some .long)) (by decide) rfl ?_
  intro p e s m args below meth c s₁ B hml hv
  obtain ⟨rfl, hP, hK, hN⟩ := hv
  have hx := B.exec
  have hb := B.bytes
  have hr := B.returns
  have hts := atoms_spec (ws := wsX4_greatest) B.pre
  have hown : s.vm.findClass RX4 = some m.cls := findClass_of_methodNamed B.named
  have hlocks := B.notSynchronized
  have hP : va_P G vwCl (wM C b σ ρ) s.heap := hP
  have hl := lv_entry ([.int 4]) (n := 1) (Nat.le_of_ble_eq_true rfl)
  rw [lg_entry_eq]
  generalize (lg_sl ([.int 4]) ++ List.replicate (1 - (lg_sl ([.int 4])).length) Slot.unset).toArray = ls at hl ⊢
  have hl : lv_has ls 1 [(0, .int 4)] := hl
  refine lv_iload_n hx hb dX4_greatest_0 rfl (lv_at hl 0 rfl) ?_
  refine lv_tableOut (tgt := 48) hx hb dX4_greatest_1 (by decide) (by decide) ?_
  refine lv_ldc2 (v := 200000) hx hb hown (hts (.constantLong RX4 61 (200000)) (by decide +kernel)) dX4_greatest_48 ?_
  exact rd_lret hx hb hr hlocks (rfl) dX4_greatest_51

theorem m_great (l : Launch) (G : va_G) (C : Nat → ClassId) (b : Nat → Nat) (σ : SG) (ρ : KM) {q : Nat} (hq : q < 5) : RdC l yX4_greatest wsX4_greatest ({ frames := 0, cells := 0, slots := 0, locals := 0 } : Room) G (tysC C) (wM C b σ ρ) [.int (nI q)] (.long (lN (grT q))) :=
  match q, hq with
  | 0, _ => m_gr0 l G C b σ ρ
  | 1, _ => m_gr1 l G C b σ ρ
  | 2, _ => m_gr2 l G C b σ ρ
  | 3, _ => m_gr3 l G C b σ ρ
  | 4, _ => m_gr4 l G C b σ ρ

set_option maxHeartbeats 4000000 in
set_option maxRecDepth 100000 in
theorem m_parse (l : Launch) (G : va_G) (C : Nat → ClassId) (b : Nat → Nat) (σ : SG) (ρ : KM) (hbl : g_bl σ ≤ 40) : WrC l yX4_parse wsX4_parse ({ frames := 1, cells := 0, slots := 0, locals := 25 } : Room) G (tysC C) (wM C b σ ρ) [.ref (b 0)] (pP C b σ ρ) := by
  intro sz
  refine Met.ofW (cc := cX4_parse) (maxL := 10) (ret := none) (by decide) rfl ?_
  intro p e s m args below meth c s₁ B hml hv
  obtain ⟨rfl, hsz, hP, hK, hN, hD0⟩ := hv
  have hx := B.exec
  have hb := B.bytes
  have hr := B.returns
  have hts := atoms_spec (ws := wsX4_parse) B.pre
  have hown : s.vm.findClass RX4 = some m.cls := findClass_of_methodNamed B.named
  have hlocks := B.notSynchronized
  have hX4 : ∀ w ∈ wsX40, w ∈ wsX4_parse := by decide +kernel
  subst hsz
  have hD := hD0.self (sz := s.heap.size)
  generalize hAe : va_A (wM C b σ ρ) s.heap.size = A at hD ⊢
  have hA : ∀ q : Nat, s.heap.size ≤ q → A q := fun q h => by rw [← hAe]; exact Or.inr h
  have hS : va_S A s.heap s.heap [] := va_S.rf
  have hP : va_P G vwCl (wM C b σ ρ) s.heap := hP
  have hl := lv_entry ([.ref (b 0)]) (n := 10) (Nat.le_of_ble_eq_true rfl)
  rw [lg_entry_eq]
  generalize (lg_sl ([.ref (b 0)]) ++ List.replicate (10 - (lg_sl ([.ref (b 0)])).length) Slot.unset).toArray = ls at hl ⊢
  have hl : lv_has ls 10 [(0, .ref (b 0))] := hl
  refine lv_iconst (v := 0) hx hb dX4_parse_0 (by decide) ?_
  refine lv_istore_n (lv' := [(1, .int 0), (0, .ref (b 0))]) hx hb dX4_parse_1 rfl hl (by decide) rfl (fun ls hl => ?_)
  refine lv_iconst (v := 0) hx hb dX4_parse_2 (by decide) ?_
  refine lv_istore_n (lv' := [(2, .int 0), (1, .int 0), (0, .ref (b 0))]) hx hb dX4_parse_3 rfl hl (by decide) rfl (fun ls hl => ?_)
  refine lv_iconst (v := 0) hx hb dX4_parse_4 (by decide) ?_
  refine lv_istore_n (lv' := [(3, .int 0), (2, .int 0), (1, .int 0), (0, .ref (b 0))]) hx hb dX4_parse_5 rfl hl (by decide) rfl (fun ls hl => ?_)
  refine lv_lconst (v := 0) hx hb dX4_parse_6 (by decide) ?_
  refine lv_lstore (lv' := [(4, .long 0), (3, .int 0), (2, .int 0), (1, .int 0), (0, .ref (b 0))]) hx hb dX4_parse_7 hl (by decide) rfl (fun ls hl => ?_)
  refine lv_aload_n hx hb dX4_parse_9 rfl (lv_at hl 4 rfl) ?_
  refine lv_iconst (v := 0) hx hb dX4_parse_10 (by decide) ?_
  refine va_put (D := G) (ci := 4) (v := .int 0) (ty := .int) (C := RX4) (T := TX4) (N := 13) hx hb hts hX4 tyX4 tyX4_ok nmX4 hown hK hP hD hS (0) wM_e0 rfl 10 (by decide) (hts (.fieldLink RX4 63 "DraftSurveyModel" "errorAt" "I") (by decide +kernel)) (fun _ h9 => h9) rfl (by decide +kernel) rfl rfl (Nat.le_of_ble_eq_true rfl) dX4_parse_11 (fun H locs hP hD hS => ?_)
  have hP : va_P G vwCl (wM C b σ (x_er ρ 0)) H := hP
  have hD : va_D A (wM C b σ (x_er ρ 0)) := hD
  refine lv_iconst (v := 1) hx hb dX4_parse_14 (by decide) ?_
  refine lv_istore (lv' := [(6, .int 1), (4, .long 0), (3, .int 0), (2, .int 0), (1, .int 0), (0, .ref (b 0))]) hx hb dX4_parse_15 hl (by decide) rfl (fun ls hl => ?_)
  have key17 : ∀ (n_ : Nat) (k : Nat) (zv : NK), g_bl σ + 1 ≤ k + n_ → k ≤ g_bl σ → nRun (g_bf σ) k (g_bl σ - k) zv = nRun (g_bf σ) 0 (g_bl σ) (n0 (m_rd ρ)) → nOk k zv → ∀ (H : Heap) (locs : List Loc), va_P G vwCl (wM C b σ (z_nu zv, nI k, m_ir ρ, m_h ρ)) H → va_D A (wM C b σ (z_nu zv, nI k, m_ir ρ, m_h ρ)) → va_S A s.heap H locs → ∀ ls : Array Slot, lv_has ls 10 [(0, .ref (b 0)), (1, .int (nI (z_pl zv))), (2, .int (nI (z_dg zv))), (3, .int (nI (z_ng zv))), (4, .long (lN (z_mg zv))), (6, .int 1)] → W p l e (headSpec wsX4_parse ({ frames := 1, cells := 0, slots := 0, locals := 25 } : Room)).room s m ([.ref (b 0)] : List Value).toArray below meth c H locs 0 0 (MQ below (QW G (wM C b σ ρ) s.heap.size (pP C b σ ρ)) ([.ref (b 0)] : List Value).toArray s 0 0 A) (F0 m 17 ls []) := by
    intro n_
    induction n_ with
    | zero =>
      intro k zv g_0 g_1 g_2 g_3 H locs hP hD hS ls hl
      exact absurd g_0 (by omega)
    | succ n_ ih =>
      intro k zv g_0 g_1 g_2 g_3 H locs hP hD hS ls hl
      obtain ⟨nu, pn, dn, gn, mn⟩ := zv
      have g_3p := g_3
      obtain ⟨hp, hd0, hg, hm⟩ := g_3p
      have hp : pn < 5 := hp
      have hd : dn ≤ 40 := by have : dn ≤ k := hd0; omega
      have hg : gn ≤ 1 := hg
      have hm : mn ≤ 9999999 := hm
      have hl : lv_has ls 10 [(0, .ref (b 0)), (1, .int (nI pn)), (2, .int (nI dn)), (3, .int (nI gn)), (4, .long (lN mn)), (6, .int 1)] := hl
      have hP : va_P G vwCl (wM C b σ (nu, nI k, m_ir ρ, m_h ρ)) H := hP
      have hD : va_D A (wM C b σ (nu, nI k, m_ir ρ, m_h ρ)) := hD
      refine lv_iload hx hb dX4_parse_17 (lv_at hl 5 rfl) ?_
      refine lv_if_eq (tgt := 255) hx hb dX4_parse_19 (by decide) (fun c_1 => ?_) (fun c_1 => ?_)
      · skip
        exact absurd c_1 (by decide)
      · skip
        refine lv_aload_n hx hb dX4_parse_22 rfl (lv_at hl 0 rfl) ?_
        refine va_get (D := G) (ci := 4) (v := .int (nI k)) (C := RX4) (T := TX4) (N := 13) hx hb hts hX4 hown hK hP (0) wM_e0 rfl 10 (by decide) (hts (.fieldLink RX4 63 "DraftSurveyModel" "errorAt" "I") (by decide +kernel)) (fun _ h9 => h9) rfl dX4_parse_23 ?_
        refine lv_aload_n hx hb dX4_parse_26 rfl (lv_at hl 0 rfl) ?_
        refine va_get (D := G) (ci := 4) (v := .int (nI (g_bl σ))) (C := RX4) (T := TX4) (N := 13) hx hb hts hX4 hown hK hP (0) wM_e0 rfl 0 (by decide) (hts (.fieldLink RX4 47 "DraftSurveyModel" "bufferLength" "I") (by decide +kernel)) (fun _ h9 => h9) rfl dX4_parse_27 ?_
        refine ic_ge (tgt := 255) hx hb dX4_parse_30 (by decide) (fun c_2 => ?_) (fun c_2 => ?_)
        · skip
          have c_2 : ¬ k < (g_bl σ) := fun z9 => c_2 ((nI_ltI (a := k) (b := (g_bl σ)) (by omega) (by omega)).mpr z9)
          refine lv_aload_n hx hb dX4_parse_255 rfl (lv_at hl 0 rfl) ?_
          refine lv_iload hx hb dX4_parse_256 (lv_at hl 5 rfl) ?_
          refine lv_if_eq (tgt := 274) hx hb dX4_parse_258 (by decide) (fun c_3 => ?_) (fun c_3 => ?_)
          · skip
            exact absurd c_3 (by decide)
          · skip
            refine lv_iload_n hx hb dX4_parse_261 rfl (lv_at hl 1 rfl) ?_
            refine lv_iconst (v := 4) hx hb dX4_parse_262 (by decide) ?_
            refine ic_ne (tgt := 274) hx hb dX4_parse_263 (by decide) (fun c_4 => ?_) (fun c_4 => ?_)
            · skip
              have c_4 : ¬ pn = 4 := fun z9 => c_4 ((nI_eq (a := pn) (b := 4) (by omega) (by omega)).mpr z9)
              refine lv_iconst (v := 0) hx hb dX4_parse_274 (by decide) ?_
              refine va_put (D := G) (ci := 4) (v := .int 0) (ty := .boolean) (C := RX4) (T := TX4) (N := 13) hx hb hts hX4 tyX4 tyX4_ok nmX4 hown hK hP hD hS (0) wM_e0 rfl 11 (by decide) (hts (.fieldLink RX4 76 "DraftSurveyModel" "isRow" "Z") (by decide +kernel)) (fun _ h9 => h9) rfl (by decide +kernel) (bl_nar (Or.inl rfl)) (bl_fit (Or.inl rfl)) (Nat.le_of_ble_eq_true rfl) dX4_parse_275 (fun H locs hP hD hS => ?_)
              have hP : va_P G vwCl (wM C b σ (x_ir (nu, nI k, m_ir ρ, m_h ρ) 0)) H := hP
              have hD : va_D A (wM C b σ (x_ir (nu, nI k, m_ir ρ, m_h ρ) 0)) := hD
              refine wr_vret hx hb hr hlocks hAe hP hD hS ?_ dX4_parse_278
              exact pP_of (f := nu) (i := 0) (g_2.symm.trans (nRun_end c_2)) (if_neg (fun q => by have q1 : pn = 4 := q.2.1; have q2 : 0 < dn := q.2.2; omega)) (fun _ => rfl)
            · skip
              have c_4 : pn = 4 := (nI_eq (a := pn) (b := 4) (by omega) (by omega)).mp c_4
              refine lv_iload_n hx hb dX4_parse_266 rfl (lv_at hl 2 rfl) ?_
              refine ic_if_le (tgt := 274) hx hb dX4_parse_267 (by decide) (fun c_5 => ?_) (fun c_5 => ?_)
              · skip
                have c_5 : ¬ 0 < dn := fun z9 => c_5 ((nI_ltI (a := 0) (b := dn) (by omega) (by omega)).mpr z9)
                refine lv_iconst (v := 0) hx hb dX4_parse_274 (by decide) ?_
                refine va_put (D := G) (ci := 4) (v := .int 0) (ty := .boolean) (C := RX4) (T := TX4) (N := 13) hx hb hts hX4 tyX4 tyX4_ok nmX4 hown hK hP hD hS (0) wM_e0 rfl 11 (by decide) (hts (.fieldLink RX4 76 "DraftSurveyModel" "isRow" "Z") (by decide +kernel)) (fun _ h9 => h9) rfl (by decide +kernel) (bl_nar (Or.inl rfl)) (bl_fit (Or.inl rfl)) (Nat.le_of_ble_eq_true rfl) dX4_parse_275 (fun H locs hP hD hS => ?_)
                have hP : va_P G vwCl (wM C b σ (x_ir (nu, nI k, m_ir ρ, m_h ρ) 0)) H := hP
                have hD : va_D A (wM C b σ (x_ir (nu, nI k, m_ir ρ, m_h ρ) 0)) := hD
                refine wr_vret hx hb hr hlocks hAe hP hD hS ?_ dX4_parse_278
                exact pP_of (f := nu) (i := 0) (g_2.symm.trans (nRun_end c_2)) (if_neg (fun q => by have q1 : pn = 4 := q.2.1; have q2 : 0 < dn := q.2.2; omega)) (fun _ => rfl)
              · skip
                have c_5 : 0 < dn := (nI_ltI (a := 0) (b := dn) (by omega) (by omega)).mp c_5
                refine lv_iconst (v := 1) hx hb dX4_parse_270 (by decide) ?_
                refine lv_goto (tgt := 275) hx hb dX4_parse_271 (by decide) ?_
                refine va_put (D := G) (ci := 4) (v := .int 1) (ty := .boolean) (C := RX4) (T := TX4) (N := 13) hx hb hts hX4 tyX4 tyX4_ok nmX4 hown hK hP hD hS (0) wM_e0 rfl 11 (by decide) (hts (.fieldLink RX4 76 "DraftSurveyModel" "isRow" "Z") (by decide +kernel)) (fun _ h9 => h9) rfl (by decide +kernel) (bl_nar (Or.inr rfl)) (bl_fit (Or.inr rfl)) (Nat.le_of_ble_eq_true rfl) dX4_parse_275 (fun H locs hP hD hS => ?_)
                have hP : va_P G vwCl (wM C b σ (x_ir (nu, nI k, m_ir ρ, m_h ρ) 1)) H := hP
                have hD : va_D A (wM C b σ (x_ir (nu, nI k, m_ir ρ, m_h ρ) 1)) := hD
                refine wr_vret hx hb hr hlocks hAe hP hD hS ?_ dX4_parse_278
                exact pP_of (f := nu) (i := 1) (g_2.symm.trans (nRun_end c_2)) (if_pos ⟨by omega, by show pn = 4; omega, by show 0 < dn; omega⟩) (fun _ => rfl)
        · skip
          have c_2 : k < (g_bl σ) := (nI_ltI (a := k) (b := (g_bl σ)) (by omega) (by omega)).mp c_2
          refine lv_aload_n hx hb dX4_parse_33 rfl (lv_at hl 0 rfl) ?_
          refine va_get (D := G) (ci := 4) (v := .ref (b 1)) (C := RX4) (T := TX4) (N := 13) hx hb hts hX4 hown hK hP (0) wM_e0 rfl 1 (by decide) (hts (.fieldLink RX4 7 "DraftSurveyModel" "buffer" "[I") (by decide +kernel)) (fun _ h9 => h9) rfl dX4_parse_34 ?_
          refine lv_aload_n hx hb dX4_parse_37 rfl (lv_at hl 0 rfl) ?_
          refine va_get (D := G) (ci := 4) (v := .int (nI k)) (C := RX4) (T := TX4) (N := 13) hx hb hts hX4 hown hK hP (0) wM_e0 rfl 10 (by decide) (hts (.fieldLink RX4 63 "DraftSurveyModel" "errorAt" "I") (by decide +kernel)) (fun _ h9 => h9) rfl dX4_parse_38 ?_
          refine ar_i (k := k) (v := g_bf σ k) hx hb hK hP (1) 0 wM_e1 rfl rfl (by omega) (by decide) rfl dX4_parse_41 ?_
          refine lv_topi (fun ch hch => ?_)
          refine lv_istore (lv' := [(7, .int ch), (0, .ref (b 0)), (1, .int (nI pn)), (2, .int (nI dn)), (3, .int (nI gn)), (4, .long (lN mn)), (6, .int 1)]) hx hb dX4_parse_42 hl (by decide) rfl (fun ls hl => ?_)
          refine lv_iload hx hb dX4_parse_44 (lv_at hl 0 rfl) ?_
          refine lv_i2l (v := ch.toInt64) hx hb dX4_parse_46 rfl ?_
          refine lv_ldc2 (v := 48) hx hb hown (hts (.constantLong RX4 66 (48)) (by decide +kernel)) dX4_parse_47 ?_
          refine lv_ldc2 (v := 57) hx hb hown (hts (.constantLong RX4 68 (57)) (by decide +kernel)) dX4_parse_50 ?_
          refine rd_callS (As := [.long ch.toInt64, .long 48, .long 57]) (rest := []) ⟨hx, hb, hml, hown, hts⟩ (m_within l G C b σ (nu, nI k, m_ir ρ, m_h ρ) ch.toInt64 48 57) (va_cwS 3 hts gX4_parse_X4_within rfl rfl rfl (by decide +kernel) ⟨Nat.le_of_ble_eq_true rfl, Nat.le_of_ble_eq_true rfl⟩) hK hN hP rfl hl.1 rfl (Nat.le_of_ble_eq_true rfl) dX4_parse_53 ⟨Nat.zero_le _, Nat.zero_le _⟩ ?_
          refine br_beq (tgt := 175) hx hb dX4_parse_56 (by decide) (fun c_6 => ?_) (fun c_6 => ?_)
          · skip
            refine lv_iload hx hb dX4_parse_175 (lv_at hl 0 rfl) ?_
            refine lv_bipush (v := 44) hx hb dX4_parse_177 (by decide) ?_
            refine ic_ne (tgt := 204) hx hb dX4_parse_179 (by decide) (fun c_7 => ?_) (fun c_7 => ?_)
            · skip
              refine lv_iload hx hb dX4_parse_204 (lv_at hl 0 rfl) ?_
              refine lv_bipush (v := 45) hx hb dX4_parse_206 (by decide) ?_
              refine ic_ne (tgt := 228) hx hb dX4_parse_208 (by decide) (fun c_8 => ?_) (fun c_8 => ?_)
              · skip
                refine lv_iconst (v := 0) hx hb dX4_parse_228 (by decide) ?_
                refine lv_istore (lv' := [(6, .int 0), (7, .int ch), (0, .ref (b 0)), (1, .int (nI pn)), (2, .int (nI dn)), (3, .int (nI gn)), (4, .long (lN mn))]) hx hb dX4_parse_229 hl (by decide) rfl (fun ls hl => ?_)
                refine lv_iconst (v := 1) hx hb dX4_parse_231 (by decide) ?_
                refine lv_istore_n (lv' := [(3, .int 1), (6, .int 0), (7, .int ch), (0, .ref (b 0)), (1, .int (nI pn)), (2, .int (nI dn)), (4, .long (lN mn))]) hx hb dX4_parse_232 rfl hl (by decide) rfl (fun ls hl => ?_)
                refine lv_aload_n hx hb dX4_parse_233 rfl (lv_at hl 3 rfl) ?_
                refine lv_dup hx hb dX4_parse_234 rfl ?_
                refine va_get (D := G) (ci := 4) (v := .int (nI k)) (C := RX4) (T := TX4) (N := 13) hx hb hts hX4 hown hK hP (0) wM_e0 rfl 10 (by decide) (hts (.fieldLink RX4 63 "DraftSurveyModel" "errorAt" "I") (by decide +kernel)) (fun _ h9 => h9) rfl dX4_parse_235 ?_
                refine lv_iload hx hb dX4_parse_238 (lv_at hl 1 rfl) ?_
                refine lv_if_eq (tgt := 247) hx hb dX4_parse_240 (by decide) (fun c_9 => ?_) (fun c_9 => ?_)
                · skip
                  refine lv_iconst (v := 0) hx hb dX4_parse_247 (by decide) ?_
                  refine lv_iadd hx hb dX4_parse_248 ?_
                  refine tp_i (v := nI (k + 0)) (nI_add k 0) ?_
                  refine va_put (D := G) (ci := 4) (v := .int (nI (k + 0))) (ty := .int) (C := RX4) (T := TX4) (N := 13) hx hb hts hX4 tyX4 tyX4_ok nmX4 hown hK hP hD hS (0) wM_e0 rfl 10 (by decide) (hts (.fieldLink RX4 63 "DraftSurveyModel" "errorAt" "I") (by decide +kernel)) (fun _ h9 => h9) rfl (by decide +kernel) rfl rfl (Nat.le_of_ble_eq_true rfl) dX4_parse_249 (fun H locs hP hD hS => ?_)
                  have hP : va_P G vwCl (wM C b σ (x_er (nu, nI k, m_ir ρ, m_h ρ) (nI (k + 0)))) H := hP
                  have hD : va_D A (wM C b σ (x_er (nu, nI k, m_ir ρ, m_h ρ) (nI (k + 0)))) := hD
                  refine lv_goto (tgt := 17) hx hb dX4_parse_252 (by decide) ?_
                  refine lv_iload hx hb dX4_parse_17 (lv_at hl 1 rfl) ?_
                  refine lv_if_eq (tgt := 255) hx hb dX4_parse_19 (by decide) (fun c_10 => ?_) (fun c_10 => ?_)
                  · skip
                    refine lv_aload_n hx hb dX4_parse_255 rfl (lv_at hl 3 rfl) ?_
                    refine lv_iload hx hb dX4_parse_256 (lv_at hl 1 rfl) ?_
                    refine lv_if_eq (tgt := 274) hx hb dX4_parse_258 (by decide) (fun c_11 => ?_) (fun c_11 => ?_)
                    · skip
                      refine lv_iconst (v := 0) hx hb dX4_parse_274 (by decide) ?_
                      refine va_put (D := G) (ci := 4) (v := .int 0) (ty := .boolean) (C := RX4) (T := TX4) (N := 13) hx hb hts hX4 tyX4 tyX4_ok nmX4 hown hK hP hD hS (0) wM_e0 rfl 11 (by decide) (hts (.fieldLink RX4 76 "DraftSurveyModel" "isRow" "Z") (by decide +kernel)) (fun _ h9 => h9) rfl (by decide +kernel) (bl_nar (Or.inl rfl)) (bl_fit (Or.inl rfl)) (Nat.le_of_ble_eq_true rfl) dX4_parse_275 (fun H locs hP hD hS => ?_)
                      have hP : va_P G vwCl (wM C b σ (x_ir (x_er (nu, nI k, m_ir ρ, m_h ρ) (nI (k + 0))) 0)) H := hP
                      have hD : va_D A (wM C b σ (x_ir (x_er (nu, nI k, m_ir ρ, m_h ρ) (nI (k + 0))) 0)) := hD
                      refine wr_vret hx hb hr hlocks hAe hP hD hS ?_ dX4_parse_278
                      exact pP_of (f := nu) (i := 0) (g_2.symm.trans (nRun_none c_2 (st_no hch (wb_3 c_6) (fun q => absurd q c_7) (fun q => absurd q c_8)))) (if_neg (fun q => absurd q.1 (by omega))) (fun q => absurd q (by omega))
                    · skip
                      exact absurd c_11 (by decide)
                  · skip
                    exact absurd c_10 (by decide)
                · skip
                  exact absurd c_9 (by decide)
              · skip
                refine lv_iload_n hx hb dX4_parse_211 rfl (lv_at hl 2 rfl) ?_
                refine lv_iconst (v := 3) hx hb dX4_parse_212 (by decide) ?_
                refine ic_ne (tgt := 228) hx hb dX4_parse_213 (by decide) (fun c_12 => ?_) (fun c_12 => ?_)
                · skip
                  have c_12 : ¬ pn = 3 := fun z9 => c_12 ((nI_eq (a := pn) (b := 3) (by omega) (by omega)).mpr z9)
                  refine lv_iconst (v := 0) hx hb dX4_parse_228 (by decide) ?_
                  refine lv_istore (lv' := [(6, .int 0), (7, .int ch), (0, .ref (b 0)), (1, .int (nI pn)), (2, .int (nI dn)), (3, .int (nI gn)), (4, .long (lN mn))]) hx hb dX4_parse_229 hl (by decide) rfl (fun ls hl => ?_)
                  refine lv_iconst (v := 1) hx hb dX4_parse_231 (by decide) ?_
                  refine lv_istore_n (lv' := [(3, .int 1), (6, .int 0), (7, .int ch), (0, .ref (b 0)), (1, .int (nI pn)), (2, .int (nI dn)), (4, .long (lN mn))]) hx hb dX4_parse_232 rfl hl (by decide) rfl (fun ls hl => ?_)
                  refine lv_aload_n hx hb dX4_parse_233 rfl (lv_at hl 3 rfl) ?_
                  refine lv_dup hx hb dX4_parse_234 rfl ?_
                  refine va_get (D := G) (ci := 4) (v := .int (nI k)) (C := RX4) (T := TX4) (N := 13) hx hb hts hX4 hown hK hP (0) wM_e0 rfl 10 (by decide) (hts (.fieldLink RX4 63 "DraftSurveyModel" "errorAt" "I") (by decide +kernel)) (fun _ h9 => h9) rfl dX4_parse_235 ?_
                  refine lv_iload hx hb dX4_parse_238 (lv_at hl 1 rfl) ?_
                  refine lv_if_eq (tgt := 247) hx hb dX4_parse_240 (by decide) (fun c_13 => ?_) (fun c_13 => ?_)
                  · skip
                    refine lv_iconst (v := 0) hx hb dX4_parse_247 (by decide) ?_
                    refine lv_iadd hx hb dX4_parse_248 ?_
                    refine tp_i (v := nI (k + 0)) (nI_add k 0) ?_
                    refine va_put (D := G) (ci := 4) (v := .int (nI (k + 0))) (ty := .int) (C := RX4) (T := TX4) (N := 13) hx hb hts hX4 tyX4 tyX4_ok nmX4 hown hK hP hD hS (0) wM_e0 rfl 10 (by decide) (hts (.fieldLink RX4 63 "DraftSurveyModel" "errorAt" "I") (by decide +kernel)) (fun _ h9 => h9) rfl (by decide +kernel) rfl rfl (Nat.le_of_ble_eq_true rfl) dX4_parse_249 (fun H locs hP hD hS => ?_)
                    have hP : va_P G vwCl (wM C b σ (x_er (nu, nI k, m_ir ρ, m_h ρ) (nI (k + 0)))) H := hP
                    have hD : va_D A (wM C b σ (x_er (nu, nI k, m_ir ρ, m_h ρ) (nI (k + 0)))) := hD
                    refine lv_goto (tgt := 17) hx hb dX4_parse_252 (by decide) ?_
                    refine lv_iload hx hb dX4_parse_17 (lv_at hl 1 rfl) ?_
                    refine lv_if_eq (tgt := 255) hx hb dX4_parse_19 (by decide) (fun c_14 => ?_) (fun c_14 => ?_)
                    · skip
                      refine lv_aload_n hx hb dX4_parse_255 rfl (lv_at hl 3 rfl) ?_
                      refine lv_iload hx hb dX4_parse_256 (lv_at hl 1 rfl) ?_
                      refine lv_if_eq (tgt := 274) hx hb dX4_parse_258 (by decide) (fun c_15 => ?_) (fun c_15 => ?_)
                      · skip
                        refine lv_iconst (v := 0) hx hb dX4_parse_274 (by decide) ?_
                        refine va_put (D := G) (ci := 4) (v := .int 0) (ty := .boolean) (C := RX4) (T := TX4) (N := 13) hx hb hts hX4 tyX4 tyX4_ok nmX4 hown hK hP hD hS (0) wM_e0 rfl 11 (by decide) (hts (.fieldLink RX4 76 "DraftSurveyModel" "isRow" "Z") (by decide +kernel)) (fun _ h9 => h9) rfl (by decide +kernel) (bl_nar (Or.inl rfl)) (bl_fit (Or.inl rfl)) (Nat.le_of_ble_eq_true rfl) dX4_parse_275 (fun H locs hP hD hS => ?_)
                        have hP : va_P G vwCl (wM C b σ (x_ir (x_er (nu, nI k, m_ir ρ, m_h ρ) (nI (k + 0))) 0)) H := hP
                        have hD : va_D A (wM C b σ (x_ir (x_er (nu, nI k, m_ir ρ, m_h ρ) (nI (k + 0))) 0)) := hD
                        refine wr_vret hx hb hr hlocks hAe hP hD hS ?_ dX4_parse_278
                        exact pP_of (f := nu) (i := 0) (g_2.symm.trans (nRun_none c_2 (st_no hch (wb_3 c_6) (fun q => absurd q c_7) (fun _ => by omega)))) (if_neg (fun q => absurd q.1 (by omega))) (fun q => absurd q (by omega))
                      · skip
                        exact absurd c_15 (by decide)
                    · skip
                      exact absurd c_14 (by decide)
                  · skip
                    exact absurd c_13 (by decide)
                · skip
                  have c_12 : pn = 3 := (nI_eq (a := pn) (b := 3) (by omega) (by omega)).mp c_12
                  refine lv_iload_n hx hb dX4_parse_216 rfl (lv_at hl 3 rfl) ?_
                  refine ic_if_ne (tgt := 228) hx hb dX4_parse_217 (by decide) (fun c_16 => ?_) (fun c_16 => ?_)
                  · skip
                    have c_16 : ¬ dn = 0 := fun z9 => c_16 ((nI_eq (a := dn) (b := 0) (by omega) (by omega)).mpr z9)
                    refine lv_iconst (v := 0) hx hb dX4_parse_228 (by decide) ?_
                    refine lv_istore (lv' := [(6, .int 0), (7, .int ch), (0, .ref (b 0)), (1, .int (nI pn)), (2, .int (nI dn)), (3, .int (nI gn)), (4, .long (lN mn))]) hx hb dX4_parse_229 hl (by decide) rfl (fun ls hl => ?_)
                    refine lv_iconst (v := 1) hx hb dX4_parse_231 (by decide) ?_
                    refine lv_istore_n (lv' := [(3, .int 1), (6, .int 0), (7, .int ch), (0, .ref (b 0)), (1, .int (nI pn)), (2, .int (nI dn)), (4, .long (lN mn))]) hx hb dX4_parse_232 rfl hl (by decide) rfl (fun ls hl => ?_)
                    refine lv_aload_n hx hb dX4_parse_233 rfl (lv_at hl 3 rfl) ?_
                    refine lv_dup hx hb dX4_parse_234 rfl ?_
                    refine va_get (D := G) (ci := 4) (v := .int (nI k)) (C := RX4) (T := TX4) (N := 13) hx hb hts hX4 hown hK hP (0) wM_e0 rfl 10 (by decide) (hts (.fieldLink RX4 63 "DraftSurveyModel" "errorAt" "I") (by decide +kernel)) (fun _ h9 => h9) rfl dX4_parse_235 ?_
                    refine lv_iload hx hb dX4_parse_238 (lv_at hl 1 rfl) ?_
                    refine lv_if_eq (tgt := 247) hx hb dX4_parse_240 (by decide) (fun c_17 => ?_) (fun c_17 => ?_)
                    · skip
                      refine lv_iconst (v := 0) hx hb dX4_parse_247 (by decide) ?_
                      refine lv_iadd hx hb dX4_parse_248 ?_
                      refine tp_i (v := nI (k + 0)) (nI_add k 0) ?_
                      refine va_put (D := G) (ci := 4) (v := .int (nI (k + 0))) (ty := .int) (C := RX4) (T := TX4) (N := 13) hx hb hts hX4 tyX4 tyX4_ok nmX4 hown hK hP hD hS (0) wM_e0 rfl 10 (by decide) (hts (.fieldLink RX4 63 "DraftSurveyModel" "errorAt" "I") (by decide +kernel)) (fun _ h9 => h9) rfl (by decide +kernel) rfl rfl (Nat.le_of_ble_eq_true rfl) dX4_parse_249 (fun H locs hP hD hS => ?_)
                      have hP : va_P G vwCl (wM C b σ (x_er (nu, nI k, m_ir ρ, m_h ρ) (nI (k + 0)))) H := hP
                      have hD : va_D A (wM C b σ (x_er (nu, nI k, m_ir ρ, m_h ρ) (nI (k + 0)))) := hD
                      refine lv_goto (tgt := 17) hx hb dX4_parse_252 (by decide) ?_
                      refine lv_iload hx hb dX4_parse_17 (lv_at hl 1 rfl) ?_
                      refine lv_if_eq (tgt := 255) hx hb dX4_parse_19 (by decide) (fun c_18 => ?_) (fun c_18 => ?_)
                      · skip
                        refine lv_aload_n hx hb dX4_parse_255 rfl (lv_at hl 3 rfl) ?_
                        refine lv_iload hx hb dX4_parse_256 (lv_at hl 1 rfl) ?_
                        refine lv_if_eq (tgt := 274) hx hb dX4_parse_258 (by decide) (fun c_19 => ?_) (fun c_19 => ?_)
                        · skip
                          refine lv_iconst (v := 0) hx hb dX4_parse_274 (by decide) ?_
                          refine va_put (D := G) (ci := 4) (v := .int 0) (ty := .boolean) (C := RX4) (T := TX4) (N := 13) hx hb hts hX4 tyX4 tyX4_ok nmX4 hown hK hP hD hS (0) wM_e0 rfl 11 (by decide) (hts (.fieldLink RX4 76 "DraftSurveyModel" "isRow" "Z") (by decide +kernel)) (fun _ h9 => h9) rfl (by decide +kernel) (bl_nar (Or.inl rfl)) (bl_fit (Or.inl rfl)) (Nat.le_of_ble_eq_true rfl) dX4_parse_275 (fun H locs hP hD hS => ?_)
                          have hP : va_P G vwCl (wM C b σ (x_ir (x_er (nu, nI k, m_ir ρ, m_h ρ) (nI (k + 0))) 0)) H := hP
                          have hD : va_D A (wM C b σ (x_ir (x_er (nu, nI k, m_ir ρ, m_h ρ) (nI (k + 0))) 0)) := hD
                          refine wr_vret hx hb hr hlocks hAe hP hD hS ?_ dX4_parse_278
                          exact pP_of (f := nu) (i := 0) (g_2.symm.trans (nRun_none c_2 (st_no hch (wb_3 c_6) (fun q => absurd q c_7) (fun _ => by omega)))) (if_neg (fun q => absurd q.1 (by omega))) (fun q => absurd q (by omega))
                        · skip
                          exact absurd c_19 (by decide)
                      · skip
                        exact absurd c_18 (by decide)
                    · skip
                      exact absurd c_17 (by decide)
                  · skip
                    have c_16 : dn = 0 := (nI_eq (a := dn) (b := 0) (by omega) (by omega)).mp c_16
                    refine lv_iload_n hx hb dX4_parse_220 rfl (lv_at hl 4 rfl) ?_
                    refine ic_if_ne (tgt := 228) hx hb dX4_parse_221 (by decide) (fun c_20 => ?_) (fun c_20 => ?_)
                    · skip
                      have c_20 : ¬ gn = 0 := fun z9 => c_20 ((nI_eq (a := gn) (b := 0) (by omega) (by omega)).mpr z9)
                      refine lv_iconst (v := 0) hx hb dX4_parse_228 (by decide) ?_
                      refine lv_istore (lv' := [(6, .int 0), (7, .int ch), (0, .ref (b 0)), (1, .int (nI pn)), (2, .int (nI dn)), (3, .int (nI gn)), (4, .long (lN mn))]) hx hb dX4_parse_229 hl (by decide) rfl (fun ls hl => ?_)
                      refine lv_iconst (v := 1) hx hb dX4_parse_231 (by decide) ?_
                      refine lv_istore_n (lv' := [(3, .int 1), (6, .int 0), (7, .int ch), (0, .ref (b 0)), (1, .int (nI pn)), (2, .int (nI dn)), (4, .long (lN mn))]) hx hb dX4_parse_232 rfl hl (by decide) rfl (fun ls hl => ?_)
                      refine lv_aload_n hx hb dX4_parse_233 rfl (lv_at hl 3 rfl) ?_
                      refine lv_dup hx hb dX4_parse_234 rfl ?_
                      refine va_get (D := G) (ci := 4) (v := .int (nI k)) (C := RX4) (T := TX4) (N := 13) hx hb hts hX4 hown hK hP (0) wM_e0 rfl 10 (by decide) (hts (.fieldLink RX4 63 "DraftSurveyModel" "errorAt" "I") (by decide +kernel)) (fun _ h9 => h9) rfl dX4_parse_235 ?_
                      refine lv_iload hx hb dX4_parse_238 (lv_at hl 1 rfl) ?_
                      refine lv_if_eq (tgt := 247) hx hb dX4_parse_240 (by decide) (fun c_21 => ?_) (fun c_21 => ?_)
                      · skip
                        refine lv_iconst (v := 0) hx hb dX4_parse_247 (by decide) ?_
                        refine lv_iadd hx hb dX4_parse_248 ?_
                        refine tp_i (v := nI (k + 0)) (nI_add k 0) ?_
                        refine va_put (D := G) (ci := 4) (v := .int (nI (k + 0))) (ty := .int) (C := RX4) (T := TX4) (N := 13) hx hb hts hX4 tyX4 tyX4_ok nmX4 hown hK hP hD hS (0) wM_e0 rfl 10 (by decide) (hts (.fieldLink RX4 63 "DraftSurveyModel" "errorAt" "I") (by decide +kernel)) (fun _ h9 => h9) rfl (by decide +kernel) rfl rfl (Nat.le_of_ble_eq_true rfl) dX4_parse_249 (fun H locs hP hD hS => ?_)
                        have hP : va_P G vwCl (wM C b σ (x_er (nu, nI k, m_ir ρ, m_h ρ) (nI (k + 0)))) H := hP
                        have hD : va_D A (wM C b σ (x_er (nu, nI k, m_ir ρ, m_h ρ) (nI (k + 0)))) := hD
                        refine lv_goto (tgt := 17) hx hb dX4_parse_252 (by decide) ?_
                        refine lv_iload hx hb dX4_parse_17 (lv_at hl 1 rfl) ?_
                        refine lv_if_eq (tgt := 255) hx hb dX4_parse_19 (by decide) (fun c_22 => ?_) (fun c_22 => ?_)
                        · skip
                          refine lv_aload_n hx hb dX4_parse_255 rfl (lv_at hl 3 rfl) ?_
                          refine lv_iload hx hb dX4_parse_256 (lv_at hl 1 rfl) ?_
                          refine lv_if_eq (tgt := 274) hx hb dX4_parse_258 (by decide) (fun c_23 => ?_) (fun c_23 => ?_)
                          · skip
                            refine lv_iconst (v := 0) hx hb dX4_parse_274 (by decide) ?_
                            refine va_put (D := G) (ci := 4) (v := .int 0) (ty := .boolean) (C := RX4) (T := TX4) (N := 13) hx hb hts hX4 tyX4 tyX4_ok nmX4 hown hK hP hD hS (0) wM_e0 rfl 11 (by decide) (hts (.fieldLink RX4 76 "DraftSurveyModel" "isRow" "Z") (by decide +kernel)) (fun _ h9 => h9) rfl (by decide +kernel) (bl_nar (Or.inl rfl)) (bl_fit (Or.inl rfl)) (Nat.le_of_ble_eq_true rfl) dX4_parse_275 (fun H locs hP hD hS => ?_)
                            have hP : va_P G vwCl (wM C b σ (x_ir (x_er (nu, nI k, m_ir ρ, m_h ρ) (nI (k + 0))) 0)) H := hP
                            have hD : va_D A (wM C b σ (x_ir (x_er (nu, nI k, m_ir ρ, m_h ρ) (nI (k + 0))) 0)) := hD
                            refine wr_vret hx hb hr hlocks hAe hP hD hS ?_ dX4_parse_278
                            exact pP_of (f := nu) (i := 0) (g_2.symm.trans (nRun_none c_2 (st_no hch (wb_3 c_6) (fun q => absurd q c_7) (fun _ => by omega)))) (if_neg (fun q => absurd q.1 (by omega))) (fun q => absurd q (by omega))
                          · skip
                            exact absurd c_23 (by decide)
                        · skip
                          exact absurd c_22 (by decide)
                      · skip
                        exact absurd c_21 (by decide)
                    · skip
                      have c_20 : gn = 0 := (nI_eq (a := gn) (b := 0) (by omega) (by omega)).mp c_20
                      refine lv_iconst (v := 1) hx hb dX4_parse_224 (by decide) ?_
                      refine lv_goto (tgt := 229) hx hb dX4_parse_225 (by decide) ?_
                      refine lv_istore (lv' := [(6, .int 1), (7, .int ch), (0, .ref (b 0)), (1, .int (nI pn)), (2, .int (nI dn)), (3, .int (nI gn)), (4, .long (lN mn))]) hx hb dX4_parse_229 hl (by decide) rfl (fun ls hl => ?_)
                      refine lv_iconst (v := 1) hx hb dX4_parse_231 (by decide) ?_
                      refine lv_istore_n (lv' := [(3, .int 1), (6, .int 1), (7, .int ch), (0, .ref (b 0)), (1, .int (nI pn)), (2, .int (nI dn)), (4, .long (lN mn))]) hx hb dX4_parse_232 rfl hl (by decide) rfl (fun ls hl => ?_)
                      refine lv_aload_n hx hb dX4_parse_233 rfl (lv_at hl 3 rfl) ?_
                      refine lv_dup hx hb dX4_parse_234 rfl ?_
                      refine va_get (D := G) (ci := 4) (v := .int (nI k)) (C := RX4) (T := TX4) (N := 13) hx hb hts hX4 hown hK hP (0) wM_e0 rfl 10 (by decide) (hts (.fieldLink RX4 63 "DraftSurveyModel" "errorAt" "I") (by decide +kernel)) (fun _ h9 => h9) rfl dX4_parse_235 ?_
                      refine lv_iload hx hb dX4_parse_238 (lv_at hl 1 rfl) ?_
                      refine lv_if_eq (tgt := 247) hx hb dX4_parse_240 (by decide) (fun c_24 => ?_) (fun c_24 => ?_)
                      · skip
                        exact absurd c_24 (by decide)
                      · skip
                        refine lv_iconst (v := 1) hx hb dX4_parse_243 (by decide) ?_
                        refine lv_goto (tgt := 248) hx hb dX4_parse_244 (by decide) ?_
                        refine lv_iadd hx hb dX4_parse_248 ?_
                        refine tp_i (v := nI (k + 1)) (nI_add k 1) ?_
                        refine va_put (D := G) (ci := 4) (v := .int (nI (k + 1))) (ty := .int) (C := RX4) (T := TX4) (N := 13) hx hb hts hX4 tyX4 tyX4_ok nmX4 hown hK hP hD hS (0) wM_e0 rfl 10 (by decide) (hts (.fieldLink RX4 63 "DraftSurveyModel" "errorAt" "I") (by decide +kernel)) (fun _ h9 => h9) rfl (by decide +kernel) rfl rfl (Nat.le_of_ble_eq_true rfl) dX4_parse_249 (fun H locs hP hD hS => ?_)
                        have hP : va_P G vwCl (wM C b σ (x_er (nu, nI k, m_ir ρ, m_h ρ) (nI (k + 1)))) H := hP
                        have hD : va_D A (wM C b σ (x_er (nu, nI k, m_ir ρ, m_h ρ) (nI (k + 1)))) := hD
                        refine lv_goto (tgt := 17) hx hb dX4_parse_252 (by decide) ?_
                        exact ih (k + 1) (nu, pn, dn, 1, mn) (by omega) (by omega) ((nRun_some c_2 (st_min hch c_8 (by omega))).symm.trans g_2) (nSt_ok g_3 (st_min hch c_8 (by omega))) H locs hP hD hS ls (lv_sub hl [3, 4, 5, 0, 6, 1] rfl)
            · skip
              refine lv_iload_n hx hb dX4_parse_182 rfl (lv_at hl 3 rfl) ?_
              refine ic_if_le (tgt := 204) hx hb dX4_parse_183 (by decide) (fun c_25 => ?_) (fun c_25 => ?_)
              · skip
                have c_25 : ¬ 0 < dn := fun z9 => c_25 ((nI_ltI (a := 0) (b := dn) (by omega) (by omega)).mpr z9)
                refine lv_iload hx hb dX4_parse_204 (lv_at hl 0 rfl) ?_
                refine lv_bipush (v := 45) hx hb dX4_parse_206 (by decide) ?_
                refine ic_ne (tgt := 228) hx hb dX4_parse_208 (by decide) (fun c_26 => ?_) (fun c_26 => ?_)
                · skip
                  refine lv_iconst (v := 0) hx hb dX4_parse_228 (by decide) ?_
                  refine lv_istore (lv' := [(6, .int 0), (7, .int ch), (0, .ref (b 0)), (1, .int (nI pn)), (2, .int (nI dn)), (3, .int (nI gn)), (4, .long (lN mn))]) hx hb dX4_parse_229 hl (by decide) rfl (fun ls hl => ?_)
                  refine lv_iconst (v := 1) hx hb dX4_parse_231 (by decide) ?_
                  refine lv_istore_n (lv' := [(3, .int 1), (6, .int 0), (7, .int ch), (0, .ref (b 0)), (1, .int (nI pn)), (2, .int (nI dn)), (4, .long (lN mn))]) hx hb dX4_parse_232 rfl hl (by decide) rfl (fun ls hl => ?_)
                  refine lv_aload_n hx hb dX4_parse_233 rfl (lv_at hl 3 rfl) ?_
                  refine lv_dup hx hb dX4_parse_234 rfl ?_
                  refine va_get (D := G) (ci := 4) (v := .int (nI k)) (C := RX4) (T := TX4) (N := 13) hx hb hts hX4 hown hK hP (0) wM_e0 rfl 10 (by decide) (hts (.fieldLink RX4 63 "DraftSurveyModel" "errorAt" "I") (by decide +kernel)) (fun _ h9 => h9) rfl dX4_parse_235 ?_
                  refine lv_iload hx hb dX4_parse_238 (lv_at hl 1 rfl) ?_
                  refine lv_if_eq (tgt := 247) hx hb dX4_parse_240 (by decide) (fun c_27 => ?_) (fun c_27 => ?_)
                  · skip
                    refine lv_iconst (v := 0) hx hb dX4_parse_247 (by decide) ?_
                    refine lv_iadd hx hb dX4_parse_248 ?_
                    refine tp_i (v := nI (k + 0)) (nI_add k 0) ?_
                    refine va_put (D := G) (ci := 4) (v := .int (nI (k + 0))) (ty := .int) (C := RX4) (T := TX4) (N := 13) hx hb hts hX4 tyX4 tyX4_ok nmX4 hown hK hP hD hS (0) wM_e0 rfl 10 (by decide) (hts (.fieldLink RX4 63 "DraftSurveyModel" "errorAt" "I") (by decide +kernel)) (fun _ h9 => h9) rfl (by decide +kernel) rfl rfl (Nat.le_of_ble_eq_true rfl) dX4_parse_249 (fun H locs hP hD hS => ?_)
                    have hP : va_P G vwCl (wM C b σ (x_er (nu, nI k, m_ir ρ, m_h ρ) (nI (k + 0)))) H := hP
                    have hD : va_D A (wM C b σ (x_er (nu, nI k, m_ir ρ, m_h ρ) (nI (k + 0)))) := hD
                    refine lv_goto (tgt := 17) hx hb dX4_parse_252 (by decide) ?_
                    refine lv_iload hx hb dX4_parse_17 (lv_at hl 1 rfl) ?_
                    refine lv_if_eq (tgt := 255) hx hb dX4_parse_19 (by decide) (fun c_28 => ?_) (fun c_28 => ?_)
                    · skip
                      refine lv_aload_n hx hb dX4_parse_255 rfl (lv_at hl 3 rfl) ?_
                      refine lv_iload hx hb dX4_parse_256 (lv_at hl 1 rfl) ?_
                      refine lv_if_eq (tgt := 274) hx hb dX4_parse_258 (by decide) (fun c_29 => ?_) (fun c_29 => ?_)
                      · skip
                        refine lv_iconst (v := 0) hx hb dX4_parse_274 (by decide) ?_
                        refine va_put (D := G) (ci := 4) (v := .int 0) (ty := .boolean) (C := RX4) (T := TX4) (N := 13) hx hb hts hX4 tyX4 tyX4_ok nmX4 hown hK hP hD hS (0) wM_e0 rfl 11 (by decide) (hts (.fieldLink RX4 76 "DraftSurveyModel" "isRow" "Z") (by decide +kernel)) (fun _ h9 => h9) rfl (by decide +kernel) (bl_nar (Or.inl rfl)) (bl_fit (Or.inl rfl)) (Nat.le_of_ble_eq_true rfl) dX4_parse_275 (fun H locs hP hD hS => ?_)
                        have hP : va_P G vwCl (wM C b σ (x_ir (x_er (nu, nI k, m_ir ρ, m_h ρ) (nI (k + 0))) 0)) H := hP
                        have hD : va_D A (wM C b σ (x_ir (x_er (nu, nI k, m_ir ρ, m_h ρ) (nI (k + 0))) 0)) := hD
                        refine wr_vret hx hb hr hlocks hAe hP hD hS ?_ dX4_parse_278
                        exact pP_of (f := nu) (i := 0) (g_2.symm.trans (nRun_none c_2 (st_no hch (wb_3 c_6) (fun _ => by omega) (fun q => absurd q c_26)))) (if_neg (fun q => absurd q.1 (by omega))) (fun q => absurd q (by omega))
                      · skip
                        exact absurd c_29 (by decide)
                    · skip
                      exact absurd c_28 (by decide)
                  · skip
                    exact absurd c_27 (by decide)
                · skip
                  refine lv_iload_n hx hb dX4_parse_211 rfl (lv_at hl 2 rfl) ?_
                  refine lv_iconst (v := 3) hx hb dX4_parse_212 (by decide) ?_
                  refine ic_ne (tgt := 228) hx hb dX4_parse_213 (by decide) (fun c_30 => ?_) (fun c_30 => ?_)
                  · skip
                    have c_30 : ¬ pn = 3 := fun z9 => c_30 ((nI_eq (a := pn) (b := 3) (by omega) (by omega)).mpr z9)
                    refine lv_iconst (v := 0) hx hb dX4_parse_228 (by decide) ?_
                    refine lv_istore (lv' := [(6, .int 0), (7, .int ch), (0, .ref (b 0)), (1, .int (nI pn)), (2, .int (nI dn)), (3, .int (nI gn)), (4, .long (lN mn))]) hx hb dX4_parse_229 hl (by decide) rfl (fun ls hl => ?_)
                    refine lv_iconst (v := 1) hx hb dX4_parse_231 (by decide) ?_
                    refine lv_istore_n (lv' := [(3, .int 1), (6, .int 0), (7, .int ch), (0, .ref (b 0)), (1, .int (nI pn)), (2, .int (nI dn)), (4, .long (lN mn))]) hx hb dX4_parse_232 rfl hl (by decide) rfl (fun ls hl => ?_)
                    refine lv_aload_n hx hb dX4_parse_233 rfl (lv_at hl 3 rfl) ?_
                    refine lv_dup hx hb dX4_parse_234 rfl ?_
                    refine va_get (D := G) (ci := 4) (v := .int (nI k)) (C := RX4) (T := TX4) (N := 13) hx hb hts hX4 hown hK hP (0) wM_e0 rfl 10 (by decide) (hts (.fieldLink RX4 63 "DraftSurveyModel" "errorAt" "I") (by decide +kernel)) (fun _ h9 => h9) rfl dX4_parse_235 ?_
                    refine lv_iload hx hb dX4_parse_238 (lv_at hl 1 rfl) ?_
                    refine lv_if_eq (tgt := 247) hx hb dX4_parse_240 (by decide) (fun c_31 => ?_) (fun c_31 => ?_)
                    · skip
                      refine lv_iconst (v := 0) hx hb dX4_parse_247 (by decide) ?_
                      refine lv_iadd hx hb dX4_parse_248 ?_
                      refine tp_i (v := nI (k + 0)) (nI_add k 0) ?_
                      refine va_put (D := G) (ci := 4) (v := .int (nI (k + 0))) (ty := .int) (C := RX4) (T := TX4) (N := 13) hx hb hts hX4 tyX4 tyX4_ok nmX4 hown hK hP hD hS (0) wM_e0 rfl 10 (by decide) (hts (.fieldLink RX4 63 "DraftSurveyModel" "errorAt" "I") (by decide +kernel)) (fun _ h9 => h9) rfl (by decide +kernel) rfl rfl (Nat.le_of_ble_eq_true rfl) dX4_parse_249 (fun H locs hP hD hS => ?_)
                      have hP : va_P G vwCl (wM C b σ (x_er (nu, nI k, m_ir ρ, m_h ρ) (nI (k + 0)))) H := hP
                      have hD : va_D A (wM C b σ (x_er (nu, nI k, m_ir ρ, m_h ρ) (nI (k + 0)))) := hD
                      refine lv_goto (tgt := 17) hx hb dX4_parse_252 (by decide) ?_
                      refine lv_iload hx hb dX4_parse_17 (lv_at hl 1 rfl) ?_
                      refine lv_if_eq (tgt := 255) hx hb dX4_parse_19 (by decide) (fun c_32 => ?_) (fun c_32 => ?_)
                      · skip
                        refine lv_aload_n hx hb dX4_parse_255 rfl (lv_at hl 3 rfl) ?_
                        refine lv_iload hx hb dX4_parse_256 (lv_at hl 1 rfl) ?_
                        refine lv_if_eq (tgt := 274) hx hb dX4_parse_258 (by decide) (fun c_33 => ?_) (fun c_33 => ?_)
                        · skip
                          refine lv_iconst (v := 0) hx hb dX4_parse_274 (by decide) ?_
                          refine va_put (D := G) (ci := 4) (v := .int 0) (ty := .boolean) (C := RX4) (T := TX4) (N := 13) hx hb hts hX4 tyX4 tyX4_ok nmX4 hown hK hP hD hS (0) wM_e0 rfl 11 (by decide) (hts (.fieldLink RX4 76 "DraftSurveyModel" "isRow" "Z") (by decide +kernel)) (fun _ h9 => h9) rfl (by decide +kernel) (bl_nar (Or.inl rfl)) (bl_fit (Or.inl rfl)) (Nat.le_of_ble_eq_true rfl) dX4_parse_275 (fun H locs hP hD hS => ?_)
                          have hP : va_P G vwCl (wM C b σ (x_ir (x_er (nu, nI k, m_ir ρ, m_h ρ) (nI (k + 0))) 0)) H := hP
                          have hD : va_D A (wM C b σ (x_ir (x_er (nu, nI k, m_ir ρ, m_h ρ) (nI (k + 0))) 0)) := hD
                          refine wr_vret hx hb hr hlocks hAe hP hD hS ?_ dX4_parse_278
                          exact pP_of (f := nu) (i := 0) (g_2.symm.trans (nRun_none c_2 (st_no hch (wb_3 c_6) (fun _ => by omega) (fun _ => by omega)))) (if_neg (fun q => absurd q.1 (by omega))) (fun q => absurd q (by omega))
                        · skip
                          exact absurd c_33 (by decide)
                      · skip
                        exact absurd c_32 (by decide)
                    · skip
                      exact absurd c_31 (by decide)
                  · skip
                    have c_30 : pn = 3 := (nI_eq (a := pn) (b := 3) (by omega) (by omega)).mp c_30
                    refine lv_iload_n hx hb dX4_parse_216 rfl (lv_at hl 3 rfl) ?_
                    refine ic_if_ne (tgt := 228) hx hb dX4_parse_217 (by decide) (fun c_34 => ?_) (fun c_34 => ?_)
                    · skip
                      have c_34 : ¬ dn = 0 := fun z9 => c_34 ((nI_eq (a := dn) (b := 0) (by omega) (by omega)).mpr z9)
                      refine lv_iconst (v := 0) hx hb dX4_parse_228 (by decide) ?_
                      refine lv_istore (lv' := [(6, .int 0), (7, .int ch), (0, .ref (b 0)), (1, .int (nI pn)), (2, .int (nI dn)), (3, .int (nI gn)), (4, .long (lN mn))]) hx hb dX4_parse_229 hl (by decide) rfl (fun ls hl => ?_)
                      refine lv_iconst (v := 1) hx hb dX4_parse_231 (by decide) ?_
                      refine lv_istore_n (lv' := [(3, .int 1), (6, .int 0), (7, .int ch), (0, .ref (b 0)), (1, .int (nI pn)), (2, .int (nI dn)), (4, .long (lN mn))]) hx hb dX4_parse_232 rfl hl (by decide) rfl (fun ls hl => ?_)
                      refine lv_aload_n hx hb dX4_parse_233 rfl (lv_at hl 3 rfl) ?_
                      refine lv_dup hx hb dX4_parse_234 rfl ?_
                      refine va_get (D := G) (ci := 4) (v := .int (nI k)) (C := RX4) (T := TX4) (N := 13) hx hb hts hX4 hown hK hP (0) wM_e0 rfl 10 (by decide) (hts (.fieldLink RX4 63 "DraftSurveyModel" "errorAt" "I") (by decide +kernel)) (fun _ h9 => h9) rfl dX4_parse_235 ?_
                      refine lv_iload hx hb dX4_parse_238 (lv_at hl 1 rfl) ?_
                      refine lv_if_eq (tgt := 247) hx hb dX4_parse_240 (by decide) (fun c_35 => ?_) (fun c_35 => ?_)
                      · skip
                        refine lv_iconst (v := 0) hx hb dX4_parse_247 (by decide) ?_
                        refine lv_iadd hx hb dX4_parse_248 ?_
                        refine tp_i (v := nI (k + 0)) (nI_add k 0) ?_
                        refine va_put (D := G) (ci := 4) (v := .int (nI (k + 0))) (ty := .int) (C := RX4) (T := TX4) (N := 13) hx hb hts hX4 tyX4 tyX4_ok nmX4 hown hK hP hD hS (0) wM_e0 rfl 10 (by decide) (hts (.fieldLink RX4 63 "DraftSurveyModel" "errorAt" "I") (by decide +kernel)) (fun _ h9 => h9) rfl (by decide +kernel) rfl rfl (Nat.le_of_ble_eq_true rfl) dX4_parse_249 (fun H locs hP hD hS => ?_)
                        have hP : va_P G vwCl (wM C b σ (x_er (nu, nI k, m_ir ρ, m_h ρ) (nI (k + 0)))) H := hP
                        have hD : va_D A (wM C b σ (x_er (nu, nI k, m_ir ρ, m_h ρ) (nI (k + 0)))) := hD
                        refine lv_goto (tgt := 17) hx hb dX4_parse_252 (by decide) ?_
                        refine lv_iload hx hb dX4_parse_17 (lv_at hl 1 rfl) ?_
                        refine lv_if_eq (tgt := 255) hx hb dX4_parse_19 (by decide) (fun c_36 => ?_) (fun c_36 => ?_)
                        · skip
                          refine lv_aload_n hx hb dX4_parse_255 rfl (lv_at hl 3 rfl) ?_
                          refine lv_iload hx hb dX4_parse_256 (lv_at hl 1 rfl) ?_
                          refine lv_if_eq (tgt := 274) hx hb dX4_parse_258 (by decide) (fun c_37 => ?_) (fun c_37 => ?_)
                          · skip
                            refine lv_iconst (v := 0) hx hb dX4_parse_274 (by decide) ?_
                            refine va_put (D := G) (ci := 4) (v := .int 0) (ty := .boolean) (C := RX4) (T := TX4) (N := 13) hx hb hts hX4 tyX4 tyX4_ok nmX4 hown hK hP hD hS (0) wM_e0 rfl 11 (by decide) (hts (.fieldLink RX4 76 "DraftSurveyModel" "isRow" "Z") (by decide +kernel)) (fun _ h9 => h9) rfl (by decide +kernel) (bl_nar (Or.inl rfl)) (bl_fit (Or.inl rfl)) (Nat.le_of_ble_eq_true rfl) dX4_parse_275 (fun H locs hP hD hS => ?_)
                            have hP : va_P G vwCl (wM C b σ (x_ir (x_er (nu, nI k, m_ir ρ, m_h ρ) (nI (k + 0))) 0)) H := hP
                            have hD : va_D A (wM C b σ (x_ir (x_er (nu, nI k, m_ir ρ, m_h ρ) (nI (k + 0))) 0)) := hD
                            refine wr_vret hx hb hr hlocks hAe hP hD hS ?_ dX4_parse_278
                            exact pP_of (f := nu) (i := 0) (g_2.symm.trans (nRun_none c_2 (st_no hch (wb_3 c_6) (fun _ => by omega) (fun _ => by omega)))) (if_neg (fun q => absurd q.1 (by omega))) (fun q => absurd q (by omega))
                          · skip
                            exact absurd c_37 (by decide)
                        · skip
                          exact absurd c_36 (by decide)
                      · skip
                        exact absurd c_35 (by decide)
                    · skip
                      have c_34 : dn = 0 := (nI_eq (a := dn) (b := 0) (by omega) (by omega)).mp c_34
                      refine lv_iload_n hx hb dX4_parse_220 rfl (lv_at hl 4 rfl) ?_
                      refine ic_if_ne (tgt := 228) hx hb dX4_parse_221 (by decide) (fun c_38 => ?_) (fun c_38 => ?_)
                      · skip
                        have c_38 : ¬ gn = 0 := fun z9 => c_38 ((nI_eq (a := gn) (b := 0) (by omega) (by omega)).mpr z9)
                        refine lv_iconst (v := 0) hx hb dX4_parse_228 (by decide) ?_
                        refine lv_istore (lv' := [(6, .int 0), (7, .int ch), (0, .ref (b 0)), (1, .int (nI pn)), (2, .int (nI dn)), (3, .int (nI gn)), (4, .long (lN mn))]) hx hb dX4_parse_229 hl (by decide) rfl (fun ls hl => ?_)
                        refine lv_iconst (v := 1) hx hb dX4_parse_231 (by decide) ?_
                        refine lv_istore_n (lv' := [(3, .int 1), (6, .int 0), (7, .int ch), (0, .ref (b 0)), (1, .int (nI pn)), (2, .int (nI dn)), (4, .long (lN mn))]) hx hb dX4_parse_232 rfl hl (by decide) rfl (fun ls hl => ?_)
                        refine lv_aload_n hx hb dX4_parse_233 rfl (lv_at hl 3 rfl) ?_
                        refine lv_dup hx hb dX4_parse_234 rfl ?_
                        refine va_get (D := G) (ci := 4) (v := .int (nI k)) (C := RX4) (T := TX4) (N := 13) hx hb hts hX4 hown hK hP (0) wM_e0 rfl 10 (by decide) (hts (.fieldLink RX4 63 "DraftSurveyModel" "errorAt" "I") (by decide +kernel)) (fun _ h9 => h9) rfl dX4_parse_235 ?_
                        refine lv_iload hx hb dX4_parse_238 (lv_at hl 1 rfl) ?_
                        refine lv_if_eq (tgt := 247) hx hb dX4_parse_240 (by decide) (fun c_39 => ?_) (fun c_39 => ?_)
                        · skip
                          refine lv_iconst (v := 0) hx hb dX4_parse_247 (by decide) ?_
                          refine lv_iadd hx hb dX4_parse_248 ?_
                          refine tp_i (v := nI (k + 0)) (nI_add k 0) ?_
                          refine va_put (D := G) (ci := 4) (v := .int (nI (k + 0))) (ty := .int) (C := RX4) (T := TX4) (N := 13) hx hb hts hX4 tyX4 tyX4_ok nmX4 hown hK hP hD hS (0) wM_e0 rfl 10 (by decide) (hts (.fieldLink RX4 63 "DraftSurveyModel" "errorAt" "I") (by decide +kernel)) (fun _ h9 => h9) rfl (by decide +kernel) rfl rfl (Nat.le_of_ble_eq_true rfl) dX4_parse_249 (fun H locs hP hD hS => ?_)
                          have hP : va_P G vwCl (wM C b σ (x_er (nu, nI k, m_ir ρ, m_h ρ) (nI (k + 0)))) H := hP
                          have hD : va_D A (wM C b σ (x_er (nu, nI k, m_ir ρ, m_h ρ) (nI (k + 0)))) := hD
                          refine lv_goto (tgt := 17) hx hb dX4_parse_252 (by decide) ?_
                          refine lv_iload hx hb dX4_parse_17 (lv_at hl 1 rfl) ?_
                          refine lv_if_eq (tgt := 255) hx hb dX4_parse_19 (by decide) (fun c_40 => ?_) (fun c_40 => ?_)
                          · skip
                            refine lv_aload_n hx hb dX4_parse_255 rfl (lv_at hl 3 rfl) ?_
                            refine lv_iload hx hb dX4_parse_256 (lv_at hl 1 rfl) ?_
                            refine lv_if_eq (tgt := 274) hx hb dX4_parse_258 (by decide) (fun c_41 => ?_) (fun c_41 => ?_)
                            · skip
                              refine lv_iconst (v := 0) hx hb dX4_parse_274 (by decide) ?_
                              refine va_put (D := G) (ci := 4) (v := .int 0) (ty := .boolean) (C := RX4) (T := TX4) (N := 13) hx hb hts hX4 tyX4 tyX4_ok nmX4 hown hK hP hD hS (0) wM_e0 rfl 11 (by decide) (hts (.fieldLink RX4 76 "DraftSurveyModel" "isRow" "Z") (by decide +kernel)) (fun _ h9 => h9) rfl (by decide +kernel) (bl_nar (Or.inl rfl)) (bl_fit (Or.inl rfl)) (Nat.le_of_ble_eq_true rfl) dX4_parse_275 (fun H locs hP hD hS => ?_)
                              have hP : va_P G vwCl (wM C b σ (x_ir (x_er (nu, nI k, m_ir ρ, m_h ρ) (nI (k + 0))) 0)) H := hP
                              have hD : va_D A (wM C b σ (x_ir (x_er (nu, nI k, m_ir ρ, m_h ρ) (nI (k + 0))) 0)) := hD
                              refine wr_vret hx hb hr hlocks hAe hP hD hS ?_ dX4_parse_278
                              exact pP_of (f := nu) (i := 0) (g_2.symm.trans (nRun_none c_2 (st_no hch (wb_3 c_6) (fun _ => by omega) (fun _ => by omega)))) (if_neg (fun q => absurd q.1 (by omega))) (fun q => absurd q (by omega))
                            · skip
                              exact absurd c_41 (by decide)
                          · skip
                            exact absurd c_40 (by decide)
                        · skip
                          exact absurd c_39 (by decide)
                      · skip
                        have c_38 : gn = 0 := (nI_eq (a := gn) (b := 0) (by omega) (by omega)).mp c_38
                        refine lv_iconst (v := 1) hx hb dX4_parse_224 (by decide) ?_
                        refine lv_goto (tgt := 229) hx hb dX4_parse_225 (by decide) ?_
                        refine lv_istore (lv' := [(6, .int 1), (7, .int ch), (0, .ref (b 0)), (1, .int (nI pn)), (2, .int (nI dn)), (3, .int (nI gn)), (4, .long (lN mn))]) hx hb dX4_parse_229 hl (by decide) rfl (fun ls hl => ?_)
                        refine lv_iconst (v := 1) hx hb dX4_parse_231 (by decide) ?_
                        refine lv_istore_n (lv' := [(3, .int 1), (6, .int 1), (7, .int ch), (0, .ref (b 0)), (1, .int (nI pn)), (2, .int (nI dn)), (4, .long (lN mn))]) hx hb dX4_parse_232 rfl hl (by decide) rfl (fun ls hl => ?_)
                        refine lv_aload_n hx hb dX4_parse_233 rfl (lv_at hl 3 rfl) ?_
                        refine lv_dup hx hb dX4_parse_234 rfl ?_
                        refine va_get (D := G) (ci := 4) (v := .int (nI k)) (C := RX4) (T := TX4) (N := 13) hx hb hts hX4 hown hK hP (0) wM_e0 rfl 10 (by decide) (hts (.fieldLink RX4 63 "DraftSurveyModel" "errorAt" "I") (by decide +kernel)) (fun _ h9 => h9) rfl dX4_parse_235 ?_
                        refine lv_iload hx hb dX4_parse_238 (lv_at hl 1 rfl) ?_
                        refine lv_if_eq (tgt := 247) hx hb dX4_parse_240 (by decide) (fun c_42 => ?_) (fun c_42 => ?_)
                        · skip
                          exact absurd c_42 (by decide)
                        · skip
                          refine lv_iconst (v := 1) hx hb dX4_parse_243 (by decide) ?_
                          refine lv_goto (tgt := 248) hx hb dX4_parse_244 (by decide) ?_
                          refine lv_iadd hx hb dX4_parse_248 ?_
                          refine tp_i (v := nI (k + 1)) (nI_add k 1) ?_
                          refine va_put (D := G) (ci := 4) (v := .int (nI (k + 1))) (ty := .int) (C := RX4) (T := TX4) (N := 13) hx hb hts hX4 tyX4 tyX4_ok nmX4 hown hK hP hD hS (0) wM_e0 rfl 10 (by decide) (hts (.fieldLink RX4 63 "DraftSurveyModel" "errorAt" "I") (by decide +kernel)) (fun _ h9 => h9) rfl (by decide +kernel) rfl rfl (Nat.le_of_ble_eq_true rfl) dX4_parse_249 (fun H locs hP hD hS => ?_)
                          have hP : va_P G vwCl (wM C b σ (x_er (nu, nI k, m_ir ρ, m_h ρ) (nI (k + 1)))) H := hP
                          have hD : va_D A (wM C b σ (x_er (nu, nI k, m_ir ρ, m_h ρ) (nI (k + 1)))) := hD
                          refine lv_goto (tgt := 17) hx hb dX4_parse_252 (by decide) ?_
                          exact ih (k + 1) (nu, pn, dn, 1, mn) (by omega) (by omega) ((nRun_some c_2 (st_min hch c_26 (by omega))).symm.trans g_2) (nSt_ok g_3 (st_min hch c_26 (by omega))) H locs hP hD hS ls (lv_sub hl [3, 4, 5, 0, 6, 1] rfl)
              · skip
                have c_25 : 0 < dn := (nI_ltI (a := 0) (b := dn) (by omega) (by omega)).mp c_25
                refine lv_iload_n hx hb dX4_parse_186 rfl (lv_at hl 2 rfl) ?_
                refine lv_iconst (v := 4) hx hb dX4_parse_187 (by decide) ?_
                refine ic_ge (tgt := 204) hx hb dX4_parse_188 (by decide) (fun c_43 => ?_) (fun c_43 => ?_)
                · skip
                  have c_43 : ¬ pn < 4 := fun z9 => c_43 ((nI_ltI (a := pn) (b := 4) (by omega) (by omega)).mpr z9)
                  refine lv_iload hx hb dX4_parse_204 (lv_at hl 0 rfl) ?_
                  refine lv_bipush (v := 45) hx hb dX4_parse_206 (by decide) ?_
                  refine ic_ne (tgt := 228) hx hb dX4_parse_208 (by decide) (fun c_44 => ?_) (fun c_44 => ?_)
                  · skip
                    refine lv_iconst (v := 0) hx hb dX4_parse_228 (by decide) ?_
                    refine lv_istore (lv' := [(6, .int 0), (7, .int ch), (0, .ref (b 0)), (1, .int (nI pn)), (2, .int (nI dn)), (3, .int (nI gn)), (4, .long (lN mn))]) hx hb dX4_parse_229 hl (by decide) rfl (fun ls hl => ?_)
                    refine lv_iconst (v := 1) hx hb dX4_parse_231 (by decide) ?_
                    refine lv_istore_n (lv' := [(3, .int 1), (6, .int 0), (7, .int ch), (0, .ref (b 0)), (1, .int (nI pn)), (2, .int (nI dn)), (4, .long (lN mn))]) hx hb dX4_parse_232 rfl hl (by decide) rfl (fun ls hl => ?_)
                    refine lv_aload_n hx hb dX4_parse_233 rfl (lv_at hl 3 rfl) ?_
                    refine lv_dup hx hb dX4_parse_234 rfl ?_
                    refine va_get (D := G) (ci := 4) (v := .int (nI k)) (C := RX4) (T := TX4) (N := 13) hx hb hts hX4 hown hK hP (0) wM_e0 rfl 10 (by decide) (hts (.fieldLink RX4 63 "DraftSurveyModel" "errorAt" "I") (by decide +kernel)) (fun _ h9 => h9) rfl dX4_parse_235 ?_
                    refine lv_iload hx hb dX4_parse_238 (lv_at hl 1 rfl) ?_
                    refine lv_if_eq (tgt := 247) hx hb dX4_parse_240 (by decide) (fun c_45 => ?_) (fun c_45 => ?_)
                    · skip
                      refine lv_iconst (v := 0) hx hb dX4_parse_247 (by decide) ?_
                      refine lv_iadd hx hb dX4_parse_248 ?_
                      refine tp_i (v := nI (k + 0)) (nI_add k 0) ?_
                      refine va_put (D := G) (ci := 4) (v := .int (nI (k + 0))) (ty := .int) (C := RX4) (T := TX4) (N := 13) hx hb hts hX4 tyX4 tyX4_ok nmX4 hown hK hP hD hS (0) wM_e0 rfl 10 (by decide) (hts (.fieldLink RX4 63 "DraftSurveyModel" "errorAt" "I") (by decide +kernel)) (fun _ h9 => h9) rfl (by decide +kernel) rfl rfl (Nat.le_of_ble_eq_true rfl) dX4_parse_249 (fun H locs hP hD hS => ?_)
                      have hP : va_P G vwCl (wM C b σ (x_er (nu, nI k, m_ir ρ, m_h ρ) (nI (k + 0)))) H := hP
                      have hD : va_D A (wM C b σ (x_er (nu, nI k, m_ir ρ, m_h ρ) (nI (k + 0)))) := hD
                      refine lv_goto (tgt := 17) hx hb dX4_parse_252 (by decide) ?_
                      refine lv_iload hx hb dX4_parse_17 (lv_at hl 1 rfl) ?_
                      refine lv_if_eq (tgt := 255) hx hb dX4_parse_19 (by decide) (fun c_46 => ?_) (fun c_46 => ?_)
                      · skip
                        refine lv_aload_n hx hb dX4_parse_255 rfl (lv_at hl 3 rfl) ?_
                        refine lv_iload hx hb dX4_parse_256 (lv_at hl 1 rfl) ?_
                        refine lv_if_eq (tgt := 274) hx hb dX4_parse_258 (by decide) (fun c_47 => ?_) (fun c_47 => ?_)
                        · skip
                          refine lv_iconst (v := 0) hx hb dX4_parse_274 (by decide) ?_
                          refine va_put (D := G) (ci := 4) (v := .int 0) (ty := .boolean) (C := RX4) (T := TX4) (N := 13) hx hb hts hX4 tyX4 tyX4_ok nmX4 hown hK hP hD hS (0) wM_e0 rfl 11 (by decide) (hts (.fieldLink RX4 76 "DraftSurveyModel" "isRow" "Z") (by decide +kernel)) (fun _ h9 => h9) rfl (by decide +kernel) (bl_nar (Or.inl rfl)) (bl_fit (Or.inl rfl)) (Nat.le_of_ble_eq_true rfl) dX4_parse_275 (fun H locs hP hD hS => ?_)
                          have hP : va_P G vwCl (wM C b σ (x_ir (x_er (nu, nI k, m_ir ρ, m_h ρ) (nI (k + 0))) 0)) H := hP
                          have hD : va_D A (wM C b σ (x_ir (x_er (nu, nI k, m_ir ρ, m_h ρ) (nI (k + 0))) 0)) := hD
                          refine wr_vret hx hb hr hlocks hAe hP hD hS ?_ dX4_parse_278
                          exact pP_of (f := nu) (i := 0) (g_2.symm.trans (nRun_none c_2 (st_no hch (wb_3 c_6) (fun _ => by omega) (fun q => absurd q c_44)))) (if_neg (fun q => absurd q.1 (by omega))) (fun q => absurd q (by omega))
                        · skip
                          exact absurd c_47 (by decide)
                      · skip
                        exact absurd c_46 (by decide)
                    · skip
                      exact absurd c_45 (by decide)
                  · skip
                    refine lv_iload_n hx hb dX4_parse_211 rfl (lv_at hl 2 rfl) ?_
                    refine lv_iconst (v := 3) hx hb dX4_parse_212 (by decide) ?_
                    refine ic_ne (tgt := 228) hx hb dX4_parse_213 (by decide) (fun c_48 => ?_) (fun c_48 => ?_)
                    · skip
                      have c_48 : ¬ pn = 3 := fun z9 => c_48 ((nI_eq (a := pn) (b := 3) (by omega) (by omega)).mpr z9)
                      refine lv_iconst (v := 0) hx hb dX4_parse_228 (by decide) ?_
                      refine lv_istore (lv' := [(6, .int 0), (7, .int ch), (0, .ref (b 0)), (1, .int (nI pn)), (2, .int (nI dn)), (3, .int (nI gn)), (4, .long (lN mn))]) hx hb dX4_parse_229 hl (by decide) rfl (fun ls hl => ?_)
                      refine lv_iconst (v := 1) hx hb dX4_parse_231 (by decide) ?_
                      refine lv_istore_n (lv' := [(3, .int 1), (6, .int 0), (7, .int ch), (0, .ref (b 0)), (1, .int (nI pn)), (2, .int (nI dn)), (4, .long (lN mn))]) hx hb dX4_parse_232 rfl hl (by decide) rfl (fun ls hl => ?_)
                      refine lv_aload_n hx hb dX4_parse_233 rfl (lv_at hl 3 rfl) ?_
                      refine lv_dup hx hb dX4_parse_234 rfl ?_
                      refine va_get (D := G) (ci := 4) (v := .int (nI k)) (C := RX4) (T := TX4) (N := 13) hx hb hts hX4 hown hK hP (0) wM_e0 rfl 10 (by decide) (hts (.fieldLink RX4 63 "DraftSurveyModel" "errorAt" "I") (by decide +kernel)) (fun _ h9 => h9) rfl dX4_parse_235 ?_
                      refine lv_iload hx hb dX4_parse_238 (lv_at hl 1 rfl) ?_
                      refine lv_if_eq (tgt := 247) hx hb dX4_parse_240 (by decide) (fun c_49 => ?_) (fun c_49 => ?_)
                      · skip
                        refine lv_iconst (v := 0) hx hb dX4_parse_247 (by decide) ?_
                        refine lv_iadd hx hb dX4_parse_248 ?_
                        refine tp_i (v := nI (k + 0)) (nI_add k 0) ?_
                        refine va_put (D := G) (ci := 4) (v := .int (nI (k + 0))) (ty := .int) (C := RX4) (T := TX4) (N := 13) hx hb hts hX4 tyX4 tyX4_ok nmX4 hown hK hP hD hS (0) wM_e0 rfl 10 (by decide) (hts (.fieldLink RX4 63 "DraftSurveyModel" "errorAt" "I") (by decide +kernel)) (fun _ h9 => h9) rfl (by decide +kernel) rfl rfl (Nat.le_of_ble_eq_true rfl) dX4_parse_249 (fun H locs hP hD hS => ?_)
                        have hP : va_P G vwCl (wM C b σ (x_er (nu, nI k, m_ir ρ, m_h ρ) (nI (k + 0)))) H := hP
                        have hD : va_D A (wM C b σ (x_er (nu, nI k, m_ir ρ, m_h ρ) (nI (k + 0)))) := hD
                        refine lv_goto (tgt := 17) hx hb dX4_parse_252 (by decide) ?_
                        refine lv_iload hx hb dX4_parse_17 (lv_at hl 1 rfl) ?_
                        refine lv_if_eq (tgt := 255) hx hb dX4_parse_19 (by decide) (fun c_50 => ?_) (fun c_50 => ?_)
                        · skip
                          refine lv_aload_n hx hb dX4_parse_255 rfl (lv_at hl 3 rfl) ?_
                          refine lv_iload hx hb dX4_parse_256 (lv_at hl 1 rfl) ?_
                          refine lv_if_eq (tgt := 274) hx hb dX4_parse_258 (by decide) (fun c_51 => ?_) (fun c_51 => ?_)
                          · skip
                            refine lv_iconst (v := 0) hx hb dX4_parse_274 (by decide) ?_
                            refine va_put (D := G) (ci := 4) (v := .int 0) (ty := .boolean) (C := RX4) (T := TX4) (N := 13) hx hb hts hX4 tyX4 tyX4_ok nmX4 hown hK hP hD hS (0) wM_e0 rfl 11 (by decide) (hts (.fieldLink RX4 76 "DraftSurveyModel" "isRow" "Z") (by decide +kernel)) (fun _ h9 => h9) rfl (by decide +kernel) (bl_nar (Or.inl rfl)) (bl_fit (Or.inl rfl)) (Nat.le_of_ble_eq_true rfl) dX4_parse_275 (fun H locs hP hD hS => ?_)
                            have hP : va_P G vwCl (wM C b σ (x_ir (x_er (nu, nI k, m_ir ρ, m_h ρ) (nI (k + 0))) 0)) H := hP
                            have hD : va_D A (wM C b σ (x_ir (x_er (nu, nI k, m_ir ρ, m_h ρ) (nI (k + 0))) 0)) := hD
                            refine wr_vret hx hb hr hlocks hAe hP hD hS ?_ dX4_parse_278
                            exact pP_of (f := nu) (i := 0) (g_2.symm.trans (nRun_none c_2 (st_no hch (wb_3 c_6) (fun _ => by omega) (fun _ => by omega)))) (if_neg (fun q => absurd q.1 (by omega))) (fun q => absurd q (by omega))
                          · skip
                            exact absurd c_51 (by decide)
                        · skip
                          exact absurd c_50 (by decide)
                      · skip
                        exact absurd c_49 (by decide)
                    · skip
                      have c_48 : pn = 3 := (nI_eq (a := pn) (b := 3) (by omega) (by omega)).mp c_48
                      refine lv_iload_n hx hb dX4_parse_216 rfl (lv_at hl 3 rfl) ?_
                      refine ic_if_ne (tgt := 228) hx hb dX4_parse_217 (by decide) (fun c_52 => ?_) (fun c_52 => ?_)
                      · skip
                        have c_52 : ¬ dn = 0 := fun z9 => c_52 ((nI_eq (a := dn) (b := 0) (by omega) (by omega)).mpr z9)
                        refine lv_iconst (v := 0) hx hb dX4_parse_228 (by decide) ?_
                        refine lv_istore (lv' := [(6, .int 0), (7, .int ch), (0, .ref (b 0)), (1, .int (nI pn)), (2, .int (nI dn)), (3, .int (nI gn)), (4, .long (lN mn))]) hx hb dX4_parse_229 hl (by decide) rfl (fun ls hl => ?_)
                        refine lv_iconst (v := 1) hx hb dX4_parse_231 (by decide) ?_
                        refine lv_istore_n (lv' := [(3, .int 1), (6, .int 0), (7, .int ch), (0, .ref (b 0)), (1, .int (nI pn)), (2, .int (nI dn)), (4, .long (lN mn))]) hx hb dX4_parse_232 rfl hl (by decide) rfl (fun ls hl => ?_)
                        refine lv_aload_n hx hb dX4_parse_233 rfl (lv_at hl 3 rfl) ?_
                        refine lv_dup hx hb dX4_parse_234 rfl ?_
                        refine va_get (D := G) (ci := 4) (v := .int (nI k)) (C := RX4) (T := TX4) (N := 13) hx hb hts hX4 hown hK hP (0) wM_e0 rfl 10 (by decide) (hts (.fieldLink RX4 63 "DraftSurveyModel" "errorAt" "I") (by decide +kernel)) (fun _ h9 => h9) rfl dX4_parse_235 ?_
                        refine lv_iload hx hb dX4_parse_238 (lv_at hl 1 rfl) ?_
                        refine lv_if_eq (tgt := 247) hx hb dX4_parse_240 (by decide) (fun c_53 => ?_) (fun c_53 => ?_)
                        · skip
                          refine lv_iconst (v := 0) hx hb dX4_parse_247 (by decide) ?_
                          refine lv_iadd hx hb dX4_parse_248 ?_
                          refine tp_i (v := nI (k + 0)) (nI_add k 0) ?_
                          refine va_put (D := G) (ci := 4) (v := .int (nI (k + 0))) (ty := .int) (C := RX4) (T := TX4) (N := 13) hx hb hts hX4 tyX4 tyX4_ok nmX4 hown hK hP hD hS (0) wM_e0 rfl 10 (by decide) (hts (.fieldLink RX4 63 "DraftSurveyModel" "errorAt" "I") (by decide +kernel)) (fun _ h9 => h9) rfl (by decide +kernel) rfl rfl (Nat.le_of_ble_eq_true rfl) dX4_parse_249 (fun H locs hP hD hS => ?_)
                          have hP : va_P G vwCl (wM C b σ (x_er (nu, nI k, m_ir ρ, m_h ρ) (nI (k + 0)))) H := hP
                          have hD : va_D A (wM C b σ (x_er (nu, nI k, m_ir ρ, m_h ρ) (nI (k + 0)))) := hD
                          refine lv_goto (tgt := 17) hx hb dX4_parse_252 (by decide) ?_
                          refine lv_iload hx hb dX4_parse_17 (lv_at hl 1 rfl) ?_
                          refine lv_if_eq (tgt := 255) hx hb dX4_parse_19 (by decide) (fun c_54 => ?_) (fun c_54 => ?_)
                          · skip
                            refine lv_aload_n hx hb dX4_parse_255 rfl (lv_at hl 3 rfl) ?_
                            refine lv_iload hx hb dX4_parse_256 (lv_at hl 1 rfl) ?_
                            refine lv_if_eq (tgt := 274) hx hb dX4_parse_258 (by decide) (fun c_55 => ?_) (fun c_55 => ?_)
                            · skip
                              refine lv_iconst (v := 0) hx hb dX4_parse_274 (by decide) ?_
                              refine va_put (D := G) (ci := 4) (v := .int 0) (ty := .boolean) (C := RX4) (T := TX4) (N := 13) hx hb hts hX4 tyX4 tyX4_ok nmX4 hown hK hP hD hS (0) wM_e0 rfl 11 (by decide) (hts (.fieldLink RX4 76 "DraftSurveyModel" "isRow" "Z") (by decide +kernel)) (fun _ h9 => h9) rfl (by decide +kernel) (bl_nar (Or.inl rfl)) (bl_fit (Or.inl rfl)) (Nat.le_of_ble_eq_true rfl) dX4_parse_275 (fun H locs hP hD hS => ?_)
                              have hP : va_P G vwCl (wM C b σ (x_ir (x_er (nu, nI k, m_ir ρ, m_h ρ) (nI (k + 0))) 0)) H := hP
                              have hD : va_D A (wM C b σ (x_ir (x_er (nu, nI k, m_ir ρ, m_h ρ) (nI (k + 0))) 0)) := hD
                              refine wr_vret hx hb hr hlocks hAe hP hD hS ?_ dX4_parse_278
                              exact pP_of (f := nu) (i := 0) (g_2.symm.trans (nRun_none c_2 (st_no hch (wb_3 c_6) (fun _ => by omega) (fun _ => by omega)))) (if_neg (fun q => absurd q.1 (by omega))) (fun q => absurd q (by omega))
                            · skip
                              exact absurd c_55 (by decide)
                          · skip
                            exact absurd c_54 (by decide)
                        · skip
                          exact absurd c_53 (by decide)
                      · skip
                        have c_52 : dn = 0 := (nI_eq (a := dn) (b := 0) (by omega) (by omega)).mp c_52
                        refine lv_iload_n hx hb dX4_parse_220 rfl (lv_at hl 4 rfl) ?_
                        refine ic_if_ne (tgt := 228) hx hb dX4_parse_221 (by decide) (fun c_56 => ?_) (fun c_56 => ?_)
                        · skip
                          have c_56 : ¬ gn = 0 := fun z9 => c_56 ((nI_eq (a := gn) (b := 0) (by omega) (by omega)).mpr z9)
                          refine lv_iconst (v := 0) hx hb dX4_parse_228 (by decide) ?_
                          refine lv_istore (lv' := [(6, .int 0), (7, .int ch), (0, .ref (b 0)), (1, .int (nI pn)), (2, .int (nI dn)), (3, .int (nI gn)), (4, .long (lN mn))]) hx hb dX4_parse_229 hl (by decide) rfl (fun ls hl => ?_)
                          refine lv_iconst (v := 1) hx hb dX4_parse_231 (by decide) ?_
                          refine lv_istore_n (lv' := [(3, .int 1), (6, .int 0), (7, .int ch), (0, .ref (b 0)), (1, .int (nI pn)), (2, .int (nI dn)), (4, .long (lN mn))]) hx hb dX4_parse_232 rfl hl (by decide) rfl (fun ls hl => ?_)
                          refine lv_aload_n hx hb dX4_parse_233 rfl (lv_at hl 3 rfl) ?_
                          refine lv_dup hx hb dX4_parse_234 rfl ?_
                          refine va_get (D := G) (ci := 4) (v := .int (nI k)) (C := RX4) (T := TX4) (N := 13) hx hb hts hX4 hown hK hP (0) wM_e0 rfl 10 (by decide) (hts (.fieldLink RX4 63 "DraftSurveyModel" "errorAt" "I") (by decide +kernel)) (fun _ h9 => h9) rfl dX4_parse_235 ?_
                          refine lv_iload hx hb dX4_parse_238 (lv_at hl 1 rfl) ?_
                          refine lv_if_eq (tgt := 247) hx hb dX4_parse_240 (by decide) (fun c_57 => ?_) (fun c_57 => ?_)
                          · skip
                            refine lv_iconst (v := 0) hx hb dX4_parse_247 (by decide) ?_
                            refine lv_iadd hx hb dX4_parse_248 ?_
                            refine tp_i (v := nI (k + 0)) (nI_add k 0) ?_
                            refine va_put (D := G) (ci := 4) (v := .int (nI (k + 0))) (ty := .int) (C := RX4) (T := TX4) (N := 13) hx hb hts hX4 tyX4 tyX4_ok nmX4 hown hK hP hD hS (0) wM_e0 rfl 10 (by decide) (hts (.fieldLink RX4 63 "DraftSurveyModel" "errorAt" "I") (by decide +kernel)) (fun _ h9 => h9) rfl (by decide +kernel) rfl rfl (Nat.le_of_ble_eq_true rfl) dX4_parse_249 (fun H locs hP hD hS => ?_)
                            have hP : va_P G vwCl (wM C b σ (x_er (nu, nI k, m_ir ρ, m_h ρ) (nI (k + 0)))) H := hP
                            have hD : va_D A (wM C b σ (x_er (nu, nI k, m_ir ρ, m_h ρ) (nI (k + 0)))) := hD
                            refine lv_goto (tgt := 17) hx hb dX4_parse_252 (by decide) ?_
                            refine lv_iload hx hb dX4_parse_17 (lv_at hl 1 rfl) ?_
                            refine lv_if_eq (tgt := 255) hx hb dX4_parse_19 (by decide) (fun c_58 => ?_) (fun c_58 => ?_)
                            · skip
                              refine lv_aload_n hx hb dX4_parse_255 rfl (lv_at hl 3 rfl) ?_
                              refine lv_iload hx hb dX4_parse_256 (lv_at hl 1 rfl) ?_
                              refine lv_if_eq (tgt := 274) hx hb dX4_parse_258 (by decide) (fun c_59 => ?_) (fun c_59 => ?_)
                              · skip
                                refine lv_iconst (v := 0) hx hb dX4_parse_274 (by decide) ?_
                                refine va_put (D := G) (ci := 4) (v := .int 0) (ty := .boolean) (C := RX4) (T := TX4) (N := 13) hx hb hts hX4 tyX4 tyX4_ok nmX4 hown hK hP hD hS (0) wM_e0 rfl 11 (by decide) (hts (.fieldLink RX4 76 "DraftSurveyModel" "isRow" "Z") (by decide +kernel)) (fun _ h9 => h9) rfl (by decide +kernel) (bl_nar (Or.inl rfl)) (bl_fit (Or.inl rfl)) (Nat.le_of_ble_eq_true rfl) dX4_parse_275 (fun H locs hP hD hS => ?_)
                                have hP : va_P G vwCl (wM C b σ (x_ir (x_er (nu, nI k, m_ir ρ, m_h ρ) (nI (k + 0))) 0)) H := hP
                                have hD : va_D A (wM C b σ (x_ir (x_er (nu, nI k, m_ir ρ, m_h ρ) (nI (k + 0))) 0)) := hD
                                refine wr_vret hx hb hr hlocks hAe hP hD hS ?_ dX4_parse_278
                                exact pP_of (f := nu) (i := 0) (g_2.symm.trans (nRun_none c_2 (st_no hch (wb_3 c_6) (fun _ => by omega) (fun _ => by omega)))) (if_neg (fun q => absurd q.1 (by omega))) (fun q => absurd q (by omega))
                              · skip
                                exact absurd c_59 (by decide)
                            · skip
                              exact absurd c_58 (by decide)
                          · skip
                            exact absurd c_57 (by decide)
                        · skip
                          have c_56 : gn = 0 := (nI_eq (a := gn) (b := 0) (by omega) (by omega)).mp c_56
                          refine lv_iconst (v := 1) hx hb dX4_parse_224 (by decide) ?_
                          refine lv_goto (tgt := 229) hx hb dX4_parse_225 (by decide) ?_
                          refine lv_istore (lv' := [(6, .int 1), (7, .int ch), (0, .ref (b 0)), (1, .int (nI pn)), (2, .int (nI dn)), (3, .int (nI gn)), (4, .long (lN mn))]) hx hb dX4_parse_229 hl (by decide) rfl (fun ls hl => ?_)
                          refine lv_iconst (v := 1) hx hb dX4_parse_231 (by decide) ?_
                          refine lv_istore_n (lv' := [(3, .int 1), (6, .int 1), (7, .int ch), (0, .ref (b 0)), (1, .int (nI pn)), (2, .int (nI dn)), (4, .long (lN mn))]) hx hb dX4_parse_232 rfl hl (by decide) rfl (fun ls hl => ?_)
                          refine lv_aload_n hx hb dX4_parse_233 rfl (lv_at hl 3 rfl) ?_
                          refine lv_dup hx hb dX4_parse_234 rfl ?_
                          refine va_get (D := G) (ci := 4) (v := .int (nI k)) (C := RX4) (T := TX4) (N := 13) hx hb hts hX4 hown hK hP (0) wM_e0 rfl 10 (by decide) (hts (.fieldLink RX4 63 "DraftSurveyModel" "errorAt" "I") (by decide +kernel)) (fun _ h9 => h9) rfl dX4_parse_235 ?_
                          refine lv_iload hx hb dX4_parse_238 (lv_at hl 1 rfl) ?_
                          refine lv_if_eq (tgt := 247) hx hb dX4_parse_240 (by decide) (fun c_60 => ?_) (fun c_60 => ?_)
                          · skip
                            exact absurd c_60 (by decide)
                          · skip
                            refine lv_iconst (v := 1) hx hb dX4_parse_243 (by decide) ?_
                            refine lv_goto (tgt := 248) hx hb dX4_parse_244 (by decide) ?_
                            refine lv_iadd hx hb dX4_parse_248 ?_
                            refine tp_i (v := nI (k + 1)) (nI_add k 1) ?_
                            refine va_put (D := G) (ci := 4) (v := .int (nI (k + 1))) (ty := .int) (C := RX4) (T := TX4) (N := 13) hx hb hts hX4 tyX4 tyX4_ok nmX4 hown hK hP hD hS (0) wM_e0 rfl 10 (by decide) (hts (.fieldLink RX4 63 "DraftSurveyModel" "errorAt" "I") (by decide +kernel)) (fun _ h9 => h9) rfl (by decide +kernel) rfl rfl (Nat.le_of_ble_eq_true rfl) dX4_parse_249 (fun H locs hP hD hS => ?_)
                            have hP : va_P G vwCl (wM C b σ (x_er (nu, nI k, m_ir ρ, m_h ρ) (nI (k + 1)))) H := hP
                            have hD : va_D A (wM C b σ (x_er (nu, nI k, m_ir ρ, m_h ρ) (nI (k + 1)))) := hD
                            refine lv_goto (tgt := 17) hx hb dX4_parse_252 (by decide) ?_
                            exact ih (k + 1) (nu, pn, dn, 1, mn) (by omega) (by omega) ((nRun_some c_2 (st_min hch c_44 (by omega))).symm.trans g_2) (nSt_ok g_3 (st_min hch c_44 (by omega))) H locs hP hD hS ls (lv_sub hl [3, 4, 5, 0, 6, 1] rfl)
                · skip
                  have c_43 : pn < 4 := (nI_ltI (a := pn) (b := 4) (by omega) (by omega)).mp c_43
                  refine lv_iinc (v := nI (pn + 1)) (lv' := [(1, .int (nI (pn + 1))), (7, .int ch), (0, .ref (b 0)), (2, .int (nI dn)), (3, .int (nI gn)), (4, .long (lN mn)), (6, .int 1)]) hx hb dX4_parse_191 hl (k := 2) rfl (nI_add pn 1) (by decide) rfl (fun ls hl => ?_)
                  refine lv_iconst (v := 0) hx hb dX4_parse_194 (by decide) ?_
                  refine lv_istore_n (lv' := [(2, .int 0), (1, .int (nI (pn + 1))), (7, .int ch), (0, .ref (b 0)), (3, .int (nI gn)), (4, .long (lN mn)), (6, .int 1)]) hx hb dX4_parse_195 rfl hl (by decide) rfl (fun ls hl => ?_)
                  refine lv_iconst (v := 0) hx hb dX4_parse_196 (by decide) ?_
                  refine lv_istore_n (lv' := [(3, .int 0), (2, .int 0), (1, .int (nI (pn + 1))), (7, .int ch), (0, .ref (b 0)), (4, .long (lN mn)), (6, .int 1)]) hx hb dX4_parse_197 rfl hl (by decide) rfl (fun ls hl => ?_)
                  refine lv_lconst (v := 0) hx hb dX4_parse_198 (by decide) ?_
                  refine lv_lstore (lv' := [(4, .long 0), (3, .int 0), (2, .int 0), (1, .int (nI (pn + 1))), (7, .int ch), (0, .ref (b 0)), (6, .int 1)]) hx hb dX4_parse_199 hl (by decide) rfl (fun ls hl => ?_)
                  refine lv_goto (tgt := 233) hx hb dX4_parse_201 (by decide) ?_
                  refine lv_aload_n hx hb dX4_parse_233 rfl (lv_at hl 5 rfl) ?_
                  refine lv_dup hx hb dX4_parse_234 rfl ?_
                  refine va_get (D := G) (ci := 4) (v := .int (nI k)) (C := RX4) (T := TX4) (N := 13) hx hb hts hX4 hown hK hP (0) wM_e0 rfl 10 (by decide) (hts (.fieldLink RX4 63 "DraftSurveyModel" "errorAt" "I") (by decide +kernel)) (fun _ h9 => h9) rfl dX4_parse_235 ?_
                  refine lv_iload hx hb dX4_parse_238 (lv_at hl 6 rfl) ?_
                  refine lv_if_eq (tgt := 247) hx hb dX4_parse_240 (by decide) (fun c_61 => ?_) (fun c_61 => ?_)
                  · skip
                    exact absurd c_61 (by decide)
                  · skip
                    refine lv_iconst (v := 1) hx hb dX4_parse_243 (by decide) ?_
                    refine lv_goto (tgt := 248) hx hb dX4_parse_244 (by decide) ?_
                    refine lv_iadd hx hb dX4_parse_248 ?_
                    refine tp_i (v := nI (k + 1)) (nI_add k 1) ?_
                    refine va_put (D := G) (ci := 4) (v := .int (nI (k + 1))) (ty := .int) (C := RX4) (T := TX4) (N := 13) hx hb hts hX4 tyX4 tyX4_ok nmX4 hown hK hP hD hS (0) wM_e0 rfl 10 (by decide) (hts (.fieldLink RX4 63 "DraftSurveyModel" "errorAt" "I") (by decide +kernel)) (fun _ h9 => h9) rfl (by decide +kernel) rfl rfl (Nat.le_of_ble_eq_true rfl) dX4_parse_249 (fun H locs hP hD hS => ?_)
                    have hP : va_P G vwCl (wM C b σ (x_er (nu, nI k, m_ir ρ, m_h ρ) (nI (k + 1)))) H := hP
                    have hD : va_D A (wM C b σ (x_er (nu, nI k, m_ir ρ, m_h ρ) (nI (k + 1)))) := hD
                    refine lv_goto (tgt := 17) hx hb dX4_parse_252 (by decide) ?_
                    exact ih (k + 1) (nu, pn + 1, 0, 0, 0) (by omega) (by omega) ((nRun_some c_2 (st_com hch c_7 (by omega))).symm.trans g_2) (nSt_ok g_3 (st_com hch c_7 (by omega))) H locs hP hD hS ls (lv_sub hl [5, 3, 2, 1, 0, 6] rfl)
          · skip
            obtain ⟨cn, h48, h57, hce⟩ := ch_nat (wb_1 c_6.1) (wb_2 c_6.2)
            subst hce
            refine lv_iload hx hb dX4_parse_59 (lv_at hl 0 rfl) ?_
            refine lv_bipush (v := 48) hx hb dX4_parse_61 (by decide) ?_
            refine lv_isub hx hb dX4_parse_63 ?_
            refine tp_i (v := nI (cn - 48)) (pk_sub (a := cn) (b := 48) (by omega)) ?_
            refine lv_istore (lv' := [(8, .int (nI (cn - 48))), (7, .int (nI cn)), (0, .ref (b 0)), (1, .int (nI pn)), (2, .int (nI dn)), (3, .int (nI gn)), (4, .long (lN mn)), (6, .int 1)]) hx hb dX4_parse_64 hl (by decide) rfl (fun ls hl => ?_)
            refine lv_iload_n hx hb dX4_parse_66 rfl (lv_at hl 4 rfl) ?_
            refine ic_if_ne (tgt := 83) hx hb dX4_parse_67 (by decide) (fun c_62 => ?_) (fun c_62 => ?_)
            · skip
              have c_62 : ¬ dn = 0 := fun z9 => c_62 ((nI_eq (a := dn) (b := 0) (by omega) (by omega)).mpr z9)
              refine lv_iconst (v := 0) hx hb dX4_parse_83 (by decide) ?_
              refine lv_istore (lv' := [(9, .int 0), (8, .int (nI (cn - 48))), (7, .int (nI cn)), (0, .ref (b 0)), (1, .int (nI pn)), (2, .int (nI dn)), (3, .int (nI gn)), (4, .long (lN mn)), (6, .int 1)]) hx hb dX4_parse_84 hl (by decide) rfl (fun ls hl => ?_)
              refine lv_iload hx hb dX4_parse_86 (lv_at hl 0 rfl) ?_
              refine ic_if_ne (tgt := 102) hx hb dX4_parse_88 (by decide) (fun c_63 => ?_) (fun c_63 => ?_)
              · skip
                exact absurd c_63 (by decide)
              · skip
                refine lv_iload_n hx hb dX4_parse_91 rfl (lv_at hl 5 rfl) ?_
                refine ic_if_le (tgt := 106) hx hb dX4_parse_92 (by decide) (fun c_64 => ?_) (fun c_64 => ?_)
                · skip
                  have c_64 : ¬ 0 < dn := fun z9 => c_64 ((nI_ltI (a := 0) (b := dn) (by omega) (by omega)).mpr z9)
                  refine lv_iconst (v := 0) hx hb dX4_parse_106 (by decide) ?_
                  refine lv_istore (lv' := [(6, .int 0), (9, .int 0), (8, .int (nI (cn - 48))), (7, .int (nI cn)), (0, .ref (b 0)), (1, .int (nI pn)), (2, .int (nI dn)), (3, .int (nI gn)), (4, .long (lN mn))]) hx hb dX4_parse_107 hl (by decide) rfl (fun ls hl => ?_)
                  refine lv_iload hx hb dX4_parse_109 (lv_at hl 0 rfl) ?_
                  refine lv_if_eq (tgt := 136) hx hb dX4_parse_111 (by decide) (fun c_65 => ?_) (fun c_65 => ?_)
                  · skip
                    refine lv_iconst (v := 0) hx hb dX4_parse_136 (by decide) ?_
                    refine lv_istore (lv' := [(6, .int 0), (9, .int 0), (8, .int (nI (cn - 48))), (7, .int (nI cn)), (0, .ref (b 0)), (1, .int (nI pn)), (2, .int (nI dn)), (3, .int (nI gn)), (4, .long (lN mn))]) hx hb dX4_parse_137 hl (by decide) rfl (fun ls hl => ?_)
                    refine lv_ldc2 (v := 10) hx hb hown (hts (.constantLong RX4 70 (10)) (by decide +kernel)) dX4_parse_139 ?_
                    refine lv_lload hx hb dX4_parse_142 (lv_at hl 8 rfl) ?_
                    refine lv_lmul hx hb dX4_parse_144 ?_
                    refine tp_l (v := lN (10 * mn)) (lN_mul 10 mn) ?_
                    refine lv_iload hx hb dX4_parse_145 (lv_at hl 2 rfl) ?_
                    refine lv_i2l (v := lN (cn - 48)) hx hb dX4_parse_147 (nI_l (by omega)) ?_
                    refine lv_ladd hx hb dX4_parse_148 ?_
                    refine tp_l (v := lN ((10 * mn) + (cn - 48))) (lN_add (10 * mn) (cn - 48)) ?_
                    refine lv_lstore (lv' := [(4, .long (lN ((10 * mn) + (cn - 48)))), (6, .int 0), (9, .int 0), (8, .int (nI (cn - 48))), (7, .int (nI cn)), (0, .ref (b 0)), (1, .int (nI pn)), (2, .int (nI dn)), (3, .int (nI gn))]) hx hb dX4_parse_149 hl (by decide) rfl (fun ls hl => ?_)
                    refine lv_iinc (v := nI (dn + 1)) (lv' := [(2, .int (nI (dn + 1))), (4, .long (lN ((10 * mn) + (cn - 48)))), (6, .int 0), (9, .int 0), (8, .int (nI (cn - 48))), (7, .int (nI cn)), (0, .ref (b 0)), (1, .int (nI pn)), (3, .int (nI gn))]) hx hb dX4_parse_151 hl (k := 7) rfl (nI_add dn 1) (by decide) rfl (fun ls hl => ?_)
                    refine lv_aload_n hx hb dX4_parse_154 rfl (lv_at hl 6 rfl) ?_
                    refine va_get (D := G) (ci := 4) (v := .ref (b 6)) (C := RX4) (T := TX4) (N := 13) hx hb hts hX4 hown hK hP (0) wM_e0 rfl 9 (by decide) (hts (.fieldLink RX4 32 "DraftSurveyModel" "read" "[J") (by decide +kernel)) (fun _ h9 => h9) rfl dX4_parse_155 ?_
                    refine lv_iload_n hx hb dX4_parse_158 rfl (lv_at hl 7 rfl) ?_
                    refine lv_iload_n hx hb dX4_parse_159 rfl (lv_at hl 8 rfl) ?_
                    refine lv_if_eq (tgt := 169) hx hb dX4_parse_160 (by decide) (fun c_66 => ?_) (fun c_66 => ?_)
                    · skip
                      have c_66 : gn = 0 := (nI_eq (a := gn) (b := 0) (by omega) (by omega)).mp c_66
                      refine lv_lload hx hb dX4_parse_169 (lv_at hl 1 rfl) ?_
                      refine as_l (k := pn) hx hb hK hP hD hS (6) 1 wM_e6 rfl rfl (by omega) (by decide) dX4_parse_171 (fun H locs hP hD hS => ?_)
                      have hP : va_P G vwCl (wM C b σ (x_rd (nu, nI k, m_ir ρ, m_h ρ) (vp_updL nu pn (lN ((10 * mn) + (cn - 48)))))) H := hP
                      have hD : va_D A (wM C b σ (x_rd (nu, nI k, m_ir ρ, m_h ρ) (vp_updL nu pn (lN ((10 * mn) + (cn - 48)))))) := hD
                      refine lv_goto (tgt := 233) hx hb dX4_parse_172 (by decide) ?_
                      refine lv_aload_n hx hb dX4_parse_233 rfl (lv_at hl 6 rfl) ?_
                      refine lv_dup hx hb dX4_parse_234 rfl ?_
                      refine va_get (D := G) (ci := 4) (v := .int (nI k)) (C := RX4) (T := TX4) (N := 13) hx hb hts hX4 hown hK hP (0) wM_e0 rfl 10 (by decide) (hts (.fieldLink RX4 63 "DraftSurveyModel" "errorAt" "I") (by decide +kernel)) (fun _ h9 => h9) rfl dX4_parse_235 ?_
                      refine lv_iload hx hb dX4_parse_238 (lv_at hl 2 rfl) ?_
                      refine lv_if_eq (tgt := 247) hx hb dX4_parse_240 (by decide) (fun c_67 => ?_) (fun c_67 => ?_)
                      · skip
                        refine lv_iconst (v := 0) hx hb dX4_parse_247 (by decide) ?_
                        refine lv_iadd hx hb dX4_parse_248 ?_
                        refine tp_i (v := nI (k + 0)) (nI_add k 0) ?_
                        refine va_put (D := G) (ci := 4) (v := .int (nI (k + 0))) (ty := .int) (C := RX4) (T := TX4) (N := 13) hx hb hts hX4 tyX4 tyX4_ok nmX4 hown hK hP hD hS (0) wM_e0 rfl 10 (by decide) (hts (.fieldLink RX4 63 "DraftSurveyModel" "errorAt" "I") (by decide +kernel)) (fun _ h9 => h9) rfl (by decide +kernel) rfl rfl (Nat.le_of_ble_eq_true rfl) dX4_parse_249 (fun H locs hP hD hS => ?_)
                        have hP : va_P G vwCl (wM C b σ (x_er (x_rd (nu, nI k, m_ir ρ, m_h ρ) (vp_updL nu pn (lN ((10 * mn) + (cn - 48))))) (nI (k + 0)))) H := hP
                        have hD : va_D A (wM C b σ (x_er (x_rd (nu, nI k, m_ir ρ, m_h ρ) (vp_updL nu pn (lN ((10 * mn) + (cn - 48))))) (nI (k + 0)))) := hD
                        refine lv_goto (tgt := 17) hx hb dX4_parse_252 (by decide) ?_
                        refine lv_iload hx hb dX4_parse_17 (lv_at hl 2 rfl) ?_
                        refine lv_if_eq (tgt := 255) hx hb dX4_parse_19 (by decide) (fun c_68 => ?_) (fun c_68 => ?_)
                        · skip
                          refine lv_aload_n hx hb dX4_parse_255 rfl (lv_at hl 6 rfl) ?_
                          refine lv_iload hx hb dX4_parse_256 (lv_at hl 2 rfl) ?_
                          refine lv_if_eq (tgt := 274) hx hb dX4_parse_258 (by decide) (fun c_69 => ?_) (fun c_69 => ?_)
                          · skip
                            refine lv_iconst (v := 0) hx hb dX4_parse_274 (by decide) ?_
                            refine va_put (D := G) (ci := 4) (v := .int 0) (ty := .boolean) (C := RX4) (T := TX4) (N := 13) hx hb hts hX4 tyX4 tyX4_ok nmX4 hown hK hP hD hS (0) wM_e0 rfl 11 (by decide) (hts (.fieldLink RX4 76 "DraftSurveyModel" "isRow" "Z") (by decide +kernel)) (fun _ h9 => h9) rfl (by decide +kernel) (bl_nar (Or.inl rfl)) (bl_fit (Or.inl rfl)) (Nat.le_of_ble_eq_true rfl) dX4_parse_275 (fun H locs hP hD hS => ?_)
                            have hP : va_P G vwCl (wM C b σ (x_ir (x_er (x_rd (nu, nI k, m_ir ρ, m_h ρ) (vp_updL nu pn (lN ((10 * mn) + (cn - 48))))) (nI (k + 0))) 0)) H := hP
                            have hD : va_D A (wM C b σ (x_ir (x_er (x_rd (nu, nI k, m_ir ρ, m_h ρ) (vp_updL nu pn (lN ((10 * mn) + (cn - 48))))) (nI (k + 0))) 0)) := hD
                            refine wr_vret hx hb hr hlocks hAe hP hD hS ?_ dX4_parse_278
                            exact pP_of (f := vp_updL nu pn (lN ((10 * mn) + (cn - 48)))) (i := 0) (g_2.symm.trans (nRun_none c_2 (st_dig0 h48 h57 hch (by omega)))) (if_neg (fun q => absurd q.1 (by omega))) (fun q => absurd q (by omega))
                          · skip
                            exact absurd c_69 (by decide)
                        · skip
                          exact absurd c_68 (by decide)
                      · skip
                        exact absurd c_67 (by decide)
                    · skip
                      have c_66 : ¬ gn = 0 := fun z9 => c_66 ((nI_eq (a := gn) (b := 0) (by omega) (by omega)).mpr z9)
                      refine lv_lload hx hb dX4_parse_163 (lv_at hl 1 rfl) ?_
                      refine lv_lneg hx hb dX4_parse_165 ?_
                      refine lv_goto (tgt := 171) hx hb dX4_parse_166 (by decide) ?_
                      refine as_l (k := pn) hx hb hK hP hD hS (6) 1 wM_e6 rfl rfl (by omega) (by decide) dX4_parse_171 (fun H locs hP hD hS => ?_)
                      have hP : va_P G vwCl (wM C b σ (x_rd (nu, nI k, m_ir ρ, m_h ρ) (vp_updL nu pn (-(lN ((10 * mn) + (cn - 48))))))) H := hP
                      have hD : va_D A (wM C b σ (x_rd (nu, nI k, m_ir ρ, m_h ρ) (vp_updL nu pn (-(lN ((10 * mn) + (cn - 48))))))) := hD
                      refine lv_goto (tgt := 233) hx hb dX4_parse_172 (by decide) ?_
                      refine lv_aload_n hx hb dX4_parse_233 rfl (lv_at hl 6 rfl) ?_
                      refine lv_dup hx hb dX4_parse_234 rfl ?_
                      refine va_get (D := G) (ci := 4) (v := .int (nI k)) (C := RX4) (T := TX4) (N := 13) hx hb hts hX4 hown hK hP (0) wM_e0 rfl 10 (by decide) (hts (.fieldLink RX4 63 "DraftSurveyModel" "errorAt" "I") (by decide +kernel)) (fun _ h9 => h9) rfl dX4_parse_235 ?_
                      refine lv_iload hx hb dX4_parse_238 (lv_at hl 2 rfl) ?_
                      refine lv_if_eq (tgt := 247) hx hb dX4_parse_240 (by decide) (fun c_70 => ?_) (fun c_70 => ?_)
                      · skip
                        refine lv_iconst (v := 0) hx hb dX4_parse_247 (by decide) ?_
                        refine lv_iadd hx hb dX4_parse_248 ?_
                        refine tp_i (v := nI (k + 0)) (nI_add k 0) ?_
                        refine va_put (D := G) (ci := 4) (v := .int (nI (k + 0))) (ty := .int) (C := RX4) (T := TX4) (N := 13) hx hb hts hX4 tyX4 tyX4_ok nmX4 hown hK hP hD hS (0) wM_e0 rfl 10 (by decide) (hts (.fieldLink RX4 63 "DraftSurveyModel" "errorAt" "I") (by decide +kernel)) (fun _ h9 => h9) rfl (by decide +kernel) rfl rfl (Nat.le_of_ble_eq_true rfl) dX4_parse_249 (fun H locs hP hD hS => ?_)
                        have hP : va_P G vwCl (wM C b σ (x_er (x_rd (nu, nI k, m_ir ρ, m_h ρ) (vp_updL nu pn (-(lN ((10 * mn) + (cn - 48)))))) (nI (k + 0)))) H := hP
                        have hD : va_D A (wM C b σ (x_er (x_rd (nu, nI k, m_ir ρ, m_h ρ) (vp_updL nu pn (-(lN ((10 * mn) + (cn - 48)))))) (nI (k + 0)))) := hD
                        refine lv_goto (tgt := 17) hx hb dX4_parse_252 (by decide) ?_
                        refine lv_iload hx hb dX4_parse_17 (lv_at hl 2 rfl) ?_
                        refine lv_if_eq (tgt := 255) hx hb dX4_parse_19 (by decide) (fun c_71 => ?_) (fun c_71 => ?_)
                        · skip
                          refine lv_aload_n hx hb dX4_parse_255 rfl (lv_at hl 6 rfl) ?_
                          refine lv_iload hx hb dX4_parse_256 (lv_at hl 2 rfl) ?_
                          refine lv_if_eq (tgt := 274) hx hb dX4_parse_258 (by decide) (fun c_72 => ?_) (fun c_72 => ?_)
                          · skip
                            refine lv_iconst (v := 0) hx hb dX4_parse_274 (by decide) ?_
                            refine va_put (D := G) (ci := 4) (v := .int 0) (ty := .boolean) (C := RX4) (T := TX4) (N := 13) hx hb hts hX4 tyX4 tyX4_ok nmX4 hown hK hP hD hS (0) wM_e0 rfl 11 (by decide) (hts (.fieldLink RX4 76 "DraftSurveyModel" "isRow" "Z") (by decide +kernel)) (fun _ h9 => h9) rfl (by decide +kernel) (bl_nar (Or.inl rfl)) (bl_fit (Or.inl rfl)) (Nat.le_of_ble_eq_true rfl) dX4_parse_275 (fun H locs hP hD hS => ?_)
                            have hP : va_P G vwCl (wM C b σ (x_ir (x_er (x_rd (nu, nI k, m_ir ρ, m_h ρ) (vp_updL nu pn (-(lN ((10 * mn) + (cn - 48)))))) (nI (k + 0))) 0)) H := hP
                            have hD : va_D A (wM C b σ (x_ir (x_er (x_rd (nu, nI k, m_ir ρ, m_h ρ) (vp_updL nu pn (-(lN ((10 * mn) + (cn - 48)))))) (nI (k + 0))) 0)) := hD
                            refine wr_vret hx hb hr hlocks hAe hP hD hS ?_ dX4_parse_278
                            exact pP_of (f := vp_updL nu pn (-(lN ((10 * mn) + (cn - 48))))) (i := 0) (g_2.symm.trans (nRun_none c_2 (st_dig0 h48 h57 hch (by omega)))) (if_neg (fun q => absurd q.1 (by omega))) (fun q => absurd q (by omega))
                          · skip
                            exact absurd c_72 (by decide)
                        · skip
                          exact absurd c_71 (by decide)
                      · skip
                        exact absurd c_70 (by decide)
                  · skip
                    exact absurd c_65 (by decide)
                · skip
                  have c_64 : 0 < dn := (nI_ltI (a := 0) (b := dn) (by omega) (by omega)).mp c_64
                  refine lv_lload hx hb dX4_parse_95 (lv_at hl 7 rfl) ?_
                  refine lv_lconst (v := 0) hx hb dX4_parse_97 (by decide) ?_
                  refine lc_le (tgt := 106) hx hb dX4_parse_98 dX4_parse_99 (by decide) (fun c_73 => ?_) (fun c_73 => ?_)
                  · skip
                    have c_73 : ¬ 0 < mn := fun z9 => c_73 ((lN_lt (a := 0) (b := mn) (by omega) (by omega)).mpr z9)
                    refine lv_iconst (v := 0) hx hb dX4_parse_106 (by decide) ?_
                    refine lv_istore (lv' := [(6, .int 0), (9, .int 0), (8, .int (nI (cn - 48))), (7, .int (nI cn)), (0, .ref (b 0)), (1, .int (nI pn)), (2, .int (nI dn)), (3, .int (nI gn)), (4, .long (lN mn))]) hx hb dX4_parse_107 hl (by decide) rfl (fun ls hl => ?_)
                    refine lv_iload hx hb dX4_parse_109 (lv_at hl 0 rfl) ?_
                    refine lv_if_eq (tgt := 136) hx hb dX4_parse_111 (by decide) (fun c_74 => ?_) (fun c_74 => ?_)
                    · skip
                      refine lv_iconst (v := 0) hx hb dX4_parse_136 (by decide) ?_
                      refine lv_istore (lv' := [(6, .int 0), (9, .int 0), (8, .int (nI (cn - 48))), (7, .int (nI cn)), (0, .ref (b 0)), (1, .int (nI pn)), (2, .int (nI dn)), (3, .int (nI gn)), (4, .long (lN mn))]) hx hb dX4_parse_137 hl (by decide) rfl (fun ls hl => ?_)
                      refine lv_ldc2 (v := 10) hx hb hown (hts (.constantLong RX4 70 (10)) (by decide +kernel)) dX4_parse_139 ?_
                      refine lv_lload hx hb dX4_parse_142 (lv_at hl 8 rfl) ?_
                      refine lv_lmul hx hb dX4_parse_144 ?_
                      refine tp_l (v := lN (10 * mn)) (lN_mul 10 mn) ?_
                      refine lv_iload hx hb dX4_parse_145 (lv_at hl 2 rfl) ?_
                      refine lv_i2l (v := lN (cn - 48)) hx hb dX4_parse_147 (nI_l (by omega)) ?_
                      refine lv_ladd hx hb dX4_parse_148 ?_
                      refine tp_l (v := lN ((10 * mn) + (cn - 48))) (lN_add (10 * mn) (cn - 48)) ?_
                      refine lv_lstore (lv' := [(4, .long (lN ((10 * mn) + (cn - 48)))), (6, .int 0), (9, .int 0), (8, .int (nI (cn - 48))), (7, .int (nI cn)), (0, .ref (b 0)), (1, .int (nI pn)), (2, .int (nI dn)), (3, .int (nI gn))]) hx hb dX4_parse_149 hl (by decide) rfl (fun ls hl => ?_)
                      refine lv_iinc (v := nI (dn + 1)) (lv' := [(2, .int (nI (dn + 1))), (4, .long (lN ((10 * mn) + (cn - 48)))), (6, .int 0), (9, .int 0), (8, .int (nI (cn - 48))), (7, .int (nI cn)), (0, .ref (b 0)), (1, .int (nI pn)), (3, .int (nI gn))]) hx hb dX4_parse_151 hl (k := 7) rfl (nI_add dn 1) (by decide) rfl (fun ls hl => ?_)
                      refine lv_aload_n hx hb dX4_parse_154 rfl (lv_at hl 6 rfl) ?_
                      refine va_get (D := G) (ci := 4) (v := .ref (b 6)) (C := RX4) (T := TX4) (N := 13) hx hb hts hX4 hown hK hP (0) wM_e0 rfl 9 (by decide) (hts (.fieldLink RX4 32 "DraftSurveyModel" "read" "[J") (by decide +kernel)) (fun _ h9 => h9) rfl dX4_parse_155 ?_
                      refine lv_iload_n hx hb dX4_parse_158 rfl (lv_at hl 7 rfl) ?_
                      refine lv_iload_n hx hb dX4_parse_159 rfl (lv_at hl 8 rfl) ?_
                      refine lv_if_eq (tgt := 169) hx hb dX4_parse_160 (by decide) (fun c_75 => ?_) (fun c_75 => ?_)
                      · skip
                        have c_75 : gn = 0 := (nI_eq (a := gn) (b := 0) (by omega) (by omega)).mp c_75
                        refine lv_lload hx hb dX4_parse_169 (lv_at hl 1 rfl) ?_
                        refine as_l (k := pn) hx hb hK hP hD hS (6) 1 wM_e6 rfl rfl (by omega) (by decide) dX4_parse_171 (fun H locs hP hD hS => ?_)
                        have hP : va_P G vwCl (wM C b σ (x_rd (nu, nI k, m_ir ρ, m_h ρ) (vp_updL nu pn (lN ((10 * mn) + (cn - 48)))))) H := hP
                        have hD : va_D A (wM C b σ (x_rd (nu, nI k, m_ir ρ, m_h ρ) (vp_updL nu pn (lN ((10 * mn) + (cn - 48)))))) := hD
                        refine lv_goto (tgt := 233) hx hb dX4_parse_172 (by decide) ?_
                        refine lv_aload_n hx hb dX4_parse_233 rfl (lv_at hl 6 rfl) ?_
                        refine lv_dup hx hb dX4_parse_234 rfl ?_
                        refine va_get (D := G) (ci := 4) (v := .int (nI k)) (C := RX4) (T := TX4) (N := 13) hx hb hts hX4 hown hK hP (0) wM_e0 rfl 10 (by decide) (hts (.fieldLink RX4 63 "DraftSurveyModel" "errorAt" "I") (by decide +kernel)) (fun _ h9 => h9) rfl dX4_parse_235 ?_
                        refine lv_iload hx hb dX4_parse_238 (lv_at hl 2 rfl) ?_
                        refine lv_if_eq (tgt := 247) hx hb dX4_parse_240 (by decide) (fun c_76 => ?_) (fun c_76 => ?_)
                        · skip
                          refine lv_iconst (v := 0) hx hb dX4_parse_247 (by decide) ?_
                          refine lv_iadd hx hb dX4_parse_248 ?_
                          refine tp_i (v := nI (k + 0)) (nI_add k 0) ?_
                          refine va_put (D := G) (ci := 4) (v := .int (nI (k + 0))) (ty := .int) (C := RX4) (T := TX4) (N := 13) hx hb hts hX4 tyX4 tyX4_ok nmX4 hown hK hP hD hS (0) wM_e0 rfl 10 (by decide) (hts (.fieldLink RX4 63 "DraftSurveyModel" "errorAt" "I") (by decide +kernel)) (fun _ h9 => h9) rfl (by decide +kernel) rfl rfl (Nat.le_of_ble_eq_true rfl) dX4_parse_249 (fun H locs hP hD hS => ?_)
                          have hP : va_P G vwCl (wM C b σ (x_er (x_rd (nu, nI k, m_ir ρ, m_h ρ) (vp_updL nu pn (lN ((10 * mn) + (cn - 48))))) (nI (k + 0)))) H := hP
                          have hD : va_D A (wM C b σ (x_er (x_rd (nu, nI k, m_ir ρ, m_h ρ) (vp_updL nu pn (lN ((10 * mn) + (cn - 48))))) (nI (k + 0)))) := hD
                          refine lv_goto (tgt := 17) hx hb dX4_parse_252 (by decide) ?_
                          refine lv_iload hx hb dX4_parse_17 (lv_at hl 2 rfl) ?_
                          refine lv_if_eq (tgt := 255) hx hb dX4_parse_19 (by decide) (fun c_77 => ?_) (fun c_77 => ?_)
                          · skip
                            refine lv_aload_n hx hb dX4_parse_255 rfl (lv_at hl 6 rfl) ?_
                            refine lv_iload hx hb dX4_parse_256 (lv_at hl 2 rfl) ?_
                            refine lv_if_eq (tgt := 274) hx hb dX4_parse_258 (by decide) (fun c_78 => ?_) (fun c_78 => ?_)
                            · skip
                              refine lv_iconst (v := 0) hx hb dX4_parse_274 (by decide) ?_
                              refine va_put (D := G) (ci := 4) (v := .int 0) (ty := .boolean) (C := RX4) (T := TX4) (N := 13) hx hb hts hX4 tyX4 tyX4_ok nmX4 hown hK hP hD hS (0) wM_e0 rfl 11 (by decide) (hts (.fieldLink RX4 76 "DraftSurveyModel" "isRow" "Z") (by decide +kernel)) (fun _ h9 => h9) rfl (by decide +kernel) (bl_nar (Or.inl rfl)) (bl_fit (Or.inl rfl)) (Nat.le_of_ble_eq_true rfl) dX4_parse_275 (fun H locs hP hD hS => ?_)
                              have hP : va_P G vwCl (wM C b σ (x_ir (x_er (x_rd (nu, nI k, m_ir ρ, m_h ρ) (vp_updL nu pn (lN ((10 * mn) + (cn - 48))))) (nI (k + 0))) 0)) H := hP
                              have hD : va_D A (wM C b σ (x_ir (x_er (x_rd (nu, nI k, m_ir ρ, m_h ρ) (vp_updL nu pn (lN ((10 * mn) + (cn - 48))))) (nI (k + 0))) 0)) := hD
                              refine wr_vret hx hb hr hlocks hAe hP hD hS ?_ dX4_parse_278
                              exact pP_of (f := vp_updL nu pn (lN ((10 * mn) + (cn - 48)))) (i := 0) (g_2.symm.trans (nRun_none c_2 (st_dig0 h48 h57 hch (by omega)))) (if_neg (fun q => absurd q.1 (by omega))) (fun q => absurd q (by omega))
                            · skip
                              exact absurd c_78 (by decide)
                          · skip
                            exact absurd c_77 (by decide)
                        · skip
                          exact absurd c_76 (by decide)
                      · skip
                        have c_75 : ¬ gn = 0 := fun z9 => c_75 ((nI_eq (a := gn) (b := 0) (by omega) (by omega)).mpr z9)
                        refine lv_lload hx hb dX4_parse_163 (lv_at hl 1 rfl) ?_
                        refine lv_lneg hx hb dX4_parse_165 ?_
                        refine lv_goto (tgt := 171) hx hb dX4_parse_166 (by decide) ?_
                        refine as_l (k := pn) hx hb hK hP hD hS (6) 1 wM_e6 rfl rfl (by omega) (by decide) dX4_parse_171 (fun H locs hP hD hS => ?_)
                        have hP : va_P G vwCl (wM C b σ (x_rd (nu, nI k, m_ir ρ, m_h ρ) (vp_updL nu pn (-(lN ((10 * mn) + (cn - 48))))))) H := hP
                        have hD : va_D A (wM C b σ (x_rd (nu, nI k, m_ir ρ, m_h ρ) (vp_updL nu pn (-(lN ((10 * mn) + (cn - 48))))))) := hD
                        refine lv_goto (tgt := 233) hx hb dX4_parse_172 (by decide) ?_
                        refine lv_aload_n hx hb dX4_parse_233 rfl (lv_at hl 6 rfl) ?_
                        refine lv_dup hx hb dX4_parse_234 rfl ?_
                        refine va_get (D := G) (ci := 4) (v := .int (nI k)) (C := RX4) (T := TX4) (N := 13) hx hb hts hX4 hown hK hP (0) wM_e0 rfl 10 (by decide) (hts (.fieldLink RX4 63 "DraftSurveyModel" "errorAt" "I") (by decide +kernel)) (fun _ h9 => h9) rfl dX4_parse_235 ?_
                        refine lv_iload hx hb dX4_parse_238 (lv_at hl 2 rfl) ?_
                        refine lv_if_eq (tgt := 247) hx hb dX4_parse_240 (by decide) (fun c_79 => ?_) (fun c_79 => ?_)
                        · skip
                          refine lv_iconst (v := 0) hx hb dX4_parse_247 (by decide) ?_
                          refine lv_iadd hx hb dX4_parse_248 ?_
                          refine tp_i (v := nI (k + 0)) (nI_add k 0) ?_
                          refine va_put (D := G) (ci := 4) (v := .int (nI (k + 0))) (ty := .int) (C := RX4) (T := TX4) (N := 13) hx hb hts hX4 tyX4 tyX4_ok nmX4 hown hK hP hD hS (0) wM_e0 rfl 10 (by decide) (hts (.fieldLink RX4 63 "DraftSurveyModel" "errorAt" "I") (by decide +kernel)) (fun _ h9 => h9) rfl (by decide +kernel) rfl rfl (Nat.le_of_ble_eq_true rfl) dX4_parse_249 (fun H locs hP hD hS => ?_)
                          have hP : va_P G vwCl (wM C b σ (x_er (x_rd (nu, nI k, m_ir ρ, m_h ρ) (vp_updL nu pn (-(lN ((10 * mn) + (cn - 48)))))) (nI (k + 0)))) H := hP
                          have hD : va_D A (wM C b σ (x_er (x_rd (nu, nI k, m_ir ρ, m_h ρ) (vp_updL nu pn (-(lN ((10 * mn) + (cn - 48)))))) (nI (k + 0)))) := hD
                          refine lv_goto (tgt := 17) hx hb dX4_parse_252 (by decide) ?_
                          refine lv_iload hx hb dX4_parse_17 (lv_at hl 2 rfl) ?_
                          refine lv_if_eq (tgt := 255) hx hb dX4_parse_19 (by decide) (fun c_80 => ?_) (fun c_80 => ?_)
                          · skip
                            refine lv_aload_n hx hb dX4_parse_255 rfl (lv_at hl 6 rfl) ?_
                            refine lv_iload hx hb dX4_parse_256 (lv_at hl 2 rfl) ?_
                            refine lv_if_eq (tgt := 274) hx hb dX4_parse_258 (by decide) (fun c_81 => ?_) (fun c_81 => ?_)
                            · skip
                              refine lv_iconst (v := 0) hx hb dX4_parse_274 (by decide) ?_
                              refine va_put (D := G) (ci := 4) (v := .int 0) (ty := .boolean) (C := RX4) (T := TX4) (N := 13) hx hb hts hX4 tyX4 tyX4_ok nmX4 hown hK hP hD hS (0) wM_e0 rfl 11 (by decide) (hts (.fieldLink RX4 76 "DraftSurveyModel" "isRow" "Z") (by decide +kernel)) (fun _ h9 => h9) rfl (by decide +kernel) (bl_nar (Or.inl rfl)) (bl_fit (Or.inl rfl)) (Nat.le_of_ble_eq_true rfl) dX4_parse_275 (fun H locs hP hD hS => ?_)
                              have hP : va_P G vwCl (wM C b σ (x_ir (x_er (x_rd (nu, nI k, m_ir ρ, m_h ρ) (vp_updL nu pn (-(lN ((10 * mn) + (cn - 48)))))) (nI (k + 0))) 0)) H := hP
                              have hD : va_D A (wM C b σ (x_ir (x_er (x_rd (nu, nI k, m_ir ρ, m_h ρ) (vp_updL nu pn (-(lN ((10 * mn) + (cn - 48)))))) (nI (k + 0))) 0)) := hD
                              refine wr_vret hx hb hr hlocks hAe hP hD hS ?_ dX4_parse_278
                              exact pP_of (f := vp_updL nu pn (-(lN ((10 * mn) + (cn - 48))))) (i := 0) (g_2.symm.trans (nRun_none c_2 (st_dig0 h48 h57 hch (by omega)))) (if_neg (fun q => absurd q.1 (by omega))) (fun q => absurd q (by omega))
                            · skip
                              exact absurd c_81 (by decide)
                          · skip
                            exact absurd c_80 (by decide)
                        · skip
                          exact absurd c_79 (by decide)
                    · skip
                      exact absurd c_74 (by decide)
                  · skip
                    have c_73 : 0 < mn := (lN_lt (a := 0) (b := mn) (by omega) (by omega)).mp c_73
                    refine lv_iconst (v := 1) hx hb dX4_parse_102 (by decide) ?_
                    refine lv_goto (tgt := 107) hx hb dX4_parse_103 (by decide) ?_
                    refine lv_istore (lv' := [(6, .int 1), (9, .int 0), (8, .int (nI (cn - 48))), (7, .int (nI cn)), (0, .ref (b 0)), (1, .int (nI pn)), (2, .int (nI dn)), (3, .int (nI gn)), (4, .long (lN mn))]) hx hb dX4_parse_107 hl (by decide) rfl (fun ls hl => ?_)
                    refine lv_iload hx hb dX4_parse_109 (lv_at hl 0 rfl) ?_
                    refine lv_if_eq (tgt := 136) hx hb dX4_parse_111 (by decide) (fun c_82 => ?_) (fun c_82 => ?_)
                    · skip
                      exact absurd c_82 (by decide)
                    · skip
                      refine lv_ldc2 (v := 10) hx hb hown (hts (.constantLong RX4 70 (10)) (by decide +kernel)) dX4_parse_114 ?_
                      refine lv_lload hx hb dX4_parse_117 (lv_at hl 8 rfl) ?_
                      refine lv_lmul hx hb dX4_parse_119 ?_
                      refine tp_l (v := lN (10 * mn)) (lN_mul 10 mn) ?_
                      refine lv_iload hx hb dX4_parse_120 (lv_at hl 2 rfl) ?_
                      refine lv_i2l (v := lN (cn - 48)) hx hb dX4_parse_122 (nI_l (by omega)) ?_
                      refine lv_ladd hx hb dX4_parse_123 ?_
                      refine tp_l (v := lN ((10 * mn) + (cn - 48))) (lN_add (10 * mn) (cn - 48)) ?_
                      refine lv_iload_n hx hb dX4_parse_124 rfl (lv_at hl 5 rfl) ?_
                      refine rd_callS (As := [.int (nI pn)]) (rest := [.long (lN ((10 * mn) + (cn - 48)))]) ⟨hx, hb, hml, hown, hts⟩ (m_great l G C b σ (nu, nI k, m_ir ρ, m_h ρ) (q := pn) (by omega)) (va_cwS 1 hts gX4_parse_X4_greatest rfl rfl rfl (by decide +kernel) ⟨Nat.le_of_ble_eq_true rfl, Nat.le_of_ble_eq_true rfl⟩) hK hN hP rfl hl.1 rfl (Nat.le_of_ble_eq_true rfl) dX4_parse_125 ⟨Nat.zero_le _, Nat.zero_le _⟩ ?_
                      have hgr := grT_le pn
                      refine lc_gt (tgt := 136) hx hb dX4_parse_128 dX4_parse_129 (by decide) (fun c_83 => ?_) (fun c_83 => ?_)
                      · skip
                        have c_83 : (grT pn) < ((10 * mn) + (cn - 48)) := (lN_lt (a := grT pn) (b := ((10 * mn) + (cn - 48))) (by omega) (by omega)).mp c_83
                        refine lv_iconst (v := 0) hx hb dX4_parse_136 (by decide) ?_
                        refine lv_istore (lv' := [(6, .int 0), (9, .int 0), (8, .int (nI (cn - 48))), (7, .int (nI cn)), (0, .ref (b 0)), (1, .int (nI pn)), (2, .int (nI dn)), (3, .int (nI gn)), (4, .long (lN mn))]) hx hb dX4_parse_137 hl (by decide) rfl (fun ls hl => ?_)
                        refine lv_ldc2 (v := 10) hx hb hown (hts (.constantLong RX4 70 (10)) (by decide +kernel)) dX4_parse_139 ?_
                        refine lv_lload hx hb dX4_parse_142 (lv_at hl 8 rfl) ?_
                        refine lv_lmul hx hb dX4_parse_144 ?_
                        refine tp_l (v := lN (10 * mn)) (lN_mul 10 mn) ?_
                        refine lv_iload hx hb dX4_parse_145 (lv_at hl 2 rfl) ?_
                        refine lv_i2l (v := lN (cn - 48)) hx hb dX4_parse_147 (nI_l (by omega)) ?_
                        refine lv_ladd hx hb dX4_parse_148 ?_
                        refine tp_l (v := lN ((10 * mn) + (cn - 48))) (lN_add (10 * mn) (cn - 48)) ?_
                        refine lv_lstore (lv' := [(4, .long (lN ((10 * mn) + (cn - 48)))), (6, .int 0), (9, .int 0), (8, .int (nI (cn - 48))), (7, .int (nI cn)), (0, .ref (b 0)), (1, .int (nI pn)), (2, .int (nI dn)), (3, .int (nI gn))]) hx hb dX4_parse_149 hl (by decide) rfl (fun ls hl => ?_)
                        refine lv_iinc (v := nI (dn + 1)) (lv' := [(2, .int (nI (dn + 1))), (4, .long (lN ((10 * mn) + (cn - 48)))), (6, .int 0), (9, .int 0), (8, .int (nI (cn - 48))), (7, .int (nI cn)), (0, .ref (b 0)), (1, .int (nI pn)), (3, .int (nI gn))]) hx hb dX4_parse_151 hl (k := 7) rfl (nI_add dn 1) (by decide) rfl (fun ls hl => ?_)
                        refine lv_aload_n hx hb dX4_parse_154 rfl (lv_at hl 6 rfl) ?_
                        refine va_get (D := G) (ci := 4) (v := .ref (b 6)) (C := RX4) (T := TX4) (N := 13) hx hb hts hX4 hown hK hP (0) wM_e0 rfl 9 (by decide) (hts (.fieldLink RX4 32 "DraftSurveyModel" "read" "[J") (by decide +kernel)) (fun _ h9 => h9) rfl dX4_parse_155 ?_
                        refine lv_iload_n hx hb dX4_parse_158 rfl (lv_at hl 7 rfl) ?_
                        refine lv_iload_n hx hb dX4_parse_159 rfl (lv_at hl 8 rfl) ?_
                        refine lv_if_eq (tgt := 169) hx hb dX4_parse_160 (by decide) (fun c_84 => ?_) (fun c_84 => ?_)
                        · skip
                          have c_84 : gn = 0 := (nI_eq (a := gn) (b := 0) (by omega) (by omega)).mp c_84
                          refine lv_lload hx hb dX4_parse_169 (lv_at hl 1 rfl) ?_
                          refine as_l (k := pn) hx hb hK hP hD hS (6) 1 wM_e6 rfl rfl (by omega) (by decide) dX4_parse_171 (fun H locs hP hD hS => ?_)
                          have hP : va_P G vwCl (wM C b σ (x_rd (nu, nI k, m_ir ρ, m_h ρ) (vp_updL nu pn (lN ((10 * mn) + (cn - 48)))))) H := hP
                          have hD : va_D A (wM C b σ (x_rd (nu, nI k, m_ir ρ, m_h ρ) (vp_updL nu pn (lN ((10 * mn) + (cn - 48)))))) := hD
                          refine lv_goto (tgt := 233) hx hb dX4_parse_172 (by decide) ?_
                          refine lv_aload_n hx hb dX4_parse_233 rfl (lv_at hl 6 rfl) ?_
                          refine lv_dup hx hb dX4_parse_234 rfl ?_
                          refine va_get (D := G) (ci := 4) (v := .int (nI k)) (C := RX4) (T := TX4) (N := 13) hx hb hts hX4 hown hK hP (0) wM_e0 rfl 10 (by decide) (hts (.fieldLink RX4 63 "DraftSurveyModel" "errorAt" "I") (by decide +kernel)) (fun _ h9 => h9) rfl dX4_parse_235 ?_
                          refine lv_iload hx hb dX4_parse_238 (lv_at hl 2 rfl) ?_
                          refine lv_if_eq (tgt := 247) hx hb dX4_parse_240 (by decide) (fun c_85 => ?_) (fun c_85 => ?_)
                          · skip
                            refine lv_iconst (v := 0) hx hb dX4_parse_247 (by decide) ?_
                            refine lv_iadd hx hb dX4_parse_248 ?_
                            refine tp_i (v := nI (k + 0)) (nI_add k 0) ?_
                            refine va_put (D := G) (ci := 4) (v := .int (nI (k + 0))) (ty := .int) (C := RX4) (T := TX4) (N := 13) hx hb hts hX4 tyX4 tyX4_ok nmX4 hown hK hP hD hS (0) wM_e0 rfl 10 (by decide) (hts (.fieldLink RX4 63 "DraftSurveyModel" "errorAt" "I") (by decide +kernel)) (fun _ h9 => h9) rfl (by decide +kernel) rfl rfl (Nat.le_of_ble_eq_true rfl) dX4_parse_249 (fun H locs hP hD hS => ?_)
                            have hP : va_P G vwCl (wM C b σ (x_er (x_rd (nu, nI k, m_ir ρ, m_h ρ) (vp_updL nu pn (lN ((10 * mn) + (cn - 48))))) (nI (k + 0)))) H := hP
                            have hD : va_D A (wM C b σ (x_er (x_rd (nu, nI k, m_ir ρ, m_h ρ) (vp_updL nu pn (lN ((10 * mn) + (cn - 48))))) (nI (k + 0)))) := hD
                            refine lv_goto (tgt := 17) hx hb dX4_parse_252 (by decide) ?_
                            refine lv_iload hx hb dX4_parse_17 (lv_at hl 2 rfl) ?_
                            refine lv_if_eq (tgt := 255) hx hb dX4_parse_19 (by decide) (fun c_86 => ?_) (fun c_86 => ?_)
                            · skip
                              refine lv_aload_n hx hb dX4_parse_255 rfl (lv_at hl 6 rfl) ?_
                              refine lv_iload hx hb dX4_parse_256 (lv_at hl 2 rfl) ?_
                              refine lv_if_eq (tgt := 274) hx hb dX4_parse_258 (by decide) (fun c_87 => ?_) (fun c_87 => ?_)
                              · skip
                                refine lv_iconst (v := 0) hx hb dX4_parse_274 (by decide) ?_
                                refine va_put (D := G) (ci := 4) (v := .int 0) (ty := .boolean) (C := RX4) (T := TX4) (N := 13) hx hb hts hX4 tyX4 tyX4_ok nmX4 hown hK hP hD hS (0) wM_e0 rfl 11 (by decide) (hts (.fieldLink RX4 76 "DraftSurveyModel" "isRow" "Z") (by decide +kernel)) (fun _ h9 => h9) rfl (by decide +kernel) (bl_nar (Or.inl rfl)) (bl_fit (Or.inl rfl)) (Nat.le_of_ble_eq_true rfl) dX4_parse_275 (fun H locs hP hD hS => ?_)
                                have hP : va_P G vwCl (wM C b σ (x_ir (x_er (x_rd (nu, nI k, m_ir ρ, m_h ρ) (vp_updL nu pn (lN ((10 * mn) + (cn - 48))))) (nI (k + 0))) 0)) H := hP
                                have hD : va_D A (wM C b σ (x_ir (x_er (x_rd (nu, nI k, m_ir ρ, m_h ρ) (vp_updL nu pn (lN ((10 * mn) + (cn - 48))))) (nI (k + 0))) 0)) := hD
                                refine wr_vret hx hb hr hlocks hAe hP hD hS ?_ dX4_parse_278
                                exact pP_of (f := vp_updL nu pn (lN ((10 * mn) + (cn - 48)))) (i := 0) (g_2.symm.trans (nRun_none c_2 (st_dig0 h48 h57 hch (by omega)))) (if_neg (fun q => absurd q.1 (by omega))) (fun q => absurd q (by omega))
                              · skip
                                exact absurd c_87 (by decide)
                            · skip
                              exact absurd c_86 (by decide)
                          · skip
                            exact absurd c_85 (by decide)
                        · skip
                          have c_84 : ¬ gn = 0 := fun z9 => c_84 ((nI_eq (a := gn) (b := 0) (by omega) (by omega)).mpr z9)
                          refine lv_lload hx hb dX4_parse_163 (lv_at hl 1 rfl) ?_
                          refine lv_lneg hx hb dX4_parse_165 ?_
                          refine lv_goto (tgt := 171) hx hb dX4_parse_166 (by decide) ?_
                          refine as_l (k := pn) hx hb hK hP hD hS (6) 1 wM_e6 rfl rfl (by omega) (by decide) dX4_parse_171 (fun H locs hP hD hS => ?_)
                          have hP : va_P G vwCl (wM C b σ (x_rd (nu, nI k, m_ir ρ, m_h ρ) (vp_updL nu pn (-(lN ((10 * mn) + (cn - 48))))))) H := hP
                          have hD : va_D A (wM C b σ (x_rd (nu, nI k, m_ir ρ, m_h ρ) (vp_updL nu pn (-(lN ((10 * mn) + (cn - 48))))))) := hD
                          refine lv_goto (tgt := 233) hx hb dX4_parse_172 (by decide) ?_
                          refine lv_aload_n hx hb dX4_parse_233 rfl (lv_at hl 6 rfl) ?_
                          refine lv_dup hx hb dX4_parse_234 rfl ?_
                          refine va_get (D := G) (ci := 4) (v := .int (nI k)) (C := RX4) (T := TX4) (N := 13) hx hb hts hX4 hown hK hP (0) wM_e0 rfl 10 (by decide) (hts (.fieldLink RX4 63 "DraftSurveyModel" "errorAt" "I") (by decide +kernel)) (fun _ h9 => h9) rfl dX4_parse_235 ?_
                          refine lv_iload hx hb dX4_parse_238 (lv_at hl 2 rfl) ?_
                          refine lv_if_eq (tgt := 247) hx hb dX4_parse_240 (by decide) (fun c_88 => ?_) (fun c_88 => ?_)
                          · skip
                            refine lv_iconst (v := 0) hx hb dX4_parse_247 (by decide) ?_
                            refine lv_iadd hx hb dX4_parse_248 ?_
                            refine tp_i (v := nI (k + 0)) (nI_add k 0) ?_
                            refine va_put (D := G) (ci := 4) (v := .int (nI (k + 0))) (ty := .int) (C := RX4) (T := TX4) (N := 13) hx hb hts hX4 tyX4 tyX4_ok nmX4 hown hK hP hD hS (0) wM_e0 rfl 10 (by decide) (hts (.fieldLink RX4 63 "DraftSurveyModel" "errorAt" "I") (by decide +kernel)) (fun _ h9 => h9) rfl (by decide +kernel) rfl rfl (Nat.le_of_ble_eq_true rfl) dX4_parse_249 (fun H locs hP hD hS => ?_)
                            have hP : va_P G vwCl (wM C b σ (x_er (x_rd (nu, nI k, m_ir ρ, m_h ρ) (vp_updL nu pn (-(lN ((10 * mn) + (cn - 48)))))) (nI (k + 0)))) H := hP
                            have hD : va_D A (wM C b σ (x_er (x_rd (nu, nI k, m_ir ρ, m_h ρ) (vp_updL nu pn (-(lN ((10 * mn) + (cn - 48)))))) (nI (k + 0)))) := hD
                            refine lv_goto (tgt := 17) hx hb dX4_parse_252 (by decide) ?_
                            refine lv_iload hx hb dX4_parse_17 (lv_at hl 2 rfl) ?_
                            refine lv_if_eq (tgt := 255) hx hb dX4_parse_19 (by decide) (fun c_89 => ?_) (fun c_89 => ?_)
                            · skip
                              refine lv_aload_n hx hb dX4_parse_255 rfl (lv_at hl 6 rfl) ?_
                              refine lv_iload hx hb dX4_parse_256 (lv_at hl 2 rfl) ?_
                              refine lv_if_eq (tgt := 274) hx hb dX4_parse_258 (by decide) (fun c_90 => ?_) (fun c_90 => ?_)
                              · skip
                                refine lv_iconst (v := 0) hx hb dX4_parse_274 (by decide) ?_
                                refine va_put (D := G) (ci := 4) (v := .int 0) (ty := .boolean) (C := RX4) (T := TX4) (N := 13) hx hb hts hX4 tyX4 tyX4_ok nmX4 hown hK hP hD hS (0) wM_e0 rfl 11 (by decide) (hts (.fieldLink RX4 76 "DraftSurveyModel" "isRow" "Z") (by decide +kernel)) (fun _ h9 => h9) rfl (by decide +kernel) (bl_nar (Or.inl rfl)) (bl_fit (Or.inl rfl)) (Nat.le_of_ble_eq_true rfl) dX4_parse_275 (fun H locs hP hD hS => ?_)
                                have hP : va_P G vwCl (wM C b σ (x_ir (x_er (x_rd (nu, nI k, m_ir ρ, m_h ρ) (vp_updL nu pn (-(lN ((10 * mn) + (cn - 48)))))) (nI (k + 0))) 0)) H := hP
                                have hD : va_D A (wM C b σ (x_ir (x_er (x_rd (nu, nI k, m_ir ρ, m_h ρ) (vp_updL nu pn (-(lN ((10 * mn) + (cn - 48)))))) (nI (k + 0))) 0)) := hD
                                refine wr_vret hx hb hr hlocks hAe hP hD hS ?_ dX4_parse_278
                                exact pP_of (f := vp_updL nu pn (-(lN ((10 * mn) + (cn - 48))))) (i := 0) (g_2.symm.trans (nRun_none c_2 (st_dig0 h48 h57 hch (by omega)))) (if_neg (fun q => absurd q.1 (by omega))) (fun q => absurd q (by omega))
                              · skip
                                exact absurd c_90 (by decide)
                            · skip
                              exact absurd c_89 (by decide)
                          · skip
                            exact absurd c_88 (by decide)
                      · skip
                        have c_83 : ¬ (grT pn) < ((10 * mn) + (cn - 48)) := fun z9 => c_83 ((lN_lt (a := grT pn) (b := ((10 * mn) + (cn - 48))) (by omega) (by omega)).mpr z9)
                        refine lv_iconst (v := 1) hx hb dX4_parse_132 (by decide) ?_
                        refine lv_goto (tgt := 137) hx hb dX4_parse_133 (by decide) ?_
                        refine lv_istore (lv' := [(6, .int 1), (9, .int 0), (8, .int (nI (cn - 48))), (7, .int (nI cn)), (0, .ref (b 0)), (1, .int (nI pn)), (2, .int (nI dn)), (3, .int (nI gn)), (4, .long (lN mn))]) hx hb dX4_parse_137 hl (by decide) rfl (fun ls hl => ?_)
                        refine lv_ldc2 (v := 10) hx hb hown (hts (.constantLong RX4 70 (10)) (by decide +kernel)) dX4_parse_139 ?_
                        refine lv_lload hx hb dX4_parse_142 (lv_at hl 8 rfl) ?_
                        refine lv_lmul hx hb dX4_parse_144 ?_
                        refine tp_l (v := lN (10 * mn)) (lN_mul 10 mn) ?_
                        refine lv_iload hx hb dX4_parse_145 (lv_at hl 2 rfl) ?_
                        refine lv_i2l (v := lN (cn - 48)) hx hb dX4_parse_147 (nI_l (by omega)) ?_
                        refine lv_ladd hx hb dX4_parse_148 ?_
                        refine tp_l (v := lN ((10 * mn) + (cn - 48))) (lN_add (10 * mn) (cn - 48)) ?_
                        refine lv_lstore (lv' := [(4, .long (lN ((10 * mn) + (cn - 48)))), (6, .int 1), (9, .int 0), (8, .int (nI (cn - 48))), (7, .int (nI cn)), (0, .ref (b 0)), (1, .int (nI pn)), (2, .int (nI dn)), (3, .int (nI gn))]) hx hb dX4_parse_149 hl (by decide) rfl (fun ls hl => ?_)
                        refine lv_iinc (v := nI (dn + 1)) (lv' := [(2, .int (nI (dn + 1))), (4, .long (lN ((10 * mn) + (cn - 48)))), (6, .int 1), (9, .int 0), (8, .int (nI (cn - 48))), (7, .int (nI cn)), (0, .ref (b 0)), (1, .int (nI pn)), (3, .int (nI gn))]) hx hb dX4_parse_151 hl (k := 7) rfl (nI_add dn 1) (by decide) rfl (fun ls hl => ?_)
                        refine lv_aload_n hx hb dX4_parse_154 rfl (lv_at hl 6 rfl) ?_
                        refine va_get (D := G) (ci := 4) (v := .ref (b 6)) (C := RX4) (T := TX4) (N := 13) hx hb hts hX4 hown hK hP (0) wM_e0 rfl 9 (by decide) (hts (.fieldLink RX4 32 "DraftSurveyModel" "read" "[J") (by decide +kernel)) (fun _ h9 => h9) rfl dX4_parse_155 ?_
                        refine lv_iload_n hx hb dX4_parse_158 rfl (lv_at hl 7 rfl) ?_
                        refine lv_iload_n hx hb dX4_parse_159 rfl (lv_at hl 8 rfl) ?_
                        refine lv_if_eq (tgt := 169) hx hb dX4_parse_160 (by decide) (fun c_91 => ?_) (fun c_91 => ?_)
                        · skip
                          have c_91 : gn = 0 := (nI_eq (a := gn) (b := 0) (by omega) (by omega)).mp c_91
                          refine lv_lload hx hb dX4_parse_169 (lv_at hl 1 rfl) ?_
                          refine as_l (k := pn) hx hb hK hP hD hS (6) 1 wM_e6 rfl rfl (by omega) (by decide) dX4_parse_171 (fun H locs hP hD hS => ?_)
                          have hP : va_P G vwCl (wM C b σ (x_rd (nu, nI k, m_ir ρ, m_h ρ) (vp_updL nu pn (lN ((10 * mn) + (cn - 48)))))) H := hP
                          have hD : va_D A (wM C b σ (x_rd (nu, nI k, m_ir ρ, m_h ρ) (vp_updL nu pn (lN ((10 * mn) + (cn - 48)))))) := hD
                          refine lv_goto (tgt := 233) hx hb dX4_parse_172 (by decide) ?_
                          refine lv_aload_n hx hb dX4_parse_233 rfl (lv_at hl 6 rfl) ?_
                          refine lv_dup hx hb dX4_parse_234 rfl ?_
                          refine va_get (D := G) (ci := 4) (v := .int (nI k)) (C := RX4) (T := TX4) (N := 13) hx hb hts hX4 hown hK hP (0) wM_e0 rfl 10 (by decide) (hts (.fieldLink RX4 63 "DraftSurveyModel" "errorAt" "I") (by decide +kernel)) (fun _ h9 => h9) rfl dX4_parse_235 ?_
                          refine lv_iload hx hb dX4_parse_238 (lv_at hl 2 rfl) ?_
                          refine lv_if_eq (tgt := 247) hx hb dX4_parse_240 (by decide) (fun c_92 => ?_) (fun c_92 => ?_)
                          · skip
                            exact absurd c_92 (by decide)
                          · skip
                            refine lv_iconst (v := 1) hx hb dX4_parse_243 (by decide) ?_
                            refine lv_goto (tgt := 248) hx hb dX4_parse_244 (by decide) ?_
                            refine lv_iadd hx hb dX4_parse_248 ?_
                            refine tp_i (v := nI (k + 1)) (nI_add k 1) ?_
                            refine va_put (D := G) (ci := 4) (v := .int (nI (k + 1))) (ty := .int) (C := RX4) (T := TX4) (N := 13) hx hb hts hX4 tyX4 tyX4_ok nmX4 hown hK hP hD hS (0) wM_e0 rfl 10 (by decide) (hts (.fieldLink RX4 63 "DraftSurveyModel" "errorAt" "I") (by decide +kernel)) (fun _ h9 => h9) rfl (by decide +kernel) rfl rfl (Nat.le_of_ble_eq_true rfl) dX4_parse_249 (fun H locs hP hD hS => ?_)
                            have hP : va_P G vwCl (wM C b σ (x_er (x_rd (nu, nI k, m_ir ρ, m_h ρ) (vp_updL nu pn (lN ((10 * mn) + (cn - 48))))) (nI (k + 1)))) H := hP
                            have hD : va_D A (wM C b σ (x_er (x_rd (nu, nI k, m_ir ρ, m_h ρ) (vp_updL nu pn (lN ((10 * mn) + (cn - 48))))) (nI (k + 1)))) := hD
                            refine lv_goto (tgt := 17) hx hb dX4_parse_252 (by decide) ?_
                            exact ih (k + 1) (vp_updL nu pn (lN (10 * mn + (cn - 48))), pn, dn + 1, gn, 10 * mn + (cn - 48)) (by omega) (by omega) ((nRun_some c_2 (st_dig h48 h57 hch (by omega) (by omega) (if_pos c_91))).symm.trans g_2) (nSt_ok g_3 (st_dig h48 h57 hch (by omega) (by omega) (if_pos c_91))) H locs hP hD hS ls (lv_sub hl [6, 7, 0, 8, 1, 2] rfl)
                        · skip
                          have c_91 : ¬ gn = 0 := fun z9 => c_91 ((nI_eq (a := gn) (b := 0) (by omega) (by omega)).mpr z9)
                          refine lv_lload hx hb dX4_parse_163 (lv_at hl 1 rfl) ?_
                          refine lv_lneg hx hb dX4_parse_165 ?_
                          refine lv_goto (tgt := 171) hx hb dX4_parse_166 (by decide) ?_
                          refine as_l (k := pn) hx hb hK hP hD hS (6) 1 wM_e6 rfl rfl (by omega) (by decide) dX4_parse_171 (fun H locs hP hD hS => ?_)
                          have hP : va_P G vwCl (wM C b σ (x_rd (nu, nI k, m_ir ρ, m_h ρ) (vp_updL nu pn (-(lN ((10 * mn) + (cn - 48))))))) H := hP
                          have hD : va_D A (wM C b σ (x_rd (nu, nI k, m_ir ρ, m_h ρ) (vp_updL nu pn (-(lN ((10 * mn) + (cn - 48))))))) := hD
                          refine lv_goto (tgt := 233) hx hb dX4_parse_172 (by decide) ?_
                          refine lv_aload_n hx hb dX4_parse_233 rfl (lv_at hl 6 rfl) ?_
                          refine lv_dup hx hb dX4_parse_234 rfl ?_
                          refine va_get (D := G) (ci := 4) (v := .int (nI k)) (C := RX4) (T := TX4) (N := 13) hx hb hts hX4 hown hK hP (0) wM_e0 rfl 10 (by decide) (hts (.fieldLink RX4 63 "DraftSurveyModel" "errorAt" "I") (by decide +kernel)) (fun _ h9 => h9) rfl dX4_parse_235 ?_
                          refine lv_iload hx hb dX4_parse_238 (lv_at hl 2 rfl) ?_
                          refine lv_if_eq (tgt := 247) hx hb dX4_parse_240 (by decide) (fun c_93 => ?_) (fun c_93 => ?_)
                          · skip
                            exact absurd c_93 (by decide)
                          · skip
                            refine lv_iconst (v := 1) hx hb dX4_parse_243 (by decide) ?_
                            refine lv_goto (tgt := 248) hx hb dX4_parse_244 (by decide) ?_
                            refine lv_iadd hx hb dX4_parse_248 ?_
                            refine tp_i (v := nI (k + 1)) (nI_add k 1) ?_
                            refine va_put (D := G) (ci := 4) (v := .int (nI (k + 1))) (ty := .int) (C := RX4) (T := TX4) (N := 13) hx hb hts hX4 tyX4 tyX4_ok nmX4 hown hK hP hD hS (0) wM_e0 rfl 10 (by decide) (hts (.fieldLink RX4 63 "DraftSurveyModel" "errorAt" "I") (by decide +kernel)) (fun _ h9 => h9) rfl (by decide +kernel) rfl rfl (Nat.le_of_ble_eq_true rfl) dX4_parse_249 (fun H locs hP hD hS => ?_)
                            have hP : va_P G vwCl (wM C b σ (x_er (x_rd (nu, nI k, m_ir ρ, m_h ρ) (vp_updL nu pn (-(lN ((10 * mn) + (cn - 48)))))) (nI (k + 1)))) H := hP
                            have hD : va_D A (wM C b σ (x_er (x_rd (nu, nI k, m_ir ρ, m_h ρ) (vp_updL nu pn (-(lN ((10 * mn) + (cn - 48)))))) (nI (k + 1)))) := hD
                            refine lv_goto (tgt := 17) hx hb dX4_parse_252 (by decide) ?_
                            exact ih (k + 1) (vp_updL nu pn (-(lN (10 * mn + (cn - 48)))), pn, dn + 1, gn, 10 * mn + (cn - 48)) (by omega) (by omega) ((nRun_some c_2 (st_dig h48 h57 hch (by omega) (by omega) (if_neg c_91))).symm.trans g_2) (nSt_ok g_3 (st_dig h48 h57 hch (by omega) (by omega) (if_neg c_91))) H locs hP hD hS ls (lv_sub hl [6, 7, 0, 8, 1, 2] rfl)
            · skip
              have c_62 : dn = 0 := (nI_eq (a := dn) (b := 0) (by omega) (by omega)).mp c_62
              refine lv_iload hx hb dX4_parse_70 (lv_at hl 0 rfl) ?_
              refine lv_if_gt (tgt := 79) hx hb dX4_parse_72 (by decide) (fun c_94 => ?_) (fun c_94 => ?_)
              · skip
                have c_94 : 0 < (cn - 48) := (nI_ltI (a := 0) (b := (cn - 48)) (by omega) (by omega)).mp c_94
                refine lv_iconst (v := 1) hx hb dX4_parse_79 (by decide) ?_
                refine lv_goto (tgt := 84) hx hb dX4_parse_80 (by decide) ?_
                refine lv_istore (lv' := [(9, .int 1), (8, .int (nI (cn - 48))), (7, .int (nI cn)), (0, .ref (b 0)), (1, .int (nI pn)), (2, .int (nI dn)), (3, .int (nI gn)), (4, .long (lN mn)), (6, .int 1)]) hx hb dX4_parse_84 hl (by decide) rfl (fun ls hl => ?_)
                refine lv_iload hx hb dX4_parse_86 (lv_at hl 0 rfl) ?_
                refine ic_if_ne (tgt := 102) hx hb dX4_parse_88 (by decide) (fun c_95 => ?_) (fun c_95 => ?_)
                · skip
                  refine lv_iconst (v := 1) hx hb dX4_parse_102 (by decide) ?_
                  refine lv_goto (tgt := 107) hx hb dX4_parse_103 (by decide) ?_
                  refine lv_istore (lv' := [(6, .int 1), (9, .int 1), (8, .int (nI (cn - 48))), (7, .int (nI cn)), (0, .ref (b 0)), (1, .int (nI pn)), (2, .int (nI dn)), (3, .int (nI gn)), (4, .long (lN mn))]) hx hb dX4_parse_107 hl (by decide) rfl (fun ls hl => ?_)
                  refine lv_iload hx hb dX4_parse_109 (lv_at hl 0 rfl) ?_
                  refine lv_if_eq (tgt := 136) hx hb dX4_parse_111 (by decide) (fun c_96 => ?_) (fun c_96 => ?_)
                  · skip
                    exact absurd c_96 (by decide)
                  · skip
                    refine lv_ldc2 (v := 10) hx hb hown (hts (.constantLong RX4 70 (10)) (by decide +kernel)) dX4_parse_114 ?_
                    refine lv_lload hx hb dX4_parse_117 (lv_at hl 8 rfl) ?_
                    refine lv_lmul hx hb dX4_parse_119 ?_
                    refine tp_l (v := lN (10 * mn)) (lN_mul 10 mn) ?_
                    refine lv_iload hx hb dX4_parse_120 (lv_at hl 2 rfl) ?_
                    refine lv_i2l (v := lN (cn - 48)) hx hb dX4_parse_122 (nI_l (by omega)) ?_
                    refine lv_ladd hx hb dX4_parse_123 ?_
                    refine tp_l (v := lN ((10 * mn) + (cn - 48))) (lN_add (10 * mn) (cn - 48)) ?_
                    refine lv_iload_n hx hb dX4_parse_124 rfl (lv_at hl 5 rfl) ?_
                    refine rd_callS (As := [.int (nI pn)]) (rest := [.long (lN ((10 * mn) + (cn - 48)))]) ⟨hx, hb, hml, hown, hts⟩ (m_great l G C b σ (nu, nI k, m_ir ρ, m_h ρ) (q := pn) (by omega)) (va_cwS 1 hts gX4_parse_X4_greatest rfl rfl rfl (by decide +kernel) ⟨Nat.le_of_ble_eq_true rfl, Nat.le_of_ble_eq_true rfl⟩) hK hN hP rfl hl.1 rfl (Nat.le_of_ble_eq_true rfl) dX4_parse_125 ⟨Nat.zero_le _, Nat.zero_le _⟩ ?_
                    have hgr := grT_le pn
                    refine lc_gt (tgt := 136) hx hb dX4_parse_128 dX4_parse_129 (by decide) (fun c_97 => ?_) (fun c_97 => ?_)
                    · skip
                      have c_97 : (grT pn) < ((10 * mn) + (cn - 48)) := (lN_lt (a := grT pn) (b := ((10 * mn) + (cn - 48))) (by omega) (by omega)).mp c_97
                      refine lv_iconst (v := 0) hx hb dX4_parse_136 (by decide) ?_
                      refine lv_istore (lv' := [(6, .int 0), (9, .int 1), (8, .int (nI (cn - 48))), (7, .int (nI cn)), (0, .ref (b 0)), (1, .int (nI pn)), (2, .int (nI dn)), (3, .int (nI gn)), (4, .long (lN mn))]) hx hb dX4_parse_137 hl (by decide) rfl (fun ls hl => ?_)
                      refine lv_ldc2 (v := 10) hx hb hown (hts (.constantLong RX4 70 (10)) (by decide +kernel)) dX4_parse_139 ?_
                      refine lv_lload hx hb dX4_parse_142 (lv_at hl 8 rfl) ?_
                      refine lv_lmul hx hb dX4_parse_144 ?_
                      refine tp_l (v := lN (10 * mn)) (lN_mul 10 mn) ?_
                      refine lv_iload hx hb dX4_parse_145 (lv_at hl 2 rfl) ?_
                      refine lv_i2l (v := lN (cn - 48)) hx hb dX4_parse_147 (nI_l (by omega)) ?_
                      refine lv_ladd hx hb dX4_parse_148 ?_
                      refine tp_l (v := lN ((10 * mn) + (cn - 48))) (lN_add (10 * mn) (cn - 48)) ?_
                      refine lv_lstore (lv' := [(4, .long (lN ((10 * mn) + (cn - 48)))), (6, .int 0), (9, .int 1), (8, .int (nI (cn - 48))), (7, .int (nI cn)), (0, .ref (b 0)), (1, .int (nI pn)), (2, .int (nI dn)), (3, .int (nI gn))]) hx hb dX4_parse_149 hl (by decide) rfl (fun ls hl => ?_)
                      refine lv_iinc (v := nI (dn + 1)) (lv' := [(2, .int (nI (dn + 1))), (4, .long (lN ((10 * mn) + (cn - 48)))), (6, .int 0), (9, .int 1), (8, .int (nI (cn - 48))), (7, .int (nI cn)), (0, .ref (b 0)), (1, .int (nI pn)), (3, .int (nI gn))]) hx hb dX4_parse_151 hl (k := 7) rfl (nI_add dn 1) (by decide) rfl (fun ls hl => ?_)
                      refine lv_aload_n hx hb dX4_parse_154 rfl (lv_at hl 6 rfl) ?_
                      refine va_get (D := G) (ci := 4) (v := .ref (b 6)) (C := RX4) (T := TX4) (N := 13) hx hb hts hX4 hown hK hP (0) wM_e0 rfl 9 (by decide) (hts (.fieldLink RX4 32 "DraftSurveyModel" "read" "[J") (by decide +kernel)) (fun _ h9 => h9) rfl dX4_parse_155 ?_
                      refine lv_iload_n hx hb dX4_parse_158 rfl (lv_at hl 7 rfl) ?_
                      refine lv_iload_n hx hb dX4_parse_159 rfl (lv_at hl 8 rfl) ?_
                      refine lv_if_eq (tgt := 169) hx hb dX4_parse_160 (by decide) (fun c_98 => ?_) (fun c_98 => ?_)
                      · skip
                        have c_98 : gn = 0 := (nI_eq (a := gn) (b := 0) (by omega) (by omega)).mp c_98
                        refine lv_lload hx hb dX4_parse_169 (lv_at hl 1 rfl) ?_
                        refine as_l (k := pn) hx hb hK hP hD hS (6) 1 wM_e6 rfl rfl (by omega) (by decide) dX4_parse_171 (fun H locs hP hD hS => ?_)
                        have hP : va_P G vwCl (wM C b σ (x_rd (nu, nI k, m_ir ρ, m_h ρ) (vp_updL nu pn (lN ((10 * mn) + (cn - 48)))))) H := hP
                        have hD : va_D A (wM C b σ (x_rd (nu, nI k, m_ir ρ, m_h ρ) (vp_updL nu pn (lN ((10 * mn) + (cn - 48)))))) := hD
                        refine lv_goto (tgt := 233) hx hb dX4_parse_172 (by decide) ?_
                        refine lv_aload_n hx hb dX4_parse_233 rfl (lv_at hl 6 rfl) ?_
                        refine lv_dup hx hb dX4_parse_234 rfl ?_
                        refine va_get (D := G) (ci := 4) (v := .int (nI k)) (C := RX4) (T := TX4) (N := 13) hx hb hts hX4 hown hK hP (0) wM_e0 rfl 10 (by decide) (hts (.fieldLink RX4 63 "DraftSurveyModel" "errorAt" "I") (by decide +kernel)) (fun _ h9 => h9) rfl dX4_parse_235 ?_
                        refine lv_iload hx hb dX4_parse_238 (lv_at hl 2 rfl) ?_
                        refine lv_if_eq (tgt := 247) hx hb dX4_parse_240 (by decide) (fun c_99 => ?_) (fun c_99 => ?_)
                        · skip
                          refine lv_iconst (v := 0) hx hb dX4_parse_247 (by decide) ?_
                          refine lv_iadd hx hb dX4_parse_248 ?_
                          refine tp_i (v := nI (k + 0)) (nI_add k 0) ?_
                          refine va_put (D := G) (ci := 4) (v := .int (nI (k + 0))) (ty := .int) (C := RX4) (T := TX4) (N := 13) hx hb hts hX4 tyX4 tyX4_ok nmX4 hown hK hP hD hS (0) wM_e0 rfl 10 (by decide) (hts (.fieldLink RX4 63 "DraftSurveyModel" "errorAt" "I") (by decide +kernel)) (fun _ h9 => h9) rfl (by decide +kernel) rfl rfl (Nat.le_of_ble_eq_true rfl) dX4_parse_249 (fun H locs hP hD hS => ?_)
                          have hP : va_P G vwCl (wM C b σ (x_er (x_rd (nu, nI k, m_ir ρ, m_h ρ) (vp_updL nu pn (lN ((10 * mn) + (cn - 48))))) (nI (k + 0)))) H := hP
                          have hD : va_D A (wM C b σ (x_er (x_rd (nu, nI k, m_ir ρ, m_h ρ) (vp_updL nu pn (lN ((10 * mn) + (cn - 48))))) (nI (k + 0)))) := hD
                          refine lv_goto (tgt := 17) hx hb dX4_parse_252 (by decide) ?_
                          refine lv_iload hx hb dX4_parse_17 (lv_at hl 2 rfl) ?_
                          refine lv_if_eq (tgt := 255) hx hb dX4_parse_19 (by decide) (fun c_100 => ?_) (fun c_100 => ?_)
                          · skip
                            refine lv_aload_n hx hb dX4_parse_255 rfl (lv_at hl 6 rfl) ?_
                            refine lv_iload hx hb dX4_parse_256 (lv_at hl 2 rfl) ?_
                            refine lv_if_eq (tgt := 274) hx hb dX4_parse_258 (by decide) (fun c_101 => ?_) (fun c_101 => ?_)
                            · skip
                              refine lv_iconst (v := 0) hx hb dX4_parse_274 (by decide) ?_
                              refine va_put (D := G) (ci := 4) (v := .int 0) (ty := .boolean) (C := RX4) (T := TX4) (N := 13) hx hb hts hX4 tyX4 tyX4_ok nmX4 hown hK hP hD hS (0) wM_e0 rfl 11 (by decide) (hts (.fieldLink RX4 76 "DraftSurveyModel" "isRow" "Z") (by decide +kernel)) (fun _ h9 => h9) rfl (by decide +kernel) (bl_nar (Or.inl rfl)) (bl_fit (Or.inl rfl)) (Nat.le_of_ble_eq_true rfl) dX4_parse_275 (fun H locs hP hD hS => ?_)
                              have hP : va_P G vwCl (wM C b σ (x_ir (x_er (x_rd (nu, nI k, m_ir ρ, m_h ρ) (vp_updL nu pn (lN ((10 * mn) + (cn - 48))))) (nI (k + 0))) 0)) H := hP
                              have hD : va_D A (wM C b σ (x_ir (x_er (x_rd (nu, nI k, m_ir ρ, m_h ρ) (vp_updL nu pn (lN ((10 * mn) + (cn - 48))))) (nI (k + 0))) 0)) := hD
                              refine wr_vret hx hb hr hlocks hAe hP hD hS ?_ dX4_parse_278
                              exact pP_of (f := vp_updL nu pn (lN ((10 * mn) + (cn - 48)))) (i := 0) (g_2.symm.trans (nRun_none c_2 (st_dig0 h48 h57 hch (by omega)))) (if_neg (fun q => absurd q.1 (by omega))) (fun q => absurd q (by omega))
                            · skip
                              exact absurd c_101 (by decide)
                          · skip
                            exact absurd c_100 (by decide)
                        · skip
                          exact absurd c_99 (by decide)
                      · skip
                        have c_98 : ¬ gn = 0 := fun z9 => c_98 ((nI_eq (a := gn) (b := 0) (by omega) (by omega)).mpr z9)
                        refine lv_lload hx hb dX4_parse_163 (lv_at hl 1 rfl) ?_
                        refine lv_lneg hx hb dX4_parse_165 ?_
                        refine lv_goto (tgt := 171) hx hb dX4_parse_166 (by decide) ?_
                        refine as_l (k := pn) hx hb hK hP hD hS (6) 1 wM_e6 rfl rfl (by omega) (by decide) dX4_parse_171 (fun H locs hP hD hS => ?_)
                        have hP : va_P G vwCl (wM C b σ (x_rd (nu, nI k, m_ir ρ, m_h ρ) (vp_updL nu pn (-(lN ((10 * mn) + (cn - 48))))))) H := hP
                        have hD : va_D A (wM C b σ (x_rd (nu, nI k, m_ir ρ, m_h ρ) (vp_updL nu pn (-(lN ((10 * mn) + (cn - 48))))))) := hD
                        refine lv_goto (tgt := 233) hx hb dX4_parse_172 (by decide) ?_
                        refine lv_aload_n hx hb dX4_parse_233 rfl (lv_at hl 6 rfl) ?_
                        refine lv_dup hx hb dX4_parse_234 rfl ?_
                        refine va_get (D := G) (ci := 4) (v := .int (nI k)) (C := RX4) (T := TX4) (N := 13) hx hb hts hX4 hown hK hP (0) wM_e0 rfl 10 (by decide) (hts (.fieldLink RX4 63 "DraftSurveyModel" "errorAt" "I") (by decide +kernel)) (fun _ h9 => h9) rfl dX4_parse_235 ?_
                        refine lv_iload hx hb dX4_parse_238 (lv_at hl 2 rfl) ?_
                        refine lv_if_eq (tgt := 247) hx hb dX4_parse_240 (by decide) (fun c_102 => ?_) (fun c_102 => ?_)
                        · skip
                          refine lv_iconst (v := 0) hx hb dX4_parse_247 (by decide) ?_
                          refine lv_iadd hx hb dX4_parse_248 ?_
                          refine tp_i (v := nI (k + 0)) (nI_add k 0) ?_
                          refine va_put (D := G) (ci := 4) (v := .int (nI (k + 0))) (ty := .int) (C := RX4) (T := TX4) (N := 13) hx hb hts hX4 tyX4 tyX4_ok nmX4 hown hK hP hD hS (0) wM_e0 rfl 10 (by decide) (hts (.fieldLink RX4 63 "DraftSurveyModel" "errorAt" "I") (by decide +kernel)) (fun _ h9 => h9) rfl (by decide +kernel) rfl rfl (Nat.le_of_ble_eq_true rfl) dX4_parse_249 (fun H locs hP hD hS => ?_)
                          have hP : va_P G vwCl (wM C b σ (x_er (x_rd (nu, nI k, m_ir ρ, m_h ρ) (vp_updL nu pn (-(lN ((10 * mn) + (cn - 48)))))) (nI (k + 0)))) H := hP
                          have hD : va_D A (wM C b σ (x_er (x_rd (nu, nI k, m_ir ρ, m_h ρ) (vp_updL nu pn (-(lN ((10 * mn) + (cn - 48)))))) (nI (k + 0)))) := hD
                          refine lv_goto (tgt := 17) hx hb dX4_parse_252 (by decide) ?_
                          refine lv_iload hx hb dX4_parse_17 (lv_at hl 2 rfl) ?_
                          refine lv_if_eq (tgt := 255) hx hb dX4_parse_19 (by decide) (fun c_103 => ?_) (fun c_103 => ?_)
                          · skip
                            refine lv_aload_n hx hb dX4_parse_255 rfl (lv_at hl 6 rfl) ?_
                            refine lv_iload hx hb dX4_parse_256 (lv_at hl 2 rfl) ?_
                            refine lv_if_eq (tgt := 274) hx hb dX4_parse_258 (by decide) (fun c_104 => ?_) (fun c_104 => ?_)
                            · skip
                              refine lv_iconst (v := 0) hx hb dX4_parse_274 (by decide) ?_
                              refine va_put (D := G) (ci := 4) (v := .int 0) (ty := .boolean) (C := RX4) (T := TX4) (N := 13) hx hb hts hX4 tyX4 tyX4_ok nmX4 hown hK hP hD hS (0) wM_e0 rfl 11 (by decide) (hts (.fieldLink RX4 76 "DraftSurveyModel" "isRow" "Z") (by decide +kernel)) (fun _ h9 => h9) rfl (by decide +kernel) (bl_nar (Or.inl rfl)) (bl_fit (Or.inl rfl)) (Nat.le_of_ble_eq_true rfl) dX4_parse_275 (fun H locs hP hD hS => ?_)
                              have hP : va_P G vwCl (wM C b σ (x_ir (x_er (x_rd (nu, nI k, m_ir ρ, m_h ρ) (vp_updL nu pn (-(lN ((10 * mn) + (cn - 48)))))) (nI (k + 0))) 0)) H := hP
                              have hD : va_D A (wM C b σ (x_ir (x_er (x_rd (nu, nI k, m_ir ρ, m_h ρ) (vp_updL nu pn (-(lN ((10 * mn) + (cn - 48)))))) (nI (k + 0))) 0)) := hD
                              refine wr_vret hx hb hr hlocks hAe hP hD hS ?_ dX4_parse_278
                              exact pP_of (f := vp_updL nu pn (-(lN ((10 * mn) + (cn - 48))))) (i := 0) (g_2.symm.trans (nRun_none c_2 (st_dig0 h48 h57 hch (by omega)))) (if_neg (fun q => absurd q.1 (by omega))) (fun q => absurd q (by omega))
                            · skip
                              exact absurd c_104 (by decide)
                          · skip
                            exact absurd c_103 (by decide)
                        · skip
                          exact absurd c_102 (by decide)
                    · skip
                      have c_97 : ¬ (grT pn) < ((10 * mn) + (cn - 48)) := fun z9 => c_97 ((lN_lt (a := grT pn) (b := ((10 * mn) + (cn - 48))) (by omega) (by omega)).mpr z9)
                      refine lv_iconst (v := 1) hx hb dX4_parse_132 (by decide) ?_
                      refine lv_goto (tgt := 137) hx hb dX4_parse_133 (by decide) ?_
                      refine lv_istore (lv' := [(6, .int 1), (9, .int 1), (8, .int (nI (cn - 48))), (7, .int (nI cn)), (0, .ref (b 0)), (1, .int (nI pn)), (2, .int (nI dn)), (3, .int (nI gn)), (4, .long (lN mn))]) hx hb dX4_parse_137 hl (by decide) rfl (fun ls hl => ?_)
                      refine lv_ldc2 (v := 10) hx hb hown (hts (.constantLong RX4 70 (10)) (by decide +kernel)) dX4_parse_139 ?_
                      refine lv_lload hx hb dX4_parse_142 (lv_at hl 8 rfl) ?_
                      refine lv_lmul hx hb dX4_parse_144 ?_
                      refine tp_l (v := lN (10 * mn)) (lN_mul 10 mn) ?_
                      refine lv_iload hx hb dX4_parse_145 (lv_at hl 2 rfl) ?_
                      refine lv_i2l (v := lN (cn - 48)) hx hb dX4_parse_147 (nI_l (by omega)) ?_
                      refine lv_ladd hx hb dX4_parse_148 ?_
                      refine tp_l (v := lN ((10 * mn) + (cn - 48))) (lN_add (10 * mn) (cn - 48)) ?_
                      refine lv_lstore (lv' := [(4, .long (lN ((10 * mn) + (cn - 48)))), (6, .int 1), (9, .int 1), (8, .int (nI (cn - 48))), (7, .int (nI cn)), (0, .ref (b 0)), (1, .int (nI pn)), (2, .int (nI dn)), (3, .int (nI gn))]) hx hb dX4_parse_149 hl (by decide) rfl (fun ls hl => ?_)
                      refine lv_iinc (v := nI (dn + 1)) (lv' := [(2, .int (nI (dn + 1))), (4, .long (lN ((10 * mn) + (cn - 48)))), (6, .int 1), (9, .int 1), (8, .int (nI (cn - 48))), (7, .int (nI cn)), (0, .ref (b 0)), (1, .int (nI pn)), (3, .int (nI gn))]) hx hb dX4_parse_151 hl (k := 7) rfl (nI_add dn 1) (by decide) rfl (fun ls hl => ?_)
                      refine lv_aload_n hx hb dX4_parse_154 rfl (lv_at hl 6 rfl) ?_
                      refine va_get (D := G) (ci := 4) (v := .ref (b 6)) (C := RX4) (T := TX4) (N := 13) hx hb hts hX4 hown hK hP (0) wM_e0 rfl 9 (by decide) (hts (.fieldLink RX4 32 "DraftSurveyModel" "read" "[J") (by decide +kernel)) (fun _ h9 => h9) rfl dX4_parse_155 ?_
                      refine lv_iload_n hx hb dX4_parse_158 rfl (lv_at hl 7 rfl) ?_
                      refine lv_iload_n hx hb dX4_parse_159 rfl (lv_at hl 8 rfl) ?_
                      refine lv_if_eq (tgt := 169) hx hb dX4_parse_160 (by decide) (fun c_105 => ?_) (fun c_105 => ?_)
                      · skip
                        have c_105 : gn = 0 := (nI_eq (a := gn) (b := 0) (by omega) (by omega)).mp c_105
                        refine lv_lload hx hb dX4_parse_169 (lv_at hl 1 rfl) ?_
                        refine as_l (k := pn) hx hb hK hP hD hS (6) 1 wM_e6 rfl rfl (by omega) (by decide) dX4_parse_171 (fun H locs hP hD hS => ?_)
                        have hP : va_P G vwCl (wM C b σ (x_rd (nu, nI k, m_ir ρ, m_h ρ) (vp_updL nu pn (lN ((10 * mn) + (cn - 48)))))) H := hP
                        have hD : va_D A (wM C b σ (x_rd (nu, nI k, m_ir ρ, m_h ρ) (vp_updL nu pn (lN ((10 * mn) + (cn - 48)))))) := hD
                        refine lv_goto (tgt := 233) hx hb dX4_parse_172 (by decide) ?_
                        refine lv_aload_n hx hb dX4_parse_233 rfl (lv_at hl 6 rfl) ?_
                        refine lv_dup hx hb dX4_parse_234 rfl ?_
                        refine va_get (D := G) (ci := 4) (v := .int (nI k)) (C := RX4) (T := TX4) (N := 13) hx hb hts hX4 hown hK hP (0) wM_e0 rfl 10 (by decide) (hts (.fieldLink RX4 63 "DraftSurveyModel" "errorAt" "I") (by decide +kernel)) (fun _ h9 => h9) rfl dX4_parse_235 ?_
                        refine lv_iload hx hb dX4_parse_238 (lv_at hl 2 rfl) ?_
                        refine lv_if_eq (tgt := 247) hx hb dX4_parse_240 (by decide) (fun c_106 => ?_) (fun c_106 => ?_)
                        · skip
                          exact absurd c_106 (by decide)
                        · skip
                          refine lv_iconst (v := 1) hx hb dX4_parse_243 (by decide) ?_
                          refine lv_goto (tgt := 248) hx hb dX4_parse_244 (by decide) ?_
                          refine lv_iadd hx hb dX4_parse_248 ?_
                          refine tp_i (v := nI (k + 1)) (nI_add k 1) ?_
                          refine va_put (D := G) (ci := 4) (v := .int (nI (k + 1))) (ty := .int) (C := RX4) (T := TX4) (N := 13) hx hb hts hX4 tyX4 tyX4_ok nmX4 hown hK hP hD hS (0) wM_e0 rfl 10 (by decide) (hts (.fieldLink RX4 63 "DraftSurveyModel" "errorAt" "I") (by decide +kernel)) (fun _ h9 => h9) rfl (by decide +kernel) rfl rfl (Nat.le_of_ble_eq_true rfl) dX4_parse_249 (fun H locs hP hD hS => ?_)
                          have hP : va_P G vwCl (wM C b σ (x_er (x_rd (nu, nI k, m_ir ρ, m_h ρ) (vp_updL nu pn (lN ((10 * mn) + (cn - 48))))) (nI (k + 1)))) H := hP
                          have hD : va_D A (wM C b σ (x_er (x_rd (nu, nI k, m_ir ρ, m_h ρ) (vp_updL nu pn (lN ((10 * mn) + (cn - 48))))) (nI (k + 1)))) := hD
                          refine lv_goto (tgt := 17) hx hb dX4_parse_252 (by decide) ?_
                          exact ih (k + 1) (vp_updL nu pn (lN (10 * mn + (cn - 48))), pn, dn + 1, gn, 10 * mn + (cn - 48)) (by omega) (by omega) ((nRun_some c_2 (st_dig h48 h57 hch (by omega) (by omega) (if_pos c_105))).symm.trans g_2) (nSt_ok g_3 (st_dig h48 h57 hch (by omega) (by omega) (if_pos c_105))) H locs hP hD hS ls (lv_sub hl [6, 7, 0, 8, 1, 2] rfl)
                      · skip
                        have c_105 : ¬ gn = 0 := fun z9 => c_105 ((nI_eq (a := gn) (b := 0) (by omega) (by omega)).mpr z9)
                        refine lv_lload hx hb dX4_parse_163 (lv_at hl 1 rfl) ?_
                        refine lv_lneg hx hb dX4_parse_165 ?_
                        refine lv_goto (tgt := 171) hx hb dX4_parse_166 (by decide) ?_
                        refine as_l (k := pn) hx hb hK hP hD hS (6) 1 wM_e6 rfl rfl (by omega) (by decide) dX4_parse_171 (fun H locs hP hD hS => ?_)
                        have hP : va_P G vwCl (wM C b σ (x_rd (nu, nI k, m_ir ρ, m_h ρ) (vp_updL nu pn (-(lN ((10 * mn) + (cn - 48))))))) H := hP
                        have hD : va_D A (wM C b σ (x_rd (nu, nI k, m_ir ρ, m_h ρ) (vp_updL nu pn (-(lN ((10 * mn) + (cn - 48))))))) := hD
                        refine lv_goto (tgt := 233) hx hb dX4_parse_172 (by decide) ?_
                        refine lv_aload_n hx hb dX4_parse_233 rfl (lv_at hl 6 rfl) ?_
                        refine lv_dup hx hb dX4_parse_234 rfl ?_
                        refine va_get (D := G) (ci := 4) (v := .int (nI k)) (C := RX4) (T := TX4) (N := 13) hx hb hts hX4 hown hK hP (0) wM_e0 rfl 10 (by decide) (hts (.fieldLink RX4 63 "DraftSurveyModel" "errorAt" "I") (by decide +kernel)) (fun _ h9 => h9) rfl dX4_parse_235 ?_
                        refine lv_iload hx hb dX4_parse_238 (lv_at hl 2 rfl) ?_
                        refine lv_if_eq (tgt := 247) hx hb dX4_parse_240 (by decide) (fun c_107 => ?_) (fun c_107 => ?_)
                        · skip
                          exact absurd c_107 (by decide)
                        · skip
                          refine lv_iconst (v := 1) hx hb dX4_parse_243 (by decide) ?_
                          refine lv_goto (tgt := 248) hx hb dX4_parse_244 (by decide) ?_
                          refine lv_iadd hx hb dX4_parse_248 ?_
                          refine tp_i (v := nI (k + 1)) (nI_add k 1) ?_
                          refine va_put (D := G) (ci := 4) (v := .int (nI (k + 1))) (ty := .int) (C := RX4) (T := TX4) (N := 13) hx hb hts hX4 tyX4 tyX4_ok nmX4 hown hK hP hD hS (0) wM_e0 rfl 10 (by decide) (hts (.fieldLink RX4 63 "DraftSurveyModel" "errorAt" "I") (by decide +kernel)) (fun _ h9 => h9) rfl (by decide +kernel) rfl rfl (Nat.le_of_ble_eq_true rfl) dX4_parse_249 (fun H locs hP hD hS => ?_)
                          have hP : va_P G vwCl (wM C b σ (x_er (x_rd (nu, nI k, m_ir ρ, m_h ρ) (vp_updL nu pn (-(lN ((10 * mn) + (cn - 48)))))) (nI (k + 1)))) H := hP
                          have hD : va_D A (wM C b σ (x_er (x_rd (nu, nI k, m_ir ρ, m_h ρ) (vp_updL nu pn (-(lN ((10 * mn) + (cn - 48)))))) (nI (k + 1)))) := hD
                          refine lv_goto (tgt := 17) hx hb dX4_parse_252 (by decide) ?_
                          exact ih (k + 1) (vp_updL nu pn (-(lN (10 * mn + (cn - 48)))), pn, dn + 1, gn, 10 * mn + (cn - 48)) (by omega) (by omega) ((nRun_some c_2 (st_dig h48 h57 hch (by omega) (by omega) (if_neg c_105))).symm.trans g_2) (nSt_ok g_3 (st_dig h48 h57 hch (by omega) (by omega) (if_neg c_105))) H locs hP hD hS ls (lv_sub hl [6, 7, 0, 8, 1, 2] rfl)
                · skip
                  exact absurd c_95 (by decide)
              · skip
                have c_94 : ¬ 0 < (cn - 48) := fun z9 => c_94 ((nI_ltI (a := 0) (b := (cn - 48)) (by omega) (by omega)).mpr z9)
                refine lv_iload_n hx hb dX4_parse_75 rfl (lv_at hl 5 rfl) ?_
                refine ic_if_ne (tgt := 83) hx hb dX4_parse_76 (by decide) (fun c_108 => ?_) (fun c_108 => ?_)
                · skip
                  have c_108 : ¬ gn = 0 := fun z9 => c_108 ((nI_eq (a := gn) (b := 0) (by omega) (by omega)).mpr z9)
                  refine lv_iconst (v := 0) hx hb dX4_parse_83 (by decide) ?_
                  refine lv_istore (lv' := [(9, .int 0), (8, .int (nI (cn - 48))), (7, .int (nI cn)), (0, .ref (b 0)), (1, .int (nI pn)), (2, .int (nI dn)), (3, .int (nI gn)), (4, .long (lN mn)), (6, .int 1)]) hx hb dX4_parse_84 hl (by decide) rfl (fun ls hl => ?_)
                  refine lv_iload hx hb dX4_parse_86 (lv_at hl 0 rfl) ?_
                  refine ic_if_ne (tgt := 102) hx hb dX4_parse_88 (by decide) (fun c_109 => ?_) (fun c_109 => ?_)
                  · skip
                    exact absurd c_109 (by decide)
                  · skip
                    refine lv_iload_n hx hb dX4_parse_91 rfl (lv_at hl 5 rfl) ?_
                    refine ic_if_le (tgt := 106) hx hb dX4_parse_92 (by decide) (fun c_110 => ?_) (fun c_110 => ?_)
                    · skip
                      have c_110 : ¬ 0 < dn := fun z9 => c_110 ((nI_ltI (a := 0) (b := dn) (by omega) (by omega)).mpr z9)
                      refine lv_iconst (v := 0) hx hb dX4_parse_106 (by decide) ?_
                      refine lv_istore (lv' := [(6, .int 0), (9, .int 0), (8, .int (nI (cn - 48))), (7, .int (nI cn)), (0, .ref (b 0)), (1, .int (nI pn)), (2, .int (nI dn)), (3, .int (nI gn)), (4, .long (lN mn))]) hx hb dX4_parse_107 hl (by decide) rfl (fun ls hl => ?_)
                      refine lv_iload hx hb dX4_parse_109 (lv_at hl 0 rfl) ?_
                      refine lv_if_eq (tgt := 136) hx hb dX4_parse_111 (by decide) (fun c_111 => ?_) (fun c_111 => ?_)
                      · skip
                        refine lv_iconst (v := 0) hx hb dX4_parse_136 (by decide) ?_
                        refine lv_istore (lv' := [(6, .int 0), (9, .int 0), (8, .int (nI (cn - 48))), (7, .int (nI cn)), (0, .ref (b 0)), (1, .int (nI pn)), (2, .int (nI dn)), (3, .int (nI gn)), (4, .long (lN mn))]) hx hb dX4_parse_137 hl (by decide) rfl (fun ls hl => ?_)
                        refine lv_ldc2 (v := 10) hx hb hown (hts (.constantLong RX4 70 (10)) (by decide +kernel)) dX4_parse_139 ?_
                        refine lv_lload hx hb dX4_parse_142 (lv_at hl 8 rfl) ?_
                        refine lv_lmul hx hb dX4_parse_144 ?_
                        refine tp_l (v := lN (10 * mn)) (lN_mul 10 mn) ?_
                        refine lv_iload hx hb dX4_parse_145 (lv_at hl 2 rfl) ?_
                        refine lv_i2l (v := lN (cn - 48)) hx hb dX4_parse_147 (nI_l (by omega)) ?_
                        refine lv_ladd hx hb dX4_parse_148 ?_
                        refine tp_l (v := lN ((10 * mn) + (cn - 48))) (lN_add (10 * mn) (cn - 48)) ?_
                        refine lv_lstore (lv' := [(4, .long (lN ((10 * mn) + (cn - 48)))), (6, .int 0), (9, .int 0), (8, .int (nI (cn - 48))), (7, .int (nI cn)), (0, .ref (b 0)), (1, .int (nI pn)), (2, .int (nI dn)), (3, .int (nI gn))]) hx hb dX4_parse_149 hl (by decide) rfl (fun ls hl => ?_)
                        refine lv_iinc (v := nI (dn + 1)) (lv' := [(2, .int (nI (dn + 1))), (4, .long (lN ((10 * mn) + (cn - 48)))), (6, .int 0), (9, .int 0), (8, .int (nI (cn - 48))), (7, .int (nI cn)), (0, .ref (b 0)), (1, .int (nI pn)), (3, .int (nI gn))]) hx hb dX4_parse_151 hl (k := 7) rfl (nI_add dn 1) (by decide) rfl (fun ls hl => ?_)
                        refine lv_aload_n hx hb dX4_parse_154 rfl (lv_at hl 6 rfl) ?_
                        refine va_get (D := G) (ci := 4) (v := .ref (b 6)) (C := RX4) (T := TX4) (N := 13) hx hb hts hX4 hown hK hP (0) wM_e0 rfl 9 (by decide) (hts (.fieldLink RX4 32 "DraftSurveyModel" "read" "[J") (by decide +kernel)) (fun _ h9 => h9) rfl dX4_parse_155 ?_
                        refine lv_iload_n hx hb dX4_parse_158 rfl (lv_at hl 7 rfl) ?_
                        refine lv_iload_n hx hb dX4_parse_159 rfl (lv_at hl 8 rfl) ?_
                        refine lv_if_eq (tgt := 169) hx hb dX4_parse_160 (by decide) (fun c_112 => ?_) (fun c_112 => ?_)
                        · skip
                          have c_112 : gn = 0 := (nI_eq (a := gn) (b := 0) (by omega) (by omega)).mp c_112
                          exact absurd c_112 c_108
                        · skip
                          have c_112 : ¬ gn = 0 := fun z9 => c_112 ((nI_eq (a := gn) (b := 0) (by omega) (by omega)).mpr z9)
                          refine lv_lload hx hb dX4_parse_163 (lv_at hl 1 rfl) ?_
                          refine lv_lneg hx hb dX4_parse_165 ?_
                          refine lv_goto (tgt := 171) hx hb dX4_parse_166 (by decide) ?_
                          refine as_l (k := pn) hx hb hK hP hD hS (6) 1 wM_e6 rfl rfl (by omega) (by decide) dX4_parse_171 (fun H locs hP hD hS => ?_)
                          have hP : va_P G vwCl (wM C b σ (x_rd (nu, nI k, m_ir ρ, m_h ρ) (vp_updL nu pn (-(lN ((10 * mn) + (cn - 48))))))) H := hP
                          have hD : va_D A (wM C b σ (x_rd (nu, nI k, m_ir ρ, m_h ρ) (vp_updL nu pn (-(lN ((10 * mn) + (cn - 48))))))) := hD
                          refine lv_goto (tgt := 233) hx hb dX4_parse_172 (by decide) ?_
                          refine lv_aload_n hx hb dX4_parse_233 rfl (lv_at hl 6 rfl) ?_
                          refine lv_dup hx hb dX4_parse_234 rfl ?_
                          refine va_get (D := G) (ci := 4) (v := .int (nI k)) (C := RX4) (T := TX4) (N := 13) hx hb hts hX4 hown hK hP (0) wM_e0 rfl 10 (by decide) (hts (.fieldLink RX4 63 "DraftSurveyModel" "errorAt" "I") (by decide +kernel)) (fun _ h9 => h9) rfl dX4_parse_235 ?_
                          refine lv_iload hx hb dX4_parse_238 (lv_at hl 2 rfl) ?_
                          refine lv_if_eq (tgt := 247) hx hb dX4_parse_240 (by decide) (fun c_113 => ?_) (fun c_113 => ?_)
                          · skip
                            refine lv_iconst (v := 0) hx hb dX4_parse_247 (by decide) ?_
                            refine lv_iadd hx hb dX4_parse_248 ?_
                            refine tp_i (v := nI (k + 0)) (nI_add k 0) ?_
                            refine va_put (D := G) (ci := 4) (v := .int (nI (k + 0))) (ty := .int) (C := RX4) (T := TX4) (N := 13) hx hb hts hX4 tyX4 tyX4_ok nmX4 hown hK hP hD hS (0) wM_e0 rfl 10 (by decide) (hts (.fieldLink RX4 63 "DraftSurveyModel" "errorAt" "I") (by decide +kernel)) (fun _ h9 => h9) rfl (by decide +kernel) rfl rfl (Nat.le_of_ble_eq_true rfl) dX4_parse_249 (fun H locs hP hD hS => ?_)
                            have hP : va_P G vwCl (wM C b σ (x_er (x_rd (nu, nI k, m_ir ρ, m_h ρ) (vp_updL nu pn (-(lN ((10 * mn) + (cn - 48)))))) (nI (k + 0)))) H := hP
                            have hD : va_D A (wM C b σ (x_er (x_rd (nu, nI k, m_ir ρ, m_h ρ) (vp_updL nu pn (-(lN ((10 * mn) + (cn - 48)))))) (nI (k + 0)))) := hD
                            refine lv_goto (tgt := 17) hx hb dX4_parse_252 (by decide) ?_
                            refine lv_iload hx hb dX4_parse_17 (lv_at hl 2 rfl) ?_
                            refine lv_if_eq (tgt := 255) hx hb dX4_parse_19 (by decide) (fun c_114 => ?_) (fun c_114 => ?_)
                            · skip
                              refine lv_aload_n hx hb dX4_parse_255 rfl (lv_at hl 6 rfl) ?_
                              refine lv_iload hx hb dX4_parse_256 (lv_at hl 2 rfl) ?_
                              refine lv_if_eq (tgt := 274) hx hb dX4_parse_258 (by decide) (fun c_115 => ?_) (fun c_115 => ?_)
                              · skip
                                refine lv_iconst (v := 0) hx hb dX4_parse_274 (by decide) ?_
                                refine va_put (D := G) (ci := 4) (v := .int 0) (ty := .boolean) (C := RX4) (T := TX4) (N := 13) hx hb hts hX4 tyX4 tyX4_ok nmX4 hown hK hP hD hS (0) wM_e0 rfl 11 (by decide) (hts (.fieldLink RX4 76 "DraftSurveyModel" "isRow" "Z") (by decide +kernel)) (fun _ h9 => h9) rfl (by decide +kernel) (bl_nar (Or.inl rfl)) (bl_fit (Or.inl rfl)) (Nat.le_of_ble_eq_true rfl) dX4_parse_275 (fun H locs hP hD hS => ?_)
                                have hP : va_P G vwCl (wM C b σ (x_ir (x_er (x_rd (nu, nI k, m_ir ρ, m_h ρ) (vp_updL nu pn (-(lN ((10 * mn) + (cn - 48)))))) (nI (k + 0))) 0)) H := hP
                                have hD : va_D A (wM C b σ (x_ir (x_er (x_rd (nu, nI k, m_ir ρ, m_h ρ) (vp_updL nu pn (-(lN ((10 * mn) + (cn - 48)))))) (nI (k + 0))) 0)) := hD
                                refine wr_vret hx hb hr hlocks hAe hP hD hS ?_ dX4_parse_278
                                exact pP_of (f := vp_updL nu pn (-(lN ((10 * mn) + (cn - 48))))) (i := 0) (g_2.symm.trans (nRun_none c_2 (st_dig0 h48 h57 hch (by omega)))) (if_neg (fun q => absurd q.1 (by omega))) (fun q => absurd q (by omega))
                              · skip
                                exact absurd c_115 (by decide)
                            · skip
                              exact absurd c_114 (by decide)
                          · skip
                            exact absurd c_113 (by decide)
                      · skip
                        exact absurd c_111 (by decide)
                    · skip
                      have c_110 : 0 < dn := (nI_ltI (a := 0) (b := dn) (by omega) (by omega)).mp c_110
                      refine lv_lload hx hb dX4_parse_95 (lv_at hl 7 rfl) ?_
                      refine lv_lconst (v := 0) hx hb dX4_parse_97 (by decide) ?_
                      refine lc_le (tgt := 106) hx hb dX4_parse_98 dX4_parse_99 (by decide) (fun c_116 => ?_) (fun c_116 => ?_)
                      · skip
                        have c_116 : ¬ 0 < mn := fun z9 => c_116 ((lN_lt (a := 0) (b := mn) (by omega) (by omega)).mpr z9)
                        refine lv_iconst (v := 0) hx hb dX4_parse_106 (by decide) ?_
                        refine lv_istore (lv' := [(6, .int 0), (9, .int 0), (8, .int (nI (cn - 48))), (7, .int (nI cn)), (0, .ref (b 0)), (1, .int (nI pn)), (2, .int (nI dn)), (3, .int (nI gn)), (4, .long (lN mn))]) hx hb dX4_parse_107 hl (by decide) rfl (fun ls hl => ?_)
                        refine lv_iload hx hb dX4_parse_109 (lv_at hl 0 rfl) ?_
                        refine lv_if_eq (tgt := 136) hx hb dX4_parse_111 (by decide) (fun c_117 => ?_) (fun c_117 => ?_)
                        · skip
                          refine lv_iconst (v := 0) hx hb dX4_parse_136 (by decide) ?_
                          refine lv_istore (lv' := [(6, .int 0), (9, .int 0), (8, .int (nI (cn - 48))), (7, .int (nI cn)), (0, .ref (b 0)), (1, .int (nI pn)), (2, .int (nI dn)), (3, .int (nI gn)), (4, .long (lN mn))]) hx hb dX4_parse_137 hl (by decide) rfl (fun ls hl => ?_)
                          refine lv_ldc2 (v := 10) hx hb hown (hts (.constantLong RX4 70 (10)) (by decide +kernel)) dX4_parse_139 ?_
                          refine lv_lload hx hb dX4_parse_142 (lv_at hl 8 rfl) ?_
                          refine lv_lmul hx hb dX4_parse_144 ?_
                          refine tp_l (v := lN (10 * mn)) (lN_mul 10 mn) ?_
                          refine lv_iload hx hb dX4_parse_145 (lv_at hl 2 rfl) ?_
                          refine lv_i2l (v := lN (cn - 48)) hx hb dX4_parse_147 (nI_l (by omega)) ?_
                          refine lv_ladd hx hb dX4_parse_148 ?_
                          refine tp_l (v := lN ((10 * mn) + (cn - 48))) (lN_add (10 * mn) (cn - 48)) ?_
                          refine lv_lstore (lv' := [(4, .long (lN ((10 * mn) + (cn - 48)))), (6, .int 0), (9, .int 0), (8, .int (nI (cn - 48))), (7, .int (nI cn)), (0, .ref (b 0)), (1, .int (nI pn)), (2, .int (nI dn)), (3, .int (nI gn))]) hx hb dX4_parse_149 hl (by decide) rfl (fun ls hl => ?_)
                          refine lv_iinc (v := nI (dn + 1)) (lv' := [(2, .int (nI (dn + 1))), (4, .long (lN ((10 * mn) + (cn - 48)))), (6, .int 0), (9, .int 0), (8, .int (nI (cn - 48))), (7, .int (nI cn)), (0, .ref (b 0)), (1, .int (nI pn)), (3, .int (nI gn))]) hx hb dX4_parse_151 hl (k := 7) rfl (nI_add dn 1) (by decide) rfl (fun ls hl => ?_)
                          refine lv_aload_n hx hb dX4_parse_154 rfl (lv_at hl 6 rfl) ?_
                          refine va_get (D := G) (ci := 4) (v := .ref (b 6)) (C := RX4) (T := TX4) (N := 13) hx hb hts hX4 hown hK hP (0) wM_e0 rfl 9 (by decide) (hts (.fieldLink RX4 32 "DraftSurveyModel" "read" "[J") (by decide +kernel)) (fun _ h9 => h9) rfl dX4_parse_155 ?_
                          refine lv_iload_n hx hb dX4_parse_158 rfl (lv_at hl 7 rfl) ?_
                          refine lv_iload_n hx hb dX4_parse_159 rfl (lv_at hl 8 rfl) ?_
                          refine lv_if_eq (tgt := 169) hx hb dX4_parse_160 (by decide) (fun c_118 => ?_) (fun c_118 => ?_)
                          · skip
                            have c_118 : gn = 0 := (nI_eq (a := gn) (b := 0) (by omega) (by omega)).mp c_118
                            exact absurd c_118 c_108
                          · skip
                            have c_118 : ¬ gn = 0 := fun z9 => c_118 ((nI_eq (a := gn) (b := 0) (by omega) (by omega)).mpr z9)
                            refine lv_lload hx hb dX4_parse_163 (lv_at hl 1 rfl) ?_
                            refine lv_lneg hx hb dX4_parse_165 ?_
                            refine lv_goto (tgt := 171) hx hb dX4_parse_166 (by decide) ?_
                            refine as_l (k := pn) hx hb hK hP hD hS (6) 1 wM_e6 rfl rfl (by omega) (by decide) dX4_parse_171 (fun H locs hP hD hS => ?_)
                            have hP : va_P G vwCl (wM C b σ (x_rd (nu, nI k, m_ir ρ, m_h ρ) (vp_updL nu pn (-(lN ((10 * mn) + (cn - 48))))))) H := hP
                            have hD : va_D A (wM C b σ (x_rd (nu, nI k, m_ir ρ, m_h ρ) (vp_updL nu pn (-(lN ((10 * mn) + (cn - 48))))))) := hD
                            refine lv_goto (tgt := 233) hx hb dX4_parse_172 (by decide) ?_
                            refine lv_aload_n hx hb dX4_parse_233 rfl (lv_at hl 6 rfl) ?_
                            refine lv_dup hx hb dX4_parse_234 rfl ?_
                            refine va_get (D := G) (ci := 4) (v := .int (nI k)) (C := RX4) (T := TX4) (N := 13) hx hb hts hX4 hown hK hP (0) wM_e0 rfl 10 (by decide) (hts (.fieldLink RX4 63 "DraftSurveyModel" "errorAt" "I") (by decide +kernel)) (fun _ h9 => h9) rfl dX4_parse_235 ?_
                            refine lv_iload hx hb dX4_parse_238 (lv_at hl 2 rfl) ?_
                            refine lv_if_eq (tgt := 247) hx hb dX4_parse_240 (by decide) (fun c_119 => ?_) (fun c_119 => ?_)
                            · skip
                              refine lv_iconst (v := 0) hx hb dX4_parse_247 (by decide) ?_
                              refine lv_iadd hx hb dX4_parse_248 ?_
                              refine tp_i (v := nI (k + 0)) (nI_add k 0) ?_
                              refine va_put (D := G) (ci := 4) (v := .int (nI (k + 0))) (ty := .int) (C := RX4) (T := TX4) (N := 13) hx hb hts hX4 tyX4 tyX4_ok nmX4 hown hK hP hD hS (0) wM_e0 rfl 10 (by decide) (hts (.fieldLink RX4 63 "DraftSurveyModel" "errorAt" "I") (by decide +kernel)) (fun _ h9 => h9) rfl (by decide +kernel) rfl rfl (Nat.le_of_ble_eq_true rfl) dX4_parse_249 (fun H locs hP hD hS => ?_)
                              have hP : va_P G vwCl (wM C b σ (x_er (x_rd (nu, nI k, m_ir ρ, m_h ρ) (vp_updL nu pn (-(lN ((10 * mn) + (cn - 48)))))) (nI (k + 0)))) H := hP
                              have hD : va_D A (wM C b σ (x_er (x_rd (nu, nI k, m_ir ρ, m_h ρ) (vp_updL nu pn (-(lN ((10 * mn) + (cn - 48)))))) (nI (k + 0)))) := hD
                              refine lv_goto (tgt := 17) hx hb dX4_parse_252 (by decide) ?_
                              refine lv_iload hx hb dX4_parse_17 (lv_at hl 2 rfl) ?_
                              refine lv_if_eq (tgt := 255) hx hb dX4_parse_19 (by decide) (fun c_120 => ?_) (fun c_120 => ?_)
                              · skip
                                refine lv_aload_n hx hb dX4_parse_255 rfl (lv_at hl 6 rfl) ?_
                                refine lv_iload hx hb dX4_parse_256 (lv_at hl 2 rfl) ?_
                                refine lv_if_eq (tgt := 274) hx hb dX4_parse_258 (by decide) (fun c_121 => ?_) (fun c_121 => ?_)
                                · skip
                                  refine lv_iconst (v := 0) hx hb dX4_parse_274 (by decide) ?_
                                  refine va_put (D := G) (ci := 4) (v := .int 0) (ty := .boolean) (C := RX4) (T := TX4) (N := 13) hx hb hts hX4 tyX4 tyX4_ok nmX4 hown hK hP hD hS (0) wM_e0 rfl 11 (by decide) (hts (.fieldLink RX4 76 "DraftSurveyModel" "isRow" "Z") (by decide +kernel)) (fun _ h9 => h9) rfl (by decide +kernel) (bl_nar (Or.inl rfl)) (bl_fit (Or.inl rfl)) (Nat.le_of_ble_eq_true rfl) dX4_parse_275 (fun H locs hP hD hS => ?_)
                                  have hP : va_P G vwCl (wM C b σ (x_ir (x_er (x_rd (nu, nI k, m_ir ρ, m_h ρ) (vp_updL nu pn (-(lN ((10 * mn) + (cn - 48)))))) (nI (k + 0))) 0)) H := hP
                                  have hD : va_D A (wM C b σ (x_ir (x_er (x_rd (nu, nI k, m_ir ρ, m_h ρ) (vp_updL nu pn (-(lN ((10 * mn) + (cn - 48)))))) (nI (k + 0))) 0)) := hD
                                  refine wr_vret hx hb hr hlocks hAe hP hD hS ?_ dX4_parse_278
                                  exact pP_of (f := vp_updL nu pn (-(lN ((10 * mn) + (cn - 48))))) (i := 0) (g_2.symm.trans (nRun_none c_2 (st_dig0 h48 h57 hch (by omega)))) (if_neg (fun q => absurd q.1 (by omega))) (fun q => absurd q (by omega))
                                · skip
                                  exact absurd c_121 (by decide)
                              · skip
                                exact absurd c_120 (by decide)
                            · skip
                              exact absurd c_119 (by decide)
                        · skip
                          exact absurd c_117 (by decide)
                      · skip
                        have c_116 : 0 < mn := (lN_lt (a := 0) (b := mn) (by omega) (by omega)).mp c_116
                        refine lv_iconst (v := 1) hx hb dX4_parse_102 (by decide) ?_
                        refine lv_goto (tgt := 107) hx hb dX4_parse_103 (by decide) ?_
                        refine lv_istore (lv' := [(6, .int 1), (9, .int 0), (8, .int (nI (cn - 48))), (7, .int (nI cn)), (0, .ref (b 0)), (1, .int (nI pn)), (2, .int (nI dn)), (3, .int (nI gn)), (4, .long (lN mn))]) hx hb dX4_parse_107 hl (by decide) rfl (fun ls hl => ?_)
                        refine lv_iload hx hb dX4_parse_109 (lv_at hl 0 rfl) ?_
                        refine lv_if_eq (tgt := 136) hx hb dX4_parse_111 (by decide) (fun c_122 => ?_) (fun c_122 => ?_)
                        · skip
                          exact absurd c_122 (by decide)
                        · skip
                          refine lv_ldc2 (v := 10) hx hb hown (hts (.constantLong RX4 70 (10)) (by decide +kernel)) dX4_parse_114 ?_
                          refine lv_lload hx hb dX4_parse_117 (lv_at hl 8 rfl) ?_
                          refine lv_lmul hx hb dX4_parse_119 ?_
                          refine tp_l (v := lN (10 * mn)) (lN_mul 10 mn) ?_
                          refine lv_iload hx hb dX4_parse_120 (lv_at hl 2 rfl) ?_
                          refine lv_i2l (v := lN (cn - 48)) hx hb dX4_parse_122 (nI_l (by omega)) ?_
                          refine lv_ladd hx hb dX4_parse_123 ?_
                          refine tp_l (v := lN ((10 * mn) + (cn - 48))) (lN_add (10 * mn) (cn - 48)) ?_
                          refine lv_iload_n hx hb dX4_parse_124 rfl (lv_at hl 5 rfl) ?_
                          refine rd_callS (As := [.int (nI pn)]) (rest := [.long (lN ((10 * mn) + (cn - 48)))]) ⟨hx, hb, hml, hown, hts⟩ (m_great l G C b σ (nu, nI k, m_ir ρ, m_h ρ) (q := pn) (by omega)) (va_cwS 1 hts gX4_parse_X4_greatest rfl rfl rfl (by decide +kernel) ⟨Nat.le_of_ble_eq_true rfl, Nat.le_of_ble_eq_true rfl⟩) hK hN hP rfl hl.1 rfl (Nat.le_of_ble_eq_true rfl) dX4_parse_125 ⟨Nat.zero_le _, Nat.zero_le _⟩ ?_
                          have hgr := grT_le pn
                          refine lc_gt (tgt := 136) hx hb dX4_parse_128 dX4_parse_129 (by decide) (fun c_123 => ?_) (fun c_123 => ?_)
                          · skip
                            have c_123 : (grT pn) < ((10 * mn) + (cn - 48)) := (lN_lt (a := grT pn) (b := ((10 * mn) + (cn - 48))) (by omega) (by omega)).mp c_123
                            refine lv_iconst (v := 0) hx hb dX4_parse_136 (by decide) ?_
                            refine lv_istore (lv' := [(6, .int 0), (9, .int 0), (8, .int (nI (cn - 48))), (7, .int (nI cn)), (0, .ref (b 0)), (1, .int (nI pn)), (2, .int (nI dn)), (3, .int (nI gn)), (4, .long (lN mn))]) hx hb dX4_parse_137 hl (by decide) rfl (fun ls hl => ?_)
                            refine lv_ldc2 (v := 10) hx hb hown (hts (.constantLong RX4 70 (10)) (by decide +kernel)) dX4_parse_139 ?_
                            refine lv_lload hx hb dX4_parse_142 (lv_at hl 8 rfl) ?_
                            refine lv_lmul hx hb dX4_parse_144 ?_
                            refine tp_l (v := lN (10 * mn)) (lN_mul 10 mn) ?_
                            refine lv_iload hx hb dX4_parse_145 (lv_at hl 2 rfl) ?_
                            refine lv_i2l (v := lN (cn - 48)) hx hb dX4_parse_147 (nI_l (by omega)) ?_
                            refine lv_ladd hx hb dX4_parse_148 ?_
                            refine tp_l (v := lN ((10 * mn) + (cn - 48))) (lN_add (10 * mn) (cn - 48)) ?_
                            refine lv_lstore (lv' := [(4, .long (lN ((10 * mn) + (cn - 48)))), (6, .int 0), (9, .int 0), (8, .int (nI (cn - 48))), (7, .int (nI cn)), (0, .ref (b 0)), (1, .int (nI pn)), (2, .int (nI dn)), (3, .int (nI gn))]) hx hb dX4_parse_149 hl (by decide) rfl (fun ls hl => ?_)
                            refine lv_iinc (v := nI (dn + 1)) (lv' := [(2, .int (nI (dn + 1))), (4, .long (lN ((10 * mn) + (cn - 48)))), (6, .int 0), (9, .int 0), (8, .int (nI (cn - 48))), (7, .int (nI cn)), (0, .ref (b 0)), (1, .int (nI pn)), (3, .int (nI gn))]) hx hb dX4_parse_151 hl (k := 7) rfl (nI_add dn 1) (by decide) rfl (fun ls hl => ?_)
                            refine lv_aload_n hx hb dX4_parse_154 rfl (lv_at hl 6 rfl) ?_
                            refine va_get (D := G) (ci := 4) (v := .ref (b 6)) (C := RX4) (T := TX4) (N := 13) hx hb hts hX4 hown hK hP (0) wM_e0 rfl 9 (by decide) (hts (.fieldLink RX4 32 "DraftSurveyModel" "read" "[J") (by decide +kernel)) (fun _ h9 => h9) rfl dX4_parse_155 ?_
                            refine lv_iload_n hx hb dX4_parse_158 rfl (lv_at hl 7 rfl) ?_
                            refine lv_iload_n hx hb dX4_parse_159 rfl (lv_at hl 8 rfl) ?_
                            refine lv_if_eq (tgt := 169) hx hb dX4_parse_160 (by decide) (fun c_124 => ?_) (fun c_124 => ?_)
                            · skip
                              have c_124 : gn = 0 := (nI_eq (a := gn) (b := 0) (by omega) (by omega)).mp c_124
                              exact absurd c_124 c_108
                            · skip
                              have c_124 : ¬ gn = 0 := fun z9 => c_124 ((nI_eq (a := gn) (b := 0) (by omega) (by omega)).mpr z9)
                              refine lv_lload hx hb dX4_parse_163 (lv_at hl 1 rfl) ?_
                              refine lv_lneg hx hb dX4_parse_165 ?_
                              refine lv_goto (tgt := 171) hx hb dX4_parse_166 (by decide) ?_
                              refine as_l (k := pn) hx hb hK hP hD hS (6) 1 wM_e6 rfl rfl (by omega) (by decide) dX4_parse_171 (fun H locs hP hD hS => ?_)
                              have hP : va_P G vwCl (wM C b σ (x_rd (nu, nI k, m_ir ρ, m_h ρ) (vp_updL nu pn (-(lN ((10 * mn) + (cn - 48))))))) H := hP
                              have hD : va_D A (wM C b σ (x_rd (nu, nI k, m_ir ρ, m_h ρ) (vp_updL nu pn (-(lN ((10 * mn) + (cn - 48))))))) := hD
                              refine lv_goto (tgt := 233) hx hb dX4_parse_172 (by decide) ?_
                              refine lv_aload_n hx hb dX4_parse_233 rfl (lv_at hl 6 rfl) ?_
                              refine lv_dup hx hb dX4_parse_234 rfl ?_
                              refine va_get (D := G) (ci := 4) (v := .int (nI k)) (C := RX4) (T := TX4) (N := 13) hx hb hts hX4 hown hK hP (0) wM_e0 rfl 10 (by decide) (hts (.fieldLink RX4 63 "DraftSurveyModel" "errorAt" "I") (by decide +kernel)) (fun _ h9 => h9) rfl dX4_parse_235 ?_
                              refine lv_iload hx hb dX4_parse_238 (lv_at hl 2 rfl) ?_
                              refine lv_if_eq (tgt := 247) hx hb dX4_parse_240 (by decide) (fun c_125 => ?_) (fun c_125 => ?_)
                              · skip
                                refine lv_iconst (v := 0) hx hb dX4_parse_247 (by decide) ?_
                                refine lv_iadd hx hb dX4_parse_248 ?_
                                refine tp_i (v := nI (k + 0)) (nI_add k 0) ?_
                                refine va_put (D := G) (ci := 4) (v := .int (nI (k + 0))) (ty := .int) (C := RX4) (T := TX4) (N := 13) hx hb hts hX4 tyX4 tyX4_ok nmX4 hown hK hP hD hS (0) wM_e0 rfl 10 (by decide) (hts (.fieldLink RX4 63 "DraftSurveyModel" "errorAt" "I") (by decide +kernel)) (fun _ h9 => h9) rfl (by decide +kernel) rfl rfl (Nat.le_of_ble_eq_true rfl) dX4_parse_249 (fun H locs hP hD hS => ?_)
                                have hP : va_P G vwCl (wM C b σ (x_er (x_rd (nu, nI k, m_ir ρ, m_h ρ) (vp_updL nu pn (-(lN ((10 * mn) + (cn - 48)))))) (nI (k + 0)))) H := hP
                                have hD : va_D A (wM C b σ (x_er (x_rd (nu, nI k, m_ir ρ, m_h ρ) (vp_updL nu pn (-(lN ((10 * mn) + (cn - 48)))))) (nI (k + 0)))) := hD
                                refine lv_goto (tgt := 17) hx hb dX4_parse_252 (by decide) ?_
                                refine lv_iload hx hb dX4_parse_17 (lv_at hl 2 rfl) ?_
                                refine lv_if_eq (tgt := 255) hx hb dX4_parse_19 (by decide) (fun c_126 => ?_) (fun c_126 => ?_)
                                · skip
                                  refine lv_aload_n hx hb dX4_parse_255 rfl (lv_at hl 6 rfl) ?_
                                  refine lv_iload hx hb dX4_parse_256 (lv_at hl 2 rfl) ?_
                                  refine lv_if_eq (tgt := 274) hx hb dX4_parse_258 (by decide) (fun c_127 => ?_) (fun c_127 => ?_)
                                  · skip
                                    refine lv_iconst (v := 0) hx hb dX4_parse_274 (by decide) ?_
                                    refine va_put (D := G) (ci := 4) (v := .int 0) (ty := .boolean) (C := RX4) (T := TX4) (N := 13) hx hb hts hX4 tyX4 tyX4_ok nmX4 hown hK hP hD hS (0) wM_e0 rfl 11 (by decide) (hts (.fieldLink RX4 76 "DraftSurveyModel" "isRow" "Z") (by decide +kernel)) (fun _ h9 => h9) rfl (by decide +kernel) (bl_nar (Or.inl rfl)) (bl_fit (Or.inl rfl)) (Nat.le_of_ble_eq_true rfl) dX4_parse_275 (fun H locs hP hD hS => ?_)
                                    have hP : va_P G vwCl (wM C b σ (x_ir (x_er (x_rd (nu, nI k, m_ir ρ, m_h ρ) (vp_updL nu pn (-(lN ((10 * mn) + (cn - 48)))))) (nI (k + 0))) 0)) H := hP
                                    have hD : va_D A (wM C b σ (x_ir (x_er (x_rd (nu, nI k, m_ir ρ, m_h ρ) (vp_updL nu pn (-(lN ((10 * mn) + (cn - 48)))))) (nI (k + 0))) 0)) := hD
                                    refine wr_vret hx hb hr hlocks hAe hP hD hS ?_ dX4_parse_278
                                    exact pP_of (f := vp_updL nu pn (-(lN ((10 * mn) + (cn - 48))))) (i := 0) (g_2.symm.trans (nRun_none c_2 (st_dig0 h48 h57 hch (by omega)))) (if_neg (fun q => absurd q.1 (by omega))) (fun q => absurd q (by omega))
                                  · skip
                                    exact absurd c_127 (by decide)
                                · skip
                                  exact absurd c_126 (by decide)
                              · skip
                                exact absurd c_125 (by decide)
                          · skip
                            have c_123 : ¬ (grT pn) < ((10 * mn) + (cn - 48)) := fun z9 => c_123 ((lN_lt (a := grT pn) (b := ((10 * mn) + (cn - 48))) (by omega) (by omega)).mpr z9)
                            refine lv_iconst (v := 1) hx hb dX4_parse_132 (by decide) ?_
                            refine lv_goto (tgt := 137) hx hb dX4_parse_133 (by decide) ?_
                            refine lv_istore (lv' := [(6, .int 1), (9, .int 0), (8, .int (nI (cn - 48))), (7, .int (nI cn)), (0, .ref (b 0)), (1, .int (nI pn)), (2, .int (nI dn)), (3, .int (nI gn)), (4, .long (lN mn))]) hx hb dX4_parse_137 hl (by decide) rfl (fun ls hl => ?_)
                            refine lv_ldc2 (v := 10) hx hb hown (hts (.constantLong RX4 70 (10)) (by decide +kernel)) dX4_parse_139 ?_
                            refine lv_lload hx hb dX4_parse_142 (lv_at hl 8 rfl) ?_
                            refine lv_lmul hx hb dX4_parse_144 ?_
                            refine tp_l (v := lN (10 * mn)) (lN_mul 10 mn) ?_
                            refine lv_iload hx hb dX4_parse_145 (lv_at hl 2 rfl) ?_
                            refine lv_i2l (v := lN (cn - 48)) hx hb dX4_parse_147 (nI_l (by omega)) ?_
                            refine lv_ladd hx hb dX4_parse_148 ?_
                            refine tp_l (v := lN ((10 * mn) + (cn - 48))) (lN_add (10 * mn) (cn - 48)) ?_
                            refine lv_lstore (lv' := [(4, .long (lN ((10 * mn) + (cn - 48)))), (6, .int 1), (9, .int 0), (8, .int (nI (cn - 48))), (7, .int (nI cn)), (0, .ref (b 0)), (1, .int (nI pn)), (2, .int (nI dn)), (3, .int (nI gn))]) hx hb dX4_parse_149 hl (by decide) rfl (fun ls hl => ?_)
                            refine lv_iinc (v := nI (dn + 1)) (lv' := [(2, .int (nI (dn + 1))), (4, .long (lN ((10 * mn) + (cn - 48)))), (6, .int 1), (9, .int 0), (8, .int (nI (cn - 48))), (7, .int (nI cn)), (0, .ref (b 0)), (1, .int (nI pn)), (3, .int (nI gn))]) hx hb dX4_parse_151 hl (k := 7) rfl (nI_add dn 1) (by decide) rfl (fun ls hl => ?_)
                            refine lv_aload_n hx hb dX4_parse_154 rfl (lv_at hl 6 rfl) ?_
                            refine va_get (D := G) (ci := 4) (v := .ref (b 6)) (C := RX4) (T := TX4) (N := 13) hx hb hts hX4 hown hK hP (0) wM_e0 rfl 9 (by decide) (hts (.fieldLink RX4 32 "DraftSurveyModel" "read" "[J") (by decide +kernel)) (fun _ h9 => h9) rfl dX4_parse_155 ?_
                            refine lv_iload_n hx hb dX4_parse_158 rfl (lv_at hl 7 rfl) ?_
                            refine lv_iload_n hx hb dX4_parse_159 rfl (lv_at hl 8 rfl) ?_
                            refine lv_if_eq (tgt := 169) hx hb dX4_parse_160 (by decide) (fun c_128 => ?_) (fun c_128 => ?_)
                            · skip
                              have c_128 : gn = 0 := (nI_eq (a := gn) (b := 0) (by omega) (by omega)).mp c_128
                              exact absurd c_128 c_108
                            · skip
                              have c_128 : ¬ gn = 0 := fun z9 => c_128 ((nI_eq (a := gn) (b := 0) (by omega) (by omega)).mpr z9)
                              refine lv_lload hx hb dX4_parse_163 (lv_at hl 1 rfl) ?_
                              refine lv_lneg hx hb dX4_parse_165 ?_
                              refine lv_goto (tgt := 171) hx hb dX4_parse_166 (by decide) ?_
                              refine as_l (k := pn) hx hb hK hP hD hS (6) 1 wM_e6 rfl rfl (by omega) (by decide) dX4_parse_171 (fun H locs hP hD hS => ?_)
                              have hP : va_P G vwCl (wM C b σ (x_rd (nu, nI k, m_ir ρ, m_h ρ) (vp_updL nu pn (-(lN ((10 * mn) + (cn - 48))))))) H := hP
                              have hD : va_D A (wM C b σ (x_rd (nu, nI k, m_ir ρ, m_h ρ) (vp_updL nu pn (-(lN ((10 * mn) + (cn - 48))))))) := hD
                              refine lv_goto (tgt := 233) hx hb dX4_parse_172 (by decide) ?_
                              refine lv_aload_n hx hb dX4_parse_233 rfl (lv_at hl 6 rfl) ?_
                              refine lv_dup hx hb dX4_parse_234 rfl ?_
                              refine va_get (D := G) (ci := 4) (v := .int (nI k)) (C := RX4) (T := TX4) (N := 13) hx hb hts hX4 hown hK hP (0) wM_e0 rfl 10 (by decide) (hts (.fieldLink RX4 63 "DraftSurveyModel" "errorAt" "I") (by decide +kernel)) (fun _ h9 => h9) rfl dX4_parse_235 ?_
                              refine lv_iload hx hb dX4_parse_238 (lv_at hl 2 rfl) ?_
                              refine lv_if_eq (tgt := 247) hx hb dX4_parse_240 (by decide) (fun c_129 => ?_) (fun c_129 => ?_)
                              · skip
                                exact absurd c_129 (by decide)
                              · skip
                                refine lv_iconst (v := 1) hx hb dX4_parse_243 (by decide) ?_
                                refine lv_goto (tgt := 248) hx hb dX4_parse_244 (by decide) ?_
                                refine lv_iadd hx hb dX4_parse_248 ?_
                                refine tp_i (v := nI (k + 1)) (nI_add k 1) ?_
                                refine va_put (D := G) (ci := 4) (v := .int (nI (k + 1))) (ty := .int) (C := RX4) (T := TX4) (N := 13) hx hb hts hX4 tyX4 tyX4_ok nmX4 hown hK hP hD hS (0) wM_e0 rfl 10 (by decide) (hts (.fieldLink RX4 63 "DraftSurveyModel" "errorAt" "I") (by decide +kernel)) (fun _ h9 => h9) rfl (by decide +kernel) rfl rfl (Nat.le_of_ble_eq_true rfl) dX4_parse_249 (fun H locs hP hD hS => ?_)
                                have hP : va_P G vwCl (wM C b σ (x_er (x_rd (nu, nI k, m_ir ρ, m_h ρ) (vp_updL nu pn (-(lN ((10 * mn) + (cn - 48)))))) (nI (k + 1)))) H := hP
                                have hD : va_D A (wM C b σ (x_er (x_rd (nu, nI k, m_ir ρ, m_h ρ) (vp_updL nu pn (-(lN ((10 * mn) + (cn - 48)))))) (nI (k + 1)))) := hD
                                refine lv_goto (tgt := 17) hx hb dX4_parse_252 (by decide) ?_
                                exact ih (k + 1) (vp_updL nu pn (-(lN (10 * mn + (cn - 48)))), pn, dn + 1, gn, 10 * mn + (cn - 48)) (by omega) (by omega) ((nRun_some c_2 (st_dig h48 h57 hch (by omega) (by omega) (if_neg c_128))).symm.trans g_2) (nSt_ok g_3 (st_dig h48 h57 hch (by omega) (by omega) (if_neg c_128))) H locs hP hD hS ls (lv_sub hl [6, 7, 0, 8, 1, 2] rfl)
                · skip
                  have c_108 : gn = 0 := (nI_eq (a := gn) (b := 0) (by omega) (by omega)).mp c_108
                  refine lv_iconst (v := 1) hx hb dX4_parse_79 (by decide) ?_
                  refine lv_goto (tgt := 84) hx hb dX4_parse_80 (by decide) ?_
                  refine lv_istore (lv' := [(9, .int 1), (8, .int (nI (cn - 48))), (7, .int (nI cn)), (0, .ref (b 0)), (1, .int (nI pn)), (2, .int (nI dn)), (3, .int (nI gn)), (4, .long (lN mn)), (6, .int 1)]) hx hb dX4_parse_84 hl (by decide) rfl (fun ls hl => ?_)
                  refine lv_iload hx hb dX4_parse_86 (lv_at hl 0 rfl) ?_
                  refine ic_if_ne (tgt := 102) hx hb dX4_parse_88 (by decide) (fun c_130 => ?_) (fun c_130 => ?_)
                  · skip
                    refine lv_iconst (v := 1) hx hb dX4_parse_102 (by decide) ?_
                    refine lv_goto (tgt := 107) hx hb dX4_parse_103 (by decide) ?_
                    refine lv_istore (lv' := [(6, .int 1), (9, .int 1), (8, .int (nI (cn - 48))), (7, .int (nI cn)), (0, .ref (b 0)), (1, .int (nI pn)), (2, .int (nI dn)), (3, .int (nI gn)), (4, .long (lN mn))]) hx hb dX4_parse_107 hl (by decide) rfl (fun ls hl => ?_)
                    refine lv_iload hx hb dX4_parse_109 (lv_at hl 0 rfl) ?_
                    refine lv_if_eq (tgt := 136) hx hb dX4_parse_111 (by decide) (fun c_131 => ?_) (fun c_131 => ?_)
                    · skip
                      exact absurd c_131 (by decide)
                    · skip
                      refine lv_ldc2 (v := 10) hx hb hown (hts (.constantLong RX4 70 (10)) (by decide +kernel)) dX4_parse_114 ?_
                      refine lv_lload hx hb dX4_parse_117 (lv_at hl 8 rfl) ?_
                      refine lv_lmul hx hb dX4_parse_119 ?_
                      refine tp_l (v := lN (10 * mn)) (lN_mul 10 mn) ?_
                      refine lv_iload hx hb dX4_parse_120 (lv_at hl 2 rfl) ?_
                      refine lv_i2l (v := lN (cn - 48)) hx hb dX4_parse_122 (nI_l (by omega)) ?_
                      refine lv_ladd hx hb dX4_parse_123 ?_
                      refine tp_l (v := lN ((10 * mn) + (cn - 48))) (lN_add (10 * mn) (cn - 48)) ?_
                      refine lv_iload_n hx hb dX4_parse_124 rfl (lv_at hl 5 rfl) ?_
                      refine rd_callS (As := [.int (nI pn)]) (rest := [.long (lN ((10 * mn) + (cn - 48)))]) ⟨hx, hb, hml, hown, hts⟩ (m_great l G C b σ (nu, nI k, m_ir ρ, m_h ρ) (q := pn) (by omega)) (va_cwS 1 hts gX4_parse_X4_greatest rfl rfl rfl (by decide +kernel) ⟨Nat.le_of_ble_eq_true rfl, Nat.le_of_ble_eq_true rfl⟩) hK hN hP rfl hl.1 rfl (Nat.le_of_ble_eq_true rfl) dX4_parse_125 ⟨Nat.zero_le _, Nat.zero_le _⟩ ?_
                      have hgr := grT_le pn
                      refine lc_gt (tgt := 136) hx hb dX4_parse_128 dX4_parse_129 (by decide) (fun c_132 => ?_) (fun c_132 => ?_)
                      · skip
                        have c_132 : (grT pn) < ((10 * mn) + (cn - 48)) := (lN_lt (a := grT pn) (b := ((10 * mn) + (cn - 48))) (by omega) (by omega)).mp c_132
                        refine lv_iconst (v := 0) hx hb dX4_parse_136 (by decide) ?_
                        refine lv_istore (lv' := [(6, .int 0), (9, .int 1), (8, .int (nI (cn - 48))), (7, .int (nI cn)), (0, .ref (b 0)), (1, .int (nI pn)), (2, .int (nI dn)), (3, .int (nI gn)), (4, .long (lN mn))]) hx hb dX4_parse_137 hl (by decide) rfl (fun ls hl => ?_)
                        refine lv_ldc2 (v := 10) hx hb hown (hts (.constantLong RX4 70 (10)) (by decide +kernel)) dX4_parse_139 ?_
                        refine lv_lload hx hb dX4_parse_142 (lv_at hl 8 rfl) ?_
                        refine lv_lmul hx hb dX4_parse_144 ?_
                        refine tp_l (v := lN (10 * mn)) (lN_mul 10 mn) ?_
                        refine lv_iload hx hb dX4_parse_145 (lv_at hl 2 rfl) ?_
                        refine lv_i2l (v := lN (cn - 48)) hx hb dX4_parse_147 (nI_l (by omega)) ?_
                        refine lv_ladd hx hb dX4_parse_148 ?_
                        refine tp_l (v := lN ((10 * mn) + (cn - 48))) (lN_add (10 * mn) (cn - 48)) ?_
                        refine lv_lstore (lv' := [(4, .long (lN ((10 * mn) + (cn - 48)))), (6, .int 0), (9, .int 1), (8, .int (nI (cn - 48))), (7, .int (nI cn)), (0, .ref (b 0)), (1, .int (nI pn)), (2, .int (nI dn)), (3, .int (nI gn))]) hx hb dX4_parse_149 hl (by decide) rfl (fun ls hl => ?_)
                        refine lv_iinc (v := nI (dn + 1)) (lv' := [(2, .int (nI (dn + 1))), (4, .long (lN ((10 * mn) + (cn - 48)))), (6, .int 0), (9, .int 1), (8, .int (nI (cn - 48))), (7, .int (nI cn)), (0, .ref (b 0)), (1, .int (nI pn)), (3, .int (nI gn))]) hx hb dX4_parse_151 hl (k := 7) rfl (nI_add dn 1) (by decide) rfl (fun ls hl => ?_)
                        refine lv_aload_n hx hb dX4_parse_154 rfl (lv_at hl 6 rfl) ?_
                        refine va_get (D := G) (ci := 4) (v := .ref (b 6)) (C := RX4) (T := TX4) (N := 13) hx hb hts hX4 hown hK hP (0) wM_e0 rfl 9 (by decide) (hts (.fieldLink RX4 32 "DraftSurveyModel" "read" "[J") (by decide +kernel)) (fun _ h9 => h9) rfl dX4_parse_155 ?_
                        refine lv_iload_n hx hb dX4_parse_158 rfl (lv_at hl 7 rfl) ?_
                        refine lv_iload_n hx hb dX4_parse_159 rfl (lv_at hl 8 rfl) ?_
                        refine lv_if_eq (tgt := 169) hx hb dX4_parse_160 (by decide) (fun c_133 => ?_) (fun c_133 => ?_)
                        · skip
                          have c_133 : gn = 0 := (nI_eq (a := gn) (b := 0) (by omega) (by omega)).mp c_133
                          refine lv_lload hx hb dX4_parse_169 (lv_at hl 1 rfl) ?_
                          refine as_l (k := pn) hx hb hK hP hD hS (6) 1 wM_e6 rfl rfl (by omega) (by decide) dX4_parse_171 (fun H locs hP hD hS => ?_)
                          have hP : va_P G vwCl (wM C b σ (x_rd (nu, nI k, m_ir ρ, m_h ρ) (vp_updL nu pn (lN ((10 * mn) + (cn - 48)))))) H := hP
                          have hD : va_D A (wM C b σ (x_rd (nu, nI k, m_ir ρ, m_h ρ) (vp_updL nu pn (lN ((10 * mn) + (cn - 48)))))) := hD
                          refine lv_goto (tgt := 233) hx hb dX4_parse_172 (by decide) ?_
                          refine lv_aload_n hx hb dX4_parse_233 rfl (lv_at hl 6 rfl) ?_
                          refine lv_dup hx hb dX4_parse_234 rfl ?_
                          refine va_get (D := G) (ci := 4) (v := .int (nI k)) (C := RX4) (T := TX4) (N := 13) hx hb hts hX4 hown hK hP (0) wM_e0 rfl 10 (by decide) (hts (.fieldLink RX4 63 "DraftSurveyModel" "errorAt" "I") (by decide +kernel)) (fun _ h9 => h9) rfl dX4_parse_235 ?_
                          refine lv_iload hx hb dX4_parse_238 (lv_at hl 2 rfl) ?_
                          refine lv_if_eq (tgt := 247) hx hb dX4_parse_240 (by decide) (fun c_134 => ?_) (fun c_134 => ?_)
                          · skip
                            refine lv_iconst (v := 0) hx hb dX4_parse_247 (by decide) ?_
                            refine lv_iadd hx hb dX4_parse_248 ?_
                            refine tp_i (v := nI (k + 0)) (nI_add k 0) ?_
                            refine va_put (D := G) (ci := 4) (v := .int (nI (k + 0))) (ty := .int) (C := RX4) (T := TX4) (N := 13) hx hb hts hX4 tyX4 tyX4_ok nmX4 hown hK hP hD hS (0) wM_e0 rfl 10 (by decide) (hts (.fieldLink RX4 63 "DraftSurveyModel" "errorAt" "I") (by decide +kernel)) (fun _ h9 => h9) rfl (by decide +kernel) rfl rfl (Nat.le_of_ble_eq_true rfl) dX4_parse_249 (fun H locs hP hD hS => ?_)
                            have hP : va_P G vwCl (wM C b σ (x_er (x_rd (nu, nI k, m_ir ρ, m_h ρ) (vp_updL nu pn (lN ((10 * mn) + (cn - 48))))) (nI (k + 0)))) H := hP
                            have hD : va_D A (wM C b σ (x_er (x_rd (nu, nI k, m_ir ρ, m_h ρ) (vp_updL nu pn (lN ((10 * mn) + (cn - 48))))) (nI (k + 0)))) := hD
                            refine lv_goto (tgt := 17) hx hb dX4_parse_252 (by decide) ?_
                            refine lv_iload hx hb dX4_parse_17 (lv_at hl 2 rfl) ?_
                            refine lv_if_eq (tgt := 255) hx hb dX4_parse_19 (by decide) (fun c_135 => ?_) (fun c_135 => ?_)
                            · skip
                              refine lv_aload_n hx hb dX4_parse_255 rfl (lv_at hl 6 rfl) ?_
                              refine lv_iload hx hb dX4_parse_256 (lv_at hl 2 rfl) ?_
                              refine lv_if_eq (tgt := 274) hx hb dX4_parse_258 (by decide) (fun c_136 => ?_) (fun c_136 => ?_)
                              · skip
                                refine lv_iconst (v := 0) hx hb dX4_parse_274 (by decide) ?_
                                refine va_put (D := G) (ci := 4) (v := .int 0) (ty := .boolean) (C := RX4) (T := TX4) (N := 13) hx hb hts hX4 tyX4 tyX4_ok nmX4 hown hK hP hD hS (0) wM_e0 rfl 11 (by decide) (hts (.fieldLink RX4 76 "DraftSurveyModel" "isRow" "Z") (by decide +kernel)) (fun _ h9 => h9) rfl (by decide +kernel) (bl_nar (Or.inl rfl)) (bl_fit (Or.inl rfl)) (Nat.le_of_ble_eq_true rfl) dX4_parse_275 (fun H locs hP hD hS => ?_)
                                have hP : va_P G vwCl (wM C b σ (x_ir (x_er (x_rd (nu, nI k, m_ir ρ, m_h ρ) (vp_updL nu pn (lN ((10 * mn) + (cn - 48))))) (nI (k + 0))) 0)) H := hP
                                have hD : va_D A (wM C b σ (x_ir (x_er (x_rd (nu, nI k, m_ir ρ, m_h ρ) (vp_updL nu pn (lN ((10 * mn) + (cn - 48))))) (nI (k + 0))) 0)) := hD
                                refine wr_vret hx hb hr hlocks hAe hP hD hS ?_ dX4_parse_278
                                exact pP_of (f := vp_updL nu pn (lN ((10 * mn) + (cn - 48)))) (i := 0) (g_2.symm.trans (nRun_none c_2 (st_dig0 h48 h57 hch (by omega)))) (if_neg (fun q => absurd q.1 (by omega))) (fun q => absurd q (by omega))
                              · skip
                                exact absurd c_136 (by decide)
                            · skip
                              exact absurd c_135 (by decide)
                          · skip
                            exact absurd c_134 (by decide)
                        · skip
                          have c_133 : ¬ gn = 0 := fun z9 => c_133 ((nI_eq (a := gn) (b := 0) (by omega) (by omega)).mpr z9)
                          exact absurd c_108 c_133
                      · skip
                        have c_132 : ¬ (grT pn) < ((10 * mn) + (cn - 48)) := fun z9 => c_132 ((lN_lt (a := grT pn) (b := ((10 * mn) + (cn - 48))) (by omega) (by omega)).mpr z9)
                        refine lv_iconst (v := 1) hx hb dX4_parse_132 (by decide) ?_
                        refine lv_goto (tgt := 137) hx hb dX4_parse_133 (by decide) ?_
                        refine lv_istore (lv' := [(6, .int 1), (9, .int 1), (8, .int (nI (cn - 48))), (7, .int (nI cn)), (0, .ref (b 0)), (1, .int (nI pn)), (2, .int (nI dn)), (3, .int (nI gn)), (4, .long (lN mn))]) hx hb dX4_parse_137 hl (by decide) rfl (fun ls hl => ?_)
                        refine lv_ldc2 (v := 10) hx hb hown (hts (.constantLong RX4 70 (10)) (by decide +kernel)) dX4_parse_139 ?_
                        refine lv_lload hx hb dX4_parse_142 (lv_at hl 8 rfl) ?_
                        refine lv_lmul hx hb dX4_parse_144 ?_
                        refine tp_l (v := lN (10 * mn)) (lN_mul 10 mn) ?_
                        refine lv_iload hx hb dX4_parse_145 (lv_at hl 2 rfl) ?_
                        refine lv_i2l (v := lN (cn - 48)) hx hb dX4_parse_147 (nI_l (by omega)) ?_
                        refine lv_ladd hx hb dX4_parse_148 ?_
                        refine tp_l (v := lN ((10 * mn) + (cn - 48))) (lN_add (10 * mn) (cn - 48)) ?_
                        refine lv_lstore (lv' := [(4, .long (lN ((10 * mn) + (cn - 48)))), (6, .int 1), (9, .int 1), (8, .int (nI (cn - 48))), (7, .int (nI cn)), (0, .ref (b 0)), (1, .int (nI pn)), (2, .int (nI dn)), (3, .int (nI gn))]) hx hb dX4_parse_149 hl (by decide) rfl (fun ls hl => ?_)
                        refine lv_iinc (v := nI (dn + 1)) (lv' := [(2, .int (nI (dn + 1))), (4, .long (lN ((10 * mn) + (cn - 48)))), (6, .int 1), (9, .int 1), (8, .int (nI (cn - 48))), (7, .int (nI cn)), (0, .ref (b 0)), (1, .int (nI pn)), (3, .int (nI gn))]) hx hb dX4_parse_151 hl (k := 7) rfl (nI_add dn 1) (by decide) rfl (fun ls hl => ?_)
                        refine lv_aload_n hx hb dX4_parse_154 rfl (lv_at hl 6 rfl) ?_
                        refine va_get (D := G) (ci := 4) (v := .ref (b 6)) (C := RX4) (T := TX4) (N := 13) hx hb hts hX4 hown hK hP (0) wM_e0 rfl 9 (by decide) (hts (.fieldLink RX4 32 "DraftSurveyModel" "read" "[J") (by decide +kernel)) (fun _ h9 => h9) rfl dX4_parse_155 ?_
                        refine lv_iload_n hx hb dX4_parse_158 rfl (lv_at hl 7 rfl) ?_
                        refine lv_iload_n hx hb dX4_parse_159 rfl (lv_at hl 8 rfl) ?_
                        refine lv_if_eq (tgt := 169) hx hb dX4_parse_160 (by decide) (fun c_137 => ?_) (fun c_137 => ?_)
                        · skip
                          have c_137 : gn = 0 := (nI_eq (a := gn) (b := 0) (by omega) (by omega)).mp c_137
                          refine lv_lload hx hb dX4_parse_169 (lv_at hl 1 rfl) ?_
                          refine as_l (k := pn) hx hb hK hP hD hS (6) 1 wM_e6 rfl rfl (by omega) (by decide) dX4_parse_171 (fun H locs hP hD hS => ?_)
                          have hP : va_P G vwCl (wM C b σ (x_rd (nu, nI k, m_ir ρ, m_h ρ) (vp_updL nu pn (lN ((10 * mn) + (cn - 48)))))) H := hP
                          have hD : va_D A (wM C b σ (x_rd (nu, nI k, m_ir ρ, m_h ρ) (vp_updL nu pn (lN ((10 * mn) + (cn - 48)))))) := hD
                          refine lv_goto (tgt := 233) hx hb dX4_parse_172 (by decide) ?_
                          refine lv_aload_n hx hb dX4_parse_233 rfl (lv_at hl 6 rfl) ?_
                          refine lv_dup hx hb dX4_parse_234 rfl ?_
                          refine va_get (D := G) (ci := 4) (v := .int (nI k)) (C := RX4) (T := TX4) (N := 13) hx hb hts hX4 hown hK hP (0) wM_e0 rfl 10 (by decide) (hts (.fieldLink RX4 63 "DraftSurveyModel" "errorAt" "I") (by decide +kernel)) (fun _ h9 => h9) rfl dX4_parse_235 ?_
                          refine lv_iload hx hb dX4_parse_238 (lv_at hl 2 rfl) ?_
                          refine lv_if_eq (tgt := 247) hx hb dX4_parse_240 (by decide) (fun c_138 => ?_) (fun c_138 => ?_)
                          · skip
                            exact absurd c_138 (by decide)
                          · skip
                            refine lv_iconst (v := 1) hx hb dX4_parse_243 (by decide) ?_
                            refine lv_goto (tgt := 248) hx hb dX4_parse_244 (by decide) ?_
                            refine lv_iadd hx hb dX4_parse_248 ?_
                            refine tp_i (v := nI (k + 1)) (nI_add k 1) ?_
                            refine va_put (D := G) (ci := 4) (v := .int (nI (k + 1))) (ty := .int) (C := RX4) (T := TX4) (N := 13) hx hb hts hX4 tyX4 tyX4_ok nmX4 hown hK hP hD hS (0) wM_e0 rfl 10 (by decide) (hts (.fieldLink RX4 63 "DraftSurveyModel" "errorAt" "I") (by decide +kernel)) (fun _ h9 => h9) rfl (by decide +kernel) rfl rfl (Nat.le_of_ble_eq_true rfl) dX4_parse_249 (fun H locs hP hD hS => ?_)
                            have hP : va_P G vwCl (wM C b σ (x_er (x_rd (nu, nI k, m_ir ρ, m_h ρ) (vp_updL nu pn (lN ((10 * mn) + (cn - 48))))) (nI (k + 1)))) H := hP
                            have hD : va_D A (wM C b σ (x_er (x_rd (nu, nI k, m_ir ρ, m_h ρ) (vp_updL nu pn (lN ((10 * mn) + (cn - 48))))) (nI (k + 1)))) := hD
                            refine lv_goto (tgt := 17) hx hb dX4_parse_252 (by decide) ?_
                            exact ih (k + 1) (vp_updL nu pn (lN (10 * mn + (cn - 48))), pn, dn + 1, gn, 10 * mn + (cn - 48)) (by omega) (by omega) ((nRun_some c_2 (st_dig h48 h57 hch (by omega) (by omega) (if_pos c_137))).symm.trans g_2) (nSt_ok g_3 (st_dig h48 h57 hch (by omega) (by omega) (if_pos c_137))) H locs hP hD hS ls (lv_sub hl [6, 7, 0, 8, 1, 2] rfl)
                        · skip
                          have c_137 : ¬ gn = 0 := fun z9 => c_137 ((nI_eq (a := gn) (b := 0) (by omega) (by omega)).mpr z9)
                          exact absurd c_108 c_137
                  · skip
                    exact absurd c_130 (by decide)
  exact key17 (g_bl σ + 1) 0 (n0 (m_rd ρ)) (by omega) (Nat.zero_le _) rfl (n0_ok 0 _) H locs hP hD hS ls (lv_sub hl [5, 4, 3, 2, 1, 0] rfl)
