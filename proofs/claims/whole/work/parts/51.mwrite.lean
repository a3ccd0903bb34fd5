set_option maxHeartbeats 4000000 in
set_option maxRecDepth 100000 in
theorem m_setL_t (l : Launch) (G : va_G) (C : Nat → ClassId) (b : Nat → Nat) (σ : SG) (ρ : KM) {x : Int32} (hh : ¬ x < 10000 ∧ ¬ 400000 < x) : WrC l yX4_setLength wsX4_setLength ({ frames := 1, cells := 0, slots := 0, locals := 25 } : Room) G (tysC C) (wM C b σ ρ) [.ref (b 0), .int x] (pM C b (g_len σ) (u_len σ x.toInt64)) := by
  intro sz
  refine Met.ofW (cc := cX4_setLength) (maxL := 4) (ret := (some .long)) (by decide) rfl ?_
  intro p e s m args below meth c s₁ B hml hv
  obtain ⟨rfl, hsz, hP, hK, hN, hD0⟩ := hv
  have hx := B.exec
  have hb := B.bytes
  have hr := B.returns
  have hts := atoms_spec (ws := wsX4_setLength) B.pre
  have hown : s.vm.findClass RX4 = some m.cls := findClass_of_methodNamed B.named
  have hlocks := B.notSynchronized
  have hX4 : ∀ w ∈ wsX40, w ∈ wsX4_setLength := by decide +kernel
  subst hsz
  have hD := hD0.self (sz := s.heap.size)
  generalize hAe : va_A (wM C b σ ρ) s.heap.size = A at hD ⊢
  have hA : ∀ q : Nat, s.heap.size ≤ q → A q := fun q h => by rw [← hAe]; exact Or.inr h
  have hS : va_S A s.heap s.heap [] := va_S.rf
  have hP : va_P G vwCl (wM C b σ ρ) s.heap := hP
  have hl := lv_entry ([.ref (b 0), .int x]) (n := 4) (Nat.le_of_ble_eq_true rfl)
  rw [lg_entry_eq]
  generalize (lg_sl ([.ref (b 0), .int x]) ++ List.replicate (4 - (lg_sl ([.ref (b 0), .int x])).length) Slot.unset).toArray = ls at hl ⊢
  have hl : lv_has ls 4 [(0, .ref (b 0)), (1, .int x)] := hl
  refine lv_iload_n hx hb dX4_setLength_0 rfl (lv_at hl 1 rfl) ?_
  refine lv_i2l (v := x.toInt64) hx hb dX4_setLength_1 rfl ?_
  refine lv_ldc2 (v := 10000) hx hb hown (hts (.constantLong RX4 112 (10000)) (by decide +kernel)) dX4_setLength_2 ?_
  refine lv_ldc2 (v := 400000) hx hb hown (hts (.constantLong RX4 114 (400000)) (by decide +kernel)) dX4_setLength_5 ?_
  refine rd_callS (As := [.long x.toInt64, .long 10000, .long 400000]) (rest := []) ⟨hx, hb, hml, hown, hts⟩ (m_within_t l G C b σ ρ (w_t1 (lo := 10000) rfl hh.1) (w_t2 (hi := 400000) rfl hh.2)) (va_cwS 3 hts gX4_setLength_X4_within rfl rfl rfl (by decide +kernel) ⟨Nat.le_of_ble_eq_true rfl, Nat.le_of_ble_eq_true rfl⟩) hK hN hP rfl hl.1 rfl (Nat.le_of_ble_eq_true rfl) dX4_setLength_8 ⟨Nat.zero_le _, Nat.zero_le _⟩ ?_
  refine ic_if_ne (tgt := 18) hx hb dX4_setLength_11 (by decide) (fun c_1 => ?_) (fun c_1 => ?_)
  · skip
    refine lv_aload_n hx hb dX4_setLength_18 rfl (lv_at hl 0 rfl) ?_
    refine va_get (D := G) (ci := 4) (v := .long (g_len σ)) (C := RX4) (T := TX4) (N := 13) hx hb hts hX4 hown hK hP (0) wM_e0 rfl 7 (by decide) (hts (.fieldLink RX4 28 "DraftSurveyModel" "length" "J") (by decide +kernel)) (fun _ h9 => h9) rfl dX4_setLength_19 ?_
    refine lv_lstore_n (lv' := [(2, .long (g_len σ)), (0, .ref (b 0)), (1, .int x)]) hx hb dX4_setLength_22 rfl hl (by decide) rfl (fun ls hl => ?_)
    refine lv_aload_n hx hb dX4_setLength_23 rfl (lv_at hl 1 rfl) ?_
    refine lv_iload_n hx hb dX4_setLength_24 rfl (lv_at hl 2 rfl) ?_
    refine lv_i2l (v := x.toInt64) hx hb dX4_setLength_25 rfl ?_
    refine va_put (D := G) (ci := 4) (v := .long x.toInt64) (ty := .long) (C := RX4) (T := TX4) (N := 13) hx hb hts hX4 tyX4 tyX4_ok nmX4 hown hK hP hD hS (0) wM_e0 rfl 7 (by decide) (hts (.fieldLink RX4 28 "DraftSurveyModel" "length" "J") (by decide +kernel)) (fun _ h9 => h9) rfl (by decide +kernel) rfl rfl (Nat.le_of_ble_eq_true rfl) dX4_setLength_26 (fun H locs hP hD hS => ?_)
    have hP : va_P G vwCl (wM C b (u_len σ x.toInt64) ρ) H := hP
    have hD : va_D A (wM C b (u_len σ x.toInt64) ρ) := hD
    refine lv_lload_n hx hb dX4_setLength_29 rfl (lv_at hl 0 rfl) ?_
    refine wr_lret hx hb hr hlocks hAe hP hD hS ?_ dX4_setLength_30
    exact ⟨congrArg (fun z => some (Value.long z)) rfl, ρ, congrArg (fun z => wM C b z ρ) rfl⟩
  · skip
    exact absurd c_1 (by decide)

set_option maxHeartbeats 4000000 in
set_option maxRecDepth 100000 in
theorem m_setL_f (l : Launch) (G : va_G) (C : Nat → ClassId) (b : Nat → Nat) (σ : SG) (ρ : KM) {x : Int32} (hh : ¬ (¬ x < 10000 ∧ ¬ 400000 < x)) : WrC l yX4_setLength wsX4_setLength ({ frames := 1, cells := 0, slots := 0, locals := 25 } : Room) G (tysC C) (wM C b σ ρ) [.ref (b 0), .int x] (pM C b OOR σ) := by
  intro sz
  refine Met.ofW (cc := cX4_setLength) (maxL := 4) (ret := (some .long)) (by decide) rfl ?_
  intro p e s m args below meth c s₁ B hml hv
  obtain ⟨rfl, hsz, hP, hK, hN, hD0⟩ := hv
  have hx := B.exec
  have hb := B.bytes
  have hr := B.returns
  have hts := atoms_spec (ws := wsX4_setLength) B.pre
  have hown : s.vm.findClass RX4 = some m.cls := findClass_of_methodNamed B.named
  have hlocks := B.notSynchronized
  subst hsz
  have hD := hD0.self (sz := s.heap.size)
  generalize hAe : va_A (wM C b σ ρ) s.heap.size = A at hD ⊢
  have hA : ∀ q : Nat, s.heap.size ≤ q → A q := fun q h => by rw [← hAe]; exact Or.inr h
  have hS : va_S A s.heap s.heap [] := va_S.rf
  have hP : va_P G vwCl (wM C b σ ρ) s.heap := hP
  have hl := lv_entry ([.ref (b 0), .int x]) (n := 4) (Nat.le_of_ble_eq_true rfl)
  rw [lg_entry_eq]
  generalize (lg_sl ([.ref (b 0), .int x]) ++ List.replicate (4 - (lg_sl ([.ref (b 0), .int x])).length) Slot.unset).toArray = ls at hl ⊢
  have hl : lv_has ls 4 [(0, .ref (b 0)), (1, .int x)] := hl
  refine lv_iload_n hx hb dX4_setLength_0 rfl (lv_at hl 1 rfl) ?_
  refine lv_i2l (v := x.toInt64) hx hb dX4_setLength_1 rfl ?_
  refine lv_ldc2 (v := 10000) hx hb hown (hts (.constantLong RX4 112 (10000)) (by decide +kernel)) dX4_setLength_2 ?_
  refine lv_ldc2 (v := 400000) hx hb hown (hts (.constantLong RX4 114 (400000)) (by decide +kernel)) dX4_setLength_5 ?_
  refine rd_callS (As := [.long x.toInt64, .long 10000, .long 400000]) (rest := []) ⟨hx, hb, hml, hown, hts⟩ (m_within_f l G C b σ ρ (w_f (lo := 10000) (hi := 400000) rfl rfl hh)) (va_cwS 3 hts gX4_setLength_X4_within rfl rfl rfl (by decide +kernel) ⟨Nat.le_of_ble_eq_true rfl, Nat.le_of_ble_eq_true rfl⟩) hK hN hP rfl hl.1 rfl (Nat.le_of_ble_eq_true rfl) dX4_setLength_8 ⟨Nat.zero_le _, Nat.zero_le _⟩ ?_
  refine ic_if_ne (tgt := 18) hx hb dX4_setLength_11 (by decide) (fun c_1 => ?_) (fun c_1 => ?_)
  · skip
    exact absurd c_1 (by decide)
  · skip
    refine lv_ldc2 (v := (-9000000000000000003)) hx hb hown (hts (.constantLong RX4 45 (-9000000000000000003)) (by decide +kernel)) dX4_setLength_14 ?_
    refine wr_lret hx hb hr hlocks hAe hP hD hS ?_ dX4_setLength_17
    exact ⟨congrArg (fun z => some (Value.long z)) rfl, ρ, congrArg (fun z => wM C b z ρ) rfl⟩

theorem m_setL (l : Launch) (G : va_G) (C : Nat → ClassId) (b : Nat → Nat) (σ : SG) (ρ : KM) (x : Int32) : WrC l yX4_setLength wsX4_setLength ({ frames := 1, cells := 0, slots := 0, locals := 25 } : Room) G (tysC C) (wM C b σ ρ) [.ref (b 0), .int x] (pM C b (aSetL σ x) (nSetL σ x)) := by
  by_cases h : ¬ x < 10000 ∧ ¬ 400000 < x
  · rw [show aSetL σ x = g_len σ from if_pos h, show nSetL σ x = u_len σ x.toInt64 from if_pos h]
    exact m_setL_t l G C b σ ρ h
  · rw [show aSetL σ x = OOR from if_neg h, show nSetL σ x = σ from if_neg h]
    exact m_setL_f l G C b σ ρ h

set_option maxHeartbeats 4000000 in
set_option maxRecDepth 100000 in
theorem m_setM_t (l : Launch) (G : va_G) (C : Nat → ClassId) (b : Nat → Nat) (σ : SG) (ρ : KM) {x : Int32} (hh : ¬ x < 0 ∧ ¬ 100 < x) : WrC l yX4_setMargin wsX4_setMargin ({ frames := 1, cells := 0, slots := 0, locals := 25 } : Room) G (tysC C) (wM C b σ ρ) [.ref (b 0), .int x] (pM C b (g_mar σ) (u_mar σ x.toInt64)) := by
  intro sz
  refine Met.ofW (cc := cX4_setMargin) (maxL := 4) (ret := (some .long)) (by decide) rfl ?_
  intro p e s m args below meth c s₁ B hml hv
  obtain ⟨rfl, hsz, hP, hK, hN, hD0⟩ := hv
  have hx := B.exec
  have hb := B.bytes
  have hr := B.returns
  have hts := atoms_spec (ws := wsX4_setMargin) B.pre
  have hown : s.vm.findClass RX4 = some m.cls := findClass_of_methodNamed B.named
  have hlocks := B.notSynchronized
  have hX4 : ∀ w ∈ wsX40, w ∈ wsX4_setMargin := by decide +kernel
  subst hsz
  have hD := hD0.self (sz := s.heap.size)
  generalize hAe : va_A (wM C b σ ρ) s.heap.size = A at hD ⊢
  have hA : ∀ q : Nat, s.heap.size ≤ q → A q := fun q h => by rw [← hAe]; exact Or.inr h
  have hS : va_S A s.heap s.heap [] := va_S.rf
  have hP : va_P G vwCl (wM C b σ ρ) s.heap := hP
  have hl := lv_entry ([.ref (b 0), .int x]) (n := 4) (Nat.le_of_ble_eq_true rfl)
  rw [lg_entry_eq]
  generalize (lg_sl ([.ref (b 0), .int x]) ++ List.replicate (4 - (lg_sl ([.ref (b 0), .int x])).length) Slot.unset).toArray = ls at hl ⊢
  have hl : lv_has ls 4 [(0, .ref (b 0)), (1, .int x)] := hl
  refine lv_iload_n hx hb dX4_setMargin_0 rfl (lv_at hl 1 rfl) ?_
  refine lv_i2l (v := x.toInt64) hx hb dX4_setMargin_1 rfl ?_
  refine lv_lconst (v := 0) hx hb dX4_setMargin_2 (by decide) ?_
  refine lv_ldc2 (v := 100) hx hb hown (hts (.constantLong RX4 116 (100)) (by decide +kernel)) dX4_setMargin_3 ?_
  refine rd_callS (As := [.long x.toInt64, .long 0, .long 100]) (rest := []) ⟨hx, hb, hml, hown, hts⟩ (m_within_t l G C b σ ρ (w_t1 (lo := 0) rfl hh.1) (w_t2 (hi := 100) rfl hh.2)) (va_cwS 3 hts gX4_setMargin_X4_within rfl rfl rfl (by decide +kernel) ⟨Nat.le_of_ble_eq_true rfl, Nat.le_of_ble_eq_true rfl⟩) hK hN hP rfl hl.1 rfl (Nat.le_of_ble_eq_true rfl) dX4_setMargin_6 ⟨Nat.zero_le _, Nat.zero_le _⟩ ?_
  refine ic_if_ne (tgt := 16) hx hb dX4_setMargin_9 (by decide) (fun c_1 => ?_) (fun c_1 => ?_)
  · skip
    refine lv_aload_n hx hb dX4_setMargin_16 rfl (lv_at hl 0 rfl) ?_
    refine va_get (D := G) (ci := 4) (v := .long (g_mar σ)) (C := RX4) (T := TX4) (N := 13) hx hb hts hX4 hown hK hP (0) wM_e0 rfl 8 (by decide) (hts (.fieldLink RX4 118 "DraftSurveyModel" "margin" "J") (by decide +kernel)) (fun _ h9 => h9) rfl dX4_setMargin_17 ?_
    refine lv_lstore_n (lv' := [(2, .long (g_mar σ)), (0, .ref (b 0)), (1, .int x)]) hx hb dX4_setMargin_20 rfl hl (by decide) rfl (fun ls hl => ?_)
    refine lv_aload_n hx hb dX4_setMargin_21 rfl (lv_at hl 1 rfl) ?_
    refine lv_iload_n hx hb dX4_setMargin_22 rfl (lv_at hl 2 rfl) ?_
    refine lv_i2l (v := x.toInt64) hx hb dX4_setMargin_23 rfl ?_
    refine va_put (D := G) (ci := 4) (v := .long x.toInt64) (ty := .long) (C := RX4) (T := TX4) (N := 13) hx hb hts hX4 tyX4 tyX4_ok nmX4 hown hK hP hD hS (0) wM_e0 rfl 8 (by decide) (hts (.fieldLink RX4 118 "DraftSurveyModel" "margin" "J") (by decide +kernel)) (fun _ h9 => h9) rfl (by decide +kernel) rfl rfl (Nat.le_of_ble_eq_true rfl) dX4_setMargin_24 (fun H locs hP hD hS => ?_)
    have hP : va_P G vwCl (wM C b (u_mar σ x.toInt64) ρ) H := hP
    have hD : va_D A (wM C b (u_mar σ x.toInt64) ρ) := hD
    refine lv_lload_n hx hb dX4_setMargin_27 rfl (lv_at hl 0 rfl) ?_
    refine wr_lret hx hb hr hlocks hAe hP hD hS ?_ dX4_setMargin_28
    exact ⟨congrArg (fun z => some (Value.long z)) rfl, ρ, congrArg (fun z => wM C b z ρ) rfl⟩
  · skip
    exact absurd c_1 (by decide)

set_option maxHeartbeats 4000000 in
set_option maxRecDepth 100000 in
theorem m_setM_f (l : Launch) (G : va_G) (C : Nat → ClassId) (b : Nat → Nat) (σ : SG) (ρ : KM) {x : Int32} (hh : ¬ (¬ x < 0 ∧ ¬ 100 < x)) : WrC l yX4_setMargin wsX4_setMargin ({ frames := 1, cells := 0, slots := 0, locals := 25 } : Room) G (tysC C) (wM C b σ ρ) [.ref (b 0), .int x] (pM C b OOR σ) := by
  intro sz
  refine Met.ofW (cc := cX4_setMargin) (maxL := 4) (ret := (some .long)) (by decide) rfl ?_
  intro p e s m args below meth c s₁ B hml hv
  obtain ⟨rfl, hsz, hP, hK, hN, hD0⟩ := hv
  have hx := B.exec
  have hb := B.bytes
  have hr := B.returns
  have hts := atoms_spec (ws := wsX4_setMargin) B.pre
  have hown : s.vm.findClass RX4 = some m.cls := findClass_of_methodNamed B.named
  have hlocks := B.notSynchronized
  subst hsz
  have hD := hD0.self (sz := s.heap.size)
  generalize hAe : va_A (wM C b σ ρ) s.heap.size = A at hD ⊢
  have hA : ∀ q : Nat, s.heap.size ≤ q → A q := fun q h => by rw [← hAe]; exact Or.inr h
  have hS : va_S A s.heap s.heap [] := va_S.rf
  have hP : va_P G vwCl (wM C b σ ρ) s.heap := hP
  have hl := lv_entry ([.ref (b 0), .int x]) (n := 4) (Nat.le_of_ble_eq_true rfl)
  rw [lg_entry_eq]
  generalize (lg_sl ([.ref (b 0), .int x]) ++ List.replicate (4 - (lg_sl ([.ref (b 0), .int x])).length) Slot.unset).toArray = ls at hl ⊢
  have hl : lv_has ls 4 [(0, .ref (b 0)), (1, .int x)] := hl
  refine lv_iload_n hx hb dX4_setMargin_0 rfl (lv_at hl 1 rfl) ?_
  refine lv_i2l (v := x.toInt64) hx hb dX4_setMargin_1 rfl ?_
  refine lv_lconst (v := 0) hx hb dX4_setMargin_2 (by decide) ?_
  refine lv_ldc2 (v := 100) hx hb hown (hts (.constantLong RX4 116 (100)) (by decide +kernel)) dX4_setMargin_3 ?_
  refine rd_callS (As := [.long x.toInt64, .long 0, .long 100]) (rest := []) ⟨hx, hb, hml, hown, hts⟩ (m_within_f l G C b σ ρ (w_f (lo := 0) (hi := 100) rfl rfl hh)) (va_cwS 3 hts gX4_setMargin_X4_within rfl rfl rfl (by decide +kernel) ⟨Nat.le_of_ble_eq_true rfl, Nat.le_of_ble_eq_true rfl⟩) hK hN hP rfl hl.1 rfl (Nat.le_of_ble_eq_true rfl) dX4_setMargin_6 ⟨Nat.zero_le _, Nat.zero_le _⟩ ?_
  refine ic_if_ne (tgt := 16) hx hb dX4_setMargin_9 (by decide) (fun c_1 => ?_) (fun c_1 => ?_)
  · skip
    exact absurd c_1 (by decide)
  · skip
    refine lv_ldc2 (v := (-9000000000000000003)) hx hb hown (hts (.constantLong RX4 45 (-9000000000000000003)) (by decide +kernel)) dX4_setMargin_12 ?_
    refine wr_lret hx hb hr hlocks hAe hP hD hS ?_ dX4_setMargin_15
    exact ⟨congrArg (fun z => some (Value.long z)) rfl, ρ, congrArg (fun z => wM C b z ρ) rfl⟩

theorem m_setM (l : Launch) (G : va_G) (C : Nat → ClassId) (b : Nat → Nat) (σ : SG) (ρ : KM) (x : Int32) : WrC l yX4_setMargin wsX4_setMargin ({ frames := 1, cells := 0, slots := 0, locals := 25 } : Room) G (tysC C) (wM C b σ ρ) [.ref (b 0), .int x] (pM C b (aSetM σ x) (nSetM σ x)) := by
  by_cases h : ¬ x < 0 ∧ ¬ 100 < x
  · rw [show aSetM σ x = g_mar σ from if_pos h, show nSetM σ x = u_mar σ x.toInt64 from if_pos h]
    exact m_setM_t l G C b σ ρ h
  · rw [show aSetM σ x = OOR from if_neg h, show nSetM σ x = σ from if_neg h]
    exact m_setM_f l G C b σ ρ h

set_option maxHeartbeats 4000000 in
set_option maxRecDepth 100000 in
theorem m_setD_t (l : Launch) (G : va_G) (C : Nat → ClassId) (b : Nat → Nat) (σ : SG) (ρ : KM) {j : Nat} (hj : j < 4) {d : Int32} (hh : ¬ d < 950 ∧ ¬ 1050 < d) : WrC l yX4_setDensity wsX4_setDensity ({ frames := 2, cells := 0, slots := 0, locals := 45 } : Room) G (tysC C) (wM C b σ ρ) [.ref (b 0), .int (nI j), .int d] (pM C b (g_dn σ j) (u_dn σ (vp_updL (g_dn σ) j d.toInt64))) := by
  intro sz
  refine Met.ofW (cc := cX4_setDensity) (maxL := 5) (ret := (some .long)) (by decide) rfl ?_
  intro p e s m args below meth c s₁ B hml hv
  obtain ⟨rfl, hsz, hP, hK, hN, hD0⟩ := hv
  have hx := B.exec
  have hb := B.bytes
  have hr := B.returns
  have hts := atoms_spec (ws := wsX4_setDensity) B.pre
  have hown : s.vm.findClass RX4 = some m.cls := findClass_of_methodNamed B.named
  have hlocks := B.notSynchronized
  have hX4 : ∀ w ∈ wsX40, w ∈ wsX4_setDensity := by decide +kernel
  subst hsz
  have hD := hD0.self (sz := s.heap.size)
  generalize hAe : va_A (wM C b σ ρ) s.heap.size = A at hD ⊢
  have hA : ∀ q : Nat, s.heap.size ≤ q → A q := fun q h => by rw [← hAe]; exact Or.inr h
  have hS : va_S A s.heap s.heap [] := va_S.rf
  have hP : va_P G vwCl (wM C b σ ρ) s.heap := hP
  have hl := lv_entry ([.ref (b 0), .int (nI j), .int d]) (n := 5) (Nat.le_of_ble_eq_true rfl)
  rw [lg_entry_eq]
  generalize (lg_sl ([.ref (b 0), .int (nI j), .int d]) ++ List.replicate (5 - (lg_sl ([.ref (b 0), .int (nI j), .int d])).length) Slot.unset).toArray = ls at hl ⊢
  have hl : lv_has ls 5 [(0, .ref (b 0)), (1, .int (nI j)), (2, .int d)] := hl
  refine lv_iload_n hx hb dX4_setDensity_0 rfl (lv_at hl 1 rfl) ?_
  refine rd_callS (As := [.int (nI j)]) (rest := []) ⟨hx, hb, hml, hown, hts⟩ (m_isI l G C b σ ρ (j := j) hj) (va_cwS 1 hts gX4_setDensity_X4_isSurvey rfl rfl rfl (by decide +kernel) ⟨Nat.le_of_ble_eq_true rfl, Nat.le_of_ble_eq_true rfl⟩) hK hN hP rfl hl.1 rfl (Nat.le_of_ble_eq_true rfl) dX4_setDensity_1 ⟨Nat.zero_le _, Nat.zero_le _⟩ ?_
  refine ic_if_ne (tgt := 11) hx hb dX4_setDensity_4 (by decide) (fun c_1 => ?_) (fun c_1 => ?_)
  · skip
    refine lv_iload_n hx hb dX4_setDensity_11 rfl (lv_at hl 2 rfl) ?_
    refine lv_i2l (v := d.toInt64) hx hb dX4_setDensity_12 rfl ?_
    refine lv_ldc2 (v := 950) hx hb hown (hts (.constantLong RX4 129 (950)) (by decide +kernel)) dX4_setDensity_13 ?_
    refine lv_ldc2 (v := 1050) hx hb hown (hts (.constantLong RX4 131 (1050)) (by decide +kernel)) dX4_setDensity_16 ?_
    refine rd_callS (As := [.long d.toInt64, .long 950, .long 1050]) (rest := []) ⟨hx, hb, hml, hown, hts⟩ (m_within_t l G C b σ ρ (w_t1 (lo := 950) rfl hh.1) (w_t2 (hi := 1050) rfl hh.2)) (va_cwS 3 hts gX4_setDensity_X4_within rfl rfl rfl (by decide +kernel) ⟨Nat.le_of_ble_eq_true rfl, Nat.le_of_ble_eq_true rfl⟩) hK hN hP rfl hl.1 rfl (Nat.le_of_ble_eq_true rfl) dX4_setDensity_19 ⟨Nat.zero_le _, Nat.zero_le _⟩ ?_
    refine ic_if_ne (tgt := 29) hx hb dX4_setDensity_22 (by decide) (fun c_2 => ?_) (fun c_2 => ?_)
    · skip
      refine lv_aload_n hx hb dX4_setDensity_29 rfl (lv_at hl 0 rfl) ?_
      refine va_get (D := G) (ci := 4) (v := .ref (b 4)) (C := RX4) (T := TX4) (N := 13) hx hb hts hX4 hown hK hP (0) wM_e0 rfl 5 (by decide) (hts (.fieldLink RX4 20 "DraftSurveyModel" "densities" "[J") (by decide +kernel)) (fun _ h9 => h9) rfl dX4_setDensity_30 ?_
      refine lv_iload_n hx hb dX4_setDensity_33 rfl (lv_at hl 1 rfl) ?_
      refine ar_l (k := j) (v := g_dn σ j) hx hb hK hP (4) 1 wM_e4 rfl rfl (by omega) (by decide) rfl dX4_setDensity_34 ?_
      refine lv_lstore_n (lv' := [(3, .long (g_dn σ j)), (0, .ref (b 0)), (1, .int (nI j)), (2, .int d)]) hx hb dX4_setDensity_35 rfl hl (by decide) rfl (fun ls hl => ?_)
      refine lv_aload_n hx hb dX4_setDensity_36 rfl (lv_at hl 1 rfl) ?_
      refine va_get (D := G) (ci := 4) (v := .ref (b 4)) (C := RX4) (T := TX4) (N := 13) hx hb hts hX4 hown hK hP (0) wM_e0 rfl 5 (by decide) (hts (.fieldLink RX4 20 "DraftSurveyModel" "densities" "[J") (by decide +kernel)) (fun _ h9 => h9) rfl dX4_setDensity_37 ?_
      refine lv_iload_n hx hb dX4_setDensity_40 rfl (lv_at hl 2 rfl) ?_
      refine lv_iload_n hx hb dX4_setDensity_41 rfl (lv_at hl 3 rfl) ?_
      refine lv_i2l (v := d.toInt64) hx hb dX4_setDensity_42 rfl ?_
      refine as_l (k := j) hx hb hK hP hD hS (4) 1 wM_e4 rfl rfl (by omega) (by decide) dX4_setDensity_43 (fun H locs hP hD hS => ?_)
      have hP : va_P G vwCl (wM C b (u_dn σ (vp_updL (g_dn σ) j d.toInt64)) ρ) H := hP
      have hD : va_D A (wM C b (u_dn σ (vp_updL (g_dn σ) j d.toInt64)) ρ) := hD
      refine lv_lload_n hx hb dX4_setDensity_44 rfl (lv_at hl 0 rfl) ?_
      refine wr_lret hx hb hr hlocks hAe hP hD hS ?_ dX4_setDensity_45
      exact ⟨congrArg (fun z => some (Value.long z)) rfl, ρ, congrArg (fun z => wM C b z ρ) rfl⟩
    · skip
      exact absurd c_2 (by decide)
  · skip
    exact absurd c_1 (by decide)

set_option maxHeartbeats 4000000 in
set_option maxRecDepth 100000 in
theorem m_setD_f (l : Launch) (G : va_G) (C : Nat → ClassId) (b : Nat → Nat) (σ : SG) (ρ : KM) {j : Nat} (hj : j < 4) {d : Int32} (hh : ¬ (¬ d < 950 ∧ ¬ 1050 < d)) : WrC l yX4_setDensity wsX4_setDensity ({ frames := 2, cells := 0, slots := 0, locals := 45 } : Room) G (tysC C) (wM C b σ ρ) [.ref (b 0), .int (nI j), .int d] (pM C b OOR σ) := by
  intro sz
  refine Met.ofW (cc := cX4_setDensity) (maxL := 5) (ret := (some .long)) (by decide) rfl ?_
  intro p e s m args below meth c s₁ B hml hv
  obtain ⟨rfl, hsz, hP, hK, hN, hD0⟩ := hv
  have hx := B.exec
  have hb := B.bytes
  have hr := B.returns
  have hts := atoms_spec (ws := wsX4_setDensity) B.pre
  have hown : s.vm.findClass RX4 = some m.cls := findClass_of_methodNamed B.named
  have hlocks := B.notSynchronized
  subst hsz
  have hD := hD0.self (sz := s.heap.size)
  generalize hAe : va_A (wM C b σ ρ) s.heap.size = A at hD ⊢
  have hA : ∀ q : Nat, s.heap.size ≤ q → A q := fun q h => by rw [← hAe]; exact Or.inr h
  have hS : va_S A s.heap s.heap [] := va_S.rf
  have hP : va_P G vwCl (wM C b σ ρ) s.heap := hP
  have hl := lv_entry ([.ref (b 0), .int (nI j), .int d]) (n := 5) (Nat.le_of_ble_eq_true rfl)
  rw [lg_entry_eq]
  generalize (lg_sl ([.ref (b 0), .int (nI j), .int d]) ++ List.replicate (5 - (lg_sl ([.ref (b 0), .int (nI j), .int d])).length) Slot.unset).toArray = ls at hl ⊢
  have hl : lv_has ls 5 [(0, .ref (b 0)), (1, .int (nI j)), (2, .int d)] := hl
  refine lv_iload_n hx hb dX4_setDensity_0 rfl (lv_at hl 1 rfl) ?_
  refine rd_callS (As := [.int (nI j)]) (rest := []) ⟨hx, hb, hml, hown, hts⟩ (m_isI l G C b σ ρ (j := j) hj) (va_cwS 1 hts gX4_setDensity_X4_isSurvey rfl rfl rfl (by decide +kernel) ⟨Nat.le_of_ble_eq_true rfl, Nat.le_of_ble_eq_true rfl⟩) hK hN hP rfl hl.1 rfl (Nat.le_of_ble_eq_true rfl) dX4_setDensity_1 ⟨Nat.zero_le _, Nat.zero_le _⟩ ?_
  refine ic_if_ne (tgt := 11) hx hb dX4_setDensity_4 (by decide) (fun c_1 => ?_) (fun c_1 => ?_)
  · skip
    refine lv_iload_n hx hb dX4_setDensity_11 rfl (lv_at hl 2 rfl) ?_
    refine lv_i2l (v := d.toInt64) hx hb dX4_setDensity_12 rfl ?_
    refine lv_ldc2 (v := 950) hx hb hown (hts (.constantLong RX4 129 (950)) (by decide +kernel)) dX4_setDensity_13 ?_
    refine lv_ldc2 (v := 1050) hx hb hown (hts (.constantLong RX4 131 (1050)) (by decide +kernel)) dX4_setDensity_16 ?_
    refine rd_callS (As := [.long d.toInt64, .long 950, .long 1050]) (rest := []) ⟨hx, hb, hml, hown, hts⟩ (m_within_f l G C b σ ρ (w_f (lo := 950) (hi := 1050) rfl rfl hh)) (va_cwS 3 hts gX4_setDensity_X4_within rfl rfl rfl (by decide +kernel) ⟨Nat.le_of_ble_eq_true rfl, Nat.le_of_ble_eq_true rfl⟩) hK hN hP rfl hl.1 rfl (Nat.le_of_ble_eq_true rfl) dX4_setDensity_19 ⟨Nat.zero_le _, Nat.zero_le _⟩ ?_
    refine ic_if_ne (tgt := 29) hx hb dX4_setDensity_22 (by decide) (fun c_2 => ?_) (fun c_2 => ?_)
    · skip
      exact absurd c_2 (by decide)
    · skip
      refine lv_ldc2 (v := (-9000000000000000003)) hx hb hown (hts (.constantLong RX4 45 (-9000000000000000003)) (by decide +kernel)) dX4_setDensity_25 ?_
      refine wr_lret hx hb hr hlocks hAe hP hD hS ?_ dX4_setDensity_28
      exact ⟨congrArg (fun z => some (Value.long z)) rfl, ρ, congrArg (fun z => wM C b z ρ) rfl⟩
  · skip
    exact absurd c_1 (by decide)

set_option maxHeartbeats 4000000 in
set_option maxRecDepth 100000 in
theorem m_setD_o (l : Launch) (G : va_G) (C : Nat → ClassId) (b : Nat → Nat) (σ : SG) (ρ : KM) {x : Int32} (hx_ : ¬ inS x 4) (d : Int32) : WrC l yX4_setDensity wsX4_setDensity ({ frames := 2, cells := 0, slots := 0, locals := 45 } : Room) G (tysC C) (wM C b σ ρ) [.ref (b 0), .int x, .int d] (pM C b NO_S σ) := by
  intro sz
  refine Met.ofW (cc := cX4_setDensity) (maxL := 5) (ret := (some .long)) (by decide) rfl ?_
  intro p e s m args below meth c s₁ B hml hv
  obtain ⟨rfl, hsz, hP, hK, hN, hD0⟩ := hv
  have hx := B.exec
  have hb := B.bytes
  have hr := B.returns
  have hts := atoms_spec (ws := wsX4_setDensity) B.pre
  have hown : s.vm.findClass RX4 = some m.cls := findClass_of_methodNamed B.named
  have hlocks := B.notSynchronized
  subst hsz
  have hD := hD0.self (sz := s.heap.size)
  generalize hAe : va_A (wM C b σ ρ) s.heap.size = A at hD ⊢
  have hA : ∀ q : Nat, s.heap.size ≤ q → A q := fun q h => by rw [← hAe]; exact Or.inr h
  have hS : va_S A s.heap s.heap [] := va_S.rf
  have hP : va_P G vwCl (wM C b σ ρ) s.heap := hP
  have hl := lv_entry ([.ref (b 0), .int x, .int d]) (n := 5) (Nat.le_of_ble_eq_true rfl)
  rw [lg_entry_eq]
  generalize (lg_sl ([.ref (b 0), .int x, .int d]) ++ List.replicate (5 - (lg_sl ([.ref (b 0), .int x, .int d])).length) Slot.unset).toArray = ls at hl ⊢
  have hl : lv_has ls 5 [(0, .ref (b 0)), (1, .int x), (2, .int d)] := hl
  refine lv_iload_n hx hb dX4_setDensity_0 rfl (lv_at hl 1 rfl) ?_
  refine rd_callS (As := [.int x]) (rest := []) ⟨hx, hb, hml, hown, hts⟩ (m_isO l G C b σ ρ hx_) (va_cwS 1 hts gX4_setDensity_X4_isSurvey rfl rfl rfl (by decide +kernel) ⟨Nat.le_of_ble_eq_true rfl, Nat.le_of_ble_eq_true rfl⟩) hK hN hP rfl hl.1 rfl (Nat.le_of_ble_eq_true rfl) dX4_setDensity_1 ⟨Nat.zero_le _, Nat.zero_le _⟩ ?_
  refine ic_if_ne (tgt := 11) hx hb dX4_setDensity_4 (by decide) (fun c_1 => ?_) (fun c_1 => ?_)
  · skip
    exact absurd c_1 (by decide)
  · skip
    refine lv_ldc2 (v := (-9000000000000000001)) hx hb hown (hts (.constantLong RX4 125 (-9000000000000000001)) (by decide +kernel)) dX4_setDensity_7 ?_
    refine wr_lret hx hb hr hlocks hAe hP hD hS ?_ dX4_setDensity_10
    exact ⟨congrArg (fun z => some (Value.long z)) rfl, ρ, congrArg (fun z => wM C b z ρ) rfl⟩

theorem m_setD_i (l : Launch) (G : va_G) (C : Nat → ClassId) (b : Nat → Nat) (σ : SG) (ρ : KM) {j : Nat} (hj : j < 4) (d : Int32) : WrC l yX4_setDensity wsX4_setDensity ({ frames := 2, cells := 0, slots := 0, locals := 45 } : Room) G (tysC C) (wM C b σ ρ) [.ref (b 0), .int (nI j), .int d] (pM C b (if ¬ d < 950 ∧ ¬ 1050 < d then g_dn σ j else OOR) (if ¬ d < 950 ∧ ¬ 1050 < d then u_dn σ (vp_updL (g_dn σ) j d.toInt64) else σ)) := by
  by_cases q : ¬ d < 950 ∧ ¬ 1050 < d
  · rw [if_pos q, if_pos q]; exact m_setD_t l G C b σ ρ hj q
  · rw [if_neg q, if_neg q]; exact m_setD_f l G C b σ ρ hj q

theorem m_setD (l : Launch) (G : va_G) (C : Nat → ClassId) (b : Nat → Nat) (σ : SG) (ρ : KM) (x d : Int32) : WrC l yX4_setDensity wsX4_setDensity ({ frames := 2, cells := 0, slots := 0, locals := 45 } : Room) G (tysC C) (wM C b σ ρ) [.ref (b 0), .int x, .int d] (pM C b (aSetD σ x d) (nSetD σ x d)) := by
  by_cases g : inS x 4
  · obtain ⟨j, hj, rfl⟩ := inS_nI g
    rw [show aSetD σ (nI j) d = (if ¬ d < 950 ∧ ¬ 1050 < d then g_dn σ j else OOR) from by unfold aSetD; rw [if_pos g, cl4 hj],
      show nSetD σ (nI j) d = (if ¬ d < 950 ∧ ¬ 1050 < d then u_dn σ (vp_updL (g_dn σ) j d.toInt64) else σ) from by
        unfold nSetD
        rw [cl4 hj]
        by_cases q : ¬ d < 950 ∧ ¬ 1050 < d
        · rw [if_pos q, if_pos ⟨g, q.1, q.2⟩]
        · rw [if_neg q, if_neg (fun z => q z.2)]]
    exact m_setD_i l G C b σ ρ hj d
  · rw [show aSetD σ x d = NO_S from if_neg g, show nSetD σ x d = σ from if_neg (fun z => g z.1)]
    exact m_setD_o l G C b σ ρ g d

set_option maxHeartbeats 4000000 in
set_option maxRecDepth 100000 in
theorem m_setR_t (l : Launch) (G : va_G) (C : Nat → ClassId) (b : Nat → Nat) (σ : SG) (ρ : KM) {j : Nat} (hj : j < 4) {m_ : Nat} (hm : m_ < 6) {d : Int32} (hh : ¬ d < 0 ∧ ¬ 30000 < d) : WrC l yX4_setReading wsX4_setReading ({ frames := 2, cells := 0, slots := 0, locals := 45 } : Room) G (tysC C) (wM C b σ ρ) [.ref (b 0), .int (nI j), .int (nI m_), .int d] (pM C b (g_rd σ (6 * j + m_)) (u_rd σ (vp_updL (g_rd σ) (6 * j + m_) d.toInt64))) := by
  intro sz
  refine Met.ofW (cc := cX4_setReading) (maxL := 6) (ret := (some .long)) (by decide) rfl ?_
  intro p e s m args below meth c s₁ B hml hv
  obtain ⟨rfl, hsz, hP, hK, hN, hD0⟩ := hv
  have hx := B.exec
  have hb := B.bytes
  have hr := B.returns
  have hts := atoms_spec (ws := wsX4_setReading) B.pre
  have hown : s.vm.findClass RX4 = some m.cls := findClass_of_methodNamed B.named
  have hlocks := B.notSynchronized
  have hX4 : ∀ w ∈ wsX40, w ∈ wsX4_setReading := by decide +kernel
  subst hsz
  have hD := hD0.self (sz := s.heap.size)
  generalize hAe : va_A (wM C b σ ρ) s.heap.size = A at hD ⊢
  have hA : ∀ q : Nat, s.heap.size ≤ q → A q := fun q h => by rw [← hAe]; exact Or.inr h
  have hS : va_S A s.heap s.heap [] := va_S.rf
  have hP : va_P G vwCl (wM C b σ ρ) s.heap := hP
  have hl := lv_entry ([.ref (b 0), .int (nI j), .int (nI m_), .int d]) (n := 6) (Nat.le_of_ble_eq_true rfl)
  rw [lg_entry_eq]
  generalize (lg_sl ([.ref (b 0), .int (nI j), .int (nI m_), .int d]) ++ List.replicate (6 - (lg_sl ([.ref (b 0), .int (nI j), .int (nI m_), .int d])).length) Slot.unset).toArray = ls at hl ⊢
  have hl : lv_has ls 6 [(0, .ref (b 0)), (1, .int (nI j)), (2, .int (nI m_)), (3, .int d)] := hl
  refine lv_iload_n hx hb dX4_setReading_0 rfl (lv_at hl 1 rfl) ?_
  refine rd_callS (As := [.int (nI j)]) (rest := []) ⟨hx, hb, hml, hown, hts⟩ (m_isI l G C b σ ρ (j := j) hj) (va_cwS 1 hts gX4_setReading_X4_isSurvey rfl rfl rfl (by decide +kernel) ⟨Nat.le_of_ble_eq_true rfl, Nat.le_of_ble_eq_true rfl⟩) hK hN hP rfl hl.1 rfl (Nat.le_of_ble_eq_true rfl) dX4_setReading_1 ⟨Nat.zero_le _, Nat.zero_le _⟩ ?_
  refine ic_if_ne (tgt := 11) hx hb dX4_setReading_4 (by decide) (fun c_1 => ?_) (fun c_1 => ?_)
  · skip
    refine lv_iload_n hx hb dX4_setReading_11 rfl (lv_at hl 2 rfl) ?_
    refine lv_i2l (v := lN m_) hx hb dX4_setReading_12 (nI_l (by omega)) ?_
    refine lv_lconst (v := 0) hx hb dX4_setReading_13 (by decide) ?_
    refine lv_ldc2 (v := 5) hx hb hown (hts (.constantLong RX4 127 (5)) (by decide +kernel)) dX4_setReading_14 ?_
    refine rd_callS (As := [.long (lN m_), .long 0, .long 5]) (rest := []) ⟨hx, hb, hml, hown, hts⟩ (m_within_t l G C b σ ρ (lj_0 (by omega)) (lj_h (j := m_) (m := 5) (by omega) (by decide))) (va_cwS 3 hts gX4_setReading_X4_within rfl rfl rfl (by decide +kernel) ⟨Nat.le_of_ble_eq_true rfl, Nat.le_of_ble_eq_true rfl⟩) hK hN hP rfl hl.1 rfl (Nat.le_of_ble_eq_true rfl) dX4_setReading_17 ⟨Nat.zero_le _, Nat.zero_le _⟩ ?_
    refine ic_if_ne (tgt := 27) hx hb dX4_setReading_20 (by decide) (fun c_2 => ?_) (fun c_2 => ?_)
    · skip
      refine lv_iload_n hx hb dX4_setReading_27 rfl (lv_at hl 3 rfl) ?_
      refine lv_i2l (v := d.toInt64) hx hb dX4_setReading_28 rfl ?_
      refine lv_lconst (v := 0) hx hb dX4_setReading_29 (by decide) ?_
      refine lv_ldc2 (v := 30000) hx hb hown (hts (.constantLong RX4 53 (30000)) (by decide +kernel)) dX4_setReading_30 ?_
      refine rd_callS (As := [.long d.toInt64, .long 0, .long 30000]) (rest := []) ⟨hx, hb, hml, hown, hts⟩ (m_within_t l G C b σ ρ (w_t1 (lo := 0) rfl hh.1) (w_t2 (hi := 30000) rfl hh.2)) (va_cwS 3 hts gX4_setReading_X4_within rfl rfl rfl (by decide +kernel) ⟨Nat.le_of_ble_eq_true rfl, Nat.le_of_ble_eq_true rfl⟩) hK hN hP rfl hl.1 rfl (Nat.le_of_ble_eq_true rfl) dX4_setReading_33 ⟨Nat.zero_le _, Nat.zero_le _⟩ ?_
      refine ic_if_ne (tgt := 43) hx hb dX4_setReading_36 (by decide) (fun c_3 => ?_) (fun c_3 => ?_)
      · skip
        refine lv_aload_n hx hb dX4_setReading_43 rfl (lv_at hl 0 rfl) ?_
        refine va_get (D := G) (ci := 4) (v := .ref (b 3)) (C := RX4) (T := TX4) (N := 13) hx hb hts hX4 hown hK hP (0) wM_e0 rfl 4 (by decide) (hts (.fieldLink RX4 17 "DraftSurveyModel" "readings" "[J") (by decide +kernel)) (fun _ h9 => h9) rfl dX4_setReading_44 ?_
        refine lv_bipush (v := 6) hx hb dX4_setReading_47 (by decide) ?_
        refine lv_iload_n hx hb dX4_setReading_49 rfl (lv_at hl 1 rfl) ?_
        refine lv_imul hx hb dX4_setReading_50 ?_
        refine tp_i (v := nI (6 * j)) (pk_mul 6 j) ?_
        refine lv_iload_n hx hb dX4_setReading_51 rfl (lv_at hl 2 rfl) ?_
        refine lv_iadd hx hb dX4_setReading_52 ?_
        refine tp_i (v := nI ((6 * j) + m_)) (nI_add (6 * j) m_) ?_
        refine ar_l (k := ((6 * j) + m_)) (v := g_rd σ ((6 * j) + m_)) hx hb hK hP (3) 1 wM_e3 rfl rfl (by omega) (by decide) rfl dX4_setReading_53 ?_
        refine lv_lstore (lv' := [(4, .long (g_rd σ ((6 * j) + m_))), (0, .ref (b 0)), (1, .int (nI j)), (2, .int (nI m_)), (3, .int d)]) hx hb dX4_setReading_54 hl (by decide) rfl (fun ls hl => ?_)
        refine lv_aload_n hx hb dX4_setReading_56 rfl (lv_at hl 1 rfl) ?_
        refine va_get (D := G) (ci := 4) (v := .ref (b 3)) (C := RX4) (T := TX4) (N := 13) hx hb hts hX4 hown hK hP (0) wM_e0 rfl 4 (by decide) (hts (.fieldLink RX4 17 "DraftSurveyModel" "readings" "[J") (by decide +kernel)) (fun _ h9 => h9) rfl dX4_setReading_57 ?_
        refine lv_bipush (v := 6) hx hb dX4_setReading_60 (by decide) ?_
        refine lv_iload_n hx hb dX4_setReading_62 rfl (lv_at hl 2 rfl) ?_
        refine lv_imul hx hb dX4_setReading_63 ?_
        refine tp_i (v := nI (6 * j)) (pk_mul 6 j) ?_
        refine lv_iload_n hx hb dX4_setReading_64 rfl (lv_at hl 3 rfl) ?_
        refine lv_iadd hx hb dX4_setReading_65 ?_
        refine tp_i (v := nI ((6 * j) + m_)) (nI_add (6 * j) m_) ?_
        refine lv_iload_n hx hb dX4_setReading_66 rfl (lv_at hl 4 rfl) ?_
        refine lv_i2l (v := d.toInt64) hx hb dX4_setReading_67 rfl ?_
        refine as_l (k := ((6 * j) + m_)) hx hb hK hP hD hS (3) 1 wM_e3 rfl rfl (by omega) (by decide) dX4_setReading_68 (fun H locs hP hD hS => ?_)
        have hP : va_P G vwCl (wM C b (u_rd σ (vp_updL (g_rd σ) ((6 * j) + m_) d.toInt64)) ρ) H := hP
        have hD : va_D A (wM C b (u_rd σ (vp_updL (g_rd σ) ((6 * j) + m_) d.toInt64)) ρ) := hD
        refine lv_lload hx hb dX4_setReading_69 (lv_at hl 0 rfl) ?_
        refine wr_lret hx hb hr hlocks hAe hP hD hS ?_ dX4_setReading_71
        exact ⟨congrArg (fun z => some (Value.long z)) rfl, ρ, congrArg (fun z => wM C b z ρ) rfl⟩
      · skip
        exact absurd c_3 (by decide)
    · skip
      exact absurd c_2 (by decide)
  · skip
    exact absurd c_1 (by decide)

set_option maxHeartbeats 4000000 in
set_option maxRecDepth 100000 in
theorem m_setR_f (l : Launch) (G : va_G) (C : Nat → ClassId) (b : Nat → Nat) (σ : SG) (ρ : KM) {j : Nat} (hj : j < 4) {m_ : Nat} (hm : m_ < 6) {d : Int32} (hh : ¬ (¬ d < 0 ∧ ¬ 30000 < d)) : WrC l yX4_setReading wsX4_setReading ({ frames := 2, cells := 0, slots := 0, locals := 45 } : Room) G (tysC C) (wM C b σ ρ) [.ref (b 0), .int (nI j), .int (nI m_), .int d] (pM C b OOR σ) := by
  intro sz
  refine Met.ofW (cc := cX4_setReading) (maxL := 6) (ret := (some .long)) (by decide) rfl ?_
  intro p e s m args below meth c s₁ B hml hv
  obtain ⟨rfl, hsz, hP, hK, hN, hD0⟩ := hv
  have hx := B.exec
  have hb := B.bytes
  have hr := B.returns
  have hts := atoms_spec (ws := wsX4_setReading) B.pre
  have hown : s.vm.findClass RX4 = some m.cls := findClass_of_methodNamed B.named
  have hlocks := B.notSynchronized
  subst hsz
  have hD := hD0.self (sz := s.heap.size)
  generalize hAe : va_A (wM C b σ ρ) s.heap.size = A at hD ⊢
  have hA : ∀ q : Nat, s.heap.size ≤ q → A q := fun q h => by rw [← hAe]; exact Or.inr h
  have hS : va_S A s.heap s.heap [] := va_S.rf
  have hP : va_P G vwCl (wM C b σ ρ) s.heap := hP
  have hl := lv_entry ([.ref (b 0), .int (nI j), .int (nI m_), .int d]) (n := 6) (Nat.le_of_ble_eq_true rfl)
  rw [lg_entry_eq]
  generalize (lg_sl ([.ref (b 0), .int (nI j), .int (nI m_), .int d]) ++ List.replicate (6 - (lg_sl ([.ref (b 0), .int (nI j), .int (nI m_), .int d])).length) Slot.unset).toArray = ls at hl ⊢
  have hl : lv_has ls 6 [(0, .ref (b 0)), (1, .int (nI j)), (2, .int (nI m_)), (3, .int d)] := hl
  refine lv_iload_n hx hb dX4_setReading_0 rfl (lv_at hl 1 rfl) ?_
  refine rd_callS (As := [.int (nI j)]) (rest := []) ⟨hx, hb, hml, hown, hts⟩ (m_isI l G C b σ ρ (j := j) hj) (va_cwS 1 hts gX4_setReading_X4_isSurvey rfl rfl rfl (by decide +kernel) ⟨Nat.le_of_ble_eq_true rfl, Nat.le_of_ble_eq_true rfl⟩) hK hN hP rfl hl.1 rfl (Nat.le_of_ble_eq_true rfl) dX4_setReading_1 ⟨Nat.zero_le _, Nat.zero_le _⟩ ?_
  refine ic_if_ne (tgt := 11) hx hb dX4_setReading_4 (by decide) (fun c_1 => ?_) (fun c_1 => ?_)
  · skip
    refine lv_iload_n hx hb dX4_setReading_11 rfl (lv_at hl 2 rfl) ?_
    refine lv_i2l (v := lN m_) hx hb dX4_setReading_12 (nI_l (by omega)) ?_
    refine lv_lconst (v := 0) hx hb dX4_setReading_13 (by decide) ?_
    refine lv_ldc2 (v := 5) hx hb hown (hts (.constantLong RX4 127 (5)) (by decide +kernel)) dX4_setReading_14 ?_
    refine rd_callS (As := [.long (lN m_), .long 0, .long 5]) (rest := []) ⟨hx, hb, hml, hown, hts⟩ (m_within_t l G C b σ ρ (lj_0 (by omega)) (lj_h (j := m_) (m := 5) (by omega) (by decide))) (va_cwS 3 hts gX4_setReading_X4_within rfl rfl rfl (by decide +kernel) ⟨Nat.le_of_ble_eq_true rfl, Nat.le_of_ble_eq_true rfl⟩) hK hN hP rfl hl.1 rfl (Nat.le_of_ble_eq_true rfl) dX4_setReading_17 ⟨Nat.zero_le _, Nat.zero_le _⟩ ?_
    refine ic_if_ne (tgt := 27) hx hb dX4_setReading_20 (by decide) (fun c_2 => ?_) (fun c_2 => ?_)
    · skip
      refine lv_iload_n hx hb dX4_setReading_27 rfl (lv_at hl 3 rfl) ?_
      refine lv_i2l (v := d.toInt64) hx hb dX4_setReading_28 rfl ?_
      refine lv_lconst (v := 0) hx hb dX4_setReading_29 (by decide) ?_
      refine lv_ldc2 (v := 30000) hx hb hown (hts (.constantLong RX4 53 (30000)) (by decide +kernel)) dX4_setReading_30 ?_
      refine rd_callS (As := [.long d.toInt64, .long 0, .long 30000]) (rest := []) ⟨hx, hb, hml, hown, hts⟩ (m_within_f l G C b σ ρ (w_f (lo := 0) (hi := 30000) rfl rfl hh)) (va_cwS 3 hts gX4_setReading_X4_within rfl rfl rfl (by decide +kernel) ⟨Nat.le_of_ble_eq_true rfl, Nat.le_of_ble_eq_true rfl⟩) hK hN hP rfl hl.1 rfl (Nat.le_of_ble_eq_true rfl) dX4_setReading_33 ⟨Nat.zero_le _, Nat.zero_le _⟩ ?_
      refine ic_if_ne (tgt := 43) hx hb dX4_setReading_36 (by decide) (fun c_3 => ?_) (fun c_3 => ?_)
      · skip
        exact absurd c_3 (by decide)
      · skip
        refine lv_ldc2 (v := (-9000000000000000003)) hx hb hown (hts (.constantLong RX4 45 (-9000000000000000003)) (by decide +kernel)) dX4_setReading_39 ?_
        refine wr_lret hx hb hr hlocks hAe hP hD hS ?_ dX4_setReading_42
        exact ⟨congrArg (fun z => some (Value.long z)) rfl, ρ, congrArg (fun z => wM C b z ρ) rfl⟩
    · skip
      exact absurd c_2 (by decide)
  · skip
    exact absurd c_1 (by decide)

set_option maxHeartbeats 4000000 in
set_option maxRecDepth 100000 in
theorem m_setR_k (l : Launch) (G : va_G) (C : Nat → ClassId) (b : Nat → Nat) (σ : SG) (ρ : KM) {j : Nat} (hj : j < 4) {y : Int32} (hy_ : ¬ inS y 6) (d : Int32) : WrC l yX4_setReading wsX4_setReading ({ frames := 2, cells := 0, slots := 0, locals := 45 } : Room) G (tysC C) (wM C b σ ρ) [.ref (b 0), .int (nI j), .int y, .int d] (pM C b NO_I σ) := by
  intro sz
  refine Met.ofW (cc := cX4_setReading) (maxL := 6) (ret := (some .long)) (by decide) rfl ?_
  intro p e s m args below meth c s₁ B hml hv
  obtain ⟨rfl, hsz, hP, hK, hN, hD0⟩ := hv
  have hx := B.exec
  have hb := B.bytes
  have hr := B.returns
  have hts := atoms_spec (ws := wsX4_setReading) B.pre
  have hown : s.vm.findClass RX4 = some m.cls := findClass_of_methodNamed B.named
  have hlocks := B.notSynchronized
  subst hsz
  have hD := hD0.self (sz := s.heap.size)
  generalize hAe : va_A (wM C b σ ρ) s.heap.size = A at hD ⊢
  have hA : ∀ q : Nat, s.heap.size ≤ q → A q := fun q h => by rw [← hAe]; exact Or.inr h
  have hS : va_S A s.heap s.heap [] := va_S.rf
  have hP : va_P G vwCl (wM C b σ ρ) s.heap := hP
  have hl := lv_entry ([.ref (b 0), .int (nI j), .int y, .int d]) (n := 6) (Nat.le_of_ble_eq_true rfl)
  rw [lg_entry_eq]
  generalize (lg_sl ([.ref (b 0), .int (nI j), .int y, .int d]) ++ List.replicate (6 - (lg_sl ([.ref (b 0), .int (nI j), .int y, .int d])).length) Slot.unset).toArray = ls at hl ⊢
  have hl : lv_has ls 6 [(0, .ref (b 0)), (1, .int (nI j)), (2, .int y), (3, .int d)] := hl
  refine lv_iload_n hx hb dX4_setReading_0 rfl (lv_at hl 1 rfl) ?_
  refine rd_callS (As := [.int (nI j)]) (rest := []) ⟨hx, hb, hml, hown, hts⟩ (m_isI l G C b σ ρ (j := j) hj) (va_cwS 1 hts gX4_setReading_X4_isSurvey rfl rfl rfl (by decide +kernel) ⟨Nat.le_of_ble_eq_true rfl, Nat.le_of_ble_eq_true rfl⟩) hK hN hP rfl hl.1 rfl (Nat.le_of_ble_eq_true rfl) dX4_setReading_1 ⟨Nat.zero_le _, Nat.zero_le _⟩ ?_
  refine ic_if_ne (tgt := 11) hx hb dX4_setReading_4 (by decide) (fun c_1 => ?_) (fun c_1 => ?_)
  · skip
    refine lv_iload_n hx hb dX4_setReading_11 rfl (lv_at hl 2 rfl) ?_
    refine lv_i2l (v := y.toInt64) hx hb dX4_setReading_12 rfl ?_
    refine lv_lconst (v := 0) hx hb dX4_setReading_13 (by decide) ?_
    refine lv_ldc2 (v := 5) hx hb hown (hts (.constantLong RX4 127 (5)) (by decide +kernel)) dX4_setReading_14 ?_
    refine rd_callS (As := [.long y.toInt64, .long 0, .long 5]) (rest := []) ⟨hx, hb, hml, hown, hts⟩ (m_within_f l G C b σ ρ (w_f (lo := 0) (hi := 5) rfl rfl (inS_5 hy_))) (va_cwS 3 hts gX4_setReading_X4_within rfl rfl rfl (by decide +kernel) ⟨Nat.le_of_ble_eq_true rfl, Nat.le_of_ble_eq_true rfl⟩) hK hN hP rfl hl.1 rfl (Nat.le_of_ble_eq_true rfl) dX4_setReading_17 ⟨Nat.zero_le _, Nat.zero_le _⟩ ?_
    refine ic_if_ne (tgt := 27) hx hb dX4_setReading_20 (by decide) (fun c_2 => ?_) (fun c_2 => ?_)
    · skip
      exact absurd c_2 (by decide)
    · skip
      refine lv_ldc2 (v := (-9000000000000000002)) hx hb hown (hts (.constantLong RX4 94 (-9000000000000000002)) (by decide +kernel)) dX4_setReading_23 ?_
      refine wr_lret hx hb hr hlocks hAe hP hD hS ?_ dX4_setReading_26
      exact ⟨congrArg (fun z => some (Value.long z)) rfl, ρ, congrArg (fun z => wM C b z ρ) rfl⟩
  · skip
    exact absurd c_1 (by decide)

set_option maxHeartbeats 4000000 in
set_option maxRecDepth 100000 in
theorem m_setR_o (l : Launch) (G : va_G) (C : Nat → ClassId) (b : Nat → Nat) (σ : SG) (ρ : KM) {x : Int32} (hx_ : ¬ inS x 4) (y d : Int32) : WrC l yX4_setReading wsX4_setReading ({ frames := 2, cells := 0, slots := 0, locals := 45 } : Room) G (tysC C) (wM C b σ ρ) [.ref (b 0), .int x, .int y, .int d] (pM C b NO_S σ) := by
  intro sz
  refine Met.ofW (cc := cX4_setReading) (maxL := 6) (ret := (some .long)) (by decide) rfl ?_
  intro p e s m args below meth c s₁ B hml hv
  obtain ⟨rfl, hsz, hP, hK, hN, hD0⟩ := hv
  have hx := B.exec
  have hb := B.bytes
  have hr := B.returns
  have hts := atoms_spec (ws := wsX4_setReading) B.pre
  have hown : s.vm.findClass RX4 = some m.cls := findClass_of_methodNamed B.named
  have hlocks := B.notSynchronized
  subst hsz
  have hD := hD0.self (sz := s.heap.size)
  generalize hAe : va_A (wM C b σ ρ) s.heap.size = A at hD ⊢
  have hA : ∀ q : Nat, s.heap.size ≤ q → A q := fun q h => by rw [← hAe]; exact Or.inr h
  have hS : va_S A s.heap s.heap [] := va_S.rf
  have hP : va_P G vwCl (wM C b σ ρ) s.heap := hP
  have hl := lv_entry ([.ref (b 0), .int x, .int y, .int d]) (n := 6) (Nat.le_of_ble_eq_true rfl)
  rw [lg_entry_eq]
  generalize (lg_sl ([.ref (b 0), .int x, .int y, .int d]) ++ List.replicate (6 - (lg_sl ([.ref (b 0), .int x, .int y, .int d])).length) Slot.unset).toArray = ls at hl ⊢
  have hl : lv_has ls 6 [(0, .ref (b 0)), (1, .int x), (2, .int y), (3, .int d)] := hl
  refine lv_iload_n hx hb dX4_setReading_0 rfl (lv_at hl 1 rfl) ?_
  refine rd_callS (As := [.int x]) (rest := []) ⟨hx, hb, hml, hown, hts⟩ (m_isO l G C b σ ρ hx_) (va_cwS 1 hts gX4_setReading_X4_isSurvey rfl rfl rfl (by decide +kernel) ⟨Nat.le_of_ble_eq_true rfl, Nat.le_of_ble_eq_true rfl⟩) hK hN hP rfl hl.1 rfl (Nat.le_of_ble_eq_true rfl) dX4_setReading_1 ⟨Nat.zero_le _, Nat.zero_le _⟩ ?_
  refine ic_if_ne (tgt := 11) hx hb dX4_setReading_4 (by decide) (fun c_1 => ?_) (fun c_1 => ?_)
  · skip
    exact absurd c_1 (by decide)
  · skip
    refine lv_ldc2 (v := (-9000000000000000001)) hx hb hown (hts (.constantLong RX4 125 (-9000000000000000001)) (by decide +kernel)) dX4_setReading_7 ?_
    refine wr_lret hx hb hr hlocks hAe hP hD hS ?_ dX4_setReading_10
    exact ⟨congrArg (fun z => some (Value.long z)) rfl, ρ, congrArg (fun z => wM C b z ρ) rfl⟩

theorem m_setR_i (l : Launch) (G : va_G) (C : Nat → ClassId) (b : Nat → Nat) (σ : SG) (ρ : KM) {j : Nat} (hj : j < 4) {m_ : Nat} (hm : m_ < 6) (d : Int32) : WrC l yX4_setReading wsX4_setReading ({ frames := 2, cells := 0, slots := 0, locals := 45 } : Room) G (tysC C) (wM C b σ ρ) [.ref (b 0), .int (nI j), .int (nI m_), .int d] (pM C b (if ¬ d < 0 ∧ ¬ 30000 < d then g_rd σ (6 * j + m_) else OOR) (if ¬ d < 0 ∧ ¬ 30000 < d then u_rd σ (vp_updL (g_rd σ) (6 * j + m_) d.toInt64) else σ)) := by
  by_cases q : ¬ d < 0 ∧ ¬ 30000 < d
  · rw [if_pos q, if_pos q]; exact m_setR_t l G C b σ ρ hj hm q
  · rw [if_neg q, if_neg q]; exact m_setR_f l G C b σ ρ hj hm q

theorem m_setR (l : Launch) (G : va_G) (C : Nat → ClassId) (b : Nat → Nat) (σ : SG) (ρ : KM) (x y d : Int32) : WrC l yX4_setReading wsX4_setReading ({ frames := 2, cells := 0, slots := 0, locals := 45 } : Room) G (tysC C) (wM C b σ ρ) [.ref (b 0), .int x, .int y, .int d] (pM C b (aSetR σ x y d) (nSetR σ x y d)) := by
  by_cases g : inS x 4
  · obtain ⟨j, hj, rfl⟩ := inS_nI g
    by_cases k : inS y 6
    · obtain ⟨m_, hm, rfl⟩ := inS_nI6 k
      rw [show aSetR σ (nI j) (nI m_) d = (if ¬ d < 0 ∧ ¬ 30000 < d then g_rd σ (6 * j + m_) else OOR) from by unfold aSetR; rw [if_pos g, if_pos k, cl4 hj, cl6 hm],
        show nSetR σ (nI j) (nI m_) d = (if ¬ d < 0 ∧ ¬ 30000 < d then u_rd σ (vp_updL (g_rd σ) (6 * j + m_) d.toInt64) else σ) from by
          unfold nSetR
          rw [cl4 hj, cl6 hm]
          by_cases q : ¬ d < 0 ∧ ¬ 30000 < d
          · rw [if_pos q, if_pos ⟨g, k, q.1, q.2⟩]
          · rw [if_neg q, if_neg (fun z => q z.2.2)]]
      exact m_setR_i l G C b σ ρ hj hm d
    · rw [show aSetR σ (nI j) y d = NO_I from by unfold aSetR; rw [if_pos g, if_neg k], show nSetR σ (nI j) y d = σ from if_neg (fun z => k z.2.1)]
      exact m_setR_k l G C b σ ρ hj k d
  · rw [show aSetR σ x y d = NO_S from if_neg g, show nSetR σ x y d = σ from if_neg (fun z => g z.1)]
    exact m_setR_o l G C b σ ρ g y d

set_option maxHeartbeats 4000000 in
set_option maxRecDepth 100000 in
theorem m_setW_t (l : Launch) (G : va_G) (C : Nat → ClassId) (b : Nat → Nat) (σ : SG) (ρ : KM) {j : Nat} (hj : j < 4) {m_ : Nat} (hm : m_ < 4) {d : Int32} (hh : ¬ d < 0 ∧ ¬ 9999999 < d) : WrC l yX4_setDeduction wsX4_setDeduction ({ frames := 2, cells := 0, slots := 0, locals := 45 } : Room) G (tysC C) (wM C b σ ρ) [.ref (b 0), .int (nI j), .int (nI m_), .int d] (pM C b (g_dd σ (4 * j + m_)) (u_dd σ (vp_updL (g_dd σ) (4 * j + m_) d.toInt64))) := by
  intro sz
  refine Met.ofW (cc := cX4_setDeduction) (maxL := 6) (ret := (some .long)) (by decide) rfl ?_
  intro p e s m args below meth c s₁ B hml hv
  obtain ⟨rfl, hsz, hP, hK, hN, hD0⟩ := hv
  have hx := B.exec
  have hb := B.bytes
  have hr := B.returns
  have hts := atoms_spec (ws := wsX4_setDeduction) B.pre
  have hown : s.vm.findClass RX4 = some m.cls := findClass_of_methodNamed B.named
  have hlocks := B.notSynchronized
  have hX4 : ∀ w ∈ wsX40, w ∈ wsX4_setDeduction := by decide +kernel
  subst hsz
  have hD := hD0.self (sz := s.heap.size)
  generalize hAe : va_A (wM C b σ ρ) s.heap.size = A at hD ⊢
  have hA : ∀ q : Nat, s.heap.size ≤ q → A q := fun q h => by rw [← hAe]; exact Or.inr h
  have hS : va_S A s.heap s.heap [] := va_S.rf
  have hP : va_P G vwCl (wM C b σ ρ) s.heap := hP
  have hl := lv_entry ([.ref (b 0), .int (nI j), .int (nI m_), .int d]) (n := 6) (Nat.le_of_ble_eq_true rfl)
  rw [lg_entry_eq]
  generalize (lg_sl ([.ref (b 0), .int (nI j), .int (nI m_), .int d]) ++ List.replicate (6 - (lg_sl ([.ref (b 0), .int (nI j), .int (nI m_), .int d])).length) Slot.unset).toArray = ls at hl ⊢
  have hl : lv_has ls 6 [(0, .ref (b 0)), (1, .int (nI j)), (2, .int (nI m_)), (3, .int d)] := hl
  refine lv_iload_n hx hb dX4_setDeduction_0 rfl (lv_at hl 1 rfl) ?_
  refine rd_callS (As := [.int (nI j)]) (rest := []) ⟨hx, hb, hml, hown, hts⟩ (m_isI l G C b σ ρ (j := j) hj) (va_cwS 1 hts gX4_setDeduction_X4_isSurvey rfl rfl rfl (by decide +kernel) ⟨Nat.le_of_ble_eq_true rfl, Nat.le_of_ble_eq_true rfl⟩) hK hN hP rfl hl.1 rfl (Nat.le_of_ble_eq_true rfl) dX4_setDeduction_1 ⟨Nat.zero_le _, Nat.zero_le _⟩ ?_
  refine ic_if_ne (tgt := 11) hx hb dX4_setDeduction_4 (by decide) (fun c_1 => ?_) (fun c_1 => ?_)
  · skip
    refine lv_iload_n hx hb dX4_setDeduction_11 rfl (lv_at hl 2 rfl) ?_
    refine lv_i2l (v := lN m_) hx hb dX4_setDeduction_12 (nI_l (by omega)) ?_
    refine lv_lconst (v := 0) hx hb dX4_setDeduction_13 (by decide) ?_
    refine lv_ldc2 (v := 3) hx hb hown (hts (.constantLong RX4 100 (3)) (by decide +kernel)) dX4_setDeduction_14 ?_
    refine rd_callS (As := [.long (lN m_), .long 0, .long 3]) (rest := []) ⟨hx, hb, hml, hown, hts⟩ (m_within_t l G C b σ ρ (lj_0 (by omega)) (lj_h (j := m_) (m := 3) (by omega) (by decide))) (va_cwS 3 hts gX4_setDeduction_X4_within rfl rfl rfl (by decide +kernel) ⟨Nat.le_of_ble_eq_true rfl, Nat.le_of_ble_eq_true rfl⟩) hK hN hP rfl hl.1 rfl (Nat.le_of_ble_eq_true rfl) dX4_setDeduction_17 ⟨Nat.zero_le _, Nat.zero_le _⟩ ?_
    refine ic_if_ne (tgt := 27) hx hb dX4_setDeduction_20 (by decide) (fun c_2 => ?_) (fun c_2 => ?_)
    · skip
      refine lv_iload_n hx hb dX4_setDeduction_27 rfl (lv_at hl 3 rfl) ?_
      refine lv_i2l (v := d.toInt64) hx hb dX4_setDeduction_28 rfl ?_
      refine lv_lconst (v := 0) hx hb dX4_setDeduction_29 (by decide) ?_
      refine lv_ldc2 (v := 9999999) hx hb hown (hts (.constantLong RX4 55 (9999999)) (by decide +kernel)) dX4_setDeduction_30 ?_
      refine rd_callS (As := [.long d.toInt64, .long 0, .long 9999999]) (rest := []) ⟨hx, hb, hml, hown, hts⟩ (m_within_t l G C b σ ρ (w_t1 (lo := 0) rfl hh.1) (w_t2 (hi := 9999999) rfl hh.2)) (va_cwS 3 hts gX4_setDeduction_X4_within rfl rfl rfl (by decide +kernel) ⟨Nat.le_of_ble_eq_true rfl, Nat.le_of_ble_eq_true rfl⟩) hK hN hP rfl hl.1 rfl (Nat.le_of_ble_eq_true rfl) dX4_setDeduction_33 ⟨Nat.zero_le _, Nat.zero_le _⟩ ?_
      refine ic_if_ne (tgt := 43) hx hb dX4_setDeduction_36 (by decide) (fun c_3 => ?_) (fun c_3 => ?_)
      · skip
        refine lv_aload_n hx hb dX4_setDeduction_43 rfl (lv_at hl 0 rfl) ?_
        refine va_get (D := G) (ci := 4) (v := .ref (b 5)) (C := RX4) (T := TX4) (N := 13) hx hb hts hX4 hown hK hP (0) wM_e0 rfl 6 (by decide) (hts (.fieldLink RX4 23 "DraftSurveyModel" "deductions" "[J") (by decide +kernel)) (fun _ h9 => h9) rfl dX4_setDeduction_44 ?_
        refine lv_iconst (v := 4) hx hb dX4_setDeduction_47 (by decide) ?_
        refine lv_iload_n hx hb dX4_setDeduction_48 rfl (lv_at hl 1 rfl) ?_
        refine lv_imul hx hb dX4_setDeduction_49 ?_
        refine tp_i (v := nI (4 * j)) (pk_mul 4 j) ?_
        refine lv_iload_n hx hb dX4_setDeduction_50 rfl (lv_at hl 2 rfl) ?_
        refine lv_iadd hx hb dX4_setDeduction_51 ?_
        refine tp_i (v := nI ((4 * j) + m_)) (nI_add (4 * j) m_) ?_
        refine ar_l (k := ((4 * j) + m_)) (v := g_dd σ ((4 * j) + m_)) hx hb hK hP (5) 1 wM_e5 rfl rfl (by omega) (by decide) rfl dX4_setDeduction_52 ?_
        refine lv_lstore (lv' := [(4, .long (g_dd σ ((4 * j) + m_))), (0, .ref (b 0)), (1, .int (nI j)), (2, .int (nI m_)), (3, .int d)]) hx hb dX4_setDeduction_53 hl (by decide) rfl (fun ls hl => ?_)
        refine lv_aload_n hx hb dX4_setDeduction_55 rfl (lv_at hl 1 rfl) ?_
        refine va_get (D := G) (ci := 4) (v := .ref (b 5)) (C := RX4) (T := TX4) (N := 13) hx hb hts hX4 hown hK hP (0) wM_e0 rfl 6 (by decide) (hts (.fieldLink RX4 23 "DraftSurveyModel" "deductions" "[J") (by decide +kernel)) (fun _ h9 => h9) rfl dX4_setDeduction_56 ?_
        refine lv_iconst (v := 4) hx hb dX4_setDeduction_59 (by decide) ?_
        refine lv_iload_n hx hb dX4_setDeduction_60 rfl (lv_at hl 2 rfl) ?_
        refine lv_imul hx hb dX4_setDeduction_61 ?_
        refine tp_i (v := nI (4 * j)) (pk_mul 4 j) ?_
        refine lv_iload_n hx hb dX4_setDeduction_62 rfl (lv_at hl 3 rfl) ?_
        refine lv_iadd hx hb dX4_setDeduction_63 ?_
        refine tp_i (v := nI ((4 * j) + m_)) (nI_add (4 * j) m_) ?_
        refine lv_iload_n hx hb dX4_setDeduction_64 rfl (lv_at hl 4 rfl) ?_
        refine lv_i2l (v := d.toInt64) hx hb dX4_setDeduction_65 rfl ?_
        refine as_l (k := ((4 * j) + m_)) hx hb hK hP hD hS (5) 1 wM_e5 rfl rfl (by omega) (by decide) dX4_setDeduction_66 (fun H locs hP hD hS => ?_)
        have hP : va_P G vwCl (wM C b (u_dd σ (vp_updL (g_dd σ) ((4 * j) + m_) d.toInt64)) ρ) H := hP
        have hD : va_D A (wM C b (u_dd σ (vp_updL (g_dd σ) ((4 * j) + m_) d.toInt64)) ρ) := hD
        refine lv_lload hx hb dX4_setDeduction_67 (lv_at hl 0 rfl) ?_
        refine wr_lret hx hb hr hlocks hAe hP hD hS ?_ dX4_setDeduction_69
        exact ⟨congrArg (fun z => some (Value.long z)) rfl, ρ, congrArg (fun z => wM C b z ρ) rfl⟩
      · skip
        exact absurd c_3 (by decide)
    · skip
      exact absurd c_2 (by decide)
  · skip
    exact absurd c_1 (by decide)

set_option maxHeartbeats 4000000 in
set_option maxRecDepth 100000 in
theorem m_setW_f (l : Launch) (G : va_G) (C : Nat → ClassId) (b : Nat → Nat) (σ : SG) (ρ : KM) {j : Nat} (hj : j < 4) {m_ : Nat} (hm : m_ < 4) {d : Int32} (hh : ¬ (¬ d < 0 ∧ ¬ 9999999 < d)) : WrC l yX4_setDeduction wsX4_setDeduction ({ frames := 2, cells := 0, slots := 0, locals := 45 } : Room) G (tysC C) (wM C b σ ρ) [.ref (b 0), .int (nI j), .int (nI m_), .int d] (pM C b OOR σ) := by
  intro sz
  refine Met.ofW (cc := cX4_setDeduction) (maxL := 6) (ret := (some .long)) (by decide) rfl ?_
  intro p e s m args below meth c s₁ B hml hv
  obtain ⟨rfl, hsz, hP, hK, hN, hD0⟩ := hv
  have hx := B.exec
  have hb := B.bytes
  have hr := B.returns
  have hts := atoms_spec (ws := wsX4_setDeduction) B.pre
  have hown : s.vm.findClass RX4 = some m.cls := findClass_of_methodNamed B.named
  have hlocks := B.notSynchronized
  subst hsz
  have hD := hD0.self (sz := s.heap.size)
  generalize hAe : va_A (wM C b σ ρ) s.heap.size = A at hD ⊢
  have hA : ∀ q : Nat, s.heap.size ≤ q → A q := fun q h => by rw [← hAe]; exact Or.inr h
  have hS : va_S A s.heap s.heap [] := va_S.rf
  have hP : va_P G vwCl (wM C b σ ρ) s.heap := hP
  have hl := lv_entry ([.ref (b 0), .int (nI j), .int (nI m_), .int d]) (n := 6) (Nat.le_of_ble_eq_true rfl)
  rw [lg_entry_eq]
  generalize (lg_sl ([.ref (b 0), .int (nI j), .int (nI m_), .int d]) ++ List.replicate (6 - (lg_sl ([.ref (b 0), .int (nI j), .int (nI m_), .int d])).length) Slot.unset).toArray = ls at hl ⊢
  have hl : lv_has ls 6 [(0, .ref (b 0)), (1, .int (nI j)), (2, .int (nI m_)), (3, .int d)] := hl
  refine lv_iload_n hx hb dX4_setDeduction_0 rfl (lv_at hl 1 rfl) ?_
  refine rd_callS (As := [.int (nI j)]) (rest := []) ⟨hx, hb, hml, hown, hts⟩ (m_isI l G C b σ ρ (j := j) hj) (va_cwS 1 hts gX4_setDeduction_X4_isSurvey rfl rfl rfl (by decide +kernel) ⟨Nat.le_of_ble_eq_true rfl, Nat.le_of_ble_eq_true rfl⟩) hK hN hP rfl hl.1 rfl (Nat.le_of_ble_eq_true rfl) dX4_setDeduction_1 ⟨Nat.zero_le _, Nat.zero_le _⟩ ?_
  refine ic_if_ne (tgt := 11) hx hb dX4_setDeduction_4 (by decide) (fun c_1 => ?_) (fun c_1 => ?_)
  · skip
    refine lv_iload_n hx hb dX4_setDeduction_11 rfl (lv_at hl 2 rfl) ?_
    refine lv_i2l (v := lN m_) hx hb dX4_setDeduction_12 (nI_l (by omega)) ?_
    refine lv_lconst (v := 0) hx hb dX4_setDeduction_13 (by decide) ?_
    refine lv_ldc2 (v := 3) hx hb hown (hts (.constantLong RX4 100 (3)) (by decide +kernel)) dX4_setDeduction_14 ?_
    refine rd_callS (As := [.long (lN m_), .long 0, .long 3]) (rest := []) ⟨hx, hb, hml, hown, hts⟩ (m_within_t l G C b σ ρ (lj_0 (by omega)) (lj_h (j := m_) (m := 3) (by omega) (by decide))) (va_cwS 3 hts gX4_setDeduction_X4_within rfl rfl rfl (by decide +kernel) ⟨Nat.le_of_ble_eq_true rfl, Nat.le_of_ble_eq_true rfl⟩) hK hN hP rfl hl.1 rfl (Nat.le_of_ble_eq_true rfl) dX4_setDeduction_17 ⟨Nat.zero_le _, Nat.zero_le _⟩ ?_
    refine ic_if_ne (tgt := 27) hx hb dX4_setDeduction_20 (by decide) (fun c_2 => ?_) (fun c_2 => ?_)
    · skip
      refine lv_iload_n hx hb dX4_setDeduction_27 rfl (lv_at hl 3 rfl) ?_
      refine lv_i2l (v := d.toInt64) hx hb dX4_setDeduction_28 rfl ?_
      refine lv_lconst (v := 0) hx hb dX4_setDeduction_29 (by decide) ?_
      refine lv_ldc2 (v := 9999999) hx hb hown (hts (.constantLong RX4 55 (9999999)) (by decide +kernel)) dX4_setDeduction_30 ?_
      refine rd_callS (As := [.long d.toInt64, .long 0, .long 9999999]) (rest := []) ⟨hx, hb, hml, hown, hts⟩ (m_within_f l G C b σ ρ (w_f (lo := 0) (hi := 9999999) rfl rfl hh)) (va_cwS 3 hts gX4_setDeduction_X4_within rfl rfl rfl (by decide +kernel) ⟨Nat.le_of_ble_eq_true rfl, Nat.le_of_ble_eq_true rfl⟩) hK hN hP rfl hl.1 rfl (Nat.le_of_ble_eq_true rfl) dX4_setDeduction_33 ⟨Nat.zero_le _, Nat.zero_le _⟩ ?_
      refine ic_if_ne (tgt := 43) hx hb dX4_setDeduction_36 (by decide) (fun c_3 => ?_) (fun c_3 => ?_)
      · skip
        exact absurd c_3 (by decide)
      · skip
        refine lv_ldc2 (v := (-9000000000000000003)) hx hb hown (hts (.constantLong RX4 45 (-9000000000000000003)) (by decide +kernel)) dX4_setDeduction_39 ?_
        refine wr_lret hx hb hr hlocks hAe hP hD hS ?_ dX4_setDeduction_42
        exact ⟨congrArg (fun z => some (Value.long z)) rfl, ρ, congrArg (fun z => wM C b z ρ) rfl⟩
    · skip
      exact absurd c_2 (by decide)
  · skip
    exact absurd c_1 (by decide)

set_option maxHeartbeats 4000000 in
set_option maxRecDepth 100000 in
theorem m_setW_k (l : Launch) (G : va_G) (C : Nat → ClassId) (b : Nat → Nat) (σ : SG) (ρ : KM) {j : Nat} (hj : j < 4) {y : Int32} (hy_ : ¬ inS y 4) (d : Int32) : WrC l yX4_setDeduction wsX4_setDeduction ({ frames := 2, cells := 0, slots := 0, locals := 45 } : Room) G (tysC C) (wM C b σ ρ) [.ref (b 0), .int (nI j), .int y, .int d] (pM C b NO_I σ) := by
  intro sz
  refine Met.ofW (cc := cX4_setDeduction) (maxL := 6) (ret := (some .long)) (by decide) rfl ?_
  intro p e s m args below meth c s₁ B hml hv
  obtain ⟨rfl, hsz, hP, hK, hN, hD0⟩ := hv
  have hx := B.exec
  have hb := B.bytes
  have hr := B.returns
  have hts := atoms_spec (ws := wsX4_setDeduction) B.pre
  have hown : s.vm.findClass RX4 = some m.cls := findClass_of_methodNamed B.named
  have hlocks := B.notSynchronized
  subst hsz
  have hD := hD0.self (sz := s.heap.size)
  generalize hAe : va_A (wM C b σ ρ) s.heap.size = A at hD ⊢
  have hA : ∀ q : Nat, s.heap.size ≤ q → A q := fun q h => by rw [← hAe]; exact Or.inr h
  have hS : va_S A s.heap s.heap [] := va_S.rf
  have hP : va_P G vwCl (wM C b σ ρ) s.heap := hP
  have hl := lv_entry ([.ref (b 0), .int (nI j), .int y, .int d]) (n := 6) (Nat.le_of_ble_eq_true rfl)
  rw [lg_entry_eq]
  generalize (lg_sl ([.ref (b 0), .int (nI j), .int y, .int d]) ++ List.replicate (6 - (lg_sl ([.ref (b 0), .int (nI j), .int y, .int d])).length) Slot.unset).toArray = ls at hl ⊢
  have hl : lv_has ls 6 [(0, .ref (b 0)), (1, .int (nI j)), (2, .int y), (3, .int d)] := hl
  refine lv_iload_n hx hb dX4_setDeduction_0 rfl (lv_at hl 1 rfl) ?_
  refine rd_callS (As := [.int (nI j)]) (rest := []) ⟨hx, hb, hml, hown, hts⟩ (m_isI l G C b σ ρ (j := j) hj) (va_cwS 1 hts gX4_setDeduction_X4_isSurvey rfl rfl rfl (by decide +kernel) ⟨Nat.le_of_ble_eq_true rfl, Nat.le_of_ble_eq_true rfl⟩) hK hN hP rfl hl.1 rfl (Nat.le_of_ble_eq_true rfl) dX4_setDeduction_1 ⟨Nat.zero_le _, Nat.zero_le _⟩ ?_
  refine ic_if_ne (tgt := 11) hx hb dX4_setDeduction_4 (by decide) (fun c_1 => ?_) (fun c_1 => ?_)
  · skip
    refine lv_iload_n hx hb dX4_setDeduction_11 rfl (lv_at hl 2 rfl) ?_
    refine lv_i2l (v := y.toInt64) hx hb dX4_setDeduction_12 rfl ?_
    refine lv_lconst (v := 0) hx hb dX4_setDeduction_13 (by decide) ?_
    refine lv_ldc2 (v := 3) hx hb hown (hts (.constantLong RX4 100 (3)) (by decide +kernel)) dX4_setDeduction_14 ?_
    refine rd_callS (As := [.long y.toInt64, .long 0, .long 3]) (rest := []) ⟨hx, hb, hml, hown, hts⟩ (m_within_f l G C b σ ρ (w_f (lo := 0) (hi := 3) rfl rfl (inS_3 hy_))) (va_cwS 3 hts gX4_setDeduction_X4_within rfl rfl rfl (by decide +kernel) ⟨Nat.le_of_ble_eq_true rfl, Nat.le_of_ble_eq_true rfl⟩) hK hN hP rfl hl.1 rfl (Nat.le_of_ble_eq_true rfl) dX4_setDeduction_17 ⟨Nat.zero_le _, Nat.zero_le _⟩ ?_
    refine ic_if_ne (tgt := 27) hx hb dX4_setDeduction_20 (by decide) (fun c_2 => ?_) (fun c_2 => ?_)
    · skip
      exact absurd c_2 (by decide)
    · skip
      refine lv_ldc2 (v := (-9000000000000000002)) hx hb hown (hts (.constantLong RX4 94 (-9000000000000000002)) (by decide +kernel)) dX4_setDeduction_23 ?_
      refine wr_lret hx hb hr hlocks hAe hP hD hS ?_ dX4_setDeduction_26
      exact ⟨congrArg (fun z => some (Value.long z)) rfl, ρ, congrArg (fun z => wM C b z ρ) rfl⟩
  · skip
    exact absurd c_1 (by decide)

set_option maxHeartbeats 4000000 in
set_option maxRecDepth 100000 in
theorem m_setW_o (l : Launch) (G : va_G) (C : Nat → ClassId) (b : Nat → Nat) (σ : SG) (ρ : KM) {x : Int32} (hx_ : ¬ inS x 4) (y d : Int32) : WrC l yX4_setDeduction wsX4_setDeduction ({ frames := 2, cells := 0, slots := 0, locals := 45 } : Room) G (tysC C) (wM C b σ ρ) [.ref (b 0), .int x, .int y, .int d] (pM C b NO_S σ) := by
  intro sz
  refine Met.ofW (cc := cX4_setDeduction) (maxL := 6) (ret := (some .long)) (by decide) rfl ?_
  intro p e s m args below meth c s₁ B hml hv
  obtain ⟨rfl, hsz, hP, hK, hN, hD0⟩ := hv
  have hx := B.exec
  have hb := B.bytes
  have hr := B.returns
  have hts := atoms_spec (ws := wsX4_setDeduction) B.pre
  have hown : s.vm.findClass RX4 = some m.cls := findClass_of_methodNamed B.named
  have hlocks := B.notSynchronized
  subst hsz
  have hD := hD0.self (sz := s.heap.size)
  generalize hAe : va_A (wM C b σ ρ) s.heap.size = A at hD ⊢
  have hA : ∀ q : Nat, s.heap.size ≤ q → A q := fun q h => by rw [← hAe]; exact Or.inr h
  have hS : va_S A s.heap s.heap [] := va_S.rf
  have hP : va_P G vwCl (wM C b σ ρ) s.heap := hP
  have hl := lv_entry ([.ref (b 0), .int x, .int y, .int d]) (n := 6) (Nat.le_of_ble_eq_true rfl)
  rw [lg_entry_eq]
  generalize (lg_sl ([.ref (b 0), .int x, .int y, .int d]) ++ List.replicate (6 - (lg_sl ([.ref (b 0), .int x, .int y, .int d])).length) Slot.unset).toArray = ls at hl ⊢
  have hl : lv_has ls 6 [(0, .ref (b 0)), (1, .int x), (2, .int y), (3, .int d)] := hl
  refine lv_iload_n hx hb dX4_setDeduction_0 rfl (lv_at hl 1 rfl) ?_
  refine rd_callS (As := [.int x]) (rest := []) ⟨hx, hb, hml, hown, hts⟩ (m_isO l G C b σ ρ hx_) (va_cwS 1 hts gX4_setDeduction_X4_isSurvey rfl rfl rfl (by decide +kernel) ⟨Nat.le_of_ble_eq_true rfl, Nat.le_of_ble_eq_true rfl⟩) hK hN hP rfl hl.1 rfl (Nat.le_of_ble_eq_true rfl) dX4_setDeduction_1 ⟨Nat.zero_le _, Nat.zero_le _⟩ ?_
  refine ic_if_ne (tgt := 11) hx hb dX4_setDeduction_4 (by decide) (fun c_1 => ?_) (fun c_1 => ?_)
  · skip
    exact absurd c_1 (by decide)
  · skip
    refine lv_ldc2 (v := (-9000000000000000001)) hx hb hown (hts (.constantLong RX4 125 (-9000000000000000001)) (by decide +kernel)) dX4_setDeduction_7 ?_
    refine wr_lret hx hb hr hlocks hAe hP hD hS ?_ dX4_setDeduction_10
    exact ⟨congrArg (fun z => some (Value.long z)) rfl, ρ, congrArg (fun z => wM C b z ρ) rfl⟩

theorem m_setW_i (l : Launch) (G : va_G) (C : Nat → ClassId) (b : Nat → Nat) (σ : SG) (ρ : KM) {j : Nat} (hj : j < 4) {m_ : Nat} (hm : m_ < 4) (d : Int32) : WrC l yX4_setDeduction wsX4_setDeduction ({ frames := 2, cells := 0, slots := 0, locals := 45 } : Room) G (tysC C) (wM C b σ ρ) [.ref (b 0), .int (nI j), .int (nI m_), .int d] (pM C b (if ¬ d < 0 ∧ ¬ 9999999 < d then g_dd σ (4 * j + m_) else OOR) (if ¬ d < 0 ∧ ¬ 9999999 < d then u_dd σ (vp_updL (g_dd σ) (4 * j + m_) d.toInt64) else σ)) := by
  by_cases q : ¬ d < 0 ∧ ¬ 9999999 < d
  · rw [if_pos q, if_pos q]; exact m_setW_t l G C b σ ρ hj hm q
  · rw [if_neg q, if_neg q]; exact m_setW_f l G C b σ ρ hj hm q

theorem m_setW (l : Launch) (G : va_G) (C : Nat → ClassId) (b : Nat → Nat) (σ : SG) (ρ : KM) (x y d : Int32) : WrC l yX4_setDeduction wsX4_setDeduction ({ frames := 2, cells := 0, slots := 0, locals := 45 } : Room) G (tysC C) (wM C b σ ρ) [.ref (b 0), .int x, .int y, .int d] (pM C b (aSetW σ x y d) (nSetW σ x y d)) := by
  by_cases g : inS x 4
  · obtain ⟨j, hj, rfl⟩ := inS_nI g
    by_cases k : inS y 4
    · obtain ⟨m_, hm, rfl⟩ := inS_nI k
      rw [show aSetW σ (nI j) (nI m_) d = (if ¬ d < 0 ∧ ¬ 9999999 < d then g_dd σ (4 * j + m_) else OOR) from by unfold aSetW; rw [if_pos g, if_pos k, cl4 hj, cl4 hm],
        show nSetW σ (nI j) (nI m_) d = (if ¬ d < 0 ∧ ¬ 9999999 < d then u_dd σ (vp_updL (g_dd σ) (4 * j + m_) d.toInt64) else σ) from by
          unfold nSetW
          rw [cl4 hj, cl4 hm]
          by_cases q : ¬ d < 0 ∧ ¬ 9999999 < d
          · rw [if_pos q, if_pos ⟨g, k, q.1, q.2⟩]
          · rw [if_neg q, if_neg (fun z => q z.2.2)]]
      exact m_setW_i l G C b σ ρ hj hm d
    · rw [show aSetW σ (nI j) y d = NO_I from by unfold aSetW; rw [if_pos g, if_neg k], show nSetW σ (nI j) y d = σ from if_neg (fun z => k z.2.1)]
      exact m_setW_k l G C b σ ρ hj k d
  · rw [show aSetW σ x y d = NO_S from if_neg g, show nSetW σ x y d = σ from if_neg (fun z => g z.1)]
    exact m_setW_o l G C b σ ρ g y d

set_option maxHeartbeats 4000000 in
set_option maxRecDepth 100000 in
theorem m_app_t (l : Launch) (G : va_G) (C : Nat → ClassId) (b : Nat → Nat) (σ : SG) (ρ : KM) (hbl : g_bl σ ≤ 40) {c_ : Int32} (hh : ¬ c_ < 32 ∧ ¬ 126 < c_) : WrC l yX4_append wsX4_append ({ frames := 1, cells := 0, slots := 0, locals := 25 } : Room) G (tysC C) (wM C b σ ρ) [.ref (b 0), .int c_] (pM C b (if g_bl σ < 40 then lN (g_bl σ + 1) else FUL) (if g_bl σ < 40 then u_bl (u_bf σ (upd (g_bf σ) (g_bl σ) c_)) (g_bl σ + 1) else σ)) := by
  intro sz
  refine Met.ofW (cc := cX4_append) (maxL := 2) (ret := (some .long)) (by decide) rfl ?_
  intro p e s m args below meth c s₁ B hml hv
  obtain ⟨rfl, hsz, hP, hK, hN, hD0⟩ := hv
  have hx := B.exec
  have hb := B.bytes
  have hr := B.returns
  have hts := atoms_spec (ws := wsX4_append) B.pre
  have hown : s.vm.findClass RX4 = some m.cls := findClass_of_methodNamed B.named
  have hlocks := B.notSynchronized
  have hX4 : ∀ w ∈ wsX40, w ∈ wsX4_append := by decide +kernel
  subst hsz
  have hD := hD0.self (sz := s.heap.size)
  generalize hAe : va_A (wM C b σ ρ) s.heap.size = A at hD ⊢
  have hA : ∀ q : Nat, s.heap.size ≤ q → A q := fun q h => by rw [← hAe]; exact Or.inr h
  have hS : va_S A s.heap s.heap [] := va_S.rf
  have hP : va_P G vwCl (wM C b σ ρ) s.heap := hP
  have hl := lv_entry ([.ref (b 0), .int c_]) (n := 2) (Nat.le_of_ble_eq_true rfl)
  rw [lg_entry_eq]
  generalize (lg_sl ([.ref (b 0), .int c_]) ++ List.replicate (2 - (lg_sl ([.ref (b 0), .int c_])).length) Slot.unset).toArray = ls at hl ⊢
  have hl : lv_has ls 2 [(0, .ref (b 0)), (1, .int c_)] := hl
  refine lv_iload_n hx hb dX4_append_0 rfl (lv_at hl 1 rfl) ?_
  refine lv_i2l (v := c_.toInt64) hx hb dX4_append_1 rfl ?_
  refine lv_ldc2 (v := 32) hx hb hown (hts (.constantLong RX4 37 (32)) (by decide +kernel)) dX4_append_2 ?_
  refine lv_ldc2 (v := 126) hx hb hown (hts (.constantLong RX4 39 (126)) (by decide +kernel)) dX4_append_5 ?_
  refine rd_callS (As := [.long c_.toInt64, .long 32, .long 126]) (rest := []) ⟨hx, hb, hml, hown, hts⟩ (m_within_t l G C b σ ρ (w_t1 (lo := 32) rfl hh.1) (w_t2 (hi := 126) rfl hh.2)) (va_cwS 3 hts gX4_append_X4_within rfl rfl rfl (by decide +kernel) ⟨Nat.le_of_ble_eq_true rfl, Nat.le_of_ble_eq_true rfl⟩) hK hN hP rfl hl.1 rfl (Nat.le_of_ble_eq_true rfl) dX4_append_8 ⟨Nat.zero_le _, Nat.zero_le _⟩ ?_
  refine ic_if_ne (tgt := 18) hx hb dX4_append_11 (by decide) (fun c_1 => ?_) (fun c_1 => ?_)
  · skip
    refine lv_aload_n hx hb dX4_append_18 rfl (lv_at hl 0 rfl) ?_
    refine va_get (D := G) (ci := 4) (v := .int (nI (g_bl σ))) (C := RX4) (T := TX4) (N := 13) hx hb hts hX4 hown hK hP (0) wM_e0 rfl 0 (by decide) (hts (.fieldLink RX4 47 "DraftSurveyModel" "bufferLength" "I") (by decide +kernel)) (fun _ h9 => h9) rfl dX4_append_19 ?_
    refine lv_bipush (v := 40) hx hb dX4_append_22 (by decide) ?_
    refine ic_ne (tgt := 31) hx hb dX4_append_24 (by decide) (fun c_2 => ?_) (fun c_2 => ?_)
    · skip
      have c_2 : ¬ (g_bl σ) = 40 := fun z9 => c_2 ((nI_eq (a := (g_bl σ)) (b := 40) (by omega) (by omega)).mpr z9)
      refine lv_aload_n hx hb dX4_append_31 rfl (lv_at hl 0 rfl) ?_
      refine va_get (D := G) (ci := 4) (v := .ref (b 1)) (C := RX4) (T := TX4) (N := 13) hx hb hts hX4 hown hK hP (0) wM_e0 rfl 1 (by decide) (hts (.fieldLink RX4 7 "DraftSurveyModel" "buffer" "[I") (by decide +kernel)) (fun _ h9 => h9) rfl dX4_append_32 ?_
      refine lv_aload_n hx hb dX4_append_35 rfl (lv_at hl 0 rfl) ?_
      refine va_get (D := G) (ci := 4) (v := .int (nI (g_bl σ))) (C := RX4) (T := TX4) (N := 13) hx hb hts hX4 hown hK hP (0) wM_e0 rfl 0 (by decide) (hts (.fieldLink RX4 47 "DraftSurveyModel" "bufferLength" "I") (by decide +kernel)) (fun _ h9 => h9) rfl dX4_append_36 ?_
      refine lv_iload_n hx hb dX4_append_39 rfl (lv_at hl 1 rfl) ?_
      refine as_i (k := (g_bl σ)) hx hb hK hP hD hS (1) 0 wM_e1 rfl rfl (by omega) (by decide) dX4_append_40 (fun H locs hP hD hS => ?_)
      have hP : va_P G vwCl (wM C b (u_bf σ (upd (g_bf σ) (g_bl σ) c_)) ρ) H := hP
      have hD : va_D A (wM C b (u_bf σ (upd (g_bf σ) (g_bl σ) c_)) ρ) := hD
      refine lv_aload_n hx hb dX4_append_41 rfl (lv_at hl 0 rfl) ?_
      refine lv_dup hx hb dX4_append_42 rfl ?_
      refine va_get (D := G) (ci := 4) (v := .int (nI (g_bl σ))) (C := RX4) (T := TX4) (N := 13) hx hb hts hX4 hown hK hP (0) wM_e0 rfl 0 (by decide) (hts (.fieldLink RX4 47 "DraftSurveyModel" "bufferLength" "I") (by decide +kernel)) (fun _ h9 => h9) rfl dX4_append_43 ?_
      refine lv_iconst (v := 1) hx hb dX4_append_46 (by decide) ?_
      refine lv_iadd hx hb dX4_append_47 ?_
      refine tp_i (v := nI ((g_bl σ) + 1)) (nI_add (g_bl σ) 1) ?_
      refine va_put (D := G) (ci := 4) (v := .int (nI ((g_bl σ) + 1))) (ty := .int) (C := RX4) (T := TX4) (N := 13) hx hb hts hX4 tyX4 tyX4_ok nmX4 hown hK hP hD hS (0) wM_e0 rfl 0 (by decide) (hts (.fieldLink RX4 47 "DraftSurveyModel" "bufferLength" "I") (by decide +kernel)) (fun _ h9 => h9) rfl (by decide +kernel) rfl rfl (Nat.le_of_ble_eq_true rfl) dX4_append_48 (fun H locs hP hD hS => ?_)
      have hP : va_P G vwCl (wM C b (u_bl (u_bf σ (upd (g_bf σ) (g_bl σ) c_)) ((g_bl σ) + 1)) ρ) H := hP
      have hD : va_D A (wM C b (u_bl (u_bf σ (upd (g_bf σ) (g_bl σ) c_)) ((g_bl σ) + 1)) ρ) := hD
      refine lv_aload_n hx hb dX4_append_51 rfl (lv_at hl 0 rfl) ?_
      refine va_get (D := G) (ci := 4) (v := .int (nI ((g_bl σ) + 1))) (C := RX4) (T := TX4) (N := 13) hx hb hts hX4 hown hK hP (0) wM_e0 rfl 0 (by decide) (hts (.fieldLink RX4 47 "DraftSurveyModel" "bufferLength" "I") (by decide +kernel)) (fun _ h9 => h9) rfl dX4_append_52 ?_
      refine lv_i2l (v := lN ((g_bl σ) + 1)) hx hb dX4_append_55 (nI_l (by omega)) ?_
      refine wr_lret hx hb hr hlocks hAe hP hD hS ?_ dX4_append_56
      exact ⟨congrArg (fun z => some (Value.long z)) (if_pos (show g_bl σ < 40 by omega)).symm, ρ, congrArg (fun z => wM C b z ρ) (if_pos (show g_bl σ < 40 by omega)).symm⟩
    · skip
      have c_2 : (g_bl σ) = 40 := (nI_eq (a := (g_bl σ)) (b := 40) (by omega) (by omega)).mp c_2
      refine lv_ldc2 (v := (-9000000000000000006)) hx hb hown (hts (.constantLong RX4 51 (-9000000000000000006)) (by decide +kernel)) dX4_append_27 ?_
      refine wr_lret hx hb hr hlocks hAe hP hD hS ?_ dX4_append_30
      exact ⟨congrArg (fun z => some (Value.long z)) (if_neg (by omega)).symm, ρ, congrArg (fun z => wM C b z ρ) (if_neg (by omega)).symm⟩
  · skip
    exact absurd c_1 (by decide)

set_option maxHeartbeats 4000000 in
set_option maxRecDepth 100000 in
theorem m_app_f (l : Launch) (G : va_G) (C : Nat → ClassId) (b : Nat → Nat) (σ : SG) (ρ : KM) {c_ : Int32} (hh : ¬ (¬ c_ < 32 ∧ ¬ 126 < c_)) : WrC l yX4_append wsX4_append ({ frames := 1, cells := 0, slots := 0, locals := 25 } : Room) G (tysC C) (wM C b σ ρ) [.ref (b 0), .int c_] (pM C b OOR σ) := by
  intro sz
  refine Met.ofW (cc := cX4_append) (maxL := 2) (ret := (some .long)) (by decide) rfl ?_
  intro p e s m args below meth c s₁ B hml hv
  obtain ⟨rfl, hsz, hP, hK, hN, hD0⟩ := hv
  have hx := B.exec
  have hb := B.bytes
  have hr := B.returns
  have hts := atoms_spec (ws := wsX4_append) B.pre
  have hown : s.vm.findClass RX4 = some m.cls := findClass_of_methodNamed B.named
  have hlocks := B.notSynchronized
  subst hsz
  have hD := hD0.self (sz := s.heap.size)
  generalize hAe : va_A (wM C b σ ρ) s.heap.size = A at hD ⊢
  have hA : ∀ q : Nat, s.heap.size ≤ q → A q := fun q h => by rw [← hAe]; exact Or.inr h
  have hS : va_S A s.heap s.heap [] := va_S.rf
  have hP : va_P G vwCl (wM C b σ ρ) s.heap := hP
  have hl := lv_entry ([.ref (b 0), .int c_]) (n := 2) (Nat.le_of_ble_eq_true rfl)
  rw [lg_entry_eq]
  generalize (lg_sl ([.ref (b 0), .int c_]) ++ List.replicate (2 - (lg_sl ([.ref (b 0), .int c_])).length) Slot.unset).toArray = ls at hl ⊢
  have hl : lv_has ls 2 [(0, .ref (b 0)), (1, .int c_)] := hl
  refine lv_iload_n hx hb dX4_append_0 rfl (lv_at hl 1 rfl) ?_
  refine lv_i2l (v := c_.toInt64) hx hb dX4_append_1 rfl ?_
  refine lv_ldc2 (v := 32) hx hb hown (hts (.constantLong RX4 37 (32)) (by decide +kernel)) dX4_append_2 ?_
  refine lv_ldc2 (v := 126) hx hb hown (hts (.constantLong RX4 39 (126)) (by decide +kernel)) dX4_append_5 ?_
  refine rd_callS (As := [.long c_.toInt64, .long 32, .long 126]) (rest := []) ⟨hx, hb, hml, hown, hts⟩ (m_within_f l G C b σ ρ (w_f (lo := 32) (hi := 126) rfl rfl hh)) (va_cwS 3 hts gX4_append_X4_within rfl rfl rfl (by decide +kernel) ⟨Nat.le_of_ble_eq_true rfl, Nat.le_of_ble_eq_true rfl⟩) hK hN hP rfl hl.1 rfl (Nat.le_of_ble_eq_true rfl) dX4_append_8 ⟨Nat.zero_le _, Nat.zero_le _⟩ ?_
  refine ic_if_ne (tgt := 18) hx hb dX4_append_11 (by decide) (fun c_1 => ?_) (fun c_1 => ?_)
  · skip
    exact absurd c_1 (by decide)
  · skip
    refine lv_ldc2 (v := (-9000000000000000003)) hx hb hown (hts (.constantLong RX4 45 (-9000000000000000003)) (by decide +kernel)) dX4_append_14 ?_
    refine wr_lret hx hb hr hlocks hAe hP hD hS ?_ dX4_append_17
    exact ⟨congrArg (fun z => some (Value.long z)) rfl, ρ, congrArg (fun z => wM C b z ρ) rfl⟩

theorem m_append (l : Launch) (G : va_G) (C : Nat → ClassId) (b : Nat → Nat) (σ : SG) (ρ : KM) (hbl : g_bl σ ≤ 40) (c_ : Int32) : WrC l yX4_append wsX4_append ({ frames := 1, cells := 0, slots := 0, locals := 25 } : Room) G (tysC C) (wM C b σ ρ) [.ref (b 0), .int c_] (pM C b (aAppend σ c_) (nAppend σ c_)) := by
  by_cases h : ¬ c_ < 32 ∧ ¬ 126 < c_
  · rw [show aAppend σ c_ = _ from if_pos h, show nAppend σ c_ = _ from if_pos h]
    exact m_app_t l G C b σ ρ hbl h
  · rw [show aAppend σ c_ = OOR from if_neg h, show nAppend σ c_ = σ from if_neg h]
    exact m_app_f l G C b σ ρ h
