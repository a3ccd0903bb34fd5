set_option maxHeartbeats 4000000 in
set_option maxRecDepth 100000 in
theorem c_begN (l : Launch) (G : va_G) (C : Nat → ClassId) (a : Nat → Nat) (σ : SG) (κ : KX)  : WrC l yX0_beginNumber wsX0_beginNumber ({ frames := 0, cells := 0, slots := 0, locals := 0 } : Room) G (tysC C) (wX C a σ κ) [.ref (a 2)] (pE none (wX C a σ (k_nu κ, k_pl κ, 0, 0, 0))) := by
  intro sz
  refine Met.ofW (cc := cX0_beginNumber) (maxL := 1) (ret := none) (by decide) rfl ?_
  intro p e s m args below meth c s₁ B hml hv
  obtain ⟨rfl, hsz, hP, hK, hN, hD0⟩ := hv
  have hx := B.exec
  have hb := B.bytes
  have hr := B.returns
  have hts := atoms_spec (ws := wsX0_beginNumber) B.pre
  have hown : s.vm.findClass RX0 = some m.cls := findClass_of_methodNamed B.named
  have hlocks := B.notSynchronized
  have hX0 : ∀ w ∈ wsX00, w ∈ wsX0_beginNumber := by decide +kernel
  subst hsz
  have hD := hD0.self (sz := s.heap.size)
  generalize hAe : va_A (wX C a σ κ) s.heap.size = A at hD ⊢
  have hA : ∀ q : Nat, s.heap.size ≤ q → A q := fun q h => by rw [← hAe]; exact Or.inr h
  have hS : va_S A s.heap s.heap [] := va_S.rf
  have hP : va_P G vwCl (wX C a σ κ) s.heap := hP
  have hl := lv_entry ([.ref (a 2)]) (n := 1) (Nat.le_of_ble_eq_true rfl)
  rw [lg_entry_eq]
  generalize (lg_sl ([.ref (a 2)]) ++ List.replicate (1 - (lg_sl ([.ref (a 2)])).length) Slot.unset).toArray = ls at hl ⊢
  have hl : lv_has ls 1 [(0, .ref (a 2))] := hl
  refine lv_aload_n hx hb dX0_beginNumber_0 rfl (lv_at hl 0 rfl) ?_
  refine lv_iconst (v := 0) hx hb dX0_beginNumber_1 (by decide) ?_
  refine va_put (D := G) (ci := 0) (v := .int 0) (ty := .int) (C := RX0) (T := TX0) (N := 5) hx hb hts hX0 tyX0 tyX0_ok nmX0 hown hK hP hD hS (2) wX_e2 rfl 2 (by decide) (hts (.fieldLink RX0 22 "DraftSurvey$RowReader" "digits" "I") (by decide +kernel)) (fun _ h9 => h9) rfl (by decide +kernel) rfl rfl (Nat.le_of_ble_eq_true rfl) dX0_beginNumber_2 (fun H locs hP hD hS => ?_)
  have hP : va_P G vwCl (wX C a σ (v_dg κ 0)) H := hP
  have hD : va_D A (wX C a σ (v_dg κ 0)) := hD
  refine lv_aload_n hx hb dX0_beginNumber_5 rfl (lv_at hl 0 rfl) ?_
  refine lv_iconst (v := 0) hx hb dX0_beginNumber_6 (by decide) ?_
  refine va_put (D := G) (ci := 0) (v := .int 0) (ty := .boolean) (C := RX0) (T := TX0) (N := 5) hx hb hts hX0 tyX0 tyX0_ok nmX0 hown hK hP hD hS (2) wX_e2 rfl 3 (by decide) (hts (.fieldLink RX0 25 "DraftSurvey$RowReader" "negative" "Z") (by decide +kernel)) (fun _ h9 => h9) rfl (by decide +kernel) (bl_nar (Or.inl rfl)) (bl_fit (Or.inl rfl)) (Nat.le_of_ble_eq_true rfl) dX0_beginNumber_7 (fun H locs hP hD hS => ?_)
  have hP : va_P G vwCl (wX C a σ (v_ng (v_dg κ 0) 0)) H := hP
  have hD : va_D A (wX C a σ (v_ng (v_dg κ 0) 0)) := hD
  refine lv_aload_n hx hb dX0_beginNumber_10 rfl (lv_at hl 0 rfl) ?_
  refine lv_lconst (v := 0) hx hb dX0_beginNumber_11 (by decide) ?_
  refine va_put (D := G) (ci := 0) (v := .long 0) (ty := .long) (C := RX0) (T := TX0) (N := 5) hx hb hts hX0 tyX0 tyX0_ok nmX0 hown hK hP hD hS (2) wX_e2 rfl 4 (by decide) (hts (.fieldLink RX0 29 "DraftSurvey$RowReader" "magnitude" "J") (by decide +kernel)) (fun _ h9 => h9) rfl (by decide +kernel) rfl rfl (Nat.le_of_ble_eq_true rfl) dX0_beginNumber_12 (fun H locs hP hD hS => ?_)
  have hP : va_P G vwCl (wX C a σ (v_mg (v_ng (v_dg κ 0) 0) 0)) H := hP
  have hD : va_D A (wX C a σ (v_mg (v_ng (v_dg κ 0) 0) 0)) := hD
  refine wr_vret hx hb hr hlocks hAe hP hD hS ?_ dX0_beginNumber_15
  exact ⟨rfl, rfl⟩

set_option maxHeartbeats 4000000 in
set_option maxRecDepth 100000 in
theorem c_begin (l : Launch) (G : va_G) (C : Nat → ClassId) (a : Nat → Nat) (σ : SG) (κ : KX)  : WrC l yX0_begin wsX0_begin ({ frames := 1, cells := 0, slots := 0, locals := 20 } : Room) G (tysC C) (wX C a σ κ) [.ref (a 2)] (pE none (wX C a σ (eK (n0 (k_nu κ))))) := by
  intro sz
  refine Met.ofW (cc := cX0_begin) (maxL := 1) (ret := none) (by decide) rfl ?_
  intro p e s m args below meth c s₁ B hml hv
  obtain ⟨rfl, hsz, hP, hK, hN, hD0⟩ := hv
  have hx := B.exec
  have hb := B.bytes
  have hr := B.returns
  have hts := atoms_spec (ws := wsX0_begin) B.pre
  have hown : s.vm.findClass RX0 = some m.cls := findClass_of_methodNamed B.named
  have hlocks := B.notSynchronized
  have hX0 : ∀ w ∈ wsX00, w ∈ wsX0_begin := by decide +kernel
  subst hsz
  have hD := hD0.self (sz := s.heap.size)
  generalize hAe : va_A (wX C a σ κ) s.heap.size = A at hD ⊢
  have hA : ∀ q : Nat, s.heap.size ≤ q → A q := fun q h => by rw [← hAe]; exact Or.inr h
  have hS : va_S A s.heap s.heap [] := va_S.rf
  have hP : va_P G vwCl (wX C a σ κ) s.heap := hP
  have hl := lv_entry ([.ref (a 2)]) (n := 1) (Nat.le_of_ble_eq_true rfl)
  rw [lg_entry_eq]
  generalize (lg_sl ([.ref (a 2)]) ++ List.replicate (1 - (lg_sl ([.ref (a 2)])).length) Slot.unset).toArray = ls at hl ⊢
  have hl : lv_has ls 1 [(0, .ref (a 2))] := hl
  refine lv_aload_n hx hb dX0_begin_0 rfl (lv_at hl 0 rfl) ?_
  refine lv_iconst (v := 0) hx hb dX0_begin_1 (by decide) ?_
  refine va_put (D := G) (ci := 0) (v := .int 0) (ty := .int) (C := RX0) (T := TX0) (N := 5) hx hb hts hX0 tyX0 tyX0_ok nmX0 hown hK hP hD hS (2) wX_e2 rfl 1 (by decide) (hts (.fieldLink RX0 15 "DraftSurvey$RowReader" "place" "I") (by decide +kernel)) (fun _ h9 => h9) rfl (by decide +kernel) rfl rfl (Nat.le_of_ble_eq_true rfl) dX0_begin_2 (fun H locs hP hD hS => ?_)
  have hP : va_P G vwCl (wX C a σ (v_pl κ 0)) H := hP
  have hD : va_D A (wX C a σ (v_pl κ 0)) := hD
  refine lv_aload_n hx hb dX0_begin_5 rfl (lv_at hl 0 rfl) ?_
  refine wr_callV (As := []) (rest := []) ⟨hx, hb, hml, hown, hts⟩ (c_begN l G C a σ (v_pl κ 0)) (cwV 0 hts gX0_begin_X0_beginNumber rfl rfl rfl (by decide +kernel) ⟨Nat.le_of_ble_eq_true rfl, Nat.le_of_ble_eq_true rfl⟩) hK hN hP hD hS hA (2) 0 wX_e2 rfl rfl rfl hl.1 rfl (Nat.le_of_ble_eq_true rfl) dX0_begin_6 ⟨Nat.zero_le _, Nat.zero_le _⟩ (fun v_ w1 H locs hw hP hD hS => ?_)
  obtain ⟨rfl, rfl⟩ := hw
  refine W.eq (g2 := F0 m 9 ls []) rfl ?_
  refine wr_vret hx hb hr hlocks hAe hP hD hS ?_ dX0_begin_9
  exact ⟨rfl, rfl⟩

set_option maxHeartbeats 4000000 in
set_option maxRecDepth 100000 in
theorem c_comma (l : Launch) (G : va_G) (C : Nat → ClassId) (a : Nat → Nat) (σ : SG) (nu : Nat → Int64) (pn dn gn mn : Nat) (hp : pn < 5) (hd : dn ≤ 40) (hg : gn ≤ 1) (hm : mn ≤ 9999999) : WrC l yX0_takesComma wsX0_takesComma ({ frames := 1, cells := 0, slots := 0, locals := 20 } : Room) G (tysC C) (wX C a σ (eK (nu, pn, dn, gn, mn))) [.ref (a 2)] (pT C a σ (nu, pn, dn, gn, mn) (nCom (nu, pn, dn, gn, mn))) := by
  intro sz
  refine Met.ofW (cc := cX0_takesComma) (maxL := 1) (ret := (some .boolean)) (by decide) rfl ?_
  intro p e s m args below meth c s₁ B hml hv
  obtain ⟨rfl, hsz, hP, hK, hN, hD0⟩ := hv
  have hx := B.exec
  have hb := B.bytes
  have hr := B.returns
  have hts := atoms_spec (ws := wsX0_takesComma) B.pre
  have hown : s.vm.findClass RX0 = some m.cls := findClass_of_methodNamed B.named
  have hlocks := B.notSynchronized
  have hX0 : ∀ w ∈ wsX00, w ∈ wsX0_takesComma := by decide +kernel
  subst hsz
  have hD := hD0.self (sz := s.heap.size)
  generalize hAe : va_A (wX C a σ (eK (nu, pn, dn, gn, mn))) s.heap.size = A at hD ⊢
  have hA : ∀ q : Nat, s.heap.size ≤ q → A q := fun q h => by rw [← hAe]; exact Or.inr h
  have hS : va_S A s.heap s.heap [] := va_S.rf
  have hP : va_P G vwCl (wX C a σ (eK (nu, pn, dn, gn, mn))) s.heap := hP
  have hl := lv_entry ([.ref (a 2)]) (n := 1) (Nat.le_of_ble_eq_true rfl)
  rw [lg_entry_eq]
  generalize (lg_sl ([.ref (a 2)]) ++ List.replicate (1 - (lg_sl ([.ref (a 2)])).length) Slot.unset).toArray = ls at hl ⊢
  have hl : lv_has ls 1 [(0, .ref (a 2))] := hl
  refine lv_aload_n hx hb dX0_takesComma_0 rfl (lv_at hl 0 rfl) ?_
  refine va_get (D := G) (ci := 0) (v := .int (nI dn)) (C := RX0) (T := TX0) (N := 5) hx hb hts hX0 hown hK hP (2) wX_e2 rfl 2 (by decide) (hts (.fieldLink RX0 22 "DraftSurvey$RowReader" "digits" "I") (by decide +kernel)) (fun _ h9 => h9) rfl dX0_takesComma_1 ?_
  refine lv_if_eq (tgt := 15) hx hb dX0_takesComma_4 (by decide) (fun c_1 => ?_) (fun c_1 => ?_)
  · skip
    have c_1 : dn = 0 := (nI_eq (a := dn) (b := 0) (by omega) (by omega)).mp c_1
    refine lv_iconst (v := 0) hx hb dX0_takesComma_15 (by decide) ?_
    refine wr_zret hx hb hr hlocks hAe (Or.inl rfl) hP hD hS ?_ dX0_takesComma_16
    exact Or.inl ⟨if_pos (by show dn = 0 ∨ ¬ pn < 4; omega), rfl, rfl⟩
  · skip
    have c_1 : ¬ dn = 0 := fun z9 => c_1 ((nI_eq (a := dn) (b := 0) (by omega) (by omega)).mpr z9)
    refine lv_aload_n hx hb dX0_takesComma_7 rfl (lv_at hl 0 rfl) ?_
    refine va_get (D := G) (ci := 0) (v := .int (nI pn)) (C := RX0) (T := TX0) (N := 5) hx hb hts hX0 hown hK hP (2) wX_e2 rfl 1 (by decide) (hts (.fieldLink RX0 15 "DraftSurvey$RowReader" "place" "I") (by decide +kernel)) (fun _ h9 => h9) rfl dX0_takesComma_8 ?_
    refine lv_iconst (v := 4) hx hb dX0_takesComma_11 (by decide) ?_
    refine lv_icmp_lt (tgt := 17) hx hb dX0_takesComma_12 (by decide) (fun c_2 => ?_) (fun c_2 => ?_)
    · skip
      have c_2 : pn < 4 := (nI_ltI (a := pn) (b := 4) (by omega) (by omega)).mp c_2
      refine lv_aload_n hx hb dX0_takesComma_17 rfl (lv_at hl 0 rfl) ?_
      refine lv_dup hx hb dX0_takesComma_18 rfl ?_
      refine va_get (D := G) (ci := 0) (v := .int (nI pn)) (C := RX0) (T := TX0) (N := 5) hx hb hts hX0 hown hK hP (2) wX_e2 rfl 1 (by decide) (hts (.fieldLink RX0 15 "DraftSurvey$RowReader" "place" "I") (by decide +kernel)) (fun _ h9 => h9) rfl dX0_takesComma_19 ?_
      refine lv_iconst (v := 1) hx hb dX0_takesComma_22 (by decide) ?_
      refine lv_iadd hx hb dX0_takesComma_23 ?_
      refine tp_i (v := nI (pn + 1)) (nI_add pn 1) ?_
      refine va_put (D := G) (ci := 0) (v := .int (nI (pn + 1))) (ty := .int) (C := RX0) (T := TX0) (N := 5) hx hb hts hX0 tyX0 tyX0_ok nmX0 hown hK hP hD hS (2) wX_e2 rfl 1 (by decide) (hts (.fieldLink RX0 15 "DraftSurvey$RowReader" "place" "I") (by decide +kernel)) (fun _ h9 => h9) rfl (by decide +kernel) rfl rfl (Nat.le_of_ble_eq_true rfl) dX0_takesComma_24 (fun H locs hP hD hS => ?_)
      have hP : va_P G vwCl (wX C a σ (v_pl (eK (nu, pn, dn, gn, mn)) (nI (pn + 1)))) H := hP
      have hD : va_D A (wX C a σ (v_pl (eK (nu, pn, dn, gn, mn)) (nI (pn + 1)))) := hD
      refine lv_aload_n hx hb dX0_takesComma_27 rfl (lv_at hl 0 rfl) ?_
      refine wr_callV (As := []) (rest := []) ⟨hx, hb, hml, hown, hts⟩ (c_begN l G C a σ (v_pl (eK (nu, pn, dn, gn, mn)) (nI (pn + 1)))) (cwV 0 hts gX0_takesComma_X0_beginNumber rfl rfl rfl (by decide +kernel) ⟨Nat.le_of_ble_eq_true rfl, Nat.le_of_ble_eq_true rfl⟩) hK hN hP hD hS hA (2) 0 wX_e2 rfl rfl rfl hl.1 rfl (Nat.le_of_ble_eq_true rfl) dX0_takesComma_28 ⟨Nat.zero_le _, Nat.zero_le _⟩ (fun v_ w1 H locs hw hP hD hS => ?_)
      obtain ⟨rfl, rfl⟩ := hw
      refine W.eq (g2 := F0 m 31 ls []) rfl ?_
      refine lv_iconst (v := 1) hx hb dX0_takesComma_31 (by decide) ?_
      refine wr_zret hx hb hr hlocks hAe (Or.inr rfl) hP hD hS ?_ dX0_takesComma_32
      exact Or.inr ⟨(nu, pn + 1, 0, 0, 0), if_neg (by show ¬ (dn = 0 ∨ ¬ pn < 4); omega), rfl, rfl⟩
    · skip
      have c_2 : ¬ pn < 4 := fun z9 => c_2 ((nI_ltI (a := pn) (b := 4) (by omega) (by omega)).mpr z9)
      refine lv_iconst (v := 0) hx hb dX0_takesComma_15 (by decide) ?_
      refine wr_zret hx hb hr hlocks hAe (Or.inl rfl) hP hD hS ?_ dX0_takesComma_16
      exact Or.inl ⟨if_pos (by show dn = 0 ∨ ¬ pn < 4; omega), rfl, rfl⟩

set_option maxHeartbeats 4000000 in
set_option maxRecDepth 100000 in
theorem c_minus (l : Launch) (G : va_G) (C : Nat → ClassId) (a : Nat → Nat) (σ : SG) (nu : Nat → Int64) (pn dn gn mn : Nat) (hp : pn < 5) (hd : dn ≤ 40) (hg : gn ≤ 1) (hm : mn ≤ 9999999) : WrC l yX0_takesMinus wsX0_takesMinus ({ frames := 0, cells := 0, slots := 0, locals := 0 } : Room) G (tysC C) (wX C a σ (eK (nu, pn, dn, gn, mn))) [.ref (a 2)] (pT C a σ (nu, pn, dn, gn, mn) (nMin (nu, pn, dn, gn, mn))) := by
  intro sz
  refine Met.ofW (cc := cX0_takesMinus) (maxL := 1) (ret := (some .boolean)) (by decide) rfl ?_
  intro p e s m args below meth c s₁ B hml hv
  obtain ⟨rfl, hsz, hP, hK, hN, hD0⟩ := hv
  have hx := B.exec
  have hb := B.bytes
  have hr := B.returns
  have hts := atoms_spec (ws := wsX0_takesMinus) B.pre
  have hown : s.vm.findClass RX0 = some m.cls := findClass_of_methodNamed B.named
  have hlocks := B.notSynchronized
  have hX0 : ∀ w ∈ wsX00, w ∈ wsX0_takesMinus := by decide +kernel
  subst hsz
  have hD := hD0.self (sz := s.heap.size)
  generalize hAe : va_A (wX C a σ (eK (nu, pn, dn, gn, mn))) s.heap.size = A at hD ⊢
  have hA : ∀ q : Nat, s.heap.size ≤ q → A q := fun q h => by rw [← hAe]; exact Or.inr h
  have hS : va_S A s.heap s.heap [] := va_S.rf
  have hP : va_P G vwCl (wX C a σ (eK (nu, pn, dn, gn, mn))) s.heap := hP
  have hl := lv_entry ([.ref (a 2)]) (n := 1) (Nat.le_of_ble_eq_true rfl)
  rw [lg_entry_eq]
  generalize (lg_sl ([.ref (a 2)]) ++ List.replicate (1 - (lg_sl ([.ref (a 2)])).length) Slot.unset).toArray = ls at hl ⊢
  have hl : lv_has ls 1 [(0, .ref (a 2))] := hl
  refine lv_aload_n hx hb dX0_takesMinus_0 rfl (lv_at hl 0 rfl) ?_
  refine va_get (D := G) (ci := 0) (v := .int (nI pn)) (C := RX0) (T := TX0) (N := 5) hx hb hts hX0 hown hK hP (2) wX_e2 rfl 1 (by decide) (hts (.fieldLink RX0 15 "DraftSurvey$RowReader" "place" "I") (by decide +kernel)) (fun _ h9 => h9) rfl dX0_takesMinus_1 ?_
  refine lv_iconst (v := 3) hx hb dX0_takesMinus_4 (by decide) ?_
  refine ic_ne (tgt := 22) hx hb dX0_takesMinus_5 (by decide) (fun c_1 => ?_) (fun c_1 => ?_)
  · skip
    have c_1 : ¬ pn = 3 := fun z9 => c_1 ((nI_eq (a := pn) (b := 3) (by omega) (by omega)).mpr z9)
    refine lv_iconst (v := 0) hx hb dX0_takesMinus_22 (by decide) ?_
    refine wr_zret hx hb hr hlocks hAe (Or.inl rfl) hP hD hS ?_ dX0_takesMinus_23
    exact Or.inl ⟨if_pos (by show ¬ pn = 3 ∨ 0 < gn ∨ 0 < dn; omega), rfl, rfl⟩
  · skip
    have c_1 : pn = 3 := (nI_eq (a := pn) (b := 3) (by omega) (by omega)).mp c_1
    refine lv_aload_n hx hb dX0_takesMinus_8 rfl (lv_at hl 0 rfl) ?_
    refine va_get (D := G) (ci := 0) (v := .int (nI gn)) (C := RX0) (T := TX0) (N := 5) hx hb hts hX0 hown hK hP (2) wX_e2 rfl 3 (by decide) (hts (.fieldLink RX0 25 "DraftSurvey$RowReader" "negative" "Z") (by decide +kernel)) (fun _ h9 => h9) rfl dX0_takesMinus_9 ?_
    refine ic_if_ne (tgt := 22) hx hb dX0_takesMinus_12 (by decide) (fun c_2 => ?_) (fun c_2 => ?_)
    · skip
      have c_2 : ¬ gn = 0 := fun z9 => c_2 ((nI_eq (a := gn) (b := 0) (by omega) (by omega)).mpr z9)
      refine lv_iconst (v := 0) hx hb dX0_takesMinus_22 (by decide) ?_
      refine wr_zret hx hb hr hlocks hAe (Or.inl rfl) hP hD hS ?_ dX0_takesMinus_23
      exact Or.inl ⟨if_pos (by show ¬ pn = 3 ∨ 0 < gn ∨ 0 < dn; omega), rfl, rfl⟩
    · skip
      have c_2 : gn = 0 := (nI_eq (a := gn) (b := 0) (by omega) (by omega)).mp c_2
      refine lv_aload_n hx hb dX0_takesMinus_15 rfl (lv_at hl 0 rfl) ?_
      refine va_get (D := G) (ci := 0) (v := .int (nI dn)) (C := RX0) (T := TX0) (N := 5) hx hb hts hX0 hown hK hP (2) wX_e2 rfl 2 (by decide) (hts (.fieldLink RX0 22 "DraftSurvey$RowReader" "digits" "I") (by decide +kernel)) (fun _ h9 => h9) rfl dX0_takesMinus_16 ?_
      refine ic_if_le (tgt := 24) hx hb dX0_takesMinus_19 (by decide) (fun c_3 => ?_) (fun c_3 => ?_)
      · skip
        have c_3 : ¬ 0 < dn := fun z9 => c_3 ((nI_ltI (a := 0) (b := dn) (by omega) (by omega)).mpr z9)
        refine lv_aload_n hx hb dX0_takesMinus_24 rfl (lv_at hl 0 rfl) ?_
        refine lv_iconst (v := 1) hx hb dX0_takesMinus_25 (by decide) ?_
        refine va_put (D := G) (ci := 0) (v := .int 1) (ty := .boolean) (C := RX0) (T := TX0) (N := 5) hx hb hts hX0 tyX0 tyX0_ok nmX0 hown hK hP hD hS (2) wX_e2 rfl 3 (by decide) (hts (.fieldLink RX0 25 "DraftSurvey$RowReader" "negative" "Z") (by decide +kernel)) (fun _ h9 => h9) rfl (by decide +kernel) (bl_nar (Or.inr rfl)) (bl_fit (Or.inr rfl)) (Nat.le_of_ble_eq_true rfl) dX0_takesMinus_26 (fun H locs hP hD hS => ?_)
        have hP : va_P G vwCl (wX C a σ (v_ng (eK (nu, pn, dn, gn, mn)) 1)) H := hP
        have hD : va_D A (wX C a σ (v_ng (eK (nu, pn, dn, gn, mn)) 1)) := hD
        refine lv_iconst (v := 1) hx hb dX0_takesMinus_29 (by decide) ?_
        refine wr_zret hx hb hr hlocks hAe (Or.inr rfl) hP hD hS ?_ dX0_takesMinus_30
        exact Or.inr ⟨(nu, pn, dn, 1, mn), if_neg (by show ¬ (¬ pn = 3 ∨ 0 < gn ∨ 0 < dn); omega), rfl, rfl⟩
      · skip
        have c_3 : 0 < dn := (nI_ltI (a := 0) (b := dn) (by omega) (by omega)).mp c_3
        refine lv_iconst (v := 0) hx hb dX0_takesMinus_22 (by decide) ?_
        refine wr_zret hx hb hr hlocks hAe (Or.inl rfl) hP hD hS ?_ dX0_takesMinus_23
        exact Or.inl ⟨if_pos (by show ¬ pn = 3 ∨ 0 < gn ∨ 0 < dn; omega), rfl, rfl⟩

set_option maxHeartbeats 4000000 in
set_option maxRecDepth 100000 in
theorem c_digit (l : Launch) (G : va_G) (C : Nat → ClassId) (a : Nat → Nat) (σ : SG) (nu : Nat → Int64) (pn dn gn mn : Nat) (tG : Nat) (hp : pn < 5) (hd : dn ≤ 40) (hg : gn ≤ 1) (hm : mn ≤ 9999999) {dd : Nat} (hdd : dd ≤ 9) : WrG l yX0_takesDigit wsX0_takesDigit ({ frames := 0, cells := 0, slots := 0, locals := 0 } : Room) G (tysC C) tG (wX C a σ (eK (nu, pn, dn, gn, mn))) [.ref (a 2), .int (nI dd)] (pT C a σ (nu, pn, dn, gn, mn) (nDig (nu, pn, dn, gn, mn) dd)) := by
  intro sz
  refine Met.ofW (cc := cX0_takesDigit) (maxL := 6) (ret := (some .boolean)) (by decide) rfl ?_
  intro p e s m args below meth c s₁ B hml hv
  obtain ⟨rfl, ⟨hsz, hP, hK, hN, hD0⟩, hZ⟩ := hv
  have hx := B.exec
  have hb := B.bytes
  have hr := B.returns
  have hts := atoms_spec (ws := wsX0_takesDigit) B.pre
  have hown : s.vm.findClass RX0 = some m.cls := findClass_of_methodNamed B.named
  have hlocks := B.notSynchronized
  have hX0 : ∀ w ∈ wsX00, w ∈ wsX0_takesDigit := by decide +kernel
  subst hsz
  have hD := hD0.self (sz := s.heap.size)
  generalize hAe : va_A (wX C a σ (eK (nu, pn, dn, gn, mn))) s.heap.size = A at hD hZ ⊢
  have hA : ∀ q : Nat, s.heap.size ≤ q → A q := fun q h => by rw [← hAe]; exact Or.inr h
  have hS : va_S A s.heap s.heap [] := va_S.rf
  have hP : va_P G vwCl (wX C a σ (eK (nu, pn, dn, gn, mn))) s.heap := hP
  have hl := lv_entry ([.ref (a 2), .int (nI dd)]) (n := 6) (Nat.le_of_ble_eq_true rfl)
  rw [lg_entry_eq]
  generalize (lg_sl ([.ref (a 2), .int (nI dd)]) ++ List.replicate (6 - (lg_sl ([.ref (a 2), .int (nI dd)])).length) Slot.unset).toArray = ls at hl ⊢
  have hl : lv_has ls 6 [(0, .ref (a 2)), (1, .int (nI dd))] := hl
  refine lv_aload_n hx hb dX0_takesDigit_0 rfl (lv_at hl 0 rfl) ?_
  refine va_get (D := G) (ci := 0) (v := .int (nI dn)) (C := RX0) (T := TX0) (N := 5) hx hb hts hX0 hown hK hP (2) wX_e2 rfl 2 (by decide) (hts (.fieldLink RX0 22 "DraftSurvey$RowReader" "digits" "I") (by decide +kernel)) (fun _ h9 => h9) rfl dX0_takesDigit_1 ?_
  refine ic_if_le (tgt := 20) hx hb dX0_takesDigit_4 (by decide) (fun c_1 => ?_) (fun c_1 => ?_)
  · skip
    have c_1 : ¬ 0 < dn := fun z9 => c_1 ((nI_ltI (a := 0) (b := dn) (by omega) (by omega)).mpr z9)
    refine lv_iconst (v := 0) hx hb dX0_takesDigit_20 (by decide) ?_
    refine lv_istore_n (lv' := [(2, .int 0), (0, .ref (a 2)), (1, .int (nI dd))]) hx hb dX0_takesDigit_21 rfl hl (by decide) rfl (fun ls hl => ?_)
    refine lv_aload_n hx hb dX0_takesDigit_22 rfl (lv_at hl 1 rfl) ?_
    refine va_get (D := G) (ci := 0) (v := .int (nI gn)) (C := RX0) (T := TX0) (N := 5) hx hb hts hX0 hown hK hP (2) wX_e2 rfl 3 (by decide) (hts (.fieldLink RX0 25 "DraftSurvey$RowReader" "negative" "Z") (by decide +kernel)) (fun _ h9 => h9) rfl dX0_takesDigit_23 ?_
    refine lv_if_eq (tgt := 44) hx hb dX0_takesDigit_26 (by decide) (fun c_2 => ?_) (fun c_2 => ?_)
    · skip
      have c_2 : gn = 0 := (nI_eq (a := gn) (b := 0) (by omega) (by omega)).mp c_2
      refine lv_iconst (v := 0) hx hb dX0_takesDigit_44 (by decide) ?_
      refine lv_istore_n (lv' := [(3, .int 0), (2, .int 0), (0, .ref (a 2)), (1, .int (nI dd))]) hx hb dX0_takesDigit_45 rfl hl (by decide) rfl (fun ls hl => ?_)
      refine lv_iload_n hx hb dX0_takesDigit_46 rfl (lv_at hl 1 rfl) ?_
      refine ic_if_ne (tgt := 69) hx hb dX0_takesDigit_47 (by decide) (fun c_3 => ?_) (fun c_3 => ?_)
      · skip
        exact absurd c_3 (by decide)
      · skip
        refine lv_iload_n hx hb dX0_takesDigit_50 rfl (lv_at hl 0 rfl) ?_
        refine ic_if_ne (tgt := 69) hx hb dX0_takesDigit_51 (by decide) (fun c_4 => ?_) (fun c_4 => ?_)
        · skip
          exact absurd c_4 (by decide)
        · skip
          refine lv_aload_n hx hb dX0_takesDigit_54 rfl (lv_at hl 2 rfl) ?_
          refine va_get (D := G) (ci := 0) (v := .int (nI pn)) (C := RX0) (T := TX0) (N := 5) hx hb hts hX0 hown hK hP (2) wX_e2 rfl 1 (by decide) (hts (.fieldLink RX0 15 "DraftSurvey$RowReader" "place" "I") (by decide +kernel)) (fun _ h9 => h9) rfl dX0_takesDigit_55 ?_
          refine lv_if_lt (tgt := 69) hx hb dX0_takesDigit_58 (by decide) (fun c_5 => ?_) (fun c_5 => ?_)
          · skip
            have c_5 : pn < 0 := (nI_ltI (a := pn) (b := 0) (by omega) (by omega)).mp c_5
            exact (show False by omega).elim
          · skip
            have c_5 : ¬ pn < 0 := fun z9 => c_5 ((nI_ltI (a := pn) (b := 0) (by omega) (by omega)).mpr z9)
            refine lv_aload_n hx hb dX0_takesDigit_61 rfl (lv_at hl 2 rfl) ?_
            refine va_get (D := G) (ci := 0) (v := .int (nI pn)) (C := RX0) (T := TX0) (N := 5) hx hb hts hX0 hown hK hP (2) wX_e2 rfl 1 (by decide) (hts (.fieldLink RX0 15 "DraftSurvey$RowReader" "place" "I") (by decide +kernel)) (fun _ h9 => h9) rfl dX0_takesDigit_62 ?_
            refine lv_iconst (v := 5) hx hb dX0_takesDigit_65 (by decide) ?_
            refine lv_icmp_lt (tgt := 71) hx hb dX0_takesDigit_66 (by decide) (fun c_6 => ?_) (fun c_6 => ?_)
            · skip
              have c_6 : pn < 5 := (nI_ltI (a := pn) (b := 5) (by omega) (by omega)).mp c_6
              refine lv_ldc2 (v := 10) hx hb hown (hts (.constantLong RX0 44 (10)) (by decide +kernel)) dX0_takesDigit_71 ?_
              refine lv_aload_n hx hb dX0_takesDigit_74 rfl (lv_at hl 2 rfl) ?_
              refine va_get (D := G) (ci := 0) (v := .long (lN mn)) (C := RX0) (T := TX0) (N := 5) hx hb hts hX0 hown hK hP (2) wX_e2 rfl 4 (by decide) (hts (.fieldLink RX0 29 "DraftSurvey$RowReader" "magnitude" "J") (by decide +kernel)) (fun _ h9 => h9) rfl dX0_takesDigit_75 ?_
              refine lv_lmul hx hb dX0_takesDigit_78 ?_
              refine tp_l (v := lN (10 * mn)) (lN_mul 10 mn) ?_
              refine lv_iload_n hx hb dX0_takesDigit_79 rfl (lv_at hl 3 rfl) ?_
              refine lv_i2l (v := lN dd) hx hb dX0_takesDigit_80 (nI_l (by omega)) ?_
              refine lv_ladd hx hb dX0_takesDigit_81 ?_
              refine tp_l (v := lN ((10 * mn) + dd)) (lN_add (10 * mn) dd) ?_
              refine lv_lstore (lv' := [(4, .long (lN ((10 * mn) + dd))), (3, .int 0), (2, .int 0), (0, .ref (a 2)), (1, .int (nI dd))]) hx hb dX0_takesDigit_82 hl (by decide) rfl (fun ls hl => ?_)
              refine lv_lload hx hb dX0_takesDigit_84 (lv_at hl 0 rfl) ?_
              refine va_getsN (host := "DraftSurvey") hx hb hZ.1 hS hown (va_Nw.use rfl hN.2.2.2.2.1) (fun _ h9 => h9) dX0_takesDigit_86 ?_
              refine lv_aload_n hx hb dX0_takesDigit_89 rfl (lv_at hl 3 rfl) ?_
              refine va_get (D := G) (ci := 0) (v := .int (nI pn)) (C := RX0) (T := TX0) (N := 5) hx hb hts hX0 hown hK hP (2) wX_e2 rfl 1 (by decide) (hts (.fieldLink RX0 15 "DraftSurvey$RowReader" "place" "I") (by decide +kernel)) (fun _ h9 => h9) rfl dX0_takesDigit_90 ?_
              refine va_tl hx hb hZ.2 hS (vp_in_nI (n := pn) (by omega) (by decide)) (v := .long (lN (grT pn))) (congrArg Value.long (grN_at (by omega))) dX0_takesDigit_93 ?_
              have hgr := grT_le pn
              refine lc_le (tgt := 100) hx hb dX0_takesDigit_94 dX0_takesDigit_95 (by decide) (fun c_7 => ?_) (fun c_7 => ?_)
              · skip
                have c_7 : ¬ (grT pn) < ((10 * mn) + dd) := fun z9 => c_7 ((lN_lt (a := grT pn) (b := ((10 * mn) + dd)) (by omega) (by omega)).mpr z9)
                refine lv_aload_n hx hb dX0_takesDigit_100 rfl (lv_at hl 3 rfl) ?_
                refine lv_lload hx hb dX0_takesDigit_101 (lv_at hl 0 rfl) ?_
                refine va_put (D := G) (ci := 0) (v := .long (lN ((10 * mn) + dd))) (ty := .long) (C := RX0) (T := TX0) (N := 5) hx hb hts hX0 tyX0 tyX0_ok nmX0 hown hK hP hD hS (2) wX_e2 rfl 4 (by decide) (hts (.fieldLink RX0 29 "DraftSurvey$RowReader" "magnitude" "J") (by decide +kernel)) (fun _ h9 => h9) rfl (by decide +kernel) rfl rfl (Nat.le_of_ble_eq_true rfl) dX0_takesDigit_103 (fun H locs hP hD hS => ?_)
                have hP : va_P G vwCl (wX C a σ (v_mg (eK (nu, pn, dn, gn, mn)) (lN ((10 * mn) + dd)))) H := hP
                have hD : va_D A (wX C a σ (v_mg (eK (nu, pn, dn, gn, mn)) (lN ((10 * mn) + dd)))) := hD
                refine lv_aload_n hx hb dX0_takesDigit_106 rfl (lv_at hl 3 rfl) ?_
                refine lv_dup hx hb dX0_takesDigit_107 rfl ?_
                refine va_get (D := G) (ci := 0) (v := .int (nI dn)) (C := RX0) (T := TX0) (N := 5) hx hb hts hX0 hown hK hP (2) wX_e2 rfl 2 (by decide) (hts (.fieldLink RX0 22 "DraftSurvey$RowReader" "digits" "I") (by decide +kernel)) (fun _ h9 => h9) rfl dX0_takesDigit_108 ?_
                refine lv_iconst (v := 1) hx hb dX0_takesDigit_111 (by decide) ?_
                refine lv_iadd hx hb dX0_takesDigit_112 ?_
                refine tp_i (v := nI (dn + 1)) (nI_add dn 1) ?_
                refine va_put (D := G) (ci := 0) (v := .int (nI (dn + 1))) (ty := .int) (C := RX0) (T := TX0) (N := 5) hx hb hts hX0 tyX0 tyX0_ok nmX0 hown hK hP hD hS (2) wX_e2 rfl 2 (by decide) (hts (.fieldLink RX0 22 "DraftSurvey$RowReader" "digits" "I") (by decide +kernel)) (fun _ h9 => h9) rfl (by decide +kernel) rfl rfl (Nat.le_of_ble_eq_true rfl) dX0_takesDigit_113 (fun H locs hP hD hS => ?_)
                have hP : va_P G vwCl (wX C a σ (v_dg (v_mg (eK (nu, pn, dn, gn, mn)) (lN ((10 * mn) + dd))) (nI (dn + 1)))) H := hP
                have hD : va_D A (wX C a σ (v_dg (v_mg (eK (nu, pn, dn, gn, mn)) (lN ((10 * mn) + dd))) (nI (dn + 1)))) := hD
                refine lv_aload_n hx hb dX0_takesDigit_116 rfl (lv_at hl 3 rfl) ?_
                refine va_get (D := G) (ci := 0) (v := .ref (a 3)) (C := RX0) (T := TX0) (N := 5) hx hb hts hX0 hown hK hP (2) wX_e2 rfl 0 (by decide) (hts (.fieldLink RX0 9 "DraftSurvey$RowReader" "numbers" "[J") (by decide +kernel)) (fun _ h9 => h9) rfl dX0_takesDigit_117 ?_
                refine lv_aload_n hx hb dX0_takesDigit_120 rfl (lv_at hl 3 rfl) ?_
                refine va_get (D := G) (ci := 0) (v := .int (nI pn)) (C := RX0) (T := TX0) (N := 5) hx hb hts hX0 hown hK hP (2) wX_e2 rfl 1 (by decide) (hts (.fieldLink RX0 15 "DraftSurvey$RowReader" "place" "I") (by decide +kernel)) (fun _ h9 => h9) rfl dX0_takesDigit_121 ?_
                refine lv_aload_n hx hb dX0_takesDigit_124 rfl (lv_at hl 3 rfl) ?_
                refine va_get (D := G) (ci := 0) (v := .int (nI gn)) (C := RX0) (T := TX0) (N := 5) hx hb hts hX0 hown hK hP (2) wX_e2 rfl 3 (by decide) (hts (.fieldLink RX0 25 "DraftSurvey$RowReader" "negative" "Z") (by decide +kernel)) (fun _ h9 => h9) rfl dX0_takesDigit_125 ?_
                refine lv_if_eq (tgt := 139) hx hb dX0_takesDigit_128 (by decide) (fun c_8 => ?_) (fun c_8 => ?_)
                · skip
                  have c_8 : gn = 0 := (nI_eq (a := gn) (b := 0) (by omega) (by omega)).mp c_8
                  refine lv_aload_n hx hb dX0_takesDigit_139 rfl (lv_at hl 3 rfl) ?_
                  refine va_get (D := G) (ci := 0) (v := .long (lN ((10 * mn) + dd))) (C := RX0) (T := TX0) (N := 5) hx hb hts hX0 hown hK hP (2) wX_e2 rfl 4 (by decide) (hts (.fieldLink RX0 29 "DraftSurvey$RowReader" "magnitude" "J") (by decide +kernel)) (fun _ h9 => h9) rfl dX0_takesDigit_140 ?_
                  refine as_l (k := pn) hx hb hK hP hD hS (3) 1 wX_e3 rfl rfl (by omega) (by decide) dX0_takesDigit_143 (fun H locs hP hD hS => ?_)
                  have hP : va_P G vwCl (wX C a σ (v_nu (v_dg (v_mg (eK (nu, pn, dn, gn, mn)) (lN ((10 * mn) + dd))) (nI (dn + 1))) (vp_updL nu pn (lN ((10 * mn) + dd))))) H := hP
                  have hD : va_D A (wX C a σ (v_nu (v_dg (v_mg (eK (nu, pn, dn, gn, mn)) (lN ((10 * mn) + dd))) (nI (dn + 1))) (vp_updL nu pn (lN ((10 * mn) + dd))))) := hD
                  refine lv_iconst (v := 1) hx hb dX0_takesDigit_144 (by decide) ?_
                  refine wr_zret hx hb hr hlocks hAe (Or.inr rfl) hP hD hS ?_ dX0_takesDigit_145
                  exact Or.inr ⟨(vp_updL nu pn (lN (10 * mn + dd)), pn, dn + 1, gn, 10 * mn + dd), (if_neg (by show ¬ ((0 < dn ∧ mn = 0) ∨ (0 < gn ∧ dn = 0 ∧ dd = 0)); omega)).trans ((if_neg (by show ¬ grT pn < 10 * mn + dd; omega)).trans (congrArg (fun v => some (vp_updL nu pn v, pn, dn + 1, gn, 10 * mn + dd)) (if_pos c_8))), rfl, rfl⟩
                · skip
                  have c_8 : ¬ gn = 0 := fun z9 => c_8 ((nI_eq (a := gn) (b := 0) (by omega) (by omega)).mpr z9)
                  exact absurd c_2 c_8
              · skip
                have c_7 : (grT pn) < ((10 * mn) + dd) := (lN_lt (a := grT pn) (b := ((10 * mn) + dd)) (by omega) (by omega)).mp c_7
                refine lv_iconst (v := 0) hx hb dX0_takesDigit_98 (by decide) ?_
                refine wr_zret hx hb hr hlocks hAe (Or.inl rfl) hP hD hS ?_ dX0_takesDigit_99
                exact Or.inl ⟨(if_neg (by show ¬ ((0 < dn ∧ mn = 0) ∨ (0 < gn ∧ dn = 0 ∧ dd = 0)); omega)).trans (if_pos (by show grT pn < 10 * mn + dd; omega)), rfl, rfl⟩
            · skip
              have c_6 : ¬ pn < 5 := fun z9 => c_6 ((nI_ltI (a := pn) (b := 5) (by omega) (by omega)).mpr z9)
              exact (show False by omega).elim
    · skip
      have c_2 : ¬ gn = 0 := fun z9 => c_2 ((nI_eq (a := gn) (b := 0) (by omega) (by omega)).mpr z9)
      refine lv_aload_n hx hb dX0_takesDigit_29 rfl (lv_at hl 1 rfl) ?_
      refine va_get (D := G) (ci := 0) (v := .int (nI dn)) (C := RX0) (T := TX0) (N := 5) hx hb hts hX0 hown hK hP (2) wX_e2 rfl 2 (by decide) (hts (.fieldLink RX0 22 "DraftSurvey$RowReader" "digits" "I") (by decide +kernel)) (fun _ h9 => h9) rfl dX0_takesDigit_30 ?_
      refine ic_if_ne (tgt := 44) hx hb dX0_takesDigit_33 (by decide) (fun c_9 => ?_) (fun c_9 => ?_)
      · skip
        have c_9 : ¬ dn = 0 := fun z9 => c_9 ((nI_eq (a := dn) (b := 0) (by omega) (by omega)).mpr z9)
        refine lv_iconst (v := 0) hx hb dX0_takesDigit_44 (by decide) ?_
        refine lv_istore_n (lv' := [(3, .int 0), (2, .int 0), (0, .ref (a 2)), (1, .int (nI dd))]) hx hb dX0_takesDigit_45 rfl hl (by decide) rfl (fun ls hl => ?_)
        refine lv_iload_n hx hb dX0_takesDigit_46 rfl (lv_at hl 1 rfl) ?_
        refine ic_if_ne (tgt := 69) hx hb dX0_takesDigit_47 (by decide) (fun c_10 => ?_) (fun c_10 => ?_)
        · skip
          exact absurd c_10 (by decide)
        · skip
          refine lv_iload_n hx hb dX0_takesDigit_50 rfl (lv_at hl 0 rfl) ?_
          refine ic_if_ne (tgt := 69) hx hb dX0_takesDigit_51 (by decide) (fun c_11 => ?_) (fun c_11 => ?_)
          · skip
            exact absurd c_11 (by decide)
          · skip
            refine lv_aload_n hx hb dX0_takesDigit_54 rfl (lv_at hl 2 rfl) ?_
            refine va_get (D := G) (ci := 0) (v := .int (nI pn)) (C := RX0) (T := TX0) (N := 5) hx hb hts hX0 hown hK hP (2) wX_e2 rfl 1 (by decide) (hts (.fieldLink RX0 15 "DraftSurvey$RowReader" "place" "I") (by decide +kernel)) (fun _ h9 => h9) rfl dX0_takesDigit_55 ?_
            refine lv_if_lt (tgt := 69) hx hb dX0_takesDigit_58 (by decide) (fun c_12 => ?_) (fun c_12 => ?_)
            · skip
              have c_12 : pn < 0 := (nI_ltI (a := pn) (b := 0) (by omega) (by omega)).mp c_12
              exact (show False by omega).elim
            · skip
              have c_12 : ¬ pn < 0 := fun z9 => c_12 ((nI_ltI (a := pn) (b := 0) (by omega) (by omega)).mpr z9)
              refine lv_aload_n hx hb dX0_takesDigit_61 rfl (lv_at hl 2 rfl) ?_
              refine va_get (D := G) (ci := 0) (v := .int (nI pn)) (C := RX0) (T := TX0) (N := 5) hx hb hts hX0 hown hK hP (2) wX_e2 rfl 1 (by decide) (hts (.fieldLink RX0 15 "DraftSurvey$RowReader" "place" "I") (by decide +kernel)) (fun _ h9 => h9) rfl dX0_takesDigit_62 ?_
              refine lv_iconst (v := 5) hx hb dX0_takesDigit_65 (by decide) ?_
              refine lv_icmp_lt (tgt := 71) hx hb dX0_takesDigit_66 (by decide) (fun c_13 => ?_) (fun c_13 => ?_)
              · skip
                have c_13 : pn < 5 := (nI_ltI (a := pn) (b := 5) (by omega) (by omega)).mp c_13
                refine lv_ldc2 (v := 10) hx hb hown (hts (.constantLong RX0 44 (10)) (by decide +kernel)) dX0_takesDigit_71 ?_
                refine lv_aload_n hx hb dX0_takesDigit_74 rfl (lv_at hl 2 rfl) ?_
                refine va_get (D := G) (ci := 0) (v := .long (lN mn)) (C := RX0) (T := TX0) (N := 5) hx hb hts hX0 hown hK hP (2) wX_e2 rfl 4 (by decide) (hts (.fieldLink RX0 29 "DraftSurvey$RowReader" "magnitude" "J") (by decide +kernel)) (fun _ h9 => h9) rfl dX0_takesDigit_75 ?_
                refine lv_lmul hx hb dX0_takesDigit_78 ?_
                refine tp_l (v := lN (10 * mn)) (lN_mul 10 mn) ?_
                refine lv_iload_n hx hb dX0_takesDigit_79 rfl (lv_at hl 3 rfl) ?_
                refine lv_i2l (v := lN dd) hx hb dX0_takesDigit_80 (nI_l (by omega)) ?_
                refine lv_ladd hx hb dX0_takesDigit_81 ?_
                refine tp_l (v := lN ((10 * mn) + dd)) (lN_add (10 * mn) dd) ?_
                refine lv_lstore (lv' := [(4, .long (lN ((10 * mn) + dd))), (3, .int 0), (2, .int 0), (0, .ref (a 2)), (1, .int (nI dd))]) hx hb dX0_takesDigit_82 hl (by decide) rfl (fun ls hl => ?_)
                refine lv_lload hx hb dX0_takesDigit_84 (lv_at hl 0 rfl) ?_
                refine va_getsN (host := "DraftSurvey") hx hb hZ.1 hS hown (va_Nw.use rfl hN.2.2.2.2.1) (fun _ h9 => h9) dX0_takesDigit_86 ?_
                refine lv_aload_n hx hb dX0_takesDigit_89 rfl (lv_at hl 3 rfl) ?_
                refine va_get (D := G) (ci := 0) (v := .int (nI pn)) (C := RX0) (T := TX0) (N := 5) hx hb hts hX0 hown hK hP (2) wX_e2 rfl 1 (by decide) (hts (.fieldLink RX0 15 "DraftSurvey$RowReader" "place" "I") (by decide +kernel)) (fun _ h9 => h9) rfl dX0_takesDigit_90 ?_
                refine va_tl hx hb hZ.2 hS (vp_in_nI (n := pn) (by omega) (by decide)) (v := .long (lN (grT pn))) (congrArg Value.long (grN_at (by omega))) dX0_takesDigit_93 ?_
                have hgr := grT_le pn
                refine lc_le (tgt := 100) hx hb dX0_takesDigit_94 dX0_takesDigit_95 (by decide) (fun c_14 => ?_) (fun c_14 => ?_)
                · skip
                  have c_14 : ¬ (grT pn) < ((10 * mn) + dd) := fun z9 => c_14 ((lN_lt (a := grT pn) (b := ((10 * mn) + dd)) (by omega) (by omega)).mpr z9)
                  refine lv_aload_n hx hb dX0_takesDigit_100 rfl (lv_at hl 3 rfl) ?_
                  refine lv_lload hx hb dX0_takesDigit_101 (lv_at hl 0 rfl) ?_
                  refine va_put (D := G) (ci := 0) (v := .long (lN ((10 * mn) + dd))) (ty := .long) (C := RX0) (T := TX0) (N := 5) hx hb hts hX0 tyX0 tyX0_ok nmX0 hown hK hP hD hS (2) wX_e2 rfl 4 (by decide) (hts (.fieldLink RX0 29 "DraftSurvey$RowReader" "magnitude" "J") (by decide +kernel)) (fun _ h9 => h9) rfl (by decide +kernel) rfl rfl (Nat.le_of_ble_eq_true rfl) dX0_takesDigit_103 (fun H locs hP hD hS => ?_)
                  have hP : va_P G vwCl (wX C a σ (v_mg (eK (nu, pn, dn, gn, mn)) (lN ((10 * mn) + dd)))) H := hP
                  have hD : va_D A (wX C a σ (v_mg (eK (nu, pn, dn, gn, mn)) (lN ((10 * mn) + dd)))) := hD
                  refine lv_aload_n hx hb dX0_takesDigit_106 rfl (lv_at hl 3 rfl) ?_
                  refine lv_dup hx hb dX0_takesDigit_107 rfl ?_
                  refine va_get (D := G) (ci := 0) (v := .int (nI dn)) (C := RX0) (T := TX0) (N := 5) hx hb hts hX0 hown hK hP (2) wX_e2 rfl 2 (by decide) (hts (.fieldLink RX0 22 "DraftSurvey$RowReader" "digits" "I") (by decide +kernel)) (fun _ h9 => h9) rfl dX0_takesDigit_108 ?_
                  refine lv_iconst (v := 1) hx hb dX0_takesDigit_111 (by decide) ?_
                  refine lv_iadd hx hb dX0_takesDigit_112 ?_
                  refine tp_i (v := nI (dn + 1)) (nI_add dn 1) ?_
                  refine va_put (D := G) (ci := 0) (v := .int (nI (dn + 1))) (ty := .int) (C := RX0) (T := TX0) (N := 5) hx hb hts hX0 tyX0 tyX0_ok nmX0 hown hK hP hD hS (2) wX_e2 rfl 2 (by decide) (hts (.fieldLink RX0 22 "DraftSurvey$RowReader" "digits" "I") (by decide +kernel)) (fun _ h9 => h9) rfl (by decide +kernel) rfl rfl (Nat.le_of_ble_eq_true rfl) dX0_takesDigit_113 (fun H locs hP hD hS => ?_)
                  have hP : va_P G vwCl (wX C a σ (v_dg (v_mg (eK (nu, pn, dn, gn, mn)) (lN ((10 * mn) + dd))) (nI (dn + 1)))) H := hP
                  have hD : va_D A (wX C a σ (v_dg (v_mg (eK (nu, pn, dn, gn, mn)) (lN ((10 * mn) + dd))) (nI (dn + 1)))) := hD
                  refine lv_aload_n hx hb dX0_takesDigit_116 rfl (lv_at hl 3 rfl) ?_
                  refine va_get (D := G) (ci := 0) (v := .ref (a 3)) (C := RX0) (T := TX0) (N := 5) hx hb hts hX0 hown hK hP (2) wX_e2 rfl 0 (by decide) (hts (.fieldLink RX0 9 "DraftSurvey$RowReader" "numbers" "[J") (by decide +kernel)) (fun _ h9 => h9) rfl dX0_takesDigit_117 ?_
                  refine lv_aload_n hx hb dX0_takesDigit_120 rfl (lv_at hl 3 rfl) ?_
                  refine va_get (D := G) (ci := 0) (v := .int (nI pn)) (C := RX0) (T := TX0) (N := 5) hx hb hts hX0 hown hK hP (2) wX_e2 rfl 1 (by decide) (hts (.fieldLink RX0 15 "DraftSurvey$RowReader" "place" "I") (by decide +kernel)) (fun _ h9 => h9) rfl dX0_takesDigit_121 ?_
                  refine lv_aload_n hx hb dX0_takesDigit_124 rfl (lv_at hl 3 rfl) ?_
                  refine va_get (D := G) (ci := 0) (v := .int (nI gn)) (C := RX0) (T := TX0) (N := 5) hx hb hts hX0 hown hK hP (2) wX_e2 rfl 3 (by decide) (hts (.fieldLink RX0 25 "DraftSurvey$RowReader" "negative" "Z") (by decide +kernel)) (fun _ h9 => h9) rfl dX0_takesDigit_125 ?_
                  refine lv_if_eq (tgt := 139) hx hb dX0_takesDigit_128 (by decide) (fun c_15 => ?_) (fun c_15 => ?_)
                  · skip
                    have c_15 : gn = 0 := (nI_eq (a := gn) (b := 0) (by omega) (by omega)).mp c_15
                    exact absurd c_15 c_2
                  · skip
                    have c_15 : ¬ gn = 0 := fun z9 => c_15 ((nI_eq (a := gn) (b := 0) (by omega) (by omega)).mpr z9)
                    refine lv_aload_n hx hb dX0_takesDigit_131 rfl (lv_at hl 3 rfl) ?_
                    refine va_get (D := G) (ci := 0) (v := .long (lN ((10 * mn) + dd))) (C := RX0) (T := TX0) (N := 5) hx hb hts hX0 hown hK hP (2) wX_e2 rfl 4 (by decide) (hts (.fieldLink RX0 29 "DraftSurvey$RowReader" "magnitude" "J") (by decide +kernel)) (fun _ h9 => h9) rfl dX0_takesDigit_132 ?_
                    refine lv_lneg hx hb dX0_takesDigit_135 ?_
                    refine lv_goto (tgt := 143) hx hb dX0_takesDigit_136 (by decide) ?_
                    refine as_l (k := pn) hx hb hK hP hD hS (3) 1 wX_e3 rfl rfl (by omega) (by decide) dX0_takesDigit_143 (fun H locs hP hD hS => ?_)
                    have hP : va_P G vwCl (wX C a σ (v_nu (v_dg (v_mg (eK (nu, pn, dn, gn, mn)) (lN ((10 * mn) + dd))) (nI (dn + 1))) (vp_updL nu pn (-(lN ((10 * mn) + dd)))))) H := hP
                    have hD : va_D A (wX C a σ (v_nu (v_dg (v_mg (eK (nu, pn, dn, gn, mn)) (lN ((10 * mn) + dd))) (nI (dn + 1))) (vp_updL nu pn (-(lN ((10 * mn) + dd)))))) := hD
                    refine lv_iconst (v := 1) hx hb dX0_takesDigit_144 (by decide) ?_
                    refine wr_zret hx hb hr hlocks hAe (Or.inr rfl) hP hD hS ?_ dX0_takesDigit_145
                    exact Or.inr ⟨(vp_updL nu pn (-(lN (10 * mn + dd))), pn, dn + 1, gn, 10 * mn + dd), (if_neg (by show ¬ ((0 < dn ∧ mn = 0) ∨ (0 < gn ∧ dn = 0 ∧ dd = 0)); omega)).trans ((if_neg (by show ¬ grT pn < 10 * mn + dd; omega)).trans (congrArg (fun v => some (vp_updL nu pn v, pn, dn + 1, gn, 10 * mn + dd)) (if_neg c_15))), rfl, rfl⟩
                · skip
                  have c_14 : (grT pn) < ((10 * mn) + dd) := (lN_lt (a := grT pn) (b := ((10 * mn) + dd)) (by omega) (by omega)).mp c_14
                  refine lv_iconst (v := 0) hx hb dX0_takesDigit_98 (by decide) ?_
                  refine wr_zret hx hb hr hlocks hAe (Or.inl rfl) hP hD hS ?_ dX0_takesDigit_99
                  exact Or.inl ⟨(if_neg (by show ¬ ((0 < dn ∧ mn = 0) ∨ (0 < gn ∧ dn = 0 ∧ dd = 0)); omega)).trans (if_pos (by show grT pn < 10 * mn + dd; omega)), rfl, rfl⟩
              · skip
                have c_13 : ¬ pn < 5 := fun z9 => c_13 ((nI_ltI (a := pn) (b := 5) (by omega) (by omega)).mpr z9)
                exact (show False by omega).elim
      · skip
        have c_9 : dn = 0 := (nI_eq (a := dn) (b := 0) (by omega) (by omega)).mp c_9
        refine lv_iload_n hx hb dX0_takesDigit_36 rfl (lv_at hl 2 rfl) ?_
        refine ic_if_ne (tgt := 44) hx hb dX0_takesDigit_37 (by decide) (fun c_16 => ?_) (fun c_16 => ?_)
        · skip
          have c_16 : ¬ dd = 0 := fun z9 => c_16 ((nI_eq (a := dd) (b := 0) (by omega) (by omega)).mpr z9)
          refine lv_iconst (v := 0) hx hb dX0_takesDigit_44 (by decide) ?_
          refine lv_istore_n (lv' := [(3, .int 0), (2, .int 0), (0, .ref (a 2)), (1, .int (nI dd))]) hx hb dX0_takesDigit_45 rfl hl (by decide) rfl (fun ls hl => ?_)
          refine lv_iload_n hx hb dX0_takesDigit_46 rfl (lv_at hl 1 rfl) ?_
          refine ic_if_ne (tgt := 69) hx hb dX0_takesDigit_47 (by decide) (fun c_17 => ?_) (fun c_17 => ?_)
          · skip
            exact absurd c_17 (by decide)
          · skip
            refine lv_iload_n hx hb dX0_takesDigit_50 rfl (lv_at hl 0 rfl) ?_
            refine ic_if_ne (tgt := 69) hx hb dX0_takesDigit_51 (by decide) (fun c_18 => ?_) (fun c_18 => ?_)
            · skip
              exact absurd c_18 (by decide)
            · skip
              refine lv_aload_n hx hb dX0_takesDigit_54 rfl (lv_at hl 2 rfl) ?_
              refine va_get (D := G) (ci := 0) (v := .int (nI pn)) (C := RX0) (T := TX0) (N := 5) hx hb hts hX0 hown hK hP (2) wX_e2 rfl 1 (by decide) (hts (.fieldLink RX0 15 "DraftSurvey$RowReader" "place" "I") (by decide +kernel)) (fun _ h9 => h9) rfl dX0_takesDigit_55 ?_
              refine lv_if_lt (tgt := 69) hx hb dX0_takesDigit_58 (by decide) (fun c_19 => ?_) (fun c_19 => ?_)
              · skip
                have c_19 : pn < 0 := (nI_ltI (a := pn) (b := 0) (by omega) (by omega)).mp c_19
                exact (show False by omega).elim
              · skip
                have c_19 : ¬ pn < 0 := fun z9 => c_19 ((nI_ltI (a := pn) (b := 0) (by omega) (by omega)).mpr z9)
                refine lv_aload_n hx hb dX0_takesDigit_61 rfl (lv_at hl 2 rfl) ?_
                refine va_get (D := G) (ci := 0) (v := .int (nI pn)) (C := RX0) (T := TX0) (N := 5) hx hb hts hX0 hown hK hP (2) wX_e2 rfl 1 (by decide) (hts (.fieldLink RX0 15 "DraftSurvey$RowReader" "place" "I") (by decide +kernel)) (fun _ h9 => h9) rfl dX0_takesDigit_62 ?_
                refine lv_iconst (v := 5) hx hb dX0_takesDigit_65 (by decide) ?_
                refine lv_icmp_lt (tgt := 71) hx hb dX0_takesDigit_66 (by decide) (fun c_20 => ?_) (fun c_20 => ?_)
                · skip
                  have c_20 : pn < 5 := (nI_ltI (a := pn) (b := 5) (by omega) (by omega)).mp c_20
                  refine lv_ldc2 (v := 10) hx hb hown (hts (.constantLong RX0 44 (10)) (by decide +kernel)) dX0_takesDigit_71 ?_
                  refine lv_aload_n hx hb dX0_takesDigit_74 rfl (lv_at hl 2 rfl) ?_
                  refine va_get (D := G) (ci := 0) (v := .long (lN mn)) (C := RX0) (T := TX0) (N := 5) hx hb hts hX0 hown hK hP (2) wX_e2 rfl 4 (by decide) (hts (.fieldLink RX0 29 "DraftSurvey$RowReader" "magnitude" "J") (by decide +kernel)) (fun _ h9 => h9) rfl dX0_takesDigit_75 ?_
                  refine lv_lmul hx hb dX0_takesDigit_78 ?_
                  refine tp_l (v := lN (10 * mn)) (lN_mul 10 mn) ?_
                  refine lv_iload_n hx hb dX0_takesDigit_79 rfl (lv_at hl 3 rfl) ?_
                  refine lv_i2l (v := lN dd) hx hb dX0_takesDigit_80 (nI_l (by omega)) ?_
                  refine lv_ladd hx hb dX0_takesDigit_81 ?_
                  refine tp_l (v := lN ((10 * mn) + dd)) (lN_add (10 * mn) dd) ?_
                  refine lv_lstore (lv' := [(4, .long (lN ((10 * mn) + dd))), (3, .int 0), (2, .int 0), (0, .ref (a 2)), (1, .int (nI dd))]) hx hb dX0_takesDigit_82 hl (by decide) rfl (fun ls hl => ?_)
                  refine lv_lload hx hb dX0_takesDigit_84 (lv_at hl 0 rfl) ?_
                  refine va_getsN (host := "DraftSurvey") hx hb hZ.1 hS hown (va_Nw.use rfl hN.2.2.2.2.1) (fun _ h9 => h9) dX0_takesDigit_86 ?_
                  refine lv_aload_n hx hb dX0_takesDigit_89 rfl (lv_at hl 3 rfl) ?_
                  refine va_get (D := G) (ci := 0) (v := .int (nI pn)) (C := RX0) (T := TX0) (N := 5) hx hb hts hX0 hown hK hP (2) wX_e2 rfl 1 (by decide) (hts (.fieldLink RX0 15 "DraftSurvey$RowReader" "place" "I") (by decide +kernel)) (fun _ h9 => h9) rfl dX0_takesDigit_90 ?_
                  refine va_tl hx hb hZ.2 hS (vp_in_nI (n := pn) (by omega) (by decide)) (v := .long (lN (grT pn))) (congrArg Value.long (grN_at (by omega))) dX0_takesDigit_93 ?_
                  have hgr := grT_le pn
                  refine lc_le (tgt := 100) hx hb dX0_takesDigit_94 dX0_takesDigit_95 (by decide) (fun c_21 => ?_) (fun c_21 => ?_)
                  · skip
                    have c_21 : ¬ (grT pn) < ((10 * mn) + dd) := fun z9 => c_21 ((lN_lt (a := grT pn) (b := ((10 * mn) + dd)) (by omega) (by omega)).mpr z9)
                    refine lv_aload_n hx hb dX0_takesDigit_100 rfl (lv_at hl 3 rfl) ?_
                    refine lv_lload hx hb dX0_takesDigit_101 (lv_at hl 0 rfl) ?_
                    refine va_put (D := G) (ci := 0) (v := .long (lN ((10 * mn) + dd))) (ty := .long) (C := RX0) (T := TX0) (N := 5) hx hb hts hX0 tyX0 tyX0_ok nmX0 hown hK hP hD hS (2) wX_e2 rfl 4 (by decide) (hts (.fieldLink RX0 29 "DraftSurvey$RowReader" "magnitude" "J") (by decide +kernel)) (fun _ h9 => h9) rfl (by decide +kernel) rfl rfl (Nat.le_of_ble_eq_true rfl) dX0_takesDigit_103 (fun H locs hP hD hS => ?_)
                    have hP : va_P G vwCl (wX C a σ (v_mg (eK (nu, pn, dn, gn, mn)) (lN ((10 * mn) + dd)))) H := hP
                    have hD : va_D A (wX C a σ (v_mg (eK (nu, pn, dn, gn, mn)) (lN ((10 * mn) + dd)))) := hD
                    refine lv_aload_n hx hb dX0_takesDigit_106 rfl (lv_at hl 3 rfl) ?_
                    refine lv_dup hx hb dX0_takesDigit_107 rfl ?_
                    refine va_get (D := G) (ci := 0) (v := .int (nI dn)) (C := RX0) (T := TX0) (N := 5) hx hb hts hX0 hown hK hP (2) wX_e2 rfl 2 (by decide) (hts (.fieldLink RX0 22 "DraftSurvey$RowReader" "digits" "I") (by decide +kernel)) (fun _ h9 => h9) rfl dX0_takesDigit_108 ?_
                    refine lv_iconst (v := 1) hx hb dX0_takesDigit_111 (by decide) ?_
                    refine lv_iadd hx hb dX0_takesDigit_112 ?_
                    refine tp_i (v := nI (dn + 1)) (nI_add dn 1) ?_
                    refine va_put (D := G) (ci := 0) (v := .int (nI (dn + 1))) (ty := .int) (C := RX0) (T := TX0) (N := 5) hx hb hts hX0 tyX0 tyX0_ok nmX0 hown hK hP hD hS (2) wX_e2 rfl 2 (by decide) (hts (.fieldLink RX0 22 "DraftSurvey$RowReader" "digits" "I") (by decide +kernel)) (fun _ h9 => h9) rfl (by decide +kernel) rfl rfl (Nat.le_of_ble_eq_true rfl) dX0_takesDigit_113 (fun H locs hP hD hS => ?_)
                    have hP : va_P G vwCl (wX C a σ (v_dg (v_mg (eK (nu, pn, dn, gn, mn)) (lN ((10 * mn) + dd))) (nI (dn + 1)))) H := hP
                    have hD : va_D A (wX C a σ (v_dg (v_mg (eK (nu, pn, dn, gn, mn)) (lN ((10 * mn) + dd))) (nI (dn + 1)))) := hD
                    refine lv_aload_n hx hb dX0_takesDigit_116 rfl (lv_at hl 3 rfl) ?_
                    refine va_get (D := G) (ci := 0) (v := .ref (a 3)) (C := RX0) (T := TX0) (N := 5) hx hb hts hX0 hown hK hP (2) wX_e2 rfl 0 (by decide) (hts (.fieldLink RX0 9 "DraftSurvey$RowReader" "numbers" "[J") (by decide +kernel)) (fun _ h9 => h9) rfl dX0_takesDigit_117 ?_
                    refine lv_aload_n hx hb dX0_takesDigit_120 rfl (lv_at hl 3 rfl) ?_
                    refine va_get (D := G) (ci := 0) (v := .int (nI pn)) (C := RX0) (T := TX0) (N := 5) hx hb hts hX0 hown hK hP (2) wX_e2 rfl 1 (by decide) (hts (.fieldLink RX0 15 "DraftSurvey$RowReader" "place" "I") (by decide +kernel)) (fun _ h9 => h9) rfl dX0_takesDigit_121 ?_
                    refine lv_aload_n hx hb dX0_takesDigit_124 rfl (lv_at hl 3 rfl) ?_
                    refine va_get (D := G) (ci := 0) (v := .int (nI gn)) (C := RX0) (T := TX0) (N := 5) hx hb hts hX0 hown hK hP (2) wX_e2 rfl 3 (by decide) (hts (.fieldLink RX0 25 "DraftSurvey$RowReader" "negative" "Z") (by decide +kernel)) (fun _ h9 => h9) rfl dX0_takesDigit_125 ?_
                    refine lv_if_eq (tgt := 139) hx hb dX0_takesDigit_128 (by decide) (fun c_22 => ?_) (fun c_22 => ?_)
                    · skip
                      have c_22 : gn = 0 := (nI_eq (a := gn) (b := 0) (by omega) (by omega)).mp c_22
                      exact absurd c_22 c_2
                    · skip
                      have c_22 : ¬ gn = 0 := fun z9 => c_22 ((nI_eq (a := gn) (b := 0) (by omega) (by omega)).mpr z9)
                      refine lv_aload_n hx hb dX0_takesDigit_131 rfl (lv_at hl 3 rfl) ?_
                      refine va_get (D := G) (ci := 0) (v := .long (lN ((10 * mn) + dd))) (C := RX0) (T := TX0) (N := 5) hx hb hts hX0 hown hK hP (2) wX_e2 rfl 4 (by decide) (hts (.fieldLink RX0 29 "DraftSurvey$RowReader" "magnitude" "J") (by decide +kernel)) (fun _ h9 => h9) rfl dX0_takesDigit_132 ?_
                      refine lv_lneg hx hb dX0_takesDigit_135 ?_
                      refine lv_goto (tgt := 143) hx hb dX0_takesDigit_136 (by decide) ?_
                      refine as_l (k := pn) hx hb hK hP hD hS (3) 1 wX_e3 rfl rfl (by omega) (by decide) dX0_takesDigit_143 (fun H locs hP hD hS => ?_)
                      have hP : va_P G vwCl (wX C a σ (v_nu (v_dg (v_mg (eK (nu, pn, dn, gn, mn)) (lN ((10 * mn) + dd))) (nI (dn + 1))) (vp_updL nu pn (-(lN ((10 * mn) + dd)))))) H := hP
                      have hD : va_D A (wX C a σ (v_nu (v_dg (v_mg (eK (nu, pn, dn, gn, mn)) (lN ((10 * mn) + dd))) (nI (dn + 1))) (vp_updL nu pn (-(lN ((10 * mn) + dd)))))) := hD
                      refine lv_iconst (v := 1) hx hb dX0_takesDigit_144 (by decide) ?_
                      refine wr_zret hx hb hr hlocks hAe (Or.inr rfl) hP hD hS ?_ dX0_takesDigit_145
                      exact Or.inr ⟨(vp_updL nu pn (-(lN (10 * mn + dd))), pn, dn + 1, gn, 10 * mn + dd), (if_neg (by show ¬ ((0 < dn ∧ mn = 0) ∨ (0 < gn ∧ dn = 0 ∧ dd = 0)); omega)).trans ((if_neg (by show ¬ grT pn < 10 * mn + dd; omega)).trans (congrArg (fun v => some (vp_updL nu pn v, pn, dn + 1, gn, 10 * mn + dd)) (if_neg c_22))), rfl, rfl⟩
                  · skip
                    have c_21 : (grT pn) < ((10 * mn) + dd) := (lN_lt (a := grT pn) (b := ((10 * mn) + dd)) (by omega) (by omega)).mp c_21
                    refine lv_iconst (v := 0) hx hb dX0_takesDigit_98 (by decide) ?_
                    refine wr_zret hx hb hr hlocks hAe (Or.inl rfl) hP hD hS ?_ dX0_takesDigit_99
                    exact Or.inl ⟨(if_neg (by show ¬ ((0 < dn ∧ mn = 0) ∨ (0 < gn ∧ dn = 0 ∧ dd = 0)); omega)).trans (if_pos (by show grT pn < 10 * mn + dd; omega)), rfl, rfl⟩
                · skip
                  have c_20 : ¬ pn < 5 := fun z9 => c_20 ((nI_ltI (a := pn) (b := 5) (by omega) (by omega)).mpr z9)
                  exact (show False by omega).elim
        · skip
          have c_16 : dd = 0 := (nI_eq (a := dd) (b := 0) (by omega) (by omega)).mp c_16
          refine lv_iconst (v := 1) hx hb dX0_takesDigit_40 (by decide) ?_
          refine lv_goto (tgt := 45) hx hb dX0_takesDigit_41 (by decide) ?_
          refine lv_istore_n (lv' := [(3, .int 1), (2, .int 0), (0, .ref (a 2)), (1, .int (nI dd))]) hx hb dX0_takesDigit_45 rfl hl (by decide) rfl (fun ls hl => ?_)
          refine lv_iload_n hx hb dX0_takesDigit_46 rfl (lv_at hl 1 rfl) ?_
          refine ic_if_ne (tgt := 69) hx hb dX0_takesDigit_47 (by decide) (fun c_23 => ?_) (fun c_23 => ?_)
          · skip
            exact absurd c_23 (by decide)
          · skip
            refine lv_iload_n hx hb dX0_takesDigit_50 rfl (lv_at hl 0 rfl) ?_
            refine ic_if_ne (tgt := 69) hx hb dX0_takesDigit_51 (by decide) (fun c_24 => ?_) (fun c_24 => ?_)
            · skip
              refine lv_iconst (v := 0) hx hb dX0_takesDigit_69 (by decide) ?_
              refine wr_zret hx hb hr hlocks hAe (Or.inl rfl) hP hD hS ?_ dX0_takesDigit_70
              exact Or.inl ⟨if_pos (by show (0 < dn ∧ mn = 0) ∨ (0 < gn ∧ dn = 0 ∧ dd = 0); omega), rfl, rfl⟩
            · skip
              exact absurd c_24 (by decide)
  · skip
    have c_1 : 0 < dn := (nI_ltI (a := 0) (b := dn) (by omega) (by omega)).mp c_1
    refine lv_aload_n hx hb dX0_takesDigit_7 rfl (lv_at hl 0 rfl) ?_
    refine va_get (D := G) (ci := 0) (v := .long (lN mn)) (C := RX0) (T := TX0) (N := 5) hx hb hts hX0 hown hK hP (2) wX_e2 rfl 4 (by decide) (hts (.fieldLink RX0 29 "DraftSurvey$RowReader" "magnitude" "J") (by decide +kernel)) (fun _ h9 => h9) rfl dX0_takesDigit_8 ?_
    refine lv_lconst (v := 0) hx hb dX0_takesDigit_11 (by decide) ?_
    refine lc_ne (tgt := 20) hx hb dX0_takesDigit_12 dX0_takesDigit_13 (by decide) (fun c_25 => ?_) (fun c_25 => ?_)
    · skip
      have c_25 : ¬ mn = 0 := fun z9 => c_25 ((lN_eq (a := mn) (b := 0) (by omega) (by omega)).mpr z9)
      refine lv_iconst (v := 0) hx hb dX0_takesDigit_20 (by decide) ?_
      refine lv_istore_n (lv' := [(2, .int 0), (0, .ref (a 2)), (1, .int (nI dd))]) hx hb dX0_takesDigit_21 rfl hl (by decide) rfl (fun ls hl => ?_)
      refine lv_aload_n hx hb dX0_takesDigit_22 rfl (lv_at hl 1 rfl) ?_
      refine va_get (D := G) (ci := 0) (v := .int (nI gn)) (C := RX0) (T := TX0) (N := 5) hx hb hts hX0 hown hK hP (2) wX_e2 rfl 3 (by decide) (hts (.fieldLink RX0 25 "DraftSurvey$RowReader" "negative" "Z") (by decide +kernel)) (fun _ h9 => h9) rfl dX0_takesDigit_23 ?_
      refine lv_if_eq (tgt := 44) hx hb dX0_takesDigit_26 (by decide) (fun c_26 => ?_) (fun c_26 => ?_)
      · skip
        have c_26 : gn = 0 := (nI_eq (a := gn) (b := 0) (by omega) (by omega)).mp c_26
        refine lv_iconst (v := 0) hx hb dX0_takesDigit_44 (by decide) ?_
        refine lv_istore_n (lv' := [(3, .int 0), (2, .int 0), (0, .ref (a 2)), (1, .int (nI dd))]) hx hb dX0_takesDigit_45 rfl hl (by decide) rfl (fun ls hl => ?_)
        refine lv_iload_n hx hb dX0_takesDigit_46 rfl (lv_at hl 1 rfl) ?_
        refine ic_if_ne (tgt := 69) hx hb dX0_takesDigit_47 (by decide) (fun c_27 => ?_) (fun c_27 => ?_)
        · skip
          exact absurd c_27 (by decide)
        · skip
          refine lv_iload_n hx hb dX0_takesDigit_50 rfl (lv_at hl 0 rfl) ?_
          refine ic_if_ne (tgt := 69) hx hb dX0_takesDigit_51 (by decide) (fun c_28 => ?_) (fun c_28 => ?_)
          · skip
            exact absurd c_28 (by decide)
          · skip
            refine lv_aload_n hx hb dX0_takesDigit_54 rfl (lv_at hl 2 rfl) ?_
            refine va_get (D := G) (ci := 0) (v := .int (nI pn)) (C := RX0) (T := TX0) (N := 5) hx hb hts hX0 hown hK hP (2) wX_e2 rfl 1 (by decide) (hts (.fieldLink RX0 15 "DraftSurvey$RowReader" "place" "I") (by decide +kernel)) (fun _ h9 => h9) rfl dX0_takesDigit_55 ?_
            refine lv_if_lt (tgt := 69) hx hb dX0_takesDigit_58 (by decide) (fun c_29 => ?_) (fun c_29 => ?_)
            · skip
              have c_29 : pn < 0 := (nI_ltI (a := pn) (b := 0) (by omega) (by omega)).mp c_29
              exact (show False by omega).elim
            · skip
              have c_29 : ¬ pn < 0 := fun z9 => c_29 ((nI_ltI (a := pn) (b := 0) (by omega) (by omega)).mpr z9)
              refine lv_aload_n hx hb dX0_takesDigit_61 rfl (lv_at hl 2 rfl) ?_
              refine va_get (D := G) (ci := 0) (v := .int (nI pn)) (C := RX0) (T := TX0) (N := 5) hx hb hts hX0 hown hK hP (2) wX_e2 rfl 1 (by decide) (hts (.fieldLink RX0 15 "DraftSurvey$RowReader" "place" "I") (by decide +kernel)) (fun _ h9 => h9) rfl dX0_takesDigit_62 ?_
              refine lv_iconst (v := 5) hx hb dX0_takesDigit_65 (by decide) ?_
              refine lv_icmp_lt (tgt := 71) hx hb dX0_takesDigit_66 (by decide) (fun c_30 => ?_) (fun c_30 => ?_)
              · skip
                have c_30 : pn < 5 := (nI_ltI (a := pn) (b := 5) (by omega) (by omega)).mp c_30
                refine lv_ldc2 (v := 10) hx hb hown (hts (.constantLong RX0 44 (10)) (by decide +kernel)) dX0_takesDigit_71 ?_
                refine lv_aload_n hx hb dX0_takesDigit_74 rfl (lv_at hl 2 rfl) ?_
                refine va_get (D := G) (ci := 0) (v := .long (lN mn)) (C := RX0) (T := TX0) (N := 5) hx hb hts hX0 hown hK hP (2) wX_e2 rfl 4 (by decide) (hts (.fieldLink RX0 29 "DraftSurvey$RowReader" "magnitude" "J") (by decide +kernel)) (fun _ h9 => h9) rfl dX0_takesDigit_75 ?_
                refine lv_lmul hx hb dX0_takesDigit_78 ?_
                refine tp_l (v := lN (10 * mn)) (lN_mul 10 mn) ?_
                refine lv_iload_n hx hb dX0_takesDigit_79 rfl (lv_at hl 3 rfl) ?_
                refine lv_i2l (v := lN dd) hx hb dX0_takesDigit_80 (nI_l (by omega)) ?_
                refine lv_ladd hx hb dX0_takesDigit_81 ?_
                refine tp_l (v := lN ((10 * mn) + dd)) (lN_add (10 * mn) dd) ?_
                refine lv_lstore (lv' := [(4, .long (lN ((10 * mn) + dd))), (3, .int 0), (2, .int 0), (0, .ref (a 2)), (1, .int (nI dd))]) hx hb dX0_takesDigit_82 hl (by decide) rfl (fun ls hl => ?_)
                refine lv_lload hx hb dX0_takesDigit_84 (lv_at hl 0 rfl) ?_
                refine va_getsN (host := "DraftSurvey") hx hb hZ.1 hS hown (va_Nw.use rfl hN.2.2.2.2.1) (fun _ h9 => h9) dX0_takesDigit_86 ?_
                refine lv_aload_n hx hb dX0_takesDigit_89 rfl (lv_at hl 3 rfl) ?_
                refine va_get (D := G) (ci := 0) (v := .int (nI pn)) (C := RX0) (T := TX0) (N := 5) hx hb hts hX0 hown hK hP (2) wX_e2 rfl 1 (by decide) (hts (.fieldLink RX0 15 "DraftSurvey$RowReader" "place" "I") (by decide +kernel)) (fun _ h9 => h9) rfl dX0_takesDigit_90 ?_
                refine va_tl hx hb hZ.2 hS (vp_in_nI (n := pn) (by omega) (by decide)) (v := .long (lN (grT pn))) (congrArg Value.long (grN_at (by omega))) dX0_takesDigit_93 ?_
                have hgr := grT_le pn
                refine lc_le (tgt := 100) hx hb dX0_takesDigit_94 dX0_takesDigit_95 (by decide) (fun c_31 => ?_) (fun c_31 => ?_)
                · skip
                  have c_31 : ¬ (grT pn) < ((10 * mn) + dd) := fun z9 => c_31 ((lN_lt (a := grT pn) (b := ((10 * mn) + dd)) (by omega) (by omega)).mpr z9)
                  refine lv_aload_n hx hb dX0_takesDigit_100 rfl (lv_at hl 3 rfl) ?_
                  refine lv_lload hx hb dX0_takesDigit_101 (lv_at hl 0 rfl) ?_
                  refine va_put (D := G) (ci := 0) (v := .long (lN ((10 * mn) + dd))) (ty := .long) (C := RX0) (T := TX0) (N := 5) hx hb hts hX0 tyX0 tyX0_ok nmX0 hown hK hP hD hS (2) wX_e2 rfl 4 (by decide) (hts (.fieldLink RX0 29 "DraftSurvey$RowReader" "magnitude" "J") (by decide +kernel)) (fun _ h9 => h9) rfl (by decide +kernel) rfl rfl (Nat.le_of_ble_eq_true rfl) dX0_takesDigit_103 (fun H locs hP hD hS => ?_)
                  have hP : va_P G vwCl (wX C a σ (v_mg (eK (nu, pn, dn, gn, mn)) (lN ((10 * mn) + dd)))) H := hP
                  have hD : va_D A (wX C a σ (v_mg (eK (nu, pn, dn, gn, mn)) (lN ((10 * mn) + dd)))) := hD
                  refine lv_aload_n hx hb dX0_takesDigit_106 rfl (lv_at hl 3 rfl) ?_
                  refine lv_dup hx hb dX0_takesDigit_107 rfl ?_
                  refine va_get (D := G) (ci := 0) (v := .int (nI dn)) (C := RX0) (T := TX0) (N := 5) hx hb hts hX0 hown hK hP (2) wX_e2 rfl 2 (by decide) (hts (.fieldLink RX0 22 "DraftSurvey$RowReader" "digits" "I") (by decide +kernel)) (fun _ h9 => h9) rfl dX0_takesDigit_108 ?_
                  refine lv_iconst (v := 1) hx hb dX0_takesDigit_111 (by decide) ?_
                  refine lv_iadd hx hb dX0_takesDigit_112 ?_
                  refine tp_i (v := nI (dn + 1)) (nI_add dn 1) ?_
                  refine va_put (D := G) (ci := 0) (v := .int (nI (dn + 1))) (ty := .int) (C := RX0) (T := TX0) (N := 5) hx hb hts hX0 tyX0 tyX0_ok nmX0 hown hK hP hD hS (2) wX_e2 rfl 2 (by decide) (hts (.fieldLink RX0 22 "DraftSurvey$RowReader" "digits" "I") (by decide +kernel)) (fun _ h9 => h9) rfl (by decide +kernel) rfl rfl (Nat.le_of_ble_eq_true rfl) dX0_takesDigit_113 (fun H locs hP hD hS => ?_)
                  have hP : va_P G vwCl (wX C a σ (v_dg (v_mg (eK (nu, pn, dn, gn, mn)) (lN ((10 * mn) + dd))) (nI (dn + 1)))) H := hP
                  have hD : va_D A (wX C a σ (v_dg (v_mg (eK (nu, pn, dn, gn, mn)) (lN ((10 * mn) + dd))) (nI (dn + 1)))) := hD
                  refine lv_aload_n hx hb dX0_takesDigit_116 rfl (lv_at hl 3 rfl) ?_
                  refine va_get (D := G) (ci := 0) (v := .ref (a 3)) (C := RX0) (T := TX0) (N := 5) hx hb hts hX0 hown hK hP (2) wX_e2 rfl 0 (by decide) (hts (.fieldLink RX0 9 "DraftSurvey$RowReader" "numbers" "[J") (by decide +kernel)) (fun _ h9 => h9) rfl dX0_takesDigit_117 ?_
                  refine lv_aload_n hx hb dX0_takesDigit_120 rfl (lv_at hl 3 rfl) ?_
                  refine va_get (D := G) (ci := 0) (v := .int (nI pn)) (C := RX0) (T := TX0) (N := 5) hx hb hts hX0 hown hK hP (2) wX_e2 rfl 1 (by decide) (hts (.fieldLink RX0 15 "DraftSurvey$RowReader" "place" "I") (by decide +kernel)) (fun _ h9 => h9) rfl dX0_takesDigit_121 ?_
                  refine lv_aload_n hx hb dX0_takesDigit_124 rfl (lv_at hl 3 rfl) ?_
                  refine va_get (D := G) (ci := 0) (v := .int (nI gn)) (C := RX0) (T := TX0) (N := 5) hx hb hts hX0 hown hK hP (2) wX_e2 rfl 3 (by decide) (hts (.fieldLink RX0 25 "DraftSurvey$RowReader" "negative" "Z") (by decide +kernel)) (fun _ h9 => h9) rfl dX0_takesDigit_125 ?_
                  refine lv_if_eq (tgt := 139) hx hb dX0_takesDigit_128 (by decide) (fun c_32 => ?_) (fun c_32 => ?_)
                  · skip
                    have c_32 : gn = 0 := (nI_eq (a := gn) (b := 0) (by omega) (by omega)).mp c_32
                    refine lv_aload_n hx hb dX0_takesDigit_139 rfl (lv_at hl 3 rfl) ?_
                    refine va_get (D := G) (ci := 0) (v := .long (lN ((10 * mn) + dd))) (C := RX0) (T := TX0) (N := 5) hx hb hts hX0 hown hK hP (2) wX_e2 rfl 4 (by decide) (hts (.fieldLink RX0 29 "DraftSurvey$RowReader" "magnitude" "J") (by decide +kernel)) (fun _ h9 => h9) rfl dX0_takesDigit_140 ?_
                    refine as_l (k := pn) hx hb hK hP hD hS (3) 1 wX_e3 rfl rfl (by omega) (by decide) dX0_takesDigit_143 (fun H locs hP hD hS => ?_)
                    have hP : va_P G vwCl (wX C a σ (v_nu (v_dg (v_mg (eK (nu, pn, dn, gn, mn)) (lN ((10 * mn) + dd))) (nI (dn + 1))) (vp_updL nu pn (lN ((10 * mn) + dd))))) H := hP
                    have hD : va_D A (wX C a σ (v_nu (v_dg (v_mg (eK (nu, pn, dn, gn, mn)) (lN ((10 * mn) + dd))) (nI (dn + 1))) (vp_updL nu pn (lN ((10 * mn) + dd))))) := hD
                    refine lv_iconst (v := 1) hx hb dX0_takesDigit_144 (by decide) ?_
                    refine wr_zret hx hb hr hlocks hAe (Or.inr rfl) hP hD hS ?_ dX0_takesDigit_145
                    exact Or.inr ⟨(vp_updL nu pn (lN (10 * mn + dd)), pn, dn + 1, gn, 10 * mn + dd), (if_neg (by show ¬ ((0 < dn ∧ mn = 0) ∨ (0 < gn ∧ dn = 0 ∧ dd = 0)); omega)).trans ((if_neg (by show ¬ grT pn < 10 * mn + dd; omega)).trans (congrArg (fun v => some (vp_updL nu pn v, pn, dn + 1, gn, 10 * mn + dd)) (if_pos c_32))), rfl, rfl⟩
                  · skip
                    have c_32 : ¬ gn = 0 := fun z9 => c_32 ((nI_eq (a := gn) (b := 0) (by omega) (by omega)).mpr z9)
                    exact absurd c_26 c_32
                · skip
                  have c_31 : (grT pn) < ((10 * mn) + dd) := (lN_lt (a := grT pn) (b := ((10 * mn) + dd)) (by omega) (by omega)).mp c_31
                  refine lv_iconst (v := 0) hx hb dX0_takesDigit_98 (by decide) ?_
                  refine wr_zret hx hb hr hlocks hAe (Or.inl rfl) hP hD hS ?_ dX0_takesDigit_99
                  exact Or.inl ⟨(if_neg (by show ¬ ((0 < dn ∧ mn = 0) ∨ (0 < gn ∧ dn = 0 ∧ dd = 0)); omega)).trans (if_pos (by show grT pn < 10 * mn + dd; omega)), rfl, rfl⟩
              · skip
                have c_30 : ¬ pn < 5 := fun z9 => c_30 ((nI_ltI (a := pn) (b := 5) (by omega) (by omega)).mpr z9)
                exact (show False by omega).elim
      · skip
        have c_26 : ¬ gn = 0 := fun z9 => c_26 ((nI_eq (a := gn) (b := 0) (by omega) (by omega)).mpr z9)
        refine lv_aload_n hx hb dX0_takesDigit_29 rfl (lv_at hl 1 rfl) ?_
        refine va_get (D := G) (ci := 0) (v := .int (nI dn)) (C := RX0) (T := TX0) (N := 5) hx hb hts hX0 hown hK hP (2) wX_e2 rfl 2 (by decide) (hts (.fieldLink RX0 22 "DraftSurvey$RowReader" "digits" "I") (by decide +kernel)) (fun _ h9 => h9) rfl dX0_takesDigit_30 ?_
        refine ic_if_ne (tgt := 44) hx hb dX0_takesDigit_33 (by decide) (fun c_33 => ?_) (fun c_33 => ?_)
        · skip
          have c_33 : ¬ dn = 0 := fun z9 => c_33 ((nI_eq (a := dn) (b := 0) (by omega) (by omega)).mpr z9)
          refine lv_iconst (v := 0) hx hb dX0_takesDigit_44 (by decide) ?_
          refine lv_istore_n (lv' := [(3, .int 0), (2, .int 0), (0, .ref (a 2)), (1, .int (nI dd))]) hx hb dX0_takesDigit_45 rfl hl (by decide) rfl (fun ls hl => ?_)
          refine lv_iload_n hx hb dX0_takesDigit_46 rfl (lv_at hl 1 rfl) ?_
          refine ic_if_ne (tgt := 69) hx hb dX0_takesDigit_47 (by decide) (fun c_34 => ?_) (fun c_34 => ?_)
          · skip
            exact absurd c_34 (by decide)
          · skip
            refine lv_iload_n hx hb dX0_takesDigit_50 rfl (lv_at hl 0 rfl) ?_
            refine ic_if_ne (tgt := 69) hx hb dX0_takesDigit_51 (by decide) (fun c_35 => ?_) (fun c_35 => ?_)
            · skip
              exact absurd c_35 (by decide)
            · skip
              refine lv_aload_n hx hb dX0_takesDigit_54 rfl (lv_at hl 2 rfl) ?_
              refine va_get (D := G) (ci := 0) (v := .int (nI pn)) (C := RX0) (T := TX0) (N := 5) hx hb hts hX0 hown hK hP (2) wX_e2 rfl 1 (by decide) (hts (.fieldLink RX0 15 "DraftSurvey$RowReader" "place" "I") (by decide +kernel)) (fun _ h9 => h9) rfl dX0_takesDigit_55 ?_
              refine lv_if_lt (tgt := 69) hx hb dX0_takesDigit_58 (by decide) (fun c_36 => ?_) (fun c_36 => ?_)
              · skip
                have c_36 : pn < 0 := (nI_ltI (a := pn) (b := 0) (by omega) (by omega)).mp c_36
                exact (show False by omega).elim
              · skip
                have c_36 : ¬ pn < 0 := fun z9 => c_36 ((nI_ltI (a := pn) (b := 0) (by omega) (by omega)).mpr z9)
                refine lv_aload_n hx hb dX0_takesDigit_61 rfl (lv_at hl 2 rfl) ?_
                refine va_get (D := G) (ci := 0) (v := .int (nI pn)) (C := RX0) (T := TX0) (N := 5) hx hb hts hX0 hown hK hP (2) wX_e2 rfl 1 (by decide) (hts (.fieldLink RX0 15 "DraftSurvey$RowReader" "place" "I") (by decide +kernel)) (fun _ h9 => h9) rfl dX0_takesDigit_62 ?_
                refine lv_iconst (v := 5) hx hb dX0_takesDigit_65 (by decide) ?_
                refine lv_icmp_lt (tgt := 71) hx hb dX0_takesDigit_66 (by decide) (fun c_37 => ?_) (fun c_37 => ?_)
                · skip
                  have c_37 : pn < 5 := (nI_ltI (a := pn) (b := 5) (by omega) (by omega)).mp c_37
                  refine lv_ldc2 (v := 10) hx hb hown (hts (.constantLong RX0 44 (10)) (by decide +kernel)) dX0_takesDigit_71 ?_
                  refine lv_aload_n hx hb dX0_takesDigit_74 rfl (lv_at hl 2 rfl) ?_
                  refine va_get (D := G) (ci := 0) (v := .long (lN mn)) (C := RX0) (T := TX0) (N := 5) hx hb hts hX0 hown hK hP (2) wX_e2 rfl 4 (by decide) (hts (.fieldLink RX0 29 "DraftSurvey$RowReader" "magnitude" "J") (by decide +kernel)) (fun _ h9 => h9) rfl dX0_takesDigit_75 ?_
                  refine lv_lmul hx hb dX0_takesDigit_78 ?_
                  refine tp_l (v := lN (10 * mn)) (lN_mul 10 mn) ?_
                  refine lv_iload_n hx hb dX0_takesDigit_79 rfl (lv_at hl 3 rfl) ?_
                  refine lv_i2l (v := lN dd) hx hb dX0_takesDigit_80 (nI_l (by omega)) ?_
                  refine lv_ladd hx hb dX0_takesDigit_81 ?_
                  refine tp_l (v := lN ((10 * mn) + dd)) (lN_add (10 * mn) dd) ?_
                  refine lv_lstore (lv' := [(4, .long (lN ((10 * mn) + dd))), (3, .int 0), (2, .int 0), (0, .ref (a 2)), (1, .int (nI dd))]) hx hb dX0_takesDigit_82 hl (by decide) rfl (fun ls hl => ?_)
                  refine lv_lload hx hb dX0_takesDigit_84 (lv_at hl 0 rfl) ?_
                  refine va_getsN (host := "DraftSurvey") hx hb hZ.1 hS hown (va_Nw.use rfl hN.2.2.2.2.1) (fun _ h9 => h9) dX0_takesDigit_86 ?_
                  refine lv_aload_n hx hb dX0_takesDigit_89 rfl (lv_at hl 3 rfl) ?_
                  refine va_get (D := G) (ci := 0) (v := .int (nI pn)) (C := RX0) (T := TX0) (N := 5) hx hb hts hX0 hown hK hP (2) wX_e2 rfl 1 (by decide) (hts (.fieldLink RX0 15 "DraftSurvey$RowReader" "place" "I") (by decide +kernel)) (fun _ h9 => h9) rfl dX0_takesDigit_90 ?_
                  refine va_tl hx hb hZ.2 hS (vp_in_nI (n := pn) (by omega) (by decide)) (v := .long (lN (grT pn))) (congrArg Value.long (grN_at (by omega))) dX0_takesDigit_93 ?_
                  have hgr := grT_le pn
                  refine lc_le (tgt := 100) hx hb dX0_takesDigit_94 dX0_takesDigit_95 (by decide) (fun c_38 => ?_) (fun c_38 => ?_)
                  · skip
                    have c_38 : ¬ (grT pn) < ((10 * mn) + dd) := fun z9 => c_38 ((lN_lt (a := grT pn) (b := ((10 * mn) + dd)) (by omega) (by omega)).mpr z9)
                    refine lv_aload_n hx hb dX0_takesDigit_100 rfl (lv_at hl 3 rfl) ?_
                    refine lv_lload hx hb dX0_takesDigit_101 (lv_at hl 0 rfl) ?_
                    refine va_put (D := G) (ci := 0) (v := .long (lN ((10 * mn) + dd))) (ty := .long) (C := RX0) (T := TX0) (N := 5) hx hb hts hX0 tyX0 tyX0_ok nmX0 hown hK hP hD hS (2) wX_e2 rfl 4 (by decide) (hts (.fieldLink RX0 29 "DraftSurvey$RowReader" "magnitude" "J") (by decide +kernel)) (fun _ h9 => h9) rfl (by decide +kernel) rfl rfl (Nat.le_of_ble_eq_true rfl) dX0_takesDigit_103 (fun H locs hP hD hS => ?_)
                    have hP : va_P G vwCl (wX C a σ (v_mg (eK (nu, pn, dn, gn, mn)) (lN ((10 * mn) + dd)))) H := hP
                    have hD : va_D A (wX C a σ (v_mg (eK (nu, pn, dn, gn, mn)) (lN ((10 * mn) + dd)))) := hD
                    refine lv_aload_n hx hb dX0_takesDigit_106 rfl (lv_at hl 3 rfl) ?_
                    refine lv_dup hx hb dX0_takesDigit_107 rfl ?_
                    refine va_get (D := G) (ci := 0) (v := .int (nI dn)) (C := RX0) (T := TX0) (N := 5) hx hb hts hX0 hown hK hP (2) wX_e2 rfl 2 (by decide) (hts (.fieldLink RX0 22 "DraftSurvey$RowReader" "digits" "I") (by decide +kernel)) (fun _ h9 => h9) rfl dX0_takesDigit_108 ?_
                    refine lv_iconst (v := 1) hx hb dX0_takesDigit_111 (by decide) ?_
                    refine lv_iadd hx hb dX0_takesDigit_112 ?_
                    refine tp_i (v := nI (dn + 1)) (nI_add dn 1) ?_
                    refine va_put (D := G) (ci := 0) (v := .int (nI (dn + 1))) (ty := .int) (C := RX0) (T := TX0) (N := 5) hx hb hts hX0 tyX0 tyX0_ok nmX0 hown hK hP hD hS (2) wX_e2 rfl 2 (by decide) (hts (.fieldLink RX0 22 "DraftSurvey$RowReader" "digits" "I") (by decide +kernel)) (fun _ h9 => h9) rfl (by decide +kernel) rfl rfl (Nat.le_of_ble_eq_true rfl) dX0_takesDigit_113 (fun H locs hP hD hS => ?_)
                    have hP : va_P G vwCl (wX C a σ (v_dg (v_mg (eK (nu, pn, dn, gn, mn)) (lN ((10 * mn) + dd))) (nI (dn + 1)))) H := hP
                    have hD : va_D A (wX C a σ (v_dg (v_mg (eK (nu, pn, dn, gn, mn)) (lN ((10 * mn) + dd))) (nI (dn + 1)))) := hD
                    refine lv_aload_n hx hb dX0_takesDigit_116 rfl (lv_at hl 3 rfl) ?_
                    refine va_get (D := G) (ci := 0) (v := .ref (a 3)) (C := RX0) (T := TX0) (N := 5) hx hb hts hX0 hown hK hP (2) wX_e2 rfl 0 (by decide) (hts (.fieldLink RX0 9 "DraftSurvey$RowReader" "numbers" "[J") (by decide +kernel)) (fun _ h9 => h9) rfl dX0_takesDigit_117 ?_
                    refine lv_aload_n hx hb dX0_takesDigit_120 rfl (lv_at hl 3 rfl) ?_
                    refine va_get (D := G) (ci := 0) (v := .int (nI pn)) (C := RX0) (T := TX0) (N := 5) hx hb hts hX0 hown hK hP (2) wX_e2 rfl 1 (by decide) (hts (.fieldLink RX0 15 "DraftSurvey$RowReader" "place" "I") (by decide +kernel)) (fun _ h9 => h9) rfl dX0_takesDigit_121 ?_
                    refine lv_aload_n hx hb dX0_takesDigit_124 rfl (lv_at hl 3 rfl) ?_
                    refine va_get (D := G) (ci := 0) (v := .int (nI gn)) (C := RX0) (T := TX0) (N := 5) hx hb hts hX0 hown hK hP (2) wX_e2 rfl 3 (by decide) (hts (.fieldLink RX0 25 "DraftSurvey$RowReader" "negative" "Z") (by decide +kernel)) (fun _ h9 => h9) rfl dX0_takesDigit_125 ?_
                    refine lv_if_eq (tgt := 139) hx hb dX0_takesDigit_128 (by decide) (fun c_39 => ?_) (fun c_39 => ?_)
                    · skip
                      have c_39 : gn = 0 := (nI_eq (a := gn) (b := 0) (by omega) (by omega)).mp c_39
                      exact absurd c_39 c_26
                    · skip
                      have c_39 : ¬ gn = 0 := fun z9 => c_39 ((nI_eq (a := gn) (b := 0) (by omega) (by omega)).mpr z9)
                      refine lv_aload_n hx hb dX0_takesDigit_131 rfl (lv_at hl 3 rfl) ?_
                      refine va_get (D := G) (ci := 0) (v := .long (lN ((10 * mn) + dd))) (C := RX0) (T := TX0) (N := 5) hx hb hts hX0 hown hK hP (2) wX_e2 rfl 4 (by decide) (hts (.fieldLink RX0 29 "DraftSurvey$RowReader" "magnitude" "J") (by decide +kernel)) (fun _ h9 => h9) rfl dX0_takesDigit_132 ?_
                      refine lv_lneg hx hb dX0_takesDigit_135 ?_
                      refine lv_goto (tgt := 143) hx hb dX0_takesDigit_136 (by decide) ?_
                      refine as_l (k := pn) hx hb hK hP hD hS (3) 1 wX_e3 rfl rfl (by omega) (by decide) dX0_takesDigit_143 (fun H locs hP hD hS => ?_)
                      have hP : va_P G vwCl (wX C a σ (v_nu (v_dg (v_mg (eK (nu, pn, dn, gn, mn)) (lN ((10 * mn) + dd))) (nI (dn + 1))) (vp_updL nu pn (-(lN ((10 * mn) + dd)))))) H := hP
                      have hD : va_D A (wX C a σ (v_nu (v_dg (v_mg (eK (nu, pn, dn, gn, mn)) (lN ((10 * mn) + dd))) (nI (dn + 1))) (vp_updL nu pn (-(lN ((10 * mn) + dd)))))) := hD
                      refine lv_iconst (v := 1) hx hb dX0_takesDigit_144 (by decide) ?_
                      refine wr_zret hx hb hr hlocks hAe (Or.inr rfl) hP hD hS ?_ dX0_takesDigit_145
                      exact Or.inr ⟨(vp_updL nu pn (-(lN (10 * mn + dd))), pn, dn + 1, gn, 10 * mn + dd), (if_neg (by show ¬ ((0 < dn ∧ mn = 0) ∨ (0 < gn ∧ dn = 0 ∧ dd = 0)); omega)).trans ((if_neg (by show ¬ grT pn < 10 * mn + dd; omega)).trans (congrArg (fun v => some (vp_updL nu pn v, pn, dn + 1, gn, 10 * mn + dd)) (if_neg c_39))), rfl, rfl⟩
                  · skip
                    have c_38 : (grT pn) < ((10 * mn) + dd) := (lN_lt (a := grT pn) (b := ((10 * mn) + dd)) (by omega) (by omega)).mp c_38
                    refine lv_iconst (v := 0) hx hb dX0_takesDigit_98 (by decide) ?_
                    refine wr_zret hx hb hr hlocks hAe (Or.inl rfl) hP hD hS ?_ dX0_takesDigit_99
                    exact Or.inl ⟨(if_neg (by show ¬ ((0 < dn ∧ mn = 0) ∨ (0 < gn ∧ dn = 0 ∧ dd = 0)); omega)).trans (if_pos (by show grT pn < 10 * mn + dd; omega)), rfl, rfl⟩
                · skip
                  have c_37 : ¬ pn < 5 := fun z9 => c_37 ((nI_ltI (a := pn) (b := 5) (by omega) (by omega)).mpr z9)
                  exact (show False by omega).elim
        · skip
          have c_33 : dn = 0 := (nI_eq (a := dn) (b := 0) (by omega) (by omega)).mp c_33
          refine lv_iload_n hx hb dX0_takesDigit_36 rfl (lv_at hl 2 rfl) ?_
          refine ic_if_ne (tgt := 44) hx hb dX0_takesDigit_37 (by decide) (fun c_40 => ?_) (fun c_40 => ?_)
          · skip
            have c_40 : ¬ dd = 0 := fun z9 => c_40 ((nI_eq (a := dd) (b := 0) (by omega) (by omega)).mpr z9)
            refine lv_iconst (v := 0) hx hb dX0_takesDigit_44 (by decide) ?_
            refine lv_istore_n (lv' := [(3, .int 0), (2, .int 0), (0, .ref (a 2)), (1, .int (nI dd))]) hx hb dX0_takesDigit_45 rfl hl (by decide) rfl (fun ls hl => ?_)
            refine lv_iload_n hx hb dX0_takesDigit_46 rfl (lv_at hl 1 rfl) ?_
            refine ic_if_ne (tgt := 69) hx hb dX0_takesDigit_47 (by decide) (fun c_41 => ?_) (fun c_41 => ?_)
            · skip
              exact absurd c_41 (by decide)
            · skip
              refine lv_iload_n hx hb dX0_takesDigit_50 rfl (lv_at hl 0 rfl) ?_
              refine ic_if_ne (tgt := 69) hx hb dX0_takesDigit_51 (by decide) (fun c_42 => ?_) (fun c_42 => ?_)
              · skip
                exact absurd c_42 (by decide)
              · skip
                refine lv_aload_n hx hb dX0_takesDigit_54 rfl (lv_at hl 2 rfl) ?_
                refine va_get (D := G) (ci := 0) (v := .int (nI pn)) (C := RX0) (T := TX0) (N := 5) hx hb hts hX0 hown hK hP (2) wX_e2 rfl 1 (by decide) (hts (.fieldLink RX0 15 "DraftSurvey$RowReader" "place" "I") (by decide +kernel)) (fun _ h9 => h9) rfl dX0_takesDigit_55 ?_
                refine lv_if_lt (tgt := 69) hx hb dX0_takesDigit_58 (by decide) (fun c_43 => ?_) (fun c_43 => ?_)
                · skip
                  have c_43 : pn < 0 := (nI_ltI (a := pn) (b := 0) (by omega) (by omega)).mp c_43
                  exact (show False by omega).elim
                · skip
                  have c_43 : ¬ pn < 0 := fun z9 => c_43 ((nI_ltI (a := pn) (b := 0) (by omega) (by omega)).mpr z9)
                  refine lv_aload_n hx hb dX0_takesDigit_61 rfl (lv_at hl 2 rfl) ?_
                  refine va_get (D := G) (ci := 0) (v := .int (nI pn)) (C := RX0) (T := TX0) (N := 5) hx hb hts hX0 hown hK hP (2) wX_e2 rfl 1 (by decide) (hts (.fieldLink RX0 15 "DraftSurvey$RowReader" "place" "I") (by decide +kernel)) (fun _ h9 => h9) rfl dX0_takesDigit_62 ?_
                  refine lv_iconst (v := 5) hx hb dX0_takesDigit_65 (by decide) ?_
                  refine lv_icmp_lt (tgt := 71) hx hb dX0_takesDigit_66 (by decide) (fun c_44 => ?_) (fun c_44 => ?_)
                  · skip
                    have c_44 : pn < 5 := (nI_ltI (a := pn) (b := 5) (by omega) (by omega)).mp c_44
                    refine lv_ldc2 (v := 10) hx hb hown (hts (.constantLong RX0 44 (10)) (by decide +kernel)) dX0_takesDigit_71 ?_
                    refine lv_aload_n hx hb dX0_takesDigit_74 rfl (lv_at hl 2 rfl) ?_
                    refine va_get (D := G) (ci := 0) (v := .long (lN mn)) (C := RX0) (T := TX0) (N := 5) hx hb hts hX0 hown hK hP (2) wX_e2 rfl 4 (by decide) (hts (.fieldLink RX0 29 "DraftSurvey$RowReader" "magnitude" "J") (by decide +kernel)) (fun _ h9 => h9) rfl dX0_takesDigit_75 ?_
                    refine lv_lmul hx hb dX0_takesDigit_78 ?_
                    refine tp_l (v := lN (10 * mn)) (lN_mul 10 mn) ?_
                    refine lv_iload_n hx hb dX0_takesDigit_79 rfl (lv_at hl 3 rfl) ?_
                    refine lv_i2l (v := lN dd) hx hb dX0_takesDigit_80 (nI_l (by omega)) ?_
                    refine lv_ladd hx hb dX0_takesDigit_81 ?_
                    refine tp_l (v := lN ((10 * mn) + dd)) (lN_add (10 * mn) dd) ?_
                    refine lv_lstore (lv' := [(4, .long (lN ((10 * mn) + dd))), (3, .int 0), (2, .int 0), (0, .ref (a 2)), (1, .int (nI dd))]) hx hb dX0_takesDigit_82 hl (by decide) rfl (fun ls hl => ?_)
                    refine lv_lload hx hb dX0_takesDigit_84 (lv_at hl 0 rfl) ?_
                    refine va_getsN (host := "DraftSurvey") hx hb hZ.1 hS hown (va_Nw.use rfl hN.2.2.2.2.1) (fun _ h9 => h9) dX0_takesDigit_86 ?_
                    refine lv_aload_n hx hb dX0_takesDigit_89 rfl (lv_at hl 3 rfl) ?_
                    refine va_get (D := G) (ci := 0) (v := .int (nI pn)) (C := RX0) (T := TX0) (N := 5) hx hb hts hX0 hown hK hP (2) wX_e2 rfl 1 (by decide) (hts (.fieldLink RX0 15 "DraftSurvey$RowReader" "place" "I") (by decide +kernel)) (fun _ h9 => h9) rfl dX0_takesDigit_90 ?_
                    refine va_tl hx hb hZ.2 hS (vp_in_nI (n := pn) (by omega) (by decide)) (v := .long (lN (grT pn))) (congrArg Value.long (grN_at (by omega))) dX0_takesDigit_93 ?_
                    have hgr := grT_le pn
                    refine lc_le (tgt := 100) hx hb dX0_takesDigit_94 dX0_takesDigit_95 (by decide) (fun c_45 => ?_) (fun c_45 => ?_)
                    · skip
                      have c_45 : ¬ (grT pn) < ((10 * mn) + dd) := fun z9 => c_45 ((lN_lt (a := grT pn) (b := ((10 * mn) + dd)) (by omega) (by omega)).mpr z9)
                      refine lv_aload_n hx hb dX0_takesDigit_100 rfl (lv_at hl 3 rfl) ?_
                      refine lv_lload hx hb dX0_takesDigit_101 (lv_at hl 0 rfl) ?_
                      refine va_put (D := G) (ci := 0) (v := .long (lN ((10 * mn) + dd))) (ty := .long) (C := RX0) (T := TX0) (N := 5) hx hb hts hX0 tyX0 tyX0_ok nmX0 hown hK hP hD hS (2) wX_e2 rfl 4 (by decide) (hts (.fieldLink RX0 29 "DraftSurvey$RowReader" "magnitude" "J") (by decide +kernel)) (fun _ h9 => h9) rfl (by decide +kernel) rfl rfl (Nat.le_of_ble_eq_true rfl) dX0_takesDigit_103 (fun H locs hP hD hS => ?_)
                      have hP : va_P G vwCl (wX C a σ (v_mg (eK (nu, pn, dn, gn, mn)) (lN ((10 * mn) + dd)))) H := hP
                      have hD : va_D A (wX C a σ (v_mg (eK (nu, pn, dn, gn, mn)) (lN ((10 * mn) + dd)))) := hD
                      refine lv_aload_n hx hb dX0_takesDigit_106 rfl (lv_at hl 3 rfl) ?_
                      refine lv_dup hx hb dX0_takesDigit_107 rfl ?_
                      refine va_get (D := G) (ci := 0) (v := .int (nI dn)) (C := RX0) (T := TX0) (N := 5) hx hb hts hX0 hown hK hP (2) wX_e2 rfl 2 (by decide) (hts (.fieldLink RX0 22 "DraftSurvey$RowReader" "digits" "I") (by decide +kernel)) (fun _ h9 => h9) rfl dX0_takesDigit_108 ?_
                      refine lv_iconst (v := 1) hx hb dX0_takesDigit_111 (by decide) ?_
                      refine lv_iadd hx hb dX0_takesDigit_112 ?_
                      refine tp_i (v := nI (dn + 1)) (nI_add dn 1) ?_
                      refine va_put (D := G) (ci := 0) (v := .int (nI (dn + 1))) (ty := .int) (C := RX0) (T := TX0) (N := 5) hx hb hts hX0 tyX0 tyX0_ok nmX0 hown hK hP hD hS (2) wX_e2 rfl 2 (by decide) (hts (.fieldLink RX0 22 "DraftSurvey$RowReader" "digits" "I") (by decide +kernel)) (fun _ h9 => h9) rfl (by decide +kernel) rfl rfl (Nat.le_of_ble_eq_true rfl) dX0_takesDigit_113 (fun H locs hP hD hS => ?_)
                      have hP : va_P G vwCl (wX C a σ (v_dg (v_mg (eK (nu, pn, dn, gn, mn)) (lN ((10 * mn) + dd))) (nI (dn + 1)))) H := hP
                      have hD : va_D A (wX C a σ (v_dg (v_mg (eK (nu, pn, dn, gn, mn)) (lN ((10 * mn) + dd))) (nI (dn + 1)))) := hD
                      refine lv_aload_n hx hb dX0_takesDigit_116 rfl (lv_at hl 3 rfl) ?_
                      refine va_get (D := G) (ci := 0) (v := .ref (a 3)) (C := RX0) (T := TX0) (N := 5) hx hb hts hX0 hown hK hP (2) wX_e2 rfl 0 (by decide) (hts (.fieldLink RX0 9 "DraftSurvey$RowReader" "numbers" "[J") (by decide +kernel)) (fun _ h9 => h9) rfl dX0_takesDigit_117 ?_
                      refine lv_aload_n hx hb dX0_takesDigit_120 rfl (lv_at hl 3 rfl) ?_
                      refine va_get (D := G) (ci := 0) (v := .int (nI pn)) (C := RX0) (T := TX0) (N := 5) hx hb hts hX0 hown hK hP (2) wX_e2 rfl 1 (by decide) (hts (.fieldLink RX0 15 "DraftSurvey$RowReader" "place" "I") (by decide +kernel)) (fun _ h9 => h9) rfl dX0_takesDigit_121 ?_
                      refine lv_aload_n hx hb dX0_takesDigit_124 rfl (lv_at hl 3 rfl) ?_
                      refine va_get (D := G) (ci := 0) (v := .int (nI gn)) (C := RX0) (T := TX0) (N := 5) hx hb hts hX0 hown hK hP (2) wX_e2 rfl 3 (by decide) (hts (.fieldLink RX0 25 "DraftSurvey$RowReader" "negative" "Z") (by decide +kernel)) (fun _ h9 => h9) rfl dX0_takesDigit_125 ?_
                      refine lv_if_eq (tgt := 139) hx hb dX0_takesDigit_128 (by decide) (fun c_46 => ?_) (fun c_46 => ?_)
                      · skip
                        have c_46 : gn = 0 := (nI_eq (a := gn) (b := 0) (by omega) (by omega)).mp c_46
                        exact absurd c_46 c_26
                      · skip
                        have c_46 : ¬ gn = 0 := fun z9 => c_46 ((nI_eq (a := gn) (b := 0) (by omega) (by omega)).mpr z9)
                        refine lv_aload_n hx hb dX0_takesDigit_131 rfl (lv_at hl 3 rfl) ?_
                        refine va_get (D := G) (ci := 0) (v := .long (lN ((10 * mn) + dd))) (C := RX0) (T := TX0) (N := 5) hx hb hts hX0 hown hK hP (2) wX_e2 rfl 4 (by decide) (hts (.fieldLink RX0 29 "DraftSurvey$RowReader" "magnitude" "J") (by decide +kernel)) (fun _ h9 => h9) rfl dX0_takesDigit_132 ?_
                        refine lv_lneg hx hb dX0_takesDigit_135 ?_
                        refine lv_goto (tgt := 143) hx hb dX0_takesDigit_136 (by decide) ?_
                        refine as_l (k := pn) hx hb hK hP hD hS (3) 1 wX_e3 rfl rfl (by omega) (by decide) dX0_takesDigit_143 (fun H locs hP hD hS => ?_)
                        have hP : va_P G vwCl (wX C a σ (v_nu (v_dg (v_mg (eK (nu, pn, dn, gn, mn)) (lN ((10 * mn) + dd))) (nI (dn + 1))) (vp_updL nu pn (-(lN ((10 * mn) + dd)))))) H := hP
                        have hD : va_D A (wX C a σ (v_nu (v_dg (v_mg (eK (nu, pn, dn, gn, mn)) (lN ((10 * mn) + dd))) (nI (dn + 1))) (vp_updL nu pn (-(lN ((10 * mn) + dd)))))) := hD
                        refine lv_iconst (v := 1) hx hb dX0_takesDigit_144 (by decide) ?_
                        refine wr_zret hx hb hr hlocks hAe (Or.inr rfl) hP hD hS ?_ dX0_takesDigit_145
                        exact Or.inr ⟨(vp_updL nu pn (-(lN (10 * mn + dd))), pn, dn + 1, gn, 10 * mn + dd), (if_neg (by show ¬ ((0 < dn ∧ mn = 0) ∨ (0 < gn ∧ dn = 0 ∧ dd = 0)); omega)).trans ((if_neg (by show ¬ grT pn < 10 * mn + dd; omega)).trans (congrArg (fun v => some (vp_updL nu pn v, pn, dn + 1, gn, 10 * mn + dd)) (if_neg c_46))), rfl, rfl⟩
                    · skip
                      have c_45 : (grT pn) < ((10 * mn) + dd) := (lN_lt (a := grT pn) (b := ((10 * mn) + dd)) (by omega) (by omega)).mp c_45
                      refine lv_iconst (v := 0) hx hb dX0_takesDigit_98 (by decide) ?_
                      refine wr_zret hx hb hr hlocks hAe (Or.inl rfl) hP hD hS ?_ dX0_takesDigit_99
                      exact Or.inl ⟨(if_neg (by show ¬ ((0 < dn ∧ mn = 0) ∨ (0 < gn ∧ dn = 0 ∧ dd = 0)); omega)).trans (if_pos (by show grT pn < 10 * mn + dd; omega)), rfl, rfl⟩
                  · skip
                    have c_44 : ¬ pn < 5 := fun z9 => c_44 ((nI_ltI (a := pn) (b := 5) (by omega) (by omega)).mpr z9)
                    exact (show False by omega).elim
          · skip
            have c_40 : dd = 0 := (nI_eq (a := dd) (b := 0) (by omega) (by omega)).mp c_40
            refine lv_iconst (v := 1) hx hb dX0_takesDigit_40 (by decide) ?_
            refine lv_goto (tgt := 45) hx hb dX0_takesDigit_41 (by decide) ?_
            refine lv_istore_n (lv' := [(3, .int 1), (2, .int 0), (0, .ref (a 2)), (1, .int (nI dd))]) hx hb dX0_takesDigit_45 rfl hl (by decide) rfl (fun ls hl => ?_)
            refine lv_iload_n hx hb dX0_takesDigit_46 rfl (lv_at hl 1 rfl) ?_
            refine ic_if_ne (tgt := 69) hx hb dX0_takesDigit_47 (by decide) (fun c_47 => ?_) (fun c_47 => ?_)
            · skip
              exact absurd c_47 (by decide)
            · skip
              refine lv_iload_n hx hb dX0_takesDigit_50 rfl (lv_at hl 0 rfl) ?_
              refine ic_if_ne (tgt := 69) hx hb dX0_takesDigit_51 (by decide) (fun c_48 => ?_) (fun c_48 => ?_)
              · skip
                refine lv_iconst (v := 0) hx hb dX0_takesDigit_69 (by decide) ?_
                refine wr_zret hx hb hr hlocks hAe (Or.inl rfl) hP hD hS ?_ dX0_takesDigit_70
                exact Or.inl ⟨if_pos (by show (0 < dn ∧ mn = 0) ∨ (0 < gn ∧ dn = 0 ∧ dd = 0); omega), rfl, rfl⟩
              · skip
                exact absurd c_48 (by decide)
    · skip
      have c_25 : mn = 0 := (lN_eq (a := mn) (b := 0) (by omega) (by omega)).mp c_25
      refine lv_iconst (v := 1) hx hb dX0_takesDigit_16 (by decide) ?_
      refine lv_goto (tgt := 21) hx hb dX0_takesDigit_17 (by decide) ?_
      refine lv_istore_n (lv' := [(2, .int 1), (0, .ref (a 2)), (1, .int (nI dd))]) hx hb dX0_takesDigit_21 rfl hl (by decide) rfl (fun ls hl => ?_)
      refine lv_aload_n hx hb dX0_takesDigit_22 rfl (lv_at hl 1 rfl) ?_
      refine va_get (D := G) (ci := 0) (v := .int (nI gn)) (C := RX0) (T := TX0) (N := 5) hx hb hts hX0 hown hK hP (2) wX_e2 rfl 3 (by decide) (hts (.fieldLink RX0 25 "DraftSurvey$RowReader" "negative" "Z") (by decide +kernel)) (fun _ h9 => h9) rfl dX0_takesDigit_23 ?_
      refine lv_if_eq (tgt := 44) hx hb dX0_takesDigit_26 (by decide) (fun c_49 => ?_) (fun c_49 => ?_)
      · skip
        have c_49 : gn = 0 := (nI_eq (a := gn) (b := 0) (by omega) (by omega)).mp c_49
        refine lv_iconst (v := 0) hx hb dX0_takesDigit_44 (by decide) ?_
        refine lv_istore_n (lv' := [(3, .int 0), (2, .int 1), (0, .ref (a 2)), (1, .int (nI dd))]) hx hb dX0_takesDigit_45 rfl hl (by decide) rfl (fun ls hl => ?_)
        refine lv_iload_n hx hb dX0_takesDigit_46 rfl (lv_at hl 1 rfl) ?_
        refine ic_if_ne (tgt := 69) hx hb dX0_takesDigit_47 (by decide) (fun c_50 => ?_) (fun c_50 => ?_)
        · skip
          refine lv_iconst (v := 0) hx hb dX0_takesDigit_69 (by decide) ?_
          refine wr_zret hx hb hr hlocks hAe (Or.inl rfl) hP hD hS ?_ dX0_takesDigit_70
          exact Or.inl ⟨if_pos (by show (0 < dn ∧ mn = 0) ∨ (0 < gn ∧ dn = 0 ∧ dd = 0); omega), rfl, rfl⟩
        · skip
          exact absurd c_50 (by decide)
      · skip
        have c_49 : ¬ gn = 0 := fun z9 => c_49 ((nI_eq (a := gn) (b := 0) (by omega) (by omega)).mpr z9)
        refine lv_aload_n hx hb dX0_takesDigit_29 rfl (lv_at hl 1 rfl) ?_
        refine va_get (D := G) (ci := 0) (v := .int (nI dn)) (C := RX0) (T := TX0) (N := 5) hx hb hts hX0 hown hK hP (2) wX_e2 rfl 2 (by decide) (hts (.fieldLink RX0 22 "DraftSurvey$RowReader" "digits" "I") (by decide +kernel)) (fun _ h9 => h9) rfl dX0_takesDigit_30 ?_
        refine ic_if_ne (tgt := 44) hx hb dX0_takesDigit_33 (by decide) (fun c_51 => ?_) (fun c_51 => ?_)
        · skip
          have c_51 : ¬ dn = 0 := fun z9 => c_51 ((nI_eq (a := dn) (b := 0) (by omega) (by omega)).mpr z9)
          refine lv_iconst (v := 0) hx hb dX0_takesDigit_44 (by decide) ?_
          refine lv_istore_n (lv' := [(3, .int 0), (2, .int 1), (0, .ref (a 2)), (1, .int (nI dd))]) hx hb dX0_takesDigit_45 rfl hl (by decide) rfl (fun ls hl => ?_)
          refine lv_iload_n hx hb dX0_takesDigit_46 rfl (lv_at hl 1 rfl) ?_
          refine ic_if_ne (tgt := 69) hx hb dX0_takesDigit_47 (by decide) (fun c_52 => ?_) (fun c_52 => ?_)
          · skip
            refine lv_iconst (v := 0) hx hb dX0_takesDigit_69 (by decide) ?_
            refine wr_zret hx hb hr hlocks hAe (Or.inl rfl) hP hD hS ?_ dX0_takesDigit_70
            exact Or.inl ⟨if_pos (by show (0 < dn ∧ mn = 0) ∨ (0 < gn ∧ dn = 0 ∧ dd = 0); omega), rfl, rfl⟩
          · skip
            exact absurd c_52 (by decide)
        · skip
          have c_51 : dn = 0 := (nI_eq (a := dn) (b := 0) (by omega) (by omega)).mp c_51
          refine lv_iload_n hx hb dX0_takesDigit_36 rfl (lv_at hl 2 rfl) ?_
          refine ic_if_ne (tgt := 44) hx hb dX0_takesDigit_37 (by decide) (fun c_53 => ?_) (fun c_53 => ?_)
          · skip
            have c_53 : ¬ dd = 0 := fun z9 => c_53 ((nI_eq (a := dd) (b := 0) (by omega) (by omega)).mpr z9)
            refine lv_iconst (v := 0) hx hb dX0_takesDigit_44 (by decide) ?_
            refine lv_istore_n (lv' := [(3, .int 0), (2, .int 1), (0, .ref (a 2)), (1, .int (nI dd))]) hx hb dX0_takesDigit_45 rfl hl (by decide) rfl (fun ls hl => ?_)
            refine lv_iload_n hx hb dX0_takesDigit_46 rfl (lv_at hl 1 rfl) ?_
            refine ic_if_ne (tgt := 69) hx hb dX0_takesDigit_47 (by decide) (fun c_54 => ?_) (fun c_54 => ?_)
            · skip
              refine lv_iconst (v := 0) hx hb dX0_takesDigit_69 (by decide) ?_
              refine wr_zret hx hb hr hlocks hAe (Or.inl rfl) hP hD hS ?_ dX0_takesDigit_70
              exact Or.inl ⟨if_pos (by show (0 < dn ∧ mn = 0) ∨ (0 < gn ∧ dn = 0 ∧ dd = 0); omega), rfl, rfl⟩
            · skip
              exact absurd c_54 (by decide)
          · skip
            have c_53 : dd = 0 := (nI_eq (a := dd) (b := 0) (by omega) (by omega)).mp c_53
            refine lv_iconst (v := 1) hx hb dX0_takesDigit_40 (by decide) ?_
            refine lv_goto (tgt := 45) hx hb dX0_takesDigit_41 (by decide) ?_
            refine lv_istore_n (lv' := [(3, .int 1), (2, .int 1), (0, .ref (a 2)), (1, .int (nI dd))]) hx hb dX0_takesDigit_45 rfl hl (by decide) rfl (fun ls hl => ?_)
            refine lv_iload_n hx hb dX0_takesDigit_46 rfl (lv_at hl 1 rfl) ?_
            refine ic_if_ne (tgt := 69) hx hb dX0_takesDigit_47 (by decide) (fun c_55 => ?_) (fun c_55 => ?_)
            · skip
              refine lv_iconst (v := 0) hx hb dX0_takesDigit_69 (by decide) ?_
              refine wr_zret hx hb hr hlocks hAe (Or.inl rfl) hP hD hS ?_ dX0_takesDigit_70
              exact Or.inl ⟨if_pos (by show (0 < dn ∧ mn = 0) ∨ (0 < gn ∧ dn = 0 ∧ dd = 0); omega), rfl, rfl⟩
            · skip
              exact absurd c_55 (by decide)

set_option maxHeartbeats 4000000 in
set_option maxRecDepth 100000 in
theorem c_takes (l : Launch) (G : va_G) (C : Nat → ClassId) (a : Nat → Nat) (σ : SG) (nu : Nat → Int64) (pn dn gn mn : Nat) (tG : Nat) (hp : pn < 5) (hd : dn ≤ 40) (hg : gn ≤ 1) (hm : mn ≤ 9999999) (c_ : Int32) : WrG l yX0_takes wsX0_takes ({ frames := 2, cells := 0, slots := 0, locals := 40 } : Room) G (tysC C) tG (wX C a σ (eK (nu, pn, dn, gn, mn))) [.ref (a 2), .int c_] (pT C a σ (nu, pn, dn, gn, mn) (nSt (nu, pn, dn, gn, mn) c_)) := by
  intro sz
  refine Met.ofW (cc := cX0_takes) (maxL := 2) (ret := (some .boolean)) (by decide) rfl ?_
  intro p e s m args below meth c s₁ B hml hv
  obtain ⟨rfl, ⟨hsz, hP, hK, hN, hD0⟩, hZ⟩ := hv
  have hx := B.exec
  have hb := B.bytes
  have hr := B.returns
  have hts := atoms_spec (ws := wsX0_takes) B.pre
  have hown : s.vm.findClass RX0 = some m.cls := findClass_of_methodNamed B.named
  have hlocks := B.notSynchronized
  subst hsz
  have hD := hD0.self (sz := s.heap.size)
  generalize hAe : va_A (wX C a σ (eK (nu, pn, dn, gn, mn))) s.heap.size = A at hD hZ ⊢
  have hA : ∀ q : Nat, s.heap.size ≤ q → A q := fun q h => by rw [← hAe]; exact Or.inr h
  have hS : va_S A s.heap s.heap [] := va_S.rf
  have hP : va_P G vwCl (wX C a σ (eK (nu, pn, dn, gn, mn))) s.heap := hP
  have hl := lv_entry ([.ref (a 2), .int c_]) (n := 2) (Nat.le_of_ble_eq_true rfl)
  rw [lg_entry_eq]
  generalize (lg_sl ([.ref (a 2), .int c_]) ++ List.replicate (2 - (lg_sl ([.ref (a 2), .int c_])).length) Slot.unset).toArray = ls at hl ⊢
  have hl : lv_has ls 2 [(0, .ref (a 2)), (1, .int c_)] := hl
  refine lv_iload_n hx hb dX0_takes_0 rfl (lv_at hl 1 rfl) ?_
  refine lv_bipush (v := 44) hx hb dX0_takes_1 (by decide) ?_
  refine ic_ne (tgt := 11) hx hb dX0_takes_3 (by decide) (fun c_1 => ?_) (fun c_1 => ?_)
  · skip
    refine lv_iload_n hx hb dX0_takes_11 rfl (lv_at hl 1 rfl) ?_
    refine lv_bipush (v := 45) hx hb dX0_takes_12 (by decide) ?_
    refine ic_ne (tgt := 22) hx hb dX0_takes_14 (by decide) (fun c_2 => ?_) (fun c_2 => ?_)
    · skip
      refine lv_iload_n hx hb dX0_takes_22 rfl (lv_at hl 1 rfl) ?_
      refine lv_bipush (v := 48) hx hb dX0_takes_23 (by decide) ?_
      refine lv_icmp_lt (tgt := 43) hx hb dX0_takes_25 (by decide) (fun c_3 => ?_) (fun c_3 => ?_)
      · skip
        refine lv_iconst (v := 0) hx hb dX0_takes_43 (by decide) ?_
        refine wr_zret hx hb hr hlocks hAe (Or.inl rfl) hP hD hS ?_ dX0_takes_44
        exact Or.inl ⟨(if_neg c_1).trans ((if_neg c_2).trans (if_neg (fun q => q.1 c_3))), rfl, rfl⟩
      · skip
        refine lv_iload_n hx hb dX0_takes_28 rfl (lv_at hl 1 rfl) ?_
        refine lv_bipush (v := 57) hx hb dX0_takes_29 (by decide) ?_
        refine lv_icmp_gt (tgt := 43) hx hb dX0_takes_31 (by decide) (fun c_4 => ?_) (fun c_4 => ?_)
        · skip
          refine lv_iconst (v := 0) hx hb dX0_takes_43 (by decide) ?_
          refine wr_zret hx hb hr hlocks hAe (Or.inl rfl) hP hD hS ?_ dX0_takes_44
          exact Or.inl ⟨(if_neg c_1).trans ((if_neg c_2).trans (if_neg (fun q => q.2 c_4))), rfl, rfl⟩
        · skip
          obtain ⟨cn, h48, h57, hce⟩ := ch_nat c_3 c_4
          subst hce
          refine lv_aload_n hx hb dX0_takes_34 rfl (lv_at hl 0 rfl) ?_
          refine lv_iload_n hx hb dX0_takes_35 rfl (lv_at hl 1 rfl) ?_
          refine lv_bipush (v := 48) hx hb dX0_takes_36 (by decide) ?_
          refine lv_isub hx hb dX0_takes_38 ?_
          refine tp_i (v := nI (cn - 48)) (pk_sub (a := cn) (b := 48) (by omega)) ?_
          refine wr_callG (As := [.int (nI (cn - 48))]) (rest := []) ⟨hx, hb, hml, hown, hts⟩ (c_digit l G C a σ nu pn dn gn mn tG hp hd hg hm (dd := (cn - 48)) (by omega)) (cwV 1 hts gX0_takes_X0_takesDigit rfl rfl rfl (by decide +kernel) ⟨Nat.le_of_ble_eq_true rfl, Nat.le_of_ble_eq_true rfl⟩) hK hN hP hD hS hA hZ (2) 0 wX_e2 rfl rfl rfl hl.1 rfl (Nat.le_of_ble_eq_true rfl) dX0_takes_39 ⟨Nat.zero_le _, Nat.zero_le _⟩ (fun v_ w1 H locs hw hP hD hS => ?_)
          rcases hw with ⟨e_, rfl, rfl⟩ | ⟨z1, e_, rfl, rfl⟩
          · skip
            refine W.eq (g2 := F0 m 42 ls [.int 0]) rfl ?_
            refine wr_zret hx hb hr hlocks hAe (Or.inl rfl) hP hD hS ?_ dX0_takes_42
            exact Or.inl ⟨(if_neg c_1).trans ((if_neg c_2).trans ((if_pos ⟨c_3, c_4⟩).trans (by rw [cl48 h48 h57]; exact e_))), rfl, rfl⟩
          · skip
            refine W.eq (g2 := F0 m 42 ls [.int 1]) rfl ?_
            refine wr_zret hx hb hr hlocks hAe (Or.inr rfl) hP hD hS ?_ dX0_takes_42
            exact Or.inr ⟨z1, (if_neg c_1).trans ((if_neg c_2).trans ((if_pos ⟨c_3, c_4⟩).trans (by rw [cl48 h48 h57]; exact e_))), rfl, rfl⟩
    · skip
      refine lv_aload_n hx hb dX0_takes_17 rfl (lv_at hl 0 rfl) ?_
      refine wr_callV (As := []) (rest := []) ⟨hx, hb, hml, hown, hts⟩ (c_minus l G C a σ nu pn dn gn mn hp hd hg hm) (cwV 0 hts gX0_takes_X0_takesMinus rfl rfl rfl (by decide +kernel) ⟨Nat.le_of_ble_eq_true rfl, Nat.le_of_ble_eq_true rfl⟩) hK hN hP hD hS hA (2) 0 wX_e2 rfl rfl rfl hl.1 rfl (Nat.le_of_ble_eq_true rfl) dX0_takes_18 ⟨Nat.zero_le _, Nat.zero_le _⟩ (fun v_ w1 H locs hw hP hD hS => ?_)
      rcases hw with ⟨e_, rfl, rfl⟩ | ⟨z1, e_, rfl, rfl⟩
      · skip
        refine W.eq (g2 := F0 m 21 ls [.int 0]) rfl ?_
        refine wr_zret hx hb hr hlocks hAe (Or.inl rfl) hP hD hS ?_ dX0_takes_21
        exact Or.inl ⟨(if_neg c_1).trans ((if_pos c_2).trans e_), rfl, rfl⟩
      · skip
        refine W.eq (g2 := F0 m 21 ls [.int 1]) rfl ?_
        refine wr_zret hx hb hr hlocks hAe (Or.inr rfl) hP hD hS ?_ dX0_takes_21
        exact Or.inr ⟨z1, (if_neg c_1).trans ((if_pos c_2).trans e_), rfl, rfl⟩
  · skip
    refine lv_aload_n hx hb dX0_takes_6 rfl (lv_at hl 0 rfl) ?_
    refine wr_callV (As := []) (rest := []) ⟨hx, hb, hml, hown, hts⟩ (c_comma l G C a σ nu pn dn gn mn hp hd hg hm) (cwV 0 hts gX0_takes_X0_takesComma rfl rfl rfl (by decide +kernel) ⟨Nat.le_of_ble_eq_true rfl, Nat.le_of_ble_eq_true rfl⟩) hK hN hP hD hS hA (2) 0 wX_e2 rfl rfl rfl hl.1 rfl (Nat.le_of_ble_eq_true rfl) dX0_takes_7 ⟨Nat.zero_le _, Nat.zero_le _⟩ (fun v_ w1 H locs hw hP hD hS => ?_)
    rcases hw with ⟨e_, rfl, rfl⟩ | ⟨z1, e_, rfl, rfl⟩
    · skip
      refine W.eq (g2 := F0 m 10 ls [.int 0]) rfl ?_
      refine wr_zret hx hb hr hlocks hAe (Or.inl rfl) hP hD hS ?_ dX0_takes_10
      exact Or.inl ⟨(if_pos c_1).trans e_, rfl, rfl⟩
    · skip
      refine W.eq (g2 := F0 m 10 ls [.int 1]) rfl ?_
      refine wr_zret hx hb hr hlocks hAe (Or.inr rfl) hP hD hS ?_ dX0_takes_10
      exact Or.inr ⟨z1, (if_pos c_1).trans e_, rfl, rfl⟩

set_option maxHeartbeats 4000000 in
set_option maxRecDepth 100000 in
theorem c_isC (l : Launch) (G : va_G) (C : Nat → ClassId) (a : Nat → Nat) (σ : SG) (nu : Nat → Int64) (pn dn gn mn : Nat) (hp : pn < 5) (hd : dn ≤ 40) (hg : gn ≤ 1) (hm : mn ≤ 9999999) : RdC l yX0_isComplete wsX0_isComplete ({ frames := 0, cells := 0, slots := 0, locals := 0 } : Room) G (tysC C) (wX C a σ (eK (nu, pn, dn, gn, mn))) [.ref (a 2)] (.int (if pn = 4 ∧ 0 < dn then 1 else 0)) := by
  refine Met.ofW (cc := cX0_isComplete) (maxL := 1) (ret := (some .boolean)) (by decide) rfl ?_
  intro p e s m args below meth c s₁ B hml hv
  obtain ⟨rfl, hP, hK, hN⟩ := hv
  have hx := B.exec
  have hb := B.bytes
  have hr := B.returns
  have hts := atoms_spec (ws := wsX0_isComplete) B.pre
  have hown : s.vm.findClass RX0 = some m.cls := findClass_of_methodNamed B.named
  have hlocks := B.notSynchronized
  have hX0 : ∀ w ∈ wsX00, w ∈ wsX0_isComplete := by decide +kernel
  have hP : va_P G vwCl (wX C a σ (eK (nu, pn, dn, gn, mn))) s.heap := hP
  have hl := lv_entry ([.ref (a 2)]) (n := 1) (Nat.le_of_ble_eq_true rfl)
  rw [lg_entry_eq]
  generalize (lg_sl ([.ref (a 2)]) ++ List.replicate (1 - (lg_sl ([.ref (a 2)])).length) Slot.unset).toArray = ls at hl ⊢
  have hl : lv_has ls 1 [(0, .ref (a 2))] := hl
  refine lv_aload_n hx hb dX0_isComplete_0 rfl (lv_at hl 0 rfl) ?_
  refine va_get (D := G) (ci := 0) (v := .int (nI pn)) (C := RX0) (T := TX0) (N := 5) hx hb hts hX0 hown hK hP (2) wX_e2 rfl 1 (by decide) (hts (.fieldLink RX0 15 "DraftSurvey$RowReader" "place" "I") (by decide +kernel)) (fun _ h9 => h9) rfl dX0_isComplete_1 ?_
  refine lv_iconst (v := 4) hx hb dX0_isComplete_4 (by decide) ?_
  refine ic_ne (tgt := 19) hx hb dX0_isComplete_5 (by decide) (fun c_1 => ?_) (fun c_1 => ?_)
  · skip
    have c_1 : ¬ pn = 4 := fun z9 => c_1 ((nI_eq (a := pn) (b := 4) (by omega) (by omega)).mpr z9)
    refine lv_iconst (v := 0) hx hb dX0_isComplete_19 (by decide) ?_
    exact rd_zret hx hb hr hlocks (Or.inl rfl) (congrArg Value.int (if_neg (by omega)).symm) dX0_isComplete_20
  · skip
    have c_1 : pn = 4 := (nI_eq (a := pn) (b := 4) (by omega) (by omega)).mp c_1
    refine lv_aload_n hx hb dX0_isComplete_8 rfl (lv_at hl 0 rfl) ?_
    refine va_get (D := G) (ci := 0) (v := .int (nI dn)) (C := RX0) (T := TX0) (N := 5) hx hb hts hX0 hown hK hP (2) wX_e2 rfl 2 (by decide) (hts (.fieldLink RX0 22 "DraftSurvey$RowReader" "digits" "I") (by decide +kernel)) (fun _ h9 => h9) rfl dX0_isComplete_9 ?_
    refine ic_if_le (tgt := 19) hx hb dX0_isComplete_12 (by decide) (fun c_2 => ?_) (fun c_2 => ?_)
    · skip
      have c_2 : ¬ 0 < dn := fun z9 => c_2 ((nI_ltI (a := 0) (b := dn) (by omega) (by omega)).mpr z9)
      refine lv_iconst (v := 0) hx hb dX0_isComplete_19 (by decide) ?_
      exact rd_zret hx hb hr hlocks (Or.inl rfl) (congrArg Value.int (if_neg (by omega)).symm) dX0_isComplete_20
    · skip
      have c_2 : 0 < dn := (nI_ltI (a := 0) (b := dn) (by omega) (by omega)).mp c_2
      refine lv_iconst (v := 1) hx hb dX0_isComplete_15 (by decide) ?_
      refine lv_goto (tgt := 20) hx hb dX0_isComplete_16 (by decide) ?_
      exact rd_zret hx hb hr hlocks (Or.inr rfl) (congrArg Value.int (if_pos (by omega)).symm) dX0_isComplete_20

set_option maxHeartbeats 4000000 in
set_option maxRecDepth 100000 in
theorem c_numAt (l : Launch) (G : va_G) (C : Nat → ClassId) (a : Nat → Nat) (σ : SG) (κ : KX) {q : Nat} (hq : q < 5) : RdC l yX0_numberAt wsX0_numberAt ({ frames := 0, cells := 0, slots := 0, locals := 0 } : Room) G (tysC C) (wX C a σ κ) [.ref (a 2), .int (nI q)] (.long (k_nu κ q)) := by
  refine Met.ofW (cc := cX0_numberAt) (maxL := 2) (ret := (some .long)) (by decide) rfl ?_
  intro p e s m args below meth c s₁ B hml hv
  obtain ⟨rfl, hP, hK, hN⟩ := hv
  have hx := B.exec
  have hb := B.bytes
  have hr := B.returns
  have hts := atoms_spec (ws := wsX0_numberAt) B.pre
  have hown : s.vm.findClass RX0 = some m.cls := findClass_of_methodNamed B.named
  have hlocks := B.notSynchronized
  have hX0 : ∀ w ∈ wsX00, w ∈ wsX0_numberAt := by decide +kernel
  have hP : va_P G vwCl (wX C a σ κ) s.heap := hP
  have hl := lv_entry ([.ref (a 2), .int (nI q)]) (n := 2) (Nat.le_of_ble_eq_true rfl)
  rw [lg_entry_eq]
  generalize (lg_sl ([.ref (a 2), .int (nI q)]) ++ List.replicate (2 - (lg_sl ([.ref (a 2), .int (nI q)])).length) Slot.unset).toArray = ls at hl ⊢
  have hl : lv_has ls 2 [(0, .ref (a 2)), (1, .int (nI q))] := hl
  refine lv_iload_n hx hb dX0_numberAt_0 rfl (lv_at hl 1 rfl) ?_
  refine lv_if_lt (tgt := 9) hx hb dX0_numberAt_1 (by decide) (fun c_1 => ?_) (fun c_1 => ?_)
  · skip
    have c_1 : q < 0 := (nI_ltI (a := q) (b := 0) (by omega) (by omega)).mp c_1
    exact (show False by omega).elim
  · skip
    have c_1 : ¬ q < 0 := fun z9 => c_1 ((nI_ltI (a := q) (b := 0) (by omega) (by omega)).mpr z9)
    refine lv_iload_n hx hb dX0_numberAt_4 rfl (lv_at hl 1 rfl) ?_
    refine lv_iconst (v := 5) hx hb dX0_numberAt_5 (by decide) ?_
    refine lv_icmp_lt (tgt := 13) hx hb dX0_numberAt_6 (by decide) (fun c_2 => ?_) (fun c_2 => ?_)
    · skip
      have c_2 : q < 5 := (nI_ltI (a := q) (b := 5) (by omega) (by omega)).mp c_2
      refine lv_aload_n hx hb dX0_numberAt_13 rfl (lv_at hl 0 rfl) ?_
      refine va_get (D := G) (ci := 0) (v := .ref (a 3)) (C := RX0) (T := TX0) (N := 5) hx hb hts hX0 hown hK hP (2) wX_e2 rfl 0 (by decide) (hts (.fieldLink RX0 9 "DraftSurvey$RowReader" "numbers" "[J") (by decide +kernel)) (fun _ h9 => h9) rfl dX0_numberAt_14 ?_
      refine lv_iload_n hx hb dX0_numberAt_17 rfl (lv_at hl 1 rfl) ?_
      refine ar_l (k := q) (v := k_nu κ q) hx hb hK hP (3) 1 wX_e3 rfl rfl (by omega) (by decide) rfl dX0_numberAt_18 ?_
      exact rd_lret hx hb hr hlocks (rfl) dX0_numberAt_19
    · skip
      have c_2 : ¬ q < 5 := fun z9 => c_2 ((nI_ltI (a := q) (b := 5) (by omega) (by omega)).mpr z9)
      exact (show False by omega).elim
