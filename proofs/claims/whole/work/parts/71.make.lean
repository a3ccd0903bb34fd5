set_option maxHeartbeats 4000000 in
set_option maxRecDepth 100000 in
theorem i_X0 (l : Launch) (G : va_G) (h0 : Nat) : MkC l yX0_init wsX0_init ({ frames := 1, cells := 1, slots := 5, locals := 12 } : Room) G [(h0, .inr (0, [.null, .int 0, .int 0, .int 0, .long 0]))] [.ref h0] 1 5 (fun w1 tys => ∃ (q1 : Nat) (c1 : ClassId), w1 = [(h0, .inr (0, [.ref q1, .int 0, .int 0, .int 0, .long 0])), (q1, .inl (c1, 5, .inr (.inl (fun _ => 0))))] ∧ tys = [(c1, .long)]) := by
  intro sz
  refine Met.ofW (cc := cX0_init) (maxL := 1) (ret := none) (by decide) rfl ?_
  intro p e s m args below meth c s₁ B hml hv
  obtain ⟨rfl, hsz, hP, hK, hNI, hD0⟩ := hv
  have hx := B.exec
  have hb := B.bytes
  have hr := B.returns
  have hts := atoms_spec (ws := wsX0_init) B.pre
  have hown : s.vm.findClass RX0 = some m.cls := findClass_of_methodNamed B.named
  have hlocks := B.notSynchronized
  have hin : meth.name = "<init>" := (name_of_methodNamed B.named B.method).1
  have hX0 : ∀ w ∈ wsX00, w ∈ wsX0_init := by decide +kernel
  subst hsz
  have hD := hD0.self (sz := s.heap.size)
  generalize hAe : va_A [(h0, .inr (0, [.null, .int 0, .int 0, .int 0, .long 0]))] s.heap.size = A at hD ⊢
  have hA : ∀ q : Nat, s.heap.size ≤ q → A q := fun q h => by rw [← hAe]; exact Or.inr h
  have hS : va_S A s.heap s.heap [] := va_S.rf
  have hP : va_P G vwCl [(h0, .inr (0, [.null, .int 0, .int 0, .int 0, .long 0]))] s.heap := hP
  have hl := lv_entry ([.ref h0]) (n := 1) (Nat.le_of_ble_eq_true rfl)
  rw [lg_entry_eq]
  generalize (lg_sl ([.ref h0]) ++ List.replicate (1 - (lg_sl ([.ref h0])).length) Slot.unset).toArray = ls at hl ⊢
  have hl : lv_has ls 1 [(0, .ref h0)] := hl
  refine lv_aload_n hx hb dX0_init_0 rfl (lv_at hl 0 rfl) ?_
  refine W.objInit hx hb hown (hts (.methodLink RX0 3 objectInit) (by decide +kernel)) (hts (.instanceMethod objectInit) (by decide +kernel)) (hts (.code objectInit ⟨#[0xb1]⟩ 1 none) (by decide +kernel)) rfl (by rw [hml]; exact hl.1) rfl dX0_init_1 (Nat.le_of_ble_eq_true rfl) (Nat.le_of_ble_eq_true rfl) ?_
  refine W.eq (g2 := F0 m 4 ls []) rfl ?_
  refine lv_aload_n hx hb dX0_init_4 rfl (lv_at hl 0 rfl) ?_
  refine lv_iconst (v := 5) hx hb dX0_init_5 (by decide) ?_
  refine va_newa (atype := .long) (a0 := (5, .inr (.inl (fun _ => 0)))) (N' := 5) hx hb (hts (.arrayClass .long) (by decide +kernel)) rfl hK hP hD hS hA (fun _ => rfl) (by decide) (by decide) (by decide) (Nat.le_of_ble_eq_true rfl) (Nat.le_of_ble_eq_true rfl) dX0_init_6 (fun q1 cq1 H hK hP hD hS => ?_)
  have hK : va_K G vwCl [(cq1, .long)] s := hK
  have hP : va_P G vwCl [(h0, .inr (0, [.null, .int 0, .int 0, .int 0, .long 0])), (q1, .inl (cq1, 5, .inr (.inl (fun _ => 0))))] H := hP
  have hD : va_D A [(h0, .inr (0, [.null, .int 0, .int 0, .int 0, .long 0])), (q1, .inl (cq1, 5, .inr (.inl (fun _ => 0))))] := hD
  refine W.widen (k := 1) (n := 5) (by omega) (by omega) ?_
  refine va_putF (D := G) (ci := 0) (v := .ref q1) (ty := .array .long) (C := RX0) (T := TX0) (N := 5) hx hb hts hX0 tyX0 tyX0_ok nmX0 hown hK hP hD hS (0) rfl rfl 0 (by decide) (hts (.fieldLink RX0 9 "DraftSurvey$RowReader" "numbers" "[J") (by decide +kernel)) (fun _ h9 => h9) rfl hin rfl (by decide +kernel) rfl rfl (Nat.le_of_ble_eq_true rfl) dX0_init_8 (fun H locs hP hD hS => ?_)
  have hP : va_P G vwCl [(h0, .inr (0, [.ref q1, .int 0, .int 0, .int 0, .long 0])), (q1, .inl (cq1, 5, .inr (.inl (fun _ => 0))))] H := hP
  have hD : va_D A [(h0, .inr (0, [.ref q1, .int 0, .int 0, .int 0, .long 0])), (q1, .inl (cq1, 5, .inr (.inl (fun _ => 0))))] := hD
  refine mk_vret hx hb hr hlocks hAe hK hP hD hS ?_ dX0_init_11
  exact ⟨q1, cq1, rfl, rfl⟩

set_option maxHeartbeats 4000000 in
set_option maxRecDepth 100000 in
theorem i_X1 (l : Launch) (G : va_G) (h0 : Nat) : MkC l yX1_init wsX1_init ({ frames := 1, cells := 2, slots := 10, locals := 12 } : Room) G [(h0, .inr (1, [.null, .null, .long 0]))] [.ref h0] 2 10 (fun w1 tys => ∃ (q1 q2 : Nat) (c1 : ClassId), w1 = [(h0, .inr (1, [.ref q1, .ref q2, .long 1025])), (q1, .inl (c1, 6, .inr (.inl (fun _ => 0)))), (q2, .inl (c1, 4, .inr (.inl (fun _ => 0))))] ∧ tys = [(c1, .long)]) := by
  intro sz
  refine Met.ofW (cc := cX1_init) (maxL := 1) (ret := none) (by decide) rfl ?_
  intro p e s m args below meth c s₁ B hml hv
  obtain ⟨rfl, hsz, hP, hK, hNI, hD0⟩ := hv
  have hx := B.exec
  have hb := B.bytes
  have hr := B.returns
  have hts := atoms_spec (ws := wsX1_init) B.pre
  have hown : s.vm.findClass RX1 = some m.cls := findClass_of_methodNamed B.named
  have hlocks := B.notSynchronized
  have hin : meth.name = "<init>" := (name_of_methodNamed B.named B.method).1
  have hX1 : ∀ w ∈ wsX10, w ∈ wsX1_init := by decide +kernel
  subst hsz
  have hD := hD0.self (sz := s.heap.size)
  generalize hAe : va_A [(h0, .inr (1, [.null, .null, .long 0]))] s.heap.size = A at hD ⊢
  have hA : ∀ q : Nat, s.heap.size ≤ q → A q := fun q h => by rw [← hAe]; exact Or.inr h
  have hS : va_S A s.heap s.heap [] := va_S.rf
  have hP : va_P G vwCl [(h0, .inr (1, [.null, .null, .long 0]))] s.heap := hP
  have hl := lv_entry ([.ref h0]) (n := 1) (Nat.le_of_ble_eq_true rfl)
  rw [lg_entry_eq]
  generalize (lg_sl ([.ref h0]) ++ List.replicate (1 - (lg_sl ([.ref h0])).length) Slot.unset).toArray = ls at hl ⊢
  have hl : lv_has ls 1 [(0, .ref h0)] := hl
  refine lv_aload_n hx hb dX1_init_0 rfl (lv_at hl 0 rfl) ?_
  refine W.objInit hx hb hown (hts (.methodLink RX1 3 objectInit) (by decide +kernel)) (hts (.instanceMethod objectInit) (by decide +kernel)) (hts (.code objectInit ⟨#[0xb1]⟩ 1 none) (by decide +kernel)) rfl (by rw [hml]; exact hl.1) rfl dX1_init_1 (Nat.le_of_ble_eq_true rfl) (Nat.le_of_ble_eq_true rfl) ?_
  refine W.eq (g2 := F0 m 4 ls []) rfl ?_
  refine lv_aload_n hx hb dX1_init_4 rfl (lv_at hl 0 rfl) ?_
  refine lv_bipush (v := 6) hx hb dX1_init_5 (by decide) ?_
  refine va_newa (atype := .long) (a0 := (6, .inr (.inl (fun _ => 0)))) (N' := 6) hx hb (hts (.arrayClass .long) (by decide +kernel)) rfl hK hP hD hS hA (fun _ => rfl) (by decide) (by decide) (by decide) (Nat.le_of_ble_eq_true rfl) (Nat.le_of_ble_eq_true rfl) dX1_init_7 (fun q1 cq1 H hK hP hD hS => ?_)
  have hK : va_K G vwCl [(cq1, .long)] s := hK
  have hP : va_P G vwCl [(h0, .inr (1, [.null, .null, .long 0])), (q1, .inl (cq1, 6, .inr (.inl (fun _ => 0))))] H := hP
  have hD : va_D A [(h0, .inr (1, [.null, .null, .long 0])), (q1, .inl (cq1, 6, .inr (.inl (fun _ => 0))))] := hD
  refine W.widen (k := 1) (n := 6) (by omega) (by omega) ?_
  refine va_putF (D := G) (ci := 1) (v := .ref q1) (ty := .array .long) (C := RX1) (T := TX1) (N := 3) hx hb hts hX1 tyX1 tyX1_ok nmX1 hown hK hP hD hS (0) rfl rfl 0 (by decide) (hts (.fieldLink RX1 9 "DraftSurvey$Survey" "readings" "[J") (by decide +kernel)) (fun _ h9 => h9) rfl hin rfl (by decide +kernel) rfl rfl (Nat.le_of_ble_eq_true rfl) dX1_init_9 (fun H locs hP hD hS => ?_)
  have hP : va_P G vwCl [(h0, .inr (1, [.ref q1, .null, .long 0])), (q1, .inl (cq1, 6, .inr (.inl (fun _ => 0))))] H := hP
  have hD : va_D A [(h0, .inr (1, [.ref q1, .null, .long 0])), (q1, .inl (cq1, 6, .inr (.inl (fun _ => 0))))] := hD
  refine lv_aload_n hx hb dX1_init_12 rfl (lv_at hl 0 rfl) ?_
  refine lv_iconst (v := 4) hx hb dX1_init_13 (by decide) ?_
  refine va_newa (atype := .long) (a0 := (4, .inr (.inl (fun _ => 0)))) (N' := 4) hx hb (hts (.arrayClass .long) (by decide +kernel)) rfl hK hP hD hS hA (fun _ => rfl) (by decide) (by decide) (by decide) (Nat.le_of_ble_eq_true rfl) (Nat.le_of_ble_eq_true rfl) dX1_init_14 (fun q2 cq2 H hK hP hD hS => ?_)
  have hK : va_K G vwCl [(cq1, .long), (cq2, .long)] s := hK
  have e_cq2 : cq1 = cq2 := ra_l hK (i := 0) (j := 1) rfl rfl
  subst e_cq2
  have hK : va_K G vwCl [(cq1, .long)] s := hK.sub [0] rfl
  have hP : va_P G vwCl [(h0, .inr (1, [.ref q1, .null, .long 0])), (q1, .inl (cq1, 6, .inr (.inl (fun _ => 0)))), (q2, .inl (cq1, 4, .inr (.inl (fun _ => 0))))] H := hP
  have hD : va_D A [(h0, .inr (1, [.ref q1, .null, .long 0])), (q1, .inl (cq1, 6, .inr (.inl (fun _ => 0)))), (q2, .inl (cq1, 4, .inr (.inl (fun _ => 0))))] := hD
  refine W.widen (k := 2) (n := 10) (by omega) (by omega) ?_
  refine va_putF (D := G) (ci := 1) (v := .ref q2) (ty := .array .long) (C := RX1) (T := TX1) (N := 3) hx hb hts hX1 tyX1 tyX1_ok nmX1 hown hK hP hD hS (0) rfl rfl 1 (by decide) (hts (.fieldLink RX1 15 "DraftSurvey$Survey" "deductions" "[J") (by decide +kernel)) (fun _ h9 => h9) rfl hin rfl (by decide +kernel) rfl rfl (Nat.le_of_ble_eq_true rfl) dX1_init_16 (fun H locs hP hD hS => ?_)
  have hP : va_P G vwCl [(h0, .inr (1, [.ref q1, .ref q2, .long 0])), (q1, .inl (cq1, 6, .inr (.inl (fun _ => 0)))), (q2, .inl (cq1, 4, .inr (.inl (fun _ => 0))))] H := hP
  have hD : va_D A [(h0, .inr (1, [.ref q1, .ref q2, .long 0])), (q1, .inl (cq1, 6, .inr (.inl (fun _ => 0)))), (q2, .inl (cq1, 4, .inr (.inl (fun _ => 0))))] := hD
  refine lv_aload_n hx hb dX1_init_19 rfl (lv_at hl 0 rfl) ?_
  refine lv_ldc2 (v := 1025) hx hb hown (hts (.constantLong RX1 18 (1025)) (by decide +kernel)) dX1_init_20 ?_
  refine va_put (D := G) (ci := 1) (v := .long 1025) (ty := .long) (C := RX1) (T := TX1) (N := 3) hx hb hts hX1 tyX1 tyX1_ok nmX1 hown hK hP hD hS (0) rfl rfl 2 (by decide) (hts (.fieldLink RX1 20 "DraftSurvey$Survey" "density" "J") (by decide +kernel)) (fun _ h9 => h9) rfl (by decide +kernel) rfl rfl (Nat.le_of_ble_eq_true rfl) dX1_init_23 (fun H locs hP hD hS => ?_)
  have hP : va_P G vwCl [(h0, .inr (1, [.ref q1, .ref q2, .long 1025])), (q1, .inl (cq1, 6, .inr (.inl (fun _ => 0)))), (q2, .inl (cq1, 4, .inr (.inl (fun _ => 0))))] H := hP
  have hD : va_D A [(h0, .inr (1, [.ref q1, .ref q2, .long 1025])), (q1, .inl (cq1, 6, .inr (.inl (fun _ => 0)))), (q2, .inl (cq1, 4, .inr (.inl (fun _ => 0))))] := hD
  refine mk_vret hx hb hr hlocks hAe hK hP hD hS ?_ dX1_init_26
  exact ⟨q1, q2, _, rfl, rfl⟩

set_option maxHeartbeats 4000000 in
set_option maxRecDepth 100000 in
theorem i_X2 (l : Launch) (G : va_G) (h0 : Nat) : MkC l yX2_init wsX2_init ({ frames := 1, cells := 1, slots := 50, locals := 12 } : Room) G [(h0, .inr (2, [.null, .int 0]))] [.ref h0] 1 50 (fun w1 tys => ∃ (q1 : Nat) (c1 : ClassId), w1 = [(h0, .inr (2, [.ref q1, .int 0])), (q1, .inl (c1, 50, .inr (.inl (fun _ => 0))))] ∧ tys = [(c1, .long)]) := by
  intro sz
  refine Met.ofW (cc := cX2_init) (maxL := 1) (ret := none) (by decide) rfl ?_
  intro p e s m args below meth c s₁ B hml hv
  obtain ⟨rfl, hsz, hP, hK, hNI, hD0⟩ := hv
  have hx := B.exec
  have hb := B.bytes
  have hr := B.returns
  have hts := atoms_spec (ws := wsX2_init) B.pre
  have hown : s.vm.findClass RX2 = some m.cls := findClass_of_methodNamed B.named
  have hlocks := B.notSynchronized
  have hin : meth.name = "<init>" := (name_of_methodNamed B.named B.method).1
  have hX2 : ∀ w ∈ wsX20, w ∈ wsX2_init := by decide +kernel
  subst hsz
  have hD := hD0.self (sz := s.heap.size)
  generalize hAe : va_A [(h0, .inr (2, [.null, .int 0]))] s.heap.size = A at hD ⊢
  have hA : ∀ q : Nat, s.heap.size ≤ q → A q := fun q h => by rw [← hAe]; exact Or.inr h
  have hS : va_S A s.heap s.heap [] := va_S.rf
  have hP : va_P G vwCl [(h0, .inr (2, [.null, .int 0]))] s.heap := hP
  have hl := lv_entry ([.ref h0]) (n := 1) (Nat.le_of_ble_eq_true rfl)
  rw [lg_entry_eq]
  generalize (lg_sl ([.ref h0]) ++ List.replicate (1 - (lg_sl ([.ref h0])).length) Slot.unset).toArray = ls at hl ⊢
  have hl : lv_has ls 1 [(0, .ref h0)] := hl
  refine lv_aload_n hx hb dX2_init_0 rfl (lv_at hl 0 rfl) ?_
  refine W.objInit hx hb hown (hts (.methodLink RX2 3 objectInit) (by decide +kernel)) (hts (.instanceMethod objectInit) (by decide +kernel)) (hts (.code objectInit ⟨#[0xb1]⟩ 1 none) (by decide +kernel)) rfl (by rw [hml]; exact hl.1) rfl dX2_init_1 (Nat.le_of_ble_eq_true rfl) (Nat.le_of_ble_eq_true rfl) ?_
  refine W.eq (g2 := F0 m 4 ls []) rfl ?_
  refine lv_aload_n hx hb dX2_init_4 rfl (lv_at hl 0 rfl) ?_
  refine lv_bipush (v := 50) hx hb dX2_init_5 (by decide) ?_
  refine va_newa (atype := .long) (a0 := (50, .inr (.inl (fun _ => 0)))) (N' := 50) hx hb (hts (.arrayClass .long) (by decide +kernel)) rfl hK hP hD hS hA (fun _ => rfl) (by decide) (by decide) (by decide) (Nat.le_of_ble_eq_true rfl) (Nat.le_of_ble_eq_true rfl) dX2_init_7 (fun q1 cq1 H hK hP hD hS => ?_)
  have hK : va_K G vwCl [(cq1, .long)] s := hK
  have hP : va_P G vwCl [(h0, .inr (2, [.null, .int 0])), (q1, .inl (cq1, 50, .inr (.inl (fun _ => 0))))] H := hP
  have hD : va_D A [(h0, .inr (2, [.null, .int 0])), (q1, .inl (cq1, 50, .inr (.inl (fun _ => 0))))] := hD
  refine W.widen (k := 1) (n := 50) (by omega) (by omega) ?_
  refine va_putF (D := G) (ci := 2) (v := .ref q1) (ty := .array .long) (C := RX2) (T := TX2) (N := 2) hx hb hts hX2 tyX2 tyX2_ok nmX2 hown hK hP hD hS (0) rfl rfl 0 (by decide) (hts (.fieldLink RX2 9 "DraftSurvey$Table" "cells" "[J") (by decide +kernel)) (fun _ h9 => h9) rfl hin rfl (by decide +kernel) rfl rfl (Nat.le_of_ble_eq_true rfl) dX2_init_9 (fun H locs hP hD hS => ?_)
  have hP : va_P G vwCl [(h0, .inr (2, [.ref q1, .int 0])), (q1, .inl (cq1, 50, .inr (.inl (fun _ => 0))))] H := hP
  have hD : va_D A [(h0, .inr (2, [.ref q1, .int 0])), (q1, .inl (cq1, 50, .inr (.inl (fun _ => 0))))] := hD
  refine mk_vret hx hb hr hlocks hAe hK hP hD hS ?_ dX2_init_12
  exact ⟨q1, cq1, rfl, rfl⟩

set_option maxHeartbeats 4000000 in
set_option maxRecDepth 100000 in
theorem i_X3 (l : Launch) (G : va_G) (h0 : Nat) : MkC l yX3_init wsX3_init ({ frames := 2, cells := 18, slots := 158, locals := 32 } : Room) G [(h0, .inr (3, [.null, .int 0, .null, .null, .null, .long 0, .long 0]))] [.ref h0] 18 158 (fun w1 tys => ∃ (a : Nat → Nat) (C : Nat → ClassId), a 0 = h0 ∧ w1 = wX C a sg0 kx0 ∧ tys = tysC C) := by
  intro sz
  refine Met.ofW (cc := cX3_init) (maxL := 2) (ret := none) (by decide) rfl ?_
  intro p e s m args below meth c s₁ B hml hv
  obtain ⟨rfl, hsz, hP, hK, hNI, hD0⟩ := hv
  have hx := B.exec
  have hb := B.bytes
  have hr := B.returns
  have hts := atoms_spec (ws := wsX3_init) B.pre
  have hown : s.vm.findClass RX3 = some m.cls := findClass_of_methodNamed B.named
  have hlocks := B.notSynchronized
  have hin : meth.name = "<init>" := (name_of_methodNamed B.named B.method).1
  have hX0 : ∀ w ∈ wsX00, w ∈ wsX3_init := by decide +kernel
  have hX1 : ∀ w ∈ wsX10, w ∈ wsX3_init := by decide +kernel
  have hX2 : ∀ w ∈ wsX20, w ∈ wsX3_init := by decide +kernel
  have hX3 : ∀ w ∈ wsX30, w ∈ wsX3_init := by decide +kernel
  subst hsz
  have hD := hD0.self (sz := s.heap.size)
  generalize hAe : va_A [(h0, .inr (3, [.null, .int 0, .null, .null, .null, .long 0, .long 0]))] s.heap.size = A at hD ⊢
  have hA : ∀ q : Nat, s.heap.size ≤ q → A q := fun q h => by rw [← hAe]; exact Or.inr h
  have hS : va_S A s.heap s.heap [] := va_S.rf
  have hP : va_P G vwCl [(h0, .inr (3, [.null, .int 0, .null, .null, .null, .long 0, .long 0]))] s.heap := hP
  have hl := lv_entry ([.ref h0]) (n := 2) (Nat.le_of_ble_eq_true rfl)
  rw [lg_entry_eq]
  generalize (lg_sl ([.ref h0]) ++ List.replicate (2 - (lg_sl ([.ref h0])).length) Slot.unset).toArray = ls at hl ⊢
  have hl : lv_has ls 2 [(0, .ref h0)] := hl
  refine lv_aload_n hx hb dX3_init_0 rfl (lv_at hl 0 rfl) ?_
  refine W.objInit hx hb hown (hts (.methodLink RX3 1 objectInit) (by decide +kernel)) (hts (.instanceMethod objectInit) (by decide +kernel)) (hts (.code objectInit ⟨#[0xb1]⟩ 1 none) (by decide +kernel)) rfl (by rw [hml]; exact hl.1) rfl dX3_init_1 (Nat.le_of_ble_eq_true rfl) (Nat.le_of_ble_eq_true rfl) ?_
  refine W.eq (g2 := F0 m 4 ls []) rfl ?_
  refine lv_aload_n hx hb dX3_init_4 rfl (lv_at hl 0 rfl) ?_
  refine lv_bipush (v := 40) hx hb dX3_init_5 (by decide) ?_
  refine va_newa (atype := .int) (a0 := (40, .inl (fun _ => 0))) (N' := 40) hx hb (hts (.arrayClass .int) (by decide +kernel)) rfl hK hP hD hS hA (fun _ => rfl) (by decide) (by decide) (by decide) (Nat.le_of_ble_eq_true rfl) (Nat.le_of_ble_eq_true rfl) dX3_init_7 (fun q1 cq1 H hK hP hD hS => ?_)
  have hK : va_K G vwCl [(cq1, .int)] s := hK
  have hP : va_P G vwCl [(h0, .inr (3, [.null, .int 0, .null, .null, .null, .long 0, .long 0])), (q1, .inl (cq1, 40, .inl (fun _ => 0)))] H := hP
  have hD : va_D A [(h0, .inr (3, [.null, .int 0, .null, .null, .null, .long 0, .long 0])), (q1, .inl (cq1, 40, .inl (fun _ => 0)))] := hD
  refine W.widen (k := 1) (n := 40) (by omega) (by omega) ?_
  refine va_putF (D := G) (ci := 3) (v := .ref q1) (ty := .array .int) (C := RX3) (T := TX3) (N := 7) hx hb hts hX3 tyX3 tyX3_ok nmX3 hown hK hP hD hS (0) rfl rfl 0 (by decide) (hts (.fieldLink RX3 9 "DraftSurvey" "buffer" "[I") (by decide +kernel)) (fun _ h9 => h9) rfl hin rfl (by decide +kernel) rfl rfl (Nat.le_of_ble_eq_true rfl) dX3_init_9 (fun H locs hP hD hS => ?_)
  have hP : va_P G vwCl [(h0, .inr (3, [.ref q1, .int 0, .null, .null, .null, .long 0, .long 0])), (q1, .inl (cq1, 40, .inl (fun _ => 0)))] H := hP
  have hD : va_D A [(h0, .inr (3, [.ref q1, .int 0, .null, .null, .null, .long 0, .long 0])), (q1, .inl (cq1, 40, .inl (fun _ => 0)))] := hD
  refine lv_aload_n hx hb dX3_init_12 rfl (lv_at hl 0 rfl) ?_
  refine lv_iconst (v := 0) hx hb dX3_init_13 (by decide) ?_
  refine va_put (D := G) (ci := 3) (v := .int 0) (ty := .int) (C := RX3) (T := TX3) (N := 7) hx hb hts hX3 tyX3 tyX3_ok nmX3 hown hK hP hD hS (0) rfl rfl 1 (by decide) (hts (.fieldLink RX3 13 "DraftSurvey" "bufferLength" "I") (by decide +kernel)) (fun _ h9 => h9) rfl (by decide +kernel) rfl rfl (Nat.le_of_ble_eq_true rfl) dX3_init_14 (fun H locs hP hD hS => ?_)
  have hP : va_P G vwCl [(h0, .inr (3, [.ref q1, .int 0, .null, .null, .null, .long 0, .long 0])), (q1, .inl (cq1, 40, .inl (fun _ => 0)))] H := hP
  have hD : va_D A [(h0, .inr (3, [.ref q1, .int 0, .null, .null, .null, .long 0, .long 0])), (q1, .inl (cq1, 40, .inl (fun _ => 0)))] := hD
  refine lv_aload_n hx hb dX3_init_17 rfl (lv_at hl 0 rfl) ?_
  refine va_new (ci := 0) (fs := [.null, .int 0, .int 0, .int 0, .long 0]) (C := RX0) (T := TX0) (N := 5) hx hb hts hX0 tyX0 tyX0_ok hown (hts (.classLink RX3 17 RX0) (by decide +kernel)) (hts (.instantiable RX0 5) (by decide +kernel)) (hts (.initialized RX0) (by decide +kernel)) hK hP hD hS hA rfl (fun j hj => by rcases (show j = 0 ∨ j = 1 ∨ j = 2 ∨ j = 3 ∨ j = 4 by omega) with rfl | rfl | rfl | rfl | rfl <;> rfl) (Nat.le_of_ble_eq_true rfl) (Nat.le_of_ble_eq_true rfl) dX3_init_18 (fun q2 H hP hD hS => ?_)
  have hP : va_P G vwCl [(h0, .inr (3, [.ref q1, .int 0, .null, .null, .null, .long 0, .long 0])), (q1, .inl (cq1, 40, .inl (fun _ => 0))), (q2, .inr (0, [.null, .int 0, .int 0, .int 0, .long 0]))] H := hP
  have hD : va_D A [(h0, .inr (3, [.ref q1, .int 0, .null, .null, .null, .long 0, .long 0])), (q1, .inl (cq1, 40, .inl (fun _ => 0))), (q2, .inr (0, [.null, .int 0, .int 0, .int 0, .long 0]))] := hD
  refine W.widen (k := 2) (n := 45) (by omega) (by omega) ?_
  refine lv_dup hx hb dX3_init_21 rfl ?_
  refine mk_callN (As := []) (rest := [.ref q2, .ref h0]) (w0 := [(q2, .inr (0, [.null, .int 0, .int 0, .int 0, .long 0]))]) (wr := [(h0, .inr (3, [.ref q1, .int 0, .null, .null, .null, .long 0, .long 0])), (q1, .inl (cq1, 40, .inl (fun _ => 0)))]) ⟨hx, hb, hml, hown, hts⟩ (i_X0 l G q2) ⟨va_cnB 0 hts gX3_init_X0_init_n19 rfl rfl rfl hNI.2.1 (hts (.initialized RX0) (by decide +kernel)) (by decide +kernel) ⟨Nat.le_of_ble_eq_true rfl, Nat.le_of_ble_eq_true rfl⟩, rfl, hts (.instanceMethod yX0_init) (by decide +kernel)⟩ hK hNI hP hD hS hA [2] [0, 1] rfl rfl (by decide) rfl (by decide) (by decide) rfl hl.1 rfl (Nat.le_of_ble_eq_true rfl) dX3_init_22 ⟨Nat.le_of_ble_eq_true rfl, Nat.le_of_ble_eq_true rfl⟩ (fun w1 tys1 H locs hw hK hP hD hS => ?_)
  obtain ⟨q3, cq4, rfl, rfl⟩ := hw
  have hK : va_K G vwCl [(cq1, .int), (cq4, .long)] s := hK
  have hP : va_P G vwCl [(h0, .inr (3, [.ref q1, .int 0, .null, .null, .null, .long 0, .long 0])), (q1, .inl (cq1, 40, .inl (fun _ => 0))), (q2, .inr (0, [.ref q3, .int 0, .int 0, .int 0, .long 0])), (q3, .inl (cq4, 5, .inr (.inl (fun _ => 0))))] H := hP
  have hD : va_D A [(h0, .inr (3, [.ref q1, .int 0, .null, .null, .null, .long 0, .long 0])), (q1, .inl (cq1, 40, .inl (fun _ => 0))), (q2, .inr (0, [.ref q3, .int 0, .int 0, .int 0, .long 0])), (q3, .inl (cq4, 5, .inr (.inl (fun _ => 0))))] := hD
  refine W.widen (k := 3) (n := 50) (by omega) (by omega) ?_
  refine W.eq (g2 := F0 m 25 ls [.ref q2, .ref h0]) rfl ?_
  refine va_putF (D := G) (ci := 3) (v := .ref q2) (ty := .object "DraftSurvey$RowReader") (C := RX3) (T := TX3) (N := 7) hx hb hts hX3 tyX3 tyX3_ok nmX3 hown hK hP hD hS (0) rfl rfl 2 (by decide) (hts (.fieldLink RX3 20 "DraftSurvey" "reader" "LDraftSurvey$RowReader;") (by decide +kernel)) (fun _ h9 => h9) rfl hin rfl (by decide +kernel) rfl rfl (Nat.le_of_ble_eq_true rfl) dX3_init_25 (fun H locs hP hD hS => ?_)
  have hP : va_P G vwCl [(h0, .inr (3, [.ref q1, .int 0, .ref q2, .null, .null, .long 0, .long 0])), (q1, .inl (cq1, 40, .inl (fun _ => 0))), (q2, .inr (0, [.ref q3, .int 0, .int 0, .int 0, .long 0])), (q3, .inl (cq4, 5, .inr (.inl (fun _ => 0))))] H := hP
  have hD : va_D A [(h0, .inr (3, [.ref q1, .int 0, .ref q2, .null, .null, .long 0, .long 0])), (q1, .inl (cq1, 40, .inl (fun _ => 0))), (q2, .inr (0, [.ref q3, .int 0, .int 0, .int 0, .long 0])), (q3, .inl (cq4, 5, .inr (.inl (fun _ => 0))))] := hD
  refine lv_aload_n hx hb dX3_init_28 rfl (lv_at hl 0 rfl) ?_
  refine va_new (ci := 2) (fs := [.null, .int 0]) (C := RX2) (T := TX2) (N := 2) hx hb hts hX2 tyX2 tyX2_ok hown (hts (.classLink RX3 24 RX2) (by decide +kernel)) (hts (.instantiable RX2 2) (by decide +kernel)) (hts (.initialized RX2) (by decide +kernel)) hK hP hD hS hA rfl (fun j hj => by rcases (show j = 0 ∨ j = 1 by omega) with rfl | rfl <;> rfl) (Nat.le_of_ble_eq_true rfl) (Nat.le_of_ble_eq_true rfl) dX3_init_29 (fun q5 H hP hD hS => ?_)
  have hP : va_P G vwCl [(h0, .inr (3, [.ref q1, .int 0, .ref q2, .null, .null, .long 0, .long 0])), (q1, .inl (cq1, 40, .inl (fun _ => 0))), (q2, .inr (0, [.ref q3, .int 0, .int 0, .int 0, .long 0])), (q3, .inl (cq4, 5, .inr (.inl (fun _ => 0)))), (q5, .inr (2, [.null, .int 0]))] H := hP
  have hD : va_D A [(h0, .inr (3, [.ref q1, .int 0, .ref q2, .null, .null, .long 0, .long 0])), (q1, .inl (cq1, 40, .inl (fun _ => 0))), (q2, .inr (0, [.ref q3, .int 0, .int 0, .int 0, .long 0])), (q3, .inl (cq4, 5, .inr (.inl (fun _ => 0)))), (q5, .inr (2, [.null, .int 0]))] := hD
  refine W.widen (k := 4) (n := 52) (by omega) (by omega) ?_
  refine lv_dup hx hb dX3_init_32 rfl ?_
  refine mk_callN (As := []) (rest := [.ref q5, .ref h0]) (w0 := [(q5, .inr (2, [.null, .int 0]))]) (wr := [(h0, .inr (3, [.ref q1, .int 0, .ref q2, .null, .null, .long 0, .long 0])), (q1, .inl (cq1, 40, .inl (fun _ => 0))), (q2, .inr (0, [.ref q3, .int 0, .int 0, .int 0, .long 0])), (q3, .inl (cq4, 5, .inr (.inl (fun _ => 0))))]) ⟨hx, hb, hml, hown, hts⟩ (i_X2 l G q5) ⟨va_cnB 0 hts gX3_init_X2_init_n26 rfl rfl rfl hNI.2.2.1 (hts (.initialized RX2) (by decide +kernel)) (by decide +kernel) ⟨Nat.le_of_ble_eq_true rfl, Nat.le_of_ble_eq_true rfl⟩, rfl, hts (.instanceMethod yX2_init) (by decide +kernel)⟩ hK hNI hP hD hS hA [4] [0, 1, 2, 3] rfl rfl (by decide) rfl (by decide) (by decide) rfl hl.1 rfl (Nat.le_of_ble_eq_true rfl) dX3_init_33 ⟨Nat.le_of_ble_eq_true rfl, Nat.le_of_ble_eq_true rfl⟩ (fun w1 tys1 H locs hw hK hP hD hS => ?_)
  obtain ⟨q6, cq7, rfl, rfl⟩ := hw
  have hK : va_K G vwCl [(cq1, .int), (cq4, .long), (cq7, .long)] s := hK
  have e_cq7 : cq4 = cq7 := ra_l hK (i := 1) (j := 2) rfl rfl
  subst e_cq7
  have hK : va_K G vwCl [(cq1, .int), (cq4, .long)] s := hK.sub [0, 1] rfl
  have hP : va_P G vwCl [(h0, .inr (3, [.ref q1, .int 0, .ref q2, .null, .null, .long 0, .long 0])), (q1, .inl (cq1, 40, .inl (fun _ => 0))), (q2, .inr (0, [.ref q3, .int 0, .int 0, .int 0, .long 0])), (q3, .inl (cq4, 5, .inr (.inl (fun _ => 0)))), (q5, .inr (2, [.ref q6, .int 0])), (q6, .inl (cq4, 50, .inr (.inl (fun _ => 0))))] H := hP
  have hD : va_D A [(h0, .inr (3, [.ref q1, .int 0, .ref q2, .null, .null, .long 0, .long 0])), (q1, .inl (cq1, 40, .inl (fun _ => 0))), (q2, .inr (0, [.ref q3, .int 0, .int 0, .int 0, .long 0])), (q3, .inl (cq4, 5, .inr (.inl (fun _ => 0)))), (q5, .inr (2, [.ref q6, .int 0])), (q6, .inl (cq4, 50, .inr (.inl (fun _ => 0))))] := hD
  refine W.widen (k := 5) (n := 102) (by omega) (by omega) ?_
  refine W.eq (g2 := F0 m 36 ls [.ref q5, .ref h0]) rfl ?_
  refine va_putF (D := G) (ci := 3) (v := .ref q5) (ty := .object "DraftSurvey$Table") (C := RX3) (T := TX3) (N := 7) hx hb hts hX3 tyX3 tyX3_ok nmX3 hown hK hP hD hS (0) rfl rfl 3 (by decide) (hts (.fieldLink RX3 27 "DraftSurvey" "table" "LDraftSurvey$Table;") (by decide +kernel)) (fun _ h9 => h9) rfl hin rfl (by decide +kernel) rfl rfl (Nat.le_of_ble_eq_true rfl) dX3_init_36 (fun H locs hP hD hS => ?_)
  have hP : va_P G vwCl [(h0, .inr (3, [.ref q1, .int 0, .ref q2, .ref q5, .null, .long 0, .long 0])), (q1, .inl (cq1, 40, .inl (fun _ => 0))), (q2, .inr (0, [.ref q3, .int 0, .int 0, .int 0, .long 0])), (q3, .inl (cq4, 5, .inr (.inl (fun _ => 0)))), (q5, .inr (2, [.ref q6, .int 0])), (q6, .inl (cq4, 50, .inr (.inl (fun _ => 0))))] H := hP
  have hD : va_D A [(h0, .inr (3, [.ref q1, .int 0, .ref q2, .ref q5, .null, .long 0, .long 0])), (q1, .inl (cq1, 40, .inl (fun _ => 0))), (q2, .inr (0, [.ref q3, .int 0, .int 0, .int 0, .long 0])), (q3, .inl (cq4, 5, .inr (.inl (fun _ => 0)))), (q5, .inr (2, [.ref q6, .int 0])), (q6, .inl (cq4, 50, .inr (.inl (fun _ => 0))))] := hD
  refine lv_aload_n hx hb dX3_init_39 rfl (lv_at hl 0 rfl) ?_
  refine lv_iconst (v := 4) hx hb dX3_init_40 (by decide) ?_
  refine va_newq (C := RX1) (N' := 4) hx hb hown (hts (.classLink RX3 31 RX1) (by decide +kernel)) hNI.1 hK hP hD hS hA (by decide) (by decide) (by decide) (Nat.le_of_ble_eq_true rfl) (Nat.le_of_ble_eq_true rfl) dX3_init_41 (fun q8 cq8 H hK hP hD hS => ?_)
  have hK : va_K G vwCl [(cq1, .int), (cq4, .long), (cq8, .object RX1)] s := hK
  have hP : va_P G vwCl [(h0, .inr (3, [.ref q1, .int 0, .ref q2, .ref q5, .null, .long 0, .long 0])), (q1, .inl (cq1, 40, .inl (fun _ => 0))), (q2, .inr (0, [.ref q3, .int 0, .int 0, .int 0, .long 0])), (q3, .inl (cq4, 5, .inr (.inl (fun _ => 0)))), (q5, .inr (2, [.ref q6, .int 0])), (q6, .inl (cq4, 50, .inr (.inl (fun _ => 0)))), (q8, .inl (cq8, 4, .inr (.inr (.inr (.inr (fun _ => none))))))] H := hP
  have hD : va_D A [(h0, .inr (3, [.ref q1, .int 0, .ref q2, .ref q5, .null, .long 0, .long 0])), (q1, .inl (cq1, 40, .inl (fun _ => 0))), (q2, .inr (0, [.ref q3, .int 0, .int 0, .int 0, .long 0])), (q3, .inl (cq4, 5, .inr (.inl (fun _ => 0)))), (q5, .inr (2, [.ref q6, .int 0])), (q6, .inl (cq4, 50, .inr (.inl (fun _ => 0)))), (q8, .inl (cq8, 4, .inr (.inr (.inr (.inr (fun _ => none))))))] := hD
  refine W.widen (k := 6) (n := 106) (by omega) (by omega) ?_
  refine va_putF (D := G) (ci := 3) (v := .ref q8) (ty := .array (.object "DraftSurvey$Survey")) (C := RX3) (T := TX3) (N := 7) hx hb hts hX3 tyX3 tyX3_ok nmX3 hown hK hP hD hS (0) rfl rfl 4 (by decide) (hts (.fieldLink RX3 33 "DraftSurvey" "surveys" "[LDraftSurvey$Survey;") (by decide +kernel)) (fun _ h9 => h9) rfl hin rfl (by decide +kernel) rfl rfl (Nat.le_of_ble_eq_true rfl) dX3_init_44 (fun H locs hP hD hS => ?_)
  have hP : va_P G vwCl [(h0, .inr (3, [.ref q1, .int 0, .ref q2, .ref q5, .ref q8, .long 0, .long 0])), (q1, .inl (cq1, 40, .inl (fun _ => 0))), (q2, .inr (0, [.ref q3, .int 0, .int 0, .int 0, .long 0])), (q3, .inl (cq4, 5, .inr (.inl (fun _ => 0)))), (q5, .inr (2, [.ref q6, .int 0])), (q6, .inl (cq4, 50, .inr (.inl (fun _ => 0)))), (q8, .inl (cq8, 4, .inr (.inr (.inr (.inr (fun _ => none))))))] H := hP
  have hD : va_D A [(h0, .inr (3, [.ref q1, .int 0, .ref q2, .ref q5, .ref q8, .long 0, .long 0])), (q1, .inl (cq1, 40, .inl (fun _ => 0))), (q2, .inr (0, [.ref q3, .int 0, .int 0, .int 0, .long 0])), (q3, .inl (cq4, 5, .inr (.inl (fun _ => 0)))), (q5, .inr (2, [.ref q6, .int 0])), (q6, .inl (cq4, 50, .inr (.inl (fun _ => 0)))), (q8, .inl (cq8, 4, .inr (.inr (.inr (.inr (fun _ => none))))))] := hD
  refine lv_iconst (v := 0) hx hb dX3_init_47 (by decide) ?_
  refine lv_istore_n (lv' := [(1, .int 0), (0, .ref h0)]) hx hb dX3_init_48 rfl hl (by decide) rfl (fun ls hl => ?_)
  refine lv_iload_n hx hb dX3_init_49 rfl (lv_at hl 0 rfl) ?_
  refine lv_iconst (v := 4) hx hb dX3_init_50 (by decide) ?_
  refine ic_ge (tgt := 73) hx hb dX3_init_51 (by decide) (fun c_1 => ?_) (fun c_1 => ?_)
  · skip
    exact absurd c_1 (by decide)
  · skip
    refine lv_aload_n hx hb dX3_init_54 rfl (lv_at hl 1 rfl) ?_
    refine va_get (D := G) (ci := 3) (v := .ref q8) (C := RX3) (T := TX3) (N := 7) hx hb hts hX3 hown hK hP (0) rfl rfl 4 (by decide) (hts (.fieldLink RX3 33 "DraftSurvey" "surveys" "[LDraftSurvey$Survey;") (by decide +kernel)) (fun _ h9 => h9) rfl dX3_init_55 ?_
    refine lv_iload_n hx hb dX3_init_58 rfl (lv_at hl 0 rfl) ?_
    refine va_new (ci := 1) (fs := [.null, .null, .long 0]) (C := RX1) (T := TX1) (N := 3) hx hb hts hX1 tyX1 tyX1_ok hown (hts (.classLink RX3 31 RX1) (by decide +kernel)) (hts (.instantiable RX1 3) (by decide +kernel)) (hts (.initialized RX1) (by decide +kernel)) hK hP hD hS hA rfl (fun j hj => by rcases (show j = 0 ∨ j = 1 ∨ j = 2 by omega) with rfl | rfl | rfl <;> rfl) (Nat.le_of_ble_eq_true rfl) (Nat.le_of_ble_eq_true rfl) dX3_init_59 (fun q9 H hP hD hS => ?_)
    have hP : va_P G vwCl [(h0, .inr (3, [.ref q1, .int 0, .ref q2, .ref q5, .ref q8, .long 0, .long 0])), (q1, .inl (cq1, 40, .inl (fun _ => 0))), (q2, .inr (0, [.ref q3, .int 0, .int 0, .int 0, .long 0])), (q3, .inl (cq4, 5, .inr (.inl (fun _ => 0)))), (q5, .inr (2, [.ref q6, .int 0])), (q6, .inl (cq4, 50, .inr (.inl (fun _ => 0)))), (q8, .inl (cq8, 4, .inr (.inr (.inr (.inr (fun _ => none)))))), (q9, .inr (1, [.null, .null, .long 0]))] H := hP
    have hD : va_D A [(h0, .inr (3, [.ref q1, .int 0, .ref q2, .ref q5, .ref q8, .long 0, .long 0])), (q1, .inl (cq1, 40, .inl (fun _ => 0))), (q2, .inr (0, [.ref q3, .int 0, .int 0, .int 0, .long 0])), (q3, .inl (cq4, 5, .inr (.inl (fun _ => 0)))), (q5, .inr (2, [.ref q6, .int 0])), (q6, .inl (cq4, 50, .inr (.inl (fun _ => 0)))), (q8, .inl (cq8, 4, .inr (.inr (.inr (.inr (fun _ => none)))))), (q9, .inr (1, [.null, .null, .long 0]))] := hD
    refine W.widen (k := 7) (n := 109) (by omega) (by omega) ?_
    refine lv_dup hx hb dX3_init_62 rfl ?_
    refine mk_callN (As := []) (rest := [.ref q9, .int 0, .ref q8]) (w0 := [(q9, .inr (1, [.null, .null, .long 0]))]) (wr := [(h0, .inr (3, [.ref q1, .int 0, .ref q2, .ref q5, .ref q8, .long 0, .long 0])), (q1, .inl (cq1, 40, .inl (fun _ => 0))), (q2, .inr (0, [.ref q3, .int 0, .int 0, .int 0, .long 0])), (q3, .inl (cq4, 5, .inr (.inl (fun _ => 0)))), (q5, .inr (2, [.ref q6, .int 0])), (q6, .inl (cq4, 50, .inr (.inl (fun _ => 0)))), (q8, .inl (cq8, 4, .inr (.inr (.inr (.inr (fun _ => none))))))]) ⟨hx, hb, hml, hown, hts⟩ (i_X1 l G q9) ⟨va_cnB 0 hts gX3_init_X1_init_n37 rfl rfl rfl hNI.2.2.2 (hts (.initialized RX1) (by decide +kernel)) (by decide +kernel) ⟨Nat.le_of_ble_eq_true rfl, Nat.le_of_ble_eq_true rfl⟩, rfl, hts (.instanceMethod yX1_init) (by decide +kernel)⟩ hK hNI hP hD hS hA [7] [0, 1, 2, 3, 4, 5, 6] rfl rfl (by decide) rfl (by decide) (by decide) rfl hl.1 rfl (Nat.le_of_ble_eq_true rfl) dX3_init_63 ⟨Nat.le_of_ble_eq_true rfl, Nat.le_of_ble_eq_true rfl⟩ (fun w1 tys1 H locs hw hK hP hD hS => ?_)
    obtain ⟨q10, q11, cq12, rfl, rfl⟩ := hw
    have hK : va_K G vwCl [(cq1, .int), (cq4, .long), (cq8, .object RX1), (cq12, .long)] s := hK
    have e_cq12 : cq4 = cq12 := ra_l hK (i := 1) (j := 3) rfl rfl
    subst e_cq12
    have hK : va_K G vwCl [(cq1, .int), (cq4, .long), (cq8, .object RX1)] s := hK.sub [0, 1, 2] rfl
    have hP : va_P G vwCl [(h0, .inr (3, [.ref q1, .int 0, .ref q2, .ref q5, .ref q8, .long 0, .long 0])), (q1, .inl (cq1, 40, .inl (fun _ => 0))), (q2, .inr (0, [.ref q3, .int 0, .int 0, .int 0, .long 0])), (q3, .inl (cq4, 5, .inr (.inl (fun _ => 0)))), (q5, .inr (2, [.ref q6, .int 0])), (q6, .inl (cq4, 50, .inr (.inl (fun _ => 0)))), (q8, .inl (cq8, 4, .inr (.inr (.inr (.inr (fun _ => none)))))), (q9, .inr (1, [.ref q10, .ref q11, .long 1025])), (q10, .inl (cq4, 6, .inr (.inl (fun _ => 0)))), (q11, .inl (cq4, 4, .inr (.inl (fun _ => 0))))] H := hP
    have hD : va_D A [(h0, .inr (3, [.ref q1, .int 0, .ref q2, .ref q5, .ref q8, .long 0, .long 0])), (q1, .inl (cq1, 40, .inl (fun _ => 0))), (q2, .inr (0, [.ref q3, .int 0, .int 0, .int 0, .long 0])), (q3, .inl (cq4, 5, .inr (.inl (fun _ => 0)))), (q5, .inr (2, [.ref q6, .int 0])), (q6, .inl (cq4, 50, .inr (.inl (fun _ => 0)))), (q8, .inl (cq8, 4, .inr (.inr (.inr (.inr (fun _ => none)))))), (q9, .inr (1, [.ref q10, .ref q11, .long 1025])), (q10, .inl (cq4, 6, .inr (.inl (fun _ => 0)))), (q11, .inl (cq4, 4, .inr (.inl (fun _ => 0))))] := hD
    refine W.widen (k := 9) (n := 119) (by omega) (by omega) ?_
    refine W.eq (g2 := F0 m 66 ls [.ref q9, .int 0, .ref q8]) rfl ?_
    refine va_astq (r := (RX1, TX1, 3)) hx hb hK hP hD hS 6 2 7 1 rfl rfl rfl rfl (vp_in_nI (n := 0) (by decide) (by decide)) dX3_init_66 (fun H locs hP hD hS => ?_)
    have hP : va_P G vwCl [(h0, .inr (3, [.ref q1, .int 0, .ref q2, .ref q5, .ref q8, .long 0, .long 0])), (q1, .inl (cq1, 40, .inl (fun _ => 0))), (q2, .inr (0, [.ref q3, .int 0, .int 0, .int 0, .long 0])), (q3, .inl (cq4, 5, .inr (.inl (fun _ => 0)))), (q5, .inr (2, [.ref q6, .int 0])), (q6, .inl (cq4, 50, .inr (.inl (fun _ => 0)))), (q8, .inl (cq8, 4, .inr (.inr (.inr (.inr (va_up (fun _ => none) 0 (some q9))))))), (q9, .inr (1, [.ref q10, .ref q11, .long 1025])), (q10, .inl (cq4, 6, .inr (.inl (fun _ => 0)))), (q11, .inl (cq4, 4, .inr (.inl (fun _ => 0))))] H := hP
    have hD : va_D A [(h0, .inr (3, [.ref q1, .int 0, .ref q2, .ref q5, .ref q8, .long 0, .long 0])), (q1, .inl (cq1, 40, .inl (fun _ => 0))), (q2, .inr (0, [.ref q3, .int 0, .int 0, .int 0, .long 0])), (q3, .inl (cq4, 5, .inr (.inl (fun _ => 0)))), (q5, .inr (2, [.ref q6, .int 0])), (q6, .inl (cq4, 50, .inr (.inl (fun _ => 0)))), (q8, .inl (cq8, 4, .inr (.inr (.inr (.inr (va_up (fun _ => none) 0 (some q9))))))), (q9, .inr (1, [.ref q10, .ref q11, .long 1025])), (q10, .inl (cq4, 6, .inr (.inl (fun _ => 0)))), (q11, .inl (cq4, 4, .inr (.inl (fun _ => 0))))] := hD
    refine lv_iinc (v := 1) (lv' := [(1, .int 1), (0, .ref h0)]) hx hb dX3_init_67 hl (k := 0) rfl (by decide) (by decide) rfl (fun ls hl => ?_)
    refine lv_goto (tgt := 49) hx hb dX3_init_70 (by decide) ?_
    refine lv_iload_n hx hb dX3_init_49 rfl (lv_at hl 0 rfl) ?_
    refine lv_iconst (v := 4) hx hb dX3_init_50 (by decide) ?_
    refine ic_ge (tgt := 73) hx hb dX3_init_51 (by decide) (fun c_2 => ?_) (fun c_2 => ?_)
    · skip
      exact absurd c_2 (by decide)
    · skip
      refine lv_aload_n hx hb dX3_init_54 rfl (lv_at hl 1 rfl) ?_
      refine va_get (D := G) (ci := 3) (v := .ref q8) (C := RX3) (T := TX3) (N := 7) hx hb hts hX3 hown hK hP (0) rfl rfl 4 (by decide) (hts (.fieldLink RX3 33 "DraftSurvey" "surveys" "[LDraftSurvey$Survey;") (by decide +kernel)) (fun _ h9 => h9) rfl dX3_init_55 ?_
      refine lv_iload_n hx hb dX3_init_58 rfl (lv_at hl 0 rfl) ?_
      refine va_new (ci := 1) (fs := [.null, .null, .long 0]) (C := RX1) (T := TX1) (N := 3) hx hb hts hX1 tyX1 tyX1_ok hown (hts (.classLink RX3 31 RX1) (by decide +kernel)) (hts (.instantiable RX1 3) (by decide +kernel)) (hts (.initialized RX1) (by decide +kernel)) hK hP hD hS hA rfl (fun j hj => by rcases (show j = 0 ∨ j = 1 ∨ j = 2 by omega) with rfl | rfl | rfl <;> rfl) (Nat.le_of_ble_eq_true rfl) (Nat.le_of_ble_eq_true rfl) dX3_init_59 (fun q13 H hP hD hS => ?_)
      have hP : va_P G vwCl [(h0, .inr (3, [.ref q1, .int 0, .ref q2, .ref q5, .ref q8, .long 0, .long 0])), (q1, .inl (cq1, 40, .inl (fun _ => 0))), (q2, .inr (0, [.ref q3, .int 0, .int 0, .int 0, .long 0])), (q3, .inl (cq4, 5, .inr (.inl (fun _ => 0)))), (q5, .inr (2, [.ref q6, .int 0])), (q6, .inl (cq4, 50, .inr (.inl (fun _ => 0)))), (q8, .inl (cq8, 4, .inr (.inr (.inr (.inr (va_up (fun _ => none) 0 (some q9))))))), (q9, .inr (1, [.ref q10, .ref q11, .long 1025])), (q10, .inl (cq4, 6, .inr (.inl (fun _ => 0)))), (q11, .inl (cq4, 4, .inr (.inl (fun _ => 0)))), (q13, .inr (1, [.null, .null, .long 0]))] H := hP
      have hD : va_D A [(h0, .inr (3, [.ref q1, .int 0, .ref q2, .ref q5, .ref q8, .long 0, .long 0])), (q1, .inl (cq1, 40, .inl (fun _ => 0))), (q2, .inr (0, [.ref q3, .int 0, .int 0, .int 0, .long 0])), (q3, .inl (cq4, 5, .inr (.inl (fun _ => 0)))), (q5, .inr (2, [.ref q6, .int 0])), (q6, .inl (cq4, 50, .inr (.inl (fun _ => 0)))), (q8, .inl (cq8, 4, .inr (.inr (.inr (.inr (va_up (fun _ => none) 0 (some q9))))))), (q9, .inr (1, [.ref q10, .ref q11, .long 1025])), (q10, .inl (cq4, 6, .inr (.inl (fun _ => 0)))), (q11, .inl (cq4, 4, .inr (.inl (fun _ => 0)))), (q13, .inr (1, [.null, .null, .long 0]))] := hD
      refine W.widen (k := 10) (n := 122) (by omega) (by omega) ?_
      refine lv_dup hx hb dX3_init_62 rfl ?_
      refine mk_callN (As := []) (rest := [.ref q13, .int 1, .ref q8]) (w0 := [(q13, .inr (1, [.null, .null, .long 0]))]) (wr := [(h0, .inr (3, [.ref q1, .int 0, .ref q2, .ref q5, .ref q8, .long 0, .long 0])), (q1, .inl (cq1, 40, .inl (fun _ => 0))), (q2, .inr (0, [.ref q3, .int 0, .int 0, .int 0, .long 0])), (q3, .inl (cq4, 5, .inr (.inl (fun _ => 0)))), (q5, .inr (2, [.ref q6, .int 0])), (q6, .inl (cq4, 50, .inr (.inl (fun _ => 0)))), (q8, .inl (cq8, 4, .inr (.inr (.inr (.inr (va_up (fun _ => none) 0 (some q9))))))), (q9, .inr (1, [.ref q10, .ref q11, .long 1025])), (q10, .inl (cq4, 6, .inr (.inl (fun _ => 0)))), (q11, .inl (cq4, 4, .inr (.inl (fun _ => 0))))]) ⟨hx, hb, hml, hown, hts⟩ (i_X1 l G q13) ⟨va_cnB 0 hts gX3_init_X1_init_n37 rfl rfl rfl hNI.2.2.2 (hts (.initialized RX1) (by decide +kernel)) (by decide +kernel) ⟨Nat.le_of_ble_eq_true rfl, Nat.le_of_ble_eq_true rfl⟩, rfl, hts (.instanceMethod yX1_init) (by decide +kernel)⟩ hK hNI hP hD hS hA [10] [0, 1, 2, 3, 4, 5, 6, 7, 8, 9] rfl rfl (by decide) rfl (by decide) (by decide) rfl hl.1 rfl (Nat.le_of_ble_eq_true rfl) dX3_init_63 ⟨Nat.le_of_ble_eq_true rfl, Nat.le_of_ble_eq_true rfl⟩ (fun w1 tys1 H locs hw hK hP hD hS => ?_)
      obtain ⟨q14, q15, cq16, rfl, rfl⟩ := hw
      have hK : va_K G vwCl [(cq1, .int), (cq4, .long), (cq8, .object RX1), (cq16, .long)] s := hK
      have e_cq16 : cq4 = cq16 := ra_l hK (i := 1) (j := 3) rfl rfl
      subst e_cq16
      have hK : va_K G vwCl [(cq1, .int), (cq4, .long), (cq8, .object RX1)] s := hK.sub [0, 1, 2] rfl
      have hP : va_P G vwCl [(h0, .inr (3, [.ref q1, .int 0, .ref q2, .ref q5, .ref q8, .long 0, .long 0])), (q1, .inl (cq1, 40, .inl (fun _ => 0))), (q2, .inr (0, [.ref q3, .int 0, .int 0, .int 0, .long 0])), (q3, .inl (cq4, 5, .inr (.inl (fun _ => 0)))), (q5, .inr (2, [.ref q6, .int 0])), (q6, .inl (cq4, 50, .inr (.inl (fun _ => 0)))), (q8, .inl (cq8, 4, .inr (.inr (.inr (.inr (va_up (fun _ => none) 0 (some q9))))))), (q9, .inr (1, [.ref q10, .ref q11, .long 1025])), (q10, .inl (cq4, 6, .inr (.inl (fun _ => 0)))), (q11, .inl (cq4, 4, .inr (.inl (fun _ => 0)))), (q13, .inr (1, [.ref q14, .ref q15, .long 1025])), (q14, .inl (cq4, 6, .inr (.inl (fun _ => 0)))), (q15, .inl (cq4, 4, .inr (.inl (fun _ => 0))))] H := hP
      have hD : va_D A [(h0, .inr (3, [.ref q1, .int 0, .ref q2, .ref q5, .ref q8, .long 0, .long 0])), (q1, .inl (cq1, 40, .inl (fun _ => 0))), (q2, .inr (0, [.ref q3, .int 0, .int 0, .int 0, .long 0])), (q3, .inl (cq4, 5, .inr (.inl (fun _ => 0)))), (q5, .inr (2, [.ref q6, .int 0])), (q6, .inl (cq4, 50, .inr (.inl (fun _ => 0)))), (q8, .inl (cq8, 4, .inr (.inr (.inr (.inr (va_up (fun _ => none) 0 (some q9))))))), (q9, .inr (1, [.ref q10, .ref q11, .long 1025])), (q10, .inl (cq4, 6, .inr (.inl (fun _ => 0)))), (q11, .inl (cq4, 4, .inr (.inl (fun _ => 0)))), (q13, .inr (1, [.ref q14, .ref q15, .long 1025])), (q14, .inl (cq4, 6, .inr (.inl (fun _ => 0)))), (q15, .inl (cq4, 4, .inr (.inl (fun _ => 0))))] := hD
      refine W.widen (k := 12) (n := 132) (by omega) (by omega) ?_
      refine W.eq (g2 := F0 m 66 ls [.ref q13, .int 1, .ref q8]) rfl ?_
      refine va_astq (r := (RX1, TX1, 3)) hx hb hK hP hD hS 6 2 10 1 rfl rfl rfl rfl (vp_in_nI (n := 1) (by decide) (by decide)) dX3_init_66 (fun H locs hP hD hS => ?_)
      have hP : va_P G vwCl [(h0, .inr (3, [.ref q1, .int 0, .ref q2, .ref q5, .ref q8, .long 0, .long 0])), (q1, .inl (cq1, 40, .inl (fun _ => 0))), (q2, .inr (0, [.ref q3, .int 0, .int 0, .int 0, .long 0])), (q3, .inl (cq4, 5, .inr (.inl (fun _ => 0)))), (q5, .inr (2, [.ref q6, .int 0])), (q6, .inl (cq4, 50, .inr (.inl (fun _ => 0)))), (q8, .inl (cq8, 4, .inr (.inr (.inr (.inr (va_up (va_up (fun _ => none) 0 (some q9)) 1 (some q13))))))), (q9, .inr (1, [.ref q10, .ref q11, .long 1025])), (q10, .inl (cq4, 6, .inr (.inl (fun _ => 0)))), (q11, .inl (cq4, 4, .inr (.inl (fun _ => 0)))), (q13, .inr (1, [.ref q14, .ref q15, .long 1025])), (q14, .inl (cq4, 6, .inr (.inl (fun _ => 0)))), (q15, .inl (cq4, 4, .inr (.inl (fun _ => 0))))] H := hP
      have hD : va_D A [(h0, .inr (3, [.ref q1, .int 0, .ref q2, .ref q5, .ref q8, .long 0, .long 0])), (q1, .inl (cq1, 40, .inl (fun _ => 0))), (q2, .inr (0, [.ref q3, .int 0, .int 0, .int 0, .long 0])), (q3, .inl (cq4, 5, .inr (.inl (fun _ => 0)))), (q5, .inr (2, [.ref q6, .int 0])), (q6, .inl (cq4, 50, .inr (.inl (fun _ => 0)))), (q8, .inl (cq8, 4, .inr (.inr (.inr (.inr (va_up (va_up (fun _ => none) 0 (some q9)) 1 (some q13))))))), (q9, .inr (1, [.ref q10, .ref q11, .long 1025])), (q10, .inl (cq4, 6, .inr (.inl (fun _ => 0)))), (q11, .inl (cq4, 4, .inr (.inl (fun _ => 0)))), (q13, .inr (1, [.ref q14, .ref q15, .long 1025])), (q14, .inl (cq4, 6, .inr (.inl (fun _ => 0)))), (q15, .inl (cq4, 4, .inr (.inl (fun _ => 0))))] := hD
      refine lv_iinc (v := 2) (lv' := [(1, .int 2), (0, .ref h0)]) hx hb dX3_init_67 hl (k := 0) rfl (by decide) (by decide) rfl (fun ls hl => ?_)
      refine lv_goto (tgt := 49) hx hb dX3_init_70 (by decide) ?_
      refine lv_iload_n hx hb dX3_init_49 rfl (lv_at hl 0 rfl) ?_
      refine lv_iconst (v := 4) hx hb dX3_init_50 (by decide) ?_
      refine ic_ge (tgt := 73) hx hb dX3_init_51 (by decide) (fun c_3 => ?_) (fun c_3 => ?_)
      · skip
        exact absurd c_3 (by decide)
      · skip
        refine lv_aload_n hx hb dX3_init_54 rfl (lv_at hl 1 rfl) ?_
        refine va_get (D := G) (ci := 3) (v := .ref q8) (C := RX3) (T := TX3) (N := 7) hx hb hts hX3 hown hK hP (0) rfl rfl 4 (by decide) (hts (.fieldLink RX3 33 "DraftSurvey" "surveys" "[LDraftSurvey$Survey;") (by decide +kernel)) (fun _ h9 => h9) rfl dX3_init_55 ?_
        refine lv_iload_n hx hb dX3_init_58 rfl (lv_at hl 0 rfl) ?_
        refine va_new (ci := 1) (fs := [.null, .null, .long 0]) (C := RX1) (T := TX1) (N := 3) hx hb hts hX1 tyX1 tyX1_ok hown (hts (.classLink RX3 31 RX1) (by decide +kernel)) (hts (.instantiable RX1 3) (by decide +kernel)) (hts (.initialized RX1) (by decide +kernel)) hK hP hD hS hA rfl (fun j hj => by rcases (show j = 0 ∨ j = 1 ∨ j = 2 by omega) with rfl | rfl | rfl <;> rfl) (Nat.le_of_ble_eq_true rfl) (Nat.le_of_ble_eq_true rfl) dX3_init_59 (fun q17 H hP hD hS => ?_)
        have hP : va_P G vwCl [(h0, .inr (3, [.ref q1, .int 0, .ref q2, .ref q5, .ref q8, .long 0, .long 0])), (q1, .inl (cq1, 40, .inl (fun _ => 0))), (q2, .inr (0, [.ref q3, .int 0, .int 0, .int 0, .long 0])), (q3, .inl (cq4, 5, .inr (.inl (fun _ => 0)))), (q5, .inr (2, [.ref q6, .int 0])), (q6, .inl (cq4, 50, .inr (.inl (fun _ => 0)))), (q8, .inl (cq8, 4, .inr (.inr (.inr (.inr (va_up (va_up (fun _ => none) 0 (some q9)) 1 (some q13))))))), (q9, .inr (1, [.ref q10, .ref q11, .long 1025])), (q10, .inl (cq4, 6, .inr (.inl (fun _ => 0)))), (q11, .inl (cq4, 4, .inr (.inl (fun _ => 0)))), (q13, .inr (1, [.ref q14, .ref q15, .long 1025])), (q14, .inl (cq4, 6, .inr (.inl (fun _ => 0)))), (q15, .inl (cq4, 4, .inr (.inl (fun _ => 0)))), (q17, .inr (1, [.null, .null, .long 0]))] H := hP
        have hD : va_D A [(h0, .inr (3, [.ref q1, .int 0, .ref q2, .ref q5, .ref q8, .long 0, .long 0])), (q1, .inl (cq1, 40, .inl (fun _ => 0))), (q2, .inr (0, [.ref q3, .int 0, .int 0, .int 0, .long 0])), (q3, .inl (cq4, 5, .inr (.inl (fun _ => 0)))), (q5, .inr (2, [.ref q6, .int 0])), (q6, .inl (cq4, 50, .inr (.inl (fun _ => 0)))), (q8, .inl (cq8, 4, .inr (.inr (.inr (.inr (va_up (va_up (fun _ => none) 0 (some q9)) 1 (some q13))))))), (q9, .inr (1, [.ref q10, .ref q11, .long 1025])), (q10, .inl (cq4, 6, .inr (.inl (fun _ => 0)))), (q11, .inl (cq4, 4, .inr (.inl (fun _ => 0)))), (q13, .inr (1, [.ref q14, .ref q15, .long 1025])), (q14, .inl (cq4, 6, .inr (.inl (fun _ => 0)))), (q15, .inl (cq4, 4, .inr (.inl (fun _ => 0)))), (q17, .inr (1, [.null, .null, .long 0]))] := hD
        refine W.widen (k := 13) (n := 135) (by omega) (by omega) ?_
        refine lv_dup hx hb dX3_init_62 rfl ?_
        refine mk_callN (As := []) (rest := [.ref q17, .int 2, .ref q8]) (w0 := [(q17, .inr (1, [.null, .null, .long 0]))]) (wr := [(h0, .inr (3, [.ref q1, .int 0, .ref q2, .ref q5, .ref q8, .long 0, .long 0])), (q1, .inl (cq1, 40, .inl (fun _ => 0))), (q2, .inr (0, [.ref q3, .int 0, .int 0, .int 0, .long 0])), (q3, .inl (cq4, 5, .inr (.inl (fun _ => 0)))), (q5, .inr (2, [.ref q6, .int 0])), (q6, .inl (cq4, 50, .inr (.inl (fun _ => 0)))), (q8, .inl (cq8, 4, .inr (.inr (.inr (.inr (va_up (va_up (fun _ => none) 0 (some q9)) 1 (some q13))))))), (q9, .inr (1, [.ref q10, .ref q11, .long 1025])), (q10, .inl (cq4, 6, .inr (.inl (fun _ => 0)))), (q11, .inl (cq4, 4, .inr (.inl (fun _ => 0)))), (q13, .inr (1, [.ref q14, .ref q15, .long 1025])), (q14, .inl (cq4, 6, .inr (.inl (fun _ => 0)))), (q15, .inl (cq4, 4, .inr (.inl (fun _ => 0))))]) ⟨hx, hb, hml, hown, hts⟩ (i_X1 l G q17) ⟨va_cnB 0 hts gX3_init_X1_init_n37 rfl rfl rfl hNI.2.2.2 (hts (.initialized RX1) (by decide +kernel)) (by decide +kernel) ⟨Nat.le_of_ble_eq_true rfl, Nat.le_of_ble_eq_true rfl⟩, rfl, hts (.instanceMethod yX1_init) (by decide +kernel)⟩ hK hNI hP hD hS hA [13] [0, 1, 2, 3, 4, 5, 6, 7, 8, 9, 10, 11, 12] rfl rfl (by decide) rfl (by decide) (by decide) rfl hl.1 rfl (Nat.le_of_ble_eq_true rfl) dX3_init_63 ⟨Nat.le_of_ble_eq_true rfl, Nat.le_of_ble_eq_true rfl⟩ (fun w1 tys1 H locs hw hK hP hD hS => ?_)
        obtain ⟨q18, q19, cq20, rfl, rfl⟩ := hw
        have hK : va_K G vwCl [(cq1, .int), (cq4, .long), (cq8, .object RX1), (cq20, .long)] s := hK
        have e_cq20 : cq4 = cq20 := ra_l hK (i := 1) (j := 3) rfl rfl
        subst e_cq20
        have hK : va_K G vwCl [(cq1, .int), (cq4, .long), (cq8, .object RX1)] s := hK.sub [0, 1, 2] rfl
        have hP : va_P G vwCl [(h0, .inr (3, [.ref q1, .int 0, .ref q2, .ref q5, .ref q8, .long 0, .long 0])), (q1, .inl (cq1, 40, .inl (fun _ => 0))), (q2, .inr (0, [.ref q3, .int 0, .int 0, .int 0, .long 0])), (q3, .inl (cq4, 5, .inr (.inl (fun _ => 0)))), (q5, .inr (2, [.ref q6, .int 0])), (q6, .inl (cq4, 50, .inr (.inl (fun _ => 0)))), (q8, .inl (cq8, 4, .inr (.inr (.inr (.inr (va_up (va_up (fun _ => none) 0 (some q9)) 1 (some q13))))))), (q9, .inr (1, [.ref q10, .ref q11, .long 1025])), (q10, .inl (cq4, 6, .inr (.inl (fun _ => 0)))), (q11, .inl (cq4, 4, .inr (.inl (fun _ => 0)))), (q13, .inr (1, [.ref q14, .ref q15, .long 1025])), (q14, .inl (cq4, 6, .inr (.inl (fun _ => 0)))), (q15, .inl (cq4, 4, .inr (.inl (fun _ => 0)))), (q17, .inr (1, [.ref q18, .ref q19, .long 1025])), (q18, .inl (cq4, 6, .inr (.inl (fun _ => 0)))), (q19, .inl (cq4, 4, .inr (.inl (fun _ => 0))))] H := hP
        have hD : va_D A [(h0, .inr (3, [.ref q1, .int 0, .ref q2, .ref q5, .ref q8, .long 0, .long 0])), (q1, .inl (cq1, 40, .inl (fun _ => 0))), (q2, .inr (0, [.ref q3, .int 0, .int 0, .int 0, .long 0])), (q3, .inl (cq4, 5, .inr (.inl (fun _ => 0)))), (q5, .inr (2, [.ref q6, .int 0])), (q6, .inl (cq4, 50, .inr (.inl (fun _ => 0)))), (q8, .inl (cq8, 4, .inr (.inr (.inr (.inr (va_up (va_up (fun _ => none) 0 (some q9)) 1 (some q13))))))), (q9, .inr (1, [.ref q10, .ref q11, .long 1025])), (q10, .inl (cq4, 6, .inr (.inl (fun _ => 0)))), (q11, .inl (cq4, 4, .inr (.inl (fun _ => 0)))), (q13, .inr (1, [.ref q14, .ref q15, .long 1025])), (q14, .inl (cq4, 6, .inr (.inl (fun _ => 0)))), (q15, .inl (cq4, 4, .inr (.inl (fun _ => 0)))), (q17, .inr (1, [.ref q18, .ref q19, .long 1025])), (q18, .inl (cq4, 6, .inr (.inl (fun _ => 0)))), (q19, .inl (cq4, 4, .inr (.inl (fun _ => 0))))] := hD
        refine W.widen (k := 15) (n := 145) (by omega) (by omega) ?_
        refine W.eq (g2 := F0 m 66 ls [.ref q17, .int 2, .ref q8]) rfl ?_
        refine va_astq (r := (RX1, TX1, 3)) hx hb hK hP hD hS 6 2 13 1 rfl rfl rfl rfl (vp_in_nI (n := 2) (by decide) (by decide)) dX3_init_66 (fun H locs hP hD hS => ?_)
        have hP : va_P G vwCl [(h0, .inr (3, [.ref q1, .int 0, .ref q2, .ref q5, .ref q8, .long 0, .long 0])), (q1, .inl (cq1, 40, .inl (fun _ => 0))), (q2, .inr (0, [.ref q3, .int 0, .int 0, .int 0, .long 0])), (q3, .inl (cq4, 5, .inr (.inl (fun _ => 0)))), (q5, .inr (2, [.ref q6, .int 0])), (q6, .inl (cq4, 50, .inr (.inl (fun _ => 0)))), (q8, .inl (cq8, 4, .inr (.inr (.inr (.inr (va_up (va_up (va_up (fun _ => none) 0 (some q9)) 1 (some q13)) 2 (some q17))))))), (q9, .inr (1, [.ref q10, .ref q11, .long 1025])), (q10, .inl (cq4, 6, .inr (.inl (fun _ => 0)))), (q11, .inl (cq4, 4, .inr (.inl (fun _ => 0)))), (q13, .inr (1, [.ref q14, .ref q15, .long 1025])), (q14, .inl (cq4, 6, .inr (.inl (fun _ => 0)))), (q15, .inl (cq4, 4, .inr (.inl (fun _ => 0)))), (q17, .inr (1, [.ref q18, .ref q19, .long 1025])), (q18, .inl (cq4, 6, .inr (.inl (fun _ => 0)))), (q19, .inl (cq4, 4, .inr (.inl (fun _ => 0))))] H := hP
        have hD : va_D A [(h0, .inr (3, [.ref q1, .int 0, .ref q2, .ref q5, .ref q8, .long 0, .long 0])), (q1, .inl (cq1, 40, .inl (fun _ => 0))), (q2, .inr (0, [.ref q3, .int 0, .int 0, .int 0, .long 0])), (q3, .inl (cq4, 5, .inr (.inl (fun _ => 0)))), (q5, .inr (2, [.ref q6, .int 0])), (q6, .inl (cq4, 50, .inr (.inl (fun _ => 0)))), (q8, .inl (cq8, 4, .inr (.inr (.inr (.inr (va_up (va_up (va_up (fun _ => none) 0 (some q9)) 1 (some q13)) 2 (some q17))))))), (q9, .inr (1, [.ref q10, .ref q11, .long 1025])), (q10, .inl (cq4, 6, .inr (.inl (fun _ => 0)))), (q11, .inl (cq4, 4, .inr (.inl (fun _ => 0)))), (q13, .inr (1, [.ref q14, .ref q15, .long 1025])), (q14, .inl (cq4, 6, .inr (.inl (fun _ => 0)))), (q15, .inl (cq4, 4, .inr (.inl (fun _ => 0)))), (q17, .inr (1, [.ref q18, .ref q19, .long 1025])), (q18, .inl (cq4, 6, .inr (.inl (fun _ => 0)))), (q19, .inl (cq4, 4, .inr (.inl (fun _ => 0))))] := hD
        refine lv_iinc (v := 3) (lv' := [(1, .int 3), (0, .ref h0)]) hx hb dX3_init_67 hl (k := 0) rfl (by decide) (by decide) rfl (fun ls hl => ?_)
        refine lv_goto (tgt := 49) hx hb dX3_init_70 (by decide) ?_
        refine lv_iload_n hx hb dX3_init_49 rfl (lv_at hl 0 rfl) ?_
        refine lv_iconst (v := 4) hx hb dX3_init_50 (by decide) ?_
        refine ic_ge (tgt := 73) hx hb dX3_init_51 (by decide) (fun c_4 => ?_) (fun c_4 => ?_)
        · skip
          exact absurd c_4 (by decide)
        · skip
          refine lv_aload_n hx hb dX3_init_54 rfl (lv_at hl 1 rfl) ?_
          refine va_get (D := G) (ci := 3) (v := .ref q8) (C := RX3) (T := TX3) (N := 7) hx hb hts hX3 hown hK hP (0) rfl rfl 4 (by decide) (hts (.fieldLink RX3 33 "DraftSurvey" "surveys" "[LDraftSurvey$Survey;") (by decide +kernel)) (fun _ h9 => h9) rfl dX3_init_55 ?_
          refine lv_iload_n hx hb dX3_init_58 rfl (lv_at hl 0 rfl) ?_
          refine va_new (ci := 1) (fs := [.null, .null, .long 0]) (C := RX1) (T := TX1) (N := 3) hx hb hts hX1 tyX1 tyX1_ok hown (hts (.classLink RX3 31 RX1) (by decide +kernel)) (hts (.instantiable RX1 3) (by decide +kernel)) (hts (.initialized RX1) (by decide +kernel)) hK hP hD hS hA rfl (fun j hj => by rcases (show j = 0 ∨ j = 1 ∨ j = 2 by omega) with rfl | rfl | rfl <;> rfl) (Nat.le_of_ble_eq_true rfl) (Nat.le_of_ble_eq_true rfl) dX3_init_59 (fun q21 H hP hD hS => ?_)
          have hP : va_P G vwCl [(h0, .inr (3, [.ref q1, .int 0, .ref q2, .ref q5, .ref q8, .long 0, .long 0])), (q1, .inl (cq1, 40, .inl (fun _ => 0))), (q2, .inr (0, [.ref q3, .int 0, .int 0, .int 0, .long 0])), (q3, .inl (cq4, 5, .inr (.inl (fun _ => 0)))), (q5, .inr (2, [.ref q6, .int 0])), (q6, .inl (cq4, 50, .inr (.inl (fun _ => 0)))), (q8, .inl (cq8, 4, .inr (.inr (.inr (.inr (va_up (va_up (va_up (fun _ => none) 0 (some q9)) 1 (some q13)) 2 (some q17))))))), (q9, .inr (1, [.ref q10, .ref q11, .long 1025])), (q10, .inl (cq4, 6, .inr (.inl (fun _ => 0)))), (q11, .inl (cq4, 4, .inr (.inl (fun _ => 0)))), (q13, .inr (1, [.ref q14, .ref q15, .long 1025])), (q14, .inl (cq4, 6, .inr (.inl (fun _ => 0)))), (q15, .inl (cq4, 4, .inr (.inl (fun _ => 0)))), (q17, .inr (1, [.ref q18, .ref q19, .long 1025])), (q18, .inl (cq4, 6, .inr (.inl (fun _ => 0)))), (q19, .inl (cq4, 4, .inr (.inl (fun _ => 0)))), (q21, .inr (1, [.null, .null, .long 0]))] H := hP
          have hD : va_D A [(h0, .inr (3, [.ref q1, .int 0, .ref q2, .ref q5, .ref q8, .long 0, .long 0])), (q1, .inl (cq1, 40, .inl (fun _ => 0))), (q2, .inr (0, [.ref q3, .int 0, .int 0, .int 0, .long 0])), (q3, .inl (cq4, 5, .inr (.inl (fun _ => 0)))), (q5, .inr (2, [.ref q6, .int 0])), (q6, .inl (cq4, 50, .inr (.inl (fun _ => 0)))), (q8, .inl (cq8, 4, .inr (.inr (.inr (.inr (va_up (va_up (va_up (fun _ => none) 0 (some q9)) 1 (some q13)) 2 (some q17))))))), (q9, .inr (1, [.ref q10, .ref q11, .long 1025])), (q10, .inl (cq4, 6, .inr (.inl (fun _ => 0)))), (q11, .inl (cq4, 4, .inr (.inl (fun _ => 0)))), (q13, .inr (1, [.ref q14, .ref q15, .long 1025])), (q14, .inl (cq4, 6, .inr (.inl (fun _ => 0)))), (q15, .inl (cq4, 4, .inr (.inl (fun _ => 0)))), (q17, .inr (1, [.ref q18, .ref q19, .long 1025])), (q18, .inl (cq4, 6, .inr (.inl (fun _ => 0)))), (q19, .inl (cq4, 4, .inr (.inl (fun _ => 0)))), (q21, .inr (1, [.null, .null, .long 0]))] := hD
          refine W.widen (k := 16) (n := 148) (by omega) (by omega) ?_
          refine lv_dup hx hb dX3_init_62 rfl ?_
          refine mk_callN (As := []) (rest := [.ref q21, .int 3, .ref q8]) (w0 := [(q21, .inr (1, [.null, .null, .long 0]))]) (wr := [(h0, .inr (3, [.ref q1, .int 0, .ref q2, .ref q5, .ref q8, .long 0, .long 0])), (q1, .inl (cq1, 40, .inl (fun _ => 0))), (q2, .inr (0, [.ref q3, .int 0, .int 0, .int 0, .long 0])), (q3, .inl (cq4, 5, .inr (.inl (fun _ => 0)))), (q5, .inr (2, [.ref q6, .int 0])), (q6, .inl (cq4, 50, .inr (.inl (fun _ => 0)))), (q8, .inl (cq8, 4, .inr (.inr (.inr (.inr (va_up (va_up (va_up (fun _ => none) 0 (some q9)) 1 (some q13)) 2 (some q17))))))), (q9, .inr (1, [.ref q10, .ref q11, .long 1025])), (q10, .inl (cq4, 6, .inr (.inl (fun _ => 0)))), (q11, .inl (cq4, 4, .inr (.inl (fun _ => 0)))), (q13, .inr (1, [.ref q14, .ref q15, .long 1025])), (q14, .inl (cq4, 6, .inr (.inl (fun _ => 0)))), (q15, .inl (cq4, 4, .inr (.inl (fun _ => 0)))), (q17, .inr (1, [.ref q18, .ref q19, .long 1025])), (q18, .inl (cq4, 6, .inr (.inl (fun _ => 0)))), (q19, .inl (cq4, 4, .inr (.inl (fun _ => 0))))]) ⟨hx, hb, hml, hown, hts⟩ (i_X1 l G q21) ⟨va_cnB 0 hts gX3_init_X1_init_n37 rfl rfl rfl hNI.2.2.2 (hts (.initialized RX1) (by decide +kernel)) (by decide +kernel) ⟨Nat.le_of_ble_eq_true rfl, Nat.le_of_ble_eq_true rfl⟩, rfl, hts (.instanceMethod yX1_init) (by decide +kernel)⟩ hK hNI hP hD hS hA [16] [0, 1, 2, 3, 4, 5, 6, 7, 8, 9, 10, 11, 12, 13, 14, 15] rfl rfl (by decide) rfl (by decide) (by decide) rfl hl.1 rfl (Nat.le_of_ble_eq_true rfl) dX3_init_63 ⟨Nat.le_of_ble_eq_true rfl, Nat.le_of_ble_eq_true rfl⟩ (fun w1 tys1 H locs hw hK hP hD hS => ?_)
          obtain ⟨q22, q23, cq24, rfl, rfl⟩ := hw
          have hK : va_K G vwCl [(cq1, .int), (cq4, .long), (cq8, .object RX1), (cq24, .long)] s := hK
          have e_cq24 : cq4 = cq24 := ra_l hK (i := 1) (j := 3) rfl rfl
          subst e_cq24
          have hK : va_K G vwCl [(cq1, .int), (cq4, .long), (cq8, .object RX1)] s := hK.sub [0, 1, 2] rfl
          have hP : va_P G vwCl [(h0, .inr (3, [.ref q1, .int 0, .ref q2, .ref q5, .ref q8, .long 0, .long 0])), (q1, .inl (cq1, 40, .inl (fun _ => 0))), (q2, .inr (0, [.ref q3, .int 0, .int 0, .int 0, .long 0])), (q3, .inl (cq4, 5, .inr (.inl (fun _ => 0)))), (q5, .inr (2, [.ref q6, .int 0])), (q6, .inl (cq4, 50, .inr (.inl (fun _ => 0)))), (q8, .inl (cq8, 4, .inr (.inr (.inr (.inr (va_up (va_up (va_up (fun _ => none) 0 (some q9)) 1 (some q13)) 2 (some q17))))))), (q9, .inr (1, [.ref q10, .ref q11, .long 1025])), (q10, .inl (cq4, 6, .inr (.inl (fun _ => 0)))), (q11, .inl (cq4, 4, .inr (.inl (fun _ => 0)))), (q13, .inr (1, [.ref q14, .ref q15, .long 1025])), (q14, .inl (cq4, 6, .inr (.inl (fun _ => 0)))), (q15, .inl (cq4, 4, .inr (.inl (fun _ => 0)))), (q17, .inr (1, [.ref q18, .ref q19, .long 1025])), (q18, .inl (cq4, 6, .inr (.inl (fun _ => 0)))), (q19, .inl (cq4, 4, .inr (.inl (fun _ => 0)))), (q21, .inr (1, [.ref q22, .ref q23, .long 1025])), (q22, .inl (cq4, 6, .inr (.inl (fun _ => 0)))), (q23, .inl (cq4, 4, .inr (.inl (fun _ => 0))))] H := hP
          have hD : va_D A [(h0, .inr (3, [.ref q1, .int 0, .ref q2, .ref q5, .ref q8, .long 0, .long 0])), (q1, .inl (cq1, 40, .inl (fun _ => 0))), (q2, .inr (0, [.ref q3, .int 0, .int 0, .int 0, .long 0])), (q3, .inl (cq4, 5, .inr (.inl (fun _ => 0)))), (q5, .inr (2, [.ref q6, .int 0])), (q6, .inl (cq4, 50, .inr (.inl (fun _ => 0)))), (q8, .inl (cq8, 4, .inr (.inr (.inr (.inr (va_up (va_up (va_up (fun _ => none) 0 (some q9)) 1 (some q13)) 2 (some q17))))))), (q9, .inr (1, [.ref q10, .ref q11, .long 1025])), (q10, .inl (cq4, 6, .inr (.inl (fun _ => 0)))), (q11, .inl (cq4, 4, .inr (.inl (fun _ => 0)))), (q13, .inr (1, [.ref q14, .ref q15, .long 1025])), (q14, .inl (cq4, 6, .inr (.inl (fun _ => 0)))), (q15, .inl (cq4, 4, .inr (.inl (fun _ => 0)))), (q17, .inr (1, [.ref q18, .ref q19, .long 1025])), (q18, .inl (cq4, 6, .inr (.inl (fun _ => 0)))), (q19, .inl (cq4, 4, .inr (.inl (fun _ => 0)))), (q21, .inr (1, [.ref q22, .ref q23, .long 1025])), (q22, .inl (cq4, 6, .inr (.inl (fun _ => 0)))), (q23, .inl (cq4, 4, .inr (.inl (fun _ => 0))))] := hD
          refine W.widen (k := 18) (n := 158) (by omega) (by omega) ?_
          refine W.eq (g2 := F0 m 66 ls [.ref q21, .int 3, .ref q8]) rfl ?_
          refine va_astq (r := (RX1, TX1, 3)) hx hb hK hP hD hS 6 2 16 1 rfl rfl rfl rfl (vp_in_nI (n := 3) (by decide) (by decide)) dX3_init_66 (fun H locs hP hD hS => ?_)
          have hP : va_P G vwCl [(h0, .inr (3, [.ref q1, .int 0, .ref q2, .ref q5, .ref q8, .long 0, .long 0])), (q1, .inl (cq1, 40, .inl (fun _ => 0))), (q2, .inr (0, [.ref q3, .int 0, .int 0, .int 0, .long 0])), (q3, .inl (cq4, 5, .inr (.inl (fun _ => 0)))), (q5, .inr (2, [.ref q6, .int 0])), (q6, .inl (cq4, 50, .inr (.inl (fun _ => 0)))), (q8, .inl (cq8, 4, .inr (.inr (.inr (.inr (va_up (va_up (va_up (va_up (fun _ => none) 0 (some q9)) 1 (some q13)) 2 (some q17)) 3 (some q21))))))), (q9, .inr (1, [.ref q10, .ref q11, .long 1025])), (q10, .inl (cq4, 6, .inr (.inl (fun _ => 0)))), (q11, .inl (cq4, 4, .inr (.inl (fun _ => 0)))), (q13, .inr (1, [.ref q14, .ref q15, .long 1025])), (q14, .inl (cq4, 6, .inr (.inl (fun _ => 0)))), (q15, .inl (cq4, 4, .inr (.inl (fun _ => 0)))), (q17, .inr (1, [.ref q18, .ref q19, .long 1025])), (q18, .inl (cq4, 6, .inr (.inl (fun _ => 0)))), (q19, .inl (cq4, 4, .inr (.inl (fun _ => 0)))), (q21, .inr (1, [.ref q22, .ref q23, .long 1025])), (q22, .inl (cq4, 6, .inr (.inl (fun _ => 0)))), (q23, .inl (cq4, 4, .inr (.inl (fun _ => 0))))] H := hP
          have hD : va_D A [(h0, .inr (3, [.ref q1, .int 0, .ref q2, .ref q5, .ref q8, .long 0, .long 0])), (q1, .inl (cq1, 40, .inl (fun _ => 0))), (q2, .inr (0, [.ref q3, .int 0, .int 0, .int 0, .long 0])), (q3, .inl (cq4, 5, .inr (.inl (fun _ => 0)))), (q5, .inr (2, [.ref q6, .int 0])), (q6, .inl (cq4, 50, .inr (.inl (fun _ => 0)))), (q8, .inl (cq8, 4, .inr (.inr (.inr (.inr (va_up (va_up (va_up (va_up (fun _ => none) 0 (some q9)) 1 (some q13)) 2 (some q17)) 3 (some q21))))))), (q9, .inr (1, [.ref q10, .ref q11, .long 1025])), (q10, .inl (cq4, 6, .inr (.inl (fun _ => 0)))), (q11, .inl (cq4, 4, .inr (.inl (fun _ => 0)))), (q13, .inr (1, [.ref q14, .ref q15, .long 1025])), (q14, .inl (cq4, 6, .inr (.inl (fun _ => 0)))), (q15, .inl (cq4, 4, .inr (.inl (fun _ => 0)))), (q17, .inr (1, [.ref q18, .ref q19, .long 1025])), (q18, .inl (cq4, 6, .inr (.inl (fun _ => 0)))), (q19, .inl (cq4, 4, .inr (.inl (fun _ => 0)))), (q21, .inr (1, [.ref q22, .ref q23, .long 1025])), (q22, .inl (cq4, 6, .inr (.inl (fun _ => 0)))), (q23, .inl (cq4, 4, .inr (.inl (fun _ => 0))))] := hD
          refine lv_iinc (v := 4) (lv' := [(1, .int 4), (0, .ref h0)]) hx hb dX3_init_67 hl (k := 0) rfl (by decide) (by decide) rfl (fun ls hl => ?_)
          refine lv_goto (tgt := 49) hx hb dX3_init_70 (by decide) ?_
          refine lv_iload_n hx hb dX3_init_49 rfl (lv_at hl 0 rfl) ?_
          refine lv_iconst (v := 4) hx hb dX3_init_50 (by decide) ?_
          refine ic_ge (tgt := 73) hx hb dX3_init_51 (by decide) (fun c_5 => ?_) (fun c_5 => ?_)
          · skip
            refine lv_aload_n hx hb dX3_init_73 rfl (lv_at hl 1 rfl) ?_
            refine lv_ldc2 (v := 180000) hx hb hown (hts (.constantLong RX3 38 (180000)) (by decide +kernel)) dX3_init_74 ?_
            refine va_put (D := G) (ci := 3) (v := .long 180000) (ty := .long) (C := RX3) (T := TX3) (N := 7) hx hb hts hX3 tyX3 tyX3_ok nmX3 hown hK hP hD hS (0) rfl rfl 5 (by decide) (hts (.fieldLink RX3 40 "DraftSurvey" "length" "J") (by decide +kernel)) (fun _ h9 => h9) rfl (by decide +kernel) rfl rfl (Nat.le_of_ble_eq_true rfl) dX3_init_77 (fun H locs hP hD hS => ?_)
            have hP : va_P G vwCl [(h0, .inr (3, [.ref q1, .int 0, .ref q2, .ref q5, .ref q8, .long 180000, .long 0])), (q1, .inl (cq1, 40, .inl (fun _ => 0))), (q2, .inr (0, [.ref q3, .int 0, .int 0, .int 0, .long 0])), (q3, .inl (cq4, 5, .inr (.inl (fun _ => 0)))), (q5, .inr (2, [.ref q6, .int 0])), (q6, .inl (cq4, 50, .inr (.inl (fun _ => 0)))), (q8, .inl (cq8, 4, .inr (.inr (.inr (.inr (va_up (va_up (va_up (va_up (fun _ => none) 0 (some q9)) 1 (some q13)) 2 (some q17)) 3 (some q21))))))), (q9, .inr (1, [.ref q10, .ref q11, .long 1025])), (q10, .inl (cq4, 6, .inr (.inl (fun _ => 0)))), (q11, .inl (cq4, 4, .inr (.inl (fun _ => 0)))), (q13, .inr (1, [.ref q14, .ref q15, .long 1025])), (q14, .inl (cq4, 6, .inr (.inl (fun _ => 0)))), (q15, .inl (cq4, 4, .inr (.inl (fun _ => 0)))), (q17, .inr (1, [.ref q18, .ref q19, .long 1025])), (q18, .inl (cq4, 6, .inr (.inl (fun _ => 0)))), (q19, .inl (cq4, 4, .inr (.inl (fun _ => 0)))), (q21, .inr (1, [.ref q22, .ref q23, .long 1025])), (q22, .inl (cq4, 6, .inr (.inl (fun _ => 0)))), (q23, .inl (cq4, 4, .inr (.inl (fun _ => 0))))] H := hP
            have hD : va_D A [(h0, .inr (3, [.ref q1, .int 0, .ref q2, .ref q5, .ref q8, .long 180000, .long 0])), (q1, .inl (cq1, 40, .inl (fun _ => 0))), (q2, .inr (0, [.ref q3, .int 0, .int 0, .int 0, .long 0])), (q3, .inl (cq4, 5, .inr (.inl (fun _ => 0)))), (q5, .inr (2, [.ref q6, .int 0])), (q6, .inl (cq4, 50, .inr (.inl (fun _ => 0)))), (q8, .inl (cq8, 4, .inr (.inr (.inr (.inr (va_up (va_up (va_up (va_up (fun _ => none) 0 (some q9)) 1 (some q13)) 2 (some q17)) 3 (some q21))))))), (q9, .inr (1, [.ref q10, .ref q11, .long 1025])), (q10, .inl (cq4, 6, .inr (.inl (fun _ => 0)))), (q11, .inl (cq4, 4, .inr (.inl (fun _ => 0)))), (q13, .inr (1, [.ref q14, .ref q15, .long 1025])), (q14, .inl (cq4, 6, .inr (.inl (fun _ => 0)))), (q15, .inl (cq4, 4, .inr (.inl (fun _ => 0)))), (q17, .inr (1, [.ref q18, .ref q19, .long 1025])), (q18, .inl (cq4, 6, .inr (.inl (fun _ => 0)))), (q19, .inl (cq4, 4, .inr (.inl (fun _ => 0)))), (q21, .inr (1, [.ref q22, .ref q23, .long 1025])), (q22, .inl (cq4, 6, .inr (.inl (fun _ => 0)))), (q23, .inl (cq4, 4, .inr (.inl (fun _ => 0))))] := hD
            refine lv_aload_n hx hb dX3_init_80 rfl (lv_at hl 1 rfl) ?_
            refine lv_lconst (v := 0) hx hb dX3_init_81 (by decide) ?_
            refine va_put (D := G) (ci := 3) (v := .long 0) (ty := .long) (C := RX3) (T := TX3) (N := 7) hx hb hts hX3 tyX3 tyX3_ok nmX3 hown hK hP hD hS (0) rfl rfl 6 (by decide) (hts (.fieldLink RX3 44 "DraftSurvey" "margin" "J") (by decide +kernel)) (fun _ h9 => h9) rfl (by decide +kernel) rfl rfl (Nat.le_of_ble_eq_true rfl) dX3_init_82 (fun H locs hP hD hS => ?_)
            have hP : va_P G vwCl [(h0, .inr (3, [.ref q1, .int 0, .ref q2, .ref q5, .ref q8, .long 180000, .long 0])), (q1, .inl (cq1, 40, .inl (fun _ => 0))), (q2, .inr (0, [.ref q3, .int 0, .int 0, .int 0, .long 0])), (q3, .inl (cq4, 5, .inr (.inl (fun _ => 0)))), (q5, .inr (2, [.ref q6, .int 0])), (q6, .inl (cq4, 50, .inr (.inl (fun _ => 0)))), (q8, .inl (cq8, 4, .inr (.inr (.inr (.inr (va_up (va_up (va_up (va_up (fun _ => none) 0 (some q9)) 1 (some q13)) 2 (some q17)) 3 (some q21))))))), (q9, .inr (1, [.ref q10, .ref q11, .long 1025])), (q10, .inl (cq4, 6, .inr (.inl (fun _ => 0)))), (q11, .inl (cq4, 4, .inr (.inl (fun _ => 0)))), (q13, .inr (1, [.ref q14, .ref q15, .long 1025])), (q14, .inl (cq4, 6, .inr (.inl (fun _ => 0)))), (q15, .inl (cq4, 4, .inr (.inl (fun _ => 0)))), (q17, .inr (1, [.ref q18, .ref q19, .long 1025])), (q18, .inl (cq4, 6, .inr (.inl (fun _ => 0)))), (q19, .inl (cq4, 4, .inr (.inl (fun _ => 0)))), (q21, .inr (1, [.ref q22, .ref q23, .long 1025])), (q22, .inl (cq4, 6, .inr (.inl (fun _ => 0)))), (q23, .inl (cq4, 4, .inr (.inl (fun _ => 0))))] H := hP
            have hD : va_D A [(h0, .inr (3, [.ref q1, .int 0, .ref q2, .ref q5, .ref q8, .long 180000, .long 0])), (q1, .inl (cq1, 40, .inl (fun _ => 0))), (q2, .inr (0, [.ref q3, .int 0, .int 0, .int 0, .long 0])), (q3, .inl (cq4, 5, .inr (.inl (fun _ => 0)))), (q5, .inr (2, [.ref q6, .int 0])), (q6, .inl (cq4, 50, .inr (.inl (fun _ => 0)))), (q8, .inl (cq8, 4, .inr (.inr (.inr (.inr (va_up (va_up (va_up (va_up (fun _ => none) 0 (some q9)) 1 (some q13)) 2 (some q17)) 3 (some q21))))))), (q9, .inr (1, [.ref q10, .ref q11, .long 1025])), (q10, .inl (cq4, 6, .inr (.inl (fun _ => 0)))), (q11, .inl (cq4, 4, .inr (.inl (fun _ => 0)))), (q13, .inr (1, [.ref q14, .ref q15, .long 1025])), (q14, .inl (cq4, 6, .inr (.inl (fun _ => 0)))), (q15, .inl (cq4, 4, .inr (.inl (fun _ => 0)))), (q17, .inr (1, [.ref q18, .ref q19, .long 1025])), (q18, .inl (cq4, 6, .inr (.inl (fun _ => 0)))), (q19, .inl (cq4, 4, .inr (.inl (fun _ => 0)))), (q21, .inr (1, [.ref q22, .ref q23, .long 1025])), (q22, .inl (cq4, 6, .inr (.inl (fun _ => 0)))), (q23, .inl (cq4, 4, .inr (.inl (fun _ => 0))))] := hD
            obtain ⟨a, ha⟩ : ∃ a : Nat → Nat, a = (fun k : Nat => match k with | 0 => h0 | 1 => q1 | 2 => q2 | 3 => q3 | 4 => q5 | 5 => q6 | 6 => q8 | 7 => q9 | 8 => q10 | 9 => q11 | 10 => q13 | 11 => q14 | 12 => q15 | 13 => q17 | 14 => q18 | 15 => q19 | 16 => q21 | 17 => q22 | 18 => q23 | _ => 0) := ⟨_, rfl⟩
            obtain ⟨C, hC⟩ : ∃ C : Nat → ClassId, C = (fun k : Nat => match k with | 0 => cq1 | 1 => cq4 | _ => cq8) := ⟨_, rfl⟩
            have hK : va_K G vwCl (tysC C) s := by subst hC; exact hK.sub [0, 1, 2] rfl
            have hP := swap_q (q0 := 6) (g := fun k => some (a (7 + 3 * k))) hP rfl (fun j hj => by subst ha; rcases (show j = 0 ∨ j = 1 ∨ j = 2 ∨ j = 3 by omega) with rfl | rfl | rfl | rfl <;> rfl)
            have hD := hD.set (p := 6) (e := .inl (cq8, 4, .inr (.inr (.inr (.inr (fun k => some (a (7 + 3 * k)))))))) rfl
            have hw0 : wX C a sg0 kx0 = _ := wx0_eq C a
            have hP : va_P G vwCl (wX C a sg0 kx0) H := by rw [hw0]; subst ha; subst hC; exact hP
            have hD : va_D A (wX C a sg0 kx0) := by rw [hw0]; subst ha; subst hC; exact hD
            refine mk_vret hx hb hr hlocks hAe hK hP hD hS ?_ dX3_init_85
            exact ⟨a, C, (by subst ha; rfl), rfl, rfl⟩
          · skip
            exact absurd c_5 (by decide)

set_option maxHeartbeats 4000000 in
set_option maxRecDepth 100000 in
theorem i_X4 (l : Launch) (G : va_G) (h0 : Nat) : MkC l yX4_init wsX4_init ({ frames := 1, cells := 6, slots := 139, locals := 12 } : Room) G [(h0, .inr (4, [.int 0, .null, .int 0, .null, .null, .null, .null, .long 0, .long 0, .null, .int 0, .int 0, .long 0]))] [.ref h0] 6 139 (fun w1 tys => ∃ (b : Nat → Nat) (C : Nat → ClassId), b 0 = h0 ∧ w1 = wM C b sg0 km0 ∧ tys = [(C 0, .int), (C 1, .long)]) := by
  intro sz
  refine Met.ofW (cc := cX4_init) (maxL := 2) (ret := none) (by decide) rfl ?_
  intro p e s m args below meth c s₁ B hml hv
  obtain ⟨rfl, hsz, hP, hK, hNI, hD0⟩ := hv
  have hx := B.exec
  have hb := B.bytes
  have hr := B.returns
  have hts := atoms_spec (ws := wsX4_init) B.pre
  have hown : s.vm.findClass RX4 = some m.cls := findClass_of_methodNamed B.named
  have hlocks := B.notSynchronized
  have hin : meth.name = "<init>" := (name_of_methodNamed B.named B.method).1
  have hX4 : ∀ w ∈ wsX40, w ∈ wsX4_init := by decide +kernel
  subst hsz
  have hD := hD0.self (sz := s.heap.size)
  generalize hAe : va_A [(h0, .inr (4, [.int 0, .null, .int 0, .null, .null, .null, .null, .long 0, .long 0, .null, .int 0, .int 0, .long 0]))] s.heap.size = A at hD ⊢
  have hA : ∀ q : Nat, s.heap.size ≤ q → A q := fun q h => by rw [← hAe]; exact Or.inr h
  have hS : va_S A s.heap s.heap [] := va_S.rf
  have hP : va_P G vwCl [(h0, .inr (4, [.int 0, .null, .int 0, .null, .null, .null, .null, .long 0, .long 0, .null, .int 0, .int 0, .long 0]))] s.heap := hP
  have hl := lv_entry ([.ref h0]) (n := 2) (Nat.le_of_ble_eq_true rfl)
  rw [lg_entry_eq]
  generalize (lg_sl ([.ref h0]) ++ List.replicate (2 - (lg_sl ([.ref h0])).length) Slot.unset).toArray = ls at hl ⊢
  have hl : lv_has ls 2 [(0, .ref h0)] := hl
  refine lv_aload_n hx hb dX4_init_0 rfl (lv_at hl 0 rfl) ?_
  refine W.objInit hx hb hown (hts (.methodLink RX4 1 objectInit) (by decide +kernel)) (hts (.instanceMethod objectInit) (by decide +kernel)) (hts (.code objectInit ⟨#[0xb1]⟩ 1 none) (by decide +kernel)) rfl (by rw [hml]; exact hl.1) rfl dX4_init_1 (Nat.le_of_ble_eq_true rfl) (Nat.le_of_ble_eq_true rfl) ?_
  refine W.eq (g2 := F0 m 4 ls []) rfl ?_
  refine lv_aload_n hx hb dX4_init_4 rfl (lv_at hl 0 rfl) ?_
  refine lv_bipush (v := 40) hx hb dX4_init_5 (by decide) ?_
  refine va_newa (atype := .int) (a0 := (40, .inl (fun _ => 0))) (N' := 40) hx hb (hts (.arrayClass .int) (by decide +kernel)) rfl hK hP hD hS hA (fun _ => rfl) (by decide) (by decide) (by decide) (Nat.le_of_ble_eq_true rfl) (Nat.le_of_ble_eq_true rfl) dX4_init_7 (fun q1 cq1 H hK hP hD hS => ?_)
  have hK : va_K G vwCl [(cq1, .int)] s := hK
  have hP : va_P G vwCl [(h0, .inr (4, [.int 0, .null, .int 0, .null, .null, .null, .null, .long 0, .long 0, .null, .int 0, .int 0, .long 0])), (q1, .inl (cq1, 40, .inl (fun _ => 0)))] H := hP
  have hD : va_D A [(h0, .inr (4, [.int 0, .null, .int 0, .null, .null, .null, .null, .long 0, .long 0, .null, .int 0, .int 0, .long 0])), (q1, .inl (cq1, 40, .inl (fun _ => 0)))] := hD
  refine W.widen (k := 1) (n := 40) (by omega) (by omega) ?_
  refine va_putF (D := G) (ci := 4) (v := .ref q1) (ty := .array .int) (C := RX4) (T := TX4) (N := 13) hx hb hts hX4 tyX4 tyX4_ok nmX4 hown hK hP hD hS (0) rfl rfl 1 (by decide) (hts (.fieldLink RX4 7 "DraftSurveyModel" "buffer" "[I") (by decide +kernel)) (fun _ h9 => h9) rfl hin rfl (by decide +kernel) rfl rfl (Nat.le_of_ble_eq_true rfl) dX4_init_9 (fun H locs hP hD hS => ?_)
  have hP : va_P G vwCl [(h0, .inr (4, [.int 0, .ref q1, .int 0, .null, .null, .null, .null, .long 0, .long 0, .null, .int 0, .int 0, .long 0])), (q1, .inl (cq1, 40, .inl (fun _ => 0)))] H := hP
  have hD : va_D A [(h0, .inr (4, [.int 0, .ref q1, .int 0, .null, .null, .null, .null, .long 0, .long 0, .null, .int 0, .int 0, .long 0])), (q1, .inl (cq1, 40, .inl (fun _ => 0)))] := hD
  refine lv_aload_n hx hb dX4_init_12 rfl (lv_at hl 0 rfl) ?_
  refine lv_bipush (v := 50) hx hb dX4_init_13 (by decide) ?_
  refine va_newa (atype := .long) (a0 := (50, .inr (.inl (fun _ => 0)))) (N' := 50) hx hb (hts (.arrayClass .long) (by decide +kernel)) rfl hK hP hD hS hA (fun _ => rfl) (by decide) (by decide) (by decide) (Nat.le_of_ble_eq_true rfl) (Nat.le_of_ble_eq_true rfl) dX4_init_15 (fun q2 cq2 H hK hP hD hS => ?_)
  have hK : va_K G vwCl [(cq1, .int), (cq2, .long)] s := hK
  have hP : va_P G vwCl [(h0, .inr (4, [.int 0, .ref q1, .int 0, .null, .null, .null, .null, .long 0, .long 0, .null, .int 0, .int 0, .long 0])), (q1, .inl (cq1, 40, .inl (fun _ => 0))), (q2, .inl (cq2, 50, .inr (.inl (fun _ => 0))))] H := hP
  have hD : va_D A [(h0, .inr (4, [.int 0, .ref q1, .int 0, .null, .null, .null, .null, .long 0, .long 0, .null, .int 0, .int 0, .long 0])), (q1, .inl (cq1, 40, .inl (fun _ => 0))), (q2, .inl (cq2, 50, .inr (.inl (fun _ => 0))))] := hD
  refine W.widen (k := 2) (n := 90) (by omega) (by omega) ?_
  refine va_putF (D := G) (ci := 4) (v := .ref q2) (ty := .array .long) (C := RX4) (T := TX4) (N := 13) hx hb hts hX4 tyX4 tyX4_ok nmX4 hown hK hP hD hS (0) rfl rfl 3 (by decide) (hts (.fieldLink RX4 13 "DraftSurveyModel" "table" "[J") (by decide +kernel)) (fun _ h9 => h9) rfl hin rfl (by decide +kernel) rfl rfl (Nat.le_of_ble_eq_true rfl) dX4_init_17 (fun H locs hP hD hS => ?_)
  have hP : va_P G vwCl [(h0, .inr (4, [.int 0, .ref q1, .int 0, .ref q2, .null, .null, .null, .long 0, .long 0, .null, .int 0, .int 0, .long 0])), (q1, .inl (cq1, 40, .inl (fun _ => 0))), (q2, .inl (cq2, 50, .inr (.inl (fun _ => 0))))] H := hP
  have hD : va_D A [(h0, .inr (4, [.int 0, .ref q1, .int 0, .ref q2, .null, .null, .null, .long 0, .long 0, .null, .int 0, .int 0, .long 0])), (q1, .inl (cq1, 40, .inl (fun _ => 0))), (q2, .inl (cq2, 50, .inr (.inl (fun _ => 0))))] := hD
  refine lv_aload_n hx hb dX4_init_20 rfl (lv_at hl 0 rfl) ?_
  refine lv_bipush (v := 24) hx hb dX4_init_21 (by decide) ?_
  refine va_newa (atype := .long) (a0 := (24, .inr (.inl (fun _ => 0)))) (N' := 24) hx hb (hts (.arrayClass .long) (by decide +kernel)) rfl hK hP hD hS hA (fun _ => rfl) (by decide) (by decide) (by decide) (Nat.le_of_ble_eq_true rfl) (Nat.le_of_ble_eq_true rfl) dX4_init_23 (fun q3 cq3 H hK hP hD hS => ?_)
  have hK : va_K G vwCl [(cq1, .int), (cq2, .long), (cq3, .long)] s := hK
  have e_cq3 : cq2 = cq3 := ra_l hK (i := 1) (j := 2) rfl rfl
  subst e_cq3
  have hK : va_K G vwCl [(cq1, .int), (cq2, .long)] s := hK.sub [0, 1] rfl
  have hP : va_P G vwCl [(h0, .inr (4, [.int 0, .ref q1, .int 0, .ref q2, .null, .null, .null, .long 0, .long 0, .null, .int 0, .int 0, .long 0])), (q1, .inl (cq1, 40, .inl (fun _ => 0))), (q2, .inl (cq2, 50, .inr (.inl (fun _ => 0)))), (q3, .inl (cq2, 24, .inr (.inl (fun _ => 0))))] H := hP
  have hD : va_D A [(h0, .inr (4, [.int 0, .ref q1, .int 0, .ref q2, .null, .null, .null, .long 0, .long 0, .null, .int 0, .int 0, .long 0])), (q1, .inl (cq1, 40, .inl (fun _ => 0))), (q2, .inl (cq2, 50, .inr (.inl (fun _ => 0)))), (q3, .inl (cq2, 24, .inr (.inl (fun _ => 0))))] := hD
  refine W.widen (k := 3) (n := 114) (by omega) (by omega) ?_
  refine va_putF (D := G) (ci := 4) (v := .ref q3) (ty := .array .long) (C := RX4) (T := TX4) (N := 13) hx hb hts hX4 tyX4 tyX4_ok nmX4 hown hK hP hD hS (0) rfl rfl 4 (by decide) (hts (.fieldLink RX4 17 "DraftSurveyModel" "readings" "[J") (by decide +kernel)) (fun _ h9 => h9) rfl hin rfl (by decide +kernel) rfl rfl (Nat.le_of_ble_eq_true rfl) dX4_init_25 (fun H locs hP hD hS => ?_)
  have hP : va_P G vwCl [(h0, .inr (4, [.int 0, .ref q1, .int 0, .ref q2, .ref q3, .null, .null, .long 0, .long 0, .null, .int 0, .int 0, .long 0])), (q1, .inl (cq1, 40, .inl (fun _ => 0))), (q2, .inl (cq2, 50, .inr (.inl (fun _ => 0)))), (q3, .inl (cq2, 24, .inr (.inl (fun _ => 0))))] H := hP
  have hD : va_D A [(h0, .inr (4, [.int 0, .ref q1, .int 0, .ref q2, .ref q3, .null, .null, .long 0, .long 0, .null, .int 0, .int 0, .long 0])), (q1, .inl (cq1, 40, .inl (fun _ => 0))), (q2, .inl (cq2, 50, .inr (.inl (fun _ => 0)))), (q3, .inl (cq2, 24, .inr (.inl (fun _ => 0))))] := hD
  refine lv_aload_n hx hb dX4_init_28 rfl (lv_at hl 0 rfl) ?_
  refine lv_iconst (v := 4) hx hb dX4_init_29 (by decide) ?_
  refine va_newa (atype := .long) (a0 := (4, .inr (.inl (fun _ => 0)))) (N' := 4) hx hb (hts (.arrayClass .long) (by decide +kernel)) rfl hK hP hD hS hA (fun _ => rfl) (by decide) (by decide) (by decide) (Nat.le_of_ble_eq_true rfl) (Nat.le_of_ble_eq_true rfl) dX4_init_30 (fun q4 cq4 H hK hP hD hS => ?_)
  have hK : va_K G vwCl [(cq1, .int), (cq2, .long), (cq4, .long)] s := hK
  have e_cq4 : cq2 = cq4 := ra_l hK (i := 1) (j := 2) rfl rfl
  subst e_cq4
  have hK : va_K G vwCl [(cq1, .int), (cq2, .long)] s := hK.sub [0, 1] rfl
  have hP : va_P G vwCl [(h0, .inr (4, [.int 0, .ref q1, .int 0, .ref q2, .ref q3, .null, .null, .long 0, .long 0, .null, .int 0, .int 0, .long 0])), (q1, .inl (cq1, 40, .inl (fun _ => 0))), (q2, .inl (cq2, 50, .inr (.inl (fun _ => 0)))), (q3, .inl (cq2, 24, .inr (.inl (fun _ => 0)))), (q4, .inl (cq2, 4, .inr (.inl (fun _ => 0))))] H := hP
  have hD : va_D A [(h0, .inr (4, [.int 0, .ref q1, .int 0, .ref q2, .ref q3, .null, .null, .long 0, .long 0, .null, .int 0, .int 0, .long 0])), (q1, .inl (cq1, 40, .inl (fun _ => 0))), (q2, .inl (cq2, 50, .inr (.inl (fun _ => 0)))), (q3, .inl (cq2, 24, .inr (.inl (fun _ => 0)))), (q4, .inl (cq2, 4, .inr (.inl (fun _ => 0))))] := hD
  refine W.widen (k := 4) (n := 118) (by omega) (by omega) ?_
  refine va_putF (D := G) (ci := 4) (v := .ref q4) (ty := .array .long) (C := RX4) (T := TX4) (N := 13) hx hb hts hX4 tyX4 tyX4_ok nmX4 hown hK hP hD hS (0) rfl rfl 5 (by decide) (hts (.fieldLink RX4 20 "DraftSurveyModel" "densities" "[J") (by decide +kernel)) (fun _ h9 => h9) rfl hin rfl (by decide +kernel) rfl rfl (Nat.le_of_ble_eq_true rfl) dX4_init_32 (fun H locs hP hD hS => ?_)
  have hP : va_P G vwCl [(h0, .inr (4, [.int 0, .ref q1, .int 0, .ref q2, .ref q3, .ref q4, .null, .long 0, .long 0, .null, .int 0, .int 0, .long 0])), (q1, .inl (cq1, 40, .inl (fun _ => 0))), (q2, .inl (cq2, 50, .inr (.inl (fun _ => 0)))), (q3, .inl (cq2, 24, .inr (.inl (fun _ => 0)))), (q4, .inl (cq2, 4, .inr (.inl (fun _ => 0))))] H := hP
  have hD : va_D A [(h0, .inr (4, [.int 0, .ref q1, .int 0, .ref q2, .ref q3, .ref q4, .null, .long 0, .long 0, .null, .int 0, .int 0, .long 0])), (q1, .inl (cq1, 40, .inl (fun _ => 0))), (q2, .inl (cq2, 50, .inr (.inl (fun _ => 0)))), (q3, .inl (cq2, 24, .inr (.inl (fun _ => 0)))), (q4, .inl (cq2, 4, .inr (.inl (fun _ => 0))))] := hD
  refine lv_aload_n hx hb dX4_init_35 rfl (lv_at hl 0 rfl) ?_
  refine lv_bipush (v := 16) hx hb dX4_init_36 (by decide) ?_
  refine va_newa (atype := .long) (a0 := (16, .inr (.inl (fun _ => 0)))) (N' := 16) hx hb (hts (.arrayClass .long) (by decide +kernel)) rfl hK hP hD hS hA (fun _ => rfl) (by decide) (by decide) (by decide) (Nat.le_of_ble_eq_true rfl) (Nat.le_of_ble_eq_true rfl) dX4_init_38 (fun q5 cq5 H hK hP hD hS => ?_)
  have hK : va_K G vwCl [(cq1, .int), (cq2, .long), (cq5, .long)] s := hK
  have e_cq5 : cq2 = cq5 := ra_l hK (i := 1) (j := 2) rfl rfl
  subst e_cq5
  have hK : va_K G vwCl [(cq1, .int), (cq2, .long)] s := hK.sub [0, 1] rfl
  have hP : va_P G vwCl [(h0, .inr (4, [.int 0, .ref q1, .int 0, .ref q2, .ref q3, .ref q4, .null, .long 0, .long 0, .null, .int 0, .int 0, .long 0])), (q1, .inl (cq1, 40, .inl (fun _ => 0))), (q2, .inl (cq2, 50, .inr (.inl (fun _ => 0)))), (q3, .inl (cq2, 24, .inr (.inl (fun _ => 0)))), (q4, .inl (cq2, 4, .inr (.inl (fun _ => 0)))), (q5, .inl (cq2, 16, .inr (.inl (fun _ => 0))))] H := hP
  have hD : va_D A [(h0, .inr (4, [.int 0, .ref q1, .int 0, .ref q2, .ref q3, .ref q4, .null, .long 0, .long 0, .null, .int 0, .int 0, .long 0])), (q1, .inl (cq1, 40, .inl (fun _ => 0))), (q2, .inl (cq2, 50, .inr (.inl (fun _ => 0)))), (q3, .inl (cq2, 24, .inr (.inl (fun _ => 0)))), (q4, .inl (cq2, 4, .inr (.inl (fun _ => 0)))), (q5, .inl (cq2, 16, .inr (.inl (fun _ => 0))))] := hD
  refine W.widen (k := 5) (n := 134) (by omega) (by omega) ?_
  refine va_putF (D := G) (ci := 4) (v := .ref q5) (ty := .array .long) (C := RX4) (T := TX4) (N := 13) hx hb hts hX4 tyX4 tyX4_ok nmX4 hown hK hP hD hS (0) rfl rfl 6 (by decide) (hts (.fieldLink RX4 23 "DraftSurveyModel" "deductions" "[J") (by decide +kernel)) (fun _ h9 => h9) rfl hin rfl (by decide +kernel) rfl rfl (Nat.le_of_ble_eq_true rfl) dX4_init_40 (fun H locs hP hD hS => ?_)
  have hP : va_P G vwCl [(h0, .inr (4, [.int 0, .ref q1, .int 0, .ref q2, .ref q3, .ref q4, .ref q5, .long 0, .long 0, .null, .int 0, .int 0, .long 0])), (q1, .inl (cq1, 40, .inl (fun _ => 0))), (q2, .inl (cq2, 50, .inr (.inl (fun _ => 0)))), (q3, .inl (cq2, 24, .inr (.inl (fun _ => 0)))), (q4, .inl (cq2, 4, .inr (.inl (fun _ => 0)))), (q5, .inl (cq2, 16, .inr (.inl (fun _ => 0))))] H := hP
  have hD : va_D A [(h0, .inr (4, [.int 0, .ref q1, .int 0, .ref q2, .ref q3, .ref q4, .ref q5, .long 0, .long 0, .null, .int 0, .int 0, .long 0])), (q1, .inl (cq1, 40, .inl (fun _ => 0))), (q2, .inl (cq2, 50, .inr (.inl (fun _ => 0)))), (q3, .inl (cq2, 24, .inr (.inl (fun _ => 0)))), (q4, .inl (cq2, 4, .inr (.inl (fun _ => 0)))), (q5, .inl (cq2, 16, .inr (.inl (fun _ => 0))))] := hD
  refine lv_aload_n hx hb dX4_init_43 rfl (lv_at hl 0 rfl) ?_
  refine lv_ldc2 (v := 180000) hx hb hown (hts (.constantLong RX4 26 (180000)) (by decide +kernel)) dX4_init_44 ?_
  refine va_put (D := G) (ci := 4) (v := .long 180000) (ty := .long) (C := RX4) (T := TX4) (N := 13) hx hb hts hX4 tyX4 tyX4_ok nmX4 hown hK hP hD hS (0) rfl rfl 7 (by decide) (hts (.fieldLink RX4 28 "DraftSurveyModel" "length" "J") (by decide +kernel)) (fun _ h9 => h9) rfl (by decide +kernel) rfl rfl (Nat.le_of_ble_eq_true rfl) dX4_init_47 (fun H locs hP hD hS => ?_)
  have hP : va_P G vwCl [(h0, .inr (4, [.int 0, .ref q1, .int 0, .ref q2, .ref q3, .ref q4, .ref q5, .long 180000, .long 0, .null, .int 0, .int 0, .long 0])), (q1, .inl (cq1, 40, .inl (fun _ => 0))), (q2, .inl (cq2, 50, .inr (.inl (fun _ => 0)))), (q3, .inl (cq2, 24, .inr (.inl (fun _ => 0)))), (q4, .inl (cq2, 4, .inr (.inl (fun _ => 0)))), (q5, .inl (cq2, 16, .inr (.inl (fun _ => 0))))] H := hP
  have hD : va_D A [(h0, .inr (4, [.int 0, .ref q1, .int 0, .ref q2, .ref q3, .ref q4, .ref q5, .long 180000, .long 0, .null, .int 0, .int 0, .long 0])), (q1, .inl (cq1, 40, .inl (fun _ => 0))), (q2, .inl (cq2, 50, .inr (.inl (fun _ => 0)))), (q3, .inl (cq2, 24, .inr (.inl (fun _ => 0)))), (q4, .inl (cq2, 4, .inr (.inl (fun _ => 0)))), (q5, .inl (cq2, 16, .inr (.inl (fun _ => 0))))] := hD
  refine lv_aload_n hx hb dX4_init_50 rfl (lv_at hl 0 rfl) ?_
  refine lv_iconst (v := 5) hx hb dX4_init_51 (by decide) ?_
  refine va_newa (atype := .long) (a0 := (5, .inr (.inl (fun _ => 0)))) (N' := 5) hx hb (hts (.arrayClass .long) (by decide +kernel)) rfl hK hP hD hS hA (fun _ => rfl) (by decide) (by decide) (by decide) (Nat.le_of_ble_eq_true rfl) (Nat.le_of_ble_eq_true rfl) dX4_init_52 (fun q6 cq6 H hK hP hD hS => ?_)
  have hK : va_K G vwCl [(cq1, .int), (cq2, .long), (cq6, .long)] s := hK
  have e_cq6 : cq2 = cq6 := ra_l hK (i := 1) (j := 2) rfl rfl
  subst e_cq6
  have hK : va_K G vwCl [(cq1, .int), (cq2, .long)] s := hK.sub [0, 1] rfl
  have hP : va_P G vwCl [(h0, .inr (4, [.int 0, .ref q1, .int 0, .ref q2, .ref q3, .ref q4, .ref q5, .long 180000, .long 0, .null, .int 0, .int 0, .long 0])), (q1, .inl (cq1, 40, .inl (fun _ => 0))), (q2, .inl (cq2, 50, .inr (.inl (fun _ => 0)))), (q3, .inl (cq2, 24, .inr (.inl (fun _ => 0)))), (q4, .inl (cq2, 4, .inr (.inl (fun _ => 0)))), (q5, .inl (cq2, 16, .inr (.inl (fun _ => 0)))), (q6, .inl (cq2, 5, .inr (.inl (fun _ => 0))))] H := hP
  have hD : va_D A [(h0, .inr (4, [.int 0, .ref q1, .int 0, .ref q2, .ref q3, .ref q4, .ref q5, .long 180000, .long 0, .null, .int 0, .int 0, .long 0])), (q1, .inl (cq1, 40, .inl (fun _ => 0))), (q2, .inl (cq2, 50, .inr (.inl (fun _ => 0)))), (q3, .inl (cq2, 24, .inr (.inl (fun _ => 0)))), (q4, .inl (cq2, 4, .inr (.inl (fun _ => 0)))), (q5, .inl (cq2, 16, .inr (.inl (fun _ => 0)))), (q6, .inl (cq2, 5, .inr (.inl (fun _ => 0))))] := hD
  refine W.widen (k := 6) (n := 139) (by omega) (by omega) ?_
  refine va_putF (D := G) (ci := 4) (v := .ref q6) (ty := .array .long) (C := RX4) (T := TX4) (N := 13) hx hb hts hX4 tyX4 tyX4_ok nmX4 hown hK hP hD hS (0) rfl rfl 9 (by decide) (hts (.fieldLink RX4 32 "DraftSurveyModel" "read" "[J") (by decide +kernel)) (fun _ h9 => h9) rfl hin rfl (by decide +kernel) rfl rfl (Nat.le_of_ble_eq_true rfl) dX4_init_54 (fun H locs hP hD hS => ?_)
  have hP : va_P G vwCl [(h0, .inr (4, [.int 0, .ref q1, .int 0, .ref q2, .ref q3, .ref q4, .ref q5, .long 180000, .long 0, .ref q6, .int 0, .int 0, .long 0])), (q1, .inl (cq1, 40, .inl (fun _ => 0))), (q2, .inl (cq2, 50, .inr (.inl (fun _ => 0)))), (q3, .inl (cq2, 24, .inr (.inl (fun _ => 0)))), (q4, .inl (cq2, 4, .inr (.inl (fun _ => 0)))), (q5, .inl (cq2, 16, .inr (.inl (fun _ => 0)))), (q6, .inl (cq2, 5, .inr (.inl (fun _ => 0))))] H := hP
  have hD : va_D A [(h0, .inr (4, [.int 0, .ref q1, .int 0, .ref q2, .ref q3, .ref q4, .ref q5, .long 180000, .long 0, .ref q6, .int 0, .int 0, .long 0])), (q1, .inl (cq1, 40, .inl (fun _ => 0))), (q2, .inl (cq2, 50, .inr (.inl (fun _ => 0)))), (q3, .inl (cq2, 24, .inr (.inl (fun _ => 0)))), (q4, .inl (cq2, 4, .inr (.inl (fun _ => 0)))), (q5, .inl (cq2, 16, .inr (.inl (fun _ => 0)))), (q6, .inl (cq2, 5, .inr (.inl (fun _ => 0))))] := hD
  refine lv_iconst (v := 0) hx hb dX4_init_57 (by decide) ?_
  refine lv_istore_n (lv' := [(1, .int 0), (0, .ref h0)]) hx hb dX4_init_58 rfl hl (by decide) rfl (fun ls hl => ?_)
  refine lv_iload_n hx hb dX4_init_59 rfl (lv_at hl 0 rfl) ?_
  refine lv_iconst (v := 4) hx hb dX4_init_60 (by decide) ?_
  refine ic_ge (tgt := 79) hx hb dX4_init_61 (by decide) (fun c_1 => ?_) (fun c_1 => ?_)
  · skip
    exact absurd c_1 (by decide)
  · skip
    refine lv_aload_n hx hb dX4_init_64 rfl (lv_at hl 1 rfl) ?_
    refine va_get (D := G) (ci := 4) (v := .ref q4) (C := RX4) (T := TX4) (N := 13) hx hb hts hX4 hown hK hP (0) rfl rfl 5 (by decide) (hts (.fieldLink RX4 20 "DraftSurveyModel" "densities" "[J") (by decide +kernel)) (fun _ h9 => h9) rfl dX4_init_65 ?_
    refine lv_iload_n hx hb dX4_init_68 rfl (lv_at hl 0 rfl) ?_
    refine lv_ldc2 (v := 1025) hx hb hown (hts (.constantLong RX4 35 (1025)) (by decide +kernel)) dX4_init_69 ?_
    refine as_l (k := 0) hx hb hK hP hD hS (4) 1 rfl rfl rfl (by decide) (by decide) dX4_init_72 (fun H locs hP hD hS => ?_)
    have hP : va_P G vwCl [(h0, .inr (4, [.int 0, .ref q1, .int 0, .ref q2, .ref q3, .ref q4, .ref q5, .long 180000, .long 0, .ref q6, .int 0, .int 0, .long 0])), (q1, .inl (cq1, 40, .inl (fun _ => 0))), (q2, .inl (cq2, 50, .inr (.inl (fun _ => 0)))), (q3, .inl (cq2, 24, .inr (.inl (fun _ => 0)))), (q4, .inl (cq2, 4, .inr (.inl (vp_updL (fun _ => 0) 0 1025)))), (q5, .inl (cq2, 16, .inr (.inl (fun _ => 0)))), (q6, .inl (cq2, 5, .inr (.inl (fun _ => 0))))] H := hP
    have hD : va_D A [(h0, .inr (4, [.int 0, .ref q1, .int 0, .ref q2, .ref q3, .ref q4, .ref q5, .long 180000, .long 0, .ref q6, .int 0, .int 0, .long 0])), (q1, .inl (cq1, 40, .inl (fun _ => 0))), (q2, .inl (cq2, 50, .inr (.inl (fun _ => 0)))), (q3, .inl (cq2, 24, .inr (.inl (fun _ => 0)))), (q4, .inl (cq2, 4, .inr (.inl (vp_updL (fun _ => 0) 0 1025)))), (q5, .inl (cq2, 16, .inr (.inl (fun _ => 0)))), (q6, .inl (cq2, 5, .inr (.inl (fun _ => 0))))] := hD
    refine lv_iinc (v := 1) (lv' := [(1, .int 1), (0, .ref h0)]) hx hb dX4_init_73 hl (k := 0) rfl (by decide) (by decide) rfl (fun ls hl => ?_)
    refine lv_goto (tgt := 59) hx hb dX4_init_76 (by decide) ?_
    refine lv_iload_n hx hb dX4_init_59 rfl (lv_at hl 0 rfl) ?_
    refine lv_iconst (v := 4) hx hb dX4_init_60 (by decide) ?_
    refine ic_ge (tgt := 79) hx hb dX4_init_61 (by decide) (fun c_2 => ?_) (fun c_2 => ?_)
    · skip
      exact absurd c_2 (by decide)
    · skip
      refine lv_aload_n hx hb dX4_init_64 rfl (lv_at hl 1 rfl) ?_
      refine va_get (D := G) (ci := 4) (v := .ref q4) (C := RX4) (T := TX4) (N := 13) hx hb hts hX4 hown hK hP (0) rfl rfl 5 (by decide) (hts (.fieldLink RX4 20 "DraftSurveyModel" "densities" "[J") (by decide +kernel)) (fun _ h9 => h9) rfl dX4_init_65 ?_
      refine lv_iload_n hx hb dX4_init_68 rfl (lv_at hl 0 rfl) ?_
      refine lv_ldc2 (v := 1025) hx hb hown (hts (.constantLong RX4 35 (1025)) (by decide +kernel)) dX4_init_69 ?_
      refine as_l (k := 1) hx hb hK hP hD hS (4) 1 rfl rfl rfl (by decide) (by decide) dX4_init_72 (fun H locs hP hD hS => ?_)
      have hP : va_P G vwCl [(h0, .inr (4, [.int 0, .ref q1, .int 0, .ref q2, .ref q3, .ref q4, .ref q5, .long 180000, .long 0, .ref q6, .int 0, .int 0, .long 0])), (q1, .inl (cq1, 40, .inl (fun _ => 0))), (q2, .inl (cq2, 50, .inr (.inl (fun _ => 0)))), (q3, .inl (cq2, 24, .inr (.inl (fun _ => 0)))), (q4, .inl (cq2, 4, .inr (.inl (vp_updL (vp_updL (fun _ => 0) 0 1025) 1 1025)))), (q5, .inl (cq2, 16, .inr (.inl (fun _ => 0)))), (q6, .inl (cq2, 5, .inr (.inl (fun _ => 0))))] H := hP
      have hD : va_D A [(h0, .inr (4, [.int 0, .ref q1, .int 0, .ref q2, .ref q3, .ref q4, .ref q5, .long 180000, .long 0, .ref q6, .int 0, .int 0, .long 0])), (q1, .inl (cq1, 40, .inl (fun _ => 0))), (q2, .inl (cq2, 50, .inr (.inl (fun _ => 0)))), (q3, .inl (cq2, 24, .inr (.inl (fun _ => 0)))), (q4, .inl (cq2, 4, .inr (.inl (vp_updL (vp_updL (fun _ => 0) 0 1025) 1 1025)))), (q5, .inl (cq2, 16, .inr (.inl (fun _ => 0)))), (q6, .inl (cq2, 5, .inr (.inl (fun _ => 0))))] := hD
      refine lv_iinc (v := 2) (lv' := [(1, .int 2), (0, .ref h0)]) hx hb dX4_init_73 hl (k := 0) rfl (by decide) (by decide) rfl (fun ls hl => ?_)
      refine lv_goto (tgt := 59) hx hb dX4_init_76 (by decide) ?_
      refine lv_iload_n hx hb dX4_init_59 rfl (lv_at hl 0 rfl) ?_
      refine lv_iconst (v := 4) hx hb dX4_init_60 (by decide) ?_
      refine ic_ge (tgt := 79) hx hb dX4_init_61 (by decide) (fun c_3 => ?_) (fun c_3 => ?_)
      · skip
        exact absurd c_3 (by decide)
      · skip
        refine lv_aload_n hx hb dX4_init_64 rfl (lv_at hl 1 rfl) ?_
        refine va_get (D := G) (ci := 4) (v := .ref q4) (C := RX4) (T := TX4) (N := 13) hx hb hts hX4 hown hK hP (0) rfl rfl 5 (by decide) (hts (.fieldLink RX4 20 "DraftSurveyModel" "densities" "[J") (by decide +kernel)) (fun _ h9 => h9) rfl dX4_init_65 ?_
        refine lv_iload_n hx hb dX4_init_68 rfl (lv_at hl 0 rfl) ?_
        refine lv_ldc2 (v := 1025) hx hb hown (hts (.constantLong RX4 35 (1025)) (by decide +kernel)) dX4_init_69 ?_
        refine as_l (k := 2) hx hb hK hP hD hS (4) 1 rfl rfl rfl (by decide) (by decide) dX4_init_72 (fun H locs hP hD hS => ?_)
        have hP : va_P G vwCl [(h0, .inr (4, [.int 0, .ref q1, .int 0, .ref q2, .ref q3, .ref q4, .ref q5, .long 180000, .long 0, .ref q6, .int 0, .int 0, .long 0])), (q1, .inl (cq1, 40, .inl (fun _ => 0))), (q2, .inl (cq2, 50, .inr (.inl (fun _ => 0)))), (q3, .inl (cq2, 24, .inr (.inl (fun _ => 0)))), (q4, .inl (cq2, 4, .inr (.inl (vp_updL (vp_updL (vp_updL (fun _ => 0) 0 1025) 1 1025) 2 1025)))), (q5, .inl (cq2, 16, .inr (.inl (fun _ => 0)))), (q6, .inl (cq2, 5, .inr (.inl (fun _ => 0))))] H := hP
        have hD : va_D A [(h0, .inr (4, [.int 0, .ref q1, .int 0, .ref q2, .ref q3, .ref q4, .ref q5, .long 180000, .long 0, .ref q6, .int 0, .int 0, .long 0])), (q1, .inl (cq1, 40, .inl (fun _ => 0))), (q2, .inl (cq2, 50, .inr (.inl (fun _ => 0)))), (q3, .inl (cq2, 24, .inr (.inl (fun _ => 0)))), (q4, .inl (cq2, 4, .inr (.inl (vp_updL (vp_updL (vp_updL (fun _ => 0) 0 1025) 1 1025) 2 1025)))), (q5, .inl (cq2, 16, .inr (.inl (fun _ => 0)))), (q6, .inl (cq2, 5, .inr (.inl (fun _ => 0))))] := hD
        refine lv_iinc (v := 3) (lv' := [(1, .int 3), (0, .ref h0)]) hx hb dX4_init_73 hl (k := 0) rfl (by decide) (by decide) rfl (fun ls hl => ?_)
        refine lv_goto (tgt := 59) hx hb dX4_init_76 (by decide) ?_
        refine lv_iload_n hx hb dX4_init_59 rfl (lv_at hl 0 rfl) ?_
        refine lv_iconst (v := 4) hx hb dX4_init_60 (by decide) ?_
        refine ic_ge (tgt := 79) hx hb dX4_init_61 (by decide) (fun c_4 => ?_) (fun c_4 => ?_)
        · skip
          exact absurd c_4 (by decide)
        · skip
          refine lv_aload_n hx hb dX4_init_64 rfl (lv_at hl 1 rfl) ?_
          refine va_get (D := G) (ci := 4) (v := .ref q4) (C := RX4) (T := TX4) (N := 13) hx hb hts hX4 hown hK hP (0) rfl rfl 5 (by decide) (hts (.fieldLink RX4 20 "DraftSurveyModel" "densities" "[J") (by decide +kernel)) (fun _ h9 => h9) rfl dX4_init_65 ?_
          refine lv_iload_n hx hb dX4_init_68 rfl (lv_at hl 0 rfl) ?_
          refine lv_ldc2 (v := 1025) hx hb hown (hts (.constantLong RX4 35 (1025)) (by decide +kernel)) dX4_init_69 ?_
          refine as_l (k := 3) hx hb hK hP hD hS (4) 1 rfl rfl rfl (by decide) (by decide) dX4_init_72 (fun H locs hP hD hS => ?_)
          have hP : va_P G vwCl [(h0, .inr (4, [.int 0, .ref q1, .int 0, .ref q2, .ref q3, .ref q4, .ref q5, .long 180000, .long 0, .ref q6, .int 0, .int 0, .long 0])), (q1, .inl (cq1, 40, .inl (fun _ => 0))), (q2, .inl (cq2, 50, .inr (.inl (fun _ => 0)))), (q3, .inl (cq2, 24, .inr (.inl (fun _ => 0)))), (q4, .inl (cq2, 4, .inr (.inl (vp_updL (vp_updL (vp_updL (vp_updL (fun _ => 0) 0 1025) 1 1025) 2 1025) 3 1025)))), (q5, .inl (cq2, 16, .inr (.inl (fun _ => 0)))), (q6, .inl (cq2, 5, .inr (.inl (fun _ => 0))))] H := hP
          have hD : va_D A [(h0, .inr (4, [.int 0, .ref q1, .int 0, .ref q2, .ref q3, .ref q4, .ref q5, .long 180000, .long 0, .ref q6, .int 0, .int 0, .long 0])), (q1, .inl (cq1, 40, .inl (fun _ => 0))), (q2, .inl (cq2, 50, .inr (.inl (fun _ => 0)))), (q3, .inl (cq2, 24, .inr (.inl (fun _ => 0)))), (q4, .inl (cq2, 4, .inr (.inl (vp_updL (vp_updL (vp_updL (vp_updL (fun _ => 0) 0 1025) 1 1025) 2 1025) 3 1025)))), (q5, .inl (cq2, 16, .inr (.inl (fun _ => 0)))), (q6, .inl (cq2, 5, .inr (.inl (fun _ => 0))))] := hD
          refine lv_iinc (v := 4) (lv' := [(1, .int 4), (0, .ref h0)]) hx hb dX4_init_73 hl (k := 0) rfl (by decide) (by decide) rfl (fun ls hl => ?_)
          refine lv_goto (tgt := 59) hx hb dX4_init_76 (by decide) ?_
          refine lv_iload_n hx hb dX4_init_59 rfl (lv_at hl 0 rfl) ?_
          refine lv_iconst (v := 4) hx hb dX4_init_60 (by decide) ?_
          refine ic_ge (tgt := 79) hx hb dX4_init_61 (by decide) (fun c_5 => ?_) (fun c_5 => ?_)
          · skip
            obtain ⟨a, ha⟩ : ∃ a : Nat → Nat, a = (fun k : Nat => match k with | 0 => h0 | 1 => q1 | 2 => q2 | 3 => q3 | 4 => q4 | 5 => q5 | 6 => q6 | _ => 0) := ⟨_, rfl⟩
            obtain ⟨C, hC⟩ : ∃ C : Nat → ClassId, C = (fun k : Nat => match k with | 0 => cq1 | _ => cq2) := ⟨_, rfl⟩
            have hK : va_K G vwCl [(C 0, .int), (C 1, .long)] s := by subst hC; exact hK
            have hP : va_P G vwCl (wM C a sg0 km0) H := by subst ha; subst hC; exact hP
            have hD : va_D A (wM C a sg0 km0) := by subst ha; subst hC; exact hD
            refine mk_vret hx hb hr hlocks hAe hK hP hD hS ?_ dX4_init_79
            exact ⟨a, C, (by subst ha; rfl), rfl, rfl⟩
          · skip
            exact absurd c_5 (by decide)
