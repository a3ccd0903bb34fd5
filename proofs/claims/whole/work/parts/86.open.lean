/-! The law, from its entry. -/
set_option maxHeartbeats 4000000 in
set_option maxRecDepth 100000 in
/-- the reference's object is made beside the class's -/
theorem law_second {p : Program} {e : Env} {s : State} {m : MethodId} {below : List Frame} {meth : Method} {c : Code} (l : Launch) {b L : Nat} {xs : Nat → Int32} {G : va_G} {tG : Nat} {C : Nat → ClassId} {a : Nat → Nat} {H : Heap} {locs : List Loc} {ls : Array Slot} (hL : L ≤ 2048) (C0 : lw_At p s m meth c b L xs) (hK : va_K G vwCl (tysC C) s) (hN : NW s) (hNI : NI s) (hZ : ST tG (fun q : Nat => s.heap.size ≤ q) s s.heap) (hP : va_P G vwCl (wX C a sg0 kx0) H) (hD : va_D (fun q : Nat => s.heap.size ≤ q) (wX C a sg0 kx0)) (hS : va_S (fun q : Nat => s.heap.size ≤ q) s.heap H locs) (hl : lv_has ls 4 [(1, .ref (a 0)), (0, .ref b)]) : W p l e room_1 s m #[Value.ref b] below meth c H locs 19 165 (lw_Z below #[Value.ref b] s) (F0 m 8 ls []) := by
  obtain ⟨hx, hb, hr, hml, hown, hts, hX, hbl, hlocks, hgv⟩ := id C0
  have hb : c.code = cL_law := hb
  have hown : s.vm.findClass RL = some m.cls := hown
  have hT : ∀ w ∈ wsL_law, w.before #[Value.ref b] s = true := fun w h => hts w (wsL_law_in w h)
  have hA : ∀ q : Nat, s.heap.size ≤ q → (fun q : Nat => s.heap.size ≤ q) q := fun _ h => h
  refine va_new (ci := 4) (fs := [.int 0, .null, .int 0, .null, .null, .null, .null, .long 0, .long 0, .null, .int 0, .int 0, .long 0]) (C := RX4) (T := TX4) (N := 13) hx hb hT inlX4 tyX4 tyX4_ok hown (hT (.classLink RL 10 RX4) (by decide +kernel)) (hT (.instantiable RX4 13) (by decide +kernel)) (hT (.initialized RX4) (by decide +kernel)) hK hP hD hS hA rfl (fun j hj => by rcases (show j = 0 ∨ j = 1 ∨ j = 2 ∨ j = 3 ∨ j = 4 ∨ j = 5 ∨ j = 6 ∨ j = 7 ∨ j = 8 ∨ j = 9 ∨ j = 10 ∨ j = 11 ∨ j = 12 by omega) with rfl | rfl | rfl | rfl | rfl | rfl | rfl | rfl | rfl | rfl | rfl | rfl | rfl <;> rfl) (Nat.le_of_ble_eq_true rfl) (Nat.le_of_ble_eq_true rfl) dL_law_8 (fun q1 H hP hD hS => ?_)
  refine W.widen (k := 20) (n := 178) (by omega) (by omega) ?_
  refine lv_dup hx hb dL_law_11 rfl ?_
  refine mk_call (As := []) (rest := [.ref q1]) (w0 := [(q1, .inr (4, [.int 0, .null, .int 0, .null, .null, .null, .null, .long 0, .long 0, .null, .int 0, .int 0, .long 0]))]) (wr := wX C a sg0 kx0) ⟨hx, hb, hml, hown, hT⟩ (i_X4 l G q1) (cwI 0 hT gL_law_X4_init rfl rfl rfl (hT (.initialized RX4) (by decide +kernel)) (hT (.methodLink RL 12 yX4_init) (by decide +kernel)) (hT (.instanceMethod yX4_init) (by decide +kernel)) rfl (by decide +kernel) ⟨Nat.le_of_ble_eq_true rfl, Nat.le_of_ble_eq_true rfl⟩) hK hNI hP hD hS hA [19] [0, 1, 2, 3, 4, 5, 6, 7, 8, 9, 10, 11, 12, 13, 14, 15, 16, 17, 18] rfl rfl (by decide) rfl (by decide) (by decide) rfl hl.1 rfl (Nat.le_of_ble_eq_true rfl) dL_law_12 ⟨Nat.le_of_ble_eq_true rfl, Nat.le_of_ble_eq_true rfl⟩ (fun w1 tys1 H locs hw hK1 hP1 hD1 hS => ?_)
  clear hK hP hD
  obtain ⟨d, C2, hd, rfl, rfl⟩ := hw
  subst hd
  have hK := hK1
  have hP := hP1
  have hD := hD1
  clear hK1 hP1 hD1
  have e0 : C2 0 = C 0 := ra_i hK (i := 3) (j := 0) rfl rfl
  have e1 : C2 1 = C 1 := ra_l hK (i := 4) (j := 1) rfl rfl
  have ew : wM C2 d sg0 km0 = wM C d sg0 km0 := by unfold wM; rw [e0, e1]
  rw [ew] at hP hD
  have hK : va_K G vwCl (tysC C) s := hK.sub [0, 1, 2] rfl
  have hJ : DA C a d := fun σ τ κ ρ => (DJ.app hD).next
  have hPX := hP.sub (ws' := wX C a sg0 kx0) [0, 1, 2, 3, 4, 5, 6, 7, 8, 9, 10, 11, 12, 13, 14, 15, 16, 17, 18] rfl
  have hDX := hD.sub (ws' := wX C a sg0 kx0) [0, 1, 2, 3, 4, 5, 6, 7, 8, 9, 10, 11, 12, 13, 14, 15, 16, 17, 18] (by decide) rfl
  have hPM := hP.sub (ws' := wM C d sg0 km0) [19, 20, 21, 22, 23, 24, 25] rfl
  have hDM := hD.sub (ws' := wM C d sg0 km0) [19, 20, 21, 22, 23, 24, 25] (by decide) rfl
  refine W.widen (k := 600000) (n := 7302250) (by omega) (by omega) ?_
  refine lv_astore_n (lv' := [(2, .ref (d 0)), (1, .ref (a 0)), (0, .ref b)]) hx hb dL_law_15 rfl hl (by decide) rfl (fun ls hl => ?_)
  refine lv_iconst (v := 0) hx hb dL_law_16 (by decide) ?_
  refine lv_istore_n (lv' := [(3, .int 0), (2, .ref (d 0)), (1, .ref (a 0)), (0, .ref b)]) hx hb dL_law_17 rfl hl (by decide) rfl (fun ls hl => ?_)
  exact law_loop (l := l) ⟨C0, hK, hN, hZ, hJ⟩ hL (L + 1) 0 (by omega) (Nat.zero_le L) sg0 H locs ⟨inv_0, hS, kx0, km0, hPX, hPM, hDX, hDM⟩ ls (lv_sub hl [3, 2, 1, 0] rfl)
set_option maxHeartbeats 4000000 in
set_option maxRecDepth 100000 in
/-- from the entry, for every script of at most 2048 ints, the law comes to its end with true -/
theorem whole_start {p : Program} {e : Env} {s : State} {m : MethodId} {below : List Frame} {meth : Method} {c : Code} (l : Launch) (hflags : l.flags = flags0) {b L : Nat} {xs : Nat → Int32} (hL : L ≤ 2048) (C0 : lw_At p s m meth c b L xs) : W p l e room_1 s m #[Value.ref b] below meth c s.heap [] 0 0 (lw_Z below #[Value.ref b] s) (entryFrame m ([Value.ref b] : List Value).toArray 4) := by
  obtain ⟨hx, hb, hr, hml, hown, hts, hX, hbl, hlocks, hgv⟩ := id C0
  have hb : c.code = cL_law := hb
  have hown : s.vm.findClass RL = some m.cls := hown
  have hT : ∀ w ∈ wsL_law, w.before #[Value.ref b] s = true := fun w h => hts w (wsL_law_in w h)
  obtain ⟨G, hK⟩ := st_k hts
  obtain ⟨tG, hZ⟩ := st_g hts hgv
  have hN := st_nw hts
  have hNI := st_ni hts
  have hA : ∀ q : Nat, s.heap.size ≤ q → (fun q : Nat => s.heap.size ≤ q) q := fun _ h => h
  have hS : va_S (fun q : Nat => s.heap.size ≤ q) s.heap s.heap [] := va_S.rf
  have hP : va_P G vwCl [] s.heap := fun k q h => by simp at h
  have hD : va_D (fun q : Nat => s.heap.size ≤ q) [] := ⟨fun i j p q h => by simp at h, fun k q h => by simp at h⟩
  have hl := lv_entry ([.ref b]) (n := 4) (Nat.le_of_ble_eq_true rfl)
  rw [lg_entry_eq]
  generalize (lg_sl ([.ref b]) ++ List.replicate (4 - (lg_sl ([.ref b])).length) Slot.unset).toArray = ls at hl ⊢
  have hl : lv_has ls 4 [(0, .ref b)] := hl
  refine va_new (ci := 3) (fs := [.null, .int 0, .null, .null, .null, .long 0, .long 0]) (C := RX3) (T := TX3) (N := 7) hx hb hT inlX3 tyX3 tyX3_ok hown (hT (.classLink RL 7 RX3) (by decide +kernel)) (hT (.instantiable RX3 7) (by decide +kernel)) (hT (.initialized RX3) (by decide +kernel)) hK hP hD hS hA rfl (fun j hj => by rcases (show j = 0 ∨ j = 1 ∨ j = 2 ∨ j = 3 ∨ j = 4 ∨ j = 5 ∨ j = 6 by omega) with rfl | rfl | rfl | rfl | rfl | rfl | rfl <;> rfl) (Nat.le_of_ble_eq_true rfl) (Nat.le_of_ble_eq_true rfl) dL_law_0 (fun q0 H hP hD hS => ?_)
  refine W.widen (k := 1) (n := 7) (by omega) (by omega) ?_
  refine lv_dup hx hb dL_law_3 rfl ?_
  refine mk_call (As := []) (rest := [.ref q0]) (w0 := [(q0, .inr (3, [.null, .int 0, .null, .null, .null, .long 0, .long 0]))]) (wr := []) ⟨hx, hb, hml, hown, hT⟩ (i_X3 l G q0) (cwI 0 hT gL_law_X3_init rfl rfl rfl (hT (.initialized RX3) (by decide +kernel)) (hT (.methodLink RL 9 yX3_init) (by decide +kernel)) (hT (.instanceMethod yX3_init) (by decide +kernel)) rfl (by decide +kernel) ⟨Nat.le_of_ble_eq_true rfl, Nat.le_of_ble_eq_true rfl⟩) hK hNI hP hD hS hA [0] [] rfl rfl (by decide) rfl (by decide) (by decide) rfl hl.1 rfl (Nat.le_of_ble_eq_true rfl) dL_law_4 ⟨Nat.le_of_ble_eq_true rfl, Nat.le_of_ble_eq_true rfl⟩ (fun w1 tys1 H locs hw hK1 hP1 hD1 hS => ?_)
  clear hK hP hD
  obtain ⟨a, C, ha, rfl, rfl⟩ := hw
  subst ha
  have hK := hK1
  have hP := hP1
  have hD := hD1
  clear hK1 hP1 hD1
  have hK : va_K G vwCl (tysC C) s := hK
  have hP : va_P G vwCl (wX C a sg0 kx0) H := hP
  have hD : va_D (fun q : Nat => s.heap.size ≤ q) (wX C a sg0 kx0) := hD
  refine W.widen (k := 19) (n := 165) (by omega) (by omega) ?_
  refine lv_astore_n (lv' := [(1, .ref (a 0)), (0, .ref b)]) hx hb dL_law_7 rfl hl (by decide) rfl (fun ls hl => ?_)
  exact law_second l hL C0 hK hN hNI hZ hP hD hS hl
