/-! The law's cases: both objects are asked, and answer the same. -/
/-- the addresses of the two objects' cells are apart -/
def DA (C : Nat → ClassId) (a d : Nat → Nat) : Prop := ∀ (σ τ : SG) (κ : KX) (ρ : KM), DJ (wX C a σ κ) (wM C d τ ρ)
/-- both objects are in the state σ -/
def BOTH (G : va_G) (C : Nat → ClassId) (a d : Nat → Nat) (s : State) (σ : SG) (H : Heap) (locs : List Loc) : Prop := Inv σ ∧ va_S (fun q : Nat => s.heap.size ≤ q) s.heap H locs ∧ ∃ (κ : KX) (ρ : KM), va_P G vwCl (wX C a σ κ) H ∧ va_P G vwCl (wM C d σ ρ) H ∧ va_D (fun q : Nat => s.heap.size ≤ q) (wX C a σ κ) ∧ va_D (fun q : Nat => s.heap.size ≤ q) (wM C d σ ρ)
/-- what holds all along -/
def LF (p : Program) (s : State) (m : MethodId) (meth : Method) (c : Code) (b L : Nat) (xs : Nat → Int32) (G : va_G) (tG : Nat) (C : Nat → ClassId) (a d : Nat → Nat) : Prop := lw_At p s m meth c b L xs ∧ va_K G vwCl (tysC C) s ∧ NW s ∧ ST tG (fun q : Nat => s.heap.size ≤ q) s s.heap ∧ DA C a d
abbrev LW (p : Program) (l : Launch) (e : Env) (s : State) (m : MethodId) (b : Nat) (below : List Frame) (meth : Method) (c : Code) (H : Heap) (locs : List Loc) (pc : Nat) (ls : Array Slot) (st : List Value) : Prop := W p l e room_1 s m #[Value.ref b] below meth c H locs 600000 7302250 (lw_Z below #[Value.ref b] s) (F0 m pc ls st)
section CASES
variable {p : Program} {l : Launch} {e : Env} {s : State} {m : MethodId} {below : List Frame} {meth : Method} {c : Code} {b L : Nat} {xs : Nat → Int32} {G : va_G} {tG : Nat} {C : Nat → ClassId} {a d : Nat → Nat}
theorem LF.use (F : LF p s m meth c b L xs G tG C a d) : p.tables.exec = Jvm.exec ∧ c.code = cL_law ∧ c.maxLocals = 4 ∧ s.vm.findClass RL = some m.cls ∧ (∀ w ∈ wsL_law, w.before #[Value.ref b] s = true) ∧ va_K G vwCl (tysC C) s ∧ NW s ∧ ST tG (fun q : Nat => s.heap.size ≤ q) s s.heap ∧ DA C a d := by
  obtain ⟨⟨hx, hb, hr, hml, hown, hts, hX, hbl, hlocks, hgv⟩, hK, hN, hZ, hJ⟩ := F
  exact ⟨hx, hb, hml, hown, fun w h => hts w (wsL_law_in w h), hK, hN, hZ, hJ⟩
/-- a number of the script -/
theorem ld_ {H : Heap} {locs : List Loc} {ls : Array Slot} {i k pc : Nat} {kz : Int} {rest : List Value} (F : LF p s m meth c b L xs G tG C a d) (hL : L ≤ 2048) (hS : va_S (fun q : Nat => s.heap.size ≤ q) s.heap H locs) (hl : lv_has ls 4 [(0, .ref b), (1, .ref (a 0)), (2, .ref (d 0)), (3, .int (nI i))]) (hi : i + k < L) (d0 : decode cL_law pc = .ok (.aload_n 0, 1)) (d1 : decode cL_law (pc + 1) = .ok (.iload_n 3, 1)) (d2 : decode cL_law (pc + 2) = .ok (.iconst kz, 1)) (d3 : decode cL_law (pc + 3) = .ok (.iadd, 1)) (d4 : decode cL_law (pc + 4) = .ok (.iaload, 1)) (hv : Int32.ofInt kz = nI k)
    (kk : LW p l e s m b below meth c H locs (pc + 5) ls (.int (xs (i + k)) :: rest)) : LW p l e s m b below meth c H locs pc ls rest := by
  obtain ⟨⟨hx, hb, hr, hml, hown, hts, hX, hbl, hlocks, hgv⟩, hK, hN, hZ, hJ⟩ := F
  have hb : c.code = cL_law := hb
  have hbA : ¬ (fun q : Nat => s.heap.size ≤ q) b := Nat.not_le.mpr hbl
  refine lv_aload_n hx hb d0 rfl (lv_at hl 0 rfl) ?_
  refine lv_iload_n hx hb d1 rfl (lv_at hl 3 rfl) ?_
  refine lv_iconst hx hb d2 hv ?_
  refine lv_iadd hx hb d3 ?_
  refine tp_i (v := nI (i + k)) (nI_add i k) ?_
  refine va_sld hx hb hX hbl hbA hS (vp_in_nI hi (by omega)) d4 ?_
  exact tp_i (v := xs (i + k)) (by rw [nI_clamp (by omega)]) kk
/-- the two answers are the same: on with the script -/
theorem end_ {H : Heap} {locs : List Loc} {ls : Array Slot} {pc : Nat} {off : Int} {r : Int64} (F : LF p s m meth c b L xs G tG C a d) (d1 : decode cL_law pc = .ok (.lcmp, 1)) (d2 : decode cL_law (pc + 1) = .ok (.ifCond .eq off, 3)) (ht : ((pc + 1 : Nat) : Int) + off = ((872 : Nat) : Int)) (kk : LW p l e s m b below meth c H locs 872 ls []) : LW p l e s m b below meth c H locs pc ls [.long r, .long r] := by
  obtain ⟨hx, hb, -⟩ := F.use
  exact lc_eq hx hb d1 d2 ht (fun _ => kk) (fun h => absurd rfl h)
set_option maxHeartbeats 4000000 in
set_option maxRecDepth 100000 in
theorem k_0 (F : LF p s m meth c b L xs G tG C a d) (hL : L ≤ 2048) {σ : SG} {H : Heap} {locs : List Loc} {ls : Array Slot} {i : Nat} (hB : BOTH G C a d s σ H locs) (hl : lv_has ls 4 [(0, .ref b), (1, .ref (a 0)), (2, .ref (d 0)), (3, .int (nI i))]) (hi : i + 3 < L) (K : ∀ (σ : SG) (H : Heap) (locs : List Loc), BOTH G C a d s σ H locs → LW p l e s m b below meth c H locs 872 ls []) : LW p l e s m b below meth c H locs 160 ls [] := by
  obtain ⟨hx, hb, hml, hown, hT, hK, hN, hZ, hJ⟩ := F.use
  obtain ⟨hI, hS, κ, ρ, hP, hPM, hD, hDM⟩ := hB
  have hA : ∀ q : Nat, s.heap.size ≤ q → (fun q : Nat => s.heap.size ≤ q) q := fun _ h => h
  refine lv_aload_n hx hb dL_law_160 rfl (lv_at hl 1 rfl) ?_
  refine ld_ (k := 1) F hL hS hl (by omega) dL_law_161 dL_law_162 dL_law_163 dL_law_164 dL_law_165 (by decide) ?_
  refine pr_callV (As := [.int (xs (i + 1))]) (rest := []) ⟨hx, hb, hml, hown, hT⟩ (c_append l G C a σ κ hI.1 (xs (i + 1))) (cwV 1 hT gL_law_X3_append rfl rfl rfl (by decide +kernel) ⟨Nat.le_of_ble_eq_true rfl, Nat.le_of_ble_eq_true rfl⟩) hK hN hP hD hS hA hPM ((hJ _ _ _ _)) 0 3 wX_e0 rfl rfl rfl hl.1 rfl (Nat.le_of_ble_eq_true rfl) dL_law_166 ⟨Nat.le_refl _, Nat.le_refl _⟩ (fun v_ w1 H locs hw hP hD hS hPM => ?_)
  obtain ⟨rfl, κ, rfl⟩ := hw
  refine lv_aload_n hx hb dL_law_169 rfl (lv_at hl 2 rfl) ?_
  refine ld_ (k := 1) F hL hS hl (by omega) dL_law_170 dL_law_171 dL_law_172 dL_law_173 dL_law_174 (by decide) ?_
  refine pr_callV (As := [.int (xs (i + 1))]) (rest := [.long (aAppend σ (xs (i + 1)))]) ⟨hx, hb, hml, hown, hT⟩ (m_append l G C d σ ρ hI.1 (xs (i + 1))) (cwV 1 hT gL_law_X4_append rfl rfl rfl (by decide +kernel) ⟨Nat.le_of_ble_eq_true rfl, Nat.le_of_ble_eq_true rfl⟩) hK hN hPM hDM hS hA hP ((hJ _ _ _ _).flip) 0 4 wM_e0 rfl rfl rfl hl.1 rfl (Nat.le_of_ble_eq_true rfl) dL_law_175 ⟨Nat.le_refl _, Nat.le_refl _⟩ (fun v_ w1 H locs hw hPM hDM hS hP => ?_)
  obtain ⟨rfl, ρ, rfl⟩ := hw
  exact end_ F dL_law_178 dL_law_179 (by decide) (K _ _ _ ⟨inv_append hI _, hS, κ, ρ, hP, hPM, hD, hDM⟩)
set_option maxHeartbeats 4000000 in
set_option maxRecDepth 100000 in
theorem k_1 (F : LF p s m meth c b L xs G tG C a d) (hL : L ≤ 2048) {σ : SG} {H : Heap} {locs : List Loc} {ls : Array Slot} {i : Nat} (hB : BOTH G C a d s σ H locs) (hl : lv_has ls 4 [(0, .ref b), (1, .ref (a 0)), (2, .ref (d 0)), (3, .int (nI i))]) (hi : i + 3 < L) (K : ∀ (σ : SG) (H : Heap) (locs : List Loc), BOTH G C a d s σ H locs → LW p l e s m b below meth c H locs 872 ls []) : LW p l e s m b below meth c H locs 184 ls [] := by
  obtain ⟨hx, hb, hml, hown, hT, hK, hN, hZ, hJ⟩ := F.use
  obtain ⟨hI, hS, κ, ρ, hP, hPM, hD, hDM⟩ := hB
  have hA : ∀ q : Nat, s.heap.size ≤ q → (fun q : Nat => s.heap.size ≤ q) q := fun _ h => h
  refine lv_aload_n hx hb dL_law_184 rfl (lv_at hl 1 rfl) ?_
  refine pr_callV (As := []) (rest := []) ⟨hx, hb, hml, hown, hT⟩ (c_clearB l G C a σ κ hI.1) (cwV 0 hT gL_law_X3_clearBuffer rfl rfl rfl (by decide +kernel) ⟨Nat.le_of_ble_eq_true rfl, Nat.le_of_ble_eq_true rfl⟩) hK hN hP hD hS hA hPM ((hJ _ _ _ _)) 0 3 wX_e0 rfl rfl rfl hl.1 rfl (Nat.le_of_ble_eq_true rfl) dL_law_185 ⟨Nat.le_refl _, Nat.le_refl _⟩ (fun v_ w1 H locs hw hP hD hS hPM => ?_)
  obtain ⟨rfl, κ, rfl⟩ := hw
  refine lv_aload_n hx hb dL_law_188 rfl (lv_at hl 2 rfl) ?_
  refine pr_callV (As := []) (rest := [.long (lN (g_bl σ))]) ⟨hx, hb, hml, hown, hT⟩ (m_clearB l G C d σ ρ hI.1) (cwV 0 hT gL_law_X4_clearBuffer rfl rfl rfl (by decide +kernel) ⟨Nat.le_of_ble_eq_true rfl, Nat.le_of_ble_eq_true rfl⟩) hK hN hPM hDM hS hA hP ((hJ _ _ _ _).flip) 0 4 wM_e0 rfl rfl rfl hl.1 rfl (Nat.le_of_ble_eq_true rfl) dL_law_189 ⟨Nat.le_refl _, Nat.le_refl _⟩ (fun v_ w1 H locs hw hPM hDM hS hP => ?_)
  obtain ⟨rfl, ρ, rfl⟩ := hw
  exact end_ F dL_law_192 dL_law_193 (by decide) (K _ _ _ ⟨inv_u_bl hI, hS, κ, ρ, hP, hPM, hD, hDM⟩)
set_option maxHeartbeats 4000000 in
set_option maxRecDepth 100000 in
theorem k_2 (F : LF p s m meth c b L xs G tG C a d) (hL : L ≤ 2048) {σ : SG} {H : Heap} {locs : List Loc} {ls : Array Slot} {i : Nat} (hB : BOTH G C a d s σ H locs) (hl : lv_has ls 4 [(0, .ref b), (1, .ref (a 0)), (2, .ref (d 0)), (3, .int (nI i))]) (hi : i + 3 < L) (K : ∀ (σ : SG) (H : Heap) (locs : List Loc), BOTH G C a d s σ H locs → LW p l e s m b below meth c H locs 872 ls []) : LW p l e s m b below meth c H locs 198 ls [] := by
  obtain ⟨hx, hb, hml, hown, hT, hK, hN, hZ, hJ⟩ := F.use
  obtain ⟨hI, hS, κ, ρ, hP, hPM, hD, hDM⟩ := hB
  have hA : ∀ q : Nat, s.heap.size ≤ q → (fun q : Nat => s.heap.size ≤ q) q := fun _ h => h
  refine lv_aload_n hx hb dL_law_198 rfl (lv_at hl 1 rfl) ?_
  refine pr_callG (As := []) (rest := []) ⟨hx, hb, hml, hown, hT⟩ (c_error l G C a σ κ tG hI.1) (cwV 0 hT gL_law_X3_errorPosition rfl rfl rfl (by decide +kernel) ⟨Nat.le_of_ble_eq_true rfl, Nat.le_of_ble_eq_true rfl⟩) hK hN hP hD hS hA hZ hPM ((hJ _ _ _ _)) 0 3 wX_e0 rfl rfl rfl hl.1 rfl (Nat.le_of_ble_eq_true rfl) dL_law_199 ⟨Nat.le_refl _, Nat.le_refl _⟩ (fun v_ w1 H locs hw hP hD hS hPM => ?_)
  obtain ⟨rfl, κ, rfl⟩ := hw
  refine lv_aload_n hx hb dL_law_202 rfl (lv_at hl 2 rfl) ?_
  refine pr_callV (As := []) (rest := [.long (aErr σ)]) ⟨hx, hb, hml, hown, hT⟩ (m_error l G C d σ ρ hI.1) (cwV 0 hT gL_law_X4_errorPosition rfl rfl rfl (by decide +kernel) ⟨Nat.le_of_ble_eq_true rfl, Nat.le_of_ble_eq_true rfl⟩) hK hN hPM hDM hS hA hP ((hJ _ _ _ _).flip) 0 4 wM_e0 rfl rfl rfl hl.1 rfl (Nat.le_of_ble_eq_true rfl) dL_law_203 ⟨Nat.le_refl _, Nat.le_refl _⟩ (fun v_ w1 H locs hw hPM hDM hS hP => ?_)
  obtain ⟨rfl, ρ, rfl⟩ := hw
  exact end_ F dL_law_206 dL_law_207 (by decide) (K _ _ _ ⟨hI, hS, κ, ρ, hP, hPM, hD, hDM⟩)
set_option maxHeartbeats 4000000 in
set_option maxRecDepth 100000 in
theorem k_3 (F : LF p s m meth c b L xs G tG C a d) (hL : L ≤ 2048) {σ : SG} {H : Heap} {locs : List Loc} {ls : Array Slot} {i : Nat} (hB : BOTH G C a d s σ H locs) (hl : lv_has ls 4 [(0, .ref b), (1, .ref (a 0)), (2, .ref (d 0)), (3, .int (nI i))]) (hi : i + 3 < L) (K : ∀ (σ : SG) (H : Heap) (locs : List Loc), BOTH G C a d s σ H locs → LW p l e s m b below meth c H locs 872 ls []) : LW p l e s m b below meth c H locs 212 ls [] := by
  obtain ⟨hx, hb, hml, hown, hT, hK, hN, hZ, hJ⟩ := F.use
  obtain ⟨hI, hS, κ, ρ, hP, hPM, hD, hDM⟩ := hB
  have hA : ∀ q : Nat, s.heap.size ≤ q → (fun q : Nat => s.heap.size ≤ q) q := fun _ h => h
  refine lv_aload_n hx hb dL_law_212 rfl (lv_at hl 1 rfl) ?_
  refine pr_callG (As := []) (rest := []) ⟨hx, hb, hml, hown, hT⟩ (c_addRow l G C a σ κ tG hI.1 hI.2.1) (cwV 0 hT gL_law_X3_addRow rfl rfl rfl (by decide +kernel) ⟨Nat.le_of_ble_eq_true rfl, Nat.le_of_ble_eq_true rfl⟩) hK hN hP hD hS hA hZ hPM ((hJ _ _ _ _)) 0 3 wX_e0 rfl rfl rfl hl.1 rfl (Nat.le_of_ble_eq_true rfl) dL_law_213 ⟨Nat.le_refl _, Nat.le_refl _⟩ (fun v_ w1 H locs hw hP hD hS hPM => ?_)
  obtain ⟨rfl, κ, rfl⟩ := hw
  refine lv_aload_n hx hb dL_law_216 rfl (lv_at hl 2 rfl) ?_
  refine pr_callV (As := []) (rest := [.long (aAddR σ)]) ⟨hx, hb, hml, hown, hT⟩ (m_addRow l G C d σ ρ hI.1 hI.2.1) (cwV 0 hT gL_law_X4_addRow rfl rfl rfl (by decide +kernel) ⟨Nat.le_of_ble_eq_true rfl, Nat.le_of_ble_eq_true rfl⟩) hK hN hPM hDM hS hA hP ((hJ _ _ _ _).flip) 0 4 wM_e0 rfl rfl rfl hl.1 rfl (Nat.le_of_ble_eq_true rfl) dL_law_217 ⟨Nat.le_refl _, Nat.le_refl _⟩ (fun v_ w1 H locs hw hPM hDM hS hP => ?_)
  obtain ⟨rfl, ρ, rfl⟩ := hw
  exact end_ F dL_law_220 dL_law_221 (by decide) (K _ _ _ ⟨inv_addR hI, hS, κ, ρ, hP, hPM, hD, hDM⟩)
set_option maxHeartbeats 4000000 in
set_option maxRecDepth 100000 in
theorem k_4 (F : LF p s m meth c b L xs G tG C a d) (hL : L ≤ 2048) {σ : SG} {H : Heap} {locs : List Loc} {ls : Array Slot} {i : Nat} (hB : BOTH G C a d s σ H locs) (hl : lv_has ls 4 [(0, .ref b), (1, .ref (a 0)), (2, .ref (d 0)), (3, .int (nI i))]) (hi : i + 3 < L) (K : ∀ (σ : SG) (H : Heap) (locs : List Loc), BOTH G C a d s σ H locs → LW p l e s m b below meth c H locs 872 ls []) : LW p l e s m b below meth c H locs 226 ls [] := by
  obtain ⟨hx, hb, hml, hown, hT, hK, hN, hZ, hJ⟩ := F.use
  obtain ⟨hI, hS, κ, ρ, hP, hPM, hD, hDM⟩ := hB
  have hA : ∀ q : Nat, s.heap.size ≤ q → (fun q : Nat => s.heap.size ≤ q) q := fun _ h => h
  refine lv_aload_n hx hb dL_law_226 rfl (lv_at hl 1 rfl) ?_
  refine pr_callV (As := []) (rest := []) ⟨hx, hb, hml, hown, hT⟩ (c_clearT l G C a σ κ hI.2.1) (cwV 0 hT gL_law_X3_clearTable rfl rfl rfl (by decide +kernel) ⟨Nat.le_of_ble_eq_true rfl, Nat.le_of_ble_eq_true rfl⟩) hK hN hP hD hS hA hPM ((hJ _ _ _ _)) 0 3 wX_e0 rfl rfl rfl hl.1 rfl (Nat.le_of_ble_eq_true rfl) dL_law_227 ⟨Nat.le_refl _, Nat.le_refl _⟩ (fun v_ w1 H locs hw hP hD hS hPM => ?_)
  obtain ⟨rfl, κ, rfl⟩ := hw
  refine lv_aload_n hx hb dL_law_230 rfl (lv_at hl 2 rfl) ?_
  refine pr_callV (As := []) (rest := [.long (lN (g_n σ))]) ⟨hx, hb, hml, hown, hT⟩ (m_clearT l G C d σ ρ hI.2.1) (cwV 0 hT gL_law_X4_clearTable rfl rfl rfl (by decide +kernel) ⟨Nat.le_of_ble_eq_true rfl, Nat.le_of_ble_eq_true rfl⟩) hK hN hPM hDM hS hA hP ((hJ _ _ _ _).flip) 0 4 wM_e0 rfl rfl rfl hl.1 rfl (Nat.le_of_ble_eq_true rfl) dL_law_231 ⟨Nat.le_refl _, Nat.le_refl _⟩ (fun v_ w1 H locs hw hPM hDM hS hP => ?_)
  obtain ⟨rfl, ρ, rfl⟩ := hw
  exact end_ F dL_law_234 dL_law_235 (by decide) (K _ _ _ ⟨inv_u_n hI, hS, κ, ρ, hP, hPM, hD, hDM⟩)
set_option maxHeartbeats 4000000 in
set_option maxRecDepth 100000 in
theorem k_5 (F : LF p s m meth c b L xs G tG C a d) (hL : L ≤ 2048) {σ : SG} {H : Heap} {locs : List Loc} {ls : Array Slot} {i : Nat} (hB : BOTH G C a d s σ H locs) (hl : lv_has ls 4 [(0, .ref b), (1, .ref (a 0)), (2, .ref (d 0)), (3, .int (nI i))]) (hi : i + 3 < L) (K : ∀ (σ : SG) (H : Heap) (locs : List Loc), BOTH G C a d s σ H locs → LW p l e s m b below meth c H locs 872 ls []) : LW p l e s m b below meth c H locs 240 ls [] := by
  obtain ⟨hx, hb, hml, hown, hT, hK, hN, hZ, hJ⟩ := F.use
  obtain ⟨hI, hS, κ, ρ, hP, hPM, hD, hDM⟩ := hB
  have hA : ∀ q : Nat, s.heap.size ≤ q → (fun q : Nat => s.heap.size ≤ q) q := fun _ h => h
  refine lv_aload_n hx hb dL_law_240 rfl (lv_at hl 1 rfl) ?_
  refine ld_ (k := 1) F hL hS hl (by omega) dL_law_241 dL_law_242 dL_law_243 dL_law_244 dL_law_245 (by decide) ?_
  refine rd_callV (As := [.int (xs (i + 1))]) (rest := []) ⟨hx, hb, hml, hown, hT⟩ (c_rowD l G C a σ κ hI.2.1 (xs (i + 1))) (cwV 1 hT gL_law_X3_rowDraft rfl rfl rfl (by decide +kernel) ⟨Nat.le_of_ble_eq_true rfl, Nat.le_of_ble_eq_true rfl⟩) hK hN hP 0 3 wX_e0 rfl rfl rfl hl.1 rfl (Nat.le_of_ble_eq_true rfl) dL_law_246 ⟨Nat.le_refl _, Nat.le_refl _⟩ ?_
  refine lv_aload_n hx hb dL_law_249 rfl (lv_at hl 2 rfl) ?_
  refine ld_ (k := 1) F hL hS hl (by omega) dL_law_250 dL_law_251 dL_law_252 dL_law_253 dL_law_254 (by decide) ?_
  refine rd_callV (As := [.int (xs (i + 1))]) (rest := [.long (aRowDraft σ (xs (i + 1)))]) ⟨hx, hb, hml, hown, hT⟩ (m_rowD l G C d σ ρ hI.2.1 (xs (i + 1))) (cwV 1 hT gL_law_X4_rowDraft rfl rfl rfl (by decide +kernel) ⟨Nat.le_of_ble_eq_true rfl, Nat.le_of_ble_eq_true rfl⟩) hK hN hPM 0 4 wM_e0 rfl rfl rfl hl.1 rfl (Nat.le_of_ble_eq_true rfl) dL_law_255 ⟨Nat.le_refl _, Nat.le_refl _⟩ ?_
  exact end_ F dL_law_258 dL_law_259 (by decide) (K _ _ _ ⟨hI, hS, κ, ρ, hP, hPM, hD, hDM⟩)
set_option maxHeartbeats 4000000 in
set_option maxRecDepth 100000 in
theorem k_6 (F : LF p s m meth c b L xs G tG C a d) (hL : L ≤ 2048) {σ : SG} {H : Heap} {locs : List Loc} {ls : Array Slot} {i : Nat} (hB : BOTH G C a d s σ H locs) (hl : lv_has ls 4 [(0, .ref b), (1, .ref (a 0)), (2, .ref (d 0)), (3, .int (nI i))]) (hi : i + 3 < L) (K : ∀ (σ : SG) (H : Heap) (locs : List Loc), BOTH G C a d s σ H locs → LW p l e s m b below meth c H locs 872 ls []) : LW p l e s m b below meth c H locs 264 ls [] := by
  obtain ⟨hx, hb, hml, hown, hT, hK, hN, hZ, hJ⟩ := F.use
  obtain ⟨hI, hS, κ, ρ, hP, hPM, hD, hDM⟩ := hB
  have hA : ∀ q : Nat, s.heap.size ≤ q → (fun q : Nat => s.heap.size ≤ q) q := fun _ h => h
  refine lv_aload_n hx hb dL_law_264 rfl (lv_at hl 1 rfl) ?_
  refine ld_ (k := 1) F hL hS hl (by omega) dL_law_265 dL_law_266 dL_law_267 dL_law_268 dL_law_269 (by decide) ?_
  refine ld_ (k := 2) F hL hS hl (by omega) dL_law_270 dL_law_271 dL_law_272 dL_law_273 dL_law_274 (by decide) ?_
  refine rd_callV (As := [.int (xs (i + 1)), .int (xs (i + 2))]) (rest := []) ⟨hx, hb, hml, hown, hT⟩ (c_val l G C a σ κ hI (xs (i + 1)) (xs (i + 2))) (cwV 2 hT gL_law_X3_tableValue rfl rfl rfl (by decide +kernel) ⟨Nat.le_of_ble_eq_true rfl, Nat.le_of_ble_eq_true rfl⟩) hK hN hP 0 3 wX_e0 rfl rfl rfl hl.1 rfl (Nat.le_of_ble_eq_true rfl) dL_law_275 ⟨Nat.le_refl _, Nat.le_refl _⟩ ?_
  refine lv_aload_n hx hb dL_law_278 rfl (lv_at hl 2 rfl) ?_
  refine ld_ (k := 1) F hL hS hl (by omega) dL_law_279 dL_law_280 dL_law_281 dL_law_282 dL_law_283 (by decide) ?_
  refine ld_ (k := 2) F hL hS hl (by omega) dL_law_284 dL_law_285 dL_law_286 dL_law_287 dL_law_288 (by decide) ?_
  refine rd_callV (As := [.int (xs (i + 1)), .int (xs (i + 2))]) (rest := [.long (aValue σ (xs (i + 1)) (xs (i + 2)))]) ⟨hx, hb, hml, hown, hT⟩ (m_val l G C d σ ρ hI (xs (i + 1)) (xs (i + 2))) (cwV 2 hT gL_law_X4_tableValue rfl rfl rfl (by decide +kernel) ⟨Nat.le_of_ble_eq_true rfl, Nat.le_of_ble_eq_true rfl⟩) hK hN hPM 0 4 wM_e0 rfl rfl rfl hl.1 rfl (Nat.le_of_ble_eq_true rfl) dL_law_289 ⟨Nat.le_refl _, Nat.le_refl _⟩ ?_
  exact end_ F dL_law_292 dL_law_293 (by decide) (K _ _ _ ⟨hI, hS, κ, ρ, hP, hPM, hD, hDM⟩)
set_option maxHeartbeats 4000000 in
set_option maxRecDepth 100000 in
theorem k_7 (F : LF p s m meth c b L xs G tG C a d) (hL : L ≤ 2048) {σ : SG} {H : Heap} {locs : List Loc} {ls : Array Slot} {i : Nat} (hB : BOTH G C a d s σ H locs) (hl : lv_has ls 4 [(0, .ref b), (1, .ref (a 0)), (2, .ref (d 0)), (3, .int (nI i))]) (hi : i + 3 < L) (K : ∀ (σ : SG) (H : Heap) (locs : List Loc), BOTH G C a d s σ H locs → LW p l e s m b below meth c H locs 872 ls []) : LW p l e s m b below meth c H locs 298 ls [] := by
  obtain ⟨hx, hb, hml, hown, hT, hK, hN, hZ, hJ⟩ := F.use
  obtain ⟨hI, hS, κ, ρ, hP, hPM, hD, hDM⟩ := hB
  have hA : ∀ q : Nat, s.heap.size ≤ q → (fun q : Nat => s.heap.size ≤ q) q := fun _ h => h
  refine lv_aload_n hx hb dL_law_298 rfl (lv_at hl 1 rfl) ?_
  refine ld_ (k := 1) F hL hS hl (by omega) dL_law_299 dL_law_300 dL_law_301 dL_law_302 dL_law_303 (by decide) ?_
  refine pr_callV (As := [.int (xs (i + 1))]) (rest := []) ⟨hx, hb, hml, hown, hT⟩ (c_setL l G C a σ κ (xs (i + 1))) (cwV 1 hT gL_law_X3_setLength rfl rfl rfl (by decide +kernel) ⟨Nat.le_of_ble_eq_true rfl, Nat.le_of_ble_eq_true rfl⟩) hK hN hP hD hS hA hPM ((hJ _ _ _ _)) 0 3 wX_e0 rfl rfl rfl hl.1 rfl (Nat.le_of_ble_eq_true rfl) dL_law_304 ⟨Nat.le_refl _, Nat.le_refl _⟩ (fun v_ w1 H locs hw hP hD hS hPM => ?_)
  obtain ⟨rfl, κ, rfl⟩ := hw
  refine lv_aload_n hx hb dL_law_307 rfl (lv_at hl 2 rfl) ?_
  refine ld_ (k := 1) F hL hS hl (by omega) dL_law_308 dL_law_309 dL_law_310 dL_law_311 dL_law_312 (by decide) ?_
  refine pr_callV (As := [.int (xs (i + 1))]) (rest := [.long (aSetL σ (xs (i + 1)))]) ⟨hx, hb, hml, hown, hT⟩ (m_setL l G C d σ ρ (xs (i + 1))) (cwV 1 hT gL_law_X4_setLength rfl rfl rfl (by decide +kernel) ⟨Nat.le_of_ble_eq_true rfl, Nat.le_of_ble_eq_true rfl⟩) hK hN hPM hDM hS hA hP ((hJ _ _ _ _).flip) 0 4 wM_e0 rfl rfl rfl hl.1 rfl (Nat.le_of_ble_eq_true rfl) dL_law_313 ⟨Nat.le_refl _, Nat.le_refl _⟩ (fun v_ w1 H locs hw hPM hDM hS hP => ?_)
  obtain ⟨rfl, ρ, rfl⟩ := hw
  exact end_ F dL_law_316 dL_law_317 (by decide) (K _ _ _ ⟨inv_setL hI _, hS, κ, ρ, hP, hPM, hD, hDM⟩)
set_option maxHeartbeats 4000000 in
set_option maxRecDepth 100000 in
theorem k_8 (F : LF p s m meth c b L xs G tG C a d) (hL : L ≤ 2048) {σ : SG} {H : Heap} {locs : List Loc} {ls : Array Slot} {i : Nat} (hB : BOTH G C a d s σ H locs) (hl : lv_has ls 4 [(0, .ref b), (1, .ref (a 0)), (2, .ref (d 0)), (3, .int (nI i))]) (hi : i + 3 < L) (K : ∀ (σ : SG) (H : Heap) (locs : List Loc), BOTH G C a d s σ H locs → LW p l e s m b below meth c H locs 872 ls []) : LW p l e s m b below meth c H locs 322 ls [] := by
  obtain ⟨hx, hb, hml, hown, hT, hK, hN, hZ, hJ⟩ := F.use
  obtain ⟨hI, hS, κ, ρ, hP, hPM, hD, hDM⟩ := hB
  have hA : ∀ q : Nat, s.heap.size ≤ q → (fun q : Nat => s.heap.size ≤ q) q := fun _ h => h
  refine lv_aload_n hx hb dL_law_322 rfl (lv_at hl 1 rfl) ?_
  refine ld_ (k := 1) F hL hS hl (by omega) dL_law_323 dL_law_324 dL_law_325 dL_law_326 dL_law_327 (by decide) ?_
  refine pr_callV (As := [.int (xs (i + 1))]) (rest := []) ⟨hx, hb, hml, hown, hT⟩ (c_setM l G C a σ κ (xs (i + 1))) (cwV 1 hT gL_law_X3_setMargin rfl rfl rfl (by decide +kernel) ⟨Nat.le_of_ble_eq_true rfl, Nat.le_of_ble_eq_true rfl⟩) hK hN hP hD hS hA hPM ((hJ _ _ _ _)) 0 3 wX_e0 rfl rfl rfl hl.1 rfl (Nat.le_of_ble_eq_true rfl) dL_law_328 ⟨Nat.le_refl _, Nat.le_refl _⟩ (fun v_ w1 H locs hw hP hD hS hPM => ?_)
  obtain ⟨rfl, κ, rfl⟩ := hw
  refine lv_aload_n hx hb dL_law_331 rfl (lv_at hl 2 rfl) ?_
  refine ld_ (k := 1) F hL hS hl (by omega) dL_law_332 dL_law_333 dL_law_334 dL_law_335 dL_law_336 (by decide) ?_
  refine pr_callV (As := [.int (xs (i + 1))]) (rest := [.long (aSetM σ (xs (i + 1)))]) ⟨hx, hb, hml, hown, hT⟩ (m_setM l G C d σ ρ (xs (i + 1))) (cwV 1 hT gL_law_X4_setMargin rfl rfl rfl (by decide +kernel) ⟨Nat.le_of_ble_eq_true rfl, Nat.le_of_ble_eq_true rfl⟩) hK hN hPM hDM hS hA hP ((hJ _ _ _ _).flip) 0 4 wM_e0 rfl rfl rfl hl.1 rfl (Nat.le_of_ble_eq_true rfl) dL_law_337 ⟨Nat.le_refl _, Nat.le_refl _⟩ (fun v_ w1 H locs hw hPM hDM hS hP => ?_)
  obtain ⟨rfl, ρ, rfl⟩ := hw
  exact end_ F dL_law_340 dL_law_341 (by decide) (K _ _ _ ⟨inv_setM hI _, hS, κ, ρ, hP, hPM, hD, hDM⟩)
set_option maxHeartbeats 4000000 in
set_option maxRecDepth 100000 in
theorem k_9 (F : LF p s m meth c b L xs G tG C a d) (hL : L ≤ 2048) {σ : SG} {H : Heap} {locs : List Loc} {ls : Array Slot} {i : Nat} (hB : BOTH G C a d s σ H locs) (hl : lv_has ls 4 [(0, .ref b), (1, .ref (a 0)), (2, .ref (d 0)), (3, .int (nI i))]) (hi : i + 3 < L) (K : ∀ (σ : SG) (H : Heap) (locs : List Loc), BOTH G C a d s σ H locs → LW p l e s m b below meth c H locs 872 ls []) : LW p l e s m b below meth c H locs 346 ls [] := by
  obtain ⟨hx, hb, hml, hown, hT, hK, hN, hZ, hJ⟩ := F.use
  obtain ⟨hI, hS, κ, ρ, hP, hPM, hD, hDM⟩ := hB
  have hA : ∀ q : Nat, s.heap.size ≤ q → (fun q : Nat => s.heap.size ≤ q) q := fun _ h => h
  refine lv_aload_n hx hb dL_law_346 rfl (lv_at hl 1 rfl) ?_
  refine ld_ (k := 1) F hL hS hl (by omega) dL_law_347 dL_law_348 dL_law_349 dL_law_350 dL_law_351 (by decide) ?_
  refine ld_ (k := 2) F hL hS hl (by omega) dL_law_352 dL_law_353 dL_law_354 dL_law_355 dL_law_356 (by decide) ?_
  refine ld_ (k := 3) F hL hS hl (by omega) dL_law_357 dL_law_358 dL_law_359 dL_law_360 dL_law_361 (by decide) ?_
  refine pr_callV (As := [.int (xs (i + 1)), .int (xs (i + 2)), .int (xs (i + 3))]) (rest := []) ⟨hx, hb, hml, hown, hT⟩ (c_setR l G C a σ κ (xs (i + 1)) (xs (i + 2)) (xs (i + 3))) (cwV 3 hT gL_law_X3_setReading rfl rfl rfl (by decide +kernel) ⟨Nat.le_of_ble_eq_true rfl, Nat.le_of_ble_eq_true rfl⟩) hK hN hP hD hS hA hPM ((hJ _ _ _ _)) 0 3 wX_e0 rfl rfl rfl hl.1 rfl (Nat.le_of_ble_eq_true rfl) dL_law_362 ⟨Nat.le_refl _, Nat.le_refl _⟩ (fun v_ w1 H locs hw hP hD hS hPM => ?_)
  obtain ⟨rfl, κ, rfl⟩ := hw
  refine lv_aload_n hx hb dL_law_365 rfl (lv_at hl 2 rfl) ?_
  refine ld_ (k := 1) F hL hS hl (by omega) dL_law_366 dL_law_367 dL_law_368 dL_law_369 dL_law_370 (by decide) ?_
  refine ld_ (k := 2) F hL hS hl (by omega) dL_law_371 dL_law_372 dL_law_373 dL_law_374 dL_law_375 (by decide) ?_
  refine ld_ (k := 3) F hL hS hl (by omega) dL_law_376 dL_law_377 dL_law_378 dL_law_379 dL_law_380 (by decide) ?_
  refine pr_callV (As := [.int (xs (i + 1)), .int (xs (i + 2)), .int (xs (i + 3))]) (rest := [.long (aSetR σ (xs (i + 1)) (xs (i + 2)) (xs (i + 3)))]) ⟨hx, hb, hml, hown, hT⟩ (m_setR l G C d σ ρ (xs (i + 1)) (xs (i + 2)) (xs (i + 3))) (cwV 3 hT gL_law_X4_setReading rfl rfl rfl (by decide +kernel) ⟨Nat.le_of_ble_eq_true rfl, Nat.le_of_ble_eq_true rfl⟩) hK hN hPM hDM hS hA hP ((hJ _ _ _ _).flip) 0 4 wM_e0 rfl rfl rfl hl.1 rfl (Nat.le_of_ble_eq_true rfl) dL_law_381 ⟨Nat.le_refl _, Nat.le_refl _⟩ (fun v_ w1 H locs hw hPM hDM hS hP => ?_)
  obtain ⟨rfl, ρ, rfl⟩ := hw
  exact end_ F dL_law_384 dL_law_385 (by decide) (K _ _ _ ⟨inv_setR hI _ _ _, hS, κ, ρ, hP, hPM, hD, hDM⟩)
set_option maxHeartbeats 4000000 in
set_option maxRecDepth 100000 in
theorem k_10 (F : LF p s m meth c b L xs G tG C a d) (hL : L ≤ 2048) {σ : SG} {H : Heap} {locs : List Loc} {ls : Array Slot} {i : Nat} (hB : BOTH G C a d s σ H locs) (hl : lv_has ls 4 [(0, .ref b), (1, .ref (a 0)), (2, .ref (d 0)), (3, .int (nI i))]) (hi : i + 3 < L) (K : ∀ (σ : SG) (H : Heap) (locs : List Loc), BOTH G C a d s σ H locs → LW p l e s m b below meth c H locs 872 ls []) : LW p l e s m b below meth c H locs 390 ls [] := by
  obtain ⟨hx, hb, hml, hown, hT, hK, hN, hZ, hJ⟩ := F.use
  obtain ⟨hI, hS, κ, ρ, hP, hPM, hD, hDM⟩ := hB
  have hA : ∀ q : Nat, s.heap.size ≤ q → (fun q : Nat => s.heap.size ≤ q) q := fun _ h => h
  refine lv_aload_n hx hb dL_law_390 rfl (lv_at hl 1 rfl) ?_
  refine ld_ (k := 1) F hL hS hl (by omega) dL_law_391 dL_law_392 dL_law_393 dL_law_394 dL_law_395 (by decide) ?_
  refine ld_ (k := 2) F hL hS hl (by omega) dL_law_396 dL_law_397 dL_law_398 dL_law_399 dL_law_400 (by decide) ?_
  refine rd_callV (As := [.int (xs (i + 1)), .int (xs (i + 2))]) (rest := []) ⟨hx, hb, hml, hown, hT⟩ (c_read l G C a σ κ (xs (i + 1)) (xs (i + 2))) (cwV 2 hT gL_law_X3_reading rfl rfl rfl (by decide +kernel) ⟨Nat.le_of_ble_eq_true rfl, Nat.le_of_ble_eq_true rfl⟩) hK hN hP 0 3 wX_e0 rfl rfl rfl hl.1 rfl (Nat.le_of_ble_eq_true rfl) dL_law_401 ⟨Nat.le_refl _, Nat.le_refl _⟩ ?_
  refine lv_aload_n hx hb dL_law_404 rfl (lv_at hl 2 rfl) ?_
  refine ld_ (k := 1) F hL hS hl (by omega) dL_law_405 dL_law_406 dL_law_407 dL_law_408 dL_law_409 (by decide) ?_
  refine ld_ (k := 2) F hL hS hl (by omega) dL_law_410 dL_law_411 dL_law_412 dL_law_413 dL_law_414 (by decide) ?_
  refine rd_callV (As := [.int (xs (i + 1)), .int (xs (i + 2))]) (rest := [.long (aRead σ (xs (i + 1)) (xs (i + 2)))]) ⟨hx, hb, hml, hown, hT⟩ (m_read l G C d σ ρ (xs (i + 1)) (xs (i + 2))) (cwV 2 hT gL_law_X4_reading rfl rfl rfl (by decide +kernel) ⟨Nat.le_of_ble_eq_true rfl, Nat.le_of_ble_eq_true rfl⟩) hK hN hPM 0 4 wM_e0 rfl rfl rfl hl.1 rfl (Nat.le_of_ble_eq_true rfl) dL_law_415 ⟨Nat.le_refl _, Nat.le_refl _⟩ ?_
  exact end_ F dL_law_418 dL_law_419 (by decide) (K _ _ _ ⟨hI, hS, κ, ρ, hP, hPM, hD, hDM⟩)
set_option maxHeartbeats 4000000 in
set_option maxRecDepth 100000 in
theorem k_11 (F : LF p s m meth c b L xs G tG C a d) (hL : L ≤ 2048) {σ : SG} {H : Heap} {locs : List Loc} {ls : Array Slot} {i : Nat} (hB : BOTH G C a d s σ H locs) (hl : lv_has ls 4 [(0, .ref b), (1, .ref (a 0)), (2, .ref (d 0)), (3, .int (nI i))]) (hi : i + 3 < L) (K : ∀ (σ : SG) (H : Heap) (locs : List Loc), BOTH G C a d s σ H locs → LW p l e s m b below meth c H locs 872 ls []) : LW p l e s m b below meth c H locs 424 ls [] := by
  obtain ⟨hx, hb, hml, hown, hT, hK, hN, hZ, hJ⟩ := F.use
  obtain ⟨hI, hS, κ, ρ, hP, hPM, hD, hDM⟩ := hB
  have hA : ∀ q : Nat, s.heap.size ≤ q → (fun q : Nat => s.heap.size ≤ q) q := fun _ h => h
  refine lv_aload_n hx hb dL_law_424 rfl (lv_at hl 1 rfl) ?_
  refine ld_ (k := 1) F hL hS hl (by omega) dL_law_425 dL_law_426 dL_law_427 dL_law_428 dL_law_429 (by decide) ?_
  refine ld_ (k := 2) F hL hS hl (by omega) dL_law_430 dL_law_431 dL_law_432 dL_law_433 dL_law_434 (by decide) ?_
  refine pr_callV (As := [.int (xs (i + 1)), .int (xs (i + 2))]) (rest := []) ⟨hx, hb, hml, hown, hT⟩ (c_setD l G C a σ κ (xs (i + 1)) (xs (i + 2))) (cwV 2 hT gL_law_X3_setDensity rfl rfl rfl (by decide +kernel) ⟨Nat.le_of_ble_eq_true rfl, Nat.le_of_ble_eq_true rfl⟩) hK hN hP hD hS hA hPM ((hJ _ _ _ _)) 0 3 wX_e0 rfl rfl rfl hl.1 rfl (Nat.le_of_ble_eq_true rfl) dL_law_435 ⟨Nat.le_refl _, Nat.le_refl _⟩ (fun v_ w1 H locs hw hP hD hS hPM => ?_)
  obtain ⟨rfl, κ, rfl⟩ := hw
  refine lv_aload_n hx hb dL_law_438 rfl (lv_at hl 2 rfl) ?_
  refine ld_ (k := 1) F hL hS hl (by omega) dL_law_439 dL_law_440 dL_law_441 dL_law_442 dL_law_443 (by decide) ?_
  refine ld_ (k := 2) F hL hS hl (by omega) dL_law_444 dL_law_445 dL_law_446 dL_law_447 dL_law_448 (by decide) ?_
  refine pr_callV (As := [.int (xs (i + 1)), .int (xs (i + 2))]) (rest := [.long (aSetD σ (xs (i + 1)) (xs (i + 2)))]) ⟨hx, hb, hml, hown, hT⟩ (m_setD l G C d σ ρ (xs (i + 1)) (xs (i + 2))) (cwV 2 hT gL_law_X4_setDensity rfl rfl rfl (by decide +kernel) ⟨Nat.le_of_ble_eq_true rfl, Nat.le_of_ble_eq_true rfl⟩) hK hN hPM hDM hS hA hP ((hJ _ _ _ _).flip) 0 4 wM_e0 rfl rfl rfl hl.1 rfl (Nat.le_of_ble_eq_true rfl) dL_law_449 ⟨Nat.le_refl _, Nat.le_refl _⟩ (fun v_ w1 H locs hw hPM hDM hS hP => ?_)
  obtain ⟨rfl, ρ, rfl⟩ := hw
  exact end_ F dL_law_452 dL_law_453 (by decide) (K _ _ _ ⟨inv_setD hI _ _, hS, κ, ρ, hP, hPM, hD, hDM⟩)
set_option maxHeartbeats 4000000 in
set_option maxRecDepth 100000 in
theorem k_12 (F : LF p s m meth c b L xs G tG C a d) (hL : L ≤ 2048) {σ : SG} {H : Heap} {locs : List Loc} {ls : Array Slot} {i : Nat} (hB : BOTH G C a d s σ H locs) (hl : lv_has ls 4 [(0, .ref b), (1, .ref (a 0)), (2, .ref (d 0)), (3, .int (nI i))]) (hi : i + 3 < L) (K : ∀ (σ : SG) (H : Heap) (locs : List Loc), BOTH G C a d s σ H locs → LW p l e s m b below meth c H locs 872 ls []) : LW p l e s m b below meth c H locs 458 ls [] := by
  obtain ⟨hx, hb, hml, hown, hT, hK, hN, hZ, hJ⟩ := F.use
  obtain ⟨hI, hS, κ, ρ, hP, hPM, hD, hDM⟩ := hB
  have hA : ∀ q : Nat, s.heap.size ≤ q → (fun q : Nat => s.heap.size ≤ q) q := fun _ h => h
  refine lv_aload_n hx hb dL_law_458 rfl (lv_at hl 1 rfl) ?_
  refine ld_ (k := 1) F hL hS hl (by omega) dL_law_459 dL_law_460 dL_law_461 dL_law_462 dL_law_463 (by decide) ?_
  refine ld_ (k := 2) F hL hS hl (by omega) dL_law_464 dL_law_465 dL_law_466 dL_law_467 dL_law_468 (by decide) ?_
  refine ld_ (k := 3) F hL hS hl (by omega) dL_law_469 dL_law_470 dL_law_471 dL_law_472 dL_law_473 (by decide) ?_
  refine pr_callV (As := [.int (xs (i + 1)), .int (xs (i + 2)), .int (xs (i + 3))]) (rest := []) ⟨hx, hb, hml, hown, hT⟩ (c_setW l G C a σ κ (xs (i + 1)) (xs (i + 2)) (xs (i + 3))) (cwV 3 hT gL_law_X3_setDeduction rfl rfl rfl (by decide +kernel) ⟨Nat.le_of_ble_eq_true rfl, Nat.le_of_ble_eq_true rfl⟩) hK hN hP hD hS hA hPM ((hJ _ _ _ _)) 0 3 wX_e0 rfl rfl rfl hl.1 rfl (Nat.le_of_ble_eq_true rfl) dL_law_474 ⟨Nat.le_refl _, Nat.le_refl _⟩ (fun v_ w1 H locs hw hP hD hS hPM => ?_)
  obtain ⟨rfl, κ, rfl⟩ := hw
  refine lv_aload_n hx hb dL_law_477 rfl (lv_at hl 2 rfl) ?_
  refine ld_ (k := 1) F hL hS hl (by omega) dL_law_478 dL_law_479 dL_law_480 dL_law_481 dL_law_482 (by decide) ?_
  refine ld_ (k := 2) F hL hS hl (by omega) dL_law_483 dL_law_484 dL_law_485 dL_law_486 dL_law_487 (by decide) ?_
  refine ld_ (k := 3) F hL hS hl (by omega) dL_law_488 dL_law_489 dL_law_490 dL_law_491 dL_law_492 (by decide) ?_
  refine pr_callV (As := [.int (xs (i + 1)), .int (xs (i + 2)), .int (xs (i + 3))]) (rest := [.long (aSetW σ (xs (i + 1)) (xs (i + 2)) (xs (i + 3)))]) ⟨hx, hb, hml, hown, hT⟩ (m_setW l G C d σ ρ (xs (i + 1)) (xs (i + 2)) (xs (i + 3))) (cwV 3 hT gL_law_X4_setDeduction rfl rfl rfl (by decide +kernel) ⟨Nat.le_of_ble_eq_true rfl, Nat.le_of_ble_eq_true rfl⟩) hK hN hPM hDM hS hA hP ((hJ _ _ _ _).flip) 0 4 wM_e0 rfl rfl rfl hl.1 rfl (Nat.le_of_ble_eq_true rfl) dL_law_493 ⟨Nat.le_refl _, Nat.le_refl _⟩ (fun v_ w1 H locs hw hPM hDM hS hP => ?_)
  obtain ⟨rfl, ρ, rfl⟩ := hw
  exact end_ F dL_law_496 dL_law_497 (by decide) (K _ _ _ ⟨inv_setW hI _ _ _, hS, κ, ρ, hP, hPM, hD, hDM⟩)
set_option maxHeartbeats 4000000 in
set_option maxRecDepth 100000 in
theorem k_13 (F : LF p s m meth c b L xs G tG C a d) (hL : L ≤ 2048) {σ : SG} {H : Heap} {locs : List Loc} {ls : Array Slot} {i : Nat} (hB : BOTH G C a d s σ H locs) (hl : lv_has ls 4 [(0, .ref b), (1, .ref (a 0)), (2, .ref (d 0)), (3, .int (nI i))]) (hi : i + 3 < L) (K : ∀ (σ : SG) (H : Heap) (locs : List Loc), BOTH G C a d s σ H locs → LW p l e s m b below meth c H locs 872 ls []) : LW p l e s m b below meth c H locs 502 ls [] := by
  obtain ⟨hx, hb, hml, hown, hT, hK, hN, hZ, hJ⟩ := F.use
  obtain ⟨hI, hS, κ, ρ, hP, hPM, hD, hDM⟩ := hB
  have hA : ∀ q : Nat, s.heap.size ≤ q → (fun q : Nat => s.heap.size ≤ q) q := fun _ h => h
  refine lv_aload_n hx hb dL_law_502 rfl (lv_at hl 1 rfl) ?_
  refine ld_ (k := 1) F hL hS hl (by omega) dL_law_503 dL_law_504 dL_law_505 dL_law_506 dL_law_507 (by decide) ?_
  refine rd_callV (As := [.int (xs (i + 1))]) (rest := []) ⟨hx, hb, hml, hown, hT⟩ (c_trim l G C a σ κ (xs (i + 1))) (cwV 1 hT gL_law_X3_trim rfl rfl rfl (by decide +kernel) ⟨Nat.le_of_ble_eq_true rfl, Nat.le_of_ble_eq_true rfl⟩) hK hN hP 0 3 wX_e0 rfl rfl rfl hl.1 rfl (Nat.le_of_ble_eq_true rfl) dL_law_508 ⟨Nat.le_refl _, Nat.le_refl _⟩ ?_
  refine lv_aload_n hx hb dL_law_511 rfl (lv_at hl 2 rfl) ?_
  refine ld_ (k := 1) F hL hS hl (by omega) dL_law_512 dL_law_513 dL_law_514 dL_law_515 dL_law_516 (by decide) ?_
  refine rd_callV (As := [.int (xs (i + 1))]) (rest := [.long (aTrim σ (xs (i + 1)))]) ⟨hx, hb, hml, hown, hT⟩ (m_trim l G C d σ ρ hI (xs (i + 1))) (cwV 1 hT gL_law_X4_trim rfl rfl rfl (by decide +kernel) ⟨Nat.le_of_ble_eq_true rfl, Nat.le_of_ble_eq_true rfl⟩) hK hN hPM 0 4 wM_e0 rfl rfl rfl hl.1 rfl (Nat.le_of_ble_eq_true rfl) dL_law_517 ⟨Nat.le_refl _, Nat.le_refl _⟩ ?_
  exact end_ F dL_law_520 dL_law_521 (by decide) (K _ _ _ ⟨hI, hS, κ, ρ, hP, hPM, hD, hDM⟩)
set_option maxHeartbeats 4000000 in
set_option maxRecDepth 100000 in
theorem k_14 (F : LF p s m meth c b L xs G tG C a d) (hL : L ≤ 2048) {σ : SG} {H : Heap} {locs : List Loc} {ls : Array Slot} {i : Nat} (hB : BOTH G C a d s σ H locs) (hl : lv_has ls 4 [(0, .ref b), (1, .ref (a 0)), (2, .ref (d 0)), (3, .int (nI i))]) (hi : i + 3 < L) (K : ∀ (σ : SG) (H : Heap) (locs : List Loc), BOTH G C a d s σ H locs → LW p l e s m b below meth c H locs 872 ls []) : LW p l e s m b below meth c H locs 526 ls [] := by
  obtain ⟨hx, hb, hml, hown, hT, hK, hN, hZ, hJ⟩ := F.use
  obtain ⟨hI, hS, κ, ρ, hP, hPM, hD, hDM⟩ := hB
  have hA : ∀ q : Nat, s.heap.size ≤ q → (fun q : Nat => s.heap.size ≤ q) q := fun _ h => h
  refine lv_aload_n hx hb dL_law_526 rfl (lv_at hl 1 rfl) ?_
  refine ld_ (k := 1) F hL hS hl (by omega) dL_law_527 dL_law_528 dL_law_529 dL_law_530 dL_law_531 (by decide) ?_
  refine rd_callV (As := [.int (xs (i + 1))]) (rest := []) ⟨hx, hb, hml, hown, hT⟩ (c_defl l G C a σ κ (xs (i + 1))) (cwV 1 hT gL_law_X3_deflection rfl rfl rfl (by decide +kernel) ⟨Nat.le_of_ble_eq_true rfl, Nat.le_of_ble_eq_true rfl⟩) hK hN hP 0 3 wX_e0 rfl rfl rfl hl.1 rfl (Nat.le_of_ble_eq_true rfl) dL_law_532 ⟨Nat.le_refl _, Nat.le_refl _⟩ ?_
  refine lv_aload_n hx hb dL_law_535 rfl (lv_at hl 2 rfl) ?_
  refine ld_ (k := 1) F hL hS hl (by omega) dL_law_536 dL_law_537 dL_law_538 dL_law_539 dL_law_540 (by decide) ?_
  refine rd_callV (As := [.int (xs (i + 1))]) (rest := [.long (aDefl σ (xs (i + 1)))]) ⟨hx, hb, hml, hown, hT⟩ (m_defl l G C d σ ρ hI (xs (i + 1))) (cwV 1 hT gL_law_X4_deflection rfl rfl rfl (by decide +kernel) ⟨Nat.le_of_ble_eq_true rfl, Nat.le_of_ble_eq_true rfl⟩) hK hN hPM 0 4 wM_e0 rfl rfl rfl hl.1 rfl (Nat.le_of_ble_eq_true rfl) dL_law_541 ⟨Nat.le_refl _, Nat.le_refl _⟩ ?_
  exact end_ F dL_law_544 dL_law_545 (by decide) (K _ _ _ ⟨hI, hS, κ, ρ, hP, hPM, hD, hDM⟩)
set_option maxHeartbeats 4000000 in
set_option maxRecDepth 100000 in
theorem k_15 (F : LF p s m meth c b L xs G tG C a d) (hL : L ≤ 2048) {σ : SG} {H : Heap} {locs : List Loc} {ls : Array Slot} {i : Nat} (hB : BOTH G C a d s σ H locs) (hl : lv_has ls 4 [(0, .ref b), (1, .ref (a 0)), (2, .ref (d 0)), (3, .int (nI i))]) (hi : i + 3 < L) (K : ∀ (σ : SG) (H : Heap) (locs : List Loc), BOTH G C a d s σ H locs → LW p l e s m b below meth c H locs 872 ls []) : LW p l e s m b below meth c H locs 550 ls [] := by
  obtain ⟨hx, hb, hml, hown, hT, hK, hN, hZ, hJ⟩ := F.use
  obtain ⟨hI, hS, κ, ρ, hP, hPM, hD, hDM⟩ := hB
  have hA : ∀ q : Nat, s.heap.size ≤ q → (fun q : Nat => s.heap.size ≤ q) q := fun _ h => h
  refine lv_aload_n hx hb dL_law_550 rfl (lv_at hl 1 rfl) ?_
  refine ld_ (k := 1) F hL hS hl (by omega) dL_law_551 dL_law_552 dL_law_553 dL_law_554 dL_law_555 (by decide) ?_
  refine rd_callV (As := [.int (xs (i + 1))]) (rest := []) ⟨hx, hb, hml, hown, hT⟩ (c_heel l G C a σ κ (xs (i + 1))) (cwV 1 hT gL_law_X3_heel rfl rfl rfl (by decide +kernel) ⟨Nat.le_of_ble_eq_true rfl, Nat.le_of_ble_eq_true rfl⟩) hK hN hP 0 3 wX_e0 rfl rfl rfl hl.1 rfl (Nat.le_of_ble_eq_true rfl) dL_law_556 ⟨Nat.le_refl _, Nat.le_refl _⟩ ?_
  refine lv_aload_n hx hb dL_law_559 rfl (lv_at hl 2 rfl) ?_
  refine ld_ (k := 1) F hL hS hl (by omega) dL_law_560 dL_law_561 dL_law_562 dL_law_563 dL_law_564 (by decide) ?_
  refine rd_callV (As := [.int (xs (i + 1))]) (rest := [.long (aHeel σ (xs (i + 1)))]) ⟨hx, hb, hml, hown, hT⟩ (m_heel l G C d σ ρ hI (xs (i + 1))) (cwV 1 hT gL_law_X4_heel rfl rfl rfl (by decide +kernel) ⟨Nat.le_of_ble_eq_true rfl, Nat.le_of_ble_eq_true rfl⟩) hK hN hPM 0 4 wM_e0 rfl rfl rfl hl.1 rfl (Nat.le_of_ble_eq_true rfl) dL_law_565 ⟨Nat.le_refl _, Nat.le_refl _⟩ ?_
  exact end_ F dL_law_568 dL_law_569 (by decide) (K _ _ _ ⟨hI, hS, κ, ρ, hP, hPM, hD, hDM⟩)
set_option maxHeartbeats 4000000 in
set_option maxRecDepth 100000 in
theorem k_16 (F : LF p s m meth c b L xs G tG C a d) (hL : L ≤ 2048) {σ : SG} {H : Heap} {locs : List Loc} {ls : Array Slot} {i : Nat} (hB : BOTH G C a d s σ H locs) (hl : lv_has ls 4 [(0, .ref b), (1, .ref (a 0)), (2, .ref (d 0)), (3, .int (nI i))]) (hi : i + 3 < L) (K : ∀ (σ : SG) (H : Heap) (locs : List Loc), BOTH G C a d s σ H locs → LW p l e s m b below meth c H locs 872 ls []) : LW p l e s m b below meth c H locs 574 ls [] := by
  obtain ⟨hx, hb, hml, hown, hT, hK, hN, hZ, hJ⟩ := F.use
  obtain ⟨hI, hS, κ, ρ, hP, hPM, hD, hDM⟩ := hB
  have hA : ∀ q : Nat, s.heap.size ≤ q → (fun q : Nat => s.heap.size ≤ q) q := fun _ h => h
  refine lv_aload_n hx hb dL_law_574 rfl (lv_at hl 1 rfl) ?_
  refine ld_ (k := 1) F hL hS hl (by omega) dL_law_575 dL_law_576 dL_law_577 dL_law_578 dL_law_579 (by decide) ?_
  refine rd_callV (As := [.int (xs (i + 1))]) (rest := []) ⟨hx, hb, hml, hown, hT⟩ (c_quar l G C a σ κ (xs (i + 1))) (cwV 1 hT gL_law_X3_quarterMean rfl rfl rfl (by decide +kernel) ⟨Nat.le_of_ble_eq_true rfl, Nat.le_of_ble_eq_true rfl⟩) hK hN hP 0 3 wX_e0 rfl rfl rfl hl.1 rfl (Nat.le_of_ble_eq_true rfl) dL_law_580 ⟨Nat.le_refl _, Nat.le_refl _⟩ ?_
  refine lv_aload_n hx hb dL_law_583 rfl (lv_at hl 2 rfl) ?_
  refine ld_ (k := 1) F hL hS hl (by omega) dL_law_584 dL_law_585 dL_law_586 dL_law_587 dL_law_588 (by decide) ?_
  refine rd_callV (As := [.int (xs (i + 1))]) (rest := [.long (aQuar σ (xs (i + 1)))]) ⟨hx, hb, hml, hown, hT⟩ (m_quar l G C d σ ρ hI (xs (i + 1))) (cwV 1 hT gL_law_X4_quarterMean rfl rfl rfl (by decide +kernel) ⟨Nat.le_of_ble_eq_true rfl, Nat.le_of_ble_eq_true rfl⟩) hK hN hPM 0 4 wM_e0 rfl rfl rfl hl.1 rfl (Nat.le_of_ble_eq_true rfl) dL_law_589 ⟨Nat.le_refl _, Nat.le_refl _⟩ ?_
  exact end_ F dL_law_592 dL_law_593 (by decide) (K _ _ _ ⟨hI, hS, κ, ρ, hP, hPM, hD, hDM⟩)
set_option maxHeartbeats 4000000 in
set_option maxRecDepth 100000 in
theorem k_17 (F : LF p s m meth c b L xs G tG C a d) (hL : L ≤ 2048) {σ : SG} {H : Heap} {locs : List Loc} {ls : Array Slot} {i : Nat} (hB : BOTH G C a d s σ H locs) (hl : lv_has ls 4 [(0, .ref b), (1, .ref (a 0)), (2, .ref (d 0)), (3, .int (nI i))]) (hi : i + 3 < L) (K : ∀ (σ : SG) (H : Heap) (locs : List Loc), BOTH G C a d s σ H locs → LW p l e s m b below meth c H locs 872 ls []) : LW p l e s m b below meth c H locs 598 ls [] := by
  obtain ⟨hx, hb, hml, hown, hT, hK, hN, hZ, hJ⟩ := F.use
  obtain ⟨hI, hS, κ, ρ, hP, hPM, hD, hDM⟩ := hB
  have hA : ∀ q : Nat, s.heap.size ≤ q → (fun q : Nat => s.heap.size ≤ q) q := fun _ h => h
  refine lv_aload_n hx hb dL_law_598 rfl (lv_at hl 1 rfl) ?_
  refine ld_ (k := 1) F hL hS hl (by omega) dL_law_599 dL_law_600 dL_law_601 dL_law_602 dL_law_603 (by decide) ?_
  refine rd_callV (As := [.int (xs (i + 1))]) (rest := []) ⟨hx, hb, hml, hown, hT⟩ (c_first1 l G C a σ κ hI.2.1 (xs (i + 1))) (cwV 1 hT gL_law_X3_firstCorrection rfl rfl rfl (by decide +kernel) ⟨Nat.le_of_ble_eq_true rfl, Nat.le_of_ble_eq_true rfl⟩) hK hN hP 0 3 wX_e0 rfl rfl rfl hl.1 rfl (Nat.le_of_ble_eq_true rfl) dL_law_604 ⟨Nat.le_refl _, Nat.le_refl _⟩ ?_
  refine lv_aload_n hx hb dL_law_607 rfl (lv_at hl 2 rfl) ?_
  refine ld_ (k := 1) F hL hS hl (by omega) dL_law_608 dL_law_609 dL_law_610 dL_law_611 dL_law_612 (by decide) ?_
  refine rd_callV (As := [.int (xs (i + 1))]) (rest := [.long (aFirst σ (xs (i + 1)))]) ⟨hx, hb, hml, hown, hT⟩ (m_first1 l G C d σ ρ hI (xs (i + 1))) (cwV 1 hT gL_law_X4_firstCorrection rfl rfl rfl (by decide +kernel) ⟨Nat.le_of_ble_eq_true rfl, Nat.le_of_ble_eq_true rfl⟩) hK hN hPM 0 4 wM_e0 rfl rfl rfl hl.1 rfl (Nat.le_of_ble_eq_true rfl) dL_law_613 ⟨Nat.le_refl _, Nat.le_refl _⟩ ?_
  exact end_ F dL_law_616 dL_law_617 (by decide) (K _ _ _ ⟨hI, hS, κ, ρ, hP, hPM, hD, hDM⟩)
set_option maxHeartbeats 4000000 in
set_option maxRecDepth 100000 in
theorem k_18 (F : LF p s m meth c b L xs G tG C a d) (hL : L ≤ 2048) {σ : SG} {H : Heap} {locs : List Loc} {ls : Array Slot} {i : Nat} (hB : BOTH G C a d s σ H locs) (hl : lv_has ls 4 [(0, .ref b), (1, .ref (a 0)), (2, .ref (d 0)), (3, .int (nI i))]) (hi : i + 3 < L) (K : ∀ (σ : SG) (H : Heap) (locs : List Loc), BOTH G C a d s σ H locs → LW p l e s m b below meth c H locs 872 ls []) : LW p l e s m b below meth c H locs 622 ls [] := by
  obtain ⟨hx, hb, hml, hown, hT, hK, hN, hZ, hJ⟩ := F.use
  obtain ⟨hI, hS, κ, ρ, hP, hPM, hD, hDM⟩ := hB
  have hA : ∀ q : Nat, s.heap.size ≤ q → (fun q : Nat => s.heap.size ≤ q) q := fun _ h => h
  refine lv_aload_n hx hb dL_law_622 rfl (lv_at hl 1 rfl) ?_
  refine ld_ (k := 1) F hL hS hl (by omega) dL_law_623 dL_law_624 dL_law_625 dL_law_626 dL_law_627 (by decide) ?_
  refine rd_callV (As := [.int (xs (i + 1))]) (rest := []) ⟨hx, hb, hml, hown, hT⟩ (c_second1 l G C a σ κ hI.2.1 (xs (i + 1))) (cwV 1 hT gL_law_X3_secondCorrection rfl rfl rfl (by decide +kernel) ⟨Nat.le_of_ble_eq_true rfl, Nat.le_of_ble_eq_true rfl⟩) hK hN hP 0 3 wX_e0 rfl rfl rfl hl.1 rfl (Nat.le_of_ble_eq_true rfl) dL_law_628 ⟨Nat.le_refl _, Nat.le_refl _⟩ ?_
  refine lv_aload_n hx hb dL_law_631 rfl (lv_at hl 2 rfl) ?_
  refine ld_ (k := 1) F hL hS hl (by omega) dL_law_632 dL_law_633 dL_law_634 dL_law_635 dL_law_636 (by decide) ?_
  refine rd_callV (As := [.int (xs (i + 1))]) (rest := [.long (aSecond σ (xs (i + 1)))]) ⟨hx, hb, hml, hown, hT⟩ (m_second1 l G C d σ ρ hI (xs (i + 1))) (cwV 1 hT gL_law_X4_secondCorrection rfl rfl rfl (by decide +kernel) ⟨Nat.le_of_ble_eq_true rfl, Nat.le_of_ble_eq_true rfl⟩) hK hN hPM 0 4 wM_e0 rfl rfl rfl hl.1 rfl (Nat.le_of_ble_eq_true rfl) dL_law_637 ⟨Nat.le_refl _, Nat.le_refl _⟩ ?_
  exact end_ F dL_law_640 dL_law_641 (by decide) (K _ _ _ ⟨hI, hS, κ, ρ, hP, hPM, hD, hDM⟩)
set_option maxHeartbeats 4000000 in
set_option maxRecDepth 100000 in
theorem k_19 (F : LF p s m meth c b L xs G tG C a d) (hL : L ≤ 2048) {σ : SG} {H : Heap} {locs : List Loc} {ls : Array Slot} {i : Nat} (hB : BOTH G C a d s σ H locs) (hl : lv_has ls 4 [(0, .ref b), (1, .ref (a 0)), (2, .ref (d 0)), (3, .int (nI i))]) (hi : i + 3 < L) (K : ∀ (σ : SG) (H : Heap) (locs : List Loc), BOTH G C a d s σ H locs → LW p l e s m b below meth c H locs 872 ls []) : LW p l e s m b below meth c H locs 646 ls [] := by
  obtain ⟨hx, hb, hml, hown, hT, hK, hN, hZ, hJ⟩ := F.use
  obtain ⟨hI, hS, κ, ρ, hP, hPM, hD, hDM⟩ := hB
  have hA : ∀ q : Nat, s.heap.size ≤ q → (fun q : Nat => s.heap.size ≤ q) q := fun _ h => h
  refine lv_aload_n hx hb dL_law_646 rfl (lv_at hl 1 rfl) ?_
  refine ld_ (k := 1) F hL hS hl (by omega) dL_law_647 dL_law_648 dL_law_649 dL_law_650 dL_law_651 (by decide) ?_
  refine ld_ (k := 2) F hL hS hl (by omega) dL_law_652 dL_law_653 dL_law_654 dL_law_655 dL_law_656 (by decide) ?_
  refine rd_callV (As := [.int (xs (i + 1)), .int (xs (i + 2))]) (rest := []) ⟨hx, hb, hml, hown, hT⟩ (c_disp l G C a σ κ hI.2.1 (xs (i + 1)) (xs (i + 2))) (cwV 2 hT gL_law_X3_displacement rfl rfl rfl (by decide +kernel) ⟨Nat.le_of_ble_eq_true rfl, Nat.le_of_ble_eq_true rfl⟩) hK hN hP 0 3 wX_e0 rfl rfl rfl hl.1 rfl (Nat.le_of_ble_eq_true rfl) dL_law_657 ⟨Nat.le_refl _, Nat.le_refl _⟩ ?_
  refine lv_aload_n hx hb dL_law_660 rfl (lv_at hl 2 rfl) ?_
  refine ld_ (k := 1) F hL hS hl (by omega) dL_law_661 dL_law_662 dL_law_663 dL_law_664 dL_law_665 (by decide) ?_
  refine ld_ (k := 2) F hL hS hl (by omega) dL_law_666 dL_law_667 dL_law_668 dL_law_669 dL_law_670 (by decide) ?_
  refine rd_callV (As := [.int (xs (i + 1)), .int (xs (i + 2))]) (rest := [.long (aDisp σ (xs (i + 1)) (xs (i + 2)))]) ⟨hx, hb, hml, hown, hT⟩ (m_disp l G C d σ ρ hI (xs (i + 1)) (xs (i + 2))) (cwV 2 hT gL_law_X4_displacement rfl rfl rfl (by decide +kernel) ⟨Nat.le_of_ble_eq_true rfl, Nat.le_of_ble_eq_true rfl⟩) hK hN hPM 0 4 wM_e0 rfl rfl rfl hl.1 rfl (Nat.le_of_ble_eq_true rfl) dL_law_671 ⟨Nat.le_refl _, Nat.le_refl _⟩ ?_
  exact end_ F dL_law_674 dL_law_675 (by decide) (K _ _ _ ⟨hI, hS, κ, ρ, hP, hPM, hD, hDM⟩)
set_option maxHeartbeats 4000000 in
set_option maxRecDepth 100000 in
theorem k_20 (F : LF p s m meth c b L xs G tG C a d) (hL : L ≤ 2048) {σ : SG} {H : Heap} {locs : List Loc} {ls : Array Slot} {i : Nat} (hB : BOTH G C a d s σ H locs) (hl : lv_has ls 4 [(0, .ref b), (1, .ref (a 0)), (2, .ref (d 0)), (3, .int (nI i))]) (hi : i + 3 < L) (K : ∀ (σ : SG) (H : Heap) (locs : List Loc), BOTH G C a d s σ H locs → LW p l e s m b below meth c H locs 872 ls []) : LW p l e s m b below meth c H locs 680 ls [] := by
  obtain ⟨hx, hb, hml, hown, hT, hK, hN, hZ, hJ⟩ := F.use
  obtain ⟨hI, hS, κ, ρ, hP, hPM, hD, hDM⟩ := hB
  have hA : ∀ q : Nat, s.heap.size ≤ q → (fun q : Nat => s.heap.size ≤ q) q := fun _ h => h
  refine lv_aload_n hx hb dL_law_680 rfl (lv_at hl 1 rfl) ?_
  refine ld_ (k := 1) F hL hS hl (by omega) dL_law_681 dL_law_682 dL_law_683 dL_law_684 dL_law_685 (by decide) ?_
  refine rd_callV (As := [.int (xs (i + 1))]) (rest := []) ⟨hx, hb, hml, hown, hT⟩ (c_net1 l G C a σ κ hI.2.1 (xs (i + 1))) (cwV 1 hT gL_law_X3_netWeight rfl rfl rfl (by decide +kernel) ⟨Nat.le_of_ble_eq_true rfl, Nat.le_of_ble_eq_true rfl⟩) hK hN hP 0 3 wX_e0 rfl rfl rfl hl.1 rfl (Nat.le_of_ble_eq_true rfl) dL_law_686 ⟨Nat.le_refl _, Nat.le_refl _⟩ ?_
  refine lv_aload_n hx hb dL_law_689 rfl (lv_at hl 2 rfl) ?_
  refine ld_ (k := 1) F hL hS hl (by omega) dL_law_690 dL_law_691 dL_law_692 dL_law_693 dL_law_694 (by decide) ?_
  refine rd_callV (As := [.int (xs (i + 1))]) (rest := [.long (aNet σ (xs (i + 1)))]) ⟨hx, hb, hml, hown, hT⟩ (m_net1 l G C d σ ρ hI (xs (i + 1))) (cwV 1 hT gL_law_X4_netWeight rfl rfl rfl (by decide +kernel) ⟨Nat.le_of_ble_eq_true rfl, Nat.le_of_ble_eq_true rfl⟩) hK hN hPM 0 4 wM_e0 rfl rfl rfl hl.1 rfl (Nat.le_of_ble_eq_true rfl) dL_law_695 ⟨Nat.le_refl _, Nat.le_refl _⟩ ?_
  exact end_ F dL_law_698 dL_law_699 (by decide) (K _ _ _ ⟨hI, hS, κ, ρ, hP, hPM, hD, hDM⟩)
set_option maxHeartbeats 4000000 in
set_option maxRecDepth 100000 in
theorem k_21 (F : LF p s m meth c b L xs G tG C a d) (hL : L ≤ 2048) {σ : SG} {H : Heap} {locs : List Loc} {ls : Array Slot} {i : Nat} (hB : BOTH G C a d s σ H locs) (hl : lv_has ls 4 [(0, .ref b), (1, .ref (a 0)), (2, .ref (d 0)), (3, .int (nI i))]) (hi : i + 3 < L) (K : ∀ (σ : SG) (H : Heap) (locs : List Loc), BOTH G C a d s σ H locs → LW p l e s m b below meth c H locs 872 ls []) : LW p l e s m b below meth c H locs 704 ls [] := by
  obtain ⟨hx, hb, hml, hown, hT, hK, hN, hZ, hJ⟩ := F.use
  obtain ⟨hI, hS, κ, ρ, hP, hPM, hD, hDM⟩ := hB
  have hA : ∀ q : Nat, s.heap.size ≤ q → (fun q : Nat => s.heap.size ≤ q) q := fun _ h => h
  refine lv_aload_n hx hb dL_law_704 rfl (lv_at hl 1 rfl) ?_
  refine ld_ (k := 1) F hL hS hl (by omega) dL_law_705 dL_law_706 dL_law_707 dL_law_708 dL_law_709 (by decide) ?_
  refine ld_ (k := 2) F hL hS hl (by omega) dL_law_710 dL_law_711 dL_law_712 dL_law_713 dL_law_714 (by decide) ?_
  refine rd_callV (As := [.int (xs (i + 1)), .int (xs (i + 2))]) (rest := []) ⟨hx, hb, hml, hown, hT⟩ (c_cargo l G C a σ κ hI.2.1 (xs (i + 1)) (xs (i + 2))) (cwV 2 hT gL_law_X3_cargo rfl rfl rfl (by decide +kernel) ⟨Nat.le_of_ble_eq_true rfl, Nat.le_of_ble_eq_true rfl⟩) hK hN hP 0 3 wX_e0 rfl rfl rfl hl.1 rfl (Nat.le_of_ble_eq_true rfl) dL_law_715 ⟨Nat.le_refl _, Nat.le_refl _⟩ ?_
  refine lv_aload_n hx hb dL_law_718 rfl (lv_at hl 2 rfl) ?_
  refine ld_ (k := 1) F hL hS hl (by omega) dL_law_719 dL_law_720 dL_law_721 dL_law_722 dL_law_723 (by decide) ?_
  refine ld_ (k := 2) F hL hS hl (by omega) dL_law_724 dL_law_725 dL_law_726 dL_law_727 dL_law_728 (by decide) ?_
  refine rd_callV (As := [.int (xs (i + 1)), .int (xs (i + 2))]) (rest := [.long (aCargo σ (xs (i + 1)) (xs (i + 2)))]) ⟨hx, hb, hml, hown, hT⟩ (m_cargo l G C d σ ρ hI (xs (i + 1)) (xs (i + 2))) (cwV 2 hT gL_law_X4_cargo rfl rfl rfl (by decide +kernel) ⟨Nat.le_of_ble_eq_true rfl, Nat.le_of_ble_eq_true rfl⟩) hK hN hPM 0 4 wM_e0 rfl rfl rfl hl.1 rfl (Nat.le_of_ble_eq_true rfl) dL_law_729 ⟨Nat.le_refl _, Nat.le_refl _⟩ ?_
  exact end_ F dL_law_732 dL_law_733 (by decide) (K _ _ _ ⟨hI, hS, κ, ρ, hP, hPM, hD, hDM⟩)
set_option maxHeartbeats 4000000 in
set_option maxRecDepth 100000 in
theorem k_22 (F : LF p s m meth c b L xs G tG C a d) (hL : L ≤ 2048) {σ : SG} {H : Heap} {locs : List Loc} {ls : Array Slot} {i : Nat} (hB : BOTH G C a d s σ H locs) (hl : lv_has ls 4 [(0, .ref b), (1, .ref (a 0)), (2, .ref (d 0)), (3, .int (nI i))]) (hi : i + 3 < L) (K : ∀ (σ : SG) (H : Heap) (locs : List Loc), BOTH G C a d s σ H locs → LW p l e s m b below meth c H locs 872 ls []) : LW p l e s m b below meth c H locs 738 ls [] := by
  obtain ⟨hx, hb, hml, hown, hT, hK, hN, hZ, hJ⟩ := F.use
  obtain ⟨hI, hS, κ, ρ, hP, hPM, hD, hDM⟩ := hB
  have hA : ∀ q : Nat, s.heap.size ≤ q → (fun q : Nat => s.heap.size ≤ q) q := fun _ h => h
  refine lv_aload_n hx hb dL_law_738 rfl (lv_at hl 1 rfl) ?_
  refine ld_ (k := 1) F hL hS hl (by omega) dL_law_739 dL_law_740 dL_law_741 dL_law_742 dL_law_743 (by decide) ?_
  refine ld_ (k := 2) F hL hS hl (by omega) dL_law_744 dL_law_745 dL_law_746 dL_law_747 dL_law_748 (by decide) ?_
  refine rd_callV (As := [.int (xs (i + 1)), .int (xs (i + 2))]) (rest := []) ⟨hx, hb, hml, hown, hT⟩ (c_low l G C a σ κ hI.2.1 (xs (i + 1)) (xs (i + 2))) (cwV 2 hT gL_law_X3_cargoLow rfl rfl rfl (by decide +kernel) ⟨Nat.le_of_ble_eq_true rfl, Nat.le_of_ble_eq_true rfl⟩) hK hN hP 0 3 wX_e0 rfl rfl rfl hl.1 rfl (Nat.le_of_ble_eq_true rfl) dL_law_749 ⟨Nat.le_refl _, Nat.le_refl _⟩ ?_
  refine lv_aload_n hx hb dL_law_752 rfl (lv_at hl 2 rfl) ?_
  refine ld_ (k := 1) F hL hS hl (by omega) dL_law_753 dL_law_754 dL_law_755 dL_law_756 dL_law_757 (by decide) ?_
  refine ld_ (k := 2) F hL hS hl (by omega) dL_law_758 dL_law_759 dL_law_760 dL_law_761 dL_law_762 (by decide) ?_
  refine rd_callV (As := [.int (xs (i + 1)), .int (xs (i + 2))]) (rest := [.long (aLow σ (xs (i + 1)) (xs (i + 2)))]) ⟨hx, hb, hml, hown, hT⟩ (m_low l G C d σ ρ hI (xs (i + 1)) (xs (i + 2))) (cwV 2 hT gL_law_X4_cargoLow rfl rfl rfl (by decide +kernel) ⟨Nat.le_of_ble_eq_true rfl, Nat.le_of_ble_eq_true rfl⟩) hK hN hPM 0 4 wM_e0 rfl rfl rfl hl.1 rfl (Nat.le_of_ble_eq_true rfl) dL_law_763 ⟨Nat.le_refl _, Nat.le_refl _⟩ ?_
  exact end_ F dL_law_766 dL_law_767 (by decide) (K _ _ _ ⟨hI, hS, κ, ρ, hP, hPM, hD, hDM⟩)
set_option maxHeartbeats 4000000 in
set_option maxRecDepth 100000 in
theorem k_23 (F : LF p s m meth c b L xs G tG C a d) (hL : L ≤ 2048) {σ : SG} {H : Heap} {locs : List Loc} {ls : Array Slot} {i : Nat} (hB : BOTH G C a d s σ H locs) (hl : lv_has ls 4 [(0, .ref b), (1, .ref (a 0)), (2, .ref (d 0)), (3, .int (nI i))]) (hi : i + 3 < L) (K : ∀ (σ : SG) (H : Heap) (locs : List Loc), BOTH G C a d s σ H locs → LW p l e s m b below meth c H locs 872 ls []) : LW p l e s m b below meth c H locs 772 ls [] := by
  obtain ⟨hx, hb, hml, hown, hT, hK, hN, hZ, hJ⟩ := F.use
  obtain ⟨hI, hS, κ, ρ, hP, hPM, hD, hDM⟩ := hB
  have hA : ∀ q : Nat, s.heap.size ≤ q → (fun q : Nat => s.heap.size ≤ q) q := fun _ h => h
  refine lv_aload_n hx hb dL_law_772 rfl (lv_at hl 1 rfl) ?_
  refine ld_ (k := 1) F hL hS hl (by omega) dL_law_773 dL_law_774 dL_law_775 dL_law_776 dL_law_777 (by decide) ?_
  refine ld_ (k := 2) F hL hS hl (by omega) dL_law_778 dL_law_779 dL_law_780 dL_law_781 dL_law_782 (by decide) ?_
  refine rd_callV (As := [.int (xs (i + 1)), .int (xs (i + 2))]) (rest := []) ⟨hx, hb, hml, hown, hT⟩ (c_high l G C a σ κ hI.2.1 (xs (i + 1)) (xs (i + 2))) (cwV 2 hT gL_law_X3_cargoHigh rfl rfl rfl (by decide +kernel) ⟨Nat.le_of_ble_eq_true rfl, Nat.le_of_ble_eq_true rfl⟩) hK hN hP 0 3 wX_e0 rfl rfl rfl hl.1 rfl (Nat.le_of_ble_eq_true rfl) dL_law_783 ⟨Nat.le_refl _, Nat.le_refl _⟩ ?_
  refine lv_aload_n hx hb dL_law_786 rfl (lv_at hl 2 rfl) ?_
  refine ld_ (k := 1) F hL hS hl (by omega) dL_law_787 dL_law_788 dL_law_789 dL_law_790 dL_law_791 (by decide) ?_
  refine ld_ (k := 2) F hL hS hl (by omega) dL_law_792 dL_law_793 dL_law_794 dL_law_795 dL_law_796 (by decide) ?_
  refine rd_callV (As := [.int (xs (i + 1)), .int (xs (i + 2))]) (rest := [.long (aHigh σ (xs (i + 1)) (xs (i + 2)))]) ⟨hx, hb, hml, hown, hT⟩ (m_high l G C d σ ρ hI (xs (i + 1)) (xs (i + 2))) (cwV 2 hT gL_law_X4_cargoHigh rfl rfl rfl (by decide +kernel) ⟨Nat.le_of_ble_eq_true rfl, Nat.le_of_ble_eq_true rfl⟩) hK hN hPM 0 4 wM_e0 rfl rfl rfl hl.1 rfl (Nat.le_of_ble_eq_true rfl) dL_law_797 ⟨Nat.le_refl _, Nat.le_refl _⟩ ?_
  exact end_ F dL_law_800 dL_law_801 (by decide) (K _ _ _ ⟨hI, hS, κ, ρ, hP, hPM, hD, hDM⟩)
set_option maxHeartbeats 4000000 in
set_option maxRecDepth 100000 in
theorem k_24 (F : LF p s m meth c b L xs G tG C a d) (hL : L ≤ 2048) {σ : SG} {H : Heap} {locs : List Loc} {ls : Array Slot} {i : Nat} (hB : BOTH G C a d s σ H locs) (hl : lv_has ls 4 [(0, .ref b), (1, .ref (a 0)), (2, .ref (d 0)), (3, .int (nI i))]) (hi : i + 3 < L) (K : ∀ (σ : SG) (H : Heap) (locs : List Loc), BOTH G C a d s σ H locs → LW p l e s m b below meth c H locs 872 ls []) : LW p l e s m b below meth c H locs 806 ls [] := by
  obtain ⟨hx, hb, hml, hown, hT, hK, hN, hZ, hJ⟩ := F.use
  obtain ⟨hI, hS, κ, ρ, hP, hPM, hD, hDM⟩ := hB
  have hA : ∀ q : Nat, s.heap.size ≤ q → (fun q : Nat => s.heap.size ≤ q) q := fun _ h => h
  refine lv_aload_n hx hb dL_law_806 rfl (lv_at hl 1 rfl) ?_
  refine ld_ (k := 1) F hL hS hl (by omega) dL_law_807 dL_law_808 dL_law_809 dL_law_810 dL_law_811 (by decide) ?_
  refine rd_callV (As := [.int (xs (i + 1))]) (rest := []) ⟨hx, hb, hml, hown, hT⟩ (c_draftFor l G C a σ κ hI.2.1 (xs (i + 1))) (cwV 1 hT gL_law_X3_draftFor rfl rfl rfl (by decide +kernel) ⟨Nat.le_of_ble_eq_true rfl, Nat.le_of_ble_eq_true rfl⟩) hK hN hP 0 3 wX_e0 rfl rfl rfl hl.1 rfl (Nat.le_of_ble_eq_true rfl) dL_law_812 ⟨Nat.le_refl _, Nat.le_refl _⟩ ?_
  refine lv_aload_n hx hb dL_law_815 rfl (lv_at hl 2 rfl) ?_
  refine ld_ (k := 1) F hL hS hl (by omega) dL_law_816 dL_law_817 dL_law_818 dL_law_819 dL_law_820 (by decide) ?_
  refine rd_callV (As := [.int (xs (i + 1))]) (rest := [.long (aDraftFor σ (xs (i + 1)))]) ⟨hx, hb, hml, hown, hT⟩ (m_draftFor l G C d σ ρ hI (xs (i + 1))) (cwV 1 hT gL_law_X4_draftFor rfl rfl rfl (by decide +kernel) ⟨Nat.le_of_ble_eq_true rfl, Nat.le_of_ble_eq_true rfl⟩) hK hN hPM 0 4 wM_e0 rfl rfl rfl hl.1 rfl (Nat.le_of_ble_eq_true rfl) dL_law_821 ⟨Nat.le_refl _, Nat.le_refl _⟩ ?_
  exact end_ F dL_law_824 dL_law_825 (by decide) (K _ _ _ ⟨hI, hS, κ, ρ, hP, hPM, hD, hDM⟩)
set_option maxHeartbeats 4000000 in
set_option maxRecDepth 100000 in
theorem k_25 (F : LF p s m meth c b L xs G tG C a d) (hL : L ≤ 2048) {σ : SG} {H : Heap} {locs : List Loc} {ls : Array Slot} {i : Nat} (hB : BOTH G C a d s σ H locs) (hl : lv_has ls 4 [(0, .ref b), (1, .ref (a 0)), (2, .ref (d 0)), (3, .int (nI i))]) (hi : i + 3 < L) (K : ∀ (σ : SG) (H : Heap) (locs : List Loc), BOTH G C a d s σ H locs → LW p l e s m b below meth c H locs 872 ls []) : LW p l e s m b below meth c H locs 830 ls [] := by
  obtain ⟨hx, hb, hml, hown, hT, hK, hN, hZ, hJ⟩ := F.use
  obtain ⟨hI, hS, κ, ρ, hP, hPM, hD, hDM⟩ := hB
  have hA : ∀ q : Nat, s.heap.size ≤ q → (fun q : Nat => s.heap.size ≤ q) q := fun _ h => h
  refine lv_aload_n hx hb dL_law_830 rfl (lv_at hl 1 rfl) ?_
  refine rd_callV (As := []) (rest := []) ⟨hx, hb, hml, hown, hT⟩ (c_best l G C a σ κ hI.2.1) (cwV 0 hT gL_law_X3_heaviest rfl rfl rfl (by decide +kernel) ⟨Nat.le_of_ble_eq_true rfl, Nat.le_of_ble_eq_true rfl⟩) hK hN hP 0 3 wX_e0 rfl rfl rfl hl.1 rfl (Nat.le_of_ble_eq_true rfl) dL_law_831 ⟨Nat.le_refl _, Nat.le_refl _⟩ ?_
  refine lv_aload_n hx hb dL_law_834 rfl (lv_at hl 2 rfl) ?_
  refine rd_callV (As := []) (rest := [.long (aHeaviest σ)]) ⟨hx, hb, hml, hown, hT⟩ (m_best1 l G C d σ ρ hI) (cwV 0 hT gL_law_X4_heaviest rfl rfl rfl (by decide +kernel) ⟨Nat.le_of_ble_eq_true rfl, Nat.le_of_ble_eq_true rfl⟩) hK hN hPM 0 4 wM_e0 rfl rfl rfl hl.1 rfl (Nat.le_of_ble_eq_true rfl) dL_law_835 ⟨Nat.le_refl _, Nat.le_refl _⟩ ?_
  exact end_ F dL_law_838 dL_law_839 (by decide) (K _ _ _ ⟨hI, hS, κ, ρ, hP, hPM, hD, hDM⟩)
set_option maxHeartbeats 4000000 in
set_option maxRecDepth 100000 in
theorem k_26 (F : LF p s m meth c b L xs G tG C a d) (hL : L ≤ 2048) {σ : SG} {H : Heap} {locs : List Loc} {ls : Array Slot} {i : Nat} (hB : BOTH G C a d s σ H locs) (hl : lv_has ls 4 [(0, .ref b), (1, .ref (a 0)), (2, .ref (d 0)), (3, .int (nI i))]) (hi : i + 3 < L) (K : ∀ (σ : SG) (H : Heap) (locs : List Loc), BOTH G C a d s σ H locs → LW p l e s m b below meth c H locs 872 ls []) : LW p l e s m b below meth c H locs 844 ls [] := by
  obtain ⟨hx, hb, hml, hown, hT, hK, hN, hZ, hJ⟩ := F.use
  obtain ⟨hI, hS, κ, ρ, hP, hPM, hD, hDM⟩ := hB
  have hA : ∀ q : Nat, s.heap.size ≤ q → (fun q : Nat => s.heap.size ≤ q) q := fun _ h => h
  refine lv_aload_n hx hb dL_law_844 rfl (lv_at hl 1 rfl) ?_
  refine rd_callV (As := []) (rest := []) ⟨hx, hb, hml, hown, hT⟩ (c_rowCount l G C a σ κ hI.2.1) (cwV 0 hT gL_law_X3_rowCount rfl rfl rfl (by decide +kernel) ⟨Nat.le_of_ble_eq_true rfl, Nat.le_of_ble_eq_true rfl⟩) hK hN hP 0 3 wX_e0 rfl rfl rfl hl.1 rfl (Nat.le_of_ble_eq_true rfl) dL_law_845 ⟨Nat.le_refl _, Nat.le_refl _⟩ ?_
  refine lv_aload_n hx hb dL_law_848 rfl (lv_at hl 2 rfl) ?_
  refine rd_callV (As := []) (rest := [.long (lN (g_n σ))]) ⟨hx, hb, hml, hown, hT⟩ (m_rowCount l G C d σ ρ hI.2.1) (cwV 0 hT gL_law_X4_rowCount rfl rfl rfl (by decide +kernel) ⟨Nat.le_of_ble_eq_true rfl, Nat.le_of_ble_eq_true rfl⟩) hK hN hPM 0 4 wM_e0 rfl rfl rfl hl.1 rfl (Nat.le_of_ble_eq_true rfl) dL_law_849 ⟨Nat.le_refl _, Nat.le_refl _⟩ ?_
  exact end_ F dL_law_852 dL_law_853 (by decide) (K _ _ _ ⟨hI, hS, κ, ρ, hP, hPM, hD, hDM⟩)
set_option maxHeartbeats 4000000 in
set_option maxRecDepth 100000 in
theorem k_27 (F : LF p s m meth c b L xs G tG C a d) (hL : L ≤ 2048) {σ : SG} {H : Heap} {locs : List Loc} {ls : Array Slot} {i : Nat} (hB : BOTH G C a d s σ H locs) (hl : lv_has ls 4 [(0, .ref b), (1, .ref (a 0)), (2, .ref (d 0)), (3, .int (nI i))]) (hi : i + 3 < L) (K : ∀ (σ : SG) (H : Heap) (locs : List Loc), BOTH G C a d s σ H locs → LW p l e s m b below meth c H locs 872 ls []) : LW p l e s m b below meth c H locs 858 ls [] := by
  obtain ⟨hx, hb, hml, hown, hT, hK, hN, hZ, hJ⟩ := F.use
  obtain ⟨hI, hS, κ, ρ, hP, hPM, hD, hDM⟩ := hB
  have hA : ∀ q : Nat, s.heap.size ≤ q → (fun q : Nat => s.heap.size ≤ q) q := fun _ h => h
  refine lv_aload_n hx hb dL_law_858 rfl (lv_at hl 1 rfl) ?_
  refine rd_callV (As := []) (rest := []) ⟨hx, hb, hml, hown, hT⟩ (c_digest l G C a σ κ hI.2.1 hI.1) (cwV 0 hT gL_law_X3_digest rfl rfl rfl (by decide +kernel) ⟨Nat.le_of_ble_eq_true rfl, Nat.le_of_ble_eq_true rfl⟩) hK hN hP 0 3 wX_e0 rfl rfl rfl hl.1 rfl (Nat.le_of_ble_eq_true rfl) dL_law_859 ⟨Nat.le_refl _, Nat.le_refl _⟩ ?_
  refine lv_aload_n hx hb dL_law_862 rfl (lv_at hl 2 rfl) ?_
  refine pr_callV (As := []) (rest := [.long (aDigest σ)]) ⟨hx, hb, hml, hown, hT⟩ (m_digest l G C d σ ρ hI) (cwV 0 hT gL_law_X4_digest rfl rfl rfl (by decide +kernel) ⟨Nat.le_of_ble_eq_true rfl, Nat.le_of_ble_eq_true rfl⟩) hK hN hPM hDM hS hA hP ((hJ _ _ _ _).flip) 0 4 wM_e0 rfl rfl rfl hl.1 rfl (Nat.le_of_ble_eq_true rfl) dL_law_863 ⟨Nat.le_refl _, Nat.le_refl _⟩ (fun v_ w1 H locs hw hPM hDM hS hP => ?_)
  obtain ⟨rfl, ρ, rfl⟩ := hw
  exact end_ F dL_law_866 dL_law_867 (by decide) (K _ _ _ ⟨hI, hS, κ, ρ, hP, hPM, hD, hDM⟩)
end CASES
