/-! Constructors: their contracts, their calls, their ends. -/
def NI (U : State) : Prop := va_AO "DraftSurvey$Survey" U ∧ va_Nw (.methodLinkNest RX3 19 yX0_init "DraftSurvey") U ∧ va_Nw (.methodLinkNest RX3 26 yX2_init "DraftSurvey") U ∧ va_Nw (.methodLinkNest RX3 37 yX1_init "DraftSurvey") U
theorem NI.warm {s U : State} (hW : s.WarmedH U.vm) (h : NI s) : NI U := ⟨va_AO.moved hW.alike h.1, va_Nw.warmM hW h.2.1, va_Nw.warmM hW h.2.2.1, va_Nw.warmM hW h.2.2.2⟩
theorem NI.same {s U : State} (e : s.vm = U.vm) (h : NI s) : NI U := ⟨va_AO.moved (by rw [e]; exact Vm.Alike.refl _) h.1, va_Nw.same rfl e h.2.1, va_Nw.same rfl e h.2.2.1, va_Nw.same rfl e h.2.2.2⟩
def PI_ (G : va_G) (w0 : va_W) (sz : Nat) (U : State) : Prop := U.heap.size = sz ∧ va_P G vwCl w0 U.heap ∧ va_K G vwCl [] U ∧ NI U ∧ va_D (fun _ => True) w0
def QI_ (G : va_G) (w0 : va_W) (sz : Nat) (post : va_W → List (ClassId × FieldType) → Prop) : Array Value → State → Outcome → State → Prop := fun _ st oc t => (∃ (w1 : va_W) (tys : List (ClassId × FieldType)), oc = .returned none ∧ post w1 tys ∧ va_P G vwCl w1 t.heap ∧ va_K G vwCl tys t ∧ va_D (va_A w0 sz) w1) ∧ va_F (va_A w0 sz) st t
def MkC (l : Launch) (y : MethodName) (ws : List Cond) (rm : Room) (G : va_G) (w0 : va_W) (As : List Value) (mc ms : Nat) (post : va_W → List (ClassId × FieldType) → Prop) : Prop := ∀ sz : Nat, Met l y ws rm (va_Pc As (PI_ G w0 sz)) (QI_ G w0 sz post) mc ms (va_A w0 sz)
theorem PI_blind {G : va_G} {w : va_W} {sz : Nat} {As : List Value} : FrameBlind (va_Pc As (PI_ G w sz)) := fun a U g mk q => by
  obtain ⟨q0, qz, qP, qK, qN, qD⟩ := q
  exact ⟨q0, qz, qP, va_K.moved (u := U) (U := U.calling g mk a) (Vm.Alike.refl U.vm) qK, NI.same (s := U) (U := U.calling g mk a) rfl qN, qD⟩
/-- two array classes of one component are one -/
theorem ra_l {G : va_G} {tys : List (ClassId × FieldType)} {U : State} (h : va_K G vwCl tys U) {i j : Nat} {c d : ClassId} (hi : tys[i]? = some (c, .long)) (hj : tys[j]? = some (d, .long)) : c = d := by
  have h1 : U.vm.findClass ("[" ++ (FieldType.long).toString) = some c := (h.2 i _ hi).2
  have h2 : U.vm.findClass ("[" ++ (FieldType.long).toString) = some d := (h.2 j _ hj).2
  exact Option.some.inj (h1.symm.trans h2)
theorem ra_i {G : va_G} {tys : List (ClassId × FieldType)} {U : State} (h : va_K G vwCl tys U) {i j : Nat} {c d : ClassId} (hi : tys[i]? = some (c, .int)) (hj : tys[j]? = some (d, .int)) : c = d := by
  have h1 : U.vm.findClass ("[" ++ (FieldType.int).toString) = some c := (h.2 i _ hi).2
  have h2 : U.vm.findClass ("[" ++ (FieldType.int).toString) = some d := (h.2 j _ hj).2
  exact Option.some.inj (h1.symm.trans h2)
section INIT
variable {p : Program} {l : Launch} {e : Env} {R : Room} {s : State} {m : MethodId} {args : Array Value} {below : List Frame} {meth : Method} {c : Code} {H : Heap} {locs : List Loc} {cells slots : Nat} {Q : State → Prop}
variable {y : MethodName} {bytes cc : ByteArray} {maxL nL n index mc ms : Nat} {ws : List Cond} {rm : Room} {Ts : List Cond} {own host : String} {b : Addr} {As rest st : List Value} {pc : Nat} {ls : Array Slot} {G : va_G} {tys : List (ClassId × FieldType)} {w w0 wr : va_W} {A0 : Nat → Prop} {H0 : Heap} {post : va_W → List (ClassId × FieldType) → Prop}
theorem mk_after (hr : va_Run p l e R s m args below meth c H locs cells slots mc ms (F0 m pc ls st) rest (QI_ G w0 H.size post (Value.ref b :: As).toArray) (va_A w0 H.size))
    (hK : va_K G vwCl tys s) (hP : va_P G vwCl w H) (hD : va_D A0 w) (hS : va_S A0 H0 H locs) (hA : ∀ q, H0.size ≤ q → A0 q) (isC isR : List Nat) (hC : isC.map (fun i => w[i]?) = w0.map some) (hR : isR.map (fun i => w[i]?) = wr.map some) (hn2 : va_nd isR = true) (hdis : ∀ i ∈ isR, i ∉ isC)
    (kk : ∀ (w1 : va_W) (tys1 : List (ClassId × FieldType)) (H1 : Heap) (locs1 : List Loc), post w1 tys1 → va_K G vwCl (tys ++ tys1) s → va_P G vwCl (wr ++ w1) H1 → va_D A0 (wr ++ w1) → va_S A0 H0 H1 locs1 → W p l e R s m args below meth c H1 locs1 (cells + mc) (slots + ms) Q (F0 m (pc + 3) ls rest)) : W p l e R s m args below meth c H locs cells slots Q (F0 m pc ls st) := by
  have hfree := va_free (wc := w0) hD hS hA isC hC
  intro T hT X
  obtain ⟨v, st₀, t, T', L, h0, X', hL, e1, e2, ⟨⟨w1, tys1, hv, hp, hp1, hk1, hd1⟩, hz, hk⟩, stp⟩ := hr T hT X
  cases hv
  rw [h0] at hz hk
  have hvm : s.vm.Alike t.vm := by rw [← e2]; exact X'.warmed.alike
  have hK1 : va_K G vwCl tys1 s := va_K.moved hvm.symm hk1
  obtain ⟨hP2, hD2⟩ := va_join (H1 := T'.heap) hP hD isC isR hC hR hn2 hdis (fun z h1 h2 => by rw [e1]; exact hk z h1 h2) hfree (by rw [e1]; exact hp1) hd1
  obtain ⟨t2, a1, b1⟩ := kk w1 tys1 T'.heap (locs ++ L) hp (hK.app hK1) hP2 hD2
    ⟨Nat.le_trans hS.1 (by rw [e1]; exact hz), fun z h1 h2 => by rw [e1, hk z (Nat.lt_of_lt_of_le h1 hS.1) (fun x => h2 (hfree z x))]; exact hS.2.1 z h1 h2, fun z hz => by
      rcases List.mem_append.mp hz with h | h
      · exact hS.2.2 z h
      · exact hfree _ (hL z h)⟩ T' rfl X'
  exact ⟨t2, stp t2 a1, b1⟩
theorem mk_callN (S : CallFix p m c cc nL s args Ts own) (hM : MkC l y ws rm G w0 (.ref b :: As) mc ms post) (cw : va_CN R s args own index y host bytes maxL none ws rm mc ms n ∧ y.name = "<init>" ∧ (Cond.instanceMethod y).before args s = true)
    (hK : va_K G vwCl tys s) (hNI : NI s) (hP : va_P G vwCl w H) (hD : va_D A0 w) (hS : va_S A0 H0 H locs) (hA : ∀ q, H0.size ≤ q → A0 q) (isC isR : List Nat) (hC : isC.map (fun i => w[i]?) = w0.map some) (hC2 : isC.filterMap (fun i => w[i]?) = w0) (hnC : va_nd isC = true) (hR : isR.map (fun i => w[i]?) = wr.map some) (hn2 : va_nd isR = true) (hdis : ∀ i ∈ isR, i ∉ isC)
    (hn : As.length = n) (hsize : ls.size = nL) (hstack : st = As.reverse ++ .ref b :: rest) (hW : (rest.map fun v => v.category).sum ≤ 8) (hdg : decode cc pc = .ok (.invokespecial index, 3)) (hf : cells + mc ≤ R.cells ∧ slots + ms ≤ R.slots)
    (kk : ∀ (w1 : va_W) (tys1 : List (ClassId × FieldType)) (H1 : Heap) (locs1 : List Loc), post w1 tys1 → va_K G vwCl (tys ++ tys1) s → va_P G vwCl (wr ++ w1) H1 → va_D A0 (wr ++ w1) → va_S A0 H0 H1 locs1 → W p l e R s m args below meth c H1 locs1 (cells + mc) (slots + ms) Q (F0 m (pc + 3) ls rest)) : W p l e R s m args below meth c H locs cells slots Q (F0 m pc ls st) := by
  subst hstack
  have hPc := hP.sub isC hC2
  have hDc := hD.sub isC hnC hC
  have hKc : va_K G vwCl [] s := hK.sub (tys' := []) [] rfl
  refine mk_after (va_runIN (As := As) (rest := rest) S (hM H.size) cw ⟨PI_blind, fun U hU hW => ⟨rfl, by rw [hU], by rw [hU]; exact hPc, va_K.moved hW.alike hKc, hNI.warm hW, hDc.weaken (fun _ _ _ _ => trivial)⟩⟩ rfl hn hsize rfl (lv_room hW) hdg hf) hK hP hD hS hA isC isR hC hR hn2 hdis kk
theorem mk_call (S : CallFix p m c cc nL s args Ts own) (hM : MkC l y ws rm G w0 (.ref b :: As) mc ms post) (cw : CallB R s args own index y bytes maxL none ws rm mc ms n ∧ y.name = "<init>" ∧ (Cond.instanceMethod y).before args s = true)
    (hK : va_K G vwCl tys s) (hNI : NI s) (hP : va_P G vwCl w H) (hD : va_D A0 w) (hS : va_S A0 H0 H locs) (hA : ∀ q, H0.size ≤ q → A0 q) (isC isR : List Nat) (hC : isC.map (fun i => w[i]?) = w0.map some) (hC2 : isC.filterMap (fun i => w[i]?) = w0) (hnC : va_nd isC = true) (hR : isR.map (fun i => w[i]?) = wr.map some) (hn2 : va_nd isR = true) (hdis : ∀ i ∈ isR, i ∉ isC)
    (hn : As.length = n) (hsize : ls.size = nL) (hstack : st = As.reverse ++ .ref b :: rest) (hW : (rest.map fun v => v.category).sum ≤ 8) (hdg : decode cc pc = .ok (.invokespecial index, 3)) (hf : cells + mc ≤ R.cells ∧ slots + ms ≤ R.slots)
    (kk : ∀ (w1 : va_W) (tys1 : List (ClassId × FieldType)) (H1 : Heap) (locs1 : List Loc), post w1 tys1 → va_K G vwCl (tys ++ tys1) s → va_P G vwCl (wr ++ w1) H1 → va_D A0 (wr ++ w1) → va_S A0 H0 H1 locs1 → W p l e R s m args below meth c H1 locs1 (cells + mc) (slots + ms) Q (F0 m (pc + 3) ls rest)) : W p l e R s m args below meth c H locs cells slots Q (F0 m pc ls st) := by
  subst hstack
  have hPc := hP.sub isC hC2
  have hDc := hD.sub isC hnC hC
  have hKc : va_K G vwCl [] s := hK.sub (tys' := []) [] rfl
  refine mk_after (va_runI (As := As) (rest := rest) S (hM H.size) cw ⟨PI_blind, fun U hU hW => ⟨rfl, by rw [hU], by rw [hU]; exact hPc, va_K.moved hW.alike hKc, hNI.warm hW, hDc.weaken (fun _ _ _ _ => trivial)⟩⟩ rfl hn hsize rfl (lv_room hW) hdg hf) hK hP hD hS hA isC isR hC hR hn2 hdis kk
theorem mk_vret {sz : Nat} {w1 : va_W} (hx : p.tables.exec = Jvm.exec) (hb : c.code = cc) (hr : meth.sig.returnType = none) (hlocks : meth.locks = false) (hAe : va_A w0 sz = A0) (hK : va_K G vwCl tys s) (hP : va_P G vwCl w1 H) (hD : va_D A0 w1) (hS : va_S A0 s.heap H locs) (hv : post w1 tys) (hdg : decode cc pc = .ok (.return_, 1)) : W p l e R s m args below meth c H locs cells slots (MQ below (QI_ G w0 sz post) args s cells slots A0) (F0 m pc ls []) := by
  subst hAe
  exact W.vret hx hb hr (fun t ht hW => ⟨⟨w1, tys, rfl, hv, by rw [ht]; exact hP, va_K.moved hW.alike hK, hD⟩, hS.F ht⟩) hS.2.2 hdg hlocks
end INIT
/-- a cell's content beyond its length doesn't matter -/
theorem cell_q {cA : ClassId} {n : Nat} {f g : Nat → Option Nat} (h : ∀ j, j < n → f j = g j) : vp_cell cA (n, .inr (.inr (.inr (.inr f)))) = vp_cell cA (n, .inr (.inr (.inr (.inr g)))) := by
  show arrV cA n (fun j => va_rf (f j)) = arrV cA n (fun j => va_rf (g j))
  unfold arrV
  congr 1
  apply Array.ext
  · simp
  · intro i h1 h2
    simp at h1
    simp [h i h1]
theorem swap_q {G : va_G} {w : va_W} {H : Heap} {q0 a : Nat} {cA : ClassId} {n : Nat} {f g : Nat → Option Nat} (hP : va_P G vwCl w H) (ha : w[q0]? = some (a, .inl (cA, n, .inr (.inr (.inr (.inr f)))))) (h : ∀ j, j < n → f j = g j) : va_P G vwCl (w.set q0 (a, .inl (cA, n, .inr (.inr (.inr (.inr g)))))) H := by
  intro k q hk
  rw [List.getElem?_set] at hk
  by_cases e : q0 = k
  · rw [if_pos e] at hk
    have hl := (List.getElem?_eq_some_iff.mp ha).1
    rw [if_pos hl] at hk
    cases hk
    show H[a]? = some (vp_cell cA _)
    rw [← cell_q h]
    exact hP q0 _ ha
  · rw [if_neg e] at hk
    exact hP k q hk
theorem slc0 (o n : Nat) : slc (fun _ => 0) o n = fun _ => 0 := by
  funext k
  unfold slc
  split <;> rfl
def dn0 : Nat → Int64 := vp_updL (vp_updL (vp_updL (vp_updL (fun _ => 0) 0 1025) 1 1025) 2 1025) 3 1025
/-- the state of a new object -/
abbrev sg0 : SG := (0, fun _ => 0, 0, fun _ => 0, fun _ => 0, dn0, fun _ => 0, 180000, 0)
abbrev kx0 : KX := (fun _ => 0, 0, 0, 0, 0)
abbrev km0 : KM := (fun _ => 0, 0, 0, 0)
theorem wx0_eq (C : Nat → ClassId) (a : Nat → Nat) : wX C a sg0 kx0 = [
  (a 0, .inr (3, [.ref (a 1), .int 0, .ref (a 2), .ref (a 4), .ref (a 6), .long 180000, .long 0])),
  (a 1, .inl (C 0, 40, .inl (fun _ => 0))),
  (a 2, .inr (0, [.ref (a 3), .int 0, .int 0, .int 0, .long 0])),
  (a 3, .inl (C 1, 5, .inr (.inl (fun _ => 0)))),
  (a 4, .inr (2, [.ref (a 5), .int 0])),
  (a 5, .inl (C 1, 50, .inr (.inl (fun _ => 0)))),
  (a 6, .inl (C 2, 4, .inr (.inr (.inr (.inr (fun k => some (a (7 + 3 * k)))))))),
  (a 7, .inr (1, [.ref (a 8), .ref (a 9), .long 1025])), (a 8, .inl (C 1, 6, .inr (.inl (fun _ => 0)))), (a 9, .inl (C 1, 4, .inr (.inl (fun _ => 0)))),
  (a 10, .inr (1, [.ref (a 11), .ref (a 12), .long 1025])), (a 11, .inl (C 1, 6, .inr (.inl (fun _ => 0)))), (a 12, .inl (C 1, 4, .inr (.inl (fun _ => 0)))),
  (a 13, .inr (1, [.ref (a 14), .ref (a 15), .long 1025])), (a 14, .inl (C 1, 6, .inr (.inl (fun _ => 0)))), (a 15, .inl (C 1, 4, .inr (.inl (fun _ => 0)))),
  (a 16, .inr (1, [.ref (a 17), .ref (a 18), .long 1025])), (a 17, .inl (C 1, 6, .inr (.inl (fun _ => 0)))), (a 18, .inl (C 1, 4, .inr (.inl (fun _ => 0))))] := by
  unfold wX
  have h1 : ∀ o n, slc (g_rd sg0) o n = fun _ => 0 := slc0
  have h2 : ∀ o n, slc (g_dd sg0) o n = fun _ => 0 := slc0
  simp only [h1, h2]
  rfl
