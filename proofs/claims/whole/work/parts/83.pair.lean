/-! The two objects beside each other. -/
/-- two worlds with no cell in common -/
def DJ (w w' : va_W) : Prop := ∀ (k k' : Nat) (q q' : Nat × va_E), w[k]? = some q → w'[k']? = some q' → ¬ q.1 = q'.1
theorem DJ.flip {w w' : va_W} (h : DJ w w') : DJ w' w := fun k k' q q' h1 h2 z => h k' k q' q h2 h1 z.symm
/-- the addresses, and nothing else, of a world -/
theorem wX_ad {C : Nat → ClassId} {a : Nat → Nat} {σ σ' : SG} {κ κ' : KX} {k : Nat} {q : Nat × va_E} (h : (wX C a σ κ)[k]? = some q) : ∃ q' : Nat × va_E, (wX C a σ' κ')[k]? = some q' ∧ q'.1 = q.1 := by
  have h1 : ((wX C a σ κ).map Prod.fst)[k]? = some q.1 := by rw [List.getElem?_map, h]; rfl
  have h2 : (wX C a σ κ).map Prod.fst = (wX C a σ' κ').map Prod.fst := rfl
  rw [h2, List.getElem?_map] at h1
  cases e : (wX C a σ' κ')[k]? with
  | none => rw [e] at h1; cases h1
  | some q' => rw [e] at h1; exact ⟨q', rfl, Option.some.inj h1⟩
theorem wM_ad {C : Nat → ClassId} {b : Nat → Nat} {σ σ' : SG} {ρ ρ' : KM} {k : Nat} {q : Nat × va_E} (h : (wM C b σ ρ)[k]? = some q) : ∃ q' : Nat × va_E, (wM C b σ' ρ')[k]? = some q' ∧ q'.1 = q.1 := by
  have h1 : ((wM C b σ ρ).map Prod.fst)[k]? = some q.1 := by rw [List.getElem?_map, h]; rfl
  have h2 : (wM C b σ ρ).map Prod.fst = (wM C b σ' ρ').map Prod.fst := rfl
  rw [h2, List.getElem?_map] at h1
  cases e : (wM C b σ' ρ')[k]? with
  | none => rw [e] at h1; cases h1
  | some q' => rw [e] at h1; exact ⟨q', rfl, Option.some.inj h1⟩
theorem DJ.next {C : Nat → ClassId} {a b : Nat → Nat} {σ σ' τ τ' : SG} {κ κ' : KX} {ρ ρ' : KM} (h : DJ (wX C a σ κ) (wM C b τ ρ)) : DJ (wX C a σ' κ') (wM C b τ' ρ') := fun k k' q q' h1 h2 => by
  obtain ⟨r, e1, f1⟩ := wX_ad (σ' := σ) (κ' := κ) h1
  obtain ⟨r', e2, f2⟩ := wM_ad (σ' := τ) (ρ' := ρ) h2
  rw [← f1, ← f2]
  exact h k k' r r' e1 e2
theorem DJ.app {A : Nat → Prop} {w w' : va_W} (h : va_D A (w ++ w')) : DJ w w' := fun k k' q q' h1 h2 z => by
  have hk := (List.getElem?_eq_some_iff.mp h1).1
  have e1 : (w ++ w')[k]? = some q := by rw [List.getElem?_append_left hk]; exact h1
  have e2 : (w ++ w')[w.length + k']? = some q' := by rw [List.getElem?_append_right (by omega), Nat.add_sub_cancel_left]; exact h2
  have := h.1 _ _ _ _ e1 e2 z
  omega
section PAIR
variable {p : Program} {l : Launch} {e : Env} {R : Room} {s : State} {m : MethodId} {args : Array Value} {below : List Frame} {meth : Method} {c : Code} {H : Heap} {locs : List Loc} {cells slots : Nat} {Q : State → Prop}
variable {y : MethodName} {bytes cc : ByteArray} {maxL nL n index : Nat} {ret : Option FieldType} {ws : List Cond} {rm : Room} {Ts : List Cond} {own : String} {b : Addr} {As rest st : List Value} {pc : Nat} {ls : Array Slot} {G : va_G} {tys : List (ClassId × FieldType)} {w w' : va_W} {r : Value}
/-- as wr_callV; another world stays -/
theorem pr_callV {A0 : Nat → Prop} {H0 : Heap} {post : Option Value → va_W → Prop} (S : CallFix p m c cc nL s args Ts own) (hM : WrC l y ws rm G tys w (.ref b :: As) post) (cw : CallW R s args own y.cls index y bytes maxL ret ws rm 0 0 n)
    (hK : va_K G vwCl tys s) (hN : NW s) (hP : va_P G vwCl w H) (hD : va_D A0 w) (hS : va_S A0 H0 H locs) (hA : ∀ q, H0.size ≤ q → A0 q) (hP' : va_P G vwCl w' H) (hJ : DJ w w') (q0 ci : Nat) {fs : List Value} (he : w[q0]? = some (b, .inr (ci, fs))) {q : vw_C} (hc : vwCl[ci]? = some q) (hq : q.1 = y.cls)
    (hn : As.length = n) (hsize : ls.size = nL) (hstack : st = As.reverse ++ .ref b :: rest) (hW : (rest.map fun v => v.category).sum ≤ 8) (hdg : decode cc pc = .ok (.invokevirtual index, 3)) (hf : cells ≤ R.cells ∧ slots ≤ R.slots)
    (kk : ∀ (v : Option Value) (w1 : va_W) (H1 : Heap) (locs1 : List Loc), post v w1 → va_P G vwCl w1 H1 → va_D A0 w1 → va_S A0 H0 H1 locs1 → va_P G vwCl w' H1 → W p l e R s m args below meth c H1 locs1 cells slots Q (F0 m (pc + 3) ls (v.toList ++ rest))) : W p l e R s m args below meth c H locs cells slots Q (F0 m pc ls st) := by
  subst hstack
  obtain ⟨cell, h1, h2, h3⟩ := va_recv hK hP hc he
  have hfree : ∀ z, va_A w H.size z → A0 z := by
    intro z h
    rcases h with ⟨k, e1, h⟩ | h
    · exact hD.2 k (z, e1) h
    · exact hA z (Nat.le_trans hS.1 h)
  have hr : va_Run p l e R s m args below meth c H locs cells slots 0 0 (F0 m pc ls (As.reverse ++ .ref b :: rest)) rest (QW G w H.size post (Value.ref b :: As).toArray) (va_A w H.size) :=
    va_runV (C := y.cls) (As := As) (rest := rest) S (hM H.size) cw ⟨PW_blind, ⟨cell, h1, h2, by rw [← hq]; exact h3⟩, fun U hU hW => ⟨rfl, by rw [hU], by rw [hU]; exact hP, va_K.moved hW.alike hK, hN.warm hW, hD.weaken (fun _ _ _ _ => trivial)⟩⟩ rfl hn hsize rfl (lv_room hW) hdg hf
  intro T hT X
  obtain ⟨v, st₀, t, T', L, h0, X', hL, e1, e2, ⟨⟨v1, w1, hv, hp, hp1, hd1⟩, hz, hk⟩, stp⟩ := hr T hT X
  cases hv
  rw [h0] at hz hk
  obtain ⟨t2, a1, b1⟩ := kk v w1 T'.heap (locs ++ L) hp (by rw [e1]; exact hp1) (hd1.weaken (fun _ _ _ z => hfree _ z))
    ⟨Nat.le_trans hS.1 (by rw [e1]; exact hz), fun z h1 h2 => by rw [e1, hk z (Nat.lt_of_lt_of_le h1 hS.1) (fun x => h2 (hfree z x))]; exact hS.2.1 z h1 h2, fun z hz => by
      rcases List.mem_append.mp hz with h | h
      · exact hS.2.2 z h
      · exact hfree _ (hL z h)⟩
    (hP'.kept (fun k q hkq => by
      have hlt : q.1 < H.size := (hP' k q hkq).lt
      rw [e1]
      exact hk q.1 hlt (fun x => by
        rcases x with ⟨k2, e2, x⟩ | x
        · exact hJ k2 k _ _ x hkq rfl
        · omega))) T' rfl X'
  exact ⟨t2, stp t2 a1, b1⟩
theorem pr_callG {tG : Nat} {A0 : Nat → Prop} {H0 : Heap} {post : Option Value → va_W → Prop} (S : CallFix p m c cc nL s args Ts own) (hM : WrG l y ws rm G tys tG w (.ref b :: As) post) (cw : CallW R s args own y.cls index y bytes maxL ret ws rm 0 0 n)
    (hK : va_K G vwCl tys s) (hN : NW s) (hP : va_P G vwCl w H) (hD : va_D A0 w) (hS : va_S A0 H0 H locs) (hA : ∀ q, H0.size ≤ q → A0 q) (hZ : ST tG A0 s H0) (hP' : va_P G vwCl w' H) (hJ : DJ w w') (q0 ci : Nat) {fs : List Value} (he : w[q0]? = some (b, .inr (ci, fs))) {q : vw_C} (hc : vwCl[ci]? = some q) (hq : q.1 = y.cls)
    (hn : As.length = n) (hsize : ls.size = nL) (hstack : st = As.reverse ++ .ref b :: rest) (hW : (rest.map fun v => v.category).sum ≤ 8) (hdg : decode cc pc = .ok (.invokevirtual index, 3)) (hf : cells ≤ R.cells ∧ slots ≤ R.slots)
    (kk : ∀ (v : Option Value) (w1 : va_W) (H1 : Heap) (locs1 : List Loc), post v w1 → va_P G vwCl w1 H1 → va_D A0 w1 → va_S A0 H0 H1 locs1 → va_P G vwCl w' H1 → W p l e R s m args below meth c H1 locs1 cells slots Q (F0 m (pc + 3) ls (v.toList ++ rest))) : W p l e R s m args below meth c H locs cells slots Q (F0 m pc ls st) := by
  subst hstack
  obtain ⟨cell, h1, h2, h3⟩ := va_recv hK hP hc he
  have hfree : ∀ z, va_A w H.size z → A0 z := by
    intro z h
    rcases h with ⟨k, e1, h⟩ | h
    · exact hD.2 k (z, e1) h
    · exact hA z (Nat.le_trans hS.1 h)
  have hr : va_Run p l e R s m args below meth c H locs cells slots 0 0 (F0 m pc ls (As.reverse ++ .ref b :: rest)) rest (QW G w H.size post (Value.ref b :: As).toArray) (va_A w H.size) :=
    va_runV (C := y.cls) (As := As) (rest := rest) S (hM H.size) cw ⟨PG_blind, ⟨cell, h1, h2, by rw [← hq]; exact h3⟩, fun U hU hW => ⟨rfl, ⟨by rw [hU], by rw [hU]; exact hP, va_K.moved hW.alike hK, hN.warm hW, hD.weaken (fun _ _ _ _ => trivial)⟩, by
      rw [hU]
      exact ⟨va_Z.moved hW.alike ((hZ.1.kept hS.2.1).narrow hfree), va_T.moved hW.alike ((hZ.2.kept hS.2.1).narrow hfree)⟩⟩⟩ rfl hn hsize rfl (lv_room hW) hdg hf
  intro T hT X
  obtain ⟨v, st₀, t, T', L, h0, X', hL, e1, e2, ⟨⟨v1, w1, hv, hp, hp1, hd1⟩, hz, hk⟩, stp⟩ := hr T hT X
  cases hv
  rw [h0] at hz hk
  obtain ⟨t2, a1, b1⟩ := kk v w1 T'.heap (locs ++ L) hp (by rw [e1]; exact hp1) (hd1.weaken (fun _ _ _ z => hfree _ z))
    ⟨Nat.le_trans hS.1 (by rw [e1]; exact hz), fun z h1 h2 => by rw [e1, hk z (Nat.lt_of_lt_of_le h1 hS.1) (fun x => h2 (hfree z x))]; exact hS.2.1 z h1 h2, fun z hz => by
      rcases List.mem_append.mp hz with h | h
      · exact hS.2.2 z h
      · exact hfree _ (hL z h)⟩
    (hP'.kept (fun k q hkq => by
      have hlt : q.1 < H.size := (hP' k q hkq).lt
      rw [e1]
      exact hk q.1 hlt (fun x => by
        rcases x with ⟨k2, e2, x⟩ | x
        · exact hJ k2 k _ _ x hkq rfl
        · omega))) T' rfl X'
  exact ⟨t2, stp t2 a1, b1⟩
end PAIR
