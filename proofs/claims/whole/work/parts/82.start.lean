/-! What the law starts from. -/
section START
variable {p : Program} {l : Launch} {e : Env} {s : State} {m : MethodId} {meth : Method} {c : Code} {b L : Nat} {xs : Nat → Int32}
theorem st_nw (hts : ∀ w ∈ lw_tbl, w.before #[Value.ref b] s = true) : NW s := ⟨va_Nw.of rfl (hts _ (wt_1 (i := 47) rfl)), va_Nw.of rfl (hts _ (wt_1 (i := 62) rfl)), va_Nw.of rfl (hts _ (wt_1 (i := 66) rfl)), va_Nw.of rfl (hts _ (wt_1 (i := 64) rfl)), va_Nw.of rfl (hts _ (wt_1 (i := 140) rfl)), va_Nw.of rfl (hts _ (wt_2 (i := 136) rfl))⟩
theorem st_ni (hts : ∀ w ∈ lw_tbl, w.before #[Value.ref b] s = true) : NI s := ⟨va_AO.of (hts _ (wt_1 (i := 54) rfl)), va_Nw.of rfl (hts _ (wt_1 (i := 17) rfl)), va_Nw.of rfl (hts _ (wt_1 (i := 41) rfl)), va_Nw.of rfl (hts _ (wt_1 (i := 56) rfl))⟩
theorem st_g (hts : ∀ w ∈ lw_tbl, w.before #[Value.ref b] s = true) (hgv : (Jvm.Cond.and given_1 narrow_1).before #[Value.ref b] s = true) : ∃ tG : Nat, ST tG (fun q => s.heap.size ≤ q) s s.heap := by
  have hs := flat_of_before _ hgv
  have hA : ∀ a : Nat, a < s.heap.size → ¬ (fun q => s.heap.size ≤ q) a := fun a h q => absurd h (Nat.not_lt.mpr q)
  obtain ⟨t, h1, h2⟩ := va_Tof (tm := .static "DraftSurvey" "GREATEST" "[J") (ty := .long) (N := 5) (f := fun k => .long (grN k)) (A := fun q => s.heap.size ≤ q) (by decide) (hs _ (by decide +kernel)) (va_eqt (hs _ (by decide +kernel))) (fun j hj => by
    rcases (show j = 0 ∨ j = 1 ∨ j = 2 ∨ j = 3 ∨ j = 4 by omega) with rfl | rfl | rfl | rfl | rfl
    · exact va_eqtl (z := 30000) (hs _ (by decide +kernel))
    · exact va_eqtl (z := 9999999) (hs _ (by decide +kernel))
    · exact va_eqtl (z := 20000) (hs _ (by decide +kernel))
    · exact va_eqtl (z := 100000) (hs _ (by decide +kernel))
    · exact va_eqtl (z := 200000) (hs _ (by decide +kernel))) hA
  exact ⟨t, va_Zof (hts _ (wt_1 (i := 141) rfl)) (hts _ (wt_1 (i := 1) rfl)) h1 hA, h2⟩
theorem st_k (hts : ∀ w ∈ lw_tbl, w.before #[Value.ref b] s = true) : ∃ G : va_G, va_K G vwCl [] s := by
  have hT : ∀ w ∈ wsL_law, w.before #[Value.ref b] s = true := fun w h => hts w (wsL_law_in w h)
  obtain ⟨c0, i0, k0⟩ := u_known (C := RX0) (T := TX0) (N := 5) (n := 5) hT inlX0 (hT _ (by decide +kernel))
  obtain ⟨c1, i1, k1⟩ := u_known (C := RX1) (T := TX1) (N := 3) (n := 3) hT inlX1 (hT _ (by decide +kernel))
  obtain ⟨c2, i2, k2⟩ := u_known (C := RX2) (T := TX2) (N := 2) (n := 2) hT inlX2 (hT _ (by decide +kernel))
  obtain ⟨c3, i3, k3⟩ := u_known (C := RX3) (T := TX3) (N := 7) (n := 7) hT inlX3 (hT _ (by decide +kernel))
  obtain ⟨c4, i4, k4⟩ := u_known (C := RX4) (T := TX4) (N := 13) (n := 13) hT inlX4 (hT _ (by decide +kernel))
  refine ⟨(fun k => match k with | 0 => c0 | 1 => c1 | 2 => c2 | 3 => c3 | _ => c4, fun k => match k with | 0 => i0 | 1 => i1 | 2 => i2 | 3 => i3 | _ => i4), fun k q hq => ?_, fun k q h => by simp at h⟩
  match k, hq with
  | 0, hq => cases hq; exact k0
  | 1, hq => cases hq; exact k1
  | 2, hq => cases hq; exact k2
  | 3, hq => cases hq; exact k3
  | 4, hq => cases hq; exact k4
  | k + 5, hq => simp at hq
end START
