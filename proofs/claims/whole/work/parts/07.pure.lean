/-! Pure rows. -/
theorem upf_lt {f : Nat → Int64} {d : Int64} {k n : Nat} (h : k < n) (h2 : f k < d) : upf f d k (n - k) = upf f d (k + 1) (n - (k + 1)) := by
  obtain ⟨r, hr⟩ : ∃ r, n - k = r + 1 := ⟨n - k - 1, by omega⟩
  rw [hr, show n - (k + 1) = r from by omega, upf, if_pos h2]
theorem upf_end {f : Nat → Int64} {d : Int64} {k n : Nat} (h : ¬ k < n) : upf f d k (n - k) = k := by
  rw [show n - k = 0 from by omega, upf]
theorem upf_here {f : Nat → Int64} {d : Int64} {k n : Nat} (h : k < n) (h2 : ¬ f k < d) : upf f d k (n - k) = k := by
  obtain ⟨r, hr⟩ : ∃ r, n - k = r + 1 := ⟨n - k - 1, by omega⟩
  rw [hr, upf, if_neg h2]
theorem inS_nI {x : Int32} (h : inS x 4) : ∃ j : Nat, j < 4 ∧ x = nI j := by
  rcases pk_ix x (n := 4) (by decide) with q | q | q
  · exact absurd q h.1
  · exact absurd h.2 (Int32.not_lt.mpr q)
  · exact q
theorem inS_nI6 {x : Int32} (h : inS x 6) : ∃ j : Nat, j < 6 ∧ x = nI j := by
  rcases pk_ix x (n := 6) (by decide) with q | q | q
  · exact absurd q h.1
  · exact absurd h.2 (Int32.not_lt.mpr q)
  · exact q
theorem cl4 {j : Nat} (h : j < 4) : (nI j).toNatClampNeg = j := nI_clamp (by omega)
theorem cl6 {j : Nat} (h : j < 6) : (nI j).toNatClampNeg = j := nI_clamp (by omega)
theorem hb_lt {σ : SG} : ∀ {k i : Nat}, hbs σ k = some i → i < k
  | 0, i, h => by cases h
  | k + 1, i, h => by
    rw [hbs] at h
    by_cases q : cmp σ k 0
    · rw [if_pos q] at h
      cases e : hbs σ k with
      | none => rw [e] at h; cases h; omega
      | some r =>
        rw [e] at h
        have hr := hb_lt e
        simp only at h
        by_cases z : nw σ r 0 < nw σ k 0
        · rw [if_pos z] at h; cases h; omega
        · rw [if_neg z] at h; cases h; omega
    · rw [if_neg q] at h
      have := hb_lt h
      omega
theorem hbA_ne {σ : SG} {k i : Nat} (hk : k ≤ 4) (h : hbs σ k = some i) : ¬ hbA (hbs σ k) = NCO := by
  have hi := hb_lt h
  rw [h]
  have : i = 0 ∨ i = 1 ∨ i = 2 ∨ i = 3 := by omega
  rcases this with rfl | rfl | rfl | rfl <;> decide
theorem hb_no {σ : SG} {k : Nat} (h : ¬ cmp σ k 0) : hbs σ (k + 1) = hbs σ k := by rw [hbs, if_neg h]
theorem hb_new {σ : SG} {k : Nat} (h : cmp σ k 0) (e : hbA (hbs σ k) = NCO) (hk : k < 4) : hbs σ (k + 1) = some k := by
  rw [hbs, if_pos h]
  cases q : hbs σ k with
  | none => rfl
  | some i => exact absurd e (hbA_ne (by omega) q)
theorem hb_gt {σ : SG} {k : Nat} (h : cmp σ k 0) (e : ¬ hbA (hbs σ k) = NCO) (g : hbW σ (hbs σ k) < nw σ k 0) : hbs σ (k + 1) = some k := by
  rw [hbs, if_pos h]
  cases q : hbs σ k with
  | none => rfl
  | some i =>
    rw [q] at g
    exact if_pos g
theorem hb_old {σ : SG} {k : Nat} (h : cmp σ k 0) (e : ¬ hbA (hbs σ k) = NCO) (g : ¬ hbW σ (hbs σ k) < nw σ k 0) : hbs σ (k + 1) = hbs σ k := by
  rw [hbs, if_pos h]
  cases q : hbs σ k with
  | none => exact absurd (by rw [q]; rfl) e
  | some i =>
    rw [q] at g
    exact if_neg g
