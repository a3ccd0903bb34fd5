/-! The reference's parse. -/
def pP (C : Nat → ClassId) (b : Nat → Nat) (σ : SG) (ρ : KM) : Option Value → va_W → Prop := fun v w1 => v = none ∧ ∃ f : Nat → Int64, w1 = wM C b σ (f, nI (nRun (g_bf σ) 0 (g_bl σ) (n0 (m_rd ρ))).1, (if ((nRun (g_bf σ) 0 (g_bl σ) (n0 (m_rd ρ))).1 = g_bl σ ∧ z_pl (nRun (g_bf σ) 0 (g_bl σ) (n0 (m_rd ρ))).2 = 4 ∧ 0 < z_dg (nRun (g_bf σ) 0 (g_bl σ) (n0 (m_rd ρ))).2) then 1 else 0), m_h ρ) ∧ ((nRun (g_bf σ) 0 (g_bl σ) (n0 (m_rd ρ))).1 = g_bl σ → f = z_nu (nRun (g_bf σ) 0 (g_bl σ) (n0 (m_rd ρ))).2)
theorem pP_of {C : Nat → ClassId} {b : Nat → Nat} {σ : SG} {ρ : KM} {k : Nat} {z : NK} {f : Nat → Int64} {i : Int32} (hr : nRun (g_bf σ) 0 (g_bl σ) (n0 (m_rd ρ)) = (k, z)) (hi : (if (k = g_bl σ ∧ z_pl z = 4 ∧ 0 < z_dg z) then (1 : Int32) else 0) = i) (hf : k = g_bl σ → f = z_nu z) : pP C b σ ρ none (wM C b σ (f, nI k, i, m_h ρ)) := by
  unfold pP
  rw [hr]
  subst hi
  exact ⟨rfl, f, rfl, hf⟩
theorem nn_ {n : Nat} (m : Nat) (h1 : m < n) (h2 : n < 2 ^ 31) : ¬ nI n = nI m := fun q => by
  have := (nI_eq h2 (by omega)).mp q
  omega
theorem wb_1 {x : Int32} (h : ¬ x.toInt64 < 48) : ¬ x < 48 := fun q => h (by rw [show (48 : Int64) = (48 : Int32).toInt64 from rfl, w_lt]; exact q)
theorem wb_2 {x : Int32} (h : ¬ 57 < x.toInt64) : ¬ 57 < x := fun q => h (by rw [show (57 : Int64) = (57 : Int32).toInt64 from rfl, w_lt]; exact q)
theorem wb_3 {x : Int32} (h : ¬ (¬ x.toInt64 < 48 ∧ ¬ 57 < x.toInt64)) : ¬ (¬ x < 48 ∧ ¬ 57 < x) := fun q => h ⟨by rw [show (48 : Int64) = (48 : Int32).toInt64 from rfl, w_lt]; exact q.1, by rw [show (57 : Int64) = (57 : Int32).toInt64 from rfl, w_lt]; exact q.2⟩
/-- one step of the reader, from what the reference has asked -/
theorem st_dig {nu : Nat → Int64} {pn dn gn mn cn : Nat} {c : Int32} {v : Int64} (h48 : 48 ≤ cn) (h57 : cn ≤ 57) (hch : nI cn = c) (h1 : ¬ ((0 < dn ∧ mn = 0) ∨ (0 < gn ∧ dn = 0 ∧ cn - 48 = 0))) (h2 : ¬ grT pn < 10 * mn + (cn - 48)) (hv : (if gn = 0 then lN (10 * mn + (cn - 48)) else -(lN (10 * mn + (cn - 48)))) = v) : nSt (nu, pn, dn, gn, mn) c = some (vp_updL nu pn v, pn, dn + 1, gn, 10 * mn + (cn - 48)) := by
  subst hch
  subst hv
  unfold nSt
  rw [if_neg (show ¬ nI cn = 44 from nn_ 44 (by omega) (by omega)), if_neg (show ¬ nI cn = 45 from nn_ 45 (by omega) (by omega)), if_pos ⟨by rw [show (48 : Int32) = nI 48 from rfl, nI_ltI (by omega) (by omega)]; omega, by rw [show (57 : Int32) = nI 57 from rfl, nI_ltI (by omega) (by omega)]; omega⟩, cl48 h48 h57]
  unfold nDig
  exact (if_neg h1).trans (if_neg h2)
theorem st_dig0 {nu : Nat → Int64} {pn dn gn mn cn : Nat} {c : Int32} (h48 : 48 ≤ cn) (h57 : cn ≤ 57) (hch : nI cn = c) (h1 : ((0 < dn ∧ mn = 0) ∨ (0 < gn ∧ dn = 0 ∧ cn - 48 = 0)) ∨ grT pn < 10 * mn + (cn - 48)) : nSt (nu, pn, dn, gn, mn) c = none := by
  subst hch
  unfold nSt
  rw [if_neg (show ¬ nI cn = 44 from nn_ 44 (by omega) (by omega)), if_neg (show ¬ nI cn = 45 from nn_ 45 (by omega) (by omega)), if_pos ⟨by rw [show (48 : Int32) = nI 48 from rfl, nI_ltI (by omega) (by omega)]; omega, by rw [show (57 : Int32) = nI 57 from rfl, nI_ltI (by omega) (by omega)]; omega⟩, cl48 h48 h57]
  unfold nDig
  by_cases q : (0 < dn ∧ mn = 0) ∨ (0 < gn ∧ dn = 0 ∧ cn - 48 = 0)
  · exact if_pos q
  · exact (if_neg q).trans (if_pos (h1.resolve_left q))
theorem st_com {nu : Nat → Int64} {pn dn gn mn : Nat} {ch c : Int32} (hch : ch = c) (h : ch = 44) (h1 : ¬ (dn = 0 ∨ ¬ pn < 4)) : nSt (nu, pn, dn, gn, mn) c = some (nu, pn + 1, 0, 0, 0) := by
  subst hch
  unfold nSt
  rw [if_pos h]
  exact if_neg h1
theorem st_min {nu : Nat → Int64} {pn dn gn mn : Nat} {ch c : Int32} (hch : ch = c) (h : ch = 45) (h1 : ¬ (¬ pn = 3 ∨ 0 < gn ∨ 0 < dn)) : nSt (nu, pn, dn, gn, mn) c = some (nu, pn, dn, 1, mn) := by
  subst hch
  unfold nSt
  rw [if_neg (by rw [h]; decide), if_pos h]
  exact if_neg h1
theorem st_no {nu : Nat → Int64} {pn dn gn mn : Nat} {ch c : Int32} (hch : ch = c) (hd : ¬ (¬ ch < 48 ∧ ¬ 57 < ch)) (h1 : ch = 44 → dn = 0 ∨ ¬ pn < 4) (h2 : ch = 45 → ¬ pn = 3 ∨ 0 < gn ∨ 0 < dn) : nSt (nu, pn, dn, gn, mn) c = none := by
  subst hch
  unfold nSt
  by_cases q : ch = 44
  · rw [if_pos q]; exact if_pos (h1 q)
  · rw [if_neg q]
    by_cases q2 : ch = 45
    · rw [if_pos q2]; exact if_pos (h2 q2)
    · rw [if_neg q2, if_neg hd]
