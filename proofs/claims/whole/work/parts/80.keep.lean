/-! What holds of every state is kept by every call. -/
theorem inv_0 : Inv sg0 := ⟨Nat.zero_le _, Nat.zero_le _, fun k h => absurd h (Nat.not_lt_zero k), fun k h => absurd h (Nat.not_lt_zero _), fun i _ => (by show dr 0; unfold dr; decide), ⟨by decide, by decide⟩, ⟨by decide, by decide⟩⟩
theorem inv_u_bl {σ : SG} (hI : Inv σ) : Inv (u_bl σ 0) := ⟨Nat.zero_le _, hI.2⟩
theorem inv_u_n {σ : SG} (hI : Inv σ) : Inv (u_n σ 0) := ⟨hI.1, Nat.zero_le _, fun k h => absurd h (Nat.not_lt_zero k), fun k h => absurd h (Nat.not_lt_zero _), hI.2.2.2.2⟩
theorem inv_append {σ : SG} (hI : Inv σ) (c : Int32) : Inv (nAppend σ c) := by
  unfold nAppend
  by_cases q : ¬ c < 32 ∧ ¬ 126 < c
  · rw [if_pos q]
    by_cases q2 : g_bl σ < 40
    · rw [if_pos q2]; exact ⟨q2, hI.2⟩
    · rw [if_neg q2]; exact hI
  · rw [if_neg q]; exact hI
theorem i_rng {x lo hi : Int32} (h : ¬ x < lo ∧ ¬ hi < x) : lo.toInt ≤ x.toInt64.toInt ∧ x.toInt64.toInt ≤ hi.toInt := by
  rw [Int32.lt_iff_toInt_lt, Int32.lt_iff_toInt_lt] at h
  rw [Int32.toInt_toInt64]
  omega
theorem inv_setL {σ : SG} (hI : Inv σ) (x : Int32) : Inv (nSetL σ x) := by
  unfold nSetL
  by_cases q : ¬ x < 10000 ∧ ¬ 400000 < x
  · rw [if_pos q]; exact ⟨hI.1, hI.2.1, hI.2.2.1, hI.2.2.2.1, hI.2.2.2.2.1, i_rng q, hI.2.2.2.2.2.2⟩
  · rw [if_neg q]; exact hI
theorem inv_setM {σ : SG} (hI : Inv σ) (x : Int32) : Inv (nSetM σ x) := by
  unfold nSetM
  by_cases q : ¬ x < 0 ∧ ¬ 100 < x
  · rw [if_pos q]; exact ⟨hI.1, hI.2.1, hI.2.2.1, hI.2.2.2.1, hI.2.2.2.2.1, hI.2.2.2.2.2.1, i_rng q⟩
  · rw [if_neg q]; exact hI
theorem inv_setD {σ : SG} (hI : Inv σ) (x d : Int32) : Inv (nSetD σ x d) := by
  unfold nSetD
  by_cases q : inS x 4 ∧ ¬ d < 950 ∧ ¬ 1050 < d
  · rw [if_pos q]; exact hI
  · rw [if_neg q]; exact hI
theorem inv_setW {σ : SG} (hI : Inv σ) (x k d : Int32) : Inv (nSetW σ x k d) := by
  unfold nSetW
  by_cases q : inS x 4 ∧ inS k 4 ∧ ¬ d < 0 ∧ ¬ 9999999 < d
  · rw [if_pos q]; exact hI
  · rw [if_neg q]; exact hI
theorem inv_setR {σ : SG} (hI : Inv σ) (x k d : Int32) : Inv (nSetR σ x k d) := by
  unfold nSetR
  by_cases q : inS x 4 ∧ inS k 6 ∧ ¬ d < 0 ∧ ¬ 30000 < d
  · rw [if_pos q]
    refine ⟨hI.1, hI.2.1, hI.2.2.1, hI.2.2.2.1, fun i hi => ?_, hI.2.2.2.2.2⟩
    show dr (vp_updL (g_rd σ) (6 * x.toNatClampNeg + k.toNatClampNeg) d.toInt64 i)
    unfold vp_updL
    by_cases z : i = 6 * x.toNatClampNeg + k.toNatClampNeg
    · rw [if_pos z]; exact i_rng q.2.2
    · rw [if_neg z]; exact inv_rd hI hi
  · rw [if_neg q]; exact hI
/-- what the reader has written, the correction apart, is a natural number within its bound -/
def nVal (z : NK) : Prop := (0 < z_ng z → z_pl z = 3) ∧ ∀ j, (j < z_pl z ∨ (j = z_pl z ∧ 0 < z_dg z)) → ¬ j = 3 → ∃ n, n ≤ grT j ∧ z_nu z j = lN n
theorem nSt_val {z z1 : NK} {c : Int32} (h : nVal z) (e : nSt z c = some z1) : nVal z1 := by
  obtain ⟨nu, pl, dg, ng, mg⟩ := z
  obtain ⟨h1, h2⟩ := h
  simp only [z_pl, z_dg, z_ng, z_nu] at h1 h2
  unfold nSt at e
  by_cases q1 : c = 44
  · rw [if_pos q1] at e
    unfold nCom at e
    simp only [z_pl, z_dg] at e
    by_cases q : dg = 0 ∨ ¬ pl < 4
    · rw [if_pos q] at e; cases e
    · rw [if_neg q] at e
      cases e
      refine ⟨fun z => absurd z (Nat.lt_irrefl 0), fun j hj => ?_⟩
      simp only [z_pl, z_dg] at hj
      exact h2 j (by omega)
  · rw [if_neg q1] at e
    by_cases q2 : c = 45
    · rw [if_pos q2] at e
      unfold nMin at e
      simp only [z_pl, z_dg, z_ng] at e
      by_cases q : ¬ pl = 3 ∨ 0 < ng ∨ 0 < dg
      · rw [if_pos q] at e; cases e
      · rw [if_neg q] at e
        cases e
        exact ⟨fun _ => by show pl = 3; omega, h2⟩
    · rw [if_neg q2] at e
      by_cases q3 : ¬ c < 48 ∧ ¬ 57 < c
      · rw [if_pos q3] at e
        unfold nDig at e
        simp only [z_pl, z_dg, z_ng, z_mg] at e
        by_cases q : (0 < dg ∧ mg = 0) ∨ (0 < ng ∧ dg = 0 ∧ (c - 48).toNatClampNeg = 0)
        · rw [if_pos q] at e; cases e
        · rw [if_neg q] at e
          by_cases q5 : grT pl < 10 * mg + (c - 48).toNatClampNeg
          · rw [if_pos q5] at e; cases e
          · rw [if_neg q5] at e
            cases e
            refine ⟨h1, fun j hj h3 => ?_⟩
            simp only [z_pl, z_dg] at hj
            show ∃ n, n ≤ grT j ∧ vp_updL nu pl (if ng = 0 then lN (10 * mg + (c - 48).toNatClampNeg) else -(lN (10 * mg + (c - 48).toNatClampNeg))) j = lN n
            unfold vp_updL
            by_cases z : j = pl
            · rw [if_pos z, if_pos (show ng = 0 by
                rcases Nat.eq_zero_or_pos ng with g | g
                · exact g
                · exact absurd (z.trans (h1 g)) h3)]
              exact ⟨_, by rw [z]; omega, rfl⟩
            · rw [if_neg z]
              exact h2 j (by omega) h3
      · rw [if_neg q3] at e; cases e
theorem nRun_val (f : Nat → Int32) : ∀ (k i : Nat) (z : NK), nVal z → nVal (nRun f i k z).2
  | 0, i, z, h => h
  | k + 1, i, z, h => by
    rw [nRun]
    cases e : nSt z (f i) with
    | none => exact h
    | some z1 => exact nRun_val f k (i + 1) z1 (nSt_val h e)
theorem rw_val {σ : SG} (h : whN σ) {j : Nat} (hj : j < 5) (h3 : ¬ j = 3) : 0 ≤ (rwN σ j).toInt ∧ (rwN σ j).toInt ≤ grT j := by
  have h0 : nVal (n0 (fun _ => 0)) := ⟨fun z => absurd z (Nat.lt_irrefl 0), fun j hj => by simp only [n0, z_pl, z_dg] at hj; omega⟩
  obtain ⟨-, hv⟩ := nRun_val (g_bf σ) (g_bl σ) 0 _ h0
  obtain ⟨-, h1, h2⟩ := h
  obtain ⟨n, hn, e⟩ := hv j (by
    have h1 : z_pl (nRun (g_bf σ) 0 (g_bl σ) (n0 fun _ => 0)).2 = 4 := h1
    have h2 : 0 < z_dg (nRun (g_bf σ) 0 (g_bl σ) (n0 fun _ => 0)).2 := h2
    omega) h3
  have e : rwN σ j = lN n := e
  have hg := grT_le j
  rw [e, lN_toInt (by omega)]
  omega
theorem putR_old {t : Nat → Int64} {n : Nat} {f : Nat → Int64} {i : Nat} (h : i < 5 * n) : ∀ k, putR t n f k i = t i
  | 0 => rfl
  | k + 1 => by
    rw [putR]
    unfold vp_updL
    rw [if_neg (by omega)]
    exact putR_old h k
theorem putR_new {t : Nat → Int64} {n : Nat} {f : Nat → Int64} {j : Nat} : ∀ k, j < k → putR t n f k (5 * n + j) = f j
  | 0, h => absurd h (Nat.not_lt_zero j)
  | k + 1, h => by
    rw [putR]
    unfold vp_updL
    by_cases z : j = k
    · rw [if_pos (by omega), z]
    · rw [if_neg (by omega)]
      exact putR_new k (by omega)
theorem inv_addR {σ : SG} (hI : Inv σ) : Inv (nAddR σ) := by
  unfold nAddR
  by_cases q : whN σ
  · rw [if_pos q]
    by_cases q2 : g_n σ < 10
    · rw [if_pos q2]
      by_cases q3 : ascN σ
      · rw [if_pos q3]
        have v0 := rw_val q (j := 0) (by decide) (by decide)
        have v1 := rw_val q (j := 1) (by decide) (by decide)
        refine ⟨Nat.zero_le _, q2, ?_, ?_, hI.2.2.2.2⟩
        · show ∀ k, k < g_n σ + 1 → dr (putR (g_tb σ) (g_n σ) (rwN σ) 5 (5 * k + 0)) ∧ 0 ≤ (putR (g_tb σ) (g_n σ) (rwN σ) 5 (5 * k + 1)).toInt ∧ (putR (g_tb σ) (g_n σ) (rwN σ) 5 (5 * k + 1)).toInt ≤ 9999999
          intro k hk
          by_cases z : k = g_n σ
          · subst z
            rw [putR_new 5 (by decide), putR_new 5 (by decide)]
            exact ⟨v0, v1⟩
          · rw [putR_old (by omega), putR_old (by omega)]
            exact hI.2.2.1 k (by omega)
        · show ∀ k, k + 1 < g_n σ + 1 → putR (g_tb σ) (g_n σ) (rwN σ) 5 (5 * k + 0) < putR (g_tb σ) (g_n σ) (rwN σ) 5 (5 * (k + 1) + 0) ∧ ¬ putR (g_tb σ) (g_n σ) (rwN σ) 5 (5 * (k + 1) + 1) < putR (g_tb σ) (g_n σ) (rwN σ) 5 (5 * k + 1)
          intro k hk
          by_cases z : k + 1 = g_n σ
          · rw [z, putR_new 5 (by decide), putR_new 5 (by decide), putR_old (by omega), putR_old (by omega)]
            rcases q3 with g | g
            · omega
            · have e : g_n σ - 1 = k := by omega
              have g : g_tb σ (5 * (g_n σ - 1) + 0) < rwN σ 0 ∧ ¬ rwN σ 1 < g_tb σ (5 * (g_n σ - 1) + 1) := g
              rw [e] at g
              exact g
          · rw [putR_old (by omega), putR_old (by omega), putR_old (by omega), putR_old (by omega)]
            exact hI.2.2.2.1 k (by omega)
      · rw [if_neg q3]; exact hI
    · rw [if_neg q2]; exact hI
  · rw [if_neg q]; exact hI
