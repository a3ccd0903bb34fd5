/-! The reader of rows, in natural numbers. -/
-- the reader: numbers, place, digits, negative, magnitude
abbrev NK : Type := (Nat → Int64) × Nat × Nat × Nat × Nat
abbrev z_nu (z : NK) : Nat → Int64 := z.1
abbrev z_pl (z : NK) : Nat := z.2.1
abbrev z_dg (z : NK) : Nat := z.2.2.1
abbrev z_ng (z : NK) : Nat := z.2.2.2.1
abbrev z_mg (z : NK) : Nat := z.2.2.2.2
abbrev eK (z : NK) : KX := (z.1, nI z.2.1, nI z.2.2.1, nI z.2.2.2.1, lN z.2.2.2.2)
def grT (k : Nat) : Nat := match k with
  | 0 => 30000
  | 1 => 9999999
  | 2 => 20000
  | 3 => 100000
  | _ => 200000
/-- a digit is read -/
def nDig (z : NK) (d : Nat) : Option NK :=
  if (0 < z_dg z ∧ z_mg z = 0) ∨ (0 < z_ng z ∧ z_dg z = 0 ∧ d = 0) then none
  else if grT (z_pl z) < 10 * z_mg z + d then none
  else some (vp_updL (z_nu z) (z_pl z) (if z_ng z = 0 then lN (10 * z_mg z + d) else -(lN (10 * z_mg z + d))), z_pl z, z_dg z + 1, z_ng z, 10 * z_mg z + d)
def nCom (z : NK) : Option NK := if z_dg z = 0 ∨ ¬ z_pl z < 4 then none else some (z_nu z, z_pl z + 1, 0, 0, 0)
def nMin (z : NK) : Option NK := if ¬ z_pl z = 3 ∨ 0 < z_ng z ∨ 0 < z_dg z then none else some (z_nu z, z_pl z, z_dg z, 1, z_mg z)
def nSt (z : NK) (c : Int32) : Option NK := if c = 44 then nCom z else if c = 45 then nMin z else if ¬ c < 48 ∧ ¬ 57 < c then nDig z (c - 48).toNatClampNeg else none
/-- the reader over the characters i .. i + k - 1: where it stops, and its state there -/
def nRun (f : Nat → Int32) : Nat → Nat → NK → Nat × NK
  | i, 0, z => (i, z)
  | i, k + 1, z => match nSt z (f i) with
    | none => (i, z)
    | some z1 => nRun f (i + 1) k z1
abbrev n0 (f : Nat → Int64) : NK := (f, 0, 0, 0, 0)
def rdN (σ : SG) : Nat × NK := nRun (g_bf σ) 0 (g_bl σ) (n0 (fun _ => 0))
abbrev whN (σ : SG) : Prop := (rdN σ).1 = g_bl σ ∧ z_pl (rdN σ).2 = 4 ∧ 0 < z_dg (rdN σ).2
def rwN (σ : SG) : Nat → Int64 := z_nu (rdN σ).2
abbrev ascN (σ : SG) : Prop := g_n σ = 0 ∨ (lst_ σ < rwN σ 0 ∧ ¬ rwN σ 1 < g_tb σ (5 * (g_n σ - 1) + 1))
def aErr (σ : SG) : Int64 := lN (rdN σ).1
def aAddR (σ : SG) : Int64 := if whN σ then (if g_n σ < 10 then (if ascN σ then lN (g_n σ + 1) else NAS) else FUL) else INV
def nAddR (σ : SG) : SG := if whN σ then (if g_n σ < 10 then (if ascN σ then u_bl (u_n (u_tb σ (putR (g_tb σ) (g_n σ) (rwN σ) 5)) (g_n σ + 1)) 0 else σ) else σ) else σ
abbrev pT (C : Nat → ClassId) (a : Nat → Nat) (σ : SG) (z : NK) (o : Option NK) : Option Value → va_W → Prop := fun v w1 => (o = none ∧ v = some (.int 0) ∧ w1 = wX C a σ (eK z)) ∨ (∃ z1 : NK, o = some z1 ∧ v = some (.int 1) ∧ w1 = wX C a σ (eK z1))
theorem grT_le (k : Nat) : grT k ≤ 9999999 := by
  unfold grT
  split <;> decide
theorem grN_at {k : Nat} (h : k < 5) : grN (nI k).toNatClampNeg = lN (grT k) := by
  rw [nI_clamp (by omega)]
  match k, h with
  | 0, _ => rfl
  | 1, _ => rfl
  | 2, _ => rfl
  | 3, _ => rfl
  | 4, _ => rfl
/-- what holds of the reader -/
def nOk (i : Nat) (z : NK) : Prop := z_pl z < 5 ∧ z_dg z ≤ i ∧ z_ng z ≤ 1 ∧ z_mg z ≤ 9999999
theorem nSt_ok {i : Nat} {z z1 : NK} {c : Int32} (h : nOk i z) (e : nSt z c = some z1) : nOk (i + 1) z1 := by
  obtain ⟨nu, pl, dg, ng, mg⟩ := z
  obtain ⟨h1, h2, h3, h4⟩ := h
  simp only [z_pl, z_dg, z_ng, z_mg] at h1 h2 h3 h4
  unfold nSt at e
  by_cases q1 : c = 44
  · rw [if_pos q1] at e
    unfold nCom at e
    simp only [z_pl, z_dg] at e
    by_cases q : dg = 0 ∨ ¬ pl < 4
    · rw [if_pos q] at e; cases e
    · rw [if_neg q] at e
      cases e
      refine ⟨?_, Nat.zero_le _, Nat.zero_le _, Nat.zero_le _⟩
      show pl + 1 < 5
      omega
  · rw [if_neg q1] at e
    by_cases q2 : c = 45
    · rw [if_pos q2] at e
      unfold nMin at e
      simp only [z_pl, z_dg, z_ng] at e
      by_cases q : ¬ pl = 3 ∨ 0 < ng ∨ 0 < dg
      · rw [if_pos q] at e; cases e
      · rw [if_neg q] at e
        cases e
        exact ⟨h1, Nat.le_succ_of_le h2, Nat.le_refl _, h4⟩
    · rw [if_neg q2] at e
      by_cases q3 : ¬ c < 48 ∧ ¬ 57 < c
      · rw [if_pos q3] at e
        unfold nDig at e
        simp only [z_pl, z_dg, z_ng, z_mg] at e
        by_cases q : (0 < dg ∧ mg = 0) ∨ (0 < ng ∧ dg = 0 ∧ (c - 48).toNatClampNeg = 0)
        · rw [if_pos q] at e; cases e
        · rw [if_neg q] at e
          by_cases q5 : grT pl < 10 * mg + (c - 48).toNatClampNeg
          · rw [if_pos q5] at e; cases e
          · rw [if_neg q5] at e
            cases e
            have := grT_le pl
            exact ⟨h1, Nat.succ_le_succ h2, h3, by show 10 * mg + _ ≤ _; omega⟩
      · rw [if_neg q3] at e; cases e
theorem nRun_some {f : Nat → Int32} {i n : Nat} {z z1 : NK} (h : i < n) (e : nSt z (f i) = some z1) : nRun f i (n - i) z = nRun f (i + 1) (n - (i + 1)) z1 := by
  obtain ⟨r, hr⟩ : ∃ r, n - i = r + 1 := ⟨n - i - 1, by omega⟩
  rw [hr, show n - (i + 1) = r from by omega, nRun, e]
theorem nRun_none {f : Nat → Int32} {i n : Nat} {z : NK} (h : i < n) (e : nSt z (f i) = none) : nRun f i (n - i) z = (i, z) := by
  obtain ⟨r, hr⟩ : ∃ r, n - i = r + 1 := ⟨n - i - 1, by omega⟩
  rw [hr, nRun, e]
theorem nRun_end {f : Nat → Int32} {i n : Nat} {z : NK} (h : ¬ i < n) : nRun f i (n - i) z = (i, z) := by
  rw [show n - i = 0 from by omega, nRun]
theorem nRun_le (f : Nat → Int32) : ∀ (k i : Nat) (z : NK), (nRun f i k z).1 ≤ i + k
  | 0, i, z => Nat.le_refl _
  | k + 1, i, z => by
    rw [nRun]
    cases e : nSt z (f i) with
    | none => exact Nat.le_add_right _ _
    | some z1 =>
      have := nRun_le f k (i + 1) z1
      show (nRun f (i + 1) k z1).1 ≤ _
      omega
/-- two readers that stand at the same place, and agree in what this row has written -/
def nEq (y z : NK) : Prop := y.2 = z.2 ∧ ∀ j, (j < z_pl z ∨ (j = z_pl z ∧ 0 < z_dg z)) → z_nu y j = z_nu z j
theorem nSt_eq {y z : NK} (c : Int32) (h : nEq y z) : (nSt y c = none ∧ nSt z c = none) ∨ ∃ y1 z1, nSt y c = some y1 ∧ nSt z c = some z1 ∧ nEq y1 z1 := by
  obtain ⟨nu, r⟩ := y
  obtain ⟨mu, pl, dg, ng, mg⟩ := z
  obtain ⟨h1, h2⟩ := h
  have h1 : r = (pl, dg, ng, mg) := h1
  subst h1
  simp only [z_pl, z_dg, z_nu] at h2
  unfold nSt
  by_cases q1 : c = 44
  · rw [if_pos q1, if_pos q1]
    unfold nCom
    simp only [z_pl, z_dg, z_nu]
    by_cases q : dg = 0 ∨ ¬ pl < 4
    · rw [if_pos q, if_pos q]; exact Or.inl ⟨rfl, rfl⟩
    · rw [if_neg q, if_neg q]
      refine Or.inr ⟨_, _, rfl, rfl, rfl, fun j hj => ?_⟩
      simp only [z_pl, z_dg] at hj
      exact h2 j (by omega)
  · rw [if_neg q1, if_neg q1]
    by_cases q2 : c = 45
    · rw [if_pos q2, if_pos q2]
      unfold nMin
      simp only [z_pl, z_dg, z_nu, z_ng, z_mg]
      by_cases q : ¬ pl = 3 ∨ 0 < ng ∨ 0 < dg
      · rw [if_pos q, if_pos q]; exact Or.inl ⟨rfl, rfl⟩
      · rw [if_neg q, if_neg q]
        exact Or.inr ⟨_, _, rfl, rfl, rfl, fun j hj => h2 j hj⟩
    · rw [if_neg q2, if_neg q2]
      by_cases q3 : ¬ c < 48 ∧ ¬ 57 < c
      · rw [if_pos q3, if_pos q3]
        unfold nDig
        simp only [z_pl, z_dg, z_nu, z_ng, z_mg]
        by_cases q : (0 < dg ∧ mg = 0) ∨ (0 < ng ∧ dg = 0 ∧ (c - 48).toNatClampNeg = 0)
        · rw [if_pos q, if_pos q]; exact Or.inl ⟨rfl, rfl⟩
        · rw [if_neg q, if_neg q]
          by_cases q5 : grT pl < 10 * mg + (c - 48).toNatClampNeg
          · rw [if_pos q5, if_pos q5]; exact Or.inl ⟨rfl, rfl⟩
          · rw [if_neg q5, if_neg q5]
            refine Or.inr ⟨_, _, rfl, rfl, rfl, fun j hj => ?_⟩
            simp only [z_pl, z_dg] at hj
            show vp_updL nu pl _ j = vp_updL mu pl _ j
            unfold vp_updL
            by_cases z : j = pl
            · rw [if_pos z, if_pos z]
            · rw [if_neg z, if_neg z]
              exact h2 j (by omega)
      · rw [if_neg q3, if_neg q3]; exact Or.inl ⟨rfl, rfl⟩
theorem nRun_eq (f : Nat → Int32) : ∀ (k i : Nat) (y z : NK), nEq y z → (nRun f i k y).1 = (nRun f i k z).1 ∧ nEq (nRun f i k y).2 (nRun f i k z).2
  | 0, i, y, z, h => ⟨rfl, h⟩
  | k + 1, i, y, z, h => by
    rcases nSt_eq (f i) h with ⟨a, b⟩ | ⟨y1, z1, a, b, c⟩
    · rw [nRun, nRun, a, b]; exact ⟨rfl, h⟩
    · rw [nRun, nRun, a, b]; exact nRun_eq f k (i + 1) y1 z1 c
theorem n0_eq (f g : Nat → Int64) : nEq (n0 f) (n0 g) := ⟨rfl, fun j hj => by
  simp only [n0, z_pl, z_dg] at hj
  omega⟩
/-- the reader's end doesn't ask what its numbers were -/
theorem rd_same (σ : SG) (f : Nat → Int64) : (nRun (g_bf σ) 0 (g_bl σ) (n0 f)).1 = (rdN σ).1 ∧ nEq (nRun (g_bf σ) 0 (g_bl σ) (n0 f)).2 (rdN σ).2 := nRun_eq _ _ _ _ _ (n0_eq f _)
theorem nRun_ok (f : Nat → Int32) : ∀ (k i : Nat) (z : NK), nOk i z → nOk (i + k) (nRun f i k z).2
  | 0, i, z, h => h
  | k + 1, i, z, h => by
    rw [nRun]
    cases e : nSt z (f i) with
    | none =>
      show nOk (i + (k + 1)) z
      exact ⟨h.1, by have := h.2.1; omega, h.2.2.1, h.2.2.2⟩
    | some z1 =>
      have := nRun_ok f k (i + 1) z1 (nSt_ok h e)
      rw [show i + 1 + k = i + (k + 1) from by omega] at this
      exact this
theorem ch_nat {c : Int32} (h1 : ¬ c < 48) (h2 : ¬ 57 < c) : ∃ n : Nat, 48 ≤ n ∧ n ≤ 57 ∧ c = nI n := by
  rcases pk_ix c (n := 58) (by decide) with q | q | q
  · exact absurd (show c < 48 from by rw [Int32.lt_iff_toInt_lt] at q ⊢; have e : (48 : Int32).toInt = 48 := rfl; have e0 : (0 : Int32).toInt = 0 := rfl; omega) h1
  · refine absurd (show (57 : Int32) < c from ?_) h2
    rw [Int32.lt_iff_toInt_lt]
    rw [Int32.le_iff_toInt_le] at q
    have e : (57 : Int32).toInt = 57 := rfl
    have e2 : (nI 58).toInt = 58 := rfl
    omega
  · obtain ⟨j, hj, rfl⟩ := q
    refine ⟨j, ?_, by omega, rfl⟩
    rw [show (48 : Int32) = nI 48 from rfl, nI_ltI (by omega) (by omega)] at h1
    omega
theorem cl48 {n : Nat} (h1 : 48 ≤ n) (h2 : n ≤ 57) : (nI n - 48).toNatClampNeg = n - 48 := by
  rw [show (48 : Int32) = nI 48 from rfl, pk_sub h1, nI_clamp (by omega)]
theorem n0_ok (i : Nat) (f : Nat → Int64) : nOk i (n0 f) := ⟨Nat.zero_lt_succ 4, Nat.zero_le _, Nat.zero_le _, Nat.zero_le _⟩
theorem rd_le (σ : SG) (f : Nat → Int64) : (nRun (g_bf σ) 0 (g_bl σ) (n0 f)).1 ≤ g_bl σ := by
  have := nRun_le (g_bf σ) (g_bl σ) 0 (n0 f)
  omega
theorem rd_ok (σ : SG) (f : Nat → Int64) (h : g_bl σ ≤ 40) : z_pl (nRun (g_bf σ) 0 (g_bl σ) (n0 f)).2 < 5 ∧ z_dg (nRun (g_bf σ) 0 (g_bl σ) (n0 f)).2 ≤ 40 ∧ z_ng (nRun (g_bf σ) 0 (g_bl σ) (n0 f)).2 ≤ 1 ∧ z_mg (nRun (g_bf σ) 0 (g_bl σ) (n0 f)).2 ≤ 9999999 := by
  have h1 := nRun_ok (g_bf σ) (g_bl σ) 0 (n0 f) (n0_ok 0 f)
  obtain ⟨a, b, c, d⟩ := h1
  exact ⟨a, by omega, c, d⟩
/-- a whole row's numbers don't ask what stood there before -/
theorem rd_row {σ : SG} (f : Nat → Int64) (h : whN σ) {j : Nat} (hj : j < 5) : z_nu (nRun (g_bf σ) 0 (g_bl σ) (n0 f)).2 j = rwN σ j := by
  obtain ⟨-, e2, e3⟩ := rd_same σ f
  obtain ⟨-, h1, h2⟩ := h
  exact e3 j (by omega)
theorem rd_pl (σ : SG) (f : Nat → Int64) : z_pl (nRun (g_bf σ) 0 (g_bl σ) (n0 f)).2 = z_pl (rdN σ).2 := by
  have := (rd_same σ f).2.1
  exact congrArg (fun z => z.1) this
theorem rd_dg (σ : SG) (f : Nat → Int64) : z_dg (nRun (g_bf σ) 0 (g_bl σ) (n0 f)).2 = z_dg (rdN σ).2 := by
  have := (rd_same σ f).2.1
  exact congrArg (fun z => z.2.1) this
theorem putR_eq {t : Nat → Int64} {n : Nat} {f g : Nat → Int64} : ∀ {k : Nat}, (∀ j, j < k → f j = g j) → putR t n f k = putR t n g k
  | 0, _ => rfl
  | k + 1, h => by rw [putR, putR, putR_eq (fun j hj => h j (by omega)), h k (by omega)]
theorem sm_m5 : sm (-500) := by unfold sm; decide
theorem sm_p5 : sm 500 := by unfold sm; decide
