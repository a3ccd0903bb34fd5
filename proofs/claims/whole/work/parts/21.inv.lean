/-! What holds of every state that the calls reach. -/
def Inv (σ : SG) : Prop := g_bl σ ≤ 40 ∧ g_n σ ≤ 10 ∧ (∀ k, k < g_n σ → dr (g_tb σ (5 * k + 0)) ∧ 0 ≤ (g_tb σ (5 * k + 1)).toInt ∧ (g_tb σ (5 * k + 1)).toInt ≤ 9999999) ∧ (∀ k, k + 1 < g_n σ → g_tb σ (5 * k + 0) < g_tb σ (5 * (k + 1) + 0) ∧ ¬ g_tb σ (5 * (k + 1) + 1) < g_tb σ (5 * k + 1)) ∧ (∀ i, i < 24 → dr (g_rd σ i)) ∧ (10000 ≤ (g_len σ).toInt ∧ (g_len σ).toInt ≤ 400000) ∧ (0 ≤ (g_mar σ).toInt ∧ (g_mar σ).toInt ≤ 100)
section INV
variable {σ : SG} (hI : Inv σ)
theorem inv_bl (hI : Inv σ) : g_bl σ ≤ 40 := hI.1
theorem inv_n (hI : Inv σ) : g_n σ ≤ 10 := hI.2.1
theorem inv_dr (hI : Inv σ) {k : Nat} (h : k < g_n σ) : dr (g_tb σ (5 * k + 0)) := (hI.2.2.1 k h).1
theorem inv_st (hI : Inv σ) {k : Nat} (h : k + 1 < g_n σ) : g_tb σ (5 * k + 0) < g_tb σ (5 * (k + 1) + 0) := (hI.2.2.2.1 k h).1
theorem inv_wt (hI : Inv σ) {k : Nat} (h : k + 1 < g_n σ) : ¬ g_tb σ (5 * (k + 1) + 1) < g_tb σ (5 * k + 1) := (hI.2.2.2.1 k h).2
theorem inv_rd (hI : Inv σ) {i : Nat} (h : i < 24) : dr (g_rd σ i) := hI.2.2.2.2.1 i h
theorem inv_len (hI : Inv σ) : 10000 ≤ (g_len σ).toInt ∧ (g_len σ).toInt ≤ 400000 := hI.2.2.2.2.2.1
theorem inv_mar (hI : Inv σ) : 0 ≤ (g_mar σ).toInt ∧ (g_mar σ).toInt ≤ 100 := hI.2.2.2.2.2.2
theorem sm_mar (hI : Inv σ) : sm (g_mar σ) := by
  have := inv_mar hI
  unfold sm; omega
theorem sm_marN (hI : Inv σ) : sm (-(g_mar σ)) := by
  have := inv_mar hI
  unfold sm
  rw [ti_neg (by omega)]; omega
theorem sm_0 : sm 0 := by unfold sm; decide
theorem len_100 (hI : Inv σ) : ¬ 100 * g_len σ = 0 := by
  have := inv_len hI
  intro h
  have e : (100 * g_len σ).toInt = 100 * (g_len σ).toInt := ti_mul (x := 100) (by show _ ≤ (100 : Int) * _; omega) (by show (100 : Int) * _ < _; omega)
  rw [h] at e
  have e0 : (0 : Int64).toInt = 0 := rfl
  omega
theorem len_1000 (hI : Inv σ) : ¬ 1000 * g_len σ = 0 := by
  have := inv_len hI
  intro h
  have e : (1000 * g_len σ).toInt = 1000 * (g_len σ).toInt := ti_mul (x := 1000) (by show _ ≤ (1000 : Int) * _; omega) (by show (1000 : Int) * _ < _; omega)
  rw [h] at e
  have e0 : (0 : Int64).toInt = 0 := rfl
  omega
theorem fF_dr (hI : Inv σ) {j : Nat} (hj : j < 4) : dr (fF σ j) := mean_dr (inv_rd hI (by omega)) (inv_rd hI (by omega))
theorem fM_dr (hI : Inv σ) {j : Nat} (hj : j < 4) : dr (fM σ j) := mean_dr (inv_rd hI (by omega)) (inv_rd hI (by omega))
theorem fA_dr (hI : Inv σ) {j : Nat} (hj : j < 4) : dr (fA σ j) := mean_dr (inv_rd hI (by omega)) (inv_rd hI (by omega))
theorem lt_tr {a b c : Int64} (h1 : a < b) (h2 : b < c) : a < c := by rw [ti_lt] at *; omega
theorem lt_nt {a b c : Int64} (h1 : a < b) (h2 : ¬ c < b) : a < c := by rw [ti_lt] at *; omega
theorem nt_lt {a b c : Int64} (h1 : ¬ b < a) (h2 : b < c) : a < c := by rw [ti_lt] at *; omega
theorem nt_tr {a b c : Int64} (h1 : ¬ b < a) (h2 : ¬ c < b) : ¬ c < a := by rw [ti_lt] at *; omega
theorem lt_as {a b : Int64} (h1 : a < b) : ¬ b < a := by rw [ti_lt] at *; omega
theorem eq_of {a b : Int64} (h1 : ¬ a < b) (h2 : ¬ b < a) : a = b := ti_eq (by rw [ti_lt] at *; omega)
theorem lt_ir (a : Int64) : ¬ a < a := by rw [ti_lt]; omega
theorem lt_of {a b : Int64} (h1 : ¬ b < a) (h2 : ¬ a = b) : a < b := by
  rw [ti_lt] at *
  have : ¬ a.toInt = b.toInt := fun h => h2 (ti_eq h)
  omega
/-- the drafts grow -/
theorem inv_up (hI : Inv σ) : ∀ (m i : Nat), i + m + 1 < g_n σ → g_tb σ (5 * i + 0) < g_tb σ (5 * (i + m + 1) + 0)
  | 0, i, h => inv_st hI h
  | m + 1, i, h => lt_tr (inv_up hI m i (by omega)) (inv_st hI (k := i + m + 1) (by omega))
theorem inv_lt (hI : Inv σ) {i j : Nat} (h : i < j) (hj : j < g_n σ) : g_tb σ (5 * i + 0) < g_tb σ (5 * j + 0) := by
  have := inv_up hI (j - i - 1) i (by omega)
  rw [show i + (j - i - 1) + 1 = j from by omega] at this
  exact this
theorem inv_le (hI : Inv σ) {i j : Nat} (h : i ≤ j) (hj : j < g_n σ) : ¬ g_tb σ (5 * j + 0) < g_tb σ (5 * i + 0) := by
  rcases Nat.lt_or_eq_of_le h with q | q
  · exact lt_as (inv_lt hI q hj)
  · subst q; exact lt_ir _
/-- the displacements don't fall -/
theorem inv_wm (hI : Inv σ) : ∀ (m i : Nat), i + m < g_n σ → ¬ g_tb σ (5 * (i + m) + 1) < g_tb σ (5 * i + 1)
  | 0, i, h => lt_ir _
  | m + 1, i, h => nt_tr (inv_wm hI m i (by omega)) (inv_wt hI (k := i + m) (by omega))
theorem inv_wl (hI : Inv σ) {i j : Nat} (h : i ≤ j) (hj : j < g_n σ) : ¬ g_tb σ (5 * j + 1) < g_tb σ (5 * i + 1) := by
  have := inv_wm hI (j - i) i (by omega)
  rw [show i + (j - i) = j from by omega] at this
  exact this
theorem upf_is {f : Nat → Int64} {d : Int64} {k n : Nat} (hk : k < n) (h1 : ∀ i, i < k → f i < d) (h2 : ¬ f k < d) : upf f d 0 n = k := by
  have key : ∀ m i : Nat, i + m = k → upf f d i (n - i) = k := by
    intro m
    induction m with
    | zero =>
      intro i h
      have : i = k := by omega
      subst this
      exact upf_here hk h2
    | succ m ih =>
      intro i h
      rw [upf_lt (by omega) (h1 i (by omega))]
      exact ih (i + 1) (by omega)
  have := key k 0 (by omega)
  rw [show n - 0 = n from by omega] at this
  exact this
theorem upf_no {f : Nat → Int64} {d : Int64} {n : Nat} (h1 : ∀ i, i < n → f i < d) : upf f d 0 n = n := by
  have key : ∀ m i : Nat, i + m = n → upf f d i (n - i) = n := by
    intro m
    induction m with
    | zero =>
      intro i h
      have : i = n := by omega
      subst this
      exact upf_end (by omega)
    | succ m ih =>
      intro i h
      rw [upf_lt (by omega) (h1 i (by omega))]
      exact ih (i + 1) (by omega)
  have := key n 0 (by omega)
  rw [show n - 0 = n from by omega] at this
  exact this
/-- the reference's end at a row's draft -/
theorem at_eq (hI : Inv σ) {k p : Nat} {d : Int64} (hk : k < g_n σ) (e : g_tb σ (5 * k + 0) = d) : g_tb σ (5 * k + p) = vA σ p d := by
  have hu : upf (fun r => g_tb σ (5 * r + 0)) d 0 (g_n σ) = k := upf_is hk (fun i hi => by rw [← e]; exact inv_lt hI hi hk) (by show ¬ g_tb σ (5 * k + 0) < d; rw [e]; exact lt_ir _)
  unfold vA
  rw [hu, vaU, if_neg (fun q => q hk), if_pos e]
theorem sub_ne {a b : Int64} (h : b < a) : ¬ a - b = 0 := fun q => by
  have := sub0 q
  rw [this] at h
  exact lt_ir _ h
/-- the reference's end between two rows -/
theorem at_mid (hI : Inv σ) {k p : Nat} {d : Int64} (hk : k + 1 < g_n σ) (h1 : ¬ d < g_tb σ (5 * k + 0)) (h2 : ¬ g_tb σ (5 * k + 0) = d) (h3 : d < g_tb σ (5 * (k + 1) + 0)) : ipl σ p d (k + 1) = vA σ p d := by
  have h4 : g_tb σ (5 * k + 0) < d := lt_of h1 h2
  have hu : upf (fun r => g_tb σ (5 * r + 0)) d 0 (g_n σ) = k + 1 := upf_is hk (fun i hi => by
    rcases Nat.lt_or_eq_of_le (Nat.le_of_lt_succ hi) with q | q
    · exact lt_tr (inv_lt hI q (by omega)) h4
    · subst q; exact h4) (lt_as h3)
  unfold vA
  rw [hu, vaU, if_neg (fun q => q hk), if_neg (fun e => by rw [e] at h3; exact lt_ir _ h3), if_neg (by omega)]
  rw [if_neg (show ¬ (g_tb σ (5 * (k + 1) + 0) - g_tb σ (5 * (k + 1 - 1) + 0) = 0) from sub_ne (inv_st hI (k := k) hk))]
theorem at_last {k : Nat} {d : Int64} (hc : cov σ d) (hk : k < g_n σ) (hl : ¬ k + 1 < g_n σ) (h1 : ¬ d < g_tb σ (5 * k + 0)) : g_tb σ (5 * k + 0) = d := by
  have e : k = g_n σ - 1 := by omega
  subst e
  exact eq_of hc.2.2 h1
/-- what isn't covered has no value -/
theorem va_no (hI : Inv σ) {p : Nat} {d : Int64} (h : ¬ cov σ d) : vA σ p d = NCO := by
  rcases Nat.eq_zero_or_pos (g_n σ) with q | q
  · unfold vA vaU
    rw [if_pos (by rw [q]; show ¬ _ < 0; omega)]
  · by_cases a : d < fst_ σ
    · have hu : upf (fun r => g_tb σ (5 * r + 0)) d 0 (g_n σ) = 0 := upf_is q (fun i hi => absurd hi (by omega)) (lt_as a)
      unfold vA
      rw [hu, vaU, if_neg (fun z => z q), if_neg (fun e => by rw [← e] at a; exact lt_ir _ a), if_pos rfl]
    · by_cases b : lst_ σ < d
      · have hu : upf (fun r => g_tb σ (5 * r + 0)) d 0 (g_n σ) = g_n σ := upf_no (fun i hi => nt_lt (inv_le hI (i := i) (j := g_n σ - 1) (by omega) (by omega)) b)
        unfold vA
        rw [hu, vaU, if_pos (by omega)]
      · exact absurd ⟨q, a, b⟩ h
theorem aValue_in (hI : Inv σ) {i : Nat} (hi : i < 4) (d : Int32) : aValue σ (nI i) d = vA σ (i + 1) d.toInt64 := by
  unfold aValue
  have : inS (nI i) 4 := ⟨nI_pos (by omega), (nI_ltI (b := 4) (by omega) (by omega)).mpr hi⟩
  rw [if_pos this, cl4 hi]
  by_cases h : cov σ d.toInt64
  · rw [if_pos h]
  · rw [if_neg h, va_no hI h]
theorem cov_dr (hI : Inv σ) {d : Int64} (h : cov σ d) : dr d := by
  obtain ⟨h0, h1, h2⟩ := h
  have a := inv_dr hI h0
  have b := inv_dr hI (k := g_n σ - 1) (by omega)
  have h1 : ¬ d < g_tb σ (5 * 0 + 0) := h1
  have h2 : ¬ g_tb σ (5 * (g_n σ - 1) + 0) < d := h2
  unfold dr at *
  rw [ti_lt] at h1 h2
  omega
theorem t500_ : (500 : Int64).toInt = 500 := rfl
theorem cov_hi (hI : Inv σ) {d : Int64} (h : cov σ d) : cov σ (mnL (d + 500) (lst_ σ)) := by
  have hd := cov_dr hI h
  obtain ⟨h0, h1, h2⟩ := h
  unfold dr at hd
  have e : (d + 500).toInt = d.toInt + 500 := by rw [ti_add (by rw [t500_]; omega) (by rw [t500_]; omega), t500_]
  unfold mnL
  by_cases q : lst_ σ < d + 500
  · rw [if_pos q]
    exact ⟨h0, inv_le hI (i := 0) (by omega) (by omega), lt_ir _⟩
  · rw [if_neg q]
    refine ⟨h0, ?_, q⟩
    rw [ti_lt] at *
    omega
theorem cov_lo (hI : Inv σ) {d : Int64} (h : cov σ d) : cov σ (mxL (d - 500) (fst_ σ)) := by
  have hd := cov_dr hI h
  obtain ⟨h0, h1, h2⟩ := h
  unfold dr at hd
  have e : (d - 500).toInt = d.toInt - 500 := by rw [ti_sub (by rw [t500_]; omega) (by rw [t500_]; omega), t500_]
  unfold mxL
  by_cases q : fst_ σ < d - 500
  · rw [if_pos q]
    refine ⟨h0, lt_as q, ?_⟩
    rw [ti_lt] at *
    omega
  · rw [if_neg q]
    exact ⟨h0, lt_ir _, inv_le hI (i := 0) (j := g_n σ - 1) (by omega) (by omega)⟩
theorem mx_t {x y : Int64} (h : x < y) : y = mxL x y := by unfold mxL; rw [if_neg (lt_as h)]
theorem mx_f {x y : Int64} (h : ¬ x < y) : x = mxL x y := by
  unfold mxL
  by_cases q : y < x
  · rw [if_pos q]
  · rw [if_neg q]; exact eq_of h q
theorem mx_g {x y : Int64} (h : y < x) : x = mxL x y := by unfold mxL; rw [if_pos h]
theorem mx_n {x y : Int64} (h : ¬ y < x) : y = mxL x y := by unfold mxL; rw [if_neg h]
theorem mn_t {x y : Int64} (h : x < y) : x = mnL x y := by unfold mnL; rw [if_neg (lt_as h)]
theorem mn_f {x y : Int64} (h : ¬ x < y) : y = mnL x y := by
  unfold mnL
  by_cases q : y < x
  · rw [if_pos q]
  · rw [if_neg q]; exact (eq_of h q).symm
theorem mn_g {x y : Int64} (h : y < x) : y = mnL x y := by unfold mnL; rw [if_pos h]
theorem mn_n {x y : Int64} (h : ¬ y < x) : x = mnL x y := by unfold mnL; rw [if_neg h]
def hbI (o : Option Nat) : Int32 := match o with
  | none => -1
  | some i => nI i
theorem hbI_neg {σ : SG} {k : Nat} (hk : k ≤ 4) (h : hbI (hbs σ k) < 0) : hbs σ k = none := by
  cases e : hbs σ k with
  | none => rfl
  | some i =>
    rw [e] at h
    exact absurd h (nI_pos (by have := hb_lt e; omega))
theorem hbI_pos {σ : SG} {k : Nat} (hk : k ≤ 4) (h : ¬ hbI (hbs σ k) < 0) : ∃ i, i < 4 ∧ hbs σ k = some i := by
  cases e : hbs σ k with
  | none =>
    rw [e] at h
    exact absurd (by decide) h
  | some i => exact ⟨i, by have := hb_lt e; omega, rfl⟩
end INV
theorem hb_cmp {σ : SG} : ∀ {k i : Nat}, hbs σ k = some i → cmp σ i 0
  | 0, i, h => by cases h
  | k + 1, i, h => by
    rw [hbs] at h
    by_cases q : cmp σ k 0
    · rw [if_pos q] at h
      cases e : hbs σ k with
      | none => rw [e] at h; cases h; exact q
      | some r =>
        rw [e] at h
        have hr := hb_cmp e
        simp only at h
        by_cases z : nw σ r 0 < nw σ k 0
        · rw [if_pos z] at h; cases h; exact q
        · rw [if_neg z] at h; cases h; exact hr
    · rw [if_neg q] at h
      exact hb_cmp h
theorem hbE1 {σ : SG} {k : Nat} {bv : Int32} (e : k = 4) (h : bv = hbI (hbs σ k)) (c : bv < 0) : (-9000000000000000007 : Int64) = aHeaviest σ := by
  subst e
  rw [h] at c
  unfold aHeaviest
  rw [hbI_neg (by omega) c]
  rfl
theorem hbE2 {σ : SG} {k : Nat} {bv : Int32} (e : k = 4) (h : bv = hbI (hbs σ k)) (c : ¬ bv < 0) : bv.toInt64 = aHeaviest σ := by
  subst e
  rw [h] at c
  obtain ⟨i, hi, e1⟩ := hbI_pos (by omega) c
  unfold aHeaviest
  rw [h, e1]
  exact nI_l (by omega)
