/-! The least draft: what the class computes by a quotient is what the reference searches for. -/
theorem upf_spec {f : Nat → Int64} {d : Int64} : ∀ (k i : Nat), (∀ m, i ≤ m → m < upf f d i k → f m < d) ∧ i ≤ upf f d i k ∧ upf f d i k ≤ i + k ∧ (upf f d i k < i + k → ¬ f (upf f d i k) < d) := by
  intro k
  induction k with
  | zero => intro i; exact ⟨fun m h1 h2 => absurd h2 (by rw [upf]; omega), Nat.le_refl _, Nat.le_refl _, fun h => absurd h (Nat.lt_irrefl _)⟩
  | succ k ih =>
    intro i
    rw [upf]
    by_cases q : f i < d
    · rw [if_pos q]
      obtain ⟨a, b, c, e⟩ := ih (i + 1)
      refine ⟨fun m h1 h2 => ?_, by omega, by omega, fun h => e (by omega)⟩
      rcases Nat.lt_or_eq_of_le h1 with z | z
      · exact a m z h2
      · subst z; exact q
    · rw [if_neg q]
      exact ⟨fun m h1 h2 => absurd h2 (by omega), Nat.le_refl _, by omega, fun _ => q⟩
def Dt (σ : SG) (i : Nat) : Int := (g_tb σ (5 * i + 0)).toInt
def Vt (σ : SG) (i : Nat) : Int := (g_tb σ (5 * i + 1)).toInt
section DRAFT
variable {σ : SG}
theorem Dt_b (hI : Inv σ) {i : Nat} (h : i < g_n σ) : 0 ≤ Dt σ i ∧ Dt σ i ≤ 30000 := inv_dr hI h
theorem Vt_b (hI : Inv σ) {i : Nat} (h : i < g_n σ) : 0 ≤ Vt σ i ∧ Vt σ i ≤ 9999999 := (hI.2.2.1 i h).2
theorem Dt_lt (hI : Inv σ) {i j : Nat} (h : i < j) (hj : j < g_n σ) : Dt σ i < Dt σ j := ti_lt.mp (inv_lt hI h hj)
theorem Dt_le (hI : Inv σ) {i j : Nat} (h : i ≤ j) (hj : j < g_n σ) : Dt σ i ≤ Dt σ j := by
  have := inv_le hI h hj
  rw [ti_lt] at this
  unfold Dt; omega
theorem Vt_le (hI : Inv σ) {i j : Nat} (h : i ≤ j) (hj : j < g_n σ) : Vt σ i ≤ Vt σ j := by
  have := inv_wl hI h hj
  rw [ti_lt] at this
  unfold Vt; omega
/-- the value between two rows, in numbers -/
theorem ipl_t (hI : Inv σ) {u : Nat} (h0 : 0 < u) (hu : u < g_n σ) {d : Int64} (h1 : Dt σ (u - 1) ≤ d.toInt) (h2 : d.toInt ≤ Dt σ u) :
    (ipl σ 1 d u).toInt = Vt σ (u - 1) + (Vt σ u - Vt σ (u - 1)) * (d.toInt - Dt σ (u - 1)) / (Dt σ u - Dt σ (u - 1)) ∧ Vt σ (u - 1) ≤ (ipl σ 1 d u).toInt ∧ (ipl σ 1 d u).toInt ≤ Vt σ u := by
  have b1 := Dt_b hI (i := u - 1) (by omega)
  have b2 := Dt_b hI hu
  have b3 := Vt_b hI (i := u - 1) (by omega)
  have b4 := Vt_b hI hu
  have l1 := Dt_lt hI (i := u - 1) (j := u) (by omega) hu
  have l2 := Vt_le hI (i := u - 1) (j := u) (by omega) hu
  have e1 : (g_tb σ (5 * u + 1) - g_tb σ (5 * (u - 1) + 1)).toInt = Vt σ u - Vt σ (u - 1) := ti_sub (by show _ ≤ Vt σ u - Vt σ (u - 1); omega) (by show Vt σ u - Vt σ (u - 1) < _; omega)
  have e2 : (d - g_tb σ (5 * (u - 1) + 0)).toInt = d.toInt - Dt σ (u - 1) := ti_sub (by show _ ≤ d.toInt - Dt σ (u - 1); omega) (by show d.toInt - Dt σ (u - 1) < _; omega)
  have e3 : (g_tb σ (5 * u + 0) - g_tb σ (5 * (u - 1) + 0)).toInt = Dt σ u - Dt σ (u - 1) := ti_sub (by show _ ≤ Dt σ u - Dt σ (u - 1); omega) (by show Dt σ u - Dt σ (u - 1) < _; omega)
  generalize hR : Vt σ u - Vt σ (u - 1) = R at *
  generalize hK : d.toInt - Dt σ (u - 1) = K at *
  generalize hS : Dt σ u - Dt σ (u - 1) = S at *
  have hP0 : 0 ≤ R * K := Int.mul_nonneg (by omega) (by omega)
  have hP1 : R * K ≤ R * S := Int.mul_le_mul_of_nonneg_left (by omega) (by omega)
  have hP2 : R * S ≤ 9999999 * S := Int.mul_le_mul_of_nonneg_right (by omega) (by omega)
  have e4 : ((g_tb σ (5 * u + 1) - g_tb σ (5 * (u - 1) + 1)) * (d - g_tb σ (5 * (u - 1) + 0))).toInt = R * K := by
    rw [ti_mul (by rw [e1, e2]; omega) (by rw [e1, e2]; omega), e1, e2]
  have e5 : (fd ((g_tb σ (5 * u + 1) - g_tb σ (5 * (u - 1) + 1)) * (d - g_tb σ (5 * (u - 1) + 0))) (g_tb σ (5 * u + 0) - g_tb σ (5 * (u - 1) + 0))).toInt = R * K / S := by
    rw [fd_toInt (by rw [e3]; omega), e4, e3]
  have hq0 : 0 ≤ R * K / S := Int.ediv_nonneg hP0 (by omega)
  have hq1 : R * K / S ≤ R := by
    have : R * K / S < R + 1 := by
      rw [Int.ediv_lt_iff_lt_mul (by omega), Int.add_mul, Int.one_mul]
      omega
    omega
  have e6 : (ipl σ 1 d u).toInt = Vt σ (u - 1) + R * K / S := by
    unfold ipl
    rw [ti_add (by rw [e5]; show _ ≤ Vt σ (u - 1) + _; omega) (by rw [e5]; show Vt σ (u - 1) + _ < _; omega), e5]
    rfl
  exact ⟨e6, by omega, by omega⟩
/-- the table's displacement at a covered draft: at a row, or between two -/
theorem va_case (hI : Inv σ) {d : Int64} (hc : cov σ d) : (∃ w, w < g_n σ ∧ Dt σ w = d.toInt ∧ (vA σ 1 d).toInt = Vt σ w) ∨ (∃ w, 0 < w ∧ w < g_n σ ∧ Dt σ (w - 1) < d.toInt ∧ d.toInt < Dt σ w ∧ vA σ 1 d = ipl σ 1 d w) := by
  obtain ⟨a, -, c, e⟩ := upf_spec (f := fun r => g_tb σ (5 * r + 0)) (d := d) (g_n σ) 0
  generalize hw : upf (fun r => g_tb σ (5 * r + 0)) d 0 (g_n σ) = w at *
  have hwn : w < g_n σ := by
    rcases Nat.lt_or_ge w (g_n σ) with q | q
    · exact q
    · exact absurd (a (g_n σ - 1) (Nat.zero_le _) (by have := hc.1; omega)) hc.2.2
  have he := e (by omega)
  by_cases q : g_tb σ (5 * w + 0) = d
  · refine Or.inl ⟨w, hwn, by unfold Dt; rw [q], ?_⟩
    unfold vA
    rw [hw, vaU, if_neg (fun z => z hwn), if_pos q]
    rfl
  · have h3 : d < g_tb σ (5 * w + 0) := lt_of he (fun z => q z.symm)
    have hw0 : 0 < w := by
      rcases Nat.eq_zero_or_pos w with z | z
      · rw [z] at h3
        exact absurd h3 hc.2.1
      · exact z
    have h4 := a (w - 1) (Nat.zero_le _) (by omega)
    refine Or.inr ⟨w, hw0, hwn, ti_lt.mp h4, ti_lt.mp h3, ?_⟩
    unfold vA
    rw [hw, vaU, if_neg (fun z => z hwn), if_neg q, if_neg (by omega), if_neg]
    have := sub_ne (inv_lt hI (i := w - 1) (j := w) (by omega) hwn)
    exact this
theorem ld_0 {x : Int64} (h : g_n σ = 0) : NCO = lD σ x := by
  unfold lD ldU
  rw [if_pos (by rw [h]; exact Nat.not_lt_zero _)]
theorem ld_no (hI : Inv σ) (h0 : 0 < g_n σ) {x : Int64} (h : g_tb σ (5 * (g_n σ - 1) + 1) < x) : NCO = lD σ x := by
  have hu : upf (fun r => g_tb σ (5 * r + 1)) x 0 (g_n σ) = g_n σ := upf_no (fun i hi => nt_lt (inv_wl hI (i := i) (j := g_n σ - 1) (by omega) (by omega)) h)
  unfold lD
  rw [hu, ldU, if_pos (by omega)]
/-- the answer is a covered draft, and just the drafts below it show less -/
theorem ld_key (hI : Inv σ) (h0 : 0 < g_n σ) {x : Int64} (hx : ¬ g_tb σ (5 * (g_n σ - 1) + 1) < x) :
    (Dt σ 0 ≤ (lD σ x).toInt ∧ (lD σ x).toInt ≤ Dt σ (g_n σ - 1)) ∧ ∀ d : Int64, cov σ d → ((vA σ 1 d).toInt < x.toInt ↔ d.toInt < (lD σ x).toInt) := by
  obtain ⟨a, -, c, e⟩ := upf_spec (f := fun r => g_tb σ (5 * r + 1)) (d := x) (g_n σ) 0
  generalize hu : upf (fun r => g_tb σ (5 * r + 1)) x 0 (g_n σ) = u at *
  have hun : u < g_n σ := by
    rcases Nat.lt_or_ge u (g_n σ) with q | q
    · exact q
    · exact absurd (a (g_n σ - 1) (Nat.zero_le _) (by omega)) hx
  have he : x.toInt ≤ Vt σ u := by
    have := e (by omega)
    rw [ti_lt] at this
    unfold Vt; omega
  rcases Nat.eq_zero_or_pos u with q | q
  · subst q
    have ht : lD σ x = fst_ σ := by unfold lD; rw [hu, ldU, if_neg (fun z => z hun), if_pos rfl]
    rw [ht]
    refine ⟨⟨Int.le_refl _, Dt_le hI (by omega) (by omega)⟩, fun d hc => ⟨fun h => ?_, fun h => absurd (ti_lt.mpr h) hc.2.1⟩⟩
    rcases va_case hI hc with ⟨w, h1, h2, h3⟩ | ⟨w, h1, h2, h3, h4, h5⟩
    · have := Vt_le hI (i := 0) (j := w) (by omega) h1
      omega
    · have := (ipl_t hI h1 h2 (d := d) (by omega) (by omega)).2.1
      rw [← h5] at this
      have := Vt_le hI (i := 0) (j := w - 1) (by omega) (by omega)
      omega
  · have hv : Vt σ (u - 1) < x.toInt := ti_lt.mp (a (u - 1) (Nat.zero_le _) (by omega))
    have b1 := Dt_b hI (i := u - 1) (by omega)
    have b2 := Dt_b hI hun
    have b3 := Vt_b hI (i := u - 1) (by omega)
    have b4 := Vt_b hI hun
    have l1 := Dt_lt hI (i := u - 1) (j := u) (by omega) hun
    have ht : lD σ x = g_tb σ (5 * (u - 1) + 0) - qt (-(x - g_tb σ (5 * (u - 1) + 1)) * (g_tb σ (5 * u + 0) - g_tb σ (5 * (u - 1) + 0))) (g_tb σ (5 * u + 1) - g_tb σ (5 * (u - 1) + 1)) := by
      unfold lD; rw [hu, ldU, if_neg (fun z => z hun), if_neg (by omega)]
    have e1 : (g_tb σ (5 * u + 1) - g_tb σ (5 * (u - 1) + 1)).toInt = Vt σ u - Vt σ (u - 1) := ti_sub (by show _ ≤ Vt σ u - Vt σ (u - 1); omega) (by show Vt σ u - Vt σ (u - 1) < _; omega)
    have e2 : (x - g_tb σ (5 * (u - 1) + 1)).toInt = x.toInt - Vt σ (u - 1) := ti_sub (by show _ ≤ x.toInt - Vt σ (u - 1); omega) (by show x.toInt - Vt σ (u - 1) < _; omega)
    have e3 : (g_tb σ (5 * u + 0) - g_tb σ (5 * (u - 1) + 0)).toInt = Dt σ u - Dt σ (u - 1) := ti_sub (by show _ ≤ Dt σ u - Dt σ (u - 1); omega) (by show Dt σ u - Dt σ (u - 1) < _; omega)
    have e2n : (-(x - g_tb σ (5 * (u - 1) + 1))).toInt = -(x.toInt - Vt σ (u - 1)) := by rw [ti_neg (by rw [e2]; omega), e2]
    generalize hR : Vt σ u - Vt σ (u - 1) = Rs at *
    generalize hM : x.toInt - Vt σ (u - 1) = M at *
    generalize hS : Dt σ u - Dt σ (u - 1) = S at *
    have hA0 : 0 < M * S := Int.mul_pos (by omega) (by omega)
    have hA1 : M * S ≤ Rs * S := Int.mul_le_mul_of_nonneg_right (by omega) (by omega)
    have hA2 : Rs * S ≤ 9999999 * S := Int.mul_le_mul_of_nonneg_right (by omega) (by omega)
    have e4 : (-(x - g_tb σ (5 * (u - 1) + 1)) * (g_tb σ (5 * u + 0) - g_tb σ (5 * (u - 1) + 0))).toInt = -(M * S) := by
      rw [ti_mul (by rw [e2n, e3, Int.neg_mul]; omega) (by rw [e2n, e3, Int.neg_mul]; omega), e2n, e3, Int.neg_mul]
    have hne : ¬ g_tb σ (5 * u + 1) - g_tb σ (5 * (u - 1) + 1) = 0 := fun z => by
      rw [z] at e1
      have : (0 : Int64).toInt = 0 := rfl
      omega
    have e5 : (qt (-(x - g_tb σ (5 * (u - 1) + 1)) * (g_tb σ (5 * u + 0) - g_tb σ (5 * (u - 1) + 0))) (g_tb σ (5 * u + 1) - g_tb σ (5 * (u - 1) + 1))).toInt = -(M * S) / Rs := by
      unfold qt
      rw [if_neg hne, fd_toInt (by rw [e1]; omega), e4, e1]
    -- q = floor (-(M * S) / Rs), E = -q
    obtain ⟨E, hE⟩ : ∃ E : Int, -(M * S) / Rs = -E := ⟨-(-(M * S) / Rs), by omega⟩
    have hd1 := Int.emod_add_ediv_mul (-(M * S)) Rs
    have hd2 := Int.emod_nonneg (-(M * S)) (b := Rs) (by omega)
    have hd3 := Int.emod_lt_of_pos (-(M * S)) (b := Rs) (by omega)
    rw [hE, Int.neg_mul] at hd1
    have hE1 : M * S ≤ E * Rs := by omega
    have hE2 : E * Rs < M * S + Rs := by omega
    have hE3 : 1 ≤ E := by
      rcases Int.lt_or_le E 1 with z | z
      · have := Int.mul_le_mul_of_nonneg_right (a := E) (b := 0) (c := Rs) (by omega) (by omega)
        omega
      · exact z
    have hE4 : E ≤ S := by
      rcases Int.lt_or_le S E with z | z
      · have := Int.mul_le_mul_of_nonneg_right (a := S + 1) (b := E) (c := Rs) (by omega) (by omega)
        rw [Int.add_mul, Int.one_mul, Int.mul_comm S Rs] at this
        omega
      · exact z
    have et : (lD σ x).toInt = Dt σ (u - 1) + E := by
      rw [ht, ti_sub (by rw [e5, hE]; show _ ≤ Dt σ (u - 1) - _; omega) (by rw [e5, hE]; show Dt σ (u - 1) - _ < _; omega), e5, hE]
      show Dt σ (u - 1) - -E = _
      omega
    rw [et]
    refine ⟨⟨?_, ?_⟩, fun d hc => ?_⟩
    · have := Dt_le hI (i := 0) (j := u - 1) (by omega) (by omega)
      omega
    · have := Dt_le hI (i := u) (j := g_n σ - 1) (by omega) (by omega)
      omega
    · rcases va_case hI hc with ⟨w, h1, h2, h3⟩ | ⟨w, h1, h2, h3, h4, h5⟩
      · rcases Nat.lt_or_ge w u with z | z
        · have v1 := Vt_le hI (i := w) (j := u - 1) (by omega) (by omega)
          have v2 := Dt_le hI (i := w) (j := u - 1) (by omega) (by omega)
          constructor <;> intro _ <;> omega
        · have v1 := Vt_le hI (i := u) (j := w) z h1
          have v2 := Dt_le hI (i := u) (j := w) z h1
          constructor <;> intro _ <;> omega
      · obtain ⟨i1, i2, i3⟩ := ipl_t hI h1 h2 (d := d) (by omega) (by omega)
        rw [← h5] at i1 i2 i3
        rcases Nat.lt_trichotomy w u with z | z | z
        · have v1 := Vt_le hI (i := w) (j := u - 1) (by omega) (by omega)
          have v2 := Dt_le hI (i := w) (j := u - 1) (by omega) (by omega)
          constructor <;> intro _ <;> omega
        · subst z
          rw [hR, hS] at i1
          generalize hK : d.toInt - Dt σ (w - 1) = K at *
          have key : Rs * K / S < M ↔ Rs * K < M * S := Int.ediv_lt_iff_lt_mul (by omega)
          constructor
          · intro h
            have h6 : Rs * K < M * S := key.mp (by omega)
            rcases Int.lt_or_le K E with y | y
            · omega
            · have := Int.mul_le_mul_of_nonneg_left (a := E) (b := K) (c := Rs) y (by omega)
              rw [Int.mul_comm Rs E] at this
              omega
          · intro h
            have h7 := Int.mul_le_mul_of_nonneg_left (a := K) (b := E - 1) (c := Rs) (by omega) (by omega)
            rw [Int.mul_sub, Int.mul_one, Int.mul_comm Rs E] at h7
            have := key.mpr (by omega)
            omega
        · have v1 := Vt_le hI (i := u) (j := w - 1) (by omega) (by omega)
          have v2 := Dt_le hI (i := u) (j := w - 1) (by omega) (by omega)
          constructor <;> intro _ <;> omega
/-- the middle of the search -/
theorem mid_t {a b : Int64} (ha : 0 ≤ a.toInt) (ha2 : a.toInt ≤ 30000) (hb : 0 ≤ b.toInt) (hb2 : b.toInt ≤ 30000) : ((a + b) / 2).toInt = (a.toInt + b.toInt) / 2 := by
  rw [Int64.toInt_div_of_ne_right _ _ (by decide), ti_add (by omega) (by omega), t2_, Int.tdiv_eq_ediv_of_nonneg (by omega)]
theorem suc_t {a : Int64} (ha : 0 ≤ a.toInt) (ha2 : a.toInt ≤ 30000) : (a + 1).toInt = a.toInt + 1 := by
  have : (1 : Int64).toInt = 1 := rfl
  rw [ti_add (by omega) (by omega), this]
end DRAFT
-- wide compares
theorem w_lt (x y : Int32) : x.toInt64 < y.toInt64 ↔ x < y := by rw [ti_lt, Int32.toInt_toInt64, Int32.toInt_toInt64, Int32.lt_iff_toInt_lt]
theorem w_t1 {x lo : Int32} {l2 : Int64} (e : lo.toInt64 = l2) (h : ¬ x < lo) : ¬ x.toInt64 < l2 := by subst e; rw [w_lt]; exact h
theorem w_t2 {x hi : Int32} {h2 : Int64} (e : hi.toInt64 = h2) (h : ¬ hi < x) : ¬ h2 < x.toInt64 := by subst e; rw [w_lt]; exact h
theorem w_f {x lo hi : Int32} {l2 h2 : Int64} (e1 : lo.toInt64 = l2) (e2 : hi.toInt64 = h2) (h : ¬ (¬ x < lo ∧ ¬ hi < x)) : x.toInt64 < l2 ∨ h2 < x.toInt64 := by
  subst e1; subst e2
  rw [w_lt, w_lt]
  by_cases q : x < lo
  · exact Or.inl q
  · by_cases z : hi < x
    · exact Or.inr z
    · exact absurd ⟨q, z⟩ h
theorem inS_3 {x : Int32} (h : ¬ inS x 4) : ¬ (¬ x < 0 ∧ ¬ 3 < x) := fun q => h ⟨q.1, by
  have := q.2
  rw [Int32.lt_iff_toInt_lt] at this ⊢
  have e3 : (3 : Int32).toInt = 3 := rfl
  have e4 : (4 : Int32).toInt = 4 := rfl
  omega⟩
theorem inS_5 {x : Int32} (h : ¬ inS x 6) : ¬ (¬ x < 0 ∧ ¬ 5 < x) := fun q => h ⟨q.1, by
  have := q.2
  rw [Int32.lt_iff_toInt_lt] at this ⊢
  have e3 : (5 : Int32).toInt = 5 := rfl
  have e4 : (6 : Int32).toInt = 6 := rfl
  omega⟩
theorem lj_0 {j : Nat} (h : j < 2 ^ 31) : ¬ lN j < 0 := by
  rw [show (0 : Int64) = lN 0 from rfl, lN_lt h (by decide)]
  omega
theorem lj_h {j m : Nat} (h : j ≤ m) (hm : m < 2 ^ 31) : ¬ lN m < lN j := by
  rw [lN_lt hm (by omega)]
  omega
theorem sm_of {h : Int32} (hh : ¬ h < -1000 ∧ ¬ 1000 < h) : sm h.toInt64 := by
  obtain ⟨h1, h2⟩ := hh
  rw [Int32.lt_iff_toInt_lt] at h1 h2
  have e3 : (-1000 : Int32).toInt = -1000 := rfl
  have e4 : (1000 : Int32).toInt = 1000 := rfl
  unfold sm
  rw [Int32.toInt_toInt64]
  omega
/-- a row's number against the last one's -/
theorem rw_t {n : Nat} (hn : n ≤ 10) : (nI n - 1).toInt64.toInt = (n : Int) - 1 := by
  rw [Int32.toInt_toInt64, show (1 : Int32) = nI 1 from rfl, pk_sub_toInt (by omega) (by omega)]
  rfl
theorem rw_i {n i : Nat} (hn : n ≤ 10) (h : i < n) : ¬ (nI n - 1).toInt64 < lN i := by
  rw [ti_lt, rw_t hn, lN_toInt (by omega)]
  omega
theorem rw_o {n : Nat} {x : Int32} (hn : n ≤ 10) (h : ¬ (¬ x < 0 ∧ x < nI n)) : x.toInt64 < 0 ∨ (nI n - 1).toInt64 < x.toInt64 := by
  by_cases q : x < 0
  · exact Or.inl (by rw [ti_lt, Int32.toInt_toInt64]; rw [Int32.lt_iff_toInt_lt] at q; exact q)
  · refine Or.inr ?_
    have z : ¬ x < nI n := fun z => h ⟨q, z⟩
    rw [Int32.lt_iff_toInt_lt, nI_toInt (by omega)] at z
    rw [ti_lt, rw_t hn, Int32.toInt_toInt64]
    omega
theorem ld_cov {σ : SG} (hI : Inv σ) (h0 : 0 < g_n σ) {d : Int64} (h1 : Dt σ 0 ≤ d.toInt) (h2 : d.toInt ≤ Dt σ (g_n σ - 1)) : cov σ d := by
  refine ⟨h0, ?_, ?_⟩
  · rw [ti_lt]
    show ¬ d.toInt < Dt σ 0
    omega
  · rw [ti_lt]
    show ¬ Dt σ (g_n σ - 1) < d.toInt
    omega
