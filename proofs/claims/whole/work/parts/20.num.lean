/-! Pure rows on long numbers. -/
theorem bm_ {z : Int} (h1 : -9223372036854775808 ≤ z) (h2 : z < 9223372036854775808) : z.bmod (2 ^ 64) = z := Int.bmod_eq_of_le (by simpa using h1) (by simpa using h2)
theorem ti_add {x y : Int64} (h1 : -9223372036854775808 ≤ x.toInt + y.toInt) (h2 : x.toInt + y.toInt < 9223372036854775808) : (x + y).toInt = x.toInt + y.toInt := by rw [Int64.toInt_add, bm_ h1 h2]
theorem ti_sub {x y : Int64} (h1 : -9223372036854775808 ≤ x.toInt - y.toInt) (h2 : x.toInt - y.toInt < 9223372036854775808) : (x - y).toInt = x.toInt - y.toInt := by rw [Int64.toInt_sub, bm_ h1 h2]
theorem ti_mul {x y : Int64} (h1 : -9223372036854775808 ≤ x.toInt * y.toInt) (h2 : x.toInt * y.toInt < 9223372036854775808) : (x * y).toInt = x.toInt * y.toInt := by rw [Int64.toInt_mul, bm_ h1 h2]
theorem ti_neg {x : Int64} (h1 : -9223372036854775808 < x.toInt) : (-x).toInt = -x.toInt := by
  have := Int64.toInt_lt x
  rw [Int64.toInt_neg, bm_ (by omega) (by omega)]
theorem ti_eq {x y : Int64} (h : x.toInt = y.toInt) : x = y := Int64.toInt_inj.mp h
theorem ti_lt {x y : Int64} : x < y ↔ x.toInt < y.toInt := Int64.lt_iff_toInt_lt
theorem ti_le {x y : Int64} : x ≤ y ↔ x.toInt ≤ y.toInt := Int64.le_iff_toInt_le
theorem ms_ (x : Int64) : x < 0 ↔ x.toBitVec.msb = true := by
  rw [BitVec.msb_eq_toInt, decide_eq_true_eq, ti_lt]
  rfl
theorem xorN (x y : Int64) : (x ^^^ y) < 0 ↔ ¬ (x < 0 ↔ y < 0) := by
  rw [ms_, ms_, ms_, Int64.toBitVec_xor, BitVec.msb_xor]
  cases x.toBitVec.msb <;> cases y.toBitVec.msb <;> simp
theorem sub0 {x z : Int64} (h : x - z = 0) : z = x := by grind
theorem qz {x y : Int64} (h : x - x / y * y = 0) : x / y = fd x y := by
  unfold fd
  rw [if_neg (fun q => q.2 (sub0 h))]
theorem qs {x y : Int64} (h : x < 0 ↔ y < 0) : x / y = fd x y := by
  unfold fd
  rw [if_neg (fun q => (xorN x y).mp q.1 h)]
theorem qd {x y : Int64} (h1 : ¬ x - x / y * y = 0) (h : ¬ (x < 0 ↔ y < 0)) : x / y - 1 = fd x y := by
  unfold fd
  rw [if_pos ⟨(xorN x y).mpr h, fun e => h1 (by rw [e]; grind)⟩]
/-- floorDiv by a positive divisor, in numbers -/
theorem fd_toInt {x y : Int64} (hy : 0 < y.toInt) : (fd x y).toInt = x.toInt / y.toInt := by
  have hne : y ≠ -1 := fun h => by rw [h] at hy; exact absurd hy (by decide)
  have hq : (x / y).toInt = x.toInt.tdiv y.toInt := Int64.toInt_div_of_ne_right x y hne
  have hx1 : -9223372036854775808 ≤ x.toInt := Int64.le_toInt x
  have hx2 : x.toInt < 9223372036854775808 := Int64.toInt_lt x
  have hE := Int.tdiv_eq_ediv (a := x.toInt) (b := y.toInt)
  have hr0 := Int.emod_nonneg x.toInt (b := y.toInt) (by omega)
  have hr1 := Int.emod_lt_of_pos x.toInt hy
  have hdm := Int.emod_add_ediv_mul x.toInt y.toInt
  have hdv : y.toInt ∣ x.toInt ↔ x.toInt % y.toInt = 0 := ⟨Int.emod_eq_zero_of_dvd, Int.dvd_of_emod_eq_zero⟩
  have hsg : y.toInt.sign = 1 := Int.sign_eq_one_of_pos hy
  have hxy : (x ^^^ y) < 0 ↔ x.toInt < 0 := by
    rw [xorN, ti_lt, ti_lt]
    have : (0 : Int64).toInt = 0 := rfl
    rw [this]
    constructor
    · intro h
      by_cases q : x.toInt < 0
      · exact q
      · exact absurd ⟨fun z => absurd z q, fun z => absurd z (by omega)⟩ h
    · intro h q
      have := q.mp h
      omega
  generalize hQ : x.toInt / y.toInt = Q at *
  generalize hR : x.toInt % y.toInt = Rm at *
  generalize hP : Q * y.toInt = P at *
  by_cases hc : 0 ≤ x.toInt ∨ y.toInt ∣ x.toInt
  · rw [if_pos hc, Int.add_zero] at hE
    rw [hE] at hq
    have hp : (x / y * y).toInt = P := by
      rw [Int64.toInt_mul, hq, hP]
      refine bm_ ?_ ?_
      · rcases hc with h | h
        · have hQ0 : 0 ≤ Q := by rw [← hQ]; exact Int.ediv_nonneg h (by omega)
          have : 0 ≤ P := by rw [← hP]; exact Int.mul_nonneg hQ0 (by omega)
          omega
        · have := hdv.mp h
          omega
      · omega
    unfold fd
    rw [if_neg, hq]
    rintro ⟨h1, h2⟩
    rcases hc with h | h
    · exact absurd (hxy.mp h1) (by omega)
    · have := hdv.mp h
      exact h2 (ti_eq (by rw [hp]; omega))
  · have hx0 : x.toInt < 0 := by
      rcases Int.lt_or_le x.toInt 0 with q | q
      · exact q
      · exact absurd (Or.inl q) hc
    have hRn : Rm ≠ 0 := fun q => hc (Or.inr (hdv.mpr q))
    rw [if_neg hc, hsg] at hE
    rw [hE] at hq
    have hQl : x.toInt ≤ Q := by
      rw [← hQ, Int.le_ediv_iff_mul_le hy]
      have := Int.mul_le_mul_of_nonpos_left (a := x.toInt) (b := y.toInt) (c := 1) (by omega) (by omega)
      omega
    have hQn : Q < 0 := by
      rcases Int.lt_or_le Q 0 with q | q
      · exact q
      · have : 0 ≤ P := by rw [← hP]; exact Int.mul_nonneg q (by omega)
        omega
    have hPy : P + y.toInt ≤ 0 := by
      have h := Int.mul_le_mul_of_nonneg_right (a := Q + 1) (b := 0) (c := y.toInt) (by omega) (by omega)
      rw [Int.add_mul, Int.one_mul, hP, Int.zero_mul] at h
      exact h
    have hp : (x / y * y).toInt = P + y.toInt := by
      rw [Int64.toInt_mul, hq, Int.add_mul, Int.one_mul, hP]
      exact bm_ (by omega) (by omega)
    unfold fd
    rw [if_pos ⟨hxy.mpr hx0, fun h => by rw [h] at hp; omega⟩, ti_sub (by rw [hq]; show _ ≤ Q + 1 - 1; omega) (by rw [hq]; show Q + 1 - 1 < _; omega), hq]
    show Q + 1 - 1 = Q
    omega
theorem t2_ : (2 : Int64).toInt = 2 := rfl
theorem t6_ : (6 : Int64).toInt = 6 := rfl
theorem t8_ : (8 : Int64).toInt = 8 := rfl
/-- a shift that the answers ask -/
def sm (h : Int64) : Prop := -1000 ≤ h.toInt ∧ h.toInt ≤ 1000
def dr (x : Int64) : Prop := 0 ≤ x.toInt ∧ x.toInt ≤ 30000
theorem mean_sh {x y h : Int64} (hx : dr x) (hy : dr y) (hh : sm h) : fd ((x + h) + (y + h)) 2 = fd (x + y) 2 + h := by
  obtain ⟨x1, x2⟩ := hx
  obtain ⟨y1, y2⟩ := hy
  obtain ⟨h1, h2⟩ := hh
  refine ti_eq ?_
  have e1 : (x + h).toInt = x.toInt + h.toInt := ti_add (by omega) (by omega)
  have e2 : (y + h).toInt = y.toInt + h.toInt := ti_add (by omega) (by omega)
  have e3 : (x + y).toInt = x.toInt + y.toInt := ti_add (by omega) (by omega)
  have e4 : ((x + h) + (y + h)).toInt = x.toInt + h.toInt + (y.toInt + h.toInt) := by rw [ti_add (by rw [e1, e2]; omega) (by rw [e1, e2]; omega), e1, e2]
  have e5 : (fd (x + y) 2).toInt = (x.toInt + y.toInt) / 2 := by rw [fd_toInt (by decide), e3, t2_]
  rw [fd_toInt (by decide), e4, t2_, ti_add (by rw [e5]; omega) (by rw [e5]; omega), e5]
  omega
theorem mean_dr {x y : Int64} (hx : dr x) (hy : dr y) : dr (fd (x + y) 2) := by
  obtain ⟨x1, x2⟩ := hx
  obtain ⟨y1, y2⟩ := hy
  have e3 : (x + y).toInt = x.toInt + y.toInt := ti_add (by omega) (by omega)
  have e5 : (fd (x + y) 2).toInt = (x.toInt + y.toInt) / 2 := by rw [fd_toInt (by decide), e3, t2_]
  unfold dr
  rw [e5]
  omega
theorem quar_t {x y z : Int64} (hx : dr x) (hy : dr y) (hz : dr z) : (fd (x + 6 * y + z) 8).toInt = (x.toInt + 6 * y.toInt + z.toInt) / 8 := by
  obtain ⟨x1, x2⟩ := hx
  obtain ⟨y1, y2⟩ := hy
  obtain ⟨z1, z2⟩ := hz
  have e1 : (6 * y).toInt = 6 * y.toInt := by rw [ti_mul (by rw [t6_]; omega) (by rw [t6_]; omega), t6_]
  have e2 : (x + 6 * y).toInt = x.toInt + 6 * y.toInt := by rw [ti_add (by rw [e1]; omega) (by rw [e1]; omega), e1]
  have e3 : (x + 6 * y + z).toInt = x.toInt + 6 * y.toInt + z.toInt := by rw [ti_add (by rw [e2]; omega) (by rw [e2]; omega), e2]
  rw [fd_toInt (by decide), e3, t8_]
theorem quar_dr {x y z : Int64} (hx : dr x) (hy : dr y) (hz : dr z) : dr (fd (x + 6 * y + z) 8) := by
  have e := quar_t hx hy hz
  obtain ⟨x1, x2⟩ := hx
  obtain ⟨y1, y2⟩ := hy
  obtain ⟨z1, z2⟩ := hz
  unfold dr
  rw [e]
  omega
theorem quar_sh {x y z h : Int64} (hx : dr x) (hy : dr y) (hz : dr z) (hh : sm h) : fd ((x + h) + 6 * (y + h) + (z + h)) 8 = fd (x + 6 * y + z) 8 + h := by
  have e9 := quar_t hx hy hz
  obtain ⟨x1, x2⟩ := hx
  obtain ⟨y1, y2⟩ := hy
  obtain ⟨z1, z2⟩ := hz
  obtain ⟨h1, h2⟩ := hh
  refine ti_eq ?_
  have a1 : (x + h).toInt = x.toInt + h.toInt := ti_add (by omega) (by omega)
  have a2 : (y + h).toInt = y.toInt + h.toInt := ti_add (by omega) (by omega)
  have a3 : (z + h).toInt = z.toInt + h.toInt := ti_add (by omega) (by omega)
  have e1 : (6 * (y + h)).toInt = 6 * (y.toInt + h.toInt) := by rw [ti_mul (by rw [t6_, a2]; omega) (by rw [t6_, a2]; omega), t6_, a2]
  have e2 : ((x + h) + 6 * (y + h)).toInt = x.toInt + h.toInt + 6 * (y.toInt + h.toInt) := by rw [ti_add (by rw [e1, a1]; omega) (by rw [e1, a1]; omega), e1, a1]
  have e3 : ((x + h) + 6 * (y + h) + (z + h)).toInt = x.toInt + h.toInt + 6 * (y.toInt + h.toInt) + (z.toInt + h.toInt) := by rw [ti_add (by rw [e2, a3]; omega) (by rw [e2, a3]; omega), e2, a3]
  rw [fd_toInt (by decide), e3, t8_, ti_add (by rw [e9]; omega) (by rw [e9]; omega), e9]
  omega
