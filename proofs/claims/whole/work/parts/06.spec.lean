/-! The state, and what is computed of it. -/
/-- the state: buffer's length and characters, rows and cells of the table, readings, densities, deductions, length, margin -/
abbrev SG : Type := Nat × (Nat → Int32) × Nat × (Nat → Int64) × (Nat → Int64) × (Nat → Int64) × (Nat → Int64) × Int64 × Int64
abbrev g_bl (σ : SG) : Nat := σ.1
abbrev g_bf (σ : SG) : Nat → Int32 := σ.2.1
abbrev g_n (σ : SG) : Nat := σ.2.2.1
abbrev g_tb (σ : SG) : Nat → Int64 := σ.2.2.2.1
abbrev g_rd (σ : SG) : Nat → Int64 := σ.2.2.2.2.1
abbrev g_dn (σ : SG) : Nat → Int64 := σ.2.2.2.2.2.1
abbrev g_dd (σ : SG) : Nat → Int64 := σ.2.2.2.2.2.2.1
abbrev g_len (σ : SG) : Int64 := σ.2.2.2.2.2.2.2.1
abbrev g_mar (σ : SG) : Int64 := σ.2.2.2.2.2.2.2.2
abbrev u_bl (σ : SG) (v : Nat) : SG := (v, σ.2)
abbrev u_bf (σ : SG) (v : Nat → Int32) : SG := (σ.1, v, σ.2.2)
abbrev u_n (σ : SG) (v : Nat) : SG := (σ.1, σ.2.1, v, σ.2.2.2)
abbrev u_tb (σ : SG) (v : Nat → Int64) : SG := (σ.1, σ.2.1, σ.2.2.1, v, σ.2.2.2.2)
abbrev u_rd (σ : SG) (v : Nat → Int64) : SG := (σ.1, σ.2.1, σ.2.2.1, σ.2.2.2.1, v, σ.2.2.2.2.2)
abbrev u_dn (σ : SG) (v : Nat → Int64) : SG := (σ.1, σ.2.1, σ.2.2.1, σ.2.2.2.1, σ.2.2.2.2.1, v, σ.2.2.2.2.2.2)
abbrev u_dd (σ : SG) (v : Nat → Int64) : SG := (σ.1, σ.2.1, σ.2.2.1, σ.2.2.2.1, σ.2.2.2.2.1, σ.2.2.2.2.2.1, v, σ.2.2.2.2.2.2.2)
abbrev u_len (σ : SG) (v : Int64) : SG := (σ.1, σ.2.1, σ.2.2.1, σ.2.2.2.1, σ.2.2.2.2.1, σ.2.2.2.2.2.1, σ.2.2.2.2.2.2.1, v, σ.2.2.2.2.2.2.2.2)
abbrev u_mar (σ : SG) (v : Int64) : SG := (σ.1, σ.2.1, σ.2.2.1, σ.2.2.2.1, σ.2.2.2.2.1, σ.2.2.2.2.2.1, σ.2.2.2.2.2.2.1, σ.2.2.2.2.2.2.2.1, v)
/-- the reader of the class: numbers, place, digits, negative, magnitude -/
abbrev KX : Type := (Nat → Int64) × Int32 × Int32 × Int32 × Int64
abbrev k_nu (κ : KX) : Nat → Int64 := κ.1
abbrev k_pl (κ : KX) : Int32 := κ.2.1
abbrev k_dg (κ : KX) : Int32 := κ.2.2.1
abbrev k_ng (κ : KX) : Int32 := κ.2.2.2.1
abbrev k_mg (κ : KX) : Int64 := κ.2.2.2.2
abbrev v_nu (κ : KX) (v : Nat → Int64) : KX := (v, κ.2)
abbrev v_pl (κ : KX) (v : Int32) : KX := (κ.1, v, κ.2.2)
abbrev v_dg (κ : KX) (v : Int32) : KX := (κ.1, κ.2.1, v, κ.2.2.2)
abbrev v_ng (κ : KX) (v : Int32) : KX := (κ.1, κ.2.1, κ.2.2.1, v, κ.2.2.2.2)
abbrev v_mg (κ : KX) (v : Int64) : KX := (κ.1, κ.2.1, κ.2.2.1, κ.2.2.2.1, v)
/-- the reference's own: read, errorAt, isRow, h -/
abbrev KM : Type := (Nat → Int64) × Int32 × Int32 × Int64
abbrev m_rd (ρ : KM) : Nat → Int64 := ρ.1
abbrev m_er (ρ : KM) : Int32 := ρ.2.1
abbrev m_ir (ρ : KM) : Int32 := ρ.2.2.1
abbrev m_h (ρ : KM) : Int64 := ρ.2.2.2
abbrev x_rd (ρ : KM) (v : Nat → Int64) : KM := (v, ρ.2)
abbrev x_er (ρ : KM) (v : Int32) : KM := (ρ.1, v, ρ.2.2)
abbrev x_ir (ρ : KM) (v : Int32) : KM := (ρ.1, ρ.2.1, v, ρ.2.2.2)
abbrev x_h (ρ : KM) (v : Int64) : KM := (ρ.1, ρ.2.1, ρ.2.2.1, v)
-- the worlds
/-- n places of f from o on -/
def slc (f : Nat → Int64) (o n k : Nat) : Int64 := if k < n then f (o + k) else 0
theorem slc_at {f : Nat → Int64} {o n k : Nat} (h : k < n) : slc f o n k = f (o + k) := if_pos h
theorem slc_in {f : Nat → Int64} {o n k : Nat} (x : Int64) (h : k < n) : vp_updL (slc f o n) k x = slc (vp_updL f (o + k) x) o n := by
  funext i
  unfold vp_updL slc
  by_cases e : i = k
  · subst e; simp [h]
  · simp [e]
theorem slc_out {f : Nat → Int64} {o n i : Nat} (x : Int64) (h : i < o ∨ o + n ≤ i) : slc (vp_updL f i x) o n = slc f o n := by
  funext k
  unfold slc vp_updL
  by_cases hk : k < n
  · simp only [hk, if_true]
    rw [if_neg (by omega)]
  · simp [hk]
abbrev tysC (C : Nat → ClassId) : List (ClassId × FieldType) := [(C 0, .int), (C 1, .long), (C 2, .object "DraftSurvey$Survey")]
def wX (C : Nat → ClassId) (a : Nat → Nat) (σ : SG) (κ : KX) : va_W := [
  (a 0, .inr (3, [.ref (a 1), .int (nI (g_bl σ)), .ref (a 2), .ref (a 4), .ref (a 6), .long (g_len σ), .long (g_mar σ)])),
  (a 1, .inl (C 0, 40, .inl (g_bf σ))),
  (a 2, .inr (0, [.ref (a 3), .int (k_pl κ), .int (k_dg κ), .int (k_ng κ), .long (k_mg κ)])),
  (a 3, .inl (C 1, 5, .inr (.inl (k_nu κ)))),
  (a 4, .inr (2, [.ref (a 5), .int (nI (g_n σ))])),
  (a 5, .inl (C 1, 50, .inr (.inl (g_tb σ)))),
  (a 6, .inl (C 2, 4, .inr (.inr (.inr (.inr (fun k => some (a (7 + 3 * k)))))))),
  (a (7 + 3 * 0), .inr (1, [.ref (a (8 + 3 * 0)), .ref (a (9 + 3 * 0)), .long (g_dn σ 0)])),
  (a (8 + 3 * 0), .inl (C 1, 6, .inr (.inl (slc (g_rd σ) (6 * 0) 6)))),
  (a (9 + 3 * 0), .inl (C 1, 4, .inr (.inl (slc (g_dd σ) (4 * 0) 4)))),
  (a (7 + 3 * 1), .inr (1, [.ref (a (8 + 3 * 1)), .ref (a (9 + 3 * 1)), .long (g_dn σ 1)])),
  (a (8 + 3 * 1), .inl (C 1, 6, .inr (.inl (slc (g_rd σ) (6 * 1) 6)))),
  (a (9 + 3 * 1), .inl (C 1, 4, .inr (.inl (slc (g_dd σ) (4 * 1) 4)))),
  (a (7 + 3 * 2), .inr (1, [.ref (a (8 + 3 * 2)), .ref (a (9 + 3 * 2)), .long (g_dn σ 2)])),
  (a (8 + 3 * 2), .inl (C 1, 6, .inr (.inl (slc (g_rd σ) (6 * 2) 6)))),
  (a (9 + 3 * 2), .inl (C 1, 4, .inr (.inl (slc (g_dd σ) (4 * 2) 4)))),
  (a (7 + 3 * 3), .inr (1, [.ref (a (8 + 3 * 3)), .ref (a (9 + 3 * 3)), .long (g_dn σ 3)])),
  (a (8 + 3 * 3), .inl (C 1, 6, .inr (.inl (slc (g_rd σ) (6 * 3) 6)))),
  (a (9 + 3 * 3), .inl (C 1, 4, .inr (.inl (slc (g_dd σ) (4 * 3) 4))))]
def wM (C : Nat → ClassId) (b : Nat → Nat) (σ : SG) (ρ : KM) : va_W := [
  (b 0, .inr (4, [.int (nI (g_bl σ)), .ref (b 1), .int (nI (g_n σ)), .ref (b 2), .ref (b 3), .ref (b 4), .ref (b 5), .long (g_len σ), .long (g_mar σ), .ref (b 6), .int (m_er ρ), .int (m_ir ρ), .long (m_h ρ)])),
  (b 1, .inl (C 0, 40, .inl (g_bf σ))),
  (b 2, .inl (C 1, 50, .inr (.inl (g_tb σ)))),
  (b 3, .inl (C 1, 24, .inr (.inl (g_rd σ)))),
  (b 4, .inl (C 1, 4, .inr (.inl (g_dn σ)))),
  (b 5, .inl (C 1, 16, .inr (.inl (g_dd σ)))),
  (b 6, .inl (C 1, 5, .inr (.inl (m_rd ρ))))]
section WORLDS
variable {C : Nat → ClassId} {a b : Nat → Nat} {σ : SG} {κ : KX} {ρ : KM}
theorem wX_e0 : (wX C a σ κ)[0]? = some (a 0, .inr (3, [.ref (a 1), .int (nI (g_bl σ)), .ref (a 2), .ref (a 4), .ref (a 6), .long (g_len σ), .long (g_mar σ)])) := rfl
theorem wX_e1 : (wX C a σ κ)[1]? = some (a 1, .inl (C 0, 40, .inl (g_bf σ))) := rfl
theorem wX_e2 : (wX C a σ κ)[2]? = some (a 2, .inr (0, [.ref (a 3), .int (k_pl κ), .int (k_dg κ), .int (k_ng κ), .long (k_mg κ)])) := rfl
theorem wX_e3 : (wX C a σ κ)[3]? = some (a 3, .inl (C 1, 5, .inr (.inl (k_nu κ)))) := rfl
theorem wX_e4 : (wX C a σ κ)[4]? = some (a 4, .inr (2, [.ref (a 5), .int (nI (g_n σ))])) := rfl
theorem wX_e5 : (wX C a σ κ)[5]? = some (a 5, .inl (C 1, 50, .inr (.inl (g_tb σ)))) := rfl
theorem wX_e6 : (wX C a σ κ)[6]? = some (a 6, .inl (C 2, 4, .inr (.inr (.inr (.inr (fun k => some (a (7 + 3 * k)))))))) := rfl
theorem wX_sv {j : Nat} (hj : j < 4) : (wX C a σ κ)[7 + 3 * j]? = some (a (7 + 3 * j), .inr (1, [.ref (a (8 + 3 * j)), .ref (a (9 + 3 * j)), .long (g_dn σ j)])) :=
  match j, hj with
  | 0, _ => rfl
  | 1, _ => rfl
  | 2, _ => rfl
  | 3, _ => rfl
theorem wX_rd {j : Nat} (hj : j < 4) : (wX C a σ κ)[8 + 3 * j]? = some (a (8 + 3 * j), .inl (C 1, 6, .inr (.inl (slc (g_rd σ) (6 * j) 6)))) :=
  match j, hj with
  | 0, _ => rfl
  | 1, _ => rfl
  | 2, _ => rfl
  | 3, _ => rfl
theorem wX_dd {j : Nat} (hj : j < 4) : (wX C a σ κ)[9 + 3 * j]? = some (a (9 + 3 * j), .inl (C 1, 4, .inr (.inl (slc (g_dd σ) (4 * j) 4)))) :=
  match j, hj with
  | 0, _ => rfl
  | 1, _ => rfl
  | 2, _ => rfl
  | 3, _ => rfl
theorem wX_srd {j k : Nat} (hj : j < 4) (hk : k < 6) (x : Int64) : (wX C a σ κ).set (8 + 3 * j) (a (8 + 3 * j), .inl (C 1, 6, .inr (.inl (vp_updL (slc (g_rd σ) (6 * j) 6) k x)))) = wX C a (u_rd σ (vp_updL (g_rd σ) (6 * j + k) x)) κ := by
  rw [slc_in x hk]
  match j, hj with
  | 0, _ => simp only [wX, u_rd, g_rd]; rw [slc_out x (o := 6 * 1) (by omega), slc_out x (o := 6 * 2) (by omega), slc_out x (o := 6 * 3) (by omega)]; rfl
  | 1, _ => simp only [wX, u_rd, g_rd]; rw [slc_out x (o := 6 * 0) (by omega), slc_out x (o := 6 * 2) (by omega), slc_out x (o := 6 * 3) (by omega)]; rfl
  | 2, _ => simp only [wX, u_rd, g_rd]; rw [slc_out x (o := 6 * 0) (by omega), slc_out x (o := 6 * 1) (by omega), slc_out x (o := 6 * 3) (by omega)]; rfl
  | 3, _ => simp only [wX, u_rd, g_rd]; rw [slc_out x (o := 6 * 0) (by omega), slc_out x (o := 6 * 1) (by omega), slc_out x (o := 6 * 2) (by omega)]; rfl
theorem wX_sdd {j k : Nat} (hj : j < 4) (hk : k < 4) (x : Int64) : (wX C a σ κ).set (9 + 3 * j) (a (9 + 3 * j), .inl (C 1, 4, .inr (.inl (vp_updL (slc (g_dd σ) (4 * j) 4) k x)))) = wX C a (u_dd σ (vp_updL (g_dd σ) (4 * j + k) x)) κ := by
  rw [slc_in x hk]
  match j, hj with
  | 0, _ => simp only [wX, u_dd, g_dd]; rw [slc_out x (o := 4 * 1) (by omega), slc_out x (o := 4 * 2) (by omega), slc_out x (o := 4 * 3) (by omega)]; rfl
  | 1, _ => simp only [wX, u_dd, g_dd]; rw [slc_out x (o := 4 * 0) (by omega), slc_out x (o := 4 * 2) (by omega), slc_out x (o := 4 * 3) (by omega)]; rfl
  | 2, _ => simp only [wX, u_dd, g_dd]; rw [slc_out x (o := 4 * 0) (by omega), slc_out x (o := 4 * 1) (by omega), slc_out x (o := 4 * 3) (by omega)]; rfl
  | 3, _ => simp only [wX, u_dd, g_dd]; rw [slc_out x (o := 4 * 0) (by omega), slc_out x (o := 4 * 1) (by omega), slc_out x (o := 4 * 2) (by omega)]; rfl
theorem wX_sdn {j : Nat} (hj : j < 4) (x : Int64) : (wX C a σ κ).set (7 + 3 * j) (a (7 + 3 * j), .inr (1, [.ref (a (8 + 3 * j)), .ref (a (9 + 3 * j)), .long x])) = wX C a (u_dn σ (vp_updL (g_dn σ) j x)) κ :=
  match j, hj with
  | 0, _ => rfl
  | 1, _ => rfl
  | 2, _ => rfl
  | 3, _ => rfl
theorem wM_e0 : (wM C b σ ρ)[0]? = some (b 0, .inr (4, [.int (nI (g_bl σ)), .ref (b 1), .int (nI (g_n σ)), .ref (b 2), .ref (b 3), .ref (b 4), .ref (b 5), .long (g_len σ), .long (g_mar σ), .ref (b 6), .int (m_er ρ), .int (m_ir ρ), .long (m_h ρ)])) := rfl
theorem wM_e1 : (wM C b σ ρ)[1]? = some (b 1, .inl (C 0, 40, .inl (g_bf σ))) := rfl
theorem wM_e2 : (wM C b σ ρ)[2]? = some (b 2, .inl (C 1, 50, .inr (.inl (g_tb σ)))) := rfl
theorem wM_e3 : (wM C b σ ρ)[3]? = some (b 3, .inl (C 1, 24, .inr (.inl (g_rd σ)))) := rfl
theorem wM_e4 : (wM C b σ ρ)[4]? = some (b 4, .inl (C 1, 4, .inr (.inl (g_dn σ)))) := rfl
theorem wM_e5 : (wM C b σ ρ)[5]? = some (b 5, .inl (C 1, 16, .inr (.inl (g_dd σ)))) := rfl
theorem wM_e6 : (wM C b σ ρ)[6]? = some (b 6, .inl (C 1, 5, .inr (.inl (m_rd ρ)))) := rfl
end WORLDS
-- what is computed
abbrev NO_S : Int64 := -9000000000000000001
abbrev NO_I : Int64 := -9000000000000000002
abbrev OOR : Int64 := -9000000000000000003
abbrev INV : Int64 := -9000000000000000004
abbrev NAS : Int64 := -9000000000000000005
abbrev FUL : Int64 := -9000000000000000006
abbrev NCO : Int64 := -9000000000000000007
/-- Math.floorDiv -/
def fd (x y : Int64) : Int64 := if (x ^^^ y) < 0 ∧ ¬ x / y * y = x then x / y - 1 else x / y
/-- the class's quotient -/
def qt (x y : Int64) : Int64 := if y = 0 then 0 else fd x y
def fF (σ : SG) (j : Nat) : Int64 := fd (g_rd σ (6 * j + 0) + g_rd σ (6 * j + 1)) 2
def fM (σ : SG) (j : Nat) : Int64 := fd (g_rd σ (6 * j + 2) + g_rd σ (6 * j + 3)) 2
def fA (σ : SG) (j : Nat) : Int64 := fd (g_rd σ (6 * j + 4) + g_rd σ (6 * j + 5)) 2
def tr (σ : SG) (j : Nat) : Int64 := fA σ j - fF σ j
def df (σ : SG) (j : Nat) : Int64 := fM σ j - fd (fF σ j + fA σ j) 2
def hl_ (σ : SG) (j : Nat) : Int64 := g_rd σ (6 * j + 3) - g_rd σ (6 * j + 2)
def qm (σ : SG) (j : Nat) : Int64 := fd (fF σ j + 6 * fM σ j + fA σ j) 8
def de (σ : SG) (j : Nat) : Int64 := 0 + g_dd σ (4 * j + 0) + g_dd σ (4 * j + 1) + g_dd σ (4 * j + 2) + g_dd σ (4 * j + 3)
abbrev fst_ (σ : SG) : Int64 := g_tb σ (5 * 0 + 0)
abbrev lst_ (σ : SG) : Int64 := g_tb σ (5 * (g_n σ - 1) + 0)
abbrev cov (σ : SG) (d : Int64) : Prop := 0 < g_n σ ∧ ¬ d < fst_ σ ∧ ¬ lst_ σ < d
/-- the first place from i on, of k, where f isn't below d -/
def upf (f : Nat → Int64) (d : Int64) : Nat → Nat → Nat
  | i, 0 => i
  | i, k + 1 => if f i < d then upf f d (i + 1) k else i
/-- the value between row u - 1 and row u -/
def ipl (σ : SG) (p : Nat) (d : Int64) (u : Nat) : Int64 :=
  g_tb σ (5 * (u - 1) + p) + fd ((g_tb σ (5 * u + p) - g_tb σ (5 * (u - 1) + p)) * (d - g_tb σ (5 * (u - 1) + 0))) (g_tb σ (5 * u + 0) - g_tb σ (5 * (u - 1) + 0))
def vaU (σ : SG) (p : Nat) (d : Int64) (u : Nat) : Int64 :=
  if ¬ u < g_n σ then NCO
  else if g_tb σ (5 * u + 0) = d then g_tb σ (5 * u + p)
  else if u = 0 then NCO
  else if g_tb σ (5 * u + 0) - g_tb σ (5 * (u - 1) + 0) = 0 then g_tb σ (5 * (u - 1) + p)
  else ipl σ p d u
def vA (σ : SG) (p : Nat) (d : Int64) : Int64 := vaU σ p d (upf (fun r => g_tb σ (5 * r + 0)) d 0 (g_n σ))
def ldU (σ : SG) (x : Int64) (u : Nat) : Int64 :=
  if ¬ u < g_n σ then NCO
  else if u = 0 then fst_ σ
  else g_tb σ (5 * (u - 1) + 0) - qt (-(x - g_tb σ (5 * (u - 1) + 1)) * (g_tb σ (5 * u + 0) - g_tb σ (5 * (u - 1) + 0))) (g_tb σ (5 * u + 1) - g_tb σ (5 * (u - 1) + 1))
def lD (σ : SG) (x : Int64) : Int64 := ldU σ x (upf (fun r => g_tb σ (5 * r + 1)) x 0 (g_n σ))
def fc (σ : SG) (d t : Int64) : Int64 := qt (t * vA σ 2 d * vA σ 3 d) (100 * g_len σ)
def mxL (x y : Int64) : Int64 := if y < x then x else y
def mnL (x y : Int64) : Int64 := if y < x then y else x
def sc (σ : SG) (d t : Int64) : Int64 := qt (50 * t * t * (vA σ 4 (mnL (d + 500) (lst_ σ)) - vA σ 4 (mxL (d - 500) (fst_ σ)))) (1000 * g_len σ)
def dp (σ : SG) (j : Nat) (h : Int64) : Int64 := fd ((vA σ 1 (qm σ j + h) + fc σ (qm σ j + h) (tr σ j) + sc σ (qm σ j + h) (tr σ j)) * g_dn σ j) 1025
def nw (σ : SG) (j : Nat) (h : Int64) : Int64 := dp σ j h - de σ j
abbrev cmp (σ : SG) (j : Nat) (h : Int64) : Prop := cov σ (qm σ j + h)
abbrev cmm (σ : SG) (j : Nat) : Prop := cmp σ j (-(g_mar σ)) ∧ cmp σ j (g_mar σ)
def li (σ : SG) (j : Nat) : Int64 := mnL (nw σ j (-(g_mar σ))) (nw σ j (g_mar σ))
def he (σ : SG) (j : Nat) : Int64 := mxL (nw σ j (-(g_mar σ))) (nw σ j (g_mar σ))
/-- the best of the first k surveys -/
def hbs (σ : SG) : Nat → Option Nat
  | 0 => none
  | k + 1 => if cmp σ k 0 then (match hbs σ k with
    | none => some k
    | some i => if nw σ i 0 < nw σ k 0 then some k else some i) else hbs σ k
def hbA (o : Option Nat) : Int64 := match o with
  | none => NCO
  | some i => lN i
def hbW (σ : SG) (o : Option Nat) : Int64 := match o with
  | none => 0
  | some i => nw σ i 0
-- the answers
abbrev inS (x : Int32) (n : Int32) : Prop := ¬ x < 0 ∧ x < n
def aTrim (σ : SG) (x : Int32) : Int64 := if inS x 4 then tr σ x.toNatClampNeg else NO_S
def aDefl (σ : SG) (x : Int32) : Int64 := if inS x 4 then df σ x.toNatClampNeg else NO_S
def aHeel (σ : SG) (x : Int32) : Int64 := if inS x 4 then hl_ σ x.toNatClampNeg else NO_S
def aQuar (σ : SG) (x : Int32) : Int64 := if inS x 4 then qm σ x.toNatClampNeg else NO_S
def aRead (σ : SG) (x k : Int32) : Int64 := if inS x 4 then (if inS k 6 then g_rd σ (6 * x.toNatClampNeg + k.toNatClampNeg) else NO_I) else NO_S
def tFirst (σ : SG) (j : Nat) : Int64 := if cmp σ j 0 then fc σ (qm σ j) (tr σ j) else NCO
def tSecond (σ : SG) (j : Nat) : Int64 := if cmp σ j 0 then sc σ (qm σ j) (tr σ j) else NCO
def tDisp (σ : SG) (j : Nat) (h : Int64) : Int64 := if cmp σ j h then dp σ j h else NCO
def tNet (σ : SG) (j : Nat) : Int64 := if cmp σ j 0 then nw σ j 0 else NCO
def tCargo (σ : SG) (i j : Nat) : Int64 := if cmp σ i 0 ∧ cmp σ j 0 then nw σ j 0 - nw σ i 0 else NCO
def tLow (σ : SG) (i j : Nat) : Int64 := if cmm σ i ∧ cmm σ j then li σ j - he σ i else NCO
def tHigh (σ : SG) (i j : Nat) : Int64 := if cmm σ i ∧ cmm σ j then he σ j - li σ i else NCO
def aFirst (σ : SG) (x : Int32) : Int64 := if inS x 4 then tFirst σ x.toNatClampNeg else NO_S
def aSecond (σ : SG) (x : Int32) : Int64 := if inS x 4 then tSecond σ x.toNatClampNeg else NO_S
def aDisp (σ : SG) (x h : Int32) : Int64 := if inS x 4 then (if ¬ h < -1000 ∧ ¬ 1000 < h then tDisp σ x.toNatClampNeg h.toInt64 else OOR) else NO_S
def aNet (σ : SG) (x : Int32) : Int64 := if inS x 4 then tNet σ x.toNatClampNeg else NO_S
def aCargo (σ : SG) (x y : Int32) : Int64 := if inS x 4 ∧ inS y 4 then tCargo σ x.toNatClampNeg y.toNatClampNeg else NO_S
def aLow (σ : SG) (x y : Int32) : Int64 := if inS x 4 ∧ inS y 4 then tLow σ x.toNatClampNeg y.toNatClampNeg else NO_S
def aHigh (σ : SG) (x y : Int32) : Int64 := if inS x 4 ∧ inS y 4 then tHigh σ x.toNatClampNeg y.toNatClampNeg else NO_S
def aDraftFor (σ : SG) (x : Int32) : Int64 := lD σ x.toInt64
def aHeaviest (σ : SG) : Int64 := hbA (hbs σ 4)
def aRowDraft (σ : SG) (x : Int32) : Int64 := if ¬ x < 0 ∧ x < nI (g_n σ) then g_tb σ (5 * x.toNatClampNeg + 0) else NO_I
def aValue (σ : SG) (k d : Int32) : Int64 := if inS k 4 then (if cov σ d.toInt64 then vA σ (k.toNatClampNeg + 1) d.toInt64 else NCO) else NO_I
/-- the hash: over f 0 .. f (k - 1) -/
def hsL (f : Nat → Int64) (h : Int64) : Nat → Int64
  | 0 => h
  | k + 1 => 31 * hsL f h k + f k
def hsO (h v : Int64) : Int64 := 31 * h + v
def hsS (σ : SG) (j : Nat) (h : Int64) : Int64 :=
  hsO (hsO (hsO (hsO (hsO (hsO (hsO (hsO (hsO (hsO (hsL (fun k => g_rd σ (6 * j + k)) h 6) (tr σ j)) (df σ j)) (hl_ σ j)) (qm σ j)) (tFirst σ j)) (tSecond σ j)) (tDisp σ j (-500))) (tDisp σ j 0)) (tDisp σ j 500)) (tNet σ j)
def hsT (σ : SG) : Int64 := hsL (g_tb σ) (hsO 1759 (lN (g_n σ))) (5 * g_n σ)
def hsE (σ : SG) (h : Int64) : Int64 := hsO (hsO (hsO (hsO (hsO (hsO h (tCargo σ 0 1)) (tLow σ 0 1)) (tHigh σ 0 1)) (hbA (hbs σ 4))) (g_len σ)) (g_mar σ)
def hsB (σ : SG) (h : Int64) : Int64 := hsL (fun k => (g_bf σ k).toInt64) (hsO h (lN (g_bl σ))) (g_bl σ)
def aDigest (σ : SG) : Int64 := hsB σ (hsE σ (hsS σ 3 (hsS σ 2 (hsS σ 1 (hsS σ 0 (hsT σ))))))
-- the reader
def gr (k : Nat) : Int64 := match k with
  | 0 => 30000
  | 1 => 9999999
  | 2 => 20000
  | 3 => 100000
  | _ => 200000
/-- a digit is read -/
def kDig (κ : KX) (d : Int32) : Option KX :=
  if (0 < k_dg κ ∧ k_mg κ = 0) ∨ (¬ k_ng κ = 0 ∧ k_dg κ = 0 ∧ d = 0) then none
  else if gr (k_pl κ).toNatClampNeg < 10 * k_mg κ + d.toInt64 then none
  else some (vp_updL (k_nu κ) (k_pl κ).toNatClampNeg (if k_ng κ = 0 then 10 * k_mg κ + d.toInt64 else -(10 * k_mg κ + d.toInt64)), k_pl κ, k_dg κ + 1, k_ng κ, 10 * k_mg κ + d.toInt64)
def kCom (κ : KX) : Option KX := if k_dg κ = 0 ∨ ¬ k_pl κ < 4 then none else some (k_nu κ, k_pl κ + 1, 0, 0, 0)
def kMin (κ : KX) : Option KX := if ¬ k_pl κ = 3 ∨ ¬ k_ng κ = 0 ∨ 0 < k_dg κ then none else some (k_nu κ, k_pl κ, k_dg κ, 1, k_mg κ)
def kSt (κ : KX) (c : Int32) : Option KX := if c = 44 then kCom κ else if c = 45 then kMin κ else if ¬ c < 48 ∧ ¬ 57 < c then kDig κ (c - 48) else none
/-- the reader over the characters i .. i + k - 1: where it stops, and its state there -/
def kRun (f : Nat → Int32) : Nat → Nat → KX → Nat × KX
  | i, 0, κ => (i, κ)
  | i, k + 1, κ => match kSt κ (f i) with
    | none => (i, κ)
    | some κ1 => kRun f (i + 1) k κ1
def k0 (f : Nat → Int64) : KX := (f, 0, 0, 0, 0)
def rdr (σ : SG) : Nat × KX := kRun (g_bf σ) 0 (g_bl σ) (k0 (fun _ => 0))
abbrev whole_ (σ : SG) : Prop := (rdr σ).1 = g_bl σ ∧ k_pl (rdr σ).2 = 4 ∧ 0 < k_dg (rdr σ).2
abbrev row_ (σ : SG) : Nat → Int64 := k_nu (rdr σ).2
abbrev asc_ (σ : SG) : Prop := g_n σ = 0 ∨ (lst_ σ < row_ σ 0 ∧ ¬ row_ σ 1 < g_tb σ (5 * (g_n σ - 1) + 1))
def aAppend (σ : SG) (c : Int32) : Int64 := if ¬ c < 32 ∧ ¬ 126 < c then (if g_bl σ < 40 then lN (g_bl σ + 1) else FUL) else OOR
def nAppend (σ : SG) (c : Int32) : SG := if ¬ c < 32 ∧ ¬ 126 < c then (if g_bl σ < 40 then u_bl (u_bf σ (upd (g_bf σ) (g_bl σ) c)) (g_bl σ + 1) else σ) else σ
def aError (σ : SG) : Int64 := lN (rdr σ).1
def aAdd (σ : SG) : Int64 := if whole_ σ then (if g_n σ < 10 then (if asc_ σ then lN (g_n σ + 1) else NAS) else FUL) else INV
/-- the first k numbers of the row are put behind the table -/
def putR (t : Nat → Int64) (n : Nat) (f : Nat → Int64) : Nat → (Nat → Int64)
  | 0 => t
  | k + 1 => vp_updL (putR t n f k) (5 * n + k) (f k)
def nAdd (σ : SG) : SG := if whole_ σ then (if g_n σ < 10 then (if asc_ σ then u_bl (u_n (u_tb σ (putR (g_tb σ) (g_n σ) (row_ σ) 5)) (g_n σ + 1)) 0 else σ) else σ) else σ
def aSetL (σ : SG) (x : Int32) : Int64 := if ¬ x < 10000 ∧ ¬ 400000 < x then g_len σ else OOR
def nSetL (σ : SG) (x : Int32) : SG := if ¬ x < 10000 ∧ ¬ 400000 < x then u_len σ x.toInt64 else σ
def aSetM (σ : SG) (x : Int32) : Int64 := if ¬ x < 0 ∧ ¬ 100 < x then g_mar σ else OOR
def nSetM (σ : SG) (x : Int32) : SG := if ¬ x < 0 ∧ ¬ 100 < x then u_mar σ x.toInt64 else σ
def aSetR (σ : SG) (x k d : Int32) : Int64 := if inS x 4 then (if inS k 6 then (if ¬ d < 0 ∧ ¬ 30000 < d then g_rd σ (6 * x.toNatClampNeg + k.toNatClampNeg) else OOR) else NO_I) else NO_S
def nSetR (σ : SG) (x k d : Int32) : SG := if inS x 4 ∧ inS k 6 ∧ ¬ d < 0 ∧ ¬ 30000 < d then u_rd σ (vp_updL (g_rd σ) (6 * x.toNatClampNeg + k.toNatClampNeg) d.toInt64) else σ
def aSetD (σ : SG) (x d : Int32) : Int64 := if inS x 4 then (if ¬ d < 950 ∧ ¬ 1050 < d then g_dn σ x.toNatClampNeg else OOR) else NO_S
def nSetD (σ : SG) (x d : Int32) : SG := if inS x 4 ∧ ¬ d < 950 ∧ ¬ 1050 < d then u_dn σ (vp_updL (g_dn σ) x.toNatClampNeg d.toInt64) else σ
def aSetW (σ : SG) (x k d : Int32) : Int64 := if inS x 4 then (if inS k 4 then (if ¬ d < 0 ∧ ¬ 9999999 < d then g_dd σ (4 * x.toNatClampNeg + k.toNatClampNeg) else OOR) else NO_I) else NO_S
def nSetW (σ : SG) (x k d : Int32) : SG := if inS x 4 ∧ inS k 4 ∧ ¬ d < 0 ∧ ¬ 9999999 < d then u_dd σ (vp_updL (g_dd σ) (4 * x.toNatClampNeg + k.toNatClampNeg) d.toInt64) else σ
abbrev pX (C : Nat → ClassId) (a : Nat → Nat) (r : Int64) (σ : SG) : Option Value → va_W → Prop := fun v w1 => v = some (.long r) ∧ ∃ κ1 : KX, w1 = wX C a σ κ1
abbrev pM (C : Nat → ClassId) (b : Nat → Nat) (r : Int64) (σ : SG) : Option Value → va_W → Prop := fun v w1 => v = some (.long r) ∧ ∃ ρ1 : KM, w1 = wM C b σ ρ1
abbrev pE (v : Option Value) (w : va_W) : Option Value → va_W → Prop := fun v1 w1 => v1 = v ∧ w1 = w
