/-! what the class adds at an end is what the reference adds -/
theorem sm_sub {x y : Int64} {m n : Nat} (hx : x.toInt.natAbs ≤ m) (hy : y.toInt.natAbs ≤ n) (h : m + n < 2^62) : (x - y).toInt = x.toInt - y.toInt ∧ (x - y).toInt.natAbs ≤ m + n := by
  have e : (x - y).toInt = x.toInt - y.toInt := ma_sub (by omega) (by omega)
  exact ⟨e, by rw [e]; omega⟩
theorem i_mul {k : Int32} {y : Int32} {m n : Nat} (hk : k.toInt.natAbs ≤ m) (hy : y.toInt.natAbs ≤ n) (h : m * n < 2^30) : (k * y).toInt64.toInt = k.toInt * y.toInt ∧ (k * y).toInt64.toInt.natAbs ≤ m * n := by
  have hb := na_mul hk hy
  have e : (k * y).toInt64.toInt = k.toInt * y.toInt := by
    rw [Int32.toInt_toInt64, Int32.toInt_mul, ma_I] <;> omega
  exact ⟨e, by rw [e]; exact hb⟩
theorem p12_int {f : Nat → Int32} {x : Int32} (hf : ∀ j, j < 8 → in6 (f j)) (hx : in6 x) : (p_12 f x.toInt64).toInt = x.toInt * (12 * (f 0).toInt + x.toInt * (6 * (f 1).toInt + x.toInt * (4 * (f 2).toInt + x.toInt * 3 * (f 3).toInt))) ∧ (p_12 f x.toInt64).toInt.natAbs ≤ 2^15 := by
  have t3 : (3 : Int64).toInt.natAbs ≤ 3 := by decide
  have a3 := sm_mul (sm_mul (sm_i hx) t3 (by decide)).2 (sm_i (hf 3 (by decide))) (by decide)
  have b2 := i_mul (k := 4) (y := f 2) (m := 4) (by decide) (na6 (hf 2 (by decide))) (by decide)
  have a2 := sm_add b2.2 a3.2 (by decide)
  have c2 := sm_mul (sm_i hx) a2.2 (by decide)
  have b1 := i_mul (k := 6) (y := f 1) (m := 6) (by decide) (na6 (hf 1 (by decide))) (by decide)
  have a1 := sm_add b1.2 c2.2 (by decide)
  have c1 := sm_mul (sm_i hx) a1.2 (by decide)
  have b0 := i_mul (k := 12) (y := f 0) (m := 12) (by decide) (na6 (hf 0 (by decide))) (by decide)
  have a0 := sm_add b0.2 c1.2 (by decide)
  have c0 := sm_mul (sm_i hx) a0.2 (by decide)
  have x3 := (sm_mul (sm_i hx) t3 (by decide)).1
  refine ⟨?_, Nat.le_trans c0.2 (by decide)⟩
  rw [p_12, c0.1, a0.1, b0.1, c1.1, a1.1, b1.1, c2.1, a2.1, b2.1, a3.1, x3]
  simp only [Int32.toInt_toInt64]
  rfl
theorem e_pw12 {f : Nat → Int32} {x z : Int32} : e_pw f x z = z.toInt * (x.toInt * (12 * (f 0).toInt + x.toInt * (6 * (f 1).toInt + x.toInt * (4 * (f 2).toInt + x.toInt * 3 * (f 3).toInt)))) * 128066400 := by
  rw [e_pw]
  grind
theorem sab_1 {f : Nat → Int32} {x z : Int32} {ab : Int64} (hf : ∀ j, j < 8 → in6 (f j)) (hx : in6 x) (hz : z = 1 ∨ z = -1) (hb : bd (2^49) ab.toInt) : (ab + z.toInt64 * p_12 f x.toInt64 * 128066400).toInt = ab.toInt + e_pw f x z ∧ bd (2^42) (e_pw f x z) := by
  have hp := p12_int hf hx
  have hz1 : z.toInt64.toInt.natAbs ≤ 1 := by rw [Int32.toInt_toInt64, (in6_z hz).1]; decide
  have m1 := sm_mul hz1 hp.2 (by decide)
  have tc : (128066400 : Int64).toInt.natAbs ≤ 128066400 := by decide
  have m2 := sm_mul m1.2 tc (by decide)
  have e : (z.toInt64 * p_12 f x.toInt64 * 128066400).toInt = e_pw f x z := by
    rw [m2.1, m1.1, hp.1, Int32.toInt_toInt64, e_pw12]; rfl
  have hbe : bd (2^42) (e_pw f x z) := by
    have := m2.2
    rw [e] at this
    exact bd_le (bd_na this) (by decide)
  refine ⟨?_, hbe⟩
  unfold bd at hb hbe
  rw [ma_add, e] <;> rw [e] <;> omega
theorem sab_int {f : Nat → Int32} {x z : Int32} {ab : Int64} (hf : ∀ j, j < 8 → in6 (f j)) (hx : in6 x) (hz : z = 1 ∨ z = -1) (hb : bd (2^49) ab.toInt) (hl : x_less x = false) (hd : p_pole f = true → ¬ x - f 7 = 0) : (s_ab f x z ab).toInt = ab.toInt + e_all f x z ∧ bd (2^44) (e_all f x z) := by
  have h1 := sab_1 hf hx hz hb
  by_cases hp : p_pole f = true
  · have hd0 := hd hp
    have hdi := sub6 hx (hf 7 (by decide))
    have hdz : x.toInt - (f 7).toInt ≠ 0 := fun h => hd0 (Int32.toInt_inj.mp (by rw [hdi, h]; rfl))
    have hdl := dl_6 hx (hf 7 (by decide))
    have c1 := cb_d hdl.1 hdl.2 hdz
    have c2 := cb_dd hdl.1 hdl.2 hdz
    have hz1 : z.toInt.natAbs ≤ 1 := by rw [(in6_z hz).1]; decide
    have w5 := i_mul (k := z) (y := f 5) hz1 (na6 (hf 5 (by decide))) (by decide)
    have w6 := i_mul (k := z) (y := f 6) hz1 (na6 (hf 6 (by decide))) (by decide)
    have tcb : (1536796800 : Int64).toInt = 1536796800 := rfl
    have q1 : (1536796800 / (x - f 7).toInt64 : Int64).toInt = Int.tdiv 1536796800 (x.toInt - (f 7).toInt) := by
      rw [Int64.toInt_div_of_ne_left _ _ (by decide), Int32.toInt_toInt64, hdi, tcb]
    have d2 : (2 * (x - f 7) * (x - f 7)).toInt = 2 * (x.toInt - (f 7).toInt) * (x.toInt - (f 7).toInt) := by
      have t2 : (2 : Int32).toInt = 2 := rfl
      have hh := c2.2.2
      rw [Int32.toInt_mul, Int32.toInt_mul, hdi, t2, ma_I (a := 2 * (x.toInt - (f 7).toInt)) (by omega) (by omega), ma_I (by omega) (by omega)]
    have q2 : (1536796800 / (2 * (x - f 7) * (x - f 7)).toInt64 : Int64).toInt = Int.tdiv 1536796800 (2 * (x.toInt - (f 7).toInt) * (x.toInt - (f 7).toInt)) := by
      rw [Int64.toInt_div_of_ne_left _ _ (by decide), Int32.toInt_toInt64, d2, tcb]
    have m5 := sm_mul w5.2 (show (1536796800 / (x - f 7).toInt64 : Int64).toInt.natAbs ≤ 1536796800 by rw [q1]; exact c1.2) (by decide)
    have m6 := sm_mul w6.2 (show (1536796800 / (2 * (x - f 7) * (x - f 7)).toInt64 : Int64).toInt.natAbs ≤ 1536796800 by rw [q2]; exact c2.2.1) (by decide)
    have e0 : (p_pole f && !decide (x - f 7 = 0)) = true := by rw [hp, decide_eq_false hd0]; rfl
    have ha : (ab + z.toInt64 * p_12 f x.toInt64 * 128066400).toInt.natAbs ≤ 2^49 + 2^42 := by
      rw [h1.1]
      have h2 := h1.2
      unfold bd at hb h2
      omega
    have s5 := sm_sub ha m5.2 (by decide)
    have s6 := sm_sub s5.2 m6.2 (by decide)
    have ee : e_po f x z = -((z * f 5).toInt64 * (1536796800 / (x - f 7).toInt64)).toInt - ((z * f 6).toInt64 * (1536796800 / (2 * (x - f 7) * (x - f 7)).toInt64)).toInt := by
      rw [e_po, m5.1, m6.1, w5.1, w6.1, q1, q2]; omega
    refine ⟨?_, ?_⟩
    · rw [s_ab, if_neg (by rw [hl]; decide), if_pos e0, s6.1, s5.1, h1.1, e_all, if_pos hp, ee]; omega
    · rw [e_all, if_pos hp, ee]
      have h9 := bd_add h1.2 (bd_add (bd_ng (bd_na m5.2)) (bd_ng (bd_na m6.2)))
      rw [Int.sub_eq_add_neg]
      exact bd_le h9 (by decide)
  · have hp' : p_pole f = false := by simpa using hp
    refine ⟨?_, ?_⟩
    · rw [s_ab, if_neg (by rw [hl]; decide), if_neg (by rw [hp']; simp), h1.1, e_all, if_neg hp]
    · rw [e_all, if_neg hp]; exact bd_le h1.2 (by decide)
theorem ia_ma (v : Int32) : i_abs v = m_abs v := by
  unfold i_abs m_abs
  split
  · rfl
  · rw [Int32.sub_eq_add_neg, Int32.zero_add]
theorem slg_eq {f : Nat → Int32} {x z : Int32} {lg : Nat → Int32} (hl : x_less x = false) (hd : p_pole f = true → ¬ x - f 7 = 0) : s_lg f x z lg = if p_pole f then (fun j => lg j + z * f 4 * nI (x_ti (gl_prime j) 3 (m_abs (x - f 7)))) else lg := by
  funext j
  by_cases hp : p_pole f = true
  · rw [s_lg, hl, hp, decide_eq_false (hd hp), ia_ma]; rfl
  · have hp' : p_pole f = false := by simpa using hp
    rw [s_lg, hp']; simp
theorem there_div {f : Nat → Int32} {a b : Int32} (h7 : in6 (f 7)) (ha : in9 a) (hb : in9 b) (hab : a < b) : m_there f a b = !p_div f a b := by
  have n9 : (9 : Int32).toInt = 9 := by decide
  have m9 : (-9 : Int32).toInt = -9 := by decide
  rw [Int32.lt_iff_toInt_lt] at hab
  unfold in9 in6 at *
  have e1 : decide (a = 9) = false := decide_eq_false (fun h => by rw [h, n9] at hab; omega)
  have e2 : decide (b = -9) = false := decide_eq_false (fun h => by rw [h, m9] at hab; omega)
  have g1 : a = -9 → ¬ f 7 < a := fun h => by rw [h, Int32.lt_iff_toInt_lt, m9]; omega
  have g2 : b = 9 → ¬ b < f 7 := fun h => by rw [h, Int32.lt_iff_toInt_lt, n9]; omega
  have k1 : (decide (a = -9) || !decide (f 7 < a)) = !decide (f 7 < a) := by
    by_cases h : a = -9
    · rw [decide_eq_false (g1 h)]; simp
    · rw [decide_eq_false h]; rfl
  have k2 : (decide (b = 9) || !decide (b < f 7)) = !decide (b < f 7) := by
    by_cases h : b = 9
    · rw [decide_eq_false (g2 h)]; simp
    · rw [decide_eq_false h]; rfl
  rw [m_there, p_div, k1, k2, x_less, x_less, e1, e2]
  cases p_pole f <;> cases decide (f 7 < a) <;> cases decide (b < f 7) <;> cases decide (a = -9) <;> cases decide (b = 9) <;> cases p_tail f <;> rfl
