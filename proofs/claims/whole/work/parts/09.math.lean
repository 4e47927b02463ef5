/-! numbers: Int32 and Int64 by their integers; Euclid's way on longs -/
theorem ma_L {a : Int} (h1 : -2^63 ≤ a) (h2 : a < 2^63) : a.bmod (2^64) = a := by
  apply Int.bmod_eq_of_le_mul_two <;> omega
theorem ma_I {a : Int} (h1 : -2^31 ≤ a) (h2 : a < 2^31) : a.bmod (2^32) = a := by
  apply Int.bmod_eq_of_le_mul_two <;> omega
/-- the integer of a sum, difference, product, quotient, remainder that fits -/
theorem ma_add {x y : Int64} (h1 : -2^63 ≤ x.toInt + y.toInt) (h2 : x.toInt + y.toInt < 2^63) : (x + y).toInt = x.toInt + y.toInt := by
  rw [Int64.toInt_add, ma_L h1 h2]
theorem ma_sub {x y : Int64} (h1 : -2^63 ≤ x.toInt - y.toInt) (h2 : x.toInt - y.toInt < 2^63) : (x - y).toInt = x.toInt - y.toInt := by
  rw [Int64.toInt_sub, ma_L h1 h2]
theorem ma_mul {x y : Int64} (h1 : -2^63 ≤ x.toInt * y.toInt) (h2 : x.toInt * y.toInt < 2^63) : (x * y).toInt = x.toInt * y.toInt := by
  rw [Int64.toInt_mul, ma_L h1 h2]
theorem ma_neg {x : Int64} (h1 : x.toInt ≠ -2^63) : (-x).toInt = -x.toInt := by
  have := x.le_toInt
  have := x.toInt_lt
  rw [Int64.toInt_neg, ma_L] <;> omega
theorem ma_div {x y : Int64} (h : y.toInt ≠ -1) : (x / y).toInt = x.toInt.tdiv y.toInt := by
  refine Int64.toInt_div_of_ne_right x y (fun e => h ?_)
  rw [e]; decide
/-- the remainder: what is left by the quotient -/
theorem ma_rem {x y : Int64} (h : y.toInt ≠ 0) : (x - x / y * y).toInt = x.toInt.tmod y.toInt := by
  have hx1 := x.le_toInt
  have hx2 := x.toInt_lt
  have hy1 := y.le_toInt
  have hy2 := y.toInt_lt
  have e : x.toInt - x.toInt.tdiv y.toInt * y.toInt = x.toInt.tmod y.toInt := by
    have := Int.tdiv_mul_add_tmod x.toInt y.toInt
    omega
  have hm : (x.toInt.tmod y.toInt).natAbs < y.toInt.natAbs := by
    rw [Int.natAbs_tmod]
    exact Nat.mod_lt _ (by omega)
  rw [Int64.toInt_sub, Int64.toInt_mul, Int64.toInt_div, Int.sub_bmod_bmod, ← e]
  rw [← e] at hm
  have : (x.toInt - (x.toInt.tdiv y.toInt).bmod (2 ^ 64) * y.toInt).bmod (2 ^ 64) = (x.toInt - x.toInt.tdiv y.toInt * y.toInt).bmod (2 ^ 64) := by
    rw [← Int.sub_bmod_bmod, Int.bmod_mul_bmod, Int.sub_bmod_bmod]
  rw [this]
  apply ma_L <;> omega
/-- Euclid's way on longs, n steps -/
def gd_it : Nat → Int64 → Int64 → Int64
  | 0, a, _ => a
  | n + 1, a, b => if b = 0 then a else gd_it n b (a - a / b * b)
theorem gd_half {b r : Nat} (h0 : 0 < r) (h : r < b) : b % r < (b + 1) / 2 := by
  by_cases c : r ≤ b / 2
  · have := Nat.mod_lt b h0
    omega
  · rw [Nat.mod_eq_sub_mod (Nat.le_of_lt h), Nat.mod_eq_of_lt (by omega)]
    omega
theorem gd_ok : ∀ (k n : Nat) (a b : Int64), b.toInt.natAbs < 2 ^ k → 2 * k + 1 ≤ n → (gd_it n a b).toInt.natAbs = Nat.gcd a.toInt.natAbs b.toInt.natAbs := by
  intro k
  induction k with
  | zero =>
    intro n a b hb hn
    have h0 : b.toInt = 0 := by omega
    have hb0 : b = 0 := Int64.toInt_inj.mp (by rw [h0]; rfl)
    obtain ⟨n, rfl⟩ : ∃ j, n = j + 1 := ⟨n - 1, by omega⟩
    rw [gd_it, if_pos hb0, h0]
    simp
  | succ k ih =>
    intro n a b hb hn
    obtain ⟨n, rfl⟩ : ∃ j, n = j + 1 := ⟨n - 1, by omega⟩
    by_cases hb0 : b = 0
    · rw [gd_it, if_pos hb0, hb0]
      simp
    · have hbi : b.toInt ≠ 0 := fun e => hb0 (Int64.toInt_inj.mp (by rw [e]; rfl))
      have e1 : (a - a / b * b).toInt = a.toInt.tmod b.toInt := ma_rem hbi
      rw [gd_it, if_neg hb0]
      generalize hr : a - a / b * b = r at e1 ⊢
      have e1' : r.toInt.natAbs = a.toInt.natAbs % b.toInt.natAbs := by rw [e1, Int.natAbs_tmod]
      have g1 : Nat.gcd a.toInt.natAbs b.toInt.natAbs = Nat.gcd b.toInt.natAbs r.toInt.natAbs := by
        rw [Nat.gcd_comm, Nat.gcd_rec, e1', Nat.gcd_comm]
      obtain ⟨n, rfl⟩ : ∃ j, n = j + 1 := ⟨n - 1, by omega⟩
      by_cases hr0 : r = 0
      · rw [g1, gd_it, if_pos hr0, hr0]
        simp
      · have hri : r.toInt ≠ 0 := fun e => hr0 (Int64.toInt_inj.mp (by rw [e]; rfl))
        rw [gd_it, if_neg hr0]
        have e2 : (b - b / r * r).toInt = b.toInt.tmod r.toInt := ma_rem hri
        generalize b - b / r * r = q at e2 ⊢
        have e2' : q.toInt.natAbs = b.toInt.natAbs % r.toInt.natAbs := by rw [e2, Int.natAbs_tmod]
        have hlt : r.toInt.natAbs < b.toInt.natAbs := by rw [e1']; exact Nat.mod_lt _ (by omega)
        have hq : q.toInt.natAbs < 2 ^ k := by
          have := gd_half (b := b.toInt.natAbs) (r := r.toInt.natAbs) (by omega) hlt
          rw [e2']
          have h2 : 2 ^ (k + 1) = 2 * 2 ^ k := by rw [Nat.pow_succ]; omega
          omega
        rw [ih n r q hq (by omega), g1, e2', Nat.gcd_comm b.toInt.natAbs r.toInt.natAbs, Nat.gcd_comm r.toInt.natAbs (b.toInt.natAbs % r.toInt.natAbs), ← Nat.gcd_rec]
