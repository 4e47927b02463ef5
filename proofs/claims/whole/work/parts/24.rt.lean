/-! fractions: up over dn in lowest terms, being S over C -/
def rt (C S : Int) (up dn : Int64) : Prop := 0 < dn.toInt ∧ Nat.gcd up.toInt.natAbs dn.toInt.natAbs = 1 ∧ up.toInt * C = S * dn.toInt
theorem rt_dn {C S : Int} {up dn : Int64} (hC : 0 < C) (h : rt C S up dn) : dn.toInt ≤ C ∧ up.toInt.natAbs ≤ S.natAbs := by
  obtain ⟨h1, h2, h3⟩ := h
  have e : up.toInt.natAbs * C.natAbs = S.natAbs * dn.toInt.natAbs := by
    rw [← Int.natAbs_mul, ← Int.natAbs_mul, h3]
  have hd : dn.toInt.natAbs ∣ C.natAbs := by
    apply Nat.Coprime.dvd_of_dvd_mul_left (m := up.toInt.natAbs)
    · rw [Nat.Coprime, Nat.gcd_comm]; exact h2
    · rw [e]; exact Nat.dvd_mul_left _ _
  have hle : dn.toInt.natAbs ≤ C.natAbs := Nat.le_of_dvd (by omega) hd
  refine ⟨by omega, ?_⟩
  have h5 : up.toInt.natAbs * C.natAbs ≤ S.natAbs * C.natAbs := by
    rw [e]; exact Nat.mul_le_mul_left _ hle
  exact Nat.le_of_mul_le_mul_right h5 (by omega)
/-- the sum of two fractions in lowest terms -/
theorem rt_sum {C S T p q g : Int} {u1 u2 : Int} (hg : 0 < g) (hgg : g.natAbs = Nat.gcd p.natAbs q.natAbs) (hq : q ≠ 0) (hpq : p * C = (S + T) * q) (h1 : u1 = if q < 0 then -(p.tdiv g) else p.tdiv g) (h2 : u2 = if q < 0 then -(q.tdiv g) else q.tdiv g) : 0 < u2 ∧ Nat.gcd u1.natAbs u2.natAbs = 1 ∧ u1 * C = (S + T) * u2 := by
  have gp : g ∣ p := by
    apply Int.natAbs_dvd_natAbs.mp
    rw [hgg]; exact Nat.gcd_dvd_left _ _
  have gq : g ∣ q := by
    apply Int.natAbs_dvd_natAbs.mp
    rw [hgg]; exact Nat.gcd_dvd_right _ _
  obtain ⟨a, ha⟩ := gp
  obtain ⟨c, hc⟩ := gq
  have ea : p.tdiv g = a := by rw [ha]; exact Int.mul_tdiv_cancel_left _ (by omega)
  have ec : q.tdiv g = c := by rw [hc]; exact Int.mul_tdiv_cancel_left _ (by omega)
  rw [ea] at h1
  rw [ec] at h2
  have hco : Nat.gcd a.natAbs c.natAbs = 1 := by
    have h3 : g.natAbs * Nat.gcd a.natAbs c.natAbs = g.natAbs * 1 := by
      rw [← Nat.gcd_mul_left, ← Int.natAbs_mul, ← Int.natAbs_mul, ← ha, ← hc, Nat.mul_one, hgg]
    exact Nat.eq_of_mul_eq_mul_left (by omega) h3
  have hcz : c ≠ 0 := fun e => hq (by rw [hc, e, Int.mul_zero])
  have hpc : a * C = (S + T) * c := by
    have h4 : g * (a * C) = g * ((S + T) * c) := by
      rw [ha, hc] at hpq
      grind
    exact Int.eq_of_mul_eq_mul_left (by omega) h4
  by_cases hn : q < 0
  · rw [if_pos hn] at h1 h2
    have hcn : c < 0 := by
      rw [hc] at hn
      rcases (show c < 0 ∨ 0 ≤ c by omega) with h | h
      · exact h
      · exact absurd hn (Int.not_lt.mpr (Int.mul_nonneg (by omega) h))
    rw [h1, h2]
    refine ⟨by omega, by rw [Int.natAbs_neg, Int.natAbs_neg]; exact hco, ?_⟩
    grind
  · rw [if_neg hn] at h1 h2
    have hcn : 0 < c := by
      rw [hc] at hn
      rcases (show 0 < c ∨ c ≤ 0 by omega) with h | h
      · exact h
      · exact absurd (Int.mul_neg_of_pos_of_neg hg (by omega)) hn
    rw [h1, h2]
    exact ⟨by omega, hco, hpc⟩
/-- at most a, either way -/
def bd (a x : Int) : Prop := -a ≤ x ∧ x ≤ a
theorem bd_add {a b x y : Int} (h : bd a x) (k : bd b y) : bd (a + b) (x + y) := by unfold bd at *; omega
theorem bd_le {a b x : Int} (h : bd a x) (k : a ≤ b) : bd b x := by unfold bd at *; omega
theorem bd_ng {a x : Int} (h : bd a x) : bd a (-x) := by unfold bd at *; omega
theorem bd_na {w : Int} {n : Nat} (h : w.natAbs ≤ n) : bd n w := by unfold bd; omega
theorem bd_c {w : Int} {n : Nat} (h : w.natAbs ≤ n) (m : Nat) : bd (n * m : Nat) (w * m) := by
  have h1 : (w * (m : Int)).natAbs ≤ n * m := by rw [Int.natAbs_mul, Int.natAbs_natCast]; exact Nat.mul_le_mul_right m h
  exact bd_na h1
theorem na_mul {a b : Int} {m n : Nat} (h1 : a.natAbs ≤ m) (h2 : b.natAbs ≤ n) : (a * b).natAbs ≤ m * n := by
  rw [Int.natAbs_mul]; exact Nat.mul_le_mul h1 h2
/-- what more() does -/
theorem rt_more {C S T : Int} {up dn x9 y9 : Int64} (hC : 0 < C) (hC2 : C < 2^31) (h : rt C S up dn) (hT : x9.toInt * C = T * y9.toInt) (hy0 : y9.toInt ≠ 0) (hy : y9.toInt.natAbs ≤ 2^11) (hx : x9.toInt.natAbs ≤ 2^15) (hS : bd (2^50) S) :
    (up * y9 + x9 * dn).toInt ≠ -2^63 ∧ (dn * y9).toInt ≠ -2^63 ∧ (dn * y9).toInt ≠ 0 ∧
    ∀ (u : Int64 × Int64), (∃ g : Int64, 0 < g.toInt ∧ g.toInt.natAbs = Nat.gcd (up * y9 + x9 * dn).toInt.natAbs (dn * y9).toInt.natAbs ∧ u.1 = (if dn * y9 < 0 then -((up * y9 + x9 * dn) / g) else (up * y9 + x9 * dn) / g) ∧ u.2 = (if dn * y9 < 0 then -((dn * y9) / g) else (dn * y9) / g)) → rt C (S + T) u.1 u.2 := by
  obtain ⟨hd1, hd2⟩ := rt_dn hC h
  obtain ⟨h1, h2, h3⟩ := h
  unfold bd at hS
  have b1 : (up.toInt * y9.toInt).natAbs ≤ 2^50 * 2^11 := na_mul (by omega) hy
  have b2 : (x9.toInt * dn.toInt).natAbs ≤ 2^15 * 2^31 := na_mul hx (by omega)
  have b3 : (dn.toInt * y9.toInt).natAbs ≤ 2^31 * 2^11 := na_mul (by omega) hy
  have e1 : (up * y9).toInt = up.toInt * y9.toInt := ma_mul (by omega) (by omega)
  have e2 : (x9 * dn).toInt = x9.toInt * dn.toInt := ma_mul (by omega) (by omega)
  have e3 : (dn * y9).toInt = dn.toInt * y9.toInt := ma_mul (by omega) (by omega)
  have e4 : (up * y9 + x9 * dn).toInt = up.toInt * y9.toInt + x9.toInt * dn.toInt := by
    rw [ma_add, e1, e2] <;> rw [e1, e2] <;> omega
  have hq0 : dn.toInt * y9.toInt ≠ 0 := Int.mul_ne_zero (by omega) hy0
  refine ⟨by rw [e4]; omega, by rw [e3]; omega, by rw [e3]; exact hq0, ?_⟩
  rintro ⟨v1, v2⟩ ⟨g, g1, g2, g3, g4⟩
  dsimp only at g3 g4 ⊢
  generalize hp : up * y9 + x9 * dn = P at *
  generalize hq : dn * y9 = Q at *
  have hlt : (Q < 0) ↔ Q.toInt < 0 := by rw [Int64.lt_iff_toInt_lt]; rfl
  have hg1 : g.toInt ≠ -1 := by omega
  have dP : (P / g).toInt = P.toInt.tdiv g.toInt := ma_div hg1
  have dQ : (Q / g).toInt = Q.toInt.tdiv g.toInt := ma_div hg1
  have nP : (P / g).toInt ≠ -2^63 := by
    rw [dP]
    have h9 := Int.natAbs_tdiv_le_natAbs P.toInt g.toInt
    omega
  have nQ : (Q / g).toInt ≠ -2^63 := by
    rw [dQ]
    have h9 := Int.natAbs_tdiv_le_natAbs Q.toInt g.toInt
    omega
  have f1 : v1.toInt = if Q.toInt < 0 then -(P.toInt.tdiv g.toInt) else P.toInt.tdiv g.toInt := by
    rw [g3]
    by_cases c : Q < 0
    · rw [if_pos c, if_pos (hlt.mp c), ma_neg nP, dP]
    · rw [if_neg c, if_neg (fun h9 => c (hlt.mpr h9)), dP]
  have f2 : v2.toInt = if Q.toInt < 0 then -(Q.toInt.tdiv g.toInt) else Q.toInt.tdiv g.toInt := by
    rw [g4]
    by_cases c : Q < 0
    · rw [if_pos c, if_pos (hlt.mp c), ma_neg nQ, dQ]
    · rw [if_neg c, if_neg (fun h9 => c (hlt.mpr h9)), dQ]
  refine rt_sum g1 g2 (by rw [e3]; exact hq0) ?_ f1 f2
  rw [e3, e4]
  grind
/-- lowest terms are told in one way -/
theorem rt_low {C S : Int} {up dn a b : Int64} (hC : 0 < C) (hC2 : C < 2^31) (h : rt C S up dn) (hS : S.natAbs < 2^62) (hb : (0 < b.toInt ∧ b.toInt = C ∧ a.toInt = S) ∨ (b.toInt < 0 ∧ -b.toInt = C ∧ -a.toInt = S)) : x_low a b 0 = up ∧ x_low a b 1 = dn := by
  obtain ⟨h1, h2, h3⟩ := h
  have hbn : b.toInt.natAbs = C.natAbs := by rcases hb with ⟨h, h9, h8⟩ | ⟨h, h9, h8⟩ <;> omega
  have han : a.toInt.natAbs = S.natAbs := by rcases hb with ⟨h, h9, h8⟩ | ⟨h, h9, h8⟩ <;> omega
  have hgd := gd_ok 31 100 a b (by omega) (by decide)
  have hgcd : (x_gcd a b).toInt = (Nat.gcd S.natAbs C.natAbs : Int) := by
    have hpos : 0 < Nat.gcd S.natAbs C.natAbs := Nat.gcd_pos_of_pos_right _ (by omega)
    have hle : Nat.gcd S.natAbs C.natAbs ≤ C.natAbs := Nat.gcd_le_right _ (by omega)
    rw [han, hbn] at hgd
    have hz : (0 : Int64).toInt = 0 := rfl
    rw [x_gcd]
    by_cases c : 0 < gd_it 100 a b
    · rw [if_pos c]
      rw [Int64.lt_iff_toInt_lt, hz] at c
      omega
    · rw [if_neg c, ma_neg (by omega)]
      rw [Int64.lt_iff_toInt_lt, hz] at c
      omega
  generalize hG : Nat.gcd S.natAbs C.natAbs = G at hgcd
  have hpos : 0 < G := by rw [← hG]; exact Nat.gcd_pos_of_pos_right _ (by omega)
  have hGl : G ≤ C.natAbs := by rw [← hG]; exact Nat.gcd_le_right _ (by omega)
  generalize hg : x_gcd a b = g at hgcd
  have hg0 : ¬ g = 0 := fun e => by rw [e] at hgcd; have hz : (0 : Int64).toInt = 0 := rfl; omega
  -- S and C over their divisor
  have dS : (G : Int) ∣ S := by
    apply Int.natAbs_dvd_natAbs.mp
    rw [Int.natAbs_natCast, ← hG]; exact Nat.gcd_dvd_left _ _
  have dC : (G : Int) ∣ C := by
    apply Int.natAbs_dvd_natAbs.mp
    rw [Int.natAbs_natCast, ← hG]; exact Nat.gcd_dvd_right _ _
  obtain ⟨k1, hk1⟩ := dS
  obtain ⟨k2, hk2⟩ := dC
  have hk2p : 0 < k2 := by
    rcases (show 0 < k2 ∨ k2 ≤ 0 by omega) with h | h
    · exact h
    · have := Int.mul_le_mul_of_nonneg_left (c := (G : Int)) h (by omega)
      rw [← hk2, Int.mul_zero] at this
      omega
  have hco : Nat.gcd k1.natAbs k2.natAbs = 1 := by
    have h4 : G * Nat.gcd k1.natAbs k2.natAbs = G * 1 := by
      have e1 : S.natAbs = G * k1.natAbs := by rw [hk1, Int.natAbs_mul, Int.natAbs_natCast]
      have e2 : C.natAbs = G * k2.natAbs := by rw [hk2, Int.natAbs_mul, Int.natAbs_natCast]
      rw [← Nat.gcd_mul_left, ← e1, ← e2, hG, Nat.mul_one]
    exact Nat.eq_of_mul_eq_mul_left hpos h4
  have hx : up.toInt * k2 = k1 * dn.toInt := by
    have h5 : (G : Int) * (up.toInt * k2) = G * (k1 * dn.toInt) := by
      rw [hk1, hk2] at h3
      grind
    exact Int.eq_of_mul_eq_mul_left (by omega) h5
  have hxn : up.toInt.natAbs * k2.natAbs = k1.natAbs * dn.toInt.natAbs := by rw [← Int.natAbs_mul, ← Int.natAbs_mul, hx]
  have hdn : dn.toInt.natAbs = k2.natAbs := by
    apply Nat.dvd_antisymm
    · apply Nat.Coprime.dvd_of_dvd_mul_left (m := up.toInt.natAbs)
      · rw [Nat.Coprime, Nat.gcd_comm]; exact h2
      · rw [hxn]; exact Nat.dvd_mul_left _ _
    · apply Nat.Coprime.dvd_of_dvd_mul_left (m := k1.natAbs)
      · rw [Nat.Coprime, Nat.gcd_comm]; exact hco
      · rw [← hxn]; exact Nat.dvd_mul_left _ _
  have hdn2 : dn.toInt = k2 := by omega
  have hup2 : up.toInt = k1 := by
    rw [hdn2] at hx
    exact Int.eq_of_mul_eq_mul_right (by omega) hx
  have hz : (0 : Int64).toInt = 0 := rfl
  have tS : S.tdiv G = k1 := by rw [hk1]; exact Int.mul_tdiv_cancel_left _ (by omega)
  have tC : C.tdiv G = k2 := by rw [hk2]; exact Int.mul_tdiv_cancel_left _ (by omega)
  have low : ∀ (w : Int64) (W : Int), W.natAbs < 2^62 → ((0 < b.toInt ∧ w.toInt = W) ∨ (b.toInt < 0 ∧ -w.toInt = W)) → (w / (if b < 0 then -g else g)).toInt = W.tdiv G := by
    intro w W hWb hw
    by_cases c : b < 0
    · rw [if_pos c]
      rw [Int64.lt_iff_toInt_lt, hz] at c
      have hw2 : -w.toInt = W := by rcases hw with ⟨h, -⟩ | ⟨-, h⟩ <;> omega
      have en : (-g).toInt = -(G : Int) := by rw [ma_neg (by omega), hgcd]
      by_cases c1 : (-g).toInt = -1
      · have hG1 : G = 1 := by omega
        rw [Int64.toInt_div, c1, hG1, ← hw2]
        rw [show (w.toInt).tdiv (-1) = -w.toInt by rw [Int.tdiv_neg, Int.tdiv_one], ma_L (by have := w.toInt_lt; have := w.le_toInt; omega) (by have := w.toInt_lt; have := w.le_toInt; omega)]
        rw [show ((1 : Nat) : Int) = 1 from rfl, Int.tdiv_one]
      · rw [ma_div c1, en, Int.tdiv_neg, ← hw2, Int.neg_tdiv]
    · rw [if_neg c]
      rw [Int64.lt_iff_toInt_lt, hz] at c
      have hw2 : w.toInt = W := by rcases hw with ⟨-, h⟩ | ⟨h, -⟩ <;> omega
      rw [ma_div (by omega), hgcd, hw2]
  constructor
  · apply Int64.toInt_inj.mp
    rw [x_low, hg, if_neg hg0, if_pos rfl, low a S hS (by rcases hb with ⟨h, h9, h8⟩ | ⟨h, h9, h8⟩; exact Or.inl ⟨h, h8⟩; exact Or.inr ⟨h, h8⟩), tS, hup2]
  · apply Int64.toInt_inj.mp
    rw [x_low, hg, if_neg hg0, if_neg (by decide), low b C (by omega) (by rcases hb with ⟨h, h9, h8⟩ | ⟨h, h9, h8⟩; exact Or.inl ⟨h, h9⟩; exact Or.inr ⟨h, h9⟩), tC, hdn2]
