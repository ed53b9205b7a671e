-- ROUNDING HALF EVEN GROWS WITH WHAT IS ROUNDED; an instalment is never less than the interest
theorem zr6_q {t b : Int} (ht : 0 ≤ t) : zr6 t b = t / b + (if b < 2 * (t % b) ∨ (2 * (t % b) = b ∧ t / b % 2 = 1) then 1 else 0) := by
  unfold zr6 zhe
  rw [if_neg (by omega), show (t.natAbs : Int) = t by omega]
theorem zr6_spec {t b : Int} (ht : 0 ≤ t) (hb : 0 < b) : 2 * (zr6 t b * b) ≤ 2 * t + b ∧ 2 * t ≤ 2 * (zr6 t b * b) + b ∧ (2 * (zr6 t b * b) = 2 * t + b ∨ 2 * t = 2 * (zr6 t b * b) + b → zr6 t b % 2 = 0) := by
  have e := Int.mul_ediv_add_emod t b
  have r0 := Int.emod_nonneg t (show b ≠ 0 by omega)
  have r1 := Int.emod_lt_of_pos t hb
  have ec : t / b * b = b * (t / b) := Int.mul_comm _ _
  rw [zr6_q ht]
  by_cases c : b < 2 * (t % b) ∨ (2 * (t % b) = b ∧ t / b % 2 = 1)
  · rw [if_pos c, Int.add_mul, Int.one_mul, ec]
    refine ⟨by omega, by omega, fun h => ?_⟩
    omega
  · rw [if_neg c, Int.add_zero, ec]
    refine ⟨by omega, by omega, fun h => ?_⟩
    omega
theorem zr6_mono {t1 b1 t2 b2 : Int} (h1 : 0 ≤ t1) (hb1 : 0 < b1) (h2 : 0 ≤ t2) (hb2 : 0 < b2) (h : t1 * b2 ≤ t2 * b1) : zr6 t1 b1 ≤ zr6 t2 b2 := by
  obtain ⟨a1, -, c1⟩ := zr6_spec h1 hb1
  obtain ⟨-, a2, c2⟩ := zr6_spec h2 hb2
  generalize zr6 t1 b1 = z1 at a1 c1 ⊢
  generalize zr6 t2 b2 = z2 at a2 c2 ⊢
  have hB : 0 < b1 * b2 := Int.mul_pos hb1 hb2
  have m1 : 2 * (z1 * b1) * b2 ≤ (2 * t1 + b1) * b2 := Int.mul_le_mul_of_nonneg_right a1 (by omega)
  have m2 : 2 * t2 * b1 ≤ (2 * (z2 * b2) + b2) * b1 := Int.mul_le_mul_of_nonneg_right a2 (by omega)
  have e1 : 2 * (z1 * b1) * b2 = 2 * (z1 * (b1 * b2)) := by rw [Int.mul_assoc 2, Int.mul_assoc z1]
  have e2 : (2 * t1 + b1) * b2 = 2 * (t1 * b2) + b1 * b2 := by rw [Int.add_mul, Int.mul_assoc 2]
  have e3 : 2 * t2 * b1 = 2 * (t2 * b1) := Int.mul_assoc _ _ _
  have e4 : (2 * (z2 * b2) + b2) * b1 = 2 * (z2 * (b1 * b2)) + b1 * b2 := by rw [Int.add_mul, Int.mul_assoc 2, Int.mul_assoc z2, Int.mul_comm b2 b1]
  rcases Int.lt_or_le z2 z1 with hlt | hle
  · exfalso
    have k1 : (z2 + 1) * (b1 * b2) ≤ z1 * (b1 * b2) := Int.mul_le_mul_of_nonneg_right (by omega) (by omega)
    rw [Int.add_mul, Int.one_mul] at k1
    have q1 : 2 * (z1 * b1) * b2 = (2 * t1 + b1) * b2 := by omega
    have q2 : 2 * t2 * b1 = (2 * (z2 * b2) + b2) * b1 := by omega
    have q3 : z1 * (b1 * b2) = (z2 + 1) * (b1 * b2) := by rw [Int.add_mul, Int.one_mul]; omega
    have w1 := c1 (Or.inl (Int.eq_of_mul_eq_mul_right (by omega) q1))
    have w2 := c2 (Or.inr (Int.eq_of_mul_eq_mul_right (by omega) q2))
    have w3 : z1 = z2 + 1 := Int.eq_of_mul_eq_mul_right (by omega) q3
    omega
  · exact hle
theorem zr6_nn {t b : Int} (ht : 0 ≤ t) (hb : 0 < b) : 0 ≤ zr6 t b := by
  have := zr6_mono (t1 := 0) (b1 := 1) (Int.le_refl 0) (by decide) ht hb (by omega)
  rw [zr6_0 (by decide)] at this
  exact this
/-- an instalment is never less than the interest of a period -/
theorem zinst_int {mo po n lf : Int} (hm : 1 ≤ mo ∧ mo ≤ 1000000000) (hp : 0 ≤ po ∧ po ≤ 20000) (hn : 1 ≤ n ∧ n ≤ 60) (hl : 0 ≤ lf ∧ lf ≤ mo) : 0 ≤ zr6 (lf * po) 100000 ∧ zr6 (lf * po) 100000 ≤ zinst mo po n := by
  have g0 : 0 ≤ lf * po := Int.mul_nonneg hl.1 hp.1
  refine ⟨zr6_nn g0 (by decide), ?_⟩
  unfold zinst
  by_cases c : po = 0
  · rw [if_pos c, c, Int.mul_zero, zr6_0 (by decide)]
    exact zr6_nn (by omega) (by omega)
  · rw [if_neg c]
    have ha := tin_all (mo := mo) (po := po) (n := n) (by omega) (by omega) hn
    have hP := tin_pow (po := po) (k := n) hp (by omega)
    have hQ := tin_pow (po := 0) (k := n) (by omega) (by omega)
    rw [Int.add_zero] at hQ
    have hpos := ha.2.2.2.2.2.1
    generalize (100000 + po) ^ n.toNat = P at hP hpos ⊢
    generalize (100000 : Int) ^ n.toNat = Q at hQ hpos ⊢
    have g1 : lf * po ≤ mo * po := Int.mul_le_mul_of_nonneg_right hl.2 hp.1
    have g2 : lf * po * (P - Q) ≤ mo * po * P := by
      have k1 : lf * po * (P - Q) ≤ lf * po * P := Int.mul_le_mul_of_nonneg_left (by omega) g0
      have k2 : lf * po * P ≤ mo * po * P := Int.mul_le_mul_of_nonneg_right g1 (by omega)
      omega
    refine zr6_mono g0 (by decide) (Int.mul_nonneg (by omega) (by omega)) hpos ?_
    rw [← Int.mul_assoc]
    exact Int.mul_le_mul_of_nonneg_right g2 (by decide)
