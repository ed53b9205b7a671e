-- THE CLASS'S WHOLE NUMBERS: what limbs, size and top say
/-- the limbs below k, to the base 2^30 -/
def zsum (f : Int → Int) : Nat → Int
  | 0 => 0
  | k + 1 => zsum f k + f (k : Int) * 1073741824 ^ k
theorem zsum_s (f : Int → Int) (k : Nat) : zsum f (k + 1) = zsum f k + f (k : Int) * 1073741824 ^ k := rfl
theorem zsum_cong {f g : Int → Int} : ∀ {k : Nat}, (∀ i : Int, 0 ≤ i → i < k → f i = g i) → zsum f k = zsum g k
  | 0, _ => rfl
  | k + 1, h => by rw [zsum_s, zsum_s, zsum_cong (fun i h0 h1 => h i h0 (by omega)), h k (by omega) (by omega)]
theorem zB_pos (k : Nat) : (0 : Int) < 1073741824 ^ k := Int.pow_pos (by decide)
theorem zB_s (k : Nat) : (1073741824 : Int) ^ (k + 1) = 1073741824 ^ k * 1073741824 := Int.pow_succ _ _
/-- digits: each limb below k is one -/
def zdig (f : Int → Int) (k : Int) : Prop := ∀ i : Int, 0 ≤ i → i < k → 0 ≤ f i ∧ f i < 1073741824
theorem zsum_rng {f : Int → Int} : ∀ {k : Nat}, zdig f k → 0 ≤ zsum f k ∧ zsum f k < 1073741824 ^ k
  | 0, _ => ⟨Int.le_refl _, by decide⟩
  | k + 1, h => by
    obtain ⟨h1, h2⟩ := zsum_rng (k := k) (fun i h0 h1 => h i h0 (by omega))
    obtain ⟨h3, h4⟩ := h k (by omega) (by omega)
    have hp := zB_pos k
    rw [zsum_s, zB_s]
    have h5 : 0 ≤ f k * 1073741824 ^ k := Int.mul_nonneg h3 (by omega)
    have h6 : (f k + 1) * 1073741824 ^ k ≤ 1073741824 * 1073741824 ^ k := Int.mul_le_mul_of_nonneg_right (by omega) (by omega)
    have h7 : (f k + 1) * 1073741824 ^ k = f k * 1073741824 ^ k + 1073741824 ^ k := by rw [Int.add_mul, Int.one_mul]
    have h8 : (1073741824 : Int) * 1073741824 ^ k = 1073741824 ^ k * 1073741824 := Int.mul_comm _ _
    exact ⟨by omega, by omega⟩
/-- the number v in n limbs f, and what stands above them, t (all of it below 40 limbs) -/
def zwv (f : Int → Int) (n t v : Int) : Prop := 0 ≤ n ∧ n ≤ 40 ∧ (t = 0 ∨ t = -1) ∧ zdig f n ∧ v = zsum f n.toNat + t * 1073741824 ^ n.toNat ∧ (0 < n → f (n - 1) ≠ t % 1073741824)
/-- one limb more, of a number carried on from below: what is left is the quotient -/
theorem zstep {f g : Int → Int} {k : Nat} {w x : Int} (hg : ∀ i : Int, 0 ≤ i → i < k → g i = f i) (hk : g k = x % 1073741824) (hs : zsum f k + x * 1073741824 ^ k = w) : zsum g (k + 1) + x / 1073741824 * 1073741824 ^ (k + 1) = w := by
  rw [zsum_s, zsum_cong hg, hk, zB_s]
  have h1 : x / 1073741824 * (1073741824 ^ k * 1073741824) = (x / 1073741824 * 1073741824) * 1073741824 ^ k := by
    rw [Int.mul_assoc, Int.mul_comm (1073741824 ^ k)]
  rw [h1, Int.add_assoc, ← Int.add_mul]
  have h2 : x % 1073741824 + x / 1073741824 * 1073741824 = x := by omega
  rw [h2]
  exact hs
theorem zdig_up {f : Int → Int} {k x : Int} (h : zdig f k) (hx : 0 ≤ x ∧ x < 1073741824) : zdig (zup f k x) (k + 1) := by
  intro i h0 h1
  by_cases e : i = k
  · rw [e, zup_s]; exact hx
  · rw [zup_n e]; exact h i h0 (by omega)
/-- cutting a limb off that says no more than what stands above it -/
theorem zcut {f : Int → Int} {k : Nat} {t : Int} (ht : t = 0 ∨ t = -1) (h : f k = t % 1073741824) : zsum f (k + 1) + t * 1073741824 ^ (k + 1) = zsum f k + t * 1073741824 ^ k := by
  rw [zsum_s, h, zB_s]
  rcases ht with rfl | rfl
  · simp
  · have e : (-1 : Int) % 1073741824 = 1073741823 := by decide
    rw [e]
    have h1 : (-1 : Int) * (1073741824 ^ k * 1073741824) = -(1073741824 ^ k * 1073741824) := by rw [Int.neg_mul, Int.one_mul]
    have h2 : (-1 : Int) * 1073741824 ^ k = -(1073741824 ^ k) := by rw [Int.neg_mul, Int.one_mul]
    rw [h1, h2]
    omega
/-- a number that lies in -B^k .. B^k - 1 has no more than k limbs -/
theorem zwv_small {f : Int → Int} {n t v : Int} (h : zwv f n t v) {k : Nat} (h1 : -(1073741824 ^ k : Int) ≤ v) (h2 : v < 1073741824 ^ k) : n ≤ k := by
  obtain ⟨h0, -, ht, hd, hv, hn⟩ := h
  by_cases hc : n ≤ k
  · exact hc
  exfalso
  obtain ⟨j, hj⟩ : ∃ j : Nat, n = (j : Int) + 1 := ⟨(n - 1).toNat, by omega⟩
  subst hj
  have hkj : k ≤ j := by omega
  have e1 : ((j : Int) + 1).toNat = j + 1 := by omega
  rw [e1, zsum_s] at hv
  have hz := zsum_rng (f := f) (k := j) (fun i a b => hd i a (by omega))
  have hf := hd j (by omega) (by omega)
  have hnj := hn (by omega)
  rw [show (j : Int) + 1 - 1 = j by omega] at hnj
  have hp := zB_pos j
  have hB : (1073741824 : Int) ^ k ≤ 1073741824 ^ j := Int.pow_le_pow_right (by decide) hkj
  rw [zB_s] at hv
  have e3 : t * (1073741824 ^ j * 1073741824) = t * 1073741824 * 1073741824 ^ j := by rw [Int.mul_assoc, Int.mul_comm (1073741824 ^ j)]
  rw [e3, Int.add_assoc, ← Int.add_mul] at hv
  rcases ht with rfl | rfl
  · have h3 : 1 ≤ f j + 0 * 1073741824 := by
      have : f j ≠ 0 := by simpa using hnj
      omega
    have h4 : 1 * 1073741824 ^ j ≤ (f j + 0 * 1073741824) * 1073741824 ^ j := Int.mul_le_mul_of_nonneg_right h3 (by omega)
    omega
  · have h3 : f j + -1 * 1073741824 ≤ -2 := by
      have : f j ≠ 1073741823 := by simpa using hnj
      omega
    have h4 : (f j + -1 * 1073741824) * 1073741824 ^ j ≤ (-2) * 1073741824 ^ j := Int.mul_le_mul_of_nonneg_right h3 (by omega)
    omega
