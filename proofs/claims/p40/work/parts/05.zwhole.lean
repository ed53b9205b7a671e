-- THE CLASS'S WHOLE NUMBERS: what limbs, size and top say
theorem zpow_pos {x : Int} (h : 1 ≤ x) (k : Nat) : 1 ≤ x ^ k := by
  have := Int.pow_pos (n := x) (m := k) (by omega)
  omega
theorem zpow_le {b : Int} (hb : 1 ≤ b) {m n : Nat} (h : m ≤ n) : b ^ m ≤ b ^ n := by
  obtain ⟨d, rfl⟩ : ∃ d, n = m + d := ⟨n - m, by omega⟩
  rw [Int.pow_add]
  have h1 := zpow_pos hb d
  have h2 := zpow_pos hb m
  have h3 : b ^ m * 1 ≤ b ^ m * b ^ d := Int.mul_le_mul_of_nonneg_left h1 (by omega)
  omega
/-- the limbs below k, to the base 2^30 -/
def zsum (f : Int → Int) : Nat → Int
  | 0 => 0
  | k + 1 => zsum f k + f (k : Int) * 1073741824 ^ k
theorem zsum_s (f : Int → Int) (k : Nat) : zsum f (k + 1) = zsum f k + f (k : Int) * 1073741824 ^ k := rfl
theorem zsum_cong {f g : Int → Int} : ∀ {k : Nat}, (∀ i : Int, 0 ≤ i → i < k → f i = g i) → zsum f k = zsum g k
  | 0, _ => rfl
  | k + 1, h => by rw [zsum_s, zsum_s, zsum_cong (fun i h0 h1 => h i h0 (by omega)), h k (by omega) (by omega)]
theorem zB_pos (k : Nat) : (0 : Int) < 1073741824 ^ k := Int.pow_pos (by decide)
theorem zB_s (k : Nat) : (1073741824 : Int) ^ (k + 1) = 1073741824 ^ k * 1073741824 := Int.pow_succ _ _
/-- digits: each limb below k is one -/
def zdig (f : Int → Int) (k : Int) : Prop := ∀ i : Int, 0 ≤ i → i < k → 0 ≤ f i ∧ f i < 1073741824
theorem zsum_rng {f : Int → Int} : ∀ {k : Nat}, zdig f k → 0 ≤ zsum f k ∧ zsum f k < 1073741824 ^ k
  | 0, _ => ⟨Int.le_refl _, by simp [zsum]⟩
  | k + 1, h => by
    obtain ⟨h1, h2⟩ := zsum_rng (k := k) (fun i h0 h1 => h i h0 (by omega))
    obtain ⟨h3, h4⟩ := h k (by omega) (by omega)
    have hp := zB_pos k
    rw [zsum_s, zB_s]
    have h5 : 0 ≤ f k * 1073741824 ^ k := Int.mul_nonneg h3 (by omega)
    have h6 : (f k + 1) * 1073741824 ^ k ≤ 1073741824 * 1073741824 ^ k := Int.mul_le_mul_of_nonneg_right (by omega) (by omega)
    have h7 : (f k + 1) * 1073741824 ^ k = f k * 1073741824 ^ k + 1073741824 ^ k := by rw [Int.add_mul, Int.one_mul]
    have h8 : (1073741824 : Int) * 1073741824 ^ k = 1073741824 ^ k * 1073741824 := Int.mul_comm _ _
    exact ⟨by omega, by omega⟩
/-- the number v in n limbs f, and what stands above them, t (all of it below 40 limbs) -/
def zwv (f : Int → Int) (n t v : Int) : Prop := 0 ≤ n ∧ n ≤ 40 ∧ (t = 0 ∨ t = -1) ∧ zdig f n ∧ v = zsum f n.toNat + t * 1073741824 ^ n.toNat ∧ (0 < n → f (n - 1) ≠ t % 1073741824)
/-- one limb more, of a number carried on from below: what is left is the quotient -/
theorem zstep {f g : Int → Int} {k : Nat} {w x : Int} (hg : ∀ i : Int, 0 ≤ i → i < k → g i = f i) (hk : g k = x % 1073741824) (hs : zsum f k + x * 1073741824 ^ k = w) : zsum g (k + 1) + x / 1073741824 * 1073741824 ^ (k + 1) = w := by
  rw [zsum_s, zsum_cong hg, hk, zB_s]
  have h1 : x / 1073741824 * (1073741824 ^ k * 1073741824) = (x / 1073741824 * 1073741824) * 1073741824 ^ k := by
    rw [Int.mul_assoc, Int.mul_comm (1073741824 ^ k)]
  rw [h1, Int.add_assoc, ← Int.add_mul]
  have h2 : x % 1073741824 + x / 1073741824 * 1073741824 = x := by omega
  rw [h2]
  exact hs
theorem zdig_up {f : Int → Int} {k x : Int} (h : zdig f k) (hx : 0 ≤ x ∧ x < 1073741824) : zdig (zup f k x) (k + 1) := by
  intro i h0 h1
  by_cases e : i = k
  · rw [e, zup_s]; exact hx
  · rw [zup_n e]; exact h i h0 (by omega)
/-- cutting a limb off that says no more than what stands above it -/
theorem zcut {f : Int → Int} {k : Nat} {t : Int} (ht : t = 0 ∨ t = -1) (h : f k = t % 1073741824) : zsum f (k + 1) + t * 1073741824 ^ (k + 1) = zsum f k + t * 1073741824 ^ k := by
  rw [zsum_s, h, zB_s]
  rcases ht with rfl | rfl
  · simp
  · have e : (-1 : Int) % 1073741824 = 1073741823 := by decide
    rw [e]
    have h1 : (-1 : Int) * (1073741824 ^ k * 1073741824) = -(1073741824 ^ k * 1073741824) := by rw [Int.neg_mul, Int.one_mul]
    have h2 : (-1 : Int) * 1073741824 ^ k = -(1073741824 ^ k) := by rw [Int.neg_mul, Int.one_mul]
    rw [h1, h2]
    omega
/-- a number that lies in -B^k .. B^k - 1 has no more than k limbs -/
theorem zwv_small {f : Int → Int} {n t v : Int} (h : zwv f n t v) {k : Nat} (h1 : -(1073741824 ^ k : Int) ≤ v) (h2 : v < 1073741824 ^ k) : n ≤ k := by
  obtain ⟨h0, -, ht, hd, hv, hn⟩ := h
  by_cases hc : n ≤ k
  · exact hc
  exfalso
  obtain ⟨j, hj⟩ : ∃ j : Nat, n = (j : Int) + 1 := ⟨(n - 1).toNat, by omega⟩
  subst hj
  have hkj : k ≤ j := by omega
  have e1 : ((j : Int) + 1).toNat = j + 1 := by omega
  rw [e1, zsum_s] at hv
  have hz := zsum_rng (f := f) (k := j) (fun i a b => hd i a (by omega))
  have hf := hd j (by omega) (by omega)
  have hnj := hn (by omega)
  rw [show (j : Int) + 1 - 1 = j by omega] at hnj
  have hp := zB_pos j
  have hB : (1073741824 : Int) ^ k ≤ 1073741824 ^ j := zpow_le (by decide) hkj
  rw [zB_s] at hv
  have e3 : t * (1073741824 ^ j * 1073741824) = t * 1073741824 * 1073741824 ^ j := by rw [Int.mul_assoc, Int.mul_comm (1073741824 ^ j)]
  rw [e3, Int.add_assoc, ← Int.add_mul] at hv
  rcases ht with rfl | rfl
  · have h3 : 1 ≤ f j + 0 * 1073741824 := by
      have : f j ≠ 0 := by simpa using hnj
      omega
    have h4 : 1 * 1073741824 ^ j ≤ (f j + 0 * 1073741824) * 1073741824 ^ j := Int.mul_le_mul_of_nonneg_right h3 (by omega)
    omega
  · have h3 : f j + -1 * 1073741824 ≤ -2 := by
      have : f j ≠ 1073741823 := by simpa using hnj
      omega
    have h4 : (f j + -1 * 1073741824) * 1073741824 ^ j ≤ (-2) * 1073741824 ^ j := Int.mul_le_mul_of_nonneg_right h3 (by omega)
    omega
theorem zwv_mk {f : Int → Int} {n t v : Int} (h0 : 0 ≤ n) (h1 : n ≤ 40) (ht : t = 0 ∨ t = -1) (hd : zdig f n) (hv : v = zsum f n.toNat + t * 1073741824 ^ n.toNat) (hn : 0 < n → f (n - 1) ≠ t % 1073741824) : zwv f n t v := ⟨h0, h1, ht, hd, hv, hn⟩
theorem zwv.tl {f : Int → Int} {n t v : Int} (h : zwv f n t v) : zl t := by
  rcases h.2.2.1 with rfl | rfl <;> exact ⟨by omega, by omega⟩
theorem zwv.n0 {f : Int → Int} {n t v : Int} (h : zwv f n t v) : 0 ≤ n ∧ n ≤ 40 := ⟨h.1, h.2.1⟩
theorem zwv.ni {f : Int → Int} {n t v : Int} (h : zwv f n t v) : zi n := ⟨by have := h.1; omega, by have := h.2.1; omega⟩
theorem zwv.t0 {f : Int → Int} {n t v : Int} (h : zwv f n t v) : t = 0 ∨ t = -1 := h.2.2.1
theorem zwv.dig {f : Int → Int} {n t v : Int} (h : zwv f n t v) : zdig f n := h.2.2.2.1
theorem zwv.val {f : Int → Int} {n t v : Int} (h : zwv f n t v) : v = zsum f n.toNat + t * 1073741824 ^ n.toNat := h.2.2.2.2.1
theorem zdig_nat {f : Int → Int} {n : Int} (h0 : 0 ≤ n) (h : zdig f n) : zdig f (n.toNat : Int) := by rw [Int.toNat_of_nonneg h0]; exact h
theorem zwv.neg {f : Int → Int} {n t v : Int} (h : zwv f n t v) (ht : t < 0) : v < 0 := by
  have hv := h.val
  have h1 := zsum_rng (zdig_nat h.1 h.dig)
  rcases h.t0 with e | e
  · omega
  · rw [e] at hv; omega
theorem zwv.pos {f : Int → Int} {n t v : Int} (h : zwv f n t v) (ht : 0 ≤ t) (hn : 0 < n) : 0 < v := by
  have hv := h.val
  have e : t = 0 := by rcases h.t0 with e | e <;> omega
  obtain ⟨j, hj⟩ : ∃ j : Nat, n = (j : Int) + 1 := ⟨(n - 1).toNat, by omega⟩
  have hl := h.2.2.2.2.2 hn
  have hd := h.dig
  subst hj
  have e1 : ((j : Int) + 1).toNat = j + 1 := by omega
  rw [e1, zsum_s, e] at hv
  have h1 := zsum_rng (f := f) (k := j) (fun i a b => hd i a (by omega))
  have h2 := hd j (by omega) (by omega)
  rw [show (j : Int) + 1 - 1 = j by omega, e] at hl
  have h3 : 1 ≤ f j := by
    have : f j ≠ 0 := by simpa using hl
    omega
  have hp := zB_pos j
  have h4 : 1 * 1073741824 ^ j ≤ f j * 1073741824 ^ j := Int.mul_le_mul_of_nonneg_right h3 (by omega)
  omega
theorem zwv.nul {f : Int → Int} {n t v : Int} (h : zwv f n t v) (ht : 0 ≤ t) (hn : n ≤ 0) : v = 0 := by
  have hv := h.val
  have e : t = 0 := by rcases h.t0 with e | e <;> omega
  have e2 : n = 0 := by have := h.1; omega
  rw [e, e2] at hv
  simpa [zsum] using hv
theorem zstep_i {f g : Int → Int} {i w x : Int} (hi : 0 ≤ i) (hg : ∀ j : Int, 0 ≤ j → j < i → g j = f j) (hk : g i = x % 1073741824) (hs : zsum f i.toNat + x * 1073741824 ^ i.toNat = w) : zsum g (i + 1).toNat + x / 1073741824 * 1073741824 ^ (i + 1).toNat = w := by
  obtain ⟨k, rfl⟩ := Int.eq_ofNat_of_zero_le hi
  rw [show ((k : Int) + 1).toNat = k + 1 by omega]
  exact zstep hg hk hs
theorem zcut_i {g : Int → Int} {j r : Int} (hr : r = 0 ∨ r = -1) (hj : 0 < j) (h : g (j - 1) = r % 1073741824) : zsum g (j - 1).toNat + r * 1073741824 ^ (j - 1).toNat = zsum g j.toNat + r * 1073741824 ^ j.toNat := by
  obtain ⟨k, hk⟩ : ∃ k : Nat, j = (k : Int) + 1 := ⟨(j - 1).toNat, by omega⟩
  subst hk
  rw [show ((k : Int) + 1 - 1) = k by omega] at h ⊢
  rw [show ((k : Int) + 1).toNat = k + 1 by omega, show (k : Int).toNat = k by omega]
  exact (zcut hr h).symm
-- multiplying and adding, limb by limb
theorem zmul_rng {a x : Int} (h : 0 ≤ a ∧ a < 1073741824) (hx : -2147483648 ≤ x ∧ x ≤ 2147483648) : -2305843007066210304 ≤ a * x ∧ a * x ≤ 2305843007066210304 := by
  have h1 : a * x ≤ a * 2147483648 := Int.mul_le_mul_of_nonneg_left hx.2 h.1
  have h2 : a * (-2147483648) ≤ a * x := Int.mul_le_mul_of_nonneg_left hx.1 h.1
  omega
theorem zmulstep {f g : Int → Int} {i x q : Int} (hi : 0 ≤ i) (h : zsum g i.toNat + q * 1073741824 ^ i.toNat = x * zsum f i.toNat) : zsum g i.toNat + (q + f i * x) * 1073741824 ^ i.toNat = x * zsum f (i + 1).toNat := by
  obtain ⟨k, rfl⟩ := Int.eq_ofNat_of_zero_le hi
  rw [show ((k : Int) + 1).toNat = k + 1 by omega, show (k : Int).toNat = k by omega] at *
  rw [zsum_s, Int.add_mul, Int.mul_add]
  have e : f k * x * 1073741824 ^ k = x * (f k * 1073741824 ^ k) := by ac_rfl
  omega
theorem zmul_end {f g : Int → Int} {n t v x q : Int} (h1 : zwv f n t v) (h : zsum g n.toNat + q * 1073741824 ^ n.toNat = x * zsum f n.toNat) : zsum g n.toNat + (t * x + q) * 1073741824 ^ n.toNat = v * x := by
  rw [h1.val, Int.add_mul, Int.add_mul]
  have e : t * x * 1073741824 ^ n.toNat = t * 1073741824 ^ n.toNat * x := by ac_rfl
  have e2 : x * zsum f n.toNat = zsum f n.toNat * x := Int.mul_comm _ _
  omega
theorem zpow_s {x i : Int} (h : 0 ≤ i) : x ^ (i + 1).toNat = x ^ i.toNat * x := by
  rw [show (i + 1).toNat = i.toNat + 1 by omega, Int.pow_succ]
theorem zpow_in {v x i k C : Int} (hx : 1 ≤ x) (hik : i ≤ k) (hi : 0 ≤ i) (h : -C < v * x ^ k.toNat ∧ v * x ^ k.toNat < C) : -C < v * x ^ i.toNat ∧ v * x ^ i.toNat < C := by
  obtain ⟨d, hd⟩ : ∃ d : Nat, k.toNat = i.toNat + d := ⟨k.toNat - i.toNat, by omega⟩
  rw [hd, Int.pow_add, ← Int.mul_assoc] at h
  have hp := zpow_pos hx d
  generalize v * x ^ i.toNat = w at h ⊢
  generalize x ^ d = y at h hp
  by_cases hw : 0 ≤ w
  · have h1 : w * 1 ≤ w * y := Int.mul_le_mul_of_nonneg_left hp hw
    have : -C < 0 ∨ 0 < C := by omega
    omega
  · have h1 : (-w) * 1 ≤ (-w) * y := Int.mul_le_mul_of_nonneg_left hp (by omega)
    have e1 : (-w) * y = -(w * y) := Int.neg_mul w y
    omega
/-- the digits of a number, those above its limbs too -/
def zx (f : Int → Int) (n t : Int) : Int → Int := fun i => if i < n then f i else t % 1073741824
theorem zx_in {f : Int → Int} {n t i : Int} (h : i < n) : zx f n t i = f i := if_pos h
theorem zx_out {f : Int → Int} {n t i : Int} (h : n ≤ i) : zx f n t i = t % 1073741824 := if_neg (by omega)
theorem zx_dig {f : Int → Int} {n t v : Int} (h : zwv f n t v) (i : Int) (h0 : 0 ≤ i) : 0 ≤ zx f n t i ∧ zx f n t i < 1073741824 := by
  by_cases c : i < n
  · rw [zx_in c]; exact h.dig i h0 c
  · rw [zx_out (by omega)]; omega
/-- digits moved up by mv places -/
def zmv (F : Int → Int) (mv : Int) : Int → Int := fun i => if i < mv then 0 else F (i - mv)
theorem zmv_lo {f : Int → Int} {n t mv i : Int} (h1 : mv ≤ i) (h2 : i - mv < n) : f (i - mv) = zmv (zx f n t) mv i := by
  show _ = if i < mv then 0 else zx f n t (i - mv)
  rw [if_neg (by omega), zx_in h2]
theorem zmv_hi {f : Int → Int} {n t mv i : Int} (h1 : mv ≤ i) (h2 : n ≤ i - mv) : t % 1073741824 = zmv (zx f n t) mv i := by
  show _ = if i < mv then 0 else zx f n t (i - mv)
  rw [if_neg (by omega), zx_out h2]
theorem zmv_dig {F : Int → Int} {mv : Int} (hF : ∀ i : Int, 0 ≤ i → 0 ≤ F i ∧ F i < 1073741824) (i : Int) (h0 : 0 ≤ i) (hm : 0 ≤ mv) : 0 ≤ zmv F mv i ∧ zmv F mv i < 1073741824 := by
  show 0 ≤ (if i < mv then 0 else F (i - mv)) ∧ (if i < mv then 0 else F (i - mv)) < _
  by_cases c : i < mv
  · rw [if_pos c]; omega
  · rw [if_neg c]; exact hF _ (by omega)
theorem zx_val {f : Int → Int} {n t v : Int} (h : zwv f n t v) : ∀ k : Nat, n ≤ k → zsum (zx f n t) k + t * 1073741824 ^ k = v
  | 0, hk => by
    have e : n = 0 := by have := h.1; omega
    have hv := h.val
    rw [e] at hv
    simpa [zsum] using hv.symm
  | k + 1, hk => by
    by_cases c : n ≤ k
    · have ih := zx_val h k c
      rw [zcut h.t0 (zx_out c)]
      exact ih
    · have e : n.toNat = k + 1 := by omega
      have hv := h.val
      rw [e] at hv
      rw [zsum_cong (g := f) (fun i h0 h1 => zx_in (by omega)), hv]
theorem zmv_val (F : Int → Int) {mv : Int} (hm : 0 ≤ mv) : ∀ k : Nat, zsum (zmv F mv) (k + mv.toNat) = zsum F k * 1073741824 ^ mv.toNat
  | 0 => by
    have z : ∀ j : Nat, j ≤ mv.toNat → zsum (zmv F mv) j = 0 := by
      intro j
      induction j with
      | zero => intro _; rfl
      | succ j ih =>
        intro hj
        rw [zsum_s, ih (by omega)]
        have : zmv F mv (j : Int) = 0 := if_pos (by omega)
        rw [this]; simp
    rw [Nat.zero_add, z _ (Nat.le_refl _)]; simp [zsum]
  | k + 1 => by
    rw [show k + 1 + mv.toNat = (k + mv.toNat) + 1 by omega, zsum_s, zmv_val F hm k, zsum_s]
    have e : zmv F mv ((k + mv.toNat : Nat) : Int) = F k := by
      show (if _ then _ else _) = _
      rw [if_neg (by omega)]
      congr 1
      omega
    rw [e, Int.pow_add, Int.add_mul, Int.mul_assoc]
theorem zcomb_step {g F1 F2 : Int → Int} {i x y q : Int} (hi : 0 ≤ i) (h : zsum g i.toNat + q * 1073741824 ^ i.toNat = x * zsum F1 i.toNat + y * zsum F2 i.toNat) : zsum g i.toNat + (q + (F1 i * x + F2 i * y)) * 1073741824 ^ i.toNat = x * zsum F1 (i + 1).toNat + y * zsum F2 (i + 1).toNat := by
  obtain ⟨k, rfl⟩ := Int.eq_ofNat_of_zero_le hi
  rw [show ((k : Int) + 1).toNat = k + 1 by omega, show (k : Int).toNat = k by omega] at *
  rw [zsum_s, zsum_s, Int.add_mul, Int.add_mul, Int.mul_add, Int.mul_add]
  have e : F1 k * x * 1073741824 ^ k = x * (F1 k * 1073741824 ^ k) := by ac_rfl
  have e2 : F2 k * y * 1073741824 ^ k = y * (F2 k * 1073741824 ^ k) := by ac_rfl
  omega
theorem zcomb_end {f f2 g : Int → Int} {n t v n2 t2 v2 mv R x y q : Int} (h1 : zwv f n t v) (h2 : zwv f2 n2 t2 v2) (h5 : 0 ≤ mv) (hn : n ≤ R) (hm : n2 + mv ≤ R) (h : zsum g R.toNat + q * 1073741824 ^ R.toNat = x * zsum (zx f n t) R.toNat + y * zsum (zmv (zx f2 n2 t2) mv) R.toNat) : zsum g R.toNat + (t * x + t2 * y + q) * 1073741824 ^ R.toNat = v * x + v2 * 1073741824 ^ mv.toNat * y := by
  have hn0 := h1.1
  have hn2 := h2.1
  have a1 := zx_val h1 R.toNat (by omega)
  obtain ⟨k, hk⟩ : ∃ k : Nat, R.toNat = k + mv.toNat := ⟨R.toNat - mv.toNat, by omega⟩
  have a2 := zx_val h2 k (by omega)
  have a3 := zmv_val (zx f2 n2 t2) h5 k
  rw [← hk] at a3
  rw [a3] at h
  rw [Int.add_mul, Int.add_mul, ← a1, ← a2, Int.add_mul, Int.add_mul, Int.add_mul]
  have e1 : t * x * 1073741824 ^ R.toNat = t * 1073741824 ^ R.toNat * x := by ac_rfl
  have e2 : t2 * y * 1073741824 ^ R.toNat = t2 * 1073741824 ^ k * 1073741824 ^ mv.toNat * y := by rw [hk, Int.pow_add]; ac_rfl
  have e3 : x * zsum (zx f n t) R.toNat = zsum (zx f n t) R.toNat * x := Int.mul_comm _ _
  have e4 : y * (zsum (zx f2 n2 t2) k * 1073741824 ^ mv.toNat) = zsum (zx f2 n2 t2) k * 1073741824 ^ mv.toNat * y := Int.mul_comm _ _
  omega
-- comparing
theorem zcmp_gt {F G : Int → Int} {i : Nat} : ∀ N : Nat, i < N → (∀ j : Int, 0 ≤ j → j < N → 0 ≤ F j) → (∀ j : Int, 0 ≤ j → j < N → 0 ≤ G j ∧ G j < 1073741824) → (∀ j : Int, i < j → j < N → F j = G j) → G i < F i → zsum G N < zsum F N
  | 0, h, _, _, _, _ => absurd h (Nat.not_lt_zero _)
  | N + 1, h, hF, hG, he, hl => by
    by_cases c : i < N
    · have ih := zcmp_gt N c (fun j a b => hF j a (by omega)) (fun j a b => hG j a (by omega)) (fun j a b => he j a (by omega)) hl
      rw [zsum_s, zsum_s, he N (by omega) (by omega)]
      omega
    · have e : i = N := by omega
      subst e
      rw [zsum_s, zsum_s]
      have h1 := zsum_rng (f := G) (k := i) (fun j a b => hG j a (by omega))
      have h2 : 0 ≤ zsum F i := by
        clear h he hl hG h1
        induction i with
        | zero => exact Int.le_refl _
        | succ k ih =>
          rw [zsum_s]
          have h3 := ih (fun j a b => hF j a (by omega))
          have h4 : 0 ≤ F k * 1073741824 ^ k := Int.mul_nonneg (hF k (by omega) (by omega)) (by have := zB_pos k; omega)
          omega
      have h3 : (G i + 1) * 1073741824 ^ i ≤ F i * 1073741824 ^ i := Int.mul_le_mul_of_nonneg_right (by omega) (by have := zB_pos i; omega)
      rw [Int.add_mul, Int.one_mul] at h3
      omega
theorem zcmp_ge {F G : Int → Int} {m : Int} : ∀ N : Nat, (∀ j : Int, 0 ≤ j → j < N → 0 ≤ F j) → (∀ j : Int, j < m → G j = 0) → (∀ j : Int, m ≤ j → j < N → F j = G j) → zsum G N ≤ zsum F N
  | 0, _, _, _ => Int.le_refl _
  | N + 1, hF, hG, he => by
    have ih := zcmp_ge N (fun j a b => hF j a (by omega)) hG (fun j a b => he j a (by omega))
    rw [zsum_s, zsum_s]
    by_cases c : m ≤ N
    · rw [he N c (by omega)]; omega
    · rw [hG N (by omega)]
      have h4 : 0 ≤ F N * 1073741824 ^ N := Int.mul_nonneg (hF N (by omega) (by omega)) (by have := zB_pos N; omega)
      omega
theorem zwv.t00 {f : Int → Int} {n t v : Int} (h : zwv f n t v) (hv : 0 ≤ v) : t = 0 := by
  rcases h.t0 with e | e
  · exact e
  · exact absurd (h.neg (by omega)) (by omega)
theorem zwv.vsum {f : Int → Int} {n t v : Int} (h : zwv f n t v) (hv : 0 ≤ v) : v = zsum f n.toNat := by
  have e := h.val
  rw [h.t00 hv] at e
  simpa using e
theorem zwv.lt {f : Int → Int} {n t v : Int} (h : zwv f n t v) (hv : 0 ≤ v) : v < 1073741824 ^ n.toNat := by
  rw [h.vsum hv]
  exact (zsum_rng (zdig_nat h.1 h.dig)).2
theorem zwv.ge {f : Int → Int} {n t v : Int} (h : zwv f n t v) (hv : 0 ≤ v) (hn : 0 < n) : 1073741824 ^ (n - 1).toNat ≤ v := by
  by_cases c : 1073741824 ^ (n - 1).toNat ≤ v
  · exact c
  · have := zwv_small h (k := (n - 1).toNat) (by have := zB_pos (n - 1).toNat; omega) (by omega)
    omega
theorem zB_le {a b : Nat} (h : a ≤ b) : (1073741824 : Int) ^ a ≤ 1073741824 ^ b := zpow_le (by decide) h
theorem zal_big {f f2 : Int → Int} {n t v n2 t2 v2 mv : Int} (h1 : zwv f n t v) (h2 : zwv f2 n2 t2 v2) (hv : 0 ≤ v) (hv2 : 0 ≤ v2) (hm : 0 ≤ mv) (h : n2 + mv < n) : true = decide (v2 * 1073741824 ^ mv.toNat ≤ v) := by
  have a1 := h2.lt hv2
  have hn2 := h2.1
  have a2 := h1.ge hv (by omega)
  have a3 : v2 * 1073741824 ^ mv.toNat ≤ 1073741824 ^ n2.toNat * 1073741824 ^ mv.toNat := Int.mul_le_mul_of_nonneg_right (by omega) (by have := zB_pos mv.toNat; omega)
  rw [← Int.pow_add] at a3
  have a4 : (1073741824 : Int) ^ (n2.toNat + mv.toNat) ≤ 1073741824 ^ (n - 1).toNat := zB_le (by omega)
  exact (decide_eq_true (by omega)).symm
theorem zal_small {f f2 : Int → Int} {n t v n2 t2 v2 mv : Int} (h1 : zwv f n t v) (h2 : zwv f2 n2 t2 v2) (hv : 0 ≤ v) (hv2 : 0 ≤ v2) (hm : 0 ≤ mv) (hz : 0 < v2 ∨ mv = 0) (h : n < n2 + mv) : false = decide (v2 * 1073741824 ^ mv.toNat ≤ v) := by
  have a1 := h1.lt hv
  have hn := h1.1
  have hn2 : 0 < n2 := by
    by_cases c : 0 < n2
    · exact c
    · have e := h2.nul (by rw [h2.t00 hv2]; omega) (by omega)
      omega
  have a2 := h2.ge hv2 hn2
  have a3 : 1073741824 ^ (n2 - 1).toNat * 1073741824 ^ mv.toNat ≤ v2 * 1073741824 ^ mv.toNat := Int.mul_le_mul_of_nonneg_right (by omega) (by have := zB_pos mv.toNat; omega)
  rw [← Int.pow_add] at a3
  have a4 : (1073741824 : Int) ^ n.toNat ≤ 1073741824 ^ ((n2 - 1).toNat + mv.toNat) := zB_le (by omega)
  exact (decide_eq_false (by omega)).symm
theorem zal_sums {f f2 : Int → Int} {n t v n2 t2 v2 mv : Int} (h1 : zwv f n t v) (h2 : zwv f2 n2 t2 v2) (hv : 0 ≤ v) (hv2 : 0 ≤ v2) (hm : 0 ≤ mv) (h : n = n2 + mv) : v = zsum f n.toNat ∧ v2 * 1073741824 ^ mv.toNat = zsum (zmv (zx f2 n2 t2) mv) n.toNat := by
  have hn2 := h2.1
  refine ⟨h1.vsum hv, ?_⟩
  rw [show n.toNat = n2.toNat + mv.toNat by omega, zmv_val _ hm]
  have a := zx_val h2 n2.toNat (by omega)
  rw [h2.t00 hv2] at a
  rw [← a, h2.t00 hv2]
  simp
theorem zal_dif {f f2 : Int → Int} {n t v n2 t2 v2 mv i : Int} (h1 : zwv f n t v) (h2 : zwv f2 n2 t2 v2) (hv : 0 ≤ v) (hv2 : 0 ≤ v2) (hm : 0 ≤ mv) (h : n = n2 + mv) (hi : mv ≤ i ∧ i < n) (he : ∀ j : Int, i < j → j < n → f j = f2 (j - mv)) (hne : ¬ f i = f2 (i - mv)) : decide (f2 (i - mv) < f i) = decide (v2 * 1073741824 ^ mv.toNat ≤ v) := by
  obtain ⟨e1, e2⟩ := zal_sums h1 h2 hv hv2 hm h
  obtain ⟨k, rfl⟩ := Int.eq_ofNat_of_zero_le (show 0 ≤ i by omega)
  have hn := h1.1
  have hz : ∀ j : Int, mv ≤ j → j < n → zmv (zx f2 n2 t2) mv j = f2 (j - mv) := fun j a b => (zmv_lo a (by omega)).symm
  have hd := h1.dig
  have hd2 : ∀ j : Int, 0 ≤ j → 0 ≤ zmv (zx f2 n2 t2) mv j ∧ zmv (zx f2 n2 t2) mv j < 1073741824 := fun j a => zmv_dig (zx_dig h2) j a hm
  by_cases c : f2 ((k : Int) - mv) < f k
  · rw [decide_eq_true c]
    have := zcmp_gt (F := f) (G := zmv (zx f2 n2 t2) mv) (i := k) n.toNat (by omega) (fun j a b => (hd j a (by omega)).1) (fun j a b => hd2 j a) (fun j a b => by rw [hz j (by omega) (by omega)]; exact he j a (by omega)) (by rw [hz k (by omega) (by omega)]; exact c)
    exact (decide_eq_true (by omega)).symm
  · rw [decide_eq_false c]
    have := zcmp_gt (G := f) (F := zmv (zx f2 n2 t2) mv) (i := k) n.toNat (by omega) (fun j a b => (hd2 j a).1) (fun j a b => hd j a (by omega)) (fun j a b => by rw [hz j (by omega) (by omega)]; exact (he j a (by omega)).symm) (by rw [hz k (by omega) (by omega)]; omega)
    exact (decide_eq_false (by omega)).symm
theorem zal_same {f f2 : Int → Int} {n t v n2 t2 v2 mv : Int} (h1 : zwv f n t v) (h2 : zwv f2 n2 t2 v2) (hv : 0 ≤ v) (hv2 : 0 ≤ v2) (hm : 0 ≤ mv) (h : n = n2 + mv) (he : ∀ j : Int, mv ≤ j → j < n → f j = f2 (j - mv)) : true = decide (v2 * 1073741824 ^ mv.toNat ≤ v) := by
  obtain ⟨e1, e2⟩ := zal_sums h1 h2 hv hv2 hm h
  have hn := h1.1
  have := zcmp_ge (F := f) (G := zmv (zx f2 n2 t2) mv) (m := mv) n.toNat (fun j a b => (h1.dig j a (by omega)).1) (fun j a => if_pos a) (fun j a b => by rw [he j a (by omega)]; exact zmv_lo a (by omega))
  exact (decide_eq_true (by omega)).symm
-- dividing
theorem zsum_split (F : Int → Int) (j : Nat) : ∀ d : Nat, ∃ r : Int, zsum F (j + 1 + d) = zsum F (j + 1) + 1073741824 ^ (j + 1) * r
  | 0 => ⟨0, by simp⟩
  | d + 1 => by
    obtain ⟨r, hr⟩ := zsum_split F j d
    refine ⟨r + F ((j + 1 + d : Nat) : Int) * 1073741824 ^ d, ?_⟩
    rw [show j + 1 + (d + 1) = (j + 1 + d) + 1 by omega, zsum_s, hr, Int.mul_add]
    have e : F ((j + 1 + d : Nat) : Int) * 1073741824 ^ (j + 1 + d) = 1073741824 ^ (j + 1) * (F ((j + 1 + d : Nat) : Int) * 1073741824 ^ d) := by rw [Int.pow_add 1073741824 (j + 1) d]; ac_rfl
    omega
theorem zsum_dig {F : Int → Int} {N j : Nat} (hj : j < N) (hF : ∀ i : Int, 0 ≤ i → 0 ≤ F i ∧ F i < 1073741824) : zsum F N / 1073741824 ^ j % 1073741824 = F j := by
  obtain ⟨r, hr⟩ := zsum_split F j (N - (j + 1))
  rw [show j + 1 + (N - (j + 1)) = N by omega, zsum_s, zB_s] at hr
  have hs := zsum_rng (f := F) (k := j) (fun i a _ => hF i a)
  have hp := zB_pos j
  have e : zsum F N = zsum F j + (F j + 1073741824 * r) * 1073741824 ^ j := by
    rw [hr, Int.add_mul]
    have : 1073741824 ^ j * 1073741824 * r = 1073741824 * r * 1073741824 ^ j := by ac_rfl
    omega
  rw [e, Int.add_mul_ediv_right _ _ (by omega), Int.ediv_eq_zero_of_lt hs.1 hs.2]
  have hf := hF j (by omega)
  omega
theorem zx_div {f : Int → Int} {n t v : Int} (h : zwv f n t v) (hv : 0 ≤ v) (j : Int) (hj : 0 ≤ j) : zx f n t j = v / 1073741824 ^ j.toNat % 1073741824 := by
  obtain ⟨k, rfl⟩ := Int.eq_ofNat_of_zero_le hj
  have hn := h.1
  have a := zx_val h (n.toNat + k + 1) (by omega)
  have b := zsum_dig (F := zx f n t) (N := n.toNat + k + 1) (j := k) (by omega) (zx_dig h)
  rw [h.t00 hv] at a
  rw [show zsum (zx f n t) (n.toNat + k + 1) = v by rw [h.t00 hv]; simpa using a] at b
  exact b.symm
/-- the first limb of a number above 0 -/
theorem zlead {f : Int → Int} {n t v : Int} (h : zwv f n t v) (hv : 0 < v) : 0 < n ∧ 1 ≤ f (n - 1) ∧ f (n - 1) < 1073741824 ∧ f (n - 1) * 1073741824 ^ (n - 1).toNat ≤ v ∧ v < (f (n - 1) + 1) * 1073741824 ^ (n - 1).toNat := by
  have ht := h.t00 (by omega)
  have hn : 0 < n := by
    by_cases c : 0 < n
    · exact c
    · have := h.nul (by omega) (by omega)
      omega
  obtain ⟨j, hj⟩ : ∃ j : Nat, n = (j : Int) + 1 := ⟨(n - 1).toNat, by omega⟩
  have hv2 := h.vsum (by omega)
  have hd := h.dig
  have hl := h.2.2.2.2.2 hn
  subst hj
  rw [show ((j : Int) + 1).toNat = j + 1 by omega, zsum_s] at hv2
  rw [show (j : Int) + 1 - 1 = j by omega] at hl ⊢
  rw [ht] at hl
  have h1 := zsum_rng (f := f) (k := j) (fun i a b => hd i a (by omega))
  have h2 := hd j (by omega) (by omega)
  have h3 : f j ≠ 0 := by simpa using hl
  rw [show (j : Int).toNat = j by omega, Int.add_mul]
  exact ⟨by omega, by omega, by omega, by omega, by omega⟩
/-- a guess: not more than the quotient, and not less than about half of it -/
theorem zguess {rs X E fi T qq : Int} (hE : 0 < E) (hX : 0 < X) (h1 : fi * E ≤ X) (h2 : X ≤ (fi + 1) * E) (hf : 1 ≤ fi) (hT : T = rs / E) (hr : 0 ≤ rs) (hq : qq = rs / X) : T / (fi + 1) ≤ qq ∧ qq ≤ 2 * (T / (fi + 1)) + 1 := by
  have hT1 : T * E ≤ rs := by rw [hT]; exact Int.ediv_mul_le _ (by omega)
  have hT0 : 0 ≤ T := by rw [hT]; exact Int.ediv_nonneg hr (by omega)
  have hq1 : qq * X ≤ rs := by rw [hq]; exact Int.ediv_mul_le _ (by omega)
  have hq0 : 0 ≤ qq := by rw [hq]; exact Int.ediv_nonneg hr (by omega)
  constructor
  · rw [hq]
    refine (Int.le_ediv_iff_mul_le hX).mpr ?_
    have a1 : T / (fi + 1) * (fi + 1) ≤ T := Int.ediv_mul_le _ (by omega)
    have a0 : 0 ≤ T / (fi + 1) := Int.ediv_nonneg hT0 (by omega)
    have a2 : T / (fi + 1) * X ≤ T / (fi + 1) * ((fi + 1) * E) := Int.mul_le_mul_of_nonneg_left h2 a0
    rw [← Int.mul_assoc] at a2
    have a3 : T / (fi + 1) * (fi + 1) * E ≤ T * E := Int.mul_le_mul_of_nonneg_right a1 (by omega)
    omega
  · -- qq * fi ≤ T
    have b1 : qq * (fi * E) ≤ qq * X := Int.mul_le_mul_of_nonneg_left h1 hq0
    have b2 : qq * fi ≤ T := by
      rw [hT]
      refine (Int.le_ediv_iff_mul_le hE).mpr ?_
      rw [Int.mul_assoc]
      omega
    have b3 : qq / 2 ≤ T / (fi + 1) := by
      refine (Int.le_ediv_iff_mul_le (by omega)).mpr ?_
      have c0 : 0 ≤ qq / 2 := by omega
      have c1 : qq / 2 * (fi + 1) ≤ qq / 2 * (2 * fi) := Int.mul_le_mul_of_nonneg_left (by omega) c0
      have c2 : qq / 2 * (2 * fi) = qq / 2 * 2 * fi := by rw [Int.mul_assoc]
      have c3 : qq / 2 * 2 * fi ≤ qq * fi := Int.mul_le_mul_of_nonneg_right (by omega) (by omega)
      omega
    omega
theorem zdv_E {fi D nb mv : Int} (hnb : 0 < nb) (hmv : 0 ≤ mv) (h1 : fi * 1073741824 ^ (nb - 1).toNat ≤ D) (h2 : D < (fi + 1) * 1073741824 ^ (nb - 1).toNat) : fi * 1073741824 ^ (nb + mv - 1).toNat ≤ D * 1073741824 ^ mv.toNat ∧ D * 1073741824 ^ mv.toNat ≤ (fi + 1) * 1073741824 ^ (nb + mv - 1).toNat := by
  have hp := zB_pos mv.toNat
  rw [show (nb + mv - 1).toNat = (nb - 1).toNat + mv.toNat by omega, Int.pow_add, ← Int.mul_assoc, ← Int.mul_assoc]
  exact ⟨Int.mul_le_mul_of_nonneg_right h1 (by omega), Int.mul_le_mul_of_nonneg_right (by omega) (by omega)⟩
/-- the two first limbs are the number without the limbs behind them -/
theorem zdv_T {g : Int → Int} {m u rs ld : Int} (h : zwv g m u rs) (hr : 0 ≤ rs) (hl : 1 ≤ ld) (hb : rs < 1073741824 ^ (ld + 1).toNat) : zx g m u ld * 1073741824 + zx g m u (ld - 1) = rs / 1073741824 ^ (ld - 1).toNat := by
  rw [zx_div h hr ld (by omega), zx_div h hr (ld - 1) (by omega)]
  obtain ⟨j, hj⟩ : ∃ j : Nat, ld = (j : Int) + 1 := ⟨(ld - 1).toNat, by omega⟩
  subst hj
  rw [show ((j : Int) + 1 - 1).toNat = j by omega, show ((j : Int) + 1).toNat = j + 1 by omega]
  rw [show ((j : Int) + 1 + 1).toNat = j + 1 + 1 by omega, zB_s, zB_s] at hb
  have hp := zB_pos j
  rw [zB_s, ← Int.ediv_ediv_of_nonneg (by omega)]
  generalize hw : rs / 1073741824 ^ j = w
  have hw0 : 0 ≤ w := by rw [← hw]; exact Int.ediv_nonneg hr (by omega)
  have hw1 : w < 1073741824 * 1073741824 := by
    rw [← hw]
    refine Int.ediv_lt_of_lt_mul (by omega) ?_
    have : 1073741824 * 1073741824 * 1073741824 ^ j = 1073741824 ^ j * 1073741824 * 1073741824 := by ac_rfl
    omega
  omega
theorem zdv_q {rs X ge : Int} (hX : 0 < X) : (rs * 1 + X * -ge) / X = rs / X - ge := by
  rw [show rs * 1 + X * -ge = rs + -ge * X by rw [Int.mul_one, Int.mul_comm X], Int.add_mul_ediv_right _ _ (by omega)]
  omega
theorem zdv_v {qt D rs ge P V : Int} (h : qt * D + rs = V) : (qt + ge * P) * D + (rs * 1 + D * P * -ge) = V := by
  rw [Int.add_mul, Int.mul_neg, Int.mul_one]
  have : ge * P * D = D * P * ge := by ac_rfl
  omega
theorem zdv_end {v v2 sc qt rs : Int} (hs : 1 ≤ sc) (hv2 : 0 < v2) (h : qt * (v2 * sc) + rs = v * sc) (h0 : 0 ≤ rs) (h1 : rs < v2 * sc) : qt = v / v2 ∧ rs = v % v2 * sc := by
  have hX : 0 < v2 * sc := Int.mul_pos hv2 (by omega)
  have e1 : v * sc / (v2 * sc) = v / v2 := Int.mul_ediv_mul_of_pos_left _ _ (by omega)
  have e2 : v * sc / (v2 * sc) = qt := by
    rw [← h, Int.add_comm, Int.add_mul_ediv_right _ _ (by omega), Int.ediv_eq_zero_of_lt h0 h1]
    omega
  have e3 : qt = v / v2 := by omega
  refine ⟨e3, ?_⟩
  have e4 := Int.emod_def v v2
  rw [e4, Int.sub_mul]
  rw [e3] at h
  have : v / v2 * (v2 * sc) = v2 * (v / v2) * sc := by ac_rfl
  omega
theorem zB35 {v sc : Int} (hv : v < 1073741824 ^ 35) (h0 : 0 ≤ v) (hs : 1 ≤ sc ∧ sc < 1073741824) : 0 ≤ v * sc ∧ v * sc < 1073741824 ^ 36 := by
  have h1 : v * sc ≤ v * 1073741824 := Int.mul_le_mul_of_nonneg_left (by omega) h0
  have h2 : 0 ≤ v * sc := Int.mul_nonneg h0 (by omega)
  have h3 : (1073741824 : Int) ^ 36 = 1073741824 ^ 35 * 1073741824 := by decide +kernel
  omega
theorem zdv_half {qq ge tn : Int} (h0 : 0 ≤ tn) (h1 : (qq - 1) * 2 ^ tn.toNat < 1073741824) (hq : 2 ≤ qq) (hg : qq ≤ 2 * ge + 1) : (qq - ge - 1) * 2 ^ (tn + 1).toNat < 1073741824 ∧ tn ≤ 29 := by
  have hp : (0 : Int) < 2 ^ tn.toNat := Int.pow_pos (by decide)
  rw [show (tn + 1).toNat = tn.toNat + 1 by omega, Int.pow_succ]
  have e : (qq - ge - 1) * (2 ^ tn.toNat * 2) = (qq - ge - 1) * 2 * 2 ^ tn.toNat := by ac_rfl
  have h2 : (qq - ge - 1) * 2 * 2 ^ tn.toNat ≤ (qq - 1) * 2 ^ tn.toNat := Int.mul_le_mul_of_nonneg_right (by omega) (by omega)
  refine ⟨by omega, ?_⟩
  have h3 : 1 * 2 ^ tn.toNat ≤ (qq - 1) * 2 ^ tn.toNat := Int.mul_le_mul_of_nonneg_right (by omega) (by omega)
  by_cases c : tn ≤ 29
  · exact c
  · have h4 : (2 : Int) ^ 30 ≤ 2 ^ tn.toNat := zpow_le (by decide) (by omega)
    have h5 : (2 : Int) ^ 30 = 1073741824 := by decide +kernel
    omega
theorem zdv_init {v v2 sc : Int} (h7 : v < v2 * 1073741824 ^ 2) (hs : 1 ≤ sc) : v * sc < v2 * sc * 1073741824 ^ ((1 : Int) + 1).toNat := by
  have h := Int.mul_lt_mul_of_pos_right h7 (show 0 < sc by omega)
  have e : v2 * 1073741824 ^ 2 * sc = v2 * sc * 1073741824 ^ 2 := by ac_rfl
  rw [show ((1 : Int) + 1).toNat = 2 by decide]
  omega
theorem zdv_less {mv D rs : Int} {al : Bool} (h : 0 ≤ mv) (ha : al = decide (D * 1073741824 ^ mv.toNat ≤ rs)) (h0 : al = false) : rs < D * 1073741824 ^ (mv - 1 + 1).toNat := by
  rw [show mv - 1 + 1 = mv by omega]
  have := of_decide_eq_false (ha.symm.trans h0)
  omega
theorem zdv_q0 {D rs mv : Int} (hD : 0 < D) (hmv : 0 ≤ mv) (h0 : 0 ≤ rs) (h5 : rs < D * 1073741824 ^ (mv + 1).toNat) : rs / (D * 1073741824 ^ mv.toNat) = 0 ∨ (1 ≤ rs / (D * 1073741824 ^ mv.toNat) ∧ (rs / (D * 1073741824 ^ mv.toNat) - 1) * 2 ^ (0 : Int).toNat < 1073741824 ∧ (0 : Int) ≤ 31) := by
  have hX : 0 < D * 1073741824 ^ mv.toNat := Int.mul_pos hD (zB_pos _)
  have a : 0 ≤ rs / (D * 1073741824 ^ mv.toNat) := Int.ediv_nonneg h0 (by omega)
  have b : rs / (D * 1073741824 ^ mv.toNat) < 1073741824 := by
    refine Int.ediv_lt_of_lt_mul hX ?_
    rw [show (mv + 1).toNat = mv.toNat + 1 by omega, zB_s] at h5
    have e : D * (1073741824 ^ mv.toNat * 1073741824) = 1073741824 * (D * 1073741824 ^ mv.toNat) := by ac_rfl
    omega
  have e : ∀ q : Int, q * 2 ^ (0 : Int).toNat = q := fun q => by simp
  rw [e]
  omega
theorem zdv_bound {f : Int → Int} {n t D mv rs : Int} (h : zwv f n t D) (hD : 0 < D) (hmv : 0 ≤ mv) (h5 : rs < D * 1073741824 ^ (mv + 1).toNat) : rs < 1073741824 ^ (n + mv + 1).toNat := by
  have hn := h.1
  have a := h.lt (by omega)
  have b : D * 1073741824 ^ (mv + 1).toNat ≤ 1073741824 ^ n.toNat * 1073741824 ^ (mv + 1).toNat := Int.mul_le_mul_of_nonneg_right (by omega) (by have := zB_pos (mv + 1).toNat; omega)
  rw [← Int.pow_add, show n.toNat + (mv + 1).toNat = (n + mv + 1).toNat by omega] at b
  omega
theorem zx_if {f : Int → Int} {n t i : Int} (h : 0 ≤ i) : (if 0 ≤ i ∧ i < n then f i else t % 1073741824) = zx f n t i := by
  by_cases c : i < n
  · rw [if_pos ⟨h, c⟩, zx_in c]
  · rw [if_neg (fun q => c q.2), zx_out (by omega)]
theorem zdv_small {qq tn : Int} (h0 : 0 ≤ tn) (hq : 1 ≤ qq) (h : (qq - 1) * 2 ^ tn.toNat < 1073741824) : qq - 1 < 1073741824 := by
  have hp : (0 : Int) < 2 ^ tn.toNat := Int.pow_pos (by decide)
  have : (qq - 1) * 1 ≤ (qq - 1) * 2 ^ tn.toNat := Int.mul_le_mul_of_nonneg_left (by omega) (by omega)
  omega
theorem zdv_rest {rs X qq ge : Int} (hX : 0 < X) (h0 : 0 ≤ rs) (h7 : qq = rs / X) (h1 : 1 ≤ ge) (h2 : ge ≤ qq) : 0 ≤ rs * 1 + X * -ge ∧ rs * 1 + X * -ge ≤ rs := by
  have a : qq * X ≤ rs := by rw [h7]; exact Int.ediv_mul_le _ (by omega)
  have b : ge * X ≤ qq * X := Int.mul_le_mul_of_nonneg_right h2 (by omega)
  have d : 0 ≤ ge * X := Int.mul_nonneg (by omega) (by omega)
  have e : X * -ge = -(ge * X) := by rw [Int.mul_neg, Int.mul_comm]
  omega
theorem zdv_next {qq ge tn : Int} (h0 : 0 ≤ tn) (h : 1 ≤ qq ∧ (qq - 1) * 2 ^ tn.toNat < 1073741824 ∧ tn ≤ 31) (hg : 1 ≤ ge ∧ ge ≤ qq ∧ qq ≤ 2 * ge + 1) : qq - ge = 0 ∨ (1 ≤ qq - ge ∧ (qq - ge - 1) * 2 ^ (tn + 1).toNat < 1073741824 ∧ tn + 1 ≤ 31) := by
  by_cases c : qq - ge = 0
  · exact Or.inl c
  · have := zdv_half h0 h.2.1 (by omega) hg.2.2
    exact Or.inr ⟨by omega, this.1, by omega⟩
theorem zdv_last {mv D rs : Int} (k1 : -1 ≤ mv ∧ mv ≤ 1) (h : mv < 0) (k5 : rs < D * 1073741824 ^ (mv + 1).toNat) : rs < D := by
  have e : (mv + 1).toNat = 0 := by omega
  rw [e] at k5
  simpa using k5
