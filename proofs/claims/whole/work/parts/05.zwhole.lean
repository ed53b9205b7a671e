-- THE CLASS'S WHOLE NUMBERS: what limbs, size and top say
/-- the limbs below k, to the base 2^30 -/
def zsum (f : Int → Int) : Nat → Int
  | 0 => 0
  | k + 1 => zsum f k + f (k : Int) * 1073741824 ^ k
theorem zsum_s (f : Int → Int) (k : Nat) : zsum f (k + 1) = zsum f k + f (k : Int) * 1073741824 ^ k := rfl
theorem zsum_cong {f g : Int → Int} : ∀ {k : Nat}, (∀ i : Int, 0 ≤ i → i < k → f i = g i) → zsum f k = zsum g k
  | 0, _ => rfl
  | k + 1, h => by rw [zsum_s, zsum_s, zsum_cong (fun i h0 h1 => h i h0 (by omega)), h k (by omega) (by omega)]
theorem zB_pos (k : Nat) : (0 : Int) < 1073741824 ^ k := Int.pow_pos (by decide)
theorem zB_s (k : Nat) : (1073741824 : Int) ^ (k + 1) = 1073741824 ^ k * 1073741824 := Int.pow_succ _ _
/-- digits: each limb below k is one -/
def zdig (f : Int → Int) (k : Int) : Prop := ∀ i : Int, 0 ≤ i → i < k → 0 ≤ f i ∧ f i < 1073741824
theorem zsum_rng {f : Int → Int} : ∀ {k : Nat}, zdig f k → 0 ≤ zsum f k ∧ zsum f k < 1073741824 ^ k
  | 0, _ => ⟨Int.le_refl _, by decide⟩
  | k + 1, h => by
    obtain ⟨h1, h2⟩ := zsum_rng (k := k) (fun i h0 h1 => h i h0 (by omega))
    obtain ⟨h3, h4⟩ := h k (by omega) (by omega)
    have hp := zB_pos k
    rw [zsum_s, zB_s]
    have h5 : 0 ≤ f k * 1073741824 ^ k := Int.mul_nonneg h3 (by omega)
    have h6 : (f k + 1) * 1073741824 ^ k ≤ 1073741824 * 1073741824 ^ k := Int.mul_le_mul_of_nonneg_right (by omega) (by omega)
    have h7 : (f k + 1) * 1073741824 ^ k = f k * 1073741824 ^ k + 1073741824 ^ k := by rw [Int.add_mul, Int.one_mul]
    have h8 : (1073741824 : Int) * 1073741824 ^ k = 1073741824 ^ k * 1073741824 := Int.mul_comm _ _
    exact ⟨by omega, by omega⟩
/-- the number v in n limbs f, and what stands above them, t (all of it below 40 limbs) -/
def zwv (f : Int → Int) (n t v : Int) : Prop := 0 ≤ n ∧ n ≤ 40 ∧ (t = 0 ∨ t = -1) ∧ zdig f n ∧ v = zsum f n.toNat + t * 1073741824 ^ n.toNat ∧ (0 < n → f (n - 1) ≠ t % 1073741824)
/-- one limb more, of a number carried on from below: what is left is the quotient -/
theorem zstep {f g : Int → Int} {k : Nat} {w x : Int} (hg : ∀ i : Int, 0 ≤ i → i < k → g i = f i) (hk : g k = x % 1073741824) (hs : zsum f k + x * 1073741824 ^ k = w) : zsum g (k + 1) + x / 1073741824 * 1073741824 ^ (k + 1) = w := by
  rw [zsum_s, zsum_cong hg, hk, zB_s]
  have h1 : x / 1073741824 * (1073741824 ^ k * 1073741824) = (x / 1073741824 * 1073741824) * 1073741824 ^ k := by
    rw [Int.mul_assoc, Int.mul_comm (1073741824 ^ k)]
  rw [h1, Int.add_assoc, ← Int.add_mul]
  have h2 : x % 1073741824 + x / 1073741824 * 1073741824 = x := by omega
  rw [h2]
  exact hs
theorem zdig_up {f : Int → Int} {k x : Int} (h : zdig f k) (hx : 0 ≤ x ∧ x < 1073741824) : zdig (zup f k x) (k + 1) := by
  intro i h0 h1
  by_cases e : i = k
  · rw [e, zup_s]; exact hx
  · rw [zup_n e]; exact h i h0 (by omega)
/-- cutting a limb off that says no more than what stands above it -/
theorem zcut {f : Int → Int} {k : Nat} {t : Int} (ht : t = 0 ∨ t = -1) (h : f k = t % 1073741824) : zsum f (k + 1) + t * 1073741824 ^ (k + 1) = zsum f k + t * 1073741824 ^ k := by
  rw [zsum_s, h, zB_s]
  rcases ht with rfl | rfl
  · simp
  · have e : (-1 : Int) % 1073741824 = 1073741823 := by decide
    rw [e]
    have h1 : (-1 : Int) * (1073741824 ^ k * 1073741824) = -(1073741824 ^ k * 1073741824) := by rw [Int.neg_mul, Int.one_mul]
    have h2 : (-1 : Int) * 1073741824 ^ k = -(1073741824 ^ k) := by rw [Int.neg_mul, Int.one_mul]
    rw [h1, h2]
    omega
/-- a number that lies in -B^k .. B^k - 1 has no more than k limbs -/
theorem zwv_small {f : Int → Int} {n t v : Int} (h : zwv f n t v) {k : Nat} (h1 : -(1073741824 ^ k : Int) ≤ v) (h2 : v < 1073741824 ^ k) : n ≤ k := by
  obtain ⟨h0, -, ht, hd, hv, hn⟩ := h
  by_cases hc : n ≤ k
  · exact hc
  exfalso
  obtain ⟨j, hj⟩ : ∃ j : Nat, n = (j : Int) + 1 := ⟨(n - 1).toNat, by omega⟩
  subst hj
  have hkj : k ≤ j := by omega
  have e1 : ((j : Int) + 1).toNat = j + 1 := by omega
  rw [e1, zsum_s] at hv
  have hz := zsum_rng (f := f) (k := j) (fun i a b => hd i a (by omega))
  have hf := hd j (by omega) (by omega)
  have hnj := hn (by omega)
  rw [show (j : Int) + 1 - 1 = j by omega] at hnj
  have hp := zB_pos j
  have hB : (1073741824 : Int) ^ k ≤ 1073741824 ^ j := Int.pow_le_pow_right (by decide) hkj
  rw [zB_s] at hv
  have e3 : t * (1073741824 ^ j * 1073741824) = t * 1073741824 * 1073741824 ^ j := by rw [Int.mul_assoc, Int.mul_comm (1073741824 ^ j)]
  rw [e3, Int.add_assoc, ← Int.add_mul] at hv
  rcases ht with rfl | rfl
  · have h3 : 1 ≤ f j + 0 * 1073741824 := by
      have : f j ≠ 0 := by simpa using hnj
      omega
    have h4 : 1 * 1073741824 ^ j ≤ (f j + 0 * 1073741824) * 1073741824 ^ j := Int.mul_le_mul_of_nonneg_right h3 (by omega)
    omega
  · have h3 : f j + -1 * 1073741824 ≤ -2 := by
      have : f j ≠ 1073741823 := by simpa using hnj
      omega
    have h4 : (f j + -1 * 1073741824) * 1073741824 ^ j ≤ (-2) * 1073741824 ^ j := Int.mul_le_mul_of_nonneg_right h3 (by omega)
    omega
theorem zwv_mk {f : Int → Int} {n t v : Int} (h0 : 0 ≤ n) (h1 : n ≤ 40) (ht : t = 0 ∨ t = -1) (hd : zdig f n) (hv : v = zsum f n.toNat + t * 1073741824 ^ n.toNat) (hn : 0 < n → f (n - 1) ≠ t % 1073741824) : zwv f n t v := ⟨h0, h1, ht, hd, hv, hn⟩
theorem zwv.tl {f : Int → Int} {n t v : Int} (h : zwv f n t v) : zl t := by
  rcases h.2.2.1 with rfl | rfl <;> exact ⟨by omega, by omega⟩
theorem zwv.n0 {f : Int → Int} {n t v : Int} (h : zwv f n t v) : 0 ≤ n ∧ n ≤ 40 := ⟨h.1, h.2.1⟩
theorem zwv.ni {f : Int → Int} {n t v : Int} (h : zwv f n t v) : zi n := ⟨by have := h.1; omega, by have := h.2.1; omega⟩
theorem zwv.t0 {f : Int → Int} {n t v : Int} (h : zwv f n t v) : t = 0 ∨ t = -1 := h.2.2.1
theorem zwv.dig {f : Int → Int} {n t v : Int} (h : zwv f n t v) : zdig f n := h.2.2.2.1
theorem zwv.val {f : Int → Int} {n t v : Int} (h : zwv f n t v) : v = zsum f n.toNat + t * 1073741824 ^ n.toNat := h.2.2.2.2.1
theorem zdig_nat {f : Int → Int} {n : Int} (h0 : 0 ≤ n) (h : zdig f n) : zdig f (n.toNat : Int) := by rw [Int.toNat_of_nonneg h0]; exact h
theorem zwv.neg {f : Int → Int} {n t v : Int} (h : zwv f n t v) (ht : t < 0) : v < 0 := by
  have hv := h.val
  have h1 := zsum_rng (zdig_nat h.1 h.dig)
  rcases h.t0 with e | e
  · omega
  · rw [e] at hv; omega
theorem zwv.pos {f : Int → Int} {n t v : Int} (h : zwv f n t v) (ht : 0 ≤ t) (hn : 0 < n) : 0 < v := by
  have hv := h.val
  have e : t = 0 := by rcases h.t0 with e | e <;> omega
  obtain ⟨j, hj⟩ : ∃ j : Nat, n = (j : Int) + 1 := ⟨(n - 1).toNat, by omega⟩
  have hl := h.2.2.2.2.2 hn
  have hd := h.dig
  subst hj
  have e1 : ((j : Int) + 1).toNat = j + 1 := by omega
  rw [e1, zsum_s, e] at hv
  have h1 := zsum_rng (f := f) (k := j) (fun i a b => hd i a (by omega))
  have h2 := hd j (by omega) (by omega)
  rw [show (j : Int) + 1 - 1 = j by omega, e] at hl
  have h3 : 1 ≤ f j := by
    have : f j ≠ 0 := by simpa using hl
    omega
  have hp := zB_pos j
  have h4 : 1 * 1073741824 ^ j ≤ f j * 1073741824 ^ j := Int.mul_le_mul_of_nonneg_right h3 (by omega)
  omega
theorem zwv.nul {f : Int → Int} {n t v : Int} (h : zwv f n t v) (ht : 0 ≤ t) (hn : n ≤ 0) : v = 0 := by
  have hv := h.val
  have e : t = 0 := by rcases h.t0 with e | e <;> omega
  have e2 : n = 0 := by have := h.1; omega
  rw [e, e2] at hv
  simpa [zsum] using hv
theorem zstep_i {f g : Int → Int} {i w x : Int} (hi : 0 ≤ i) (hg : ∀ j : Int, 0 ≤ j → j < i → g j = f j) (hk : g i = x % 1073741824) (hs : zsum f i.toNat + x * 1073741824 ^ i.toNat = w) : zsum g (i + 1).toNat + x / 1073741824 * 1073741824 ^ (i + 1).toNat = w := by
  obtain ⟨k, rfl⟩ := Int.eq_ofNat_of_zero_le hi
  rw [show ((k : Int) + 1).toNat = k + 1 by omega]
  exact zstep hg hk hs
theorem zcut_i {g : Int → Int} {j r : Int} (hr : r = 0 ∨ r = -1) (hj : 0 < j) (h : g (j - 1) = r % 1073741824) : zsum g (j - 1).toNat + r * 1073741824 ^ (j - 1).toNat = zsum g j.toNat + r * 1073741824 ^ j.toNat := by
  obtain ⟨k, hk⟩ : ∃ k : Nat, j = (k : Int) + 1 := ⟨(j - 1).toNat, by omega⟩
  subst hk
  rw [show ((k : Int) + 1 - 1) = k by omega] at h ⊢
  rw [show ((k : Int) + 1).toNat = k + 1 by omega, show (k : Int).toNat = k by omega]
  exact (zcut hr h).symm
-- multiplying and adding, limb by limb
theorem zmul_rng {a x : Int} (h : 0 ≤ a ∧ a < 1073741824) (hx : -2147483648 ≤ x ∧ x ≤ 2147483648) : -2305843007066210304 ≤ a * x ∧ a * x ≤ 2305843007066210304 := by
  have h1 : a * x ≤ a * 2147483648 := Int.mul_le_mul_of_nonneg_left hx.2 h.1
  have h2 : a * (-2147483648) ≤ a * x := Int.mul_le_mul_of_nonneg_left hx.1 h.1
  omega
theorem zmulstep {f g : Int → Int} {i x q : Int} (hi : 0 ≤ i) (h : zsum g i.toNat + q * 1073741824 ^ i.toNat = x * zsum f i.toNat) : zsum g i.toNat + (q + f i * x) * 1073741824 ^ i.toNat = x * zsum f (i + 1).toNat := by
  obtain ⟨k, rfl⟩ := Int.eq_ofNat_of_zero_le hi
  rw [show ((k : Int) + 1).toNat = k + 1 by omega, show (k : Int).toNat = k by omega] at *
  rw [zsum_s, Int.add_mul, Int.mul_add]
  have e : f k * x * 1073741824 ^ k = x * (f k * 1073741824 ^ k) := by ac_rfl
  omega
theorem zmul_end {f g : Int → Int} {n t v x q : Int} (h1 : zwv f n t v) (h : zsum g n.toNat + q * 1073741824 ^ n.toNat = x * zsum f n.toNat) : zsum g n.toNat + (t * x + q) * 1073741824 ^ n.toNat = v * x := by
  rw [h1.val, Int.add_mul, Int.add_mul]
  have e : t * x * 1073741824 ^ n.toNat = t * 1073741824 ^ n.toNat * x := by ac_rfl
  have e2 : x * zsum f n.toNat = zsum f n.toNat * x := Int.mul_comm _ _
  omega
theorem zpow_s {x i : Int} (h : 0 ≤ i) : x ^ (i + 1).toNat = x ^ i.toNat * x := by
  rw [show (i + 1).toNat = i.toNat + 1 by omega, Int.pow_succ]
theorem zpow_pos {x : Int} (h : 1 ≤ x) (k : Nat) : 1 ≤ x ^ k := by
  have := Int.pow_pos (n := x) (m := k) (by omega)
  omega
theorem zpow_in {v x i k C : Int} (hx : 1 ≤ x) (hik : i ≤ k) (hi : 0 ≤ i) (h : -C < v * x ^ k.toNat ∧ v * x ^ k.toNat < C) : -C < v * x ^ i.toNat ∧ v * x ^ i.toNat < C := by
  obtain ⟨d, hd⟩ : ∃ d : Nat, k.toNat = i.toNat + d := ⟨k.toNat - i.toNat, by omega⟩
  rw [hd, Int.pow_add, ← Int.mul_assoc] at h
  have hp := zpow_pos hx d
  generalize v * x ^ i.toNat = w at h ⊢
  generalize x ^ d = y at h hp
  by_cases hw : 0 ≤ w
  · have h1 : w * 1 ≤ w * y := Int.mul_le_mul_of_nonneg_left hp hw
    have : -C < 0 ∨ 0 < C := by omega
    omega
  · have h1 : (-w) * 1 ≤ (-w) * y := Int.mul_le_mul_of_nonneg_left hp (by omega)
    rw [Int.neg_mul] at h1
    omega
/-- the digits of a number, those above its limbs too -/
def zx (f : Int → Int) (n t : Int) : Int → Int := fun i => if i < n then f i else t % 1073741824
theorem zx_in {f : Int → Int} {n t i : Int} (h : i < n) : zx f n t i = f i := if_pos h
theorem zx_out {f : Int → Int} {n t i : Int} (h : n ≤ i) : zx f n t i = t % 1073741824 := if_neg (by omega)
theorem zx_dig {f : Int → Int} {n t v : Int} (h : zwv f n t v) (i : Int) (h0 : 0 ≤ i) : 0 ≤ zx f n t i ∧ zx f n t i < 1073741824 := by
  by_cases c : i < n
  · rw [zx_in c]; exact h.dig i h0 c
  · rw [zx_out (by omega)]; omega
/-- digits moved up by mv places -/
def zmv (F : Int → Int) (mv : Int) : Int → Int := fun i => if i < mv then 0 else F (i - mv)
theorem zmv_lo {f : Int → Int} {n t mv i : Int} (h1 : mv ≤ i) (h2 : i - mv < n) : f (i - mv) = zmv (zx f n t) mv i := by
  show _ = if i < mv then 0 else zx f n t (i - mv)
  rw [if_neg (by omega), zx_in h2]
theorem zmv_hi {f : Int → Int} {n t mv i : Int} (h1 : mv ≤ i) (h2 : n ≤ i - mv) : t % 1073741824 = zmv (zx f n t) mv i := by
  show _ = if i < mv then 0 else zx f n t (i - mv)
  rw [if_neg (by omega), zx_out h2]
theorem zmv_dig {F : Int → Int} {mv : Int} (hF : ∀ i : Int, 0 ≤ i → 0 ≤ F i ∧ F i < 1073741824) (i : Int) (h0 : 0 ≤ i) (hm : 0 ≤ mv) : 0 ≤ zmv F mv i ∧ zmv F mv i < 1073741824 := by
  show 0 ≤ (if i < mv then 0 else F (i - mv)) ∧ (if i < mv then 0 else F (i - mv)) < _
  by_cases c : i < mv
  · rw [if_pos c]; omega
  · rw [if_neg c]; exact hF _ (by omega)
theorem zx_val {f : Int → Int} {n t v : Int} (h : zwv f n t v) : ∀ k : Nat, n ≤ k → zsum (zx f n t) k + t * 1073741824 ^ k = v
  | 0, hk => by
    have e : n = 0 := by have := h.1; omega
    have hv := h.val
    rw [e] at hv
    simpa [zsum] using hv.symm
  | k + 1, hk => by
    by_cases c : n ≤ k
    · have ih := zx_val h k c
      rw [zcut h.t0 (zx_out c)]
      exact ih
    · have e : n.toNat = k + 1 := by omega
      have hv := h.val
      rw [e] at hv
      rw [zsum_cong (g := f) (fun i h0 h1 => zx_in (by omega)), hv]
theorem zmv_val (F : Int → Int) {mv : Int} (hm : 0 ≤ mv) : ∀ k : Nat, zsum (zmv F mv) (k + mv.toNat) = zsum F k * 1073741824 ^ mv.toNat
  | 0 => by
    have z : ∀ j : Nat, j ≤ mv.toNat → zsum (zmv F mv) j = 0 := by
      intro j
      induction j with
      | zero => intro _; rfl
      | succ j ih =>
        intro hj
        rw [zsum_s, ih (by omega)]
        have : zmv F mv (j : Int) = 0 := if_pos (by omega)
        rw [this]; simp
    rw [Nat.zero_add, z _ (Nat.le_refl _)]; simp [zsum]
  | k + 1 => by
    rw [show k + 1 + mv.toNat = (k + mv.toNat) + 1 by omega, zsum_s, zmv_val F hm k, zsum_s]
    have e : zmv F mv ((k + mv.toNat : Nat) : Int) = F k := by
      show (if _ then _ else _) = _
      rw [if_neg (by omega)]
      congr 1
      omega
    rw [e, Int.pow_add, Int.add_mul, Int.mul_assoc]
theorem zcomb_step {g F1 F2 : Int → Int} {i x y q : Int} (hi : 0 ≤ i) (h : zsum g i.toNat + q * 1073741824 ^ i.toNat = x * zsum F1 i.toNat + y * zsum F2 i.toNat) : zsum g i.toNat + (q + (F1 i * x + F2 i * y)) * 1073741824 ^ i.toNat = x * zsum F1 (i + 1).toNat + y * zsum F2 (i + 1).toNat := by
  obtain ⟨k, rfl⟩ := Int.eq_ofNat_of_zero_le hi
  rw [show ((k : Int) + 1).toNat = k + 1 by omega, show (k : Int).toNat = k by omega] at *
  rw [zsum_s, zsum_s, Int.add_mul, Int.add_mul, Int.mul_add, Int.mul_add]
  have e : F1 k * x * 1073741824 ^ k = x * (F1 k * 1073741824 ^ k) := by ac_rfl
  have e2 : F2 k * y * 1073741824 ^ k = y * (F2 k * 1073741824 ^ k) := by ac_rfl
  omega
theorem zcomb_end {f f2 g : Int → Int} {n t v n2 t2 v2 mv R x y q : Int} (h1 : zwv f n t v) (h2 : zwv f2 n2 t2 v2) (h5 : 0 ≤ mv) (hn : n ≤ R) (hm : n2 + mv ≤ R) (h : zsum g R.toNat + q * 1073741824 ^ R.toNat = x * zsum (zx f n t) R.toNat + y * zsum (zmv (zx f2 n2 t2) mv) R.toNat) : zsum g R.toNat + (t * x + t2 * y + q) * 1073741824 ^ R.toNat = v * x + v2 * 1073741824 ^ mv.toNat * y := by
  have hn0 := h1.1
  have hn2 := h2.1
  have a1 := zx_val h1 R.toNat (by omega)
  obtain ⟨k, hk⟩ : ∃ k : Nat, R.toNat = k + mv.toNat := ⟨R.toNat - mv.toNat, by omega⟩
  have a2 := zx_val h2 k (by omega)
  have a3 := zmv_val (zx f2 n2 t2) h5 k
  rw [← hk] at a3
  rw [a3] at h
  rw [Int.add_mul, Int.add_mul, ← a1, ← a2, Int.add_mul, Int.add_mul, Int.add_mul]
  have e1 : t * x * 1073741824 ^ R.toNat = t * 1073741824 ^ R.toNat * x := by ac_rfl
  have e2 : t2 * y * 1073741824 ^ R.toNat = t2 * 1073741824 ^ k * 1073741824 ^ mv.toNat * y := by rw [hk, Int.pow_add]; ac_rfl
  have e3 : x * zsum (zx f n t) R.toNat = zsum (zx f n t) R.toNat * x := Int.mul_comm _ _
  have e4 : y * (zsum (zx f2 n2 t2) k * 1073741824 ^ mv.toNat) = zsum (zx f2 n2 t2) k * 1073741824 ^ mv.toNat * y := Int.mul_comm _ _
  omega
-- comparing
theorem zcmp_gt {F G : Int → Int} {i : Nat} : ∀ N : Nat, i < N → (∀ j : Int, 0 ≤ j → j < N → 0 ≤ F j) → (∀ j : Int, 0 ≤ j → j < N → 0 ≤ G j ∧ G j < 1073741824) → (∀ j : Int, i < j → j < N → F j = G j) → G i < F i → zsum G N < zsum F N
  | 0, h, _, _, _, _ => absurd h (Nat.not_lt_zero _)
  | N + 1, h, hF, hG, he, hl => by
    by_cases c : i < N
    · have ih := zcmp_gt N c (fun j a b => hF j a (by omega)) (fun j a b => hG j a (by omega)) (fun j a b => he j a (by omega)) hl
      rw [zsum_s, zsum_s, he N (by omega) (by omega)]
      omega
    · have e : i = N := by omega
      subst e
      rw [zsum_s, zsum_s]
      have h1 := zsum_rng (f := G) (k := i) (fun j a b => hG j a (by omega))
      have h2 : 0 ≤ zsum F i := by
        clear h he hl hG h1
        induction i with
        | zero => exact Int.le_refl _
        | succ k ih =>
          rw [zsum_s]
          have h3 := ih (fun j a b => hF j a (by omega))
          have h4 : 0 ≤ F k * 1073741824 ^ k := Int.mul_nonneg (hF k (by omega) (by omega)) (by have := zB_pos k; omega)
          omega
      have h3 : (G i + 1) * 1073741824 ^ i ≤ F i * 1073741824 ^ i := Int.mul_le_mul_of_nonneg_right (by omega) (by have := zB_pos i; omega)
      rw [Int.add_mul, Int.one_mul] at h3
      omega
theorem zcmp_ge {F G : Int → Int} {m : Int} : ∀ N : Nat, (∀ j : Int, 0 ≤ j → j < N → 0 ≤ F j) → (∀ j : Int, j < m → G j = 0) → (∀ j : Int, m ≤ j → j < N → F j = G j) → zsum G N ≤ zsum F N
  | 0, _, _, _ => Int.le_refl _
  | N + 1, hF, hG, he => by
    have ih := zcmp_ge N (fun j a b => hF j a (by omega)) hG (fun j a b => he j a (by omega))
    rw [zsum_s, zsum_s]
    by_cases c : m ≤ N
    · rw [he N c (by omega)]; omega
    · rw [hG N (by omega)]
      have h4 : 0 ≤ F N * 1073741824 ^ N := Int.mul_nonneg (hF N (by omega) (by omega)) (by have := zB_pos N; omega)
      omega
theorem zwv.t00 {f : Int → Int} {n t v : Int} (h : zwv f n t v) (hv : 0 ≤ v) : t = 0 := by
  rcases h.t0 with e | e
  · exact e
  · exact absurd (h.neg (by omega)) (by omega)
theorem zwv.vsum {f : Int → Int} {n t v : Int} (h : zwv f n t v) (hv : 0 ≤ v) : v = zsum f n.toNat := by
  have e := h.val
  rw [h.t00 hv] at e
  simpa using e
theorem zwv.lt {f : Int → Int} {n t v : Int} (h : zwv f n t v) (hv : 0 ≤ v) : v < 1073741824 ^ n.toNat := by
  rw [h.vsum hv]
  exact (zsum_rng (zdig_nat h.1 h.dig)).2
theorem zwv.ge {f : Int → Int} {n t v : Int} (h : zwv f n t v) (hv : 0 ≤ v) (hn : 0 < n) : 1073741824 ^ (n - 1).toNat ≤ v := by
  by_cases c : 1073741824 ^ (n - 1).toNat ≤ v
  · exact c
  · have := zwv_small h (k := (n - 1).toNat) (by have := zB_pos (n - 1).toNat; omega) (by omega)
    omega
theorem zB_le {a b : Nat} (h : a ≤ b) : (1073741824 : Int) ^ a ≤ 1073741824 ^ b := Int.pow_le_pow_right (by decide) h
theorem zal_big {f f2 : Int → Int} {n t v n2 t2 v2 mv : Int} (h1 : zwv f n t v) (h2 : zwv f2 n2 t2 v2) (hv : 0 ≤ v) (hv2 : 0 ≤ v2) (hm : 0 ≤ mv) (h : n2 + mv < n) : true = decide (v2 * 1073741824 ^ mv.toNat ≤ v) := by
  have a1 := h2.lt hv2
  have hn2 := h2.1
  have a2 := h1.ge hv (by omega)
  have a3 : v2 * 1073741824 ^ mv.toNat ≤ 1073741824 ^ n2.toNat * 1073741824 ^ mv.toNat := Int.mul_le_mul_of_nonneg_right (by omega) (by have := zB_pos mv.toNat; omega)
  rw [← Int.pow_add] at a3
  have a4 : (1073741824 : Int) ^ (n2.toNat + mv.toNat) ≤ 1073741824 ^ (n - 1).toNat := zB_le (by omega)
  exact (decide_eq_true (by omega)).symm
theorem zal_small {f f2 : Int → Int} {n t v n2 t2 v2 mv : Int} (h1 : zwv f n t v) (h2 : zwv f2 n2 t2 v2) (hv : 0 ≤ v) (hv2 : 0 ≤ v2) (hm : 0 ≤ mv) (hz : 0 < v2 ∨ mv = 0) (h : n < n2 + mv) : false = decide (v2 * 1073741824 ^ mv.toNat ≤ v) := by
  have a1 := h1.lt hv
  have hn := h1.1
  have hn2 : 0 < n2 := by
    by_cases c : 0 < n2
    · exact c
    · have e := h2.nul (by rw [h2.t00 hv2]; omega) (by omega)
      omega
  have a2 := h2.ge hv2 hn2
  have a3 : 1073741824 ^ (n2 - 1).toNat * 1073741824 ^ mv.toNat ≤ v2 * 1073741824 ^ mv.toNat := Int.mul_le_mul_of_nonneg_right (by omega) (by have := zB_pos mv.toNat; omega)
  rw [← Int.pow_add] at a3
  have a4 : (1073741824 : Int) ^ n.toNat ≤ 1073741824 ^ ((n2 - 1).toNat + mv.toNat) := zB_le (by omega)
  exact (decide_eq_false (by omega)).symm
theorem zal_sums {f f2 : Int → Int} {n t v n2 t2 v2 mv : Int} (h1 : zwv f n t v) (h2 : zwv f2 n2 t2 v2) (hv : 0 ≤ v) (hv2 : 0 ≤ v2) (hm : 0 ≤ mv) (h : n = n2 + mv) : v = zsum f n.toNat ∧ v2 * 1073741824 ^ mv.toNat = zsum (zmv (zx f2 n2 t2) mv) n.toNat := by
  have hn2 := h2.1
  refine ⟨h1.vsum hv, ?_⟩
  rw [show n.toNat = n2.toNat + mv.toNat by omega, zmv_val _ hm]
  have a := zx_val h2 n2.toNat (by omega)
  rw [h2.t00 hv2] at a
  rw [← a, h2.t00 hv2]
  simp
theorem zal_dif {f f2 : Int → Int} {n t v n2 t2 v2 mv i : Int} (h1 : zwv f n t v) (h2 : zwv f2 n2 t2 v2) (hv : 0 ≤ v) (hv2 : 0 ≤ v2) (hm : 0 ≤ mv) (h : n = n2 + mv) (hi : mv ≤ i ∧ i < n) (he : ∀ j : Int, i < j → j < n → f j = f2 (j - mv)) (hne : ¬ f i = f2 (i - mv)) : decide (f2 (i - mv) < f i) = decide (v2 * 1073741824 ^ mv.toNat ≤ v) := by
  obtain ⟨e1, e2⟩ := zal_sums h1 h2 hv hv2 hm h
  obtain ⟨k, rfl⟩ := Int.eq_ofNat_of_zero_le (show 0 ≤ i by omega)
  have hn := h1.1
  have hz : ∀ j : Int, mv ≤ j → j < n → zmv (zx f2 n2 t2) mv j = f2 (j - mv) := fun j a b => (zmv_lo a (by omega)).symm
  have hd := h1.dig
  have hd2 : ∀ j : Int, 0 ≤ j → 0 ≤ zmv (zx f2 n2 t2) mv j ∧ zmv (zx f2 n2 t2) mv j < 1073741824 := fun j a => zmv_dig (zx_dig h2) j a hm
  by_cases c : f2 ((k : Int) - mv) < f k
  · rw [decide_eq_true c]
    have := zcmp_gt (F := f) (G := zmv (zx f2 n2 t2) mv) (i := k) n.toNat (by omega) (fun j a b => (hd j a (by omega)).1) (fun j a b => hd2 j a) (fun j a b => by rw [hz j (by omega) (by omega)]; exact he j a (by omega)) (by rw [hz k (by omega) (by omega)]; exact c)
    exact (decide_eq_true (by omega)).symm
  · rw [decide_eq_false c]
    have := zcmp_gt (G := f) (F := zmv (zx f2 n2 t2) mv) (i := k) n.toNat (by omega) (fun j a b => (hd2 j a).1) (fun j a b => hd j a (by omega)) (fun j a b => by rw [hz j (by omega) (by omega)]; exact (he j a (by omega)).symm) (by rw [hz k (by omega) (by omega)]; omega)
    exact (decide_eq_false (by omega)).symm
theorem zal_same {f f2 : Int → Int} {n t v n2 t2 v2 mv : Int} (h1 : zwv f n t v) (h2 : zwv f2 n2 t2 v2) (hv : 0 ≤ v) (hv2 : 0 ≤ v2) (hm : 0 ≤ mv) (h : n = n2 + mv) (he : ∀ j : Int, mv ≤ j → j < n → f j = f2 (j - mv)) : true = decide (v2 * 1073741824 ^ mv.toNat ≤ v) := by
  obtain ⟨e1, e2⟩ := zal_sums h1 h2 hv hv2 hm h
  have hn := h1.1
  have := zcmp_ge (F := f) (G := zmv (zx f2 n2 t2) mv) (m := mv) n.toNat (fun j a b => (h1.dig j a (by omega)).1) (fun j a => if_pos a) (fun j a b => by rw [he j a (by omega)]; exact zmv_lo a (by omega))
  exact (decide_eq_true (by omega)).symm
