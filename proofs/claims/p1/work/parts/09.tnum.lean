-- THE REFERENCE'S WHOLE NUMBERS: digits to the base 10000 (the first lemmas out of 05.zwhole by wip/walk/mk_tnum.py)
/-- the limbs below k, to the base 10^4 -/
def tsum (f : Int → Int) : Nat → Int
  | 0 => 0
  | k + 1 => tsum f k + f (k : Int) * 10000 ^ k
theorem tsum_s (f : Int → Int) (k : Nat) : tsum f (k + 1) = tsum f k + f (k : Int) * 10000 ^ k := rfl
theorem tsum_cong {f g : Int → Int} : ∀ {k : Nat}, (∀ i : Int, 0 ≤ i → i < k → f i = g i) → tsum f k = tsum g k
  | 0, _ => rfl
  | k + 1, h => by rw [tsum_s, tsum_s, tsum_cong (fun i h0 h1 => h i h0 (by omega)), h k (by omega) (by omega)]
theorem tB_pos (k : Nat) : (0 : Int) < 10000 ^ k := Int.pow_pos (by decide)
theorem tB_s (k : Nat) : (10000 : Int) ^ (k + 1) = 10000 ^ k * 10000 := Int.pow_succ _ _
/-- digits: each limb below k is one -/
def tdig (f : Int → Int) (k : Int) : Prop := ∀ i : Int, 0 ≤ i → i < k → 0 ≤ f i ∧ f i < 10000
theorem tsum_rng {f : Int → Int} : ∀ {k : Nat}, tdig f k → 0 ≤ tsum f k ∧ tsum f k < 10000 ^ k
  | 0, _ => ⟨Int.le_refl _, by simp [tsum]⟩
  | k + 1, h => by
    obtain ⟨h1, h2⟩ := tsum_rng (k := k) (fun i h0 h1 => h i h0 (by omega))
    obtain ⟨h3, h4⟩ := h k (by omega) (by omega)
    have hp := tB_pos k
    rw [tsum_s, tB_s]
    have h5 : 0 ≤ f k * 10000 ^ k := Int.mul_nonneg h3 (by omega)
    have h6 : (f k + 1) * 10000 ^ k ≤ 10000 * 10000 ^ k := Int.mul_le_mul_of_nonneg_right (by omega) (by omega)
    have h7 : (f k + 1) * 10000 ^ k = f k * 10000 ^ k + 10000 ^ k := by rw [Int.add_mul, Int.one_mul]
    have h8 : (10000 : Int) * 10000 ^ k = 10000 ^ k * 10000 := Int.mul_comm _ _
    exact ⟨by omega, by omega⟩
theorem tdig_up {f : Int → Int} {k x : Int} (h : tdig f k) (hx : 0 ≤ x ∧ x < 10000) : tdig (zup f k x) (k + 1) := by
  intro i h0 h1
  by_cases e : i = k
  · rw [e, zup_s]; exact hx
  · rw [zup_n e]; exact h i h0 (by omega)
theorem tdig_nat {f : Int → Int} {n : Int} (h0 : 0 ≤ n) (h : tdig f n) : tdig f (n.toNat : Int) := by rw [Int.toNat_of_nonneg h0]; exact h
theorem tcmp_gt {F G : Int → Int} {i : Nat} : ∀ N : Nat, i < N → (∀ j : Int, 0 ≤ j → j < N → 0 ≤ F j) → (∀ j : Int, 0 ≤ j → j < N → 0 ≤ G j ∧ G j < 10000) → (∀ j : Int, i < j → j < N → F j = G j) → G i < F i → tsum G N < tsum F N
  | 0, h, _, _, _, _ => absurd h (Nat.not_lt_zero _)
  | N + 1, h, hF, hG, he, hl => by
    by_cases c : i < N
    · have ih := tcmp_gt N c (fun j a b => hF j a (by omega)) (fun j a b => hG j a (by omega)) (fun j a b => he j a (by omega)) hl
      rw [tsum_s, tsum_s, he N (by omega) (by omega)]
      omega
    · have e : i = N := by omega
      subst e
      rw [tsum_s, tsum_s]
      have h1 := tsum_rng (f := G) (k := i) (fun j a b => hG j a (by omega))
      have h2 : 0 ≤ tsum F i := by
        clear h he hl hG h1
        induction i with
        | zero => exact Int.le_refl _
        | succ k ih =>
          rw [tsum_s]
          have h3 := ih (fun j a b => hF j a (by omega))
          have h4 : 0 ≤ F k * 10000 ^ k := Int.mul_nonneg (hF k (by omega) (by omega)) (by have := tB_pos k; omega)
          omega
      have h3 : (G i + 1) * 10000 ^ i ≤ F i * 10000 ^ i := Int.mul_le_mul_of_nonneg_right (by omega) (by have := tB_pos i; omega)
      rw [Int.add_mul, Int.one_mul] at h3
      omega
theorem tB_le {a b : Nat} (h : a ≤ b) : (10000 : Int) ^ a ≤ 10000 ^ b := zpow_le (by decide) h
theorem tsum_split (F : Int → Int) (j : Nat) : ∀ d : Nat, ∃ r : Int, tsum F (j + 1 + d) = tsum F (j + 1) + 10000 ^ (j + 1) * r
  | 0 => ⟨0, by simp⟩
  | d + 1 => by
    obtain ⟨r, hr⟩ := tsum_split F j d
    refine ⟨r + F ((j + 1 + d : Nat) : Int) * 10000 ^ d, ?_⟩
    rw [show j + 1 + (d + 1) = (j + 1 + d) + 1 by omega, tsum_s, hr, Int.mul_add]
    have e : F ((j + 1 + d : Nat) : Int) * 10000 ^ (j + 1 + d) = 10000 ^ (j + 1) * (F ((j + 1 + d : Nat) : Int) * 10000 ^ d) := by rw [Int.pow_add 10000 (j + 1) d]; ac_rfl
    omega
theorem tsum_dig {F : Int → Int} {N j : Nat} (hj : j < N) (hF : ∀ i : Int, 0 ≤ i → 0 ≤ F i ∧ F i < 10000) : tsum F N / 10000 ^ j % 10000 = F j := by
  obtain ⟨r, hr⟩ := tsum_split F j (N - (j + 1))
  rw [show j + 1 + (N - (j + 1)) = N by omega, tsum_s, tB_s] at hr
  have hs := tsum_rng (f := F) (k := j) (fun i a _ => hF i a)
  have hp := tB_pos j
  have e : tsum F N = tsum F j + (F j + 10000 * r) * 10000 ^ j := by
    rw [hr, Int.add_mul]
    have : 10000 ^ j * 10000 * r = 10000 * r * 10000 ^ j := by ac_rfl
    omega
  rw [e, Int.add_mul_ediv_right _ _ (by omega), Int.ediv_eq_zero_of_lt hs.1 hs.2]
  have hf := hF j (by omega)
  omega
/-- a whole number of the reference: sign, N digits f, its value -/
def tmw (f : Int → Int) (N : Nat) (sg v : Int) : Prop := (sg = -1 ∨ sg = 0 ∨ sg = 1) ∧ N ≤ 128 ∧ tdig f N ∧ v = sg * tsum f N ∧ (0 < N → f ((N : Int) - 1) ≠ 0) ∧ (sg = 0 ↔ N = 0)
theorem tmw.sg {f : Int → Int} {N : Nat} {sg v : Int} (h : tmw f N sg v) : sg = -1 ∨ sg = 0 ∨ sg = 1 := h.1
theorem tmw.n {f : Int → Int} {N : Nat} {sg v : Int} (h : tmw f N sg v) : N ≤ 128 := h.2.1
theorem tmw.dig {f : Int → Int} {N : Nat} {sg v : Int} (h : tmw f N sg v) : tdig f N := h.2.2.1
theorem tmw.val {f : Int → Int} {N : Nat} {sg v : Int} (h : tmw f N sg v) : v = sg * tsum f N := h.2.2.2.1
theorem tmw.top {f : Int → Int} {N : Nat} {sg v : Int} (h : tmw f N sg v) : 0 < N → f ((N : Int) - 1) ≠ 0 := h.2.2.2.2.1
theorem tmw.nul {f : Int → Int} {N : Nat} {sg v : Int} (h : tmw f N sg v) : sg = 0 ↔ N = 0 := h.2.2.2.2.2
theorem tsum_zeros {g : Int → Int} : ∀ {k : Nat}, (∀ i : Int, 0 ≤ i → i < k → g i = 0) → tsum g k = 0
  | 0, _ => rfl
  | k + 1, h => by rw [tsum_s, tsum_zeros (fun i a b => h i a (by omega)), h k (by omega) (by omega)]; simp
/-- digits below N with the first one not 0: at least 10000^(N-1) -/
theorem tsum_ge {g : Int → Int} {N : Nat} (h : tdig g N) (hN : 0 < N) (ht : g ((N : Int) - 1) ≠ 0) : 10000 ^ (N - 1) ≤ tsum g N := by
  obtain ⟨k, rfl⟩ : ∃ k, N = k + 1 := ⟨N - 1, by omega⟩
  rw [show (((k + 1 : Nat) : Int) - 1) = k by omega] at ht
  rw [tsum_s]
  have h1 := tsum_rng (f := g) (k := k) (fun i a b => h i a (by omega))
  have h2 := h k (by omega) (by omega)
  have h3 : 1 * 10000 ^ k ≤ g k * 10000 ^ k := Int.mul_le_mul_of_nonneg_right (by omega) (by have := tB_pos k; omega)
  rw [show k + 1 - 1 = k by omega]
  omega
theorem tsum_len {g : Int → Int} {N K : Nat} (h : tdig g N) (ht : 0 < N → g ((N : Int) - 1) ≠ 0) (hv : tsum g N < 10000 ^ K) : N ≤ K := by
  by_cases c : N ≤ K
  · exact c
  · have a := tsum_ge h (by omega) (ht (by omega))
    have b : (10000 : Int) ^ K ≤ 10000 ^ (N - 1) := tB_le (by omega)
    omega
theorem tmw.s0 {f : Int → Int} {N : Nat} {sg v : Int} (h : tmw f N sg v) : 0 ≤ tsum f N := (tsum_rng h.dig).1
theorem tmw.abs {f : Int → Int} {N : Nat} {sg v : Int} (h : tmw f N sg v) : tsum f N = (v.natAbs : Int) := by
  have a := h.s0
  have b := h.val
  rcases h.sg with e | e | e
  · rw [e] at b; omega
  · have c := h.nul.mp e
    rw [e] at b
    subst c
    rw [b]; simp [tsum]
  · rw [e] at b; omega
theorem tmw.sgn {f : Int → Int} {N : Nat} {sg v : Int} (h : tmw f N sg v) : sg = v.sign := by
  have b := h.val
  rcases h.sg with e | e | e
  · have hN : 0 < N := by
      have := h.nul
      omega
    have a := tsum_ge h.dig hN (h.top hN)
    have p := tB_pos (N - 1)
    rw [e] at b ⊢
    exact (Int.sign_eq_neg_one_of_neg (by omega)).symm
  · rw [e] at b ⊢
    rw [b]; simp
  · have hN : 0 < N := by
      have := h.nul
      omega
    have a := tsum_ge h.dig hN (h.top hN)
    have p := tB_pos (N - 1)
    rw [e] at b ⊢
    exact (Int.sign_eq_one_of_pos (by omega)).symm
/-- what a constructor makes: the digits without the zeros above, the sign 0 where nothing is left -/
theorem tmw_make {g h : Int → Int} {M j : Nat} {sg s2 : Int} (hd : tdig g M) (hs : sg = -1 ∨ sg = 0 ∨ sg = 1) (hj : j ≤ M) (hz : tsum g M = tsum g j) (ht : j = 0 ∨ g ((j : Int) - 1) ≠ 0) (hh : ∀ i : Int, 0 ≤ i → i < j → h i = g i) (hl : tsum g M < 10000 ^ 128) (h0 : sg = 0 → tsum g M = 0) (e2 : s2 = if (j : Int) = 0 then 0 else sg) : tmw h j s2 (sg * tsum g M) := by
  have dj : tdig g j := fun i a b => hd i a (by omega)
  have ht2 : 0 < j → g ((j : Int) - 1) ≠ 0 := fun q => ht.resolve_left (by omega)
  have hN : j ≤ 128 := tsum_len dj ht2 (by omega)
  have es : tsum h j = tsum g j := tsum_cong hh
  have hsg : 0 < j → sg ≠ 0 := fun q c => by
    have a := tsum_ge dj q (ht2 q)
    have p := tB_pos (j - 1)
    have := h0 c
    omega
  by_cases c : j = 0
  · subst c
    rw [if_pos (by omega)] at e2
    subst e2
    refine ⟨Or.inr (Or.inl rfl), hN, fun i a b => absurd b (by omega), ?_, fun q => absurd q (by omega), by omega⟩
    rw [hz]; simp [tsum]
  · rw [if_neg (by omega)] at e2
    subst e2
    refine ⟨hs, hN, fun i a b => by rw [hh i a b]; exact dj i a b, by rw [es, hz], fun q => by rw [hh _ (by omega) (by omega)]; exact ht2 q, ?_⟩
    have := hsg (by omega)
    omega
theorem tB_128 {v : Int} {N : Nat} (h : v < 10000 ^ N) (hN : N ≤ 128) : v < 10000 ^ 128 := Int.lt_of_lt_of_le h (tB_le hN)
-- the constructor
theorem tini_cut {g : Int → Int} {j : Int} (hj : 0 < j) (h : g (j - 1) = 0) : tsum g j.toNat = tsum g (j - 1).toNat := by
  obtain ⟨k, rfl⟩ : ∃ k : Nat, j = (k : Int) + 1 := ⟨(j - 1).toNat, by omega⟩
  rw [show (k : Int) + 1 - 1 = k by omega] at h ⊢
  rw [show ((k : Int) + 1).toNat = k + 1 by omega, tsum_s, h, show (k : Int).toNat = k by omega]
  simp
theorem tini_len {g : Int → Int} {j : Int} {M : Nat} (hd : tdig g M) (k1 : 0 ≤ j ∧ j ≤ M) (k2 : tsum g M = tsum g j.toNat) (k3 : j = 0 ∨ g (j - 1) ≠ 0) (h4 : tsum g M < 10000 ^ 128) : j ≤ 128 := by
  have a := tsum_len (g := g) (N := j.toNat) (K := 128) (fun i a b => hd i a (by omega)) (fun q => by rw [show ((j.toNat : Nat) : Int) - 1 = j - 1 by omega]; exact k3.resolve_left (by omega)) (by omega)
  omega
theorem tini_post {g h : Int → Int} {M : Nat} {j sg y : Int} (hd : tdig g M) (hs : sg = -1 ∨ sg = 0 ∨ sg = 1) (k1 : 0 ≤ j ∧ j ≤ M) (k2 : tsum g M = tsum g j.toNat) (k3 : j = 0 ∨ g (j - 1) ≠ 0) (hh : ∀ i : Int, 0 ≤ i → i < j → h i = g i) (h4 : tsum g M < 10000 ^ 128) (h5 : sg = 0 → tsum g M = 0) (k4 : y = if j = 0 then 0 else sg) : tmw h j.toNat y (sg * tsum g M) := by
  obtain ⟨k, rfl⟩ := Int.eq_ofNat_of_zero_le k1.1
  rw [show (k : Int).toNat = k by omega] at *
  exact tmw_make hd hs (by omega) k2 (by omega) hh h4 h5 k4
-- of(long)
theorem tof_mod (r : Int) : ((r.tmod 10000).natAbs : Int) = (r.natAbs : Int) % 10000 := by
  rw [Int.natAbs_tmod]
  show ((r.natAbs % 10000 : Nat) : Int) = _
  omega
theorem tof_div (r : Int) : ((r.tdiv 10000).natAbs : Int) = (r.natAbs : Int) / 10000 := by
  rw [Int.natAbs_tdiv]
  show ((r.natAbs / 10000 : Nat) : Int) = _
  omega
theorem tof_step {hh : Int → Int} {i r X : Int} (hi : 0 ≤ i) (h : tsum hh i.toNat + (r.natAbs : Int) * 10000 ^ i.toNat = X) : tsum (zup hh i ((r.tmod 10000).natAbs : Int)) (i + 1).toNat + ((r.tdiv 10000).natAbs : Int) * 10000 ^ (i + 1).toNat = X := by
  obtain ⟨k, rfl⟩ := Int.eq_ofNat_of_zero_le hi
  rw [show ((k : Int) + 1).toNat = k + 1 by omega, show (k : Int).toNat = k by omega] at *
  rw [tsum_s, tB_s, tsum_cong (g := hh) (fun j a b => zup_n (by omega)), zup_s]
  have e1 : ((r.tmod 10000).natAbs : Int) = (r.natAbs : Int) % 10000 := tof_mod r
  have e2 : ((r.tdiv 10000).natAbs : Int) = (r.natAbs : Int) / 10000 := tof_div r
  rw [e1, e2]
  have h1 : (r.natAbs : Int) / 10000 * (10000 ^ k * 10000) = ((r.natAbs : Int) / 10000 * 10000) * 10000 ^ k := by ac_rfl
  rw [h1, Int.add_assoc, ← Int.add_mul]
  have h2 : (r.natAbs : Int) % 10000 + (r.natAbs : Int) / 10000 * 10000 = r.natAbs := by omega
  rw [h2]
  exact h
theorem tof_end {hh : Int → Int} {i r x : Int} (h1 : -9223372036854775808 ≤ x ∧ x < 9223372036854775808) (hi : i = 5) (h : tsum hh i.toNat + (r.natAbs : Int) * 10000 ^ i.toNat = (x.natAbs : Int)) (hd : tdig hh i) : tsum hh 5 = (x.natAbs : Int) := by
  subst hi
  have e : (10000 : Int) ^ (5 : Int).toNat = 100000000000000000000 := by decide +kernel
  have e2 : (5 : Int).toNat = 5 := rfl
  rw [e, e2] at h
  have := (tsum_rng (f := hh) (k := 5) hd).1
  omega
theorem tof_N : (5 : Int).toNat = 5 := rfl
theorem tof_lt {x : Int} (h1 : -9223372036854775808 ≤ x ∧ x < 9223372036854775808) : (x.natAbs : Int) < 10000 ^ 128 := by
  have e : (10000 : Int) ^ 5 = 100000000000000000000 := by decide +kernel
  have e2 : (10000 : Int) ^ 5 ≤ 10000 ^ 128 := tB_le (by omega)
  omega
theorem tof_post {f hh : Int → Int} {N : Nat} {s2 x y : Int} (k5 : y = if x < 0 then -1 else 1) (hs : tsum hh 5 = (x.natAbs : Int)) (h : tmw f N s2 (y * tsum hh 5)) : tmw f N s2 x := by
  rw [hs] at h
  have e : y * (x.natAbs : Int) = x := by
    by_cases c : x < 0
    · rw [if_pos c] at k5; rw [k5]; omega
    · rw [if_neg c] at k5; rw [k5]; omega
  rw [e] at h
  exact h
/-- the digits of a whole number, 0 above them -/
def tx (f : Int → Int) (N : Nat) : Int → Int := fun i => if i < (N : Int) then f i else 0
theorem tx_in {f : Int → Int} {N : Nat} {i : Int} (h : i < N) : tx f N i = f i := if_pos h
theorem tx_out {f : Int → Int} {N : Nat} {i : Int} (h : (N : Int) ≤ i) : tx f N i = 0 := if_neg (by omega)
theorem tx_dig {f : Int → Int} {N : Nat} (h : tdig f N) (i : Int) (h0 : 0 ≤ i) : 0 ≤ tx f N i ∧ tx f N i < 10000 := by
  by_cases c : i < N
  · rw [tx_in c]; exact h i h0 c
  · rw [tx_out (by omega)]; omega
theorem tx_sum {f : Int → Int} {N : Nat} : ∀ k : Nat, N ≤ k → tsum (tx f N) k = tsum f N
  | 0, h => by
    have e : N = 0 := by omega
    subst e; rfl
  | k + 1, h => by
    by_cases c : N ≤ k
    · rw [tsum_s, tx_sum k c, tx_out (by omega)]; simp
    · have e : N = k + 1 := by omega
      rw [← e]
      exact tsum_cong (fun i a b => tx_in b)
theorem tlimb {f : Int → Int} {N : Nat} {i : Int} : (if i < (N : Int) then f i else 0) = tx f N i := rfl
-- comparing
theorem tcs_ne {f f2 : Int → Int} {N N2 : Nat} {sg v sg2 v2 k : Int} (h1 : tmw f N sg v) (h2 : tmw f2 N2 sg2 v2) (hk : 0 ≤ k ∧ k < max (N : Int) N2) (he : ∀ j : Int, k < j → j < max (N : Int) N2 → tx f N j = tx f2 N2 j) : (tx f N k < tx f2 N2 k → ((v.natAbs : Int) - (v2.natAbs : Int)).sign = -1) ∧ (tx f2 N2 k < tx f N k → ((v.natAbs : Int) - (v2.natAbs : Int)).sign = 1) := by
  obtain ⟨i, rfl⟩ := Int.eq_ofNat_of_zero_le hk.1
  have a1 := tx_sum (f := f) (N := N) (max N N2) (by omega)
  have a2 := tx_sum (f := f2) (N := N2) (max N N2) (by omega)
  rw [h1.abs] at a1
  rw [h2.abs] at a2
  have d1 := tx_dig h1.dig
  have d2 := tx_dig h2.dig
  constructor
  · intro q
    have := tcmp_gt (F := tx f2 N2) (G := tx f N) (i := i) (max N N2) (by omega) (fun j a _ => (d2 j a).1) (fun j a _ => d1 j a) (fun j a b => (he j a (by omega)).symm) q
    exact Int.sign_eq_neg_one_of_neg (by omega)
  · intro q
    have := tcmp_gt (F := tx f N) (G := tx f2 N2) (i := i) (max N N2) (by omega) (fun j a _ => (d1 j a).1) (fun j a _ => d2 j a) (fun j a b => he j a (by omega)) q
    exact Int.sign_eq_one_of_pos (by omega)
theorem tcs_eq {f f2 : Int → Int} {N N2 : Nat} {sg v sg2 v2 : Int} (h1 : tmw f N sg v) (h2 : tmw f2 N2 sg2 v2) (he : ∀ j : Int, 0 ≤ j → j < max (N : Int) N2 → tx f N j = tx f2 N2 j) : ((v.natAbs : Int) - (v2.natAbs : Int)).sign = 0 := by
  have a1 := tx_sum (f := f) (N := N) (max N N2) (by omega)
  have a2 := tx_sum (f := f2) (N := N2) (max N N2) (by omega)
  rw [h1.abs] at a1
  rw [h2.abs] at a2
  have := tsum_cong (f := tx f N) (g := tx f2 N2) (k := max N N2) (fun j a b => he j a (by omega))
  rw [show (v.natAbs : Int) - (v2.natAbs : Int) = 0 by omega]
  rfl
-- adding and taking away
theorem tadd_step {h F1 F2 : Int → Int} {i q w c : Int} (hi : 0 ≤ i) (hk : tsum h i.toNat + q * 10000 ^ i.toNat = tsum F1 i.toNat + tsum F2 i.toNat) (hw : w = F1 i + F2 i + q) : tsum (zup h i (w - c * 10000)) (i + 1).toNat + c * 10000 ^ (i + 1).toNat = tsum F1 (i + 1).toNat + tsum F2 (i + 1).toNat := by
  obtain ⟨k, rfl⟩ := Int.eq_ofNat_of_zero_le hi
  rw [show ((k : Int) + 1).toNat = k + 1 by omega, show (k : Int).toNat = k by omega] at *
  rw [tsum_s, tsum_s, tsum_s, tB_s, tsum_cong (g := h) (fun j a b => zup_n (by omega)), zup_s, hw, Int.sub_mul, Int.add_mul, Int.add_mul]
  have e : c * (10000 ^ k * 10000) = c * 10000 * 10000 ^ k := by ac_rfl
  omega
theorem tsub_step {h F1 F2 : Int → Int} {i q w c : Int} (hi : 0 ≤ i) (hk : tsum h i.toNat + q * 10000 ^ i.toNat = tsum F1 i.toNat - tsum F2 i.toNat) (hw : w = F1 i + -(F2 i) + q) : tsum (zup h i (w - c * 10000)) (i + 1).toNat + c * 10000 ^ (i + 1).toNat = tsum F1 (i + 1).toNat - tsum F2 (i + 1).toNat := by
  obtain ⟨k, rfl⟩ := Int.eq_ofNat_of_zero_le hi
  rw [show ((k : Int) + 1).toNat = k + 1 by omega, show (k : Int).toNat = k by omega] at *
  rw [tsum_s, tsum_s, tsum_s, tB_s, tsum_cong (g := h) (fun j a b => zup_n (by omega)), zup_s, hw, Int.sub_mul, Int.add_mul, Int.add_mul, Int.neg_mul]
  have e : c * (10000 ^ k * 10000) = c * 10000 * 10000 ^ k := by ac_rfl
  omega
theorem tadd_end {h f f2 : Int → Int} {N N2 : Nat} {sg v sg2 v2 R i q : Int} (h1 : tmw f N sg v) (h2 : tmw f2 N2 sg2 v2) (hR : R = max (N : Int) N2 + 1) (hi : i = R) (hd : tdig h i) (hq : 0 ≤ q) (hk : tsum h i.toNat + q * 10000 ^ i.toNat = tsum (tx f N) i.toNat + tsum (tx f2 N2) i.toNat) : tdig h (R.toNat : Int) ∧ tsum h R.toNat = tsum f N + tsum f2 N2 := by
  subst hi
  rw [tx_sum _ (by omega), tx_sum _ (by omega)] at hk
  have a1 := (tsum_rng h1.dig).2
  have a2 := (tsum_rng h2.dig).2
  have b1 : (10000 : Int) ^ N ≤ 10000 ^ (i.toNat - 1) := tB_le (by omega)
  have b2 : (10000 : Int) ^ N2 ≤ 10000 ^ (i.toNat - 1) := tB_le (by omega)
  have e : (10000 : Int) ^ i.toNat = 10000 ^ (i.toNat - 1) * 10000 := by rw [← tB_s]; congr 1; omega
  have p := tB_pos (i.toNat - 1)
  have hd2 : tdig h (i.toNat : Int) := by rw [Int.toNat_of_nonneg (by omega)]; exact hd
  have d := (tsum_rng hd2).1
  have q0 : q = 0 := by
    by_cases c : q = 0
    · exact c
    · have : 1 * 10000 ^ i.toNat ≤ q * 10000 ^ i.toNat := Int.mul_le_mul_of_nonneg_right (by omega) (by omega)
      omega
  rw [q0] at hk
  exact ⟨hd2, by omega⟩
theorem tsub_end {h f f2 : Int → Int} {N N2 : Nat} {sg v sg2 v2 R i q : Int} (h1 : tmw f N sg v) (h2 : tmw f2 N2 sg2 v2) (hle : (v2.natAbs : Int) ≤ (v.natAbs : Int)) (hR : R = max (N : Int) N2 + 1) (hi : i = R) (hd : tdig h i) (hq : -1 ≤ q ∧ q ≤ 0) (hk : tsum h i.toNat + q * 10000 ^ i.toNat = tsum (tx f N) i.toNat - tsum (tx f2 N2) i.toNat) : tdig h (R.toNat : Int) ∧ tsum h R.toNat = tsum f N - tsum f2 N2 := by
  subst hi
  rw [tx_sum _ (by omega), tx_sum _ (by omega)] at hk
  have a1 := h1.abs
  have a2 := h2.abs
  have hd2 : tdig h (i.toNat : Int) := by rw [Int.toNat_of_nonneg (by omega)]; exact hd
  have d := (tsum_rng hd2).2
  have q0 : q = 0 := by
    by_cases c : q = 0
    · exact c
    · have e : q = -1 := by omega
      rw [e] at hk
      omega
  rw [q0] at hk
  exact ⟨hd2, by omega⟩
theorem tmw.lt {f : Int → Int} {N : Nat} {sg v : Int} (h : tmw f N sg v) : tsum f N < 10000 ^ 128 := Int.lt_of_lt_of_le (tsum_rng h.dig).2 (tB_le h.n)
theorem tmw.s00 {f : Int → Int} {N : Nat} {sg v : Int} (h : tmw f N sg v) (q : sg = 0) : tsum f N = 0 := by
  have := h.nul.mp q
  subst this; rfl
theorem tmw.sgi {f : Int → Int} {N : Nat} {sg v : Int} (h : tmw f N sg v) : -1 ≤ sg ∧ sg ≤ 1 := by rcases h.sg with q | q | q <;> omega
theorem tmw.v0 {f : Int → Int} {N : Nat} {sg v : Int} (h : tmw f N sg v) (q : sg = 0) : v = 0 := by rw [h.val, q]; simp
/-- one sign: what is added up -/
theorem tplus_same {f f2 : Int → Int} {N N2 : Nat} {sg v sg2 v2 : Int} (h1 : tmw f N sg v) (h2 : tmw f2 N2 sg2 v2) (e : sg = sg2) : sg * (tsum f N + tsum f2 N2) = v + v2 := by
  rw [h1.val, h2.val, ← e, Int.mul_add]
theorem tplus_big {f f2 : Int → Int} {N N2 : Nat} {sg v sg2 v2 : Int} (h1 : tmw f N sg v) (h2 : tmw f2 N2 sg2 v2) (e : sg2 = -sg) : sg * (tsum f N - tsum f2 N2) = v + v2 := by
  rw [h1.val, h2.val, e, Int.mul_sub, Int.neg_mul]
  omega
theorem tplus_small {f f2 : Int → Int} {N N2 : Nat} {sg v sg2 v2 : Int} (h1 : tmw f N sg v) (h2 : tmw f2 N2 sg2 v2) (e : sg2 = -sg) : sg2 * (tsum f2 N2 - tsum f N) = v + v2 := by
  rw [h1.val, h2.val, e, Int.mul_sub, Int.neg_mul, Int.neg_mul]
  omega
theorem tpost {f : Int → Int} {N : Nat} {s v w : Int} (h : tmw f N s w) (e : w = v) : tmw f N s v := e ▸ h

