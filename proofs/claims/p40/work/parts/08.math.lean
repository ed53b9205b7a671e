-- NUMBERS: powers, rates, rounding, rows (wip/p40: m1, m2)
theorem zpw_le {a b : Int} (ha : 0 ≤ a) (h : a ≤ b) : ∀ k : Nat, a ^ k ≤ b ^ k
  | 0 => by simp
  | k + 1 => by
    rw [Int.pow_succ, Int.pow_succ]
    have h1 := zpw_le ha h k
    have h2 : 0 ≤ a ^ k := Int.pow_nonneg ha
    have h3 : a ^ k * a ≤ a ^ k * b := Int.mul_le_mul_of_nonneg_left h h2
    have h4 : a ^ k * b ≤ b ^ k * b := Int.mul_le_mul_of_nonneg_right h1 (by omega)
    omega
/-- a rate told as a fraction up / dn, in lowest terms or not -/
def zfr (g up dn po : Int) : Prop := 1 ≤ g ∧ up * g = 100000 + po ∧ dn * g = 100000
theorem zfr.rng {g up dn po : Int} (h : zfr g up dn po) (hp : 0 ≤ po ∧ po ≤ 20000) : 1 ≤ dn ∧ dn ≤ 100000 ∧ dn ≤ up ∧ up ≤ 120000 := by
  obtain ⟨h1, h2, h3⟩ := h
  have a1 : 1 ≤ dn := by
    rcases Int.lt_or_le 0 dn with c | c
    · omega
    · have := Int.mul_nonneg (show 0 ≤ -dn by omega) (show 0 ≤ g by omega)
      rw [Int.neg_mul] at this
      omega
  have a2 : dn ≤ up := by
    rcases Int.lt_or_le up dn with c | c
    · have := Int.mul_le_mul_of_nonneg_right (show up + 1 ≤ dn by omega) (show 0 ≤ g by omega)
      rw [Int.add_mul] at this
      omega
    · exact c
  have a3 : up * 1 ≤ up * g := Int.mul_le_mul_of_nonneg_left h1 (by omega)
  have a4 : dn * 1 ≤ dn * g := Int.mul_le_mul_of_nonneg_left h1 (by omega)
  exact ⟨a1, by omega, a2, by omega⟩
theorem zdvd_mod {d g r : Int} (h0 : d ∣ r) (h1 : d ∣ g % r) : d ∣ g := by
  have e := Int.mul_ediv_add_emod g r
  have h := Int.dvd_add (Int.dvd_trans h0 (Int.dvd_mul_right r (g / r))) h1
  rwa [e] at h
theorem zcd_div {cd x : Int} (h : cd ∣ x) : x / cd * cd = x := Int.ediv_mul_cancel h
theorem zc0 (x y z : Int) : x + y * 1073741824 ^ (0 : Int).toNat * z = x + y * z := by simp
theorem zB35_37 {v : Int} (h : 0 ≤ v ∧ v < 1073741824 ^ 35) : -(1073741824 ^ 37) < v ∧ v < 1073741824 ^ 37 ∧ -(1073741824 ^ 37) ≤ v := by
  have c : (1073741824 : Int) ^ 35 < 1073741824 ^ 37 := by decide +kernel
  have := zB_pos 37
  omega
/-- powers of a rate's parts -/
theorem zrp {P k : Int} (hP : 1 ≤ P ∧ P ≤ 120000) (hk : 0 ≤ k ∧ k ≤ 61) : 1 ≤ P ^ k.toNat ∧ P ^ k.toNat < 1073741824 ^ 35 := by
  have a1 := zpw_le (a := P) (b := 120000) (by omega) hP.2 k.toNat
  have p0 := zpow_pos (x := P) (by omega) k.toNat
  have a2 := zpow_le (b := 120000) (by decide) (show k.toNat ≤ 61 by omega)
  have c : (120000 : Int) ^ 61 < 1073741824 ^ 35 := by decide +kernel
  exact ⟨p0, by omega⟩
theorem zup_g {g ru rd po : Int} (h : zfr g ru rd po) (k : Nat) : (100000 + po) ^ k = ru ^ k * g ^ k := by
  rw [← h.2.1, Int.mul_pow]
-- ROUNDING BY A WAY md (0 UP, 1 DOWN, 2 CEILING, 3 FLOOR, 4 HALF_UP, 5 HALF_DOWN, 6 HALF_EVEN, 7 EXACT): numbers alone
/-- v / u rounded by md, as the law's whole numbers do it -/
def zrd (md v u : Int) : Int :=
  if v % u = 0 then v / u
  else if (md = 0 ∧ 0 ≤ v) ∨ (md = 1 ∧ v < 0) ∨ md = 2 ∨ (3 < md ∧ u < 2 * (v % u)) ∨ (2 * (v % u) = u ∧ ((md = 4 ∧ 0 ≤ v) ∨ (md = 5 ∧ v < 0) ∨ (5 < md ∧ (v / u) % 2 ≠ 0))) then v / u + 1 else v / u
/-- the class's way: whether the size grows by one, what is left being of kind k -/
abbrev zaw (md : Int) (bl : Bool) (w k : Int) : Prop := md = 0 ∨ (md = 2 ∧ bl = false) ∨ (md = 3 ∧ bl = true) ∨ (md = 4 ∧ 2 ≤ k) ∨ (md = 5 ∧ 2 < k) ∨ (5 < md ∧ (2 < k ∨ (k = 2 ∧ w % 2 ≠ 0)))
/-- the kind of a rest: none, less than half, half, more -/
abbrev zkn (r u k : Int) : Prop := (k = 0 ∧ r = 0) ∨ (k = 1 ∧ 0 < r ∧ 2 * r < u) ∨ (k = 2 ∧ 0 < r ∧ 2 * r = u) ∨ (k = 3 ∧ 0 < r ∧ u < 2 * r)
theorem zkn_z {r u k : Int} (h : zkn r u k) : k = 0 ↔ r = 0 := by
  rcases h with ⟨a, b⟩ | ⟨a, b, -⟩ | ⟨a, b, -⟩ | ⟨a, b, -⟩ <;> omega
theorem zkn_r {r u k : Int} (h : zkn r u k) : 0 ≤ k ∧ k ≤ 3 := by
  rcases h with ⟨a, b⟩ | ⟨a, b, -⟩ | ⟨a, b, -⟩ | ⟨a, b, -⟩ <;> omega
theorem zkn_k {r u k : Int} (h : (k = 1 ∧ 2 * r < u) ∨ (k = 2 ∧ 2 * r = u) ∨ (k = 3 ∧ u < 2 * r)) (h0 : 0 < r) : zkn r u k := by
  rcases h with ⟨a, b⟩ | ⟨a, b⟩ | ⟨a, b⟩
  · exact Or.inr (Or.inl ⟨a, h0, b⟩)
  · exact Or.inr (Or.inr (Or.inl ⟨a, h0, b⟩))
  · exact Or.inr (Or.inr (Or.inr ⟨a, h0, b⟩))
theorem zdm (v : Int) {u : Int} (hu : 0 < u) : v = u * (v / u) + v % u ∧ 0 ≤ v % u ∧ v % u < u := ⟨(Int.mul_ediv_add_emod v u).symm, Int.emod_nonneg _ (by omega), Int.emod_lt_of_pos _ hu⟩
theorem zdm_u {v u q r : Int} (hu : 0 < u) (h : u * q + r = v) (h0 : 0 ≤ r) (h1 : r < u) : v / u = q ∧ v % u = r := (Int.ediv_emod_unique hu).mpr ⟨by omega, h0, h1⟩
/-- the quotient and the rest of the other sign -/
theorem zneg_dm (v : Int) {u : Int} (hu : 0 < u) : (v % u = 0 ∧ (-v) / u = -(v / u) ∧ (-v) % u = 0) ∨ (v % u ≠ 0 ∧ (-v) / u = -(v / u) - 1 ∧ (-v) % u = u - v % u) := by
  obtain ⟨h, h0, h1⟩ := zdm v hu
  by_cases c : v % u = 0
  · exact Or.inl ⟨c, zdm_u hu (by rw [Int.mul_neg]; omega) (Int.le_refl 0) hu⟩
  · exact Or.inr ⟨c, zdm_u hu (by rw [Int.mul_sub, Int.mul_neg, Int.mul_one]; omega) (by omega) (by omega)⟩
theorem zaw_t (md w k : Int) : zaw md true w k ↔ (md = 0 ∨ md = 3 ∨ (md = 4 ∧ 2 ≤ k) ∨ (md = 5 ∧ 2 < k) ∨ (5 < md ∧ (2 < k ∨ (k = 2 ∧ w % 2 ≠ 0)))) := by
  constructor
  · rintro (h | ⟨h, q⟩ | ⟨h, -⟩ | h | h | h)
    · exact Or.inl h
    · cases q
    · exact Or.inr (Or.inl h)
    · exact Or.inr (Or.inr (Or.inl h))
    · exact Or.inr (Or.inr (Or.inr (Or.inl h)))
    · exact Or.inr (Or.inr (Or.inr (Or.inr h)))
  · rintro (h | h | h | h | h)
    · exact Or.inl h
    · exact Or.inr (Or.inr (Or.inl ⟨h, rfl⟩))
    · exact Or.inr (Or.inr (Or.inr (Or.inl h)))
    · exact Or.inr (Or.inr (Or.inr (Or.inr (Or.inl h))))
    · exact Or.inr (Or.inr (Or.inr (Or.inr (Or.inr h))))
theorem zaw_f (md w k : Int) : zaw md false w k ↔ (md = 0 ∨ md = 2 ∨ (md = 4 ∧ 2 ≤ k) ∨ (md = 5 ∧ 2 < k) ∨ (5 < md ∧ (2 < k ∨ (k = 2 ∧ w % 2 ≠ 0)))) := by
  constructor
  · rintro (h | ⟨h, -⟩ | ⟨h, q⟩ | h | h | h)
    · exact Or.inl h
    · exact Or.inr (Or.inl h)
    · cases q
    · exact Or.inr (Or.inr (Or.inl h))
    · exact Or.inr (Or.inr (Or.inr (Or.inl h)))
    · exact Or.inr (Or.inr (Or.inr (Or.inr h)))
  · rintro (h | h | h | h | h)
    · exact Or.inl h
    · exact Or.inr (Or.inl ⟨h, rfl⟩)
    · exact Or.inr (Or.inr (Or.inr (Or.inl h)))
    · exact Or.inr (Or.inr (Or.inr (Or.inr (Or.inl h))))
    · exact Or.inr (Or.inr (Or.inr (Or.inr (Or.inr h))))
theorem zrd_n1 {md v u d r w k i : Int} (hu : 0 < u) (hmd : 0 ≤ md ∧ md ≤ 7) (hv : v < 0) (r0 : 0 ≤ r) (r1 : r < u) (hr : r ≠ 0) (hw : w = -d - 1) (hk : zkn (u - r) u k) (hi : (i = 1 ∧ (md = 0 ∨ md = 3 ∨ (md = 4 ∧ 2 ≤ k) ∨ (md = 5 ∧ 2 < k) ∨ (5 < md ∧ (2 < k ∨ (k = 2 ∧ w % 2 ≠ 0))))) ∨ (i = 0 ∧ ¬ (md = 0 ∨ md = 3 ∨ (md = 4 ∧ 2 ≤ k) ∨ (md = 5 ∧ 2 < k) ∨ (5 < md ∧ (2 < k ∨ (k = 2 ∧ w % 2 ≠ 0)))))) :
    -(w + i) = if (md = 0 ∧ 0 ≤ v) ∨ (md = 1 ∧ v < 0) ∨ md = 2 ∨ (3 < md ∧ u < 2 * r) ∨ (2 * r = u ∧ ((md = 4 ∧ 0 ≤ v) ∨ (md = 5 ∧ v < 0) ∨ (5 < md ∧ d % 2 ≠ 0))) then d + 1 else d := by
  have hk1 : (k = 1 ∧ u < 2 * r) ∨ (k = 2 ∧ 2 * r = u) ∨ (k = 3 ∧ 2 * r < u) := by unfold zkn at hk; omega
  clear hk
  rcases (show md = 0 ∨ md = 1 ∨ md = 2 ∨ md = 3 ∨ md = 4 ∨ md = 5 ∨ md = 6 ∨ md = 7 by omega) with q | q | q | q | q | q | q | q <;> subst q <;> rcases hk1 with ⟨rfl, q2⟩ | ⟨rfl, q2⟩ | ⟨rfl, q2⟩ <;> split <;> omega
theorem zrd_p1 {md v u d r w k i : Int} (hu : 0 < u) (hmd : 0 ≤ md ∧ md ≤ 7) (hv : 0 ≤ v) (r0 : 0 ≤ r) (r1 : r < u) (hr : r ≠ 0) (hw : w = d) (hk : zkn r u k) (hi : (i = 1 ∧ (md = 0 ∨ md = 2 ∨ (md = 4 ∧ 2 ≤ k) ∨ (md = 5 ∧ 2 < k) ∨ (5 < md ∧ (2 < k ∨ (k = 2 ∧ w % 2 ≠ 0))))) ∨ (i = 0 ∧ ¬ (md = 0 ∨ md = 2 ∨ (md = 4 ∧ 2 ≤ k) ∨ (md = 5 ∧ 2 < k) ∨ (5 < md ∧ (2 < k ∨ (k = 2 ∧ w % 2 ≠ 0)))))) :
    w + i = if (md = 0 ∧ 0 ≤ v) ∨ (md = 1 ∧ v < 0) ∨ md = 2 ∨ (3 < md ∧ u < 2 * r) ∨ (2 * r = u ∧ ((md = 4 ∧ 0 ≤ v) ∨ (md = 5 ∧ v < 0) ∨ (5 < md ∧ d % 2 ≠ 0))) then d + 1 else d := by
  have hk1 : (k = 1 ∧ 2 * r < u) ∨ (k = 2 ∧ 2 * r = u) ∨ (k = 3 ∧ u < 2 * r) := by unfold zkn at hk; omega
  clear hk
  rcases (show md = 0 ∨ md = 1 ∨ md = 2 ∨ md = 3 ∨ md = 4 ∨ md = 5 ∨ md = 6 ∨ md = 7 by omega) with q | q | q | q | q | q | q | q <;> subst q <;> rcases hk1 with ⟨rfl, q2⟩ | ⟨rfl, q2⟩ | ⟨rfl, q2⟩ <;> split <;> omega
theorem zrd_cls {md v u w k i : Int} {bl : Bool} (hu : 0 < u) (hmd : 0 ≤ md ∧ md ≤ 7) (hbl : bl = decide (v < 0)) (hw : w = (v.natAbs : Int) / u) (hk : zkn ((v.natAbs : Int) % u) u k) (hi : i = if k ≠ 0 ∧ zaw md bl w k then 1 else 0) : (if bl = true then -(w + i) else w + i) = zrd md v u := by
  have hi2 : (i = 1 ∧ k ≠ 0 ∧ zaw md bl w k) ∨ (i = 0 ∧ ¬ (k ≠ 0 ∧ zaw md bl w k)) := by
    by_cases c : k ≠ 0 ∧ zaw md bl w k
    · exact Or.inl ⟨hi.trans (if_pos c), c⟩
    · exact Or.inr ⟨hi.trans (if_neg c), c⟩
  have hk0 : (v.natAbs : Int) % u = 0 → i = 0 := fun q => by
    have k0 : k = 0 := (zkn_z hk).mpr q
    rcases hi2 with ⟨a1, a2, -⟩ | ⟨a1, -⟩
    · exact absurd k0 a2
    · exact a1
  have hkn : (v.natAbs : Int) % u ≠ 0 → (i = 1 ∧ zaw md bl w k) ∨ (i = 0 ∧ ¬ zaw md bl w k) := fun q => by
    have k0 : k ≠ 0 := fun z => q ((zkn_z hk).mp z)
    rcases hi2 with ⟨a1, -, a2⟩ | ⟨a1, a2⟩
    · exact Or.inl ⟨a1, a2⟩
    · exact Or.inr ⟨a1, fun z => a2 ⟨k0, z⟩⟩
  clear hi hi2
  obtain ⟨-, r0, r1⟩ := zdm v hu
  unfold zrd
  cases bl
  · have hv : 0 ≤ v := by have := of_decide_eq_false hbl.symm; omega
    have e : (v.natAbs : Int) = v := by omega
    rw [e] at hw hk hk0 hkn
    rw [if_neg (by decide)]
    by_cases c : v % u = 0
    · rw [if_pos c, hk0 c, hw]; omega
    · rw [if_neg c]
      have h := hkn c
      rw [zaw_f] at h
      exact zrd_p1 hu hmd hv r0 r1 c hw hk h
  · have hv : v < 0 := of_decide_eq_true hbl.symm
    have e : (v.natAbs : Int) = -v := by omega
    rw [e] at hw hk hk0 hkn
    rw [if_pos rfl]
    rcases zneg_dm v hu with ⟨c, c2, c3⟩ | ⟨c, c2, c3⟩
    · rw [if_pos c, hk0 c3, hw, c2]; omega
    · rw [if_neg c]
      have h := hkn (by omega)
      rw [zaw_t] at h
      rw [c3] at hk
      exact zrd_n1 hu hmd hv r0 r1 c (by omega) hk h
/-- of a fraction that is made longer -/
theorem zdm_g (v : Int) {u c : Int} (hu : 0 < u) (hc : 0 < c) : v * c / (u * c) = v / u ∧ v * c % (u * c) = v % u * c := by
  obtain ⟨h, h0, h1⟩ := zdm v hu
  refine zdm_u (Int.mul_pos hu hc) ?_ (Int.mul_nonneg h0 (by omega)) (Int.mul_lt_mul_of_pos_right h1 hc)
  have e : u * c * (v / u) = u * (v / u) * c := by ac_rfl
  rw [e, ← Int.add_mul, ← h]
theorem zmul_lt_iff {a b c : Int} (hc : 0 < c) : a * c < b * c ↔ a < b := ⟨fun h => Int.lt_of_mul_lt_mul_right h (by omega), fun h => Int.mul_lt_mul_of_pos_right h hc⟩
theorem zmul_eq_iff {a b c : Int} (hc : 0 < c) : a * c = b * c ↔ a = b := ⟨fun h => Int.eq_of_mul_eq_mul_right (by omega) h, fun h => by rw [h]⟩
theorem zmul_0_iff {a c : Int} (hc : 0 < c) : a * c = 0 ↔ a = 0 := by
  have := zmul_eq_iff (a := a) (b := 0) hc
  rwa [Int.zero_mul] at this
theorem zmul_n_iff {a c : Int} (hc : 0 < c) : a * c < 0 ↔ a < 0 := by
  have := zmul_lt_iff (a := a) (b := 0) hc
  rwa [Int.zero_mul] at this
theorem zmul_p_iff {a c : Int} (hc : 0 < c) : 0 < a * c ↔ 0 < a := by
  have := zmul_lt_iff (a := 0) (b := a) hc
  rwa [Int.zero_mul] at this
theorem zrd_g (md v : Int) {u c : Int} (hu : 0 < u) (hc : 0 < c) : zrd md (v * c) (u * c) = zrd md v u := by
  obtain ⟨e1, e2⟩ := zdm_g v hu hc
  unfold zrd
  rw [e1, e2]
  have e3 : 2 * (v % u * c) = 2 * (v % u) * c := (Int.mul_assoc 2 _ _).symm
  rw [e3]
  have i1 := zmul_0_iff (a := v % u) hc
  have i2 := zmul_n_iff (a := v) hc
  have i3 := zmul_lt_iff (a := u) (b := 2 * (v % u)) hc
  have i4 := zmul_eq_iff (a := 2 * (v % u)) (b := u) hc
  have i5 : 0 ≤ v * c ↔ 0 ≤ v := by omega
  simp only [i1, i2, i3, i4, i5]
theorem zex_g (v : Int) {u c : Int} (hu : 0 < u) (hc : 0 < c) : v * c % (u * c) = 0 ↔ v % u = 0 := by
  rw [(zdm_g v hu hc).2]
  exact zmul_0_iff hc
theorem zrd_0 (md : Int) (u : Int) : zrd md 0 u = 0 := by
  unfold zrd
  rw [Int.zero_emod, Int.zero_ediv, if_pos rfl]
theorem zrd_1 (md v : Int) : zrd md v 1 = v := by
  unfold zrd
  rw [Int.emod_one, Int.ediv_one, if_pos rfl]
/-- what divides is told as it is -/
theorem zrd_m (md v : Int) {u : Int} (hu : 0 < u) : zrd md (v * u) u = v := by
  have := zrd_g md v (u := 1) (c := u) (by decide) hu
  rw [Int.one_mul] at this
  rw [this, zrd_1]
theorem zrd_lo (md v : Int) (u : Int) : v / u ≤ zrd md v u ∧ zrd md v u ≤ v / u + 1 := by
  unfold zrd
  split
  · omega
  · split <;> omega
/-- the bounds: within one of the fraction -/
theorem zrd_b (md v : Int) {u : Int} (hu : 0 < u) : zrd md v u * u < v + u ∧ v - u < zrd md v u * u := by
  obtain ⟨h, h0, h1⟩ := zdm v hu
  unfold zrd
  have e : (v / u + 1) * u = u * (v / u) + u := by rw [Int.add_mul, Int.one_mul, Int.mul_comm]
  have e2 : v / u * u = u * (v / u) := Int.mul_comm _ _
  split
  · omega
  · split <;> omega
theorem zrd_nn (md : Int) {v u : Int} (hv : 0 ≤ v) (hu : 0 < u) : 0 ≤ zrd md v u := by
  have := Int.ediv_nonneg hv (show 0 ≤ u by omega)
  have := (zrd_lo md v u).1
  omega
theorem zrd_fl (v u : Int) : zrd 3 v u = v / u := by
  unfold zrd
  split
  · rfl
  · exact if_neg (by omega)
theorem zrd_ce {v u : Int} (hu : 0 < u) : zrd 2 v u = -((-v) / u) := by
  have hn := zneg_dm v hu
  unfold zrd
  split
  · omega
  · rw [if_pos (by omega)]; omega
/-- what holds of a rounded number, by the way: what an instalment is told by (v, u above 0) -/
theorem zrd_up {v u z : Int} (hv : 0 ≤ v) (hu : 0 < u) (hz : z = zrd 0 v u) : v ≤ z * u ∧ (z - 1) * u < v ∨ v = 0 := by
  obtain ⟨h, h0, h1⟩ := zdm v hu
  unfold zrd at hz
  have e2 : v / u * u = u * (v / u) := Int.mul_comm _ _
  by_cases c : v % u = 0
  · rw [if_pos c] at hz
    subst hz
    rw [Int.sub_mul, Int.one_mul]
    exact Or.inl ⟨by omega, by omega⟩
  · rw [if_neg c, if_pos (by omega)] at hz
    subst hz
    rw [show v / u + 1 - 1 = v / u by omega, Int.add_mul, Int.one_mul]
    exact Or.inl ⟨by omega, by omega⟩
theorem zrd_near {md v u z : Int} (hv : 0 ≤ v) (hu : 0 < u) (hmd : 0 ≤ md ∧ md ≤ 6) (hz : z = zrd md v u) :
    ((md = 0 ∨ md = 2) → v ≤ z * u ∧ (z - 1) * u < v) ∧ ((md = 1 ∨ md = 3) → z * u ≤ v ∧ v < (z + 1) * u) ∧
    (md = 4 → 2 * v < (2 * z + 1) * u ∧ (2 * z - 1) * u ≤ 2 * v) ∧ (md = 5 → 2 * v ≤ (2 * z + 1) * u ∧ (2 * z - 1) * u < 2 * v) ∧
    (md = 6 → if z % 2 = 0 then 2 * v ≤ (2 * z + 1) * u ∧ (2 * z - 1) * u ≤ 2 * v else 2 * v < (2 * z + 1) * u ∧ (2 * z - 1) * u < 2 * v) := by
  obtain ⟨h, h0, h1⟩ := zdm v hu
  unfold zrd at hz
  have e2 : ∀ x : Int, (v / u + x) * u = u * (v / u) + x * u := fun x => by rw [Int.add_mul, Int.mul_comm (v / u)]
  have e3 : ∀ x : Int, (2 * (v / u) + x) * u = 2 * (u * (v / u)) + x * u := fun x => by rw [Int.add_mul, Int.mul_assoc, Int.mul_comm (v / u)]
  have key : (z = v / u ∧ z * u = u * (v / u) ∧ (z - 1) * u = u * (v / u) - u ∧ (z + 1) * u = u * (v / u) + u ∧ (2 * z + 1) * u = 2 * (u * (v / u)) + u ∧ (2 * z - 1) * u = 2 * (u * (v / u)) - u) ∨ (z = v / u + 1 ∧ z * u = u * (v / u) + u ∧ (z - 1) * u = u * (v / u) ∧ (z + 1) * u = u * (v / u) + 2 * u ∧ (2 * z + 1) * u = 2 * (u * (v / u)) + 3 * u ∧ (2 * z - 1) * u = 2 * (u * (v / u)) + u) := by
    have hz2 : z = v / u ∨ z = v / u + 1 := by
      rw [hz]; split
      · exact Or.inl rfl
      · split
        · exact Or.inr rfl
        · exact Or.inl rfl
    rcases hz2 with q | q <;> rw [q]
    · refine Or.inl ⟨rfl, Int.mul_comm _ _, ?_, ?_, ?_, ?_⟩
      · rw [show v / u - 1 = v / u + (-1) by omega, e2]; omega
      · rw [e2]; omega
      · rw [e3]; omega
      · rw [show 2 * (v / u) - 1 = 2 * (v / u) + (-1) by omega, e3]; omega
    · refine Or.inr ⟨rfl, ?_, ?_, ?_, ?_, ?_⟩
      · rw [e2]; omega
      · rw [show v / u + 1 - 1 = v / u + 0 by omega, e2]; omega
      · rw [show v / u + 1 + 1 = v / u + 2 by omega, e2]
      · rw [show 2 * (v / u + 1) + 1 = 2 * (v / u) + 3 by omega, e3]
      · rw [show 2 * (v / u + 1) - 1 = 2 * (v / u) + 1 by omega, e3]; omega
  generalize (z - 1) * u = m1 at *
  generalize (z + 1) * u = m2 at *
  generalize (2 * z + 1) * u = m3 at *
  generalize (2 * z - 1) * u = m4 at *
  generalize z * u = m5 at *
  clear e2 e3
  generalize u * (v / u) = D at *
  generalize v / u = d at *
  generalize v % u = r at *
  refine ⟨fun q => ?_, fun q => ?_, fun q => ?_, fun q => ?_, fun q => ?_⟩
  · split at hz
    · omega
    · split at hz <;> omega
  · split at hz
    · omega
    · split at hz <;> omega
  · split at hz
    · omega
    · split at hz <;> omega
  · split at hz
    · omega
    · split at hz <;> omega
  · split at hz
    · split <;> omega
    · split at hz <;> split <;> omega
-- ROWS OF PAYMENTS: what they come to, carried on by U / P
def zrow (U P : Int) (f : Int → Int) : Nat → Int
  | 0 => f 0
  | n + 1 => zrow U P f n * U + P ^ (n + 1) * f ((n : Int) + 1)
theorem zrow_s (U P : Int) (f : Int → Int) (n : Nat) : zrow U P f (n + 1) = zrow U P f n * U + P ^ (n + 1) * f ((n : Int) + 1) := rfl
theorem zrow_congr {U P : Int} {f g : Int → Int} : ∀ n : Nat, (∀ i : Int, 0 ≤ i → i ≤ n → f i = g i) → zrow U P f n = zrow U P g n
  | 0, h => h 0 (by omega) (by omega)
  | n + 1, h => by
    rw [zrow_s, zrow_s, zrow_congr n (fun i a b => h i a (by omega)), h _ (by omega) (by omega)]
theorem zrow_add (U P : Int) (f g : Int → Int) : ∀ n : Nat, zrow U P (fun i => f i + g i) n = zrow U P f n + zrow U P g n
  | 0 => rfl
  | n + 1 => by
    rw [zrow_s, zrow_s, zrow_s, zrow_add U P f g n, Int.add_mul, Int.mul_add]
    omega
theorem zrow_mul (U P c : Int) (f : Int → Int) : ∀ n : Nat, zrow U P (fun i => c * f i) n = c * zrow U P f n
  | 0 => rfl
  | n + 1 => by
    rw [zrow_s, zrow_s, zrow_mul U P c f n, Int.mul_add]
    have e1 : c * zrow U P f n * U = c * (zrow U P f n * U) := Int.mul_assoc _ _ _
    have e2 : P ^ (n + 1) * (c * f ((n : Int) + 1)) = c * (P ^ (n + 1) * f ((n : Int) + 1)) := by ac_rfl
    rw [e1, e2]
/-- in other terms -/
theorem zrow_g (U P g : Int) (f : Int → Int) : ∀ n : Nat, zrow (U * g) (P * g) f n = zrow U P f n * g ^ n
  | 0 => by show f 0 = f 0 * g ^ 0; rw [Int.pow_zero, Int.mul_one]
  | n + 1 => by
    rw [zrow_s, zrow_s, zrow_g U P g f n, Int.mul_pow, Int.pow_succ g n, Int.add_mul]
    have e1 : zrow U P f n * g ^ n * (U * g) = zrow U P f n * U * (g ^ n * g) := by ac_rfl
    have e2 : P ^ (n + 1) * (g ^ n * g) * f ((n : Int) + 1) = P ^ (n + 1) * f ((n : Int) + 1) * (g ^ n * g) := by ac_rfl
    rw [e1, e2]
/-- with nothing behind -/
theorem zrow_pad {U P : Int} {f : Int → Int} {n : Nat} : ∀ k : Nat, (∀ i : Int, n < i → i ≤ n + k → f i = 0) → zrow U P f (n + k) = zrow U P f n * U ^ k
  | 0, _ => by rw [Int.pow_zero, Int.mul_one]; rfl
  | k + 1, h => by
    show zrow U P f (n + k + 1) = _
    rw [zrow_s, zrow_pad k (fun i a b => h i a (by omega)), h _ (by omega) (by omega), Int.mul_zero, Int.add_zero, Int.pow_succ, Int.mul_assoc]
/-- with nothing ahead -/
theorem zrow_0 {U P : Int} {f : Int → Int} : ∀ n : Nat, (∀ i : Int, 0 ≤ i → i ≤ n → f i = 0) → zrow U P f n = 0
  | 0, h => h 0 (by omega) (by omega)
  | n + 1, h => by
    rw [zrow_s, zrow_0 n (fun i a b => h i a (by omega)), h _ (by omega) (by omega), Int.mul_zero, Int.zero_mul]; rfl
theorem zrow_head {U P : Int} {f : Int → Int} {n : Nat} (h : ∀ i : Int, 0 ≤ i → i < n → f i = 0) : ∀ k : Nat, zrow U P f (n + k) = P ^ n * zrow U P (fun i => f (i + n)) k
  | 0 => by
    cases n with
    | zero => show f 0 = P ^ 0 * f (0 + (0 : Nat)); rw [Int.pow_zero, Int.one_mul]; rfl
    | succ n =>
      show zrow U P f (n + 1) = P ^ (n + 1) * f (0 + ((n + 1 : Nat) : Int))
      rw [zrow_s, zrow_0 n (fun i a b => h i a (by omega)), Int.zero_mul, Int.zero_add, show (0 : Int) + ((n + 1 : Nat) : Int) = (n : Int) + 1 by omega]
  | k + 1 => by
    show zrow U P f (n + k + 1) = _
    rw [zrow_s, zrow_s, zrow_head h k, Int.mul_add, show ((n + k : Nat) : Int) + 1 = (k : Int) + 1 + n by omega, show n + k + 1 = n + (k + 1) by omega, Int.pow_add P n (k + 1)]
    have e1 : P ^ n * zrow U P (fun i => f (i + n)) k * U = P ^ n * (zrow U P (fun i => f (i + n)) k * U) := Int.mul_assoc _ _ _
    have e2 : P ^ n * P ^ (k + 1) * f ((k : Int) + 1 + n) = P ^ n * (P ^ (k + 1) * f ((k : Int) + 1 + n)) := Int.mul_assoc _ _ _
    rw [e1, e2]
/-- a sum of the first ones -/
def zsm (f : Int → Int) : Nat → Int
  | 0 => 0
  | n + 1 => zsm f n + f (n : Int)
theorem zsm_s (f : Int → Int) (n : Nat) : zsm f (n + 1) = zsm f n + f (n : Int) := rfl
theorem zrow_1 (P : Int) (f : Int → Int) : ∀ n : Nat, zrow P P f n = P ^ n * zsm f (n + 1)
  | 0 => by show f 0 = P ^ 0 * (0 + f 0); rw [Int.pow_zero, Int.one_mul, Int.zero_add]
  | n + 1 => by
    rw [zrow_s, zrow_1 P f n, zsm_s f (n + 1), Int.mul_add, Int.pow_succ]
    have e : P ^ n * zsm f (n + 1) * P = P ^ n * P * zsm f (n + 1) := by ac_rfl
    rw [e]; rfl
/-- THE RATE AS A FRACTION IN LOWEST TERMS -/
def zgc (po : Int) : Int := (Int.gcd 100000 po : Int)
def zqu (po : Int) : Int := (100000 + po) / zgc po
def zqd (po : Int) : Int := 100000 / zgc po
theorem zgc_pos (po : Int) : 1 ≤ zgc po := by
  have : 0 < Int.gcd 100000 po := Int.gcd_pos_of_ne_zero_left _ (by decide)
  unfold zgc; omega
theorem zgc_d (po : Int) : zgc po ∣ 100000 ∧ zgc po ∣ po := ⟨Int.gcd_dvd_left .., Int.gcd_dvd_right ..⟩
theorem zfr_q (po : Int) : zfr (zgc po) (zqu po) (zqd po) po := ⟨zgc_pos po, zcd_div (Int.dvd_add (zgc_d po).1 (zgc_d po).2), zcd_div (zgc_d po).1⟩
theorem zq_rng {po : Int} (h : 0 ≤ po ∧ po ≤ 20000) : 1 ≤ zqd po ∧ zqd po ≤ 100000 ∧ zqd po ≤ zqu po ∧ zqu po ≤ 120000 := (zfr_q po).rng h
/-- its bounds -/
theorem zrow_b {U P M A : Int} {f : Int → Int} (hU : 0 ≤ U ∧ U ≤ M) (hP : 0 ≤ P ∧ P ≤ M) (hA : 0 ≤ A) : ∀ n : Nat, (∀ i : Int, 0 ≤ i → i ≤ n → -A ≤ f i ∧ f i ≤ A) → zrow U P f n ≤ ((n : Int) + 1) * A * M ^ n ∧ -(((n : Int) + 1) * A * M ^ n) ≤ zrow U P f n
  | 0, hf => by
    have := hf 0 (by omega) (by omega)
    show f 0 ≤ (((0 : Nat) : Int) + 1) * A * M ^ 0 ∧ -((((0 : Nat) : Int) + 1) * A * M ^ 0) ≤ f 0
    rw [Int.pow_zero, Int.mul_one, show ((0 : Nat) : Int) + 1 = 1 from rfl, Int.one_mul]; omega
  | n + 1, hf => by
    obtain ⟨h1, h2⟩ := zrow_b hU hP hA n (fun i a b => hf i a (by omega))
    have hfn := hf ((n : Int) + 1) (by omega) (by omega)
    have a1 := zpw_le (a := P) (b := M) hP.1 hP.2 (n + 1)
    have p1 : 0 ≤ P ^ (n + 1) := Int.pow_nonneg hP.1
    have p2 : 0 ≤ M ^ n := Int.pow_nonneg (by omega)
    have b1 := Int.mul_le_mul_of_nonneg_right h1 hU.1
    have b2 := Int.mul_le_mul_of_nonneg_right h2 hU.1
    have c1 : P ^ (n + 1) * f ((n : Int) + 1) ≤ P ^ (n + 1) * A := Int.mul_le_mul_of_nonneg_left hfn.2 p1
    have c2 : P ^ (n + 1) * (-A) ≤ P ^ (n + 1) * f ((n : Int) + 1) := Int.mul_le_mul_of_nonneg_left hfn.1 p1
    have c3 : P ^ (n + 1) * A ≤ M ^ (n + 1) * A := Int.mul_le_mul_of_nonneg_right a1 hA
    have q0 : 0 ≤ ((n : Int) + 1) * A * M ^ n := Int.mul_nonneg (Int.mul_nonneg (by omega) hA) p2
    have q1 : ((n : Int) + 1) * A * M ^ n * U ≤ ((n : Int) + 1) * A * M ^ n * M := Int.mul_le_mul_of_nonneg_left hU.2 q0
    have e1 : ((n : Int) + 1) * A * M ^ n * M = ((n : Int) + 1) * A * M ^ (n + 1) := by rw [Int.pow_succ, Int.mul_assoc]
    have e2 : (((n + 1 : Nat) : Int) + 1) * A * M ^ (n + 1) = ((n : Int) + 1) * A * M ^ (n + 1) + M ^ (n + 1) * A := by
      rw [show ((n + 1 : Nat) : Int) + 1 = ((n : Int) + 1) + 1 by omega, Int.add_mul _ 1 A, Int.one_mul, Int.add_mul, Int.mul_comm A]
    have e3 : -(((n : Int) + 1) * A * M ^ n) * U = -(((n : Int) + 1) * A * M ^ n * U) := Int.neg_mul _ _
    rw [zrow_s, e2]
    rw [Int.mul_neg] at c2
    rw [e3] at b2
    rw [e1] at q1
    omega
/-- the same, read from the other end -/
theorem zrow_front (U P : Int) (f : Int → Int) : ∀ n : Nat, zrow U P f (n + 1) = U ^ (n + 1) * f 0 + P * zrow U P (fun i => f (i + 1)) n
  | 0 => by
    show f 0 * U + P ^ (0 + 1) * f (((0 : Nat) : Int) + 1) = U ^ (0 + 1) * f 0 + P * f (0 + 1)
    rw [Int.pow_succ, Int.pow_succ, Int.pow_zero, Int.pow_zero, Int.one_mul, Int.one_mul, Int.mul_comm (f 0)]; rfl
  | n + 1 => by
    rw [zrow_s, zrow_front U P f n, zrow_s U P (fun i => f (i + 1)) n, Int.add_mul, Int.mul_add, Int.pow_succ U (n + 1), Int.pow_succ P (n + 1)]
    have e1 : U ^ (n + 1) * f 0 * U = U ^ (n + 1) * U * f 0 := by ac_rfl
    have e2 : P * zrow U P (fun i => f (i + 1)) n * U = P * (zrow U P (fun i => f (i + 1)) n * U) := Int.mul_assoc _ _ _
    have e3 : P ^ (n + 1) * P * f (((n + 1 : Nat) : Int) + 1) = P * (P ^ (n + 1) * f ((n : Int) + 1 + 1)) := by
      rw [show ((n + 1 : Nat) : Int) + 1 = (n : Int) + 1 + 1 by omega]; ac_rfl
    rw [e1, e2, e3, Int.add_assoc]
theorem zrow_rev (U P : Int) : ∀ (n : Nat) (f : Int → Int), zrow P U (fun j => f (n - j)) n = zrow U P f n
  | 0, f => by show f (((0 : Nat) : Int) - 0) = f 0; rfl
  | n + 1, f => by
    rw [zrow_s, zrow_front, show zrow P U (fun j => f (((n + 1 : Nat) : Int) - j)) n = zrow P U (fun j => (fun i => f (i + 1)) (n - j)) n from zrow_congr n (fun i _ _ => by show f _ = f _; congr 1; omega), zrow_rev U P n (fun i => f (i + 1))]
    show _ + U ^ (n + 1) * f (((n + 1 : Nat) : Int) - ((n : Int) + 1)) = _
    rw [show ((n + 1 : Nat) : Int) - ((n : Int) + 1) = 0 by omega, Int.mul_comm P, Int.add_comm]
/-- within the room of the whole numbers -/
theorem zrow_35 {U P A : Int} {f : Int → Int} (hU : 0 ≤ U ∧ U ≤ 120000) (hP : 0 ≤ P ∧ P ≤ 120000) (n : Nat) (hf : ∀ i : Int, 0 ≤ i → i ≤ n → -A ≤ f i ∧ f i ≤ A) (hA : 0 ≤ A) (hn : (n ≤ 41 ∧ A ≤ 2000000000) ∨ (n ≤ 60 ∧ A ≤ 1)) :
    -(1073741824 ^ 35) < zrow U P f n ∧ zrow U P f n < 1073741824 ^ 35 := by
  obtain ⟨h1, h2⟩ := zrow_b hU hP hA n hf
  have p0 := zpow_pos (x := 120000) (by decide) n
  rcases hn with ⟨q1, q2⟩ | ⟨q1, q2⟩
  · have a2 := zpow_le (b := 120000) (by decide) (show n ≤ 41 by omega)
    have m1 : ((n : Int) + 1) * A ≤ 42 * A := Int.mul_le_mul_of_nonneg_right (by omega) hA
    have m2 : ((n : Int) + 1) * A * 120000 ^ n ≤ 84000000000 * 120000 ^ n := Int.mul_le_mul_of_nonneg_right (by omega) (by omega)
    have c : (84000000000 : Int) * 120000 ^ 41 < 1073741824 ^ 35 := by decide +kernel
    omega
  · have a2 := zpow_le (b := 120000) (by decide) (show n ≤ 60 by omega)
    have m1 : ((n : Int) + 1) * A ≤ 61 * A := Int.mul_le_mul_of_nonneg_right (by omega) hA
    have m2 : ((n : Int) + 1) * A * 120000 ^ n ≤ 61 * 120000 ^ n := Int.mul_le_mul_of_nonneg_right (by omega) (by omega)
    have c : (61 : Int) * 120000 ^ 60 < 1073741824 ^ 35 := by decide +kernel
    omega
/-- the row in whole points -/
def znm (f : Int → Int) (po : Int) : Int := zrow (100000 + po) 100000 f 40
theorem zrow_gn (f : Int → Int) (po : Int) (n : Nat) : zrow (100000 + po) 100000 f n = zrow (zqu po) (zqd po) f n * zgc po ^ n := by
  have h := zfr_q po
  conv => lhs; rw [← h.2.1, ← h.2.2]
  exact zrow_g _ _ _ f n
theorem zq_gn (po : Int) (n : Nat) : (100000 + po) ^ n = zqu po ^ n * zgc po ^ n := zup_g (zfr_q po) n
theorem zd_gn (po : Int) (n : Nat) : (100000 : Int) ^ n = zqd po ^ n * zgc po ^ n := by
  conv => lhs; rw [← (zfr_q po).2.2]
  exact Int.mul_pow
/-- worth at a period: the same by the parts up to the last payment as by whole points up to period 40 -/
theorem zworth {f : Int → Int} {po pe la : Int} (hp : 0 ≤ po ∧ po ≤ 20000) (hpe : 0 ≤ pe ∧ pe ≤ la) (hla : la ≤ 40) (hf : ∀ i : Int, la < i → i ≤ 40 → f i = 0) :
    ∃ c : Int, 0 < c ∧ znm f po = zrow (zqu po) (zqd po) f la.toNat * c ∧ (100000 + po) ^ (40 - pe).toNat * 100000 ^ pe.toNat = zqu po ^ (la - pe).toNat * zqd po ^ pe.toNat * c := by
  have r := zq_rng hp
  have g1 := zgc_pos po
  refine ⟨zqu po ^ (40 - la).toNat * zgc po ^ 40, Int.mul_pos (by have := zpow_pos (x := zqu po) (by omega) (40 - la).toNat; omega) (by have := zpow_pos (x := zgc po) g1 40; omega), ?_, ?_⟩
  · unfold znm
    rw [zrow_gn, ← Int.mul_assoc]
    congr 1
    have e : (40 : Nat) = la.toNat + (40 - la).toNat := by omega
    conv => lhs; rw [e]
    exact zrow_pad _ (fun i a b => hf i (by omega) (by omega))
  · rw [zq_gn, zd_gn po, show (40 - pe).toNat = (la - pe).toNat + (40 - la).toNat by omega, Int.pow_add]
    have e : zgc po ^ 40 = zgc po ^ ((la - pe).toNat + (40 - la).toNat) * zgc po ^ pe.toNat := by rw [← Int.pow_add]; congr 1; omega
    rw [e]
    ac_rfl
theorem zsg_c {a c : Int} (hc : 0 < c) : (a * c).sign = a.sign := by
  rw [Int.sign_mul, Int.sign_eq_one_of_pos hc, Int.mul_one]
theorem znz {v u : Int} (hu : 0 < u) : (v.natAbs : Int) % u = 0 ↔ v % u = 0 := by
  rcases Int.lt_or_le v 0 with c | c
  · have hn := zneg_dm v hu
    rw [show (v.natAbs : Int) = -v by omega]
    obtain ⟨-, r0, r1⟩ := zdm v hu
    omega
  · rw [show (v.natAbs : Int) = v by omega]
theorem zsgn_row {f : Int → Int} {po la : Int} (hp : 0 ≤ po ∧ po ≤ 20000) (hla : 0 ≤ la ∧ la ≤ 40) (hf : ∀ i : Int, la < i → i ≤ 40 → f i = 0) : (zrow (zqu po) (zqd po) f la.toNat).sign = (znm f po).sign := by
  obtain ⟨c, h0, h1, -⟩ := zworth (pe := 0) hp (by omega) hla.2 hf
  rw [h1, zsg_c h0]
theorem zgcd_s {g r : Int} (hg : 0 ≤ g) (hr : 0 ≤ r) : Int.gcd r (g % r) = Int.gcd g r := by
  obtain ⟨a, rfl⟩ := Int.eq_ofNat_of_zero_le hg
  obtain ⟨b, rfl⟩ := Int.eq_ofNat_of_zero_le hr
  show Nat.gcd ((b : Int).natAbs) (((a : Int) % (b : Int)).natAbs) = Nat.gcd ((a : Int).natAbs) ((b : Int).natAbs)
  rw [← Int.natCast_emod, Int.natAbs_natCast, Int.natAbs_natCast, Int.natAbs_natCast, Nat.gcd_comm b, ← Nat.gcd_rec, Nat.gcd_comm]
/-- under the line of a worth -/
def zqq (po pe : Int) : Int := (100000 + po) ^ (40 - pe).toNat * 100000 ^ pe.toNat
theorem zqq_pos {po pe : Int} (hp : 0 ≤ po) : 1 ≤ zqq po pe := Int.mul_pos (by have := zpow_pos (x := 100000 + po) (by omega) (40 - pe).toNat; omega) (by have := zpow_pos (x := 100000) (by decide) pe.toNat; omega)
theorem zworth_r {f : Int → Int} {po pe la md : Int} (hp : 0 ≤ po ∧ po ≤ 20000) (hpe : 0 ≤ pe ∧ pe ≤ la) (hla : la ≤ 40) (hf : ∀ i : Int, la < i → i ≤ 40 → f i = 0) :
    zrd md (zrow (zqu po) (zqd po) f la.toNat) (1 * zqu po ^ (la - pe).toNat * zqd po ^ pe.toNat) = zrd md (znm f po) (zqq po pe) ∧ (zrow (zqu po) (zqd po) f la.toNat % (1 * zqu po ^ (la - pe).toNat * zqd po ^ pe.toNat) = 0 ↔ znm f po % zqq po pe = 0) := by
  obtain ⟨c, h0, h1, h2⟩ := zworth hp hpe hla hf
  have r := zq_rng hp
  have u1 := zpow_pos (x := zqu po) (by omega) (la - pe).toNat
  have u2 := zpow_pos (x := zqd po) (by omega) pe.toNat
  have hu : 0 < zqu po ^ (la - pe).toNat * zqd po ^ pe.toNat := Int.mul_pos (by omega) (by omega)
  unfold zqq
  rw [Int.one_mul, h1, h2]
  exact ⟨(zrd_g md _ hu h0).symm, (zex_g _ hu h0).symm⟩
theorem z65 : ∀ k : Nat, k ≤ 40 → (6 : Int) ^ k ≤ 1470 * 5 ^ k := by
  have h : ∀ k : Fin 41, (6 : Int) ^ k.val ≤ 1470 * 5 ^ k.val := by decide +kernel
  exact fun k hk => h ⟨k, by omega⟩
/-- a worth's numbers fit -/
theorem zwr {f : Int → Int} {po pe la : Int} (hp : 0 ≤ po ∧ po ≤ 20000) (hpe : 0 ≤ pe ∧ pe ≤ la) (hla : la ≤ 40) (hf : ∀ i : Int, 0 ≤ i → i ≤ 40 → -2000000000 ≤ f i ∧ f i ≤ 2000000000) :
    0 < 1 * zqu po ^ (la - pe).toNat * zqd po ^ pe.toNat ∧ 1 * zqu po ^ (la - pe).toNat * zqd po ^ pe.toNat < 1073741824 ^ 35 ∧ ((zrow (zqu po) (zqd po) f la.toNat).natAbs : Int) < 1073741824 ^ 35 ∧ ((zrow (zqu po) (zqd po) f la.toNat).natAbs : Int) < 1 * zqu po ^ (la - pe).toNat * zqd po ^ pe.toNat * 1073741824 ^ 2 := by
  have r := zq_rng hp
  have hg := zfr_q po
  have u1 := zpow_pos (x := zqu po) (by omega) (la - pe).toNat
  have u2 := zpow_pos (x := zqd po) (by omega) pe.toNat
  have u3 := zpow_pos (x := zqu po) (by omega) pe.toNat
  rw [Int.one_mul]
  have hu : 0 < zqu po ^ (la - pe).toNat * zqd po ^ pe.toNat := Int.mul_pos (by omega) (by omega)
  have hle : zqu po ^ (la - pe).toNat * zqd po ^ pe.toNat ≤ zqu po ^ (la - pe).toNat * zqu po ^ pe.toNat := Int.mul_le_mul_of_nonneg_left (zpw_le (by omega) r.2.2.1 _) (by omega)
  have he : zqu po ^ (la - pe).toNat * zqu po ^ pe.toNat = zqu po ^ la.toNat := by rw [← Int.pow_add]; congr 1; omega
  have a1 := zpw_le (a := zqu po) (b := 120000) (by omega) r.2.2.2 la.toNat
  have a2 := zpow_le (b := 120000) (by decide) (show la.toNat ≤ 41 by omega)
  have c : (120000 : Int) ^ 41 < 1073741824 ^ 35 := by decide +kernel
  have f35 := zrow_35 (U := zqu po) (P := zqd po) (A := 2000000000) (f := f) (by omega) (by omega) la.toNat (fun i a b => hf i a (by omega)) (by decide) (Or.inl ⟨by omega, by decide⟩)
  have fb := zrow_b (U := zqu po) (P := zqd po) (M := zqu po) (A := 2000000000) (f := f) (by omega) (by omega) (by decide) la.toNat (fun i a b => hf i a (by omega))
  have g1 : 5 * zqu po ≤ 6 * zqd po := by
    rcases Int.lt_or_le (6 * zqd po) (5 * zqu po) with q | q
    · have := Int.mul_le_mul_of_nonneg_right (show 6 * zqd po + 1 ≤ 5 * zqu po by omega) (show 0 ≤ zgc po by have := hg.1; omega)
      rw [Int.add_mul, Int.mul_assoc, Int.mul_assoc, hg.2.1, hg.2.2] at this
      have := hg.1
      omega
    · exact q
  have g2 := zpw_le (a := 5 * zqu po) (b := 6 * zqd po) (by omega) g1 pe.toNat
  rw [Int.mul_pow, Int.mul_pow] at g2
  have g3 := Int.mul_le_mul_of_nonneg_right (z65 pe.toNat (by omega)) (show 0 ≤ zqd po ^ pe.toNat by omega)
  have p5 := zpow_pos (x := 5) (by decide) pe.toNat
  have g4 : zqu po ^ pe.toNat ≤ 1470 * zqd po ^ pe.toNat := by
    have e : 1470 * 5 ^ pe.toNat * zqd po ^ pe.toNat = 5 ^ pe.toNat * (1470 * zqd po ^ pe.toNat) := by ac_rfl
    rw [e] at g3
    exact Int.le_of_mul_le_mul_left (Int.le_trans g2 g3) (by omega)
  have g5 : zqu po ^ la.toNat ≤ 1470 * (zqu po ^ (la - pe).toNat * zqd po ^ pe.toNat) := by
    rw [← he]
    have := Int.mul_le_mul_of_nonneg_left g4 (show 0 ≤ zqu po ^ (la - pe).toNat by omega)
    have e : zqu po ^ (la - pe).toNat * (1470 * zqd po ^ pe.toNat) = 1470 * (zqu po ^ (la - pe).toNat * zqd po ^ pe.toNat) := by ac_rfl
    omega
  have m2 : (((la.toNat : Nat) : Int) + 1) * 2000000000 * zqu po ^ la.toNat ≤ 82000000000 * zqu po ^ la.toNat := Int.mul_le_mul_of_nonneg_right (by omega) (by have := zpow_pos (x := zqu po) (by omega) la.toNat; omega)
  have cb : (1073741824 : Int) ^ 2 = 1152921504606846976 := by decide +kernel
  rw [cb]
  exact ⟨hu, by omega, by omega, by omega⟩
theorem zrw_next {U P x i : Int} {f : Int → Int} (h : 1 ≤ i) (hx : x = f i) : zrow U P f (i - 1).toNat * U + P ^ (i - 1).toNat * P * x = zrow U P f (i + 1 - 1).toNat := by
  obtain ⟨k, hk⟩ : ∃ k : Nat, i = (k : Int) + 1 := ⟨(i - 1).toNat, by omega⟩
  subst hk
  rw [show ((k : Int) + 1 - 1).toNat = k by omega, show ((k : Int) + 1 + 1 - 1).toNat = k + 1 by omega, zrow_s, hx, Int.pow_succ]
theorem zpw_next {P i : Int} (h : 1 ≤ i) : P ^ (i - 1).toNat * P = P ^ (i + 1 - 1).toNat := by
  rw [show (i + 1 - 1).toNat = (i - 1).toNat + 1 by omega, Int.pow_succ]
