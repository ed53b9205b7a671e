-- THE CLASS: Lives (laid by wip/p40/y2.py)
-- LIVES
def zlf (f : Int → Int) (ag : Int) : Int → Int := fun j => f (ag + j)
def zdf (f : Int → Int) (ags ag : Int) : Int → Int := fun j => if j = 0 then 0 else if ag + j < ags then f (ag + j - 1) - f (ag + j) else f (ag + j - 1)
/-- a table of lives -/
def zlok (f : Int → Int) (ags : Int) : Prop := (0 ≤ ags ∧ ags ≤ 30) ∧ (∀ i : Int, 0 ≤ i → i < ags → 1 ≤ f i ∧ f i ≤ 1000000) ∧ ∀ i : Int, 0 ≤ i → i + 1 < ags → f (i + 1) ≤ f i
theorem zlok.mono {f : Int → Int} {ags ag : Int} (h : zlok f ags) (ha : 0 ≤ ag) : ∀ k : Nat, ag + k < ags → f (ag + k) ≤ f ag
  | 0, _ => by rw [show ag + ((0 : Nat) : Int) = ag by omega]; exact Int.le_refl _
  | k + 1, hk => by
    have a := h.mono ha k (by omega)
    have b := h.2.2 (ag + k) (by omega) (by omega)
    rw [show ag + ((k + 1 : Nat) : Int) = ag + k + 1 by omega]
    omega
theorem zlok.lf {f : Int → Int} {ags ag : Int} (h : zlok f ags) (ha : 0 ≤ ag ∧ ag < ags) (n : Nat) (hn : ag + n < ags) : ∀ i : Int, 0 ≤ i → i ≤ n → 1 ≤ zlf f ag i ∧ zlf f ag i ≤ f ag := fun i a b => by
  have e : ag + i = ag + ((i.toNat : Nat) : Int) := by omega
  have m := h.mono ha.1 i.toNat (by omega)
  have q := h.2.1 (ag + i) (by omega) (by omega)
  unfold zlf
  rw [← e] at m
  exact ⟨q.1, m⟩
theorem zlok.df {f : Int → Int} {ags ag : Int} (h : zlok f ags) (ha : 0 ≤ ag ∧ ag < ags) (n : Nat) (hn : ag + n ≤ ags) : ∀ i : Int, 0 ≤ i → i ≤ n → 0 ≤ zdf f ags ag i ∧ zdf f ags ag i ≤ f ag := fun i a b => by
  have q0 := h.2.1 ag ha.1 ha.2
  unfold zdf
  split
  · omega
  · rename_i c
    have e : ag + i - 1 = ag + (((i - 1).toNat : Nat) : Int) := by omega
    have m := h.mono ha.1 (i - 1).toNat (by omega)
    have q := h.2.1 (ag + i - 1) (by omega) (by omega)
    rw [← e] at m
    split
    · have q2 := h.2.1 (ag + i) (by omega) (by omega)
      have m2 := h.2.2 (ag + i - 1) (by omega) (by omega)
      rw [show ag + i - 1 + 1 = ag + i by omega] at m2
      omega
    · omega
theorem zrw_nx {U P x k : Int} {f : Int → Int} (h : 0 ≤ k) (hx : x = f (k + 1)) : zrow U P f k.toNat * U + P ^ k.toNat * P * x = zrow U P f (k + 1).toNat := by
  rw [show (k + 1).toNat = k.toNat + 1 by omega, zrow_s, hx, Int.pow_succ, show ((k.toNat : Nat) : Int) = k by omega]
theorem zrow_lo {U P : Int} {f : Int → Int} (hU : 0 ≤ U) (hP : 0 ≤ P) : ∀ n : Nat, (∀ i : Int, 0 ≤ i → i ≤ n → 0 ≤ f i) → f 0 * U ^ n ≤ zrow U P f n
  | 0, _ => by show f 0 * U ^ 0 ≤ f 0; rw [Int.pow_zero, Int.mul_one]; exact Int.le_refl _
  | n + 1, h => by
    have a := Int.mul_le_mul_of_nonneg_right (zrow_lo hU hP n (fun i x y => h i x (by omega))) hU
    have b := Int.mul_nonneg (show 0 ≤ P ^ (n + 1) from Int.pow_nonneg hP) (h ((n : Int) + 1) (by omega) (by omega))
    rw [zrow_s, Int.pow_succ, ← Int.mul_assoc]
    omega
/-- bounds of a table's sums: at least the first times a power, at most 31 times it -/
theorem zlv_b {f : Int → Int} {A U P : Int} (hP : 1 ≤ P ∧ P ≤ U) (hU : U ≤ 120000) (hA : 0 ≤ A ∧ A ≤ 1000000) (n : Nat) (hn : n ≤ 30) (hf : ∀ i : Int, 0 ≤ i → i ≤ n → 0 ≤ f i ∧ f i ≤ A) : 0 ≤ zrow U P f n ∧ zrow U P f n ≤ 31 * (A * U ^ n) ∧ A * U ^ n ≤ 1000000 * 120000 ^ 30 := by
  have a := zrow_nn (f := f) (U := U) (P := P) (by omega) (by omega) n (fun i x y => (hf i x y).1)
  have b := (zrow_b (f := f) (A := A) (U := U) (P := P) (M := U) (by omega) (by omega) hA.1 n (fun i x y => by have := hf i x y; omega)).1
  have p := zpow_pos (x := U) (by omega) n
  have q1 := zpw_le (a := U) (b := 120000) (by omega) hU n
  have q2 := zpow_le (b := 120000) (by decide) hn
  have c1 : ((n : Int) + 1) * A * U ^ n = ((n : Int) + 1) * (A * U ^ n) := Int.mul_assoc _ _ _
  have c0 : 0 ≤ A * U ^ n := Int.mul_nonneg hA.1 (by omega)
  have c2 : ((n : Int) + 1) * (A * U ^ n) ≤ 31 * (A * U ^ n) := Int.mul_le_mul_of_nonneg_right (by omega) c0
  have c3 : A * U ^ n ≤ 1000000 * U ^ n := Int.mul_le_mul_of_nonneg_right hA.2 (by omega)
  exact ⟨a, by omega, by omega⟩
theorem z30_b : (31 : Int) * (1000000 * 120000 ^ 30) * 1000000 * 1000000000 * 4 < 1073741824 ^ 35 ∧ (120000 : Int) ^ 30 < 1073741824 ^ 35 := by decide +kernel
theorem zB2_v : (1073741824 : Int) ^ 2 = 1152921504606846976 := by decide +kernel
/-- the sums in whole points -/
def zLs (f : Int → Int) (ags ag po : Int) : Int := zrow (100000 + po) 100000 (zlf f ag) (ags - 1 - ag).toNat
def zDs (f : Int → Int) (ags ag po : Int) : Int := zrow (100000 + po) 100000 (zdf f ags ag) (ags - ag).toNat
/-- the identity of errors(): what is paid on death, and the interest in advance for the life, are the sum -/
theorem zshare (U P : Int) (l d : Int → Int) (h0 : d 0 = 0) : ∀ m : Nat, (∀ k : Int, 1 ≤ k → k ≤ (m : Int) + 1 → d k = l (k - 1) - l k) → zrow U P d (m + 1) + (U - P) * zrow U P l m = l 0 * U ^ (m + 1) - l ((m : Int) + 1) * P ^ (m + 1)
  | 0, h => by
    have e := h 1 (by omega) (by omega)
    show d 0 * U + P ^ (0 + 1) * d (((0 : Nat) : Int) + 1) + (U - P) * l 0 = l 0 * U ^ (0 + 1) - l (((0 : Nat) : Int) + 1) * P ^ (0 + 1)
    rw [show ((0 : Nat) : Int) + 1 = 1 from rfl, e, h0, show (1 : Int) - 1 = 0 from rfl, Int.pow_succ, Int.pow_succ, Int.pow_zero, Int.pow_zero, Int.one_mul, Int.one_mul, Int.mul_sub, Int.sub_mul, Int.zero_mul, Int.mul_comm (l 0) U, Int.mul_comm (l 1) P]
    omega
  | m + 1, h => by
    have ih := zshare U P l d h0 m (fun k a b => h k a (by omega))
    have e := h ((m : Int) + 1 + 1) (by omega) (by omega)
    rw [show (m : Int) + 1 + 1 - 1 = (m : Int) + 1 by omega] at e
    rw [zrow_s U P d (m + 1), zrow_s U P l m, show ((m + 1 : Nat) : Int) + 1 = (m : Int) + 1 + 1 by omega, e]
    have x1 : zrow U P d (m + 1) * U + (U - P) * (zrow U P l m * U) = (l 0 * U ^ (m + 1) - l ((m : Int) + 1) * P ^ (m + 1)) * U := by
      rw [← ih, Int.add_mul, Int.mul_assoc]
    have x2 : (l 0 * U ^ (m + 1) - l ((m : Int) + 1) * P ^ (m + 1)) * U = l 0 * U ^ (m + 1 + 1) - P ^ (m + 1) * l ((m : Int) + 1) * U := by
      rw [Int.sub_mul, Int.pow_succ U (m + 1), Int.mul_assoc, Int.mul_comm (l ((m : Int) + 1))]
    have x3 : P ^ (m + 1 + 1) * (l ((m : Int) + 1) - l ((m : Int) + 1 + 1)) = P ^ (m + 1) * l ((m : Int) + 1) * P - l ((m : Int) + 1 + 1) * P ^ (m + 1 + 1) := by
      rw [Int.mul_sub, Int.mul_comm (P ^ (m + 1 + 1)) (l ((m : Int) + 1 + 1)), Int.pow_succ P (m + 1)]
      have : P ^ (m + 1) * P * l ((m : Int) + 1) = P ^ (m + 1) * l ((m : Int) + 1) * P := by ac_rfl
      omega
    have x4 : (U - P) * (zrow U P l m * U + P ^ (m + 1) * l ((m : Int) + 1)) = (U - P) * (zrow U P l m * U) + (P ^ (m + 1) * l ((m : Int) + 1) * U - P ^ (m + 1) * l ((m : Int) + 1) * P) := by
      rw [Int.mul_add, Int.sub_mul U P (P ^ (m + 1) * l ((m : Int) + 1)), Int.mul_comm U, Int.mul_comm P (P ^ (m + 1) * l ((m : Int) + 1))]
    rw [x3, x4]
    omega
/-- what a worth for lives stands on -/
theorem zlw_b {T D A U mo : Int} {n : Nat} (hT : 0 ≤ T ∧ T ≤ 31 * (A * U ^ n) ∧ A * U ^ n ≤ 1000000 * 120000 ^ 30) (hA : 1 ≤ A) (hU : 1 ≤ U) (hm : 0 ≤ mo ∧ mo ≤ 1000000000) (hD : D = A * U ^ n) :
    0 < D ∧ D < 1073741824 ^ 35 ∧ T < 1073741824 ^ 35 ∧ ((T * mo).natAbs : Int) < 1073741824 ^ 35 ∧ ((T * mo).natAbs : Int) < D * 1073741824 ^ 2 := by
  have p := zpow_pos (x := U) hU n
  have d0 : 0 < A * U ^ n := Int.mul_pos (by omega) (by omega)
  have m0 := Int.mul_nonneg hT.1 hm.1
  have m1 : T * mo ≤ T * 1000000000 := Int.mul_le_mul_of_nonneg_left hm.2 hT.1
  have z := z30_b
  rw [zB2_v, hD]
  exact ⟨d0, by omega, by omega, by omega, by omega⟩
theorem zlok.T {f : Int → Int} {ags ag po : Int} (h : zlok f ags) (ha : 0 ≤ ag ∧ ag < ags) (hp : 0 ≤ po ∧ po ≤ 20000) : 0 ≤ zrow (zqu po) (zqd po) (zlf f ag) (ags - 1 - ag).toNat ∧ zrow (zqu po) (zqd po) (zlf f ag) (ags - 1 - ag).toNat ≤ 31 * (f ag * zqu po ^ (ags - 1 - ag).toNat) ∧ f ag * zqu po ^ (ags - 1 - ag).toNat ≤ 1000000 * 120000 ^ 30 := by
  have r := zq_rng hp
  have q := h.2.1 ag ha.1 ha.2
  have h1 := h.1
  exact zlv_b ⟨r.1, r.2.2.1⟩ r.2.2.2 (by omega) _ (by omega) (fun i a b => by have := h.lf ha (ags - 1 - ag).toNat (by omega) i a b; omega)
theorem zlok.TD {f : Int → Int} {ags ag po : Int} (h : zlok f ags) (ha : 0 ≤ ag ∧ ag < ags) (hp : 0 ≤ po ∧ po ≤ 20000) : 0 ≤ zrow (zqu po) (zqd po) (zdf f ags ag) (ags - ag).toNat ∧ zrow (zqu po) (zqd po) (zdf f ags ag) (ags - ag).toNat ≤ 31 * (f ag * zqu po ^ (ags - ag).toNat) ∧ f ag * zqu po ^ (ags - ag).toNat ≤ 1000000 * 120000 ^ 30 := by
  have r := zq_rng hp
  have q := h.2.1 ag ha.1 ha.2
  have h1 := h.1
  exact zlv_b ⟨r.1, r.2.2.1⟩ r.2.2.2 (by omega) _ (by omega) (h.df ha (ags - ag).toNat (by omega))
theorem zlok.lo {f : Int → Int} {ags ag po : Int} (h : zlok f ags) (ha : 0 ≤ ag ∧ ag < ags) (hp : 0 ≤ po ∧ po ≤ 20000) : f ag * zqu po ^ (ags - 1 - ag).toNat ≤ zrow (zqu po) (zqd po) (zlf f ag) (ags - 1 - ag).toNat := by
  have r := zq_rng hp
  have a := zrow_lo (U := zqu po) (P := zqd po) (f := zlf f ag) (by omega) (by omega) (ags - 1 - ag).toNat (fun i a b => by have := h.lf ha (ags - 1 - ag).toNat (by omega) i a b; omega)
  have e : zlf f ag 0 = f ag := by unfold zlf; rw [Int.add_zero]
  rw [e] at a
  exact a
theorem zlw_g {md T N mo A po : Int} {n : Nat} (hN : N = T * zgc po ^ n) (h0 : 0 < A * zqu po ^ n) : zrd md (T * mo) (A * zqu po ^ n) = zrd md (N * mo) (A * (100000 + po) ^ n) ∧ (T * mo % (A * zqu po ^ n) = 0 ↔ N * mo % (A * (100000 + po) ^ n) = 0) := by
  have g0 := zpow_pos (x := zgc po) (zgc_pos po) n
  have e1 : N * mo = T * mo * zgc po ^ n := by rw [hN]; ac_rfl
  have e2 : A * (100000 + po) ^ n = A * zqu po ^ n * zgc po ^ n := by rw [zq_gn, Int.mul_assoc]
  rw [e1, e2]
  exact ⟨(zrd_g md _ h0 (by omega)).symm, (zex_g _ h0 (by omega)).symm⟩
theorem zpr_g {md TD TL D L mo po : Int} {n m : Nat} (hD : D = TD * zgc po ^ m) (hL : L = TL * zgc po ^ n) (hm : m = n + 1) (h0 : 0 < TL * zqu po) : zrd md (TD * mo) (TL * zqu po) = zrd md (D * mo) (L * (100000 + po)) ∧ (TD * mo % (TL * zqu po) = 0 ↔ D * mo % (L * (100000 + po)) = 0) := by
  have g0 := zpow_pos (x := zgc po) (zgc_pos po) m
  have e1 : D * mo = TD * mo * zgc po ^ m := by rw [hD]; ac_rfl
  have e2 : L * (100000 + po) = TL * zqu po * zgc po ^ m := by
    rw [hL, hm, Int.pow_succ, ← (zfr_q po).2.1]; ac_rfl
  rw [e1, e2]
  exact ⟨(zrd_g md _ h0 (by omega)).symm, (zex_g _ h0 (by omega)).symm⟩
/-- what must be kept -/
def zkp (f : Int → Int) (ags ag ye po : Int) : Int := zLs f ags ag po * f (ag + ye) - zLs f ags (ag + ye) po * f ag * (100000 + po) ^ ye.toNat
theorem zkp_g {md T1 T2 mo po a1 a2 L1 L2 : Int} {n1 n2 y : Nat} (h1 : L1 = T1 * zgc po ^ n1) (h2 : L2 = T2 * zgc po ^ n2) (hn : n1 = n2 + y) (h0 : 0 < T1 * a2) :
    zrd md ((T2 * a1 * zqu po ^ y * -1 + T1 * a2 * 1073741824 ^ (0 : Int).toNat * 1) * mo) (T1 * a2) = zrd md ((L1 * a2 - L2 * a1 * (100000 + po) ^ y) * mo) (L1 * a2) ∧ ((T2 * a1 * zqu po ^ y * -1 + T1 * a2 * 1073741824 ^ (0 : Int).toNat * 1) * mo % (T1 * a2) = 0 ↔ (L1 * a2 - L2 * a1 * (100000 + po) ^ y) * mo % (L1 * a2) = 0) := by
  have g0 := zpow_pos (x := zgc po) (zgc_pos po) n1
  have e0 : T2 * a1 * zqu po ^ y * -1 + T1 * a2 * 1073741824 ^ (0 : Int).toNat * 1 = T1 * a2 - T2 * a1 * zqu po ^ y := by
    show T2 * a1 * zqu po ^ y * -1 + T1 * a2 * 1073741824 ^ 0 * 1 = _
    rw [Int.pow_zero]; omega
  have e1 : L1 * a2 = T1 * a2 * zgc po ^ n1 := by rw [h1]; ac_rfl
  have e2 : L2 * a1 * (100000 + po) ^ y = T2 * a1 * zqu po ^ y * zgc po ^ n1 := by rw [h2, zq_gn, hn, Int.pow_add]; ac_rfl
  have e3 : (L1 * a2 - L2 * a1 * (100000 + po) ^ y) * mo = (T1 * a2 - T2 * a1 * zqu po ^ y) * mo * zgc po ^ n1 := by
    rw [e1, e2, ← Int.sub_mul]; ac_rfl
  rw [e0, e3, e1]
  exact ⟨(zrd_g md _ h0 (by omega)).symm, (zex_g _ h0 (by omega)).symm⟩
def rm_c_X2_init : Room := { frames := 3, cells := 15, slots := 300, locals := 52 }
theorem iw_X2_init_X1 : ∀ w ∈ wsX10, w ∈ wsX2_init := by decide +kernel
theorem iw_X2_init_X2 : ∀ w ∈ wsX20, w ∈ wsX2_init := by decide +kernel
set_option maxHeartbeats 1000000 in
set_option maxRecDepth 100000 in
theorem c_X2_init (l : Launch) (G : zG) (y : Nat)  : zM l G yX2_init wsX2_init rm_c_X2_init [.ref y] [(y, .inr (3, [.null, .null, .null, .int (iz (0))]))] (fun A => zQv G (fun (u : (Nat × Nat × Nat × Nat × Nat × Nat × Nat × Nat × Nat × Nat × Nat × Nat × Nat × Nat × Nat)) => True) (fun (u : (Nat × Nat × Nat × Nat × Nat × Nat × Nat × Nat × Nat × Nat × Nat × Nat × Nat × Nat × Nat)) => [(y, .inr (3, [.ref u.1, .ref u.2.1, .ref u.2.2.2.2.2.2.2.2.1, .int (iz (0))])), (u.1, zaI (G.2 1) 30 (fun _ => 0)), (u.2.1, .inr (2, [.ref u.2.2.1, .ref u.2.2.2.2.1, .ref u.2.2.2.2.2.2.1, .long (lz (1)), .long (lz (1)), .int (iz (0))])), (u.2.2.1, .inr (9, [.ref u.2.2.2.1, .int (iz (0)), .long (lz (0))])), (u.2.2.2.1, zaL (G.2 0) 40 (fun _ => 0)), (u.2.2.2.2.1, .inr (9, [.ref u.2.2.2.2.2.1, .int (iz (0)), .long (lz (0))])), (u.2.2.2.2.2.1, zaL (G.2 0) 40 (fun _ => 0)), (u.2.2.2.2.2.2.1, .inr (9, [.ref u.2.2.2.2.2.2.2.1, .int (iz (0)), .long (lz (0))])), (u.2.2.2.2.2.2.2.1, zaL (G.2 0) 40 (fun _ => 0)), (u.2.2.2.2.2.2.2.2.1, .inr (2, [.ref u.2.2.2.2.2.2.2.2.2.1, .ref u.2.2.2.2.2.2.2.2.2.2.2.1, .ref u.2.2.2.2.2.2.2.2.2.2.2.2.2.1, .long (lz (1)), .long (lz (1)), .int (iz (0))])), (u.2.2.2.2.2.2.2.2.2.1, .inr (9, [.ref u.2.2.2.2.2.2.2.2.2.2.1, .int (iz (0)), .long (lz (0))])), (u.2.2.2.2.2.2.2.2.2.2.1, zaL (G.2 0) 40 (fun _ => 0)), (u.2.2.2.2.2.2.2.2.2.2.2.1, .inr (9, [.ref u.2.2.2.2.2.2.2.2.2.2.2.2.1, .int (iz (0)), .long (lz (0))])), (u.2.2.2.2.2.2.2.2.2.2.2.2.1, zaL (G.2 0) 40 (fun _ => 0)), (u.2.2.2.2.2.2.2.2.2.2.2.2.2.1, .inr (9, [.ref u.2.2.2.2.2.2.2.2.2.2.2.2.2.2, .int (iz (0)), .long (lz (0))])), (u.2.2.2.2.2.2.2.2.2.2.2.2.2.2, zaL (G.2 0) 40 (fun _ => 0))]) A) 15 300 := by
  refine zM_of (cc := cX2_init) (maxL := 1) (ret := none) (by decide) rfl (Nat.le_of_ble_eq_true rfl) ?_
  intro p e s m below meth c ls A Q hQ hx hb hr hts hown hlocks hml hnm hKX hP hD hA hS hl
  have hK := hKX.1
  have iwX1 := iw_X2_init_X1
  have iwX2 := iw_X2_init_X2
  obtain ⟨H, hH⟩ : ∃ h, h = s.heap := ⟨_, rfl⟩
  obtain ⟨locs, hlo⟩ : ∃ h : List Loc, h = [] := ⟨_, rfl⟩
  have hS : va_S A s.heap H locs := by rw [hH, hlo]; exact hS
  have hP : va_P G.1 vwCl [(y, .inr (3, [.null, .null, .null, .int (iz (0))]))] H := by rw [hH]; exact hP
  have hD : va_D A [(y, .inr (3, [.null, .null, .null, .int (iz (0))]))] := hD
  have hl : lv_has ls 1 [(0, .ref y)] := hl
  rw [← hH, ← hlo]
  refine lv_aload_n hx hb dX2_init_0 rfl (lv_at hl 0 rfl) ?_
  refine W.objInit hx hb hown (hts (.methodLink RX2 3 objectInit) (by decide +kernel)) (hts (.instanceMethod objectInit) (by decide +kernel)) (hts (.code objectInit ⟨#[0xb1]⟩ 1 none) (by decide +kernel)) rfl (by rw [hml]; exact hl.1) rfl dX2_init_1 (Nat.le_of_ble_eq_true rfl) (Nat.le_of_ble_eq_true rfl) ?_
  refine lv_aload_n hx hb dX2_init_4 rfl (lv_at hl 0 rfl) ?_
  refine lv_bipush (v := iz (30)) hx hb dX2_init_5 rfl ?_
  refine zr_newaI (G := G) (n := 30) (N := 30) hx hb (hts (.arrayClass .int) (by decide +kernel)) hK hP hD hS hA (by omega) (by omega) (by omega) (by first | exact Nat.le_of_ble_eq_true rfl | (show _ ≤ (15 : Nat); omega)) (by first | exact Nat.le_of_ble_eq_true rfl | (show _ ≤ (300 : Nat); omega)) dX2_init_7 (fun lv H hP hD hS => ?_)
  have hP : va_P G.1 vwCl [(y, .inr (3, [.null, .null, .null, .int (iz (0))])), (lv, zaI (G.2 1) 30 (fun _ => 0))] H := hP
  have hD : va_D A [(y, .inr (3, [.null, .null, .null, .int (iz (0))])), (lv, zaI (G.2 1) 30 (fun _ => 0))] := hD
  refine va_putF (D := G.1) (ci := 3) (v := .ref lv) (ty := (.array .int)) (C := RX2) (T := TX2) (N := 4) hx hb hts iwX2 tyX2 tyX2_ok nmX2 hown hK hP hD hS 0 rfl rfl 0 (by decide) (hts (.fieldLink RX2 9 "AnnuityHouse$Lives" "left" "[I") (by decide +kernel)) (fun _ h9 => h9) rfl hnm rfl (by decide +kernel) rfl rfl (Nat.le_of_ble_eq_true rfl) dX2_init_9 (fun H locs hP hD hS => ?_)
  have hP : va_P G.1 vwCl [(y, .inr (3, [.ref lv, .null, .null, .int (iz (0))])), (lv, zaI (G.2 1) 30 (fun _ => 0))] H := hP
  have hD : va_D A [(y, .inr (3, [.ref lv, .null, .null, .int (iz (0))])), (lv, zaI (G.2 1) 30 (fun _ => 0))] := hD
  refine lv_aload_n hx hb dX2_init_12 rfl (lv_at hl 0 rfl) ?_
  refine va_new (D := G.1) (ci := 2) (fs := [.null, .null, .null, .long 0, .long 0, .int 0]) (C := RX1) (T := TX1) (N := 6) hx hb hts iwX1 tyX1 tyX1_ok hown (hts (.classLink RX2 15 RX1) (by decide +kernel)) (hts (.instantiable RX1 6) (by decide +kernel)) (hts (.initialized RX1) (by decide +kernel)) hK hP hD hS hA rfl (by decide +kernel) (by first | exact Nat.le_of_ble_eq_true rfl | (show _ ≤ (15 : Nat); omega)) (by first | exact Nat.le_of_ble_eq_true rfl | (show _ ≤ (300 : Nat); omega)) dX2_init_13 (fun q H hP hD hS => ?_)
  have hP : va_P G.1 vwCl [(y, .inr (3, [.ref lv, .null, .null, .int (iz (0))])), (lv, zaI (G.2 1) 30 (fun _ => 0)), (q, .inr (2, [.null, .null, .null, .long (lz (0)), .long (lz (0)), .int (iz (0))]))] H := hP
  have hD : va_D A [(y, .inr (3, [.ref lv, .null, .null, .int (iz (0))])), (lv, zaI (G.2 1) 30 (fun _ => 0)), (q, .inr (2, [.null, .null, .null, .long (lz (0)), .long (lz (0)), .int (iz (0))]))] := hD
  refine lv_dup hx hb dX2_init_16 rfl ?_
  refine zc_v (wr := [(y, .inr (3, [.ref lv, .null, .null, .int (iz (0))])), (lv, zaI (G.2 1) 30 (fun _ => 0))]) (va_runIN (As := []) (rest := [.ref q, .ref y]) ⟨hx, hb, hml, hown, hts⟩ (c_X1_init l G q  H.size) ⟨va_cnB 0 hts gX2_init_X1_init_n17 rfl rfl rfl (hKX.2.2.2 (.methodLinkNest "AnnuityHouse$Lives" 17 ⟨"AnnuityHouse$Flow", "<init>", "()V"⟩ "AnnuityHouse") (by decide +kernel)) (hts (.initialized RX1) (by decide +kernel)) (by decide +kernel) ⟨Nat.le_of_ble_eq_true rfl, Nat.le_of_ble_eq_true rfl⟩, rfl, hts (.instanceMethod yX1_init) (by decide +kernel)⟩ (zpS hKX hP hD [2] rfl rfl) rfl rfl hl.1 rfl (lv_room (Nat.le_of_ble_eq_true rfl)) dX2_init_17 ⟨(by first | exact Nat.le_of_ble_eq_true rfl | (show _ ≤ (15 : Nat); omega)), (by first | exact Nat.le_of_ble_eq_true rfl | (show _ ≤ (300 : Nat); omega))⟩) hP hD hS hA [2] [0, 1] rfl rfl rfl (by decide) (fun u_2 H locs t1 hP hD hS => ?_)
  obtain ⟨sa, sb, da, db, wa, wb⟩ := u_2
  have hP : va_P G.1 vwCl [(y, .inr (3, [.ref lv, .null, .null, .int (iz (0))])), (lv, zaI (G.2 1) 30 (fun _ => 0)), (q, .inr (2, [.ref sa, .ref da, .ref wa, .long (lz (1)), .long (lz (1)), .int (iz (0))])), (sa, .inr (9, [.ref sb, .int (iz (0)), .long (lz (0))])), (sb, zaL (G.2 0) 40 (fun _ => 0)), (da, .inr (9, [.ref db, .int (iz (0)), .long (lz (0))])), (db, zaL (G.2 0) 40 (fun _ => 0)), (wa, .inr (9, [.ref wb, .int (iz (0)), .long (lz (0))])), (wb, zaL (G.2 0) 40 (fun _ => 0))] H := hP
  have hD : va_D A [(y, .inr (3, [.ref lv, .null, .null, .int (iz (0))])), (lv, zaI (G.2 1) 30 (fun _ => 0)), (q, .inr (2, [.ref sa, .ref da, .ref wa, .long (lz (1)), .long (lz (1)), .int (iz (0))])), (sa, .inr (9, [.ref sb, .int (iz (0)), .long (lz (0))])), (sb, zaL (G.2 0) 40 (fun _ => 0)), (da, .inr (9, [.ref db, .int (iz (0)), .long (lz (0))])), (db, zaL (G.2 0) 40 (fun _ => 0)), (wa, .inr (9, [.ref wb, .int (iz (0)), .long (lz (0))])), (wb, zaL (G.2 0) 40 (fun _ => 0))] := hD
  refine va_putF (D := G.1) (ci := 3) (v := .ref q) (ty := (.object "AnnuityHouse$Flow")) (C := RX2) (T := TX2) (N := 4) hx hb hts iwX2 tyX2 tyX2_ok nmX2 hown hK hP hD hS 0 rfl rfl 1 (by decide) (hts (.fieldLink RX2 18 "AnnuityHouse$Lives" "flow" "LAnnuityHouse$Flow;") (by decide +kernel)) (fun _ h9 => h9) rfl hnm rfl (by decide +kernel) rfl rfl (Nat.le_of_ble_eq_true rfl) dX2_init_20 (fun H locs hP hD hS => ?_)
  have hP : va_P G.1 vwCl [(y, .inr (3, [.ref lv, .ref q, .null, .int (iz (0))])), (lv, zaI (G.2 1) 30 (fun _ => 0)), (q, .inr (2, [.ref sa, .ref da, .ref wa, .long (lz (1)), .long (lz (1)), .int (iz (0))])), (sa, .inr (9, [.ref sb, .int (iz (0)), .long (lz (0))])), (sb, zaL (G.2 0) 40 (fun _ => 0)), (da, .inr (9, [.ref db, .int (iz (0)), .long (lz (0))])), (db, zaL (G.2 0) 40 (fun _ => 0)), (wa, .inr (9, [.ref wb, .int (iz (0)), .long (lz (0))])), (wb, zaL (G.2 0) 40 (fun _ => 0))] H := hP
  have hD : va_D A [(y, .inr (3, [.ref lv, .ref q, .null, .int (iz (0))])), (lv, zaI (G.2 1) 30 (fun _ => 0)), (q, .inr (2, [.ref sa, .ref da, .ref wa, .long (lz (1)), .long (lz (1)), .int (iz (0))])), (sa, .inr (9, [.ref sb, .int (iz (0)), .long (lz (0))])), (sb, zaL (G.2 0) 40 (fun _ => 0)), (da, .inr (9, [.ref db, .int (iz (0)), .long (lz (0))])), (db, zaL (G.2 0) 40 (fun _ => 0)), (wa, .inr (9, [.ref wb, .int (iz (0)), .long (lz (0))])), (wb, zaL (G.2 0) 40 (fun _ => 0))] := hD
  refine lv_aload_n hx hb dX2_init_23 rfl (lv_at hl 0 rfl) ?_
  refine va_new (D := G.1) (ci := 2) (fs := [.null, .null, .null, .long 0, .long 0, .int 0]) (C := RX1) (T := TX1) (N := 6) hx hb hts iwX1 tyX1 tyX1_ok hown (hts (.classLink RX2 15 RX1) (by decide +kernel)) (hts (.instantiable RX1 6) (by decide +kernel)) (hts (.initialized RX1) (by decide +kernel)) hK hP hD hS hA rfl (by decide +kernel) (by first | exact Nat.le_of_ble_eq_true rfl | (show _ ≤ (15 : Nat); omega)) (by first | exact Nat.le_of_ble_eq_true rfl | (show _ ≤ (300 : Nat); omega)) dX2_init_24 (fun bq H hP hD hS => ?_)
  have hP : va_P G.1 vwCl [(y, .inr (3, [.ref lv, .ref q, .null, .int (iz (0))])), (lv, zaI (G.2 1) 30 (fun _ => 0)), (q, .inr (2, [.ref sa, .ref da, .ref wa, .long (lz (1)), .long (lz (1)), .int (iz (0))])), (sa, .inr (9, [.ref sb, .int (iz (0)), .long (lz (0))])), (sb, zaL (G.2 0) 40 (fun _ => 0)), (da, .inr (9, [.ref db, .int (iz (0)), .long (lz (0))])), (db, zaL (G.2 0) 40 (fun _ => 0)), (wa, .inr (9, [.ref wb, .int (iz (0)), .long (lz (0))])), (wb, zaL (G.2 0) 40 (fun _ => 0)), (bq, .inr (2, [.null, .null, .null, .long (lz (0)), .long (lz (0)), .int (iz (0))]))] H := hP
  have hD : va_D A [(y, .inr (3, [.ref lv, .ref q, .null, .int (iz (0))])), (lv, zaI (G.2 1) 30 (fun _ => 0)), (q, .inr (2, [.ref sa, .ref da, .ref wa, .long (lz (1)), .long (lz (1)), .int (iz (0))])), (sa, .inr (9, [.ref sb, .int (iz (0)), .long (lz (0))])), (sb, zaL (G.2 0) 40 (fun _ => 0)), (da, .inr (9, [.ref db, .int (iz (0)), .long (lz (0))])), (db, zaL (G.2 0) 40 (fun _ => 0)), (wa, .inr (9, [.ref wb, .int (iz (0)), .long (lz (0))])), (wb, zaL (G.2 0) 40 (fun _ => 0)), (bq, .inr (2, [.null, .null, .null, .long (lz (0)), .long (lz (0)), .int (iz (0))]))] := hD
  refine lv_dup hx hb dX2_init_27 rfl ?_
  refine zc_v (wr := [(y, .inr (3, [.ref lv, .ref q, .null, .int (iz (0))])), (lv, zaI (G.2 1) 30 (fun _ => 0)), (q, .inr (2, [.ref sa, .ref da, .ref wa, .long (lz (1)), .long (lz (1)), .int (iz (0))])), (sa, .inr (9, [.ref sb, .int (iz (0)), .long (lz (0))])), (sb, zaL (G.2 0) 40 (fun _ => 0)), (da, .inr (9, [.ref db, .int (iz (0)), .long (lz (0))])), (db, zaL (G.2 0) 40 (fun _ => 0)), (wa, .inr (9, [.ref wb, .int (iz (0)), .long (lz (0))])), (wb, zaL (G.2 0) 40 (fun _ => 0))]) (va_runIN (As := []) (rest := [.ref bq, .ref y]) ⟨hx, hb, hml, hown, hts⟩ (c_X1_init l G bq  H.size) ⟨va_cnB 0 hts gX2_init_X1_init_n17 rfl rfl rfl (hKX.2.2.2 (.methodLinkNest "AnnuityHouse$Lives" 17 ⟨"AnnuityHouse$Flow", "<init>", "()V"⟩ "AnnuityHouse") (by decide +kernel)) (hts (.initialized RX1) (by decide +kernel)) (by decide +kernel) ⟨Nat.le_of_ble_eq_true rfl, Nat.le_of_ble_eq_true rfl⟩, rfl, hts (.instanceMethod yX1_init) (by decide +kernel)⟩ (zpS hKX hP hD [9] rfl rfl) rfl rfl hl.1 rfl (lv_room (Nat.le_of_ble_eq_true rfl)) dX2_init_28 ⟨(by first | exact Nat.le_of_ble_eq_true rfl | (show _ ≤ (15 : Nat); omega)), (by first | exact Nat.le_of_ble_eq_true rfl | (show _ ≤ (300 : Nat); omega))⟩) hP hD hS hA [9] [0, 1, 2, 3, 4, 5, 6, 7, 8] rfl rfl rfl (by decide) (fun u_5 H locs t2 hP hD hS => ?_)
  obtain ⟨bsa, bsb, bda, bdb, bwa, bwb⟩ := u_5
  have hP : va_P G.1 vwCl [(y, .inr (3, [.ref lv, .ref q, .null, .int (iz (0))])), (lv, zaI (G.2 1) 30 (fun _ => 0)), (q, .inr (2, [.ref sa, .ref da, .ref wa, .long (lz (1)), .long (lz (1)), .int (iz (0))])), (sa, .inr (9, [.ref sb, .int (iz (0)), .long (lz (0))])), (sb, zaL (G.2 0) 40 (fun _ => 0)), (da, .inr (9, [.ref db, .int (iz (0)), .long (lz (0))])), (db, zaL (G.2 0) 40 (fun _ => 0)), (wa, .inr (9, [.ref wb, .int (iz (0)), .long (lz (0))])), (wb, zaL (G.2 0) 40 (fun _ => 0)), (bq, .inr (2, [.ref bsa, .ref bda, .ref bwa, .long (lz (1)), .long (lz (1)), .int (iz (0))])), (bsa, .inr (9, [.ref bsb, .int (iz (0)), .long (lz (0))])), (bsb, zaL (G.2 0) 40 (fun _ => 0)), (bda, .inr (9, [.ref bdb, .int (iz (0)), .long (lz (0))])), (bdb, zaL (G.2 0) 40 (fun _ => 0)), (bwa, .inr (9, [.ref bwb, .int (iz (0)), .long (lz (0))])), (bwb, zaL (G.2 0) 40 (fun _ => 0))] H := hP
  have hD : va_D A [(y, .inr (3, [.ref lv, .ref q, .null, .int (iz (0))])), (lv, zaI (G.2 1) 30 (fun _ => 0)), (q, .inr (2, [.ref sa, .ref da, .ref wa, .long (lz (1)), .long (lz (1)), .int (iz (0))])), (sa, .inr (9, [.ref sb, .int (iz (0)), .long (lz (0))])), (sb, zaL (G.2 0) 40 (fun _ => 0)), (da, .inr (9, [.ref db, .int (iz (0)), .long (lz (0))])), (db, zaL (G.2 0) 40 (fun _ => 0)), (wa, .inr (9, [.ref wb, .int (iz (0)), .long (lz (0))])), (wb, zaL (G.2 0) 40 (fun _ => 0)), (bq, .inr (2, [.ref bsa, .ref bda, .ref bwa, .long (lz (1)), .long (lz (1)), .int (iz (0))])), (bsa, .inr (9, [.ref bsb, .int (iz (0)), .long (lz (0))])), (bsb, zaL (G.2 0) 40 (fun _ => 0)), (bda, .inr (9, [.ref bdb, .int (iz (0)), .long (lz (0))])), (bdb, zaL (G.2 0) 40 (fun _ => 0)), (bwa, .inr (9, [.ref bwb, .int (iz (0)), .long (lz (0))])), (bwb, zaL (G.2 0) 40 (fun _ => 0))] := hD
  refine va_putF (D := G.1) (ci := 3) (v := .ref bq) (ty := (.object "AnnuityHouse$Flow")) (C := RX2) (T := TX2) (N := 4) hx hb hts iwX2 tyX2 tyX2_ok nmX2 hown hK hP hD hS 0 rfl rfl 2 (by decide) (hts (.fieldLink RX2 22 "AnnuityHouse$Lives" "otherFlow" "LAnnuityHouse$Flow;") (by decide +kernel)) (fun _ h9 => h9) rfl hnm rfl (by decide +kernel) rfl rfl (Nat.le_of_ble_eq_true rfl) dX2_init_31 (fun H locs hP hD hS => ?_)
  have hP : va_P G.1 vwCl [(y, .inr (3, [.ref lv, .ref q, .ref bq, .int (iz (0))])), (lv, zaI (G.2 1) 30 (fun _ => 0)), (q, .inr (2, [.ref sa, .ref da, .ref wa, .long (lz (1)), .long (lz (1)), .int (iz (0))])), (sa, .inr (9, [.ref sb, .int (iz (0)), .long (lz (0))])), (sb, zaL (G.2 0) 40 (fun _ => 0)), (da, .inr (9, [.ref db, .int (iz (0)), .long (lz (0))])), (db, zaL (G.2 0) 40 (fun _ => 0)), (wa, .inr (9, [.ref wb, .int (iz (0)), .long (lz (0))])), (wb, zaL (G.2 0) 40 (fun _ => 0)), (bq, .inr (2, [.ref bsa, .ref bda, .ref bwa, .long (lz (1)), .long (lz (1)), .int (iz (0))])), (bsa, .inr (9, [.ref bsb, .int (iz (0)), .long (lz (0))])), (bsb, zaL (G.2 0) 40 (fun _ => 0)), (bda, .inr (9, [.ref bdb, .int (iz (0)), .long (lz (0))])), (bdb, zaL (G.2 0) 40 (fun _ => 0)), (bwa, .inr (9, [.ref bwb, .int (iz (0)), .long (lz (0))])), (bwb, zaL (G.2 0) 40 (fun _ => 0))] H := hP
  have hD : va_D A [(y, .inr (3, [.ref lv, .ref q, .ref bq, .int (iz (0))])), (lv, zaI (G.2 1) 30 (fun _ => 0)), (q, .inr (2, [.ref sa, .ref da, .ref wa, .long (lz (1)), .long (lz (1)), .int (iz (0))])), (sa, .inr (9, [.ref sb, .int (iz (0)), .long (lz (0))])), (sb, zaL (G.2 0) 40 (fun _ => 0)), (da, .inr (9, [.ref db, .int (iz (0)), .long (lz (0))])), (db, zaL (G.2 0) 40 (fun _ => 0)), (wa, .inr (9, [.ref wb, .int (iz (0)), .long (lz (0))])), (wb, zaL (G.2 0) 40 (fun _ => 0)), (bq, .inr (2, [.ref bsa, .ref bda, .ref bwa, .long (lz (1)), .long (lz (1)), .int (iz (0))])), (bsa, .inr (9, [.ref bsb, .int (iz (0)), .long (lz (0))])), (bsb, zaL (G.2 0) 40 (fun _ => 0)), (bda, .inr (9, [.ref bdb, .int (iz (0)), .long (lz (0))])), (bdb, zaL (G.2 0) 40 (fun _ => 0)), (bwa, .inr (9, [.ref bwb, .int (iz (0)), .long (lz (0))])), (bwb, zaL (G.2 0) 40 (fun _ => 0))] := hD
  refine lv_aload_n hx hb dX2_init_34 rfl (lv_at hl 0 rfl) ?_
  refine lv_iconst (v := iz (0)) hx hb dX2_init_35 rfl ?_
  refine va_put (D := G.1) (ci := 3) (v := .int (iz (0))) (ty := .int) (C := RX2) (T := TX2) (N := 4) hx hb hts iwX2 tyX2 tyX2_ok nmX2 hown hK hP hD hS 0 rfl rfl 3 (by decide) (hts (.fieldLink RX2 25 "AnnuityHouse$Lives" "ages" "I") (by decide +kernel)) (fun _ h9 => h9) rfl (by decide +kernel) rfl rfl (Nat.le_of_ble_eq_true rfl) dX2_init_36 (fun H locs hP hD hS => ?_)
  have hP : va_P G.1 vwCl [(y, .inr (3, [.ref lv, .ref q, .ref bq, .int (iz (0))])), (lv, zaI (G.2 1) 30 (fun _ => 0)), (q, .inr (2, [.ref sa, .ref da, .ref wa, .long (lz (1)), .long (lz (1)), .int (iz (0))])), (sa, .inr (9, [.ref sb, .int (iz (0)), .long (lz (0))])), (sb, zaL (G.2 0) 40 (fun _ => 0)), (da, .inr (9, [.ref db, .int (iz (0)), .long (lz (0))])), (db, zaL (G.2 0) 40 (fun _ => 0)), (wa, .inr (9, [.ref wb, .int (iz (0)), .long (lz (0))])), (wb, zaL (G.2 0) 40 (fun _ => 0)), (bq, .inr (2, [.ref bsa, .ref bda, .ref bwa, .long (lz (1)), .long (lz (1)), .int (iz (0))])), (bsa, .inr (9, [.ref bsb, .int (iz (0)), .long (lz (0))])), (bsb, zaL (G.2 0) 40 (fun _ => 0)), (bda, .inr (9, [.ref bdb, .int (iz (0)), .long (lz (0))])), (bdb, zaL (G.2 0) 40 (fun _ => 0)), (bwa, .inr (9, [.ref bwb, .int (iz (0)), .long (lz (0))])), (bwb, zaL (G.2 0) 40 (fun _ => 0))] H := hP
  have hD : va_D A [(y, .inr (3, [.ref lv, .ref q, .ref bq, .int (iz (0))])), (lv, zaI (G.2 1) 30 (fun _ => 0)), (q, .inr (2, [.ref sa, .ref da, .ref wa, .long (lz (1)), .long (lz (1)), .int (iz (0))])), (sa, .inr (9, [.ref sb, .int (iz (0)), .long (lz (0))])), (sb, zaL (G.2 0) 40 (fun _ => 0)), (da, .inr (9, [.ref db, .int (iz (0)), .long (lz (0))])), (db, zaL (G.2 0) 40 (fun _ => 0)), (wa, .inr (9, [.ref wb, .int (iz (0)), .long (lz (0))])), (wb, zaL (G.2 0) 40 (fun _ => 0)), (bq, .inr (2, [.ref bsa, .ref bda, .ref bwa, .long (lz (1)), .long (lz (1)), .int (iz (0))])), (bsa, .inr (9, [.ref bsb, .int (iz (0)), .long (lz (0))])), (bsb, zaL (G.2 0) 40 (fun _ => 0)), (bda, .inr (9, [.ref bdb, .int (iz (0)), .long (lz (0))])), (bdb, zaL (G.2 0) 40 (fun _ => 0)), (bwa, .inr (9, [.ref bwb, .int (iz (0)), .long (lz (0))])), (bwb, zaL (G.2 0) 40 (fun _ => 0))] := hD
  rw [hQ]
  exact zr_vret (u := (lv, q, sa, sb, da, db, wa, wb, bq, bsa, bsb, bda, bdb, bwa, bwb)) hx hb hr hlocks hP hD hS (by first | exact Nat.le_of_ble_eq_true rfl | omega) (by first | exact Nat.le_of_ble_eq_true rfl | omega) dX2_init_39 (show True from trivial)

def rm_c_X2_mostLeftNext : Room := { frames := 0, cells := 0, slots := 0, locals := 0 }
theorem iw_X2_mostLeftNext_X2 : ∀ w ∈ wsX20, w ∈ wsX2_mostLeftNext := by decide +kernel
set_option maxHeartbeats 1000000 in
set_option maxRecDepth 100000 in
theorem c_X2_mostLeftNext (l : Launch) (G : zG) (y : Nat) (lv : Nat) (q : Nat) (bq : Nat) (f : Int → Int) (ags : Int) (hlv : zlok f ags) : zM l G yX2_mostLeftNext wsX2_mostLeftNext rm_c_X2_mostLeftNext [.ref y] [(y, .inr (3, [.ref lv, .ref q, .ref bq, .int (iz (ags))])), (lv, zaI (G.2 1) 30 (f))] (fun A => zQi G (fun (z : Int) (_ : Unit) => z = if ags = 0 then 1000000 else f (ags - 1)) (fun (_ : Unit) => [(y, .inr (3, [.ref lv, .ref q, .ref bq, .int (iz (ags))])), (lv, zaI (G.2 1) 30 (f))]) A) 0 0 := by
  refine zM_of (cc := cX2_mostLeftNext) (maxL := 1) (ret := (some .int)) (by decide) rfl (Nat.le_of_ble_eq_true rfl) ?_
  intro p e s m below meth c ls A Q hQ hx hb hr hts hown hlocks hml hnm hKX hP hD hA hS hl
  have hK := hKX.1
  have iwX2 := iw_X2_mostLeftNext_X2
  obtain ⟨H, hH⟩ : ∃ h, h = s.heap := ⟨_, rfl⟩
  obtain ⟨locs, hlo⟩ : ∃ h : List Loc, h = [] := ⟨_, rfl⟩
  have hS : va_S A s.heap H locs := by rw [hH, hlo]; exact hS
  have hP : va_P G.1 vwCl [(y, .inr (3, [.ref lv, .ref q, .ref bq, .int (iz (ags))])), (lv, zaI (G.2 1) 30 (f))] H := by rw [hH]; exact hP
  have hD : va_D A [(y, .inr (3, [.ref lv, .ref q, .ref bq, .int (iz (ags))])), (lv, zaI (G.2 1) 30 (f))] := hD
  have hl : lv_has ls 1 [(0, .ref y)] := hl
  rw [← hH, ← hlo]
  have hl1 := hlv.1
  refine lv_aload_n hx hb dX2_mostLeftNext_0 rfl (lv_at hl 0 rfl) ?_
  refine va_get (D := G.1) (ci := 3) (v := .int (iz (ags))) (C := RX2) (T := TX2) (N := 4) hx hb hts iwX2 hown hK hP 0 rfl rfl 3 (by decide) (hts (.fieldLink RX2 25 "AnnuityHouse$Lives" "ages" "I") (by decide +kernel)) (fun _ h9 => h9) rfl dX2_mostLeftNext_1 ?_
  refine zr_if_ne (x := ags) (tgt := 12) hx hb (⟨by omega, by omega⟩) dX2_mostLeftNext_4 (by decide) (fun h_1 => ?_) (fun h_1 => ?_)
  ·
    refine lv_aload_n hx hb dX2_mostLeftNext_12 rfl (lv_at hl 0 rfl) ?_
    refine va_get (D := G.1) (ci := 3) (v := .ref lv) (C := RX2) (T := TX2) (N := 4) hx hb hts iwX2 hown hK hP 0 rfl rfl 0 (by decide) (hts (.fieldLink RX2 9 "AnnuityHouse$Lives" "left" "[I") (by decide +kernel)) (fun _ h9 => h9) rfl dX2_mostLeftNext_13 ?_
    refine lv_aload_n hx hb dX2_mostLeftNext_16 rfl (lv_at hl 0 rfl) ?_
    refine va_get (D := G.1) (ci := 3) (v := .int (iz (ags))) (C := RX2) (T := TX2) (N := 4) hx hb hts iwX2 hown hK hP 0 rfl rfl 3 (by decide) (hts (.fieldLink RX2 25 "AnnuityHouse$Lives" "ages" "I") (by decide +kernel)) (fun _ h9 => h9) rfl dX2_mostLeftNext_17 ?_
    refine lv_iconst (v := iz (1)) hx hb dX2_mostLeftNext_20 rfl ?_
    refine zr_isub hx hb dX2_mostLeftNext_21 ?_
    refine zr_iald hx hb hK hP 1 1 rfl rfl (i := ags - 1) (⟨by omega, by omega, by omega⟩) dX2_mostLeftNext_22 ?_
    rw [hQ]
    exact zr_iret (z := f (ags - 1)) (u := ()) hx hb hr hlocks hP hD hS (by first | exact Nat.le_of_ble_eq_true rfl | omega) (by first | exact Nat.le_of_ble_eq_true rfl | omega) dX2_mostLeftNext_23 (show (f (ags - 1)) = if ags = 0 then 1000000 else f (ags - 1) from by first | exact (if_pos (by omega)).symm | exact (if_neg (by omega)).symm)
  ·
    refine zr_ldc (z := 1000000) hx hb hown (hts (.constant RX2 29 (1000000)) (by decide +kernel)) rfl dX2_mostLeftNext_7 ?_
    refine lv_goto (tgt := 23) hx hb dX2_mostLeftNext_9 (by decide) ?_
    rw [hQ]
    exact zr_iret (z := 1000000) (u := ()) hx hb hr hlocks hP hD hS (by first | exact Nat.le_of_ble_eq_true rfl | omega) (by first | exact Nat.le_of_ble_eq_true rfl | omega) dX2_mostLeftNext_23 (show 1000000 = if ags = 0 then 1000000 else f (ags - 1) from by first | exact (if_pos (by omega)).symm | exact (if_neg (by omega)).symm)

def rm_c_X2_add : Room := { frames := 0, cells := 0, slots := 0, locals := 0 }
theorem iw_X2_add_X2 : ∀ w ∈ wsX20, w ∈ wsX2_add := by decide +kernel
set_option maxHeartbeats 1000000 in
set_option maxRecDepth 100000 in
theorem c_X2_add (l : Launch) (G : zG) (y : Nat) (lv : Nat) (q : Nat) (bq : Nat) (f : Int → Int) (ags : Int) (x : Int) (h1 : 0 ≤ ags ∧ ags ≤ 29) : zM l G yX2_add wsX2_add rm_c_X2_add [.ref y, .int (iz (x))] [(y, .inr (3, [.ref lv, .ref q, .ref bq, .int (iz (ags))])), (lv, zaI (G.2 1) 30 (f))] (fun A => zQi G (fun (z : Int) (_ : Unit) => z = ags + 1) (fun (_ : Unit) => [(y, .inr (3, [.ref lv, .ref q, .ref bq, .int (iz (ags + 1))])), (lv, zaI (G.2 1) 30 (zup f ags x))]) A) 0 0 := by
  refine zM_of (cc := cX2_add) (maxL := 2) (ret := (some .int)) (by decide) rfl (Nat.le_of_ble_eq_true rfl) ?_
  intro p e s m below meth c ls A Q hQ hx hb hr hts hown hlocks hml hnm hKX hP hD hA hS hl
  have hK := hKX.1
  have iwX2 := iw_X2_add_X2
  obtain ⟨H, hH⟩ : ∃ h, h = s.heap := ⟨_, rfl⟩
  obtain ⟨locs, hlo⟩ : ∃ h : List Loc, h = [] := ⟨_, rfl⟩
  have hS : va_S A s.heap H locs := by rw [hH, hlo]; exact hS
  have hP : va_P G.1 vwCl [(y, .inr (3, [.ref lv, .ref q, .ref bq, .int (iz (ags))])), (lv, zaI (G.2 1) 30 (f))] H := by rw [hH]; exact hP
  have hD : va_D A [(y, .inr (3, [.ref lv, .ref q, .ref bq, .int (iz (ags))])), (lv, zaI (G.2 1) 30 (f))] := hD
  have hl : lv_has ls 2 [(0, .ref y), (1, .int (iz (x)))] := hl
  rw [← hH, ← hlo]
  refine lv_aload_n hx hb dX2_add_0 rfl (lv_at hl 0 rfl) ?_
  refine va_get (D := G.1) (ci := 3) (v := .ref lv) (C := RX2) (T := TX2) (N := 4) hx hb hts iwX2 hown hK hP 0 rfl rfl 0 (by decide) (hts (.fieldLink RX2 9 "AnnuityHouse$Lives" "left" "[I") (by decide +kernel)) (fun _ h9 => h9) rfl dX2_add_1 ?_
  refine lv_aload_n hx hb dX2_add_4 rfl (lv_at hl 0 rfl) ?_
  refine va_get (D := G.1) (ci := 3) (v := .int (iz (ags))) (C := RX2) (T := TX2) (N := 4) hx hb hts iwX2 hown hK hP 0 rfl rfl 3 (by decide) (hts (.fieldLink RX2 25 "AnnuityHouse$Lives" "ages" "I") (by decide +kernel)) (fun _ h9 => h9) rfl dX2_add_5 ?_
  refine lv_iload_n hx hb dX2_add_8 rfl (lv_at hl 1 rfl) ?_
  refine zr_iast hx hb hK hP hD hS 1 1 rfl rfl (i := ags) (x := x) (⟨by omega, by omega, by omega⟩) dX2_add_9 (fun H locs hP hD hS => ?_)
  have hP : va_P G.1 vwCl [(y, .inr (3, [.ref lv, .ref q, .ref bq, .int (iz (ags))])), (lv, zaI (G.2 1) 30 (zup f ags x))] H := hP
  have hD : va_D A [(y, .inr (3, [.ref lv, .ref q, .ref bq, .int (iz (ags))])), (lv, zaI (G.2 1) 30 (zup f ags x))] := hD
  refine lv_aload_n hx hb dX2_add_10 rfl (lv_at hl 0 rfl) ?_
  refine lv_dup hx hb dX2_add_11 rfl ?_
  refine va_get (D := G.1) (ci := 3) (v := .int (iz (ags))) (C := RX2) (T := TX2) (N := 4) hx hb hts iwX2 hown hK hP 0 rfl rfl 3 (by decide) (hts (.fieldLink RX2 25 "AnnuityHouse$Lives" "ages" "I") (by decide +kernel)) (fun _ h9 => h9) rfl dX2_add_12 ?_
  refine lv_iconst (v := iz (1)) hx hb dX2_add_15 rfl ?_
  refine zr_iadd hx hb dX2_add_16 ?_
  refine va_put (D := G.1) (ci := 3) (v := .int (iz (ags + 1))) (ty := .int) (C := RX2) (T := TX2) (N := 4) hx hb hts iwX2 tyX2 tyX2_ok nmX2 hown hK hP hD hS 0 rfl rfl 3 (by decide) (hts (.fieldLink RX2 25 "AnnuityHouse$Lives" "ages" "I") (by decide +kernel)) (fun _ h9 => h9) rfl (by decide +kernel) rfl rfl (Nat.le_of_ble_eq_true rfl) dX2_add_17 (fun H locs hP hD hS => ?_)
  have hP : va_P G.1 vwCl [(y, .inr (3, [.ref lv, .ref q, .ref bq, .int (iz (ags + 1))])), (lv, zaI (G.2 1) 30 (zup f ags x))] H := hP
  have hD : va_D A [(y, .inr (3, [.ref lv, .ref q, .ref bq, .int (iz (ags + 1))])), (lv, zaI (G.2 1) 30 (zup f ags x))] := hD
  refine lv_aload_n hx hb dX2_add_20 rfl (lv_at hl 0 rfl) ?_
  refine va_get (D := G.1) (ci := 3) (v := .int (iz (ags + 1))) (C := RX2) (T := TX2) (N := 4) hx hb hts iwX2 hown hK hP 0 rfl rfl 3 (by decide) (hts (.fieldLink RX2 25 "AnnuityHouse$Lives" "ages" "I") (by decide +kernel)) (fun _ h9 => h9) rfl dX2_add_21 ?_
  rw [hQ]
  exact zr_iret (z := ags + 1) (u := ()) hx hb hr hlocks hP hD hS (by first | exact Nat.le_of_ble_eq_true rfl | omega) (by first | exact Nat.le_of_ble_eq_true rfl | omega) dX2_add_24 (show (ags + 1) = ags + 1 from rfl)

def rm_c_X2_clear : Room := { frames := 0, cells := 0, slots := 0, locals := 0 }
theorem iw_X2_clear_X2 : ∀ w ∈ wsX20, w ∈ wsX2_clear := by decide +kernel
set_option maxHeartbeats 1000000 in
set_option maxRecDepth 100000 in
theorem c_X2_clear (l : Launch) (G : zG) (y : Nat) (lv : Nat) (q : Nat) (bq : Nat) (ags : Int)  : zM l G yX2_clear wsX2_clear rm_c_X2_clear [.ref y] [(y, .inr (3, [.ref lv, .ref q, .ref bq, .int (iz (ags))]))] (fun A => zQi G (fun (z : Int) (_ : Unit) => z = ags) (fun (_ : Unit) => [(y, .inr (3, [.ref lv, .ref q, .ref bq, .int (iz (0))]))]) A) 0 0 := by
  refine zM_of (cc := cX2_clear) (maxL := 2) (ret := (some .int)) (by decide) rfl (Nat.le_of_ble_eq_true rfl) ?_
  intro p e s m below meth c ls A Q hQ hx hb hr hts hown hlocks hml hnm hKX hP hD hA hS hl
  have hK := hKX.1
  have iwX2 := iw_X2_clear_X2
  obtain ⟨H, hH⟩ : ∃ h, h = s.heap := ⟨_, rfl⟩
  obtain ⟨locs, hlo⟩ : ∃ h : List Loc, h = [] := ⟨_, rfl⟩
  have hS : va_S A s.heap H locs := by rw [hH, hlo]; exact hS
  have hP : va_P G.1 vwCl [(y, .inr (3, [.ref lv, .ref q, .ref bq, .int (iz (ags))]))] H := by rw [hH]; exact hP
  have hD : va_D A [(y, .inr (3, [.ref lv, .ref q, .ref bq, .int (iz (ags))]))] := hD
  have hl : lv_has ls 2 [(0, .ref y)] := hl
  rw [← hH, ← hlo]
  refine lv_aload_n hx hb dX2_clear_0 rfl (lv_at hl 0 rfl) ?_
  refine va_get (D := G.1) (ci := 3) (v := .int (iz (ags))) (C := RX2) (T := TX2) (N := 4) hx hb hts iwX2 hown hK hP 0 rfl rfl 3 (by decide) (hts (.fieldLink RX2 25 "AnnuityHouse$Lives" "ages" "I") (by decide +kernel)) (fun _ h9 => h9) rfl dX2_clear_1 ?_
  refine lv_istore_n (lv' := [(1, .int (iz (ags))), (0, .ref y)]) hx hb dX2_clear_4 rfl hl (by decide) rfl (fun ls hl => ?_)
  refine lv_aload_n hx hb dX2_clear_5 rfl (lv_at hl 1 rfl) ?_
  refine lv_iconst (v := iz (0)) hx hb dX2_clear_6 rfl ?_
  refine va_put (D := G.1) (ci := 3) (v := .int (iz (0))) (ty := .int) (C := RX2) (T := TX2) (N := 4) hx hb hts iwX2 tyX2 tyX2_ok nmX2 hown hK hP hD hS 0 rfl rfl 3 (by decide) (hts (.fieldLink RX2 25 "AnnuityHouse$Lives" "ages" "I") (by decide +kernel)) (fun _ h9 => h9) rfl (by decide +kernel) rfl rfl (Nat.le_of_ble_eq_true rfl) dX2_clear_7 (fun H locs hP hD hS => ?_)
  have hP : va_P G.1 vwCl [(y, .inr (3, [.ref lv, .ref q, .ref bq, .int (iz (0))]))] H := hP
  have hD : va_D A [(y, .inr (3, [.ref lv, .ref q, .ref bq, .int (iz (0))]))] := hD
  refine lv_iload_n hx hb dX2_clear_10 rfl (lv_at hl 0 rfl) ?_
  rw [hQ]
  exact zr_iret (z := ags) (u := ()) hx hb hr hlocks hP hD hS (by first | exact Nat.le_of_ble_eq_true rfl | omega) (by first | exact Nat.le_of_ble_eq_true rfl | omega) dX2_clear_11 (show ags = ags from rfl)

def rm_c_X2_carryLife : Room := { frames := 4, cells := 0, slots := 0, locals := 99 }
theorem iw_X2_carryLife_X2 : ∀ w ∈ wsX20, w ∈ wsX2_carryLife := by decide +kernel
set_option maxHeartbeats 1000000 in
set_option maxRecDepth 100000 in
theorem c_X2_carryLife (l : Launch) (G : zG) (y : Nat) (lv : Nat) (fq : Nat) (gq : Nat) (tq : Nat) (wa : Nat) (f : Int → Int) (ags : Int) (sa : Nat) (sb : Nat) (sf : Int → Int) (sn : Int) (st : Int) (da : Nat) (db : Nat) (df : Int → Int) (dn : Int) (dt : Int) (u0 : Int) (d0 : Int) (p0 : Int) (ag : Int) (po : Int) (hlv : zlok f ags) (ha : 0 ≤ ag ∧ ag < ags) (h3 : 0 ≤ po ∧ po ≤ 20000) : zM l G yX2_carryLife wsX2_carryLife rm_c_X2_carryLife [.ref y, .ref tq, .int (iz (ag)), .int (iz (po))] [(y, .inr (3, [.ref lv, .ref fq, .ref gq, .int (iz (ags))])), (lv, zaI (G.2 1) 30 (f)), (tq, .inr (2, [.ref sa, .ref da, .ref wa, .long (lz (u0)), .long (lz (d0)), .int (iz (p0))])), (sa, .inr (9, [.ref sb, .int (iz (sn)), .long (lz (st))])), (sb, zaL (G.2 0) 40 (sf)), (da, .inr (9, [.ref db, .int (iz (dn)), .long (lz (dt))])), (db, zaL (G.2 0) 40 (df))] (fun A => zQv G (fun (u : (Int → Int) × Int × Int × (Int → Int) × Int × Int × Int) => zwv u.1 u.2.1 u.2.2.1 (zrow (zqu po) (zqd po) (zlf f ag) (ags - 1 - ag).toNat) ∧ u.2.2.2.2.2.2 = ags - 1 - ag) (fun (u : (Int → Int) × Int × Int × (Int → Int) × Int × Int × Int) => [(y, .inr (3, [.ref lv, .ref fq, .ref gq, .int (iz (ags))])), (lv, zaI (G.2 1) 30 (f)), (tq, .inr (2, [.ref sa, .ref da, .ref wa, .long (lz (zqu po)), .long (lz (zqd po)), .int (iz (u.2.2.2.2.2.2))])), (sa, .inr (9, [.ref sb, .int (iz (u.2.1)), .long (lz (u.2.2.1))])), (sb, zaL (G.2 0) 40 (u.1)), (da, .inr (9, [.ref db, .int (iz (u.2.2.2.2.1)), .long (lz (u.2.2.2.2.2.1))])), (db, zaL (G.2 0) 40 (u.2.2.2.1))]) A) 0 0 := by
  refine zM_of (cc := cX2_carryLife) (maxL := 5) (ret := none) (by decide) rfl (Nat.le_of_ble_eq_true rfl) ?_
  intro p e s m below meth c ls A Q hQ hx hb hr hts hown hlocks hml hnm hKX hP hD hA hS hl
  have hK := hKX.1
  have iwX2 := iw_X2_carryLife_X2
  obtain ⟨H, hH⟩ : ∃ h, h = s.heap := ⟨_, rfl⟩
  obtain ⟨locs, hlo⟩ : ∃ h : List Loc, h = [] := ⟨_, rfl⟩
  have hS : va_S A s.heap H locs := by rw [hH, hlo]; exact hS
  have hP : va_P G.1 vwCl [(y, .inr (3, [.ref lv, .ref fq, .ref gq, .int (iz (ags))])), (lv, zaI (G.2 1) 30 (f)), (tq, .inr (2, [.ref sa, .ref da, .ref wa, .long (lz (u0)), .long (lz (d0)), .int (iz (p0))])), (sa, .inr (9, [.ref sb, .int (iz (sn)), .long (lz (st))])), (sb, zaL (G.2 0) 40 (sf)), (da, .inr (9, [.ref db, .int (iz (dn)), .long (lz (dt))])), (db, zaL (G.2 0) 40 (df))] H := by rw [hH]; exact hP
  have hD : va_D A [(y, .inr (3, [.ref lv, .ref fq, .ref gq, .int (iz (ags))])), (lv, zaI (G.2 1) 30 (f)), (tq, .inr (2, [.ref sa, .ref da, .ref wa, .long (lz (u0)), .long (lz (d0)), .int (iz (p0))])), (sa, .inr (9, [.ref sb, .int (iz (sn)), .long (lz (st))])), (sb, zaL (G.2 0) 40 (sf)), (da, .inr (9, [.ref db, .int (iz (dn)), .long (lz (dt))])), (db, zaL (G.2 0) 40 (df))] := hD
  have hl : lv_has ls 5 [(0, .ref y), (1, .ref tq), (2, .int (iz (ag))), (3, .int (iz (po)))] := hl
  rw [← hH, ← hlo]
  have hrg := zq_rng h3
  have hl1 := hlv.1
  have hfa := hlv.2.1 ag ha.1 ha.2
  refine lv_aload_n hx hb dX2_carryLife_0 rfl (lv_at hl 1 rfl) ?_
  refine lv_iload_n hx hb dX2_carryLife_1 rfl (lv_at hl 3 rfl) ?_
  refine lv_aload_n hx hb dX2_carryLife_2 rfl (lv_at hl 0 rfl) ?_
  refine va_get (D := G.1) (ci := 3) (v := .ref lv) (C := RX2) (T := TX2) (N := 4) hx hb hts iwX2 hown hK hP 0 rfl rfl 0 (by decide) (hts (.fieldLink RX2 9 "AnnuityHouse$Lives" "left" "[I") (by decide +kernel)) (fun _ h9 => h9) rfl dX2_carryLife_3 ?_
  refine lv_iload_n hx hb dX2_carryLife_6 rfl (lv_at hl 2 rfl) ?_
  refine zr_iald hx hb hK hP 1 1 rfl rfl (i := ag) (⟨by omega, by omega, by omega⟩) dX2_carryLife_7 ?_
  refine zr_i2l hx hb (x := f ag) (⟨by omega, by omega⟩) dX2_carryLife_8 ?_
  refine zc_v (wr := [(y, .inr (3, [.ref lv, .ref fq, .ref gq, .int (iz (ags))])), (lv, zaI (G.2 1) 30 (f))]) (va_runV (As := [.int (iz (po)), .long (lz (f ag))]) (rest := []) ⟨hx, hb, hml, hown, hts⟩ (c_X1_begin l G tq wa sa sb sf sn st da db df dn dt u0 d0 p0 po (f ag) (by omega) (by omega) H.size) (cwV 2 hts gX2_carryLife_X1_begin rfl rfl rfl (by decide +kernel) ⟨Nat.le_of_ble_eq_true rfl, Nat.le_of_ble_eq_true rfl⟩) (zpV hKX hP hD [2, 3, 4, 5, 6] rfl rfl 2 2 rfl rfl) rfl rfl hl.1 rfl (lv_room (Nat.le_of_ble_eq_true rfl)) dX2_carryLife_9 ⟨(by first | exact Nat.le_of_ble_eq_true rfl | (show _ ≤ (0 : Nat); omega)), (by first | exact Nat.le_of_ble_eq_true rfl | (show _ ≤ (0 : Nat); omega))⟩) hP hD hS hA [2, 3, 4, 5, 6] [0, 1] rfl rfl rfl (by decide) (fun u_1 H locs hbg hP hD hS => ?_)
  obtain ⟨sf1, sn1, st1, df1, dn1, dt1⟩ := u_1
  have hP : va_P G.1 vwCl [(y, .inr (3, [.ref lv, .ref fq, .ref gq, .int (iz (ags))])), (lv, zaI (G.2 1) 30 (f)), (tq, .inr (2, [.ref sa, .ref da, .ref wa, .long (lz (zqu po)), .long (lz (zqd po)), .int (iz (0))])), (sa, .inr (9, [.ref sb, .int (iz (sn1)), .long (lz (st1))])), (sb, zaL (G.2 0) 40 (sf1)), (da, .inr (9, [.ref db, .int (iz (dn1)), .long (lz (dt1))])), (db, zaL (G.2 0) 40 (df1))] H := hP
  have hD : va_D A [(y, .inr (3, [.ref lv, .ref fq, .ref gq, .int (iz (ags))])), (lv, zaI (G.2 1) 30 (f)), (tq, .inr (2, [.ref sa, .ref da, .ref wa, .long (lz (zqu po)), .long (lz (zqd po)), .int (iz (0))])), (sa, .inr (9, [.ref sb, .int (iz (sn1)), .long (lz (st1))])), (sb, zaL (G.2 0) 40 (sf1)), (da, .inr (9, [.ref db, .int (iz (dn1)), .long (lz (dt1))])), (db, zaL (G.2 0) 40 (df1))] := hD
  have hbg : zwv sf1 sn1 st1 (f ag) ∧ zwv df1 dn1 dt1 1 := hbg
  refine lv_iload_n hx hb dX2_carryLife_12 rfl (lv_at hl 2 rfl) ?_
  refine lv_iconst (v := iz (1)) hx hb dX2_carryLife_13 rfl ?_
  refine zr_iadd hx hb dX2_carryLife_14 ?_
  refine lv_istore (lv' := [(4, .int (iz (ag + 1))), (0, .ref y), (1, .ref tq), (2, .int (iz (ag))), (3, .int (iz (po)))]) hx hb dX2_carryLife_15 hl (by decide) rfl (fun ls hl => ?_)
  have hl_17 : ∀ (zn_17 : Nat) (i : Int) (pq : Int) (sg : Int → Int) (sm : Int) (su : Int) (dg : Int → Int) (dm : Int) (du : Int) (H : Heap) (locs : List Loc) (ls : Array Slot), (ags - i).toNat < zn_17 → (ag + 1 ≤ i ∧ i ≤ ags ∧ pq = i - ag - 1) → (zwv sg sm su (zrow (zqu po) (zqd po) (zlf f ag) (i - ag - 1).toNat)) → (zwv dg dm du ((zqd po) ^ (i - ag - 1).toNat)) → va_P G.1 vwCl [(y, .inr (3, [.ref lv, .ref fq, .ref gq, .int (iz (ags))])), (lv, zaI (G.2 1) 30 (f)), (tq, .inr (2, [.ref sa, .ref da, .ref wa, .long (lz (zqu po)), .long (lz (zqd po)), .int (iz (pq))])), (sa, .inr (9, [.ref sb, .int (iz (sm)), .long (lz (su))])), (sb, zaL (G.2 0) 40 (sg)), (da, .inr (9, [.ref db, .int (iz (dm)), .long (lz (du))])), (db, zaL (G.2 0) 40 (dg))] H → va_D A [(y, .inr (3, [.ref lv, .ref fq, .ref gq, .int (iz (ags))])), (lv, zaI (G.2 1) 30 (f)), (tq, .inr (2, [.ref sa, .ref da, .ref wa, .long (lz (zqu po)), .long (lz (zqd po)), .int (iz (pq))])), (sa, .inr (9, [.ref sb, .int (iz (sm)), .long (lz (su))])), (sb, zaL (G.2 0) 40 (sg)), (da, .inr (9, [.ref db, .int (iz (dm)), .long (lz (du))])), (db, zaL (G.2 0) 40 (dg))] → va_S A s.heap H locs → lv_has ls 5 [(4, .int (iz (i))), (0, .ref y), (1, .ref tq), (2, .int (iz (ag))), (3, .int (iz (po)))] → W p l e rm_c_X2_carryLife s m ([.ref y, .ref tq, .int (iz (ag)), .int (iz (po))] : List Value).toArray below meth c H locs (0 + 0) (0 + 0) Q (F0 m 17 ls []) := by
    intro zn_17
    induction zn_17 with
    | zero => intro i pq sg sm su dg dm du H locs ls hm; exact absurd hm (Nat.not_lt_zero _)
    | succ zn_17 ih_17 =>
      intro i pq sg sm su dg dm du H locs ls hm_17 k1 k2 k3 hP hD hS hl
      refine lv_iload hx hb dX2_carryLife_17 (lv_at hl 0 rfl) ?_
      refine lv_aload_n hx hb dX2_carryLife_19 rfl (lv_at hl 1 rfl) ?_
      refine va_get (D := G.1) (ci := 3) (v := .int (iz (ags))) (C := RX2) (T := TX2) (N := 4) hx hb hts iwX2 hown hK hP 0 rfl rfl 3 (by decide) (hts (.fieldLink RX2 25 "AnnuityHouse$Lives" "ages" "I") (by decide +kernel)) (fun _ h9 => h9) rfl dX2_carryLife_20 ?_
      refine zr_icmp_ge (x := i) (y := ags) (tgt := 44) hx hb (⟨by omega, by omega⟩) (⟨by omega, by omega⟩) dX2_carryLife_23 (by decide) (fun h_4 => ?_) (fun h_4 => ?_)
      ·
        rw [hQ]
        exact zr_vret (u := (sg, sm, su, dg, dm, du, pq)) hx hb hr hlocks hP hD hS (by first | exact Nat.le_of_ble_eq_true rfl | omega) (by first | exact Nat.le_of_ble_eq_true rfl | omega) dX2_carryLife_44 (show zwv sg sm su (zrow (zqu po) (zqd po) (zlf f ag) (ags - 1 - ag).toNat) ∧ pq = ags - 1 - ag from ⟨by rw [show ags - 1 - ag = i - ag - 1 by omega]; exact k2, by omega⟩)
      ·
        have hfi := hlv.2.1 i (by omega) (by omega)
        refine lv_aload_n hx hb dX2_carryLife_26 rfl (lv_at hl 2 rfl) ?_
        refine lv_aload_n hx hb dX2_carryLife_27 rfl (lv_at hl 1 rfl) ?_
        refine va_get (D := G.1) (ci := 3) (v := .ref lv) (C := RX2) (T := TX2) (N := 4) hx hb hts iwX2 hown hK hP 0 rfl rfl 0 (by decide) (hts (.fieldLink RX2 9 "AnnuityHouse$Lives" "left" "[I") (by decide +kernel)) (fun _ h9 => h9) rfl dX2_carryLife_28 ?_
        refine lv_iload hx hb dX2_carryLife_31 (lv_at hl 0 rfl) ?_
        refine zr_iald hx hb hK hP 1 1 rfl rfl (i := i) (⟨by omega, by omega, by omega⟩) dX2_carryLife_33 ?_
        refine zr_i2l hx hb (x := f i) (⟨by omega, by omega⟩) dX2_carryLife_34 ?_
        have hb1 := zrow_35 (U := zqu po) (P := zqd po) (A := 2000000000) (f := zlf f ag) (by omega) (by omega) (i - ag - 1).toNat (fun j a b => by have := hlv.lf ha (i - ag - 1).toNat (by omega) j a b; have := hlv.2.1 ag ha.1 ha.2; omega) (by decide) (Or.inl ⟨by omega, by decide⟩)
        have hs1 := zwv_small k2 (k := 37) (by have := z35_37; omega) (by have := z35_37; omega)
        have hb2 := zrp (P := zqd po) (k := i - ag - 1) (by omega) (by omega)
        have hs2 := zwv_small k3 (k := 37) (by have := z35_37; omega) (by have := z35_37; omega)
        have hb3 := zrp (P := zqd po) (k := i + 1 - ag - 1) (by omega) (by omega)
        have ep : (zqd po) ^ (i - ag - 1).toNat * zqd po = (zqd po) ^ (i + 1 - ag - 1).toNat := by rw [show (i + 1 - ag - 1).toNat = (i - ag - 1).toNat + 1 by omega, Int.pow_succ]
        refine zc_v (wr := [(y, .inr (3, [.ref lv, .ref fq, .ref gq, .int (iz (ags))])), (lv, zaI (G.2 1) 30 (f))]) (va_runV (As := [.long (lz (f i))]) (rest := []) ⟨hx, hb, hml, hown, hts⟩ (c_X1_next l G tq wa sa sb sg sm su da db dg dm du (zqu po) (zqd po) pq (zrow (zqu po) (zqd po) (zlf f ag) (i - ag - 1).toNat) ((zqd po) ^ (i - ag - 1).toNat) (f i) (k2) (k3) (by omega) (by omega) (by omega) (by rw [ep]; have := z35_37; omega) H.size) (cwV 1 hts gX2_carryLife_X1_next rfl rfl rfl (by decide +kernel) ⟨Nat.le_of_ble_eq_true rfl, Nat.le_of_ble_eq_true rfl⟩) (zpV hKX hP hD [2, 3, 4, 5, 6] rfl rfl 2 2 rfl rfl) rfl rfl hl.1 rfl (lv_room (Nat.le_of_ble_eq_true rfl)) dX2_carryLife_35 ⟨(by first | exact Nat.le_of_ble_eq_true rfl | (show _ ≤ (0 : Nat); omega)), (by first | exact Nat.le_of_ble_eq_true rfl | (show _ ≤ (0 : Nat); omega))⟩) hP hD hS hA [2, 3, 4, 5, 6] [0, 1] rfl rfl rfl (by decide) (fun u_5 H locs qn hP hD hS => ?_)
        obtain ⟨sf3, sn3, st3, df3, dn3, dt3⟩ := u_5
        have hP : va_P G.1 vwCl [(y, .inr (3, [.ref lv, .ref fq, .ref gq, .int (iz (ags))])), (lv, zaI (G.2 1) 30 (f)), (tq, .inr (2, [.ref sa, .ref da, .ref wa, .long (lz ((zqu po))), .long (lz ((zqd po))), .int (iz (pq + 1))])), (sa, .inr (9, [.ref sb, .int (iz (sn3)), .long (lz (st3))])), (sb, zaL (G.2 0) 40 (sf3)), (da, .inr (9, [.ref db, .int (iz (dn3)), .long (lz (dt3))])), (db, zaL (G.2 0) 40 (df3))] H := hP
        have hD : va_D A [(y, .inr (3, [.ref lv, .ref fq, .ref gq, .int (iz (ags))])), (lv, zaI (G.2 1) 30 (f)), (tq, .inr (2, [.ref sa, .ref da, .ref wa, .long (lz ((zqu po))), .long (lz ((zqd po))), .int (iz (pq + 1))])), (sa, .inr (9, [.ref sb, .int (iz (sn3)), .long (lz (st3))])), (sb, zaL (G.2 0) 40 (sf3)), (da, .inr (9, [.ref db, .int (iz (dn3)), .long (lz (dt3))])), (db, zaL (G.2 0) 40 (df3))] := hD
        have qn : zwv sf3 sn3 st3 ((zrow (zqu po) (zqd po) (zlf f ag) (i - ag - 1).toNat) * (zqu po) + ((zqd po) ^ (i - ag - 1).toNat) * (zqd po) * (f i)) ∧ zwv df3 dn3 dt3 (((zqd po) ^ (i - ag - 1).toNat) * (zqd po)) := qn
        have qs := qn.1
        have qd := qn.2
        rw [ep] at qd
        refine lv_iinc (v := iz (i + 1)) (lv' := [(4, .int (iz (i + 1))), (0, .ref y), (1, .ref tq), (2, .int (iz (ag))), (3, .int (iz (po)))]) hx hb dX2_carryLife_38 hl (k := 0) rfl (by rw [show Int32.ofInt (1) = iz (1) from rfl, iz_add]) (by decide) rfl (fun ls hl => ?_)
        refine lv_goto (tgt := 17) hx hb dX2_carryLife_41 (by decide) ?_
        refine W.widen (k := 0 + 0) (n := 0 + 0) (by omega) (by omega) ?_
        exact ih_17 (i + 1) (pq + 1) sf3 sn3 st3 df3 dn3 dt3 _ _ _ (by omega) (by omega) (by rw [show i + 1 - ag - 1 = (i - ag - 1) + 1 by omega, ← zrw_nx (U := zqu po) (P := zqd po) (f := zlf f ag) (x := f i) (show 0 ≤ i - ag - 1 by omega) (by unfold zlf; congr 1; omega)]; exact qs) (qd) (hP) (hD) hS (hl)
  exact hl_17 ((ags - (ag + 1) : Int).toNat + 1) (ag + 1) 0 sf1 sn1 st1 df1 dn1 dt1 _ _ _ (Nat.lt_succ_self _) (by omega) (by rw [show (ag + 1 - ag - 1).toNat = 0 by omega]; show zwv _ _ _ (f (ag + 0)); rw [Int.add_zero]; exact hbg.1) (by rw [show (ag + 1 - ag - 1).toNat = 0 by omega]; exact hbg.2) (hP) (hD) hS (hl)

def rm_c_X2_carryDeath : Room := { frames := 4, cells := 0, slots := 0, locals := 99 }
theorem iw_X2_carryDeath_X2 : ∀ w ∈ wsX20, w ∈ wsX2_carryDeath := by decide +kernel
set_option maxHeartbeats 1000000 in
set_option maxRecDepth 100000 in
theorem c_X2_carryDeath (l : Launch) (G : zG) (y : Nat) (lv : Nat) (fq : Nat) (gq : Nat) (tq : Nat) (wa : Nat) (f : Int → Int) (ags : Int) (sa : Nat) (sb : Nat) (sf : Int → Int) (sn : Int) (st : Int) (da : Nat) (db : Nat) (df : Int → Int) (dn : Int) (dt : Int) (u0 : Int) (d0 : Int) (p0 : Int) (ag : Int) (po : Int) (hlv : zlok f ags) (ha : 0 ≤ ag ∧ ag < ags) (h3 : 0 ≤ po ∧ po ≤ 20000) : zM l G yX2_carryDeath wsX2_carryDeath rm_c_X2_carryDeath [.ref y, .ref tq, .int (iz (ag)), .int (iz (po))] [(y, .inr (3, [.ref lv, .ref fq, .ref gq, .int (iz (ags))])), (lv, zaI (G.2 1) 30 (f)), (tq, .inr (2, [.ref sa, .ref da, .ref wa, .long (lz (u0)), .long (lz (d0)), .int (iz (p0))])), (sa, .inr (9, [.ref sb, .int (iz (sn)), .long (lz (st))])), (sb, zaL (G.2 0) 40 (sf)), (da, .inr (9, [.ref db, .int (iz (dn)), .long (lz (dt))])), (db, zaL (G.2 0) 40 (df))] (fun A => zQv G (fun (u : (Int → Int) × Int × Int × (Int → Int) × Int × Int × Int) => zwv u.1 u.2.1 u.2.2.1 (zrow (zqu po) (zqd po) (zdf f ags ag) (ags - ag).toNat) ∧ u.2.2.2.2.2.2 = ags - ag) (fun (u : (Int → Int) × Int × Int × (Int → Int) × Int × Int × Int) => [(y, .inr (3, [.ref lv, .ref fq, .ref gq, .int (iz (ags))])), (lv, zaI (G.2 1) 30 (f)), (tq, .inr (2, [.ref sa, .ref da, .ref wa, .long (lz (zqu po)), .long (lz (zqd po)), .int (iz (u.2.2.2.2.2.2))])), (sa, .inr (9, [.ref sb, .int (iz (u.2.1)), .long (lz (u.2.2.1))])), (sb, zaL (G.2 0) 40 (u.1)), (da, .inr (9, [.ref db, .int (iz (u.2.2.2.2.1)), .long (lz (u.2.2.2.2.2.1))])), (db, zaL (G.2 0) 40 (u.2.2.2.1))]) A) 0 0 := by
  refine zM_of (cc := cX2_carryDeath) (maxL := 5) (ret := none) (by decide) rfl (Nat.le_of_ble_eq_true rfl) ?_
  intro p e s m below meth c ls A Q hQ hx hb hr hts hown hlocks hml hnm hKX hP hD hA hS hl
  have hK := hKX.1
  have iwX2 := iw_X2_carryDeath_X2
  obtain ⟨H, hH⟩ : ∃ h, h = s.heap := ⟨_, rfl⟩
  obtain ⟨locs, hlo⟩ : ∃ h : List Loc, h = [] := ⟨_, rfl⟩
  have hS : va_S A s.heap H locs := by rw [hH, hlo]; exact hS
  have hP : va_P G.1 vwCl [(y, .inr (3, [.ref lv, .ref fq, .ref gq, .int (iz (ags))])), (lv, zaI (G.2 1) 30 (f)), (tq, .inr (2, [.ref sa, .ref da, .ref wa, .long (lz (u0)), .long (lz (d0)), .int (iz (p0))])), (sa, .inr (9, [.ref sb, .int (iz (sn)), .long (lz (st))])), (sb, zaL (G.2 0) 40 (sf)), (da, .inr (9, [.ref db, .int (iz (dn)), .long (lz (dt))])), (db, zaL (G.2 0) 40 (df))] H := by rw [hH]; exact hP
  have hD : va_D A [(y, .inr (3, [.ref lv, .ref fq, .ref gq, .int (iz (ags))])), (lv, zaI (G.2 1) 30 (f)), (tq, .inr (2, [.ref sa, .ref da, .ref wa, .long (lz (u0)), .long (lz (d0)), .int (iz (p0))])), (sa, .inr (9, [.ref sb, .int (iz (sn)), .long (lz (st))])), (sb, zaL (G.2 0) 40 (sf)), (da, .inr (9, [.ref db, .int (iz (dn)), .long (lz (dt))])), (db, zaL (G.2 0) 40 (df))] := hD
  have hl : lv_has ls 5 [(0, .ref y), (1, .ref tq), (2, .int (iz (ag))), (3, .int (iz (po)))] := hl
  rw [← hH, ← hlo]
  have hrg := zq_rng h3
  have hl1 := hlv.1
  have hfa := hlv.2.1 ag ha.1 ha.2
  refine lv_aload_n hx hb dX2_carryDeath_0 rfl (lv_at hl 1 rfl) ?_
  refine lv_iload_n hx hb dX2_carryDeath_1 rfl (lv_at hl 3 rfl) ?_
  refine lv_lconst (v := lz (0)) hx hb dX2_carryDeath_2 rfl ?_
  refine zc_v (wr := [(y, .inr (3, [.ref lv, .ref fq, .ref gq, .int (iz (ags))])), (lv, zaI (G.2 1) 30 (f))]) (va_runV (As := [.int (iz (po)), .long (lz (0))]) (rest := []) ⟨hx, hb, hml, hown, hts⟩ (c_X1_begin l G tq wa sa sb sf sn st da db df dn dt u0 d0 p0 po 0 (by omega) (by omega) H.size) (cwV 2 hts gX2_carryDeath_X1_begin rfl rfl rfl (by decide +kernel) ⟨Nat.le_of_ble_eq_true rfl, Nat.le_of_ble_eq_true rfl⟩) (zpV hKX hP hD [2, 3, 4, 5, 6] rfl rfl 2 2 rfl rfl) rfl rfl hl.1 rfl (lv_room (Nat.le_of_ble_eq_true rfl)) dX2_carryDeath_3 ⟨(by first | exact Nat.le_of_ble_eq_true rfl | (show _ ≤ (0 : Nat); omega)), (by first | exact Nat.le_of_ble_eq_true rfl | (show _ ≤ (0 : Nat); omega))⟩) hP hD hS hA [2, 3, 4, 5, 6] [0, 1] rfl rfl rfl (by decide) (fun u_1 H locs hbg hP hD hS => ?_)
  obtain ⟨sf1, sn1, st1, df1, dn1, dt1⟩ := u_1
  have hP : va_P G.1 vwCl [(y, .inr (3, [.ref lv, .ref fq, .ref gq, .int (iz (ags))])), (lv, zaI (G.2 1) 30 (f)), (tq, .inr (2, [.ref sa, .ref da, .ref wa, .long (lz (zqu po)), .long (lz (zqd po)), .int (iz (0))])), (sa, .inr (9, [.ref sb, .int (iz (sn1)), .long (lz (st1))])), (sb, zaL (G.2 0) 40 (sf1)), (da, .inr (9, [.ref db, .int (iz (dn1)), .long (lz (dt1))])), (db, zaL (G.2 0) 40 (df1))] H := hP
  have hD : va_D A [(y, .inr (3, [.ref lv, .ref fq, .ref gq, .int (iz (ags))])), (lv, zaI (G.2 1) 30 (f)), (tq, .inr (2, [.ref sa, .ref da, .ref wa, .long (lz (zqu po)), .long (lz (zqd po)), .int (iz (0))])), (sa, .inr (9, [.ref sb, .int (iz (sn1)), .long (lz (st1))])), (sb, zaL (G.2 0) 40 (sf1)), (da, .inr (9, [.ref db, .int (iz (dn1)), .long (lz (dt1))])), (db, zaL (G.2 0) 40 (df1))] := hD
  have hbg : zwv sf1 sn1 st1 (0 : Int) ∧ zwv df1 dn1 dt1 1 := hbg
  refine lv_iload_n hx hb dX2_carryDeath_6 rfl (lv_at hl 2 rfl) ?_
  refine lv_istore (lv' := [(4, .int (iz (ag))), (0, .ref y), (1, .ref tq), (2, .int (iz (ag))), (3, .int (iz (po)))]) hx hb dX2_carryDeath_7 hl (by decide) rfl (fun ls hl => ?_)
  have hl_9 : ∀ (zn_9 : Nat) (i : Int) (pq : Int) (sg : Int → Int) (sm : Int) (su : Int) (dg : Int → Int) (dm : Int) (du : Int) (H : Heap) (locs : List Loc) (ls : Array Slot), (ags - i).toNat < zn_9 → (ag ≤ i ∧ i ≤ ags ∧ pq = i - ag) → (zwv sg sm su (zrow (zqu po) (zqd po) (zdf f ags ag) (i - ag).toNat)) → (zwv dg dm du ((zqd po) ^ (i - ag).toNat)) → va_P G.1 vwCl [(y, .inr (3, [.ref lv, .ref fq, .ref gq, .int (iz (ags))])), (lv, zaI (G.2 1) 30 (f)), (tq, .inr (2, [.ref sa, .ref da, .ref wa, .long (lz (zqu po)), .long (lz (zqd po)), .int (iz (pq))])), (sa, .inr (9, [.ref sb, .int (iz (sm)), .long (lz (su))])), (sb, zaL (G.2 0) 40 (sg)), (da, .inr (9, [.ref db, .int (iz (dm)), .long (lz (du))])), (db, zaL (G.2 0) 40 (dg))] H → va_D A [(y, .inr (3, [.ref lv, .ref fq, .ref gq, .int (iz (ags))])), (lv, zaI (G.2 1) 30 (f)), (tq, .inr (2, [.ref sa, .ref da, .ref wa, .long (lz (zqu po)), .long (lz (zqd po)), .int (iz (pq))])), (sa, .inr (9, [.ref sb, .int (iz (sm)), .long (lz (su))])), (sb, zaL (G.2 0) 40 (sg)), (da, .inr (9, [.ref db, .int (iz (dm)), .long (lz (du))])), (db, zaL (G.2 0) 40 (dg))] → va_S A s.heap H locs → lv_has ls 5 [(4, .int (iz (i))), (0, .ref y), (1, .ref tq), (2, .int (iz (ag))), (3, .int (iz (po)))] → W p l e rm_c_X2_carryDeath s m ([.ref y, .ref tq, .int (iz (ag)), .int (iz (po))] : List Value).toArray below meth c H locs (0 + 0) (0 + 0) Q (F0 m 9 ls []) := by
    intro zn_9
    induction zn_9 with
    | zero => intro i pq sg sm su dg dm du H locs ls hm; exact absurd hm (Nat.not_lt_zero _)
    | succ zn_9 ih_9 =>
      intro i pq sg sm su dg dm du H locs ls hm_9 k1 k2 k3 hP hD hS hl
      refine lv_iload hx hb dX2_carryDeath_9 (lv_at hl 0 rfl) ?_
      refine lv_aload_n hx hb dX2_carryDeath_11 rfl (lv_at hl 1 rfl) ?_
      refine va_get (D := G.1) (ci := 3) (v := .int (iz (ags))) (C := RX2) (T := TX2) (N := 4) hx hb hts iwX2 hown hK hP 0 rfl rfl 3 (by decide) (hts (.fieldLink RX2 25 "AnnuityHouse$Lives" "ages" "I") (by decide +kernel)) (fun _ h9 => h9) rfl dX2_carryDeath_12 ?_
      refine zr_icmp_ge (x := i) (y := ags) (tgt := 68) hx hb (⟨by omega, by omega⟩) (⟨by omega, by omega⟩) dX2_carryDeath_15 (by decide) (fun h_4 => ?_) (fun h_4 => ?_)
      ·
        rw [hQ]
        exact zr_vret (u := (sg, sm, su, dg, dm, du, pq)) hx hb hr hlocks hP hD hS (by first | exact Nat.le_of_ble_eq_true rfl | omega) (by first | exact Nat.le_of_ble_eq_true rfl | omega) dX2_carryDeath_68 (show zwv sg sm su (zrow (zqu po) (zqd po) (zdf f ags ag) (ags - ag).toNat) ∧ pq = ags - ag from ⟨by rw [show ags - ag = i - ag by omega]; exact k2, by omega⟩)
      ·
        have hl_59 : ∀ (dd : Int) (H : Heap) (locs : List Loc) (ls : Array Slot), (dd = zdf f ags ag (i - ag + 1)) → va_P G.1 vwCl [(y, .inr (3, [.ref lv, .ref fq, .ref gq, .int (iz (ags))])), (lv, zaI (G.2 1) 30 (f)), (tq, .inr (2, [.ref sa, .ref da, .ref wa, .long (lz (zqu po)), .long (lz (zqd po)), .int (iz (pq))])), (sa, .inr (9, [.ref sb, .int (iz (sm)), .long (lz (su))])), (sb, zaL (G.2 0) 40 (sg)), (da, .inr (9, [.ref db, .int (iz (dm)), .long (lz (du))])), (db, zaL (G.2 0) 40 (dg))] H → va_D A [(y, .inr (3, [.ref lv, .ref fq, .ref gq, .int (iz (ags))])), (lv, zaI (G.2 1) 30 (f)), (tq, .inr (2, [.ref sa, .ref da, .ref wa, .long (lz (zqu po)), .long (lz (zqd po)), .int (iz (pq))])), (sa, .inr (9, [.ref sb, .int (iz (sm)), .long (lz (su))])), (sb, zaL (G.2 0) 40 (sg)), (da, .inr (9, [.ref db, .int (iz (dm)), .long (lz (du))])), (db, zaL (G.2 0) 40 (dg))] → va_S A s.heap H locs → lv_has ls 5 [(4, .int (iz (i))), (0, .ref y), (1, .ref tq), (2, .int (iz (ag))), (3, .int (iz (po)))] → W p l e rm_c_X2_carryDeath s m ([.ref y, .ref tq, .int (iz (ag)), .int (iz (po))] : List Value).toArray below meth c H locs (0 + 0) (0 + 0) Q (F0 m 59 ls [.long (lz (dd)), .ref tq]) := by
          intro dd H locs ls jd hP hD hS hl
          have hdd := hlv.df ha (i - ag + 1).toNat (by omega) (i - ag + 1) (by omega) (by omega)
          rw [← jd] at hdd
          have hb1 := zrow_35 (U := zqu po) (P := zqd po) (A := 2000000000) (f := zdf f ags ag) (by omega) (by omega) (i - ag).toNat (fun j a b => by have := hlv.df ha (i - ag).toNat (by omega) j a b; have := hlv.2.1 ag ha.1 ha.2; omega) (by decide) (Or.inl ⟨by omega, by decide⟩)
          have hs1 := zwv_small k2 (k := 37) (by have := z35_37; omega) (by have := z35_37; omega)
          have hb2 := zrp (P := zqd po) (k := i - ag) (by omega) (by omega)
          have hs2 := zwv_small k3 (k := 37) (by have := z35_37; omega) (by have := z35_37; omega)
          have hb3 := zrp (P := zqd po) (k := i + 1 - ag) (by omega) (by omega)
          have ep : (zqd po) ^ (i - ag).toNat * zqd po = (zqd po) ^ (i + 1 - ag).toNat := by rw [show (i + 1 - ag).toNat = (i - ag).toNat + 1 by omega, Int.pow_succ]
          refine zc_v (wr := [(y, .inr (3, [.ref lv, .ref fq, .ref gq, .int (iz (ags))])), (lv, zaI (G.2 1) 30 (f))]) (va_runV (As := [.long (lz (dd))]) (rest := []) ⟨hx, hb, hml, hown, hts⟩ (c_X1_next l G tq wa sa sb sg sm su da db dg dm du (zqu po) (zqd po) pq (zrow (zqu po) (zqd po) (zdf f ags ag) (i - ag).toNat) ((zqd po) ^ (i - ag).toNat) dd (k2) (k3) (by omega) (by omega) (by omega) (by rw [ep]; have := z35_37; omega) H.size) (cwV 1 hts gX2_carryDeath_X1_next rfl rfl rfl (by decide +kernel) ⟨Nat.le_of_ble_eq_true rfl, Nat.le_of_ble_eq_true rfl⟩) (zpV hKX hP hD [2, 3, 4, 5, 6] rfl rfl 2 2 rfl rfl) rfl rfl hl.1 rfl (lv_room (Nat.le_of_ble_eq_true rfl)) dX2_carryDeath_59 ⟨(by first | exact Nat.le_of_ble_eq_true rfl | (show _ ≤ (0 : Nat); omega)), (by first | exact Nat.le_of_ble_eq_true rfl | (show _ ≤ (0 : Nat); omega))⟩) hP hD hS hA [2, 3, 4, 5, 6] [0, 1] rfl rfl rfl (by decide) (fun u_5 H locs qn hP hD hS => ?_)
          obtain ⟨sf3, sn3, st3, df3, dn3, dt3⟩ := u_5
          have hP : va_P G.1 vwCl [(y, .inr (3, [.ref lv, .ref fq, .ref gq, .int (iz (ags))])), (lv, zaI (G.2 1) 30 (f)), (tq, .inr (2, [.ref sa, .ref da, .ref wa, .long (lz ((zqu po))), .long (lz ((zqd po))), .int (iz (pq + 1))])), (sa, .inr (9, [.ref sb, .int (iz (sn3)), .long (lz (st3))])), (sb, zaL (G.2 0) 40 (sf3)), (da, .inr (9, [.ref db, .int (iz (dn3)), .long (lz (dt3))])), (db, zaL (G.2 0) 40 (df3))] H := hP
          have hD : va_D A [(y, .inr (3, [.ref lv, .ref fq, .ref gq, .int (iz (ags))])), (lv, zaI (G.2 1) 30 (f)), (tq, .inr (2, [.ref sa, .ref da, .ref wa, .long (lz ((zqu po))), .long (lz ((zqd po))), .int (iz (pq + 1))])), (sa, .inr (9, [.ref sb, .int (iz (sn3)), .long (lz (st3))])), (sb, zaL (G.2 0) 40 (sf3)), (da, .inr (9, [.ref db, .int (iz (dn3)), .long (lz (dt3))])), (db, zaL (G.2 0) 40 (df3))] := hD
          have qn : zwv sf3 sn3 st3 ((zrow (zqu po) (zqd po) (zdf f ags ag) (i - ag).toNat) * (zqu po) + ((zqd po) ^ (i - ag).toNat) * (zqd po) * dd) ∧ zwv df3 dn3 dt3 (((zqd po) ^ (i - ag).toNat) * (zqd po)) := qn
          have qs := qn.1
          have qd := qn.2
          rw [ep] at qd
          refine lv_iinc (v := iz (i + 1)) (lv' := [(4, .int (iz (i + 1))), (0, .ref y), (1, .ref tq), (2, .int (iz (ag))), (3, .int (iz (po)))]) hx hb dX2_carryDeath_62 hl (k := 0) rfl (by rw [show Int32.ofInt (1) = iz (1) from rfl, iz_add]) (by decide) rfl (fun ls hl => ?_)
          refine lv_goto (tgt := 9) hx hb dX2_carryDeath_65 (by decide) ?_
          refine W.widen (k := 0 + 0) (n := 0 + 0) (by omega) (by omega) ?_
          exact ih_9 (i + 1) (pq + 1) sf3 sn3 st3 df3 dn3 dt3 _ _ _ (by omega) (by omega) (by rw [show i + 1 - ag = (i - ag) + 1 by omega, ← zrw_nx (U := zqu po) (P := zqd po) (f := zdf f ags ag) (x := dd) (show 0 ≤ i - ag by omega) jd]; exact qs) (qd) (hP) (hD) hS (hl)
        have hfi := hlv.2.1 i (by omega) (by omega)
        refine lv_aload_n hx hb dX2_carryDeath_18 rfl (lv_at hl 2 rfl) ?_
        refine lv_iload hx hb dX2_carryDeath_19 (lv_at hl 0 rfl) ?_
        refine lv_iconst (v := iz (1)) hx hb dX2_carryDeath_21 rfl ?_
        refine zr_iadd hx hb dX2_carryDeath_22 ?_
        refine lv_aload_n hx hb dX2_carryDeath_23 rfl (lv_at hl 1 rfl) ?_
        refine va_get (D := G.1) (ci := 3) (v := .int (iz (ags))) (C := RX2) (T := TX2) (N := 4) hx hb hts iwX2 hown hK hP 0 rfl rfl 3 (by decide) (hts (.fieldLink RX2 25 "AnnuityHouse$Lives" "ages" "I") (by decide +kernel)) (fun _ h9 => h9) rfl dX2_carryDeath_24 ?_
        refine zr_icmp_ge (x := i + 1) (y := ags) (tgt := 51) hx hb (⟨by omega, by omega⟩) (⟨by omega, by omega⟩) dX2_carryDeath_27 (by decide) (fun h_8 => ?_) (fun h_8 => ?_)
        ·
          refine lv_aload_n hx hb dX2_carryDeath_51 rfl (lv_at hl 1 rfl) ?_
          refine va_get (D := G.1) (ci := 3) (v := .ref lv) (C := RX2) (T := TX2) (N := 4) hx hb hts iwX2 hown hK hP 0 rfl rfl 0 (by decide) (hts (.fieldLink RX2 9 "AnnuityHouse$Lives" "left" "[I") (by decide +kernel)) (fun _ h9 => h9) rfl dX2_carryDeath_52 ?_
          refine lv_iload hx hb dX2_carryDeath_55 (lv_at hl 0 rfl) ?_
          refine zr_iald hx hb hK hP 1 1 rfl rfl (i := i) (⟨by omega, by omega, by omega⟩) dX2_carryDeath_57 ?_
          refine zr_i2l hx hb (x := f i) (⟨by omega, by omega⟩) dX2_carryDeath_58 ?_
          exact hl_59 (f i) _ _ _ (by unfold zdf; rw [if_neg (by omega)]; first | (rw [if_pos (by omega), show ag + (i - ag + 1) - 1 = i by omega, show ag + (i - ag + 1) = i + 1 by omega]) | (rw [if_neg (by omega), show ag + (i - ag + 1) - 1 = i by omega])) (hP) (hD) hS (hl)
        ·
          have hfj := hlv.2.1 (i + 1) (by omega) (by omega)
          refine lv_aload_n hx hb dX2_carryDeath_30 rfl (lv_at hl 1 rfl) ?_
          refine va_get (D := G.1) (ci := 3) (v := .ref lv) (C := RX2) (T := TX2) (N := 4) hx hb hts iwX2 hown hK hP 0 rfl rfl 0 (by decide) (hts (.fieldLink RX2 9 "AnnuityHouse$Lives" "left" "[I") (by decide +kernel)) (fun _ h9 => h9) rfl dX2_carryDeath_31 ?_
          refine lv_iload hx hb dX2_carryDeath_34 (lv_at hl 0 rfl) ?_
          refine zr_iald hx hb hK hP 1 1 rfl rfl (i := i) (⟨by omega, by omega, by omega⟩) dX2_carryDeath_36 ?_
          refine lv_aload_n hx hb dX2_carryDeath_37 rfl (lv_at hl 1 rfl) ?_
          refine va_get (D := G.1) (ci := 3) (v := .ref lv) (C := RX2) (T := TX2) (N := 4) hx hb hts iwX2 hown hK hP 0 rfl rfl 0 (by decide) (hts (.fieldLink RX2 9 "AnnuityHouse$Lives" "left" "[I") (by decide +kernel)) (fun _ h9 => h9) rfl dX2_carryDeath_38 ?_
          refine lv_iload hx hb dX2_carryDeath_41 (lv_at hl 0 rfl) ?_
          refine lv_iconst (v := iz (1)) hx hb dX2_carryDeath_43 rfl ?_
          refine zr_iadd hx hb dX2_carryDeath_44 ?_
          refine zr_iald hx hb hK hP 1 1 rfl rfl (i := i + 1) (⟨by omega, by omega, by omega⟩) dX2_carryDeath_45 ?_
          refine zr_isub hx hb dX2_carryDeath_46 ?_
          refine zr_i2l hx hb (x := (f i) - (f (i + 1))) (⟨by omega, by omega⟩) dX2_carryDeath_47 ?_
          refine lv_goto (tgt := 59) hx hb dX2_carryDeath_48 (by decide) ?_
          exact hl_59 ((f i) - (f (i + 1))) _ _ _ (by unfold zdf; rw [if_neg (by omega)]; first | (rw [if_pos (by omega), show ag + (i - ag + 1) - 1 = i by omega, show ag + (i - ag + 1) = i + 1 by omega]) | (rw [if_neg (by omega), show ag + (i - ag + 1) - 1 = i by omega])) (hP) (hD) hS (hl)
  exact hl_9 ((ags - ag : Int).toNat + 1) ag 0 sf1 sn1 st1 df1 dn1 dt1 _ _ _ (Nat.lt_succ_self _) (by omega) (by rw [show (ag - ag).toNat = 0 by omega]; exact hbg.1) (by rw [show (ag - ag).toNat = 0 by omega]; exact hbg.2) (hP) (hD) hS (hl)

def rm_c_X2_worthOfLife : Room := { frames := 9, cells := 1, slots := 6, locals := 162 }
theorem iw_X2_worthOfLife_X1 : ∀ w ∈ wsX10, w ∈ wsX2_worthOfLife := by decide +kernel
theorem iw_X2_worthOfLife_X2 : ∀ w ∈ wsX20, w ∈ wsX2_worthOfLife := by decide +kernel
set_option maxHeartbeats 1000000 in
set_option maxRecDepth 100000 in
theorem c_X2_worthOfLife (l : Launch) (G : zG) (s1 : Nat) (s2 : Nat) (s3 : Nat) (y : Nat) (lv : Nat) (q : Nat) (bq : Nat) (f : Int → Int) (ags : Int) (r : Nat) (md : Int) (sa : Nat) (sb : Nat) (sf : Int → Int) (sn : Int) (st : Int) (da : Nat) (db : Nat) (df : Int → Int) (dn : Int) (dt : Int) (wa : Nat) (wb : Nat) (wf : Int → Int) (wn : Int) (wt : Int) (u0 : Int) (d0 : Int) (p0 : Int) (ag : Int) (mo : Int) (po : Int) (hl0 : l.stackTraces = false) (hmd : 0 ≤ md ∧ md ≤ 7) (hlv : zlok f ags) (ha : 0 ≤ ag ∧ ag < ags) (h1 : 0 ≤ mo ∧ mo ≤ 1000000000) (h3 : 0 ≤ po ∧ po ≤ 20000) : zMt l (zXE s1 s2 s3) G yX2_worthOfLife wsX2_worthOfLife rm_c_X2_worthOfLife [.ref y, .int (iz (ag)), .long (lz (mo)), .int (iz (po)), .ref r] [(y, .inr (3, [.ref lv, .ref q, .ref bq, .int (iz (ags))])), (lv, zaI (G.2 1) 30 (f)), (q, .inr (2, [.ref sa, .ref da, .ref wa, .long (lz (u0)), .long (lz (d0)), .int (iz (p0))])), (sa, .inr (9, [.ref sb, .int (iz (sn)), .long (lz (st))])), (sb, zaL (G.2 0) 40 (sf)), (da, .inr (9, [.ref db, .int (iz (dn)), .long (lz (dt))])), (db, zaL (G.2 0) 40 (df)), (wa, .inr (9, [.ref wb, .int (iz (wn)), .long (lz (wt))])), (wb, zaL (G.2 0) 40 (wf)), (r, .inr (5, [.int (iz (md))]))] (fun A => zQl G (fun (z : Int) (u : (Int → Int) × Int × Int × (Int → Int) × Int × Int × (Int → Int) × Int × Int × Int) => (zLs f ags ag po * mo % (f ag * (100000 + po) ^ (ags - 1 - ag).toNat) = 0 ∨ md ≠ 7) ∧ z = zrd md (zLs f ags ag po * mo) (f ag * (100000 + po) ^ (ags - 1 - ag).toNat)) (fun (u : (Int → Int) × Int × Int × (Int → Int) × Int × Int × (Int → Int) × Int × Int × Int) => [(y, .inr (3, [.ref lv, .ref q, .ref bq, .int (iz (ags))])), (lv, zaI (G.2 1) 30 (f)), (q, .inr (2, [.ref sa, .ref da, .ref wa, .long (lz (zqu po)), .long (lz (zqd po)), .int (iz (u.2.2.2.2.2.2.2.2.2))])), (sa, .inr (9, [.ref sb, .int (iz (u.2.1)), .long (lz (u.2.2.1))])), (sb, zaL (G.2 0) 40 (u.1)), (da, .inr (9, [.ref db, .int (iz (u.2.2.2.2.1)), .long (lz (u.2.2.2.2.2.1))])), (db, zaL (G.2 0) 40 (u.2.2.2.1)), (wa, .inr (9, [.ref wb, .int (iz (u.2.2.2.2.2.2.2.1)), .long (lz (u.2.2.2.2.2.2.2.2.1))])), (wb, zaL (G.2 0) 40 (u.2.2.2.2.2.2.1)), (r, .inr (5, [.int (iz (md))]))]) A) (SX := (Int → Int) × Int × Int × (Int → Int) × Int × Int × (Int → Int) × Int × Int × Int) (fun (E9 : String) (ux : (Int → Int) × Int × Int × (Int → Int) × Int × Int × (Int → Int) × Int × Int × Int) => (E9 = "java/lang/IllegalStateException" ∧ md = 7 ∧ zLs f ags ag po * mo % (f ag * (100000 + po) ^ (ags - 1 - ag).toNat) ≠ 0)) (fun (ux : (Int → Int) × Int × Int × (Int → Int) × Int × Int × (Int → Int) × Int × Int × Int) => [(y, .inr (3, [.ref lv, .ref q, .ref bq, .int (iz (ags))])), (lv, zaI (G.2 1) 30 (f)), (q, .inr (2, [.ref sa, .ref da, .ref wa, .long (lz (zqu po)), .long (lz (zqd po)), .int (iz (ux.2.2.2.2.2.2.2.2.2))])), (sa, .inr (9, [.ref sb, .int (iz (ux.2.1)), .long (lz (ux.2.2.1))])), (sb, zaL (G.2 0) 40 (ux.1)), (da, .inr (9, [.ref db, .int (iz (ux.2.2.2.2.1)), .long (lz (ux.2.2.2.2.2.1))])), (db, zaL (G.2 0) 40 (ux.2.2.2.1)), (wa, .inr (9, [.ref wb, .int (iz (ux.2.2.2.2.2.2.2.1)), .long (lz (ux.2.2.2.2.2.2.2.2.1))])), (wb, zaL (G.2 0) 40 (ux.2.2.2.2.2.2.1)), (r, .inr (5, [.int (iz (md))]))]) 1 6 := by
  refine zMt_of (cc := cX2_worthOfLife) (maxL := 6) (ret := (some .long)) (by decide) rfl (Nat.le_of_ble_eq_true rfl) ?_
  intro p e s m below meth c ls A Q hQ hx hb hr hts hown hlocks hml hout hKX hE hP hD hA hS hl
  have hK := hKX.1
  have iwX1 := iw_X2_worthOfLife_X1
  have iwX2 := iw_X2_worthOfLife_X2
  obtain ⟨H, hH⟩ : ∃ h, h = s.heap := ⟨_, rfl⟩
  obtain ⟨locs, hlo⟩ : ∃ h : List Loc, h = [] := ⟨_, rfl⟩
  have hS : va_S A s.heap H locs := by rw [hH, hlo]; exact hS
  have hP : va_P G.1 vwCl [(y, .inr (3, [.ref lv, .ref q, .ref bq, .int (iz (ags))])), (lv, zaI (G.2 1) 30 (f)), (q, .inr (2, [.ref sa, .ref da, .ref wa, .long (lz (u0)), .long (lz (d0)), .int (iz (p0))])), (sa, .inr (9, [.ref sb, .int (iz (sn)), .long (lz (st))])), (sb, zaL (G.2 0) 40 (sf)), (da, .inr (9, [.ref db, .int (iz (dn)), .long (lz (dt))])), (db, zaL (G.2 0) 40 (df)), (wa, .inr (9, [.ref wb, .int (iz (wn)), .long (lz (wt))])), (wb, zaL (G.2 0) 40 (wf)), (r, .inr (5, [.int (iz (md))]))] H := by rw [hH]; exact hP
  have hD : va_D A [(y, .inr (3, [.ref lv, .ref q, .ref bq, .int (iz (ags))])), (lv, zaI (G.2 1) 30 (f)), (q, .inr (2, [.ref sa, .ref da, .ref wa, .long (lz (u0)), .long (lz (d0)), .int (iz (p0))])), (sa, .inr (9, [.ref sb, .int (iz (sn)), .long (lz (st))])), (sb, zaL (G.2 0) 40 (sf)), (da, .inr (9, [.ref db, .int (iz (dn)), .long (lz (dt))])), (db, zaL (G.2 0) 40 (df)), (wa, .inr (9, [.ref wb, .int (iz (wn)), .long (lz (wt))])), (wb, zaL (G.2 0) 40 (wf)), (r, .inr (5, [.int (iz (md))]))] := hD
  have hl : lv_has ls 6 [(0, .ref y), (1, .int (iz (ag))), (2, .long (lz (mo))), (4, .int (iz (po))), (5, .ref r)] := hl
  rw [← hH, ← hlo]
  have hrg := zq_rng h3
  have hl1 := hlv.1
  have hfa := hlv.2.1 ag ha.1 ha.2
  have hT := hlv.T ha h3
  have hw9 := zlw_b (mo := mo) (D := f ag * zqu po ^ (ags - 1 - ag).toNat) hT hfa.1 (by omega) h1 rfl
  have hg9 := fun md => zlw_g (md := md) (mo := mo) (N := zLs f ags ag po) (T := zrow (zqu po) (zqd po) (zlf f ag) (ags - 1 - ag).toNat) (A := f ag) (po := po) (n := (ags - 1 - ag).toNat) (zrow_gn _ po _) hw9.1
  refine lv_aload_n hx hb dX2_worthOfLife_0 rfl (lv_at hl 0 rfl) ?_
  refine lv_aload_n hx hb dX2_worthOfLife_1 rfl (lv_at hl 0 rfl) ?_
  refine va_get (D := G.1) (ci := 3) (v := .ref q) (C := RX2) (T := TX2) (N := 4) hx hb hts iwX2 hown hK hP 0 rfl rfl 1 (by decide) (hts (.fieldLink RX2 18 "AnnuityHouse$Lives" "flow" "LAnnuityHouse$Flow;") (by decide +kernel)) (fun _ h9 => h9) rfl dX2_worthOfLife_2 ?_
  refine lv_iload_n hx hb dX2_worthOfLife_5 rfl (lv_at hl 1 rfl) ?_
  refine lv_iload hx hb dX2_worthOfLife_6 (lv_at hl 3 rfl) ?_
  refine zc_v (wr := [(wa, .inr (9, [.ref wb, .int (iz (wn)), .long (lz (wt))])), (wb, zaL (G.2 0) 40 (wf)), (r, .inr (5, [.int (iz (md))]))]) (va_runV (As := [.ref q, .int (iz (ag)), .int (iz (po))]) (rest := []) ⟨hx, hb, hml, hown, hts⟩ (c_X2_carryLife l G y lv q bq q wa f ags sa sb sf sn st da db df dn dt u0 d0 p0 ag po (by omega) (by omega) (by omega) H.size) (cwV 3 hts gX2_worthOfLife_X2_carryLife rfl rfl rfl (by decide +kernel) ⟨Nat.le_of_ble_eq_true rfl, Nat.le_of_ble_eq_true rfl⟩) (zpV hKX hP hD [0, 1, 2, 3, 4, 5, 6] rfl rfl 0 3 rfl rfl) rfl rfl hl.1 rfl (lv_room (Nat.le_of_ble_eq_true rfl)) dX2_worthOfLife_8 ⟨(by first | exact Nat.le_of_ble_eq_true rfl | (show _ ≤ (1 : Nat); omega)), (by first | exact Nat.le_of_ble_eq_true rfl | (show _ ≤ (6 : Nat); omega))⟩) hP hD hS hA [0, 1, 2, 3, 4, 5, 6] [7, 8, 9] rfl rfl rfl (by decide) (fun u_1 H locs hc hP hD hS => ?_)
  obtain ⟨sf1, sn1, st1, df1, dn1, dt1, p1⟩ := u_1
  have hP : va_P G.1 vwCl [(wa, .inr (9, [.ref wb, .int (iz (wn)), .long (lz (wt))])), (wb, zaL (G.2 0) 40 (wf)), (r, .inr (5, [.int (iz (md))])), (y, .inr (3, [.ref lv, .ref q, .ref bq, .int (iz (ags))])), (lv, zaI (G.2 1) 30 (f)), (q, .inr (2, [.ref sa, .ref da, .ref wa, .long (lz (zqu po)), .long (lz (zqd po)), .int (iz (p1))])), (sa, .inr (9, [.ref sb, .int (iz (sn1)), .long (lz (st1))])), (sb, zaL (G.2 0) 40 (sf1)), (da, .inr (9, [.ref db, .int (iz (dn1)), .long (lz (dt1))])), (db, zaL (G.2 0) 40 (df1))] H := hP
  have hD : va_D A [(wa, .inr (9, [.ref wb, .int (iz (wn)), .long (lz (wt))])), (wb, zaL (G.2 0) 40 (wf)), (r, .inr (5, [.int (iz (md))])), (y, .inr (3, [.ref lv, .ref q, .ref bq, .int (iz (ags))])), (lv, zaI (G.2 1) 30 (f)), (q, .inr (2, [.ref sa, .ref da, .ref wa, .long (lz (zqu po)), .long (lz (zqd po)), .int (iz (p1))])), (sa, .inr (9, [.ref sb, .int (iz (sn1)), .long (lz (st1))])), (sb, zaL (G.2 0) 40 (sf1)), (da, .inr (9, [.ref db, .int (iz (dn1)), .long (lz (dt1))])), (db, zaL (G.2 0) 40 (df1))] := hD
  have hc : zwv sf1 sn1 st1 (zrow (zqu po) (zqd po) (zlf f ag) (ags - 1 - ag).toNat) ∧ p1 = ags - 1 - ag := hc
  refine lv_aload_n hx hb dX2_worthOfLife_11 rfl (lv_at hl 0 rfl) ?_
  refine va_get (D := G.1) (ci := 3) (v := .ref q) (C := RX2) (T := TX2) (N := 4) hx hb hts iwX2 hown hK hP 3 rfl rfl 1 (by decide) (hts (.fieldLink RX2 18 "AnnuityHouse$Lives" "flow" "LAnnuityHouse$Flow;") (by decide +kernel)) (fun _ h9 => h9) rfl dX2_worthOfLife_12 ?_
  refine va_get (D := G.1) (ci := 2) (v := .ref sa) (C := RX1) (T := TX1) (N := 6) hx hb hts iwX1 hown hK hP 5 rfl rfl 0 (by decide) (hts (.fieldLink RX2 34 "AnnuityHouse$Flow" "sum" "LAnnuityHouse$Whole;") (by decide +kernel)) (fun _ h9 => h9) rfl dX2_worthOfLife_15 ?_
  refine lv_lload_n hx hb dX2_worthOfLife_18 rfl (lv_at hl 2 rfl) ?_
  refine zc_v (wr := [(wa, .inr (9, [.ref wb, .int (iz (wn)), .long (lz (wt))])), (wb, zaL (G.2 0) 40 (wf)), (r, .inr (5, [.int (iz (md))])), (y, .inr (3, [.ref lv, .ref q, .ref bq, .int (iz (ags))])), (lv, zaI (G.2 1) 30 (f)), (q, .inr (2, [.ref sa, .ref da, .ref wa, .long (lz (zqu po)), .long (lz (zqd po)), .int (iz (p1))])), (da, .inr (9, [.ref db, .int (iz (dn1)), .long (lz (dt1))])), (db, zaL (G.2 0) 40 (df1))]) (va_runV (As := [.long (lz (mo))]) (rest := []) ⟨hx, hb, hml, hown, hts⟩ (c_X8_times l G sa sb sf1 sn1 st1 (zrow (zqu po) (zqd po) (zlf f ag) (ags - 1 - ag).toNat) mo (hc.1) (zwv_small hc.1 (k := 37) (by have := z35_37; omega) (by have := z35_37; omega)) (by omega) H.size) (cwV 1 hts gX2_worthOfLife_X8_times rfl rfl rfl (by decide +kernel) ⟨Nat.le_of_ble_eq_true rfl, Nat.le_of_ble_eq_true rfl⟩) (zpV hKX hP hD [6, 7] rfl rfl 6 9 rfl rfl) rfl rfl hl.1 rfl (lv_room (Nat.le_of_ble_eq_true rfl)) dX2_worthOfLife_19 ⟨(by first | exact Nat.le_of_ble_eq_true rfl | (show _ ≤ (1 : Nat); omega)), (by first | exact Nat.le_of_ble_eq_true rfl | (show _ ≤ (6 : Nat); omega))⟩) hP hD hS hA [6, 7] [0, 1, 2, 3, 4, 5, 8, 9] rfl rfl rfl (by decide) (fun u_4 H locs hs3 hP hD hS => ?_)
  obtain ⟨sf3, sn3, st3⟩ := u_4
  have hP : va_P G.1 vwCl [(wa, .inr (9, [.ref wb, .int (iz (wn)), .long (lz (wt))])), (wb, zaL (G.2 0) 40 (wf)), (r, .inr (5, [.int (iz (md))])), (y, .inr (3, [.ref lv, .ref q, .ref bq, .int (iz (ags))])), (lv, zaI (G.2 1) 30 (f)), (q, .inr (2, [.ref sa, .ref da, .ref wa, .long (lz (zqu po)), .long (lz (zqd po)), .int (iz (p1))])), (da, .inr (9, [.ref db, .int (iz (dn1)), .long (lz (dt1))])), (db, zaL (G.2 0) 40 (df1)), (sa, .inr (9, [.ref sb, .int (iz (sn3)), .long (lz (st3))])), (sb, zaL (G.2 0) 40 (sf3))] H := hP
  have hD : va_D A [(wa, .inr (9, [.ref wb, .int (iz (wn)), .long (lz (wt))])), (wb, zaL (G.2 0) 40 (wf)), (r, .inr (5, [.int (iz (md))])), (y, .inr (3, [.ref lv, .ref q, .ref bq, .int (iz (ags))])), (lv, zaI (G.2 1) 30 (f)), (q, .inr (2, [.ref sa, .ref da, .ref wa, .long (lz (zqu po)), .long (lz (zqd po)), .int (iz (p1))])), (da, .inr (9, [.ref db, .int (iz (dn1)), .long (lz (dt1))])), (db, zaL (G.2 0) 40 (df1)), (sa, .inr (9, [.ref sb, .int (iz (sn3)), .long (lz (st3))])), (sb, zaL (G.2 0) 40 (sf3))] := hD
  have hs3 : zwv sf3 sn3 st3 ((zrow (zqu po) (zqd po) (zlf f ag) (ags - 1 - ag).toNat) * mo) := hs3
  refine lv_aload hx hb dX2_worthOfLife_22 (lv_at hl 4 rfl) ?_
  refine lv_aload_n hx hb dX2_worthOfLife_24 rfl (lv_at hl 0 rfl) ?_
  refine va_get (D := G.1) (ci := 3) (v := .ref q) (C := RX2) (T := TX2) (N := 4) hx hb hts iwX2 hown hK hP 3 rfl rfl 1 (by decide) (hts (.fieldLink RX2 18 "AnnuityHouse$Lives" "flow" "LAnnuityHouse$Flow;") (by decide +kernel)) (fun _ h9 => h9) rfl dX2_worthOfLife_25 ?_
  refine va_get (D := G.1) (ci := 2) (v := .ref sa) (C := RX1) (T := TX1) (N := 6) hx hb hts iwX1 hown hK hP 5 rfl rfl 0 (by decide) (hts (.fieldLink RX2 34 "AnnuityHouse$Flow" "sum" "LAnnuityHouse$Whole;") (by decide +kernel)) (fun _ h9 => h9) rfl dX2_worthOfLife_28 ?_
  refine lv_aload_n hx hb dX2_worthOfLife_31 rfl (lv_at hl 0 rfl) ?_
  refine va_get (D := G.1) (ci := 3) (v := .ref q) (C := RX2) (T := TX2) (N := 4) hx hb hts iwX2 hown hK hP 3 rfl rfl 1 (by decide) (hts (.fieldLink RX2 18 "AnnuityHouse$Lives" "flow" "LAnnuityHouse$Flow;") (by decide +kernel)) (fun _ h9 => h9) rfl dX2_worthOfLife_32 ?_
  refine lv_aload_n hx hb dX2_worthOfLife_35 rfl (lv_at hl 0 rfl) ?_
  refine va_get (D := G.1) (ci := 3) (v := .ref lv) (C := RX2) (T := TX2) (N := 4) hx hb hts iwX2 hown hK hP 3 rfl rfl 0 (by decide) (hts (.fieldLink RX2 9 "AnnuityHouse$Lives" "left" "[I") (by decide +kernel)) (fun _ h9 => h9) rfl dX2_worthOfLife_36 ?_
  refine lv_iload_n hx hb dX2_worthOfLife_39 rfl (lv_at hl 1 rfl) ?_
  refine zr_iald hx hb hK hP 4 1 rfl rfl (i := ag) (⟨by omega, by omega, by omega⟩) dX2_worthOfLife_40 ?_
  refine zr_i2l hx hb (x := f ag) (⟨by omega, by omega⟩) dX2_worthOfLife_41 ?_
  refine lv_aload_n hx hb dX2_worthOfLife_42 rfl (lv_at hl 0 rfl) ?_
  refine va_get (D := G.1) (ci := 3) (v := .ref q) (C := RX2) (T := TX2) (N := 4) hx hb hts iwX2 hown hK hP 3 rfl rfl 1 (by decide) (hts (.fieldLink RX2 18 "AnnuityHouse$Lives" "flow" "LAnnuityHouse$Flow;") (by decide +kernel)) (fun _ h9 => h9) rfl dX2_worthOfLife_43 ?_
  refine va_get (D := G.1) (ci := 2) (v := .int (iz (p1))) (C := RX1) (T := TX1) (N := 6) hx hb hts iwX1 hown hK hP 5 rfl rfl 5 (by decide) (hts (.fieldLink RX2 44 "AnnuityHouse$Flow" "periods" "I") (by decide +kernel)) (fun _ h9 => h9) rfl dX2_worthOfLife_46 ?_
  have hpn : p1.toNat = (ags - 1 - ag).toNat := by rw [hc.2]
  refine zc_r (wr := [(r, .inr (5, [.int (iz (md))])), (y, .inr (3, [.ref lv, .ref q, .ref bq, .int (iz (ags))])), (lv, zaI (G.2 1) 30 (f)), (da, .inr (9, [.ref db, .int (iz (dn1)), .long (lz (dt1))])), (db, zaL (G.2 0) 40 (df1)), (sa, .inr (9, [.ref sb, .int (iz (sn3)), .long (lz (st3))])), (sb, zaL (G.2 0) 40 (sf3))]) (va_runV (As := [.long (lz (f ag)), .int (iz (p1))]) (rest := [.ref sa, .ref r]) ⟨hx, hb, hml, hown, hts⟩ (c_X1_upPower l G q sa da wa wb wf wn wt (zqu po) (zqd po) p1 (f ag) p1 (by omega) (by omega) (by omega) (by rw [hpn]; have := z35_37; omega) H.size) (cwV 2 hts gX2_worthOfLife_X1_upPower rfl rfl rfl (by decide +kernel) ⟨Nat.le_of_ble_eq_true rfl, Nat.le_of_ble_eq_true rfl⟩) (zpV hKX hP hD [5, 0, 1] rfl rfl 5 2 rfl rfl) rfl rfl hl.1 rfl (lv_room (Nat.le_of_ble_eq_true rfl)) dX2_worthOfLife_49 ⟨(by first | exact Nat.le_of_ble_eq_true rfl | (show _ ≤ (1 : Nat); omega)), (by first | exact Nat.le_of_ble_eq_true rfl | (show _ ≤ (6 : Nat); omega))⟩) hP hD hS hA [5, 0, 1] [2, 3, 4, 6, 7, 8, 9] rfl rfl rfl (by decide) (fun u_7 rw_ H locs hw hP hD hS => ?_)
  obtain ⟨wf1, wn1, wt1⟩ := u_7
  have hP : va_P G.1 vwCl [(r, .inr (5, [.int (iz (md))])), (y, .inr (3, [.ref lv, .ref q, .ref bq, .int (iz (ags))])), (lv, zaI (G.2 1) 30 (f)), (da, .inr (9, [.ref db, .int (iz (dn1)), .long (lz (dt1))])), (db, zaL (G.2 0) 40 (df1)), (sa, .inr (9, [.ref sb, .int (iz (sn3)), .long (lz (st3))])), (sb, zaL (G.2 0) 40 (sf3)), (q, .inr (2, [.ref sa, .ref da, .ref wa, .long (lz ((zqu po))), .long (lz ((zqd po))), .int (iz (p1))])), (wa, .inr (9, [.ref wb, .int (iz (wn1)), .long (lz (wt1))])), (wb, zaL (G.2 0) 40 (wf1))] H := hP
  have hD : va_D A [(r, .inr (5, [.int (iz (md))])), (y, .inr (3, [.ref lv, .ref q, .ref bq, .int (iz (ags))])), (lv, zaI (G.2 1) 30 (f)), (da, .inr (9, [.ref db, .int (iz (dn1)), .long (lz (dt1))])), (db, zaL (G.2 0) 40 (df1)), (sa, .inr (9, [.ref sb, .int (iz (sn3)), .long (lz (st3))])), (sb, zaL (G.2 0) 40 (sf3)), (q, .inr (2, [.ref sa, .ref da, .ref wa, .long (lz ((zqu po))), .long (lz ((zqd po))), .int (iz (p1))])), (wa, .inr (9, [.ref wb, .int (iz (wn1)), .long (lz (wt1))])), (wb, zaL (G.2 0) 40 (wf1))] := hD
  have hw : rw_ = wa ∧ zwv wf1 wn1 wt1 ((f ag) * (zqu po) ^ p1.toNat) := hw
  rw [show rw_ = wa from hw.1]
  rw [hpn] at hw
  refine zct_l (wr := [(y, .inr (3, [.ref lv, .ref q, .ref bq, .int (iz (ags))])), (lv, zaI (G.2 1) 30 (f)), (da, .inr (9, [.ref db, .int (iz (dn1)), .long (lz (dt1))])), (db, zaL (G.2 0) 40 (df1)), (q, .inr (2, [.ref sa, .ref da, .ref wa, .long (lz ((zqu po))), .long (lz ((zqd po))), .int (iz (p1))]))]) (vx_runV (As := [.ref sa, .ref wa]) (rest := []) ⟨hx, hb, hml, hown, hts⟩ (c_X4_ratio_ l G s1 s2 s3 r md sa sb sf3 sn3 st3 wa wb wf1 wn1 wt1 (zrow (zqu po) (zqd po) (zlf f ag) (ags - 1 - ag).toNat * mo) (f ag * zqu po ^ (ags - 1 - ag).toNat) hl0 (by omega) (hs3) (hw.2) (hw9.1) (hw9.2.2.2.1) (hw9.2.1) (hw9.2.2.2.2) H.size) (cwV 2 hts gX2_worthOfLife_X4_ratio_ rfl rfl rfl (by decide +kernel) ⟨Nat.le_of_ble_eq_true rfl, Nat.le_of_ble_eq_true rfl⟩) (zpVe zXE_ok hE hS hA hKX hP hD [0, 5, 6, 8, 9] rfl rfl (va_recv hK hP (ci := 5) (q0 := 0) rfl rfl)) rfl rfl hl.1 rfl (lv_room (Nat.le_of_ble_eq_true rfl)) dX2_worthOfLife_52 ⟨(by first | exact Nat.le_of_ble_eq_true rfl | (show _ ≤ (1 : Nat); omega)), (by first | exact Nat.le_of_ble_eq_true rfl | (show _ ≤ (6 : Nat); omega))⟩) hP hD hS hA [0, 5, 6, 8, 9] [1, 2, 3, 4, 7] rfl rfl rfl (by decide) (fun E9 ce9 q9 ux_16 H locs hx9_17 hP hD hS hce9 hcv9 hcl9 => ?_) (fun zz u_15 H locs hz hP hD hS => ?_)
  ·
    obtain ⟨of2_9, on2_10, ot2_11, uf2_12, un2_13, ut2_14⟩ := ux_16
    have hP : va_P G.1 vwCl [(y, .inr (3, [.ref lv, .ref q, .ref bq, .int (iz (ags))])), (lv, zaI (G.2 1) 30 (f)), (da, .inr (9, [.ref db, .int (iz (dn1)), .long (lz (dt1))])), (db, zaL (G.2 0) 40 (df1)), (q, .inr (2, [.ref sa, .ref da, .ref wa, .long (lz ((zqu po))), .long (lz ((zqd po))), .int (iz (p1))])), (r, .inr (5, [.int (iz (md))])), (sa, .inr (9, [.ref sb, .int (iz (on2_10)), .long (lz (ot2_11))])), (sb, zaL (G.2 0) 40 (of2_9)), (wa, .inr (9, [.ref wb, .int (iz (un2_13)), .long (lz (ut2_14))])), (wb, zaL (G.2 0) 40 (uf2_12))] H := hP
    have hD : va_D A [(y, .inr (3, [.ref lv, .ref q, .ref bq, .int (iz (ags))])), (lv, zaI (G.2 1) 30 (f)), (da, .inr (9, [.ref db, .int (iz (dn1)), .long (lz (dt1))])), (db, zaL (G.2 0) 40 (df1)), (q, .inr (2, [.ref sa, .ref da, .ref wa, .long (lz ((zqu po))), .long (lz ((zqd po))), .int (iz (p1))])), (r, .inr (5, [.int (iz (md))])), (sa, .inr (9, [.ref sb, .int (iz (on2_10)), .long (lz (ot2_11))])), (sb, zaL (G.2 0) 40 (of2_9)), (wa, .inr (9, [.ref wb, .int (iz (un2_13)), .long (lz (ut2_14))])), (wb, zaL (G.2 0) 40 (uf2_12))] := hD
    rcases hx9_17 with ⟨rfl, hxc⟩
    ·
      have hxc : md = 7 ∧ ((zrow (zqu po) (zqd po) (zlf f ag) (ags - 1 - ag).toNat * mo).natAbs : Int) % (f ag * zqu po ^ (ags - 1 - ag).toNat) ≠ 0 := hxc
      rw [hQ]
      exact zt_out (of2_9, on2_10, ot2_11, df1, dn1, dt1, uf2_12, un2_13, ut2_14, p1) hout hlocks hce9 hcv9 hcl9 (hP.sub [0, 1, 4, 6, 7, 2, 3, 8, 9, 5] rfl) (hD.sub [0, 1, 4, 6, 7, 2, 3, 8, 9, 5] (by decide) rfl) hS ⟨rfl, (show md = 7 ∧ zLs f ags ag po * mo % (f ag * (100000 + po) ^ (ags - 1 - ag).toNat) ≠ 0 from ⟨hxc.1, fun q => hxc.2 ((znz hw9.1).mpr ((hg9 0).2.mpr q))⟩)⟩ (by first | exact Nat.le_of_ble_eq_true rfl | omega) (by first | exact Nat.le_of_ble_eq_true rfl | omega)
  obtain ⟨sf2, sn2, st2, wf2, wn2, wt2⟩ := u_15
  have hP : va_P G.1 vwCl [(y, .inr (3, [.ref lv, .ref q, .ref bq, .int (iz (ags))])), (lv, zaI (G.2 1) 30 (f)), (da, .inr (9, [.ref db, .int (iz (dn1)), .long (lz (dt1))])), (db, zaL (G.2 0) 40 (df1)), (q, .inr (2, [.ref sa, .ref da, .ref wa, .long (lz ((zqu po))), .long (lz ((zqd po))), .int (iz (p1))])), (r, .inr (5, [.int (iz (md))])), (sa, .inr (9, [.ref sb, .int (iz (sn2)), .long (lz (st2))])), (sb, zaL (G.2 0) 40 (sf2)), (wa, .inr (9, [.ref wb, .int (iz (wn2)), .long (lz (wt2))])), (wb, zaL (G.2 0) 40 (wf2))] H := hP
  have hD : va_D A [(y, .inr (3, [.ref lv, .ref q, .ref bq, .int (iz (ags))])), (lv, zaI (G.2 1) 30 (f)), (da, .inr (9, [.ref db, .int (iz (dn1)), .long (lz (dt1))])), (db, zaL (G.2 0) 40 (df1)), (q, .inr (2, [.ref sa, .ref da, .ref wa, .long (lz ((zqu po))), .long (lz ((zqd po))), .int (iz (p1))])), (r, .inr (5, [.int (iz (md))])), (sa, .inr (9, [.ref sb, .int (iz (sn2)), .long (lz (st2))])), (sb, zaL (G.2 0) 40 (sf2)), (wa, .inr (9, [.ref wb, .int (iz (wn2)), .long (lz (wt2))])), (wb, zaL (G.2 0) 40 (wf2))] := hD
  have hz : (((zrow (zqu po) (zqd po) (zlf f ag) (ags - 1 - ag).toNat * mo).natAbs : Int) % (f ag * zqu po ^ (ags - 1 - ag).toNat) = 0 ∨ md ≠ 7) ∧ zz = zrd md (zrow (zqu po) (zqd po) (zlf f ag) (ags - 1 - ag).toNat * mo) (f ag * zqu po ^ (ags - 1 - ag).toNat) := hz
  rw [hQ]
  exact vx_ret (zr_lret (z := zz) (u := (sf2, sn2, st2, df1, dn1, dt1, wf2, wn2, wt2, p1)) hx hb hr hlocks (hP.sub [0, 1, 4, 6, 7, 2, 3, 8, 9, 5] rfl) (hD.sub [0, 1, 4, 6, 7, 2, 3, 8, 9, 5] (by decide) rfl) hS (by first | exact Nat.le_of_ble_eq_true rfl | omega) (by first | exact Nat.le_of_ble_eq_true rfl | omega) dX2_worthOfLife_55 (show (zLs f ags ag po * mo % (f ag * (100000 + po) ^ (ags - 1 - ag).toNat) = 0 ∨ md ≠ 7) ∧ zz = zrd md (zLs f ags ag po * mo) (f ag * (100000 + po) ^ (ags - 1 - ag).toNat) from ⟨hz.1.elim (fun q => Or.inl ((hg9 0).2.mp ((znz hw9.1).mp q))) Or.inr, hz.2.trans (hg9 md).1⟩))

def rm_c_X2_worthOfDeath : Room := { frames := 9, cells := 1, slots := 6, locals := 162 }
theorem iw_X2_worthOfDeath_X1 : ∀ w ∈ wsX10, w ∈ wsX2_worthOfDeath := by decide +kernel
theorem iw_X2_worthOfDeath_X2 : ∀ w ∈ wsX20, w ∈ wsX2_worthOfDeath := by decide +kernel
set_option maxHeartbeats 1000000 in
set_option maxRecDepth 100000 in
theorem c_X2_worthOfDeath (l : Launch) (G : zG) (s1 : Nat) (s2 : Nat) (s3 : Nat) (y : Nat) (lv : Nat) (q : Nat) (bq : Nat) (f : Int → Int) (ags : Int) (r : Nat) (md : Int) (sa : Nat) (sb : Nat) (sf : Int → Int) (sn : Int) (st : Int) (da : Nat) (db : Nat) (df : Int → Int) (dn : Int) (dt : Int) (wa : Nat) (wb : Nat) (wf : Int → Int) (wn : Int) (wt : Int) (u0 : Int) (d0 : Int) (p0 : Int) (ag : Int) (mo : Int) (po : Int) (hl0 : l.stackTraces = false) (hmd : 0 ≤ md ∧ md ≤ 7) (hlv : zlok f ags) (ha : 0 ≤ ag ∧ ag < ags) (h1 : 0 ≤ mo ∧ mo ≤ 1000000000) (h3 : 0 ≤ po ∧ po ≤ 20000) : zMt l (zXE s1 s2 s3) G yX2_worthOfDeath wsX2_worthOfDeath rm_c_X2_worthOfDeath [.ref y, .int (iz (ag)), .long (lz (mo)), .int (iz (po)), .ref r] [(y, .inr (3, [.ref lv, .ref q, .ref bq, .int (iz (ags))])), (lv, zaI (G.2 1) 30 (f)), (q, .inr (2, [.ref sa, .ref da, .ref wa, .long (lz (u0)), .long (lz (d0)), .int (iz (p0))])), (sa, .inr (9, [.ref sb, .int (iz (sn)), .long (lz (st))])), (sb, zaL (G.2 0) 40 (sf)), (da, .inr (9, [.ref db, .int (iz (dn)), .long (lz (dt))])), (db, zaL (G.2 0) 40 (df)), (wa, .inr (9, [.ref wb, .int (iz (wn)), .long (lz (wt))])), (wb, zaL (G.2 0) 40 (wf)), (r, .inr (5, [.int (iz (md))]))] (fun A => zQl G (fun (z : Int) (u : (Int → Int) × Int × Int × (Int → Int) × Int × Int × (Int → Int) × Int × Int × Int) => (zDs f ags ag po * mo % (f ag * (100000 + po) ^ (ags - ag).toNat) = 0 ∨ md ≠ 7) ∧ z = zrd md (zDs f ags ag po * mo) (f ag * (100000 + po) ^ (ags - ag).toNat)) (fun (u : (Int → Int) × Int × Int × (Int → Int) × Int × Int × (Int → Int) × Int × Int × Int) => [(y, .inr (3, [.ref lv, .ref q, .ref bq, .int (iz (ags))])), (lv, zaI (G.2 1) 30 (f)), (q, .inr (2, [.ref sa, .ref da, .ref wa, .long (lz (zqu po)), .long (lz (zqd po)), .int (iz (u.2.2.2.2.2.2.2.2.2))])), (sa, .inr (9, [.ref sb, .int (iz (u.2.1)), .long (lz (u.2.2.1))])), (sb, zaL (G.2 0) 40 (u.1)), (da, .inr (9, [.ref db, .int (iz (u.2.2.2.2.1)), .long (lz (u.2.2.2.2.2.1))])), (db, zaL (G.2 0) 40 (u.2.2.2.1)), (wa, .inr (9, [.ref wb, .int (iz (u.2.2.2.2.2.2.2.1)), .long (lz (u.2.2.2.2.2.2.2.2.1))])), (wb, zaL (G.2 0) 40 (u.2.2.2.2.2.2.1)), (r, .inr (5, [.int (iz (md))]))]) A) (SX := (Int → Int) × Int × Int × (Int → Int) × Int × Int × (Int → Int) × Int × Int × Int) (fun (E9 : String) (ux : (Int → Int) × Int × Int × (Int → Int) × Int × Int × (Int → Int) × Int × Int × Int) => (E9 = "java/lang/IllegalStateException" ∧ md = 7 ∧ zDs f ags ag po * mo % (f ag * (100000 + po) ^ (ags - ag).toNat) ≠ 0)) (fun (ux : (Int → Int) × Int × Int × (Int → Int) × Int × Int × (Int → Int) × Int × Int × Int) => [(y, .inr (3, [.ref lv, .ref q, .ref bq, .int (iz (ags))])), (lv, zaI (G.2 1) 30 (f)), (q, .inr (2, [.ref sa, .ref da, .ref wa, .long (lz (zqu po)), .long (lz (zqd po)), .int (iz (ux.2.2.2.2.2.2.2.2.2))])), (sa, .inr (9, [.ref sb, .int (iz (ux.2.1)), .long (lz (ux.2.2.1))])), (sb, zaL (G.2 0) 40 (ux.1)), (da, .inr (9, [.ref db, .int (iz (ux.2.2.2.2.1)), .long (lz (ux.2.2.2.2.2.1))])), (db, zaL (G.2 0) 40 (ux.2.2.2.1)), (wa, .inr (9, [.ref wb, .int (iz (ux.2.2.2.2.2.2.2.1)), .long (lz (ux.2.2.2.2.2.2.2.2.1))])), (wb, zaL (G.2 0) 40 (ux.2.2.2.2.2.2.1)), (r, .inr (5, [.int (iz (md))]))]) 1 6 := by
  refine zMt_of (cc := cX2_worthOfDeath) (maxL := 6) (ret := (some .long)) (by decide) rfl (Nat.le_of_ble_eq_true rfl) ?_
  intro p e s m below meth c ls A Q hQ hx hb hr hts hown hlocks hml hout hKX hE hP hD hA hS hl
  have hK := hKX.1
  have iwX1 := iw_X2_worthOfDeath_X1
  have iwX2 := iw_X2_worthOfDeath_X2
  obtain ⟨H, hH⟩ : ∃ h, h = s.heap := ⟨_, rfl⟩
  obtain ⟨locs, hlo⟩ : ∃ h : List Loc, h = [] := ⟨_, rfl⟩
  have hS : va_S A s.heap H locs := by rw [hH, hlo]; exact hS
  have hP : va_P G.1 vwCl [(y, .inr (3, [.ref lv, .ref q, .ref bq, .int (iz (ags))])), (lv, zaI (G.2 1) 30 (f)), (q, .inr (2, [.ref sa, .ref da, .ref wa, .long (lz (u0)), .long (lz (d0)), .int (iz (p0))])), (sa, .inr (9, [.ref sb, .int (iz (sn)), .long (lz (st))])), (sb, zaL (G.2 0) 40 (sf)), (da, .inr (9, [.ref db, .int (iz (dn)), .long (lz (dt))])), (db, zaL (G.2 0) 40 (df)), (wa, .inr (9, [.ref wb, .int (iz (wn)), .long (lz (wt))])), (wb, zaL (G.2 0) 40 (wf)), (r, .inr (5, [.int (iz (md))]))] H := by rw [hH]; exact hP
  have hD : va_D A [(y, .inr (3, [.ref lv, .ref q, .ref bq, .int (iz (ags))])), (lv, zaI (G.2 1) 30 (f)), (q, .inr (2, [.ref sa, .ref da, .ref wa, .long (lz (u0)), .long (lz (d0)), .int (iz (p0))])), (sa, .inr (9, [.ref sb, .int (iz (sn)), .long (lz (st))])), (sb, zaL (G.2 0) 40 (sf)), (da, .inr (9, [.ref db, .int (iz (dn)), .long (lz (dt))])), (db, zaL (G.2 0) 40 (df)), (wa, .inr (9, [.ref wb, .int (iz (wn)), .long (lz (wt))])), (wb, zaL (G.2 0) 40 (wf)), (r, .inr (5, [.int (iz (md))]))] := hD
  have hl : lv_has ls 6 [(0, .ref y), (1, .int (iz (ag))), (2, .long (lz (mo))), (4, .int (iz (po))), (5, .ref r)] := hl
  rw [← hH, ← hlo]
  have hrg := zq_rng h3
  have hl1 := hlv.1
  have hfa := hlv.2.1 ag ha.1 ha.2
  have hT := hlv.TD ha h3
  have hw9 := zlw_b (mo := mo) (D := f ag * zqu po ^ (ags - ag).toNat) hT hfa.1 (by omega) h1 rfl
  have hg9 := fun md => zlw_g (md := md) (mo := mo) (N := zDs f ags ag po) (T := zrow (zqu po) (zqd po) (zdf f ags ag) (ags - ag).toNat) (A := f ag) (po := po) (n := (ags - ag).toNat) (zrow_gn _ po _) hw9.1
  refine lv_aload_n hx hb dX2_worthOfDeath_0 rfl (lv_at hl 0 rfl) ?_
  refine lv_aload_n hx hb dX2_worthOfDeath_1 rfl (lv_at hl 0 rfl) ?_
  refine va_get (D := G.1) (ci := 3) (v := .ref q) (C := RX2) (T := TX2) (N := 4) hx hb hts iwX2 hown hK hP 0 rfl rfl 1 (by decide) (hts (.fieldLink RX2 18 "AnnuityHouse$Lives" "flow" "LAnnuityHouse$Flow;") (by decide +kernel)) (fun _ h9 => h9) rfl dX2_worthOfDeath_2 ?_
  refine lv_iload_n hx hb dX2_worthOfDeath_5 rfl (lv_at hl 1 rfl) ?_
  refine lv_iload hx hb dX2_worthOfDeath_6 (lv_at hl 3 rfl) ?_
  refine zc_v (wr := [(wa, .inr (9, [.ref wb, .int (iz (wn)), .long (lz (wt))])), (wb, zaL (G.2 0) 40 (wf)), (r, .inr (5, [.int (iz (md))]))]) (va_runV (As := [.ref q, .int (iz (ag)), .int (iz (po))]) (rest := []) ⟨hx, hb, hml, hown, hts⟩ (c_X2_carryDeath l G y lv q bq q wa f ags sa sb sf sn st da db df dn dt u0 d0 p0 ag po (by omega) (by omega) (by omega) H.size) (cwV 3 hts gX2_worthOfDeath_X2_carryDeath rfl rfl rfl (by decide +kernel) ⟨Nat.le_of_ble_eq_true rfl, Nat.le_of_ble_eq_true rfl⟩) (zpV hKX hP hD [0, 1, 2, 3, 4, 5, 6] rfl rfl 0 3 rfl rfl) rfl rfl hl.1 rfl (lv_room (Nat.le_of_ble_eq_true rfl)) dX2_worthOfDeath_8 ⟨(by first | exact Nat.le_of_ble_eq_true rfl | (show _ ≤ (1 : Nat); omega)), (by first | exact Nat.le_of_ble_eq_true rfl | (show _ ≤ (6 : Nat); omega))⟩) hP hD hS hA [0, 1, 2, 3, 4, 5, 6] [7, 8, 9] rfl rfl rfl (by decide) (fun u_1 H locs hc hP hD hS => ?_)
  obtain ⟨sf1, sn1, st1, df1, dn1, dt1, p1⟩ := u_1
  have hP : va_P G.1 vwCl [(wa, .inr (9, [.ref wb, .int (iz (wn)), .long (lz (wt))])), (wb, zaL (G.2 0) 40 (wf)), (r, .inr (5, [.int (iz (md))])), (y, .inr (3, [.ref lv, .ref q, .ref bq, .int (iz (ags))])), (lv, zaI (G.2 1) 30 (f)), (q, .inr (2, [.ref sa, .ref da, .ref wa, .long (lz (zqu po)), .long (lz (zqd po)), .int (iz (p1))])), (sa, .inr (9, [.ref sb, .int (iz (sn1)), .long (lz (st1))])), (sb, zaL (G.2 0) 40 (sf1)), (da, .inr (9, [.ref db, .int (iz (dn1)), .long (lz (dt1))])), (db, zaL (G.2 0) 40 (df1))] H := hP
  have hD : va_D A [(wa, .inr (9, [.ref wb, .int (iz (wn)), .long (lz (wt))])), (wb, zaL (G.2 0) 40 (wf)), (r, .inr (5, [.int (iz (md))])), (y, .inr (3, [.ref lv, .ref q, .ref bq, .int (iz (ags))])), (lv, zaI (G.2 1) 30 (f)), (q, .inr (2, [.ref sa, .ref da, .ref wa, .long (lz (zqu po)), .long (lz (zqd po)), .int (iz (p1))])), (sa, .inr (9, [.ref sb, .int (iz (sn1)), .long (lz (st1))])), (sb, zaL (G.2 0) 40 (sf1)), (da, .inr (9, [.ref db, .int (iz (dn1)), .long (lz (dt1))])), (db, zaL (G.2 0) 40 (df1))] := hD
  have hc : zwv sf1 sn1 st1 (zrow (zqu po) (zqd po) (zdf f ags ag) (ags - ag).toNat) ∧ p1 = ags - ag := hc
  refine lv_aload_n hx hb dX2_worthOfDeath_11 rfl (lv_at hl 0 rfl) ?_
  refine va_get (D := G.1) (ci := 3) (v := .ref q) (C := RX2) (T := TX2) (N := 4) hx hb hts iwX2 hown hK hP 3 rfl rfl 1 (by decide) (hts (.fieldLink RX2 18 "AnnuityHouse$Lives" "flow" "LAnnuityHouse$Flow;") (by decide +kernel)) (fun _ h9 => h9) rfl dX2_worthOfDeath_12 ?_
  refine va_get (D := G.1) (ci := 2) (v := .ref sa) (C := RX1) (T := TX1) (N := 6) hx hb hts iwX1 hown hK hP 5 rfl rfl 0 (by decide) (hts (.fieldLink RX2 34 "AnnuityHouse$Flow" "sum" "LAnnuityHouse$Whole;") (by decide +kernel)) (fun _ h9 => h9) rfl dX2_worthOfDeath_15 ?_
  refine lv_lload_n hx hb dX2_worthOfDeath_18 rfl (lv_at hl 2 rfl) ?_
  refine zc_v (wr := [(wa, .inr (9, [.ref wb, .int (iz (wn)), .long (lz (wt))])), (wb, zaL (G.2 0) 40 (wf)), (r, .inr (5, [.int (iz (md))])), (y, .inr (3, [.ref lv, .ref q, .ref bq, .int (iz (ags))])), (lv, zaI (G.2 1) 30 (f)), (q, .inr (2, [.ref sa, .ref da, .ref wa, .long (lz (zqu po)), .long (lz (zqd po)), .int (iz (p1))])), (da, .inr (9, [.ref db, .int (iz (dn1)), .long (lz (dt1))])), (db, zaL (G.2 0) 40 (df1))]) (va_runV (As := [.long (lz (mo))]) (rest := []) ⟨hx, hb, hml, hown, hts⟩ (c_X8_times l G sa sb sf1 sn1 st1 (zrow (zqu po) (zqd po) (zdf f ags ag) (ags - ag).toNat) mo (hc.1) (zwv_small hc.1 (k := 37) (by have := z35_37; omega) (by have := z35_37; omega)) (by omega) H.size) (cwV 1 hts gX2_worthOfDeath_X8_times rfl rfl rfl (by decide +kernel) ⟨Nat.le_of_ble_eq_true rfl, Nat.le_of_ble_eq_true rfl⟩) (zpV hKX hP hD [6, 7] rfl rfl 6 9 rfl rfl) rfl rfl hl.1 rfl (lv_room (Nat.le_of_ble_eq_true rfl)) dX2_worthOfDeath_19 ⟨(by first | exact Nat.le_of_ble_eq_true rfl | (show _ ≤ (1 : Nat); omega)), (by first | exact Nat.le_of_ble_eq_true rfl | (show _ ≤ (6 : Nat); omega))⟩) hP hD hS hA [6, 7] [0, 1, 2, 3, 4, 5, 8, 9] rfl rfl rfl (by decide) (fun u_4 H locs hs3 hP hD hS => ?_)
  obtain ⟨sf3, sn3, st3⟩ := u_4
  have hP : va_P G.1 vwCl [(wa, .inr (9, [.ref wb, .int (iz (wn)), .long (lz (wt))])), (wb, zaL (G.2 0) 40 (wf)), (r, .inr (5, [.int (iz (md))])), (y, .inr (3, [.ref lv, .ref q, .ref bq, .int (iz (ags))])), (lv, zaI (G.2 1) 30 (f)), (q, .inr (2, [.ref sa, .ref da, .ref wa, .long (lz (zqu po)), .long (lz (zqd po)), .int (iz (p1))])), (da, .inr (9, [.ref db, .int (iz (dn1)), .long (lz (dt1))])), (db, zaL (G.2 0) 40 (df1)), (sa, .inr (9, [.ref sb, .int (iz (sn3)), .long (lz (st3))])), (sb, zaL (G.2 0) 40 (sf3))] H := hP
  have hD : va_D A [(wa, .inr (9, [.ref wb, .int (iz (wn)), .long (lz (wt))])), (wb, zaL (G.2 0) 40 (wf)), (r, .inr (5, [.int (iz (md))])), (y, .inr (3, [.ref lv, .ref q, .ref bq, .int (iz (ags))])), (lv, zaI (G.2 1) 30 (f)), (q, .inr (2, [.ref sa, .ref da, .ref wa, .long (lz (zqu po)), .long (lz (zqd po)), .int (iz (p1))])), (da, .inr (9, [.ref db, .int (iz (dn1)), .long (lz (dt1))])), (db, zaL (G.2 0) 40 (df1)), (sa, .inr (9, [.ref sb, .int (iz (sn3)), .long (lz (st3))])), (sb, zaL (G.2 0) 40 (sf3))] := hD
  have hs3 : zwv sf3 sn3 st3 ((zrow (zqu po) (zqd po) (zdf f ags ag) (ags - ag).toNat) * mo) := hs3
  refine lv_aload hx hb dX2_worthOfDeath_22 (lv_at hl 4 rfl) ?_
  refine lv_aload_n hx hb dX2_worthOfDeath_24 rfl (lv_at hl 0 rfl) ?_
  refine va_get (D := G.1) (ci := 3) (v := .ref q) (C := RX2) (T := TX2) (N := 4) hx hb hts iwX2 hown hK hP 3 rfl rfl 1 (by decide) (hts (.fieldLink RX2 18 "AnnuityHouse$Lives" "flow" "LAnnuityHouse$Flow;") (by decide +kernel)) (fun _ h9 => h9) rfl dX2_worthOfDeath_25 ?_
  refine va_get (D := G.1) (ci := 2) (v := .ref sa) (C := RX1) (T := TX1) (N := 6) hx hb hts iwX1 hown hK hP 5 rfl rfl 0 (by decide) (hts (.fieldLink RX2 34 "AnnuityHouse$Flow" "sum" "LAnnuityHouse$Whole;") (by decide +kernel)) (fun _ h9 => h9) rfl dX2_worthOfDeath_28 ?_
  refine lv_aload_n hx hb dX2_worthOfDeath_31 rfl (lv_at hl 0 rfl) ?_
  refine va_get (D := G.1) (ci := 3) (v := .ref q) (C := RX2) (T := TX2) (N := 4) hx hb hts iwX2 hown hK hP 3 rfl rfl 1 (by decide) (hts (.fieldLink RX2 18 "AnnuityHouse$Lives" "flow" "LAnnuityHouse$Flow;") (by decide +kernel)) (fun _ h9 => h9) rfl dX2_worthOfDeath_32 ?_
  refine lv_aload_n hx hb dX2_worthOfDeath_35 rfl (lv_at hl 0 rfl) ?_
  refine va_get (D := G.1) (ci := 3) (v := .ref lv) (C := RX2) (T := TX2) (N := 4) hx hb hts iwX2 hown hK hP 3 rfl rfl 0 (by decide) (hts (.fieldLink RX2 9 "AnnuityHouse$Lives" "left" "[I") (by decide +kernel)) (fun _ h9 => h9) rfl dX2_worthOfDeath_36 ?_
  refine lv_iload_n hx hb dX2_worthOfDeath_39 rfl (lv_at hl 1 rfl) ?_
  refine zr_iald hx hb hK hP 4 1 rfl rfl (i := ag) (⟨by omega, by omega, by omega⟩) dX2_worthOfDeath_40 ?_
  refine zr_i2l hx hb (x := f ag) (⟨by omega, by omega⟩) dX2_worthOfDeath_41 ?_
  refine lv_aload_n hx hb dX2_worthOfDeath_42 rfl (lv_at hl 0 rfl) ?_
  refine va_get (D := G.1) (ci := 3) (v := .ref q) (C := RX2) (T := TX2) (N := 4) hx hb hts iwX2 hown hK hP 3 rfl rfl 1 (by decide) (hts (.fieldLink RX2 18 "AnnuityHouse$Lives" "flow" "LAnnuityHouse$Flow;") (by decide +kernel)) (fun _ h9 => h9) rfl dX2_worthOfDeath_43 ?_
  refine va_get (D := G.1) (ci := 2) (v := .int (iz (p1))) (C := RX1) (T := TX1) (N := 6) hx hb hts iwX1 hown hK hP 5 rfl rfl 5 (by decide) (hts (.fieldLink RX2 44 "AnnuityHouse$Flow" "periods" "I") (by decide +kernel)) (fun _ h9 => h9) rfl dX2_worthOfDeath_46 ?_
  have hpn : p1.toNat = (ags - ag).toNat := by rw [hc.2]
  refine zc_r (wr := [(r, .inr (5, [.int (iz (md))])), (y, .inr (3, [.ref lv, .ref q, .ref bq, .int (iz (ags))])), (lv, zaI (G.2 1) 30 (f)), (da, .inr (9, [.ref db, .int (iz (dn1)), .long (lz (dt1))])), (db, zaL (G.2 0) 40 (df1)), (sa, .inr (9, [.ref sb, .int (iz (sn3)), .long (lz (st3))])), (sb, zaL (G.2 0) 40 (sf3))]) (va_runV (As := [.long (lz (f ag)), .int (iz (p1))]) (rest := [.ref sa, .ref r]) ⟨hx, hb, hml, hown, hts⟩ (c_X1_upPower l G q sa da wa wb wf wn wt (zqu po) (zqd po) p1 (f ag) p1 (by omega) (by omega) (by omega) (by rw [hpn]; have := z35_37; omega) H.size) (cwV 2 hts gX2_worthOfDeath_X1_upPower rfl rfl rfl (by decide +kernel) ⟨Nat.le_of_ble_eq_true rfl, Nat.le_of_ble_eq_true rfl⟩) (zpV hKX hP hD [5, 0, 1] rfl rfl 5 2 rfl rfl) rfl rfl hl.1 rfl (lv_room (Nat.le_of_ble_eq_true rfl)) dX2_worthOfDeath_49 ⟨(by first | exact Nat.le_of_ble_eq_true rfl | (show _ ≤ (1 : Nat); omega)), (by first | exact Nat.le_of_ble_eq_true rfl | (show _ ≤ (6 : Nat); omega))⟩) hP hD hS hA [5, 0, 1] [2, 3, 4, 6, 7, 8, 9] rfl rfl rfl (by decide) (fun u_7 rw_ H locs hw hP hD hS => ?_)
  obtain ⟨wf1, wn1, wt1⟩ := u_7
  have hP : va_P G.1 vwCl [(r, .inr (5, [.int (iz (md))])), (y, .inr (3, [.ref lv, .ref q, .ref bq, .int (iz (ags))])), (lv, zaI (G.2 1) 30 (f)), (da, .inr (9, [.ref db, .int (iz (dn1)), .long (lz (dt1))])), (db, zaL (G.2 0) 40 (df1)), (sa, .inr (9, [.ref sb, .int (iz (sn3)), .long (lz (st3))])), (sb, zaL (G.2 0) 40 (sf3)), (q, .inr (2, [.ref sa, .ref da, .ref wa, .long (lz ((zqu po))), .long (lz ((zqd po))), .int (iz (p1))])), (wa, .inr (9, [.ref wb, .int (iz (wn1)), .long (lz (wt1))])), (wb, zaL (G.2 0) 40 (wf1))] H := hP
  have hD : va_D A [(r, .inr (5, [.int (iz (md))])), (y, .inr (3, [.ref lv, .ref q, .ref bq, .int (iz (ags))])), (lv, zaI (G.2 1) 30 (f)), (da, .inr (9, [.ref db, .int (iz (dn1)), .long (lz (dt1))])), (db, zaL (G.2 0) 40 (df1)), (sa, .inr (9, [.ref sb, .int (iz (sn3)), .long (lz (st3))])), (sb, zaL (G.2 0) 40 (sf3)), (q, .inr (2, [.ref sa, .ref da, .ref wa, .long (lz ((zqu po))), .long (lz ((zqd po))), .int (iz (p1))])), (wa, .inr (9, [.ref wb, .int (iz (wn1)), .long (lz (wt1))])), (wb, zaL (G.2 0) 40 (wf1))] := hD
  have hw : rw_ = wa ∧ zwv wf1 wn1 wt1 ((f ag) * (zqu po) ^ p1.toNat) := hw
  rw [show rw_ = wa from hw.1]
  rw [hpn] at hw
  refine zct_l (wr := [(y, .inr (3, [.ref lv, .ref q, .ref bq, .int (iz (ags))])), (lv, zaI (G.2 1) 30 (f)), (da, .inr (9, [.ref db, .int (iz (dn1)), .long (lz (dt1))])), (db, zaL (G.2 0) 40 (df1)), (q, .inr (2, [.ref sa, .ref da, .ref wa, .long (lz ((zqu po))), .long (lz ((zqd po))), .int (iz (p1))]))]) (vx_runV (As := [.ref sa, .ref wa]) (rest := []) ⟨hx, hb, hml, hown, hts⟩ (c_X4_ratio_ l G s1 s2 s3 r md sa sb sf3 sn3 st3 wa wb wf1 wn1 wt1 (zrow (zqu po) (zqd po) (zdf f ags ag) (ags - ag).toNat * mo) (f ag * zqu po ^ (ags - ag).toNat) hl0 (by omega) (hs3) (hw.2) (hw9.1) (hw9.2.2.2.1) (hw9.2.1) (hw9.2.2.2.2) H.size) (cwV 2 hts gX2_worthOfDeath_X4_ratio_ rfl rfl rfl (by decide +kernel) ⟨Nat.le_of_ble_eq_true rfl, Nat.le_of_ble_eq_true rfl⟩) (zpVe zXE_ok hE hS hA hKX hP hD [0, 5, 6, 8, 9] rfl rfl (va_recv hK hP (ci := 5) (q0 := 0) rfl rfl)) rfl rfl hl.1 rfl (lv_room (Nat.le_of_ble_eq_true rfl)) dX2_worthOfDeath_52 ⟨(by first | exact Nat.le_of_ble_eq_true rfl | (show _ ≤ (1 : Nat); omega)), (by first | exact Nat.le_of_ble_eq_true rfl | (show _ ≤ (6 : Nat); omega))⟩) hP hD hS hA [0, 5, 6, 8, 9] [1, 2, 3, 4, 7] rfl rfl rfl (by decide) (fun E9 ce9 q9 ux_16 H locs hx9_17 hP hD hS hce9 hcv9 hcl9 => ?_) (fun zz u_15 H locs hz hP hD hS => ?_)
  ·
    obtain ⟨of2_9, on2_10, ot2_11, uf2_12, un2_13, ut2_14⟩ := ux_16
    have hP : va_P G.1 vwCl [(y, .inr (3, [.ref lv, .ref q, .ref bq, .int (iz (ags))])), (lv, zaI (G.2 1) 30 (f)), (da, .inr (9, [.ref db, .int (iz (dn1)), .long (lz (dt1))])), (db, zaL (G.2 0) 40 (df1)), (q, .inr (2, [.ref sa, .ref da, .ref wa, .long (lz ((zqu po))), .long (lz ((zqd po))), .int (iz (p1))])), (r, .inr (5, [.int (iz (md))])), (sa, .inr (9, [.ref sb, .int (iz (on2_10)), .long (lz (ot2_11))])), (sb, zaL (G.2 0) 40 (of2_9)), (wa, .inr (9, [.ref wb, .int (iz (un2_13)), .long (lz (ut2_14))])), (wb, zaL (G.2 0) 40 (uf2_12))] H := hP
    have hD : va_D A [(y, .inr (3, [.ref lv, .ref q, .ref bq, .int (iz (ags))])), (lv, zaI (G.2 1) 30 (f)), (da, .inr (9, [.ref db, .int (iz (dn1)), .long (lz (dt1))])), (db, zaL (G.2 0) 40 (df1)), (q, .inr (2, [.ref sa, .ref da, .ref wa, .long (lz ((zqu po))), .long (lz ((zqd po))), .int (iz (p1))])), (r, .inr (5, [.int (iz (md))])), (sa, .inr (9, [.ref sb, .int (iz (on2_10)), .long (lz (ot2_11))])), (sb, zaL (G.2 0) 40 (of2_9)), (wa, .inr (9, [.ref wb, .int (iz (un2_13)), .long (lz (ut2_14))])), (wb, zaL (G.2 0) 40 (uf2_12))] := hD
    rcases hx9_17 with ⟨rfl, hxc⟩
    ·
      have hxc : md = 7 ∧ ((zrow (zqu po) (zqd po) (zdf f ags ag) (ags - ag).toNat * mo).natAbs : Int) % (f ag * zqu po ^ (ags - ag).toNat) ≠ 0 := hxc
      rw [hQ]
      exact zt_out (of2_9, on2_10, ot2_11, df1, dn1, dt1, uf2_12, un2_13, ut2_14, p1) hout hlocks hce9 hcv9 hcl9 (hP.sub [0, 1, 4, 6, 7, 2, 3, 8, 9, 5] rfl) (hD.sub [0, 1, 4, 6, 7, 2, 3, 8, 9, 5] (by decide) rfl) hS ⟨rfl, (show md = 7 ∧ zDs f ags ag po * mo % (f ag * (100000 + po) ^ (ags - ag).toNat) ≠ 0 from ⟨hxc.1, fun q => hxc.2 ((znz hw9.1).mpr ((hg9 0).2.mpr q))⟩)⟩ (by first | exact Nat.le_of_ble_eq_true rfl | omega) (by first | exact Nat.le_of_ble_eq_true rfl | omega)
  obtain ⟨sf2, sn2, st2, wf2, wn2, wt2⟩ := u_15
  have hP : va_P G.1 vwCl [(y, .inr (3, [.ref lv, .ref q, .ref bq, .int (iz (ags))])), (lv, zaI (G.2 1) 30 (f)), (da, .inr (9, [.ref db, .int (iz (dn1)), .long (lz (dt1))])), (db, zaL (G.2 0) 40 (df1)), (q, .inr (2, [.ref sa, .ref da, .ref wa, .long (lz ((zqu po))), .long (lz ((zqd po))), .int (iz (p1))])), (r, .inr (5, [.int (iz (md))])), (sa, .inr (9, [.ref sb, .int (iz (sn2)), .long (lz (st2))])), (sb, zaL (G.2 0) 40 (sf2)), (wa, .inr (9, [.ref wb, .int (iz (wn2)), .long (lz (wt2))])), (wb, zaL (G.2 0) 40 (wf2))] H := hP
  have hD : va_D A [(y, .inr (3, [.ref lv, .ref q, .ref bq, .int (iz (ags))])), (lv, zaI (G.2 1) 30 (f)), (da, .inr (9, [.ref db, .int (iz (dn1)), .long (lz (dt1))])), (db, zaL (G.2 0) 40 (df1)), (q, .inr (2, [.ref sa, .ref da, .ref wa, .long (lz ((zqu po))), .long (lz ((zqd po))), .int (iz (p1))])), (r, .inr (5, [.int (iz (md))])), (sa, .inr (9, [.ref sb, .int (iz (sn2)), .long (lz (st2))])), (sb, zaL (G.2 0) 40 (sf2)), (wa, .inr (9, [.ref wb, .int (iz (wn2)), .long (lz (wt2))])), (wb, zaL (G.2 0) 40 (wf2))] := hD
  have hz : (((zrow (zqu po) (zqd po) (zdf f ags ag) (ags - ag).toNat * mo).natAbs : Int) % (f ag * zqu po ^ (ags - ag).toNat) = 0 ∨ md ≠ 7) ∧ zz = zrd md (zrow (zqu po) (zqd po) (zdf f ags ag) (ags - ag).toNat * mo) (f ag * zqu po ^ (ags - ag).toNat) := hz
  rw [hQ]
  exact vx_ret (zr_lret (z := zz) (u := (sf2, sn2, st2, df1, dn1, dt1, wf2, wn2, wt2, p1)) hx hb hr hlocks (hP.sub [0, 1, 4, 6, 7, 2, 3, 8, 9, 5] rfl) (hD.sub [0, 1, 4, 6, 7, 2, 3, 8, 9, 5] (by decide) rfl) hS (by first | exact Nat.le_of_ble_eq_true rfl | omega) (by first | exact Nat.le_of_ble_eq_true rfl | omega) dX2_worthOfDeath_55 (show (zDs f ags ag po * mo % (f ag * (100000 + po) ^ (ags - ag).toNat) = 0 ∨ md ≠ 7) ∧ zz = zrd md (zDs f ags ag po * mo) (f ag * (100000 + po) ^ (ags - ag).toNat) from ⟨hz.1.elim (fun q => Or.inl ((hg9 0).2.mp ((znz hw9.1).mp q))) Or.inr, hz.2.trans (hg9 md).1⟩))
