-- THE REFERENCE'S WHOLE NUMBERS: contracts, fourth part (laid by wip/walk/x11d.py)
-- dividing by hand
theorem tld_len {f f2 : Int → Int} {N N2 : Nat} {sg sg2 v v2 : Int} (h1 : tmw f N sg v) (h2 : tmw f2 N2 sg2 v2) (hv : 0 < v) (h : v ≤ v2) : N ≤ N2 := by
  by_cases c : N ≤ N2
  · exact c
  · have a1 := tsum_ge h1.dig (by omega) (h1.top (by omega))
    have a2 := (tsum_rng h2.dig).2
    have e1 := h1.abs
    have e2 := h2.abs
    have b : (10000 : Int) ^ N2 ≤ 10000 ^ (N - 1) := tB_le (by omega)
    omega
theorem tld_two {f : Int → Int} {N : Nat} {sg v : Int} (h : tmw f N sg v) (hv : 10000 ≤ v) : 2 ≤ N := by
  by_cases c : 2 ≤ N
  · exact c
  · have a2 := (tsum_rng h.dig).2
    have e1 := h.abs
    have b : (10000 : Int) ^ N ≤ 10000 ^ 1 := tB_le (by omega)
    omega
theorem tld_big {f : Int → Int} {N : Nat} {sg v : Int} (h : tmw f N sg v) (hv : 0 < v) (hN : 2 ≤ N) : 10000 ≤ v := by
  have a1 := tsum_ge h.dig (by omega) (h.top (by omega))
  have e1 := h.abs
  have b : (10000 : Int) ^ 1 ≤ 10000 ^ (N - 1) := tB_le (by omega)
  omega
theorem tld_top {f : Int → Int} {N : Nat} {sg v : Int} (h : tmw f N sg v) (hN : 0 < N) : 1 ≤ f ((N : Int) - 1) ∧ f ((N : Int) - 1) < 10000 ∧ f ((N : Int) - 1) * 10000 ^ (N - 1) ≤ tsum f N := by
  obtain ⟨k, rfl⟩ : ∃ k, N = k + 1 := ⟨N - 1, by omega⟩
  have t := h.top hN
  rw [show (((k + 1 : Nat) : Int) - 1) = k by omega] at t ⊢
  have d := h.dig k (by omega) (by omega)
  have s := tsum_rng (f := f) (k := k) (fun i a b => h.dig i a (by omega))
  rw [tsum_s, show k + 1 - 1 = k by omega]
  exact ⟨by omega, by omega, by omega⟩
theorem tsum_high {h : Int → Int} {L m : Nat} (hd : tdig h L) (hv : tsum h L < 10000 ^ m) (j : Int) (h0 : (m : Int) ≤ j) (hL : j < L) : h j = 0 := by
  obtain ⟨k, rfl⟩ := Int.eq_ofNat_of_zero_le (show 0 ≤ j by omega)
  have a := tsum_dig (F := tx h L) (N := L) (j := k) (by omega) (tx_dig hd)
  rw [tx_sum L (Nat.le_refl _), tx_in hL] at a
  have b : (10000 : Int) ^ m ≤ 10000 ^ k := tB_le (by omega)
  rw [Int.ediv_eq_zero_of_lt (tsum_rng hd).1 (by omega)] at a
  omega
theorem tsum_low {h : Int → Int} {L m : Nat} (hd : tdig h L) (hz : ∀ j : Int, (m : Int) ≤ j → j < L → h j = 0) : tsum h L < 10000 ^ m := by
  by_cases c : L ≤ m
  · exact Int.lt_of_lt_of_le (tsum_rng hd).2 (tB_le c)
  · have e : tsum h L = tsum h m := by
      obtain ⟨d, rfl⟩ : ∃ d, L = m + d := ⟨L - m, by omega⟩
      clear c hd
      induction d with
      | zero => rfl
      | succ d ih =>
        rw [show m + (d + 1) = (m + d) + 1 by omega, tsum_s, hz _ (by omega) (by omega), ih (fun j a b => hz j a (by omega))]
        omega
    rw [e]
    exact (tsum_rng (f := h) (k := m) (fun i a b => hd i a (by omega))).2
/-- the guess isn't less than the digit -/
theorem tguess {h fd : Int → Int} {L Nd : Nat} {sd D Rv pl T2 : Int} (hd : tdig h L) (hD : tmw fd Nd sd D) (hD0 : 0 < D) (hN : 2 ≤ Nd) (hp : 0 ≤ pl) (hL : pl + Nd < L) (hR : Rv = tsum h L) (hb : Rv < D * 10000 ^ (pl + 1).toNat) (hT : T2 = h (pl + Nd) * 10000 + h (pl + Nd - 1)) : Rv / (D * 10000 ^ pl.toNat) ≤ 9999 ∧ Rv / (D * 10000 ^ pl.toNat) ≤ T2 / fd ((Nd : Int) - 1) ∧ Rv < 10000 ^ (pl + Nd + 1).toNat := by
  have hR0 : 0 ≤ Rv := by rw [hR]; exact (tsum_rng hd).1
  have pp := tB_pos pl.toNat
  have hX : 0 < D * 10000 ^ pl.toNat := Int.mul_pos hD0 pp
  have e1 : D = tsum fd Nd := by have := hD.abs; omega
  have top := tld_top hD (by omega)
  have a1 := (tsum_rng hD.dig).2
  have hb2 : Rv < 10000 ^ (pl + Nd + 1).toNat := by
    have c1 : D * 10000 ^ (pl + 1).toNat ≤ 10000 ^ Nd * 10000 ^ (pl + 1).toNat := Int.mul_le_mul_of_nonneg_right (by omega) (by have := tB_pos (pl + 1).toNat; omega)
    rw [← Int.pow_add, show Nd + (pl + 1).toNat = (pl + Nd + 1).toNat by omega] at c1
    omega
  refine ⟨?_, ?_, hb2⟩
  · have : Rv / (D * 10000 ^ pl.toNat) < 10000 := by
      refine Int.ediv_lt_of_lt_mul hX ?_
      rw [show (pl + 1).toNat = pl.toNat + 1 by omega, tB_s] at hb
      have : D * (10000 ^ pl.toNat * 10000) = 10000 * (D * 10000 ^ pl.toNat) := by ac_rfl
      omega
    omega
  · -- T2 is the number without its lower digits
    obtain ⟨j, hj⟩ : ∃ j : Nat, pl + Nd = (j : Int) + 1 := ⟨(pl + Nd - 1).toNat, by omega⟩
    have d1 := tsum_dig (F := tx h L) (N := L) (j := j) (by omega) (tx_dig hd)
    have d2 := tsum_dig (F := tx h L) (N := L) (j := j + 1) (by omega) (tx_dig hd)
    rw [tx_sum L (Nat.le_refl _), ← hR, tx_in (by omega)] at d1 d2
    rw [hj, show (j : Int) + 1 - 1 = j by omega] at hT
    rw [show ((j + 1 : Nat) : Int) = (j : Int) + 1 by omega] at d2
    rw [show (pl + Nd + 1).toNat = j + 1 + 1 by omega, tB_s, tB_s] at hb2
    have pj := tB_pos j
    rw [tB_s, ← Int.ediv_ediv_of_nonneg (by omega)] at d2
    have hT2 : T2 = Rv / 10000 ^ j := by
      generalize hw : Rv / 10000 ^ j = w at d1 d2
      have w0 : 0 ≤ w := by rw [← hw]; exact Int.ediv_nonneg hR0 (by omega)
      have w1 : w < 10000 * 10000 := by
        rw [← hw]
        refine Int.ediv_lt_of_lt_mul (by omega) ?_
        have : (10000 : Int) * 10000 * 10000 ^ j = 10000 ^ j * 10000 * 10000 := by ac_rfl
        omega
      omega
    rw [hT2]
    refine (Int.le_ediv_iff_mul_le (by omega)).mpr ((Int.le_ediv_iff_mul_le (by omega)).mpr ?_)
    have q0 : 0 ≤ Rv / (D * 10000 ^ pl.toNat) := Int.ediv_nonneg hR0 (by omega)
    have b1 : Rv / (D * 10000 ^ pl.toNat) * (D * 10000 ^ pl.toNat) ≤ Rv := Int.ediv_mul_le _ (by omega)
    have b2 : fd ((Nd : Int) - 1) * 10000 ^ (Nd - 1) * 10000 ^ pl.toNat ≤ D * 10000 ^ pl.toNat := Int.mul_le_mul_of_nonneg_right (by omega) (by omega)
    have b3 : fd ((Nd : Int) - 1) * 10000 ^ (Nd - 1) * 10000 ^ pl.toNat = fd ((Nd : Int) - 1) * 10000 ^ j := by
      rw [Int.mul_assoc, ← Int.pow_add, show Nd - 1 + pl.toNat = j by omega]
    rw [b3] at b2
    have b4 := Int.mul_le_mul_of_nonneg_left b2 q0
    rw [← Int.mul_assoc] at b4
    omega
/-- a guess that leaves less than nothing is too great -/
theorem tld_neg {hh : Int → Int} {L : Nat} {m : Nat} {D P Rv g br : Int} (hX : 0 < D * P) (hR0 : 0 ≤ Rv) (hd : tdig hh L) (hz : ∀ j : Int, (m : Int) ≤ j → j < L → hh j = 0) (hb : br < 0) (h3 : tsum hh L + br * 10000 ^ m = Rv - g * P * D) (hq : Rv / (D * P) ≤ g) : Rv / (D * P) ≤ g - 1 ∧ 1 ≤ g := by
  have a := tsum_low hd hz
  have c1 : br * 10000 ^ m ≤ (-1) * 10000 ^ m := Int.mul_le_mul_of_nonneg_right (by omega) (by have := tB_pos m; omega)
  have e : g * P * D = g * (D * P) := by rw [Int.mul_assoc, Int.mul_comm P]
  have q0 : 0 ≤ Rv / (D * P) := Int.ediv_nonneg hR0 (by omega)
  have b1 : Rv / (D * P) * (D * P) ≤ Rv := Int.ediv_mul_le _ (by omega)
  have lt : Rv / (D * P) < g := by
    by_cases c : Rv / (D * P) < g
    · exact c
    · have : Rv / (D * P) = g := by omega
      rw [this] at b1
      omega
  exact ⟨by omega, by omega⟩
theorem tld_pos {hh : Int → Int} {L m : Nat} {D P Rv g br : Int} (hX : 0 < D * P) (hd : tdig hh L) (hb : br = 0) (h3 : tsum hh L + br * 10000 ^ m = Rv - g * P * D) (hq : Rv / (D * P) ≤ g) : tsum hh L = Rv - g * P * D ∧ tsum hh L < D * P := by
  subst hb
  have a := (tsum_rng hd).1
  have e : g * P * D = g * (D * P) := by rw [Int.mul_assoc, Int.mul_comm P]
  have m1 := Int.emod_lt_of_pos Rv hX
  have m2 := Int.mul_ediv_add_emod Rv (D * P)
  have c1 : Rv / (D * P) * (D * P) ≤ g * (D * P) := Int.mul_le_mul_of_nonneg_right hq (by omega)
  have c2 : D * P * (Rv / (D * P)) = Rv / (D * P) * (D * P) := Int.mul_comm _ _
  exact ⟨by omega, by omega⟩
theorem tld_fin {v v2 fac R Q : Int} (hf : 1 ≤ fac) (h0 : 0 < v2) (h : R + v2 * fac * Q = v * fac) (hR : 0 ≤ R ∧ R < v2 * fac) : Q = v / v2 ∧ R / fac = v % v2 := by
  have hX : 0 < v2 * fac := Int.mul_pos h0 (by omega)
  have e1 : v * fac / (v2 * fac) = v / v2 := Int.mul_ediv_mul_of_pos_left _ _ (by omega)
  have e2 : v * fac / (v2 * fac) = Q := by
    rw [← h, Int.add_mul_ediv_left _ _ (by omega), Int.ediv_eq_zero_of_lt hR.1 hR.2]
    omega
  have e3 : Q = v / v2 := by omega
  refine ⟨e3, ?_⟩
  have e4 := Int.emod_def v v2
  have e5 : R = v % v2 * fac := by
    rw [e4, Int.sub_mul]
    rw [e3] at h
    have : v2 * fac * (v / v2) = v2 * (v / v2) * fac := by ac_rfl
    omega
  rw [e5, Int.mul_ediv_cancel _ (by omega)]
theorem tld_mul {v fac : Int} (hv : 0 ≤ v) (hb : v < 10000 ^ 120) (hf : 1 ≤ fac ∧ fac ≤ 5000) : (v.natAbs : Int) * (fac.natAbs : Int) < 10000 ^ 128 ∧ v ≤ v * fac ∧ v * fac < 10000 ^ 128 := by
  have e1 : (v.natAbs : Int) = v := by omega
  have e2 : (fac.natAbs : Int) = fac := by omega
  rw [e1, e2]
  have a1 : v * fac ≤ v * 5000 := Int.mul_le_mul_of_nonneg_left hf.2 hv
  have a2 : v * 1 ≤ v * fac := Int.mul_le_mul_of_nonneg_left hf.1 hv
  have b : (10000 : Int) ^ 128 = 10000 ^ 120 * 10000 ^ 8 := by rw [← Int.pow_add]
  have b2 : (10000 : Int) ^ 120 * 5000 ≤ 10000 ^ 120 * 10000 ^ 8 := Int.mul_le_mul_of_nonneg_left (by decide +kernel) (by have := tB_pos 120; omega)
  refine ⟨?_, ?_, ?_⟩ <;> omega
theorem tld_q {qd : Int → Int} {L : Nat} {Rv R2 D P U g pl : Int} (hp : 0 ≤ pl) (hL : pl < L) (hP : P = 10000 ^ pl.toNat) (h3 : Rv + D * tsum qd L = U) (hr : R2 = Rv - g * P * D) (hz : qd pl = 0) : R2 + D * tsum (zup qd pl g) L = U := by
  rw [tsum_zup hp L hL, hz, hr, ← hP, Int.sub_zero, Int.mul_add]
  have : g * P * D = D * (g * P) := Int.mul_comm _ _
  omega
theorem tcopy {fu h : Int → Int} {Nu : Nat} {R : Int} (hd : tdig fu Nu) (hR : R = (Nu : Int) + 1) (hh : ∀ j : Int, 0 ≤ j → h j = tx fu Nu j) : tdig h R ∧ tsum h R.toNat = tsum fu Nu := by
  refine ⟨fun i a b => by rw [hh i a]; exact tx_dig hd i a, ?_⟩
  rw [← tx_sum (f := fu) (N := Nu) R.toNat (by omega)]
  exact tsum_cong (fun i a b => hh i a)
theorem tld_fac {t : Int} (h : 1 ≤ t ∧ t < 10000) : 1 ≤ 10000 / (t + 1) ∧ 10000 / (t + 1) ≤ 5000 := by
  constructor
  · exact (Int.le_ediv_iff_mul_le (by omega)).mpr (by omega)
  · have : 10000 / (t + 1) < 5001 := Int.ediv_lt_of_lt_mul (by omega) (by omega)
    omega
theorem tcopy_step {h fu : Int → Int} {i : Int} (j : Int) (k2 : ∀ j : Int, 0 ≤ j → h j = if j < i then fu j else 0) (a : 0 ≤ j) : zup h i (fu i) j = if j < i + 1 then fu j else 0 := by
  by_cases c : j = i
  · rw [c, zup_s, if_pos (by omega)]
  · rw [zup_n c, k2 j a]
    by_cases q : j < i
    · rw [if_pos q, if_pos (by omega)]
    · rw [if_neg q, if_neg (by omega)]
theorem tld_init {fd fu h : Int → Int} {Nd Nu : Nat} {sd su D U R pl : Int} (hD : tmw fd Nd sd D) (hU : tmw fu Nu su U) (hD0 : 0 < D) (hU0 : 0 ≤ U) (hs : tsum h R.toNat = tsum fu Nu) (hl : Nd ≤ Nu) (hp : pl = (Nu : Int) - Nd) : tsum h R.toNat < D * 10000 ^ (pl + 1).toNat := by
  have a1 := (tsum_rng hU.dig).2
  have hN : 0 < Nd := by
    by_cases c : 0 < Nd
    · exact c
    · have e : Nd = 0 := by omega
      have := hD.abs
      subst e
      simp [tsum] at this
      omega
  have a2 := tsum_ge hD.dig hN (hD.top hN)
  have e1 := hD.abs
  have b1 : 10000 ^ (Nd - 1) * 10000 ^ (pl + 1).toNat ≤ D * 10000 ^ (pl + 1).toNat := Int.mul_le_mul_of_nonneg_right (by omega) (by have := tB_pos (pl + 1).toNat; omega)
  rw [← Int.pow_add, show Nd - 1 + (pl + 1).toNat = Nu by omega] at b1
  omega
theorem tld_give {A B P Y br cg g D R : Int} (h : A + cg * Y = B + P * D) (h3 : B + br * Y = R - g * P * D) : A + (br + cg) * Y = R - (g - 1) * P * D := by
  have e1 : (g - 1) * P * D = g * P * D - P * D := by rw [Int.sub_mul, Int.sub_mul, Int.one_mul]
  rw [Int.add_mul]
  omega
theorem tdv_pos {f : Int → Int} {N : Nat} {sg v : Int} (h : tmw f N sg v) (hv : 0 < v) : 0 < N := by
  by_cases c : 0 < N
  · exact c
  · have e : N = 0 := by omega
    have := h.abs
    subst e
    simp [tsum] at this
    omega
theorem tdv_one {f : Int → Int} {N : Nat} {sg v : Int} (h : tmw f N sg v) (hN : N = 1) (hv : 0 < v) : f 0 = v := by
  have := h.abs
  subst hN
  simp [tsum] at this
  omega
theorem tdv_rng {x y : Int} (hy : 1 ≤ y ∧ y < 100000000) : -9223372036854775808 ≤ x % y ∧ x % y < 9223372036854775808 := by
  have a := Int.emod_nonneg x (show y ≠ 0 by omega)
  have b := Int.emod_lt_of_pos x (show 0 < y by omega)
  omega
theorem tcs_lt {a b z : Int} (h : z = (a - b).sign) (hz : z < 0) : a < b := by
  by_cases c : a < b
  · exact c
  · have := Int.sign_nonneg_iff.mpr (show 0 ≤ a - b by omega)
    omega
def rm_c_X11_longDivided : Room := { frames := 3, cells := 24, slots := 2600, locals := 62 }
theorem iw_X11_longDivided_X11 : ∀ w ∈ wsX110, w ∈ wsX11_longDivided := by decide +kernel
set_option maxHeartbeats 1000000 in
set_option maxRecDepth 100000 in
theorem c_X11_longDivided (l : Launch) (G : zG) (a : Nat) (b : Nat) (f : Int → Int) (N : Nat) (sg : Int) (a2 : Nat) (b2 : Nat) (f2 : Int → Int) (N2 : Nat) (sg2 : Int) (v : Int) (v2 : Int) (h1 : tmw f N sg v) (h2 : tmw f2 N2 sg2 v2) (h3 : 0 ≤ v) (h4 : 0 < v2) (h5 : 2 ≤ N2) (h6 : v < 10000 ^ 120) (h7 : v2 < 10000 ^ 120) (h8 : v2 ≤ v) : zM l G yX11_longDivided wsX11_longDivided rm_c_X11_longDivided [.ref a, .ref a2] [(a, .inr (12, [.int (iz (sg)), .ref b])), (b, zaI (G.2 1) N (f)), (a2, .inr (12, [.int (iz (sg2)), .ref b2])), (b2, zaI (G.2 1) N2 (f2))] (fun A => zQr G (fun (u : (Nat → Option Nat) × Nat × Nat × (Int → Int) × Nat × Int × Nat × Nat × (Int → Int) × Nat × Int) (ra : Nat) => u.1 0 = some u.2.1 ∧ u.1 1 = some u.2.2.2.2.2.2.1 ∧ tmw u.2.2.2.1 u.2.2.2.2.1 u.2.2.2.2.2.1 (v / v2) ∧ tmw u.2.2.2.2.2.2.2.2.1 u.2.2.2.2.2.2.2.2.2.1 u.2.2.2.2.2.2.2.2.2.2 (v % v2)) (fun (u : (Nat → Option Nat) × Nat × Nat × (Int → Int) × Nat × Int × Nat × Nat × (Int → Int) × Nat × Int) (ra : Nat) => [(a, .inr (12, [.int (iz (sg)), .ref b])), (b, zaI (G.2 1) N (f)), (a2, .inr (12, [.int (iz (sg2)), .ref b2])), (b2, zaI (G.2 1) N2 (f2)), (ra, zaR (G.2 4) 2 (u.1)), (u.2.1, .inr (12, [.int (iz (u.2.2.2.2.2.1)), .ref u.2.2.1])), (u.2.2.1, zaI (G.2 1) u.2.2.2.2.1 (u.2.2.2.1)), (u.2.2.2.2.2.2.1, .inr (12, [.int (iz (u.2.2.2.2.2.2.2.2.2.2)), .ref u.2.2.2.2.2.2.2.1])), (u.2.2.2.2.2.2.2.1, zaI (G.2 1) u.2.2.2.2.2.2.2.2.2.1 (u.2.2.2.2.2.2.2.2.1))]) A) 24 2600 := by
  refine zM_of (cc := cX11_longDivided) (maxL := 11) (ret := (some (.array (.object "AnnuityHouseModel$Whole")))) (by decide) rfl (Nat.le_of_ble_eq_true rfl) ?_
  intro p e s m below meth c ls A Q hQ hx hb hr hts hown hlocks hml hnm hKX hP hD hA hS hl
  have hK := hKX.1
  have iwX11 := iw_X11_longDivided_X11
  obtain ⟨H, hH⟩ : ∃ h, h = s.heap := ⟨_, rfl⟩
  obtain ⟨locs, hlo⟩ : ∃ h : List Loc, h = [] := ⟨_, rfl⟩
  have hS : va_S A s.heap H locs := by rw [hH, hlo]; exact hS
  have hP : va_P G.1 vwCl [(a, .inr (12, [.int (iz (sg)), .ref b])), (b, zaI (G.2 1) N (f)), (a2, .inr (12, [.int (iz (sg2)), .ref b2])), (b2, zaI (G.2 1) N2 (f2))] H := by rw [hH]; exact hP
  have hD : va_D A [(a, .inr (12, [.int (iz (sg)), .ref b])), (b, zaI (G.2 1) N (f)), (a2, .inr (12, [.int (iz (sg2)), .ref b2])), (b2, zaI (G.2 1) N2 (f2))] := hD
  have hl : lv_has ls 11 [(0, .ref a), (1, .ref a2)] := hl
  rw [← hH, ← hlo]
  have n1 := h1.n
  have n2 := h2.n
  have top := tld_top h2 (by omega)
  have g1 := h1.sgi
  refine lv_sipush (v := iz (10000)) hx hb dX11_longDivided_0 rfl ?_
  refine lv_aload_n hx hb dX11_longDivided_3 rfl (lv_at hl 1 rfl) ?_
  refine va_get (D := G.1) (ci := 12) (v := .ref b2) (C := RX11) (T := TX11) (N := 2) hx hb hts iwX11 hown hK hP 2 rfl rfl 1 (by decide) (hts (.fieldLink RX11 13 "AnnuityHouseModel$Whole" "limbs" "[I") (by decide +kernel)) (fun _ h9 => h9) rfl dX11_longDivided_4 ?_
  refine lv_aload_n hx hb dX11_longDivided_7 rfl (lv_at hl 1 rfl) ?_
  refine va_get (D := G.1) (ci := 12) (v := .ref b2) (C := RX11) (T := TX11) (N := 2) hx hb hts iwX11 hown hK hP 2 rfl rfl 1 (by decide) (hts (.fieldLink RX11 13 "AnnuityHouseModel$Whole" "limbs" "[I") (by decide +kernel)) (fun _ h9 => h9) rfl dX11_longDivided_8 ?_
  refine zr_alenI hx hb hK hP 3 1 rfl rfl dX11_longDivided_11 ?_
  refine lv_iconst (v := iz (1)) hx hb dX11_longDivided_12 rfl ?_
  refine zr_isub hx hb dX11_longDivided_13 ?_
  refine zr_iald hx hb hK hP 3 1 rfl rfl (i := N2 - 1) (⟨by omega, by omega, by omega⟩) dX11_longDivided_14 ?_
  refine zr_namei (fun t0 et0 => ?_)
  have dt : 1 ≤ t0 ∧ t0 < 10000 := by rw [et0]; exact ⟨top.1, top.2.1⟩
  refine lv_iconst (v := iz (1)) hx hb dX11_longDivided_15 rfl ?_
  refine zr_iadd hx hb dX11_longDivided_16 ?_
  refine zr_idiv hx hb (x := 10000) (y := t0 + 1) ⟨by omega, by omega⟩ ⟨by omega, by omega⟩ (by omega) (by omega) dX11_longDivided_17 ?_
  refine zr_namei (fun fac efac => ?_)
  have hfac : 1 ≤ fac ∧ fac ≤ 5000 := by rw [efac]; exact tld_fac dt
  have hD1 := tld_mul (by omega) h7 hfac
  have hU1 := tld_mul h3 h6 hfac
  have hbig := tld_big h2 h4 h5
  refine lv_istore_n (lv' := [(2, .int (iz (fac))), (0, .ref a), (1, .ref a2)]) hx hb dX11_longDivided_18 rfl hl (by decide) rfl (fun ls hl => ?_)
  refine lv_aload_n hx hb dX11_longDivided_19 rfl (lv_at hl 2 rfl) ?_
  refine lv_iload_n hx hb dX11_longDivided_20 rfl (lv_at hl 0 rfl) ?_
  refine zr_i2l hx hb (x := fac) (⟨by omega, by omega⟩) dX11_longDivided_21 ?_
  refine zc_r (wr := [(a, .inr (12, [.int (iz (sg)), .ref b])), (b, zaI (G.2 1) N (f)), (a2, .inr (12, [.int (iz (sg2)), .ref b2])), (b2, zaI (G.2 1) N2 (f2))]) (va_runS (As := [.long (lz (fac))]) (rest := [.ref a2]) ⟨hx, hb, hml, hown, hts⟩ (c_X11_of l G fac (by omega) H.size) (va_cwS 1 hts gX11_longDivided_X11_of rfl rfl rfl (by decide +kernel) ⟨Nat.le_of_ble_eq_true rfl, Nat.le_of_ble_eq_true rfl⟩) (zpS hKX hP hD [] rfl rfl) rfl rfl hl.1 rfl (lv_room (Nat.le_of_ble_eq_true rfl)) dX11_longDivided_22 ⟨(by first | exact Nat.le_of_ble_eq_true rfl | (show _ ≤ (24 : Nat); omega)), (by first | exact Nat.le_of_ble_eq_true rfl | (show _ ≤ (2600 : Nat); omega))⟩) hP hD hS hA [] [0, 1, 2, 3] rfl rfl rfl (by decide) (fun u_1 rf H locs hf1 hP hD hS => ?_)
  obtain ⟨b3, f3, N3, s3⟩ := u_1
  have hP : va_P G.1 vwCl [(a, .inr (12, [.int (iz (sg)), .ref b])), (b, zaI (G.2 1) N (f)), (a2, .inr (12, [.int (iz (sg2)), .ref b2])), (b2, zaI (G.2 1) N2 (f2)), (rf, .inr (12, [.int (iz (s3)), .ref b3])), (b3, zaI (G.2 1) N3 (f3))] H := hP
  have hD : va_D A [(a, .inr (12, [.int (iz (sg)), .ref b])), (b, zaI (G.2 1) N (f)), (a2, .inr (12, [.int (iz (sg2)), .ref b2])), (b2, zaI (G.2 1) N2 (f2)), (rf, .inr (12, [.int (iz (s3)), .ref b3])), (b3, zaI (G.2 1) N3 (f3))] := hD
  have hf1 : tmw f3 N3 s3 fac := hf1
  refine zc_r (wr := [(a, .inr (12, [.int (iz (sg)), .ref b])), (b, zaI (G.2 1) N (f))]) (va_runV (As := [.ref rf]) (rest := []) ⟨hx, hb, hml, hown, hts⟩ (c_X11_times l G a2 b2 f2 N2 sg2 rf b3 f3 N3 s3 v2 fac (h2) (hf1) (hD1.1) H.size) (cwV 1 hts gX11_longDivided_X11_times rfl rfl rfl (by decide +kernel) ⟨Nat.le_of_ble_eq_true rfl, Nat.le_of_ble_eq_true rfl⟩) (zpV hKX hP hD [2, 3, 4, 5] rfl rfl 2 12 rfl rfl) rfl rfl hl.1 rfl (lv_room (Nat.le_of_ble_eq_true rfl)) dX11_longDivided_25 ⟨(by first | exact Nat.le_of_ble_eq_true rfl | (show _ ≤ (24 : Nat); omega)), (by first | exact Nat.le_of_ble_eq_true rfl | (show _ ≤ (2600 : Nat); omega))⟩) hP hD hS hA [2, 3, 4, 5] [0, 1] rfl rfl rfl (by decide) (fun u_3 rd H locs hDv hP hD hS => ?_)
  obtain ⟨bd, fd, Nd, sd⟩ := u_3
  have hP : va_P G.1 vwCl [(a, .inr (12, [.int (iz (sg)), .ref b])), (b, zaI (G.2 1) N (f)), (a2, .inr (12, [.int (iz (sg2)), .ref b2])), (b2, zaI (G.2 1) N2 (f2)), (rf, .inr (12, [.int (iz (s3)), .ref b3])), (b3, zaI (G.2 1) N3 (f3)), (rd, .inr (12, [.int (iz (sd)), .ref bd])), (bd, zaI (G.2 1) Nd (fd))] H := hP
  have hD : va_D A [(a, .inr (12, [.int (iz (sg)), .ref b])), (b, zaI (G.2 1) N (f)), (a2, .inr (12, [.int (iz (sg2)), .ref b2])), (b2, zaI (G.2 1) N2 (f2)), (rf, .inr (12, [.int (iz (s3)), .ref b3])), (b3, zaI (G.2 1) N3 (f3)), (rd, .inr (12, [.int (iz (sd)), .ref bd])), (bd, zaI (G.2 1) Nd (fd))] := hD
  have hDv : tmw fd Nd sd (v2 * fac) := hDv
  have nd2 := tld_two hDv (by omega)
  have ndn := hDv.n
  refine va_get (D := G.1) (ci := 12) (v := .ref bd) (C := RX11) (T := TX11) (N := 2) hx hb hts iwX11 hown hK hP 6 rfl rfl 1 (by decide) (hts (.fieldLink RX11 13 "AnnuityHouseModel$Whole" "limbs" "[I") (by decide +kernel)) (fun _ h9 => h9) rfl dX11_longDivided_28 ?_
  refine lv_astore_n (lv' := [(3, .ref bd), (2, .int (iz (fac))), (0, .ref a), (1, .ref a2)]) hx hb dX11_longDivided_31 rfl hl (by decide) rfl (fun ls hl => ?_)
  refine lv_aload_n hx hb dX11_longDivided_32 rfl (lv_at hl 2 rfl) ?_
  refine lv_iload_n hx hb dX11_longDivided_33 rfl (lv_at hl 1 rfl) ?_
  refine zr_i2l hx hb (x := fac) (⟨by omega, by omega⟩) dX11_longDivided_34 ?_
  refine zc_r (wr := [(a, .inr (12, [.int (iz (sg)), .ref b])), (b, zaI (G.2 1) N (f)), (a2, .inr (12, [.int (iz (sg2)), .ref b2])), (b2, zaI (G.2 1) N2 (f2)), (rf, .inr (12, [.int (iz (s3)), .ref b3])), (b3, zaI (G.2 1) N3 (f3)), (rd, .inr (12, [.int (iz (sd)), .ref bd])), (bd, zaI (G.2 1) Nd (fd))]) (va_runS (As := [.long (lz (fac))]) (rest := [.ref a]) ⟨hx, hb, hml, hown, hts⟩ (c_X11_of l G fac (by omega) H.size) (va_cwS 1 hts gX11_longDivided_X11_of rfl rfl rfl (by decide +kernel) ⟨Nat.le_of_ble_eq_true rfl, Nat.le_of_ble_eq_true rfl⟩) (zpS hKX hP hD [] rfl rfl) rfl rfl hl.1 rfl (lv_room (Nat.le_of_ble_eq_true rfl)) dX11_longDivided_35 ⟨(by first | exact Nat.le_of_ble_eq_true rfl | (show _ ≤ (24 : Nat); omega)), (by first | exact Nat.le_of_ble_eq_true rfl | (show _ ≤ (2600 : Nat); omega))⟩) hP hD hS hA [] [0, 1, 2, 3, 4, 5, 6, 7] rfl rfl rfl (by decide) (fun u_5 rg H locs hf2 hP hD hS => ?_)
  obtain ⟨b4, f4, N4, s4⟩ := u_5
  have hP : va_P G.1 vwCl [(a, .inr (12, [.int (iz (sg)), .ref b])), (b, zaI (G.2 1) N (f)), (a2, .inr (12, [.int (iz (sg2)), .ref b2])), (b2, zaI (G.2 1) N2 (f2)), (rf, .inr (12, [.int (iz (s3)), .ref b3])), (b3, zaI (G.2 1) N3 (f3)), (rd, .inr (12, [.int (iz (sd)), .ref bd])), (bd, zaI (G.2 1) Nd (fd)), (rg, .inr (12, [.int (iz (s4)), .ref b4])), (b4, zaI (G.2 1) N4 (f4))] H := hP
  have hD : va_D A [(a, .inr (12, [.int (iz (sg)), .ref b])), (b, zaI (G.2 1) N (f)), (a2, .inr (12, [.int (iz (sg2)), .ref b2])), (b2, zaI (G.2 1) N2 (f2)), (rf, .inr (12, [.int (iz (s3)), .ref b3])), (b3, zaI (G.2 1) N3 (f3)), (rd, .inr (12, [.int (iz (sd)), .ref bd])), (bd, zaI (G.2 1) Nd (fd)), (rg, .inr (12, [.int (iz (s4)), .ref b4])), (b4, zaI (G.2 1) N4 (f4))] := hD
  have hf2 : tmw f4 N4 s4 fac := hf2
  refine zc_r (wr := [(a2, .inr (12, [.int (iz (sg2)), .ref b2])), (b2, zaI (G.2 1) N2 (f2)), (rf, .inr (12, [.int (iz (s3)), .ref b3])), (b3, zaI (G.2 1) N3 (f3)), (rd, .inr (12, [.int (iz (sd)), .ref bd])), (bd, zaI (G.2 1) Nd (fd))]) (va_runV (As := [.ref rg]) (rest := []) ⟨hx, hb, hml, hown, hts⟩ (c_X11_times l G a b f N sg rg b4 f4 N4 s4 v fac (h1) (hf2) (hU1.1) H.size) (cwV 1 hts gX11_longDivided_X11_times rfl rfl rfl (by decide +kernel) ⟨Nat.le_of_ble_eq_true rfl, Nat.le_of_ble_eq_true rfl⟩) (zpV hKX hP hD [0, 1, 8, 9] rfl rfl 0 12 rfl rfl) rfl rfl hl.1 rfl (lv_room (Nat.le_of_ble_eq_true rfl)) dX11_longDivided_38 ⟨(by first | exact Nat.le_of_ble_eq_true rfl | (show _ ≤ (24 : Nat); omega)), (by first | exact Nat.le_of_ble_eq_true rfl | (show _ ≤ (2600 : Nat); omega))⟩) hP hD hS hA [0, 1, 8, 9] [2, 3, 4, 5, 6, 7] rfl rfl rfl (by decide) (fun u_7 ru H locs hU hP hD hS => ?_)
  obtain ⟨bu, fu, Nu, su⟩ := u_7
  have hP : va_P G.1 vwCl [(a2, .inr (12, [.int (iz (sg2)), .ref b2])), (b2, zaI (G.2 1) N2 (f2)), (rf, .inr (12, [.int (iz (s3)), .ref b3])), (b3, zaI (G.2 1) N3 (f3)), (rd, .inr (12, [.int (iz (sd)), .ref bd])), (bd, zaI (G.2 1) Nd (fd)), (a, .inr (12, [.int (iz (sg)), .ref b])), (b, zaI (G.2 1) N (f)), (rg, .inr (12, [.int (iz (s4)), .ref b4])), (b4, zaI (G.2 1) N4 (f4)), (ru, .inr (12, [.int (iz (su)), .ref bu])), (bu, zaI (G.2 1) Nu (fu))] H := hP
  have hD : va_D A [(a2, .inr (12, [.int (iz (sg2)), .ref b2])), (b2, zaI (G.2 1) N2 (f2)), (rf, .inr (12, [.int (iz (s3)), .ref b3])), (b3, zaI (G.2 1) N3 (f3)), (rd, .inr (12, [.int (iz (sd)), .ref bd])), (bd, zaI (G.2 1) Nd (fd)), (a, .inr (12, [.int (iz (sg)), .ref b])), (b, zaI (G.2 1) N (f)), (rg, .inr (12, [.int (iz (s4)), .ref b4])), (b4, zaI (G.2 1) N4 (f4)), (ru, .inr (12, [.int (iz (su)), .ref bu])), (bu, zaI (G.2 1) Nu (fu))] := hD
  have hU : tmw fu Nu su (v * fac) := hU
  have nun := hU.n
  have hmul : v2 * fac ≤ v * fac := Int.mul_le_mul_of_nonneg_right h8 (by omega)
  have hlen := tld_len hDv hU (by omega) hmul
  refine lv_astore (lv' := [(4, .ref ru), (3, .ref bd), (2, .int (iz (fac))), (0, .ref a), (1, .ref a2)]) hx hb dX11_longDivided_41 hl (by decide) rfl (fun ls hl => ?_)
  refine lv_aload_n hx hb dX11_longDivided_43 rfl (lv_at hl 1 rfl) ?_
  refine zr_alenI hx hb hK hP 5 1 rfl rfl dX11_longDivided_44 ?_
  refine lv_istore (lv' := [(5, .int (iz (Nd))), (4, .ref ru), (3, .ref bd), (2, .int (iz (fac))), (0, .ref a), (1, .ref a2)]) hx hb dX11_longDivided_45 hl (by decide) rfl (fun ls hl => ?_)
  refine lv_aload hx hb dX11_longDivided_47 (lv_at hl 1 rfl) ?_
  refine va_get (D := G.1) (ci := 12) (v := .ref bu) (C := RX11) (T := TX11) (N := 2) hx hb hts iwX11 hown hK hP 10 rfl rfl 1 (by decide) (hts (.fieldLink RX11 13 "AnnuityHouseModel$Whole" "limbs" "[I") (by decide +kernel)) (fun _ h9 => h9) rfl dX11_longDivided_49 ?_
  refine zr_alenI hx hb hK hP 11 1 rfl rfl dX11_longDivided_52 ?_
  refine lv_iconst (v := iz (1)) hx hb dX11_longDivided_53 rfl ?_
  refine zr_iadd hx hb dX11_longDivided_54 ?_
  refine zr_namei (fun R eR => ?_)
  refine zr_newaI (G := G) (n := R) (N := (R).toNat) hx hb (hts (.arrayClass .int) (by decide +kernel)) hK hP hD hS hA (by omega) (by omega) (by omega) (by first | exact Nat.le_of_ble_eq_true rfl | (show _ ≤ (24 : Nat); omega)) (by first | exact Nat.le_of_ble_eq_true rfl | (show _ ≤ (2600 : Nat); omega)) dX11_longDivided_55 (fun rl H hP hD hS => ?_)
  have hP : va_P G.1 vwCl [(a2, .inr (12, [.int (iz (sg2)), .ref b2])), (b2, zaI (G.2 1) N2 (f2)), (rf, .inr (12, [.int (iz (s3)), .ref b3])), (b3, zaI (G.2 1) N3 (f3)), (rd, .inr (12, [.int (iz (sd)), .ref bd])), (bd, zaI (G.2 1) Nd (fd)), (a, .inr (12, [.int (iz (sg)), .ref b])), (b, zaI (G.2 1) N (f)), (rg, .inr (12, [.int (iz (s4)), .ref b4])), (b4, zaI (G.2 1) N4 (f4)), (ru, .inr (12, [.int (iz (su)), .ref bu])), (bu, zaI (G.2 1) Nu (fu)), (rl, zaI (G.2 1) ((R).toNat) (fun _ => 0))] H := hP
  have hD : va_D A [(a2, .inr (12, [.int (iz (sg2)), .ref b2])), (b2, zaI (G.2 1) N2 (f2)), (rf, .inr (12, [.int (iz (s3)), .ref b3])), (b3, zaI (G.2 1) N3 (f3)), (rd, .inr (12, [.int (iz (sd)), .ref bd])), (bd, zaI (G.2 1) Nd (fd)), (a, .inr (12, [.int (iz (sg)), .ref b])), (b, zaI (G.2 1) N (f)), (rg, .inr (12, [.int (iz (s4)), .ref b4])), (b4, zaI (G.2 1) N4 (f4)), (ru, .inr (12, [.int (iz (su)), .ref bu])), (bu, zaI (G.2 1) Nu (fu)), (rl, zaI (G.2 1) ((R).toNat) (fun _ => 0))] := hD
  refine lv_astore (lv' := [(6, .ref rl), (5, .int (iz (Nd))), (4, .ref ru), (3, .ref bd), (2, .int (iz (fac))), (0, .ref a), (1, .ref a2)]) hx hb dX11_longDivided_57 hl (by decide) rfl (fun ls hl => ?_)
  refine lv_iconst (v := iz (0)) hx hb dX11_longDivided_59 rfl ?_
  refine lv_istore (lv' := [(7, .int (iz (0))), (6, .ref rl), (5, .int (iz (Nd))), (4, .ref ru), (3, .ref bd), (2, .int (iz (fac))), (0, .ref a), (1, .ref a2)]) hx hb dX11_longDivided_60 hl (by decide) rfl (fun ls hl => ?_)
  have hl_62 : ∀ (zn_62 : Nat) (i : Int) (h : Int → Int) (H : Heap) (locs : List Loc) (ls : Array Slot), ((Nu : Int) - i).toNat < zn_62 → (0 ≤ i ∧ i ≤ Nu) → (∀ j : Int, 0 ≤ j → h j = if j < i then fu j else 0) → va_P G.1 vwCl [(a2, .inr (12, [.int (iz (sg2)), .ref b2])), (b2, zaI (G.2 1) N2 (f2)), (bd, zaI (G.2 1) Nd (fd)), (a, .inr (12, [.int (iz (sg)), .ref b])), (b, zaI (G.2 1) N (f)), (ru, .inr (12, [.int (iz (su)), .ref bu])), (bu, zaI (G.2 1) Nu (fu)), (rl, zaI (G.2 1) ((R).toNat) (h))] H → va_D A [(a2, .inr (12, [.int (iz (sg2)), .ref b2])), (b2, zaI (G.2 1) N2 (f2)), (bd, zaI (G.2 1) Nd (fd)), (a, .inr (12, [.int (iz (sg)), .ref b])), (b, zaI (G.2 1) N (f)), (ru, .inr (12, [.int (iz (su)), .ref bu])), (bu, zaI (G.2 1) Nu (fu)), (rl, zaI (G.2 1) ((R).toNat) (h))] → va_S A s.heap H locs → lv_has ls 11 [(7, .int (iz (i))), (6, .ref rl), (5, .int (iz (Nd))), (4, .ref ru), (3, .ref bd), (2, .int (iz (fac))), (0, .ref a), (1, .ref a2)] → W p l e rm_c_X11_longDivided s m ([.ref a, .ref a2] : List Value).toArray below meth c H locs (0 + 3 + 3 + 3 + 3 + 1) (0 + 135 + 387 + 135 + 387 + ((R).toNat)) Q (F0 m 62 ls []) := by
    intro zn_62
    induction zn_62 with
    | zero => intro i h H locs ls hm; exact absurd hm (Nat.not_lt_zero _)
    | succ zn_62 ih_62 =>
      intro i h H locs ls hm_62 k1 k2 hP hD hS hl
      refine lv_iload hx hb dX11_longDivided_62 (lv_at hl 0 rfl) ?_
      refine lv_aload hx hb dX11_longDivided_64 (lv_at hl 3 rfl) ?_
      refine va_get (D := G.1) (ci := 12) (v := .ref bu) (C := RX11) (T := TX11) (N := 2) hx hb hts iwX11 hown hK hP 5 rfl rfl 1 (by decide) (hts (.fieldLink RX11 13 "AnnuityHouseModel$Whole" "limbs" "[I") (by decide +kernel)) (fun _ h9 => h9) rfl dX11_longDivided_66 ?_
      refine zr_alenI hx hb hK hP 6 1 rfl rfl dX11_longDivided_69 ?_
      refine zr_icmp_ge (x := i) (y := Nu) (tgt := 92) hx hb (⟨by omega, by omega⟩) (⟨by omega, by omega⟩) dX11_longDivided_70 (by decide) (fun h_10 => ?_) (fun h_10 => ?_)
      ·
        refine lv_aload hx hb dX11_longDivided_92 (lv_at hl 1 rfl) ?_
        refine zr_alenI hx hb hK hP 7 1 rfl rfl dX11_longDivided_94 ?_
        refine zr_newaI (G := G) (n := (R).toNat) (N := (R).toNat) hx hb (hts (.arrayClass .int) (by decide +kernel)) hK hP hD hS hA (by omega) (by omega) (by omega) (by first | exact Nat.le_of_ble_eq_true rfl | (show _ ≤ (24 : Nat); omega)) (by first | exact Nat.le_of_ble_eq_true rfl | (show _ ≤ (2600 : Nat); omega)) dX11_longDivided_95 (fun rt H hP hD hS => ?_)
        have hP : va_P G.1 vwCl [(a2, .inr (12, [.int (iz (sg2)), .ref b2])), (b2, zaI (G.2 1) N2 (f2)), (bd, zaI (G.2 1) Nd (fd)), (a, .inr (12, [.int (iz (sg)), .ref b])), (b, zaI (G.2 1) N (f)), (ru, .inr (12, [.int (iz (su)), .ref bu])), (bu, zaI (G.2 1) Nu (fu)), (rl, zaI (G.2 1) ((R).toNat) (h)), (rt, zaI (G.2 1) ((R).toNat) (fun _ => 0))] H := hP
        have hD : va_D A [(a2, .inr (12, [.int (iz (sg2)), .ref b2])), (b2, zaI (G.2 1) N2 (f2)), (bd, zaI (G.2 1) Nd (fd)), (a, .inr (12, [.int (iz (sg)), .ref b])), (b, zaI (G.2 1) N (f)), (ru, .inr (12, [.int (iz (su)), .ref bu])), (bu, zaI (G.2 1) Nu (fu)), (rl, zaI (G.2 1) ((R).toNat) (h)), (rt, zaI (G.2 1) ((R).toNat) (fun _ => 0))] := hD
        refine lv_astore (lv' := [(7, .ref rt), (6, .ref rl), (5, .int (iz (Nd))), (4, .ref ru), (3, .ref bd), (2, .int (iz (fac))), (0, .ref a), (1, .ref a2)]) hx hb dX11_longDivided_97 hl (by decide) rfl (fun ls hl => ?_)
        refine lv_aload hx hb dX11_longDivided_99 (lv_at hl 1 rfl) ?_
        refine zr_alenI hx hb hK hP 7 1 rfl rfl dX11_longDivided_101 ?_
        refine lv_iconst (v := iz (1)) hx hb dX11_longDivided_102 rfl ?_
        refine zr_isub hx hb dX11_longDivided_103 ?_
        refine lv_iload hx hb dX11_longDivided_104 (lv_at hl 2 rfl) ?_
        refine zr_isub hx hb dX11_longDivided_106 ?_
        refine lv_istore (lv' := [(8, .int (iz ((((R).toNat) - 1) - Nd))), (7, .ref rt), (6, .ref rl), (5, .int (iz (Nd))), (4, .ref ru), (3, .ref bd), (2, .int (iz (fac))), (0, .ref a), (1, .ref a2)]) hx hb dX11_longDivided_107 hl (by decide) rfl (fun ls hl => ?_)
        have hl_109 : ∀ (zn_109 : Nat) (pl : Int) (h : Int → Int) (qd : Int → Int) (H : Heap) (locs : List Loc) (ls : Array Slot), (pl + 1).toNat < zn_109 → (-1 ≤ pl ∧ pl ≤ (Nu : Int) - Nd) → (tdig h R) → (tsum h (R).toNat + v2 * fac * tsum qd (R).toNat = v * fac) → (tsum h (R).toNat < v2 * fac * 10000 ^ (pl + 1).toNat) → (tdig qd R) → (∀ j : Int, j ≤ pl → qd j = 0) → va_P G.1 vwCl [(a2, .inr (12, [.int (iz (sg2)), .ref b2])), (b2, zaI (G.2 1) N2 (f2)), (bd, zaI (G.2 1) Nd (fd)), (a, .inr (12, [.int (iz (sg)), .ref b])), (b, zaI (G.2 1) N (f)), (rl, zaI (G.2 1) ((R).toNat) (h)), (rt, zaI (G.2 1) ((R).toNat) (qd))] H → va_D A [(a2, .inr (12, [.int (iz (sg2)), .ref b2])), (b2, zaI (G.2 1) N2 (f2)), (bd, zaI (G.2 1) Nd (fd)), (a, .inr (12, [.int (iz (sg)), .ref b])), (b, zaI (G.2 1) N (f)), (rl, zaI (G.2 1) ((R).toNat) (h)), (rt, zaI (G.2 1) ((R).toNat) (qd))] → va_S A s.heap H locs → lv_has ls 11 [(8, .int (iz (pl))), (7, .ref rt), (6, .ref rl), (5, .int (iz (Nd))), (4, .ref ru), (3, .ref bd), (2, .int (iz (fac))), (0, .ref a), (1, .ref a2)] → W p l e rm_c_X11_longDivided s m ([.ref a, .ref a2] : List Value).toArray below meth c H locs (0 + 3 + 3 + 3 + 3 + 1 + 1) (0 + 135 + 387 + 135 + 387 + ((R).toNat) + ((R).toNat)) Q (F0 m 109 ls []) := by
          intro zn_109
          induction zn_109 with
          | zero => intro pl h qd H locs ls hm; exact absurd hm (Nat.not_lt_zero _)
          | succ zn_109 ih_109 =>
            intro pl h qd H locs ls hm_109 k1 k2 k3 k4 k5 k6 hP hD hS hl
            refine lv_iload hx hb dX11_longDivided_109 (lv_at hl 0 rfl) ?_
            refine zr_if_lt (x := pl) (tgt := 201) hx hb (⟨by omega, by omega⟩) dX11_longDivided_111 (by decide) (fun h_12 => ?_) (fun h_12 => ?_)
            ·
              have hpl : pl = -1 := by omega
              have hRr := tsum_rng (f := h) (k := (R).toNat) (by rw [Int.toNat_of_nonneg (by omega)]; exact k2)
              rw [hpl, show ((-1 : Int) + 1).toNat = 0 by decide, Int.pow_zero, Int.mul_one] at k4
              have hfin := tld_fin hfac.1 h4 k3 ⟨hRr.1, k4⟩
              refine lv_iconst (v := iz (2)) hx hb dX11_longDivided_201 rfl ?_
              refine zr_newqW (G := G) (n := 2) (N := 2) hx hb hown (hts (.classLink RX11 8 "AnnuityHouseModel$Whole") (by decide +kernel)) hKX hP hD hS hA (by omega) (by omega) (by omega) (by first | exact Nat.le_of_ble_eq_true rfl | (show _ ≤ (24 : Nat); omega)) (by first | exact Nat.le_of_ble_eq_true rfl | (show _ ≤ (2600 : Nat); omega)) dX11_longDivided_202 (fun ra H hP hD hS => ?_)
              have hP : va_P G.1 vwCl [(a2, .inr (12, [.int (iz (sg2)), .ref b2])), (b2, zaI (G.2 1) N2 (f2)), (bd, zaI (G.2 1) Nd (fd)), (a, .inr (12, [.int (iz (sg)), .ref b])), (b, zaI (G.2 1) N (f)), (rl, zaI (G.2 1) ((R).toNat) (h)), (rt, zaI (G.2 1) ((R).toNat) (qd)), (ra, zaR (G.2 4) 2 (fun _ => none))] H := hP
              have hD : va_D A [(a2, .inr (12, [.int (iz (sg2)), .ref b2])), (b2, zaI (G.2 1) N2 (f2)), (bd, zaI (G.2 1) Nd (fd)), (a, .inr (12, [.int (iz (sg)), .ref b])), (b, zaI (G.2 1) N (f)), (rl, zaI (G.2 1) ((R).toNat) (h)), (rt, zaI (G.2 1) ((R).toNat) (qd)), (ra, zaR (G.2 4) 2 (fun _ => none))] := hD
              refine lv_dup hx hb dX11_longDivided_205 rfl ?_
              refine lv_iconst (v := iz (0)) hx hb dX11_longDivided_206 rfl ?_
              refine va_new (D := G.1) (ci := 12) (fs := [.int 0, .null]) (C := RX11) (T := TX11) (N := 2) hx hb hts iwX11 tyX11 tyX11_ok hown (hts (.classLink RX11 8 RX11) (by decide +kernel)) (hts (.instantiable RX11 2) (by decide +kernel)) (hts (.initialized RX11) (by decide +kernel)) hK hP hD hS hA rfl (by decide +kernel) (by first | exact Nat.le_of_ble_eq_true rfl | (show _ ≤ (24 : Nat); omega)) (by first | exact Nat.le_of_ble_eq_true rfl | (show _ ≤ (2600 : Nat); omega)) dX11_longDivided_207 (fun rq H hP hD hS => ?_)
              have hP : va_P G.1 vwCl [(a2, .inr (12, [.int (iz (sg2)), .ref b2])), (b2, zaI (G.2 1) N2 (f2)), (bd, zaI (G.2 1) Nd (fd)), (a, .inr (12, [.int (iz (sg)), .ref b])), (b, zaI (G.2 1) N (f)), (rl, zaI (G.2 1) ((R).toNat) (h)), (rt, zaI (G.2 1) ((R).toNat) (qd)), (ra, zaR (G.2 4) 2 (fun _ => none)), (rq, .inr (12, [.int (iz (0)), .null]))] H := hP
              have hD : va_D A [(a2, .inr (12, [.int (iz (sg2)), .ref b2])), (b2, zaI (G.2 1) N2 (f2)), (bd, zaI (G.2 1) Nd (fd)), (a, .inr (12, [.int (iz (sg)), .ref b])), (b, zaI (G.2 1) N (f)), (rl, zaI (G.2 1) ((R).toNat) (h)), (rt, zaI (G.2 1) ((R).toNat) (qd)), (ra, zaR (G.2 4) 2 (fun _ => none)), (rq, .inr (12, [.int (iz (0)), .null]))] := hD
              refine lv_dup hx hb dX11_longDivided_210 rfl ?_
              refine lv_iconst (v := iz (1)) hx hb dX11_longDivided_211 rfl ?_
              refine lv_aload hx hb dX11_longDivided_212 (lv_at hl 1 rfl) ?_
              refine zc_v (wr := [(a2, .inr (12, [.int (iz (sg2)), .ref b2])), (b2, zaI (G.2 1) N2 (f2)), (bd, zaI (G.2 1) Nd (fd)), (a, .inr (12, [.int (iz (sg)), .ref b])), (b, zaI (G.2 1) N (f)), (rl, zaI (G.2 1) ((R).toNat) (h)), (ra, zaR (G.2 4) 2 (fun _ => none))]) (va_runI (As := [.int (iz (1)), .ref rt]) (rest := [.ref rq, .int (iz (0)), .ref ra, .ref ra]) ⟨hx, hb, hml, hown, hts⟩ (c_X11_init l G rq rt qd ((R).toNat) 1 (by rw [Int.toNat_of_nonneg (by omega)]; exact k5) (by omega) (by omega) (by rw [hfin.1]; have := Int.ediv_le_self v2 h3; have := tB_le (a := 120) (b := 128) (by omega); omega) (fun q => absurd q (by omega)) H.size) (cwI 2 hts gX11_longDivided_X11_init rfl rfl rfl (hts (.initialized RX11) (by decide +kernel)) (hts (.methodLink RX11 25 yX11_init) (by decide +kernel)) (hts (.instanceMethod yX11_init) (by decide +kernel)) rfl (by decide +kernel) ⟨Nat.le_of_ble_eq_true rfl, Nat.le_of_ble_eq_true rfl⟩) (zpS hKX hP hD [8, 6] rfl rfl) rfl rfl hl.1 rfl (lv_room (Nat.le_of_ble_eq_true rfl)) dX11_longDivided_214 ⟨(by first | exact Nat.le_of_ble_eq_true rfl | (show _ ≤ (24 : Nat); omega)), (by first | exact Nat.le_of_ble_eq_true rfl | (show _ ≤ (2600 : Nat); omega))⟩) hP hD hS hA [8, 6] [0, 1, 2, 3, 4, 5, 7] rfl rfl rfl (by decide) (fun u_13 H locs hq1 hP hD hS => ?_)
              obtain ⟨bq, fq, Nq, sq⟩ := u_13
              have hP : va_P G.1 vwCl [(a2, .inr (12, [.int (iz (sg2)), .ref b2])), (b2, zaI (G.2 1) N2 (f2)), (bd, zaI (G.2 1) Nd (fd)), (a, .inr (12, [.int (iz (sg)), .ref b])), (b, zaI (G.2 1) N (f)), (rl, zaI (G.2 1) ((R).toNat) (h)), (ra, zaR (G.2 4) 2 (fun _ => none)), (rq, .inr (12, [.int (iz (sq)), .ref bq])), (bq, zaI (G.2 1) Nq (fq)), (rt, zaI (G.2 1) (((R).toNat)) (qd))] H := hP
              have hD : va_D A [(a2, .inr (12, [.int (iz (sg2)), .ref b2])), (b2, zaI (G.2 1) N2 (f2)), (bd, zaI (G.2 1) Nd (fd)), (a, .inr (12, [.int (iz (sg)), .ref b])), (b, zaI (G.2 1) N (f)), (rl, zaI (G.2 1) ((R).toNat) (h)), (ra, zaR (G.2 4) 2 (fun _ => none)), (rq, .inr (12, [.int (iz (sq)), .ref bq])), (bq, zaI (G.2 1) Nq (fq)), (rt, zaI (G.2 1) (((R).toNat)) (qd))] := hD
              have hq1 : tmw fq Nq sq ((1 : Int) * tsum qd ((R).toNat)) := hq1
              refine va_astq (D := G.1) hx hb hK hP hD hS 6 4 7 12 rfl rfl rfl rfl (iz_in (a := 0) (by omega) (by omega) (by omega)) dX11_longDivided_217 (fun H locs hP hD hS => ?_)
              have hP : va_P G.1 vwCl [(a2, .inr (12, [.int (iz (sg2)), .ref b2])), (b2, zaI (G.2 1) N2 (f2)), (bd, zaI (G.2 1) Nd (fd)), (a, .inr (12, [.int (iz (sg)), .ref b])), (b, zaI (G.2 1) N (f)), (rl, zaI (G.2 1) ((R).toNat) (h)), (ra, zaR (G.2 4) 2 (zfu (fun _ => none) 0 rq)), (rq, .inr (12, [.int (iz (sq)), .ref bq])), (bq, zaI (G.2 1) Nq (fq)), (rt, zaI (G.2 1) (((R).toNat)) (qd))] H := hP
              have hD : va_D A [(a2, .inr (12, [.int (iz (sg2)), .ref b2])), (b2, zaI (G.2 1) N2 (f2)), (bd, zaI (G.2 1) Nd (fd)), (a, .inr (12, [.int (iz (sg)), .ref b])), (b, zaI (G.2 1) N (f)), (rl, zaI (G.2 1) ((R).toNat) (h)), (ra, zaR (G.2 4) 2 (zfu (fun _ => none) 0 rq)), (rq, .inr (12, [.int (iz (sq)), .ref bq])), (bq, zaI (G.2 1) Nq (fq)), (rt, zaI (G.2 1) (((R).toNat)) (qd))] := hD
              refine lv_dup hx hb dX11_longDivided_218 rfl ?_
              refine lv_iconst (v := iz (1)) hx hb dX11_longDivided_219 rfl ?_
              refine va_new (D := G.1) (ci := 12) (fs := [.int 0, .null]) (C := RX11) (T := TX11) (N := 2) hx hb hts iwX11 tyX11 tyX11_ok hown (hts (.classLink RX11 8 RX11) (by decide +kernel)) (hts (.instantiable RX11 2) (by decide +kernel)) (hts (.initialized RX11) (by decide +kernel)) hK hP hD hS hA rfl (by decide +kernel) (by first | exact Nat.le_of_ble_eq_true rfl | (show _ ≤ (24 : Nat); omega)) (by first | exact Nat.le_of_ble_eq_true rfl | (show _ ≤ (2600 : Nat); omega)) dX11_longDivided_220 (fun ry H hP hD hS => ?_)
              have hP : va_P G.1 vwCl [(a2, .inr (12, [.int (iz (sg2)), .ref b2])), (b2, zaI (G.2 1) N2 (f2)), (bd, zaI (G.2 1) Nd (fd)), (a, .inr (12, [.int (iz (sg)), .ref b])), (b, zaI (G.2 1) N (f)), (rl, zaI (G.2 1) ((R).toNat) (h)), (ra, zaR (G.2 4) 2 (zfu (fun _ => none) 0 rq)), (rq, .inr (12, [.int (iz (sq)), .ref bq])), (bq, zaI (G.2 1) Nq (fq)), (rt, zaI (G.2 1) (((R).toNat)) (qd)), (ry, .inr (12, [.int (iz (0)), .null]))] H := hP
              have hD : va_D A [(a2, .inr (12, [.int (iz (sg2)), .ref b2])), (b2, zaI (G.2 1) N2 (f2)), (bd, zaI (G.2 1) Nd (fd)), (a, .inr (12, [.int (iz (sg)), .ref b])), (b, zaI (G.2 1) N (f)), (rl, zaI (G.2 1) ((R).toNat) (h)), (ra, zaR (G.2 4) 2 (zfu (fun _ => none) 0 rq)), (rq, .inr (12, [.int (iz (sq)), .ref bq])), (bq, zaI (G.2 1) Nq (fq)), (rt, zaI (G.2 1) (((R).toNat)) (qd)), (ry, .inr (12, [.int (iz (0)), .null]))] := hD
              refine lv_dup hx hb dX11_longDivided_223 rfl ?_
              refine lv_iconst (v := iz (1)) hx hb dX11_longDivided_224 rfl ?_
              refine lv_aload hx hb dX11_longDivided_225 (lv_at hl 2 rfl) ?_
              refine zc_v (wr := [(a2, .inr (12, [.int (iz (sg2)), .ref b2])), (b2, zaI (G.2 1) N2 (f2)), (bd, zaI (G.2 1) Nd (fd)), (a, .inr (12, [.int (iz (sg)), .ref b])), (b, zaI (G.2 1) N (f)), (ra, zaR (G.2 4) 2 (zfu (fun _ => none) 0 rq)), (rq, .inr (12, [.int (iz (sq)), .ref bq])), (bq, zaI (G.2 1) Nq (fq)), (rt, zaI (G.2 1) (((R).toNat)) (qd))]) (va_runI (As := [.int (iz (1)), .ref rl]) (rest := [.ref ry, .int (iz (1)), .ref ra, .ref ra]) ⟨hx, hb, hml, hown, hts⟩ (c_X11_init l G ry rl h ((R).toNat) 1 (by rw [Int.toNat_of_nonneg (by omega)]; exact k2) (by omega) (by omega) (by omega) (fun q => absurd q (by omega)) H.size) (cwI 2 hts gX11_longDivided_X11_init rfl rfl rfl (hts (.initialized RX11) (by decide +kernel)) (hts (.methodLink RX11 25 yX11_init) (by decide +kernel)) (hts (.instanceMethod yX11_init) (by decide +kernel)) rfl (by decide +kernel) ⟨Nat.le_of_ble_eq_true rfl, Nat.le_of_ble_eq_true rfl⟩) (zpS hKX hP hD [10, 5] rfl rfl) rfl rfl hl.1 rfl (lv_room (Nat.le_of_ble_eq_true rfl)) dX11_longDivided_227 ⟨(by first | exact Nat.le_of_ble_eq_true rfl | (show _ ≤ (24 : Nat); omega)), (by first | exact Nat.le_of_ble_eq_true rfl | (show _ ≤ (2600 : Nat); omega))⟩) hP hD hS hA [10, 5] [0, 1, 2, 3, 4, 6, 7, 8, 9] rfl rfl rfl (by decide) (fun u_16 H locs hq2 hP hD hS => ?_)
              obtain ⟨by1, fy, Ny, sy⟩ := u_16
              have hP : va_P G.1 vwCl [(a2, .inr (12, [.int (iz (sg2)), .ref b2])), (b2, zaI (G.2 1) N2 (f2)), (bd, zaI (G.2 1) Nd (fd)), (a, .inr (12, [.int (iz (sg)), .ref b])), (b, zaI (G.2 1) N (f)), (ra, zaR (G.2 4) 2 (zfu (fun _ => none) 0 rq)), (rq, .inr (12, [.int (iz (sq)), .ref bq])), (bq, zaI (G.2 1) Nq (fq)), (rt, zaI (G.2 1) (((R).toNat)) (qd)), (ry, .inr (12, [.int (iz (sy)), .ref by1])), (by1, zaI (G.2 1) Ny (fy)), (rl, zaI (G.2 1) (((R).toNat)) (h))] H := hP
              have hD : va_D A [(a2, .inr (12, [.int (iz (sg2)), .ref b2])), (b2, zaI (G.2 1) N2 (f2)), (bd, zaI (G.2 1) Nd (fd)), (a, .inr (12, [.int (iz (sg)), .ref b])), (b, zaI (G.2 1) N (f)), (ra, zaR (G.2 4) 2 (zfu (fun _ => none) 0 rq)), (rq, .inr (12, [.int (iz (sq)), .ref bq])), (bq, zaI (G.2 1) Nq (fq)), (rt, zaI (G.2 1) (((R).toNat)) (qd)), (ry, .inr (12, [.int (iz (sy)), .ref by1])), (by1, zaI (G.2 1) Ny (fy)), (rl, zaI (G.2 1) (((R).toNat)) (h))] := hD
              have hq2 : tmw fy Ny sy ((1 : Int) * tsum h ((R).toNat)) := hq2
              refine lv_iload_n hx hb dX11_longDivided_230 rfl (lv_at hl 6 rfl) ?_
              refine zc_r (wr := [(a2, .inr (12, [.int (iz (sg2)), .ref b2])), (b2, zaI (G.2 1) N2 (f2)), (bd, zaI (G.2 1) Nd (fd)), (a, .inr (12, [.int (iz (sg)), .ref b])), (b, zaI (G.2 1) N (f)), (ra, zaR (G.2 4) 2 (zfu (fun _ => none) 0 rq)), (rq, .inr (12, [.int (iz (sq)), .ref bq])), (bq, zaI (G.2 1) Nq (fq)), (rt, zaI (G.2 1) (((R).toNat)) (qd)), (rl, zaI (G.2 1) (((R).toNat)) (h))]) (va_runV (As := [.int (iz (fac))]) (rest := [.int (iz (1)), .ref ra, .ref ra]) ⟨hx, hb, hml, hown, hts⟩ (c_X11_bySmall l G ry by1 fy Ny sy (1 * tsum h (R).toNat) fac (hq2) (by omega) H.size) (cwV 1 hts gX11_longDivided_X11_bySmall rfl rfl rfl (by decide +kernel) ⟨Nat.le_of_ble_eq_true rfl, Nat.le_of_ble_eq_true rfl⟩) (zpV hKX hP hD [9, 10] rfl rfl 9 12 rfl rfl) rfl rfl hl.1 rfl (lv_room (Nat.le_of_ble_eq_true rfl)) dX11_longDivided_231 ⟨(by first | exact Nat.le_of_ble_eq_true rfl | (show _ ≤ (24 : Nat); omega)), (by first | exact Nat.le_of_ble_eq_true rfl | (show _ ≤ (2600 : Nat); omega))⟩) hP hD hS hA [9, 10] [0, 1, 2, 3, 4, 5, 6, 7, 8, 11] rfl rfl rfl (by decide) (fun u_19 rz H locs hq3 hP hD hS => ?_)
              obtain ⟨bz, fz, Nz, sz⟩ := u_19
              have hP : va_P G.1 vwCl [(a2, .inr (12, [.int (iz (sg2)), .ref b2])), (b2, zaI (G.2 1) N2 (f2)), (bd, zaI (G.2 1) Nd (fd)), (a, .inr (12, [.int (iz (sg)), .ref b])), (b, zaI (G.2 1) N (f)), (ra, zaR (G.2 4) 2 (zfu (fun _ => none) 0 rq)), (rq, .inr (12, [.int (iz (sq)), .ref bq])), (bq, zaI (G.2 1) Nq (fq)), (rt, zaI (G.2 1) (((R).toNat)) (qd)), (rl, zaI (G.2 1) (((R).toNat)) (h)), (ry, .inr (12, [.int (iz (sy)), .ref by1])), (by1, zaI (G.2 1) Ny (fy)), (rz, .inr (12, [.int (iz (sz)), .ref bz])), (bz, zaI (G.2 1) Nz (fz))] H := hP
              have hD : va_D A [(a2, .inr (12, [.int (iz (sg2)), .ref b2])), (b2, zaI (G.2 1) N2 (f2)), (bd, zaI (G.2 1) Nd (fd)), (a, .inr (12, [.int (iz (sg)), .ref b])), (b, zaI (G.2 1) N (f)), (ra, zaR (G.2 4) 2 (zfu (fun _ => none) 0 rq)), (rq, .inr (12, [.int (iz (sq)), .ref bq])), (bq, zaI (G.2 1) Nq (fq)), (rt, zaI (G.2 1) (((R).toNat)) (qd)), (rl, zaI (G.2 1) (((R).toNat)) (h)), (ry, .inr (12, [.int (iz (sy)), .ref by1])), (by1, zaI (G.2 1) Ny (fy)), (rz, .inr (12, [.int (iz (sz)), .ref bz])), (bz, zaI (G.2 1) Nz (fz))] := hD
              have hq3 : tmw fz Nz sz (((1 * tsum h (R).toNat).natAbs : Int) / fac) := hq3
              refine va_astq (D := G.1) hx hb hK hP hD hS 5 4 12 12 rfl rfl rfl rfl (iz_in (a := 1) (by omega) (by omega) (by omega)) dX11_longDivided_234 (fun H locs hP hD hS => ?_)
              have hP : va_P G.1 vwCl [(a2, .inr (12, [.int (iz (sg2)), .ref b2])), (b2, zaI (G.2 1) N2 (f2)), (bd, zaI (G.2 1) Nd (fd)), (a, .inr (12, [.int (iz (sg)), .ref b])), (b, zaI (G.2 1) N (f)), (ra, zaR (G.2 4) 2 (zfu (zfu (fun _ => none) 0 rq) 1 rz)), (rq, .inr (12, [.int (iz (sq)), .ref bq])), (bq, zaI (G.2 1) Nq (fq)), (rt, zaI (G.2 1) (((R).toNat)) (qd)), (rl, zaI (G.2 1) (((R).toNat)) (h)), (ry, .inr (12, [.int (iz (sy)), .ref by1])), (by1, zaI (G.2 1) Ny (fy)), (rz, .inr (12, [.int (iz (sz)), .ref bz])), (bz, zaI (G.2 1) Nz (fz))] H := hP
              have hD : va_D A [(a2, .inr (12, [.int (iz (sg2)), .ref b2])), (b2, zaI (G.2 1) N2 (f2)), (bd, zaI (G.2 1) Nd (fd)), (a, .inr (12, [.int (iz (sg)), .ref b])), (b, zaI (G.2 1) N (f)), (ra, zaR (G.2 4) 2 (zfu (zfu (fun _ => none) 0 rq) 1 rz)), (rq, .inr (12, [.int (iz (sq)), .ref bq])), (bq, zaI (G.2 1) Nq (fq)), (rt, zaI (G.2 1) (((R).toNat)) (qd)), (rl, zaI (G.2 1) (((R).toNat)) (h)), (ry, .inr (12, [.int (iz (sy)), .ref by1])), (by1, zaI (G.2 1) Ny (fy)), (rz, .inr (12, [.int (iz (sz)), .ref bz])), (bz, zaI (G.2 1) Nz (fz))] := hD
              rw [hQ]
              exact zr_aret (ra := ra) (Or.inr ⟨_, rfl⟩) (u := (zfu (zfu (fun _ => none) 0 rq) 1 rz, rq, bq, fq, Nq, sq, rz, bz, fz, Nz, sz)) hx hb hr hlocks (hP.sub [3, 4, 0, 1, 5, 6, 7, 12, 13] rfl) (hD.sub [3, 4, 0, 1, 5, 6, 7, 12, 13] (by decide) rfl) hS (by first | exact Nat.le_of_ble_eq_true rfl | omega) (by first | exact Nat.le_of_ble_eq_true rfl | omega) dX11_longDivided_235 (show (zfu (zfu (fun _ => none) 0 rq) 1 rz) 0 = some rq ∧ (zfu (zfu (fun _ => none) 0 rq) 1 rz) 1 = some rz ∧ tmw fq Nq sq (v / v2) ∧ tmw fz Nz sz (v % v2) from ⟨(zfu_n (by decide) (by decide) (by decide)).trans (zfu_s (by decide) (by decide)), zfu_s (by decide) (by decide), tpost hq1 (by rw [hfin.1]; omega), tpost hq3 (by rw [← hfin.2]; congr 1; omega)⟩)
            ·
              refine lv_sipush (v := iz (9999)) hx hb dX11_longDivided_114 rfl ?_
              refine lv_aload hx hb dX11_longDivided_117 (lv_at hl 2 rfl) ?_
              refine lv_iload hx hb dX11_longDivided_119 (lv_at hl 0 rfl) ?_
              refine lv_iload hx hb dX11_longDivided_121 (lv_at hl 3 rfl) ?_
              refine zr_iadd hx hb dX11_longDivided_123 ?_
              refine zr_iald hx hb hK hP 5 1 rfl rfl (i := pl + Nd) (⟨by omega, by omega, by omega⟩) dX11_longDivided_124 ?_
              refine lv_sipush (v := iz (10000)) hx hb dX11_longDivided_125 rfl ?_
              refine zr_imul hx hb dX11_longDivided_128 ?_
              refine lv_aload hx hb dX11_longDivided_129 (lv_at hl 2 rfl) ?_
              refine lv_iload hx hb dX11_longDivided_131 (lv_at hl 0 rfl) ?_
              refine lv_iload hx hb dX11_longDivided_133 (lv_at hl 3 rfl) ?_
              refine zr_iadd hx hb dX11_longDivided_135 ?_
              refine lv_iconst (v := iz (1)) hx hb dX11_longDivided_136 rfl ?_
              refine zr_isub hx hb dX11_longDivided_137 ?_
              refine zr_iald hx hb hK hP 5 1 rfl rfl (i := (pl + Nd) - 1) (⟨by omega, by omega, by omega⟩) dX11_longDivided_138 ?_
              refine zr_iadd hx hb dX11_longDivided_139 ?_
              refine zr_namei (fun T2 eT2 => ?_)
              have hgs := tguess (by rw [Int.toNat_of_nonneg (by omega)]; exact k2) hDv (by omega) nd2 (by omega) (by omega) rfl k4 eT2
              have htop := tld_top hDv (by omega)
              have dT1 := k2 (pl + Nd) (by omega) (by omega)
              have dT2 := k2 (pl + Nd - 1) (by omega) (by omega)
              refine lv_aload_n hx hb dX11_longDivided_140 rfl (lv_at hl 5 rfl) ?_
              refine lv_iload hx hb dX11_longDivided_141 (lv_at hl 3 rfl) ?_
              refine lv_iconst (v := iz (1)) hx hb dX11_longDivided_143 rfl ?_
              refine zr_isub hx hb dX11_longDivided_144 ?_
              refine zr_iald hx hb hK hP 2 1 rfl rfl (i := Nd - 1) (⟨by omega, by omega, by omega⟩) dX11_longDivided_145 ?_
              refine zr_idiv hx hb (x := T2) (y := fd (Nd - 1)) ⟨by omega, by omega⟩ ⟨by omega, by omega⟩ (by omega) (by omega) dX11_longDivided_146 ?_
              refine zr_namei (fun gq egq => ?_)
              have hgq : 0 ≤ gq ∧ gq ≤ T2 := by rw [egq]; exact ⟨Int.ediv_nonneg (by omega) (by omega), Int.ediv_le_self _ (by omega)⟩
              rw [← egq] at hgs
              refine zr_mmin (x := 9999) (y := gq) hx hb (hml.trans hl.1.symm) hown (hts (.methodLink RX11 73 Lib.Math.min.name) (by decide +kernel)) (hts (.static Lib.Math.min.name) (by decide +kernel)) (hts (.initialized "java/lang/Math") (by decide +kernel)) (hts (.code Lib.Math.min.name Lib.Math.min.code 2 (some .int)) (by decide +kernel)) (Nat.le_of_ble_eq_true rfl) (Nat.le_of_ble_eq_true rfl) (by first | exact Nat.le_of_ble_eq_true rfl | (show _ ≤ (24 : Nat); omega)) (by first | exact Nat.le_of_ble_eq_true rfl | (show _ ≤ (2600 : Nat); omega)) (⟨by omega, by omega⟩) (⟨by omega, by omega⟩) dX11_longDivided_147 ?_
              refine zr_namei (fun gs egs => ?_)
              have hX : 0 < v2 * fac * 10000 ^ pl.toNat := Int.mul_pos (by omega) (tB_pos _)
              have hRv0 := (tsum_rng (f := h) (k := (R).toNat) (by rw [Int.toNat_of_nonneg (by omega)]; exact k2)).1
              refine lv_istore (lv' := [(9, .int (iz (gs))), (8, .int (iz (pl))), (7, .ref rt), (6, .ref rl), (5, .int (iz (Nd))), (4, .ref ru), (3, .ref bd), (2, .int (iz (fac))), (0, .ref a), (1, .ref a2)]) hx hb dX11_longDivided_150 hl (by decide) rfl (fun ls hl => ?_)
              refine lv_aload hx hb dX11_longDivided_152 (lv_at hl 3 rfl) ?_
              refine lv_aload_n hx hb dX11_longDivided_154 rfl (lv_at hl 6 rfl) ?_
              refine lv_iload hx hb dX11_longDivided_155 (lv_at hl 1 rfl) ?_
              refine lv_iload hx hb dX11_longDivided_157 (lv_at hl 0 rfl) ?_
              refine zc_i (wr := [(a2, .inr (12, [.int (iz (sg2)), .ref b2])), (b2, zaI (G.2 1) N2 (f2)), (a, .inr (12, [.int (iz (sg)), .ref b])), (b, zaI (G.2 1) N (f)), (rt, zaI (G.2 1) ((R).toNat) (qd))]) (va_runS (As := [.ref rl, .ref bd, .int (iz (pl)), .int (iz (gs))]) (rest := []) ⟨hx, hb, hml, hown, hts⟩ (c_X11_takes l G rl h ((R).toNat) bd fd Nd pl gs (by rw [Int.toNat_of_nonneg (by omega)]; exact k2) (hDv.dig) (⟨by omega, by omega⟩) (by omega) (⟨by omega, by omega⟩) H.size) (va_cwS 4 hts gX11_longDivided_X11_takes rfl rfl rfl (by decide +kernel) ⟨Nat.le_of_ble_eq_true rfl, Nat.le_of_ble_eq_true rfl⟩) (zpS hKX hP hD [5, 2] rfl rfl) rfl rfl hl.1 rfl (lv_room (Nat.le_of_ble_eq_true rfl)) dX11_longDivided_159 ⟨(by first | exact Nat.le_of_ble_eq_true rfl | (show _ ≤ (24 : Nat); omega)), (by first | exact Nat.le_of_ble_eq_true rfl | (show _ ≤ (2600 : Nat); omega))⟩) hP hD hS hA [5, 2] [0, 1, 3, 4, 6] rfl rfl rfl (by decide) (fun br u_21 H locs hk1 hP hD hS => ?_)
              generalize u_21 = hk at hP hD hk1
              have hP : va_P G.1 vwCl [(a2, .inr (12, [.int (iz (sg2)), .ref b2])), (b2, zaI (G.2 1) N2 (f2)), (a, .inr (12, [.int (iz (sg)), .ref b])), (b, zaI (G.2 1) N (f)), (rt, zaI (G.2 1) ((R).toNat) (qd)), (rl, zaI (G.2 1) (((R).toNat)) (hk)), (bd, zaI (G.2 1) Nd (fd))] H := hP
              have hD : va_D A [(a2, .inr (12, [.int (iz (sg2)), .ref b2])), (b2, zaI (G.2 1) N2 (f2)), (a, .inr (12, [.int (iz (sg)), .ref b])), (b, zaI (G.2 1) N (f)), (rt, zaI (G.2 1) ((R).toNat) (qd)), (rl, zaI (G.2 1) (((R).toNat)) (hk)), (bd, zaI (G.2 1) Nd (fd))] := hD
              have hk1 : tdig hk ((R).toNat) ∧ tsum hk (((R).toNat) : Int).toNat + br * 10000 ^ (pl + ((Nd : Int) + 1)).toNat = tsum h (((R).toNat) : Int).toNat - gs * 10000 ^ pl.toNat * tsum fd Nd ∧ -10000 ≤ br ∧ br ≤ 0 ∧ ∀ j : Int, pl + Nd < j → hk j = h j := hk1
              rw [show ((R).toNat : Int).toNat = (R).toNat by omega, show tsum fd Nd = v2 * fac from by have := hDv.abs; omega] at hk1
              refine lv_istore (lv' := [(10, .int (iz (br))), (9, .int (iz (gs))), (8, .int (iz (pl))), (7, .ref rt), (6, .ref rl), (5, .int (iz (Nd))), (4, .ref ru), (3, .ref bd), (2, .int (iz (fac))), (0, .ref a), (1, .ref a2)]) hx hb dX11_longDivided_162 hl (by decide) rfl (fun ls hl => ?_)
              have hl_164 : ∀ (zn_164 : Nat) (gs2 : Int) (br2 : Int) (hh : Int → Int) (H : Heap) (locs : List Loc) (ls : Array Slot), (gs2).toNat < zn_164 → (0 ≤ gs2 ∧ gs2 ≤ 9999) → (tdig hh ((R).toNat : Int)) → (tsum hh (R).toNat + br2 * 10000 ^ (pl + ((Nd : Int) + 1)).toNat = tsum h (R).toNat - gs2 * 10000 ^ pl.toNat * (v2 * fac)) → (tsum h (R).toNat / (v2 * fac * 10000 ^ pl.toNat) ≤ gs2) → (-10000 ≤ br2 ∧ br2 ≤ 0) → (∀ j : Int, pl + Nd < j → hh j = h j) → va_P G.1 vwCl [(a2, .inr (12, [.int (iz (sg2)), .ref b2])), (b2, zaI (G.2 1) N2 (f2)), (a, .inr (12, [.int (iz (sg)), .ref b])), (b, zaI (G.2 1) N (f)), (rt, zaI (G.2 1) ((R).toNat) (qd)), (rl, zaI (G.2 1) ((R).toNat) (hh)), (bd, zaI (G.2 1) Nd (fd))] H → va_D A [(a2, .inr (12, [.int (iz (sg2)), .ref b2])), (b2, zaI (G.2 1) N2 (f2)), (a, .inr (12, [.int (iz (sg)), .ref b])), (b, zaI (G.2 1) N (f)), (rt, zaI (G.2 1) ((R).toNat) (qd)), (rl, zaI (G.2 1) ((R).toNat) (hh)), (bd, zaI (G.2 1) Nd (fd))] → va_S A s.heap H locs → lv_has ls 11 [(10, .int (iz (br2))), (9, .int (iz (gs2))), (8, .int (iz (pl))), (7, .ref rt), (6, .ref rl), (5, .int (iz (Nd))), (4, .ref ru), (3, .ref bd), (2, .int (iz (fac))), (0, .ref a), (1, .ref a2)] → W p l e rm_c_X11_longDivided s m ([.ref a, .ref a2] : List Value).toArray below meth c H locs (0 + 3 + 3 + 3 + 3 + 1 + 1 + 0) (0 + 135 + 387 + 135 + 387 + ((R).toNat) + ((R).toNat) + 0) Q (F0 m 164 ls []) := by
                intro zn_164
                induction zn_164 with
                | zero => intro gs2 br2 hh H locs ls hm; exact absurd hm (Nat.not_lt_zero _)
                | succ zn_164 ih_164 =>
                  intro gs2 br2 hh H locs ls hm_164 j1 j2 j3 j4 j5 j6 hP hD hS hl
                  refine lv_iload hx hb dX11_longDivided_164 (lv_at hl 0 rfl) ?_
                  refine zr_if_ge (x := br2) (tgt := 188) hx hb (⟨by omega, by omega⟩) dX11_longDivided_166 (by decide) (fun h_23 => ?_) (fun h_23 => ?_)
                  ·
                    refine lv_aload hx hb dX11_longDivided_188 (lv_at hl 3 rfl) ?_
                    refine lv_iload hx hb dX11_longDivided_190 (lv_at hl 2 rfl) ?_
                    refine lv_iload hx hb dX11_longDivided_192 (lv_at hl 1 rfl) ?_
                    refine zr_iast hx hb hK hP hD hS 4 1 rfl rfl (i := pl) (x := gs2) (⟨by omega, by omega, by omega⟩) dX11_longDivided_194 (fun H locs hP hD hS => ?_)
                    have hP : va_P G.1 vwCl [(a2, .inr (12, [.int (iz (sg2)), .ref b2])), (b2, zaI (G.2 1) N2 (f2)), (a, .inr (12, [.int (iz (sg)), .ref b])), (b, zaI (G.2 1) N (f)), (rt, zaI (G.2 1) ((R).toNat) (zup qd pl gs2)), (rl, zaI (G.2 1) ((R).toNat) (hh)), (bd, zaI (G.2 1) Nd (fd))] H := hP
                    have hD : va_D A [(a2, .inr (12, [.int (iz (sg2)), .ref b2])), (b2, zaI (G.2 1) N2 (f2)), (a, .inr (12, [.int (iz (sg)), .ref b])), (b, zaI (G.2 1) N (f)), (rt, zaI (G.2 1) ((R).toNat) (zup qd pl gs2)), (rl, zaI (G.2 1) ((R).toNat) (hh)), (bd, zaI (G.2 1) Nd (fd))] := hD
                    refine lv_iinc (v := iz (pl - 1)) (lv' := [(8, .int (iz (pl - 1))), (10, .int (iz (br2))), (9, .int (iz (gs2))), (7, .ref rt), (6, .ref rl), (5, .int (iz (Nd))), (4, .ref ru), (3, .ref bd), (2, .int (iz (fac))), (0, .ref a), (1, .ref a2)]) hx hb dX11_longDivided_195 hl (k := 2) rfl (by rw [show Int32.ofInt (-1) = iz (-1) from rfl, iz_add]; exact congrArg iz (by omega)) (by decide) rfl (fun ls hl => ?_)
                    refine lv_goto (tgt := 109) hx hb dX11_longDivided_198 (by decide) ?_
                    have hps := tld_pos hX j2 (show br2 = 0 by omega) j3 j4
                    refine W.widen (k := 0 + 3 + 3 + 3 + 3 + 1 + 1) (n := 0 + 135 + 387 + 135 + 387 + ((R).toNat) + ((R).toNat)) (by omega) (by omega) ?_
                    exact ih_109 (pl - 1) hh (zup qd pl gs2) _ _ _ (by omega) (by omega) (by rw [← Int.toNat_of_nonneg (show 0 ≤ R by omega)]; exact j2) (tld_q (by omega) (by omega) rfl k3 hps.1 (k6 pl (by omega))) (by rw [show pl - 1 + 1 = pl by omega]; exact hps.2) (ttimes_dig k5 (by omega)) (fun j a => (zup_n (by omega)).trans (k6 j (by omega))) (hP.sub [0, 1, 6, 2, 3, 5, 4] rfl) (hD.sub [0, 1, 6, 2, 3, 5, 4] (by decide) rfl) hS (lv_sub hl [0, 3, 4, 5, 6, 7, 8, 9, 10] rfl)
                  ·
                    have hng := tld_neg (m := (pl + ((Nd : Int) + 1)).toNat) hX hRv0 j2 (fun j a b => (j6 j (by omega)).trans (tsum_high (m := (pl + Nd + 1).toNat) (by rw [Int.toNat_of_nonneg (by omega)]; exact k2) hgs.2.2 j (by omega) b)) (by omega) j3 j4
                    refine lv_iinc (v := iz (gs2 - 1)) (lv' := [(9, .int (iz (gs2 - 1))), (10, .int (iz (br2))), (8, .int (iz (pl))), (7, .ref rt), (6, .ref rl), (5, .int (iz (Nd))), (4, .ref ru), (3, .ref bd), (2, .int (iz (fac))), (0, .ref a), (1, .ref a2)]) hx hb dX11_longDivided_169 hl (k := 1) rfl (by rw [show Int32.ofInt (-1) = iz (-1) from rfl, iz_add]; exact congrArg iz (by omega)) (by decide) rfl (fun ls hl => ?_)
                    refine lv_iload hx hb dX11_longDivided_172 (lv_at hl 1 rfl) ?_
                    refine lv_aload hx hb dX11_longDivided_174 (lv_at hl 4 rfl) ?_
                    refine lv_aload_n hx hb dX11_longDivided_176 rfl (lv_at hl 7 rfl) ?_
                    refine lv_iload hx hb dX11_longDivided_177 (lv_at hl 2 rfl) ?_
                    refine zc_i (wr := [(a2, .inr (12, [.int (iz (sg2)), .ref b2])), (b2, zaI (G.2 1) N2 (f2)), (a, .inr (12, [.int (iz (sg)), .ref b])), (b, zaI (G.2 1) N (f)), (rt, zaI (G.2 1) ((R).toNat) (qd))]) (va_runS (As := [.ref rl, .ref bd, .int (iz (pl))]) (rest := [.int (iz (br2))]) ⟨hx, hb, hml, hown, hts⟩ (c_X11_gives l G rl hh ((R).toNat) bd fd Nd pl (j2) (hDv.dig) (⟨by omega, by omega⟩) (by omega) H.size) (va_cwS 3 hts gX11_longDivided_X11_gives rfl rfl rfl (by decide +kernel) ⟨Nat.le_of_ble_eq_true rfl, Nat.le_of_ble_eq_true rfl⟩) (zpS hKX hP hD [5, 6] rfl rfl) rfl rfl hl.1 rfl (lv_room (Nat.le_of_ble_eq_true rfl)) dX11_longDivided_179 ⟨(by first | exact Nat.le_of_ble_eq_true rfl | (show _ ≤ (24 : Nat); omega)), (by first | exact Nat.le_of_ble_eq_true rfl | (show _ ≤ (2600 : Nat); omega))⟩) hP hD hS hA [5, 6] [0, 1, 2, 3, 4] rfl rfl rfl (by decide) (fun cg u_24 H locs hg1 hP hD hS => ?_)
                    generalize u_24 = hg at hP hD hg1
                    have hP : va_P G.1 vwCl [(a2, .inr (12, [.int (iz (sg2)), .ref b2])), (b2, zaI (G.2 1) N2 (f2)), (a, .inr (12, [.int (iz (sg)), .ref b])), (b, zaI (G.2 1) N (f)), (rt, zaI (G.2 1) ((R).toNat) (qd)), (rl, zaI (G.2 1) (((R).toNat)) (hg)), (bd, zaI (G.2 1) Nd (fd))] H := hP
                    have hD : va_D A [(a2, .inr (12, [.int (iz (sg2)), .ref b2])), (b2, zaI (G.2 1) N2 (f2)), (a, .inr (12, [.int (iz (sg)), .ref b])), (b, zaI (G.2 1) N (f)), (rt, zaI (G.2 1) ((R).toNat) (qd)), (rl, zaI (G.2 1) (((R).toNat)) (hg)), (bd, zaI (G.2 1) Nd (fd))] := hD
                    have hg1 : tdig hg ((R).toNat) ∧ tsum hg (((R).toNat) : Int).toNat + cg * 10000 ^ (pl + ((Nd : Int) + 1)).toNat = tsum hh (((R).toNat) : Int).toNat + 10000 ^ pl.toNat * tsum fd Nd ∧ 0 ≤ cg ∧ cg ≤ 1 ∧ ∀ j : Int, pl + Nd < j → hg j = hh j := hg1
                    rw [show ((R).toNat : Int).toNat = (R).toNat by omega, show tsum fd Nd = v2 * fac from by have := hDv.abs; omega] at hg1
                    refine zr_iadd hx hb dX11_longDivided_182 ?_
                    refine lv_istore (lv' := [(10, .int (iz (br2 + cg))), (9, .int (iz (gs2 - 1))), (8, .int (iz (pl))), (7, .ref rt), (6, .ref rl), (5, .int (iz (Nd))), (4, .ref ru), (3, .ref bd), (2, .int (iz (fac))), (0, .ref a), (1, .ref a2)]) hx hb dX11_longDivided_183 hl (by decide) rfl (fun ls hl => ?_)
                    refine lv_goto (tgt := 164) hx hb dX11_longDivided_185 (by decide) ?_
                    have hj3 : tsum hg (R).toNat + (br2 + cg) * 10000 ^ (pl + ((Nd : Int) + 1)).toNat = tsum h (R).toNat - (gs2 - 1) * 10000 ^ pl.toNat * (v2 * fac) := tld_give hg1.2.1 j3
                    refine W.widen (k := 0 + 3 + 3 + 3 + 3 + 1 + 1 + 0) (n := 0 + 135 + 387 + 135 + 387 + ((R).toNat) + ((R).toNat) + 0) (by omega) (by omega) ?_
                    exact ih_164 (gs2 - 1) (br2 + cg) hg _ _ _ (by omega) (⟨by omega, by omega⟩) (hg1.1) (hj3) (hng.1) (⟨by have := hg1.2.2.1; omega, by have := hg1.2.2.2.1; omega⟩) (fun j a => (hg1.2.2.2.2 j a).trans (j6 j a)) (hP) (hD) hS (hl)
              exact hl_164 ((gs : Int).toNat + 1) gs br hk _ _ _ (Nat.lt_succ_self _) (⟨by omega, by omega⟩) (hk1.1) (hk1.2.1) (by omega) (⟨hk1.2.2.1, hk1.2.2.2.1⟩) (hk1.2.2.2.2) (hP) (hD) hS (hl)
        have hcp := tcopy (R := R) hU.dig (by omega) (fun j a => (k2 j a).trans (by rw [show i = (Nu : Int) by omega]; rfl))
        exact hl_109 ((((((R).toNat) - 1) - Nd) + 1 : Int).toNat + 1) ((((R).toNat) - 1) - Nd) h (fun _ => 0) _ _ _ (Nat.lt_succ_self _) (⟨by omega, by omega⟩) (hcp.1) (by rw [hcp.2, tsum_zeros (fun _ _ _ => rfl)]; have := hU.abs; omega) (tld_init hDv hU (by omega) (by omega) hcp.2 hlen (by omega)) (fun k a b => ⟨Int.le_refl 0, by show (0 : Int) < 10000; decide⟩) (fun _ _ => rfl) (hP.sub [0, 1, 2, 3, 4, 7, 8] rfl) (hD.sub [0, 1, 2, 3, 4, 7, 8] (by decide) rfl) hS (hl)
      ·
        refine lv_aload hx hb dX11_longDivided_73 (lv_at hl 1 rfl) ?_
        refine lv_iload hx hb dX11_longDivided_75 (lv_at hl 0 rfl) ?_
        refine lv_aload hx hb dX11_longDivided_77 (lv_at hl 3 rfl) ?_
        refine va_get (D := G.1) (ci := 12) (v := .ref bu) (C := RX11) (T := TX11) (N := 2) hx hb hts iwX11 hown hK hP 5 rfl rfl 1 (by decide) (hts (.fieldLink RX11 13 "AnnuityHouseModel$Whole" "limbs" "[I") (by decide +kernel)) (fun _ h9 => h9) rfl dX11_longDivided_79 ?_
        refine lv_iload hx hb dX11_longDivided_82 (lv_at hl 0 rfl) ?_
        refine zr_iald hx hb hK hP 6 1 rfl rfl (i := i) (⟨by omega, by omega, by omega⟩) dX11_longDivided_84 ?_
        refine zr_iast hx hb hK hP hD hS 7 1 rfl rfl (i := i) (x := fu i) (⟨by omega, by omega, by omega⟩) dX11_longDivided_85 (fun H locs hP hD hS => ?_)
        have hP : va_P G.1 vwCl [(a2, .inr (12, [.int (iz (sg2)), .ref b2])), (b2, zaI (G.2 1) N2 (f2)), (bd, zaI (G.2 1) Nd (fd)), (a, .inr (12, [.int (iz (sg)), .ref b])), (b, zaI (G.2 1) N (f)), (ru, .inr (12, [.int (iz (su)), .ref bu])), (bu, zaI (G.2 1) Nu (fu)), (rl, zaI (G.2 1) ((R).toNat) (zup h i (fu i)))] H := hP
        have hD : va_D A [(a2, .inr (12, [.int (iz (sg2)), .ref b2])), (b2, zaI (G.2 1) N2 (f2)), (bd, zaI (G.2 1) Nd (fd)), (a, .inr (12, [.int (iz (sg)), .ref b])), (b, zaI (G.2 1) N (f)), (ru, .inr (12, [.int (iz (su)), .ref bu])), (bu, zaI (G.2 1) Nu (fu)), (rl, zaI (G.2 1) ((R).toNat) (zup h i (fu i)))] := hD
        refine lv_iinc (v := iz (i + 1)) (lv' := [(7, .int (iz (i + 1))), (6, .ref rl), (5, .int (iz (Nd))), (4, .ref ru), (3, .ref bd), (2, .int (iz (fac))), (0, .ref a), (1, .ref a2)]) hx hb dX11_longDivided_86 hl (k := 0) rfl (by rw [show Int32.ofInt (1) = iz (1) from rfl, iz_add]) (by decide) rfl (fun ls hl => ?_)
        refine lv_goto (tgt := 62) hx hb dX11_longDivided_89 (by decide) ?_
        exact ih_62 (i + 1) (zup h i (fu i)) _ _ _ (by omega) (by omega) (fun j a => tcopy_step j k2 a) (hP) (hD) hS (hl)
  exact hl_62 (((Nu : Int) - 0 : Int).toNat + 1) 0 (fun _ => 0) _ _ _ (Nat.lt_succ_self _) (by omega) (fun j a => (if_neg (by omega)).symm) (hP.sub [0, 1, 5, 6, 7, 10, 11, 12] rfl) (hD.sub [0, 1, 5, 6, 7, 10, 11, 12] (by decide) rfl) hS (hl)

def rm_c_X11_divided_n : Room := { frames := 4, cells := 30, slots := 2900, locals := 92 }
theorem iw_X11_divided_X11 : ∀ w ∈ wsX110, w ∈ wsX11_divided := by decide +kernel
set_option maxHeartbeats 1000000 in
set_option maxRecDepth 100000 in
theorem c_X11_divided_n (l : Launch) (G : zG) (a : Nat) (b : Nat) (f : Int → Int) (N : Nat) (sg : Int) (a2 : Nat) (b2 : Nat) (f2 : Int → Int) (N2 : Nat) (sg2 : Int) (v : Int) (v2 : Int) (h1 : tmw f N sg v) (h2 : tmw f2 N2 sg2 v2) (h3 : 0 ≤ v) (h4 : 0 < v2) (h6 : v < 10000 ^ 120) (h7 : v2 < 10000 ^ 120) (h8 : N2 = 1 ∨ v2 ≤ v) : zM l G yX11_divided wsX11_divided rm_c_X11_divided_n [.ref a, .ref a2] [(a, .inr (12, [.int (iz (sg)), .ref b])), (b, zaI (G.2 1) N (f)), (a2, .inr (12, [.int (iz (sg2)), .ref b2])), (b2, zaI (G.2 1) N2 (f2))] (fun A => zQr G (fun (u : (Nat → Option Nat) × Nat × Nat × (Int → Int) × Nat × Int × Nat × Nat × (Int → Int) × Nat × Int) (ra : Nat) => u.1 0 = some u.2.1 ∧ u.1 1 = some u.2.2.2.2.2.2.1 ∧ tmw u.2.2.2.1 u.2.2.2.2.1 u.2.2.2.2.2.1 (v / v2) ∧ tmw u.2.2.2.2.2.2.2.2.1 u.2.2.2.2.2.2.2.2.2.1 u.2.2.2.2.2.2.2.2.2.2 (v % v2)) (fun (u : (Nat → Option Nat) × Nat × Nat × (Int → Int) × Nat × Int × Nat × Nat × (Int → Int) × Nat × Int) (ra : Nat) => [(a, .inr (12, [.int (iz (sg)), .ref b])), (b, zaI (G.2 1) N (f)), (a2, .inr (12, [.int (iz (sg2)), .ref b2])), (b2, zaI (G.2 1) N2 (f2)), (ra, zaR (G.2 4) 2 (u.1)), (u.2.1, .inr (12, [.int (iz (u.2.2.2.2.2.1)), .ref u.2.2.1])), (u.2.2.1, zaI (G.2 1) u.2.2.2.2.1 (u.2.2.2.1)), (u.2.2.2.2.2.2.1, .inr (12, [.int (iz (u.2.2.2.2.2.2.2.2.2.2)), .ref u.2.2.2.2.2.2.2.1])), (u.2.2.2.2.2.2.2.1, zaI (G.2 1) u.2.2.2.2.2.2.2.2.2.1 (u.2.2.2.2.2.2.2.2.1))]) A) 30 2900 := by
  refine zM_of (cc := cX11_divided) (maxL := 5) (ret := (some (.array (.object "AnnuityHouseModel$Whole")))) (by decide) rfl (Nat.le_of_ble_eq_true rfl) ?_
  intro p e s m below meth c ls A Q hQ hx hb hr hts hown hlocks hml hnm hKX hP hD hA hS hl
  have hK := hKX.1
  have iwX11 := iw_X11_divided_X11
  obtain ⟨H, hH⟩ : ∃ h, h = s.heap := ⟨_, rfl⟩
  obtain ⟨locs, hlo⟩ : ∃ h : List Loc, h = [] := ⟨_, rfl⟩
  have hS : va_S A s.heap H locs := by rw [hH, hlo]; exact hS
  have hP : va_P G.1 vwCl [(a, .inr (12, [.int (iz (sg)), .ref b])), (b, zaI (G.2 1) N (f)), (a2, .inr (12, [.int (iz (sg2)), .ref b2])), (b2, zaI (G.2 1) N2 (f2))] H := by rw [hH]; exact hP
  have hD : va_D A [(a, .inr (12, [.int (iz (sg)), .ref b])), (b, zaI (G.2 1) N (f)), (a2, .inr (12, [.int (iz (sg2)), .ref b2])), (b2, zaI (G.2 1) N2 (f2))] := hD
  have hl : lv_has ls 5 [(0, .ref a), (1, .ref a2)] := hl
  rw [← hH, ← hlo]
  have n1 := h1.n
  have n2 := h2.n
  have g1 := h1.sgi
  have g2 := h2.sgi
  have s1 := h1.sgn
  have s2 := h2.sgn
  have p1 := Int.sign_nonneg_iff.mpr h3
  have p2 := Int.sign_eq_one_of_pos h4
  refine lv_lconst (v := lz (0)) hx hb dX11_divided_0 rfl ?_
  refine zc_r (wr := [(a, .inr (12, [.int (iz (sg)), .ref b])), (b, zaI (G.2 1) N (f)), (a2, .inr (12, [.int (iz (sg2)), .ref b2])), (b2, zaI (G.2 1) N2 (f2))]) (va_runS (As := [.long (lz (0))]) (rest := []) ⟨hx, hb, hml, hown, hts⟩ (c_X11_of l G 0 (by omega) H.size) (va_cwS 1 hts gX11_divided_X11_of rfl rfl rfl (by decide +kernel) ⟨Nat.le_of_ble_eq_true rfl, Nat.le_of_ble_eq_true rfl⟩) (zpS hKX hP hD [] rfl rfl) rfl rfl hl.1 rfl (lv_room (Nat.le_of_ble_eq_true rfl)) dX11_divided_1 ⟨(by first | exact Nat.le_of_ble_eq_true rfl | (show _ ≤ (30 : Nat); omega)), (by first | exact Nat.le_of_ble_eq_true rfl | (show _ ≤ (2900 : Nat); omega))⟩) hP hD hS hA [] [0, 1, 2, 3] rfl rfl rfl (by decide) (fun u_1 ro H locs hz0 hP hD hS => ?_)
  obtain ⟨bo, fo, No, so⟩ := u_1
  have hP : va_P G.1 vwCl [(a, .inr (12, [.int (iz (sg)), .ref b])), (b, zaI (G.2 1) N (f)), (a2, .inr (12, [.int (iz (sg2)), .ref b2])), (b2, zaI (G.2 1) N2 (f2)), (ro, .inr (12, [.int (iz (so)), .ref bo])), (bo, zaI (G.2 1) No (fo))] H := hP
  have hD : va_D A [(a, .inr (12, [.int (iz (sg)), .ref b])), (b, zaI (G.2 1) N (f)), (a2, .inr (12, [.int (iz (sg2)), .ref b2])), (b2, zaI (G.2 1) N2 (f2)), (ro, .inr (12, [.int (iz (so)), .ref bo])), (bo, zaI (G.2 1) No (fo))] := hD
  have hz0 : tmw fo No so (0 : Int) := hz0
  refine lv_astore_n (lv' := [(2, .ref ro), (0, .ref a), (1, .ref a2)]) hx hb dX11_divided_4 rfl hl (by decide) rfl (fun ls hl => ?_)
  refine lv_aload_n hx hb dX11_divided_5 rfl (lv_at hl 1 rfl) ?_
  refine zc_r (wr := [(a2, .inr (12, [.int (iz (sg2)), .ref b2])), (b2, zaI (G.2 1) N2 (f2)), (ro, .inr (12, [.int (iz (so)), .ref bo])), (bo, zaI (G.2 1) No (fo))]) (va_runV (As := []) (rest := []) ⟨hx, hb, hml, hown, hts⟩ (c_X11_size_p l G a b f N sg v (h1) (h3) H.size) (cwV 0 hts gX11_divided_X11_size rfl rfl rfl (by decide +kernel) ⟨Nat.le_of_ble_eq_true rfl, Nat.le_of_ble_eq_true rfl⟩) (zpV hKX hP hD [0, 1] rfl rfl 0 12 rfl rfl) rfl rfl hl.1 rfl (lv_room (Nat.le_of_ble_eq_true rfl)) dX11_divided_6 ⟨(by first | exact Nat.le_of_ble_eq_true rfl | (show _ ≤ (30 : Nat); omega)), (by first | exact Nat.le_of_ble_eq_true rfl | (show _ ≤ (2900 : Nat); omega))⟩) hP hD hS hA [0, 1] [2, 3, 4, 5] rfl rfl rfl (by decide) (fun u_3 ra_5 H locs hsz hP hD hS => ?_)
  have hP : va_P G.1 vwCl [(a2, .inr (12, [.int (iz (sg2)), .ref b2])), (b2, zaI (G.2 1) N2 (f2)), (ro, .inr (12, [.int (iz (so)), .ref bo])), (bo, zaI (G.2 1) No (fo)), (a, .inr (12, [.int (iz (sg)), .ref b])), (b, zaI (G.2 1) N (f))] H := hP
  have hD : va_D A [(a2, .inr (12, [.int (iz (sg2)), .ref b2])), (b2, zaI (G.2 1) N2 (f2)), (ro, .inr (12, [.int (iz (so)), .ref bo])), (bo, zaI (G.2 1) No (fo)), (a, .inr (12, [.int (iz (sg)), .ref b])), (b, zaI (G.2 1) N (f))] := hD
  have hsz : ra_5 = a := hsz
  rw [hsz]
  refine lv_astore_n (lv' := [(3, .ref a), (2, .ref ro), (0, .ref a), (1, .ref a2)]) hx hb dX11_divided_9 rfl hl (by decide) rfl (fun ls hl => ?_)
  refine lv_aload_n hx hb dX11_divided_10 rfl (lv_at hl 3 rfl) ?_
  refine va_get (D := G.1) (ci := 12) (v := .ref b2) (C := RX11) (T := TX11) (N := 2) hx hb hts iwX11 hown hK hP 0 rfl rfl 1 (by decide) (hts (.fieldLink RX11 13 "AnnuityHouseModel$Whole" "limbs" "[I") (by decide +kernel)) (fun _ h9 => h9) rfl dX11_divided_11 ?_
  refine zr_alenI hx hb hK hP 1 1 rfl rfl dX11_divided_14 ?_
  refine lv_iconst (v := iz (1)) hx hb dX11_divided_15 rfl ?_
  refine zr_icmp_ne (x := N2) (y := 1) (tgt := 48) hx hb (⟨by omega, by omega⟩) (⟨by omega, by omega⟩) dX11_divided_16 (by decide) (fun h_6 => ?_) (fun h_6 => ?_)
  ·
    have hN2 : 2 ≤ N2 := by have := tdv_pos h2 h4; omega
    refine lv_aload_n hx hb dX11_divided_48 rfl (lv_at hl 2 rfl) ?_
    refine lv_aload_n hx hb dX11_divided_49 rfl (lv_at hl 3 rfl) ?_
    refine zc_i (wr := [(ro, .inr (12, [.int (iz (so)), .ref bo])), (bo, zaI (G.2 1) No (fo))]) (va_runV (As := [.ref a2]) (rest := []) ⟨hx, hb, hml, hown, hts⟩ (c_X11_comparedSize l G a b f N sg a2 b2 f2 N2 sg2 v v2 (h1) (h2) H.size) (cwV 1 hts gX11_divided_X11_comparedSize rfl rfl rfl (by decide +kernel) ⟨Nat.le_of_ble_eq_true rfl, Nat.le_of_ble_eq_true rfl⟩) (zpV hKX hP hD [4, 5, 0, 1] rfl rfl 4 12 rfl rfl) rfl rfl hl.1 rfl (lv_room (Nat.le_of_ble_eq_true rfl)) dX11_divided_50 ⟨(by first | exact Nat.le_of_ble_eq_true rfl | (show _ ≤ (30 : Nat); omega)), (by first | exact Nat.le_of_ble_eq_true rfl | (show _ ≤ (2900 : Nat); omega))⟩) hP hD hS hA [4, 5, 0, 1] [2, 3] rfl rfl rfl (by decide) (fun cs u_7 H locs hcs hP hD hS => ?_)
    have hP : va_P G.1 vwCl [(ro, .inr (12, [.int (iz (so)), .ref bo])), (bo, zaI (G.2 1) No (fo)), (a, .inr (12, [.int (iz (sg)), .ref b])), (b, zaI (G.2 1) N (f)), (a2, .inr (12, [.int (iz (sg2)), .ref b2])), (b2, zaI (G.2 1) N2 (f2))] H := hP
    have hD : va_D A [(ro, .inr (12, [.int (iz (so)), .ref bo])), (bo, zaI (G.2 1) No (fo)), (a, .inr (12, [.int (iz (sg)), .ref b])), (b, zaI (G.2 1) N (f)), (a2, .inr (12, [.int (iz (sg2)), .ref b2])), (b2, zaI (G.2 1) N2 (f2))] := hD
    have hcs : cs = ((v.natAbs : Int) - (v2.natAbs : Int)).sign := hcs
    have hsr := tsgn_rng ((v.natAbs : Int) - (v2.natAbs : Int))
    refine zr_if_lt (x := cs) (tgt := 79) hx hb (⟨by omega, by omega⟩) dX11_divided_53 (by decide) (fun h_9 => ?_) (fun h_9 => ?_)
    · exact absurd h_9 (by have := tcs_lt hcs (by omega); omega)
    ·
      refine lv_aload_n hx hb dX11_divided_56 rfl (lv_at hl 2 rfl) ?_
      refine zc_r (wr := [(ro, .inr (12, [.int (iz (so)), .ref bo])), (bo, zaI (G.2 1) No (fo)), (a2, .inr (12, [.int (iz (sg2)), .ref b2])), (b2, zaI (G.2 1) N2 (f2))]) (va_runV (As := []) (rest := []) ⟨hx, hb, hml, hown, hts⟩ (c_X11_size_p l G a b f N sg v (h1) (h3) H.size) (cwV 0 hts gX11_divided_X11_size rfl rfl rfl (by decide +kernel) ⟨Nat.le_of_ble_eq_true rfl, Nat.le_of_ble_eq_true rfl⟩) (zpV hKX hP hD [2, 3] rfl rfl 2 12 rfl rfl) rfl rfl hl.1 rfl (lv_room (Nat.le_of_ble_eq_true rfl)) dX11_divided_57 ⟨(by first | exact Nat.le_of_ble_eq_true rfl | (show _ ≤ (30 : Nat); omega)), (by first | exact Nat.le_of_ble_eq_true rfl | (show _ ≤ (2900 : Nat); omega))⟩) hP hD hS hA [2, 3] [0, 1, 4, 5] rfl rfl rfl (by decide) (fun u_10 ra_12 H locs hsz hP hD hS => ?_)
      have hP : va_P G.1 vwCl [(ro, .inr (12, [.int (iz (so)), .ref bo])), (bo, zaI (G.2 1) No (fo)), (a2, .inr (12, [.int (iz (sg2)), .ref b2])), (b2, zaI (G.2 1) N2 (f2)), (a, .inr (12, [.int (iz (sg)), .ref b])), (b, zaI (G.2 1) N (f))] H := hP
      have hD : va_D A [(ro, .inr (12, [.int (iz (so)), .ref bo])), (bo, zaI (G.2 1) No (fo)), (a2, .inr (12, [.int (iz (sg2)), .ref b2])), (b2, zaI (G.2 1) N2 (f2)), (a, .inr (12, [.int (iz (sg)), .ref b])), (b, zaI (G.2 1) N (f))] := hD
      have hsz : ra_12 = a := hsz
      rw [hsz]
      refine lv_aload_n hx hb dX11_divided_60 rfl (lv_at hl 3 rfl) ?_
      refine zc_r (wr := [(ro, .inr (12, [.int (iz (so)), .ref bo])), (bo, zaI (G.2 1) No (fo)), (a, .inr (12, [.int (iz (sg)), .ref b])), (b, zaI (G.2 1) N (f))]) (va_runV (As := []) (rest := [.ref a]) ⟨hx, hb, hml, hown, hts⟩ (c_X11_size_p l G a2 b2 f2 N2 sg2 v2 (h2) (by omega) H.size) (cwV 0 hts gX11_divided_X11_size rfl rfl rfl (by decide +kernel) ⟨Nat.le_of_ble_eq_true rfl, Nat.le_of_ble_eq_true rfl⟩) (zpV hKX hP hD [2, 3] rfl rfl 2 12 rfl rfl) rfl rfl hl.1 rfl (lv_room (Nat.le_of_ble_eq_true rfl)) dX11_divided_61 ⟨(by first | exact Nat.le_of_ble_eq_true rfl | (show _ ≤ (30 : Nat); omega)), (by first | exact Nat.le_of_ble_eq_true rfl | (show _ ≤ (2900 : Nat); omega))⟩) hP hD hS hA [2, 3] [0, 1, 4, 5] rfl rfl rfl (by decide) (fun u_13 ra_15 H locs hsz hP hD hS => ?_)
      have hP : va_P G.1 vwCl [(ro, .inr (12, [.int (iz (so)), .ref bo])), (bo, zaI (G.2 1) No (fo)), (a, .inr (12, [.int (iz (sg)), .ref b])), (b, zaI (G.2 1) N (f)), (a2, .inr (12, [.int (iz (sg2)), .ref b2])), (b2, zaI (G.2 1) N2 (f2))] H := hP
      have hD : va_D A [(ro, .inr (12, [.int (iz (so)), .ref bo])), (bo, zaI (G.2 1) No (fo)), (a, .inr (12, [.int (iz (sg)), .ref b])), (b, zaI (G.2 1) N (f)), (a2, .inr (12, [.int (iz (sg2)), .ref b2])), (b2, zaI (G.2 1) N2 (f2))] := hD
      have hsz : ra_15 = a2 := hsz
      rw [hsz]
      refine zc_r (wr := [(ro, .inr (12, [.int (iz (so)), .ref bo])), (bo, zaI (G.2 1) No (fo))]) (va_runS (As := [.ref a, .ref a2]) (rest := []) ⟨hx, hb, hml, hown, hts⟩ (c_X11_longDivided l G a b f N sg a2 b2 f2 N2 sg2 v v2 (h1) (h2) (h3) (h4) (by omega) (h6) (h7) (by have := tcs_ge hcs (by omega); omega) H.size) (va_cwS 2 hts gX11_divided_X11_longDivided rfl rfl rfl (by decide +kernel) ⟨Nat.le_of_ble_eq_true rfl, Nat.le_of_ble_eq_true rfl⟩) (zpS hKX hP hD [2, 3, 4, 5] rfl rfl) rfl rfl hl.1 rfl (lv_room (Nat.le_of_ble_eq_true rfl)) dX11_divided_64 ⟨(by first | exact Nat.le_of_ble_eq_true rfl | (show _ ≤ (30 : Nat); omega)), (by first | exact Nat.le_of_ble_eq_true rfl | (show _ ≤ (2900 : Nat); omega))⟩) hP hD hS hA [2, 3, 4, 5] [0, 1] rfl rfl rfl (by decide) (fun u_16 r5 H locs hld hP hD hS => ?_)
      obtain ⟨fr, rq, bq, fq, Nq, sq, rz, bz, fz, Nz, sz⟩ := u_16
      have hP : va_P G.1 vwCl [(ro, .inr (12, [.int (iz (so)), .ref bo])), (bo, zaI (G.2 1) No (fo)), (a, .inr (12, [.int (iz (sg)), .ref b])), (b, zaI (G.2 1) N (f)), (a2, .inr (12, [.int (iz (sg2)), .ref b2])), (b2, zaI (G.2 1) N2 (f2)), (r5, zaR (G.2 4) 2 (fr)), (rq, .inr (12, [.int (iz (sq)), .ref bq])), (bq, zaI (G.2 1) Nq (fq)), (rz, .inr (12, [.int (iz (sz)), .ref bz])), (bz, zaI (G.2 1) Nz (fz))] H := hP
      have hD : va_D A [(ro, .inr (12, [.int (iz (so)), .ref bo])), (bo, zaI (G.2 1) No (fo)), (a, .inr (12, [.int (iz (sg)), .ref b])), (b, zaI (G.2 1) N (f)), (a2, .inr (12, [.int (iz (sg2)), .ref b2])), (b2, zaI (G.2 1) N2 (f2)), (r5, zaR (G.2 4) 2 (fr)), (rq, .inr (12, [.int (iz (sq)), .ref bq])), (bq, zaI (G.2 1) Nq (fq)), (rz, .inr (12, [.int (iz (sz)), .ref bz])), (bz, zaI (G.2 1) Nz (fz))] := hD
      have hld : fr 0 = some rq ∧ fr 1 = some rz ∧ tmw fq Nq sq (v / v2) ∧ tmw fz Nz sz (v % v2) := hld
      refine lv_astore (lv' := [(4, .ref r5), (3, .ref a), (2, .ref ro), (0, .ref a), (1, .ref a2)]) hx hb dX11_divided_67 hl (by decide) rfl (fun ls hl => ?_)
      refine lv_aload hx hb dX11_divided_69 (lv_at hl 0 rfl) ?_
      refine lv_iconst (v := iz (0)) hx hb dX11_divided_71 rfl ?_
      refine zr_aldq (v := rq) hx hb hK hP 6 4 rfl rfl (i := 0) (⟨by omega, by omega, by omega⟩) (hld.1) dX11_divided_72 ?_
      refine lv_astore_n (lv' := [(2, .ref rq), (4, .ref r5), (3, .ref a), (0, .ref a), (1, .ref a2)]) hx hb dX11_divided_73 rfl hl (by decide) rfl (fun ls hl => ?_)
      refine lv_aload hx hb dX11_divided_74 (lv_at hl 1 rfl) ?_
      refine lv_iconst (v := iz (1)) hx hb dX11_divided_76 rfl ?_
      refine zr_aldq (v := rz) hx hb hK hP 6 4 rfl rfl (i := 1) (⟨by omega, by omega, by omega⟩) (hld.2.1) dX11_divided_77 ?_
      refine lv_astore_n (lv' := [(3, .ref rz), (2, .ref rq), (4, .ref r5), (0, .ref a), (1, .ref a2)]) hx hb dX11_divided_78 rfl hl (by decide) rfl (fun ls hl => ?_)
      refine lv_iconst (v := iz (2)) hx hb dX11_divided_79 rfl ?_
      refine zr_newqW (G := G) (n := 2) (N := 2) hx hb hown (hts (.classLink RX11 8 "AnnuityHouseModel$Whole") (by decide +kernel)) hKX hP hD hS hA (by omega) (by omega) (by omega) (by first | exact Nat.le_of_ble_eq_true rfl | (show _ ≤ (30 : Nat); omega)) (by first | exact Nat.le_of_ble_eq_true rfl | (show _ ≤ (2900 : Nat); omega)) dX11_divided_80 (fun ra H hP hD hS => ?_)
      have hP : va_P G.1 vwCl [(ro, .inr (12, [.int (iz (so)), .ref bo])), (bo, zaI (G.2 1) No (fo)), (a, .inr (12, [.int (iz (sg)), .ref b])), (b, zaI (G.2 1) N (f)), (a2, .inr (12, [.int (iz (sg2)), .ref b2])), (b2, zaI (G.2 1) N2 (f2)), (r5, zaR (G.2 4) 2 (fr)), (rq, .inr (12, [.int (iz (sq)), .ref bq])), (bq, zaI (G.2 1) Nq (fq)), (rz, .inr (12, [.int (iz (sz)), .ref bz])), (bz, zaI (G.2 1) Nz (fz)), (ra, zaR (G.2 4) 2 (fun _ => none))] H := hP
      have hD : va_D A [(ro, .inr (12, [.int (iz (so)), .ref bo])), (bo, zaI (G.2 1) No (fo)), (a, .inr (12, [.int (iz (sg)), .ref b])), (b, zaI (G.2 1) N (f)), (a2, .inr (12, [.int (iz (sg2)), .ref b2])), (b2, zaI (G.2 1) N2 (f2)), (r5, zaR (G.2 4) 2 (fr)), (rq, .inr (12, [.int (iz (sq)), .ref bq])), (bq, zaI (G.2 1) Nq (fq)), (rz, .inr (12, [.int (iz (sz)), .ref bz])), (bz, zaI (G.2 1) Nz (fz)), (ra, zaR (G.2 4) 2 (fun _ => none))] := hD
      refine lv_dup hx hb dX11_divided_83 rfl ?_
      refine lv_iconst (v := iz (0)) hx hb dX11_divided_84 rfl ?_
      refine lv_aload_n hx hb dX11_divided_85 rfl (lv_at hl 3 rfl) ?_
      refine va_get (D := G.1) (ci := 12) (v := .int (iz (sg))) (C := RX11) (T := TX11) (N := 2) hx hb hts iwX11 hown hK hP 2 rfl rfl 0 (by decide) (hts (.fieldLink RX11 7 "AnnuityHouseModel$Whole" "sign" "I") (by decide +kernel)) (fun _ h9 => h9) rfl dX11_divided_86 ?_
      refine lv_aload_n hx hb dX11_divided_89 rfl (lv_at hl 4 rfl) ?_
      refine va_get (D := G.1) (ci := 12) (v := .int (iz (sg2))) (C := RX11) (T := TX11) (N := 2) hx hb hts iwX11 hown hK hP 4 rfl rfl 0 (by decide) (hts (.fieldLink RX11 7 "AnnuityHouseModel$Whole" "sign" "I") (by decide +kernel)) (fun _ h9 => h9) rfl dX11_divided_90 ?_
      refine zr_imul hx hb dX11_divided_93 ?_
      refine zr_namei (fun sp esp => ?_)
      have hsp : 0 ≤ sp ∧ sp ≤ 1 := by rw [esp, show sg2 = 1 by omega]; omega
      refine zr_if_ge (x := sp) (tgt := 104) hx hb (⟨by omega, by omega⟩) dX11_divided_94 (by decide) (fun h_18 => ?_) (fun h_18 => ?_)
      ·
        refine lv_aload_n hx hb dX11_divided_104 rfl (lv_at hl 1 rfl) ?_
        refine va_astq (D := G.1) hx hb hK hP hD hS 11 4 7 12 rfl rfl rfl rfl (iz_in (a := 0) (by omega) (by omega) (by omega)) dX11_divided_105 (fun H locs hP hD hS => ?_)
        have hP : va_P G.1 vwCl [(ro, .inr (12, [.int (iz (so)), .ref bo])), (bo, zaI (G.2 1) No (fo)), (a, .inr (12, [.int (iz (sg)), .ref b])), (b, zaI (G.2 1) N (f)), (a2, .inr (12, [.int (iz (sg2)), .ref b2])), (b2, zaI (G.2 1) N2 (f2)), (r5, zaR (G.2 4) 2 (fr)), (rq, .inr (12, [.int (iz (sq)), .ref bq])), (bq, zaI (G.2 1) Nq (fq)), (rz, .inr (12, [.int (iz (sz)), .ref bz])), (bz, zaI (G.2 1) Nz (fz)), (ra, zaR (G.2 4) 2 (zfu (fun _ => none) 0 rq))] H := hP
        have hD : va_D A [(ro, .inr (12, [.int (iz (so)), .ref bo])), (bo, zaI (G.2 1) No (fo)), (a, .inr (12, [.int (iz (sg)), .ref b])), (b, zaI (G.2 1) N (f)), (a2, .inr (12, [.int (iz (sg2)), .ref b2])), (b2, zaI (G.2 1) N2 (f2)), (r5, zaR (G.2 4) 2 (fr)), (rq, .inr (12, [.int (iz (sq)), .ref bq])), (bq, zaI (G.2 1) Nq (fq)), (rz, .inr (12, [.int (iz (sz)), .ref bz])), (bz, zaI (G.2 1) Nz (fz)), (ra, zaR (G.2 4) 2 (zfu (fun _ => none) 0 rq))] := hD
        refine lv_dup hx hb dX11_divided_106 rfl ?_
        refine lv_iconst (v := iz (1)) hx hb dX11_divided_107 rfl ?_
        refine lv_aload_n hx hb dX11_divided_108 rfl (lv_at hl 3 rfl) ?_
        refine va_get (D := G.1) (ci := 12) (v := .int (iz (sg))) (C := RX11) (T := TX11) (N := 2) hx hb hts iwX11 hown hK hP 2 rfl rfl 0 (by decide) (hts (.fieldLink RX11 7 "AnnuityHouseModel$Whole" "sign" "I") (by decide +kernel)) (fun _ h9 => h9) rfl dX11_divided_109 ?_
        refine zr_if_ge (x := sg) (tgt := 122) hx hb (⟨by omega, by omega⟩) dX11_divided_112 (by decide) (fun h_19 => ?_) (fun h_19 => ?_)
        ·
          refine lv_aload_n hx hb dX11_divided_122 rfl (lv_at hl 0 rfl) ?_
          refine va_astq (D := G.1) hx hb hK hP hD hS 11 4 9 12 rfl rfl rfl rfl (iz_in (a := 1) (by omega) (by omega) (by omega)) dX11_divided_123 (fun H locs hP hD hS => ?_)
          have hP : va_P G.1 vwCl [(ro, .inr (12, [.int (iz (so)), .ref bo])), (bo, zaI (G.2 1) No (fo)), (a, .inr (12, [.int (iz (sg)), .ref b])), (b, zaI (G.2 1) N (f)), (a2, .inr (12, [.int (iz (sg2)), .ref b2])), (b2, zaI (G.2 1) N2 (f2)), (r5, zaR (G.2 4) 2 (fr)), (rq, .inr (12, [.int (iz (sq)), .ref bq])), (bq, zaI (G.2 1) Nq (fq)), (rz, .inr (12, [.int (iz (sz)), .ref bz])), (bz, zaI (G.2 1) Nz (fz)), (ra, zaR (G.2 4) 2 (zfu (zfu (fun _ => none) 0 rq) 1 rz))] H := hP
          have hD : va_D A [(ro, .inr (12, [.int (iz (so)), .ref bo])), (bo, zaI (G.2 1) No (fo)), (a, .inr (12, [.int (iz (sg)), .ref b])), (b, zaI (G.2 1) N (f)), (a2, .inr (12, [.int (iz (sg2)), .ref b2])), (b2, zaI (G.2 1) N2 (f2)), (r5, zaR (G.2 4) 2 (fr)), (rq, .inr (12, [.int (iz (sq)), .ref bq])), (bq, zaI (G.2 1) Nq (fq)), (rz, .inr (12, [.int (iz (sz)), .ref bz])), (bz, zaI (G.2 1) Nz (fz)), (ra, zaR (G.2 4) 2 (zfu (zfu (fun _ => none) 0 rq) 1 rz))] := hD
          rw [hQ]
          exact zr_aret (ra := ra) (Or.inr ⟨_, rfl⟩) (u := (zfu (zfu (fun _ => none) 0 rq) 1 rz, rq, bq, fq, Nq, sq, rz, bz, fz, Nz, sz)) hx hb hr hlocks (hP.sub [2, 3, 4, 5, 11, 7, 8, 9, 10] rfl) (hD.sub [2, 3, 4, 5, 11, 7, 8, 9, 10] (by decide) rfl) hS (by first | exact Nat.le_of_ble_eq_true rfl | omega) (by first | exact Nat.le_of_ble_eq_true rfl | omega) dX11_divided_124 (show (zfu (zfu (fun _ => none) 0 rq) 1 rz) 0 = some rq ∧ (zfu (zfu (fun _ => none) 0 rq) 1 rz) 1 = some rz ∧ tmw fq Nq sq (v / v2) ∧ tmw fz Nz sz (v % v2) from ⟨(zfu_n (by decide) (by decide) (by decide)).trans (zfu_s (by decide) (by decide)), zfu_s (by decide) (by decide), by first | exact hld.2.2.1 | exact tpost hq1 (by rw [h18, show (v.natAbs : Int) = v by omega]), by first | exact hld.2.2.2 | exact tpost hq2 (by rw [hrs, h18, show (v.natAbs : Int) = v by omega])⟩)
        · exact absurd h_19 (by omega)
      · exact absurd h_18 (by omega)
  ·
    have h18 := tdv_one h2 (show N2 = 1 by omega) h4
    have d18 := h2.dig 0 (by omega) (by omega)
    refine lv_aload_n hx hb dX11_divided_19 rfl (lv_at hl 2 rfl) ?_
    refine lv_aload_n hx hb dX11_divided_20 rfl (lv_at hl 3 rfl) ?_
    refine va_get (D := G.1) (ci := 12) (v := .ref b2) (C := RX11) (T := TX11) (N := 2) hx hb hts iwX11 hown hK hP 0 rfl rfl 1 (by decide) (hts (.fieldLink RX11 13 "AnnuityHouseModel$Whole" "limbs" "[I") (by decide +kernel)) (fun _ h9 => h9) rfl dX11_divided_21 ?_
    refine lv_iconst (v := iz (0)) hx hb dX11_divided_24 rfl ?_
    refine zr_iald hx hb hK hP 1 1 rfl rfl (i := 0) (⟨by omega, by omega, by omega⟩) dX11_divided_25 ?_
    refine zc_r (wr := [(a2, .inr (12, [.int (iz (sg2)), .ref b2])), (b2, zaI (G.2 1) N2 (f2)), (ro, .inr (12, [.int (iz (so)), .ref bo])), (bo, zaI (G.2 1) No (fo))]) (va_runV (As := [.int (iz (f2 0))]) (rest := []) ⟨hx, hb, hml, hown, hts⟩ (c_X11_bySmall l G a b f N sg v (f2 0) (h1) (by omega) H.size) (cwV 1 hts gX11_divided_X11_bySmall rfl rfl rfl (by decide +kernel) ⟨Nat.le_of_ble_eq_true rfl, Nat.le_of_ble_eq_true rfl⟩) (zpV hKX hP hD [4, 5] rfl rfl 4 12 rfl rfl) rfl rfl hl.1 rfl (lv_room (Nat.le_of_ble_eq_true rfl)) dX11_divided_26 ⟨(by first | exact Nat.le_of_ble_eq_true rfl | (show _ ≤ (30 : Nat); omega)), (by first | exact Nat.le_of_ble_eq_true rfl | (show _ ≤ (2900 : Nat); omega))⟩) hP hD hS hA [4, 5] [0, 1, 2, 3] rfl rfl rfl (by decide) (fun u_20 rq H locs hq1 hP hD hS => ?_)
    obtain ⟨bq, fq, Nq, sq⟩ := u_20
    have hP : va_P G.1 vwCl [(a2, .inr (12, [.int (iz (sg2)), .ref b2])), (b2, zaI (G.2 1) N2 (f2)), (ro, .inr (12, [.int (iz (so)), .ref bo])), (bo, zaI (G.2 1) No (fo)), (a, .inr (12, [.int (iz (sg)), .ref b])), (b, zaI (G.2 1) N (f)), (rq, .inr (12, [.int (iz (sq)), .ref bq])), (bq, zaI (G.2 1) Nq (fq))] H := hP
    have hD : va_D A [(a2, .inr (12, [.int (iz (sg2)), .ref b2])), (b2, zaI (G.2 1) N2 (f2)), (ro, .inr (12, [.int (iz (so)), .ref bo])), (bo, zaI (G.2 1) No (fo)), (a, .inr (12, [.int (iz (sg)), .ref b])), (b, zaI (G.2 1) N (f)), (rq, .inr (12, [.int (iz (sq)), .ref bq])), (bq, zaI (G.2 1) Nq (fq))] := hD
    have hq1 : tmw fq Nq sq ((v.natAbs : Int) / (f2 0)) := hq1
    refine lv_astore_n (lv' := [(2, .ref rq), (3, .ref a), (0, .ref a), (1, .ref a2)]) hx hb dX11_divided_29 rfl hl (by decide) rfl (fun ls hl => ?_)
    refine lv_aload_n hx hb dX11_divided_30 rfl (lv_at hl 2 rfl) ?_
    refine lv_aload_n hx hb dX11_divided_31 rfl (lv_at hl 3 rfl) ?_
    refine va_get (D := G.1) (ci := 12) (v := .ref b2) (C := RX11) (T := TX11) (N := 2) hx hb hts iwX11 hown hK hP 0 rfl rfl 1 (by decide) (hts (.fieldLink RX11 13 "AnnuityHouseModel$Whole" "limbs" "[I") (by decide +kernel)) (fun _ h9 => h9) rfl dX11_divided_32 ?_
    refine lv_iconst (v := iz (0)) hx hb dX11_divided_35 rfl ?_
    refine zr_iald hx hb hK hP 1 1 rfl rfl (i := 0) (⟨by omega, by omega, by omega⟩) dX11_divided_36 ?_
    refine zr_i2l hx hb (x := f2 0) (⟨by omega, by omega⟩) dX11_divided_37 ?_
    refine zc_l (wr := [(a2, .inr (12, [.int (iz (sg2)), .ref b2])), (b2, zaI (G.2 1) N2 (f2)), (ro, .inr (12, [.int (iz (so)), .ref bo])), (bo, zaI (G.2 1) No (fo)), (rq, .inr (12, [.int (iz (sq)), .ref bq])), (bq, zaI (G.2 1) Nq (fq))]) (va_runV (As := [.long (lz (f2 0))]) (rest := []) ⟨hx, hb, hml, hown, hts⟩ (c_X11_rest l G a b f N sg v (f2 0) (h1) (by omega) H.size) (cwV 1 hts gX11_divided_X11_rest rfl rfl rfl (by decide +kernel) ⟨Nat.le_of_ble_eq_true rfl, Nat.le_of_ble_eq_true rfl⟩) (zpV hKX hP hD [4, 5] rfl rfl 4 12 rfl rfl) rfl rfl hl.1 rfl (lv_room (Nat.le_of_ble_eq_true rfl)) dX11_divided_38 ⟨(by first | exact Nat.le_of_ble_eq_true rfl | (show _ ≤ (30 : Nat); omega)), (by first | exact Nat.le_of_ble_eq_true rfl | (show _ ≤ (2900 : Nat); omega))⟩) hP hD hS hA [4, 5] [0, 1, 2, 3, 6, 7] rfl rfl rfl (by decide) (fun rs u_22 H locs hrs hP hD hS => ?_)
    have hP : va_P G.1 vwCl [(a2, .inr (12, [.int (iz (sg2)), .ref b2])), (b2, zaI (G.2 1) N2 (f2)), (ro, .inr (12, [.int (iz (so)), .ref bo])), (bo, zaI (G.2 1) No (fo)), (rq, .inr (12, [.int (iz (sq)), .ref bq])), (bq, zaI (G.2 1) Nq (fq)), (a, .inr (12, [.int (iz (sg)), .ref b])), (b, zaI (G.2 1) N (f))] H := hP
    have hD : va_D A [(a2, .inr (12, [.int (iz (sg2)), .ref b2])), (b2, zaI (G.2 1) N2 (f2)), (ro, .inr (12, [.int (iz (so)), .ref bo])), (bo, zaI (G.2 1) No (fo)), (rq, .inr (12, [.int (iz (sq)), .ref bq])), (bq, zaI (G.2 1) Nq (fq)), (a, .inr (12, [.int (iz (sg)), .ref b])), (b, zaI (G.2 1) N (f))] := hD
    have hrs : rs = (v.natAbs : Int) % (f2 0) := hrs
    refine zc_r (wr := [(a2, .inr (12, [.int (iz (sg2)), .ref b2])), (b2, zaI (G.2 1) N2 (f2)), (ro, .inr (12, [.int (iz (so)), .ref bo])), (bo, zaI (G.2 1) No (fo)), (rq, .inr (12, [.int (iz (sq)), .ref bq])), (bq, zaI (G.2 1) Nq (fq)), (a, .inr (12, [.int (iz (sg)), .ref b])), (b, zaI (G.2 1) N (f))]) (va_runS (As := [.long (lz (rs))]) (rest := []) ⟨hx, hb, hml, hown, hts⟩ (c_X11_of l G rs (by rw [hrs]; exact tdv_rng (by omega)) H.size) (va_cwS 1 hts gX11_divided_X11_of rfl rfl rfl (by decide +kernel) ⟨Nat.le_of_ble_eq_true rfl, Nat.le_of_ble_eq_true rfl⟩) (zpS hKX hP hD [] rfl rfl) rfl rfl hl.1 rfl (lv_room (Nat.le_of_ble_eq_true rfl)) dX11_divided_41 ⟨(by first | exact Nat.le_of_ble_eq_true rfl | (show _ ≤ (30 : Nat); omega)), (by first | exact Nat.le_of_ble_eq_true rfl | (show _ ≤ (2900 : Nat); omega))⟩) hP hD hS hA [] [0, 1, 2, 3, 4, 5, 6, 7] rfl rfl rfl (by decide) (fun u_24 rz H locs hq2 hP hD hS => ?_)
    obtain ⟨bz, fz, Nz, sz⟩ := u_24
    have hP : va_P G.1 vwCl [(a2, .inr (12, [.int (iz (sg2)), .ref b2])), (b2, zaI (G.2 1) N2 (f2)), (ro, .inr (12, [.int (iz (so)), .ref bo])), (bo, zaI (G.2 1) No (fo)), (rq, .inr (12, [.int (iz (sq)), .ref bq])), (bq, zaI (G.2 1) Nq (fq)), (a, .inr (12, [.int (iz (sg)), .ref b])), (b, zaI (G.2 1) N (f)), (rz, .inr (12, [.int (iz (sz)), .ref bz])), (bz, zaI (G.2 1) Nz (fz))] H := hP
    have hD : va_D A [(a2, .inr (12, [.int (iz (sg2)), .ref b2])), (b2, zaI (G.2 1) N2 (f2)), (ro, .inr (12, [.int (iz (so)), .ref bo])), (bo, zaI (G.2 1) No (fo)), (rq, .inr (12, [.int (iz (sq)), .ref bq])), (bq, zaI (G.2 1) Nq (fq)), (a, .inr (12, [.int (iz (sg)), .ref b])), (b, zaI (G.2 1) N (f)), (rz, .inr (12, [.int (iz (sz)), .ref bz])), (bz, zaI (G.2 1) Nz (fz))] := hD
    have hq2 : tmw fz Nz sz rs := hq2
    refine lv_astore_n (lv' := [(3, .ref rz), (2, .ref rq), (0, .ref a), (1, .ref a2)]) hx hb dX11_divided_44 rfl hl (by decide) rfl (fun ls hl => ?_)
    refine lv_goto (tgt := 79) hx hb dX11_divided_45 (by decide) ?_
    refine lv_iconst (v := iz (2)) hx hb dX11_divided_79 rfl ?_
    refine zr_newqW (G := G) (n := 2) (N := 2) hx hb hown (hts (.classLink RX11 8 "AnnuityHouseModel$Whole") (by decide +kernel)) hKX hP hD hS hA (by omega) (by omega) (by omega) (by first | exact Nat.le_of_ble_eq_true rfl | (show _ ≤ (30 : Nat); omega)) (by first | exact Nat.le_of_ble_eq_true rfl | (show _ ≤ (2900 : Nat); omega)) dX11_divided_80 (fun ra H hP hD hS => ?_)
    have hP : va_P G.1 vwCl [(a2, .inr (12, [.int (iz (sg2)), .ref b2])), (b2, zaI (G.2 1) N2 (f2)), (ro, .inr (12, [.int (iz (so)), .ref bo])), (bo, zaI (G.2 1) No (fo)), (rq, .inr (12, [.int (iz (sq)), .ref bq])), (bq, zaI (G.2 1) Nq (fq)), (a, .inr (12, [.int (iz (sg)), .ref b])), (b, zaI (G.2 1) N (f)), (rz, .inr (12, [.int (iz (sz)), .ref bz])), (bz, zaI (G.2 1) Nz (fz)), (ra, zaR (G.2 4) 2 (fun _ => none))] H := hP
    have hD : va_D A [(a2, .inr (12, [.int (iz (sg2)), .ref b2])), (b2, zaI (G.2 1) N2 (f2)), (ro, .inr (12, [.int (iz (so)), .ref bo])), (bo, zaI (G.2 1) No (fo)), (rq, .inr (12, [.int (iz (sq)), .ref bq])), (bq, zaI (G.2 1) Nq (fq)), (a, .inr (12, [.int (iz (sg)), .ref b])), (b, zaI (G.2 1) N (f)), (rz, .inr (12, [.int (iz (sz)), .ref bz])), (bz, zaI (G.2 1) Nz (fz)), (ra, zaR (G.2 4) 2 (fun _ => none))] := hD
    refine lv_dup hx hb dX11_divided_83 rfl ?_
    refine lv_iconst (v := iz (0)) hx hb dX11_divided_84 rfl ?_
    refine lv_aload_n hx hb dX11_divided_85 rfl (lv_at hl 2 rfl) ?_
    refine va_get (D := G.1) (ci := 12) (v := .int (iz (sg))) (C := RX11) (T := TX11) (N := 2) hx hb hts iwX11 hown hK hP 6 rfl rfl 0 (by decide) (hts (.fieldLink RX11 7 "AnnuityHouseModel$Whole" "sign" "I") (by decide +kernel)) (fun _ h9 => h9) rfl dX11_divided_86 ?_
    refine lv_aload_n hx hb dX11_divided_89 rfl (lv_at hl 3 rfl) ?_
    refine va_get (D := G.1) (ci := 12) (v := .int (iz (sg2))) (C := RX11) (T := TX11) (N := 2) hx hb hts iwX11 hown hK hP 0 rfl rfl 0 (by decide) (hts (.fieldLink RX11 7 "AnnuityHouseModel$Whole" "sign" "I") (by decide +kernel)) (fun _ h9 => h9) rfl dX11_divided_90 ?_
    refine zr_imul hx hb dX11_divided_93 ?_
    refine zr_namei (fun sp esp => ?_)
    have hsp : 0 ≤ sp ∧ sp ≤ 1 := by rw [esp, show sg2 = 1 by omega]; omega
    refine zr_if_ge (x := sp) (tgt := 104) hx hb (⟨by omega, by omega⟩) dX11_divided_94 (by decide) (fun h_26 => ?_) (fun h_26 => ?_)
    ·
      refine lv_aload_n hx hb dX11_divided_104 rfl (lv_at hl 1 rfl) ?_
      refine va_astq (D := G.1) hx hb hK hP hD hS 10 4 4 12 rfl rfl rfl rfl (iz_in (a := 0) (by omega) (by omega) (by omega)) dX11_divided_105 (fun H locs hP hD hS => ?_)
      have hP : va_P G.1 vwCl [(a2, .inr (12, [.int (iz (sg2)), .ref b2])), (b2, zaI (G.2 1) N2 (f2)), (ro, .inr (12, [.int (iz (so)), .ref bo])), (bo, zaI (G.2 1) No (fo)), (rq, .inr (12, [.int (iz (sq)), .ref bq])), (bq, zaI (G.2 1) Nq (fq)), (a, .inr (12, [.int (iz (sg)), .ref b])), (b, zaI (G.2 1) N (f)), (rz, .inr (12, [.int (iz (sz)), .ref bz])), (bz, zaI (G.2 1) Nz (fz)), (ra, zaR (G.2 4) 2 (zfu (fun _ => none) 0 rq))] H := hP
      have hD : va_D A [(a2, .inr (12, [.int (iz (sg2)), .ref b2])), (b2, zaI (G.2 1) N2 (f2)), (ro, .inr (12, [.int (iz (so)), .ref bo])), (bo, zaI (G.2 1) No (fo)), (rq, .inr (12, [.int (iz (sq)), .ref bq])), (bq, zaI (G.2 1) Nq (fq)), (a, .inr (12, [.int (iz (sg)), .ref b])), (b, zaI (G.2 1) N (f)), (rz, .inr (12, [.int (iz (sz)), .ref bz])), (bz, zaI (G.2 1) Nz (fz)), (ra, zaR (G.2 4) 2 (zfu (fun _ => none) 0 rq))] := hD
      refine lv_dup hx hb dX11_divided_106 rfl ?_
      refine lv_iconst (v := iz (1)) hx hb dX11_divided_107 rfl ?_
      refine lv_aload_n hx hb dX11_divided_108 rfl (lv_at hl 2 rfl) ?_
      refine va_get (D := G.1) (ci := 12) (v := .int (iz (sg))) (C := RX11) (T := TX11) (N := 2) hx hb hts iwX11 hown hK hP 6 rfl rfl 0 (by decide) (hts (.fieldLink RX11 7 "AnnuityHouseModel$Whole" "sign" "I") (by decide +kernel)) (fun _ h9 => h9) rfl dX11_divided_109 ?_
      refine zr_if_ge (x := sg) (tgt := 122) hx hb (⟨by omega, by omega⟩) dX11_divided_112 (by decide) (fun h_27 => ?_) (fun h_27 => ?_)
      ·
        refine lv_aload_n hx hb dX11_divided_122 rfl (lv_at hl 0 rfl) ?_
        refine va_astq (D := G.1) hx hb hK hP hD hS 10 4 8 12 rfl rfl rfl rfl (iz_in (a := 1) (by omega) (by omega) (by omega)) dX11_divided_123 (fun H locs hP hD hS => ?_)
        have hP : va_P G.1 vwCl [(a2, .inr (12, [.int (iz (sg2)), .ref b2])), (b2, zaI (G.2 1) N2 (f2)), (ro, .inr (12, [.int (iz (so)), .ref bo])), (bo, zaI (G.2 1) No (fo)), (rq, .inr (12, [.int (iz (sq)), .ref bq])), (bq, zaI (G.2 1) Nq (fq)), (a, .inr (12, [.int (iz (sg)), .ref b])), (b, zaI (G.2 1) N (f)), (rz, .inr (12, [.int (iz (sz)), .ref bz])), (bz, zaI (G.2 1) Nz (fz)), (ra, zaR (G.2 4) 2 (zfu (zfu (fun _ => none) 0 rq) 1 rz))] H := hP
        have hD : va_D A [(a2, .inr (12, [.int (iz (sg2)), .ref b2])), (b2, zaI (G.2 1) N2 (f2)), (ro, .inr (12, [.int (iz (so)), .ref bo])), (bo, zaI (G.2 1) No (fo)), (rq, .inr (12, [.int (iz (sq)), .ref bq])), (bq, zaI (G.2 1) Nq (fq)), (a, .inr (12, [.int (iz (sg)), .ref b])), (b, zaI (G.2 1) N (f)), (rz, .inr (12, [.int (iz (sz)), .ref bz])), (bz, zaI (G.2 1) Nz (fz)), (ra, zaR (G.2 4) 2 (zfu (zfu (fun _ => none) 0 rq) 1 rz))] := hD
        rw [hQ]
        exact zr_aret (ra := ra) (Or.inr ⟨_, rfl⟩) (u := (zfu (zfu (fun _ => none) 0 rq) 1 rz, rq, bq, fq, Nq, sq, rz, bz, fz, Nz, sz)) hx hb hr hlocks (hP.sub [6, 7, 0, 1, 10, 4, 5, 8, 9] rfl) (hD.sub [6, 7, 0, 1, 10, 4, 5, 8, 9] (by decide) rfl) hS (by first | exact Nat.le_of_ble_eq_true rfl | omega) (by first | exact Nat.le_of_ble_eq_true rfl | omega) dX11_divided_124 (show (zfu (zfu (fun _ => none) 0 rq) 1 rz) 0 = some rq ∧ (zfu (zfu (fun _ => none) 0 rq) 1 rz) 1 = some rz ∧ tmw fq Nq sq (v / v2) ∧ tmw fz Nz sz (v % v2) from ⟨(zfu_n (by decide) (by decide) (by decide)).trans (zfu_s (by decide) (by decide)), zfu_s (by decide) (by decide), by first | exact hld.2.2.1 | exact tpost hq1 (by rw [h18, show (v.natAbs : Int) = v by omega]), by first | exact hld.2.2.2 | exact tpost hq2 (by rw [hrs, h18, show (v.natAbs : Int) = v by omega])⟩)
      · exact absurd h_27 (by omega)
    · exact absurd h_26 (by omega)

def rm_c_X11_divided_o : Room := { frames := 3, cells := 30, slots := 2900, locals := 61 }
set_option maxHeartbeats 1000000 in
set_option maxRecDepth 100000 in
theorem c_X11_divided_o (l : Launch) (G : zG) (a : Nat) (b : Nat) (f : Int → Int) (N : Nat) (sg : Int) (a2 : Nat) (b2 : Nat) (f2 : Int → Int) (N2 : Nat) (sg2 : Int) (v : Int) (v2 : Int) (h1 : tmw f N sg v) (h2 : tmw f2 N2 sg2 v2) (h3 : 0 ≤ v) (h4 : 0 < v2) (h8 : N2 ≠ 1 ∧ v < v2) : zM l G yX11_divided wsX11_divided rm_c_X11_divided_o [.ref a, .ref a2] [(a, .inr (12, [.int (iz (sg)), .ref b])), (b, zaI (G.2 1) N (f)), (a2, .inr (12, [.int (iz (sg2)), .ref b2])), (b2, zaI (G.2 1) N2 (f2))] (fun A => zQr G (fun (u : (Nat → Option Nat) × Nat × Nat × (Int → Int) × Nat × Int) (ra : Nat) => u.1 0 = some u.2.1 ∧ u.1 1 = some a ∧ tmw u.2.2.2.1 u.2.2.2.2.1 u.2.2.2.2.2 (v / v2)) (fun (u : (Nat → Option Nat) × Nat × Nat × (Int → Int) × Nat × Int) (ra : Nat) => [(a, .inr (12, [.int (iz (sg)), .ref b])), (b, zaI (G.2 1) N (f)), (a2, .inr (12, [.int (iz (sg2)), .ref b2])), (b2, zaI (G.2 1) N2 (f2)), (ra, zaR (G.2 4) 2 (u.1)), (u.2.1, .inr (12, [.int (iz (u.2.2.2.2.2)), .ref u.2.2.1])), (u.2.2.1, zaI (G.2 1) u.2.2.2.2.1 (u.2.2.2.1))]) A) 30 2900 := by
  refine zM_of (cc := cX11_divided) (maxL := 5) (ret := (some (.array (.object "AnnuityHouseModel$Whole")))) (by decide) rfl (Nat.le_of_ble_eq_true rfl) ?_
  intro p e s m below meth c ls A Q hQ hx hb hr hts hown hlocks hml hnm hKX hP hD hA hS hl
  have hK := hKX.1
  have iwX11 := iw_X11_divided_X11
  obtain ⟨H, hH⟩ : ∃ h, h = s.heap := ⟨_, rfl⟩
  obtain ⟨locs, hlo⟩ : ∃ h : List Loc, h = [] := ⟨_, rfl⟩
  have hS : va_S A s.heap H locs := by rw [hH, hlo]; exact hS
  have hP : va_P G.1 vwCl [(a, .inr (12, [.int (iz (sg)), .ref b])), (b, zaI (G.2 1) N (f)), (a2, .inr (12, [.int (iz (sg2)), .ref b2])), (b2, zaI (G.2 1) N2 (f2))] H := by rw [hH]; exact hP
  have hD : va_D A [(a, .inr (12, [.int (iz (sg)), .ref b])), (b, zaI (G.2 1) N (f)), (a2, .inr (12, [.int (iz (sg2)), .ref b2])), (b2, zaI (G.2 1) N2 (f2))] := hD
  have hl : lv_has ls 5 [(0, .ref a), (1, .ref a2)] := hl
  rw [← hH, ← hlo]
  have n1 := h1.n
  have n2 := h2.n
  have g1 := h1.sgi
  have g2 := h2.sgi
  have s1 := h1.sgn
  have s2 := h2.sgn
  have p1 := Int.sign_nonneg_iff.mpr h3
  have p2 := Int.sign_eq_one_of_pos h4
  refine lv_lconst (v := lz (0)) hx hb dX11_divided_0 rfl ?_
  refine zc_r (wr := [(a, .inr (12, [.int (iz (sg)), .ref b])), (b, zaI (G.2 1) N (f)), (a2, .inr (12, [.int (iz (sg2)), .ref b2])), (b2, zaI (G.2 1) N2 (f2))]) (va_runS (As := [.long (lz (0))]) (rest := []) ⟨hx, hb, hml, hown, hts⟩ (c_X11_of l G 0 (by omega) H.size) (va_cwS 1 hts gX11_divided_X11_of rfl rfl rfl (by decide +kernel) ⟨Nat.le_of_ble_eq_true rfl, Nat.le_of_ble_eq_true rfl⟩) (zpS hKX hP hD [] rfl rfl) rfl rfl hl.1 rfl (lv_room (Nat.le_of_ble_eq_true rfl)) dX11_divided_1 ⟨(by first | exact Nat.le_of_ble_eq_true rfl | (show _ ≤ (30 : Nat); omega)), (by first | exact Nat.le_of_ble_eq_true rfl | (show _ ≤ (2900 : Nat); omega))⟩) hP hD hS hA [] [0, 1, 2, 3] rfl rfl rfl (by decide) (fun u_1 ro H locs hz0 hP hD hS => ?_)
  obtain ⟨bo, fo, No, so⟩ := u_1
  have hP : va_P G.1 vwCl [(a, .inr (12, [.int (iz (sg)), .ref b])), (b, zaI (G.2 1) N (f)), (a2, .inr (12, [.int (iz (sg2)), .ref b2])), (b2, zaI (G.2 1) N2 (f2)), (ro, .inr (12, [.int (iz (so)), .ref bo])), (bo, zaI (G.2 1) No (fo))] H := hP
  have hD : va_D A [(a, .inr (12, [.int (iz (sg)), .ref b])), (b, zaI (G.2 1) N (f)), (a2, .inr (12, [.int (iz (sg2)), .ref b2])), (b2, zaI (G.2 1) N2 (f2)), (ro, .inr (12, [.int (iz (so)), .ref bo])), (bo, zaI (G.2 1) No (fo))] := hD
  have hz0 : tmw fo No so (0 : Int) := hz0
  refine lv_astore_n (lv' := [(2, .ref ro), (0, .ref a), (1, .ref a2)]) hx hb dX11_divided_4 rfl hl (by decide) rfl (fun ls hl => ?_)
  refine lv_aload_n hx hb dX11_divided_5 rfl (lv_at hl 1 rfl) ?_
  refine zc_r (wr := [(a2, .inr (12, [.int (iz (sg2)), .ref b2])), (b2, zaI (G.2 1) N2 (f2)), (ro, .inr (12, [.int (iz (so)), .ref bo])), (bo, zaI (G.2 1) No (fo))]) (va_runV (As := []) (rest := []) ⟨hx, hb, hml, hown, hts⟩ (c_X11_size_p l G a b f N sg v (h1) (h3) H.size) (cwV 0 hts gX11_divided_X11_size rfl rfl rfl (by decide +kernel) ⟨Nat.le_of_ble_eq_true rfl, Nat.le_of_ble_eq_true rfl⟩) (zpV hKX hP hD [0, 1] rfl rfl 0 12 rfl rfl) rfl rfl hl.1 rfl (lv_room (Nat.le_of_ble_eq_true rfl)) dX11_divided_6 ⟨(by first | exact Nat.le_of_ble_eq_true rfl | (show _ ≤ (30 : Nat); omega)), (by first | exact Nat.le_of_ble_eq_true rfl | (show _ ≤ (2900 : Nat); omega))⟩) hP hD hS hA [0, 1] [2, 3, 4, 5] rfl rfl rfl (by decide) (fun u_3 ra_5 H locs hsz hP hD hS => ?_)
  have hP : va_P G.1 vwCl [(a2, .inr (12, [.int (iz (sg2)), .ref b2])), (b2, zaI (G.2 1) N2 (f2)), (ro, .inr (12, [.int (iz (so)), .ref bo])), (bo, zaI (G.2 1) No (fo)), (a, .inr (12, [.int (iz (sg)), .ref b])), (b, zaI (G.2 1) N (f))] H := hP
  have hD : va_D A [(a2, .inr (12, [.int (iz (sg2)), .ref b2])), (b2, zaI (G.2 1) N2 (f2)), (ro, .inr (12, [.int (iz (so)), .ref bo])), (bo, zaI (G.2 1) No (fo)), (a, .inr (12, [.int (iz (sg)), .ref b])), (b, zaI (G.2 1) N (f))] := hD
  have hsz : ra_5 = a := hsz
  rw [hsz]
  refine lv_astore_n (lv' := [(3, .ref a), (2, .ref ro), (0, .ref a), (1, .ref a2)]) hx hb dX11_divided_9 rfl hl (by decide) rfl (fun ls hl => ?_)
  refine lv_aload_n hx hb dX11_divided_10 rfl (lv_at hl 3 rfl) ?_
  refine va_get (D := G.1) (ci := 12) (v := .ref b2) (C := RX11) (T := TX11) (N := 2) hx hb hts iwX11 hown hK hP 0 rfl rfl 1 (by decide) (hts (.fieldLink RX11 13 "AnnuityHouseModel$Whole" "limbs" "[I") (by decide +kernel)) (fun _ h9 => h9) rfl dX11_divided_11 ?_
  refine zr_alenI hx hb hK hP 1 1 rfl rfl dX11_divided_14 ?_
  refine lv_iconst (v := iz (1)) hx hb dX11_divided_15 rfl ?_
  refine zr_icmp_ne (x := N2) (y := 1) (tgt := 48) hx hb (⟨by omega, by omega⟩) (⟨by omega, by omega⟩) dX11_divided_16 (by decide) (fun h_6 => ?_) (fun h_6 => ?_)
  ·
    have hN2 : 2 ≤ N2 := by have := tdv_pos h2 h4; omega
    refine lv_aload_n hx hb dX11_divided_48 rfl (lv_at hl 2 rfl) ?_
    refine lv_aload_n hx hb dX11_divided_49 rfl (lv_at hl 3 rfl) ?_
    refine zc_i (wr := [(ro, .inr (12, [.int (iz (so)), .ref bo])), (bo, zaI (G.2 1) No (fo))]) (va_runV (As := [.ref a2]) (rest := []) ⟨hx, hb, hml, hown, hts⟩ (c_X11_comparedSize l G a b f N sg a2 b2 f2 N2 sg2 v v2 (h1) (h2) H.size) (cwV 1 hts gX11_divided_X11_comparedSize rfl rfl rfl (by decide +kernel) ⟨Nat.le_of_ble_eq_true rfl, Nat.le_of_ble_eq_true rfl⟩) (zpV hKX hP hD [4, 5, 0, 1] rfl rfl 4 12 rfl rfl) rfl rfl hl.1 rfl (lv_room (Nat.le_of_ble_eq_true rfl)) dX11_divided_50 ⟨(by first | exact Nat.le_of_ble_eq_true rfl | (show _ ≤ (30 : Nat); omega)), (by first | exact Nat.le_of_ble_eq_true rfl | (show _ ≤ (2900 : Nat); omega))⟩) hP hD hS hA [4, 5, 0, 1] [2, 3] rfl rfl rfl (by decide) (fun cs u_7 H locs hcs hP hD hS => ?_)
    have hP : va_P G.1 vwCl [(ro, .inr (12, [.int (iz (so)), .ref bo])), (bo, zaI (G.2 1) No (fo)), (a, .inr (12, [.int (iz (sg)), .ref b])), (b, zaI (G.2 1) N (f)), (a2, .inr (12, [.int (iz (sg2)), .ref b2])), (b2, zaI (G.2 1) N2 (f2))] H := hP
    have hD : va_D A [(ro, .inr (12, [.int (iz (so)), .ref bo])), (bo, zaI (G.2 1) No (fo)), (a, .inr (12, [.int (iz (sg)), .ref b])), (b, zaI (G.2 1) N (f)), (a2, .inr (12, [.int (iz (sg2)), .ref b2])), (b2, zaI (G.2 1) N2 (f2))] := hD
    have hcs : cs = ((v.natAbs : Int) - (v2.natAbs : Int)).sign := hcs
    have hsr := tsgn_rng ((v.natAbs : Int) - (v2.natAbs : Int))
    refine zr_if_lt (x := cs) (tgt := 79) hx hb (⟨by omega, by omega⟩) dX11_divided_53 (by decide) (fun h_9 => ?_) (fun h_9 => ?_)
    ·
      refine lv_iconst (v := iz (2)) hx hb dX11_divided_79 rfl ?_
      refine zr_newqW (G := G) (n := 2) (N := 2) hx hb hown (hts (.classLink RX11 8 "AnnuityHouseModel$Whole") (by decide +kernel)) hKX hP hD hS hA (by omega) (by omega) (by omega) (by first | exact Nat.le_of_ble_eq_true rfl | (show _ ≤ (30 : Nat); omega)) (by first | exact Nat.le_of_ble_eq_true rfl | (show _ ≤ (2900 : Nat); omega)) dX11_divided_80 (fun ra H hP hD hS => ?_)
      have hP : va_P G.1 vwCl [(ro, .inr (12, [.int (iz (so)), .ref bo])), (bo, zaI (G.2 1) No (fo)), (a, .inr (12, [.int (iz (sg)), .ref b])), (b, zaI (G.2 1) N (f)), (a2, .inr (12, [.int (iz (sg2)), .ref b2])), (b2, zaI (G.2 1) N2 (f2)), (ra, zaR (G.2 4) 2 (fun _ => none))] H := hP
      have hD : va_D A [(ro, .inr (12, [.int (iz (so)), .ref bo])), (bo, zaI (G.2 1) No (fo)), (a, .inr (12, [.int (iz (sg)), .ref b])), (b, zaI (G.2 1) N (f)), (a2, .inr (12, [.int (iz (sg2)), .ref b2])), (b2, zaI (G.2 1) N2 (f2)), (ra, zaR (G.2 4) 2 (fun _ => none))] := hD
      refine lv_dup hx hb dX11_divided_83 rfl ?_
      refine lv_iconst (v := iz (0)) hx hb dX11_divided_84 rfl ?_
      refine lv_aload_n hx hb dX11_divided_85 rfl (lv_at hl 2 rfl) ?_
      refine va_get (D := G.1) (ci := 12) (v := .int (iz (sg))) (C := RX11) (T := TX11) (N := 2) hx hb hts iwX11 hown hK hP 2 rfl rfl 0 (by decide) (hts (.fieldLink RX11 7 "AnnuityHouseModel$Whole" "sign" "I") (by decide +kernel)) (fun _ h9 => h9) rfl dX11_divided_86 ?_
      refine lv_aload_n hx hb dX11_divided_89 rfl (lv_at hl 3 rfl) ?_
      refine va_get (D := G.1) (ci := 12) (v := .int (iz (sg2))) (C := RX11) (T := TX11) (N := 2) hx hb hts iwX11 hown hK hP 4 rfl rfl 0 (by decide) (hts (.fieldLink RX11 7 "AnnuityHouseModel$Whole" "sign" "I") (by decide +kernel)) (fun _ h9 => h9) rfl dX11_divided_90 ?_
      refine zr_imul hx hb dX11_divided_93 ?_
      refine zr_namei (fun sp esp => ?_)
      have hsp : 0 ≤ sp ∧ sp ≤ 1 := by rw [esp, show sg2 = 1 by omega]; omega
      refine zr_if_ge (x := sp) (tgt := 104) hx hb (⟨by omega, by omega⟩) dX11_divided_94 (by decide) (fun h_10 => ?_) (fun h_10 => ?_)
      ·
        refine lv_aload_n hx hb dX11_divided_104 rfl (lv_at hl 1 rfl) ?_
        refine va_astq (D := G.1) hx hb hK hP hD hS 6 4 0 12 rfl rfl rfl rfl (iz_in (a := 0) (by omega) (by omega) (by omega)) dX11_divided_105 (fun H locs hP hD hS => ?_)
        have hP : va_P G.1 vwCl [(ro, .inr (12, [.int (iz (so)), .ref bo])), (bo, zaI (G.2 1) No (fo)), (a, .inr (12, [.int (iz (sg)), .ref b])), (b, zaI (G.2 1) N (f)), (a2, .inr (12, [.int (iz (sg2)), .ref b2])), (b2, zaI (G.2 1) N2 (f2)), (ra, zaR (G.2 4) 2 (zfu (fun _ => none) 0 ro))] H := hP
        have hD : va_D A [(ro, .inr (12, [.int (iz (so)), .ref bo])), (bo, zaI (G.2 1) No (fo)), (a, .inr (12, [.int (iz (sg)), .ref b])), (b, zaI (G.2 1) N (f)), (a2, .inr (12, [.int (iz (sg2)), .ref b2])), (b2, zaI (G.2 1) N2 (f2)), (ra, zaR (G.2 4) 2 (zfu (fun _ => none) 0 ro))] := hD
        refine lv_dup hx hb dX11_divided_106 rfl ?_
        refine lv_iconst (v := iz (1)) hx hb dX11_divided_107 rfl ?_
        refine lv_aload_n hx hb dX11_divided_108 rfl (lv_at hl 2 rfl) ?_
        refine va_get (D := G.1) (ci := 12) (v := .int (iz (sg))) (C := RX11) (T := TX11) (N := 2) hx hb hts iwX11 hown hK hP 2 rfl rfl 0 (by decide) (hts (.fieldLink RX11 7 "AnnuityHouseModel$Whole" "sign" "I") (by decide +kernel)) (fun _ h9 => h9) rfl dX11_divided_109 ?_
        refine zr_if_ge (x := sg) (tgt := 122) hx hb (⟨by omega, by omega⟩) dX11_divided_112 (by decide) (fun h_11 => ?_) (fun h_11 => ?_)
        ·
          refine lv_aload_n hx hb dX11_divided_122 rfl (lv_at hl 0 rfl) ?_
          refine va_astq (D := G.1) hx hb hK hP hD hS 6 4 2 12 rfl rfl rfl rfl (iz_in (a := 1) (by omega) (by omega) (by omega)) dX11_divided_123 (fun H locs hP hD hS => ?_)
          have hP : va_P G.1 vwCl [(ro, .inr (12, [.int (iz (so)), .ref bo])), (bo, zaI (G.2 1) No (fo)), (a, .inr (12, [.int (iz (sg)), .ref b])), (b, zaI (G.2 1) N (f)), (a2, .inr (12, [.int (iz (sg2)), .ref b2])), (b2, zaI (G.2 1) N2 (f2)), (ra, zaR (G.2 4) 2 (zfu (zfu (fun _ => none) 0 ro) 1 a))] H := hP
          have hD : va_D A [(ro, .inr (12, [.int (iz (so)), .ref bo])), (bo, zaI (G.2 1) No (fo)), (a, .inr (12, [.int (iz (sg)), .ref b])), (b, zaI (G.2 1) N (f)), (a2, .inr (12, [.int (iz (sg2)), .ref b2])), (b2, zaI (G.2 1) N2 (f2)), (ra, zaR (G.2 4) 2 (zfu (zfu (fun _ => none) 0 ro) 1 a))] := hD
          rw [hQ]
          exact zr_aret (ra := ra) (Or.inr ⟨_, rfl⟩) (u := (zfu (zfu (fun _ => none) 0 ro) 1 a, ro, bo, fo, No, so)) hx hb hr hlocks (hP.sub [2, 3, 4, 5, 6, 0, 1] rfl) (hD.sub [2, 3, 4, 5, 6, 0, 1] (by decide) rfl) hS (by first | exact Nat.le_of_ble_eq_true rfl | omega) (by first | exact Nat.le_of_ble_eq_true rfl | omega) dX11_divided_124 (show (zfu (zfu (fun _ => none) 0 ro) 1 a) 0 = some ro ∧ (zfu (zfu (fun _ => none) 0 ro) 1 a) 1 = some a ∧ tmw fo No so (v / v2) from ⟨(zfu_n (by decide) (by decide) (by decide)).trans (zfu_s (by decide) (by decide)), zfu_s (by decide) (by decide), tpost hz0 (Int.ediv_eq_zero_of_lt h3 h8.2).symm⟩)
        · exact absurd h_11 (by omega)
      · exact absurd h_10 (by omega)
    · exact absurd h_9 (by have := tcs_ge hcs (by omega); omega)
  · exact absurd h_6 (by omega)
