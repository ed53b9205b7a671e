-- THE REFERENCE'S WHOLE NUMBERS: contracts, second part (laid by wip/walk/x11b.py)
theorem tplus_lt {f f2 : Int → Int} {N N2 : Nat} {sg v sg2 v2 : Int} (h1 : tmw f N sg v) (h2 : tmw f2 N2 sg2 v2) (h3 : (v.natAbs : Int) + (v2.natAbs : Int) < 10000 ^ 128) : tsum f N + tsum f2 N2 < 10000 ^ 128 := by
  rw [h1.abs, h2.abs]; exact h3
theorem tsgn_rng (x : Int) : -1 ≤ x.sign ∧ x.sign ≤ 1 := by
  rcases Int.lt_trichotomy x 0 with h | h | h
  · rw [Int.sign_eq_neg_one_of_neg h]; omega
  · rw [h]; decide
  · rw [Int.sign_eq_one_of_pos h]; omega
theorem tcs_ge {a b z : Int} (h : z = (a - b).sign) (hz : 0 ≤ z) : b ≤ a := by
  by_cases c : b ≤ a
  · exact c
  · have := Int.sign_eq_neg_one_of_neg (show a - b < 0 by omega)
    omega
theorem tcs_le {a b z : Int} (h : z = (a - b).sign) (hz : z < 0) : a ≤ b := by
  by_cases c : a ≤ b
  · exact c
  · have := Int.sign_eq_one_of_pos (show 0 < a - b by omega)
    omega
-- multiplying
theorem tmul_rng {a b : Int} (h : 0 ≤ a ∧ a < 10000) (h2 : 0 ≤ b ∧ b < 10000) : 0 ≤ a * b ∧ a * b ≤ 99980001 := by
  have h3 : a * b ≤ a * 9999 := Int.mul_le_mul_of_nonneg_left (by omega) h.1
  exact ⟨Int.mul_nonneg h.1 h2.1, by omega⟩
theorem tsum_zup {h : Int → Int} {k x : Int} (hk : 0 ≤ k) : ∀ n : Nat, k < n → tsum (zup h k x) n = tsum h n + (x - h k) * 10000 ^ k.toNat
  | 0, h0 => absurd h0 (by omega)
  | n + 1, h0 => by
    rw [tsum_s, tsum_s]
    by_cases c : k < n
    · rw [tsum_zup hk n c, zup_n (by omega)]
      omega
    · have e : k = n := by omega
      subst e
      rw [zup_s, tsum_cong (g := h) (fun j a b => zup_n (by omega)), show (n : Int).toNat = n by omega, Int.sub_mul]
      omega
theorem ttimes_dig {h : Int → Int} {R k x : Int} (hd : tdig h R) (hx : 0 ≤ x ∧ x < 10000) : tdig (zup h k x) R := fun i a b => by
  by_cases c : i = k
  · rw [c, zup_s]; exact hx
  · rw [zup_n c]; exact hd i a b
theorem ttimes_step {f f2 h h0 : Int → Int} {N2 : Nat} {R i j q w : Int} (hi : 0 ≤ i) (hj : 0 ≤ j) (hR : i + j < R) (hk : tsum h (R).toNat + q * 10000 ^ (i + j).toNat = tsum h0 (R).toNat + f i * 10000 ^ i.toNat * tsum (tx f2 N2) j.toNat) (hw : w = h (i + j) + f i * tx f2 N2 j + q) : tsum (zup h (i + j) (w % 10000)) (R).toNat + w / 10000 * 10000 ^ (i + (j + 1)).toNat = tsum h0 (R).toNat + f i * 10000 ^ i.toNat * tsum (tx f2 N2) (j + 1).toNat := by
  rw [tsum_zup (by omega) _ (by omega), show (i + (j + 1)).toNat = (i + j).toNat + 1 by omega, show (j + 1).toNat = j.toNat + 1 by omega, tsum_s, tB_s, Int.mul_add, show ((j.toNat : Nat) : Int) = j by omega]
  have e1 : f i * 10000 ^ i.toNat * (tx f2 N2 j * 10000 ^ j.toNat) = f i * tx f2 N2 j * 10000 ^ (i + j).toNat := by
    rw [show (i + j).toNat = i.toNat + j.toNat by omega, Int.pow_add]; ac_rfl
  have e2 : w / 10000 * (10000 ^ (i + j).toNat * 10000) = w / 10000 * 10000 * 10000 ^ (i + j).toNat := by ac_rfl
  have e3 : (w % 10000 - h (i + j)) * 10000 ^ (i + j).toNat + w / 10000 * 10000 * 10000 ^ (i + j).toNat = (w - h (i + j)) * 10000 ^ (i + j).toNat := by
    rw [← Int.add_mul]; congr 1; omega
  have e4 : (w - h (i + j)) * 10000 ^ (i + j).toNat = f i * tx f2 N2 j * 10000 ^ (i + j).toNat + q * 10000 ^ (i + j).toNat := by
    rw [← Int.add_mul]; congr 1; omega
  omega
theorem ttimes_row {f f2 h h0 : Int → Int} {N N2 : Nat} {sg v sg2 v2 R i j q : Int} (h1 : tmw f N sg v) (h2 : tmw f2 N2 sg2 v2) (hR : R = (N : Int) + N2 + 1) (hj : j = (N2 : Int) + 1) (hi : 0 ≤ i) (hiN : i < N) (k3 : tsum h0 (R).toNat = tsum f i.toNat * tsum f2 N2) (hd : tdig h R) (hq : 0 ≤ q ∧ q ≤ 9999) (hx : 0 ≤ R) (hm : tsum h (R).toNat + q * 10000 ^ (i + j).toNat = tsum h0 (R).toNat + f i * 10000 ^ i.toNat * tsum (tx f2 N2) j.toNat) : tsum h (R).toNat = tsum f (i + 1).toNat * tsum f2 N2 := by
  rw [tx_sum _ (by omega), k3] at hm
  have e : tsum f (i + 1).toNat = tsum f i.toNat + f i * 10000 ^ i.toNat := by
    rw [show (i + 1).toNat = i.toNat + 1 by omega, tsum_s, show ((i.toNat : Nat) : Int) = i by omega]
  have e2 : tsum f (i + 1).toNat * tsum f2 N2 = tsum f i.toNat * tsum f2 N2 + f i * 10000 ^ i.toNat * tsum f2 N2 := by rw [e, Int.add_mul]
  have a1 := tsum_rng (f := f) (k := (i + 1).toNat) (fun k a b => h1.dig k a (by omega))
  have a2 := tsum_rng h2.dig
  have hd2 : tdig h (R.toNat : Int) := by rw [Int.toNat_of_nonneg hx]; exact hd
  have a3 := tsum_rng hd2
  have p : tsum f (i + 1).toNat * tsum f2 N2 < 10000 ^ (i + j).toNat := by
    rw [show (i + j).toNat = (i + 1).toNat + N2 by omega, Int.pow_add]
    have b1 : tsum f (i + 1).toNat * tsum f2 N2 ≤ tsum f (i + 1).toNat * 10000 ^ N2 := Int.mul_le_mul_of_nonneg_left (by omega) a1.1
    have b2 := Int.mul_lt_mul_of_pos_right a1.2 (tB_pos N2)
    omega
  have q0 : q = 0 := by
    by_cases c : q = 0
    · exact c
    · have : 1 * 10000 ^ (i + j).toNat ≤ q * 10000 ^ (i + j).toNat := Int.mul_le_mul_of_nonneg_right (by omega) (by have := tB_pos (i + j).toNat; omega)
      omega
  rw [q0] at hm
  omega
theorem tsg_mul {a b : Int} (h : a = -1 ∨ a = 0 ∨ a = 1) (h2 : b = -1 ∨ b = 0 ∨ b = 1) : a * b = -1 ∨ a * b = 0 ∨ a * b = 1 := by
  rcases h with rfl | rfl | rfl <;> rcases h2 with rfl | rfl | rfl <;> decide
theorem ttimes_lt {f f2 : Int → Int} {N N2 : Nat} {sg v sg2 v2 : Int} (h1 : tmw f N sg v) (h2 : tmw f2 N2 sg2 v2) (h3 : (v.natAbs : Int) * (v2.natAbs : Int) < 10000 ^ 128) : tsum f N * tsum f2 N2 < 10000 ^ 128 := by
  rw [h1.abs, h2.abs]; exact h3
theorem ttimes_nul {f f2 : Int → Int} {N N2 : Nat} {sg v sg2 v2 : Int} (h1 : tmw f N sg v) (h2 : tmw f2 N2 sg2 v2) (q : sg * sg2 = 0) : tsum f N * tsum f2 N2 = 0 := by
  rcases Int.mul_eq_zero.mp q with e | e
  · rw [h1.s00 e]; simp
  · rw [h2.s00 e]; simp
-- what is left by a small number
theorem tquot_step {f : Int → Int} {N : Nat} {k : Int} (hd : tdig f N) (hk : 0 ≤ k) (hN : k < N) : tsum f N / 10000 ^ k.toNat = tsum f N / 10000 ^ (k + 1).toNat * 10000 + f k := by
  have a := tsum_dig (F := tx f N) (N := N) (j := k.toNat) (by omega) (tx_dig hd)
  rw [tx_sum N (Nat.le_refl _), show ((k.toNat : Nat) : Int) = k by omega, tx_in hN] at a
  rw [show (k + 1).toNat = k.toNat + 1 by omega, tB_s, ← Int.ediv_ediv_of_nonneg (by have := tB_pos k.toNat; omega)]
  omega
theorem tmod_carry {H q x d : Int} (h : q = H % x) : (q * 10000 + d) % x = (H * 10000 + d) % x := by
  rw [h]
  have e := Int.emod_add_mul_ediv H x
  have e2 : H * 10000 + d = H % x * 10000 + d + x * (H / x * 10000) := by
    have : (H % x + x * (H / x)) * 10000 = H % x * 10000 + x * (H / x * 10000) := by rw [Int.add_mul, Int.mul_assoc]
    rw [e] at this
    omega
  rw [e2, Int.add_mul_emod_self_left]
theorem trest_step {f : Int → Int} {N : Nat} {sg v k x q w : Int} (h1 : tmw f N sg v) (hk : 0 ≤ k) (hN : k < N) (hx : 1 ≤ x) (hq : q = tsum f N / 10000 ^ (k + 1).toNat % x) (hw : w = q * 10000 + f k) : w % x = tsum f N / 10000 ^ (k - 1 + 1).toNat % x := by
  rw [show k - 1 + 1 = k by omega, tquot_step h1.dig hk hN, hw]
  exact tmod_carry hq
-- dividing by a small number
theorem tby_dig {x q w d : Int} (hx : 1 ≤ x) (hd : 0 ≤ d ∧ d < 10000) (hq : 0 ≤ q ∧ q < x) (hw : w = q * 10000 + d) : 0 ≤ w / x ∧ w / x < 10000 := by
  refine ⟨Int.ediv_nonneg (by omega) (by omega), Int.ediv_lt_of_lt_mul (by omega) ?_⟩
  have : q * 10000 + 10000 ≤ x * 10000 := by omega
  omega
theorem tby_step {f h : Int → Int} {N : Nat} {x k q w : Int} (hk : 0 ≤ k) (hN : k < N) (hx : 1 ≤ x) (hz : h k = 0) (h4 : tsum f N = tsum f (k + 1).toNat + x * tsum h N + q * 10000 ^ (k + 1).toNat) (hw : w = q * 10000 + f k) : tsum f N = tsum f (k - 1 + 1).toNat + x * tsum (zup h k (w / x)) N + w % x * 10000 ^ (k - 1 + 1).toNat := by
  rw [tsum_zup hk N hN, hz, show k - 1 + 1 = k by omega, h4, show (k + 1).toNat = k.toNat + 1 by omega, tsum_s, show ((k.toNat : Nat) : Int) = k by omega, tB_s]
  have e1 : q * (10000 ^ k.toNat * 10000) = q * 10000 * 10000 ^ k.toNat := by ac_rfl
  have e2 : f k * 10000 ^ k.toNat + q * 10000 * 10000 ^ k.toNat = w * 10000 ^ k.toNat := by rw [← Int.add_mul]; congr 1; omega
  have e3 := Int.emod_add_mul_ediv w x
  have e4 : w * 10000 ^ k.toNat = w % x * 10000 ^ k.toNat + x * (w / x * 10000 ^ k.toNat) := by
    rw [← Int.mul_assoc, ← Int.add_mul, e3]
  rw [show w / x - 0 = w / x by omega, Int.mul_add]
  omega
theorem tby_end {f h : Int → Int} {N : Nat} {x k q : Int} (hk : k = -1) (h4 : tsum f N = tsum f (k + 1).toNat + x * tsum h N + q * 10000 ^ (k + 1).toNat) (hq : 0 ≤ q ∧ q < x) (hx : 1 ≤ x) : tsum h N = tsum f N / x := by
  subst hk
  rw [show ((-1 : Int) + 1).toNat = 0 by decide] at h4
  have e : tsum f N = q + tsum h N * x := by
    have : x * tsum h N = tsum h N * x := Int.mul_comm _ _
    simp [tsum] at h4
    omega
  rw [e, Int.add_mul_ediv_right _ _ (by omega), Int.ediv_eq_zero_of_lt hq.1 hq.2]
  omega
def rm_c_X11_plus : Room := { frames := 2, cells := 3, slots := 259, locals := 47 }
theorem iw_X11_plus_X11 : ∀ w ∈ wsX110, w ∈ wsX11_plus := by decide +kernel
set_option maxHeartbeats 1000000 in
set_option maxRecDepth 100000 in
theorem c_X11_plus (l : Launch) (G : zG) (a : Nat) (b : Nat) (f : Int → Int) (N : Nat) (sg : Int) (a2 : Nat) (b2 : Nat) (f2 : Int → Int) (N2 : Nat) (sg2 : Int) (v : Int) (v2 : Int) (h1 : tmw f N sg v) (h2 : tmw f2 N2 sg2 v2) (h3 : (v.natAbs : Int) + (v2.natAbs : Int) < 10000 ^ 128) : zM l G yX11_plus wsX11_plus rm_c_X11_plus [.ref a, .ref a2] [(a, .inr (12, [.int (iz (sg)), .ref b])), (b, zaI (G.2 1) N (f)), (a2, .inr (12, [.int (iz (sg2)), .ref b2])), (b2, zaI (G.2 1) N2 (f2))] (fun A => zQr G (fun (u : (Nat × (Int → Int) × Nat × Int)) (ra : Nat) => tmw u.2.1 u.2.2.1 u.2.2.2 (v + v2)) (fun (u : (Nat × (Int → Int) × Nat × Int)) (ra : Nat) => [(ra, .inr (12, [.int (iz (u.2.2.2)), .ref u.1])), (u.1, zaI (G.2 1) u.2.2.1 (u.2.1))]) A) 3 259 := by
  refine zM_of (cc := cX11_plus) (maxL := 2) (ret := (some (.object "AnnuityHouseModel$Whole"))) (by decide) rfl (Nat.le_of_ble_eq_true rfl) ?_
  intro p e s m below meth c ls A Q hQ hx hb hr hts hown hlocks hml hnm hKX hP hD hA hS hl
  have hK := hKX.1
  have iwX11 := iw_X11_plus_X11
  obtain ⟨H, hH⟩ : ∃ h, h = s.heap := ⟨_, rfl⟩
  obtain ⟨locs, hlo⟩ : ∃ h : List Loc, h = [] := ⟨_, rfl⟩
  have hS : va_S A s.heap H locs := by rw [hH, hlo]; exact hS
  have hP : va_P G.1 vwCl [(a, .inr (12, [.int (iz (sg)), .ref b])), (b, zaI (G.2 1) N (f)), (a2, .inr (12, [.int (iz (sg2)), .ref b2])), (b2, zaI (G.2 1) N2 (f2))] H := by rw [hH]; exact hP
  have hD : va_D A [(a, .inr (12, [.int (iz (sg)), .ref b])), (b, zaI (G.2 1) N (f)), (a2, .inr (12, [.int (iz (sg2)), .ref b2])), (b2, zaI (G.2 1) N2 (f2))] := hD
  have hl : lv_has ls 2 [(0, .ref a), (1, .ref a2)] := hl
  rw [← hH, ← hlo]
  have g1 := h1.sgi
  have g2 := h2.sgi
  refine lv_aload_n hx hb dX11_plus_0 rfl (lv_at hl 0 rfl) ?_
  refine va_get (D := G.1) (ci := 12) (v := .int (iz (sg))) (C := RX11) (T := TX11) (N := 2) hx hb hts iwX11 hown hK hP 0 rfl rfl 0 (by decide) (hts (.fieldLink RX11 7 "AnnuityHouseModel$Whole" "sign" "I") (by decide +kernel)) (fun _ h9 => h9) rfl dX11_plus_1 ?_
  refine zr_if_eq (x := sg) (tgt := 14) hx hb (⟨by omega, by omega⟩) dX11_plus_4 (by decide) (fun h_1 => ?_) (fun h_1 => ?_)
  ·
    refine lv_aload_n hx hb dX11_plus_14 rfl (lv_at hl 0 rfl) ?_
    refine va_get (D := G.1) (ci := 12) (v := .int (iz (sg))) (C := RX11) (T := TX11) (N := 2) hx hb hts iwX11 hown hK hP 0 rfl rfl 0 (by decide) (hts (.fieldLink RX11 7 "AnnuityHouseModel$Whole" "sign" "I") (by decide +kernel)) (fun _ h9 => h9) rfl dX11_plus_15 ?_
    refine zr_if_ne (x := sg) (tgt := 25) hx hb (⟨by omega, by omega⟩) dX11_plus_18 (by decide) (fun h_2 => ?_) (fun h_2 => ?_)
    ·
      refine lv_aload_n hx hb dX11_plus_25 rfl (lv_at hl 0 rfl) ?_
      rw [hQ]
      exact zr_aret (ra := a) (Or.inl ⟨_, rfl⟩) (u := (b, f, N, sg)) hx hb hr hlocks (hP.sub [0, 1] rfl) (hD.sub [0, 1] (by decide) rfl) hS (by first | exact Nat.le_of_ble_eq_true rfl | omega) (by first | exact Nat.le_of_ble_eq_true rfl | omega) dX11_plus_26 (show tmw f N sg (v + v2) from by first | exact tpost h2 (by have := h1.v0 (by omega); omega) | exact tpost h1 (by have := h2.v0 (by omega); omega))
    ·
      refine lv_aload_n hx hb dX11_plus_21 rfl (lv_at hl 1 rfl) ?_
      refine lv_goto (tgt := 26) hx hb dX11_plus_22 (by decide) ?_
      rw [hQ]
      exact zr_aret (ra := a2) (Or.inl ⟨_, rfl⟩) (u := (b2, f2, N2, sg2)) hx hb hr hlocks (hP.sub [2, 3] rfl) (hD.sub [2, 3] (by decide) rfl) hS (by first | exact Nat.le_of_ble_eq_true rfl | omega) (by first | exact Nat.le_of_ble_eq_true rfl | omega) dX11_plus_26 (show tmw f2 N2 sg2 (v + v2) from by first | exact tpost h2 (by have := h1.v0 (by omega); omega) | exact tpost h1 (by have := h2.v0 (by omega); omega))
  ·
    refine lv_aload_n hx hb dX11_plus_7 rfl (lv_at hl 1 rfl) ?_
    refine va_get (D := G.1) (ci := 12) (v := .int (iz (sg2))) (C := RX11) (T := TX11) (N := 2) hx hb hts iwX11 hown hK hP 2 rfl rfl 0 (by decide) (hts (.fieldLink RX11 7 "AnnuityHouseModel$Whole" "sign" "I") (by decide +kernel)) (fun _ h9 => h9) rfl dX11_plus_8 ?_
    refine zr_if_ne (x := sg2) (tgt := 27) hx hb (⟨by omega, by omega⟩) dX11_plus_11 (by decide) (fun h_3 => ?_) (fun h_3 => ?_)
    ·
      refine lv_aload_n hx hb dX11_plus_27 rfl (lv_at hl 0 rfl) ?_
      refine va_get (D := G.1) (ci := 12) (v := .int (iz (sg))) (C := RX11) (T := TX11) (N := 2) hx hb hts iwX11 hown hK hP 0 rfl rfl 0 (by decide) (hts (.fieldLink RX11 7 "AnnuityHouseModel$Whole" "sign" "I") (by decide +kernel)) (fun _ h9 => h9) rfl dX11_plus_28 ?_
      refine lv_aload_n hx hb dX11_plus_31 rfl (lv_at hl 1 rfl) ?_
      refine va_get (D := G.1) (ci := 12) (v := .int (iz (sg2))) (C := RX11) (T := TX11) (N := 2) hx hb hts iwX11 hown hK hP 2 rfl rfl 0 (by decide) (hts (.fieldLink RX11 7 "AnnuityHouseModel$Whole" "sign" "I") (by decide +kernel)) (fun _ h9 => h9) rfl dX11_plus_32 ?_
      refine zr_icmp_ne (x := sg) (y := sg2) (tgt := 56) hx hb (⟨by omega, by omega⟩) (⟨by omega, by omega⟩) dX11_plus_35 (by decide) (fun h_4 => ?_) (fun h_4 => ?_)
      ·
        refine lv_aload_n hx hb dX11_plus_56 rfl (lv_at hl 0 rfl) ?_
        refine lv_aload_n hx hb dX11_plus_57 rfl (lv_at hl 1 rfl) ?_
        refine zc_i (wr := []) (va_runV (As := [.ref a2]) (rest := []) ⟨hx, hb, hml, hown, hts⟩ (c_X11_comparedSize l G a b f N sg a2 b2 f2 N2 sg2 v v2 (h1) (h2) H.size) (cwV 1 hts gX11_plus_X11_comparedSize rfl rfl rfl (by decide +kernel) ⟨Nat.le_of_ble_eq_true rfl, Nat.le_of_ble_eq_true rfl⟩) (zpV hKX hP hD [0, 1, 2, 3] rfl rfl 0 12 rfl rfl) rfl rfl hl.1 rfl (lv_room (Nat.le_of_ble_eq_true rfl)) dX11_plus_58 ⟨(by first | exact Nat.le_of_ble_eq_true rfl | (show _ ≤ (3 : Nat); omega)), (by first | exact Nat.le_of_ble_eq_true rfl | (show _ ≤ (259 : Nat); omega))⟩) hP hD hS hA [0, 1, 2, 3] [] rfl rfl rfl (by decide) (fun cs u_5 H locs hcs hP hD hS => ?_)
        have hP : va_P G.1 vwCl [(a, .inr (12, [.int (iz (sg)), .ref b])), (b, zaI (G.2 1) N (f)), (a2, .inr (12, [.int (iz (sg2)), .ref b2])), (b2, zaI (G.2 1) N2 (f2))] H := hP
        have hD : va_D A [(a, .inr (12, [.int (iz (sg)), .ref b])), (b, zaI (G.2 1) N (f)), (a2, .inr (12, [.int (iz (sg2)), .ref b2])), (b2, zaI (G.2 1) N2 (f2))] := hD
        have hcs : cs = ((v.natAbs : Int) - (v2.natAbs : Int)).sign := hcs
        have hsr := tsgn_rng ((v.natAbs : Int) - (v2.natAbs : Int))
        refine zr_if_lt (x := cs) (tgt := 84) hx hb (⟨by omega, by omega⟩) dX11_plus_61 (by decide) (fun h_7 => ?_) (fun h_7 => ?_)
        ·
          refine va_new (D := G.1) (ci := 12) (fs := [.int 0, .null]) (C := RX11) (T := TX11) (N := 2) hx hb hts iwX11 tyX11 tyX11_ok hown (hts (.classLink RX11 8 RX11) (by decide +kernel)) (hts (.instantiable RX11 2) (by decide +kernel)) (hts (.initialized RX11) (by decide +kernel)) hK hP hD hS hA rfl (by decide +kernel) (by first | exact Nat.le_of_ble_eq_true rfl | (show _ ≤ (3 : Nat); omega)) (by first | exact Nat.le_of_ble_eq_true rfl | (show _ ≤ (259 : Nat); omega)) dX11_plus_84 (fun ra H hP hD hS => ?_)
          have hP : va_P G.1 vwCl [(a, .inr (12, [.int (iz (sg)), .ref b])), (b, zaI (G.2 1) N (f)), (a2, .inr (12, [.int (iz (sg2)), .ref b2])), (b2, zaI (G.2 1) N2 (f2)), (ra, .inr (12, [.int (iz (0)), .null]))] H := hP
          have hD : va_D A [(a, .inr (12, [.int (iz (sg)), .ref b])), (b, zaI (G.2 1) N (f)), (a2, .inr (12, [.int (iz (sg2)), .ref b2])), (b2, zaI (G.2 1) N2 (f2)), (ra, .inr (12, [.int (iz (0)), .null]))] := hD
          refine lv_dup hx hb dX11_plus_87 rfl ?_
          refine lv_aload_n hx hb dX11_plus_88 rfl (lv_at hl 1 rfl) ?_
          refine va_get (D := G.1) (ci := 12) (v := .int (iz (sg2))) (C := RX11) (T := TX11) (N := 2) hx hb hts iwX11 hown hK hP 2 rfl rfl 0 (by decide) (hts (.fieldLink RX11 7 "AnnuityHouseModel$Whole" "sign" "I") (by decide +kernel)) (fun _ h9 => h9) rfl dX11_plus_89 ?_
          refine lv_aload_n hx hb dX11_plus_92 rfl (lv_at hl 1 rfl) ?_
          refine lv_aload_n hx hb dX11_plus_93 rfl (lv_at hl 0 rfl) ?_
          refine lv_iconst (v := iz (0)) hx hb dX11_plus_94 rfl ?_
          refine zc_r (wr := [(ra, .inr (12, [.int (iz (0)), .null]))]) (va_runS (As := [.ref a2, .ref a, .int (iz (0))]) (rest := [.int (iz (sg2)), .ref ra, .ref ra]) ⟨hx, hb, hml, hown, hts⟩ (c_X11_joined_d l G a2 b2 f2 N2 sg2 a b f N sg v2 v (h2) (h1) (tcs_le hcs (by omega)) H.size) (va_cwS 3 hts gX11_plus_X11_joined rfl rfl rfl (by decide +kernel) ⟨Nat.le_of_ble_eq_true rfl, Nat.le_of_ble_eq_true rfl⟩) (zpS hKX hP hD [2, 3, 0, 1] rfl rfl) rfl rfl hl.1 rfl (lv_room (Nat.le_of_ble_eq_true rfl)) dX11_plus_95 ⟨(by first | exact Nat.le_of_ble_eq_true rfl | (show _ ≤ (3 : Nat); omega)), (by first | exact Nat.le_of_ble_eq_true rfl | (show _ ≤ (259 : Nat); omega))⟩) hP hD hS hA [2, 3, 0, 1] [4] rfl rfl rfl (by decide) (fun u_8 rs H locs hj hP hD hS => ?_)
          obtain ⟨hs, Rs⟩ := u_8
          have hP : va_P G.1 vwCl [(ra, .inr (12, [.int (iz (0)), .null])), (a2, .inr (12, [.int (iz (sg2)), .ref b2])), (b2, zaI (G.2 1) N2 (f2)), (a, .inr (12, [.int (iz (sg)), .ref b])), (b, zaI (G.2 1) N (f)), (rs, zaI (G.2 1) Rs (hs))] H := hP
          have hD : va_D A [(ra, .inr (12, [.int (iz (0)), .null])), (a2, .inr (12, [.int (iz (sg2)), .ref b2])), (b2, zaI (G.2 1) N2 (f2)), (a, .inr (12, [.int (iz (sg)), .ref b])), (b, zaI (G.2 1) N (f)), (rs, zaI (G.2 1) Rs (hs))] := hD
          have hj : tdig hs Rs ∧ tsum hs Rs = tsum f2 N2 - tsum f N ∧ Rs ≤ 129 := hj
          refine zc_v (wr := [(a2, .inr (12, [.int (iz (sg2)), .ref b2])), (b2, zaI (G.2 1) N2 (f2)), (a, .inr (12, [.int (iz (sg)), .ref b])), (b, zaI (G.2 1) N (f))]) (va_runI (As := [.int (iz (sg2)), .ref rs]) (rest := [.ref ra]) ⟨hx, hb, hml, hown, hts⟩ (c_X11_init l G ra rs hs Rs sg2 (hj.1) (h2.sg) (by omega) (by rw [hj.2.1]; have := h2.lt; have := h1.s0; omega) (fun q => absurd q (by omega)) H.size) (cwI 2 hts gX11_plus_X11_init rfl rfl rfl (hts (.initialized RX11) (by decide +kernel)) (hts (.methodLink RX11 25 yX11_init) (by decide +kernel)) (hts (.instanceMethod yX11_init) (by decide +kernel)) rfl (by decide +kernel) ⟨Nat.le_of_ble_eq_true rfl, Nat.le_of_ble_eq_true rfl⟩) (zpS hKX hP hD [0, 5] rfl rfl) rfl rfl hl.1 rfl (lv_room (Nat.le_of_ble_eq_true rfl)) dX11_plus_98 ⟨(by first | exact Nat.le_of_ble_eq_true rfl | (show _ ≤ (3 : Nat); omega)), (by first | exact Nat.le_of_ble_eq_true rfl | (show _ ≤ (259 : Nat); omega))⟩) hP hD hS hA [0, 5] [1, 2, 3, 4] rfl rfl rfl (by decide) (fun u_10 H locs hq hP hD hS => ?_)
          obtain ⟨b1, f1, N1, s1⟩ := u_10
          have hP : va_P G.1 vwCl [(a2, .inr (12, [.int (iz (sg2)), .ref b2])), (b2, zaI (G.2 1) N2 (f2)), (a, .inr (12, [.int (iz (sg)), .ref b])), (b, zaI (G.2 1) N (f)), (ra, .inr (12, [.int (iz (s1)), .ref b1])), (b1, zaI (G.2 1) N1 (f1)), (rs, zaI (G.2 1) Rs (hs))] H := hP
          have hD : va_D A [(a2, .inr (12, [.int (iz (sg2)), .ref b2])), (b2, zaI (G.2 1) N2 (f2)), (a, .inr (12, [.int (iz (sg)), .ref b])), (b, zaI (G.2 1) N (f)), (ra, .inr (12, [.int (iz (s1)), .ref b1])), (b1, zaI (G.2 1) N1 (f1)), (rs, zaI (G.2 1) Rs (hs))] := hD
          have hq : tmw f1 N1 s1 (sg2 * tsum hs Rs) := hq
          rw [hQ]
          exact zr_aret (ra := ra) (Or.inl ⟨_, rfl⟩) (u := (b1, f1, N1, s1)) hx hb hr hlocks (hP.sub [4, 5] rfl) (hD.sub [4, 5] (by decide) rfl) hS (by first | exact Nat.le_of_ble_eq_true rfl | omega) (by first | exact Nat.le_of_ble_eq_true rfl | omega) dX11_plus_101 (show tmw f1 N1 s1 (v + v2) from by first | exact tpost hq (by rw [hj.2.1]; exact tplus_big h1 h2 (by omega)) | exact tpost hq (by rw [hj.2.1]; exact tplus_small h1 h2 (by omega)))
        ·
          refine va_new (D := G.1) (ci := 12) (fs := [.int 0, .null]) (C := RX11) (T := TX11) (N := 2) hx hb hts iwX11 tyX11 tyX11_ok hown (hts (.classLink RX11 8 RX11) (by decide +kernel)) (hts (.instantiable RX11 2) (by decide +kernel)) (hts (.initialized RX11) (by decide +kernel)) hK hP hD hS hA rfl (by decide +kernel) (by first | exact Nat.le_of_ble_eq_true rfl | (show _ ≤ (3 : Nat); omega)) (by first | exact Nat.le_of_ble_eq_true rfl | (show _ ≤ (259 : Nat); omega)) dX11_plus_64 (fun ra H hP hD hS => ?_)
          have hP : va_P G.1 vwCl [(a, .inr (12, [.int (iz (sg)), .ref b])), (b, zaI (G.2 1) N (f)), (a2, .inr (12, [.int (iz (sg2)), .ref b2])), (b2, zaI (G.2 1) N2 (f2)), (ra, .inr (12, [.int (iz (0)), .null]))] H := hP
          have hD : va_D A [(a, .inr (12, [.int (iz (sg)), .ref b])), (b, zaI (G.2 1) N (f)), (a2, .inr (12, [.int (iz (sg2)), .ref b2])), (b2, zaI (G.2 1) N2 (f2)), (ra, .inr (12, [.int (iz (0)), .null]))] := hD
          refine lv_dup hx hb dX11_plus_67 rfl ?_
          refine lv_aload_n hx hb dX11_plus_68 rfl (lv_at hl 0 rfl) ?_
          refine va_get (D := G.1) (ci := 12) (v := .int (iz (sg))) (C := RX11) (T := TX11) (N := 2) hx hb hts iwX11 hown hK hP 0 rfl rfl 0 (by decide) (hts (.fieldLink RX11 7 "AnnuityHouseModel$Whole" "sign" "I") (by decide +kernel)) (fun _ h9 => h9) rfl dX11_plus_69 ?_
          refine lv_aload_n hx hb dX11_plus_72 rfl (lv_at hl 0 rfl) ?_
          refine lv_aload_n hx hb dX11_plus_73 rfl (lv_at hl 1 rfl) ?_
          refine lv_iconst (v := iz (0)) hx hb dX11_plus_74 rfl ?_
          refine zc_r (wr := [(ra, .inr (12, [.int (iz (0)), .null]))]) (va_runS (As := [.ref a, .ref a2, .int (iz (0))]) (rest := [.int (iz (sg)), .ref ra, .ref ra]) ⟨hx, hb, hml, hown, hts⟩ (c_X11_joined_d l G a b f N sg a2 b2 f2 N2 sg2 v v2 (h1) (h2) (tcs_ge hcs (by omega)) H.size) (va_cwS 3 hts gX11_plus_X11_joined rfl rfl rfl (by decide +kernel) ⟨Nat.le_of_ble_eq_true rfl, Nat.le_of_ble_eq_true rfl⟩) (zpS hKX hP hD [0, 1, 2, 3] rfl rfl) rfl rfl hl.1 rfl (lv_room (Nat.le_of_ble_eq_true rfl)) dX11_plus_75 ⟨(by first | exact Nat.le_of_ble_eq_true rfl | (show _ ≤ (3 : Nat); omega)), (by first | exact Nat.le_of_ble_eq_true rfl | (show _ ≤ (259 : Nat); omega))⟩) hP hD hS hA [0, 1, 2, 3] [4] rfl rfl rfl (by decide) (fun u_13 rs H locs hj hP hD hS => ?_)
          obtain ⟨hs, Rs⟩ := u_13
          have hP : va_P G.1 vwCl [(ra, .inr (12, [.int (iz (0)), .null])), (a, .inr (12, [.int (iz (sg)), .ref b])), (b, zaI (G.2 1) N (f)), (a2, .inr (12, [.int (iz (sg2)), .ref b2])), (b2, zaI (G.2 1) N2 (f2)), (rs, zaI (G.2 1) Rs (hs))] H := hP
          have hD : va_D A [(ra, .inr (12, [.int (iz (0)), .null])), (a, .inr (12, [.int (iz (sg)), .ref b])), (b, zaI (G.2 1) N (f)), (a2, .inr (12, [.int (iz (sg2)), .ref b2])), (b2, zaI (G.2 1) N2 (f2)), (rs, zaI (G.2 1) Rs (hs))] := hD
          have hj : tdig hs Rs ∧ tsum hs Rs = tsum f N - tsum f2 N2 ∧ Rs ≤ 129 := hj
          refine zc_v (wr := [(a, .inr (12, [.int (iz (sg)), .ref b])), (b, zaI (G.2 1) N (f)), (a2, .inr (12, [.int (iz (sg2)), .ref b2])), (b2, zaI (G.2 1) N2 (f2))]) (va_runI (As := [.int (iz (sg)), .ref rs]) (rest := [.ref ra]) ⟨hx, hb, hml, hown, hts⟩ (c_X11_init l G ra rs hs Rs sg (hj.1) (h1.sg) (by omega) (by rw [hj.2.1]; have := h1.lt; have := h2.s0; omega) (fun q => absurd q (by omega)) H.size) (cwI 2 hts gX11_plus_X11_init rfl rfl rfl (hts (.initialized RX11) (by decide +kernel)) (hts (.methodLink RX11 25 yX11_init) (by decide +kernel)) (hts (.instanceMethod yX11_init) (by decide +kernel)) rfl (by decide +kernel) ⟨Nat.le_of_ble_eq_true rfl, Nat.le_of_ble_eq_true rfl⟩) (zpS hKX hP hD [0, 5] rfl rfl) rfl rfl hl.1 rfl (lv_room (Nat.le_of_ble_eq_true rfl)) dX11_plus_78 ⟨(by first | exact Nat.le_of_ble_eq_true rfl | (show _ ≤ (3 : Nat); omega)), (by first | exact Nat.le_of_ble_eq_true rfl | (show _ ≤ (259 : Nat); omega))⟩) hP hD hS hA [0, 5] [1, 2, 3, 4] rfl rfl rfl (by decide) (fun u_15 H locs hq hP hD hS => ?_)
          obtain ⟨b1, f1, N1, s1⟩ := u_15
          have hP : va_P G.1 vwCl [(a, .inr (12, [.int (iz (sg)), .ref b])), (b, zaI (G.2 1) N (f)), (a2, .inr (12, [.int (iz (sg2)), .ref b2])), (b2, zaI (G.2 1) N2 (f2)), (ra, .inr (12, [.int (iz (s1)), .ref b1])), (b1, zaI (G.2 1) N1 (f1)), (rs, zaI (G.2 1) Rs (hs))] H := hP
          have hD : va_D A [(a, .inr (12, [.int (iz (sg)), .ref b])), (b, zaI (G.2 1) N (f)), (a2, .inr (12, [.int (iz (sg2)), .ref b2])), (b2, zaI (G.2 1) N2 (f2)), (ra, .inr (12, [.int (iz (s1)), .ref b1])), (b1, zaI (G.2 1) N1 (f1)), (rs, zaI (G.2 1) Rs (hs))] := hD
          have hq : tmw f1 N1 s1 (sg * tsum hs Rs) := hq
          refine lv_goto (tgt := 101) hx hb dX11_plus_81 (by decide) ?_
          rw [hQ]
          exact zr_aret (ra := ra) (Or.inl ⟨_, rfl⟩) (u := (b1, f1, N1, s1)) hx hb hr hlocks (hP.sub [4, 5] rfl) (hD.sub [4, 5] (by decide) rfl) hS (by first | exact Nat.le_of_ble_eq_true rfl | omega) (by first | exact Nat.le_of_ble_eq_true rfl | omega) dX11_plus_101 (show tmw f1 N1 s1 (v + v2) from by first | exact tpost hq (by rw [hj.2.1]; exact tplus_big h1 h2 (by omega)) | exact tpost hq (by rw [hj.2.1]; exact tplus_small h1 h2 (by omega)))
      ·
        refine va_new (D := G.1) (ci := 12) (fs := [.int 0, .null]) (C := RX11) (T := TX11) (N := 2) hx hb hts iwX11 tyX11 tyX11_ok hown (hts (.classLink RX11 8 RX11) (by decide +kernel)) (hts (.instantiable RX11 2) (by decide +kernel)) (hts (.initialized RX11) (by decide +kernel)) hK hP hD hS hA rfl (by decide +kernel) (by first | exact Nat.le_of_ble_eq_true rfl | (show _ ≤ (3 : Nat); omega)) (by first | exact Nat.le_of_ble_eq_true rfl | (show _ ≤ (259 : Nat); omega)) dX11_plus_38 (fun ra H hP hD hS => ?_)
        have hP : va_P G.1 vwCl [(a, .inr (12, [.int (iz (sg)), .ref b])), (b, zaI (G.2 1) N (f)), (a2, .inr (12, [.int (iz (sg2)), .ref b2])), (b2, zaI (G.2 1) N2 (f2)), (ra, .inr (12, [.int (iz (0)), .null]))] H := hP
        have hD : va_D A [(a, .inr (12, [.int (iz (sg)), .ref b])), (b, zaI (G.2 1) N (f)), (a2, .inr (12, [.int (iz (sg2)), .ref b2])), (b2, zaI (G.2 1) N2 (f2)), (ra, .inr (12, [.int (iz (0)), .null]))] := hD
        refine lv_dup hx hb dX11_plus_41 rfl ?_
        refine lv_aload_n hx hb dX11_plus_42 rfl (lv_at hl 0 rfl) ?_
        refine va_get (D := G.1) (ci := 12) (v := .int (iz (sg))) (C := RX11) (T := TX11) (N := 2) hx hb hts iwX11 hown hK hP 0 rfl rfl 0 (by decide) (hts (.fieldLink RX11 7 "AnnuityHouseModel$Whole" "sign" "I") (by decide +kernel)) (fun _ h9 => h9) rfl dX11_plus_43 ?_
        refine lv_aload_n hx hb dX11_plus_46 rfl (lv_at hl 0 rfl) ?_
        refine lv_aload_n hx hb dX11_plus_47 rfl (lv_at hl 1 rfl) ?_
        refine lv_iconst (v := iz (1)) hx hb dX11_plus_48 rfl ?_
        refine zc_r (wr := [(ra, .inr (12, [.int (iz (0)), .null]))]) (va_runS (As := [.ref a, .ref a2, .int (iz (1))]) (rest := [.int (iz (sg)), .ref ra, .ref ra]) ⟨hx, hb, hml, hown, hts⟩ (c_X11_joined_s l G a b f N sg a2 b2 f2 N2 sg2 v v2 (h1) (h2) H.size) (va_cwS 3 hts gX11_plus_X11_joined rfl rfl rfl (by decide +kernel) ⟨Nat.le_of_ble_eq_true rfl, Nat.le_of_ble_eq_true rfl⟩) (zpS hKX hP hD [0, 1, 2, 3] rfl rfl) rfl rfl hl.1 rfl (lv_room (Nat.le_of_ble_eq_true rfl)) dX11_plus_49 ⟨(by first | exact Nat.le_of_ble_eq_true rfl | (show _ ≤ (3 : Nat); omega)), (by first | exact Nat.le_of_ble_eq_true rfl | (show _ ≤ (259 : Nat); omega))⟩) hP hD hS hA [0, 1, 2, 3] [4] rfl rfl rfl (by decide) (fun u_18 rs H locs hj hP hD hS => ?_)
        obtain ⟨hs, Rs⟩ := u_18
        have hP : va_P G.1 vwCl [(ra, .inr (12, [.int (iz (0)), .null])), (a, .inr (12, [.int (iz (sg)), .ref b])), (b, zaI (G.2 1) N (f)), (a2, .inr (12, [.int (iz (sg2)), .ref b2])), (b2, zaI (G.2 1) N2 (f2)), (rs, zaI (G.2 1) Rs (hs))] H := hP
        have hD : va_D A [(ra, .inr (12, [.int (iz (0)), .null])), (a, .inr (12, [.int (iz (sg)), .ref b])), (b, zaI (G.2 1) N (f)), (a2, .inr (12, [.int (iz (sg2)), .ref b2])), (b2, zaI (G.2 1) N2 (f2)), (rs, zaI (G.2 1) Rs (hs))] := hD
        have hj : tdig hs Rs ∧ tsum hs Rs = tsum f N + tsum f2 N2 ∧ Rs ≤ 129 := hj
        refine zc_v (wr := [(a, .inr (12, [.int (iz (sg)), .ref b])), (b, zaI (G.2 1) N (f)), (a2, .inr (12, [.int (iz (sg2)), .ref b2])), (b2, zaI (G.2 1) N2 (f2))]) (va_runI (As := [.int (iz (sg)), .ref rs]) (rest := [.ref ra]) ⟨hx, hb, hml, hown, hts⟩ (c_X11_init l G ra rs hs Rs sg (hj.1) (h1.sg) (by omega) (by rw [hj.2.1]; exact tplus_lt h1 h2 h3) (fun q => absurd q (by omega)) H.size) (cwI 2 hts gX11_plus_X11_init rfl rfl rfl (hts (.initialized RX11) (by decide +kernel)) (hts (.methodLink RX11 25 yX11_init) (by decide +kernel)) (hts (.instanceMethod yX11_init) (by decide +kernel)) rfl (by decide +kernel) ⟨Nat.le_of_ble_eq_true rfl, Nat.le_of_ble_eq_true rfl⟩) (zpS hKX hP hD [0, 5] rfl rfl) rfl rfl hl.1 rfl (lv_room (Nat.le_of_ble_eq_true rfl)) dX11_plus_52 ⟨(by first | exact Nat.le_of_ble_eq_true rfl | (show _ ≤ (3 : Nat); omega)), (by first | exact Nat.le_of_ble_eq_true rfl | (show _ ≤ (259 : Nat); omega))⟩) hP hD hS hA [0, 5] [1, 2, 3, 4] rfl rfl rfl (by decide) (fun u_20 H locs hq hP hD hS => ?_)
        obtain ⟨b1, f1, N1, s1⟩ := u_20
        have hP : va_P G.1 vwCl [(a, .inr (12, [.int (iz (sg)), .ref b])), (b, zaI (G.2 1) N (f)), (a2, .inr (12, [.int (iz (sg2)), .ref b2])), (b2, zaI (G.2 1) N2 (f2)), (ra, .inr (12, [.int (iz (s1)), .ref b1])), (b1, zaI (G.2 1) N1 (f1)), (rs, zaI (G.2 1) Rs (hs))] H := hP
        have hD : va_D A [(a, .inr (12, [.int (iz (sg)), .ref b])), (b, zaI (G.2 1) N (f)), (a2, .inr (12, [.int (iz (sg2)), .ref b2])), (b2, zaI (G.2 1) N2 (f2)), (ra, .inr (12, [.int (iz (s1)), .ref b1])), (b1, zaI (G.2 1) N1 (f1)), (rs, zaI (G.2 1) Rs (hs))] := hD
        have hq : tmw f1 N1 s1 (sg * tsum hs Rs) := hq
        rw [hQ]
        exact zr_aret (ra := ra) (Or.inl ⟨_, rfl⟩) (u := (b1, f1, N1, s1)) hx hb hr hlocks (hP.sub [4, 5] rfl) (hD.sub [4, 5] (by decide) rfl) hS (by first | exact Nat.le_of_ble_eq_true rfl | omega) (by first | exact Nat.le_of_ble_eq_true rfl | omega) dX11_plus_55 (show tmw f1 N1 s1 (v + v2) from tpost hq (by rw [hj.2.1]; exact tplus_same h1 h2 (by omega)))
    ·
      refine lv_aload_n hx hb dX11_plus_14 rfl (lv_at hl 0 rfl) ?_
      refine va_get (D := G.1) (ci := 12) (v := .int (iz (sg))) (C := RX11) (T := TX11) (N := 2) hx hb hts iwX11 hown hK hP 0 rfl rfl 0 (by decide) (hts (.fieldLink RX11 7 "AnnuityHouseModel$Whole" "sign" "I") (by decide +kernel)) (fun _ h9 => h9) rfl dX11_plus_15 ?_
      refine zr_if_ne (x := sg) (tgt := 25) hx hb (⟨by omega, by omega⟩) dX11_plus_18 (by decide) (fun h_23 => ?_) (fun h_23 => ?_)
      ·
        refine lv_aload_n hx hb dX11_plus_25 rfl (lv_at hl 0 rfl) ?_
        rw [hQ]
        exact zr_aret (ra := a) (Or.inl ⟨_, rfl⟩) (u := (b, f, N, sg)) hx hb hr hlocks (hP.sub [0, 1] rfl) (hD.sub [0, 1] (by decide) rfl) hS (by first | exact Nat.le_of_ble_eq_true rfl | omega) (by first | exact Nat.le_of_ble_eq_true rfl | omega) dX11_plus_26 (show tmw f N sg (v + v2) from by first | exact tpost h2 (by have := h1.v0 (by omega); omega) | exact tpost h1 (by have := h2.v0 (by omega); omega))
      ·
        refine lv_aload_n hx hb dX11_plus_21 rfl (lv_at hl 1 rfl) ?_
        refine lv_goto (tgt := 26) hx hb dX11_plus_22 (by decide) ?_
        rw [hQ]
        exact zr_aret (ra := a2) (Or.inl ⟨_, rfl⟩) (u := (b2, f2, N2, sg2)) hx hb hr hlocks (hP.sub [2, 3] rfl) (hD.sub [2, 3] (by decide) rfl) hS (by first | exact Nat.le_of_ble_eq_true rfl | omega) (by first | exact Nat.le_of_ble_eq_true rfl | omega) dX11_plus_26 (show tmw f2 N2 sg2 (v + v2) from by first | exact tpost h2 (by have := h1.v0 (by omega); omega) | exact tpost h1 (by have := h2.v0 (by omega); omega))

def rm_c_X11_plus_a : Room := { frames := 2, cells := 3, slots := 259, locals := 47 }
set_option maxHeartbeats 1000000 in
set_option maxRecDepth 100000 in
theorem c_X11_plus_a (l : Launch) (G : zG) (a : Nat) (b : Nat) (f : Int → Int) (N : Nat) (sg : Int) (v : Int) (h1 : tmw f N sg v) (h3 : (v.natAbs : Int) + (v.natAbs : Int) < 10000 ^ 128) : zM l G yX11_plus wsX11_plus rm_c_X11_plus_a [.ref a, .ref a] [(a, .inr (12, [.int (iz (sg)), .ref b])), (b, zaI (G.2 1) N (f))] (fun A => zQr G (fun (u : (Nat × (Int → Int) × Nat × Int)) (ra : Nat) => tmw u.2.1 u.2.2.1 u.2.2.2 (v + v)) (fun (u : (Nat × (Int → Int) × Nat × Int)) (ra : Nat) => [(ra, .inr (12, [.int (iz (u.2.2.2)), .ref u.1])), (u.1, zaI (G.2 1) u.2.2.1 (u.2.1))]) A) 3 259 := by
  refine zM_of (cc := cX11_plus) (maxL := 2) (ret := (some (.object "AnnuityHouseModel$Whole"))) (by decide) rfl (Nat.le_of_ble_eq_true rfl) ?_
  intro p e s m below meth c ls A Q hQ hx hb hr hts hown hlocks hml hnm hKX hP hD hA hS hl
  have hK := hKX.1
  have iwX11 := iw_X11_plus_X11
  obtain ⟨H, hH⟩ : ∃ h, h = s.heap := ⟨_, rfl⟩
  obtain ⟨locs, hlo⟩ : ∃ h : List Loc, h = [] := ⟨_, rfl⟩
  have hS : va_S A s.heap H locs := by rw [hH, hlo]; exact hS
  have hP : va_P G.1 vwCl [(a, .inr (12, [.int (iz (sg)), .ref b])), (b, zaI (G.2 1) N (f))] H := by rw [hH]; exact hP
  have hD : va_D A [(a, .inr (12, [.int (iz (sg)), .ref b])), (b, zaI (G.2 1) N (f))] := hD
  have hl : lv_has ls 2 [(0, .ref a), (1, .ref a)] := hl
  rw [← hH, ← hlo]
  have g1 := h1.sgi
  refine lv_aload_n hx hb dX11_plus_0 rfl (lv_at hl 0 rfl) ?_
  refine va_get (D := G.1) (ci := 12) (v := .int (iz (sg))) (C := RX11) (T := TX11) (N := 2) hx hb hts iwX11 hown hK hP 0 rfl rfl 0 (by decide) (hts (.fieldLink RX11 7 "AnnuityHouseModel$Whole" "sign" "I") (by decide +kernel)) (fun _ h9 => h9) rfl dX11_plus_1 ?_
  refine zr_if_eq (x := sg) (tgt := 14) hx hb (⟨by omega, by omega⟩) dX11_plus_4 (by decide) (fun h_1 => ?_) (fun h_1 => ?_)
  ·
    refine lv_aload_n hx hb dX11_plus_14 rfl (lv_at hl 0 rfl) ?_
    refine va_get (D := G.1) (ci := 12) (v := .int (iz (sg))) (C := RX11) (T := TX11) (N := 2) hx hb hts iwX11 hown hK hP 0 rfl rfl 0 (by decide) (hts (.fieldLink RX11 7 "AnnuityHouseModel$Whole" "sign" "I") (by decide +kernel)) (fun _ h9 => h9) rfl dX11_plus_15 ?_
    refine zr_if_ne (x := sg) (tgt := 25) hx hb (⟨by omega, by omega⟩) dX11_plus_18 (by decide) (fun h_2 => ?_) (fun h_2 => ?_)
    ·
      refine lv_aload_n hx hb dX11_plus_25 rfl (lv_at hl 0 rfl) ?_
      rw [hQ]
      exact zr_aret (ra := a) (Or.inl ⟨_, rfl⟩) (u := (b, f, N, sg)) hx hb hr hlocks hP hD hS (by first | exact Nat.le_of_ble_eq_true rfl | omega) (by first | exact Nat.le_of_ble_eq_true rfl | omega) dX11_plus_26 (show tmw f N sg (v + v) from tpost h1 (by have := h1.v0 (by omega); omega))
    ·
      refine lv_aload_n hx hb dX11_plus_21 rfl (lv_at hl 1 rfl) ?_
      refine lv_goto (tgt := 26) hx hb dX11_plus_22 (by decide) ?_
      rw [hQ]
      exact zr_aret (ra := a) (Or.inl ⟨_, rfl⟩) (u := (b, f, N, sg)) hx hb hr hlocks hP hD hS (by first | exact Nat.le_of_ble_eq_true rfl | omega) (by first | exact Nat.le_of_ble_eq_true rfl | omega) dX11_plus_26 (show tmw f N sg (v + v) from tpost h1 (by have := h1.v0 (by omega); omega))
  ·
    refine lv_aload_n hx hb dX11_plus_7 rfl (lv_at hl 1 rfl) ?_
    refine va_get (D := G.1) (ci := 12) (v := .int (iz (sg))) (C := RX11) (T := TX11) (N := 2) hx hb hts iwX11 hown hK hP 0 rfl rfl 0 (by decide) (hts (.fieldLink RX11 7 "AnnuityHouseModel$Whole" "sign" "I") (by decide +kernel)) (fun _ h9 => h9) rfl dX11_plus_8 ?_
    refine zr_if_ne (x := sg) (tgt := 27) hx hb (⟨by omega, by omega⟩) dX11_plus_11 (by decide) (fun h_3 => ?_) (fun h_3 => ?_)
    ·
      refine lv_aload_n hx hb dX11_plus_27 rfl (lv_at hl 0 rfl) ?_
      refine va_get (D := G.1) (ci := 12) (v := .int (iz (sg))) (C := RX11) (T := TX11) (N := 2) hx hb hts iwX11 hown hK hP 0 rfl rfl 0 (by decide) (hts (.fieldLink RX11 7 "AnnuityHouseModel$Whole" "sign" "I") (by decide +kernel)) (fun _ h9 => h9) rfl dX11_plus_28 ?_
      refine lv_aload_n hx hb dX11_plus_31 rfl (lv_at hl 1 rfl) ?_
      refine va_get (D := G.1) (ci := 12) (v := .int (iz (sg))) (C := RX11) (T := TX11) (N := 2) hx hb hts iwX11 hown hK hP 0 rfl rfl 0 (by decide) (hts (.fieldLink RX11 7 "AnnuityHouseModel$Whole" "sign" "I") (by decide +kernel)) (fun _ h9 => h9) rfl dX11_plus_32 ?_
      refine zr_icmp_ne (x := sg) (y := sg) (tgt := 56) hx hb (⟨by omega, by omega⟩) (⟨by omega, by omega⟩) dX11_plus_35 (by decide) (fun h_4 => ?_) (fun h_4 => ?_)
      · exact absurd h_4 (by omega)
      ·
        refine va_new (D := G.1) (ci := 12) (fs := [.int 0, .null]) (C := RX11) (T := TX11) (N := 2) hx hb hts iwX11 tyX11 tyX11_ok hown (hts (.classLink RX11 8 RX11) (by decide +kernel)) (hts (.instantiable RX11 2) (by decide +kernel)) (hts (.initialized RX11) (by decide +kernel)) hK hP hD hS hA rfl (by decide +kernel) (by first | exact Nat.le_of_ble_eq_true rfl | (show _ ≤ (3 : Nat); omega)) (by first | exact Nat.le_of_ble_eq_true rfl | (show _ ≤ (259 : Nat); omega)) dX11_plus_38 (fun ra H hP hD hS => ?_)
        have hP : va_P G.1 vwCl [(a, .inr (12, [.int (iz (sg)), .ref b])), (b, zaI (G.2 1) N (f)), (ra, .inr (12, [.int (iz (0)), .null]))] H := hP
        have hD : va_D A [(a, .inr (12, [.int (iz (sg)), .ref b])), (b, zaI (G.2 1) N (f)), (ra, .inr (12, [.int (iz (0)), .null]))] := hD
        refine lv_dup hx hb dX11_plus_41 rfl ?_
        refine lv_aload_n hx hb dX11_plus_42 rfl (lv_at hl 0 rfl) ?_
        refine va_get (D := G.1) (ci := 12) (v := .int (iz (sg))) (C := RX11) (T := TX11) (N := 2) hx hb hts iwX11 hown hK hP 0 rfl rfl 0 (by decide) (hts (.fieldLink RX11 7 "AnnuityHouseModel$Whole" "sign" "I") (by decide +kernel)) (fun _ h9 => h9) rfl dX11_plus_43 ?_
        refine lv_aload_n hx hb dX11_plus_46 rfl (lv_at hl 0 rfl) ?_
        refine lv_aload_n hx hb dX11_plus_47 rfl (lv_at hl 1 rfl) ?_
        refine lv_iconst (v := iz (1)) hx hb dX11_plus_48 rfl ?_
        refine zc_r (wr := [(ra, .inr (12, [.int (iz (0)), .null]))]) (va_runS (As := [.ref a, .ref a, .int (iz (1))]) (rest := [.int (iz (sg)), .ref ra, .ref ra]) ⟨hx, hb, hml, hown, hts⟩ (c_X11_joined_a l G a b f N sg v (h1) H.size) (va_cwS 3 hts gX11_plus_X11_joined rfl rfl rfl (by decide +kernel) ⟨Nat.le_of_ble_eq_true rfl, Nat.le_of_ble_eq_true rfl⟩) (zpS hKX hP hD [0, 1] rfl rfl) rfl rfl hl.1 rfl (lv_room (Nat.le_of_ble_eq_true rfl)) dX11_plus_49 ⟨(by first | exact Nat.le_of_ble_eq_true rfl | (show _ ≤ (3 : Nat); omega)), (by first | exact Nat.le_of_ble_eq_true rfl | (show _ ≤ (259 : Nat); omega))⟩) hP hD hS hA [0, 1] [2] rfl rfl rfl (by decide) (fun u_5 rs H locs hj hP hD hS => ?_)
        obtain ⟨hs, Rs⟩ := u_5
        have hP : va_P G.1 vwCl [(ra, .inr (12, [.int (iz (0)), .null])), (a, .inr (12, [.int (iz (sg)), .ref b])), (b, zaI (G.2 1) N (f)), (rs, zaI (G.2 1) Rs (hs))] H := hP
        have hD : va_D A [(ra, .inr (12, [.int (iz (0)), .null])), (a, .inr (12, [.int (iz (sg)), .ref b])), (b, zaI (G.2 1) N (f)), (rs, zaI (G.2 1) Rs (hs))] := hD
        have hj : tdig hs Rs ∧ tsum hs Rs = tsum f N + tsum f N ∧ Rs ≤ 129 := hj
        refine zc_v (wr := [(a, .inr (12, [.int (iz (sg)), .ref b])), (b, zaI (G.2 1) N (f))]) (va_runI (As := [.int (iz (sg)), .ref rs]) (rest := [.ref ra]) ⟨hx, hb, hml, hown, hts⟩ (c_X11_init l G ra rs hs Rs sg (hj.1) (h1.sg) (by omega) (by rw [hj.2.1]; exact tplus_lt h1 h1 h3) (fun q => absurd q (by omega)) H.size) (cwI 2 hts gX11_plus_X11_init rfl rfl rfl (hts (.initialized RX11) (by decide +kernel)) (hts (.methodLink RX11 25 yX11_init) (by decide +kernel)) (hts (.instanceMethod yX11_init) (by decide +kernel)) rfl (by decide +kernel) ⟨Nat.le_of_ble_eq_true rfl, Nat.le_of_ble_eq_true rfl⟩) (zpS hKX hP hD [0, 3] rfl rfl) rfl rfl hl.1 rfl (lv_room (Nat.le_of_ble_eq_true rfl)) dX11_plus_52 ⟨(by first | exact Nat.le_of_ble_eq_true rfl | (show _ ≤ (3 : Nat); omega)), (by first | exact Nat.le_of_ble_eq_true rfl | (show _ ≤ (259 : Nat); omega))⟩) hP hD hS hA [0, 3] [1, 2] rfl rfl rfl (by decide) (fun u_7 H locs hq hP hD hS => ?_)
        obtain ⟨b1, f1, N1, s1⟩ := u_7
        have hP : va_P G.1 vwCl [(a, .inr (12, [.int (iz (sg)), .ref b])), (b, zaI (G.2 1) N (f)), (ra, .inr (12, [.int (iz (s1)), .ref b1])), (b1, zaI (G.2 1) N1 (f1)), (rs, zaI (G.2 1) Rs (hs))] H := hP
        have hD : va_D A [(a, .inr (12, [.int (iz (sg)), .ref b])), (b, zaI (G.2 1) N (f)), (ra, .inr (12, [.int (iz (s1)), .ref b1])), (b1, zaI (G.2 1) N1 (f1)), (rs, zaI (G.2 1) Rs (hs))] := hD
        have hq : tmw f1 N1 s1 (sg * tsum hs Rs) := hq
        rw [hQ]
        exact zr_aret (ra := ra) (Or.inl ⟨_, rfl⟩) (u := (b1, f1, N1, s1)) hx hb hr hlocks (hP.sub [2, 3] rfl) (hD.sub [2, 3] (by decide) rfl) hS (by first | exact Nat.le_of_ble_eq_true rfl | omega) (by first | exact Nat.le_of_ble_eq_true rfl | omega) dX11_plus_55 (show tmw f1 N1 s1 (v + v) from tpost hq (by rw [hj.2.1]; exact tplus_same h1 h1 rfl))
    ·
      refine lv_aload_n hx hb dX11_plus_14 rfl (lv_at hl 0 rfl) ?_
      refine va_get (D := G.1) (ci := 12) (v := .int (iz (sg))) (C := RX11) (T := TX11) (N := 2) hx hb hts iwX11 hown hK hP 0 rfl rfl 0 (by decide) (hts (.fieldLink RX11 7 "AnnuityHouseModel$Whole" "sign" "I") (by decide +kernel)) (fun _ h9 => h9) rfl dX11_plus_15 ?_
      refine zr_if_ne (x := sg) (tgt := 25) hx hb (⟨by omega, by omega⟩) dX11_plus_18 (by decide) (fun h_10 => ?_) (fun h_10 => ?_)
      ·
        refine lv_aload_n hx hb dX11_plus_25 rfl (lv_at hl 0 rfl) ?_
        rw [hQ]
        exact zr_aret (ra := a) (Or.inl ⟨_, rfl⟩) (u := (b, f, N, sg)) hx hb hr hlocks hP hD hS (by first | exact Nat.le_of_ble_eq_true rfl | omega) (by first | exact Nat.le_of_ble_eq_true rfl | omega) dX11_plus_26 (show tmw f N sg (v + v) from tpost h1 (by have := h1.v0 (by omega); omega))
      ·
        refine lv_aload_n hx hb dX11_plus_21 rfl (lv_at hl 1 rfl) ?_
        refine lv_goto (tgt := 26) hx hb dX11_plus_22 (by decide) ?_
        rw [hQ]
        exact zr_aret (ra := a) (Or.inl ⟨_, rfl⟩) (u := (b, f, N, sg)) hx hb hr hlocks hP hD hS (by first | exact Nat.le_of_ble_eq_true rfl | omega) (by first | exact Nat.le_of_ble_eq_true rfl | omega) dX11_plus_26 (show tmw f N sg (v + v) from tpost h1 (by have := h1.v0 (by omega); omega))

def rm_c_X11_plus_k : Room := { frames := 2, cells := 3, slots := 259, locals := 47 }
set_option maxHeartbeats 1000000 in
set_option maxRecDepth 100000 in
theorem c_X11_plus_k (l : Launch) (G : zG) (a : Nat) (b : Nat) (f : Int → Int) (N : Nat) (sg : Int) (v : Int) (h1 : tmw f N sg v) (h3 : (v.natAbs : Int) + (v.natAbs : Int) < 10000 ^ 128) (h4 : 0 < v) : zM l G yX11_plus wsX11_plus rm_c_X11_plus_k [.ref a, .ref a] [(a, .inr (12, [.int (iz (sg)), .ref b])), (b, zaI (G.2 1) N (f))] (fun A => zQr G (fun (u : (Nat × (Int → Int) × Nat × Int)) (ra : Nat) => tmw u.2.1 u.2.2.1 u.2.2.2 (v + v)) (fun (u : (Nat × (Int → Int) × Nat × Int)) (ra : Nat) => [(a, .inr (12, [.int (iz (sg)), .ref b])), (b, zaI (G.2 1) N (f)), (ra, .inr (12, [.int (iz (u.2.2.2)), .ref u.1])), (u.1, zaI (G.2 1) u.2.2.1 (u.2.1))]) A) 3 259 := by
  refine zM_of (cc := cX11_plus) (maxL := 2) (ret := (some (.object "AnnuityHouseModel$Whole"))) (by decide) rfl (Nat.le_of_ble_eq_true rfl) ?_
  intro p e s m below meth c ls A Q hQ hx hb hr hts hown hlocks hml hnm hKX hP hD hA hS hl
  have hK := hKX.1
  have iwX11 := iw_X11_plus_X11
  obtain ⟨H, hH⟩ : ∃ h, h = s.heap := ⟨_, rfl⟩
  obtain ⟨locs, hlo⟩ : ∃ h : List Loc, h = [] := ⟨_, rfl⟩
  have hS : va_S A s.heap H locs := by rw [hH, hlo]; exact hS
  have hP : va_P G.1 vwCl [(a, .inr (12, [.int (iz (sg)), .ref b])), (b, zaI (G.2 1) N (f))] H := by rw [hH]; exact hP
  have hD : va_D A [(a, .inr (12, [.int (iz (sg)), .ref b])), (b, zaI (G.2 1) N (f))] := hD
  have hl : lv_has ls 2 [(0, .ref a), (1, .ref a)] := hl
  rw [← hH, ← hlo]
  have g1 := h1.sgi
  have gg := h1.sgn
  have gp := Int.sign_eq_one_of_pos h4
  refine lv_aload_n hx hb dX11_plus_0 rfl (lv_at hl 0 rfl) ?_
  refine va_get (D := G.1) (ci := 12) (v := .int (iz (sg))) (C := RX11) (T := TX11) (N := 2) hx hb hts iwX11 hown hK hP 0 rfl rfl 0 (by decide) (hts (.fieldLink RX11 7 "AnnuityHouseModel$Whole" "sign" "I") (by decide +kernel)) (fun _ h9 => h9) rfl dX11_plus_1 ?_
  refine zr_if_eq (x := sg) (tgt := 14) hx hb (⟨by omega, by omega⟩) dX11_plus_4 (by decide) (fun h_1 => ?_) (fun h_1 => ?_)
  · exact absurd h_1 (by omega)
  ·
    refine lv_aload_n hx hb dX11_plus_7 rfl (lv_at hl 1 rfl) ?_
    refine va_get (D := G.1) (ci := 12) (v := .int (iz (sg))) (C := RX11) (T := TX11) (N := 2) hx hb hts iwX11 hown hK hP 0 rfl rfl 0 (by decide) (hts (.fieldLink RX11 7 "AnnuityHouseModel$Whole" "sign" "I") (by decide +kernel)) (fun _ h9 => h9) rfl dX11_plus_8 ?_
    refine zr_if_ne (x := sg) (tgt := 27) hx hb (⟨by omega, by omega⟩) dX11_plus_11 (by decide) (fun h_2 => ?_) (fun h_2 => ?_)
    ·
      refine lv_aload_n hx hb dX11_plus_27 rfl (lv_at hl 0 rfl) ?_
      refine va_get (D := G.1) (ci := 12) (v := .int (iz (sg))) (C := RX11) (T := TX11) (N := 2) hx hb hts iwX11 hown hK hP 0 rfl rfl 0 (by decide) (hts (.fieldLink RX11 7 "AnnuityHouseModel$Whole" "sign" "I") (by decide +kernel)) (fun _ h9 => h9) rfl dX11_plus_28 ?_
      refine lv_aload_n hx hb dX11_plus_31 rfl (lv_at hl 1 rfl) ?_
      refine va_get (D := G.1) (ci := 12) (v := .int (iz (sg))) (C := RX11) (T := TX11) (N := 2) hx hb hts iwX11 hown hK hP 0 rfl rfl 0 (by decide) (hts (.fieldLink RX11 7 "AnnuityHouseModel$Whole" "sign" "I") (by decide +kernel)) (fun _ h9 => h9) rfl dX11_plus_32 ?_
      refine zr_icmp_ne (x := sg) (y := sg) (tgt := 56) hx hb (⟨by omega, by omega⟩) (⟨by omega, by omega⟩) dX11_plus_35 (by decide) (fun h_3 => ?_) (fun h_3 => ?_)
      · exact absurd h_3 (by omega)
      ·
        refine va_new (D := G.1) (ci := 12) (fs := [.int 0, .null]) (C := RX11) (T := TX11) (N := 2) hx hb hts iwX11 tyX11 tyX11_ok hown (hts (.classLink RX11 8 RX11) (by decide +kernel)) (hts (.instantiable RX11 2) (by decide +kernel)) (hts (.initialized RX11) (by decide +kernel)) hK hP hD hS hA rfl (by decide +kernel) (by first | exact Nat.le_of_ble_eq_true rfl | (show _ ≤ (3 : Nat); omega)) (by first | exact Nat.le_of_ble_eq_true rfl | (show _ ≤ (259 : Nat); omega)) dX11_plus_38 (fun ra H hP hD hS => ?_)
        have hP : va_P G.1 vwCl [(a, .inr (12, [.int (iz (sg)), .ref b])), (b, zaI (G.2 1) N (f)), (ra, .inr (12, [.int (iz (0)), .null]))] H := hP
        have hD : va_D A [(a, .inr (12, [.int (iz (sg)), .ref b])), (b, zaI (G.2 1) N (f)), (ra, .inr (12, [.int (iz (0)), .null]))] := hD
        refine lv_dup hx hb dX11_plus_41 rfl ?_
        refine lv_aload_n hx hb dX11_plus_42 rfl (lv_at hl 0 rfl) ?_
        refine va_get (D := G.1) (ci := 12) (v := .int (iz (sg))) (C := RX11) (T := TX11) (N := 2) hx hb hts iwX11 hown hK hP 0 rfl rfl 0 (by decide) (hts (.fieldLink RX11 7 "AnnuityHouseModel$Whole" "sign" "I") (by decide +kernel)) (fun _ h9 => h9) rfl dX11_plus_43 ?_
        refine lv_aload_n hx hb dX11_plus_46 rfl (lv_at hl 0 rfl) ?_
        refine lv_aload_n hx hb dX11_plus_47 rfl (lv_at hl 1 rfl) ?_
        refine lv_iconst (v := iz (1)) hx hb dX11_plus_48 rfl ?_
        refine zc_r (wr := [(ra, .inr (12, [.int (iz (0)), .null]))]) (va_runS (As := [.ref a, .ref a, .int (iz (1))]) (rest := [.int (iz (sg)), .ref ra, .ref ra]) ⟨hx, hb, hml, hown, hts⟩ (c_X11_joined_a l G a b f N sg v (h1) H.size) (va_cwS 3 hts gX11_plus_X11_joined rfl rfl rfl (by decide +kernel) ⟨Nat.le_of_ble_eq_true rfl, Nat.le_of_ble_eq_true rfl⟩) (zpS hKX hP hD [0, 1] rfl rfl) rfl rfl hl.1 rfl (lv_room (Nat.le_of_ble_eq_true rfl)) dX11_plus_49 ⟨(by first | exact Nat.le_of_ble_eq_true rfl | (show _ ≤ (3 : Nat); omega)), (by first | exact Nat.le_of_ble_eq_true rfl | (show _ ≤ (259 : Nat); omega))⟩) hP hD hS hA [0, 1] [2] rfl rfl rfl (by decide) (fun u_4 rs H locs hj hP hD hS => ?_)
        obtain ⟨hs, Rs⟩ := u_4
        have hP : va_P G.1 vwCl [(ra, .inr (12, [.int (iz (0)), .null])), (a, .inr (12, [.int (iz (sg)), .ref b])), (b, zaI (G.2 1) N (f)), (rs, zaI (G.2 1) Rs (hs))] H := hP
        have hD : va_D A [(ra, .inr (12, [.int (iz (0)), .null])), (a, .inr (12, [.int (iz (sg)), .ref b])), (b, zaI (G.2 1) N (f)), (rs, zaI (G.2 1) Rs (hs))] := hD
        have hj : tdig hs Rs ∧ tsum hs Rs = tsum f N + tsum f N ∧ Rs ≤ 129 := hj
        refine zc_v (wr := [(a, .inr (12, [.int (iz (sg)), .ref b])), (b, zaI (G.2 1) N (f))]) (va_runI (As := [.int (iz (sg)), .ref rs]) (rest := [.ref ra]) ⟨hx, hb, hml, hown, hts⟩ (c_X11_init l G ra rs hs Rs sg (hj.1) (h1.sg) (by omega) (by rw [hj.2.1]; exact tplus_lt h1 h1 h3) (fun q => absurd q (by omega)) H.size) (cwI 2 hts gX11_plus_X11_init rfl rfl rfl (hts (.initialized RX11) (by decide +kernel)) (hts (.methodLink RX11 25 yX11_init) (by decide +kernel)) (hts (.instanceMethod yX11_init) (by decide +kernel)) rfl (by decide +kernel) ⟨Nat.le_of_ble_eq_true rfl, Nat.le_of_ble_eq_true rfl⟩) (zpS hKX hP hD [0, 3] rfl rfl) rfl rfl hl.1 rfl (lv_room (Nat.le_of_ble_eq_true rfl)) dX11_plus_52 ⟨(by first | exact Nat.le_of_ble_eq_true rfl | (show _ ≤ (3 : Nat); omega)), (by first | exact Nat.le_of_ble_eq_true rfl | (show _ ≤ (259 : Nat); omega))⟩) hP hD hS hA [0, 3] [1, 2] rfl rfl rfl (by decide) (fun u_6 H locs hq hP hD hS => ?_)
        obtain ⟨b1, f1, N1, s1⟩ := u_6
        have hP : va_P G.1 vwCl [(a, .inr (12, [.int (iz (sg)), .ref b])), (b, zaI (G.2 1) N (f)), (ra, .inr (12, [.int (iz (s1)), .ref b1])), (b1, zaI (G.2 1) N1 (f1)), (rs, zaI (G.2 1) Rs (hs))] H := hP
        have hD : va_D A [(a, .inr (12, [.int (iz (sg)), .ref b])), (b, zaI (G.2 1) N (f)), (ra, .inr (12, [.int (iz (s1)), .ref b1])), (b1, zaI (G.2 1) N1 (f1)), (rs, zaI (G.2 1) Rs (hs))] := hD
        have hq : tmw f1 N1 s1 (sg * tsum hs Rs) := hq
        rw [hQ]
        exact zr_aret (ra := ra) (Or.inl ⟨_, rfl⟩) (u := (b1, f1, N1, s1)) hx hb hr hlocks (hP.sub [0, 1, 2, 3] rfl) (hD.sub [0, 1, 2, 3] (by decide) rfl) hS (by first | exact Nat.le_of_ble_eq_true rfl | omega) (by first | exact Nat.le_of_ble_eq_true rfl | omega) dX11_plus_55 (show tmw f1 N1 s1 (v + v) from tpost hq (by rw [hj.2.1]; exact tplus_same h1 h1 rfl))
    · exact absurd h_2 (by omega)

def rm_c_X11_less : Room := { frames := 3, cells := 5, slots := 389, locals := 68 }
set_option maxHeartbeats 1000000 in
set_option maxRecDepth 100000 in
theorem c_X11_less (l : Launch) (G : zG) (a : Nat) (b : Nat) (f : Int → Int) (N : Nat) (sg : Int) (a2 : Nat) (b2 : Nat) (f2 : Int → Int) (N2 : Nat) (sg2 : Int) (v : Int) (v2 : Int) (h1 : tmw f N sg v) (h2 : tmw f2 N2 sg2 v2) (h3 : (v.natAbs : Int) + (v2.natAbs : Int) < 10000 ^ 128) : zM l G yX11_less wsX11_less rm_c_X11_less [.ref a, .ref a2] [(a, .inr (12, [.int (iz (sg)), .ref b])), (b, zaI (G.2 1) N (f)), (a2, .inr (12, [.int (iz (sg2)), .ref b2])), (b2, zaI (G.2 1) N2 (f2))] (fun A => zQr G (fun (u : (Nat × (Int → Int) × Nat × Int)) (ra : Nat) => tmw u.2.1 u.2.2.1 u.2.2.2 (v - v2)) (fun (u : (Nat × (Int → Int) × Nat × Int)) (ra : Nat) => [(ra, .inr (12, [.int (iz (u.2.2.2)), .ref u.1])), (u.1, zaI (G.2 1) u.2.2.1 (u.2.1))]) A) 5 389 := by
  refine zM_of (cc := cX11_less) (maxL := 2) (ret := (some (.object "AnnuityHouseModel$Whole"))) (by decide) rfl (Nat.le_of_ble_eq_true rfl) ?_
  intro p e s m below meth c ls A Q hQ hx hb hr hts hown hlocks hml hnm hKX hP hD hA hS hl
  have hK := hKX.1
  obtain ⟨H, hH⟩ : ∃ h, h = s.heap := ⟨_, rfl⟩
  obtain ⟨locs, hlo⟩ : ∃ h : List Loc, h = [] := ⟨_, rfl⟩
  have hS : va_S A s.heap H locs := by rw [hH, hlo]; exact hS
  have hP : va_P G.1 vwCl [(a, .inr (12, [.int (iz (sg)), .ref b])), (b, zaI (G.2 1) N (f)), (a2, .inr (12, [.int (iz (sg2)), .ref b2])), (b2, zaI (G.2 1) N2 (f2))] H := by rw [hH]; exact hP
  have hD : va_D A [(a, .inr (12, [.int (iz (sg)), .ref b])), (b, zaI (G.2 1) N (f)), (a2, .inr (12, [.int (iz (sg2)), .ref b2])), (b2, zaI (G.2 1) N2 (f2))] := hD
  have hl : lv_has ls 2 [(0, .ref a), (1, .ref a2)] := hl
  rw [← hH, ← hlo]
  refine lv_aload_n hx hb dX11_less_0 rfl (lv_at hl 0 rfl) ?_
  refine lv_aload_n hx hb dX11_less_1 rfl (lv_at hl 1 rfl) ?_
  refine zc_r (wr := [(a, .inr (12, [.int (iz (sg)), .ref b])), (b, zaI (G.2 1) N (f))]) (va_runV (As := []) (rest := [.ref a]) ⟨hx, hb, hml, hown, hts⟩ (c_X11_negated l G a2 b2 f2 N2 sg2 v2 (h2) H.size) (cwV 0 hts gX11_less_X11_negated rfl rfl rfl (by decide +kernel) ⟨Nat.le_of_ble_eq_true rfl, Nat.le_of_ble_eq_true rfl⟩) (zpV hKX hP hD [2, 3] rfl rfl 2 12 rfl rfl) rfl rfl hl.1 rfl (lv_room (Nat.le_of_ble_eq_true rfl)) dX11_less_2 ⟨(by first | exact Nat.le_of_ble_eq_true rfl | (show _ ≤ (5 : Nat); omega)), (by first | exact Nat.le_of_ble_eq_true rfl | (show _ ≤ (389 : Nat); omega))⟩) hP hD hS hA [2, 3] [0, 1] rfl rfl rfl (by decide) (fun u_1 rn H locs hq1 hP hD hS => ?_)
  obtain ⟨b1, f1, N1, s1⟩ := u_1
  have hP : va_P G.1 vwCl [(a, .inr (12, [.int (iz (sg)), .ref b])), (b, zaI (G.2 1) N (f)), (a2, .inr (12, [.int (iz (sg2)), .ref b2])), (b2, zaI (G.2 1) N2 (f2)), (rn, .inr (12, [.int (iz (s1)), .ref b1])), (b1, zaI (G.2 1) N1 (f1))] H := hP
  have hD : va_D A [(a, .inr (12, [.int (iz (sg)), .ref b])), (b, zaI (G.2 1) N (f)), (a2, .inr (12, [.int (iz (sg2)), .ref b2])), (b2, zaI (G.2 1) N2 (f2)), (rn, .inr (12, [.int (iz (s1)), .ref b1])), (b1, zaI (G.2 1) N1 (f1))] := hD
  have hq1 : tmw f1 N1 s1 (-v2) := hq1
  refine zc_r (wr := [(a2, .inr (12, [.int (iz (sg2)), .ref b2])), (b2, zaI (G.2 1) N2 (f2))]) (va_runV (As := [.ref rn]) (rest := []) ⟨hx, hb, hml, hown, hts⟩ (c_X11_plus l G a b f N sg rn b1 f1 N1 s1 v (-v2) (h1) (hq1) (by omega) H.size) (cwV 1 hts gX11_less_X11_plus rfl rfl rfl (by decide +kernel) ⟨Nat.le_of_ble_eq_true rfl, Nat.le_of_ble_eq_true rfl⟩) (zpV hKX hP hD [0, 1, 4, 5] rfl rfl 0 12 rfl rfl) rfl rfl hl.1 rfl (lv_room (Nat.le_of_ble_eq_true rfl)) dX11_less_5 ⟨(by first | exact Nat.le_of_ble_eq_true rfl | (show _ ≤ (5 : Nat); omega)), (by first | exact Nat.le_of_ble_eq_true rfl | (show _ ≤ (389 : Nat); omega))⟩) hP hD hS hA [0, 1, 4, 5] [2, 3] rfl rfl rfl (by decide) (fun u_3 rp H locs hq hP hD hS => ?_)
  obtain ⟨b3, f3, N3, s3⟩ := u_3
  have hP : va_P G.1 vwCl [(a2, .inr (12, [.int (iz (sg2)), .ref b2])), (b2, zaI (G.2 1) N2 (f2)), (rp, .inr (12, [.int (iz (s3)), .ref b3])), (b3, zaI (G.2 1) N3 (f3))] H := hP
  have hD : va_D A [(a2, .inr (12, [.int (iz (sg2)), .ref b2])), (b2, zaI (G.2 1) N2 (f2)), (rp, .inr (12, [.int (iz (s3)), .ref b3])), (b3, zaI (G.2 1) N3 (f3))] := hD
  have hq : tmw f3 N3 s3 (v + (-v2)) := hq
  rw [hQ]
  exact zr_aret (ra := rp) (Or.inl ⟨_, rfl⟩) (u := (b3, f3, N3, s3)) hx hb hr hlocks (hP.sub [2, 3] rfl) (hD.sub [2, 3] (by decide) rfl) hS (by first | exact Nat.le_of_ble_eq_true rfl | omega) (by first | exact Nat.le_of_ble_eq_true rfl | omega) dX11_less_8 (show tmw f3 N3 s3 (v - v2) from tpost hq (by omega))

def rm_c_X11_times : Room := { frames := 2, cells := 3, slots := 387, locals := 36 }
theorem iw_X11_times_X11 : ∀ w ∈ wsX110, w ∈ wsX11_times := by decide +kernel
set_option maxHeartbeats 1000000 in
set_option maxRecDepth 100000 in
theorem c_X11_times (l : Launch) (G : zG) (a : Nat) (b : Nat) (f : Int → Int) (N : Nat) (sg : Int) (a2 : Nat) (b2 : Nat) (f2 : Int → Int) (N2 : Nat) (sg2 : Int) (v : Int) (v2 : Int) (h1 : tmw f N sg v) (h2 : tmw f2 N2 sg2 v2) (h3 : (v.natAbs : Int) * (v2.natAbs : Int) < 10000 ^ 128) : zM l G yX11_times wsX11_times rm_c_X11_times [.ref a, .ref a2] [(a, .inr (12, [.int (iz (sg)), .ref b])), (b, zaI (G.2 1) N (f)), (a2, .inr (12, [.int (iz (sg2)), .ref b2])), (b2, zaI (G.2 1) N2 (f2))] (fun A => zQr G (fun (u : (Nat × (Int → Int) × Nat × Int)) (ra : Nat) => tmw u.2.1 u.2.2.1 u.2.2.2 (v * v2)) (fun (u : (Nat × (Int → Int) × Nat × Int)) (ra : Nat) => [(a, .inr (12, [.int (iz (sg)), .ref b])), (b, zaI (G.2 1) N (f)), (a2, .inr (12, [.int (iz (sg2)), .ref b2])), (b2, zaI (G.2 1) N2 (f2)), (ra, .inr (12, [.int (iz (u.2.2.2)), .ref u.1])), (u.1, zaI (G.2 1) u.2.2.1 (u.2.1))]) A) 3 387 := by
  refine zM_of (cc := cX11_times) (maxL := 7) (ret := (some (.object "AnnuityHouseModel$Whole"))) (by decide) rfl (Nat.le_of_ble_eq_true rfl) ?_
  intro p e s m below meth c ls A Q hQ hx hb hr hts hown hlocks hml hnm hKX hP hD hA hS hl
  have hK := hKX.1
  have iwX11 := iw_X11_times_X11
  obtain ⟨H, hH⟩ : ∃ h, h = s.heap := ⟨_, rfl⟩
  obtain ⟨locs, hlo⟩ : ∃ h : List Loc, h = [] := ⟨_, rfl⟩
  have hS : va_S A s.heap H locs := by rw [hH, hlo]; exact hS
  have hP : va_P G.1 vwCl [(a, .inr (12, [.int (iz (sg)), .ref b])), (b, zaI (G.2 1) N (f)), (a2, .inr (12, [.int (iz (sg2)), .ref b2])), (b2, zaI (G.2 1) N2 (f2))] H := by rw [hH]; exact hP
  have hD : va_D A [(a, .inr (12, [.int (iz (sg)), .ref b])), (b, zaI (G.2 1) N (f)), (a2, .inr (12, [.int (iz (sg2)), .ref b2])), (b2, zaI (G.2 1) N2 (f2))] := hD
  have hl : lv_has ls 7 [(0, .ref a), (1, .ref a2)] := hl
  rw [← hH, ← hlo]
  have n1 := h1.n
  have n2 := h2.n
  refine lv_aload_n hx hb dX11_times_0 rfl (lv_at hl 0 rfl) ?_
  refine va_get (D := G.1) (ci := 12) (v := .ref b) (C := RX11) (T := TX11) (N := 2) hx hb hts iwX11 hown hK hP 0 rfl rfl 1 (by decide) (hts (.fieldLink RX11 13 "AnnuityHouseModel$Whole" "limbs" "[I") (by decide +kernel)) (fun _ h9 => h9) rfl dX11_times_1 ?_
  refine zr_alenI hx hb hK hP 1 1 rfl rfl dX11_times_4 ?_
  refine lv_aload_n hx hb dX11_times_5 rfl (lv_at hl 1 rfl) ?_
  refine va_get (D := G.1) (ci := 12) (v := .ref b2) (C := RX11) (T := TX11) (N := 2) hx hb hts iwX11 hown hK hP 2 rfl rfl 1 (by decide) (hts (.fieldLink RX11 13 "AnnuityHouseModel$Whole" "limbs" "[I") (by decide +kernel)) (fun _ h9 => h9) rfl dX11_times_6 ?_
  refine zr_alenI hx hb hK hP 3 1 rfl rfl dX11_times_9 ?_
  refine zr_iadd hx hb dX11_times_10 ?_
  refine lv_iconst (v := iz (1)) hx hb dX11_times_11 rfl ?_
  refine zr_iadd hx hb dX11_times_12 ?_
  refine zr_namei (fun R eR => ?_)
  refine zr_newaI (G := G) (n := R) (N := (R).toNat) hx hb (hts (.arrayClass .int) (by decide +kernel)) hK hP hD hS hA (by omega) (by omega) (by omega) (by first | exact Nat.le_of_ble_eq_true rfl | (show _ ≤ (3 : Nat); omega)) (by first | exact Nat.le_of_ble_eq_true rfl | (show _ ≤ (387 : Nat); omega)) dX11_times_13 (fun rr H hP hD hS => ?_)
  have hP : va_P G.1 vwCl [(a, .inr (12, [.int (iz (sg)), .ref b])), (b, zaI (G.2 1) N (f)), (a2, .inr (12, [.int (iz (sg2)), .ref b2])), (b2, zaI (G.2 1) N2 (f2)), (rr, zaI (G.2 1) ((R).toNat) (fun _ => 0))] H := hP
  have hD : va_D A [(a, .inr (12, [.int (iz (sg)), .ref b])), (b, zaI (G.2 1) N (f)), (a2, .inr (12, [.int (iz (sg2)), .ref b2])), (b2, zaI (G.2 1) N2 (f2)), (rr, zaI (G.2 1) ((R).toNat) (fun _ => 0))] := hD
  refine lv_astore_n (lv' := [(2, .ref rr), (0, .ref a), (1, .ref a2)]) hx hb dX11_times_15 rfl hl (by decide) rfl (fun ls hl => ?_)
  refine lv_iconst (v := iz (0)) hx hb dX11_times_16 rfl ?_
  refine lv_istore_n (lv' := [(3, .int (iz (0))), (2, .ref rr), (0, .ref a), (1, .ref a2)]) hx hb dX11_times_17 rfl hl (by decide) rfl (fun ls hl => ?_)
  have hl_18 : ∀ (zn_18 : Nat) (i : Int) (h0 : Int → Int) (H : Heap) (locs : List Loc) (ls : Array Slot), ((N : Int) - i).toNat < zn_18 → (0 ≤ i ∧ i ≤ N) → (tdig h0 R) → (tsum h0 (R).toNat = tsum f i.toNat * tsum f2 N2) → va_P G.1 vwCl [(a, .inr (12, [.int (iz (sg)), .ref b])), (b, zaI (G.2 1) N (f)), (a2, .inr (12, [.int (iz (sg2)), .ref b2])), (b2, zaI (G.2 1) N2 (f2)), (rr, zaI (G.2 1) ((R).toNat) (h0))] H → va_D A [(a, .inr (12, [.int (iz (sg)), .ref b])), (b, zaI (G.2 1) N (f)), (a2, .inr (12, [.int (iz (sg2)), .ref b2])), (b2, zaI (G.2 1) N2 (f2)), (rr, zaI (G.2 1) ((R).toNat) (h0))] → va_S A s.heap H locs → lv_has ls 7 [(3, .int (iz (i))), (2, .ref rr), (0, .ref a), (1, .ref a2)] → W p l e rm_c_X11_times s m ([.ref a, .ref a2] : List Value).toArray below meth c H locs (0 + 1) (0 + ((R).toNat)) Q (F0 m 18 ls []) := by
    intro zn_18
    induction zn_18 with
    | zero => intro i h0 H locs ls hm; exact absurd hm (Nat.not_lt_zero _)
    | succ zn_18 ih_18 =>
      intro i h0 H locs ls hm_18 k1 k2 k3 hP hD hS hl
      refine lv_iload_n hx hb dX11_times_18 rfl (lv_at hl 0 rfl) ?_
      refine lv_aload_n hx hb dX11_times_19 rfl (lv_at hl 2 rfl) ?_
      refine va_get (D := G.1) (ci := 12) (v := .ref b) (C := RX11) (T := TX11) (N := 2) hx hb hts iwX11 hown hK hP 0 rfl rfl 1 (by decide) (hts (.fieldLink RX11 13 "AnnuityHouseModel$Whole" "limbs" "[I") (by decide +kernel)) (fun _ h9 => h9) rfl dX11_times_20 ?_
      refine zr_alenI hx hb hK hP 1 1 rfl rfl dX11_times_23 ?_
      refine zr_icmp_ge (x := i) (y := N) (tgt := 100) hx hb (⟨by omega, by omega⟩) (⟨by omega, by omega⟩) dX11_times_24 (by decide) (fun h_2 => ?_) (fun h_2 => ?_)
      ·
        have ht3 : tsum h0 (R).toNat = tsum f N * tsum f2 N2 := by rw [k3, show i.toNat = N by omega]
        refine va_new (D := G.1) (ci := 12) (fs := [.int 0, .null]) (C := RX11) (T := TX11) (N := 2) hx hb hts iwX11 tyX11 tyX11_ok hown (hts (.classLink RX11 8 RX11) (by decide +kernel)) (hts (.instantiable RX11 2) (by decide +kernel)) (hts (.initialized RX11) (by decide +kernel)) hK hP hD hS hA rfl (by decide +kernel) (by first | exact Nat.le_of_ble_eq_true rfl | (show _ ≤ (3 : Nat); omega)) (by first | exact Nat.le_of_ble_eq_true rfl | (show _ ≤ (387 : Nat); omega)) dX11_times_100 (fun ra H hP hD hS => ?_)
        have hP : va_P G.1 vwCl [(a, .inr (12, [.int (iz (sg)), .ref b])), (b, zaI (G.2 1) N (f)), (a2, .inr (12, [.int (iz (sg2)), .ref b2])), (b2, zaI (G.2 1) N2 (f2)), (rr, zaI (G.2 1) ((R).toNat) (h0)), (ra, .inr (12, [.int (iz (0)), .null]))] H := hP
        have hD : va_D A [(a, .inr (12, [.int (iz (sg)), .ref b])), (b, zaI (G.2 1) N (f)), (a2, .inr (12, [.int (iz (sg2)), .ref b2])), (b2, zaI (G.2 1) N2 (f2)), (rr, zaI (G.2 1) ((R).toNat) (h0)), (ra, .inr (12, [.int (iz (0)), .null]))] := hD
        refine lv_dup hx hb dX11_times_103 rfl ?_
        refine lv_aload_n hx hb dX11_times_104 rfl (lv_at hl 2 rfl) ?_
        refine va_get (D := G.1) (ci := 12) (v := .int (iz (sg))) (C := RX11) (T := TX11) (N := 2) hx hb hts iwX11 hown hK hP 0 rfl rfl 0 (by decide) (hts (.fieldLink RX11 7 "AnnuityHouseModel$Whole" "sign" "I") (by decide +kernel)) (fun _ h9 => h9) rfl dX11_times_105 ?_
        refine lv_aload_n hx hb dX11_times_108 rfl (lv_at hl 3 rfl) ?_
        refine va_get (D := G.1) (ci := 12) (v := .int (iz (sg2))) (C := RX11) (T := TX11) (N := 2) hx hb hts iwX11 hown hK hP 2 rfl rfl 0 (by decide) (hts (.fieldLink RX11 7 "AnnuityHouseModel$Whole" "sign" "I") (by decide +kernel)) (fun _ h9 => h9) rfl dX11_times_109 ?_
        refine zr_imul hx hb dX11_times_112 ?_
        refine lv_aload_n hx hb dX11_times_113 rfl (lv_at hl 1 rfl) ?_
        refine zc_v (wr := [(a, .inr (12, [.int (iz (sg)), .ref b])), (b, zaI (G.2 1) N (f)), (a2, .inr (12, [.int (iz (sg2)), .ref b2])), (b2, zaI (G.2 1) N2 (f2))]) (va_runI (As := [.int (iz (sg * sg2)), .ref rr]) (rest := [.ref ra]) ⟨hx, hb, hml, hown, hts⟩ (c_X11_init l G ra rr h0 ((R).toNat) (sg * sg2) (by rw [Int.toNat_of_nonneg (by omega)]; exact k2) (tsg_mul h1.sg h2.sg) (by omega) (by rw [ht3]; exact ttimes_lt h1 h2 h3) (fun q => by rw [ht3]; exact ttimes_nul h1 h2 q) H.size) (cwI 2 hts gX11_times_X11_init rfl rfl rfl (hts (.initialized RX11) (by decide +kernel)) (hts (.methodLink RX11 25 yX11_init) (by decide +kernel)) (hts (.instanceMethod yX11_init) (by decide +kernel)) rfl (by decide +kernel) ⟨Nat.le_of_ble_eq_true rfl, Nat.le_of_ble_eq_true rfl⟩) (zpS hKX hP hD [5, 4] rfl rfl) rfl rfl hl.1 rfl (lv_room (Nat.le_of_ble_eq_true rfl)) dX11_times_114 ⟨(by first | exact Nat.le_of_ble_eq_true rfl | (show _ ≤ (3 : Nat); omega)), (by first | exact Nat.le_of_ble_eq_true rfl | (show _ ≤ (387 : Nat); omega))⟩) hP hD hS hA [5, 4] [0, 1, 2, 3] rfl rfl rfl (by decide) (fun u_3 H locs hq hP hD hS => ?_)
        obtain ⟨b1, f1, N1, s1⟩ := u_3
        have hP : va_P G.1 vwCl [(a, .inr (12, [.int (iz (sg)), .ref b])), (b, zaI (G.2 1) N (f)), (a2, .inr (12, [.int (iz (sg2)), .ref b2])), (b2, zaI (G.2 1) N2 (f2)), (ra, .inr (12, [.int (iz (s1)), .ref b1])), (b1, zaI (G.2 1) N1 (f1)), (rr, zaI (G.2 1) (((R).toNat)) (h0))] H := hP
        have hD : va_D A [(a, .inr (12, [.int (iz (sg)), .ref b])), (b, zaI (G.2 1) N (f)), (a2, .inr (12, [.int (iz (sg2)), .ref b2])), (b2, zaI (G.2 1) N2 (f2)), (ra, .inr (12, [.int (iz (s1)), .ref b1])), (b1, zaI (G.2 1) N1 (f1)), (rr, zaI (G.2 1) (((R).toNat)) (h0))] := hD
        have hq : tmw f1 N1 s1 ((sg * sg2) * tsum h0 ((R).toNat)) := hq
        rw [hQ]
        exact zr_aret (ra := ra) (Or.inl ⟨_, rfl⟩) (u := (b1, f1, N1, s1)) hx hb hr hlocks (hP.sub [0, 1, 2, 3, 4, 5] rfl) (hD.sub [0, 1, 2, 3, 4, 5] (by decide) rfl) hS (by first | exact Nat.le_of_ble_eq_true rfl | omega) (by first | exact Nat.le_of_ble_eq_true rfl | omega) dX11_times_117 (show tmw f1 N1 s1 (v * v2) from tpost hq (by rw [ht3, h1.val, h2.val]; ac_rfl))
      ·
        refine lv_iconst (v := iz (0)) hx hb dX11_times_27 rfl ?_
        refine lv_istore (lv' := [(4, .int (iz (0))), (3, .int (iz (i))), (2, .ref rr), (0, .ref a), (1, .ref a2)]) hx hb dX11_times_28 hl (by decide) rfl (fun ls hl => ?_)
        refine lv_iconst (v := iz (0)) hx hb dX11_times_30 rfl ?_
        refine lv_istore (lv' := [(5, .int (iz (0))), (4, .int (iz (0))), (3, .int (iz (i))), (2, .ref rr), (0, .ref a), (1, .ref a2)]) hx hb dX11_times_31 hl (by decide) rfl (fun ls hl => ?_)
        have hl_33 : ∀ (zn_33 : Nat) (j : Int) (q : Int) (h : Int → Int) (H : Heap) (locs : List Loc) (ls : Array Slot), ((N2 : Int) + 1 - j).toNat < zn_33 → (0 ≤ j ∧ j ≤ (N2 : Int) + 1) → (tdig h R) → (tsum h (R).toNat + q * 10000 ^ (i + j).toNat = tsum h0 (R).toNat + f i * 10000 ^ i.toNat * tsum (tx f2 N2) j.toNat) → (0 ≤ q ∧ q ≤ 9999) → va_P G.1 vwCl [(a, .inr (12, [.int (iz (sg)), .ref b])), (b, zaI (G.2 1) N (f)), (a2, .inr (12, [.int (iz (sg2)), .ref b2])), (b2, zaI (G.2 1) N2 (f2)), (rr, zaI (G.2 1) ((R).toNat) (h))] H → va_D A [(a, .inr (12, [.int (iz (sg)), .ref b])), (b, zaI (G.2 1) N (f)), (a2, .inr (12, [.int (iz (sg2)), .ref b2])), (b2, zaI (G.2 1) N2 (f2)), (rr, zaI (G.2 1) ((R).toNat) (h))] → va_S A s.heap H locs → lv_has ls 7 [(5, .int (iz (j))), (4, .int (iz (q))), (3, .int (iz (i))), (2, .ref rr), (0, .ref a), (1, .ref a2)] → W p l e rm_c_X11_times s m ([.ref a, .ref a2] : List Value).toArray below meth c H locs (0 + 1) (0 + ((R).toNat)) Q (F0 m 33 ls []) := by
          intro zn_33
          induction zn_33 with
          | zero => intro j q h H locs ls hm; exact absurd hm (Nat.not_lt_zero _)
          | succ zn_33 ih_33 =>
            intro j q h H locs ls hm_33 m1 m2 m3 m4 hP hD hS hl
            refine lv_iload hx hb dX11_times_33 (lv_at hl 0 rfl) ?_
            refine lv_aload_n hx hb dX11_times_35 rfl (lv_at hl 5 rfl) ?_
            refine va_get (D := G.1) (ci := 12) (v := .ref b2) (C := RX11) (T := TX11) (N := 2) hx hb hts iwX11 hown hK hP 2 rfl rfl 1 (by decide) (hts (.fieldLink RX11 13 "AnnuityHouseModel$Whole" "limbs" "[I") (by decide +kernel)) (fun _ h9 => h9) rfl dX11_times_36 ?_
            refine zr_alenI hx hb hK hP 3 1 rfl rfl dX11_times_39 ?_
            refine zr_icmp_gt (x := j) (y := N2) (tgt := 94) hx hb (⟨by omega, by omega⟩) (⟨by omega, by omega⟩) dX11_times_40 (by decide) (fun h_6 => ?_) (fun h_6 => ?_)
            ·
              refine lv_iinc (v := iz (i + 1)) (lv' := [(3, .int (iz (i + 1))), (5, .int (iz (j))), (4, .int (iz (q))), (2, .ref rr), (0, .ref a), (1, .ref a2)]) hx hb dX11_times_94 hl (k := 2) rfl (by rw [show Int32.ofInt (1) = iz (1) from rfl, iz_add]) (by decide) rfl (fun ls hl => ?_)
              refine lv_goto (tgt := 18) hx hb dX11_times_97 (by decide) ?_
              exact ih_18 (i + 1) h _ _ _ (by omega) (by omega) (m2) (ttimes_row h1 h2 (by omega) (by omega) k1.1 (by omega) k3 m2 m4 (by omega) m3) (hP) (hD) hS (lv_sub hl [0, 3, 4, 5] rfl)
            ·
              refine lv_aload_n hx hb dX11_times_43 rfl (lv_at hl 3 rfl) ?_
              refine lv_iload_n hx hb dX11_times_44 rfl (lv_at hl 2 rfl) ?_
              refine lv_iload hx hb dX11_times_45 (lv_at hl 0 rfl) ?_
              refine zr_iadd hx hb dX11_times_47 ?_
              refine zr_iald hx hb hK hP 4 1 rfl rfl (i := i + j) (⟨by omega, by omega, by omega⟩) dX11_times_48 ?_
              refine lv_aload_n hx hb dX11_times_49 rfl (lv_at hl 4 rfl) ?_
              refine va_get (D := G.1) (ci := 12) (v := .ref b) (C := RX11) (T := TX11) (N := 2) hx hb hts iwX11 hown hK hP 0 rfl rfl 1 (by decide) (hts (.fieldLink RX11 13 "AnnuityHouseModel$Whole" "limbs" "[I") (by decide +kernel)) (fun _ h9 => h9) rfl dX11_times_50 ?_
              refine lv_iload_n hx hb dX11_times_53 rfl (lv_at hl 2 rfl) ?_
              refine zr_iald hx hb hK hP 1 1 rfl rfl (i := i) (⟨by omega, by omega, by omega⟩) dX11_times_54 ?_
              refine lv_aload_n hx hb dX11_times_55 rfl (lv_at hl 5 rfl) ?_
              refine lv_iload hx hb dX11_times_56 (lv_at hl 0 rfl) ?_
              refine zc_i (wr := [(a, .inr (12, [.int (iz (sg)), .ref b])), (b, zaI (G.2 1) N (f)), (rr, zaI (G.2 1) ((R).toNat) (h))]) (va_runV (As := [.int (iz (j))]) (rest := [.int (iz (f i)), .int (iz (h (i + j)))]) ⟨hx, hb, hml, hown, hts⟩ (c_X11_limb l G a2 b2 f2 N2 sg2 v2 j (h2) (by omega) H.size) (cwV 1 hts gX11_times_X11_limb rfl rfl rfl (by decide +kernel) ⟨Nat.le_of_ble_eq_true rfl, Nat.le_of_ble_eq_true rfl⟩) (zpV hKX hP hD [2, 3] rfl rfl 2 12 rfl rfl) rfl rfl hl.1 rfl (lv_room (Nat.le_of_ble_eq_true rfl)) dX11_times_58 ⟨(by first | exact Nat.le_of_ble_eq_true rfl | (show _ ≤ (3 : Nat); omega)), (by first | exact Nat.le_of_ble_eq_true rfl | (show _ ≤ (387 : Nat); omega))⟩) hP hD hS hA [2, 3] [0, 1, 4] rfl rfl rfl (by decide) (fun y1 u_7 H locs hy1 hP hD hS => ?_)
              have hP : va_P G.1 vwCl [(a, .inr (12, [.int (iz (sg)), .ref b])), (b, zaI (G.2 1) N (f)), (rr, zaI (G.2 1) ((R).toNat) (h)), (a2, .inr (12, [.int (iz (sg2)), .ref b2])), (b2, zaI (G.2 1) N2 (f2))] H := hP
              have hD : va_D A [(a, .inr (12, [.int (iz (sg)), .ref b])), (b, zaI (G.2 1) N (f)), (rr, zaI (G.2 1) ((R).toNat) (h)), (a2, .inr (12, [.int (iz (sg2)), .ref b2])), (b2, zaI (G.2 1) N2 (f2))] := hD
              have hy1 : y1 = tx f2 N2 j := hy1
              have d2 := tx_dig h2.dig j (by omega)
              have d1 := h1.dig i (by omega) (by omega)
              have dh := m2 (i + j) (by omega) (by omega)
              rw [← hy1] at d2
              refine zr_imul hx hb dX11_times_61 ?_
              refine zr_namei (fun p ep => ?_)
              have hp := tmul_rng d1 d2
              rw [← ep] at hp
              refine zr_iadd hx hb dX11_times_62 ?_
              refine lv_iload hx hb dX11_times_63 (lv_at hl 1 rfl) ?_
              refine zr_iadd hx hb dX11_times_65 ?_
              refine zr_namei (fun w ew => ?_)
              refine lv_istore (lv' := [(6, .int (iz (w))), (5, .int (iz (j))), (4, .int (iz (q))), (3, .int (iz (i))), (2, .ref rr), (0, .ref a), (1, .ref a2)]) hx hb dX11_times_66 hl (by decide) rfl (fun ls hl => ?_)
              refine lv_aload_n hx hb dX11_times_68 rfl (lv_at hl 4 rfl) ?_
              refine lv_iload_n hx hb dX11_times_69 rfl (lv_at hl 3 rfl) ?_
              refine lv_iload hx hb dX11_times_70 (lv_at hl 1 rfl) ?_
              refine zr_iadd hx hb dX11_times_72 ?_
              refine lv_iload hx hb dX11_times_73 (lv_at hl 0 rfl) ?_
              refine lv_sipush (v := iz (10000)) hx hb dX11_times_75 rfl ?_
              refine zr_irem hx hb (x := w) (y := 10000) ⟨by omega, by omega⟩ ⟨by omega, by omega⟩ (by omega) (by omega) dX11_times_78 ?_
              refine zr_iast hx hb hK hP hD hS 2 1 rfl rfl (i := i + j) (x := w % 10000) (⟨by omega, by omega, by omega⟩) dX11_times_79 (fun H locs hP hD hS => ?_)
              have hP : va_P G.1 vwCl [(a, .inr (12, [.int (iz (sg)), .ref b])), (b, zaI (G.2 1) N (f)), (rr, zaI (G.2 1) ((R).toNat) (zup h (i + j) (w % 10000))), (a2, .inr (12, [.int (iz (sg2)), .ref b2])), (b2, zaI (G.2 1) N2 (f2))] H := hP
              have hD : va_D A [(a, .inr (12, [.int (iz (sg)), .ref b])), (b, zaI (G.2 1) N (f)), (rr, zaI (G.2 1) ((R).toNat) (zup h (i + j) (w % 10000))), (a2, .inr (12, [.int (iz (sg2)), .ref b2])), (b2, zaI (G.2 1) N2 (f2))] := hD
              refine lv_iload hx hb dX11_times_80 (lv_at hl 0 rfl) ?_
              refine lv_sipush (v := iz (10000)) hx hb dX11_times_82 rfl ?_
              refine zr_idiv hx hb (x := w) (y := 10000) ⟨by omega, by omega⟩ ⟨by omega, by omega⟩ (by omega) (by omega) dX11_times_85 ?_
              refine lv_istore (lv' := [(4, .int (iz (w / 10000))), (6, .int (iz (w))), (5, .int (iz (j))), (3, .int (iz (i))), (2, .ref rr), (0, .ref a), (1, .ref a2)]) hx hb dX11_times_86 hl (by decide) rfl (fun ls hl => ?_)
              refine lv_iinc (v := iz (j + 1)) (lv' := [(5, .int (iz (j + 1))), (4, .int (iz (w / 10000))), (6, .int (iz (w))), (3, .int (iz (i))), (2, .ref rr), (0, .ref a), (1, .ref a2)]) hx hb dX11_times_88 hl (k := 2) rfl (by rw [show Int32.ofInt (1) = iz (1) from rfl, iz_add]) (by decide) rfl (fun ls hl => ?_)
              refine lv_goto (tgt := 33) hx hb dX11_times_91 (by decide) ?_
              refine W.widen (k := 0 + 1) (n := 0 + ((R).toNat)) (by omega) (by omega) ?_
              exact ih_33 (j + 1) (w / 10000) (zup h (i + j) (w % 10000)) _ _ _ (by omega) (by omega) (ttimes_dig m2 (by omega)) (ttimes_step (by omega) (by omega) (by omega) m3 (by rw [ew, ep, hy1])) (by omega) (hP.sub [0, 1, 3, 4, 2] rfl) (hD.sub [0, 1, 3, 4, 2] (by decide) rfl) hS (lv_sub hl [0, 1, 3, 4, 5, 6] rfl)
        exact hl_33 (((N2 : Int) + 1 - 0 : Int).toNat + 1) 0 0 h0 _ _ _ (Nat.lt_succ_self _) (by omega) (k2) (by simp [tsum]) (by omega) (hP) (hD) hS (hl)
  exact hl_18 (((N : Int) - 0 : Int).toNat + 1) 0 (fun _ => 0) _ _ _ (Nat.lt_succ_self _) (by omega) (fun k a b => ⟨Int.le_refl 0, by show (0 : Int) < 10000; decide⟩) (by rw [tsum_zeros (fun _ _ _ => rfl)]; simp [tsum]) (hP) (hD) hS (hl)

def rm_c_X11_rest : Room := { frames := 0, cells := 0, slots := 0, locals := 0 }
theorem iw_X11_rest_X11 : ∀ w ∈ wsX110, w ∈ wsX11_rest := by decide +kernel
set_option maxHeartbeats 1000000 in
set_option maxRecDepth 100000 in
theorem c_X11_rest (l : Launch) (G : zG) (a : Nat) (b : Nat) (f : Int → Int) (N : Nat) (sg : Int) (v : Int) (x : Int) (h1 : tmw f N sg v) (h2 : 1 ≤ x ∧ x ≤ 100000000) : zM l G yX11_rest wsX11_rest rm_c_X11_rest [.ref a, .long (lz (x))] [(a, .inr (12, [.int (iz (sg)), .ref b])), (b, zaI (G.2 1) N (f))] (fun A => zQl G (fun (z : Int) (_ : Unit) => z = (v.natAbs : Int) % x) (fun (_ : Unit) => [(a, .inr (12, [.int (iz (sg)), .ref b])), (b, zaI (G.2 1) N (f))]) A) 0 0 := by
  refine zM_of (cc := cX11_rest) (maxL := 6) (ret := (some .long)) (by decide) rfl (Nat.le_of_ble_eq_true rfl) ?_
  intro p e s m below meth c ls A Q hQ hx hb hr hts hown hlocks hml hnm hKX hP hD hA hS hl
  have hK := hKX.1
  have iwX11 := iw_X11_rest_X11
  obtain ⟨H, hH⟩ : ∃ h, h = s.heap := ⟨_, rfl⟩
  obtain ⟨locs, hlo⟩ : ∃ h : List Loc, h = [] := ⟨_, rfl⟩
  have hS : va_S A s.heap H locs := by rw [hH, hlo]; exact hS
  have hP : va_P G.1 vwCl [(a, .inr (12, [.int (iz (sg)), .ref b])), (b, zaI (G.2 1) N (f))] H := by rw [hH]; exact hP
  have hD : va_D A [(a, .inr (12, [.int (iz (sg)), .ref b])), (b, zaI (G.2 1) N (f))] := hD
  have hl : lv_has ls 6 [(0, .ref a), (1, .long (lz (x)))] := hl
  rw [← hH, ← hlo]
  have n1 := h1.n
  refine lv_lconst (v := lz (0)) hx hb dX11_rest_0 rfl ?_
  refine lv_lstore_n (lv' := [(3, .long (lz (0))), (0, .ref a), (1, .long (lz (x)))]) hx hb dX11_rest_1 rfl hl (by decide) rfl (fun ls hl => ?_)
  refine lv_aload_n hx hb dX11_rest_2 rfl (lv_at hl 1 rfl) ?_
  refine va_get (D := G.1) (ci := 12) (v := .ref b) (C := RX11) (T := TX11) (N := 2) hx hb hts iwX11 hown hK hP 0 rfl rfl 1 (by decide) (hts (.fieldLink RX11 13 "AnnuityHouseModel$Whole" "limbs" "[I") (by decide +kernel)) (fun _ h9 => h9) rfl dX11_rest_3 ?_
  refine zr_alenI hx hb hK hP 1 1 rfl rfl dX11_rest_6 ?_
  refine lv_iconst (v := iz (1)) hx hb dX11_rest_7 rfl ?_
  refine zr_isub hx hb dX11_rest_8 ?_
  refine lv_istore (lv' := [(5, .int (iz (N - 1))), (3, .long (lz (0))), (0, .ref a), (1, .long (lz (x)))]) hx hb dX11_rest_9 hl (by decide) rfl (fun ls hl => ?_)
  have hl_11 : ∀ (zn_11 : Nat) (k : Int) (q : Int) (H : Heap) (locs : List Loc) (ls : Array Slot), (k + 1).toNat < zn_11 → (-1 ≤ k ∧ k < N) → (q = tsum f N / 10000 ^ (k + 1).toNat % x) → (0 ≤ q ∧ q < x) → va_P G.1 vwCl [(a, .inr (12, [.int (iz (sg)), .ref b])), (b, zaI (G.2 1) N (f))] H → va_D A [(a, .inr (12, [.int (iz (sg)), .ref b])), (b, zaI (G.2 1) N (f))] → va_S A s.heap H locs → lv_has ls 6 [(5, .int (iz (k))), (3, .long (lz (q))), (0, .ref a), (1, .long (lz (x)))] → W p l e rm_c_X11_rest s m ([.ref a, .long (lz (x))] : List Value).toArray below meth c H locs 0 0 Q (F0 m 11 ls []) := by
    intro zn_11
    induction zn_11 with
    | zero => intro k q H locs ls hm; exact absurd hm (Nat.not_lt_zero _)
    | succ zn_11 ih_11 =>
      intro k q H locs ls hm_11 k1 k2 k3 hP hD hS hl
      refine lv_iload hx hb dX11_rest_11 (lv_at hl 0 rfl) ?_
      refine zr_if_lt (x := k) (tgt := 39) hx hb (⟨by omega, by omega⟩) dX11_rest_13 (by decide) (fun h_1 => ?_) (fun h_1 => ?_)
      ·
        refine lv_lload_n hx hb dX11_rest_39 rfl (lv_at hl 1 rfl) ?_
        rw [hQ]
        exact zr_lret (z := q) (u := ()) hx hb hr hlocks hP hD hS (by first | exact Nat.le_of_ble_eq_true rfl | omega) (by first | exact Nat.le_of_ble_eq_true rfl | omega) dX11_rest_40 (show q = (v.natAbs : Int) % x from by rw [k2, show (k + 1).toNat = 0 by omega, ← h1.abs]; simp)
      ·
        have d1 := h1.dig k (by omega) (by omega)
        refine lv_lload_n hx hb dX11_rest_16 rfl (lv_at hl 1 rfl) ?_
        refine zr_ldc2 (z := 10000) hx hb hown (hts (.constantLong RX11 17 (10000)) (by decide +kernel)) rfl dX11_rest_17 ?_
        refine zr_lmul hx hb dX11_rest_20 ?_
        refine lv_aload_n hx hb dX11_rest_21 rfl (lv_at hl 2 rfl) ?_
        refine va_get (D := G.1) (ci := 12) (v := .ref b) (C := RX11) (T := TX11) (N := 2) hx hb hts iwX11 hown hK hP 0 rfl rfl 1 (by decide) (hts (.fieldLink RX11 13 "AnnuityHouseModel$Whole" "limbs" "[I") (by decide +kernel)) (fun _ h9 => h9) rfl dX11_rest_22 ?_
        refine lv_iload hx hb dX11_rest_25 (lv_at hl 0 rfl) ?_
        refine zr_iald hx hb hK hP 1 1 rfl rfl (i := k) (⟨by omega, by omega, by omega⟩) dX11_rest_27 ?_
        refine zr_i2l hx hb (x := f k) (⟨by omega, by omega⟩) dX11_rest_28 ?_
        refine zr_ladd hx hb dX11_rest_29 ?_
        refine zr_namel (fun w ew => ?_)
        refine lv_lload_n hx hb dX11_rest_30 rfl (lv_at hl 3 rfl) ?_
        refine zr_lrem hx hb (x := w) (y := x) ⟨by omega, by omega⟩ ⟨by omega, by omega⟩ (by omega) (by omega) dX11_rest_31 ?_
        refine lv_lstore_n (lv' := [(3, .long (lz (w % x))), (5, .int (iz (k))), (0, .ref a), (1, .long (lz (x)))]) hx hb dX11_rest_32 rfl hl (by decide) rfl (fun ls hl => ?_)
        refine lv_iinc (v := iz (k - 1)) (lv' := [(5, .int (iz (k - 1))), (3, .long (lz (w % x))), (0, .ref a), (1, .long (lz (x)))]) hx hb dX11_rest_33 hl (k := 1) rfl (by rw [show Int32.ofInt (-1) = iz (-1) from rfl, iz_add]; exact congrArg iz (by omega)) (by decide) rfl (fun ls hl => ?_)
        refine lv_goto (tgt := 11) hx hb dX11_rest_36 (by decide) ?_
        exact ih_11 (k - 1) (w % x) _ _ _ (by omega) (by omega) (trest_step h1 (by omega) (by omega) h2.1 k2 ew) (⟨Int.emod_nonneg _ (by omega), Int.emod_lt_of_pos _ (by omega)⟩) (hP) (hD) hS (hl)
  exact hl_11 (((N - 1) + 1 : Int).toNat + 1) (N - 1) 0 _ _ _ (Nat.lt_succ_self _) (by omega) (by rw [show ((N : Int) - 1 + 1).toNat = N by omega, Int.ediv_eq_zero_of_lt h1.s0 (tsum_rng h1.dig).2]; simp) (by omega) (hP) (hD) hS (hl)

def rm_c_X11_bySmall : Room := { frames := 2, cells := 3, slots := 258, locals := 36 }
theorem iw_X11_bySmall_X11 : ∀ w ∈ wsX110, w ∈ wsX11_bySmall := by decide +kernel
set_option maxHeartbeats 1000000 in
set_option maxRecDepth 100000 in
theorem c_X11_bySmall (l : Launch) (G : zG) (a : Nat) (b : Nat) (f : Int → Int) (N : Nat) (sg : Int) (v : Int) (x : Int) (h1 : tmw f N sg v) (h2 : 1 ≤ x ∧ x ≤ 10000) : zM l G yX11_bySmall wsX11_bySmall rm_c_X11_bySmall [.ref a, .int (iz (x))] [(a, .inr (12, [.int (iz (sg)), .ref b])), (b, zaI (G.2 1) N (f))] (fun A => zQr G (fun (u : (Nat × (Int → Int) × Nat × Int)) (ra : Nat) => tmw u.2.1 u.2.2.1 u.2.2.2 ((v.natAbs : Int) / x)) (fun (u : (Nat × (Int → Int) × Nat × Int)) (ra : Nat) => [(a, .inr (12, [.int (iz (sg)), .ref b])), (b, zaI (G.2 1) N (f)), (ra, .inr (12, [.int (iz (u.2.2.2)), .ref u.1])), (u.1, zaI (G.2 1) u.2.2.1 (u.2.1))]) A) 3 258 := by
  refine zM_of (cc := cX11_bySmall) (maxL := 6) (ret := (some (.object "AnnuityHouseModel$Whole"))) (by decide) rfl (Nat.le_of_ble_eq_true rfl) ?_
  intro p e s m below meth c ls A Q hQ hx hb hr hts hown hlocks hml hnm hKX hP hD hA hS hl
  have hK := hKX.1
  have iwX11 := iw_X11_bySmall_X11
  obtain ⟨H, hH⟩ : ∃ h, h = s.heap := ⟨_, rfl⟩
  obtain ⟨locs, hlo⟩ : ∃ h : List Loc, h = [] := ⟨_, rfl⟩
  have hS : va_S A s.heap H locs := by rw [hH, hlo]; exact hS
  have hP : va_P G.1 vwCl [(a, .inr (12, [.int (iz (sg)), .ref b])), (b, zaI (G.2 1) N (f))] H := by rw [hH]; exact hP
  have hD : va_D A [(a, .inr (12, [.int (iz (sg)), .ref b])), (b, zaI (G.2 1) N (f))] := hD
  have hl : lv_has ls 6 [(0, .ref a), (1, .int (iz (x)))] := hl
  rw [← hH, ← hlo]
  have n1 := h1.n
  refine lv_aload_n hx hb dX11_bySmall_0 rfl (lv_at hl 0 rfl) ?_
  refine va_get (D := G.1) (ci := 12) (v := .ref b) (C := RX11) (T := TX11) (N := 2) hx hb hts iwX11 hown hK hP 0 rfl rfl 1 (by decide) (hts (.fieldLink RX11 13 "AnnuityHouseModel$Whole" "limbs" "[I") (by decide +kernel)) (fun _ h9 => h9) rfl dX11_bySmall_1 ?_
  refine zr_alenI hx hb hK hP 1 1 rfl rfl dX11_bySmall_4 ?_
  refine zr_newaI (G := G) (n := N) (N := N) hx hb (hts (.arrayClass .int) (by decide +kernel)) hK hP hD hS hA (by omega) (by omega) (by omega) (by first | exact Nat.le_of_ble_eq_true rfl | (show _ ≤ (3 : Nat); omega)) (by first | exact Nat.le_of_ble_eq_true rfl | (show _ ≤ (258 : Nat); omega)) dX11_bySmall_5 (fun rr H hP hD hS => ?_)
  have hP : va_P G.1 vwCl [(a, .inr (12, [.int (iz (sg)), .ref b])), (b, zaI (G.2 1) N (f)), (rr, zaI (G.2 1) N (fun _ => 0))] H := hP
  have hD : va_D A [(a, .inr (12, [.int (iz (sg)), .ref b])), (b, zaI (G.2 1) N (f)), (rr, zaI (G.2 1) N (fun _ => 0))] := hD
  refine lv_astore_n (lv' := [(2, .ref rr), (0, .ref a), (1, .int (iz (x)))]) hx hb dX11_bySmall_7 rfl hl (by decide) rfl (fun ls hl => ?_)
  refine lv_iconst (v := iz (0)) hx hb dX11_bySmall_8 rfl ?_
  refine lv_istore_n (lv' := [(3, .int (iz (0))), (2, .ref rr), (0, .ref a), (1, .int (iz (x)))]) hx hb dX11_bySmall_9 rfl hl (by decide) rfl (fun ls hl => ?_)
  refine lv_aload_n hx hb dX11_bySmall_10 rfl (lv_at hl 2 rfl) ?_
  refine va_get (D := G.1) (ci := 12) (v := .ref b) (C := RX11) (T := TX11) (N := 2) hx hb hts iwX11 hown hK hP 0 rfl rfl 1 (by decide) (hts (.fieldLink RX11 13 "AnnuityHouseModel$Whole" "limbs" "[I") (by decide +kernel)) (fun _ h9 => h9) rfl dX11_bySmall_11 ?_
  refine zr_alenI hx hb hK hP 1 1 rfl rfl dX11_bySmall_14 ?_
  refine lv_iconst (v := iz (1)) hx hb dX11_bySmall_15 rfl ?_
  refine zr_isub hx hb dX11_bySmall_16 ?_
  refine lv_istore (lv' := [(4, .int (iz (N - 1))), (3, .int (iz (0))), (2, .ref rr), (0, .ref a), (1, .int (iz (x)))]) hx hb dX11_bySmall_17 hl (by decide) rfl (fun ls hl => ?_)
  have hl_19 : ∀ (zn_19 : Nat) (k : Int) (q : Int) (h : Int → Int) (H : Heap) (locs : List Loc) (ls : Array Slot), (k + 1).toNat < zn_19 → (-1 ≤ k ∧ k < N) → (tdig h N) → (∀ j : Int, j ≤ k → h j = 0) → (tsum f N = tsum f (k + 1).toNat + x * tsum h N + q * 10000 ^ (k + 1).toNat) → (0 ≤ q ∧ q < x) → va_P G.1 vwCl [(a, .inr (12, [.int (iz (sg)), .ref b])), (b, zaI (G.2 1) N (f)), (rr, zaI (G.2 1) N (h))] H → va_D A [(a, .inr (12, [.int (iz (sg)), .ref b])), (b, zaI (G.2 1) N (f)), (rr, zaI (G.2 1) N (h))] → va_S A s.heap H locs → lv_has ls 6 [(4, .int (iz (k))), (3, .int (iz (q))), (2, .ref rr), (0, .ref a), (1, .int (iz (x)))] → W p l e rm_c_X11_bySmall s m ([.ref a, .int (iz (x))] : List Value).toArray below meth c H locs (0 + 1) (0 + N) Q (F0 m 19 ls []) := by
    intro zn_19
    induction zn_19 with
    | zero => intro k q h H locs ls hm; exact absurd hm (Nat.not_lt_zero _)
    | succ zn_19 ih_19 =>
      intro k q h H locs ls hm_19 k1 k2 k3 k4 k5 hP hD hS hl
      refine lv_iload hx hb dX11_bySmall_19 (lv_at hl 0 rfl) ?_
      refine zr_if_lt (x := k) (tgt := 58) hx hb (⟨by omega, by omega⟩) dX11_bySmall_21 (by decide) (fun h_2 => ?_) (fun h_2 => ?_)
      ·
        have hv : tsum h N = tsum f N / x := tby_end (by omega) k4 k5 h2.1
        refine va_new (D := G.1) (ci := 12) (fs := [.int 0, .null]) (C := RX11) (T := TX11) (N := 2) hx hb hts iwX11 tyX11 tyX11_ok hown (hts (.classLink RX11 8 RX11) (by decide +kernel)) (hts (.instantiable RX11 2) (by decide +kernel)) (hts (.initialized RX11) (by decide +kernel)) hK hP hD hS hA rfl (by decide +kernel) (by first | exact Nat.le_of_ble_eq_true rfl | (show _ ≤ (3 : Nat); omega)) (by first | exact Nat.le_of_ble_eq_true rfl | (show _ ≤ (258 : Nat); omega)) dX11_bySmall_58 (fun ra H hP hD hS => ?_)
        have hP : va_P G.1 vwCl [(a, .inr (12, [.int (iz (sg)), .ref b])), (b, zaI (G.2 1) N (f)), (rr, zaI (G.2 1) N (h)), (ra, .inr (12, [.int (iz (0)), .null]))] H := hP
        have hD : va_D A [(a, .inr (12, [.int (iz (sg)), .ref b])), (b, zaI (G.2 1) N (f)), (rr, zaI (G.2 1) N (h)), (ra, .inr (12, [.int (iz (0)), .null]))] := hD
        refine lv_dup hx hb dX11_bySmall_61 rfl ?_
        refine lv_iconst (v := iz (1)) hx hb dX11_bySmall_62 rfl ?_
        refine lv_aload_n hx hb dX11_bySmall_63 rfl (lv_at hl 2 rfl) ?_
        refine zc_v (wr := [(a, .inr (12, [.int (iz (sg)), .ref b])), (b, zaI (G.2 1) N (f))]) (va_runI (As := [.int (iz (1)), .ref rr]) (rest := [.ref ra]) ⟨hx, hb, hml, hown, hts⟩ (c_X11_init l G ra rr h N 1 (k2) (by omega) (by omega) (by rw [hv]; exact Int.lt_of_le_of_lt (Int.ediv_le_self _ h1.s0) h1.lt) (fun q => absurd q (by omega)) H.size) (cwI 2 hts gX11_bySmall_X11_init rfl rfl rfl (hts (.initialized RX11) (by decide +kernel)) (hts (.methodLink RX11 25 yX11_init) (by decide +kernel)) (hts (.instanceMethod yX11_init) (by decide +kernel)) rfl (by decide +kernel) ⟨Nat.le_of_ble_eq_true rfl, Nat.le_of_ble_eq_true rfl⟩) (zpS hKX hP hD [3, 2] rfl rfl) rfl rfl hl.1 rfl (lv_room (Nat.le_of_ble_eq_true rfl)) dX11_bySmall_64 ⟨(by first | exact Nat.le_of_ble_eq_true rfl | (show _ ≤ (3 : Nat); omega)), (by first | exact Nat.le_of_ble_eq_true rfl | (show _ ≤ (258 : Nat); omega))⟩) hP hD hS hA [3, 2] [0, 1] rfl rfl rfl (by decide) (fun u_3 H locs hq hP hD hS => ?_)
        obtain ⟨b1, f1, N1, s1⟩ := u_3
        have hP : va_P G.1 vwCl [(a, .inr (12, [.int (iz (sg)), .ref b])), (b, zaI (G.2 1) N (f)), (ra, .inr (12, [.int (iz (s1)), .ref b1])), (b1, zaI (G.2 1) N1 (f1)), (rr, zaI (G.2 1) N (h))] H := hP
        have hD : va_D A [(a, .inr (12, [.int (iz (sg)), .ref b])), (b, zaI (G.2 1) N (f)), (ra, .inr (12, [.int (iz (s1)), .ref b1])), (b1, zaI (G.2 1) N1 (f1)), (rr, zaI (G.2 1) N (h))] := hD
        have hq : tmw f1 N1 s1 ((1 : Int) * tsum h N) := hq
        rw [hQ]
        exact zr_aret (ra := ra) (Or.inl ⟨_, rfl⟩) (u := (b1, f1, N1, s1)) hx hb hr hlocks (hP.sub [0, 1, 2, 3] rfl) (hD.sub [0, 1, 2, 3] (by decide) rfl) hS (by first | exact Nat.le_of_ble_eq_true rfl | omega) (by first | exact Nat.le_of_ble_eq_true rfl | omega) dX11_bySmall_67 (show tmw f1 N1 s1 ((v.natAbs : Int) / x) from tpost hq (by rw [hv, h1.abs]; omega))
      ·
        have d1 := h1.dig k (by omega) (by omega)
        refine lv_iload_n hx hb dX11_bySmall_24 rfl (lv_at hl 1 rfl) ?_
        refine lv_sipush (v := iz (10000)) hx hb dX11_bySmall_25 rfl ?_
        refine zr_imul hx hb dX11_bySmall_28 ?_
        refine lv_aload_n hx hb dX11_bySmall_29 rfl (lv_at hl 3 rfl) ?_
        refine va_get (D := G.1) (ci := 12) (v := .ref b) (C := RX11) (T := TX11) (N := 2) hx hb hts iwX11 hown hK hP 0 rfl rfl 1 (by decide) (hts (.fieldLink RX11 13 "AnnuityHouseModel$Whole" "limbs" "[I") (by decide +kernel)) (fun _ h9 => h9) rfl dX11_bySmall_30 ?_
        refine lv_iload hx hb dX11_bySmall_33 (lv_at hl 0 rfl) ?_
        refine zr_iald hx hb hK hP 1 1 rfl rfl (i := k) (⟨by omega, by omega, by omega⟩) dX11_bySmall_35 ?_
        refine zr_iadd hx hb dX11_bySmall_36 ?_
        refine zr_namei (fun w ew => ?_)
        refine lv_istore (lv' := [(5, .int (iz (w))), (4, .int (iz (k))), (3, .int (iz (q))), (2, .ref rr), (0, .ref a), (1, .int (iz (x)))]) hx hb dX11_bySmall_37 hl (by decide) rfl (fun ls hl => ?_)
        refine lv_aload_n hx hb dX11_bySmall_39 rfl (lv_at hl 3 rfl) ?_
        refine lv_iload hx hb dX11_bySmall_40 (lv_at hl 1 rfl) ?_
        refine lv_iload hx hb dX11_bySmall_42 (lv_at hl 0 rfl) ?_
        refine lv_iload_n hx hb dX11_bySmall_44 rfl (lv_at hl 5 rfl) ?_
        refine zr_idiv hx hb (x := w) (y := x) ⟨by omega, by omega⟩ ⟨by omega, by omega⟩ (by omega) (by omega) dX11_bySmall_45 ?_
        refine zr_iast hx hb hK hP hD hS 2 1 rfl rfl (i := k) (x := w / x) (⟨by omega, by omega, by omega⟩) dX11_bySmall_46 (fun H locs hP hD hS => ?_)
        have hP : va_P G.1 vwCl [(a, .inr (12, [.int (iz (sg)), .ref b])), (b, zaI (G.2 1) N (f)), (rr, zaI (G.2 1) N (zup h k (w / x)))] H := hP
        have hD : va_D A [(a, .inr (12, [.int (iz (sg)), .ref b])), (b, zaI (G.2 1) N (f)), (rr, zaI (G.2 1) N (zup h k (w / x)))] := hD
        refine lv_iload hx hb dX11_bySmall_47 (lv_at hl 0 rfl) ?_
        refine lv_iload_n hx hb dX11_bySmall_49 rfl (lv_at hl 5 rfl) ?_
        refine zr_irem hx hb (x := w) (y := x) ⟨by omega, by omega⟩ ⟨by omega, by omega⟩ (by omega) (by omega) dX11_bySmall_50 ?_
        refine lv_istore_n (lv' := [(3, .int (iz (w % x))), (5, .int (iz (w))), (4, .int (iz (k))), (2, .ref rr), (0, .ref a), (1, .int (iz (x)))]) hx hb dX11_bySmall_51 rfl hl (by decide) rfl (fun ls hl => ?_)
        refine lv_iinc (v := iz (k - 1)) (lv' := [(4, .int (iz (k - 1))), (3, .int (iz (w % x))), (5, .int (iz (w))), (2, .ref rr), (0, .ref a), (1, .int (iz (x)))]) hx hb dX11_bySmall_52 hl (k := 2) rfl (by rw [show Int32.ofInt (-1) = iz (-1) from rfl, iz_add]; exact congrArg iz (by omega)) (by decide) rfl (fun ls hl => ?_)
        refine lv_goto (tgt := 19) hx hb dX11_bySmall_55 (by decide) ?_
        exact ih_19 (k - 1) (w % x) (zup h k (w / x)) _ _ _ (by omega) (by omega) (ttimes_dig k2 (tby_dig (by omega) d1 k5 ew)) (fun j b => (zup_n (by omega)).trans (k3 j (by omega))) (tby_step (by omega) (by omega) (by omega) (k3 k (by omega)) k4 ew) (⟨Int.emod_nonneg _ (by omega), Int.emod_lt_of_pos _ (by omega)⟩) (hP) (hD) hS (lv_sub hl [0, 1, 3, 4, 5] rfl)
  exact hl_19 (((N - 1) + 1 : Int).toNat + 1) (N - 1) 0 (fun _ => 0) _ _ _ (Nat.lt_succ_self _) (by omega) (fun k a b => ⟨Int.le_refl 0, by show (0 : Int) < 10000; decide⟩) (fun _ _ => rfl) (by rw [show ((N : Int) - 1 + 1).toNat = N by omega, tsum_zeros (fun _ _ _ => rfl)]; simp) (by omega) (hP) (hD) hS (hl)
