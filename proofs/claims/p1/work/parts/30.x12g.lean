-- THE REFERENCE ON A FRESH OBJECT: instalments (laid by wip/walk/x12g.py)
theorem tin_pow {po k : Int} (h : 0 ≤ po ∧ po ≤ 20000) (hk : 0 ≤ k ∧ k ≤ 61) : 1 ≤ (100000 + po) ^ k.toNat ∧ (100000 + po) ^ k.toNat ≤ 10000 ^ 78 := by
  have a := zpw_le (a := 100000 + po) (b := 120000) (by omega) (by omega) k.toNat
  have b := zpow_le (b := 120000) (by decide) (show k.toNat ≤ 61 by omega)
  have c : (120000 : Int) ^ 61 ≤ 10000 ^ 78 := by decide +kernel
  have d := zpow_pos (x := 100000 + po) (by omega) k.toNat
  exact ⟨d, by omega⟩
theorem tin_lt {a b : Int} (ha : 1 ≤ a) (h : a < b) : ∀ n : Nat, a ^ (n + 1) < b ^ (n + 1)
  | 0 => by rw [Int.pow_succ, Int.pow_succ, Int.pow_zero, Int.pow_zero]; omega
  | n + 1 => by
    have i := tin_lt ha h n
    have p := zpow_pos (x := a) (by omega) (n + 1)
    rw [Int.pow_succ a (n + 1), Int.pow_succ b (n + 1)]
    have e1 : a ^ (n + 1) * a < a ^ (n + 1) * b := Int.mul_lt_mul_of_pos_left h (by omega)
    have e2 : a ^ (n + 1) * b ≤ b ^ (n + 1) * b := Int.mul_le_mul_of_nonneg_right (by omega) (by omega)
    omega
/-- the instalment that a sum left, a rate and a number of periods ask for -/
def zinst (mo po n : Int) : Int := if po = 0 then zr6 mo n else zr6 (mo * po * (100000 + po) ^ n.toNat) (((100000 + po) ^ n.toNat - 100000 ^ n.toNat) * 100000)
theorem zinst_0 {mo po n : Int} (h : po = 0) : zr6 mo n = zinst mo po n := by unfold zinst; rw [if_pos h]
theorem zinst_n {mo po n : Int} (h : po ≠ 0) : zr6 (mo * po * (100000 + po) ^ n.toNat) (((100000 + po) ^ n.toNat - 100000 ^ n.toNat) * 100000) = zinst mo po n := by unfold zinst; rw [if_neg h]
theorem tin_all {mo po n : Int} (hm : 0 ≤ mo ∧ mo ≤ 1000000000) (h : 1 ≤ po ∧ po ≤ 20000) (hn : 1 ≤ n ∧ n ≤ 60) : 
    (mo.natAbs : Int) * (po.natAbs : Int) < 10000 ^ 128 ∧ ((mo * po).natAbs : Int) * (((100000 + po) ^ n.toNat).natAbs : Int) < 10000 ^ 128 ∧ ((mo * po * (100000 + po) ^ n.toNat).natAbs : Int) < 10000 ^ 120
    ∧ (((100000 + po) ^ n.toNat).natAbs : Int) + (((100000 : Int) ^ n.toNat).natAbs : Int) < 10000 ^ 128 ∧ (((100000 + po) ^ n.toNat - 100000 ^ n.toNat).natAbs : Int) * ((100000 : Int).natAbs : Int) < 10000 ^ 128
    ∧ 0 < ((100000 + po) ^ n.toNat - 100000 ^ n.toNat) * 100000 ∧ ((100000 + po) ^ n.toNat - 100000 ^ n.toNat) * 100000 < 10000 ^ 120 ∧ (100000 + po) ^ n.toNat < 10000 ^ 100 ∧ (100000 : Int) ^ n.toNat < 10000 ^ 100 := by
  have a := tin_pow (po := po) (k := n) (by omega) (by omega)
  have b := tin_pow (po := 0) (k := n) (by omega) (by omega)
  rw [Int.add_zero] at b
  obtain ⟨m, hm1⟩ : ∃ m : Nat, n.toNat = m + 1 := ⟨n.toNat - 1, by omega⟩
  have c := tin_lt (a := 100000) (b := 100000 + po) (by decide) (by omega) m
  rw [← hm1] at c
  have g1 : mo * po ≤ 1000000000 * po := Int.mul_le_mul_of_nonneg_right hm.2 (by omega)
  have g0 : 0 ≤ mo * po := Int.mul_nonneg hm.1 (by omega)
  have g2 : mo * po ≤ 10000 ^ 4 := by
    have : (10000 : Int) ^ 4 = 10000000000000000 := by decide +kernel
    omega
  generalize (100000 + po) ^ n.toNat = P at a c ⊢
  generalize (100000 : Int) ^ n.toNat = Q at b c ⊢
  generalize mo * po = T at g0 g1 g2 ⊢
  have e1 : T * P ≤ 10000 ^ 4 * P := Int.mul_le_mul_of_nonneg_right g2 (by omega)
  have e2 : (10000 : Int) ^ 4 * P ≤ 10000 ^ 4 * 10000 ^ 78 := Int.mul_le_mul_of_nonneg_left a.2 (by decide +kernel)
  have e0 : 0 ≤ T * P := Int.mul_nonneg g0 (by omega)
  have n1 : (10000 : Int) ^ 4 * 10000 ^ 78 < 10000 ^ 100 := by decide +kernel
  have n2 : (10000 : Int) ^ 100 < 10000 ^ 120 := by decide +kernel
  have n3 : (10000 : Int) ^ 120 < 10000 ^ 128 := by decide +kernel
  have n4 : (10000 : Int) ^ 78 * 100000 < 10000 ^ 100 := by decide +kernel
  have n5 : (10000 : Int) ^ 78 * 2 < 10000 ^ 100 := by decide +kernel
  have n6 : (10000 : Int) ^ 78 < 10000 ^ 100 := by decide +kernel
  refine ⟨?_, ?_, by omega, by omega, ?_, by omega, by omega, by omega, by omega⟩
  · rw [show (mo.natAbs : Int) = mo by omega, show (po.natAbs : Int) = po by omega]
    have : mo * po ≤ 1000000000 * po := Int.mul_le_mul_of_nonneg_right hm.2 (by omega)
    have : (10000 : Int) ^ 4 < 10000 ^ 128 := by decide +kernel
    have : (10000 : Int) ^ 4 = 10000000000000000 := by decide +kernel
    omega
  · rw [show (T.natAbs : Int) = T by omega, show (P.natAbs : Int) = P by omega]; omega
  · rw [show ((P - Q).natAbs : Int) = P - Q by omega, show ((100000 : Int).natAbs : Int) = 100000 by decide]; omega
def rm_c_X12_instalment : Room := { frames := 13, cells := 1200, slots := 120000, locals := 526 }
set_option maxHeartbeats 1000000 in
set_option maxRecDepth 100000 in
theorem c_X12_instalment (l : Launch) (G : zG) (nA : Nat) (nB : Nat) (nE : Nat) (x : Nat) (am : Nat) (tb : Nat) (lv : Nat) (wt : Nat) (bg : Nat) (pm : Nat) (th : Int) (mo : Int) (po : Int) (pn : Int) (h1 : 1 ≤ mo ∧ mo ≤ 1000000000 ∧ 0 ≤ po ∧ po ≤ 20000 ∧ 1 ≤ pn ∧ pn ≤ 60) : zMe l (zE G nA nB nE) G yX12_instalment wsX12_instalment rm_c_X12_instalment [.ref x, .long (lz (mo)), .int (iz (po)), .int (iz (pn))] [(x, .inr (13, [.int (iz (th)), .int (iz (6)), .ref am, .null, .ref tb, .ref lv, .int (iz (0)), .ref wt, .int (iz (0)), .ref bg, .ref pm, .int (iz (0))]))] (fun A => zQr G (fun (u : (Nat × (Int → Int) × Nat × Int)) (ra : Nat) => tmw u.2.1 u.2.2.1 u.2.2.2 (zinst mo po pn)) (fun (u : (Nat × (Int → Int) × Nat × Int)) (ra : Nat) => [(x, .inr (13, [.int (iz (th)), .int (iz (6)), .ref am, .null, .ref tb, .ref lv, .int (iz (0)), .ref wt, .int (iz (0)), .ref bg, .ref pm, .int (iz (0))])), (ra, .inr (12, [.int (iz (u.2.2.2)), .ref u.1])), (u.1, zaI (G.2 1) u.2.2.1 (u.2.1))]) A) 1200 120000 := by
  refine zMe_of (cc := cX12_instalment) (maxL := 6) (ret := (some (.object "AnnuityHouseModel$Whole"))) (by decide) rfl (Nat.le_of_ble_eq_true rfl) ?_
  intro p e s m below meth c ls A Q hQ hx hb hr hts hown hlocks hml hnm hKX hE hP hD hA hS hl
  have hK := hKX.1
  obtain ⟨H, hH⟩ : ∃ h, h = s.heap := ⟨_, rfl⟩
  obtain ⟨locs, hlo⟩ : ∃ h : List Loc, h = [] := ⟨_, rfl⟩
  have hS : va_S A s.heap H locs := by rw [hH, hlo]; exact hS
  have hP : va_P G.1 vwCl [(x, .inr (13, [.int (iz (th)), .int (iz (6)), .ref am, .null, .ref tb, .ref lv, .int (iz (0)), .ref wt, .int (iz (0)), .ref bg, .ref pm, .int (iz (0))]))] H := by rw [hH]; exact hP
  have hD : va_D A [(x, .inr (13, [.int (iz (th)), .int (iz (6)), .ref am, .null, .ref tb, .ref lv, .int (iz (0)), .ref wt, .int (iz (0)), .ref bg, .ref pm, .int (iz (0))]))] := hD
  have hl : lv_has ls 6 [(0, .ref x), (1, .long (lz (mo))), (3, .int (iz (po))), (4, .int (iz (pn)))] := hl
  rw [← hH, ← hlo]
  refine lv_iload_n hx hb dX12_instalment_0 rfl (lv_at hl 2 rfl) ?_
  refine zr_if_ne (x := po) (tgt := 19) hx hb (⟨by omega, by omega⟩) dX12_instalment_1 (by decide) (fun h_1 => ?_) (fun h_1 => ?_)
  ·
    have hp0 : po ≠ 0 := h_1
    have ha := tin_all (mo := mo) (po := po) (n := pn) (by omega) (by omega) (by omega)
    refine zr_ldc2 (z := 100000) hx hb hown (hts (.constantLong RX12 145 (100000)) (by decide +kernel)) rfl dX12_instalment_19 ?_
    refine lv_iload_n hx hb dX12_instalment_22 rfl (lv_at hl 2 rfl) ?_
    refine zr_i2l hx hb (x := po) (⟨by omega, by omega⟩) dX12_instalment_23 ?_
    refine zr_ladd hx hb dX12_instalment_24 ?_
    refine lv_iload hx hb dX12_instalment_25 (lv_at hl 3 rfl) ?_
    refine zc_r (wr := [(x, .inr (13, [.int (iz (th)), .int (iz (6)), .ref am, .null, .ref tb, .ref lv, .int (iz (0)), .ref wt, .int (iz (0)), .ref bg, .ref pm, .int (iz (0))]))]) (va_runS (As := [.long (lz (100000 + po)), .int (iz (pn))]) (rest := []) ⟨hx, hb, hml, hown, hts⟩ (c_X12_raised l G (100000 + po) pn (by omega) (by omega) (ha.2.2.2.2.2.2.2.1) H.size) (va_cwS 2 hts gX12_instalment_X12_raised rfl rfl rfl (by decide +kernel) ⟨Nat.le_of_ble_eq_true rfl, Nat.le_of_ble_eq_true rfl⟩) (zpS hKX hP hD [] rfl rfl) rfl rfl hl.1 rfl (lv_room (Nat.le_of_ble_eq_true rfl)) dX12_instalment_27 ⟨(by first | exact Nat.le_of_ble_eq_true rfl | (show _ ≤ (1200 : Nat); omega)), (by show _ ≤ (120000 : Nat); omega)⟩) hP hD hS hA [] [0] rfl rfl rfl (by decide) (fun u_2 r1 H locs q1 hP hD hS => ?_)
    obtain ⟨b1, f1, N1, s1⟩ := u_2
    have hP : va_P G.1 vwCl [(x, .inr (13, [.int (iz (th)), .int (iz (6)), .ref am, .null, .ref tb, .ref lv, .int (iz (0)), .ref wt, .int (iz (0)), .ref bg, .ref pm, .int (iz (0))])), (r1, .inr (12, [.int (iz (s1)), .ref b1])), (b1, zaI (G.2 1) N1 (f1))] H := hP
    have hD : va_D A [(x, .inr (13, [.int (iz (th)), .int (iz (6)), .ref am, .null, .ref tb, .ref lv, .int (iz (0)), .ref wt, .int (iz (0)), .ref bg, .ref pm, .int (iz (0))])), (r1, .inr (12, [.int (iz (s1)), .ref b1])), (b1, zaI (G.2 1) N1 (f1))] := hD
    have q1 : tmw f1 N1 s1 ((100000 + po) ^ pn.toNat) := q1
    refine lv_astore (lv' := [(5, .ref r1), (0, .ref x), (1, .long (lz (mo))), (3, .int (iz (po))), (4, .int (iz (pn)))]) hx hb dX12_instalment_30 hl (by decide) rfl (fun ls hl => ?_)
    refine lv_aload_n hx hb dX12_instalment_32 rfl (lv_at hl 1 rfl) ?_
    refine lv_lload_n hx hb dX12_instalment_33 rfl (lv_at hl 2 rfl) ?_
    refine zc_r (wr := [(x, .inr (13, [.int (iz (th)), .int (iz (6)), .ref am, .null, .ref tb, .ref lv, .int (iz (0)), .ref wt, .int (iz (0)), .ref bg, .ref pm, .int (iz (0))])), (r1, .inr (12, [.int (iz (s1)), .ref b1])), (b1, zaI (G.2 1) N1 (f1))]) (va_runS (As := [.long (lz (mo))]) (rest := [.ref x]) ⟨hx, hb, hml, hown, hts⟩ (c_X11_of l G mo (by omega) H.size) (va_cwS 1 hts gX12_instalment_X11_of rfl rfl rfl (by decide +kernel) ⟨Nat.le_of_ble_eq_true rfl, Nat.le_of_ble_eq_true rfl⟩) (zpS hKX hP hD [] rfl rfl) rfl rfl hl.1 rfl (lv_room (Nat.le_of_ble_eq_true rfl)) dX12_instalment_34 ⟨(by first | exact Nat.le_of_ble_eq_true rfl | (show _ ≤ (1200 : Nat); omega)), (by show _ ≤ (120000 : Nat); omega)⟩) hP hD hS hA [] [0, 1, 2] rfl rfl rfl (by decide) (fun u_4 r2 H locs q2 hP hD hS => ?_)
    obtain ⟨b2, f2, N2, s2⟩ := u_4
    have hP : va_P G.1 vwCl [(x, .inr (13, [.int (iz (th)), .int (iz (6)), .ref am, .null, .ref tb, .ref lv, .int (iz (0)), .ref wt, .int (iz (0)), .ref bg, .ref pm, .int (iz (0))])), (r1, .inr (12, [.int (iz (s1)), .ref b1])), (b1, zaI (G.2 1) N1 (f1)), (r2, .inr (12, [.int (iz (s2)), .ref b2])), (b2, zaI (G.2 1) N2 (f2))] H := hP
    have hD : va_D A [(x, .inr (13, [.int (iz (th)), .int (iz (6)), .ref am, .null, .ref tb, .ref lv, .int (iz (0)), .ref wt, .int (iz (0)), .ref bg, .ref pm, .int (iz (0))])), (r1, .inr (12, [.int (iz (s1)), .ref b1])), (b1, zaI (G.2 1) N1 (f1)), (r2, .inr (12, [.int (iz (s2)), .ref b2])), (b2, zaI (G.2 1) N2 (f2))] := hD
    have q2 : tmw f2 N2 s2 mo := q2
    refine lv_iload_n hx hb dX12_instalment_37 rfl (lv_at hl 3 rfl) ?_
    refine zr_i2l hx hb (x := po) (⟨by omega, by omega⟩) dX12_instalment_38 ?_
    refine zc_r (wr := [(x, .inr (13, [.int (iz (th)), .int (iz (6)), .ref am, .null, .ref tb, .ref lv, .int (iz (0)), .ref wt, .int (iz (0)), .ref bg, .ref pm, .int (iz (0))])), (r1, .inr (12, [.int (iz (s1)), .ref b1])), (b1, zaI (G.2 1) N1 (f1)), (r2, .inr (12, [.int (iz (s2)), .ref b2])), (b2, zaI (G.2 1) N2 (f2))]) (va_runS (As := [.long (lz (po))]) (rest := [.ref r2, .ref x]) ⟨hx, hb, hml, hown, hts⟩ (c_X11_of l G po (by omega) H.size) (va_cwS 1 hts gX12_instalment_X11_of rfl rfl rfl (by decide +kernel) ⟨Nat.le_of_ble_eq_true rfl, Nat.le_of_ble_eq_true rfl⟩) (zpS hKX hP hD [] rfl rfl) rfl rfl hl.1 rfl (lv_room (Nat.le_of_ble_eq_true rfl)) dX12_instalment_39 ⟨(by first | exact Nat.le_of_ble_eq_true rfl | (show _ ≤ (1200 : Nat); omega)), (by show _ ≤ (120000 : Nat); omega)⟩) hP hD hS hA [] [0, 1, 2, 3, 4] rfl rfl rfl (by decide) (fun u_6 r3 H locs q3 hP hD hS => ?_)
    obtain ⟨b3, f3, N3, s3⟩ := u_6
    have hP : va_P G.1 vwCl [(x, .inr (13, [.int (iz (th)), .int (iz (6)), .ref am, .null, .ref tb, .ref lv, .int (iz (0)), .ref wt, .int (iz (0)), .ref bg, .ref pm, .int (iz (0))])), (r1, .inr (12, [.int (iz (s1)), .ref b1])), (b1, zaI (G.2 1) N1 (f1)), (r2, .inr (12, [.int (iz (s2)), .ref b2])), (b2, zaI (G.2 1) N2 (f2)), (r3, .inr (12, [.int (iz (s3)), .ref b3])), (b3, zaI (G.2 1) N3 (f3))] H := hP
    have hD : va_D A [(x, .inr (13, [.int (iz (th)), .int (iz (6)), .ref am, .null, .ref tb, .ref lv, .int (iz (0)), .ref wt, .int (iz (0)), .ref bg, .ref pm, .int (iz (0))])), (r1, .inr (12, [.int (iz (s1)), .ref b1])), (b1, zaI (G.2 1) N1 (f1)), (r2, .inr (12, [.int (iz (s2)), .ref b2])), (b2, zaI (G.2 1) N2 (f2)), (r3, .inr (12, [.int (iz (s3)), .ref b3])), (b3, zaI (G.2 1) N3 (f3))] := hD
    have q3 : tmw f3 N3 s3 po := q3
    refine zc_r (wr := [(x, .inr (13, [.int (iz (th)), .int (iz (6)), .ref am, .null, .ref tb, .ref lv, .int (iz (0)), .ref wt, .int (iz (0)), .ref bg, .ref pm, .int (iz (0))])), (r1, .inr (12, [.int (iz (s1)), .ref b1])), (b1, zaI (G.2 1) N1 (f1))]) (va_runV (As := [.ref r3]) (rest := [.ref x]) ⟨hx, hb, hml, hown, hts⟩ (c_X11_times l G r2 b2 f2 N2 s2 r3 b3 f3 N3 s3 mo po (q2) (q3) (ha.1) H.size) (cwV 1 hts gX12_instalment_X11_times rfl rfl rfl (by decide +kernel) ⟨Nat.le_of_ble_eq_true rfl, Nat.le_of_ble_eq_true rfl⟩) (zpV hKX hP hD [3, 4, 5, 6] rfl rfl 3 12 rfl rfl) rfl rfl hl.1 rfl (lv_room (Nat.le_of_ble_eq_true rfl)) dX12_instalment_42 ⟨(by first | exact Nat.le_of_ble_eq_true rfl | (show _ ≤ (1200 : Nat); omega)), (by show _ ≤ (120000 : Nat); omega)⟩) hP hD hS hA [3, 4, 5, 6] [0, 1, 2] rfl rfl rfl (by decide) (fun u_8 r4 H locs q4 hP hD hS => ?_)
    obtain ⟨b4, f4, N4, s4⟩ := u_8
    have hP : va_P G.1 vwCl [(x, .inr (13, [.int (iz (th)), .int (iz (6)), .ref am, .null, .ref tb, .ref lv, .int (iz (0)), .ref wt, .int (iz (0)), .ref bg, .ref pm, .int (iz (0))])), (r1, .inr (12, [.int (iz (s1)), .ref b1])), (b1, zaI (G.2 1) N1 (f1)), (r2, .inr (12, [.int (iz (s2)), .ref b2])), (b2, zaI (G.2 1) N2 (f2)), (r3, .inr (12, [.int (iz (s3)), .ref b3])), (b3, zaI (G.2 1) N3 (f3)), (r4, .inr (12, [.int (iz (s4)), .ref b4])), (b4, zaI (G.2 1) N4 (f4))] H := hP
    have hD : va_D A [(x, .inr (13, [.int (iz (th)), .int (iz (6)), .ref am, .null, .ref tb, .ref lv, .int (iz (0)), .ref wt, .int (iz (0)), .ref bg, .ref pm, .int (iz (0))])), (r1, .inr (12, [.int (iz (s1)), .ref b1])), (b1, zaI (G.2 1) N1 (f1)), (r2, .inr (12, [.int (iz (s2)), .ref b2])), (b2, zaI (G.2 1) N2 (f2)), (r3, .inr (12, [.int (iz (s3)), .ref b3])), (b3, zaI (G.2 1) N3 (f3)), (r4, .inr (12, [.int (iz (s4)), .ref b4])), (b4, zaI (G.2 1) N4 (f4))] := hD
    have q4 : tmw f4 N4 s4 (mo * po) := q4
    refine lv_aload hx hb dX12_instalment_45 (lv_at hl 0 rfl) ?_
    refine zc_r (wr := [(x, .inr (13, [.int (iz (th)), .int (iz (6)), .ref am, .null, .ref tb, .ref lv, .int (iz (0)), .ref wt, .int (iz (0)), .ref bg, .ref pm, .int (iz (0))])), (r2, .inr (12, [.int (iz (s2)), .ref b2])), (b2, zaI (G.2 1) N2 (f2)), (r3, .inr (12, [.int (iz (s3)), .ref b3])), (b3, zaI (G.2 1) N3 (f3))]) (va_runV (As := [.ref r1]) (rest := [.ref x]) ⟨hx, hb, hml, hown, hts⟩ (c_X11_times l G r4 b4 f4 N4 s4 r1 b1 f1 N1 s1 (mo * po) ((100000 + po) ^ pn.toNat) (q4) (q1) (ha.2.1) H.size) (cwV 1 hts gX12_instalment_X11_times rfl rfl rfl (by decide +kernel) ⟨Nat.le_of_ble_eq_true rfl, Nat.le_of_ble_eq_true rfl⟩) (zpV hKX hP hD [7, 8, 1, 2] rfl rfl 7 12 rfl rfl) rfl rfl hl.1 rfl (lv_room (Nat.le_of_ble_eq_true rfl)) dX12_instalment_47 ⟨(by first | exact Nat.le_of_ble_eq_true rfl | (show _ ≤ (1200 : Nat); omega)), (by show _ ≤ (120000 : Nat); omega)⟩) hP hD hS hA [7, 8, 1, 2] [0, 3, 4, 5, 6] rfl rfl rfl (by decide) (fun u_10 r5 H locs q5 hP hD hS => ?_)
    obtain ⟨b5, f5, N5, s5⟩ := u_10
    have hP : va_P G.1 vwCl [(x, .inr (13, [.int (iz (th)), .int (iz (6)), .ref am, .null, .ref tb, .ref lv, .int (iz (0)), .ref wt, .int (iz (0)), .ref bg, .ref pm, .int (iz (0))])), (r2, .inr (12, [.int (iz (s2)), .ref b2])), (b2, zaI (G.2 1) N2 (f2)), (r3, .inr (12, [.int (iz (s3)), .ref b3])), (b3, zaI (G.2 1) N3 (f3)), (r4, .inr (12, [.int (iz (s4)), .ref b4])), (b4, zaI (G.2 1) N4 (f4)), (r1, .inr (12, [.int (iz (s1)), .ref b1])), (b1, zaI (G.2 1) N1 (f1)), (r5, .inr (12, [.int (iz (s5)), .ref b5])), (b5, zaI (G.2 1) N5 (f5))] H := hP
    have hD : va_D A [(x, .inr (13, [.int (iz (th)), .int (iz (6)), .ref am, .null, .ref tb, .ref lv, .int (iz (0)), .ref wt, .int (iz (0)), .ref bg, .ref pm, .int (iz (0))])), (r2, .inr (12, [.int (iz (s2)), .ref b2])), (b2, zaI (G.2 1) N2 (f2)), (r3, .inr (12, [.int (iz (s3)), .ref b3])), (b3, zaI (G.2 1) N3 (f3)), (r4, .inr (12, [.int (iz (s4)), .ref b4])), (b4, zaI (G.2 1) N4 (f4)), (r1, .inr (12, [.int (iz (s1)), .ref b1])), (b1, zaI (G.2 1) N1 (f1)), (r5, .inr (12, [.int (iz (s5)), .ref b5])), (b5, zaI (G.2 1) N5 (f5))] := hD
    have q5 : tmw f5 N5 s5 ((mo * po) * ((100000 + po) ^ pn.toNat)) := q5
    refine lv_aload hx hb dX12_instalment_50 (lv_at hl 0 rfl) ?_
    refine zr_ldc2 (z := 100000) hx hb hown (hts (.constantLong RX12 145 (100000)) (by decide +kernel)) rfl dX12_instalment_52 ?_
    refine lv_iload hx hb dX12_instalment_55 (lv_at hl 4 rfl) ?_
    refine zc_r (wr := [(x, .inr (13, [.int (iz (th)), .int (iz (6)), .ref am, .null, .ref tb, .ref lv, .int (iz (0)), .ref wt, .int (iz (0)), .ref bg, .ref pm, .int (iz (0))])), (r2, .inr (12, [.int (iz (s2)), .ref b2])), (b2, zaI (G.2 1) N2 (f2)), (r3, .inr (12, [.int (iz (s3)), .ref b3])), (b3, zaI (G.2 1) N3 (f3)), (r4, .inr (12, [.int (iz (s4)), .ref b4])), (b4, zaI (G.2 1) N4 (f4)), (r1, .inr (12, [.int (iz (s1)), .ref b1])), (b1, zaI (G.2 1) N1 (f1)), (r5, .inr (12, [.int (iz (s5)), .ref b5])), (b5, zaI (G.2 1) N5 (f5))]) (va_runS (As := [.long (lz (100000)), .int (iz (pn))]) (rest := [.ref r1, .ref r5, .ref x]) ⟨hx, hb, hml, hown, hts⟩ (c_X12_raised l G 100000 pn (by omega) (by omega) (ha.2.2.2.2.2.2.2.2) H.size) (va_cwS 2 hts gX12_instalment_X12_raised rfl rfl rfl (by decide +kernel) ⟨Nat.le_of_ble_eq_true rfl, Nat.le_of_ble_eq_true rfl⟩) (zpS hKX hP hD [] rfl rfl) rfl rfl hl.1 rfl (lv_room (Nat.le_of_ble_eq_true rfl)) dX12_instalment_57 ⟨(by first | exact Nat.le_of_ble_eq_true rfl | (show _ ≤ (1200 : Nat); omega)), (by show _ ≤ (120000 : Nat); omega)⟩) hP hD hS hA [] [0, 1, 2, 3, 4, 5, 6, 7, 8, 9, 10] rfl rfl rfl (by decide) (fun u_12 r6 H locs q6 hP hD hS => ?_)
    obtain ⟨b6, f6, N6, s6⟩ := u_12
    have hP : va_P G.1 vwCl [(x, .inr (13, [.int (iz (th)), .int (iz (6)), .ref am, .null, .ref tb, .ref lv, .int (iz (0)), .ref wt, .int (iz (0)), .ref bg, .ref pm, .int (iz (0))])), (r2, .inr (12, [.int (iz (s2)), .ref b2])), (b2, zaI (G.2 1) N2 (f2)), (r3, .inr (12, [.int (iz (s3)), .ref b3])), (b3, zaI (G.2 1) N3 (f3)), (r4, .inr (12, [.int (iz (s4)), .ref b4])), (b4, zaI (G.2 1) N4 (f4)), (r1, .inr (12, [.int (iz (s1)), .ref b1])), (b1, zaI (G.2 1) N1 (f1)), (r5, .inr (12, [.int (iz (s5)), .ref b5])), (b5, zaI (G.2 1) N5 (f5)), (r6, .inr (12, [.int (iz (s6)), .ref b6])), (b6, zaI (G.2 1) N6 (f6))] H := hP
    have hD : va_D A [(x, .inr (13, [.int (iz (th)), .int (iz (6)), .ref am, .null, .ref tb, .ref lv, .int (iz (0)), .ref wt, .int (iz (0)), .ref bg, .ref pm, .int (iz (0))])), (r2, .inr (12, [.int (iz (s2)), .ref b2])), (b2, zaI (G.2 1) N2 (f2)), (r3, .inr (12, [.int (iz (s3)), .ref b3])), (b3, zaI (G.2 1) N3 (f3)), (r4, .inr (12, [.int (iz (s4)), .ref b4])), (b4, zaI (G.2 1) N4 (f4)), (r1, .inr (12, [.int (iz (s1)), .ref b1])), (b1, zaI (G.2 1) N1 (f1)), (r5, .inr (12, [.int (iz (s5)), .ref b5])), (b5, zaI (G.2 1) N5 (f5)), (r6, .inr (12, [.int (iz (s6)), .ref b6])), (b6, zaI (G.2 1) N6 (f6))] := hD
    have q6 : tmw f6 N6 s6 ((100000 : Int) ^ pn.toNat) := q6
    refine zc_r (wr := [(x, .inr (13, [.int (iz (th)), .int (iz (6)), .ref am, .null, .ref tb, .ref lv, .int (iz (0)), .ref wt, .int (iz (0)), .ref bg, .ref pm, .int (iz (0))])), (r2, .inr (12, [.int (iz (s2)), .ref b2])), (b2, zaI (G.2 1) N2 (f2)), (r3, .inr (12, [.int (iz (s3)), .ref b3])), (b3, zaI (G.2 1) N3 (f3)), (r4, .inr (12, [.int (iz (s4)), .ref b4])), (b4, zaI (G.2 1) N4 (f4)), (r5, .inr (12, [.int (iz (s5)), .ref b5])), (b5, zaI (G.2 1) N5 (f5))]) (va_runV (As := [.ref r6]) (rest := [.ref r5, .ref x]) ⟨hx, hb, hml, hown, hts⟩ (c_X11_less l G r1 b1 f1 N1 s1 r6 b6 f6 N6 s6 ((100000 + po) ^ pn.toNat) (100000 ^ pn.toNat) (q1) (q6) (ha.2.2.2.1) H.size) (cwV 1 hts gX12_instalment_X11_less rfl rfl rfl (by decide +kernel) ⟨Nat.le_of_ble_eq_true rfl, Nat.le_of_ble_eq_true rfl⟩) (zpV hKX hP hD [7, 8, 11, 12] rfl rfl 7 12 rfl rfl) rfl rfl hl.1 rfl (lv_room (Nat.le_of_ble_eq_true rfl)) dX12_instalment_60 ⟨(by first | exact Nat.le_of_ble_eq_true rfl | (show _ ≤ (1200 : Nat); omega)), (by show _ ≤ (120000 : Nat); omega)⟩) hP hD hS hA [7, 8, 11, 12] [0, 1, 2, 3, 4, 5, 6, 9, 10] rfl rfl rfl (by decide) (fun u_14 r7 H locs q7 hP hD hS => ?_)
    obtain ⟨b7, f7, N7, s7⟩ := u_14
    have hP : va_P G.1 vwCl [(x, .inr (13, [.int (iz (th)), .int (iz (6)), .ref am, .null, .ref tb, .ref lv, .int (iz (0)), .ref wt, .int (iz (0)), .ref bg, .ref pm, .int (iz (0))])), (r2, .inr (12, [.int (iz (s2)), .ref b2])), (b2, zaI (G.2 1) N2 (f2)), (r3, .inr (12, [.int (iz (s3)), .ref b3])), (b3, zaI (G.2 1) N3 (f3)), (r4, .inr (12, [.int (iz (s4)), .ref b4])), (b4, zaI (G.2 1) N4 (f4)), (r5, .inr (12, [.int (iz (s5)), .ref b5])), (b5, zaI (G.2 1) N5 (f5)), (r7, .inr (12, [.int (iz (s7)), .ref b7])), (b7, zaI (G.2 1) N7 (f7))] H := hP
    have hD : va_D A [(x, .inr (13, [.int (iz (th)), .int (iz (6)), .ref am, .null, .ref tb, .ref lv, .int (iz (0)), .ref wt, .int (iz (0)), .ref bg, .ref pm, .int (iz (0))])), (r2, .inr (12, [.int (iz (s2)), .ref b2])), (b2, zaI (G.2 1) N2 (f2)), (r3, .inr (12, [.int (iz (s3)), .ref b3])), (b3, zaI (G.2 1) N3 (f3)), (r4, .inr (12, [.int (iz (s4)), .ref b4])), (b4, zaI (G.2 1) N4 (f4)), (r5, .inr (12, [.int (iz (s5)), .ref b5])), (b5, zaI (G.2 1) N5 (f5)), (r7, .inr (12, [.int (iz (s7)), .ref b7])), (b7, zaI (G.2 1) N7 (f7))] := hD
    have q7 : tmw f7 N7 s7 (((100000 + po) ^ pn.toNat) - (100000 ^ pn.toNat)) := q7
    refine zr_ldc2 (z := 100000) hx hb hown (hts (.constantLong RX12 145 (100000)) (by decide +kernel)) rfl dX12_instalment_63 ?_
    refine zc_r (wr := [(x, .inr (13, [.int (iz (th)), .int (iz (6)), .ref am, .null, .ref tb, .ref lv, .int (iz (0)), .ref wt, .int (iz (0)), .ref bg, .ref pm, .int (iz (0))])), (r2, .inr (12, [.int (iz (s2)), .ref b2])), (b2, zaI (G.2 1) N2 (f2)), (r3, .inr (12, [.int (iz (s3)), .ref b3])), (b3, zaI (G.2 1) N3 (f3)), (r4, .inr (12, [.int (iz (s4)), .ref b4])), (b4, zaI (G.2 1) N4 (f4)), (r5, .inr (12, [.int (iz (s5)), .ref b5])), (b5, zaI (G.2 1) N5 (f5)), (r7, .inr (12, [.int (iz (s7)), .ref b7])), (b7, zaI (G.2 1) N7 (f7))]) (va_runS (As := [.long (lz (100000))]) (rest := [.ref r7, .ref r5, .ref x]) ⟨hx, hb, hml, hown, hts⟩ (c_X11_of l G 100000 (by omega) H.size) (va_cwS 1 hts gX12_instalment_X11_of rfl rfl rfl (by decide +kernel) ⟨Nat.le_of_ble_eq_true rfl, Nat.le_of_ble_eq_true rfl⟩) (zpS hKX hP hD [] rfl rfl) rfl rfl hl.1 rfl (lv_room (Nat.le_of_ble_eq_true rfl)) dX12_instalment_66 ⟨(by first | exact Nat.le_of_ble_eq_true rfl | (show _ ≤ (1200 : Nat); omega)), (by show _ ≤ (120000 : Nat); omega)⟩) hP hD hS hA [] [0, 1, 2, 3, 4, 5, 6, 7, 8, 9, 10] rfl rfl rfl (by decide) (fun u_16 r8 H locs q8 hP hD hS => ?_)
    obtain ⟨b8, f8, N8, s8⟩ := u_16
    have hP : va_P G.1 vwCl [(x, .inr (13, [.int (iz (th)), .int (iz (6)), .ref am, .null, .ref tb, .ref lv, .int (iz (0)), .ref wt, .int (iz (0)), .ref bg, .ref pm, .int (iz (0))])), (r2, .inr (12, [.int (iz (s2)), .ref b2])), (b2, zaI (G.2 1) N2 (f2)), (r3, .inr (12, [.int (iz (s3)), .ref b3])), (b3, zaI (G.2 1) N3 (f3)), (r4, .inr (12, [.int (iz (s4)), .ref b4])), (b4, zaI (G.2 1) N4 (f4)), (r5, .inr (12, [.int (iz (s5)), .ref b5])), (b5, zaI (G.2 1) N5 (f5)), (r7, .inr (12, [.int (iz (s7)), .ref b7])), (b7, zaI (G.2 1) N7 (f7)), (r8, .inr (12, [.int (iz (s8)), .ref b8])), (b8, zaI (G.2 1) N8 (f8))] H := hP
    have hD : va_D A [(x, .inr (13, [.int (iz (th)), .int (iz (6)), .ref am, .null, .ref tb, .ref lv, .int (iz (0)), .ref wt, .int (iz (0)), .ref bg, .ref pm, .int (iz (0))])), (r2, .inr (12, [.int (iz (s2)), .ref b2])), (b2, zaI (G.2 1) N2 (f2)), (r3, .inr (12, [.int (iz (s3)), .ref b3])), (b3, zaI (G.2 1) N3 (f3)), (r4, .inr (12, [.int (iz (s4)), .ref b4])), (b4, zaI (G.2 1) N4 (f4)), (r5, .inr (12, [.int (iz (s5)), .ref b5])), (b5, zaI (G.2 1) N5 (f5)), (r7, .inr (12, [.int (iz (s7)), .ref b7])), (b7, zaI (G.2 1) N7 (f7)), (r8, .inr (12, [.int (iz (s8)), .ref b8])), (b8, zaI (G.2 1) N8 (f8))] := hD
    have q8 : tmw f8 N8 s8 (100000 : Int) := q8
    refine zc_r (wr := [(x, .inr (13, [.int (iz (th)), .int (iz (6)), .ref am, .null, .ref tb, .ref lv, .int (iz (0)), .ref wt, .int (iz (0)), .ref bg, .ref pm, .int (iz (0))])), (r2, .inr (12, [.int (iz (s2)), .ref b2])), (b2, zaI (G.2 1) N2 (f2)), (r3, .inr (12, [.int (iz (s3)), .ref b3])), (b3, zaI (G.2 1) N3 (f3)), (r4, .inr (12, [.int (iz (s4)), .ref b4])), (b4, zaI (G.2 1) N4 (f4)), (r5, .inr (12, [.int (iz (s5)), .ref b5])), (b5, zaI (G.2 1) N5 (f5))]) (va_runV (As := [.ref r8]) (rest := [.ref r5, .ref x]) ⟨hx, hb, hml, hown, hts⟩ (c_X11_times l G r7 b7 f7 N7 s7 r8 b8 f8 N8 s8 ((100000 + po) ^ pn.toNat - 100000 ^ pn.toNat) 100000 (q7) (q8) (ha.2.2.2.2.1) H.size) (cwV 1 hts gX12_instalment_X11_times rfl rfl rfl (by decide +kernel) ⟨Nat.le_of_ble_eq_true rfl, Nat.le_of_ble_eq_true rfl⟩) (zpV hKX hP hD [9, 10, 11, 12] rfl rfl 9 12 rfl rfl) rfl rfl hl.1 rfl (lv_room (Nat.le_of_ble_eq_true rfl)) dX12_instalment_69 ⟨(by first | exact Nat.le_of_ble_eq_true rfl | (show _ ≤ (1200 : Nat); omega)), (by show _ ≤ (120000 : Nat); omega)⟩) hP hD hS hA [9, 10, 11, 12] [0, 1, 2, 3, 4, 5, 6, 7, 8] rfl rfl rfl (by decide) (fun u_18 r9 H locs q9 hP hD hS => ?_)
    obtain ⟨b9, f9, N9, s9⟩ := u_18
    have hP : va_P G.1 vwCl [(x, .inr (13, [.int (iz (th)), .int (iz (6)), .ref am, .null, .ref tb, .ref lv, .int (iz (0)), .ref wt, .int (iz (0)), .ref bg, .ref pm, .int (iz (0))])), (r2, .inr (12, [.int (iz (s2)), .ref b2])), (b2, zaI (G.2 1) N2 (f2)), (r3, .inr (12, [.int (iz (s3)), .ref b3])), (b3, zaI (G.2 1) N3 (f3)), (r4, .inr (12, [.int (iz (s4)), .ref b4])), (b4, zaI (G.2 1) N4 (f4)), (r5, .inr (12, [.int (iz (s5)), .ref b5])), (b5, zaI (G.2 1) N5 (f5)), (r7, .inr (12, [.int (iz (s7)), .ref b7])), (b7, zaI (G.2 1) N7 (f7)), (r8, .inr (12, [.int (iz (s8)), .ref b8])), (b8, zaI (G.2 1) N8 (f8)), (r9, .inr (12, [.int (iz (s9)), .ref b9])), (b9, zaI (G.2 1) N9 (f9))] H := hP
    have hD : va_D A [(x, .inr (13, [.int (iz (th)), .int (iz (6)), .ref am, .null, .ref tb, .ref lv, .int (iz (0)), .ref wt, .int (iz (0)), .ref bg, .ref pm, .int (iz (0))])), (r2, .inr (12, [.int (iz (s2)), .ref b2])), (b2, zaI (G.2 1) N2 (f2)), (r3, .inr (12, [.int (iz (s3)), .ref b3])), (b3, zaI (G.2 1) N3 (f3)), (r4, .inr (12, [.int (iz (s4)), .ref b4])), (b4, zaI (G.2 1) N4 (f4)), (r5, .inr (12, [.int (iz (s5)), .ref b5])), (b5, zaI (G.2 1) N5 (f5)), (r7, .inr (12, [.int (iz (s7)), .ref b7])), (b7, zaI (G.2 1) N7 (f7)), (r8, .inr (12, [.int (iz (s8)), .ref b8])), (b8, zaI (G.2 1) N8 (f8)), (r9, .inr (12, [.int (iz (s9)), .ref b9])), (b9, zaI (G.2 1) N9 (f9))] := hD
    have q9 : tmw f9 N9 s9 (((100000 + po) ^ pn.toNat - 100000 ^ pn.toNat) * (100000 : Int)) := q9
    refine zc_r (wr := [(r2, .inr (12, [.int (iz (s2)), .ref b2])), (b2, zaI (G.2 1) N2 (f2)), (r3, .inr (12, [.int (iz (s3)), .ref b3])), (b3, zaI (G.2 1) N3 (f3)), (r4, .inr (12, [.int (iz (s4)), .ref b4])), (b4, zaI (G.2 1) N4 (f4)), (r7, .inr (12, [.int (iz (s7)), .ref b7])), (b7, zaI (G.2 1) N7 (f7)), (r8, .inr (12, [.int (iz (s8)), .ref b8])), (b8, zaI (G.2 1) N8 (f8))]) (va_runV (As := [.ref r5, .ref r9]) (rest := []) ⟨hx, hb, hml, hown, hts⟩ (c_X12_rounded l G x th (.ref am) .null (.ref tb) (.ref lv) (.int (iz (0))) (.ref wt) (.int (iz (0))) (.ref bg) (.ref pm) (.int (iz (0))) r5 b5 f5 N5 s5 r9 b9 f9 N9 s9 (mo * po * (100000 + po) ^ pn.toNat) (((100000 + po) ^ pn.toNat - 100000 ^ pn.toNat) * 100000) (q5) (q9) (ha.2.2.2.2.2.1) (ha.2.2.1) (ha.2.2.2.2.2.2.1) H.size) (cwV 2 hts gX12_instalment_X12_rounded rfl rfl rfl (by decide +kernel) ⟨Nat.le_of_ble_eq_true rfl, Nat.le_of_ble_eq_true rfl⟩) (zpV hKX hP hD [0, 7, 8, 13, 14] rfl rfl 0 13 rfl rfl) rfl rfl hl.1 rfl (lv_room (Nat.le_of_ble_eq_true rfl)) dX12_instalment_72 ⟨(by first | exact Nat.le_of_ble_eq_true rfl | (show _ ≤ (1200 : Nat); omega)), (by show _ ≤ (120000 : Nat); omega)⟩) hP hD hS hA [0, 7, 8, 13, 14] [1, 2, 3, 4, 5, 6, 9, 10, 11, 12] rfl rfl rfl (by decide) (fun u_20 r10 H locs q10 hP hD hS => ?_)
    obtain ⟨b10, f10, N10, s10⟩ := u_20
    have hP : va_P G.1 vwCl [(r2, .inr (12, [.int (iz (s2)), .ref b2])), (b2, zaI (G.2 1) N2 (f2)), (r3, .inr (12, [.int (iz (s3)), .ref b3])), (b3, zaI (G.2 1) N3 (f3)), (r4, .inr (12, [.int (iz (s4)), .ref b4])), (b4, zaI (G.2 1) N4 (f4)), (r7, .inr (12, [.int (iz (s7)), .ref b7])), (b7, zaI (G.2 1) N7 (f7)), (r8, .inr (12, [.int (iz (s8)), .ref b8])), (b8, zaI (G.2 1) N8 (f8)), (x, .inr (13, [.int (iz (th)), .int (iz (6)), .ref am, .null, .ref tb, .ref lv, .int (iz (0)), .ref wt, .int (iz (0)), .ref bg, .ref pm, .int (iz (0))])), (r10, .inr (12, [.int (iz (s10)), .ref b10])), (b10, zaI (G.2 1) N10 (f10))] H := hP
    have hD : va_D A [(r2, .inr (12, [.int (iz (s2)), .ref b2])), (b2, zaI (G.2 1) N2 (f2)), (r3, .inr (12, [.int (iz (s3)), .ref b3])), (b3, zaI (G.2 1) N3 (f3)), (r4, .inr (12, [.int (iz (s4)), .ref b4])), (b4, zaI (G.2 1) N4 (f4)), (r7, .inr (12, [.int (iz (s7)), .ref b7])), (b7, zaI (G.2 1) N7 (f7)), (r8, .inr (12, [.int (iz (s8)), .ref b8])), (b8, zaI (G.2 1) N8 (f8)), (x, .inr (13, [.int (iz (th)), .int (iz (6)), .ref am, .null, .ref tb, .ref lv, .int (iz (0)), .ref wt, .int (iz (0)), .ref bg, .ref pm, .int (iz (0))])), (r10, .inr (12, [.int (iz (s10)), .ref b10])), (b10, zaI (G.2 1) N10 (f10))] := hD
    have q10 : tmw f10 N10 s10 (zr6 (mo * po * (100000 + po) ^ pn.toNat) (((100000 + po) ^ pn.toNat - 100000 ^ pn.toNat) * 100000)) := q10
    rw [hQ]
    exact zr_aret (ra := r10) (Or.inl ⟨_, rfl⟩) (u := (b10, f10, N10, s10)) hx hb hr hlocks (hP.sub [10, 11, 12] rfl) (hD.sub [10, 11, 12] (by decide) rfl) hS (by first | exact Nat.le_of_ble_eq_true rfl | omega) (by first | exact Nat.le_of_ble_eq_true rfl | omega) dX12_instalment_75 (show tmw f10 N10 s10 (zinst mo po pn) from tpost q10 (zinst_n hp0))
  ·
    have hp0 : po = 0 := by have := h_1; omega
    refine lv_aload_n hx hb dX12_instalment_4 rfl (lv_at hl 0 rfl) ?_
    refine lv_lload_n hx hb dX12_instalment_5 rfl (lv_at hl 1 rfl) ?_
    refine zc_r (wr := [(x, .inr (13, [.int (iz (th)), .int (iz (6)), .ref am, .null, .ref tb, .ref lv, .int (iz (0)), .ref wt, .int (iz (0)), .ref bg, .ref pm, .int (iz (0))]))]) (va_runS (As := [.long (lz (mo))]) (rest := [.ref x]) ⟨hx, hb, hml, hown, hts⟩ (c_X11_of l G mo (by omega) H.size) (va_cwS 1 hts gX12_instalment_X11_of rfl rfl rfl (by decide +kernel) ⟨Nat.le_of_ble_eq_true rfl, Nat.le_of_ble_eq_true rfl⟩) (zpS hKX hP hD [] rfl rfl) rfl rfl hl.1 rfl (lv_room (Nat.le_of_ble_eq_true rfl)) dX12_instalment_6 ⟨(by first | exact Nat.le_of_ble_eq_true rfl | (show _ ≤ (1200 : Nat); omega)), (by show _ ≤ (120000 : Nat); omega)⟩) hP hD hS hA [] [0] rfl rfl rfl (by decide) (fun u_22 r1 H locs q1 hP hD hS => ?_)
    obtain ⟨b1, f1, N1, s1⟩ := u_22
    have hP : va_P G.1 vwCl [(x, .inr (13, [.int (iz (th)), .int (iz (6)), .ref am, .null, .ref tb, .ref lv, .int (iz (0)), .ref wt, .int (iz (0)), .ref bg, .ref pm, .int (iz (0))])), (r1, .inr (12, [.int (iz (s1)), .ref b1])), (b1, zaI (G.2 1) N1 (f1))] H := hP
    have hD : va_D A [(x, .inr (13, [.int (iz (th)), .int (iz (6)), .ref am, .null, .ref tb, .ref lv, .int (iz (0)), .ref wt, .int (iz (0)), .ref bg, .ref pm, .int (iz (0))])), (r1, .inr (12, [.int (iz (s1)), .ref b1])), (b1, zaI (G.2 1) N1 (f1))] := hD
    have q1 : tmw f1 N1 s1 mo := q1
    refine lv_iload hx hb dX12_instalment_9 (lv_at hl 3 rfl) ?_
    refine zr_i2l hx hb (x := pn) (⟨by omega, by omega⟩) dX12_instalment_11 ?_
    refine zc_r (wr := [(x, .inr (13, [.int (iz (th)), .int (iz (6)), .ref am, .null, .ref tb, .ref lv, .int (iz (0)), .ref wt, .int (iz (0)), .ref bg, .ref pm, .int (iz (0))])), (r1, .inr (12, [.int (iz (s1)), .ref b1])), (b1, zaI (G.2 1) N1 (f1))]) (va_runS (As := [.long (lz (pn))]) (rest := [.ref r1, .ref x]) ⟨hx, hb, hml, hown, hts⟩ (c_X11_of l G pn (by omega) H.size) (va_cwS 1 hts gX12_instalment_X11_of rfl rfl rfl (by decide +kernel) ⟨Nat.le_of_ble_eq_true rfl, Nat.le_of_ble_eq_true rfl⟩) (zpS hKX hP hD [] rfl rfl) rfl rfl hl.1 rfl (lv_room (Nat.le_of_ble_eq_true rfl)) dX12_instalment_12 ⟨(by first | exact Nat.le_of_ble_eq_true rfl | (show _ ≤ (1200 : Nat); omega)), (by show _ ≤ (120000 : Nat); omega)⟩) hP hD hS hA [] [0, 1, 2] rfl rfl rfl (by decide) (fun u_24 r2 H locs q2 hP hD hS => ?_)
    obtain ⟨b2, f2, N2, s2⟩ := u_24
    have hP : va_P G.1 vwCl [(x, .inr (13, [.int (iz (th)), .int (iz (6)), .ref am, .null, .ref tb, .ref lv, .int (iz (0)), .ref wt, .int (iz (0)), .ref bg, .ref pm, .int (iz (0))])), (r1, .inr (12, [.int (iz (s1)), .ref b1])), (b1, zaI (G.2 1) N1 (f1)), (r2, .inr (12, [.int (iz (s2)), .ref b2])), (b2, zaI (G.2 1) N2 (f2))] H := hP
    have hD : va_D A [(x, .inr (13, [.int (iz (th)), .int (iz (6)), .ref am, .null, .ref tb, .ref lv, .int (iz (0)), .ref wt, .int (iz (0)), .ref bg, .ref pm, .int (iz (0))])), (r1, .inr (12, [.int (iz (s1)), .ref b1])), (b1, zaI (G.2 1) N1 (f1)), (r2, .inr (12, [.int (iz (s2)), .ref b2])), (b2, zaI (G.2 1) N2 (f2))] := hD
    have q2 : tmw f2 N2 s2 pn := q2
    refine zc_r (wr := []) (va_runV (As := [.ref r1, .ref r2]) (rest := []) ⟨hx, hb, hml, hown, hts⟩ (c_X12_rounded l G x th (.ref am) .null (.ref tb) (.ref lv) (.int (iz (0))) (.ref wt) (.int (iz (0))) (.ref bg) (.ref pm) (.int (iz (0))) r1 b1 f1 N1 s1 r2 b2 f2 N2 s2 mo pn (q1) (q2) (by omega) (tr_120 (by omega)) (tr_120 (by omega)) H.size) (cwV 2 hts gX12_instalment_X12_rounded rfl rfl rfl (by decide +kernel) ⟨Nat.le_of_ble_eq_true rfl, Nat.le_of_ble_eq_true rfl⟩) (zpV hKX hP hD [0, 1, 2, 3, 4] rfl rfl 0 13 rfl rfl) rfl rfl hl.1 rfl (lv_room (Nat.le_of_ble_eq_true rfl)) dX12_instalment_15 ⟨(by first | exact Nat.le_of_ble_eq_true rfl | (show _ ≤ (1200 : Nat); omega)), (by show _ ≤ (120000 : Nat); omega)⟩) hP hD hS hA [0, 1, 2, 3, 4] [] rfl rfl rfl (by decide) (fun u_26 r3 H locs q3 hP hD hS => ?_)
    obtain ⟨b3, f3, N3, s3⟩ := u_26
    have hP : va_P G.1 vwCl [(x, .inr (13, [.int (iz (th)), .int (iz (6)), .ref am, .null, .ref tb, .ref lv, .int (iz (0)), .ref wt, .int (iz (0)), .ref bg, .ref pm, .int (iz (0))])), (r3, .inr (12, [.int (iz (s3)), .ref b3])), (b3, zaI (G.2 1) N3 (f3))] H := hP
    have hD : va_D A [(x, .inr (13, [.int (iz (th)), .int (iz (6)), .ref am, .null, .ref tb, .ref lv, .int (iz (0)), .ref wt, .int (iz (0)), .ref bg, .ref pm, .int (iz (0))])), (r3, .inr (12, [.int (iz (s3)), .ref b3])), (b3, zaI (G.2 1) N3 (f3))] := hD
    have q3 : tmw f3 N3 s3 (zr6 mo pn) := q3
    rw [hQ]
    exact zr_aret (ra := r3) (Or.inl ⟨_, rfl⟩) (u := (b3, f3, N3, s3)) hx hb hr hlocks hP hD hS (by first | exact Nat.le_of_ble_eq_true rfl | omega) (by first | exact Nat.le_of_ble_eq_true rfl | omega) dX12_instalment_18 (show tmw f3 N3 s3 (zinst mo po pn) from tpost q3 (zinst_0 hp0))

def rm_c_X12_lend_x : Room := { frames := 2, cells := 0, slots := 0, locals := 45 }
set_option maxHeartbeats 1000000 in
set_option maxRecDepth 100000 in
theorem c_X12_lend_x (l : Launch) (G : zG) (x : Nat) (am : Nat) (tb : Nat) (lv : Nat) (wt : Nat) (bg : Nat) (pm : Nat) (th : Int) (mo : Int) (po : Int) (pn : Int) (h0 : -9223372036854775808 ≤ mo ∧ mo < 9223372036854775808) (h01 : -2147483648 ≤ po ∧ po < 2147483648) (h02 : -2147483648 ≤ pn ∧ pn < 2147483648) (h1 : ¬ (1 ≤ mo ∧ mo ≤ 1000000000 ∧ 0 ≤ po ∧ po ≤ 20000 ∧ 1 ≤ pn ∧ pn ≤ 60)) : zM l G yX12_lend wsX12_lend rm_c_X12_lend_x [.ref x, .long (lz (mo)), .int (iz (po)), .int (iz (pn))] [(x, .inr (13, [.int (iz (th)), .int (iz (6)), .ref am, .null, .ref tb, .ref lv, .int (iz (0)), .ref wt, .int (iz (0)), .ref bg, .ref pm, .int (iz (0))]))] (fun A => zQl G (fun (z : Int) (th2 : Int) => z = 0 ∧ th2 = 1) (fun (th2 : Int) => [(x, .inr (13, [.int (iz (th2)), .int (iz (6)), .ref am, .null, .ref tb, .ref lv, .int (iz (0)), .ref wt, .int (iz (0)), .ref bg, .ref pm, .int (iz (0))]))]) A) 0 0 := by
  refine zM_of (cc := cX12_lend) (maxL := 8) (ret := (some .long)) (by decide) rfl (Nat.le_of_ble_eq_true rfl) ?_
  intro p e s m below meth c ls A Q hQ hx hb hr hts hown hlocks hml hnm hKX hP hD hA hS hl
  have hK := hKX.1
  obtain ⟨H, hH⟩ : ∃ h, h = s.heap := ⟨_, rfl⟩
  obtain ⟨locs, hlo⟩ : ∃ h : List Loc, h = [] := ⟨_, rfl⟩
  have hS : va_S A s.heap H locs := by rw [hH, hlo]; exact hS
  have hP : va_P G.1 vwCl [(x, .inr (13, [.int (iz (th)), .int (iz (6)), .ref am, .null, .ref tb, .ref lv, .int (iz (0)), .ref wt, .int (iz (0)), .ref bg, .ref pm, .int (iz (0))]))] H := by rw [hH]; exact hP
  have hD : va_D A [(x, .inr (13, [.int (iz (th)), .int (iz (6)), .ref am, .null, .ref tb, .ref lv, .int (iz (0)), .ref wt, .int (iz (0)), .ref bg, .ref pm, .int (iz (0))]))] := hD
  have hl : lv_has ls 8 [(0, .ref x), (1, .long (lz (mo))), (3, .int (iz (po))), (4, .int (iz (pn)))] := hl
  rw [← hH, ← hlo]
  refine lv_lload_n hx hb dX12_lend_0 rfl (lv_at hl 1 rfl) ?_
  refine lv_lconst (v := lz (1)) hx hb dX12_lend_1 rfl ?_
  refine zr_ldc2 (z := 1000000000) hx hb hown (hts (.constantLong RX12 121 (1000000000)) (by decide +kernel)) rfl dX12_lend_2 ?_
  refine zc_z (wr := [(x, .inr (13, [.int (iz (th)), .int (iz (6)), .ref am, .null, .ref tb, .ref lv, .int (iz (0)), .ref wt, .int (iz (0)), .ref bg, .ref pm, .int (iz (0))]))]) (va_runS (As := [.long (lz (mo)), .long (lz (1)), .long (lz (1000000000))]) (rest := []) ⟨hx, hb, hml, hown, hts⟩ (c_X12_in l G mo 1 1000000000 (by omega) (by omega) (by omega) H.size) (va_cwS 3 hts gX12_lend_X12_in rfl rfl rfl (by decide +kernel) ⟨Nat.le_of_ble_eq_true rfl, Nat.le_of_ble_eq_true rfl⟩) (zpS hKX hP hD [] rfl rfl) rfl rfl hl.1 rfl (lv_room (Nat.le_of_ble_eq_true rfl)) dX12_lend_5 ⟨(by first | exact Nat.le_of_ble_eq_true rfl | (show _ ≤ (0 : Nat); omega)), (by first | exact Nat.le_of_ble_eq_true rfl | (show _ ≤ (0 : Nat); omega))⟩) hP hD hS hA [] [0] rfl rfl rfl (by decide) (fun y1 u_1 H locs hy1 hP hD hS => ?_)
  have hP : va_P G.1 vwCl [(x, .inr (13, [.int (iz (th)), .int (iz (6)), .ref am, .null, .ref tb, .ref lv, .int (iz (0)), .ref wt, .int (iz (0)), .ref bg, .ref pm, .int (iz (0))]))] H := hP
  have hD : va_D A [(x, .inr (13, [.int (iz (th)), .int (iz (6)), .ref am, .null, .ref tb, .ref lv, .int (iz (0)), .ref wt, .int (iz (0)), .ref bg, .ref pm, .int (iz (0))]))] := hD
  have hy1 : y1 = decide ((1 : Int) ≤ mo ∧ mo ≤ (1000000000 : Int)) := hy1
  refine zr_ifz_eq (tgt := 35) hx hb dX12_lend_8 (by decide) (fun h_3 => ?_) (fun h_3 => ?_)
  ·
    have hzy1 := of_decide_eq_false (hy1.symm.trans h_3)
    refine lv_iconst (v := iz (0)) hx hb dX12_lend_35 rfl ?_
    refine lv_istore (lv' := [(5, .int (iz (0))), (0, .ref x), (1, .long (lz (mo))), (3, .int (iz (po))), (4, .int (iz (pn)))]) hx hb dX12_lend_36 hl (by decide) rfl (fun ls hl => ?_)
    refine lv_iload hx hb dX12_lend_38 (lv_at hl 0 rfl) ?_
    refine zr_if_eq (x := 0) (tgt := 57) hx hb (⟨by omega, by omega⟩) dX12_lend_40 (by decide) (fun h_4 => ?_) (fun h_4 => ?_)
    ·
      refine lv_null hx hb dX12_lend_57 ?_
      refine lv_astoreN (lv' := [(6, .null), (5, .int (iz (0))), (0, .ref x), (1, .long (lz (mo))), (3, .int (iz (po))), (4, .int (iz (pn)))]) hx hb dX12_lend_58 hl (by decide) rfl (fun ls hl => ?_)
      refine lv_iload hx hb dX12_lend_60 (lv_at hl 1 rfl) ?_
      refine zr_if_eq (x := 0) (tgt := 74) hx hb (⟨by omega, by omega⟩) dX12_lend_62 (by decide) (fun h_5 => ?_) (fun h_5 => ?_)
      ·
        refine lv_null hx hb dX12_lend_74 ?_
        refine lv_astoreN (lv' := [(7, .null), (6, .null), (5, .int (iz (0))), (0, .ref x), (1, .long (lz (mo))), (3, .int (iz (po))), (4, .int (iz (pn)))]) hx hb dX12_lend_75 hl (by decide) rfl (fun ls hl => ?_)
        refine lv_aload_n hx hb dX12_lend_77 rfl (lv_at hl 3 rfl) ?_
        refine lv_iload hx hb dX12_lend_78 (lv_at hl 2 rfl) ?_
        refine lv_aloadN hx hb dX12_lend_80 (lv_at hl 0 rfl) ?_
        refine lv_ifnullN (tgt := 89) hx hb dX12_lend_82 (by decide) ?_
        refine lv_iconst (v := iz (0)) hx hb dX12_lend_89 rfl ?_
        refine lv_iconst (v := iz (1)) hx hb dX12_lend_90 rfl ?_
        refine zc_z (wr := []) (va_runV (As := [.int (iz (0)), .int (iz (0)), .int (iz (1))]) (rest := []) ⟨hx, hb, hml, hown, hts⟩ (c_X12_passes l G x th (.ref am) .null (.ref tb) (.ref lv) (.int (iz (0))) (.ref wt) (.int (iz (0))) (.ref bg) (.ref pm) (.int (iz (0))) 6 false false true  H.size) (cwV 3 hts gX12_lend_X12_passes rfl rfl rfl (by decide +kernel) ⟨Nat.le_of_ble_eq_true rfl, Nat.le_of_ble_eq_true rfl⟩) (zpV hKX hP hD [0] rfl rfl 0 13 rfl rfl) rfl rfl hl.1 rfl (lv_room (Nat.le_of_ble_eq_true rfl)) dX12_lend_91 ⟨(by first | exact Nat.le_of_ble_eq_true rfl | (show _ ≤ (0 : Nat); omega)), (by first | exact Nat.le_of_ble_eq_true rfl | (show _ ≤ (0 : Nat); omega))⟩) hP hD hS hA [0] [] rfl rfl rfl (by decide) (fun pz u_6 H locs hp hP hD hS => ?_)
        generalize u_6 = thp at hP hD hp
        have hP : va_P G.1 vwCl [(x, .inr (13, [.int (iz (thp)), .int (iz ((6 : Int))), .ref am, .null, .ref tb, .ref lv, .int (iz (0)), .ref wt, .int (iz (0)), .ref bg, .ref pm, .int (iz (0))]))] H := hP
        have hD : va_D A [(x, .inr (13, [.int (iz (thp)), .int (iz ((6 : Int))), .ref am, .null, .ref tb, .ref lv, .int (iz (0)), .ref wt, .int (iz (0)), .ref bg, .ref pm, .int (iz (0))]))] := hD
        have hp : pz = (false && false && true) ∧ thp = zcode false false true := hp
        rw [show pz = false from hp.1]
        have htp := hp.2
        refine zr_ifz_ne (tgt := 99) hx hb dX12_lend_94 (by decide) (fun h_8 => ?_) (fun h_8 => ?_)
        · exact absurd h_8 (by decide)
        ·
          refine lv_lconst (v := lz (0)) hx hb dX12_lend_97 rfl ?_
          rw [hQ]
          exact zr_lret (z := 0) (u := (thp)) hx hb hr hlocks hP hD hS (by first | exact Nat.le_of_ble_eq_true rfl | omega) (by first | exact Nat.le_of_ble_eq_true rfl | omega) dX12_lend_98 (show 0 = 0 ∧ thp = 1 from ⟨rfl, htp⟩)
      · exact absurd h_5 (by omega)
    · exact absurd h_4 (by omega)
  ·
    have hzy1 := of_decide_eq_true (hy1.symm.trans h_3)
    refine lv_iload_n hx hb dX12_lend_11 rfl (lv_at hl 2 rfl) ?_
    refine zc_z (wr := [(x, .inr (13, [.int (iz (th)), .int (iz (6)), .ref am, .null, .ref tb, .ref lv, .int (iz (0)), .ref wt, .int (iz (0)), .ref bg, .ref pm, .int (iz (0))]))]) (va_runS (As := [.int (iz (po))]) (rest := []) ⟨hx, hb, hml, hown, hts⟩ (c_X12_isRate l G po (by omega) H.size) (va_cwS 1 hts gX12_lend_X12_isRate rfl rfl rfl (by decide +kernel) ⟨Nat.le_of_ble_eq_true rfl, Nat.le_of_ble_eq_true rfl⟩) (zpS hKX hP hD [] rfl rfl) rfl rfl hl.1 rfl (lv_room (Nat.le_of_ble_eq_true rfl)) dX12_lend_12 ⟨(by first | exact Nat.le_of_ble_eq_true rfl | (show _ ≤ (0 : Nat); omega)), (by first | exact Nat.le_of_ble_eq_true rfl | (show _ ≤ (0 : Nat); omega))⟩) hP hD hS hA [] [0] rfl rfl rfl (by decide) (fun y2 u_9 H locs hy2 hP hD hS => ?_)
    have hP : va_P G.1 vwCl [(x, .inr (13, [.int (iz (th)), .int (iz (6)), .ref am, .null, .ref tb, .ref lv, .int (iz (0)), .ref wt, .int (iz (0)), .ref bg, .ref pm, .int (iz (0))]))] H := hP
    have hD : va_D A [(x, .inr (13, [.int (iz (th)), .int (iz (6)), .ref am, .null, .ref tb, .ref lv, .int (iz (0)), .ref wt, .int (iz (0)), .ref bg, .ref pm, .int (iz (0))]))] := hD
    have hy2 : y2 = decide (0 ≤ po ∧ po ≤ 20000) := hy2
    refine zr_ifz_eq (tgt := 35) hx hb dX12_lend_15 (by decide) (fun h_11 => ?_) (fun h_11 => ?_)
    ·
      have hzy2 := of_decide_eq_false (hy2.symm.trans h_11)
      refine lv_iconst (v := iz (0)) hx hb dX12_lend_35 rfl ?_
      refine lv_istore (lv' := [(5, .int (iz (0))), (0, .ref x), (1, .long (lz (mo))), (3, .int (iz (po))), (4, .int (iz (pn)))]) hx hb dX12_lend_36 hl (by decide) rfl (fun ls hl => ?_)
      refine lv_iload hx hb dX12_lend_38 (lv_at hl 0 rfl) ?_
      refine zr_if_eq (x := 0) (tgt := 57) hx hb (⟨by omega, by omega⟩) dX12_lend_40 (by decide) (fun h_12 => ?_) (fun h_12 => ?_)
      ·
        refine lv_null hx hb dX12_lend_57 ?_
        refine lv_astoreN (lv' := [(6, .null), (5, .int (iz (0))), (0, .ref x), (1, .long (lz (mo))), (3, .int (iz (po))), (4, .int (iz (pn)))]) hx hb dX12_lend_58 hl (by decide) rfl (fun ls hl => ?_)
        refine lv_iload hx hb dX12_lend_60 (lv_at hl 1 rfl) ?_
        refine zr_if_eq (x := 0) (tgt := 74) hx hb (⟨by omega, by omega⟩) dX12_lend_62 (by decide) (fun h_13 => ?_) (fun h_13 => ?_)
        ·
          refine lv_null hx hb dX12_lend_74 ?_
          refine lv_astoreN (lv' := [(7, .null), (6, .null), (5, .int (iz (0))), (0, .ref x), (1, .long (lz (mo))), (3, .int (iz (po))), (4, .int (iz (pn)))]) hx hb dX12_lend_75 hl (by decide) rfl (fun ls hl => ?_)
          refine lv_aload_n hx hb dX12_lend_77 rfl (lv_at hl 3 rfl) ?_
          refine lv_iload hx hb dX12_lend_78 (lv_at hl 2 rfl) ?_
          refine lv_aloadN hx hb dX12_lend_80 (lv_at hl 0 rfl) ?_
          refine lv_ifnullN (tgt := 89) hx hb dX12_lend_82 (by decide) ?_
          refine lv_iconst (v := iz (0)) hx hb dX12_lend_89 rfl ?_
          refine lv_iconst (v := iz (1)) hx hb dX12_lend_90 rfl ?_
          refine zc_z (wr := []) (va_runV (As := [.int (iz (0)), .int (iz (0)), .int (iz (1))]) (rest := []) ⟨hx, hb, hml, hown, hts⟩ (c_X12_passes l G x th (.ref am) .null (.ref tb) (.ref lv) (.int (iz (0))) (.ref wt) (.int (iz (0))) (.ref bg) (.ref pm) (.int (iz (0))) 6 false false true  H.size) (cwV 3 hts gX12_lend_X12_passes rfl rfl rfl (by decide +kernel) ⟨Nat.le_of_ble_eq_true rfl, Nat.le_of_ble_eq_true rfl⟩) (zpV hKX hP hD [0] rfl rfl 0 13 rfl rfl) rfl rfl hl.1 rfl (lv_room (Nat.le_of_ble_eq_true rfl)) dX12_lend_91 ⟨(by first | exact Nat.le_of_ble_eq_true rfl | (show _ ≤ (0 : Nat); omega)), (by first | exact Nat.le_of_ble_eq_true rfl | (show _ ≤ (0 : Nat); omega))⟩) hP hD hS hA [0] [] rfl rfl rfl (by decide) (fun pz u_14 H locs hp hP hD hS => ?_)
          generalize u_14 = thp at hP hD hp
          have hP : va_P G.1 vwCl [(x, .inr (13, [.int (iz (thp)), .int (iz ((6 : Int))), .ref am, .null, .ref tb, .ref lv, .int (iz (0)), .ref wt, .int (iz (0)), .ref bg, .ref pm, .int (iz (0))]))] H := hP
          have hD : va_D A [(x, .inr (13, [.int (iz (thp)), .int (iz ((6 : Int))), .ref am, .null, .ref tb, .ref lv, .int (iz (0)), .ref wt, .int (iz (0)), .ref bg, .ref pm, .int (iz (0))]))] := hD
          have hp : pz = (false && false && true) ∧ thp = zcode false false true := hp
          rw [show pz = false from hp.1]
          have htp := hp.2
          refine zr_ifz_ne (tgt := 99) hx hb dX12_lend_94 (by decide) (fun h_16 => ?_) (fun h_16 => ?_)
          · exact absurd h_16 (by decide)
          ·
            refine lv_lconst (v := lz (0)) hx hb dX12_lend_97 rfl ?_
            rw [hQ]
            exact zr_lret (z := 0) (u := (thp)) hx hb hr hlocks hP hD hS (by first | exact Nat.le_of_ble_eq_true rfl | omega) (by first | exact Nat.le_of_ble_eq_true rfl | omega) dX12_lend_98 (show 0 = 0 ∧ thp = 1 from ⟨rfl, htp⟩)
        · exact absurd h_13 (by omega)
      · exact absurd h_12 (by omega)
    ·
      have hzy2 := of_decide_eq_true (hy2.symm.trans h_11)
      refine lv_iload hx hb dX12_lend_18 (lv_at hl 3 rfl) ?_
      refine zr_i2l hx hb (x := pn) (⟨by omega, by omega⟩) dX12_lend_20 ?_
      refine lv_lconst (v := lz (1)) hx hb dX12_lend_21 rfl ?_
      refine zr_ldc2 (z := 60) hx hb hown (hts (.constantLong RX12 208 (60)) (by decide +kernel)) rfl dX12_lend_22 ?_
      refine zc_z (wr := [(x, .inr (13, [.int (iz (th)), .int (iz (6)), .ref am, .null, .ref tb, .ref lv, .int (iz (0)), .ref wt, .int (iz (0)), .ref bg, .ref pm, .int (iz (0))]))]) (va_runS (As := [.long (lz (pn)), .long (lz (1)), .long (lz (60))]) (rest := []) ⟨hx, hb, hml, hown, hts⟩ (c_X12_in l G pn 1 60 (by omega) (by omega) (by omega) H.size) (va_cwS 3 hts gX12_lend_X12_in rfl rfl rfl (by decide +kernel) ⟨Nat.le_of_ble_eq_true rfl, Nat.le_of_ble_eq_true rfl⟩) (zpS hKX hP hD [] rfl rfl) rfl rfl hl.1 rfl (lv_room (Nat.le_of_ble_eq_true rfl)) dX12_lend_25 ⟨(by first | exact Nat.le_of_ble_eq_true rfl | (show _ ≤ (0 : Nat); omega)), (by first | exact Nat.le_of_ble_eq_true rfl | (show _ ≤ (0 : Nat); omega))⟩) hP hD hS hA [] [0] rfl rfl rfl (by decide) (fun y3 u_17 H locs hy3 hP hD hS => ?_)
      have hP : va_P G.1 vwCl [(x, .inr (13, [.int (iz (th)), .int (iz (6)), .ref am, .null, .ref tb, .ref lv, .int (iz (0)), .ref wt, .int (iz (0)), .ref bg, .ref pm, .int (iz (0))]))] H := hP
      have hD : va_D A [(x, .inr (13, [.int (iz (th)), .int (iz (6)), .ref am, .null, .ref tb, .ref lv, .int (iz (0)), .ref wt, .int (iz (0)), .ref bg, .ref pm, .int (iz (0))]))] := hD
      have hy3 : y3 = decide ((1 : Int) ≤ pn ∧ pn ≤ (60 : Int)) := hy3
      refine zr_ifz_eq (tgt := 35) hx hb dX12_lend_28 (by decide) (fun h_19 => ?_) (fun h_19 => ?_)
      ·
        have hzy3 := of_decide_eq_false (hy3.symm.trans h_19)
        refine lv_iconst (v := iz (0)) hx hb dX12_lend_35 rfl ?_
        refine lv_istore (lv' := [(5, .int (iz (0))), (0, .ref x), (1, .long (lz (mo))), (3, .int (iz (po))), (4, .int (iz (pn)))]) hx hb dX12_lend_36 hl (by decide) rfl (fun ls hl => ?_)
        refine lv_iload hx hb dX12_lend_38 (lv_at hl 0 rfl) ?_
        refine zr_if_eq (x := 0) (tgt := 57) hx hb (⟨by omega, by omega⟩) dX12_lend_40 (by decide) (fun h_20 => ?_) (fun h_20 => ?_)
        ·
          refine lv_null hx hb dX12_lend_57 ?_
          refine lv_astoreN (lv' := [(6, .null), (5, .int (iz (0))), (0, .ref x), (1, .long (lz (mo))), (3, .int (iz (po))), (4, .int (iz (pn)))]) hx hb dX12_lend_58 hl (by decide) rfl (fun ls hl => ?_)
          refine lv_iload hx hb dX12_lend_60 (lv_at hl 1 rfl) ?_
          refine zr_if_eq (x := 0) (tgt := 74) hx hb (⟨by omega, by omega⟩) dX12_lend_62 (by decide) (fun h_21 => ?_) (fun h_21 => ?_)
          ·
            refine lv_null hx hb dX12_lend_74 ?_
            refine lv_astoreN (lv' := [(7, .null), (6, .null), (5, .int (iz (0))), (0, .ref x), (1, .long (lz (mo))), (3, .int (iz (po))), (4, .int (iz (pn)))]) hx hb dX12_lend_75 hl (by decide) rfl (fun ls hl => ?_)
            refine lv_aload_n hx hb dX12_lend_77 rfl (lv_at hl 3 rfl) ?_
            refine lv_iload hx hb dX12_lend_78 (lv_at hl 2 rfl) ?_
            refine lv_aloadN hx hb dX12_lend_80 (lv_at hl 0 rfl) ?_
            refine lv_ifnullN (tgt := 89) hx hb dX12_lend_82 (by decide) ?_
            refine lv_iconst (v := iz (0)) hx hb dX12_lend_89 rfl ?_
            refine lv_iconst (v := iz (1)) hx hb dX12_lend_90 rfl ?_
            refine zc_z (wr := []) (va_runV (As := [.int (iz (0)), .int (iz (0)), .int (iz (1))]) (rest := []) ⟨hx, hb, hml, hown, hts⟩ (c_X12_passes l G x th (.ref am) .null (.ref tb) (.ref lv) (.int (iz (0))) (.ref wt) (.int (iz (0))) (.ref bg) (.ref pm) (.int (iz (0))) 6 false false true  H.size) (cwV 3 hts gX12_lend_X12_passes rfl rfl rfl (by decide +kernel) ⟨Nat.le_of_ble_eq_true rfl, Nat.le_of_ble_eq_true rfl⟩) (zpV hKX hP hD [0] rfl rfl 0 13 rfl rfl) rfl rfl hl.1 rfl (lv_room (Nat.le_of_ble_eq_true rfl)) dX12_lend_91 ⟨(by first | exact Nat.le_of_ble_eq_true rfl | (show _ ≤ (0 : Nat); omega)), (by first | exact Nat.le_of_ble_eq_true rfl | (show _ ≤ (0 : Nat); omega))⟩) hP hD hS hA [0] [] rfl rfl rfl (by decide) (fun pz u_22 H locs hp hP hD hS => ?_)
            generalize u_22 = thp at hP hD hp
            have hP : va_P G.1 vwCl [(x, .inr (13, [.int (iz (thp)), .int (iz ((6 : Int))), .ref am, .null, .ref tb, .ref lv, .int (iz (0)), .ref wt, .int (iz (0)), .ref bg, .ref pm, .int (iz (0))]))] H := hP
            have hD : va_D A [(x, .inr (13, [.int (iz (thp)), .int (iz ((6 : Int))), .ref am, .null, .ref tb, .ref lv, .int (iz (0)), .ref wt, .int (iz (0)), .ref bg, .ref pm, .int (iz (0))]))] := hD
            have hp : pz = (false && false && true) ∧ thp = zcode false false true := hp
            rw [show pz = false from hp.1]
            have htp := hp.2
            refine zr_ifz_ne (tgt := 99) hx hb dX12_lend_94 (by decide) (fun h_24 => ?_) (fun h_24 => ?_)
            · exact absurd h_24 (by decide)
            ·
              refine lv_lconst (v := lz (0)) hx hb dX12_lend_97 rfl ?_
              rw [hQ]
              exact zr_lret (z := 0) (u := (thp)) hx hb hr hlocks hP hD hS (by first | exact Nat.le_of_ble_eq_true rfl | omega) (by first | exact Nat.le_of_ble_eq_true rfl | omega) dX12_lend_98 (show 0 = 0 ∧ thp = 1 from ⟨rfl, htp⟩)
          · exact absurd h_21 (by omega)
        · exact absurd h_20 (by omega)
      ·
        have hzy3 := of_decide_eq_true (hy3.symm.trans h_19)
        exact absurd h1 (by omega)
