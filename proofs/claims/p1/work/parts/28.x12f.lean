-- THE REFERENCE ON A FRESH OBJECT: worth and signAt of no amounts (laid by wip/walk/x12f.py)
theorem tcz_70 : 0 ≤ (0 : Int) ∧ (0 : Int) ≤ 10000 ^ 70 := by decide +kernel
theorem tcz_8 : 0 ≤ (0 : Int) ∧ (0 : Int) ≤ 10000 ^ 8 := by decide +kernel
theorem tcz_78 : 0 ≤ (0 : Int) ∧ (0 : Int) ≤ 10000 ^ 78 := by decide +kernel
theorem tcz_1 : 0 ≤ (1 : Int) ∧ (1 : Int) ≤ 10000 ^ 70 := by decide +kernel
theorem tcz_p : 0 ≤ (100000 : Int) ∧ (100000 : Int) ≤ 10000 ^ 8 := by decide +kernel
theorem tcz_sum (a b : Int) : 0 * a + b * 0 = 0 := by rw [Int.zero_mul, Int.mul_zero]; rfl
theorem tcz_pow {i : Int} (h : 1 ≤ i) : (100000 : Int) ^ i.toNat * 100000 = 100000 ^ (i + 1).toNat := by
  rw [show (i + 1).toNat = i.toNat + 1 by omega, Int.pow_succ]
theorem tcz_pw {pe : Int} (h : 0 ≤ pe ∧ pe ≤ 41) : 1 ≤ (100000 : Int) ^ pe.toNat ∧ (100000 : Int) ^ pe.toNat ≤ 10000 ^ 62 := by
  have := zrate_pow (po := 0) (by omega) h
  rw [Int.add_zero] at this; exact this
theorem tcz_pr {po pe : Int} (h : 0 ≤ po ∧ po ≤ 20000) (hp : 0 ≤ pe ∧ pe ≤ 40) : 1 ≤ (100000 + po) ^ (40 - pe).toNat * 100000 ^ pe.toNat ∧ (100000 + po) ^ (40 - pe).toNat * 100000 ^ pe.toNat ≤ 10000 ^ 62 ∧ (((100000 + po) ^ (40 - pe).toNat).natAbs : Int) * (((100000 : Int) ^ pe.toNat).natAbs : Int) < 10000 ^ 128 := by
  have a := zrate_pow h (show 0 ≤ 40 - pe ∧ 40 - pe ≤ 41 by omega)
  have b := tcz_pw (pe := pe) (by omega)
  have c := zpw_le (a := 100000) (b := 100000 + po) (by omega) (by omega) pe.toNat
  have d : (100000 + po) ^ (40 - pe).toNat * 100000 ^ pe.toNat ≤ (100000 + po) ^ (40 - pe).toNat * (100000 + po) ^ pe.toNat := Int.mul_le_mul_of_nonneg_left c (by omega)
  have e : (100000 + po) ^ (40 - pe).toNat * (100000 + po) ^ pe.toNat = (100000 + po) ^ (40 : Int).toNat := by
    rw [← Int.pow_add, show (40 - pe).toNat + pe.toNat = (40 : Int).toNat by omega]
  have f := zrate_pow (k := 40) h (by decide)
  have g : 1 * 1 ≤ (100000 + po) ^ (40 - pe).toNat * 100000 ^ pe.toNat := Int.mul_le_mul a.1 b.1 (by decide) (by omega)
  have k : (10000 : Int) ^ 62 < 10000 ^ 128 := by decide +kernel
  refine ⟨by omega, by omega, ?_⟩
  rw [show (((100000 + po) ^ (40 - pe).toNat).natAbs : Int) = (100000 + po) ^ (40 - pe).toNat by omega, show (((100000 : Int) ^ pe.toNat).natAbs : Int) = (100000 : Int) ^ pe.toNat by omega]
  omega
theorem zr6_0 {b : Int} (h : 0 < b) : zr6 0 b = 0 := by
  unfold zr6
  rw [if_neg (by omega), zhe_ex (a := 0) rfl h (Int.zero_emod b), Int.zero_ediv]
theorem tmw_s0 {f : Int → Int} {N : Nat} {s : Int} (h : tmw f N s 0) : s = 0 := h.sgn
def rm_c_X12_carried : Room := { frames := 3, cells := 1300, slots := 110000, locals := 68 }
theorem iw_X12_carried_X12 : ∀ w ∈ wsX120, w ∈ wsX12_carried := by decide +kernel
set_option maxHeartbeats 1000000 in
set_option maxRecDepth 100000 in
theorem c_X12_carried (l : Launch) (G : zG) (nA : Nat) (nB : Nat) (nE : Nat) (x : Nat) (am : Nat) (tb : Nat) (lv : Nat) (wt : Nat) (bg : Nat) (pm : Nat) (th : Int) (po : Int) (h1 : 0 ≤ po ∧ po ≤ 20000) : zMe l (zE G nA nB nE) G yX12_carried wsX12_carried rm_c_X12_carried [.ref x, .int (iz (po))] [(x, .inr (13, [.int (iz (th)), .int (iz (6)), .ref am, .null, .ref tb, .ref lv, .int (iz (0)), .ref wt, .int (iz (0)), .ref bg, .ref pm, .int (iz (0))])), (am, zaL (G.2 0) 41 (fun _ => 0))] (fun A => zQr G (fun (u : (Nat × (Int → Int) × Nat × Int)) (ra : Nat) => tmw u.2.1 u.2.2.1 u.2.2.2 0) (fun (u : (Nat × (Int → Int) × Nat × Int)) (ra : Nat) => [(x, .inr (13, [.int (iz (th)), .int (iz (6)), .ref am, .null, .ref tb, .ref lv, .int (iz (0)), .ref wt, .int (iz (0)), .ref bg, .ref pm, .int (iz (0))])), (am, zaL (G.2 0) 41 (fun _ => 0)), (ra, .inr (12, [.int (iz (u.2.2.2)), .ref u.1])), (u.1, zaI (G.2 1) u.2.2.1 (u.2.1))]) A) 1300 110000 := by
  refine zMe_of (cc := cX12_carried) (maxL := 5) (ret := (some (.object "AnnuityHouseModel$Whole"))) (by decide) rfl (Nat.le_of_ble_eq_true rfl) ?_
  intro p e s m below meth c ls A Q hQ hx hb hr hts hown hlocks hml hnm hKX hE hP hD hA hS hl
  have hK := hKX.1
  have iwX12 := iw_X12_carried_X12
  obtain ⟨H, hH⟩ : ∃ h, h = s.heap := ⟨_, rfl⟩
  obtain ⟨locs, hlo⟩ : ∃ h : List Loc, h = [] := ⟨_, rfl⟩
  have hS : va_S A s.heap H locs := by rw [hH, hlo]; exact hS
  have hP : va_P G.1 vwCl [(x, .inr (13, [.int (iz (th)), .int (iz (6)), .ref am, .null, .ref tb, .ref lv, .int (iz (0)), .ref wt, .int (iz (0)), .ref bg, .ref pm, .int (iz (0))])), (am, zaL (G.2 0) 41 (fun _ => 0))] H := by rw [hH]; exact hP
  have hD : va_D A [(x, .inr (13, [.int (iz (th)), .int (iz (6)), .ref am, .null, .ref tb, .ref lv, .int (iz (0)), .ref wt, .int (iz (0)), .ref bg, .ref pm, .int (iz (0))])), (am, zaL (G.2 0) 41 (fun _ => 0))] := hD
  have hl : lv_has ls 5 [(0, .ref x), (1, .int (iz (po)))] := hl
  rw [← hH, ← hlo]
  refine va_gets hx hb hE.1.1 hS hown (hts (.fieldLink RX12 141 "AnnuityHouseModel" "NOTHING" "LAnnuityHouseModel$Whole;") (by decide +kernel)) (fun _ h9 => h9) dX12_carried_0 ?_
  refine lv_astore_n (lv' := [(2, .ref nA), (0, .ref x), (1, .int (iz (po)))]) hx hb dX12_carried_3 rfl hl (by decide) rfl (fun ls hl => ?_)
  refine lv_lconst (v := lz (1)) hx hb dX12_carried_4 rfl ?_
  refine zc_r (wr := [(x, .inr (13, [.int (iz (th)), .int (iz (6)), .ref am, .null, .ref tb, .ref lv, .int (iz (0)), .ref wt, .int (iz (0)), .ref bg, .ref pm, .int (iz (0))])), (am, zaL (G.2 0) 41 (fun _ => 0))]) (va_runS (As := [.long (lz (1))]) (rest := []) ⟨hx, hb, hml, hown, hts⟩ (c_X11_of l G 1 (by omega) H.size) (va_cwS 1 hts gX12_carried_X11_of rfl rfl rfl (by decide +kernel) ⟨Nat.le_of_ble_eq_true rfl, Nat.le_of_ble_eq_true rfl⟩) (zpS hKX hP hD [] rfl rfl) rfl rfl hl.1 rfl (lv_room (Nat.le_of_ble_eq_true rfl)) dX12_carried_5 ⟨(by first | exact Nat.le_of_ble_eq_true rfl | (show _ ≤ (1300 : Nat); omega)), (by show _ ≤ (110000 : Nat); omega)⟩) hP hD hS hA [] [0, 1] rfl rfl rfl (by decide) (fun u_1 r1 H locs q1 hP hD hS => ?_)
  obtain ⟨b1, f1, N1, s1⟩ := u_1
  have hP : va_P G.1 vwCl [(x, .inr (13, [.int (iz (th)), .int (iz (6)), .ref am, .null, .ref tb, .ref lv, .int (iz (0)), .ref wt, .int (iz (0)), .ref bg, .ref pm, .int (iz (0))])), (am, zaL (G.2 0) 41 (fun _ => 0)), (r1, .inr (12, [.int (iz (s1)), .ref b1])), (b1, zaI (G.2 1) N1 (f1))] H := hP
  have hD : va_D A [(x, .inr (13, [.int (iz (th)), .int (iz (6)), .ref am, .null, .ref tb, .ref lv, .int (iz (0)), .ref wt, .int (iz (0)), .ref bg, .ref pm, .int (iz (0))])), (am, zaL (G.2 0) 41 (fun _ => 0)), (r1, .inr (12, [.int (iz (s1)), .ref b1])), (b1, zaI (G.2 1) N1 (f1))] := hD
  have q1 : tmw f1 N1 s1 (1 : Int) := q1
  refine lv_astore_n (lv' := [(3, .ref r1), (2, .ref nA), (0, .ref x), (1, .int (iz (po)))]) hx hb dX12_carried_8 rfl hl (by decide) rfl (fun ls hl => ?_)
  refine lv_iconst (v := iz (0)) hx hb dX12_carried_9 rfl ?_
  refine lv_istore (lv' := [(4, .int (iz (0))), (3, .ref r1), (2, .ref nA), (0, .ref x), (1, .int (iz (po)))]) hx hb dX12_carried_10 hl (by decide) rfl (fun ls hl => ?_)
  refine lv_iload hx hb dX12_carried_12 (lv_at hl 0 rfl) ?_
  refine lv_bipush (v := iz (41)) hx hb dX12_carried_14 rfl ?_
  refine zr_icmp_ge (x := 0) (y := 41) (tgt := 67) hx hb (⟨by omega, by omega⟩) (⟨by omega, by omega⟩) dX12_carried_16 (by decide) (fun h_3 => ?_) (fun h_3 => ?_)
  · exact absurd h_3 (by omega)
  ·
    refine lv_aload_n hx hb dX12_carried_19 rfl (lv_at hl 2 rfl) ?_
    refine zr_ldc2 (z := 100000) hx hb hown (hts (.constantLong RX12 145 (100000)) (by decide +kernel)) rfl dX12_carried_20 ?_
    refine lv_iload_n hx hb dX12_carried_23 rfl (lv_at hl 4 rfl) ?_
    refine zr_i2l hx hb (x := po) (⟨by omega, by omega⟩) dX12_carried_24 ?_
    refine zr_ladd hx hb dX12_carried_25 ?_
    refine zc_r (wr := [(x, .inr (13, [.int (iz (th)), .int (iz (6)), .ref am, .null, .ref tb, .ref lv, .int (iz (0)), .ref wt, .int (iz (0)), .ref bg, .ref pm, .int (iz (0))])), (am, zaL (G.2 0) 41 (fun _ => 0)), (r1, .inr (12, [.int (iz (s1)), .ref b1])), (b1, zaI (G.2 1) N1 (f1))]) (va_runS (As := [.long (lz (100000 + po))]) (rest := [.ref nA]) ⟨hx, hb, hml, hown, hts⟩ (c_X11_of l G (100000 + po) (by omega) H.size) (va_cwS 1 hts gX12_carried_X11_of rfl rfl rfl (by decide +kernel) ⟨Nat.le_of_ble_eq_true rfl, Nat.le_of_ble_eq_true rfl⟩) (zpS hKX hP hD [] rfl rfl) rfl rfl hl.1 rfl (lv_room (Nat.le_of_ble_eq_true rfl)) dX12_carried_26 ⟨(by first | exact Nat.le_of_ble_eq_true rfl | (show _ ≤ (1300 : Nat); omega)), (by show _ ≤ (110000 : Nat); omega)⟩) hP hD hS hA [] [0, 1, 2, 3] rfl rfl rfl (by decide) (fun u_4 r2 H locs q2 hP hD hS => ?_)
    obtain ⟨b2, f2, N2, s2⟩ := u_4
    have hP : va_P G.1 vwCl [(x, .inr (13, [.int (iz (th)), .int (iz (6)), .ref am, .null, .ref tb, .ref lv, .int (iz (0)), .ref wt, .int (iz (0)), .ref bg, .ref pm, .int (iz (0))])), (am, zaL (G.2 0) 41 (fun _ => 0)), (r1, .inr (12, [.int (iz (s1)), .ref b1])), (b1, zaI (G.2 1) N1 (f1)), (r2, .inr (12, [.int (iz (s2)), .ref b2])), (b2, zaI (G.2 1) N2 (f2))] H := hP
    have hD : va_D A [(x, .inr (13, [.int (iz (th)), .int (iz (6)), .ref am, .null, .ref tb, .ref lv, .int (iz (0)), .ref wt, .int (iz (0)), .ref bg, .ref pm, .int (iz (0))])), (am, zaL (G.2 0) 41 (fun _ => 0)), (r1, .inr (12, [.int (iz (s1)), .ref b1])), (b1, zaI (G.2 1) N1 (f1)), (r2, .inr (12, [.int (iz (s2)), .ref b2])), (b2, zaI (G.2 1) N2 (f2))] := hD
    have q2 : tmw f2 N2 s2 (100000 + po) := q2
    refine zc_r (wr := [(x, .inr (13, [.int (iz (th)), .int (iz (6)), .ref am, .null, .ref tb, .ref lv, .int (iz (0)), .ref wt, .int (iz (0)), .ref bg, .ref pm, .int (iz (0))])), (am, zaL (G.2 0) 41 (fun _ => 0)), (r1, .inr (12, [.int (iz (s1)), .ref b1])), (b1, zaI (G.2 1) N1 (f1))]) (va_runV (As := [.ref r2]) (rest := []) ⟨hx, hb, hml, hown, hts⟩ (c_X11_times_n l G nA nB nE r2 b2 f2 N2 s2 (100000 + po) (q2) H.size) (cwV 1 hts gX12_carried_X11_times rfl rfl rfl (by decide +kernel) ⟨Nat.le_of_ble_eq_true rfl, Nat.le_of_ble_eq_true rfl⟩) (zpVe zE_ok hE hS hA hKX hP hD [4, 5] rfl rfl (zE_recv hE hS)) rfl rfl hl.1 rfl (lv_room (Nat.le_of_ble_eq_true rfl)) dX12_carried_29 ⟨(by first | exact Nat.le_of_ble_eq_true rfl | (show _ ≤ (1300 : Nat); omega)), (by show _ ≤ (110000 : Nat); omega)⟩) hP hD hS hA [4, 5] [0, 1, 2, 3] rfl rfl rfl (by decide) (fun u_6 r3 H locs hs hP hD hS => ?_)
    obtain ⟨b3, f3, N3, s3⟩ := u_6
    have hP : va_P G.1 vwCl [(x, .inr (13, [.int (iz (th)), .int (iz (6)), .ref am, .null, .ref tb, .ref lv, .int (iz (0)), .ref wt, .int (iz (0)), .ref bg, .ref pm, .int (iz (0))])), (am, zaL (G.2 0) 41 (fun _ => 0)), (r1, .inr (12, [.int (iz (s1)), .ref b1])), (b1, zaI (G.2 1) N1 (f1)), (r2, .inr (12, [.int (iz (s2)), .ref b2])), (b2, zaI (G.2 1) N2 (f2)), (r3, .inr (12, [.int (iz (s3)), .ref b3])), (b3, zaI (G.2 1) N3 (f3))] H := hP
    have hD : va_D A [(x, .inr (13, [.int (iz (th)), .int (iz (6)), .ref am, .null, .ref tb, .ref lv, .int (iz (0)), .ref wt, .int (iz (0)), .ref bg, .ref pm, .int (iz (0))])), (am, zaL (G.2 0) 41 (fun _ => 0)), (r1, .inr (12, [.int (iz (s1)), .ref b1])), (b1, zaI (G.2 1) N1 (f1)), (r2, .inr (12, [.int (iz (s2)), .ref b2])), (b2, zaI (G.2 1) N2 (f2)), (r3, .inr (12, [.int (iz (s3)), .ref b3])), (b3, zaI (G.2 1) N3 (f3))] := hD
    have hs : tmw f3 N3 s3 0 := hs
    refine lv_aload_n hx hb dX12_carried_32 rfl (lv_at hl 1 rfl) ?_
    refine lv_aload_n hx hb dX12_carried_33 rfl (lv_at hl 3 rfl) ?_
    refine va_get (D := G.1) (ci := 13) (v := .ref am) (C := RX12) (T := TX12) (N := 12) hx hb hts iwX12 hown hK hP 0 rfl rfl 2 (by decide) (hts (.fieldLink RX12 65 "AnnuityHouseModel" "amounts" "[J") (by decide +kernel)) (fun _ h9 => h9) rfl dX12_carried_34 ?_
    refine lv_iload hx hb dX12_carried_37 (lv_at hl 0 rfl) ?_
    refine zr_lald hx hb hK hP 1 0 rfl rfl (i := 0) (⟨by omega, by omega, by omega⟩) dX12_carried_39 ?_
    refine zr_eql (x := (fun _ => 0) 0) (y := 0) rfl ?_
    refine zc_r (wr := [(x, .inr (13, [.int (iz (th)), .int (iz (6)), .ref am, .null, .ref tb, .ref lv, .int (iz (0)), .ref wt, .int (iz (0)), .ref bg, .ref pm, .int (iz (0))])), (am, zaL (G.2 0) 41 (fun _ => 0)), (r1, .inr (12, [.int (iz (s1)), .ref b1])), (b1, zaI (G.2 1) N1 (f1)), (r2, .inr (12, [.int (iz (s2)), .ref b2])), (b2, zaI (G.2 1) N2 (f2)), (r3, .inr (12, [.int (iz (s3)), .ref b3])), (b3, zaI (G.2 1) N3 (f3))]) (va_runS (As := [.long (lz (0))]) (rest := [.ref r1, .ref r3]) ⟨hx, hb, hml, hown, hts⟩ (c_X11_of l G 0 (by omega) H.size) (va_cwS 1 hts gX12_carried_X11_of rfl rfl rfl (by decide +kernel) ⟨Nat.le_of_ble_eq_true rfl, Nat.le_of_ble_eq_true rfl⟩) (zpS hKX hP hD [] rfl rfl) rfl rfl hl.1 rfl (lv_room (Nat.le_of_ble_eq_true rfl)) dX12_carried_40 ⟨(by first | exact Nat.le_of_ble_eq_true rfl | (show _ ≤ (1300 : Nat); omega)), (by show _ ≤ (110000 : Nat); omega)⟩) hP hD hS hA [] [0, 1, 2, 3, 4, 5, 6, 7] rfl rfl rfl (by decide) (fun u_8 r4 H locs q4 hP hD hS => ?_)
    obtain ⟨b4, f4, N4, s4⟩ := u_8
    have hP : va_P G.1 vwCl [(x, .inr (13, [.int (iz (th)), .int (iz (6)), .ref am, .null, .ref tb, .ref lv, .int (iz (0)), .ref wt, .int (iz (0)), .ref bg, .ref pm, .int (iz (0))])), (am, zaL (G.2 0) 41 (fun _ => 0)), (r1, .inr (12, [.int (iz (s1)), .ref b1])), (b1, zaI (G.2 1) N1 (f1)), (r2, .inr (12, [.int (iz (s2)), .ref b2])), (b2, zaI (G.2 1) N2 (f2)), (r3, .inr (12, [.int (iz (s3)), .ref b3])), (b3, zaI (G.2 1) N3 (f3)), (r4, .inr (12, [.int (iz (s4)), .ref b4])), (b4, zaI (G.2 1) N4 (f4))] H := hP
    have hD : va_D A [(x, .inr (13, [.int (iz (th)), .int (iz (6)), .ref am, .null, .ref tb, .ref lv, .int (iz (0)), .ref wt, .int (iz (0)), .ref bg, .ref pm, .int (iz (0))])), (am, zaL (G.2 0) 41 (fun _ => 0)), (r1, .inr (12, [.int (iz (s1)), .ref b1])), (b1, zaI (G.2 1) N1 (f1)), (r2, .inr (12, [.int (iz (s2)), .ref b2])), (b2, zaI (G.2 1) N2 (f2)), (r3, .inr (12, [.int (iz (s3)), .ref b3])), (b3, zaI (G.2 1) N3 (f3)), (r4, .inr (12, [.int (iz (s4)), .ref b4])), (b4, zaI (G.2 1) N4 (f4))] := hD
    have q4 : tmw f4 N4 s4 (0 : Int) := q4
    refine zc_r (wr := [(x, .inr (13, [.int (iz (th)), .int (iz (6)), .ref am, .null, .ref tb, .ref lv, .int (iz (0)), .ref wt, .int (iz (0)), .ref bg, .ref pm, .int (iz (0))])), (am, zaL (G.2 0) 41 (fun _ => 0)), (r2, .inr (12, [.int (iz (s2)), .ref b2])), (b2, zaI (G.2 1) N2 (f2)), (r3, .inr (12, [.int (iz (s3)), .ref b3])), (b3, zaI (G.2 1) N3 (f3))]) (va_runV (As := [.ref r4]) (rest := [.ref r3]) ⟨hx, hb, hml, hown, hts⟩ (c_X11_times l G r1 b1 f1 N1 s1 r4 b4 f4 N4 s4 1 0 (q1) (q4) ((zbig tcz_1 tcz_8).1) H.size) (cwV 1 hts gX12_carried_X11_times rfl rfl rfl (by decide +kernel) ⟨Nat.le_of_ble_eq_true rfl, Nat.le_of_ble_eq_true rfl⟩) (zpV hKX hP hD [2, 3, 8, 9] rfl rfl 2 12 rfl rfl) rfl rfl hl.1 rfl (lv_room (Nat.le_of_ble_eq_true rfl)) dX12_carried_43 ⟨(by first | exact Nat.le_of_ble_eq_true rfl | (show _ ≤ (1300 : Nat); omega)), (by show _ ≤ (110000 : Nat); omega)⟩) hP hD hS hA [2, 3, 8, 9] [0, 1, 4, 5, 6, 7] rfl rfl rfl (by decide) (fun u_10 r5 H locs hm hP hD hS => ?_)
    obtain ⟨b5, f5, N5, s5⟩ := u_10
    have hP : va_P G.1 vwCl [(x, .inr (13, [.int (iz (th)), .int (iz (6)), .ref am, .null, .ref tb, .ref lv, .int (iz (0)), .ref wt, .int (iz (0)), .ref bg, .ref pm, .int (iz (0))])), (am, zaL (G.2 0) 41 (fun _ => 0)), (r2, .inr (12, [.int (iz (s2)), .ref b2])), (b2, zaI (G.2 1) N2 (f2)), (r3, .inr (12, [.int (iz (s3)), .ref b3])), (b3, zaI (G.2 1) N3 (f3)), (r1, .inr (12, [.int (iz (s1)), .ref b1])), (b1, zaI (G.2 1) N1 (f1)), (r4, .inr (12, [.int (iz (s4)), .ref b4])), (b4, zaI (G.2 1) N4 (f4)), (r5, .inr (12, [.int (iz (s5)), .ref b5])), (b5, zaI (G.2 1) N5 (f5))] H := hP
    have hD : va_D A [(x, .inr (13, [.int (iz (th)), .int (iz (6)), .ref am, .null, .ref tb, .ref lv, .int (iz (0)), .ref wt, .int (iz (0)), .ref bg, .ref pm, .int (iz (0))])), (am, zaL (G.2 0) 41 (fun _ => 0)), (r2, .inr (12, [.int (iz (s2)), .ref b2])), (b2, zaI (G.2 1) N2 (f2)), (r3, .inr (12, [.int (iz (s3)), .ref b3])), (b3, zaI (G.2 1) N3 (f3)), (r1, .inr (12, [.int (iz (s1)), .ref b1])), (b1, zaI (G.2 1) N1 (f1)), (r4, .inr (12, [.int (iz (s4)), .ref b4])), (b4, zaI (G.2 1) N4 (f4)), (r5, .inr (12, [.int (iz (s5)), .ref b5])), (b5, zaI (G.2 1) N5 (f5))] := hD
    have hm : tmw f5 N5 s5 ((1 : Int) * (0 : Int)) := hm
    refine zc_r (wr := [(x, .inr (13, [.int (iz (th)), .int (iz (6)), .ref am, .null, .ref tb, .ref lv, .int (iz (0)), .ref wt, .int (iz (0)), .ref bg, .ref pm, .int (iz (0))])), (am, zaL (G.2 0) 41 (fun _ => 0)), (r2, .inr (12, [.int (iz (s2)), .ref b2])), (b2, zaI (G.2 1) N2 (f2)), (r1, .inr (12, [.int (iz (s1)), .ref b1])), (b1, zaI (G.2 1) N1 (f1)), (r4, .inr (12, [.int (iz (s4)), .ref b4])), (b4, zaI (G.2 1) N4 (f4))]) (va_runV (As := [.ref r5]) (rest := []) ⟨hx, hb, hml, hown, hts⟩ (c_X11_plus l G r3 b3 f3 N3 s3 r5 b5 f5 N5 s5 0 (1 * 0) (hs) (hm) (zbig_add tcz_78 (zbig tcz_1 tcz_8).2) H.size) (cwV 1 hts gX12_carried_X11_plus rfl rfl rfl (by decide +kernel) ⟨Nat.le_of_ble_eq_true rfl, Nat.le_of_ble_eq_true rfl⟩) (zpV hKX hP hD [4, 5, 10, 11] rfl rfl 4 12 rfl rfl) rfl rfl hl.1 rfl (lv_room (Nat.le_of_ble_eq_true rfl)) dX12_carried_46 ⟨(by first | exact Nat.le_of_ble_eq_true rfl | (show _ ≤ (1300 : Nat); omega)), (by show _ ≤ (110000 : Nat); omega)⟩) hP hD hS hA [4, 5, 10, 11] [0, 1, 2, 3, 6, 7, 8, 9] rfl rfl rfl (by decide) (fun u_12 r6 H locs hpl hP hD hS => ?_)
    obtain ⟨b6, f6, N6, s6⟩ := u_12
    have hP : va_P G.1 vwCl [(x, .inr (13, [.int (iz (th)), .int (iz (6)), .ref am, .null, .ref tb, .ref lv, .int (iz (0)), .ref wt, .int (iz (0)), .ref bg, .ref pm, .int (iz (0))])), (am, zaL (G.2 0) 41 (fun _ => 0)), (r2, .inr (12, [.int (iz (s2)), .ref b2])), (b2, zaI (G.2 1) N2 (f2)), (r1, .inr (12, [.int (iz (s1)), .ref b1])), (b1, zaI (G.2 1) N1 (f1)), (r4, .inr (12, [.int (iz (s4)), .ref b4])), (b4, zaI (G.2 1) N4 (f4)), (r6, .inr (12, [.int (iz (s6)), .ref b6])), (b6, zaI (G.2 1) N6 (f6))] H := hP
    have hD : va_D A [(x, .inr (13, [.int (iz (th)), .int (iz (6)), .ref am, .null, .ref tb, .ref lv, .int (iz (0)), .ref wt, .int (iz (0)), .ref bg, .ref pm, .int (iz (0))])), (am, zaL (G.2 0) 41 (fun _ => 0)), (r2, .inr (12, [.int (iz (s2)), .ref b2])), (b2, zaI (G.2 1) N2 (f2)), (r1, .inr (12, [.int (iz (s1)), .ref b1])), (b1, zaI (G.2 1) N1 (f1)), (r4, .inr (12, [.int (iz (s4)), .ref b4])), (b4, zaI (G.2 1) N4 (f4)), (r6, .inr (12, [.int (iz (s6)), .ref b6])), (b6, zaI (G.2 1) N6 (f6))] := hD
    have hpl : tmw f6 N6 s6 ((0 : Int) + (1 * 0)) := hpl
    refine lv_astore_n (lv' := [(2, .ref r6), (4, .int (iz (0))), (3, .ref r1), (0, .ref x), (1, .int (iz (po)))]) hx hb dX12_carried_49 rfl hl (by decide) rfl (fun ls hl => ?_)
    refine lv_aload_n hx hb dX12_carried_50 rfl (lv_at hl 2 rfl) ?_
    refine zr_ldc2 (z := 100000) hx hb hown (hts (.constantLong RX12 145 (100000)) (by decide +kernel)) rfl dX12_carried_51 ?_
    refine zc_r (wr := [(x, .inr (13, [.int (iz (th)), .int (iz (6)), .ref am, .null, .ref tb, .ref lv, .int (iz (0)), .ref wt, .int (iz (0)), .ref bg, .ref pm, .int (iz (0))])), (am, zaL (G.2 0) 41 (fun _ => 0)), (r2, .inr (12, [.int (iz (s2)), .ref b2])), (b2, zaI (G.2 1) N2 (f2)), (r1, .inr (12, [.int (iz (s1)), .ref b1])), (b1, zaI (G.2 1) N1 (f1)), (r4, .inr (12, [.int (iz (s4)), .ref b4])), (b4, zaI (G.2 1) N4 (f4)), (r6, .inr (12, [.int (iz (s6)), .ref b6])), (b6, zaI (G.2 1) N6 (f6))]) (va_runS (As := [.long (lz (100000))]) (rest := [.ref r1]) ⟨hx, hb, hml, hown, hts⟩ (c_X11_of l G 100000 (by omega) H.size) (va_cwS 1 hts gX12_carried_X11_of rfl rfl rfl (by decide +kernel) ⟨Nat.le_of_ble_eq_true rfl, Nat.le_of_ble_eq_true rfl⟩) (zpS hKX hP hD [] rfl rfl) rfl rfl hl.1 rfl (lv_room (Nat.le_of_ble_eq_true rfl)) dX12_carried_54 ⟨(by first | exact Nat.le_of_ble_eq_true rfl | (show _ ≤ (1300 : Nat); omega)), (by show _ ≤ (110000 : Nat); omega)⟩) hP hD hS hA [] [0, 1, 2, 3, 4, 5, 6, 7, 8, 9] rfl rfl rfl (by decide) (fun u_14 r7 H locs q7 hP hD hS => ?_)
    obtain ⟨b7, f7, N7, s7⟩ := u_14
    have hP : va_P G.1 vwCl [(x, .inr (13, [.int (iz (th)), .int (iz (6)), .ref am, .null, .ref tb, .ref lv, .int (iz (0)), .ref wt, .int (iz (0)), .ref bg, .ref pm, .int (iz (0))])), (am, zaL (G.2 0) 41 (fun _ => 0)), (r2, .inr (12, [.int (iz (s2)), .ref b2])), (b2, zaI (G.2 1) N2 (f2)), (r1, .inr (12, [.int (iz (s1)), .ref b1])), (b1, zaI (G.2 1) N1 (f1)), (r4, .inr (12, [.int (iz (s4)), .ref b4])), (b4, zaI (G.2 1) N4 (f4)), (r6, .inr (12, [.int (iz (s6)), .ref b6])), (b6, zaI (G.2 1) N6 (f6)), (r7, .inr (12, [.int (iz (s7)), .ref b7])), (b7, zaI (G.2 1) N7 (f7))] H := hP
    have hD : va_D A [(x, .inr (13, [.int (iz (th)), .int (iz (6)), .ref am, .null, .ref tb, .ref lv, .int (iz (0)), .ref wt, .int (iz (0)), .ref bg, .ref pm, .int (iz (0))])), (am, zaL (G.2 0) 41 (fun _ => 0)), (r2, .inr (12, [.int (iz (s2)), .ref b2])), (b2, zaI (G.2 1) N2 (f2)), (r1, .inr (12, [.int (iz (s1)), .ref b1])), (b1, zaI (G.2 1) N1 (f1)), (r4, .inr (12, [.int (iz (s4)), .ref b4])), (b4, zaI (G.2 1) N4 (f4)), (r6, .inr (12, [.int (iz (s6)), .ref b6])), (b6, zaI (G.2 1) N6 (f6)), (r7, .inr (12, [.int (iz (s7)), .ref b7])), (b7, zaI (G.2 1) N7 (f7))] := hD
    have q7 : tmw f7 N7 s7 (100000 : Int) := q7
    refine zc_r (wr := [(x, .inr (13, [.int (iz (th)), .int (iz (6)), .ref am, .null, .ref tb, .ref lv, .int (iz (0)), .ref wt, .int (iz (0)), .ref bg, .ref pm, .int (iz (0))])), (am, zaL (G.2 0) 41 (fun _ => 0)), (r2, .inr (12, [.int (iz (s2)), .ref b2])), (b2, zaI (G.2 1) N2 (f2)), (r4, .inr (12, [.int (iz (s4)), .ref b4])), (b4, zaI (G.2 1) N4 (f4)), (r6, .inr (12, [.int (iz (s6)), .ref b6])), (b6, zaI (G.2 1) N6 (f6))]) (va_runV (As := [.ref r7]) (rest := []) ⟨hx, hb, hml, hown, hts⟩ (c_X11_times l G r1 b1 f1 N1 s1 r7 b7 f7 N7 s7 1 100000 (q1) (q7) ((zbig tcz_1 tcz_p).1) H.size) (cwV 1 hts gX12_carried_X11_times rfl rfl rfl (by decide +kernel) ⟨Nat.le_of_ble_eq_true rfl, Nat.le_of_ble_eq_true rfl⟩) (zpV hKX hP hD [4, 5, 10, 11] rfl rfl 4 12 rfl rfl) rfl rfl hl.1 rfl (lv_room (Nat.le_of_ble_eq_true rfl)) dX12_carried_57 ⟨(by first | exact Nat.le_of_ble_eq_true rfl | (show _ ≤ (1300 : Nat); omega)), (by show _ ≤ (110000 : Nat); omega)⟩) hP hD hS hA [4, 5, 10, 11] [0, 1, 2, 3, 6, 7, 8, 9] rfl rfl rfl (by decide) (fun u_16 r8 H locs hp hP hD hS => ?_)
    obtain ⟨b8, f8, N8, s8⟩ := u_16
    have hP : va_P G.1 vwCl [(x, .inr (13, [.int (iz (th)), .int (iz (6)), .ref am, .null, .ref tb, .ref lv, .int (iz (0)), .ref wt, .int (iz (0)), .ref bg, .ref pm, .int (iz (0))])), (am, zaL (G.2 0) 41 (fun _ => 0)), (r2, .inr (12, [.int (iz (s2)), .ref b2])), (b2, zaI (G.2 1) N2 (f2)), (r4, .inr (12, [.int (iz (s4)), .ref b4])), (b4, zaI (G.2 1) N4 (f4)), (r6, .inr (12, [.int (iz (s6)), .ref b6])), (b6, zaI (G.2 1) N6 (f6)), (r1, .inr (12, [.int (iz (s1)), .ref b1])), (b1, zaI (G.2 1) N1 (f1)), (r7, .inr (12, [.int (iz (s7)), .ref b7])), (b7, zaI (G.2 1) N7 (f7)), (r8, .inr (12, [.int (iz (s8)), .ref b8])), (b8, zaI (G.2 1) N8 (f8))] H := hP
    have hD : va_D A [(x, .inr (13, [.int (iz (th)), .int (iz (6)), .ref am, .null, .ref tb, .ref lv, .int (iz (0)), .ref wt, .int (iz (0)), .ref bg, .ref pm, .int (iz (0))])), (am, zaL (G.2 0) 41 (fun _ => 0)), (r2, .inr (12, [.int (iz (s2)), .ref b2])), (b2, zaI (G.2 1) N2 (f2)), (r4, .inr (12, [.int (iz (s4)), .ref b4])), (b4, zaI (G.2 1) N4 (f4)), (r6, .inr (12, [.int (iz (s6)), .ref b6])), (b6, zaI (G.2 1) N6 (f6)), (r1, .inr (12, [.int (iz (s1)), .ref b1])), (b1, zaI (G.2 1) N1 (f1)), (r7, .inr (12, [.int (iz (s7)), .ref b7])), (b7, zaI (G.2 1) N7 (f7)), (r8, .inr (12, [.int (iz (s8)), .ref b8])), (b8, zaI (G.2 1) N8 (f8))] := hD
    have hp : tmw f8 N8 s8 ((1 : Int) * (100000 : Int)) := hp
    refine lv_astore_n (lv' := [(3, .ref r8), (2, .ref r6), (4, .int (iz (0))), (0, .ref x), (1, .int (iz (po)))]) hx hb dX12_carried_60 rfl hl (by decide) rfl (fun ls hl => ?_)
    refine lv_iinc (v := iz (0 + 1)) (lv' := [(4, .int (iz (0 + 1))), (3, .ref r8), (2, .ref r6), (0, .ref x), (1, .int (iz (po)))]) hx hb dX12_carried_61 hl (k := 2) rfl (by rw [show Int32.ofInt (1) = iz (1) from rfl, iz_add]) (by decide) rfl (fun ls hl => ?_)
    refine lv_goto (tgt := 12) hx hb dX12_carried_64 (by decide) ?_
    have hl_12 : ∀ (zn_12 : Nat) (i : Int) (rs : Nat) (bs : Nat) (fs : Int → Int) (Ns : Nat) (ss : Int) (rp : Nat) (bp : Nat) (fp : Int → Int) (Np : Nat) (sp : Int) (H : Heap) (locs : List Loc) (ls : Array Slot), (41 - i).toNat < zn_12 → (1 ≤ i ∧ i ≤ 41) → (tmw fs Ns ss 0) → (tmw fp Np sp (100000 ^ (i).toNat)) → va_P G.1 vwCl [(x, .inr (13, [.int (iz (th)), .int (iz (6)), .ref am, .null, .ref tb, .ref lv, .int (iz (0)), .ref wt, .int (iz (0)), .ref bg, .ref pm, .int (iz (0))])), (am, zaL (G.2 0) 41 (fun _ => 0)), (rs, .inr (12, [.int (iz (ss)), .ref bs])), (bs, zaI (G.2 1) Ns (fs)), (rp, .inr (12, [.int (iz (sp)), .ref bp])), (bp, zaI (G.2 1) Np (fp))] H → va_D A [(x, .inr (13, [.int (iz (th)), .int (iz (6)), .ref am, .null, .ref tb, .ref lv, .int (iz (0)), .ref wt, .int (iz (0)), .ref bg, .ref pm, .int (iz (0))])), (am, zaL (G.2 0) 41 (fun _ => 0)), (rs, .inr (12, [.int (iz (ss)), .ref bs])), (bs, zaI (G.2 1) Ns (fs)), (rp, .inr (12, [.int (iz (sp)), .ref bp])), (bp, zaI (G.2 1) Np (fp))] → va_S A s.heap H locs → lv_has ls 5 [(4, .int (iz (i))), (3, .ref rp), (2, .ref rs), (0, .ref x), (1, .int (iz (po)))] → W p l e rm_c_X12_carried s m ([.ref x, .int (iz (po))] : List Value).toArray below meth c H locs (30 + 30 * (i).toNat) (2000 + 2500 * (i).toNat) Q (F0 m 12 ls []) := by
      intro zn_12
      induction zn_12 with
      | zero => intro i rs bs fs Ns ss rp bp fp Np sp H locs ls hm; exact absurd hm (Nat.not_lt_zero _)
      | succ zn_12 ih_12 =>
        intro i rs bs fs Ns ss rp bp fp Np sp H locs ls hm_12 k1 k2 k3 hP hD hS hl
        refine lv_iload hx hb dX12_carried_12 (lv_at hl 0 rfl) ?_
        refine lv_bipush (v := iz (41)) hx hb dX12_carried_14 rfl ?_
        refine zr_icmp_ge (x := i) (y := 41) (tgt := 67) hx hb (⟨by omega, by omega⟩) (⟨by omega, by omega⟩) dX12_carried_16 (by decide) (fun h_18 => ?_) (fun h_18 => ?_)
        ·
          refine lv_aload_n hx hb dX12_carried_67 rfl (lv_at hl 2 rfl) ?_
          rw [hQ]
          exact zr_aret (ra := rs) (Or.inl ⟨_, rfl⟩) (u := (bs, fs, Ns, ss)) hx hb hr hlocks (hP.sub [0, 1, 2, 3] rfl) (hD.sub [0, 1, 2, 3] (by decide) rfl) hS (by first | exact Nat.le_of_ble_eq_true rfl | omega) (by first | exact Nat.le_of_ble_eq_true rfl | omega) dX12_carried_68 (show tmw fs Ns ss 0 from k2)
        ·
          refine lv_aload_n hx hb dX12_carried_19 rfl (lv_at hl 2 rfl) ?_
          refine zr_ldc2 (z := 100000) hx hb hown (hts (.constantLong RX12 145 (100000)) (by decide +kernel)) rfl dX12_carried_20 ?_
          refine lv_iload_n hx hb dX12_carried_23 rfl (lv_at hl 4 rfl) ?_
          refine zr_i2l hx hb (x := po) (⟨by omega, by omega⟩) dX12_carried_24 ?_
          refine zr_ladd hx hb dX12_carried_25 ?_
          refine zc_r (wr := [(x, .inr (13, [.int (iz (th)), .int (iz (6)), .ref am, .null, .ref tb, .ref lv, .int (iz (0)), .ref wt, .int (iz (0)), .ref bg, .ref pm, .int (iz (0))])), (am, zaL (G.2 0) 41 (fun _ => 0)), (rs, .inr (12, [.int (iz (ss)), .ref bs])), (bs, zaI (G.2 1) Ns (fs)), (rp, .inr (12, [.int (iz (sp)), .ref bp])), (bp, zaI (G.2 1) Np (fp))]) (va_runS (As := [.long (lz (100000 + po))]) (rest := [.ref rs]) ⟨hx, hb, hml, hown, hts⟩ (c_X11_of l G (100000 + po) (by omega) H.size) (va_cwS 1 hts gX12_carried_X11_of rfl rfl rfl (by decide +kernel) ⟨Nat.le_of_ble_eq_true rfl, Nat.le_of_ble_eq_true rfl⟩) (zpS hKX hP hD [] rfl rfl) rfl rfl hl.1 rfl (lv_room (Nat.le_of_ble_eq_true rfl)) dX12_carried_26 ⟨(by first | exact Nat.le_of_ble_eq_true rfl | (show _ ≤ (1300 : Nat); omega)), (by show _ ≤ (110000 : Nat); omega)⟩) hP hD hS hA [] [0, 1, 2, 3, 4, 5] rfl rfl rfl (by decide) (fun u_19 r2 H locs q2 hP hD hS => ?_)
          obtain ⟨b2, f2, N2, s2⟩ := u_19
          have hP : va_P G.1 vwCl [(x, .inr (13, [.int (iz (th)), .int (iz (6)), .ref am, .null, .ref tb, .ref lv, .int (iz (0)), .ref wt, .int (iz (0)), .ref bg, .ref pm, .int (iz (0))])), (am, zaL (G.2 0) 41 (fun _ => 0)), (rs, .inr (12, [.int (iz (ss)), .ref bs])), (bs, zaI (G.2 1) Ns (fs)), (rp, .inr (12, [.int (iz (sp)), .ref bp])), (bp, zaI (G.2 1) Np (fp)), (r2, .inr (12, [.int (iz (s2)), .ref b2])), (b2, zaI (G.2 1) N2 (f2))] H := hP
          have hD : va_D A [(x, .inr (13, [.int (iz (th)), .int (iz (6)), .ref am, .null, .ref tb, .ref lv, .int (iz (0)), .ref wt, .int (iz (0)), .ref bg, .ref pm, .int (iz (0))])), (am, zaL (G.2 0) 41 (fun _ => 0)), (rs, .inr (12, [.int (iz (ss)), .ref bs])), (bs, zaI (G.2 1) Ns (fs)), (rp, .inr (12, [.int (iz (sp)), .ref bp])), (bp, zaI (G.2 1) Np (fp)), (r2, .inr (12, [.int (iz (s2)), .ref b2])), (b2, zaI (G.2 1) N2 (f2))] := hD
          have q2 : tmw f2 N2 s2 (100000 + po) := q2
          refine zc_r (wr := [(x, .inr (13, [.int (iz (th)), .int (iz (6)), .ref am, .null, .ref tb, .ref lv, .int (iz (0)), .ref wt, .int (iz (0)), .ref bg, .ref pm, .int (iz (0))])), (am, zaL (G.2 0) 41 (fun _ => 0)), (rp, .inr (12, [.int (iz (sp)), .ref bp])), (bp, zaI (G.2 1) Np (fp))]) (va_runV (As := [.ref r2]) (rest := []) ⟨hx, hb, hml, hown, hts⟩ (c_X11_times l G rs bs fs Ns ss r2 b2 f2 N2 s2 0 (100000 + po) (k2) (q2) ((zbig tcz_70 (zrt h1)).1) H.size) (cwV 1 hts gX12_carried_X11_times rfl rfl rfl (by decide +kernel) ⟨Nat.le_of_ble_eq_true rfl, Nat.le_of_ble_eq_true rfl⟩) (zpV hKX hP hD [2, 3, 6, 7] rfl rfl 2 12 rfl rfl) rfl rfl hl.1 rfl (lv_room (Nat.le_of_ble_eq_true rfl)) dX12_carried_29 ⟨(by first | exact Nat.le_of_ble_eq_true rfl | (show _ ≤ (1300 : Nat); omega)), (by show _ ≤ (110000 : Nat); omega)⟩) hP hD hS hA [2, 3, 6, 7] [0, 1, 4, 5] rfl rfl rfl (by decide) (fun u_21 r3 H locs hs hP hD hS => ?_)
          obtain ⟨b3, f3, N3, s3⟩ := u_21
          have hP : va_P G.1 vwCl [(x, .inr (13, [.int (iz (th)), .int (iz (6)), .ref am, .null, .ref tb, .ref lv, .int (iz (0)), .ref wt, .int (iz (0)), .ref bg, .ref pm, .int (iz (0))])), (am, zaL (G.2 0) 41 (fun _ => 0)), (rp, .inr (12, [.int (iz (sp)), .ref bp])), (bp, zaI (G.2 1) Np (fp)), (rs, .inr (12, [.int (iz (ss)), .ref bs])), (bs, zaI (G.2 1) Ns (fs)), (r2, .inr (12, [.int (iz (s2)), .ref b2])), (b2, zaI (G.2 1) N2 (f2)), (r3, .inr (12, [.int (iz (s3)), .ref b3])), (b3, zaI (G.2 1) N3 (f3))] H := hP
          have hD : va_D A [(x, .inr (13, [.int (iz (th)), .int (iz (6)), .ref am, .null, .ref tb, .ref lv, .int (iz (0)), .ref wt, .int (iz (0)), .ref bg, .ref pm, .int (iz (0))])), (am, zaL (G.2 0) 41 (fun _ => 0)), (rp, .inr (12, [.int (iz (sp)), .ref bp])), (bp, zaI (G.2 1) Np (fp)), (rs, .inr (12, [.int (iz (ss)), .ref bs])), (bs, zaI (G.2 1) Ns (fs)), (r2, .inr (12, [.int (iz (s2)), .ref b2])), (b2, zaI (G.2 1) N2 (f2)), (r3, .inr (12, [.int (iz (s3)), .ref b3])), (b3, zaI (G.2 1) N3 (f3))] := hD
          have hs : tmw f3 N3 s3 ((0 : Int) * (100000 + po)) := hs
          refine lv_aload_n hx hb dX12_carried_32 rfl (lv_at hl 1 rfl) ?_
          refine lv_aload_n hx hb dX12_carried_33 rfl (lv_at hl 3 rfl) ?_
          refine va_get (D := G.1) (ci := 13) (v := .ref am) (C := RX12) (T := TX12) (N := 12) hx hb hts iwX12 hown hK hP 0 rfl rfl 2 (by decide) (hts (.fieldLink RX12 65 "AnnuityHouseModel" "amounts" "[J") (by decide +kernel)) (fun _ h9 => h9) rfl dX12_carried_34 ?_
          refine lv_iload hx hb dX12_carried_37 (lv_at hl 0 rfl) ?_
          refine zr_lald hx hb hK hP 1 0 rfl rfl (i := i) (⟨by omega, by omega, by omega⟩) dX12_carried_39 ?_
          refine zr_eql (x := (fun _ => 0) i) (y := 0) rfl ?_
          refine zc_r (wr := [(x, .inr (13, [.int (iz (th)), .int (iz (6)), .ref am, .null, .ref tb, .ref lv, .int (iz (0)), .ref wt, .int (iz (0)), .ref bg, .ref pm, .int (iz (0))])), (am, zaL (G.2 0) 41 (fun _ => 0)), (rp, .inr (12, [.int (iz (sp)), .ref bp])), (bp, zaI (G.2 1) Np (fp)), (rs, .inr (12, [.int (iz (ss)), .ref bs])), (bs, zaI (G.2 1) Ns (fs)), (r2, .inr (12, [.int (iz (s2)), .ref b2])), (b2, zaI (G.2 1) N2 (f2)), (r3, .inr (12, [.int (iz (s3)), .ref b3])), (b3, zaI (G.2 1) N3 (f3))]) (va_runS (As := [.long (lz (0))]) (rest := [.ref rp, .ref r3]) ⟨hx, hb, hml, hown, hts⟩ (c_X11_of l G 0 (by omega) H.size) (va_cwS 1 hts gX12_carried_X11_of rfl rfl rfl (by decide +kernel) ⟨Nat.le_of_ble_eq_true rfl, Nat.le_of_ble_eq_true rfl⟩) (zpS hKX hP hD [] rfl rfl) rfl rfl hl.1 rfl (lv_room (Nat.le_of_ble_eq_true rfl)) dX12_carried_40 ⟨(by first | exact Nat.le_of_ble_eq_true rfl | (show _ ≤ (1300 : Nat); omega)), (by show _ ≤ (110000 : Nat); omega)⟩) hP hD hS hA [] [0, 1, 2, 3, 4, 5, 6, 7, 8, 9] rfl rfl rfl (by decide) (fun u_23 r4 H locs q4 hP hD hS => ?_)
          obtain ⟨b4, f4, N4, s4⟩ := u_23
          have hP : va_P G.1 vwCl [(x, .inr (13, [.int (iz (th)), .int (iz (6)), .ref am, .null, .ref tb, .ref lv, .int (iz (0)), .ref wt, .int (iz (0)), .ref bg, .ref pm, .int (iz (0))])), (am, zaL (G.2 0) 41 (fun _ => 0)), (rp, .inr (12, [.int (iz (sp)), .ref bp])), (bp, zaI (G.2 1) Np (fp)), (rs, .inr (12, [.int (iz (ss)), .ref bs])), (bs, zaI (G.2 1) Ns (fs)), (r2, .inr (12, [.int (iz (s2)), .ref b2])), (b2, zaI (G.2 1) N2 (f2)), (r3, .inr (12, [.int (iz (s3)), .ref b3])), (b3, zaI (G.2 1) N3 (f3)), (r4, .inr (12, [.int (iz (s4)), .ref b4])), (b4, zaI (G.2 1) N4 (f4))] H := hP
          have hD : va_D A [(x, .inr (13, [.int (iz (th)), .int (iz (6)), .ref am, .null, .ref tb, .ref lv, .int (iz (0)), .ref wt, .int (iz (0)), .ref bg, .ref pm, .int (iz (0))])), (am, zaL (G.2 0) 41 (fun _ => 0)), (rp, .inr (12, [.int (iz (sp)), .ref bp])), (bp, zaI (G.2 1) Np (fp)), (rs, .inr (12, [.int (iz (ss)), .ref bs])), (bs, zaI (G.2 1) Ns (fs)), (r2, .inr (12, [.int (iz (s2)), .ref b2])), (b2, zaI (G.2 1) N2 (f2)), (r3, .inr (12, [.int (iz (s3)), .ref b3])), (b3, zaI (G.2 1) N3 (f3)), (r4, .inr (12, [.int (iz (s4)), .ref b4])), (b4, zaI (G.2 1) N4 (f4))] := hD
          have q4 : tmw f4 N4 s4 (0 : Int) := q4
          refine zc_r (wr := [(x, .inr (13, [.int (iz (th)), .int (iz (6)), .ref am, .null, .ref tb, .ref lv, .int (iz (0)), .ref wt, .int (iz (0)), .ref bg, .ref pm, .int (iz (0))])), (am, zaL (G.2 0) 41 (fun _ => 0)), (rs, .inr (12, [.int (iz (ss)), .ref bs])), (bs, zaI (G.2 1) Ns (fs)), (r2, .inr (12, [.int (iz (s2)), .ref b2])), (b2, zaI (G.2 1) N2 (f2)), (r3, .inr (12, [.int (iz (s3)), .ref b3])), (b3, zaI (G.2 1) N3 (f3))]) (va_runV (As := [.ref r4]) (rest := [.ref r3]) ⟨hx, hb, hml, hown, hts⟩ (c_X11_times l G rp bp fp Np sp r4 b4 f4 N4 s4 (100000 ^ (i).toNat) 0 (k3) (q4) ((zbig (zpw_rng ⟨by omega, by omega⟩) tcz_8).1) H.size) (cwV 1 hts gX12_carried_X11_times rfl rfl rfl (by decide +kernel) ⟨Nat.le_of_ble_eq_true rfl, Nat.le_of_ble_eq_true rfl⟩) (zpV hKX hP hD [2, 3, 10, 11] rfl rfl 2 12 rfl rfl) rfl rfl hl.1 rfl (lv_room (Nat.le_of_ble_eq_true rfl)) dX12_carried_43 ⟨(by first | exact Nat.le_of_ble_eq_true rfl | (show _ ≤ (1300 : Nat); omega)), (by show _ ≤ (110000 : Nat); omega)⟩) hP hD hS hA [2, 3, 10, 11] [0, 1, 4, 5, 6, 7, 8, 9] rfl rfl rfl (by decide) (fun u_25 r5 H locs hm hP hD hS => ?_)
          obtain ⟨b5, f5, N5, s5⟩ := u_25
          have hP : va_P G.1 vwCl [(x, .inr (13, [.int (iz (th)), .int (iz (6)), .ref am, .null, .ref tb, .ref lv, .int (iz (0)), .ref wt, .int (iz (0)), .ref bg, .ref pm, .int (iz (0))])), (am, zaL (G.2 0) 41 (fun _ => 0)), (rs, .inr (12, [.int (iz (ss)), .ref bs])), (bs, zaI (G.2 1) Ns (fs)), (r2, .inr (12, [.int (iz (s2)), .ref b2])), (b2, zaI (G.2 1) N2 (f2)), (r3, .inr (12, [.int (iz (s3)), .ref b3])), (b3, zaI (G.2 1) N3 (f3)), (rp, .inr (12, [.int (iz (sp)), .ref bp])), (bp, zaI (G.2 1) Np (fp)), (r4, .inr (12, [.int (iz (s4)), .ref b4])), (b4, zaI (G.2 1) N4 (f4)), (r5, .inr (12, [.int (iz (s5)), .ref b5])), (b5, zaI (G.2 1) N5 (f5))] H := hP
          have hD : va_D A [(x, .inr (13, [.int (iz (th)), .int (iz (6)), .ref am, .null, .ref tb, .ref lv, .int (iz (0)), .ref wt, .int (iz (0)), .ref bg, .ref pm, .int (iz (0))])), (am, zaL (G.2 0) 41 (fun _ => 0)), (rs, .inr (12, [.int (iz (ss)), .ref bs])), (bs, zaI (G.2 1) Ns (fs)), (r2, .inr (12, [.int (iz (s2)), .ref b2])), (b2, zaI (G.2 1) N2 (f2)), (r3, .inr (12, [.int (iz (s3)), .ref b3])), (b3, zaI (G.2 1) N3 (f3)), (rp, .inr (12, [.int (iz (sp)), .ref bp])), (bp, zaI (G.2 1) Np (fp)), (r4, .inr (12, [.int (iz (s4)), .ref b4])), (b4, zaI (G.2 1) N4 (f4)), (r5, .inr (12, [.int (iz (s5)), .ref b5])), (b5, zaI (G.2 1) N5 (f5))] := hD
          have hm : tmw f5 N5 s5 ((100000 ^ (i).toNat) * (0 : Int)) := hm
          refine zc_r (wr := [(x, .inr (13, [.int (iz (th)), .int (iz (6)), .ref am, .null, .ref tb, .ref lv, .int (iz (0)), .ref wt, .int (iz (0)), .ref bg, .ref pm, .int (iz (0))])), (am, zaL (G.2 0) 41 (fun _ => 0)), (rs, .inr (12, [.int (iz (ss)), .ref bs])), (bs, zaI (G.2 1) Ns (fs)), (r2, .inr (12, [.int (iz (s2)), .ref b2])), (b2, zaI (G.2 1) N2 (f2)), (rp, .inr (12, [.int (iz (sp)), .ref bp])), (bp, zaI (G.2 1) Np (fp)), (r4, .inr (12, [.int (iz (s4)), .ref b4])), (b4, zaI (G.2 1) N4 (f4))]) (va_runV (As := [.ref r5]) (rest := []) ⟨hx, hb, hml, hown, hts⟩ (c_X11_plus l G r3 b3 f3 N3 s3 r5 b5 f5 N5 s5 (0 * (100000 + po)) (100000 ^ (i).toNat * 0) (hs) (hm) (zbig_add (zbig tcz_70 (zrt h1)).2 (zbig (zpw_rng ⟨by omega, by omega⟩) tcz_8).2) H.size) (cwV 1 hts gX12_carried_X11_plus rfl rfl rfl (by decide +kernel) ⟨Nat.le_of_ble_eq_true rfl, Nat.le_of_ble_eq_true rfl⟩) (zpV hKX hP hD [6, 7, 12, 13] rfl rfl 6 12 rfl rfl) rfl rfl hl.1 rfl (lv_room (Nat.le_of_ble_eq_true rfl)) dX12_carried_46 ⟨(by first | exact Nat.le_of_ble_eq_true rfl | (show _ ≤ (1300 : Nat); omega)), (by show _ ≤ (110000 : Nat); omega)⟩) hP hD hS hA [6, 7, 12, 13] [0, 1, 2, 3, 4, 5, 8, 9, 10, 11] rfl rfl rfl (by decide) (fun u_27 r6 H locs hpl hP hD hS => ?_)
          obtain ⟨b6, f6, N6, s6⟩ := u_27
          have hP : va_P G.1 vwCl [(x, .inr (13, [.int (iz (th)), .int (iz (6)), .ref am, .null, .ref tb, .ref lv, .int (iz (0)), .ref wt, .int (iz (0)), .ref bg, .ref pm, .int (iz (0))])), (am, zaL (G.2 0) 41 (fun _ => 0)), (rs, .inr (12, [.int (iz (ss)), .ref bs])), (bs, zaI (G.2 1) Ns (fs)), (r2, .inr (12, [.int (iz (s2)), .ref b2])), (b2, zaI (G.2 1) N2 (f2)), (rp, .inr (12, [.int (iz (sp)), .ref bp])), (bp, zaI (G.2 1) Np (fp)), (r4, .inr (12, [.int (iz (s4)), .ref b4])), (b4, zaI (G.2 1) N4 (f4)), (r6, .inr (12, [.int (iz (s6)), .ref b6])), (b6, zaI (G.2 1) N6 (f6))] H := hP
          have hD : va_D A [(x, .inr (13, [.int (iz (th)), .int (iz (6)), .ref am, .null, .ref tb, .ref lv, .int (iz (0)), .ref wt, .int (iz (0)), .ref bg, .ref pm, .int (iz (0))])), (am, zaL (G.2 0) 41 (fun _ => 0)), (rs, .inr (12, [.int (iz (ss)), .ref bs])), (bs, zaI (G.2 1) Ns (fs)), (r2, .inr (12, [.int (iz (s2)), .ref b2])), (b2, zaI (G.2 1) N2 (f2)), (rp, .inr (12, [.int (iz (sp)), .ref bp])), (bp, zaI (G.2 1) Np (fp)), (r4, .inr (12, [.int (iz (s4)), .ref b4])), (b4, zaI (G.2 1) N4 (f4)), (r6, .inr (12, [.int (iz (s6)), .ref b6])), (b6, zaI (G.2 1) N6 (f6))] := hD
          have hpl : tmw f6 N6 s6 ((0 * (100000 + po)) + (100000 ^ (i).toNat * 0)) := hpl
          refine lv_astore_n (lv' := [(2, .ref r6), (4, .int (iz (i))), (3, .ref rp), (0, .ref x), (1, .int (iz (po)))]) hx hb dX12_carried_49 rfl hl (by decide) rfl (fun ls hl => ?_)
          refine lv_aload_n hx hb dX12_carried_50 rfl (lv_at hl 2 rfl) ?_
          refine zr_ldc2 (z := 100000) hx hb hown (hts (.constantLong RX12 145 (100000)) (by decide +kernel)) rfl dX12_carried_51 ?_
          refine zc_r (wr := [(x, .inr (13, [.int (iz (th)), .int (iz (6)), .ref am, .null, .ref tb, .ref lv, .int (iz (0)), .ref wt, .int (iz (0)), .ref bg, .ref pm, .int (iz (0))])), (am, zaL (G.2 0) 41 (fun _ => 0)), (rs, .inr (12, [.int (iz (ss)), .ref bs])), (bs, zaI (G.2 1) Ns (fs)), (r2, .inr (12, [.int (iz (s2)), .ref b2])), (b2, zaI (G.2 1) N2 (f2)), (rp, .inr (12, [.int (iz (sp)), .ref bp])), (bp, zaI (G.2 1) Np (fp)), (r4, .inr (12, [.int (iz (s4)), .ref b4])), (b4, zaI (G.2 1) N4 (f4)), (r6, .inr (12, [.int (iz (s6)), .ref b6])), (b6, zaI (G.2 1) N6 (f6))]) (va_runS (As := [.long (lz (100000))]) (rest := [.ref rp]) ⟨hx, hb, hml, hown, hts⟩ (c_X11_of l G 100000 (by omega) H.size) (va_cwS 1 hts gX12_carried_X11_of rfl rfl rfl (by decide +kernel) ⟨Nat.le_of_ble_eq_true rfl, Nat.le_of_ble_eq_true rfl⟩) (zpS hKX hP hD [] rfl rfl) rfl rfl hl.1 rfl (lv_room (Nat.le_of_ble_eq_true rfl)) dX12_carried_54 ⟨(by first | exact Nat.le_of_ble_eq_true rfl | (show _ ≤ (1300 : Nat); omega)), (by show _ ≤ (110000 : Nat); omega)⟩) hP hD hS hA [] [0, 1, 2, 3, 4, 5, 6, 7, 8, 9, 10, 11] rfl rfl rfl (by decide) (fun u_29 r7 H locs q7 hP hD hS => ?_)
          obtain ⟨b7, f7, N7, s7⟩ := u_29
          have hP : va_P G.1 vwCl [(x, .inr (13, [.int (iz (th)), .int (iz (6)), .ref am, .null, .ref tb, .ref lv, .int (iz (0)), .ref wt, .int (iz (0)), .ref bg, .ref pm, .int (iz (0))])), (am, zaL (G.2 0) 41 (fun _ => 0)), (rs, .inr (12, [.int (iz (ss)), .ref bs])), (bs, zaI (G.2 1) Ns (fs)), (r2, .inr (12, [.int (iz (s2)), .ref b2])), (b2, zaI (G.2 1) N2 (f2)), (rp, .inr (12, [.int (iz (sp)), .ref bp])), (bp, zaI (G.2 1) Np (fp)), (r4, .inr (12, [.int (iz (s4)), .ref b4])), (b4, zaI (G.2 1) N4 (f4)), (r6, .inr (12, [.int (iz (s6)), .ref b6])), (b6, zaI (G.2 1) N6 (f6)), (r7, .inr (12, [.int (iz (s7)), .ref b7])), (b7, zaI (G.2 1) N7 (f7))] H := hP
          have hD : va_D A [(x, .inr (13, [.int (iz (th)), .int (iz (6)), .ref am, .null, .ref tb, .ref lv, .int (iz (0)), .ref wt, .int (iz (0)), .ref bg, .ref pm, .int (iz (0))])), (am, zaL (G.2 0) 41 (fun _ => 0)), (rs, .inr (12, [.int (iz (ss)), .ref bs])), (bs, zaI (G.2 1) Ns (fs)), (r2, .inr (12, [.int (iz (s2)), .ref b2])), (b2, zaI (G.2 1) N2 (f2)), (rp, .inr (12, [.int (iz (sp)), .ref bp])), (bp, zaI (G.2 1) Np (fp)), (r4, .inr (12, [.int (iz (s4)), .ref b4])), (b4, zaI (G.2 1) N4 (f4)), (r6, .inr (12, [.int (iz (s6)), .ref b6])), (b6, zaI (G.2 1) N6 (f6)), (r7, .inr (12, [.int (iz (s7)), .ref b7])), (b7, zaI (G.2 1) N7 (f7))] := hD
          have q7 : tmw f7 N7 s7 (100000 : Int) := q7
          refine zc_r (wr := [(x, .inr (13, [.int (iz (th)), .int (iz (6)), .ref am, .null, .ref tb, .ref lv, .int (iz (0)), .ref wt, .int (iz (0)), .ref bg, .ref pm, .int (iz (0))])), (am, zaL (G.2 0) 41 (fun _ => 0)), (rs, .inr (12, [.int (iz (ss)), .ref bs])), (bs, zaI (G.2 1) Ns (fs)), (r2, .inr (12, [.int (iz (s2)), .ref b2])), (b2, zaI (G.2 1) N2 (f2)), (r4, .inr (12, [.int (iz (s4)), .ref b4])), (b4, zaI (G.2 1) N4 (f4)), (r6, .inr (12, [.int (iz (s6)), .ref b6])), (b6, zaI (G.2 1) N6 (f6))]) (va_runV (As := [.ref r7]) (rest := []) ⟨hx, hb, hml, hown, hts⟩ (c_X11_times l G rp bp fp Np sp r7 b7 f7 N7 s7 (100000 ^ (i).toNat) 100000 (k3) (q7) ((zbig (zpw_rng ⟨by omega, by omega⟩) tcz_p).1) H.size) (cwV 1 hts gX12_carried_X11_times rfl rfl rfl (by decide +kernel) ⟨Nat.le_of_ble_eq_true rfl, Nat.le_of_ble_eq_true rfl⟩) (zpV hKX hP hD [6, 7, 12, 13] rfl rfl 6 12 rfl rfl) rfl rfl hl.1 rfl (lv_room (Nat.le_of_ble_eq_true rfl)) dX12_carried_57 ⟨(by first | exact Nat.le_of_ble_eq_true rfl | (show _ ≤ (1300 : Nat); omega)), (by show _ ≤ (110000 : Nat); omega)⟩) hP hD hS hA [6, 7, 12, 13] [0, 1, 2, 3, 4, 5, 8, 9, 10, 11] rfl rfl rfl (by decide) (fun u_31 r8 H locs hp hP hD hS => ?_)
          obtain ⟨b8, f8, N8, s8⟩ := u_31
          have hP : va_P G.1 vwCl [(x, .inr (13, [.int (iz (th)), .int (iz (6)), .ref am, .null, .ref tb, .ref lv, .int (iz (0)), .ref wt, .int (iz (0)), .ref bg, .ref pm, .int (iz (0))])), (am, zaL (G.2 0) 41 (fun _ => 0)), (rs, .inr (12, [.int (iz (ss)), .ref bs])), (bs, zaI (G.2 1) Ns (fs)), (r2, .inr (12, [.int (iz (s2)), .ref b2])), (b2, zaI (G.2 1) N2 (f2)), (r4, .inr (12, [.int (iz (s4)), .ref b4])), (b4, zaI (G.2 1) N4 (f4)), (r6, .inr (12, [.int (iz (s6)), .ref b6])), (b6, zaI (G.2 1) N6 (f6)), (rp, .inr (12, [.int (iz (sp)), .ref bp])), (bp, zaI (G.2 1) Np (fp)), (r7, .inr (12, [.int (iz (s7)), .ref b7])), (b7, zaI (G.2 1) N7 (f7)), (r8, .inr (12, [.int (iz (s8)), .ref b8])), (b8, zaI (G.2 1) N8 (f8))] H := hP
          have hD : va_D A [(x, .inr (13, [.int (iz (th)), .int (iz (6)), .ref am, .null, .ref tb, .ref lv, .int (iz (0)), .ref wt, .int (iz (0)), .ref bg, .ref pm, .int (iz (0))])), (am, zaL (G.2 0) 41 (fun _ => 0)), (rs, .inr (12, [.int (iz (ss)), .ref bs])), (bs, zaI (G.2 1) Ns (fs)), (r2, .inr (12, [.int (iz (s2)), .ref b2])), (b2, zaI (G.2 1) N2 (f2)), (r4, .inr (12, [.int (iz (s4)), .ref b4])), (b4, zaI (G.2 1) N4 (f4)), (r6, .inr (12, [.int (iz (s6)), .ref b6])), (b6, zaI (G.2 1) N6 (f6)), (rp, .inr (12, [.int (iz (sp)), .ref bp])), (bp, zaI (G.2 1) Np (fp)), (r7, .inr (12, [.int (iz (s7)), .ref b7])), (b7, zaI (G.2 1) N7 (f7)), (r8, .inr (12, [.int (iz (s8)), .ref b8])), (b8, zaI (G.2 1) N8 (f8))] := hD
          have hp : tmw f8 N8 s8 ((100000 ^ (i).toNat) * (100000 : Int)) := hp
          refine lv_astore_n (lv' := [(3, .ref r8), (2, .ref r6), (4, .int (iz (i))), (0, .ref x), (1, .int (iz (po)))]) hx hb dX12_carried_60 rfl hl (by decide) rfl (fun ls hl => ?_)
          refine lv_iinc (v := iz (i + 1)) (lv' := [(4, .int (iz (i + 1))), (3, .ref r8), (2, .ref r6), (0, .ref x), (1, .int (iz (po)))]) hx hb dX12_carried_61 hl (k := 2) rfl (by rw [show Int32.ofInt (1) = iz (1) from rfl, iz_add]) (by decide) rfl (fun ls hl => ?_)
          refine lv_goto (tgt := 12) hx hb dX12_carried_64 (by decide) ?_
          refine W.widen (k := 30 + 30 * ((i + 1)).toNat) (n := 2000 + 2500 * ((i + 1)).toNat) (by omega) (by omega) ?_
          exact ih_12 (i + 1) r6 b6 f6 N6 s6 r8 b8 f8 N8 s8 _ _ _ (by omega) (by omega) (tpost hpl (tcz_sum _ _)) (tpost hp (tcz_pow k1.1)) (hP.sub [0, 1, 8, 9, 14, 15] rfl) (hD.sub [0, 1, 8, 9, 14, 15] (by decide) rfl) hS (hl)
    refine W.widen (k := 30 + 30 * ((0 + 1 : Int)).toNat) (n := 2000 + 2500 * ((0 + 1 : Int)).toNat) (by omega) (by omega) ?_
    exact hl_12 ((41 - (0 + 1) : Int).toNat + 1) (0 + 1) r6 b6 f6 N6 s6 r8 b8 f8 N8 s8 _ _ _ (Nat.lt_succ_self _) (by omega) (tpost hpl (by decide)) (tpost hp (by decide)) (hP.sub [0, 1, 6, 7, 12, 13] rfl) (hD.sub [0, 1, 6, 7, 12, 13] (by decide) rfl) hS (hl)

def rm_c_X12_signAt_o : Room := { frames := 4, cells := 1300, slots := 110000, locals := 92 }
theorem iw_X12_signAt_X11 : ∀ w ∈ wsX110, w ∈ wsX12_signAt := by decide +kernel
set_option maxHeartbeats 1000000 in
set_option maxRecDepth 100000 in
theorem c_X12_signAt_o (l : Launch) (G : zG) (nA : Nat) (nB : Nat) (nE : Nat) (x : Nat) (am : Nat) (tb : Nat) (lv : Nat) (wt : Nat) (bg : Nat) (pm : Nat) (th : Int) (po : Int) (h0 : -2147483648 ≤ po ∧ po < 2147483648) (h1 : 0 ≤ po ∧ po ≤ 20000) : zMe l (zE G nA nB nE) G yX12_signAt wsX12_signAt rm_c_X12_signAt_o [.ref x, .int (iz (po))] [(x, .inr (13, [.int (iz (th)), .int (iz (6)), .ref am, .null, .ref tb, .ref lv, .int (iz (0)), .ref wt, .int (iz (0)), .ref bg, .ref pm, .int (iz (0))])), (am, zaL (G.2 0) 41 (fun _ => 0))] (fun A => zQi G (fun (z : Int) (th2 : Int) => z = 0 ∧ th2 = 0) (fun (th2 : Int) => [(x, .inr (13, [.int (iz (th2)), .int (iz (6)), .ref am, .null, .ref tb, .ref lv, .int (iz (0)), .ref wt, .int (iz (0)), .ref bg, .ref pm, .int (iz (0))]))]) A) 1300 110000 := by
  refine zMe_of (cc := cX12_signAt) (maxL := 2) (ret := (some .int)) (by decide) rfl (Nat.le_of_ble_eq_true rfl) ?_
  intro p e s m below meth c ls A Q hQ hx hb hr hts hown hlocks hml hnm hKX hE hP hD hA hS hl
  have hK := hKX.1
  have iwX11 := iw_X12_signAt_X11
  obtain ⟨H, hH⟩ : ∃ h, h = s.heap := ⟨_, rfl⟩
  obtain ⟨locs, hlo⟩ : ∃ h : List Loc, h = [] := ⟨_, rfl⟩
  have hS : va_S A s.heap H locs := by rw [hH, hlo]; exact hS
  have hP : va_P G.1 vwCl [(x, .inr (13, [.int (iz (th)), .int (iz (6)), .ref am, .null, .ref tb, .ref lv, .int (iz (0)), .ref wt, .int (iz (0)), .ref bg, .ref pm, .int (iz (0))])), (am, zaL (G.2 0) 41 (fun _ => 0))] H := by rw [hH]; exact hP
  have hD : va_D A [(x, .inr (13, [.int (iz (th)), .int (iz (6)), .ref am, .null, .ref tb, .ref lv, .int (iz (0)), .ref wt, .int (iz (0)), .ref bg, .ref pm, .int (iz (0))])), (am, zaL (G.2 0) 41 (fun _ => 0))] := hD
  have hl : lv_has ls 2 [(0, .ref x), (1, .int (iz (po)))] := hl
  rw [← hH, ← hlo]
  refine lv_aload_n hx hb dX12_signAt_0 rfl (lv_at hl 0 rfl) ?_
  refine lv_iload_n hx hb dX12_signAt_1 rfl (lv_at hl 1 rfl) ?_
  refine zc_z (wr := [(x, .inr (13, [.int (iz (th)), .int (iz (6)), .ref am, .null, .ref tb, .ref lv, .int (iz (0)), .ref wt, .int (iz (0)), .ref bg, .ref pm, .int (iz (0))])), (am, zaL (G.2 0) 41 (fun _ => 0))]) (va_runS (As := [.int (iz (po))]) (rest := [.ref x]) ⟨hx, hb, hml, hown, hts⟩ (c_X12_isRate l G po (by omega) H.size) (va_cwS 1 hts gX12_signAt_X12_isRate rfl rfl rfl (by decide +kernel) ⟨Nat.le_of_ble_eq_true rfl, Nat.le_of_ble_eq_true rfl⟩) (zpS hKX hP hD [] rfl rfl) rfl rfl hl.1 rfl (lv_room (Nat.le_of_ble_eq_true rfl)) dX12_signAt_2 ⟨(by first | exact Nat.le_of_ble_eq_true rfl | (show _ ≤ (1300 : Nat); omega)), (by show _ ≤ (110000 : Nat); omega)⟩) hP hD hS hA [] [0, 1] rfl rfl rfl (by decide) (fun y1 u_1 H locs hy1 hP hD hS => ?_)
  have hP : va_P G.1 vwCl [(x, .inr (13, [.int (iz (th)), .int (iz (6)), .ref am, .null, .ref tb, .ref lv, .int (iz (0)), .ref wt, .int (iz (0)), .ref bg, .ref pm, .int (iz (0))])), (am, zaL (G.2 0) 41 (fun _ => 0))] H := hP
  have hD : va_D A [(x, .inr (13, [.int (iz (th)), .int (iz (6)), .ref am, .null, .ref tb, .ref lv, .int (iz (0)), .ref wt, .int (iz (0)), .ref bg, .ref pm, .int (iz (0))])), (am, zaL (G.2 0) 41 (fun _ => 0))] := hD
  have hy1 : y1 = decide (0 ≤ po ∧ po ≤ 20000) := hy1
  rw [show y1 = true from hy1.trans (decide_eq_true (by omega))]
  refine lv_iconst (v := iz (1)) hx hb dX12_signAt_5 rfl ?_
  refine lv_iconst (v := iz (1)) hx hb dX12_signAt_6 rfl ?_
  refine zc_z (wr := [(am, zaL (G.2 0) 41 (fun _ => 0))]) (va_runV (As := [.int (iz (zbb true)), .int (iz (1)), .int (iz (1))]) (rest := []) ⟨hx, hb, hml, hown, hts⟩ (c_X12_passes l G x th (.ref am) .null (.ref tb) (.ref lv) (.int (iz (0))) (.ref wt) (.int (iz (0))) (.ref bg) (.ref pm) (.int (iz (0))) 6 true true true  H.size) (cwV 3 hts gX12_signAt_X12_passes rfl rfl rfl (by decide +kernel) ⟨Nat.le_of_ble_eq_true rfl, Nat.le_of_ble_eq_true rfl⟩) (zpV hKX hP hD [0] rfl rfl 0 13 rfl rfl) rfl rfl hl.1 rfl (lv_room (Nat.le_of_ble_eq_true rfl)) dX12_signAt_7 ⟨(by first | exact Nat.le_of_ble_eq_true rfl | (show _ ≤ (1300 : Nat); omega)), (by show _ ≤ (110000 : Nat); omega)⟩) hP hD hS hA [0] [1] rfl rfl rfl (by decide) (fun pz u_3 H locs hp hP hD hS => ?_)
  generalize u_3 = thp at hP hD hp
  have hP : va_P G.1 vwCl [(am, zaL (G.2 0) 41 (fun _ => 0)), (x, .inr (13, [.int (iz (thp)), .int (iz ((6 : Int))), .ref am, .null, .ref tb, .ref lv, .int (iz (0)), .ref wt, .int (iz (0)), .ref bg, .ref pm, .int (iz (0))]))] H := hP
  have hD : va_D A [(am, zaL (G.2 0) 41 (fun _ => 0)), (x, .inr (13, [.int (iz (thp)), .int (iz ((6 : Int))), .ref am, .null, .ref tb, .ref lv, .int (iz (0)), .ref wt, .int (iz (0)), .ref bg, .ref pm, .int (iz (0))]))] := hD
  have hp : pz = (true && true && true) ∧ thp = zcode true true true := hp
  rw [show pz = true from hp.1]
  have htp := hp.2
  refine zr_ifz_eq (tgt := 24) hx hb dX12_signAt_10 (by decide) (fun h_5 => ?_) (fun h_5 => ?_)
  · exact absurd h_5 (by decide)
  ·
    refine lv_aload_n hx hb dX12_signAt_13 rfl (lv_at hl 0 rfl) ?_
    refine lv_iload_n hx hb dX12_signAt_14 rfl (lv_at hl 1 rfl) ?_
    refine zc_r (wr := []) (va_runV (As := [.int (iz (po))]) (rest := []) ⟨hx, hb, hml, hown, hts⟩ (c_X12_carried l G nA nB nE x am tb lv wt bg pm thp po (by omega) H.size) (cwV 1 hts gX12_signAt_X12_carried rfl rfl rfl (by decide +kernel) ⟨Nat.le_of_ble_eq_true rfl, Nat.le_of_ble_eq_true rfl⟩) (zpVe zE_ok hE hS hA hKX hP hD [1, 0] rfl rfl (va_recv hK hP (ci := 13) (q0 := 1) rfl rfl)) rfl rfl hl.1 rfl (lv_room (Nat.le_of_ble_eq_true rfl)) dX12_signAt_15 ⟨(by first | exact Nat.le_of_ble_eq_true rfl | (show _ ≤ (1300 : Nat); omega)), (by show _ ≤ (110000 : Nat); omega)⟩) hP hD hS hA [1, 0] [] rfl rfl rfl (by decide) (fun u_6 r1 H locs q1 hP hD hS => ?_)
    obtain ⟨b1, f1, N1, s1⟩ := u_6
    have hP : va_P G.1 vwCl [(x, .inr (13, [.int (iz (thp)), .int (iz (6)), .ref am, .null, .ref tb, .ref lv, .int (iz (0)), .ref wt, .int (iz (0)), .ref bg, .ref pm, .int (iz (0))])), (am, zaL (G.2 0) 41 (fun _ => 0)), (r1, .inr (12, [.int (iz (s1)), .ref b1])), (b1, zaI (G.2 1) N1 (f1))] H := hP
    have hD : va_D A [(x, .inr (13, [.int (iz (thp)), .int (iz (6)), .ref am, .null, .ref tb, .ref lv, .int (iz (0)), .ref wt, .int (iz (0)), .ref bg, .ref pm, .int (iz (0))])), (am, zaL (G.2 0) 41 (fun _ => 0)), (r1, .inr (12, [.int (iz (s1)), .ref b1])), (b1, zaI (G.2 1) N1 (f1))] := hD
    have q1 : tmw f1 N1 s1 0 := q1
    refine va_getN (D := G.1) (host := "AnnuityHouseModel") (ci := 12) (v := .int (iz (s1))) (C := RX11) (T := TX11) (N := 2) hx hb hts iwX11 hown hK hP 2 rfl rfl 0 (by decide) (va_Nw.use rfl (hKX.2.2.2 (.fieldLinkNest "AnnuityHouseModel" 39 "AnnuityHouseModel$Whole" "sign" "I" "AnnuityHouseModel") (by decide +kernel))) (fun _ h9 => h9) rfl dX12_signAt_18 ?_
    refine lv_goto (tgt := 25) hx hb dX12_signAt_21 (by decide) ?_
    rw [hQ]
    exact zr_iret (z := s1) (u := (thp)) hx hb hr hlocks (hP.sub [0] rfl) (hD.sub [0] (by decide) rfl) hS (by first | exact Nat.le_of_ble_eq_true rfl | omega) (by first | exact Nat.le_of_ble_eq_true rfl | omega) dX12_signAt_25 (show s1 = 0 ∧ thp = 0 from ⟨tmw_s0 q1, htp⟩)

def rm_c_X12_signAt_x : Room := { frames := 2, cells := 0, slots := 0, locals := 45 }
set_option maxHeartbeats 1000000 in
set_option maxRecDepth 100000 in
theorem c_X12_signAt_x (l : Launch) (G : zG) (nA : Nat) (nB : Nat) (nE : Nat) (x : Nat) (am : Nat) (tb : Nat) (lv : Nat) (wt : Nat) (bg : Nat) (pm : Nat) (th : Int) (po : Int) (h0 : -2147483648 ≤ po ∧ po < 2147483648) (h1 : ¬ (0 ≤ po ∧ po ≤ 20000)) : zMe l (zE G nA nB nE) G yX12_signAt wsX12_signAt rm_c_X12_signAt_x [.ref x, .int (iz (po))] [(x, .inr (13, [.int (iz (th)), .int (iz (6)), .ref am, .null, .ref tb, .ref lv, .int (iz (0)), .ref wt, .int (iz (0)), .ref bg, .ref pm, .int (iz (0))])), (am, zaL (G.2 0) 41 (fun _ => 0))] (fun A => zQi G (fun (z : Int) (th2 : Int) => z = 0 ∧ th2 = 1) (fun (th2 : Int) => [(x, .inr (13, [.int (iz (th2)), .int (iz (6)), .ref am, .null, .ref tb, .ref lv, .int (iz (0)), .ref wt, .int (iz (0)), .ref bg, .ref pm, .int (iz (0))]))]) A) 0 0 := by
  refine zMe_of (cc := cX12_signAt) (maxL := 2) (ret := (some .int)) (by decide) rfl (Nat.le_of_ble_eq_true rfl) ?_
  intro p e s m below meth c ls A Q hQ hx hb hr hts hown hlocks hml hnm hKX hE hP hD hA hS hl
  have hK := hKX.1
  obtain ⟨H, hH⟩ : ∃ h, h = s.heap := ⟨_, rfl⟩
  obtain ⟨locs, hlo⟩ : ∃ h : List Loc, h = [] := ⟨_, rfl⟩
  have hS : va_S A s.heap H locs := by rw [hH, hlo]; exact hS
  have hP : va_P G.1 vwCl [(x, .inr (13, [.int (iz (th)), .int (iz (6)), .ref am, .null, .ref tb, .ref lv, .int (iz (0)), .ref wt, .int (iz (0)), .ref bg, .ref pm, .int (iz (0))])), (am, zaL (G.2 0) 41 (fun _ => 0))] H := by rw [hH]; exact hP
  have hD : va_D A [(x, .inr (13, [.int (iz (th)), .int (iz (6)), .ref am, .null, .ref tb, .ref lv, .int (iz (0)), .ref wt, .int (iz (0)), .ref bg, .ref pm, .int (iz (0))])), (am, zaL (G.2 0) 41 (fun _ => 0))] := hD
  have hl : lv_has ls 2 [(0, .ref x), (1, .int (iz (po)))] := hl
  rw [← hH, ← hlo]
  refine lv_aload_n hx hb dX12_signAt_0 rfl (lv_at hl 0 rfl) ?_
  refine lv_iload_n hx hb dX12_signAt_1 rfl (lv_at hl 1 rfl) ?_
  refine zc_z (wr := [(x, .inr (13, [.int (iz (th)), .int (iz (6)), .ref am, .null, .ref tb, .ref lv, .int (iz (0)), .ref wt, .int (iz (0)), .ref bg, .ref pm, .int (iz (0))])), (am, zaL (G.2 0) 41 (fun _ => 0))]) (va_runS (As := [.int (iz (po))]) (rest := [.ref x]) ⟨hx, hb, hml, hown, hts⟩ (c_X12_isRate l G po (by omega) H.size) (va_cwS 1 hts gX12_signAt_X12_isRate rfl rfl rfl (by decide +kernel) ⟨Nat.le_of_ble_eq_true rfl, Nat.le_of_ble_eq_true rfl⟩) (zpS hKX hP hD [] rfl rfl) rfl rfl hl.1 rfl (lv_room (Nat.le_of_ble_eq_true rfl)) dX12_signAt_2 ⟨(by first | exact Nat.le_of_ble_eq_true rfl | (show _ ≤ (0 : Nat); omega)), (by first | exact Nat.le_of_ble_eq_true rfl | (show _ ≤ (0 : Nat); omega))⟩) hP hD hS hA [] [0, 1] rfl rfl rfl (by decide) (fun y1 u_1 H locs hy1 hP hD hS => ?_)
  have hP : va_P G.1 vwCl [(x, .inr (13, [.int (iz (th)), .int (iz (6)), .ref am, .null, .ref tb, .ref lv, .int (iz (0)), .ref wt, .int (iz (0)), .ref bg, .ref pm, .int (iz (0))])), (am, zaL (G.2 0) 41 (fun _ => 0))] H := hP
  have hD : va_D A [(x, .inr (13, [.int (iz (th)), .int (iz (6)), .ref am, .null, .ref tb, .ref lv, .int (iz (0)), .ref wt, .int (iz (0)), .ref bg, .ref pm, .int (iz (0))])), (am, zaL (G.2 0) 41 (fun _ => 0))] := hD
  have hy1 : y1 = decide (0 ≤ po ∧ po ≤ 20000) := hy1
  rw [show y1 = false from hy1.trans (decide_eq_false (by omega))]
  refine lv_iconst (v := iz (1)) hx hb dX12_signAt_5 rfl ?_
  refine lv_iconst (v := iz (1)) hx hb dX12_signAt_6 rfl ?_
  refine zc_z (wr := [(am, zaL (G.2 0) 41 (fun _ => 0))]) (va_runV (As := [.int (iz (zbb false)), .int (iz (1)), .int (iz (1))]) (rest := []) ⟨hx, hb, hml, hown, hts⟩ (c_X12_passes l G x th (.ref am) .null (.ref tb) (.ref lv) (.int (iz (0))) (.ref wt) (.int (iz (0))) (.ref bg) (.ref pm) (.int (iz (0))) 6 false true true  H.size) (cwV 3 hts gX12_signAt_X12_passes rfl rfl rfl (by decide +kernel) ⟨Nat.le_of_ble_eq_true rfl, Nat.le_of_ble_eq_true rfl⟩) (zpV hKX hP hD [0] rfl rfl 0 13 rfl rfl) rfl rfl hl.1 rfl (lv_room (Nat.le_of_ble_eq_true rfl)) dX12_signAt_7 ⟨(by first | exact Nat.le_of_ble_eq_true rfl | (show _ ≤ (0 : Nat); omega)), (by first | exact Nat.le_of_ble_eq_true rfl | (show _ ≤ (0 : Nat); omega))⟩) hP hD hS hA [0] [1] rfl rfl rfl (by decide) (fun pz u_3 H locs hp hP hD hS => ?_)
  generalize u_3 = thp at hP hD hp
  have hP : va_P G.1 vwCl [(am, zaL (G.2 0) 41 (fun _ => 0)), (x, .inr (13, [.int (iz (thp)), .int (iz ((6 : Int))), .ref am, .null, .ref tb, .ref lv, .int (iz (0)), .ref wt, .int (iz (0)), .ref bg, .ref pm, .int (iz (0))]))] H := hP
  have hD : va_D A [(am, zaL (G.2 0) 41 (fun _ => 0)), (x, .inr (13, [.int (iz (thp)), .int (iz ((6 : Int))), .ref am, .null, .ref tb, .ref lv, .int (iz (0)), .ref wt, .int (iz (0)), .ref bg, .ref pm, .int (iz (0))]))] := hD
  have hp : pz = (false && true && true) ∧ thp = zcode false true true := hp
  rw [show pz = false from hp.1]
  have htp := hp.2
  refine zr_ifz_eq (tgt := 24) hx hb dX12_signAt_10 (by decide) (fun h_5 => ?_) (fun h_5 => ?_)
  ·
    refine lv_iconst (v := iz (0)) hx hb dX12_signAt_24 rfl ?_
    rw [hQ]
    exact zr_iret (z := 0) (u := (thp)) hx hb hr hlocks (hP.sub [1] rfl) (hD.sub [1] (by decide) rfl) hS (by first | exact Nat.le_of_ble_eq_true rfl | omega) (by first | exact Nat.le_of_ble_eq_true rfl | omega) dX12_signAt_25 (show 0 = 0 ∧ thp = 1 from ⟨rfl, htp⟩)
  · exact absurd h_5 (by decide)

def rm_c_X12_worth_o : Room := { frames := 13, cells := 2200, slots := 200000, locals := 526 }
set_option maxHeartbeats 1000000 in
set_option maxRecDepth 100000 in
theorem c_X12_worth_o (l : Launch) (G : zG) (nA : Nat) (nB : Nat) (nE : Nat) (x : Nat) (am : Nat) (tb : Nat) (lv : Nat) (wt : Nat) (bg : Nat) (pm : Nat) (th : Int) (pe : Int) (po : Int) (h0 : -2147483648 ≤ pe ∧ pe < 2147483648) (h01 : -2147483648 ≤ po ∧ po < 2147483648) (h1 : 0 ≤ pe ∧ pe ≤ 40 ∧ 0 ≤ po ∧ po ≤ 20000) : zMe l (zE G nA nB nE) G yX12_worth wsX12_worth rm_c_X12_worth_o [.ref x, .int (iz (pe)), .int (iz (po))] [(x, .inr (13, [.int (iz (th)), .int (iz (6)), .ref am, .null, .ref tb, .ref lv, .int (iz (0)), .ref wt, .int (iz (0)), .ref bg, .ref pm, .int (iz (0))])), (am, zaL (G.2 0) 41 (fun _ => 0))] (fun A => zQl G (fun (z : Int) (th2 : Int) => z = 0 ∧ th2 = 0) (fun (th2 : Int) => [(x, .inr (13, [.int (iz (th2)), .int (iz (6)), .ref am, .null, .ref tb, .ref lv, .int (iz (0)), .ref wt, .int (iz (0)), .ref bg, .ref pm, .int (iz (0))]))]) A) 2200 200000 := by
  refine zMe_of (cc := cX12_worth) (maxL := 5) (ret := (some .long)) (by decide) rfl (Nat.le_of_ble_eq_true rfl) ?_
  intro p e s m below meth c ls A Q hQ hx hb hr hts hown hlocks hml hnm hKX hE hP hD hA hS hl
  have hK := hKX.1
  obtain ⟨H, hH⟩ : ∃ h, h = s.heap := ⟨_, rfl⟩
  obtain ⟨locs, hlo⟩ : ∃ h : List Loc, h = [] := ⟨_, rfl⟩
  have hS : va_S A s.heap H locs := by rw [hH, hlo]; exact hS
  have hP : va_P G.1 vwCl [(x, .inr (13, [.int (iz (th)), .int (iz (6)), .ref am, .null, .ref tb, .ref lv, .int (iz (0)), .ref wt, .int (iz (0)), .ref bg, .ref pm, .int (iz (0))])), (am, zaL (G.2 0) 41 (fun _ => 0))] H := by rw [hH]; exact hP
  have hD : va_D A [(x, .inr (13, [.int (iz (th)), .int (iz (6)), .ref am, .null, .ref tb, .ref lv, .int (iz (0)), .ref wt, .int (iz (0)), .ref bg, .ref pm, .int (iz (0))])), (am, zaL (G.2 0) 41 (fun _ => 0))] := hD
  have hl : lv_has ls 5 [(0, .ref x), (1, .int (iz (pe))), (2, .int (iz (po)))] := hl
  rw [← hH, ← hlo]
  have hpr := tcz_pr (po := po) (pe := pe) (by omega) (by omega)
  have hpa := zrate_pow (po := po) (k := 40 - pe) (by omega) (by omega)
  have hpb := tcz_pw (pe := pe) (by omega)
  refine lv_iload_n hx hb dX12_worth_0 rfl (lv_at hl 1 rfl) ?_
  refine zr_i2l hx hb (x := pe) (⟨by omega, by omega⟩) dX12_worth_1 ?_
  refine lv_lconst (v := lz (0)) hx hb dX12_worth_2 rfl ?_
  refine zr_ldc2 (z := 40) hx hb hown (hts (.constantLong RX12 125 (40)) (by decide +kernel)) rfl dX12_worth_3 ?_
  refine zc_z (wr := [(x, .inr (13, [.int (iz (th)), .int (iz (6)), .ref am, .null, .ref tb, .ref lv, .int (iz (0)), .ref wt, .int (iz (0)), .ref bg, .ref pm, .int (iz (0))])), (am, zaL (G.2 0) 41 (fun _ => 0))]) (va_runS (As := [.long (lz (pe)), .long (lz (0)), .long (lz (40))]) (rest := []) ⟨hx, hb, hml, hown, hts⟩ (c_X12_in l G pe 0 40 (by omega) (by omega) (by omega) H.size) (va_cwS 3 hts gX12_worth_X12_in rfl rfl rfl (by decide +kernel) ⟨Nat.le_of_ble_eq_true rfl, Nat.le_of_ble_eq_true rfl⟩) (zpS hKX hP hD [] rfl rfl) rfl rfl hl.1 rfl (lv_room (Nat.le_of_ble_eq_true rfl)) dX12_worth_6 ⟨(by first | exact Nat.le_of_ble_eq_true rfl | (show _ ≤ (2200 : Nat); omega)), (by show _ ≤ (200000 : Nat); omega)⟩) hP hD hS hA [] [0, 1] rfl rfl rfl (by decide) (fun y1 u_1 H locs hy1 hP hD hS => ?_)
  have hP : va_P G.1 vwCl [(x, .inr (13, [.int (iz (th)), .int (iz (6)), .ref am, .null, .ref tb, .ref lv, .int (iz (0)), .ref wt, .int (iz (0)), .ref bg, .ref pm, .int (iz (0))])), (am, zaL (G.2 0) 41 (fun _ => 0))] H := hP
  have hD : va_D A [(x, .inr (13, [.int (iz (th)), .int (iz (6)), .ref am, .null, .ref tb, .ref lv, .int (iz (0)), .ref wt, .int (iz (0)), .ref bg, .ref pm, .int (iz (0))])), (am, zaL (G.2 0) 41 (fun _ => 0))] := hD
  have hy1 : y1 = decide ((0 : Int) ≤ pe ∧ pe ≤ (40 : Int)) := hy1
  rw [show y1 = true from hy1.trans (decide_eq_true (by omega))]
  refine zr_ifz_eq (tgt := 23) hx hb dX12_worth_9 (by decide) (fun h_3 => ?_) (fun h_3 => ?_)
  · exact absurd h_3 (by decide)
  ·
    refine lv_iload_n hx hb dX12_worth_12 rfl (lv_at hl 2 rfl) ?_
    refine zc_z (wr := [(x, .inr (13, [.int (iz (th)), .int (iz (6)), .ref am, .null, .ref tb, .ref lv, .int (iz (0)), .ref wt, .int (iz (0)), .ref bg, .ref pm, .int (iz (0))])), (am, zaL (G.2 0) 41 (fun _ => 0))]) (va_runS (As := [.int (iz (po))]) (rest := []) ⟨hx, hb, hml, hown, hts⟩ (c_X12_isRate l G po (by omega) H.size) (va_cwS 1 hts gX12_worth_X12_isRate rfl rfl rfl (by decide +kernel) ⟨Nat.le_of_ble_eq_true rfl, Nat.le_of_ble_eq_true rfl⟩) (zpS hKX hP hD [] rfl rfl) rfl rfl hl.1 rfl (lv_room (Nat.le_of_ble_eq_true rfl)) dX12_worth_13 ⟨(by first | exact Nat.le_of_ble_eq_true rfl | (show _ ≤ (2200 : Nat); omega)), (by show _ ≤ (200000 : Nat); omega)⟩) hP hD hS hA [] [0, 1] rfl rfl rfl (by decide) (fun y2 u_4 H locs hy2 hP hD hS => ?_)
    have hP : va_P G.1 vwCl [(x, .inr (13, [.int (iz (th)), .int (iz (6)), .ref am, .null, .ref tb, .ref lv, .int (iz (0)), .ref wt, .int (iz (0)), .ref bg, .ref pm, .int (iz (0))])), (am, zaL (G.2 0) 41 (fun _ => 0))] H := hP
    have hD : va_D A [(x, .inr (13, [.int (iz (th)), .int (iz (6)), .ref am, .null, .ref tb, .ref lv, .int (iz (0)), .ref wt, .int (iz (0)), .ref bg, .ref pm, .int (iz (0))])), (am, zaL (G.2 0) 41 (fun _ => 0))] := hD
    have hy2 : y2 = decide (0 ≤ po ∧ po ≤ 20000) := hy2
    rw [show y2 = true from hy2.trans (decide_eq_true (by omega))]
    refine zr_ifz_eq (tgt := 23) hx hb dX12_worth_16 (by decide) (fun h_6 => ?_) (fun h_6 => ?_)
    · exact absurd h_6 (by decide)
    ·
      refine lv_iconst (v := iz (1)) hx hb dX12_worth_19 rfl ?_
      refine lv_goto (tgt := 24) hx hb dX12_worth_20 (by decide) ?_
      refine lv_istore_n (lv' := [(3, .int (iz (1))), (0, .ref x), (1, .int (iz (pe))), (2, .int (iz (po)))]) hx hb dX12_worth_24 rfl hl (by decide) rfl (fun ls hl => ?_)
      refine lv_iload_n hx hb dX12_worth_25 rfl (lv_at hl 0 rfl) ?_
      refine zr_if_eq (x := 1) (tgt := 64) hx hb (⟨by omega, by omega⟩) dX12_worth_26 (by decide) (fun h_7 => ?_) (fun h_7 => ?_)
      · exact absurd h_7 (by omega)
      ·
        refine lv_aload_n hx hb dX12_worth_29 rfl (lv_at hl 1 rfl) ?_
        refine lv_aload_n hx hb dX12_worth_30 rfl (lv_at hl 1 rfl) ?_
        refine lv_iload_n hx hb dX12_worth_31 rfl (lv_at hl 3 rfl) ?_
        refine zc_r (wr := []) (va_runV (As := [.int (iz (po))]) (rest := [.ref x]) ⟨hx, hb, hml, hown, hts⟩ (c_X12_carried l G nA nB nE x am tb lv wt bg pm th po (by omega) H.size) (cwV 1 hts gX12_worth_X12_carried rfl rfl rfl (by decide +kernel) ⟨Nat.le_of_ble_eq_true rfl, Nat.le_of_ble_eq_true rfl⟩) (zpVe zE_ok hE hS hA hKX hP hD [0, 1] rfl rfl (va_recv hK hP (ci := 13) (q0 := 0) rfl rfl)) rfl rfl hl.1 rfl (lv_room (Nat.le_of_ble_eq_true rfl)) dX12_worth_32 ⟨(by first | exact Nat.le_of_ble_eq_true rfl | (show _ ≤ (2200 : Nat); omega)), (by show _ ≤ (200000 : Nat); omega)⟩) hP hD hS hA [0, 1] [] rfl rfl rfl (by decide) (fun u_8 r1 H locs q1 hP hD hS => ?_)
        obtain ⟨b1, f1, N1, s1⟩ := u_8
        have hP : va_P G.1 vwCl [(x, .inr (13, [.int (iz (th)), .int (iz (6)), .ref am, .null, .ref tb, .ref lv, .int (iz (0)), .ref wt, .int (iz (0)), .ref bg, .ref pm, .int (iz (0))])), (am, zaL (G.2 0) 41 (fun _ => 0)), (r1, .inr (12, [.int (iz (s1)), .ref b1])), (b1, zaI (G.2 1) N1 (f1))] H := hP
        have hD : va_D A [(x, .inr (13, [.int (iz (th)), .int (iz (6)), .ref am, .null, .ref tb, .ref lv, .int (iz (0)), .ref wt, .int (iz (0)), .ref bg, .ref pm, .int (iz (0))])), (am, zaL (G.2 0) 41 (fun _ => 0)), (r1, .inr (12, [.int (iz (s1)), .ref b1])), (b1, zaI (G.2 1) N1 (f1))] := hD
        have q1 : tmw f1 N1 s1 0 := q1
        refine zr_ldc2 (z := 100000) hx hb hown (hts (.constantLong RX12 145 (100000)) (by decide +kernel)) rfl dX12_worth_35 ?_
        refine lv_iload_n hx hb dX12_worth_38 rfl (lv_at hl 3 rfl) ?_
        refine zr_i2l hx hb (x := po) (⟨by omega, by omega⟩) dX12_worth_39 ?_
        refine zr_ladd hx hb dX12_worth_40 ?_
        refine lv_bipush (v := iz (40)) hx hb dX12_worth_41 rfl ?_
        refine lv_iload_n hx hb dX12_worth_43 rfl (lv_at hl 2 rfl) ?_
        refine zr_isub hx hb dX12_worth_44 ?_
        refine zc_r (wr := [(x, .inr (13, [.int (iz (th)), .int (iz (6)), .ref am, .null, .ref tb, .ref lv, .int (iz (0)), .ref wt, .int (iz (0)), .ref bg, .ref pm, .int (iz (0))])), (am, zaL (G.2 0) 41 (fun _ => 0)), (r1, .inr (12, [.int (iz (s1)), .ref b1])), (b1, zaI (G.2 1) N1 (f1))]) (va_runS (As := [.long (lz (100000 + po)), .int (iz (40 - pe))]) (rest := [.ref r1, .ref x]) ⟨hx, hb, hml, hown, hts⟩ (c_X12_raised l G (100000 + po) (40 - pe) (by omega) (by omega) (zup_100 hpa) H.size) (va_cwS 2 hts gX12_worth_X12_raised rfl rfl rfl (by decide +kernel) ⟨Nat.le_of_ble_eq_true rfl, Nat.le_of_ble_eq_true rfl⟩) (zpS hKX hP hD [] rfl rfl) rfl rfl hl.1 rfl (lv_room (Nat.le_of_ble_eq_true rfl)) dX12_worth_45 ⟨(by first | exact Nat.le_of_ble_eq_true rfl | (show _ ≤ (2200 : Nat); omega)), (by show _ ≤ (200000 : Nat); omega)⟩) hP hD hS hA [] [0, 1, 2, 3] rfl rfl rfl (by decide) (fun u_10 r2 H locs q2 hP hD hS => ?_)
        obtain ⟨b2, f2, N2, s2⟩ := u_10
        have hP : va_P G.1 vwCl [(x, .inr (13, [.int (iz (th)), .int (iz (6)), .ref am, .null, .ref tb, .ref lv, .int (iz (0)), .ref wt, .int (iz (0)), .ref bg, .ref pm, .int (iz (0))])), (am, zaL (G.2 0) 41 (fun _ => 0)), (r1, .inr (12, [.int (iz (s1)), .ref b1])), (b1, zaI (G.2 1) N1 (f1)), (r2, .inr (12, [.int (iz (s2)), .ref b2])), (b2, zaI (G.2 1) N2 (f2))] H := hP
        have hD : va_D A [(x, .inr (13, [.int (iz (th)), .int (iz (6)), .ref am, .null, .ref tb, .ref lv, .int (iz (0)), .ref wt, .int (iz (0)), .ref bg, .ref pm, .int (iz (0))])), (am, zaL (G.2 0) 41 (fun _ => 0)), (r1, .inr (12, [.int (iz (s1)), .ref b1])), (b1, zaI (G.2 1) N1 (f1)), (r2, .inr (12, [.int (iz (s2)), .ref b2])), (b2, zaI (G.2 1) N2 (f2))] := hD
        have q2 : tmw f2 N2 s2 ((100000 + po) ^ (40 - pe).toNat) := q2
        refine zr_ldc2 (z := 100000) hx hb hown (hts (.constantLong RX12 145 (100000)) (by decide +kernel)) rfl dX12_worth_48 ?_
        refine lv_iload_n hx hb dX12_worth_51 rfl (lv_at hl 2 rfl) ?_
        refine zc_r (wr := [(x, .inr (13, [.int (iz (th)), .int (iz (6)), .ref am, .null, .ref tb, .ref lv, .int (iz (0)), .ref wt, .int (iz (0)), .ref bg, .ref pm, .int (iz (0))])), (am, zaL (G.2 0) 41 (fun _ => 0)), (r1, .inr (12, [.int (iz (s1)), .ref b1])), (b1, zaI (G.2 1) N1 (f1)), (r2, .inr (12, [.int (iz (s2)), .ref b2])), (b2, zaI (G.2 1) N2 (f2))]) (va_runS (As := [.long (lz (100000)), .int (iz (pe))]) (rest := [.ref r2, .ref r1, .ref x]) ⟨hx, hb, hml, hown, hts⟩ (c_X12_raised l G 100000 pe (by omega) (by omega) (zup_100 hpb) H.size) (va_cwS 2 hts gX12_worth_X12_raised rfl rfl rfl (by decide +kernel) ⟨Nat.le_of_ble_eq_true rfl, Nat.le_of_ble_eq_true rfl⟩) (zpS hKX hP hD [] rfl rfl) rfl rfl hl.1 rfl (lv_room (Nat.le_of_ble_eq_true rfl)) dX12_worth_52 ⟨(by first | exact Nat.le_of_ble_eq_true rfl | (show _ ≤ (2200 : Nat); omega)), (by show _ ≤ (200000 : Nat); omega)⟩) hP hD hS hA [] [0, 1, 2, 3, 4, 5] rfl rfl rfl (by decide) (fun u_12 r3 H locs q3 hP hD hS => ?_)
        obtain ⟨b3, f3, N3, s3⟩ := u_12
        have hP : va_P G.1 vwCl [(x, .inr (13, [.int (iz (th)), .int (iz (6)), .ref am, .null, .ref tb, .ref lv, .int (iz (0)), .ref wt, .int (iz (0)), .ref bg, .ref pm, .int (iz (0))])), (am, zaL (G.2 0) 41 (fun _ => 0)), (r1, .inr (12, [.int (iz (s1)), .ref b1])), (b1, zaI (G.2 1) N1 (f1)), (r2, .inr (12, [.int (iz (s2)), .ref b2])), (b2, zaI (G.2 1) N2 (f2)), (r3, .inr (12, [.int (iz (s3)), .ref b3])), (b3, zaI (G.2 1) N3 (f3))] H := hP
        have hD : va_D A [(x, .inr (13, [.int (iz (th)), .int (iz (6)), .ref am, .null, .ref tb, .ref lv, .int (iz (0)), .ref wt, .int (iz (0)), .ref bg, .ref pm, .int (iz (0))])), (am, zaL (G.2 0) 41 (fun _ => 0)), (r1, .inr (12, [.int (iz (s1)), .ref b1])), (b1, zaI (G.2 1) N1 (f1)), (r2, .inr (12, [.int (iz (s2)), .ref b2])), (b2, zaI (G.2 1) N2 (f2)), (r3, .inr (12, [.int (iz (s3)), .ref b3])), (b3, zaI (G.2 1) N3 (f3))] := hD
        have q3 : tmw f3 N3 s3 ((100000 : Int) ^ pe.toNat) := q3
        refine zc_r (wr := [(x, .inr (13, [.int (iz (th)), .int (iz (6)), .ref am, .null, .ref tb, .ref lv, .int (iz (0)), .ref wt, .int (iz (0)), .ref bg, .ref pm, .int (iz (0))])), (am, zaL (G.2 0) 41 (fun _ => 0)), (r1, .inr (12, [.int (iz (s1)), .ref b1])), (b1, zaI (G.2 1) N1 (f1))]) (va_runV (As := [.ref r3]) (rest := [.ref r1, .ref x]) ⟨hx, hb, hml, hown, hts⟩ (c_X11_times l G r2 b2 f2 N2 s2 r3 b3 f3 N3 s3 ((100000 + po) ^ (40 - pe).toNat) (100000 ^ pe.toNat) (q2) (q3) (hpr.2.2) H.size) (cwV 1 hts gX12_worth_X11_times rfl rfl rfl (by decide +kernel) ⟨Nat.le_of_ble_eq_true rfl, Nat.le_of_ble_eq_true rfl⟩) (zpV hKX hP hD [4, 5, 6, 7] rfl rfl 4 12 rfl rfl) rfl rfl hl.1 rfl (lv_room (Nat.le_of_ble_eq_true rfl)) dX12_worth_55 ⟨(by first | exact Nat.le_of_ble_eq_true rfl | (show _ ≤ (2200 : Nat); omega)), (by show _ ≤ (200000 : Nat); omega)⟩) hP hD hS hA [4, 5, 6, 7] [0, 1, 2, 3] rfl rfl rfl (by decide) (fun u_14 r4 H locs q4 hP hD hS => ?_)
        obtain ⟨b4, f4, N4, s4⟩ := u_14
        have hP : va_P G.1 vwCl [(x, .inr (13, [.int (iz (th)), .int (iz (6)), .ref am, .null, .ref tb, .ref lv, .int (iz (0)), .ref wt, .int (iz (0)), .ref bg, .ref pm, .int (iz (0))])), (am, zaL (G.2 0) 41 (fun _ => 0)), (r1, .inr (12, [.int (iz (s1)), .ref b1])), (b1, zaI (G.2 1) N1 (f1)), (r2, .inr (12, [.int (iz (s2)), .ref b2])), (b2, zaI (G.2 1) N2 (f2)), (r3, .inr (12, [.int (iz (s3)), .ref b3])), (b3, zaI (G.2 1) N3 (f3)), (r4, .inr (12, [.int (iz (s4)), .ref b4])), (b4, zaI (G.2 1) N4 (f4))] H := hP
        have hD : va_D A [(x, .inr (13, [.int (iz (th)), .int (iz (6)), .ref am, .null, .ref tb, .ref lv, .int (iz (0)), .ref wt, .int (iz (0)), .ref bg, .ref pm, .int (iz (0))])), (am, zaL (G.2 0) 41 (fun _ => 0)), (r1, .inr (12, [.int (iz (s1)), .ref b1])), (b1, zaI (G.2 1) N1 (f1)), (r2, .inr (12, [.int (iz (s2)), .ref b2])), (b2, zaI (G.2 1) N2 (f2)), (r3, .inr (12, [.int (iz (s3)), .ref b3])), (b3, zaI (G.2 1) N3 (f3)), (r4, .inr (12, [.int (iz (s4)), .ref b4])), (b4, zaI (G.2 1) N4 (f4))] := hD
        have q4 : tmw f4 N4 s4 (((100000 + po) ^ (40 - pe).toNat) * (100000 ^ pe.toNat)) := q4
        refine zc_r (wr := [(am, zaL (G.2 0) 41 (fun _ => 0)), (r2, .inr (12, [.int (iz (s2)), .ref b2])), (b2, zaI (G.2 1) N2 (f2)), (r3, .inr (12, [.int (iz (s3)), .ref b3])), (b3, zaI (G.2 1) N3 (f3))]) (va_runV (As := [.ref r1, .ref r4]) (rest := []) ⟨hx, hb, hml, hown, hts⟩ (c_X12_rounded l G x th (.ref am) .null (.ref tb) (.ref lv) (.int (iz (0))) (.ref wt) (.int (iz (0))) (.ref bg) (.ref pm) (.int (iz (0))) r1 b1 f1 N1 s1 r4 b4 f4 N4 s4 0 ((100000 + po) ^ (40 - pe).toNat * 100000 ^ pe.toNat) (q1) (q4) (by omega) (by decide +kernel) (zup_120 ⟨hpr.1, hpr.2.1⟩) H.size) (cwV 2 hts gX12_worth_X12_rounded rfl rfl rfl (by decide +kernel) ⟨Nat.le_of_ble_eq_true rfl, Nat.le_of_ble_eq_true rfl⟩) (zpV hKX hP hD [0, 2, 3, 8, 9] rfl rfl 0 13 rfl rfl) rfl rfl hl.1 rfl (lv_room (Nat.le_of_ble_eq_true rfl)) dX12_worth_58 ⟨(by first | exact Nat.le_of_ble_eq_true rfl | (show _ ≤ (2200 : Nat); omega)), (by show _ ≤ (200000 : Nat); omega)⟩) hP hD hS hA [0, 2, 3, 8, 9] [1, 4, 5, 6, 7] rfl rfl rfl (by decide) (fun u_16 r5 H locs q5 hP hD hS => ?_)
        obtain ⟨b5, f5, N5, s5⟩ := u_16
        have hP : va_P G.1 vwCl [(am, zaL (G.2 0) 41 (fun _ => 0)), (r2, .inr (12, [.int (iz (s2)), .ref b2])), (b2, zaI (G.2 1) N2 (f2)), (r3, .inr (12, [.int (iz (s3)), .ref b3])), (b3, zaI (G.2 1) N3 (f3)), (x, .inr (13, [.int (iz (th)), .int (iz (6)), .ref am, .null, .ref tb, .ref lv, .int (iz (0)), .ref wt, .int (iz (0)), .ref bg, .ref pm, .int (iz (0))])), (r5, .inr (12, [.int (iz (s5)), .ref b5])), (b5, zaI (G.2 1) N5 (f5))] H := hP
        have hD : va_D A [(am, zaL (G.2 0) 41 (fun _ => 0)), (r2, .inr (12, [.int (iz (s2)), .ref b2])), (b2, zaI (G.2 1) N2 (f2)), (r3, .inr (12, [.int (iz (s3)), .ref b3])), (b3, zaI (G.2 1) N3 (f3)), (x, .inr (13, [.int (iz (th)), .int (iz (6)), .ref am, .null, .ref tb, .ref lv, .int (iz (0)), .ref wt, .int (iz (0)), .ref bg, .ref pm, .int (iz (0))])), (r5, .inr (12, [.int (iz (s5)), .ref b5])), (b5, zaI (G.2 1) N5 (f5))] := hD
        have q5 : tmw f5 N5 s5 (zr6 (0 : Int) ((100000 + po) ^ (40 - pe).toNat * 100000 ^ pe.toNat)) := q5
        refine lv_goto (tgt := 65) hx hb dX12_worth_61 (by decide) ?_
        refine lv_astore (lv' := [(4, .ref r5), (3, .int (iz (1))), (0, .ref x), (1, .int (iz (pe))), (2, .int (iz (po)))]) hx hb dX12_worth_65 hl (by decide) rfl (fun ls hl => ?_)
        refine lv_aload_n hx hb dX12_worth_67 rfl (lv_at hl 2 rfl) ?_
        refine lv_iload_n hx hb dX12_worth_68 rfl (lv_at hl 1 rfl) ?_
        refine lv_aload hx hb dX12_worth_69 (lv_at hl 0 rfl) ?_
        refine lv_ifnull hx hb dX12_worth_71 ?_
        refine lv_iconst (v := iz (1)) hx hb dX12_worth_74 rfl ?_
        refine lv_goto (tgt := 79) hx hb dX12_worth_75 (by decide) ?_
        refine lv_iconst (v := iz (1)) hx hb dX12_worth_79 rfl ?_
        refine zc_z (wr := [(am, zaL (G.2 0) 41 (fun _ => 0)), (r2, .inr (12, [.int (iz (s2)), .ref b2])), (b2, zaI (G.2 1) N2 (f2)), (r3, .inr (12, [.int (iz (s3)), .ref b3])), (b3, zaI (G.2 1) N3 (f3)), (r5, .inr (12, [.int (iz (s5)), .ref b5])), (b5, zaI (G.2 1) N5 (f5))]) (va_runV (As := [.int (iz (1)), .int (iz (1)), .int (iz (1))]) (rest := []) ⟨hx, hb, hml, hown, hts⟩ (c_X12_passes l G x th (.ref am) .null (.ref tb) (.ref lv) (.int (iz (0))) (.ref wt) (.int (iz (0))) (.ref bg) (.ref pm) (.int (iz (0))) 6 true true true  H.size) (cwV 3 hts gX12_worth_X12_passes rfl rfl rfl (by decide +kernel) ⟨Nat.le_of_ble_eq_true rfl, Nat.le_of_ble_eq_true rfl⟩) (zpV hKX hP hD [5] rfl rfl 5 13 rfl rfl) rfl rfl hl.1 rfl (lv_room (Nat.le_of_ble_eq_true rfl)) dX12_worth_80 ⟨(by first | exact Nat.le_of_ble_eq_true rfl | (show _ ≤ (2200 : Nat); omega)), (by show _ ≤ (200000 : Nat); omega)⟩) hP hD hS hA [5] [0, 1, 2, 3, 4, 6, 7] rfl rfl rfl (by decide) (fun pz u_18 H locs hp hP hD hS => ?_)
        generalize u_18 = thp at hP hD hp
        have hP : va_P G.1 vwCl [(am, zaL (G.2 0) 41 (fun _ => 0)), (r2, .inr (12, [.int (iz (s2)), .ref b2])), (b2, zaI (G.2 1) N2 (f2)), (r3, .inr (12, [.int (iz (s3)), .ref b3])), (b3, zaI (G.2 1) N3 (f3)), (r5, .inr (12, [.int (iz (s5)), .ref b5])), (b5, zaI (G.2 1) N5 (f5)), (x, .inr (13, [.int (iz (thp)), .int (iz ((6 : Int))), .ref am, .null, .ref tb, .ref lv, .int (iz (0)), .ref wt, .int (iz (0)), .ref bg, .ref pm, .int (iz (0))]))] H := hP
        have hD : va_D A [(am, zaL (G.2 0) 41 (fun _ => 0)), (r2, .inr (12, [.int (iz (s2)), .ref b2])), (b2, zaI (G.2 1) N2 (f2)), (r3, .inr (12, [.int (iz (s3)), .ref b3])), (b3, zaI (G.2 1) N3 (f3)), (r5, .inr (12, [.int (iz (s5)), .ref b5])), (b5, zaI (G.2 1) N5 (f5)), (x, .inr (13, [.int (iz (thp)), .int (iz ((6 : Int))), .ref am, .null, .ref tb, .ref lv, .int (iz (0)), .ref wt, .int (iz (0)), .ref bg, .ref pm, .int (iz (0))]))] := hD
        have hp : pz = (true && true && true) ∧ thp = zcode true true true := hp
        rw [show pz = true from hp.1]
        have htp := hp.2
        refine zr_ifz_eq (tgt := 95) hx hb dX12_worth_83 (by decide) (fun h_20 => ?_) (fun h_20 => ?_)
        · exact absurd h_20 (by decide)
        ·
          refine lv_aload_n hx hb dX12_worth_86 rfl (lv_at hl 2 rfl) ?_
          refine lv_aload hx hb dX12_worth_87 (lv_at hl 0 rfl) ?_
          refine zc_l (wr := [(am, zaL (G.2 0) 41 (fun _ => 0)), (r2, .inr (12, [.int (iz (s2)), .ref b2])), (b2, zaI (G.2 1) N2 (f2)), (r3, .inr (12, [.int (iz (s3)), .ref b3])), (b3, zaI (G.2 1) N3 (f3))]) (va_runV (As := [.ref r5]) (rest := []) ⟨hx, hb, hml, hown, hts⟩ (c_X12_tells l G x thp (.ref am) .null (.ref tb) (.ref lv) (.int (iz (0))) (.ref wt) (.int (iz (0))) (.ref bg) (.ref pm) (.int (iz (0))) r5 b5 f5 N5 s5 (zr6 0 ((100000 + po) ^ (40 - pe).toNat * 100000 ^ pe.toNat)) (q5) H.size) (cwV 1 hts gX12_worth_X12_tells rfl rfl rfl (by decide +kernel) ⟨Nat.le_of_ble_eq_true rfl, Nat.le_of_ble_eq_true rfl⟩) (zpV hKX hP hD [7, 5, 6] rfl rfl 7 13 rfl rfl) rfl rfl hl.1 rfl (lv_room (Nat.le_of_ble_eq_true rfl)) dX12_worth_89 ⟨(by first | exact Nat.le_of_ble_eq_true rfl | (show _ ≤ (2200 : Nat); omega)), (by show _ ≤ (200000 : Nat); omega)⟩) hP hD hS hA [7, 5, 6] [0, 1, 2, 3, 4] rfl rfl rfl (by decide) (fun zz u_21 H locs hzz hP hD hS => ?_)
          have hP : va_P G.1 vwCl [(am, zaL (G.2 0) 41 (fun _ => 0)), (r2, .inr (12, [.int (iz (s2)), .ref b2])), (b2, zaI (G.2 1) N2 (f2)), (r3, .inr (12, [.int (iz (s3)), .ref b3])), (b3, zaI (G.2 1) N3 (f3)), (x, .inr (13, [.int (iz (thp)), .int (iz (6)), .ref am, .null, .ref tb, .ref lv, .int (iz (0)), .ref wt, .int (iz (0)), .ref bg, .ref pm, .int (iz (0))])), (r5, .inr (12, [.int (iz (s5)), .ref b5])), (b5, zaI (G.2 1) N5 (f5))] H := hP
          have hD : va_D A [(am, zaL (G.2 0) 41 (fun _ => 0)), (r2, .inr (12, [.int (iz (s2)), .ref b2])), (b2, zaI (G.2 1) N2 (f2)), (r3, .inr (12, [.int (iz (s3)), .ref b3])), (b3, zaI (G.2 1) N3 (f3)), (x, .inr (13, [.int (iz (thp)), .int (iz (6)), .ref am, .null, .ref tb, .ref lv, .int (iz (0)), .ref wt, .int (iz (0)), .ref bg, .ref pm, .int (iz (0))])), (r5, .inr (12, [.int (iz (s5)), .ref b5])), (b5, zaI (G.2 1) N5 (f5))] := hD
          have hzz : zz = (zr6 0 ((100000 + po) ^ (40 - pe).toNat * 100000 ^ pe.toNat)) := hzz
          refine lv_goto (tgt := 96) hx hb dX12_worth_92 (by decide) ?_
          rw [hQ]
          exact zr_lret (z := zz) (u := (thp)) hx hb hr hlocks (hP.sub [5] rfl) (hD.sub [5] (by decide) rfl) hS (by first | exact Nat.le_of_ble_eq_true rfl | omega) (by first | exact Nat.le_of_ble_eq_true rfl | omega) dX12_worth_96 (show zz = 0 ∧ thp = 0 from ⟨hzz.trans (zr6_0 (by omega)), htp⟩)

def rm_c_X12_worth_x : Room := { frames := 2, cells := 0, slots := 0, locals := 45 }
set_option maxHeartbeats 1000000 in
set_option maxRecDepth 100000 in
theorem c_X12_worth_x (l : Launch) (G : zG) (nA : Nat) (nB : Nat) (nE : Nat) (x : Nat) (am : Nat) (tb : Nat) (lv : Nat) (wt : Nat) (bg : Nat) (pm : Nat) (th : Int) (pe : Int) (po : Int) (h0 : -2147483648 ≤ pe ∧ pe < 2147483648) (h01 : -2147483648 ≤ po ∧ po < 2147483648) (h1 : ¬ (0 ≤ pe ∧ pe ≤ 40 ∧ 0 ≤ po ∧ po ≤ 20000)) : zMe l (zE G nA nB nE) G yX12_worth wsX12_worth rm_c_X12_worth_x [.ref x, .int (iz (pe)), .int (iz (po))] [(x, .inr (13, [.int (iz (th)), .int (iz (6)), .ref am, .null, .ref tb, .ref lv, .int (iz (0)), .ref wt, .int (iz (0)), .ref bg, .ref pm, .int (iz (0))])), (am, zaL (G.2 0) 41 (fun _ => 0))] (fun A => zQl G (fun (z : Int) (th2 : Int) => z = 0 ∧ th2 = 1) (fun (th2 : Int) => [(x, .inr (13, [.int (iz (th2)), .int (iz (6)), .ref am, .null, .ref tb, .ref lv, .int (iz (0)), .ref wt, .int (iz (0)), .ref bg, .ref pm, .int (iz (0))]))]) A) 0 0 := by
  refine zMe_of (cc := cX12_worth) (maxL := 5) (ret := (some .long)) (by decide) rfl (Nat.le_of_ble_eq_true rfl) ?_
  intro p e s m below meth c ls A Q hQ hx hb hr hts hown hlocks hml hnm hKX hE hP hD hA hS hl
  have hK := hKX.1
  obtain ⟨H, hH⟩ : ∃ h, h = s.heap := ⟨_, rfl⟩
  obtain ⟨locs, hlo⟩ : ∃ h : List Loc, h = [] := ⟨_, rfl⟩
  have hS : va_S A s.heap H locs := by rw [hH, hlo]; exact hS
  have hP : va_P G.1 vwCl [(x, .inr (13, [.int (iz (th)), .int (iz (6)), .ref am, .null, .ref tb, .ref lv, .int (iz (0)), .ref wt, .int (iz (0)), .ref bg, .ref pm, .int (iz (0))])), (am, zaL (G.2 0) 41 (fun _ => 0))] H := by rw [hH]; exact hP
  have hD : va_D A [(x, .inr (13, [.int (iz (th)), .int (iz (6)), .ref am, .null, .ref tb, .ref lv, .int (iz (0)), .ref wt, .int (iz (0)), .ref bg, .ref pm, .int (iz (0))])), (am, zaL (G.2 0) 41 (fun _ => 0))] := hD
  have hl : lv_has ls 5 [(0, .ref x), (1, .int (iz (pe))), (2, .int (iz (po)))] := hl
  rw [← hH, ← hlo]
  refine lv_iload_n hx hb dX12_worth_0 rfl (lv_at hl 1 rfl) ?_
  refine zr_i2l hx hb (x := pe) (⟨by omega, by omega⟩) dX12_worth_1 ?_
  refine lv_lconst (v := lz (0)) hx hb dX12_worth_2 rfl ?_
  refine zr_ldc2 (z := 40) hx hb hown (hts (.constantLong RX12 125 (40)) (by decide +kernel)) rfl dX12_worth_3 ?_
  refine zc_z (wr := [(x, .inr (13, [.int (iz (th)), .int (iz (6)), .ref am, .null, .ref tb, .ref lv, .int (iz (0)), .ref wt, .int (iz (0)), .ref bg, .ref pm, .int (iz (0))])), (am, zaL (G.2 0) 41 (fun _ => 0))]) (va_runS (As := [.long (lz (pe)), .long (lz (0)), .long (lz (40))]) (rest := []) ⟨hx, hb, hml, hown, hts⟩ (c_X12_in l G pe 0 40 (by omega) (by omega) (by omega) H.size) (va_cwS 3 hts gX12_worth_X12_in rfl rfl rfl (by decide +kernel) ⟨Nat.le_of_ble_eq_true rfl, Nat.le_of_ble_eq_true rfl⟩) (zpS hKX hP hD [] rfl rfl) rfl rfl hl.1 rfl (lv_room (Nat.le_of_ble_eq_true rfl)) dX12_worth_6 ⟨(by first | exact Nat.le_of_ble_eq_true rfl | (show _ ≤ (0 : Nat); omega)), (by first | exact Nat.le_of_ble_eq_true rfl | (show _ ≤ (0 : Nat); omega))⟩) hP hD hS hA [] [0, 1] rfl rfl rfl (by decide) (fun y1 u_1 H locs hy1 hP hD hS => ?_)
  have hP : va_P G.1 vwCl [(x, .inr (13, [.int (iz (th)), .int (iz (6)), .ref am, .null, .ref tb, .ref lv, .int (iz (0)), .ref wt, .int (iz (0)), .ref bg, .ref pm, .int (iz (0))])), (am, zaL (G.2 0) 41 (fun _ => 0))] H := hP
  have hD : va_D A [(x, .inr (13, [.int (iz (th)), .int (iz (6)), .ref am, .null, .ref tb, .ref lv, .int (iz (0)), .ref wt, .int (iz (0)), .ref bg, .ref pm, .int (iz (0))])), (am, zaL (G.2 0) 41 (fun _ => 0))] := hD
  have hy1 : y1 = decide ((0 : Int) ≤ pe ∧ pe ≤ (40 : Int)) := hy1
  refine zr_ifz_eq (tgt := 23) hx hb dX12_worth_9 (by decide) (fun h_3 => ?_) (fun h_3 => ?_)
  ·
    have hzy1 := of_decide_eq_false (hy1.symm.trans h_3)
    refine lv_iconst (v := iz (0)) hx hb dX12_worth_23 rfl ?_
    refine lv_istore_n (lv' := [(3, .int (iz (0))), (0, .ref x), (1, .int (iz (pe))), (2, .int (iz (po)))]) hx hb dX12_worth_24 rfl hl (by decide) rfl (fun ls hl => ?_)
    refine lv_iload_n hx hb dX12_worth_25 rfl (lv_at hl 0 rfl) ?_
    refine zr_if_eq (x := 0) (tgt := 64) hx hb (⟨by omega, by omega⟩) dX12_worth_26 (by decide) (fun h_4 => ?_) (fun h_4 => ?_)
    ·
      refine lv_null hx hb dX12_worth_64 ?_
      refine lv_astoreN (lv' := [(4, .null), (3, .int (iz (0))), (0, .ref x), (1, .int (iz (pe))), (2, .int (iz (po)))]) hx hb dX12_worth_65 hl (by decide) rfl (fun ls hl => ?_)
      refine lv_aload_n hx hb dX12_worth_67 rfl (lv_at hl 2 rfl) ?_
      refine lv_iload_n hx hb dX12_worth_68 rfl (lv_at hl 1 rfl) ?_
      refine lv_aloadN hx hb dX12_worth_69 (lv_at hl 0 rfl) ?_
      refine lv_ifnullN (tgt := 78) hx hb dX12_worth_71 (by decide) ?_
      refine lv_iconst (v := iz (0)) hx hb dX12_worth_78 rfl ?_
      refine lv_iconst (v := iz (1)) hx hb dX12_worth_79 rfl ?_
      refine zc_z (wr := [(am, zaL (G.2 0) 41 (fun _ => 0))]) (va_runV (As := [.int (iz (0)), .int (iz (0)), .int (iz (1))]) (rest := []) ⟨hx, hb, hml, hown, hts⟩ (c_X12_passes l G x th (.ref am) .null (.ref tb) (.ref lv) (.int (iz (0))) (.ref wt) (.int (iz (0))) (.ref bg) (.ref pm) (.int (iz (0))) 6 false false true  H.size) (cwV 3 hts gX12_worth_X12_passes rfl rfl rfl (by decide +kernel) ⟨Nat.le_of_ble_eq_true rfl, Nat.le_of_ble_eq_true rfl⟩) (zpV hKX hP hD [0] rfl rfl 0 13 rfl rfl) rfl rfl hl.1 rfl (lv_room (Nat.le_of_ble_eq_true rfl)) dX12_worth_80 ⟨(by first | exact Nat.le_of_ble_eq_true rfl | (show _ ≤ (0 : Nat); omega)), (by first | exact Nat.le_of_ble_eq_true rfl | (show _ ≤ (0 : Nat); omega))⟩) hP hD hS hA [0] [1] rfl rfl rfl (by decide) (fun pz u_5 H locs hp hP hD hS => ?_)
      generalize u_5 = thp at hP hD hp
      have hP : va_P G.1 vwCl [(am, zaL (G.2 0) 41 (fun _ => 0)), (x, .inr (13, [.int (iz (thp)), .int (iz ((6 : Int))), .ref am, .null, .ref tb, .ref lv, .int (iz (0)), .ref wt, .int (iz (0)), .ref bg, .ref pm, .int (iz (0))]))] H := hP
      have hD : va_D A [(am, zaL (G.2 0) 41 (fun _ => 0)), (x, .inr (13, [.int (iz (thp)), .int (iz ((6 : Int))), .ref am, .null, .ref tb, .ref lv, .int (iz (0)), .ref wt, .int (iz (0)), .ref bg, .ref pm, .int (iz (0))]))] := hD
      have hp : pz = (false && false && true) ∧ thp = zcode false false true := hp
      rw [show pz = false from hp.1]
      have htp := hp.2
      refine zr_ifz_eq (tgt := 95) hx hb dX12_worth_83 (by decide) (fun h_7 => ?_) (fun h_7 => ?_)
      ·
        refine lv_lconst (v := lz (0)) hx hb dX12_worth_95 rfl ?_
        rw [hQ]
        exact zr_lret (z := 0) (u := (thp)) hx hb hr hlocks (hP.sub [1] rfl) (hD.sub [1] (by decide) rfl) hS (by first | exact Nat.le_of_ble_eq_true rfl | omega) (by first | exact Nat.le_of_ble_eq_true rfl | omega) dX12_worth_96 (show 0 = 0 ∧ thp = 1 from ⟨rfl, htp⟩)
      · exact absurd h_7 (by decide)
    · exact absurd h_4 (by omega)
  ·
    have hzy1 := of_decide_eq_true (hy1.symm.trans h_3)
    refine lv_iload_n hx hb dX12_worth_12 rfl (lv_at hl 2 rfl) ?_
    refine zc_z (wr := [(x, .inr (13, [.int (iz (th)), .int (iz (6)), .ref am, .null, .ref tb, .ref lv, .int (iz (0)), .ref wt, .int (iz (0)), .ref bg, .ref pm, .int (iz (0))])), (am, zaL (G.2 0) 41 (fun _ => 0))]) (va_runS (As := [.int (iz (po))]) (rest := []) ⟨hx, hb, hml, hown, hts⟩ (c_X12_isRate l G po (by omega) H.size) (va_cwS 1 hts gX12_worth_X12_isRate rfl rfl rfl (by decide +kernel) ⟨Nat.le_of_ble_eq_true rfl, Nat.le_of_ble_eq_true rfl⟩) (zpS hKX hP hD [] rfl rfl) rfl rfl hl.1 rfl (lv_room (Nat.le_of_ble_eq_true rfl)) dX12_worth_13 ⟨(by first | exact Nat.le_of_ble_eq_true rfl | (show _ ≤ (0 : Nat); omega)), (by first | exact Nat.le_of_ble_eq_true rfl | (show _ ≤ (0 : Nat); omega))⟩) hP hD hS hA [] [0, 1] rfl rfl rfl (by decide) (fun y2 u_8 H locs hy2 hP hD hS => ?_)
    have hP : va_P G.1 vwCl [(x, .inr (13, [.int (iz (th)), .int (iz (6)), .ref am, .null, .ref tb, .ref lv, .int (iz (0)), .ref wt, .int (iz (0)), .ref bg, .ref pm, .int (iz (0))])), (am, zaL (G.2 0) 41 (fun _ => 0))] H := hP
    have hD : va_D A [(x, .inr (13, [.int (iz (th)), .int (iz (6)), .ref am, .null, .ref tb, .ref lv, .int (iz (0)), .ref wt, .int (iz (0)), .ref bg, .ref pm, .int (iz (0))])), (am, zaL (G.2 0) 41 (fun _ => 0))] := hD
    have hy2 : y2 = decide (0 ≤ po ∧ po ≤ 20000) := hy2
    refine zr_ifz_eq (tgt := 23) hx hb dX12_worth_16 (by decide) (fun h_10 => ?_) (fun h_10 => ?_)
    ·
      have hzy2 := of_decide_eq_false (hy2.symm.trans h_10)
      refine lv_iconst (v := iz (0)) hx hb dX12_worth_23 rfl ?_
      refine lv_istore_n (lv' := [(3, .int (iz (0))), (0, .ref x), (1, .int (iz (pe))), (2, .int (iz (po)))]) hx hb dX12_worth_24 rfl hl (by decide) rfl (fun ls hl => ?_)
      refine lv_iload_n hx hb dX12_worth_25 rfl (lv_at hl 0 rfl) ?_
      refine zr_if_eq (x := 0) (tgt := 64) hx hb (⟨by omega, by omega⟩) dX12_worth_26 (by decide) (fun h_11 => ?_) (fun h_11 => ?_)
      ·
        refine lv_null hx hb dX12_worth_64 ?_
        refine lv_astoreN (lv' := [(4, .null), (3, .int (iz (0))), (0, .ref x), (1, .int (iz (pe))), (2, .int (iz (po)))]) hx hb dX12_worth_65 hl (by decide) rfl (fun ls hl => ?_)
        refine lv_aload_n hx hb dX12_worth_67 rfl (lv_at hl 2 rfl) ?_
        refine lv_iload_n hx hb dX12_worth_68 rfl (lv_at hl 1 rfl) ?_
        refine lv_aloadN hx hb dX12_worth_69 (lv_at hl 0 rfl) ?_
        refine lv_ifnullN (tgt := 78) hx hb dX12_worth_71 (by decide) ?_
        refine lv_iconst (v := iz (0)) hx hb dX12_worth_78 rfl ?_
        refine lv_iconst (v := iz (1)) hx hb dX12_worth_79 rfl ?_
        refine zc_z (wr := [(am, zaL (G.2 0) 41 (fun _ => 0))]) (va_runV (As := [.int (iz (0)), .int (iz (0)), .int (iz (1))]) (rest := []) ⟨hx, hb, hml, hown, hts⟩ (c_X12_passes l G x th (.ref am) .null (.ref tb) (.ref lv) (.int (iz (0))) (.ref wt) (.int (iz (0))) (.ref bg) (.ref pm) (.int (iz (0))) 6 false false true  H.size) (cwV 3 hts gX12_worth_X12_passes rfl rfl rfl (by decide +kernel) ⟨Nat.le_of_ble_eq_true rfl, Nat.le_of_ble_eq_true rfl⟩) (zpV hKX hP hD [0] rfl rfl 0 13 rfl rfl) rfl rfl hl.1 rfl (lv_room (Nat.le_of_ble_eq_true rfl)) dX12_worth_80 ⟨(by first | exact Nat.le_of_ble_eq_true rfl | (show _ ≤ (0 : Nat); omega)), (by first | exact Nat.le_of_ble_eq_true rfl | (show _ ≤ (0 : Nat); omega))⟩) hP hD hS hA [0] [1] rfl rfl rfl (by decide) (fun pz u_12 H locs hp hP hD hS => ?_)
        generalize u_12 = thp at hP hD hp
        have hP : va_P G.1 vwCl [(am, zaL (G.2 0) 41 (fun _ => 0)), (x, .inr (13, [.int (iz (thp)), .int (iz ((6 : Int))), .ref am, .null, .ref tb, .ref lv, .int (iz (0)), .ref wt, .int (iz (0)), .ref bg, .ref pm, .int (iz (0))]))] H := hP
        have hD : va_D A [(am, zaL (G.2 0) 41 (fun _ => 0)), (x, .inr (13, [.int (iz (thp)), .int (iz ((6 : Int))), .ref am, .null, .ref tb, .ref lv, .int (iz (0)), .ref wt, .int (iz (0)), .ref bg, .ref pm, .int (iz (0))]))] := hD
        have hp : pz = (false && false && true) ∧ thp = zcode false false true := hp
        rw [show pz = false from hp.1]
        have htp := hp.2
        refine zr_ifz_eq (tgt := 95) hx hb dX12_worth_83 (by decide) (fun h_14 => ?_) (fun h_14 => ?_)
        ·
          refine lv_lconst (v := lz (0)) hx hb dX12_worth_95 rfl ?_
          rw [hQ]
          exact zr_lret (z := 0) (u := (thp)) hx hb hr hlocks (hP.sub [1] rfl) (hD.sub [1] (by decide) rfl) hS (by first | exact Nat.le_of_ble_eq_true rfl | omega) (by first | exact Nat.le_of_ble_eq_true rfl | omega) dX12_worth_96 (show 0 = 0 ∧ thp = 1 from ⟨rfl, htp⟩)
        · exact absurd h_14 (by decide)
      · exact absurd h_11 (by omega)
    ·
      have hzy2 := of_decide_eq_true (hy2.symm.trans h_10)
      exact absurd h1 (by omega)
