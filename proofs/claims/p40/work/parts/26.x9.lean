-- THE HOUSE: its public methods in any state, 1 (laid by wip/p40/y9.py)
theorem zrd_rng {ov k : Int} (h1 : -1000000000000 ≤ ov) (h2 : ov ≤ 1000000000000) (hk : 0 ≤ k ∧ k ≤ 6) : -1000000000000000000 ≤ ov * 10 ^ k.toNat ∧ ov * 10 ^ k.toNat ≤ 1000000000000000000 := by
  have a := zpow_le (b := 10) (by decide) (show k.toNat ≤ 6 by omega)
  have b := zpow_pos (x := 10) (by decide) k.toNat
  have c : (10 : Int) ^ 6 = 1000000 := by decide
  have d1 : ov * 10 ^ k.toNat ≤ 1000000000000 * 10 ^ k.toNat := Int.mul_le_mul_of_nonneg_right h2 (by omega)
  have d2 : -1000000000000 * 10 ^ k.toNat ≤ ov * 10 ^ k.toNat := Int.mul_le_mul_of_nonneg_right h1 (by omega)
  omega
theorem zcd_rng {x y : Int} (h : 0 ≤ x ∧ x ≤ 1000000000) (h2 : 0 ≤ y ∧ y ≤ 366) : 0 ≤ x * y ∧ x * y ≤ 366000000000 := by
  have a := Int.mul_nonneg h.1 h2.1
  have b : x * y ≤ 1000000000 * y := Int.mul_le_mul_of_nonneg_right h.2 h2.1
  omega
theorem zadd_1 (f : Int → Int) (pe mo : Int) (i : Int) : zadd f pe 1 mo 0 i = zup f pe (f pe + mo) i := by
  by_cases c : i = pe
  · subst c
    rw [zup_s]
    unfold zadd
    rw [if_pos (by omega), Int.mul_zero, Int.add_zero]
  · rw [zup_n c]
    unfold zadd
    rw [if_neg (by omega)]
theorem zfit_1 {f : Int → Int} {pe mo : Int} (h : ∀ j : Int, 0 ≤ j → j < 1 → zamt (f (pe + j) + mo + j * 0)) : zamt (f pe + mo) := by
  have := h 0 (by omega) (by omega)
  rw [Int.add_zero, Int.mul_zero, Int.add_zero] at this
  exact this
theorem zfit_1i {f : Int → Int} {pe mo : Int} (h : zamt (f pe + mo)) : ∀ j : Int, 0 ≤ j → j < 1 → zamt (f (pe + j) + mo + j * 0) := fun j a b => by
  rw [show j = 0 by omega, Int.add_zero, Int.mul_zero, Int.add_zero]
  exact h
theorem zrok_add {f : Int → Int} {fr mn mo se : Int} (hf : zrok f) (h : 0 ≤ fr ∧ 0 ≤ mn) (hfit : ∀ j : Int, 0 ≤ j → j < mn → zamt (f (fr + j) + mo + j * se)) : zrok (zadd f fr mn mo se) := fun i a b => by
  unfold zadd
  split
  · rename_i c
    have := hfit (i - fr) (by omega) (by omega)
    rw [show fr + (i - fr) = i by omega] at this
    omega
  · exact hf i a b
def rm_c_X9_demandRate : Room := { frames := 7, cells := 1, slots := 6, locals := 110 }
set_option maxHeartbeats 1000000 in
set_option maxRecDepth 100000 in
theorem c_X9_demandRate (l : Launch) (G : zG) (s1 : Nat) (s2 : Nat) (s3 : Nat) (po : Int) (hl0 : l.stackTraces = false) (r_po : -2147483648 ≤ po ∧ po < 2147483648) : zMt l (zXE s1 s2 s3) G yX9_demandRate wsX9_demandRate rm_c_X9_demandRate [.int (iz (po))] [] (fun A => zQv G (fun (_ : Unit) => 0 ≤ po ∧ po ≤ 20000) (fun (_ : Unit) => []) A) (SX := Unit) (fun (E9 : String) (ux : Unit) => (E9 = "java/lang/IllegalArgumentException" ∧ ¬ (0 ≤ po ∧ po ≤ 20000))) (fun (ux : Unit) => []) 1 6 := by
  refine zMt_of (cc := cX9_demandRate) (maxL := 1) (ret := none) (by decide) rfl (Nat.le_of_ble_eq_true rfl) ?_
  intro p e s m below meth c ls A Q hQ hx hb hr hts hown hlocks hml hout hKX hE hP hD hA hS hl
  have hK := hKX.1
  obtain ⟨H, hH⟩ : ∃ h, h = s.heap := ⟨_, rfl⟩
  obtain ⟨locs, hlo⟩ : ∃ h : List Loc, h = [] := ⟨_, rfl⟩
  have hS : va_S A s.heap H locs := by rw [hH, hlo]; exact hS
  have hP : va_P G.1 vwCl [] H := by rw [hH]; exact hP
  have hD : va_D A [] := hD
  have hl : lv_has ls 1 [(0, .int (iz (po)))] := hl
  rw [← hH, ← hlo]
  refine lv_iload_n hx hb dX9_demandRate_0 rfl (lv_at hl 0 rfl) ?_
  refine zr_i2l hx hb (x := po) (⟨by omega, by omega⟩) dX9_demandRate_1 ?_
  refine lv_lconst (v := lz (0)) hx hb dX9_demandRate_2 rfl ?_
  refine zr_ldc2 (z := 20000) hx hb hown (hts (.constantLong RX9 279 (20000)) (by decide +kernel)) rfl dX9_demandRate_3 ?_
  refine zc_z (wr := []) (va_runS (As := [.long (lz (po)), .long (lz (0)), .long (lz (20000))]) (rest := []) ⟨hx, hb, hml, hown, hts⟩ (c_X9_isWithin l G po 0 20000 (by omega) (by omega) (by omega) H.size) (va_cwS 3 hts gX9_demandRate_X9_isWithin rfl rfl rfl (by decide +kernel) ⟨Nat.le_of_ble_eq_true rfl, Nat.le_of_ble_eq_true rfl⟩) (zpS hKX hP hD [] rfl rfl) rfl rfl hl.1 rfl (lv_room (Nat.le_of_ble_eq_true rfl)) dX9_demandRate_6 ⟨(by first | exact Nat.le_of_ble_eq_true rfl | (show _ ≤ (1 : Nat); omega)), (by first | exact Nat.le_of_ble_eq_true rfl | (show _ ≤ (6 : Nat); omega))⟩) hP hD hS hA [] [] rfl rfl rfl (by decide) (fun z_2 u_1 H locs hq_4 hP hD hS => ?_)
  have hP : va_P G.1 vwCl [] H := hP
  have hD : va_D A [] := hD
  have hq_4 : z_2 = decide ((0 : Int) ≤ po ∧ po ≤ (20000 : Int)) := hq_4
  refine zct_v (wr := []) (vx_runS (As := [.int (iz (zbb z_2))]) (rest := []) ⟨hx, hb, hml, hown, hts⟩ (c_X9_demand_t l G s1 s2 s3 z_2 hl0 H.size) (va_cwS 1 hts gX9_demandRate_X9_demand rfl rfl rfl (by decide +kernel) ⟨Nat.le_of_ble_eq_true rfl, Nat.le_of_ble_eq_true rfl⟩) (zpSe zXE_ok hE hS hA hKX hP hD [] rfl rfl) rfl rfl hl.1 rfl (lv_room (Nat.le_of_ble_eq_true rfl)) dX9_demandRate_9 ⟨(by first | exact Nat.le_of_ble_eq_true rfl | (show _ ≤ (1 : Nat); omega)), (by first | exact Nat.le_of_ble_eq_true rfl | (show _ ≤ (6 : Nat); omega))⟩) hP hD hS hA [] [] rfl rfl rfl (by decide) (fun E9 ce9 q9 ux_8 H locs hx9_9 hP hD hS hce9 hcv9 hcl9 => ?_) (fun u_7 H locs hq_6 hP hD hS => ?_)
  ·
    have hP : va_P G.1 vwCl [] H := hP
    have hD : va_D A [] := hD
    rcases hx9_9 with ⟨rfl, hxc⟩
    ·
      have hxc : z_2 = false := hxc
      have hzz_2 := of_decide_eq_false (hq_4.symm.trans hxc)
      rw [hQ]
      exact zt_out () hout hlocks hce9 hcv9 hcl9 hP hD hS ⟨rfl, (show ¬ (0 ≤ po ∧ po ≤ 20000) from by first | exact hxc | omega)⟩ (by first | exact Nat.le_of_ble_eq_true rfl | omega) (by first | exact Nat.le_of_ble_eq_true rfl | omega)
  have hP : va_P G.1 vwCl [] H := hP
  have hD : va_D A [] := hD
  have hq_6 : z_2 = true := hq_6
  have hzz_2 := of_decide_eq_true (hq_4.symm.trans hq_6)
  rw [hQ]
  exact vx_ret (zr_vret (u := ()) hx hb hr hlocks hP hD hS (by first | exact Nat.le_of_ble_eq_true rfl | omega) (by first | exact Nat.le_of_ble_eq_true rfl | omega) dX9_demandRate_12 (show 0 ≤ po ∧ po ≤ 20000 from by omega))

def rm_c_X9_demandBond : Room := { frames := 7, cells := 3, slots := 18, locals := 110 }
set_option maxHeartbeats 1000000 in
set_option maxRecDepth 100000 in
theorem c_X9_demandBond (l : Launch) (G : zG) (s1 : Nat) (s2 : Nat) (s3 : Nat) (cp : Int) (fa : Int) (pr : Int) (hl0 : l.stackTraces = false) (r_cp : -9223372036854775808 ≤ cp ∧ cp < 9223372036854775808) (r_fa : -9223372036854775808 ≤ fa ∧ fa < 9223372036854775808) (r_pr : -2147483648 ≤ pr ∧ pr < 2147483648) : zMt l (zXE s1 s2 s3) G yX9_demandBond wsX9_demandBond rm_c_X9_demandBond [.long (lz (cp)), .long (lz (fa)), .int (iz (pr))] [] (fun A => zQv G (fun (_ : Unit) => 0 ≤ cp ∧ cp ≤ 1000000000 ∧ 0 ≤ fa ∧ fa ≤ 1000000000 ∧ 1 ≤ pr ∧ pr ≤ 40) (fun (_ : Unit) => []) A) (SX := Unit) (fun (E9 : String) (ux : Unit) => (E9 = "java/lang/IllegalArgumentException" ∧ ¬ (0 ≤ cp ∧ cp ≤ 1000000000 ∧ 0 ≤ fa ∧ fa ≤ 1000000000 ∧ 1 ≤ pr ∧ pr ≤ 40))) (fun (ux : Unit) => []) 3 18 := by
  refine zMt_of (cc := cX9_demandBond) (maxL := 5) (ret := none) (by decide) rfl (Nat.le_of_ble_eq_true rfl) ?_
  intro p e s m below meth c ls A Q hQ hx hb hr hts hown hlocks hml hout hKX hE hP hD hA hS hl
  have hK := hKX.1
  obtain ⟨H, hH⟩ : ∃ h, h = s.heap := ⟨_, rfl⟩
  obtain ⟨locs, hlo⟩ : ∃ h : List Loc, h = [] := ⟨_, rfl⟩
  have hS : va_S A s.heap H locs := by rw [hH, hlo]; exact hS
  have hP : va_P G.1 vwCl [] H := by rw [hH]; exact hP
  have hD : va_D A [] := hD
  have hl : lv_has ls 5 [(0, .long (lz (cp))), (2, .long (lz (fa))), (4, .int (iz (pr)))] := hl
  rw [← hH, ← hlo]
  refine lv_lload_n hx hb dX9_demandBond_0 rfl (lv_at hl 0 rfl) ?_
  refine lv_lconst (v := lz (0)) hx hb dX9_demandBond_1 rfl ?_
  refine zr_ldc2 (z := 1000000000) hx hb hown (hts (.constantLong RX9 91 (1000000000)) (by decide +kernel)) rfl dX9_demandBond_2 ?_
  refine zc_z (wr := []) (va_runS (As := [.long (lz (cp)), .long (lz (0)), .long (lz (1000000000))]) (rest := []) ⟨hx, hb, hml, hown, hts⟩ (c_X9_isWithin l G cp 0 1000000000 (by omega) (by omega) (by omega) H.size) (va_cwS 3 hts gX9_demandBond_X9_isWithin rfl rfl rfl (by decide +kernel) ⟨Nat.le_of_ble_eq_true rfl, Nat.le_of_ble_eq_true rfl⟩) (zpS hKX hP hD [] rfl rfl) rfl rfl hl.1 rfl (lv_room (Nat.le_of_ble_eq_true rfl)) dX9_demandBond_5 ⟨(by first | exact Nat.le_of_ble_eq_true rfl | (show _ ≤ (3 : Nat); omega)), (by first | exact Nat.le_of_ble_eq_true rfl | (show _ ≤ (18 : Nat); omega))⟩) hP hD hS hA [] [] rfl rfl rfl (by decide) (fun z_2 u_1 H locs hq_4 hP hD hS => ?_)
  have hP : va_P G.1 vwCl [] H := hP
  have hD : va_D A [] := hD
  have hq_4 : z_2 = decide ((0 : Int) ≤ cp ∧ cp ≤ (1000000000 : Int)) := hq_4
  refine zct_v (wr := []) (vx_runS (As := [.int (iz (zbb z_2))]) (rest := []) ⟨hx, hb, hml, hown, hts⟩ (c_X9_demand_t l G s1 s2 s3 z_2 hl0 H.size) (va_cwS 1 hts gX9_demandBond_X9_demand rfl rfl rfl (by decide +kernel) ⟨Nat.le_of_ble_eq_true rfl, Nat.le_of_ble_eq_true rfl⟩) (zpSe zXE_ok hE hS hA hKX hP hD [] rfl rfl) rfl rfl hl.1 rfl (lv_room (Nat.le_of_ble_eq_true rfl)) dX9_demandBond_8 ⟨(by first | exact Nat.le_of_ble_eq_true rfl | (show _ ≤ (3 : Nat); omega)), (by first | exact Nat.le_of_ble_eq_true rfl | (show _ ≤ (18 : Nat); omega))⟩) hP hD hS hA [] [] rfl rfl rfl (by decide) (fun E9 ce9 q9 ux_8 H locs hx9_9 hP hD hS hce9 hcv9 hcl9 => ?_) (fun u_7 H locs hq_6 hP hD hS => ?_)
  ·
    have hP : va_P G.1 vwCl [] H := hP
    have hD : va_D A [] := hD
    rcases hx9_9 with ⟨rfl, hxc⟩
    ·
      have hxc : z_2 = false := hxc
      have hzz_2 := of_decide_eq_false (hq_4.symm.trans hxc)
      rw [hQ]
      exact zt_out () hout hlocks hce9 hcv9 hcl9 hP hD hS ⟨rfl, (show ¬ (0 ≤ cp ∧ cp ≤ 1000000000 ∧ 0 ≤ fa ∧ fa ≤ 1000000000 ∧ 1 ≤ pr ∧ pr ≤ 40) from by first | exact hxc | omega)⟩ (by first | exact Nat.le_of_ble_eq_true rfl | omega) (by first | exact Nat.le_of_ble_eq_true rfl | omega)
  have hP : va_P G.1 vwCl [] H := hP
  have hD : va_D A [] := hD
  have hq_6 : z_2 = true := hq_6
  have hzz_2 := of_decide_eq_true (hq_4.symm.trans hq_6)
  refine lv_lload_n hx hb dX9_demandBond_11 rfl (lv_at hl 1 rfl) ?_
  refine lv_lconst (v := lz (0)) hx hb dX9_demandBond_12 rfl ?_
  refine zr_ldc2 (z := 1000000000) hx hb hown (hts (.constantLong RX9 91 (1000000000)) (by decide +kernel)) rfl dX9_demandBond_13 ?_
  refine zc_z (wr := []) (va_runS (As := [.long (lz (fa)), .long (lz (0)), .long (lz (1000000000))]) (rest := []) ⟨hx, hb, hml, hown, hts⟩ (c_X9_isWithin l G fa 0 1000000000 (by omega) (by omega) (by omega) H.size) (va_cwS 3 hts gX9_demandBond_X9_isWithin rfl rfl rfl (by decide +kernel) ⟨Nat.le_of_ble_eq_true rfl, Nat.le_of_ble_eq_true rfl⟩) (zpS hKX hP hD [] rfl rfl) rfl rfl hl.1 rfl (lv_room (Nat.le_of_ble_eq_true rfl)) dX9_demandBond_16 ⟨(by first | exact Nat.le_of_ble_eq_true rfl | (show _ ≤ (3 : Nat); omega)), (by first | exact Nat.le_of_ble_eq_true rfl | (show _ ≤ (18 : Nat); omega))⟩) hP hD hS hA [] [] rfl rfl rfl (by decide) (fun z_11 u_10 H locs hq_13 hP hD hS => ?_)
  have hP : va_P G.1 vwCl [] H := hP
  have hD : va_D A [] := hD
  have hq_13 : z_11 = decide ((0 : Int) ≤ fa ∧ fa ≤ (1000000000 : Int)) := hq_13
  refine zct_v (wr := []) (vx_runS (As := [.int (iz (zbb z_11))]) (rest := []) ⟨hx, hb, hml, hown, hts⟩ (c_X9_demand_t l G s1 s2 s3 z_11 hl0 H.size) (va_cwS 1 hts gX9_demandBond_X9_demand rfl rfl rfl (by decide +kernel) ⟨Nat.le_of_ble_eq_true rfl, Nat.le_of_ble_eq_true rfl⟩) (zpSe zXE_ok hE hS hA hKX hP hD [] rfl rfl) rfl rfl hl.1 rfl (lv_room (Nat.le_of_ble_eq_true rfl)) dX9_demandBond_19 ⟨(by first | exact Nat.le_of_ble_eq_true rfl | (show _ ≤ (3 : Nat); omega)), (by first | exact Nat.le_of_ble_eq_true rfl | (show _ ≤ (18 : Nat); omega))⟩) hP hD hS hA [] [] rfl rfl rfl (by decide) (fun E9 ce9 q9 ux_17 H locs hx9_18 hP hD hS hce9 hcv9 hcl9 => ?_) (fun u_16 H locs hq_15 hP hD hS => ?_)
  ·
    have hP : va_P G.1 vwCl [] H := hP
    have hD : va_D A [] := hD
    rcases hx9_18 with ⟨rfl, hxc⟩
    ·
      have hxc : z_11 = false := hxc
      have hzz_11 := of_decide_eq_false (hq_13.symm.trans hxc)
      rw [hQ]
      exact zt_out () hout hlocks hce9 hcv9 hcl9 hP hD hS ⟨rfl, (show ¬ (0 ≤ cp ∧ cp ≤ 1000000000 ∧ 0 ≤ fa ∧ fa ≤ 1000000000 ∧ 1 ≤ pr ∧ pr ≤ 40) from by first | exact hxc | omega)⟩ (by first | exact Nat.le_of_ble_eq_true rfl | omega) (by first | exact Nat.le_of_ble_eq_true rfl | omega)
  have hP : va_P G.1 vwCl [] H := hP
  have hD : va_D A [] := hD
  have hq_15 : z_11 = true := hq_15
  have hzz_11 := of_decide_eq_true (hq_13.symm.trans hq_15)
  refine lv_iload hx hb dX9_demandBond_22 (lv_at hl 2 rfl) ?_
  refine zr_i2l hx hb (x := pr) (⟨by omega, by omega⟩) dX9_demandBond_24 ?_
  refine lv_lconst (v := lz (1)) hx hb dX9_demandBond_25 rfl ?_
  refine zr_ldc2 (z := 40) hx hb hown (hts (.constantLong RX9 87 (40)) (by decide +kernel)) rfl dX9_demandBond_26 ?_
  refine zc_z (wr := []) (va_runS (As := [.long (lz (pr)), .long (lz (1)), .long (lz (40))]) (rest := []) ⟨hx, hb, hml, hown, hts⟩ (c_X9_isWithin l G pr 1 40 (by omega) (by omega) (by omega) H.size) (va_cwS 3 hts gX9_demandBond_X9_isWithin rfl rfl rfl (by decide +kernel) ⟨Nat.le_of_ble_eq_true rfl, Nat.le_of_ble_eq_true rfl⟩) (zpS hKX hP hD [] rfl rfl) rfl rfl hl.1 rfl (lv_room (Nat.le_of_ble_eq_true rfl)) dX9_demandBond_29 ⟨(by first | exact Nat.le_of_ble_eq_true rfl | (show _ ≤ (3 : Nat); omega)), (by first | exact Nat.le_of_ble_eq_true rfl | (show _ ≤ (18 : Nat); omega))⟩) hP hD hS hA [] [] rfl rfl rfl (by decide) (fun z_20 u_19 H locs hq_22 hP hD hS => ?_)
  have hP : va_P G.1 vwCl [] H := hP
  have hD : va_D A [] := hD
  have hq_22 : z_20 = decide ((1 : Int) ≤ pr ∧ pr ≤ (40 : Int)) := hq_22
  refine zct_v (wr := []) (vx_runS (As := [.int (iz (zbb z_20))]) (rest := []) ⟨hx, hb, hml, hown, hts⟩ (c_X9_demand_t l G s1 s2 s3 z_20 hl0 H.size) (va_cwS 1 hts gX9_demandBond_X9_demand rfl rfl rfl (by decide +kernel) ⟨Nat.le_of_ble_eq_true rfl, Nat.le_of_ble_eq_true rfl⟩) (zpSe zXE_ok hE hS hA hKX hP hD [] rfl rfl) rfl rfl hl.1 rfl (lv_room (Nat.le_of_ble_eq_true rfl)) dX9_demandBond_32 ⟨(by first | exact Nat.le_of_ble_eq_true rfl | (show _ ≤ (3 : Nat); omega)), (by first | exact Nat.le_of_ble_eq_true rfl | (show _ ≤ (18 : Nat); omega))⟩) hP hD hS hA [] [] rfl rfl rfl (by decide) (fun E9 ce9 q9 ux_26 H locs hx9_27 hP hD hS hce9 hcv9 hcl9 => ?_) (fun u_25 H locs hq_24 hP hD hS => ?_)
  ·
    have hP : va_P G.1 vwCl [] H := hP
    have hD : va_D A [] := hD
    rcases hx9_27 with ⟨rfl, hxc⟩
    ·
      have hxc : z_20 = false := hxc
      have hzz_20 := of_decide_eq_false (hq_22.symm.trans hxc)
      rw [hQ]
      exact zt_out () hout hlocks hce9 hcv9 hcl9 hP hD hS ⟨rfl, (show ¬ (0 ≤ cp ∧ cp ≤ 1000000000 ∧ 0 ≤ fa ∧ fa ≤ 1000000000 ∧ 1 ≤ pr ∧ pr ≤ 40) from by first | exact hxc | omega)⟩ (by first | exact Nat.le_of_ble_eq_true rfl | omega) (by first | exact Nat.le_of_ble_eq_true rfl | omega)
  have hP : va_P G.1 vwCl [] H := hP
  have hD : va_D A [] := hD
  have hq_24 : z_20 = true := hq_24
  have hzz_20 := of_decide_eq_true (hq_22.symm.trans hq_24)
  rw [hQ]
  exact vx_ret (zr_vret (u := ()) hx hb hr hlocks hP hD hS (by first | exact Nat.le_of_ble_eq_true rfl | omega) (by first | exact Nat.le_of_ble_eq_true rfl | omega) dX9_demandBond_35 (show 0 ≤ cp ∧ cp ≤ 1000000000 ∧ 0 ≤ fa ∧ fa ≤ 1000000000 ∧ 1 ≤ pr ∧ pr ≤ 40 from by omega))

def rm_c_X9_setMode : Room := { frames := 7, cells := 1, slots := 6, locals := 110 }
theorem iw_X9_setMode_X4 : ∀ w ∈ wsX40, w ∈ wsX9_setMode := by decide +kernel
theorem iw_X9_setMode_X9 : ∀ w ∈ wsX90, w ∈ wsX9_setMode := by decide +kernel
set_option maxHeartbeats 1000000 in
set_option maxRecDepth 100000 in
theorem c_X9_setMode (l : Launch) (G : zG) (s1 : Nat) (s2 : Nat) (s3 : Nat) (x : Nat) (ro : Nat) (rw : Nat) (bo : Nat) (li : Nat) (sh : Nat) (tx : Nat) (lo : Nat) (nl : Nat) (md : Int) (m_ : Int) (hl0 : l.stackTraces = false) (r_m_ : -2147483648 ≤ m_ ∧ m_ < 2147483648) : zMt l (zXE s1 s2 s3) G yX9_setMode wsX9_setMode rm_c_X9_setMode [.ref x, .int (iz (m_))] [(x, .inr (10, [.ref ro, .ref rw, .ref bo, .ref li, .ref sh, .ref tx, .ref lo, .ref nl])), (ro, .inr (5, [.int (iz (md))]))] (fun A => zQi G (fun (z : Int) (_ : Unit) => (0 ≤ m_ ∧ m_ ≤ 7) ∧ z = md) (fun (_ : Unit) => [(x, .inr (10, [.ref ro, .ref rw, .ref bo, .ref li, .ref sh, .ref tx, .ref lo, .ref nl])), (ro, .inr (5, [.int (iz (m_))]))]) A) (SX := Unit) (fun (E9 : String) (ux : Unit) => (E9 = "java/lang/IllegalArgumentException" ∧ ¬ (0 ≤ m_ ∧ m_ ≤ 7))) (fun (ux : Unit) => [(x, .inr (10, [.ref ro, .ref rw, .ref bo, .ref li, .ref sh, .ref tx, .ref lo, .ref nl])), (ro, .inr (5, [.int (iz (md))]))]) 1 6 := by
  refine zMt_of (cc := cX9_setMode) (maxL := 3) (ret := (some .int)) (by decide) rfl (Nat.le_of_ble_eq_true rfl) ?_
  intro p e s m below meth c ls A Q hQ hx hb hr hts hown hlocks hml hout hKX hE hP hD hA hS hl
  have hK := hKX.1
  have iwX4 := iw_X9_setMode_X4
  have iwX9 := iw_X9_setMode_X9
  obtain ⟨H, hH⟩ : ∃ h, h = s.heap := ⟨_, rfl⟩
  obtain ⟨locs, hlo⟩ : ∃ h : List Loc, h = [] := ⟨_, rfl⟩
  have hS : va_S A s.heap H locs := by rw [hH, hlo]; exact hS
  have hP : va_P G.1 vwCl [(x, .inr (10, [.ref ro, .ref rw, .ref bo, .ref li, .ref sh, .ref tx, .ref lo, .ref nl])), (ro, .inr (5, [.int (iz (md))]))] H := by rw [hH]; exact hP
  have hD : va_D A [(x, .inr (10, [.ref ro, .ref rw, .ref bo, .ref li, .ref sh, .ref tx, .ref lo, .ref nl])), (ro, .inr (5, [.int (iz (md))]))] := hD
  have hl : lv_has ls 3 [(0, .ref x), (1, .int (iz (m_)))] := hl
  rw [← hH, ← hlo]
  refine lv_iload_n hx hb dX9_setMode_0 rfl (lv_at hl 1 rfl) ?_
  refine zr_i2l hx hb (x := m_) (⟨by omega, by omega⟩) dX9_setMode_1 ?_
  refine lv_lconst (v := lz (0)) hx hb dX9_setMode_2 rfl ?_
  refine zr_ldc2 (z := 7) hx hb hown (hts (.constantLong RX9 61 (7)) (by decide +kernel)) rfl dX9_setMode_3 ?_
  refine zc_z (wr := [(x, .inr (10, [.ref ro, .ref rw, .ref bo, .ref li, .ref sh, .ref tx, .ref lo, .ref nl])), (ro, .inr (5, [.int (iz (md))]))]) (va_runS (As := [.long (lz (m_)), .long (lz (0)), .long (lz (7))]) (rest := []) ⟨hx, hb, hml, hown, hts⟩ (c_X9_isWithin l G m_ 0 7 (by omega) (by omega) (by omega) H.size) (va_cwS 3 hts gX9_setMode_X9_isWithin rfl rfl rfl (by decide +kernel) ⟨Nat.le_of_ble_eq_true rfl, Nat.le_of_ble_eq_true rfl⟩) (zpS hKX hP hD [] rfl rfl) rfl rfl hl.1 rfl (lv_room (Nat.le_of_ble_eq_true rfl)) dX9_setMode_6 ⟨(by first | exact Nat.le_of_ble_eq_true rfl | (show _ ≤ (1 : Nat); omega)), (by first | exact Nat.le_of_ble_eq_true rfl | (show _ ≤ (6 : Nat); omega))⟩) hP hD hS hA [] [0, 1] rfl rfl rfl (by decide) (fun z_2 u_1 H locs hq_4 hP hD hS => ?_)
  have hP : va_P G.1 vwCl [(x, .inr (10, [.ref ro, .ref rw, .ref bo, .ref li, .ref sh, .ref tx, .ref lo, .ref nl])), (ro, .inr (5, [.int (iz (md))]))] H := hP
  have hD : va_D A [(x, .inr (10, [.ref ro, .ref rw, .ref bo, .ref li, .ref sh, .ref tx, .ref lo, .ref nl])), (ro, .inr (5, [.int (iz (md))]))] := hD
  have hq_4 : z_2 = decide ((0 : Int) ≤ m_ ∧ m_ ≤ (7 : Int)) := hq_4
  refine zct_v (wr := [(x, .inr (10, [.ref ro, .ref rw, .ref bo, .ref li, .ref sh, .ref tx, .ref lo, .ref nl])), (ro, .inr (5, [.int (iz (md))]))]) (vx_runS (As := [.int (iz (zbb z_2))]) (rest := []) ⟨hx, hb, hml, hown, hts⟩ (c_X9_demand_t l G s1 s2 s3 z_2 hl0 H.size) (va_cwS 1 hts gX9_setMode_X9_demand rfl rfl rfl (by decide +kernel) ⟨Nat.le_of_ble_eq_true rfl, Nat.le_of_ble_eq_true rfl⟩) (zpSe zXE_ok hE hS hA hKX hP hD [] rfl rfl) rfl rfl hl.1 rfl (lv_room (Nat.le_of_ble_eq_true rfl)) dX9_setMode_9 ⟨(by first | exact Nat.le_of_ble_eq_true rfl | (show _ ≤ (1 : Nat); omega)), (by first | exact Nat.le_of_ble_eq_true rfl | (show _ ≤ (6 : Nat); omega))⟩) hP hD hS hA [] [0, 1] rfl rfl rfl (by decide) (fun E9 ce9 q9 ux_8 H locs hx9_9 hP hD hS hce9 hcv9 hcl9 => ?_) (fun u_7 H locs hq_6 hP hD hS => ?_)
  ·
    have hP : va_P G.1 vwCl [(x, .inr (10, [.ref ro, .ref rw, .ref bo, .ref li, .ref sh, .ref tx, .ref lo, .ref nl])), (ro, .inr (5, [.int (iz (md))]))] H := hP
    have hD : va_D A [(x, .inr (10, [.ref ro, .ref rw, .ref bo, .ref li, .ref sh, .ref tx, .ref lo, .ref nl])), (ro, .inr (5, [.int (iz (md))]))] := hD
    rcases hx9_9 with ⟨rfl, hxc⟩
    ·
      have hxc : z_2 = false := hxc
      have hzz_2 := of_decide_eq_false (hq_4.symm.trans hxc)
      rw [hQ]
      exact zt_out () hout hlocks hce9 hcv9 hcl9 hP hD hS ⟨rfl, (show ¬ (0 ≤ m_ ∧ m_ ≤ 7) from by first | exact hxc | omega)⟩ (by first | exact Nat.le_of_ble_eq_true rfl | omega) (by first | exact Nat.le_of_ble_eq_true rfl | omega)
  have hP : va_P G.1 vwCl [(x, .inr (10, [.ref ro, .ref rw, .ref bo, .ref li, .ref sh, .ref tx, .ref lo, .ref nl])), (ro, .inr (5, [.int (iz (md))]))] H := hP
  have hD : va_D A [(x, .inr (10, [.ref ro, .ref rw, .ref bo, .ref li, .ref sh, .ref tx, .ref lo, .ref nl])), (ro, .inr (5, [.int (iz (md))]))] := hD
  have hq_6 : z_2 = true := hq_6
  have hzz_2 := of_decide_eq_true (hq_4.symm.trans hq_6)
  refine lv_aload_n hx hb dX9_setMode_12 rfl (lv_at hl 0 rfl) ?_
  refine va_get (D := G.1) (ci := 10) (v := .ref ro) (C := RX9) (T := TX9) (N := 8) hx hb hts iwX9 hown hK hP 0 rfl rfl 0 (by decide) (hts (.fieldLink RX9 10 "AnnuityHouse" "rounder" "LAnnuityHouse$Rounder;") (by decide +kernel)) (fun _ h9 => h9) rfl dX9_setMode_13 ?_
  refine va_get (D := G.1) (ci := 5) (v := .int (iz (md))) (C := RX4) (T := TX4) (N := 1) hx hb hts iwX4 hown hK hP 1 rfl rfl 0 (by decide) (hts (.fieldLink RX9 71 "AnnuityHouse$Rounder" "mode" "I") (by decide +kernel)) (fun _ h9 => h9) rfl dX9_setMode_16 ?_
  refine lv_istore_n (lv' := [(2, .int (iz (md))), (0, .ref x), (1, .int (iz (m_)))]) hx hb dX9_setMode_19 rfl hl (by decide) rfl (fun ls hl => ?_)
  refine lv_aload_n hx hb dX9_setMode_20 rfl (lv_at hl 1 rfl) ?_
  refine va_get (D := G.1) (ci := 10) (v := .ref ro) (C := RX9) (T := TX9) (N := 8) hx hb hts iwX9 hown hK hP 0 rfl rfl 0 (by decide) (hts (.fieldLink RX9 10 "AnnuityHouse" "rounder" "LAnnuityHouse$Rounder;") (by decide +kernel)) (fun _ h9 => h9) rfl dX9_setMode_21 ?_
  refine lv_iload_n hx hb dX9_setMode_24 rfl (lv_at hl 2 rfl) ?_
  refine va_put (D := G.1) (ci := 5) (v := .int (iz (m_))) (ty := .int) (C := RX4) (T := TX4) (N := 1) hx hb hts iwX4 tyX4 tyX4_ok nmX4 hown hK hP hD hS 1 rfl rfl 0 (by decide) (hts (.fieldLink RX9 71 "AnnuityHouse$Rounder" "mode" "I") (by decide +kernel)) (fun _ h9 => h9) rfl (by decide +kernel) rfl rfl (Nat.le_of_ble_eq_true rfl) dX9_setMode_25 (fun H locs hP hD hS => ?_)
  have hP : va_P G.1 vwCl [(x, .inr (10, [.ref ro, .ref rw, .ref bo, .ref li, .ref sh, .ref tx, .ref lo, .ref nl])), (ro, .inr (5, [.int (iz (m_))]))] H := hP
  have hD : va_D A [(x, .inr (10, [.ref ro, .ref rw, .ref bo, .ref li, .ref sh, .ref tx, .ref lo, .ref nl])), (ro, .inr (5, [.int (iz (m_))]))] := hD
  refine lv_iload_n hx hb dX9_setMode_28 rfl (lv_at hl 0 rfl) ?_
  rw [hQ]
  exact vx_ret (zr_iret (z := md) (u := ()) hx hb hr hlocks hP hD hS (by first | exact Nat.le_of_ble_eq_true rfl | omega) (by first | exact Nat.le_of_ble_eq_true rfl | omega) dX9_setMode_29 (show (0 ≤ m_ ∧ m_ ≤ 7) ∧ md = md from ⟨by omega, rfl⟩))

def rm_c_X9_mode : Room := { frames := 0, cells := 0, slots := 0, locals := 0 }
theorem iw_X9_mode_X4 : ∀ w ∈ wsX40, w ∈ wsX9_mode := by decide +kernel
theorem iw_X9_mode_X9 : ∀ w ∈ wsX90, w ∈ wsX9_mode := by decide +kernel
set_option maxHeartbeats 1000000 in
set_option maxRecDepth 100000 in
theorem c_X9_mode (l : Launch) (G : zG) (x : Nat) (ro : Nat) (rw : Nat) (bo : Nat) (li : Nat) (sh : Nat) (tx : Nat) (lo : Nat) (nl : Nat) (md : Int)  : zM l G yX9_mode wsX9_mode rm_c_X9_mode [.ref x] [(x, .inr (10, [.ref ro, .ref rw, .ref bo, .ref li, .ref sh, .ref tx, .ref lo, .ref nl])), (ro, .inr (5, [.int (iz (md))]))] (fun A => zQi G (fun (z : Int) (_ : Unit) => z = md) (fun (_ : Unit) => [(x, .inr (10, [.ref ro, .ref rw, .ref bo, .ref li, .ref sh, .ref tx, .ref lo, .ref nl])), (ro, .inr (5, [.int (iz (md))]))]) A) 0 0 := by
  refine zM_of (cc := cX9_mode) (maxL := 1) (ret := (some .int)) (by decide) rfl (Nat.le_of_ble_eq_true rfl) ?_
  intro p e s m below meth c ls A Q hQ hx hb hr hts hown hlocks hml hnm hKX hP hD hA hS hl
  have hK := hKX.1
  have iwX4 := iw_X9_mode_X4
  have iwX9 := iw_X9_mode_X9
  obtain ⟨H, hH⟩ : ∃ h, h = s.heap := ⟨_, rfl⟩
  obtain ⟨locs, hlo⟩ : ∃ h : List Loc, h = [] := ⟨_, rfl⟩
  have hS : va_S A s.heap H locs := by rw [hH, hlo]; exact hS
  have hP : va_P G.1 vwCl [(x, .inr (10, [.ref ro, .ref rw, .ref bo, .ref li, .ref sh, .ref tx, .ref lo, .ref nl])), (ro, .inr (5, [.int (iz (md))]))] H := by rw [hH]; exact hP
  have hD : va_D A [(x, .inr (10, [.ref ro, .ref rw, .ref bo, .ref li, .ref sh, .ref tx, .ref lo, .ref nl])), (ro, .inr (5, [.int (iz (md))]))] := hD
  have hl : lv_has ls 1 [(0, .ref x)] := hl
  rw [← hH, ← hlo]
  refine lv_aload_n hx hb dX9_mode_0 rfl (lv_at hl 0 rfl) ?_
  refine va_get (D := G.1) (ci := 10) (v := .ref ro) (C := RX9) (T := TX9) (N := 8) hx hb hts iwX9 hown hK hP 0 rfl rfl 0 (by decide) (hts (.fieldLink RX9 10 "AnnuityHouse" "rounder" "LAnnuityHouse$Rounder;") (by decide +kernel)) (fun _ h9 => h9) rfl dX9_mode_1 ?_
  refine va_get (D := G.1) (ci := 5) (v := .int (iz (md))) (C := RX4) (T := TX4) (N := 1) hx hb hts iwX4 hown hK hP 1 rfl rfl 0 (by decide) (hts (.fieldLink RX9 71 "AnnuityHouse$Rounder" "mode" "I") (by decide +kernel)) (fun _ h9 => h9) rfl dX9_mode_4 ?_
  rw [hQ]
  exact zr_iret (z := md) (u := ()) hx hb hr hlocks hP hD hS (by first | exact Nat.le_of_ble_eq_true rfl | omega) (by first | exact Nat.le_of_ble_eq_true rfl | omega) dX9_mode_7 (show md = md from rfl)

def rm_c_X9_round : Room := { frames := 9, cells := 4, slots := 24, locals := 165 }
theorem iw_X9_round_X9 : ∀ w ∈ wsX90, w ∈ wsX9_round := by decide +kernel
set_option maxHeartbeats 1000000 in
set_option maxRecDepth 100000 in
theorem c_X9_round (l : Launch) (G : zG) (s1 : Nat) (s2 : Nat) (s3 : Nat) (x : Nat) (ro : Nat) (rw : Nat) (bo : Nat) (li : Nat) (sh : Nat) (tx : Nat) (lo : Nat) (nl : Nat) (md : Int) (ov : Int) (un : Int) (dg : Int) (hl0 : l.stackTraces = false) (r_ov : -9223372036854775808 ≤ ov ∧ ov < 9223372036854775808) (r_un : -9223372036854775808 ≤ un ∧ un < 9223372036854775808) (r_dg : -2147483648 ≤ dg ∧ dg < 2147483648) (hmd : 0 ≤ md ∧ md ≤ 7) : zMt l (zXE s1 s2 s3) G yX9_round wsX9_round rm_c_X9_round [.ref x, .long (lz (ov)), .long (lz (un)), .int (iz (dg))] [(x, .inr (10, [.ref ro, .ref rw, .ref bo, .ref li, .ref sh, .ref tx, .ref lo, .ref nl])), (ro, .inr (5, [.int (iz (md))]))] (fun A => zQl G (fun (z : Int) (_ : Unit) => (-1000000000000 ≤ ov ∧ ov ≤ 1000000000000 ∧ 1 ≤ un ∧ un ≤ 1000000000000 ∧ 0 ≤ dg ∧ dg ≤ 6) ∧ (ov * 10 ^ dg.toNat % un = 0 ∨ md ≠ 7) ∧ z = zrd md (ov * 10 ^ dg.toNat) un) (fun (_ : Unit) => [(x, .inr (10, [.ref ro, .ref rw, .ref bo, .ref li, .ref sh, .ref tx, .ref lo, .ref nl])), (ro, .inr (5, [.int (iz (md))]))]) A) (SX := Unit) (fun (E9 : String) (ux : Unit) => (E9 = "java/lang/IllegalArgumentException" ∧ ¬ (-1000000000000 ≤ ov ∧ ov ≤ 1000000000000 ∧ 1 ≤ un ∧ un ≤ 1000000000000 ∧ 0 ≤ dg ∧ dg ≤ 6)) ∨ (E9 = "java/lang/IllegalStateException" ∧ (-1000000000000 ≤ ov ∧ ov ≤ 1000000000000 ∧ 1 ≤ un ∧ un ≤ 1000000000000 ∧ 0 ≤ dg ∧ dg ≤ 6) ∧ md = 7 ∧ ov * 10 ^ dg.toNat % un ≠ 0)) (fun (ux : Unit) => [(x, .inr (10, [.ref ro, .ref rw, .ref bo, .ref li, .ref sh, .ref tx, .ref lo, .ref nl])), (ro, .inr (5, [.int (iz (md))]))]) 4 24 := by
  refine zMt_of (cc := cX9_round) (maxL := 9) (ret := (some .long)) (by decide) rfl (Nat.le_of_ble_eq_true rfl) ?_
  intro p e s m below meth c ls A Q hQ hx hb hr hts hown hlocks hml hout hKX hE hP hD hA hS hl
  have hK := hKX.1
  have iwX9 := iw_X9_round_X9
  obtain ⟨H, hH⟩ : ∃ h, h = s.heap := ⟨_, rfl⟩
  obtain ⟨locs, hlo⟩ : ∃ h : List Loc, h = [] := ⟨_, rfl⟩
  have hS : va_S A s.heap H locs := by rw [hH, hlo]; exact hS
  have hP : va_P G.1 vwCl [(x, .inr (10, [.ref ro, .ref rw, .ref bo, .ref li, .ref sh, .ref tx, .ref lo, .ref nl])), (ro, .inr (5, [.int (iz (md))]))] H := by rw [hH]; exact hP
  have hD : va_D A [(x, .inr (10, [.ref ro, .ref rw, .ref bo, .ref li, .ref sh, .ref tx, .ref lo, .ref nl])), (ro, .inr (5, [.int (iz (md))]))] := hD
  have hl : lv_has ls 9 [(0, .ref x), (1, .long (lz (ov))), (3, .long (lz (un))), (5, .int (iz (dg)))] := hl
  rw [← hH, ← hlo]
  refine lv_lload_n hx hb dX9_round_0 rfl (lv_at hl 1 rfl) ?_
  refine zr_ldc2 (z := -1000000000000) hx hb hown (hts (.constantLong RX9 75 (-1000000000000)) (by decide +kernel)) rfl dX9_round_1 ?_
  refine zr_ldc2 (z := 1000000000000) hx hb hown (hts (.constantLong RX9 77 (1000000000000)) (by decide +kernel)) rfl dX9_round_4 ?_
  refine zc_z (wr := [(x, .inr (10, [.ref ro, .ref rw, .ref bo, .ref li, .ref sh, .ref tx, .ref lo, .ref nl])), (ro, .inr (5, [.int (iz (md))]))]) (va_runS (As := [.long (lz (ov)), .long (lz (-1000000000000)), .long (lz (1000000000000))]) (rest := []) ⟨hx, hb, hml, hown, hts⟩ (c_X9_isWithin l G ov (-1000000000000) 1000000000000 (by omega) (by omega) (by omega) H.size) (va_cwS 3 hts gX9_round_X9_isWithin rfl rfl rfl (by decide +kernel) ⟨Nat.le_of_ble_eq_true rfl, Nat.le_of_ble_eq_true rfl⟩) (zpS hKX hP hD [] rfl rfl) rfl rfl hl.1 rfl (lv_room (Nat.le_of_ble_eq_true rfl)) dX9_round_7 ⟨(by first | exact Nat.le_of_ble_eq_true rfl | (show _ ≤ (4 : Nat); omega)), (by first | exact Nat.le_of_ble_eq_true rfl | (show _ ≤ (24 : Nat); omega))⟩) hP hD hS hA [] [0, 1] rfl rfl rfl (by decide) (fun z_2 u_1 H locs hq_4 hP hD hS => ?_)
  have hP : va_P G.1 vwCl [(x, .inr (10, [.ref ro, .ref rw, .ref bo, .ref li, .ref sh, .ref tx, .ref lo, .ref nl])), (ro, .inr (5, [.int (iz (md))]))] H := hP
  have hD : va_D A [(x, .inr (10, [.ref ro, .ref rw, .ref bo, .ref li, .ref sh, .ref tx, .ref lo, .ref nl])), (ro, .inr (5, [.int (iz (md))]))] := hD
  have hq_4 : z_2 = decide ((-1000000000000 : Int) ≤ ov ∧ ov ≤ (1000000000000 : Int)) := hq_4
  refine zct_v (wr := [(x, .inr (10, [.ref ro, .ref rw, .ref bo, .ref li, .ref sh, .ref tx, .ref lo, .ref nl])), (ro, .inr (5, [.int (iz (md))]))]) (vx_runS (As := [.int (iz (zbb z_2))]) (rest := []) ⟨hx, hb, hml, hown, hts⟩ (c_X9_demand_t l G s1 s2 s3 z_2 hl0 H.size) (va_cwS 1 hts gX9_round_X9_demand rfl rfl rfl (by decide +kernel) ⟨Nat.le_of_ble_eq_true rfl, Nat.le_of_ble_eq_true rfl⟩) (zpSe zXE_ok hE hS hA hKX hP hD [] rfl rfl) rfl rfl hl.1 rfl (lv_room (Nat.le_of_ble_eq_true rfl)) dX9_round_10 ⟨(by first | exact Nat.le_of_ble_eq_true rfl | (show _ ≤ (4 : Nat); omega)), (by first | exact Nat.le_of_ble_eq_true rfl | (show _ ≤ (24 : Nat); omega))⟩) hP hD hS hA [] [0, 1] rfl rfl rfl (by decide) (fun E9 ce9 q9 ux_8 H locs hx9_9 hP hD hS hce9 hcv9 hcl9 => ?_) (fun u_7 H locs hq_6 hP hD hS => ?_)
  ·
    have hP : va_P G.1 vwCl [(x, .inr (10, [.ref ro, .ref rw, .ref bo, .ref li, .ref sh, .ref tx, .ref lo, .ref nl])), (ro, .inr (5, [.int (iz (md))]))] H := hP
    have hD : va_D A [(x, .inr (10, [.ref ro, .ref rw, .ref bo, .ref li, .ref sh, .ref tx, .ref lo, .ref nl])), (ro, .inr (5, [.int (iz (md))]))] := hD
    rcases hx9_9 with ⟨rfl, hxc⟩
    ·
      have hxc : z_2 = false := hxc
      have hzz_2 := of_decide_eq_false (hq_4.symm.trans hxc)
      rw [hQ]
      exact zt_out () hout hlocks hce9 hcv9 hcl9 hP hD hS (Or.inl ⟨rfl, (show ¬ (-1000000000000 ≤ ov ∧ ov ≤ 1000000000000 ∧ 1 ≤ un ∧ un ≤ 1000000000000 ∧ 0 ≤ dg ∧ dg ≤ 6) from by first | exact hxc | omega)⟩) (by first | exact Nat.le_of_ble_eq_true rfl | omega) (by first | exact Nat.le_of_ble_eq_true rfl | omega)
  have hP : va_P G.1 vwCl [(x, .inr (10, [.ref ro, .ref rw, .ref bo, .ref li, .ref sh, .ref tx, .ref lo, .ref nl])), (ro, .inr (5, [.int (iz (md))]))] H := hP
  have hD : va_D A [(x, .inr (10, [.ref ro, .ref rw, .ref bo, .ref li, .ref sh, .ref tx, .ref lo, .ref nl])), (ro, .inr (5, [.int (iz (md))]))] := hD
  have hq_6 : z_2 = true := hq_6
  have hzz_2 := of_decide_eq_true (hq_4.symm.trans hq_6)
  refine lv_lload_n hx hb dX9_round_13 rfl (lv_at hl 2 rfl) ?_
  refine lv_lconst (v := lz (1)) hx hb dX9_round_14 rfl ?_
  refine zr_ldc2 (z := 1000000000000) hx hb hown (hts (.constantLong RX9 77 (1000000000000)) (by decide +kernel)) rfl dX9_round_15 ?_
  refine zc_z (wr := [(x, .inr (10, [.ref ro, .ref rw, .ref bo, .ref li, .ref sh, .ref tx, .ref lo, .ref nl])), (ro, .inr (5, [.int (iz (md))]))]) (va_runS (As := [.long (lz (un)), .long (lz (1)), .long (lz (1000000000000))]) (rest := []) ⟨hx, hb, hml, hown, hts⟩ (c_X9_isWithin l G un 1 1000000000000 (by omega) (by omega) (by omega) H.size) (va_cwS 3 hts gX9_round_X9_isWithin rfl rfl rfl (by decide +kernel) ⟨Nat.le_of_ble_eq_true rfl, Nat.le_of_ble_eq_true rfl⟩) (zpS hKX hP hD [] rfl rfl) rfl rfl hl.1 rfl (lv_room (Nat.le_of_ble_eq_true rfl)) dX9_round_18 ⟨(by first | exact Nat.le_of_ble_eq_true rfl | (show _ ≤ (4 : Nat); omega)), (by first | exact Nat.le_of_ble_eq_true rfl | (show _ ≤ (24 : Nat); omega))⟩) hP hD hS hA [] [0, 1] rfl rfl rfl (by decide) (fun z_11 u_10 H locs hq_13 hP hD hS => ?_)
  have hP : va_P G.1 vwCl [(x, .inr (10, [.ref ro, .ref rw, .ref bo, .ref li, .ref sh, .ref tx, .ref lo, .ref nl])), (ro, .inr (5, [.int (iz (md))]))] H := hP
  have hD : va_D A [(x, .inr (10, [.ref ro, .ref rw, .ref bo, .ref li, .ref sh, .ref tx, .ref lo, .ref nl])), (ro, .inr (5, [.int (iz (md))]))] := hD
  have hq_13 : z_11 = decide ((1 : Int) ≤ un ∧ un ≤ (1000000000000 : Int)) := hq_13
  refine zct_v (wr := [(x, .inr (10, [.ref ro, .ref rw, .ref bo, .ref li, .ref sh, .ref tx, .ref lo, .ref nl])), (ro, .inr (5, [.int (iz (md))]))]) (vx_runS (As := [.int (iz (zbb z_11))]) (rest := []) ⟨hx, hb, hml, hown, hts⟩ (c_X9_demand_t l G s1 s2 s3 z_11 hl0 H.size) (va_cwS 1 hts gX9_round_X9_demand rfl rfl rfl (by decide +kernel) ⟨Nat.le_of_ble_eq_true rfl, Nat.le_of_ble_eq_true rfl⟩) (zpSe zXE_ok hE hS hA hKX hP hD [] rfl rfl) rfl rfl hl.1 rfl (lv_room (Nat.le_of_ble_eq_true rfl)) dX9_round_21 ⟨(by first | exact Nat.le_of_ble_eq_true rfl | (show _ ≤ (4 : Nat); omega)), (by first | exact Nat.le_of_ble_eq_true rfl | (show _ ≤ (24 : Nat); omega))⟩) hP hD hS hA [] [0, 1] rfl rfl rfl (by decide) (fun E9 ce9 q9 ux_17 H locs hx9_18 hP hD hS hce9 hcv9 hcl9 => ?_) (fun u_16 H locs hq_15 hP hD hS => ?_)
  ·
    have hP : va_P G.1 vwCl [(x, .inr (10, [.ref ro, .ref rw, .ref bo, .ref li, .ref sh, .ref tx, .ref lo, .ref nl])), (ro, .inr (5, [.int (iz (md))]))] H := hP
    have hD : va_D A [(x, .inr (10, [.ref ro, .ref rw, .ref bo, .ref li, .ref sh, .ref tx, .ref lo, .ref nl])), (ro, .inr (5, [.int (iz (md))]))] := hD
    rcases hx9_18 with ⟨rfl, hxc⟩
    ·
      have hxc : z_11 = false := hxc
      have hzz_11 := of_decide_eq_false (hq_13.symm.trans hxc)
      rw [hQ]
      exact zt_out () hout hlocks hce9 hcv9 hcl9 hP hD hS (Or.inl ⟨rfl, (show ¬ (-1000000000000 ≤ ov ∧ ov ≤ 1000000000000 ∧ 1 ≤ un ∧ un ≤ 1000000000000 ∧ 0 ≤ dg ∧ dg ≤ 6) from by first | exact hxc | omega)⟩) (by first | exact Nat.le_of_ble_eq_true rfl | omega) (by first | exact Nat.le_of_ble_eq_true rfl | omega)
  have hP : va_P G.1 vwCl [(x, .inr (10, [.ref ro, .ref rw, .ref bo, .ref li, .ref sh, .ref tx, .ref lo, .ref nl])), (ro, .inr (5, [.int (iz (md))]))] H := hP
  have hD : va_D A [(x, .inr (10, [.ref ro, .ref rw, .ref bo, .ref li, .ref sh, .ref tx, .ref lo, .ref nl])), (ro, .inr (5, [.int (iz (md))]))] := hD
  have hq_15 : z_11 = true := hq_15
  have hzz_11 := of_decide_eq_true (hq_13.symm.trans hq_15)
  refine lv_iload hx hb dX9_round_24 (lv_at hl 3 rfl) ?_
  refine zr_i2l hx hb (x := dg) (⟨by omega, by omega⟩) dX9_round_26 ?_
  refine lv_lconst (v := lz (0)) hx hb dX9_round_27 rfl ?_
  refine zr_ldc2 (z := 6) hx hb hown (hts (.constantLong RX9 79 (6)) (by decide +kernel)) rfl dX9_round_28 ?_
  refine zc_z (wr := [(x, .inr (10, [.ref ro, .ref rw, .ref bo, .ref li, .ref sh, .ref tx, .ref lo, .ref nl])), (ro, .inr (5, [.int (iz (md))]))]) (va_runS (As := [.long (lz (dg)), .long (lz (0)), .long (lz (6))]) (rest := []) ⟨hx, hb, hml, hown, hts⟩ (c_X9_isWithin l G dg 0 6 (by omega) (by omega) (by omega) H.size) (va_cwS 3 hts gX9_round_X9_isWithin rfl rfl rfl (by decide +kernel) ⟨Nat.le_of_ble_eq_true rfl, Nat.le_of_ble_eq_true rfl⟩) (zpS hKX hP hD [] rfl rfl) rfl rfl hl.1 rfl (lv_room (Nat.le_of_ble_eq_true rfl)) dX9_round_31 ⟨(by first | exact Nat.le_of_ble_eq_true rfl | (show _ ≤ (4 : Nat); omega)), (by first | exact Nat.le_of_ble_eq_true rfl | (show _ ≤ (24 : Nat); omega))⟩) hP hD hS hA [] [0, 1] rfl rfl rfl (by decide) (fun z_20 u_19 H locs hq_22 hP hD hS => ?_)
  have hP : va_P G.1 vwCl [(x, .inr (10, [.ref ro, .ref rw, .ref bo, .ref li, .ref sh, .ref tx, .ref lo, .ref nl])), (ro, .inr (5, [.int (iz (md))]))] H := hP
  have hD : va_D A [(x, .inr (10, [.ref ro, .ref rw, .ref bo, .ref li, .ref sh, .ref tx, .ref lo, .ref nl])), (ro, .inr (5, [.int (iz (md))]))] := hD
  have hq_22 : z_20 = decide ((0 : Int) ≤ dg ∧ dg ≤ (6 : Int)) := hq_22
  refine zct_v (wr := [(x, .inr (10, [.ref ro, .ref rw, .ref bo, .ref li, .ref sh, .ref tx, .ref lo, .ref nl])), (ro, .inr (5, [.int (iz (md))]))]) (vx_runS (As := [.int (iz (zbb z_20))]) (rest := []) ⟨hx, hb, hml, hown, hts⟩ (c_X9_demand_t l G s1 s2 s3 z_20 hl0 H.size) (va_cwS 1 hts gX9_round_X9_demand rfl rfl rfl (by decide +kernel) ⟨Nat.le_of_ble_eq_true rfl, Nat.le_of_ble_eq_true rfl⟩) (zpSe zXE_ok hE hS hA hKX hP hD [] rfl rfl) rfl rfl hl.1 rfl (lv_room (Nat.le_of_ble_eq_true rfl)) dX9_round_34 ⟨(by first | exact Nat.le_of_ble_eq_true rfl | (show _ ≤ (4 : Nat); omega)), (by first | exact Nat.le_of_ble_eq_true rfl | (show _ ≤ (24 : Nat); omega))⟩) hP hD hS hA [] [0, 1] rfl rfl rfl (by decide) (fun E9 ce9 q9 ux_26 H locs hx9_27 hP hD hS hce9 hcv9 hcl9 => ?_) (fun u_25 H locs hq_24 hP hD hS => ?_)
  ·
    have hP : va_P G.1 vwCl [(x, .inr (10, [.ref ro, .ref rw, .ref bo, .ref li, .ref sh, .ref tx, .ref lo, .ref nl])), (ro, .inr (5, [.int (iz (md))]))] H := hP
    have hD : va_D A [(x, .inr (10, [.ref ro, .ref rw, .ref bo, .ref li, .ref sh, .ref tx, .ref lo, .ref nl])), (ro, .inr (5, [.int (iz (md))]))] := hD
    rcases hx9_27 with ⟨rfl, hxc⟩
    ·
      have hxc : z_20 = false := hxc
      have hzz_20 := of_decide_eq_false (hq_22.symm.trans hxc)
      rw [hQ]
      exact zt_out () hout hlocks hce9 hcv9 hcl9 hP hD hS (Or.inl ⟨rfl, (show ¬ (-1000000000000 ≤ ov ∧ ov ≤ 1000000000000 ∧ 1 ≤ un ∧ un ≤ 1000000000000 ∧ 0 ≤ dg ∧ dg ≤ 6) from by first | exact hxc | omega)⟩) (by first | exact Nat.le_of_ble_eq_true rfl | omega) (by first | exact Nat.le_of_ble_eq_true rfl | omega)
  have hP : va_P G.1 vwCl [(x, .inr (10, [.ref ro, .ref rw, .ref bo, .ref li, .ref sh, .ref tx, .ref lo, .ref nl])), (ro, .inr (5, [.int (iz (md))]))] H := hP
  have hD : va_D A [(x, .inr (10, [.ref ro, .ref rw, .ref bo, .ref li, .ref sh, .ref tx, .ref lo, .ref nl])), (ro, .inr (5, [.int (iz (md))]))] := hD
  have hq_24 : z_20 = true := hq_24
  have hzz_20 := of_decide_eq_true (hq_22.symm.trans hq_24)
  refine lv_lload_n hx hb dX9_round_37 rfl (lv_at hl 1 rfl) ?_
  refine lv_lstore (lv' := [(6, .long (lz (ov))), (0, .ref x), (1, .long (lz (ov))), (3, .long (lz (un))), (5, .int (iz (dg)))]) hx hb dX9_round_38 hl (by decide) rfl (fun ls hl => ?_)
  refine lv_iconst (v := iz (0)) hx hb dX9_round_40 rfl ?_
  refine lv_istore (lv' := [(8, .int (iz (0))), (6, .long (lz (ov))), (0, .ref x), (1, .long (lz (ov))), (3, .long (lz (un))), (5, .int (iz (dg)))]) hx hb dX9_round_41 hl (by decide) rfl (fun ls hl => ?_)
  have hl_43 : ∀ (zn_43 : Nat) (i : Int) (sc : Int) (H : Heap) (locs : List Loc) (ls : Array Slot), (dg - i).toNat < zn_43 → (0 ≤ i ∧ i ≤ dg) → (sc = ov * 10 ^ i.toNat) → va_P G.1 vwCl [(x, .inr (10, [.ref ro, .ref rw, .ref bo, .ref li, .ref sh, .ref tx, .ref lo, .ref nl])), (ro, .inr (5, [.int (iz (md))]))] H → va_D A [(x, .inr (10, [.ref ro, .ref rw, .ref bo, .ref li, .ref sh, .ref tx, .ref lo, .ref nl])), (ro, .inr (5, [.int (iz (md))]))] → va_S A s.heap H locs → lv_has ls 9 [(8, .int (iz (i))), (6, .long (lz (sc))), (0, .ref x), (1, .long (lz (ov))), (3, .long (lz (un))), (5, .int (iz (dg)))] → W p l e rm_c_X9_round s m ([.ref x, .long (lz (ov)), .long (lz (un)), .int (iz (dg))] : List Value).toArray below meth c H locs (0 + 0 + 1 + 0 + 1 + 0 + 1) (0 + 0 + 6 + 0 + 6 + 0 + 6) Q (F0 m 43 ls []) := by
    intro zn_43
    induction zn_43 with
    | zero => intro i sc H locs ls hm; exact absurd hm (Nat.not_lt_zero _)
    | succ zn_43 ih_43 =>
      intro i sc H locs ls hm_43 k1 k2 hP hD hS hl
      refine lv_iload hx hb dX9_round_43 (lv_at hl 0 rfl) ?_
      refine lv_iload hx hb dX9_round_45 (lv_at hl 5 rfl) ?_
      refine zr_icmp_ge (x := i) (y := dg) (tgt := 64) hx hb (⟨by omega, by omega⟩) (⟨by omega, by omega⟩) dX9_round_47 (by decide) (fun h_28 => ?_) (fun h_28 => ?_)
      ·
        refine lv_aload_n hx hb dX9_round_64 rfl (lv_at hl 2 rfl) ?_
        refine va_get (D := G.1) (ci := 10) (v := .ref ro) (C := RX9) (T := TX9) (N := 8) hx hb hts iwX9 hown hK hP 0 rfl rfl 0 (by decide) (hts (.fieldLink RX9 10 "AnnuityHouse" "rounder" "LAnnuityHouse$Rounder;") (by decide +kernel)) (fun _ h9 => h9) rfl dX9_round_65 ?_
        refine lv_lload hx hb dX9_round_68 (lv_at hl 1 rfl) ?_
        refine lv_lload_n hx hb dX9_round_70 rfl (lv_at hl 4 rfl) ?_
        have hsce : sc = ov * 10 ^ dg.toNat := by rw [k2, show i = dg by omega]
        have hrr := zrd_rng (ov := ov) (k := dg) (by omega) (by omega) (by omega)
        rw [← hsce] at hrr
        refine zct_l (wr := [(x, .inr (10, [.ref ro, .ref rw, .ref bo, .ref li, .ref sh, .ref tx, .ref lo, .ref nl]))]) (vx_runV (As := [.long (lz (sc)), .long (lz (un))]) (rest := []) ⟨hx, hb, hml, hown, hts⟩ (c_X4_ratio l G s1 s2 s3 ro md sc un hl0 (by omega) (by omega) (by omega) H.size) (cwV 2 hts gX9_round_X4_ratio rfl rfl rfl (by decide +kernel) ⟨Nat.le_of_ble_eq_true rfl, Nat.le_of_ble_eq_true rfl⟩) (zpVe zXE_ok hE hS hA hKX hP hD [1] rfl rfl (va_recv hK hP (ci := 5) (q0 := 1) rfl rfl)) rfl rfl hl.1 rfl (lv_room (Nat.le_of_ble_eq_true rfl)) dX9_round_71 ⟨(by first | exact Nat.le_of_ble_eq_true rfl | (show _ ≤ (4 : Nat); omega)), (by first | exact Nat.le_of_ble_eq_true rfl | (show _ ≤ (24 : Nat); omega))⟩) hP hD hS hA [1] [0] rfl rfl rfl (by decide) (fun E9 ce9 q9 ux_30 H locs hx9_31 hP hD hS hce9 hcv9 hcl9 => ?_) (fun zz u_29 H locs hz hP hD hS => ?_)
        ·
          have hP : va_P G.1 vwCl [(x, .inr (10, [.ref ro, .ref rw, .ref bo, .ref li, .ref sh, .ref tx, .ref lo, .ref nl])), (ro, .inr (5, [.int (iz (md))]))] H := hP
          have hD : va_D A [(x, .inr (10, [.ref ro, .ref rw, .ref bo, .ref li, .ref sh, .ref tx, .ref lo, .ref nl])), (ro, .inr (5, [.int (iz (md))]))] := hD
          rcases hx9_31 with ⟨rfl, hxc⟩
          ·
            have hxc : md = 7 ∧ (sc.natAbs : Int) % un ≠ 0 := hxc
            rw [hQ]
            exact zt_out () hout hlocks hce9 hcv9 hcl9 hP hD hS (Or.inr ⟨rfl, (show (-1000000000000 ≤ ov ∧ ov ≤ 1000000000000 ∧ 1 ≤ un ∧ un ≤ 1000000000000 ∧ 0 ≤ dg ∧ dg ≤ 6) ∧ md = 7 ∧ ov * 10 ^ dg.toNat % un ≠ 0 from ⟨by omega, hxc.1, fun q => hxc.2 ((znz (by omega)).mpr (by rw [hsce]; exact q))⟩)⟩) (by first | exact Nat.le_of_ble_eq_true rfl | omega) (by first | exact Nat.le_of_ble_eq_true rfl | omega)
        have hP : va_P G.1 vwCl [(x, .inr (10, [.ref ro, .ref rw, .ref bo, .ref li, .ref sh, .ref tx, .ref lo, .ref nl])), (ro, .inr (5, [.int (iz (md))]))] H := hP
        have hD : va_D A [(x, .inr (10, [.ref ro, .ref rw, .ref bo, .ref li, .ref sh, .ref tx, .ref lo, .ref nl])), (ro, .inr (5, [.int (iz (md))]))] := hD
        have hz : ((sc.natAbs : Int) % un = 0 ∨ md ≠ 7) ∧ zz = zrd md sc un := hz
        rw [hQ]
        exact vx_ret (zr_lret (z := zz) (u := ()) hx hb hr hlocks hP hD hS (by first | exact Nat.le_of_ble_eq_true rfl | omega) (by first | exact Nat.le_of_ble_eq_true rfl | omega) dX9_round_74 (show (-1000000000000 ≤ ov ∧ ov ≤ 1000000000000 ∧ 1 ≤ un ∧ un ≤ 1000000000000 ∧ 0 ≤ dg ∧ dg ≤ 6) ∧ (ov * 10 ^ dg.toNat % un = 0 ∨ md ≠ 7) ∧ zz = zrd md (ov * 10 ^ dg.toNat) un from ⟨by omega, by rw [← hsce]; exact hz.1.elim (fun q => Or.inl ((znz (by omega)).mp q)) Or.inr, by rw [← hsce]; exact hz.2⟩))
      ·
        refine lv_lload hx hb dX9_round_50 (lv_at hl 1 rfl) ?_
        refine zr_ldc2 (z := 10) hx hb hown (hts (.constantLong RX9 81 (10)) (by decide +kernel)) rfl dX9_round_52 ?_
        refine zr_lmul hx hb dX9_round_55 ?_
        refine lv_lstore (lv' := [(6, .long (lz (sc * 10))), (8, .int (iz (i))), (0, .ref x), (1, .long (lz (ov))), (3, .long (lz (un))), (5, .int (iz (dg)))]) hx hb dX9_round_56 hl (by decide) rfl (fun ls hl => ?_)
        refine lv_iinc (v := iz (i + 1)) (lv' := [(8, .int (iz (i + 1))), (6, .long (lz (sc * 10))), (0, .ref x), (1, .long (lz (ov))), (3, .long (lz (un))), (5, .int (iz (dg)))]) hx hb dX9_round_58 hl (k := 1) rfl (by rw [show Int32.ofInt (1) = iz (1) from rfl, iz_add]) (by decide) rfl (fun ls hl => ?_)
        refine lv_goto (tgt := 43) hx hb dX9_round_61 (by decide) ?_
        exact ih_43 (i + 1) (sc * 10) _ _ _ (by omega) (by omega) (by rw [k2, zpow_s (by omega), Int.mul_assoc]) (hP) (hD) hS (hl)
  exact hl_43 ((dg - 0 : Int).toNat + 1) 0 ov _ _ _ (Nat.lt_succ_self _) (by omega) (by simp) (hP) (hD) hS (hl)

def rm_c_X9_accrued : Room := { frames := 9, cells := 4, slots := 24, locals := 165 }
theorem iw_X9_accrued_X9 : ∀ w ∈ wsX90, w ∈ wsX9_accrued := by decide +kernel
set_option maxHeartbeats 1000000 in
set_option maxRecDepth 100000 in
theorem c_X9_accrued (l : Launch) (G : zG) (s1 : Nat) (s2 : Nat) (s3 : Nat) (x : Nat) (ro : Nat) (rw : Nat) (bo : Nat) (li : Nat) (sh : Nat) (tx : Nat) (lo : Nat) (nl : Nat) (md : Int) (cp : Int) (da : Int) (le : Int) (hl0 : l.stackTraces = false) (r_cp : -9223372036854775808 ≤ cp ∧ cp < 9223372036854775808) (r_da : -2147483648 ≤ da ∧ da < 2147483648) (r_le : -2147483648 ≤ le ∧ le < 2147483648) (hmd : 0 ≤ md ∧ md ≤ 7) : zMt l (zXE s1 s2 s3) G yX9_accrued wsX9_accrued rm_c_X9_accrued [.ref x, .long (lz (cp)), .int (iz (da)), .int (iz (le))] [(x, .inr (10, [.ref ro, .ref rw, .ref bo, .ref li, .ref sh, .ref tx, .ref lo, .ref nl])), (ro, .inr (5, [.int (iz (md))]))] (fun A => zQl G (fun (z : Int) (_ : Unit) => (0 ≤ cp ∧ cp ≤ 1000000000 ∧ 1 ≤ le ∧ le ≤ 366 ∧ 0 ≤ da ∧ da ≤ le) ∧ (cp * da % le = 0 ∨ md ≠ 7) ∧ z = zrd md (cp * da) le) (fun (_ : Unit) => [(x, .inr (10, [.ref ro, .ref rw, .ref bo, .ref li, .ref sh, .ref tx, .ref lo, .ref nl])), (ro, .inr (5, [.int (iz (md))]))]) A) (SX := Unit) (fun (E9 : String) (ux : Unit) => (E9 = "java/lang/IllegalArgumentException" ∧ ¬ (0 ≤ cp ∧ cp ≤ 1000000000 ∧ 1 ≤ le ∧ le ≤ 366 ∧ 0 ≤ da ∧ da ≤ le)) ∨ (E9 = "java/lang/IllegalStateException" ∧ (0 ≤ cp ∧ cp ≤ 1000000000 ∧ 1 ≤ le ∧ le ≤ 366 ∧ 0 ≤ da ∧ da ≤ le) ∧ md = 7 ∧ cp * da % le ≠ 0)) (fun (ux : Unit) => [(x, .inr (10, [.ref ro, .ref rw, .ref bo, .ref li, .ref sh, .ref tx, .ref lo, .ref nl])), (ro, .inr (5, [.int (iz (md))]))]) 4 24 := by
  refine zMt_of (cc := cX9_accrued) (maxL := 5) (ret := (some .long)) (by decide) rfl (Nat.le_of_ble_eq_true rfl) ?_
  intro p e s m below meth c ls A Q hQ hx hb hr hts hown hlocks hml hout hKX hE hP hD hA hS hl
  have hK := hKX.1
  have iwX9 := iw_X9_accrued_X9
  obtain ⟨H, hH⟩ : ∃ h, h = s.heap := ⟨_, rfl⟩
  obtain ⟨locs, hlo⟩ : ∃ h : List Loc, h = [] := ⟨_, rfl⟩
  have hS : va_S A s.heap H locs := by rw [hH, hlo]; exact hS
  have hP : va_P G.1 vwCl [(x, .inr (10, [.ref ro, .ref rw, .ref bo, .ref li, .ref sh, .ref tx, .ref lo, .ref nl])), (ro, .inr (5, [.int (iz (md))]))] H := by rw [hH]; exact hP
  have hD : va_D A [(x, .inr (10, [.ref ro, .ref rw, .ref bo, .ref li, .ref sh, .ref tx, .ref lo, .ref nl])), (ro, .inr (5, [.int (iz (md))]))] := hD
  have hl : lv_has ls 5 [(0, .ref x), (1, .long (lz (cp))), (3, .int (iz (da))), (4, .int (iz (le)))] := hl
  rw [← hH, ← hlo]
  refine lv_lload_n hx hb dX9_accrued_0 rfl (lv_at hl 1 rfl) ?_
  refine lv_lconst (v := lz (0)) hx hb dX9_accrued_1 rfl ?_
  refine zr_ldc2 (z := 1000000000) hx hb hown (hts (.constantLong RX9 91 (1000000000)) (by decide +kernel)) rfl dX9_accrued_2 ?_
  refine zc_z (wr := [(x, .inr (10, [.ref ro, .ref rw, .ref bo, .ref li, .ref sh, .ref tx, .ref lo, .ref nl])), (ro, .inr (5, [.int (iz (md))]))]) (va_runS (As := [.long (lz (cp)), .long (lz (0)), .long (lz (1000000000))]) (rest := []) ⟨hx, hb, hml, hown, hts⟩ (c_X9_isWithin l G cp 0 1000000000 (by omega) (by omega) (by omega) H.size) (va_cwS 3 hts gX9_accrued_X9_isWithin rfl rfl rfl (by decide +kernel) ⟨Nat.le_of_ble_eq_true rfl, Nat.le_of_ble_eq_true rfl⟩) (zpS hKX hP hD [] rfl rfl) rfl rfl hl.1 rfl (lv_room (Nat.le_of_ble_eq_true rfl)) dX9_accrued_5 ⟨(by first | exact Nat.le_of_ble_eq_true rfl | (show _ ≤ (4 : Nat); omega)), (by first | exact Nat.le_of_ble_eq_true rfl | (show _ ≤ (24 : Nat); omega))⟩) hP hD hS hA [] [0, 1] rfl rfl rfl (by decide) (fun z_2 u_1 H locs hq_4 hP hD hS => ?_)
  have hP : va_P G.1 vwCl [(x, .inr (10, [.ref ro, .ref rw, .ref bo, .ref li, .ref sh, .ref tx, .ref lo, .ref nl])), (ro, .inr (5, [.int (iz (md))]))] H := hP
  have hD : va_D A [(x, .inr (10, [.ref ro, .ref rw, .ref bo, .ref li, .ref sh, .ref tx, .ref lo, .ref nl])), (ro, .inr (5, [.int (iz (md))]))] := hD
  have hq_4 : z_2 = decide ((0 : Int) ≤ cp ∧ cp ≤ (1000000000 : Int)) := hq_4
  refine zct_v (wr := [(x, .inr (10, [.ref ro, .ref rw, .ref bo, .ref li, .ref sh, .ref tx, .ref lo, .ref nl])), (ro, .inr (5, [.int (iz (md))]))]) (vx_runS (As := [.int (iz (zbb z_2))]) (rest := []) ⟨hx, hb, hml, hown, hts⟩ (c_X9_demand_t l G s1 s2 s3 z_2 hl0 H.size) (va_cwS 1 hts gX9_accrued_X9_demand rfl rfl rfl (by decide +kernel) ⟨Nat.le_of_ble_eq_true rfl, Nat.le_of_ble_eq_true rfl⟩) (zpSe zXE_ok hE hS hA hKX hP hD [] rfl rfl) rfl rfl hl.1 rfl (lv_room (Nat.le_of_ble_eq_true rfl)) dX9_accrued_8 ⟨(by first | exact Nat.le_of_ble_eq_true rfl | (show _ ≤ (4 : Nat); omega)), (by first | exact Nat.le_of_ble_eq_true rfl | (show _ ≤ (24 : Nat); omega))⟩) hP hD hS hA [] [0, 1] rfl rfl rfl (by decide) (fun E9 ce9 q9 ux_8 H locs hx9_9 hP hD hS hce9 hcv9 hcl9 => ?_) (fun u_7 H locs hq_6 hP hD hS => ?_)
  ·
    have hP : va_P G.1 vwCl [(x, .inr (10, [.ref ro, .ref rw, .ref bo, .ref li, .ref sh, .ref tx, .ref lo, .ref nl])), (ro, .inr (5, [.int (iz (md))]))] H := hP
    have hD : va_D A [(x, .inr (10, [.ref ro, .ref rw, .ref bo, .ref li, .ref sh, .ref tx, .ref lo, .ref nl])), (ro, .inr (5, [.int (iz (md))]))] := hD
    rcases hx9_9 with ⟨rfl, hxc⟩
    ·
      have hxc : z_2 = false := hxc
      have hzz_2 := of_decide_eq_false (hq_4.symm.trans hxc)
      rw [hQ]
      exact zt_out () hout hlocks hce9 hcv9 hcl9 hP hD hS (Or.inl ⟨rfl, (show ¬ (0 ≤ cp ∧ cp ≤ 1000000000 ∧ 1 ≤ le ∧ le ≤ 366 ∧ 0 ≤ da ∧ da ≤ le) from by first | exact hxc | omega)⟩) (by first | exact Nat.le_of_ble_eq_true rfl | omega) (by first | exact Nat.le_of_ble_eq_true rfl | omega)
  have hP : va_P G.1 vwCl [(x, .inr (10, [.ref ro, .ref rw, .ref bo, .ref li, .ref sh, .ref tx, .ref lo, .ref nl])), (ro, .inr (5, [.int (iz (md))]))] H := hP
  have hD : va_D A [(x, .inr (10, [.ref ro, .ref rw, .ref bo, .ref li, .ref sh, .ref tx, .ref lo, .ref nl])), (ro, .inr (5, [.int (iz (md))]))] := hD
  have hq_6 : z_2 = true := hq_6
  have hzz_2 := of_decide_eq_true (hq_4.symm.trans hq_6)
  refine lv_iload hx hb dX9_accrued_11 (lv_at hl 3 rfl) ?_
  refine zr_i2l hx hb (x := le) (⟨by omega, by omega⟩) dX9_accrued_13 ?_
  refine lv_lconst (v := lz (1)) hx hb dX9_accrued_14 rfl ?_
  refine zr_ldc2 (z := 366) hx hb hown (hts (.constantLong RX9 198 (366)) (by decide +kernel)) rfl dX9_accrued_15 ?_
  refine zc_z (wr := [(x, .inr (10, [.ref ro, .ref rw, .ref bo, .ref li, .ref sh, .ref tx, .ref lo, .ref nl])), (ro, .inr (5, [.int (iz (md))]))]) (va_runS (As := [.long (lz (le)), .long (lz (1)), .long (lz (366))]) (rest := []) ⟨hx, hb, hml, hown, hts⟩ (c_X9_isWithin l G le 1 366 (by omega) (by omega) (by omega) H.size) (va_cwS 3 hts gX9_accrued_X9_isWithin rfl rfl rfl (by decide +kernel) ⟨Nat.le_of_ble_eq_true rfl, Nat.le_of_ble_eq_true rfl⟩) (zpS hKX hP hD [] rfl rfl) rfl rfl hl.1 rfl (lv_room (Nat.le_of_ble_eq_true rfl)) dX9_accrued_18 ⟨(by first | exact Nat.le_of_ble_eq_true rfl | (show _ ≤ (4 : Nat); omega)), (by first | exact Nat.le_of_ble_eq_true rfl | (show _ ≤ (24 : Nat); omega))⟩) hP hD hS hA [] [0, 1] rfl rfl rfl (by decide) (fun z_11 u_10 H locs hq_13 hP hD hS => ?_)
  have hP : va_P G.1 vwCl [(x, .inr (10, [.ref ro, .ref rw, .ref bo, .ref li, .ref sh, .ref tx, .ref lo, .ref nl])), (ro, .inr (5, [.int (iz (md))]))] H := hP
  have hD : va_D A [(x, .inr (10, [.ref ro, .ref rw, .ref bo, .ref li, .ref sh, .ref tx, .ref lo, .ref nl])), (ro, .inr (5, [.int (iz (md))]))] := hD
  have hq_13 : z_11 = decide ((1 : Int) ≤ le ∧ le ≤ (366 : Int)) := hq_13
  refine zct_v (wr := [(x, .inr (10, [.ref ro, .ref rw, .ref bo, .ref li, .ref sh, .ref tx, .ref lo, .ref nl])), (ro, .inr (5, [.int (iz (md))]))]) (vx_runS (As := [.int (iz (zbb z_11))]) (rest := []) ⟨hx, hb, hml, hown, hts⟩ (c_X9_demand_t l G s1 s2 s3 z_11 hl0 H.size) (va_cwS 1 hts gX9_accrued_X9_demand rfl rfl rfl (by decide +kernel) ⟨Nat.le_of_ble_eq_true rfl, Nat.le_of_ble_eq_true rfl⟩) (zpSe zXE_ok hE hS hA hKX hP hD [] rfl rfl) rfl rfl hl.1 rfl (lv_room (Nat.le_of_ble_eq_true rfl)) dX9_accrued_21 ⟨(by first | exact Nat.le_of_ble_eq_true rfl | (show _ ≤ (4 : Nat); omega)), (by first | exact Nat.le_of_ble_eq_true rfl | (show _ ≤ (24 : Nat); omega))⟩) hP hD hS hA [] [0, 1] rfl rfl rfl (by decide) (fun E9 ce9 q9 ux_17 H locs hx9_18 hP hD hS hce9 hcv9 hcl9 => ?_) (fun u_16 H locs hq_15 hP hD hS => ?_)
  ·
    have hP : va_P G.1 vwCl [(x, .inr (10, [.ref ro, .ref rw, .ref bo, .ref li, .ref sh, .ref tx, .ref lo, .ref nl])), (ro, .inr (5, [.int (iz (md))]))] H := hP
    have hD : va_D A [(x, .inr (10, [.ref ro, .ref rw, .ref bo, .ref li, .ref sh, .ref tx, .ref lo, .ref nl])), (ro, .inr (5, [.int (iz (md))]))] := hD
    rcases hx9_18 with ⟨rfl, hxc⟩
    ·
      have hxc : z_11 = false := hxc
      have hzz_11 := of_decide_eq_false (hq_13.symm.trans hxc)
      rw [hQ]
      exact zt_out () hout hlocks hce9 hcv9 hcl9 hP hD hS (Or.inl ⟨rfl, (show ¬ (0 ≤ cp ∧ cp ≤ 1000000000 ∧ 1 ≤ le ∧ le ≤ 366 ∧ 0 ≤ da ∧ da ≤ le) from by first | exact hxc | omega)⟩) (by first | exact Nat.le_of_ble_eq_true rfl | omega) (by first | exact Nat.le_of_ble_eq_true rfl | omega)
  have hP : va_P G.1 vwCl [(x, .inr (10, [.ref ro, .ref rw, .ref bo, .ref li, .ref sh, .ref tx, .ref lo, .ref nl])), (ro, .inr (5, [.int (iz (md))]))] H := hP
  have hD : va_D A [(x, .inr (10, [.ref ro, .ref rw, .ref bo, .ref li, .ref sh, .ref tx, .ref lo, .ref nl])), (ro, .inr (5, [.int (iz (md))]))] := hD
  have hq_15 : z_11 = true := hq_15
  have hzz_11 := of_decide_eq_true (hq_13.symm.trans hq_15)
  refine lv_iload_n hx hb dX9_accrued_24 rfl (lv_at hl 2 rfl) ?_
  refine zr_i2l hx hb (x := da) (⟨by omega, by omega⟩) dX9_accrued_25 ?_
  refine lv_lconst (v := lz (0)) hx hb dX9_accrued_26 rfl ?_
  refine lv_iload hx hb dX9_accrued_27 (lv_at hl 3 rfl) ?_
  refine zr_i2l hx hb (x := le) (⟨by omega, by omega⟩) dX9_accrued_29 ?_
  refine zc_z (wr := [(x, .inr (10, [.ref ro, .ref rw, .ref bo, .ref li, .ref sh, .ref tx, .ref lo, .ref nl])), (ro, .inr (5, [.int (iz (md))]))]) (va_runS (As := [.long (lz (da)), .long (lz (0)), .long (lz (le))]) (rest := []) ⟨hx, hb, hml, hown, hts⟩ (c_X9_isWithin l G da 0 le (by omega) (by omega) (by omega) H.size) (va_cwS 3 hts gX9_accrued_X9_isWithin rfl rfl rfl (by decide +kernel) ⟨Nat.le_of_ble_eq_true rfl, Nat.le_of_ble_eq_true rfl⟩) (zpS hKX hP hD [] rfl rfl) rfl rfl hl.1 rfl (lv_room (Nat.le_of_ble_eq_true rfl)) dX9_accrued_30 ⟨(by first | exact Nat.le_of_ble_eq_true rfl | (show _ ≤ (4 : Nat); omega)), (by first | exact Nat.le_of_ble_eq_true rfl | (show _ ≤ (24 : Nat); omega))⟩) hP hD hS hA [] [0, 1] rfl rfl rfl (by decide) (fun z_20 u_19 H locs hq_22 hP hD hS => ?_)
  have hP : va_P G.1 vwCl [(x, .inr (10, [.ref ro, .ref rw, .ref bo, .ref li, .ref sh, .ref tx, .ref lo, .ref nl])), (ro, .inr (5, [.int (iz (md))]))] H := hP
  have hD : va_D A [(x, .inr (10, [.ref ro, .ref rw, .ref bo, .ref li, .ref sh, .ref tx, .ref lo, .ref nl])), (ro, .inr (5, [.int (iz (md))]))] := hD
  have hq_22 : z_20 = decide ((0 : Int) ≤ da ∧ da ≤ le) := hq_22
  refine zct_v (wr := [(x, .inr (10, [.ref ro, .ref rw, .ref bo, .ref li, .ref sh, .ref tx, .ref lo, .ref nl])), (ro, .inr (5, [.int (iz (md))]))]) (vx_runS (As := [.int (iz (zbb z_20))]) (rest := []) ⟨hx, hb, hml, hown, hts⟩ (c_X9_demand_t l G s1 s2 s3 z_20 hl0 H.size) (va_cwS 1 hts gX9_accrued_X9_demand rfl rfl rfl (by decide +kernel) ⟨Nat.le_of_ble_eq_true rfl, Nat.le_of_ble_eq_true rfl⟩) (zpSe zXE_ok hE hS hA hKX hP hD [] rfl rfl) rfl rfl hl.1 rfl (lv_room (Nat.le_of_ble_eq_true rfl)) dX9_accrued_33 ⟨(by first | exact Nat.le_of_ble_eq_true rfl | (show _ ≤ (4 : Nat); omega)), (by first | exact Nat.le_of_ble_eq_true rfl | (show _ ≤ (24 : Nat); omega))⟩) hP hD hS hA [] [0, 1] rfl rfl rfl (by decide) (fun E9 ce9 q9 ux_26 H locs hx9_27 hP hD hS hce9 hcv9 hcl9 => ?_) (fun u_25 H locs hq_24 hP hD hS => ?_)
  ·
    have hP : va_P G.1 vwCl [(x, .inr (10, [.ref ro, .ref rw, .ref bo, .ref li, .ref sh, .ref tx, .ref lo, .ref nl])), (ro, .inr (5, [.int (iz (md))]))] H := hP
    have hD : va_D A [(x, .inr (10, [.ref ro, .ref rw, .ref bo, .ref li, .ref sh, .ref tx, .ref lo, .ref nl])), (ro, .inr (5, [.int (iz (md))]))] := hD
    rcases hx9_27 with ⟨rfl, hxc⟩
    ·
      have hxc : z_20 = false := hxc
      have hzz_20 := of_decide_eq_false (hq_22.symm.trans hxc)
      rw [hQ]
      exact zt_out () hout hlocks hce9 hcv9 hcl9 hP hD hS (Or.inl ⟨rfl, (show ¬ (0 ≤ cp ∧ cp ≤ 1000000000 ∧ 1 ≤ le ∧ le ≤ 366 ∧ 0 ≤ da ∧ da ≤ le) from by first | exact hxc | omega)⟩) (by first | exact Nat.le_of_ble_eq_true rfl | omega) (by first | exact Nat.le_of_ble_eq_true rfl | omega)
  have hP : va_P G.1 vwCl [(x, .inr (10, [.ref ro, .ref rw, .ref bo, .ref li, .ref sh, .ref tx, .ref lo, .ref nl])), (ro, .inr (5, [.int (iz (md))]))] H := hP
  have hD : va_D A [(x, .inr (10, [.ref ro, .ref rw, .ref bo, .ref li, .ref sh, .ref tx, .ref lo, .ref nl])), (ro, .inr (5, [.int (iz (md))]))] := hD
  have hq_24 : z_20 = true := hq_24
  have hzz_20 := of_decide_eq_true (hq_22.symm.trans hq_24)
  refine lv_aload_n hx hb dX9_accrued_36 rfl (lv_at hl 0 rfl) ?_
  refine va_get (D := G.1) (ci := 10) (v := .ref ro) (C := RX9) (T := TX9) (N := 8) hx hb hts iwX9 hown hK hP 0 rfl rfl 0 (by decide) (hts (.fieldLink RX9 10 "AnnuityHouse" "rounder" "LAnnuityHouse$Rounder;") (by decide +kernel)) (fun _ h9 => h9) rfl dX9_accrued_37 ?_
  refine lv_lload_n hx hb dX9_accrued_40 rfl (lv_at hl 1 rfl) ?_
  refine lv_iload_n hx hb dX9_accrued_41 rfl (lv_at hl 2 rfl) ?_
  refine zr_i2l hx hb (x := da) (⟨by omega, by omega⟩) dX9_accrued_42 ?_
  refine zr_lmul hx hb dX9_accrued_43 ?_
  refine lv_iload hx hb dX9_accrued_44 (lv_at hl 3 rfl) ?_
  refine zr_i2l hx hb (x := le) (⟨by omega, by omega⟩) dX9_accrued_46 ?_
  have hcd := zcd_rng (x := cp) (y := da) (by omega) (by omega)
  refine zct_l (wr := [(x, .inr (10, [.ref ro, .ref rw, .ref bo, .ref li, .ref sh, .ref tx, .ref lo, .ref nl]))]) (vx_runV (As := [.long (lz (cp * da)), .long (lz (le))]) (rest := []) ⟨hx, hb, hml, hown, hts⟩ (c_X4_ratio l G s1 s2 s3 ro md (cp * da) le hl0 (by omega) (by omega) (by omega) H.size) (cwV 2 hts gX9_accrued_X4_ratio rfl rfl rfl (by decide +kernel) ⟨Nat.le_of_ble_eq_true rfl, Nat.le_of_ble_eq_true rfl⟩) (zpVe zXE_ok hE hS hA hKX hP hD [1] rfl rfl (va_recv hK hP (ci := 5) (q0 := 1) rfl rfl)) rfl rfl hl.1 rfl (lv_room (Nat.le_of_ble_eq_true rfl)) dX9_accrued_47 ⟨(by first | exact Nat.le_of_ble_eq_true rfl | (show _ ≤ (4 : Nat); omega)), (by first | exact Nat.le_of_ble_eq_true rfl | (show _ ≤ (24 : Nat); omega))⟩) hP hD hS hA [1] [0] rfl rfl rfl (by decide) (fun E9 ce9 q9 ux_29 H locs hx9_30 hP hD hS hce9 hcv9 hcl9 => ?_) (fun zz u_28 H locs hz hP hD hS => ?_)
  ·
    have hP : va_P G.1 vwCl [(x, .inr (10, [.ref ro, .ref rw, .ref bo, .ref li, .ref sh, .ref tx, .ref lo, .ref nl])), (ro, .inr (5, [.int (iz (md))]))] H := hP
    have hD : va_D A [(x, .inr (10, [.ref ro, .ref rw, .ref bo, .ref li, .ref sh, .ref tx, .ref lo, .ref nl])), (ro, .inr (5, [.int (iz (md))]))] := hD
    rcases hx9_30 with ⟨rfl, hxc⟩
    ·
      have hxc : md = 7 ∧ ((cp * da).natAbs : Int) % le ≠ 0 := hxc
      rw [hQ]
      exact zt_out () hout hlocks hce9 hcv9 hcl9 hP hD hS (Or.inr ⟨rfl, (show (0 ≤ cp ∧ cp ≤ 1000000000 ∧ 1 ≤ le ∧ le ≤ 366 ∧ 0 ≤ da ∧ da ≤ le) ∧ md = 7 ∧ cp * da % le ≠ 0 from ⟨by omega, hxc.1, fun q => hxc.2 ((znz (by omega)).mpr q)⟩)⟩) (by first | exact Nat.le_of_ble_eq_true rfl | omega) (by first | exact Nat.le_of_ble_eq_true rfl | omega)
  have hP : va_P G.1 vwCl [(x, .inr (10, [.ref ro, .ref rw, .ref bo, .ref li, .ref sh, .ref tx, .ref lo, .ref nl])), (ro, .inr (5, [.int (iz (md))]))] H := hP
  have hD : va_D A [(x, .inr (10, [.ref ro, .ref rw, .ref bo, .ref li, .ref sh, .ref tx, .ref lo, .ref nl])), (ro, .inr (5, [.int (iz (md))]))] := hD
  have hz : (((cp * da).natAbs : Int) % le = 0 ∨ md ≠ 7) ∧ zz = zrd md (cp * da) le := hz
  rw [hQ]
  exact vx_ret (zr_lret (z := zz) (u := ()) hx hb hr hlocks hP hD hS (by first | exact Nat.le_of_ble_eq_true rfl | omega) (by first | exact Nat.le_of_ble_eq_true rfl | omega) dX9_accrued_50 (show (0 ≤ cp ∧ cp ≤ 1000000000 ∧ 1 ≤ le ∧ le ≤ 366 ∧ 0 ≤ da ∧ da ≤ le) ∧ (cp * da % le = 0 ∨ md ≠ 7) ∧ zz = zrd md (cp * da) le from ⟨by omega, hz.1.elim (fun q => Or.inl ((znz (by omega)).mp q)) Or.inr, hz.2⟩))

def rm_c_X9_pay : Room := { frames := 8, cells := 44, slots := 264, locals := 137 }
theorem iw_X9_pay_X9 : ∀ w ∈ wsX90, w ∈ wsX9_pay := by decide +kernel
set_option maxHeartbeats 1000000 in
set_option maxRecDepth 100000 in
theorem c_X9_pay (l : Launch) (G : zG) (s1 : Nat) (s2 : Nat) (s3 : Nat) (x : Nat) (ro : Nat) (rw : Nat) (bo : Nat) (li : Nat) (sh : Nat) (tx : Nat) (lo : Nat) (nl : Nat) (am : Nat) (q : Nat) (bq : Nat) (f : Int → Int) (pe : Int) (mo : Int) (hl0 : l.stackTraces = false) (r_pe : -2147483648 ≤ pe ∧ pe < 2147483648) (r_mo : -9223372036854775808 ≤ mo ∧ mo < 9223372036854775808) (hf : zrok f) : zMt l (zXE s1 s2 s3) G yX9_pay wsX9_pay rm_c_X9_pay [.ref x, .int (iz (pe)), .long (lz (mo))] [(x, .inr (10, [.ref ro, .ref rw, .ref bo, .ref li, .ref sh, .ref tx, .ref lo, .ref nl])), (rw, .inr (6, [.ref am, .ref q, .ref bq])), (am, zaL (G.2 0) 41 (f))] (fun A => zQl G (fun (z : Int) (f2 : (Int → Int)) => (0 ≤ pe ∧ pe ≤ 40 ∧ -1000000000 ≤ mo ∧ mo ≤ 1000000000) ∧ zamt (f pe + mo) ∧ z = f pe + mo ∧ f2 = zup f pe (f pe + mo)) (fun (f2 : (Int → Int)) => [(x, .inr (10, [.ref ro, .ref rw, .ref bo, .ref li, .ref sh, .ref tx, .ref lo, .ref nl])), (rw, .inr (6, [.ref am, .ref q, .ref bq])), (am, zaL (G.2 0) 41 (f2))]) A) (SX := Unit) (fun (E9 : String) (ux : Unit) => (E9 = "java/lang/IllegalArgumentException" ∧ ¬ (0 ≤ pe ∧ pe ≤ 40 ∧ -1000000000 ≤ mo ∧ mo ≤ 1000000000)) ∨ (E9 = "java/lang/IllegalStateException" ∧ (0 ≤ pe ∧ pe ≤ 40 ∧ -1000000000 ≤ mo ∧ mo ≤ 1000000000) ∧ ¬ zamt (f pe + mo))) (fun (ux : Unit) => [(x, .inr (10, [.ref ro, .ref rw, .ref bo, .ref li, .ref sh, .ref tx, .ref lo, .ref nl])), (rw, .inr (6, [.ref am, .ref q, .ref bq])), (am, zaL (G.2 0) 41 (f))]) 44 264 := by
  refine zMt_of (cc := cX9_pay) (maxL := 4) (ret := (some .long)) (by decide) rfl (Nat.le_of_ble_eq_true rfl) ?_
  intro p e s m below meth c ls A Q hQ hx hb hr hts hown hlocks hml hout hKX hE hP hD hA hS hl
  have hK := hKX.1
  have iwX9 := iw_X9_pay_X9
  obtain ⟨H, hH⟩ : ∃ h, h = s.heap := ⟨_, rfl⟩
  obtain ⟨locs, hlo⟩ : ∃ h : List Loc, h = [] := ⟨_, rfl⟩
  have hS : va_S A s.heap H locs := by rw [hH, hlo]; exact hS
  have hP : va_P G.1 vwCl [(x, .inr (10, [.ref ro, .ref rw, .ref bo, .ref li, .ref sh, .ref tx, .ref lo, .ref nl])), (rw, .inr (6, [.ref am, .ref q, .ref bq])), (am, zaL (G.2 0) 41 (f))] H := by rw [hH]; exact hP
  have hD : va_D A [(x, .inr (10, [.ref ro, .ref rw, .ref bo, .ref li, .ref sh, .ref tx, .ref lo, .ref nl])), (rw, .inr (6, [.ref am, .ref q, .ref bq])), (am, zaL (G.2 0) 41 (f))] := hD
  have hl : lv_has ls 4 [(0, .ref x), (1, .int (iz (pe))), (2, .long (lz (mo)))] := hl
  rw [← hH, ← hlo]
  refine lv_iload_n hx hb dX9_pay_0 rfl (lv_at hl 1 rfl) ?_
  refine zr_i2l hx hb (x := pe) (⟨by omega, by omega⟩) dX9_pay_1 ?_
  refine lv_lconst (v := lz (0)) hx hb dX9_pay_2 rfl ?_
  refine zr_ldc2 (z := 40) hx hb hown (hts (.constantLong RX9 87 (40)) (by decide +kernel)) rfl dX9_pay_3 ?_
  refine zc_z (wr := [(x, .inr (10, [.ref ro, .ref rw, .ref bo, .ref li, .ref sh, .ref tx, .ref lo, .ref nl])), (rw, .inr (6, [.ref am, .ref q, .ref bq])), (am, zaL (G.2 0) 41 (f))]) (va_runS (As := [.long (lz (pe)), .long (lz (0)), .long (lz (40))]) (rest := []) ⟨hx, hb, hml, hown, hts⟩ (c_X9_isWithin l G pe 0 40 (by omega) (by omega) (by omega) H.size) (va_cwS 3 hts gX9_pay_X9_isWithin rfl rfl rfl (by decide +kernel) ⟨Nat.le_of_ble_eq_true rfl, Nat.le_of_ble_eq_true rfl⟩) (zpS hKX hP hD [] rfl rfl) rfl rfl hl.1 rfl (lv_room (Nat.le_of_ble_eq_true rfl)) dX9_pay_6 ⟨(by first | exact Nat.le_of_ble_eq_true rfl | (show _ ≤ (44 : Nat); omega)), (by first | exact Nat.le_of_ble_eq_true rfl | (show _ ≤ (264 : Nat); omega))⟩) hP hD hS hA [] [0, 1, 2] rfl rfl rfl (by decide) (fun z_2 u_1 H locs hq_4 hP hD hS => ?_)
  have hP : va_P G.1 vwCl [(x, .inr (10, [.ref ro, .ref rw, .ref bo, .ref li, .ref sh, .ref tx, .ref lo, .ref nl])), (rw, .inr (6, [.ref am, .ref q, .ref bq])), (am, zaL (G.2 0) 41 (f))] H := hP
  have hD : va_D A [(x, .inr (10, [.ref ro, .ref rw, .ref bo, .ref li, .ref sh, .ref tx, .ref lo, .ref nl])), (rw, .inr (6, [.ref am, .ref q, .ref bq])), (am, zaL (G.2 0) 41 (f))] := hD
  have hq_4 : z_2 = decide ((0 : Int) ≤ pe ∧ pe ≤ (40 : Int)) := hq_4
  refine zct_v (wr := [(x, .inr (10, [.ref ro, .ref rw, .ref bo, .ref li, .ref sh, .ref tx, .ref lo, .ref nl])), (rw, .inr (6, [.ref am, .ref q, .ref bq])), (am, zaL (G.2 0) 41 (f))]) (vx_runS (As := [.int (iz (zbb z_2))]) (rest := []) ⟨hx, hb, hml, hown, hts⟩ (c_X9_demand_t l G s1 s2 s3 z_2 hl0 H.size) (va_cwS 1 hts gX9_pay_X9_demand rfl rfl rfl (by decide +kernel) ⟨Nat.le_of_ble_eq_true rfl, Nat.le_of_ble_eq_true rfl⟩) (zpSe zXE_ok hE hS hA hKX hP hD [] rfl rfl) rfl rfl hl.1 rfl (lv_room (Nat.le_of_ble_eq_true rfl)) dX9_pay_9 ⟨(by first | exact Nat.le_of_ble_eq_true rfl | (show _ ≤ (44 : Nat); omega)), (by first | exact Nat.le_of_ble_eq_true rfl | (show _ ≤ (264 : Nat); omega))⟩) hP hD hS hA [] [0, 1, 2] rfl rfl rfl (by decide) (fun E9 ce9 q9 ux_8 H locs hx9_9 hP hD hS hce9 hcv9 hcl9 => ?_) (fun u_7 H locs hq_6 hP hD hS => ?_)
  ·
    have hP : va_P G.1 vwCl [(x, .inr (10, [.ref ro, .ref rw, .ref bo, .ref li, .ref sh, .ref tx, .ref lo, .ref nl])), (rw, .inr (6, [.ref am, .ref q, .ref bq])), (am, zaL (G.2 0) 41 (f))] H := hP
    have hD : va_D A [(x, .inr (10, [.ref ro, .ref rw, .ref bo, .ref li, .ref sh, .ref tx, .ref lo, .ref nl])), (rw, .inr (6, [.ref am, .ref q, .ref bq])), (am, zaL (G.2 0) 41 (f))] := hD
    rcases hx9_9 with ⟨rfl, hxc⟩
    ·
      have hxc : z_2 = false := hxc
      have hzz_2 := of_decide_eq_false (hq_4.symm.trans hxc)
      rw [hQ]
      exact zt_out () hout hlocks hce9 hcv9 hcl9 hP hD hS (Or.inl ⟨rfl, (show ¬ (0 ≤ pe ∧ pe ≤ 40 ∧ -1000000000 ≤ mo ∧ mo ≤ 1000000000) from by first | exact hxc | omega)⟩) (by first | exact Nat.le_of_ble_eq_true rfl | omega) (by first | exact Nat.le_of_ble_eq_true rfl | omega)
  have hP : va_P G.1 vwCl [(x, .inr (10, [.ref ro, .ref rw, .ref bo, .ref li, .ref sh, .ref tx, .ref lo, .ref nl])), (rw, .inr (6, [.ref am, .ref q, .ref bq])), (am, zaL (G.2 0) 41 (f))] H := hP
  have hD : va_D A [(x, .inr (10, [.ref ro, .ref rw, .ref bo, .ref li, .ref sh, .ref tx, .ref lo, .ref nl])), (rw, .inr (6, [.ref am, .ref q, .ref bq])), (am, zaL (G.2 0) 41 (f))] := hD
  have hq_6 : z_2 = true := hq_6
  have hzz_2 := of_decide_eq_true (hq_4.symm.trans hq_6)
  refine lv_lload_n hx hb dX9_pay_12 rfl (lv_at hl 2 rfl) ?_
  refine zr_ldc2 (z := -1000000000) hx hb hown (hts (.constantLong RX9 89 (-1000000000)) (by decide +kernel)) rfl dX9_pay_13 ?_
  refine zr_ldc2 (z := 1000000000) hx hb hown (hts (.constantLong RX9 91 (1000000000)) (by decide +kernel)) rfl dX9_pay_16 ?_
  refine zc_z (wr := [(x, .inr (10, [.ref ro, .ref rw, .ref bo, .ref li, .ref sh, .ref tx, .ref lo, .ref nl])), (rw, .inr (6, [.ref am, .ref q, .ref bq])), (am, zaL (G.2 0) 41 (f))]) (va_runS (As := [.long (lz (mo)), .long (lz (-1000000000)), .long (lz (1000000000))]) (rest := []) ⟨hx, hb, hml, hown, hts⟩ (c_X9_isWithin l G mo (-1000000000) 1000000000 (by omega) (by omega) (by omega) H.size) (va_cwS 3 hts gX9_pay_X9_isWithin rfl rfl rfl (by decide +kernel) ⟨Nat.le_of_ble_eq_true rfl, Nat.le_of_ble_eq_true rfl⟩) (zpS hKX hP hD [] rfl rfl) rfl rfl hl.1 rfl (lv_room (Nat.le_of_ble_eq_true rfl)) dX9_pay_19 ⟨(by first | exact Nat.le_of_ble_eq_true rfl | (show _ ≤ (44 : Nat); omega)), (by first | exact Nat.le_of_ble_eq_true rfl | (show _ ≤ (264 : Nat); omega))⟩) hP hD hS hA [] [0, 1, 2] rfl rfl rfl (by decide) (fun z_11 u_10 H locs hq_13 hP hD hS => ?_)
  have hP : va_P G.1 vwCl [(x, .inr (10, [.ref ro, .ref rw, .ref bo, .ref li, .ref sh, .ref tx, .ref lo, .ref nl])), (rw, .inr (6, [.ref am, .ref q, .ref bq])), (am, zaL (G.2 0) 41 (f))] H := hP
  have hD : va_D A [(x, .inr (10, [.ref ro, .ref rw, .ref bo, .ref li, .ref sh, .ref tx, .ref lo, .ref nl])), (rw, .inr (6, [.ref am, .ref q, .ref bq])), (am, zaL (G.2 0) 41 (f))] := hD
  have hq_13 : z_11 = decide ((-1000000000 : Int) ≤ mo ∧ mo ≤ (1000000000 : Int)) := hq_13
  refine zct_v (wr := [(x, .inr (10, [.ref ro, .ref rw, .ref bo, .ref li, .ref sh, .ref tx, .ref lo, .ref nl])), (rw, .inr (6, [.ref am, .ref q, .ref bq])), (am, zaL (G.2 0) 41 (f))]) (vx_runS (As := [.int (iz (zbb z_11))]) (rest := []) ⟨hx, hb, hml, hown, hts⟩ (c_X9_demand_t l G s1 s2 s3 z_11 hl0 H.size) (va_cwS 1 hts gX9_pay_X9_demand rfl rfl rfl (by decide +kernel) ⟨Nat.le_of_ble_eq_true rfl, Nat.le_of_ble_eq_true rfl⟩) (zpSe zXE_ok hE hS hA hKX hP hD [] rfl rfl) rfl rfl hl.1 rfl (lv_room (Nat.le_of_ble_eq_true rfl)) dX9_pay_22 ⟨(by first | exact Nat.le_of_ble_eq_true rfl | (show _ ≤ (44 : Nat); omega)), (by first | exact Nat.le_of_ble_eq_true rfl | (show _ ≤ (264 : Nat); omega))⟩) hP hD hS hA [] [0, 1, 2] rfl rfl rfl (by decide) (fun E9 ce9 q9 ux_17 H locs hx9_18 hP hD hS hce9 hcv9 hcl9 => ?_) (fun u_16 H locs hq_15 hP hD hS => ?_)
  ·
    have hP : va_P G.1 vwCl [(x, .inr (10, [.ref ro, .ref rw, .ref bo, .ref li, .ref sh, .ref tx, .ref lo, .ref nl])), (rw, .inr (6, [.ref am, .ref q, .ref bq])), (am, zaL (G.2 0) 41 (f))] H := hP
    have hD : va_D A [(x, .inr (10, [.ref ro, .ref rw, .ref bo, .ref li, .ref sh, .ref tx, .ref lo, .ref nl])), (rw, .inr (6, [.ref am, .ref q, .ref bq])), (am, zaL (G.2 0) 41 (f))] := hD
    rcases hx9_18 with ⟨rfl, hxc⟩
    ·
      have hxc : z_11 = false := hxc
      have hzz_11 := of_decide_eq_false (hq_13.symm.trans hxc)
      rw [hQ]
      exact zt_out () hout hlocks hce9 hcv9 hcl9 hP hD hS (Or.inl ⟨rfl, (show ¬ (0 ≤ pe ∧ pe ≤ 40 ∧ -1000000000 ≤ mo ∧ mo ≤ 1000000000) from by first | exact hxc | omega)⟩) (by first | exact Nat.le_of_ble_eq_true rfl | omega) (by first | exact Nat.le_of_ble_eq_true rfl | omega)
  have hP : va_P G.1 vwCl [(x, .inr (10, [.ref ro, .ref rw, .ref bo, .ref li, .ref sh, .ref tx, .ref lo, .ref nl])), (rw, .inr (6, [.ref am, .ref q, .ref bq])), (am, zaL (G.2 0) 41 (f))] H := hP
  have hD : va_D A [(x, .inr (10, [.ref ro, .ref rw, .ref bo, .ref li, .ref sh, .ref tx, .ref lo, .ref nl])), (rw, .inr (6, [.ref am, .ref q, .ref bq])), (am, zaL (G.2 0) 41 (f))] := hD
  have hq_15 : z_11 = true := hq_15
  have hzz_11 := of_decide_eq_true (hq_13.symm.trans hq_15)
  refine lv_aload_n hx hb dX9_pay_25 rfl (lv_at hl 0 rfl) ?_
  refine va_get (D := G.1) (ci := 10) (v := .ref rw) (C := RX9) (T := TX9) (N := 8) hx hb hts iwX9 hown hK hP 0 rfl rfl 1 (by decide) (hts (.fieldLink RX9 19 "AnnuityHouse" "row" "LAnnuityHouse$Row;") (by decide +kernel)) (fun _ h9 => h9) rfl dX9_pay_26 ?_
  refine lv_iload_n hx hb dX9_pay_29 rfl (lv_at hl 1 rfl) ?_
  refine lv_iconst (v := iz (1)) hx hb dX9_pay_30 rfl ?_
  refine lv_lload_n hx hb dX9_pay_31 rfl (lv_at hl 2 rfl) ?_
  refine lv_lconst (v := lz (0)) hx hb dX9_pay_32 rfl ?_
  refine zct_v (wr := [(x, .inr (10, [.ref ro, .ref rw, .ref bo, .ref li, .ref sh, .ref tx, .ref lo, .ref nl]))]) (vx_runV (As := [.int (iz (pe)), .int (iz (1)), .long (lz (mo)), .long (lz (0))]) (rest := []) ⟨hx, hb, hml, hown, hts⟩ (c_X5_add l G s1 s2 s3 rw am q bq f pe 1 mo 0 hl0 (by omega) (by omega) H.size) (cwV 4 hts gX9_pay_X5_add rfl rfl rfl (by decide +kernel) ⟨Nat.le_of_ble_eq_true rfl, Nat.le_of_ble_eq_true rfl⟩) (zpVe zXE_ok hE hS hA hKX hP hD [1, 2] rfl rfl (va_recv hK hP (ci := 6) (q0 := 1) rfl rfl)) rfl rfl hl.1 rfl (lv_room (Nat.le_of_ble_eq_true rfl)) dX9_pay_33 ⟨(by first | exact Nat.le_of_ble_eq_true rfl | (show _ ≤ (44 : Nat); omega)), (by first | exact Nat.le_of_ble_eq_true rfl | (show _ ≤ (264 : Nat); omega))⟩) hP hD hS hA [1, 2] [0] rfl rfl rfl (by decide) (fun E9 ce9 q9 ux_21 H locs hx9_22 hP hD hS hce9 hcv9 hcl9 => ?_) (fun u_20 H locs hf2 hP hD hS => ?_)
  ·
    have hP : va_P G.1 vwCl [(x, .inr (10, [.ref ro, .ref rw, .ref bo, .ref li, .ref sh, .ref tx, .ref lo, .ref nl])), (rw, .inr (6, [.ref am, .ref q, .ref bq])), (am, zaL (G.2 0) 41 (f))] H := hP
    have hD : va_D A [(x, .inr (10, [.ref ro, .ref rw, .ref bo, .ref li, .ref sh, .ref tx, .ref lo, .ref nl])), (rw, .inr (6, [.ref am, .ref q, .ref bq])), (am, zaL (G.2 0) 41 (f))] := hD
    rcases hx9_22 with ⟨rfl, hxc⟩
    ·
      have hxc : ¬ (∀ j : Int, 0 ≤ j → j < (1 : Int) → zamt (f (pe + j) + mo + j * (0 : Int))) := hxc
      rw [hQ]
      exact zt_out () hout hlocks hce9 hcv9 hcl9 hP hD hS (Or.inr ⟨rfl, (show (0 ≤ pe ∧ pe ≤ 40 ∧ -1000000000 ≤ mo ∧ mo ≤ 1000000000) ∧ ¬ zamt (f pe + mo) from ⟨by omega, fun q => hxc (zfit_1i q)⟩)⟩) (by first | exact Nat.le_of_ble_eq_true rfl | omega) (by first | exact Nat.le_of_ble_eq_true rfl | omega)
  generalize u_20 = f2 at hP hD hf2
  have hP : va_P G.1 vwCl [(x, .inr (10, [.ref ro, .ref rw, .ref bo, .ref li, .ref sh, .ref tx, .ref lo, .ref nl])), (rw, .inr (6, [.ref am, .ref q, .ref bq])), (am, zaL (G.2 0) 41 (f2))] H := hP
  have hD : va_D A [(x, .inr (10, [.ref ro, .ref rw, .ref bo, .ref li, .ref sh, .ref tx, .ref lo, .ref nl])), (rw, .inr (6, [.ref am, .ref q, .ref bq])), (am, zaL (G.2 0) 41 (f2))] := hD
  have hf2 : (∀ j : Int, 0 ≤ j → j < (1 : Int) → zamt (f (pe + j) + mo + j * (0 : Int))) ∧ ∀ i, f2 i = zadd f pe (1 : Int) mo (0 : Int) i := hf2
  have hfz : f2 = zup f pe (f pe + mo) := funext (fun i => (hf2.2 i).trans (zadd_1 f pe mo i))
  have hft : zamt (f pe + mo) := zfit_1 hf2.1
  refine lv_aload_n hx hb dX9_pay_36 rfl (lv_at hl 0 rfl) ?_
  refine va_get (D := G.1) (ci := 10) (v := .ref rw) (C := RX9) (T := TX9) (N := 8) hx hb hts iwX9 hown hK hP 0 rfl rfl 1 (by decide) (hts (.fieldLink RX9 19 "AnnuityHouse" "row" "LAnnuityHouse$Row;") (by decide +kernel)) (fun _ h9 => h9) rfl dX9_pay_37 ?_
  refine lv_iload_n hx hb dX9_pay_40 rfl (lv_at hl 1 rfl) ?_
  refine zc_l (wr := [(x, .inr (10, [.ref ro, .ref rw, .ref bo, .ref li, .ref sh, .ref tx, .ref lo, .ref nl]))]) (va_runV (As := [.int (iz (pe))]) (rest := []) ⟨hx, hb, hml, hown, hts⟩ (c_X5_amountIn l G rw am q bq f2 pe (by omega) H.size) (cwV 1 hts gX9_pay_X5_amountIn rfl rfl rfl (by decide +kernel) ⟨Nat.le_of_ble_eq_true rfl, Nat.le_of_ble_eq_true rfl⟩) (zpV hKX hP hD [1, 2] rfl rfl 1 6 rfl rfl) rfl rfl hl.1 rfl (lv_room (Nat.le_of_ble_eq_true rfl)) dX9_pay_41 ⟨(by first | exact Nat.le_of_ble_eq_true rfl | (show _ ≤ (44 : Nat); omega)), (by first | exact Nat.le_of_ble_eq_true rfl | (show _ ≤ (264 : Nat); omega))⟩) hP hD hS hA [1, 2] [0] rfl rfl rfl (by decide) (fun zz u_23 H locs hz hP hD hS => ?_)
  have hP : va_P G.1 vwCl [(x, .inr (10, [.ref ro, .ref rw, .ref bo, .ref li, .ref sh, .ref tx, .ref lo, .ref nl])), (rw, .inr (6, [.ref am, .ref q, .ref bq])), (am, zaL (G.2 0) 41 (f2))] H := hP
  have hD : va_D A [(x, .inr (10, [.ref ro, .ref rw, .ref bo, .ref li, .ref sh, .ref tx, .ref lo, .ref nl])), (rw, .inr (6, [.ref am, .ref q, .ref bq])), (am, zaL (G.2 0) 41 (f2))] := hD
  have hz : zz = f2 pe := hz
  rw [hQ]
  exact vx_ret (zr_lret (z := zz) (u := (f2)) hx hb hr hlocks hP hD hS (by first | exact Nat.le_of_ble_eq_true rfl | omega) (by first | exact Nat.le_of_ble_eq_true rfl | omega) dX9_pay_44 (show (0 ≤ pe ∧ pe ≤ 40 ∧ -1000000000 ≤ mo ∧ mo ≤ 1000000000) ∧ zamt (f pe + mo) ∧ zz = f pe + mo ∧ f2 = zup f pe (f pe + mo) from ⟨by omega, hft, by rw [hz, hfz, zup_s], hfz⟩))

def rm_c_X9_payMany : Room := { frames := 8, cells := 47, slots := 282, locals := 137 }
theorem iw_X9_payMany_X9 : ∀ w ∈ wsX90, w ∈ wsX9_payMany := by decide +kernel
set_option maxHeartbeats 1000000 in
set_option maxRecDepth 100000 in
theorem c_X9_payMany (l : Launch) (G : zG) (s1 : Nat) (s2 : Nat) (s3 : Nat) (x : Nat) (ro : Nat) (rw : Nat) (bo : Nat) (li : Nat) (sh : Nat) (tx : Nat) (lo : Nat) (nl : Nat) (am : Nat) (q : Nat) (bq : Nat) (f : Int → Int) (fr : Int) (mn : Int) (mo : Int) (se : Int) (hl0 : l.stackTraces = false) (r_fr : -2147483648 ≤ fr ∧ fr < 2147483648) (r_mn : -2147483648 ≤ mn ∧ mn < 2147483648) (r_mo : -9223372036854775808 ≤ mo ∧ mo < 9223372036854775808) (r_se : -9223372036854775808 ≤ se ∧ se < 9223372036854775808) (hf : zrok f) : zMt l (zXE s1 s2 s3) G yX9_payMany wsX9_payMany rm_c_X9_payMany [.ref x, .int (iz (fr)), .int (iz (mn)), .long (lz (mo)), .long (lz (se))] [(x, .inr (10, [.ref ro, .ref rw, .ref bo, .ref li, .ref sh, .ref tx, .ref lo, .ref nl])), (rw, .inr (6, [.ref am, .ref q, .ref bq])), (am, zaL (G.2 0) 41 (f))] (fun A => zQi G (fun (z : Int) (f2 : (Int → Int)) => (0 ≤ fr ∧ fr ≤ 40 ∧ 1 ≤ mn ∧ mn ≤ 41 ∧ -1000000000 ≤ mo ∧ mo ≤ 1000000000 ∧ -1000000 ≤ se ∧ se ≤ 1000000 ∧ fr + mn ≤ 41) ∧ (∀ j : Int, 0 ≤ j → j < mn → zamt (f (fr + j) + mo + j * se)) ∧ f2 = zadd f fr mn mo se ∧ z = zcnt f2 41) (fun (f2 : (Int → Int)) => [(x, .inr (10, [.ref ro, .ref rw, .ref bo, .ref li, .ref sh, .ref tx, .ref lo, .ref nl])), (rw, .inr (6, [.ref am, .ref q, .ref bq])), (am, zaL (G.2 0) 41 (f2))]) A) (SX := Unit) (fun (E9 : String) (ux : Unit) => (E9 = "java/lang/IllegalArgumentException" ∧ ¬ (0 ≤ fr ∧ fr ≤ 40 ∧ 1 ≤ mn ∧ mn ≤ 41 ∧ -1000000000 ≤ mo ∧ mo ≤ 1000000000 ∧ -1000000 ≤ se ∧ se ≤ 1000000 ∧ fr + mn ≤ 41)) ∨ (E9 = "java/lang/IllegalStateException" ∧ (0 ≤ fr ∧ fr ≤ 40 ∧ 1 ≤ mn ∧ mn ≤ 41 ∧ -1000000000 ≤ mo ∧ mo ≤ 1000000000 ∧ -1000000 ≤ se ∧ se ≤ 1000000 ∧ fr + mn ≤ 41) ∧ ¬ (∀ j : Int, 0 ≤ j → j < mn → zamt (f (fr + j) + mo + j * se)))) (fun (ux : Unit) => [(x, .inr (10, [.ref ro, .ref rw, .ref bo, .ref li, .ref sh, .ref tx, .ref lo, .ref nl])), (rw, .inr (6, [.ref am, .ref q, .ref bq])), (am, zaL (G.2 0) 41 (f))]) 47 282 := by
  refine zMt_of (cc := cX9_payMany) (maxL := 7) (ret := (some .int)) (by decide) rfl (Nat.le_of_ble_eq_true rfl) ?_
  intro p e s m below meth c ls A Q hQ hx hb hr hts hown hlocks hml hout hKX hE hP hD hA hS hl
  have hK := hKX.1
  have iwX9 := iw_X9_payMany_X9
  obtain ⟨H, hH⟩ : ∃ h, h = s.heap := ⟨_, rfl⟩
  obtain ⟨locs, hlo⟩ : ∃ h : List Loc, h = [] := ⟨_, rfl⟩
  have hS : va_S A s.heap H locs := by rw [hH, hlo]; exact hS
  have hP : va_P G.1 vwCl [(x, .inr (10, [.ref ro, .ref rw, .ref bo, .ref li, .ref sh, .ref tx, .ref lo, .ref nl])), (rw, .inr (6, [.ref am, .ref q, .ref bq])), (am, zaL (G.2 0) 41 (f))] H := by rw [hH]; exact hP
  have hD : va_D A [(x, .inr (10, [.ref ro, .ref rw, .ref bo, .ref li, .ref sh, .ref tx, .ref lo, .ref nl])), (rw, .inr (6, [.ref am, .ref q, .ref bq])), (am, zaL (G.2 0) 41 (f))] := hD
  have hl : lv_has ls 7 [(0, .ref x), (1, .int (iz (fr))), (2, .int (iz (mn))), (3, .long (lz (mo))), (5, .long (lz (se)))] := hl
  rw [← hH, ← hlo]
  refine lv_iload_n hx hb dX9_payMany_0 rfl (lv_at hl 1 rfl) ?_
  refine zr_i2l hx hb (x := fr) (⟨by omega, by omega⟩) dX9_payMany_1 ?_
  refine lv_lconst (v := lz (0)) hx hb dX9_payMany_2 rfl ?_
  refine zr_ldc2 (z := 40) hx hb hown (hts (.constantLong RX9 87 (40)) (by decide +kernel)) rfl dX9_payMany_3 ?_
  refine zc_z (wr := [(x, .inr (10, [.ref ro, .ref rw, .ref bo, .ref li, .ref sh, .ref tx, .ref lo, .ref nl])), (rw, .inr (6, [.ref am, .ref q, .ref bq])), (am, zaL (G.2 0) 41 (f))]) (va_runS (As := [.long (lz (fr)), .long (lz (0)), .long (lz (40))]) (rest := []) ⟨hx, hb, hml, hown, hts⟩ (c_X9_isWithin l G fr 0 40 (by omega) (by omega) (by omega) H.size) (va_cwS 3 hts gX9_payMany_X9_isWithin rfl rfl rfl (by decide +kernel) ⟨Nat.le_of_ble_eq_true rfl, Nat.le_of_ble_eq_true rfl⟩) (zpS hKX hP hD [] rfl rfl) rfl rfl hl.1 rfl (lv_room (Nat.le_of_ble_eq_true rfl)) dX9_payMany_6 ⟨(by first | exact Nat.le_of_ble_eq_true rfl | (show _ ≤ (47 : Nat); omega)), (by first | exact Nat.le_of_ble_eq_true rfl | (show _ ≤ (282 : Nat); omega))⟩) hP hD hS hA [] [0, 1, 2] rfl rfl rfl (by decide) (fun z_2 u_1 H locs hq_4 hP hD hS => ?_)
  have hP : va_P G.1 vwCl [(x, .inr (10, [.ref ro, .ref rw, .ref bo, .ref li, .ref sh, .ref tx, .ref lo, .ref nl])), (rw, .inr (6, [.ref am, .ref q, .ref bq])), (am, zaL (G.2 0) 41 (f))] H := hP
  have hD : va_D A [(x, .inr (10, [.ref ro, .ref rw, .ref bo, .ref li, .ref sh, .ref tx, .ref lo, .ref nl])), (rw, .inr (6, [.ref am, .ref q, .ref bq])), (am, zaL (G.2 0) 41 (f))] := hD
  have hq_4 : z_2 = decide ((0 : Int) ≤ fr ∧ fr ≤ (40 : Int)) := hq_4
  refine zct_v (wr := [(x, .inr (10, [.ref ro, .ref rw, .ref bo, .ref li, .ref sh, .ref tx, .ref lo, .ref nl])), (rw, .inr (6, [.ref am, .ref q, .ref bq])), (am, zaL (G.2 0) 41 (f))]) (vx_runS (As := [.int (iz (zbb z_2))]) (rest := []) ⟨hx, hb, hml, hown, hts⟩ (c_X9_demand_t l G s1 s2 s3 z_2 hl0 H.size) (va_cwS 1 hts gX9_payMany_X9_demand rfl rfl rfl (by decide +kernel) ⟨Nat.le_of_ble_eq_true rfl, Nat.le_of_ble_eq_true rfl⟩) (zpSe zXE_ok hE hS hA hKX hP hD [] rfl rfl) rfl rfl hl.1 rfl (lv_room (Nat.le_of_ble_eq_true rfl)) dX9_payMany_9 ⟨(by first | exact Nat.le_of_ble_eq_true rfl | (show _ ≤ (47 : Nat); omega)), (by first | exact Nat.le_of_ble_eq_true rfl | (show _ ≤ (282 : Nat); omega))⟩) hP hD hS hA [] [0, 1, 2] rfl rfl rfl (by decide) (fun E9 ce9 q9 ux_8 H locs hx9_9 hP hD hS hce9 hcv9 hcl9 => ?_) (fun u_7 H locs hq_6 hP hD hS => ?_)
  ·
    have hP : va_P G.1 vwCl [(x, .inr (10, [.ref ro, .ref rw, .ref bo, .ref li, .ref sh, .ref tx, .ref lo, .ref nl])), (rw, .inr (6, [.ref am, .ref q, .ref bq])), (am, zaL (G.2 0) 41 (f))] H := hP
    have hD : va_D A [(x, .inr (10, [.ref ro, .ref rw, .ref bo, .ref li, .ref sh, .ref tx, .ref lo, .ref nl])), (rw, .inr (6, [.ref am, .ref q, .ref bq])), (am, zaL (G.2 0) 41 (f))] := hD
    rcases hx9_9 with ⟨rfl, hxc⟩
    ·
      have hxc : z_2 = false := hxc
      have hzz_2 := of_decide_eq_false (hq_4.symm.trans hxc)
      rw [hQ]
      exact zt_out () hout hlocks hce9 hcv9 hcl9 hP hD hS (Or.inl ⟨rfl, (show ¬ (0 ≤ fr ∧ fr ≤ 40 ∧ 1 ≤ mn ∧ mn ≤ 41 ∧ -1000000000 ≤ mo ∧ mo ≤ 1000000000 ∧ -1000000 ≤ se ∧ se ≤ 1000000 ∧ fr + mn ≤ 41) from by first | exact hxc | omega)⟩) (by first | exact Nat.le_of_ble_eq_true rfl | omega) (by first | exact Nat.le_of_ble_eq_true rfl | omega)
  have hP : va_P G.1 vwCl [(x, .inr (10, [.ref ro, .ref rw, .ref bo, .ref li, .ref sh, .ref tx, .ref lo, .ref nl])), (rw, .inr (6, [.ref am, .ref q, .ref bq])), (am, zaL (G.2 0) 41 (f))] H := hP
  have hD : va_D A [(x, .inr (10, [.ref ro, .ref rw, .ref bo, .ref li, .ref sh, .ref tx, .ref lo, .ref nl])), (rw, .inr (6, [.ref am, .ref q, .ref bq])), (am, zaL (G.2 0) 41 (f))] := hD
  have hq_6 : z_2 = true := hq_6
  have hzz_2 := of_decide_eq_true (hq_4.symm.trans hq_6)
  refine lv_iload_n hx hb dX9_payMany_12 rfl (lv_at hl 2 rfl) ?_
  refine zr_i2l hx hb (x := mn) (⟨by omega, by omega⟩) dX9_payMany_13 ?_
  refine lv_lconst (v := lz (1)) hx hb dX9_payMany_14 rfl ?_
  refine zr_ldc2 (z := 41) hx hb hown (hts (.constantLong RX9 101 (41)) (by decide +kernel)) rfl dX9_payMany_15 ?_
  refine zc_z (wr := [(x, .inr (10, [.ref ro, .ref rw, .ref bo, .ref li, .ref sh, .ref tx, .ref lo, .ref nl])), (rw, .inr (6, [.ref am, .ref q, .ref bq])), (am, zaL (G.2 0) 41 (f))]) (va_runS (As := [.long (lz (mn)), .long (lz (1)), .long (lz (41))]) (rest := []) ⟨hx, hb, hml, hown, hts⟩ (c_X9_isWithin l G mn 1 41 (by omega) (by omega) (by omega) H.size) (va_cwS 3 hts gX9_payMany_X9_isWithin rfl rfl rfl (by decide +kernel) ⟨Nat.le_of_ble_eq_true rfl, Nat.le_of_ble_eq_true rfl⟩) (zpS hKX hP hD [] rfl rfl) rfl rfl hl.1 rfl (lv_room (Nat.le_of_ble_eq_true rfl)) dX9_payMany_18 ⟨(by first | exact Nat.le_of_ble_eq_true rfl | (show _ ≤ (47 : Nat); omega)), (by first | exact Nat.le_of_ble_eq_true rfl | (show _ ≤ (282 : Nat); omega))⟩) hP hD hS hA [] [0, 1, 2] rfl rfl rfl (by decide) (fun z_11 u_10 H locs hq_13 hP hD hS => ?_)
  have hP : va_P G.1 vwCl [(x, .inr (10, [.ref ro, .ref rw, .ref bo, .ref li, .ref sh, .ref tx, .ref lo, .ref nl])), (rw, .inr (6, [.ref am, .ref q, .ref bq])), (am, zaL (G.2 0) 41 (f))] H := hP
  have hD : va_D A [(x, .inr (10, [.ref ro, .ref rw, .ref bo, .ref li, .ref sh, .ref tx, .ref lo, .ref nl])), (rw, .inr (6, [.ref am, .ref q, .ref bq])), (am, zaL (G.2 0) 41 (f))] := hD
  have hq_13 : z_11 = decide ((1 : Int) ≤ mn ∧ mn ≤ (41 : Int)) := hq_13
  refine zct_v (wr := [(x, .inr (10, [.ref ro, .ref rw, .ref bo, .ref li, .ref sh, .ref tx, .ref lo, .ref nl])), (rw, .inr (6, [.ref am, .ref q, .ref bq])), (am, zaL (G.2 0) 41 (f))]) (vx_runS (As := [.int (iz (zbb z_11))]) (rest := []) ⟨hx, hb, hml, hown, hts⟩ (c_X9_demand_t l G s1 s2 s3 z_11 hl0 H.size) (va_cwS 1 hts gX9_payMany_X9_demand rfl rfl rfl (by decide +kernel) ⟨Nat.le_of_ble_eq_true rfl, Nat.le_of_ble_eq_true rfl⟩) (zpSe zXE_ok hE hS hA hKX hP hD [] rfl rfl) rfl rfl hl.1 rfl (lv_room (Nat.le_of_ble_eq_true rfl)) dX9_payMany_21 ⟨(by first | exact Nat.le_of_ble_eq_true rfl | (show _ ≤ (47 : Nat); omega)), (by first | exact Nat.le_of_ble_eq_true rfl | (show _ ≤ (282 : Nat); omega))⟩) hP hD hS hA [] [0, 1, 2] rfl rfl rfl (by decide) (fun E9 ce9 q9 ux_17 H locs hx9_18 hP hD hS hce9 hcv9 hcl9 => ?_) (fun u_16 H locs hq_15 hP hD hS => ?_)
  ·
    have hP : va_P G.1 vwCl [(x, .inr (10, [.ref ro, .ref rw, .ref bo, .ref li, .ref sh, .ref tx, .ref lo, .ref nl])), (rw, .inr (6, [.ref am, .ref q, .ref bq])), (am, zaL (G.2 0) 41 (f))] H := hP
    have hD : va_D A [(x, .inr (10, [.ref ro, .ref rw, .ref bo, .ref li, .ref sh, .ref tx, .ref lo, .ref nl])), (rw, .inr (6, [.ref am, .ref q, .ref bq])), (am, zaL (G.2 0) 41 (f))] := hD
    rcases hx9_18 with ⟨rfl, hxc⟩
    ·
      have hxc : z_11 = false := hxc
      have hzz_11 := of_decide_eq_false (hq_13.symm.trans hxc)
      rw [hQ]
      exact zt_out () hout hlocks hce9 hcv9 hcl9 hP hD hS (Or.inl ⟨rfl, (show ¬ (0 ≤ fr ∧ fr ≤ 40 ∧ 1 ≤ mn ∧ mn ≤ 41 ∧ -1000000000 ≤ mo ∧ mo ≤ 1000000000 ∧ -1000000 ≤ se ∧ se ≤ 1000000 ∧ fr + mn ≤ 41) from by first | exact hxc | omega)⟩) (by first | exact Nat.le_of_ble_eq_true rfl | omega) (by first | exact Nat.le_of_ble_eq_true rfl | omega)
  have hP : va_P G.1 vwCl [(x, .inr (10, [.ref ro, .ref rw, .ref bo, .ref li, .ref sh, .ref tx, .ref lo, .ref nl])), (rw, .inr (6, [.ref am, .ref q, .ref bq])), (am, zaL (G.2 0) 41 (f))] H := hP
  have hD : va_D A [(x, .inr (10, [.ref ro, .ref rw, .ref bo, .ref li, .ref sh, .ref tx, .ref lo, .ref nl])), (rw, .inr (6, [.ref am, .ref q, .ref bq])), (am, zaL (G.2 0) 41 (f))] := hD
  have hq_15 : z_11 = true := hq_15
  have hzz_11 := of_decide_eq_true (hq_13.symm.trans hq_15)
  refine lv_lload_n hx hb dX9_payMany_24 rfl (lv_at hl 3 rfl) ?_
  refine zr_ldc2 (z := -1000000000) hx hb hown (hts (.constantLong RX9 89 (-1000000000)) (by decide +kernel)) rfl dX9_payMany_25 ?_
  refine zr_ldc2 (z := 1000000000) hx hb hown (hts (.constantLong RX9 91 (1000000000)) (by decide +kernel)) rfl dX9_payMany_28 ?_
  refine zc_z (wr := [(x, .inr (10, [.ref ro, .ref rw, .ref bo, .ref li, .ref sh, .ref tx, .ref lo, .ref nl])), (rw, .inr (6, [.ref am, .ref q, .ref bq])), (am, zaL (G.2 0) 41 (f))]) (va_runS (As := [.long (lz (mo)), .long (lz (-1000000000)), .long (lz (1000000000))]) (rest := []) ⟨hx, hb, hml, hown, hts⟩ (c_X9_isWithin l G mo (-1000000000) 1000000000 (by omega) (by omega) (by omega) H.size) (va_cwS 3 hts gX9_payMany_X9_isWithin rfl rfl rfl (by decide +kernel) ⟨Nat.le_of_ble_eq_true rfl, Nat.le_of_ble_eq_true rfl⟩) (zpS hKX hP hD [] rfl rfl) rfl rfl hl.1 rfl (lv_room (Nat.le_of_ble_eq_true rfl)) dX9_payMany_31 ⟨(by first | exact Nat.le_of_ble_eq_true rfl | (show _ ≤ (47 : Nat); omega)), (by first | exact Nat.le_of_ble_eq_true rfl | (show _ ≤ (282 : Nat); omega))⟩) hP hD hS hA [] [0, 1, 2] rfl rfl rfl (by decide) (fun z_20 u_19 H locs hq_22 hP hD hS => ?_)
  have hP : va_P G.1 vwCl [(x, .inr (10, [.ref ro, .ref rw, .ref bo, .ref li, .ref sh, .ref tx, .ref lo, .ref nl])), (rw, .inr (6, [.ref am, .ref q, .ref bq])), (am, zaL (G.2 0) 41 (f))] H := hP
  have hD : va_D A [(x, .inr (10, [.ref ro, .ref rw, .ref bo, .ref li, .ref sh, .ref tx, .ref lo, .ref nl])), (rw, .inr (6, [.ref am, .ref q, .ref bq])), (am, zaL (G.2 0) 41 (f))] := hD
  have hq_22 : z_20 = decide ((-1000000000 : Int) ≤ mo ∧ mo ≤ (1000000000 : Int)) := hq_22
  refine zct_v (wr := [(x, .inr (10, [.ref ro, .ref rw, .ref bo, .ref li, .ref sh, .ref tx, .ref lo, .ref nl])), (rw, .inr (6, [.ref am, .ref q, .ref bq])), (am, zaL (G.2 0) 41 (f))]) (vx_runS (As := [.int (iz (zbb z_20))]) (rest := []) ⟨hx, hb, hml, hown, hts⟩ (c_X9_demand_t l G s1 s2 s3 z_20 hl0 H.size) (va_cwS 1 hts gX9_payMany_X9_demand rfl rfl rfl (by decide +kernel) ⟨Nat.le_of_ble_eq_true rfl, Nat.le_of_ble_eq_true rfl⟩) (zpSe zXE_ok hE hS hA hKX hP hD [] rfl rfl) rfl rfl hl.1 rfl (lv_room (Nat.le_of_ble_eq_true rfl)) dX9_payMany_34 ⟨(by first | exact Nat.le_of_ble_eq_true rfl | (show _ ≤ (47 : Nat); omega)), (by first | exact Nat.le_of_ble_eq_true rfl | (show _ ≤ (282 : Nat); omega))⟩) hP hD hS hA [] [0, 1, 2] rfl rfl rfl (by decide) (fun E9 ce9 q9 ux_26 H locs hx9_27 hP hD hS hce9 hcv9 hcl9 => ?_) (fun u_25 H locs hq_24 hP hD hS => ?_)
  ·
    have hP : va_P G.1 vwCl [(x, .inr (10, [.ref ro, .ref rw, .ref bo, .ref li, .ref sh, .ref tx, .ref lo, .ref nl])), (rw, .inr (6, [.ref am, .ref q, .ref bq])), (am, zaL (G.2 0) 41 (f))] H := hP
    have hD : va_D A [(x, .inr (10, [.ref ro, .ref rw, .ref bo, .ref li, .ref sh, .ref tx, .ref lo, .ref nl])), (rw, .inr (6, [.ref am, .ref q, .ref bq])), (am, zaL (G.2 0) 41 (f))] := hD
    rcases hx9_27 with ⟨rfl, hxc⟩
    ·
      have hxc : z_20 = false := hxc
      have hzz_20 := of_decide_eq_false (hq_22.symm.trans hxc)
      rw [hQ]
      exact zt_out () hout hlocks hce9 hcv9 hcl9 hP hD hS (Or.inl ⟨rfl, (show ¬ (0 ≤ fr ∧ fr ≤ 40 ∧ 1 ≤ mn ∧ mn ≤ 41 ∧ -1000000000 ≤ mo ∧ mo ≤ 1000000000 ∧ -1000000 ≤ se ∧ se ≤ 1000000 ∧ fr + mn ≤ 41) from by first | exact hxc | omega)⟩) (by first | exact Nat.le_of_ble_eq_true rfl | omega) (by first | exact Nat.le_of_ble_eq_true rfl | omega)
  have hP : va_P G.1 vwCl [(x, .inr (10, [.ref ro, .ref rw, .ref bo, .ref li, .ref sh, .ref tx, .ref lo, .ref nl])), (rw, .inr (6, [.ref am, .ref q, .ref bq])), (am, zaL (G.2 0) 41 (f))] H := hP
  have hD : va_D A [(x, .inr (10, [.ref ro, .ref rw, .ref bo, .ref li, .ref sh, .ref tx, .ref lo, .ref nl])), (rw, .inr (6, [.ref am, .ref q, .ref bq])), (am, zaL (G.2 0) 41 (f))] := hD
  have hq_24 : z_20 = true := hq_24
  have hzz_20 := of_decide_eq_true (hq_22.symm.trans hq_24)
  refine lv_lload hx hb dX9_payMany_37 (lv_at hl 4 rfl) ?_
  refine zr_ldc2 (z := -1000000) hx hb hown (hts (.constantLong RX9 103 (-1000000)) (by decide +kernel)) rfl dX9_payMany_39 ?_
  refine zr_ldc2 (z := 1000000) hx hb hown (hts (.constantLong RX9 105 (1000000)) (by decide +kernel)) rfl dX9_payMany_42 ?_
  refine zc_z (wr := [(x, .inr (10, [.ref ro, .ref rw, .ref bo, .ref li, .ref sh, .ref tx, .ref lo, .ref nl])), (rw, .inr (6, [.ref am, .ref q, .ref bq])), (am, zaL (G.2 0) 41 (f))]) (va_runS (As := [.long (lz (se)), .long (lz (-1000000)), .long (lz (1000000))]) (rest := []) ⟨hx, hb, hml, hown, hts⟩ (c_X9_isWithin l G se (-1000000) 1000000 (by omega) (by omega) (by omega) H.size) (va_cwS 3 hts gX9_payMany_X9_isWithin rfl rfl rfl (by decide +kernel) ⟨Nat.le_of_ble_eq_true rfl, Nat.le_of_ble_eq_true rfl⟩) (zpS hKX hP hD [] rfl rfl) rfl rfl hl.1 rfl (lv_room (Nat.le_of_ble_eq_true rfl)) dX9_payMany_45 ⟨(by first | exact Nat.le_of_ble_eq_true rfl | (show _ ≤ (47 : Nat); omega)), (by first | exact Nat.le_of_ble_eq_true rfl | (show _ ≤ (282 : Nat); omega))⟩) hP hD hS hA [] [0, 1, 2] rfl rfl rfl (by decide) (fun z_29 u_28 H locs hq_31 hP hD hS => ?_)
  have hP : va_P G.1 vwCl [(x, .inr (10, [.ref ro, .ref rw, .ref bo, .ref li, .ref sh, .ref tx, .ref lo, .ref nl])), (rw, .inr (6, [.ref am, .ref q, .ref bq])), (am, zaL (G.2 0) 41 (f))] H := hP
  have hD : va_D A [(x, .inr (10, [.ref ro, .ref rw, .ref bo, .ref li, .ref sh, .ref tx, .ref lo, .ref nl])), (rw, .inr (6, [.ref am, .ref q, .ref bq])), (am, zaL (G.2 0) 41 (f))] := hD
  have hq_31 : z_29 = decide ((-1000000 : Int) ≤ se ∧ se ≤ (1000000 : Int)) := hq_31
  refine zct_v (wr := [(x, .inr (10, [.ref ro, .ref rw, .ref bo, .ref li, .ref sh, .ref tx, .ref lo, .ref nl])), (rw, .inr (6, [.ref am, .ref q, .ref bq])), (am, zaL (G.2 0) 41 (f))]) (vx_runS (As := [.int (iz (zbb z_29))]) (rest := []) ⟨hx, hb, hml, hown, hts⟩ (c_X9_demand_t l G s1 s2 s3 z_29 hl0 H.size) (va_cwS 1 hts gX9_payMany_X9_demand rfl rfl rfl (by decide +kernel) ⟨Nat.le_of_ble_eq_true rfl, Nat.le_of_ble_eq_true rfl⟩) (zpSe zXE_ok hE hS hA hKX hP hD [] rfl rfl) rfl rfl hl.1 rfl (lv_room (Nat.le_of_ble_eq_true rfl)) dX9_payMany_48 ⟨(by first | exact Nat.le_of_ble_eq_true rfl | (show _ ≤ (47 : Nat); omega)), (by first | exact Nat.le_of_ble_eq_true rfl | (show _ ≤ (282 : Nat); omega))⟩) hP hD hS hA [] [0, 1, 2] rfl rfl rfl (by decide) (fun E9 ce9 q9 ux_35 H locs hx9_36 hP hD hS hce9 hcv9 hcl9 => ?_) (fun u_34 H locs hq_33 hP hD hS => ?_)
  ·
    have hP : va_P G.1 vwCl [(x, .inr (10, [.ref ro, .ref rw, .ref bo, .ref li, .ref sh, .ref tx, .ref lo, .ref nl])), (rw, .inr (6, [.ref am, .ref q, .ref bq])), (am, zaL (G.2 0) 41 (f))] H := hP
    have hD : va_D A [(x, .inr (10, [.ref ro, .ref rw, .ref bo, .ref li, .ref sh, .ref tx, .ref lo, .ref nl])), (rw, .inr (6, [.ref am, .ref q, .ref bq])), (am, zaL (G.2 0) 41 (f))] := hD
    rcases hx9_36 with ⟨rfl, hxc⟩
    ·
      have hxc : z_29 = false := hxc
      have hzz_29 := of_decide_eq_false (hq_31.symm.trans hxc)
      rw [hQ]
      exact zt_out () hout hlocks hce9 hcv9 hcl9 hP hD hS (Or.inl ⟨rfl, (show ¬ (0 ≤ fr ∧ fr ≤ 40 ∧ 1 ≤ mn ∧ mn ≤ 41 ∧ -1000000000 ≤ mo ∧ mo ≤ 1000000000 ∧ -1000000 ≤ se ∧ se ≤ 1000000 ∧ fr + mn ≤ 41) from by first | exact hxc | omega)⟩) (by first | exact Nat.le_of_ble_eq_true rfl | omega) (by first | exact Nat.le_of_ble_eq_true rfl | omega)
  have hP : va_P G.1 vwCl [(x, .inr (10, [.ref ro, .ref rw, .ref bo, .ref li, .ref sh, .ref tx, .ref lo, .ref nl])), (rw, .inr (6, [.ref am, .ref q, .ref bq])), (am, zaL (G.2 0) 41 (f))] H := hP
  have hD : va_D A [(x, .inr (10, [.ref ro, .ref rw, .ref bo, .ref li, .ref sh, .ref tx, .ref lo, .ref nl])), (rw, .inr (6, [.ref am, .ref q, .ref bq])), (am, zaL (G.2 0) 41 (f))] := hD
  have hq_33 : z_29 = true := hq_33
  have hzz_29 := of_decide_eq_true (hq_31.symm.trans hq_33)
  have hl_66 : ∀ (bq9 : Bool) (H : Heap) (locs : List Loc) (ls : Array Slot), (bq9 = decide (fr + mn ≤ 41)) → va_P G.1 vwCl [(x, .inr (10, [.ref ro, .ref rw, .ref bo, .ref li, .ref sh, .ref tx, .ref lo, .ref nl])), (rw, .inr (6, [.ref am, .ref q, .ref bq])), (am, zaL (G.2 0) 41 (f))] H → va_D A [(x, .inr (10, [.ref ro, .ref rw, .ref bo, .ref li, .ref sh, .ref tx, .ref lo, .ref nl])), (rw, .inr (6, [.ref am, .ref q, .ref bq])), (am, zaL (G.2 0) 41 (f))] → va_S A s.heap H locs → lv_has ls 7 [(0, .ref x), (1, .int (iz (fr))), (2, .int (iz (mn))), (3, .long (lz (mo))), (5, .long (lz (se)))] → W p l e rm_c_X9_payMany s m ([.ref x, .int (iz (fr)), .int (iz (mn)), .long (lz (mo)), .long (lz (se))] : List Value).toArray below meth c H locs (0 + 0 + 1 + 0 + 1 + 0 + 1 + 0 + 1) (0 + 0 + 6 + 0 + 6 + 0 + 6 + 0 + 6) Q (F0 m 66 ls [.int (iz (zbb bq9))]) := by
    intro bq9 H locs ls jq hP hD hS hl
    refine zct_v (wr := [(x, .inr (10, [.ref ro, .ref rw, .ref bo, .ref li, .ref sh, .ref tx, .ref lo, .ref nl])), (rw, .inr (6, [.ref am, .ref q, .ref bq])), (am, zaL (G.2 0) 41 (f))]) (vx_runS (As := [.int (iz (zbb bq9))]) (rest := []) ⟨hx, hb, hml, hown, hts⟩ (c_X9_demand_t l G s1 s2 s3 bq9 hl0 H.size) (va_cwS 1 hts gX9_payMany_X9_demand rfl rfl rfl (by decide +kernel) ⟨Nat.le_of_ble_eq_true rfl, Nat.le_of_ble_eq_true rfl⟩) (zpSe zXE_ok hE hS hA hKX hP hD [] rfl rfl) rfl rfl hl.1 rfl (lv_room (Nat.le_of_ble_eq_true rfl)) dX9_payMany_66 ⟨(by first | exact Nat.le_of_ble_eq_true rfl | (show _ ≤ (47 : Nat); omega)), (by first | exact Nat.le_of_ble_eq_true rfl | (show _ ≤ (282 : Nat); omega))⟩) hP hD hS hA [] [0, 1, 2] rfl rfl rfl (by decide) (fun E9 ce9 q9 ux_39 H locs hx9_40 hP hD hS hce9 hcv9 hcl9 => ?_) (fun u_38 H locs td hP hD hS => ?_)
    ·
      have hP : va_P G.1 vwCl [(x, .inr (10, [.ref ro, .ref rw, .ref bo, .ref li, .ref sh, .ref tx, .ref lo, .ref nl])), (rw, .inr (6, [.ref am, .ref q, .ref bq])), (am, zaL (G.2 0) 41 (f))] H := hP
      have hD : va_D A [(x, .inr (10, [.ref ro, .ref rw, .ref bo, .ref li, .ref sh, .ref tx, .ref lo, .ref nl])), (rw, .inr (6, [.ref am, .ref q, .ref bq])), (am, zaL (G.2 0) 41 (f))] := hD
      rcases hx9_40 with ⟨rfl, hxc⟩
      ·
        have hxc : bq9 = false := hxc
        rw [hQ]
        exact zt_out () hout hlocks hce9 hcv9 hcl9 hP hD hS (Or.inl ⟨rfl, (show ¬ (0 ≤ fr ∧ fr ≤ 40 ∧ 1 ≤ mn ∧ mn ≤ 41 ∧ -1000000000 ≤ mo ∧ mo ≤ 1000000000 ∧ -1000000 ≤ se ∧ se ≤ 1000000 ∧ fr + mn ≤ 41) from by have := of_decide_eq_false (jq.symm.trans hxc); omega)⟩) (by first | exact Nat.le_of_ble_eq_true rfl | omega) (by first | exact Nat.le_of_ble_eq_true rfl | omega)
    have hP : va_P G.1 vwCl [(x, .inr (10, [.ref ro, .ref rw, .ref bo, .ref li, .ref sh, .ref tx, .ref lo, .ref nl])), (rw, .inr (6, [.ref am, .ref q, .ref bq])), (am, zaL (G.2 0) 41 (f))] H := hP
    have hD : va_D A [(x, .inr (10, [.ref ro, .ref rw, .ref bo, .ref li, .ref sh, .ref tx, .ref lo, .ref nl])), (rw, .inr (6, [.ref am, .ref q, .ref bq])), (am, zaL (G.2 0) 41 (f))] := hD
    have td : bq9 = true := td
    have hfm : fr + mn ≤ 41 := of_decide_eq_true (jq.symm.trans td)
    refine lv_aload_n hx hb dX9_payMany_69 rfl (lv_at hl 0 rfl) ?_
    refine va_get (D := G.1) (ci := 10) (v := .ref rw) (C := RX9) (T := TX9) (N := 8) hx hb hts iwX9 hown hK hP 0 rfl rfl 1 (by decide) (hts (.fieldLink RX9 19 "AnnuityHouse" "row" "LAnnuityHouse$Row;") (by decide +kernel)) (fun _ h9 => h9) rfl dX9_payMany_70 ?_
    refine lv_iload_n hx hb dX9_payMany_73 rfl (lv_at hl 1 rfl) ?_
    refine lv_iload_n hx hb dX9_payMany_74 rfl (lv_at hl 2 rfl) ?_
    refine lv_lload_n hx hb dX9_payMany_75 rfl (lv_at hl 3 rfl) ?_
    refine lv_lload hx hb dX9_payMany_76 (lv_at hl 4 rfl) ?_
    refine zct_v (wr := [(x, .inr (10, [.ref ro, .ref rw, .ref bo, .ref li, .ref sh, .ref tx, .ref lo, .ref nl]))]) (vx_runV (As := [.int (iz (fr)), .int (iz (mn)), .long (lz (mo)), .long (lz (se))]) (rest := []) ⟨hx, hb, hml, hown, hts⟩ (c_X5_add l G s1 s2 s3 rw am q bq f fr mn mo se hl0 (by omega) (by omega) H.size) (cwV 4 hts gX9_payMany_X5_add rfl rfl rfl (by decide +kernel) ⟨Nat.le_of_ble_eq_true rfl, Nat.le_of_ble_eq_true rfl⟩) (zpVe zXE_ok hE hS hA hKX hP hD [1, 2] rfl rfl (va_recv hK hP (ci := 6) (q0 := 1) rfl rfl)) rfl rfl hl.1 rfl (lv_room (Nat.le_of_ble_eq_true rfl)) dX9_payMany_78 ⟨(by first | exact Nat.le_of_ble_eq_true rfl | (show _ ≤ (47 : Nat); omega)), (by first | exact Nat.le_of_ble_eq_true rfl | (show _ ≤ (282 : Nat); omega))⟩) hP hD hS hA [1, 2] [0] rfl rfl rfl (by decide) (fun E9 ce9 q9 ux_43 H locs hx9_44 hP hD hS hce9 hcv9 hcl9 => ?_) (fun u_42 H locs hf2 hP hD hS => ?_)
    ·
      have hP : va_P G.1 vwCl [(x, .inr (10, [.ref ro, .ref rw, .ref bo, .ref li, .ref sh, .ref tx, .ref lo, .ref nl])), (rw, .inr (6, [.ref am, .ref q, .ref bq])), (am, zaL (G.2 0) 41 (f))] H := hP
      have hD : va_D A [(x, .inr (10, [.ref ro, .ref rw, .ref bo, .ref li, .ref sh, .ref tx, .ref lo, .ref nl])), (rw, .inr (6, [.ref am, .ref q, .ref bq])), (am, zaL (G.2 0) 41 (f))] := hD
      rcases hx9_44 with ⟨rfl, hxc⟩
      ·
        have hxc : ¬ (∀ j : Int, 0 ≤ j → j < mn → zamt (f (fr + j) + mo + j * se)) := hxc
        rw [hQ]
        exact zt_out () hout hlocks hce9 hcv9 hcl9 hP hD hS (Or.inr ⟨rfl, (show (0 ≤ fr ∧ fr ≤ 40 ∧ 1 ≤ mn ∧ mn ≤ 41 ∧ -1000000000 ≤ mo ∧ mo ≤ 1000000000 ∧ -1000000 ≤ se ∧ se ≤ 1000000 ∧ fr + mn ≤ 41) ∧ ¬ (∀ j : Int, 0 ≤ j → j < mn → zamt (f (fr + j) + mo + j * se)) from ⟨by omega, hxc⟩)⟩) (by first | exact Nat.le_of_ble_eq_true rfl | omega) (by first | exact Nat.le_of_ble_eq_true rfl | omega)
    generalize u_42 = f2 at hP hD hf2
    have hP : va_P G.1 vwCl [(x, .inr (10, [.ref ro, .ref rw, .ref bo, .ref li, .ref sh, .ref tx, .ref lo, .ref nl])), (rw, .inr (6, [.ref am, .ref q, .ref bq])), (am, zaL (G.2 0) 41 (f2))] H := hP
    have hD : va_D A [(x, .inr (10, [.ref ro, .ref rw, .ref bo, .ref li, .ref sh, .ref tx, .ref lo, .ref nl])), (rw, .inr (6, [.ref am, .ref q, .ref bq])), (am, zaL (G.2 0) 41 (f2))] := hD
    have hf2 : (∀ j : Int, 0 ≤ j → j < mn → zamt (f (fr + j) + mo + j * se)) ∧ ∀ i, f2 i = zadd f fr mn mo se i := hf2
    have hfz : f2 = zadd f fr mn mo se := funext hf2.2
    have hok2 : zrok f2 := by rw [hfz]; exact zrok_add hf (by omega) hf2.1
    refine lv_aload_n hx hb dX9_payMany_81 rfl (lv_at hl 0 rfl) ?_
    refine va_get (D := G.1) (ci := 10) (v := .ref rw) (C := RX9) (T := TX9) (N := 8) hx hb hts iwX9 hown hK hP 0 rfl rfl 1 (by decide) (hts (.fieldLink RX9 19 "AnnuityHouse" "row" "LAnnuityHouse$Row;") (by decide +kernel)) (fun _ h9 => h9) rfl dX9_payMany_82 ?_
    refine zc_i (wr := [(x, .inr (10, [.ref ro, .ref rw, .ref bo, .ref li, .ref sh, .ref tx, .ref lo, .ref nl]))]) (va_runV (As := []) (rest := []) ⟨hx, hb, hml, hown, hts⟩ (c_X5_countPaying l G rw am q bq f2 (hok2) H.size) (cwV 0 hts gX9_payMany_X5_countPaying rfl rfl rfl (by decide +kernel) ⟨Nat.le_of_ble_eq_true rfl, Nat.le_of_ble_eq_true rfl⟩) (zpV hKX hP hD [1, 2] rfl rfl 1 6 rfl rfl) rfl rfl hl.1 rfl (lv_room (Nat.le_of_ble_eq_true rfl)) dX9_payMany_85 ⟨(by first | exact Nat.le_of_ble_eq_true rfl | (show _ ≤ (47 : Nat); omega)), (by first | exact Nat.le_of_ble_eq_true rfl | (show _ ≤ (282 : Nat); omega))⟩) hP hD hS hA [1, 2] [0] rfl rfl rfl (by decide) (fun zz u_45 H locs hz hP hD hS => ?_)
    have hP : va_P G.1 vwCl [(x, .inr (10, [.ref ro, .ref rw, .ref bo, .ref li, .ref sh, .ref tx, .ref lo, .ref nl])), (rw, .inr (6, [.ref am, .ref q, .ref bq])), (am, zaL (G.2 0) 41 (f2))] H := hP
    have hD : va_D A [(x, .inr (10, [.ref ro, .ref rw, .ref bo, .ref li, .ref sh, .ref tx, .ref lo, .ref nl])), (rw, .inr (6, [.ref am, .ref q, .ref bq])), (am, zaL (G.2 0) 41 (f2))] := hD
    have hz : zz = zcnt f2 41 ∧ 0 ≤ zz ∧ zz ≤ 41 := hz
    rw [hQ]
    exact vx_ret (zr_iret (z := zz) (u := (f2)) hx hb hr hlocks hP hD hS (by first | exact Nat.le_of_ble_eq_true rfl | omega) (by first | exact Nat.le_of_ble_eq_true rfl | omega) dX9_payMany_88 (show (0 ≤ fr ∧ fr ≤ 40 ∧ 1 ≤ mn ∧ mn ≤ 41 ∧ -1000000000 ≤ mo ∧ mo ≤ 1000000000 ∧ -1000000 ≤ se ∧ se ≤ 1000000 ∧ fr + mn ≤ 41) ∧ (∀ j : Int, 0 ≤ j → j < mn → zamt (f (fr + j) + mo + j * se)) ∧ f2 = zadd f fr mn mo se ∧ zz = zcnt f2 41 from ⟨by omega, hf2.1, hfz, hz.1⟩))
  refine lv_iload_n hx hb dX9_payMany_51 rfl (lv_at hl 1 rfl) ?_
  refine lv_iload_n hx hb dX9_payMany_52 rfl (lv_at hl 2 rfl) ?_
  refine zr_iadd hx hb dX9_payMany_53 ?_
  refine lv_iconst (v := iz (1)) hx hb dX9_payMany_54 rfl ?_
  refine zr_isub hx hb dX9_payMany_55 ?_
  refine lv_bipush (v := iz (40)) hx hb dX9_payMany_56 rfl ?_
  refine zr_icmp_gt (x := (fr + mn) - 1) (y := 40) (tgt := 65) hx hb (⟨by omega, by omega⟩) (⟨by omega, by omega⟩) dX9_payMany_58 (by decide) (fun h_47 => ?_) (fun h_47 => ?_)
  ·
    refine lv_iconst (v := iz (0)) hx hb dX9_payMany_65 rfl ?_
    exact hl_66 false _ _ _ (by first | exact (decide_eq_true (by omega)).symm | exact (decide_eq_false (by omega)).symm) (hP) (hD) hS (hl)
  ·
    refine lv_iconst (v := iz (1)) hx hb dX9_payMany_61 rfl ?_
    refine lv_goto (tgt := 66) hx hb dX9_payMany_62 (by decide) ?_
    exact hl_66 true _ _ _ (by first | exact (decide_eq_true (by omega)).symm | exact (decide_eq_false (by omega)).symm) (hP) (hD) hS (hl)

def rm_c_X9_clearRow : Room := { frames := 2, cells := 0, slots := 0, locals := 44 }
theorem iw_X9_clearRow_X9 : ∀ w ∈ wsX90, w ∈ wsX9_clearRow := by decide +kernel
set_option maxHeartbeats 1000000 in
set_option maxRecDepth 100000 in
theorem c_X9_clearRow (l : Launch) (G : zG) (x : Nat) (ro : Nat) (rw : Nat) (bo : Nat) (li : Nat) (sh : Nat) (tx : Nat) (lo : Nat) (nl : Nat) (am : Nat) (q : Nat) (bq : Nat) (f : Int → Int) (hf : zrok f) : zM l G yX9_clearRow wsX9_clearRow rm_c_X9_clearRow [.ref x] [(x, .inr (10, [.ref ro, .ref rw, .ref bo, .ref li, .ref sh, .ref tx, .ref lo, .ref nl])), (rw, .inr (6, [.ref am, .ref q, .ref bq])), (am, zaL (G.2 0) 41 (f))] (fun A => zQi G (fun (z : Int) (f2 : (Int → Int)) => z = zcnt f 41 ∧ ∀ i : Int, 0 ≤ i → i ≤ 40 → f2 i = 0) (fun (f2 : (Int → Int)) => [(x, .inr (10, [.ref ro, .ref rw, .ref bo, .ref li, .ref sh, .ref tx, .ref lo, .ref nl])), (rw, .inr (6, [.ref am, .ref q, .ref bq])), (am, zaL (G.2 0) 41 (f2))]) A) 0 0 := by
  refine zM_of (cc := cX9_clearRow) (maxL := 2) (ret := (some .int)) (by decide) rfl (Nat.le_of_ble_eq_true rfl) ?_
  intro p e s m below meth c ls A Q hQ hx hb hr hts hown hlocks hml hnm hKX hP hD hA hS hl
  have hK := hKX.1
  have iwX9 := iw_X9_clearRow_X9
  obtain ⟨H, hH⟩ : ∃ h, h = s.heap := ⟨_, rfl⟩
  obtain ⟨locs, hlo⟩ : ∃ h : List Loc, h = [] := ⟨_, rfl⟩
  have hS : va_S A s.heap H locs := by rw [hH, hlo]; exact hS
  have hP : va_P G.1 vwCl [(x, .inr (10, [.ref ro, .ref rw, .ref bo, .ref li, .ref sh, .ref tx, .ref lo, .ref nl])), (rw, .inr (6, [.ref am, .ref q, .ref bq])), (am, zaL (G.2 0) 41 (f))] H := by rw [hH]; exact hP
  have hD : va_D A [(x, .inr (10, [.ref ro, .ref rw, .ref bo, .ref li, .ref sh, .ref tx, .ref lo, .ref nl])), (rw, .inr (6, [.ref am, .ref q, .ref bq])), (am, zaL (G.2 0) 41 (f))] := hD
  have hl : lv_has ls 2 [(0, .ref x)] := hl
  rw [← hH, ← hlo]
  refine lv_aload_n hx hb dX9_clearRow_0 rfl (lv_at hl 0 rfl) ?_
  refine va_get (D := G.1) (ci := 10) (v := .ref rw) (C := RX9) (T := TX9) (N := 8) hx hb hts iwX9 hown hK hP 0 rfl rfl 1 (by decide) (hts (.fieldLink RX9 19 "AnnuityHouse" "row" "LAnnuityHouse$Row;") (by decide +kernel)) (fun _ h9 => h9) rfl dX9_clearRow_1 ?_
  refine zc_i (wr := [(x, .inr (10, [.ref ro, .ref rw, .ref bo, .ref li, .ref sh, .ref tx, .ref lo, .ref nl]))]) (va_runV (As := []) (rest := []) ⟨hx, hb, hml, hown, hts⟩ (c_X5_countPaying l G rw am q bq f (by omega) H.size) (cwV 0 hts gX9_clearRow_X5_countPaying rfl rfl rfl (by decide +kernel) ⟨Nat.le_of_ble_eq_true rfl, Nat.le_of_ble_eq_true rfl⟩) (zpV hKX hP hD [1, 2] rfl rfl 1 6 rfl rfl) rfl rfl hl.1 rfl (lv_room (Nat.le_of_ble_eq_true rfl)) dX9_clearRow_4 ⟨(by first | exact Nat.le_of_ble_eq_true rfl | (show _ ≤ (0 : Nat); omega)), (by first | exact Nat.le_of_ble_eq_true rfl | (show _ ≤ (0 : Nat); omega))⟩) hP hD hS hA [1, 2] [0] rfl rfl rfl (by decide) (fun zz u_1 H locs hz hP hD hS => ?_)
  have hP : va_P G.1 vwCl [(x, .inr (10, [.ref ro, .ref rw, .ref bo, .ref li, .ref sh, .ref tx, .ref lo, .ref nl])), (rw, .inr (6, [.ref am, .ref q, .ref bq])), (am, zaL (G.2 0) 41 (f))] H := hP
  have hD : va_D A [(x, .inr (10, [.ref ro, .ref rw, .ref bo, .ref li, .ref sh, .ref tx, .ref lo, .ref nl])), (rw, .inr (6, [.ref am, .ref q, .ref bq])), (am, zaL (G.2 0) 41 (f))] := hD
  have hz : zz = zcnt f 41 ∧ 0 ≤ zz ∧ zz ≤ 41 := hz
  refine lv_istore_n (lv' := [(1, .int (iz (zz))), (0, .ref x)]) hx hb dX9_clearRow_7 rfl hl (by decide) rfl (fun ls hl => ?_)
  refine lv_aload_n hx hb dX9_clearRow_8 rfl (lv_at hl 1 rfl) ?_
  refine va_get (D := G.1) (ci := 10) (v := .ref rw) (C := RX9) (T := TX9) (N := 8) hx hb hts iwX9 hown hK hP 0 rfl rfl 1 (by decide) (hts (.fieldLink RX9 19 "AnnuityHouse" "row" "LAnnuityHouse$Row;") (by decide +kernel)) (fun _ h9 => h9) rfl dX9_clearRow_9 ?_
  refine zc_v (wr := [(x, .inr (10, [.ref ro, .ref rw, .ref bo, .ref li, .ref sh, .ref tx, .ref lo, .ref nl]))]) (va_runV (As := []) (rest := []) ⟨hx, hb, hml, hown, hts⟩ (c_X5_clear l G rw am q bq f  H.size) (cwV 0 hts gX9_clearRow_X5_clear rfl rfl rfl (by decide +kernel) ⟨Nat.le_of_ble_eq_true rfl, Nat.le_of_ble_eq_true rfl⟩) (zpV hKX hP hD [1, 2] rfl rfl 1 6 rfl rfl) rfl rfl hl.1 rfl (lv_room (Nat.le_of_ble_eq_true rfl)) dX9_clearRow_12 ⟨(by first | exact Nat.le_of_ble_eq_true rfl | (show _ ≤ (0 : Nat); omega)), (by first | exact Nat.le_of_ble_eq_true rfl | (show _ ≤ (0 : Nat); omega))⟩) hP hD hS hA [1, 2] [0] rfl rfl rfl (by decide) (fun u_3 H locs t1 hP hD hS => ?_)
  generalize u_3 = f2 at hP hD t1
  have hP : va_P G.1 vwCl [(x, .inr (10, [.ref ro, .ref rw, .ref bo, .ref li, .ref sh, .ref tx, .ref lo, .ref nl])), (rw, .inr (6, [.ref am, .ref q, .ref bq])), (am, zaL (G.2 0) 41 (f2))] H := hP
  have hD : va_D A [(x, .inr (10, [.ref ro, .ref rw, .ref bo, .ref li, .ref sh, .ref tx, .ref lo, .ref nl])), (rw, .inr (6, [.ref am, .ref q, .ref bq])), (am, zaL (G.2 0) 41 (f2))] := hD
  have t1 : ∀ i : Int, 0 ≤ i → i ≤ 40 → f2 i = 0 := t1
  refine lv_iload_n hx hb dX9_clearRow_15 rfl (lv_at hl 0 rfl) ?_
  rw [hQ]
  exact zr_iret (z := zz) (u := (f2)) hx hb hr hlocks hP hD hS (by first | exact Nat.le_of_ble_eq_true rfl | omega) (by first | exact Nat.le_of_ble_eq_true rfl | omega) dX9_clearRow_16 (show zz = zcnt f 41 ∧ ∀ i : Int, 0 ≤ i → i ≤ 40 → f2 i = 0 from ⟨hz.1, t1⟩)

def rm_c_X9_amount : Room := { frames := 7, cells := 1, slots := 6, locals := 110 }
theorem iw_X9_amount_X9 : ∀ w ∈ wsX90, w ∈ wsX9_amount := by decide +kernel
set_option maxHeartbeats 1000000 in
set_option maxRecDepth 100000 in
theorem c_X9_amount (l : Launch) (G : zG) (s1 : Nat) (s2 : Nat) (s3 : Nat) (x : Nat) (ro : Nat) (rw : Nat) (bo : Nat) (li : Nat) (sh : Nat) (tx : Nat) (lo : Nat) (nl : Nat) (am : Nat) (q : Nat) (bq : Nat) (f : Int → Int) (pe : Int) (hl0 : l.stackTraces = false) (r_pe : -2147483648 ≤ pe ∧ pe < 2147483648) : zMt l (zXE s1 s2 s3) G yX9_amount wsX9_amount rm_c_X9_amount [.ref x, .int (iz (pe))] [(x, .inr (10, [.ref ro, .ref rw, .ref bo, .ref li, .ref sh, .ref tx, .ref lo, .ref nl])), (rw, .inr (6, [.ref am, .ref q, .ref bq])), (am, zaL (G.2 0) 41 (f))] (fun A => zQl G (fun (z : Int) (_ : Unit) => (0 ≤ pe ∧ pe ≤ 40) ∧ z = f pe) (fun (_ : Unit) => [(x, .inr (10, [.ref ro, .ref rw, .ref bo, .ref li, .ref sh, .ref tx, .ref lo, .ref nl])), (rw, .inr (6, [.ref am, .ref q, .ref bq])), (am, zaL (G.2 0) 41 (f))]) A) (SX := Unit) (fun (E9 : String) (ux : Unit) => (E9 = "java/lang/IllegalArgumentException" ∧ ¬ (0 ≤ pe ∧ pe ≤ 40))) (fun (ux : Unit) => [(x, .inr (10, [.ref ro, .ref rw, .ref bo, .ref li, .ref sh, .ref tx, .ref lo, .ref nl])), (rw, .inr (6, [.ref am, .ref q, .ref bq])), (am, zaL (G.2 0) 41 (f))]) 1 6 := by
  refine zMt_of (cc := cX9_amount) (maxL := 2) (ret := (some .long)) (by decide) rfl (Nat.le_of_ble_eq_true rfl) ?_
  intro p e s m below meth c ls A Q hQ hx hb hr hts hown hlocks hml hout hKX hE hP hD hA hS hl
  have hK := hKX.1
  have iwX9 := iw_X9_amount_X9
  obtain ⟨H, hH⟩ : ∃ h, h = s.heap := ⟨_, rfl⟩
  obtain ⟨locs, hlo⟩ : ∃ h : List Loc, h = [] := ⟨_, rfl⟩
  have hS : va_S A s.heap H locs := by rw [hH, hlo]; exact hS
  have hP : va_P G.1 vwCl [(x, .inr (10, [.ref ro, .ref rw, .ref bo, .ref li, .ref sh, .ref tx, .ref lo, .ref nl])), (rw, .inr (6, [.ref am, .ref q, .ref bq])), (am, zaL (G.2 0) 41 (f))] H := by rw [hH]; exact hP
  have hD : va_D A [(x, .inr (10, [.ref ro, .ref rw, .ref bo, .ref li, .ref sh, .ref tx, .ref lo, .ref nl])), (rw, .inr (6, [.ref am, .ref q, .ref bq])), (am, zaL (G.2 0) 41 (f))] := hD
  have hl : lv_has ls 2 [(0, .ref x), (1, .int (iz (pe)))] := hl
  rw [← hH, ← hlo]
  refine lv_iload_n hx hb dX9_amount_0 rfl (lv_at hl 1 rfl) ?_
  refine zr_i2l hx hb (x := pe) (⟨by omega, by omega⟩) dX9_amount_1 ?_
  refine lv_lconst (v := lz (0)) hx hb dX9_amount_2 rfl ?_
  refine zr_ldc2 (z := 40) hx hb hown (hts (.constantLong RX9 87 (40)) (by decide +kernel)) rfl dX9_amount_3 ?_
  refine zc_z (wr := [(x, .inr (10, [.ref ro, .ref rw, .ref bo, .ref li, .ref sh, .ref tx, .ref lo, .ref nl])), (rw, .inr (6, [.ref am, .ref q, .ref bq])), (am, zaL (G.2 0) 41 (f))]) (va_runS (As := [.long (lz (pe)), .long (lz (0)), .long (lz (40))]) (rest := []) ⟨hx, hb, hml, hown, hts⟩ (c_X9_isWithin l G pe 0 40 (by omega) (by omega) (by omega) H.size) (va_cwS 3 hts gX9_amount_X9_isWithin rfl rfl rfl (by decide +kernel) ⟨Nat.le_of_ble_eq_true rfl, Nat.le_of_ble_eq_true rfl⟩) (zpS hKX hP hD [] rfl rfl) rfl rfl hl.1 rfl (lv_room (Nat.le_of_ble_eq_true rfl)) dX9_amount_6 ⟨(by first | exact Nat.le_of_ble_eq_true rfl | (show _ ≤ (1 : Nat); omega)), (by first | exact Nat.le_of_ble_eq_true rfl | (show _ ≤ (6 : Nat); omega))⟩) hP hD hS hA [] [0, 1, 2] rfl rfl rfl (by decide) (fun z_2 u_1 H locs hq_4 hP hD hS => ?_)
  have hP : va_P G.1 vwCl [(x, .inr (10, [.ref ro, .ref rw, .ref bo, .ref li, .ref sh, .ref tx, .ref lo, .ref nl])), (rw, .inr (6, [.ref am, .ref q, .ref bq])), (am, zaL (G.2 0) 41 (f))] H := hP
  have hD : va_D A [(x, .inr (10, [.ref ro, .ref rw, .ref bo, .ref li, .ref sh, .ref tx, .ref lo, .ref nl])), (rw, .inr (6, [.ref am, .ref q, .ref bq])), (am, zaL (G.2 0) 41 (f))] := hD
  have hq_4 : z_2 = decide ((0 : Int) ≤ pe ∧ pe ≤ (40 : Int)) := hq_4
  refine zct_v (wr := [(x, .inr (10, [.ref ro, .ref rw, .ref bo, .ref li, .ref sh, .ref tx, .ref lo, .ref nl])), (rw, .inr (6, [.ref am, .ref q, .ref bq])), (am, zaL (G.2 0) 41 (f))]) (vx_runS (As := [.int (iz (zbb z_2))]) (rest := []) ⟨hx, hb, hml, hown, hts⟩ (c_X9_demand_t l G s1 s2 s3 z_2 hl0 H.size) (va_cwS 1 hts gX9_amount_X9_demand rfl rfl rfl (by decide +kernel) ⟨Nat.le_of_ble_eq_true rfl, Nat.le_of_ble_eq_true rfl⟩) (zpSe zXE_ok hE hS hA hKX hP hD [] rfl rfl) rfl rfl hl.1 rfl (lv_room (Nat.le_of_ble_eq_true rfl)) dX9_amount_9 ⟨(by first | exact Nat.le_of_ble_eq_true rfl | (show _ ≤ (1 : Nat); omega)), (by first | exact Nat.le_of_ble_eq_true rfl | (show _ ≤ (6 : Nat); omega))⟩) hP hD hS hA [] [0, 1, 2] rfl rfl rfl (by decide) (fun E9 ce9 q9 ux_8 H locs hx9_9 hP hD hS hce9 hcv9 hcl9 => ?_) (fun u_7 H locs hq_6 hP hD hS => ?_)
  ·
    have hP : va_P G.1 vwCl [(x, .inr (10, [.ref ro, .ref rw, .ref bo, .ref li, .ref sh, .ref tx, .ref lo, .ref nl])), (rw, .inr (6, [.ref am, .ref q, .ref bq])), (am, zaL (G.2 0) 41 (f))] H := hP
    have hD : va_D A [(x, .inr (10, [.ref ro, .ref rw, .ref bo, .ref li, .ref sh, .ref tx, .ref lo, .ref nl])), (rw, .inr (6, [.ref am, .ref q, .ref bq])), (am, zaL (G.2 0) 41 (f))] := hD
    rcases hx9_9 with ⟨rfl, hxc⟩
    ·
      have hxc : z_2 = false := hxc
      have hzz_2 := of_decide_eq_false (hq_4.symm.trans hxc)
      rw [hQ]
      exact zt_out () hout hlocks hce9 hcv9 hcl9 hP hD hS ⟨rfl, (show ¬ (0 ≤ pe ∧ pe ≤ 40) from by first | exact hxc | omega)⟩ (by first | exact Nat.le_of_ble_eq_true rfl | omega) (by first | exact Nat.le_of_ble_eq_true rfl | omega)
  have hP : va_P G.1 vwCl [(x, .inr (10, [.ref ro, .ref rw, .ref bo, .ref li, .ref sh, .ref tx, .ref lo, .ref nl])), (rw, .inr (6, [.ref am, .ref q, .ref bq])), (am, zaL (G.2 0) 41 (f))] H := hP
  have hD : va_D A [(x, .inr (10, [.ref ro, .ref rw, .ref bo, .ref li, .ref sh, .ref tx, .ref lo, .ref nl])), (rw, .inr (6, [.ref am, .ref q, .ref bq])), (am, zaL (G.2 0) 41 (f))] := hD
  have hq_6 : z_2 = true := hq_6
  have hzz_2 := of_decide_eq_true (hq_4.symm.trans hq_6)
  refine lv_aload_n hx hb dX9_amount_12 rfl (lv_at hl 0 rfl) ?_
  refine va_get (D := G.1) (ci := 10) (v := .ref rw) (C := RX9) (T := TX9) (N := 8) hx hb hts iwX9 hown hK hP 0 rfl rfl 1 (by decide) (hts (.fieldLink RX9 19 "AnnuityHouse" "row" "LAnnuityHouse$Row;") (by decide +kernel)) (fun _ h9 => h9) rfl dX9_amount_13 ?_
  refine lv_iload_n hx hb dX9_amount_16 rfl (lv_at hl 1 rfl) ?_
  refine zc_l (wr := [(x, .inr (10, [.ref ro, .ref rw, .ref bo, .ref li, .ref sh, .ref tx, .ref lo, .ref nl]))]) (va_runV (As := [.int (iz (pe))]) (rest := []) ⟨hx, hb, hml, hown, hts⟩ (c_X5_amountIn l G rw am q bq f pe (by omega) H.size) (cwV 1 hts gX9_amount_X5_amountIn rfl rfl rfl (by decide +kernel) ⟨Nat.le_of_ble_eq_true rfl, Nat.le_of_ble_eq_true rfl⟩) (zpV hKX hP hD [1, 2] rfl rfl 1 6 rfl rfl) rfl rfl hl.1 rfl (lv_room (Nat.le_of_ble_eq_true rfl)) dX9_amount_17 ⟨(by first | exact Nat.le_of_ble_eq_true rfl | (show _ ≤ (1 : Nat); omega)), (by first | exact Nat.le_of_ble_eq_true rfl | (show _ ≤ (6 : Nat); omega))⟩) hP hD hS hA [1, 2] [0] rfl rfl rfl (by decide) (fun zz u_10 H locs hz hP hD hS => ?_)
  have hP : va_P G.1 vwCl [(x, .inr (10, [.ref ro, .ref rw, .ref bo, .ref li, .ref sh, .ref tx, .ref lo, .ref nl])), (rw, .inr (6, [.ref am, .ref q, .ref bq])), (am, zaL (G.2 0) 41 (f))] H := hP
  have hD : va_D A [(x, .inr (10, [.ref ro, .ref rw, .ref bo, .ref li, .ref sh, .ref tx, .ref lo, .ref nl])), (rw, .inr (6, [.ref am, .ref q, .ref bq])), (am, zaL (G.2 0) 41 (f))] := hD
  have hz : zz = f pe := hz
  rw [hQ]
  exact vx_ret (zr_lret (z := zz) (u := ()) hx hb hr hlocks hP hD hS (by first | exact Nat.le_of_ble_eq_true rfl | omega) (by first | exact Nat.le_of_ble_eq_true rfl | omega) dX9_amount_20 (show (0 ≤ pe ∧ pe ≤ 40) ∧ zz = f pe from ⟨by omega, hz⟩))

def rm_c_X9_worth : Room := { frames := 10, cells := 3, slots := 18, locals := 187 }
theorem iw_X9_worth_X9 : ∀ w ∈ wsX90, w ∈ wsX9_worth := by decide +kernel
set_option maxHeartbeats 1000000 in
set_option maxRecDepth 100000 in
theorem c_X9_worth (l : Launch) (G : zG) (s1 : Nat) (s2 : Nat) (s3 : Nat) (x : Nat) (ro : Nat) (rw : Nat) (bo : Nat) (li : Nat) (sh : Nat) (tx : Nat) (lo : Nat) (nl : Nat) (am : Nat) (q : Nat) (bq : Nat) (f : Int → Int) (md : Int) (sa : Nat) (sb : Nat) (sf : Int → Int) (sn : Int) (st : Int) (da : Nat) (db : Nat) (df : Int → Int) (dn : Int) (dt : Int) (wa : Nat) (wb : Nat) (wf : Int → Int) (wn : Int) (wt : Int) (u0 : Int) (d0 : Int) (p0 : Int) (pe : Int) (po : Int) (hl0 : l.stackTraces = false) (r_pe : -2147483648 ≤ pe ∧ pe < 2147483648) (r_po : -2147483648 ≤ po ∧ po < 2147483648) (hmd : 0 ≤ md ∧ md ≤ 7) (hf : zrok f) : zMt l (zXE s1 s2 s3) G yX9_worth wsX9_worth rm_c_X9_worth [.ref x, .int (iz (pe)), .int (iz (po))] [(x, .inr (10, [.ref ro, .ref rw, .ref bo, .ref li, .ref sh, .ref tx, .ref lo, .ref nl])), (rw, .inr (6, [.ref am, .ref q, .ref bq])), (am, zaL (G.2 0) 41 (f)), (q, .inr (2, [.ref sa, .ref da, .ref wa, .long (lz (u0)), .long (lz (d0)), .int (iz (p0))])), (sa, .inr (9, [.ref sb, .int (iz (sn)), .long (lz (st))])), (sb, zaL (G.2 0) 40 (sf)), (da, .inr (9, [.ref db, .int (iz (dn)), .long (lz (dt))])), (db, zaL (G.2 0) 40 (df)), (wa, .inr (9, [.ref wb, .int (iz (wn)), .long (lz (wt))])), (wb, zaL (G.2 0) 40 (wf)), (ro, .inr (5, [.int (iz (md))]))] (fun A => zQl G (fun (z : Int) (u : (Int → Int) × Int × Int × (Int → Int) × Int × Int × (Int → Int) × Int × Int × Int × Int × Int) => (0 ≤ pe ∧ pe ≤ 40 ∧ 0 ≤ po ∧ po ≤ 20000) ∧ (znm f po % zqq po pe = 0 ∨ md ≠ 7) ∧ z = zrd md (znm f po) (zqq po pe)) (fun (u : (Int → Int) × Int × Int × (Int → Int) × Int × Int × (Int → Int) × Int × Int × Int × Int × Int) => [(x, .inr (10, [.ref ro, .ref rw, .ref bo, .ref li, .ref sh, .ref tx, .ref lo, .ref nl])), (rw, .inr (6, [.ref am, .ref q, .ref bq])), (am, zaL (G.2 0) 41 (f)), (q, .inr (2, [.ref sa, .ref da, .ref wa, .long (lz (u.2.2.2.2.2.2.2.2.2.1)), .long (lz (u.2.2.2.2.2.2.2.2.2.2.1)), .int (iz (u.2.2.2.2.2.2.2.2.2.2.2))])), (sa, .inr (9, [.ref sb, .int (iz (u.2.1)), .long (lz (u.2.2.1))])), (sb, zaL (G.2 0) 40 (u.1)), (da, .inr (9, [.ref db, .int (iz (u.2.2.2.2.1)), .long (lz (u.2.2.2.2.2.1))])), (db, zaL (G.2 0) 40 (u.2.2.2.1)), (wa, .inr (9, [.ref wb, .int (iz (u.2.2.2.2.2.2.2.1)), .long (lz (u.2.2.2.2.2.2.2.2.1))])), (wb, zaL (G.2 0) 40 (u.2.2.2.2.2.2.1)), (ro, .inr (5, [.int (iz (md))]))]) A) (SX := (Int → Int) × Int × Int × (Int → Int) × Int × Int × (Int → Int) × Int × Int × Int × Int × Int) (fun (E9 : String) (ux : (Int → Int) × Int × Int × (Int → Int) × Int × Int × (Int → Int) × Int × Int × Int × Int × Int) => (E9 = "java/lang/IllegalArgumentException" ∧ ¬ (0 ≤ pe ∧ pe ≤ 40 ∧ 0 ≤ po ∧ po ≤ 20000)) ∨ (E9 = "java/lang/IllegalStateException" ∧ (0 ≤ pe ∧ pe ≤ 40 ∧ 0 ≤ po ∧ po ≤ 20000) ∧ md = 7 ∧ znm f po % zqq po pe ≠ 0)) (fun (ux : (Int → Int) × Int × Int × (Int → Int) × Int × Int × (Int → Int) × Int × Int × Int × Int × Int) => [(x, .inr (10, [.ref ro, .ref rw, .ref bo, .ref li, .ref sh, .ref tx, .ref lo, .ref nl])), (rw, .inr (6, [.ref am, .ref q, .ref bq])), (am, zaL (G.2 0) 41 (f)), (q, .inr (2, [.ref sa, .ref da, .ref wa, .long (lz (ux.2.2.2.2.2.2.2.2.2.1)), .long (lz (ux.2.2.2.2.2.2.2.2.2.2.1)), .int (iz (ux.2.2.2.2.2.2.2.2.2.2.2))])), (sa, .inr (9, [.ref sb, .int (iz (ux.2.1)), .long (lz (ux.2.2.1))])), (sb, zaL (G.2 0) 40 (ux.1)), (da, .inr (9, [.ref db, .int (iz (ux.2.2.2.2.1)), .long (lz (ux.2.2.2.2.2.1))])), (db, zaL (G.2 0) 40 (ux.2.2.2.1)), (wa, .inr (9, [.ref wb, .int (iz (ux.2.2.2.2.2.2.2.1)), .long (lz (ux.2.2.2.2.2.2.2.2.1))])), (wb, zaL (G.2 0) 40 (ux.2.2.2.2.2.2.1)), (ro, .inr (5, [.int (iz (md))]))]) 3 18 := by
  refine zMt_of (cc := cX9_worth) (maxL := 3) (ret := (some .long)) (by decide) rfl (Nat.le_of_ble_eq_true rfl) ?_
  intro p e s m below meth c ls A Q hQ hx hb hr hts hown hlocks hml hout hKX hE hP hD hA hS hl
  have hK := hKX.1
  have iwX9 := iw_X9_worth_X9
  obtain ⟨H, hH⟩ : ∃ h, h = s.heap := ⟨_, rfl⟩
  obtain ⟨locs, hlo⟩ : ∃ h : List Loc, h = [] := ⟨_, rfl⟩
  have hS : va_S A s.heap H locs := by rw [hH, hlo]; exact hS
  have hP : va_P G.1 vwCl [(x, .inr (10, [.ref ro, .ref rw, .ref bo, .ref li, .ref sh, .ref tx, .ref lo, .ref nl])), (rw, .inr (6, [.ref am, .ref q, .ref bq])), (am, zaL (G.2 0) 41 (f)), (q, .inr (2, [.ref sa, .ref da, .ref wa, .long (lz (u0)), .long (lz (d0)), .int (iz (p0))])), (sa, .inr (9, [.ref sb, .int (iz (sn)), .long (lz (st))])), (sb, zaL (G.2 0) 40 (sf)), (da, .inr (9, [.ref db, .int (iz (dn)), .long (lz (dt))])), (db, zaL (G.2 0) 40 (df)), (wa, .inr (9, [.ref wb, .int (iz (wn)), .long (lz (wt))])), (wb, zaL (G.2 0) 40 (wf)), (ro, .inr (5, [.int (iz (md))]))] H := by rw [hH]; exact hP
  have hD : va_D A [(x, .inr (10, [.ref ro, .ref rw, .ref bo, .ref li, .ref sh, .ref tx, .ref lo, .ref nl])), (rw, .inr (6, [.ref am, .ref q, .ref bq])), (am, zaL (G.2 0) 41 (f)), (q, .inr (2, [.ref sa, .ref da, .ref wa, .long (lz (u0)), .long (lz (d0)), .int (iz (p0))])), (sa, .inr (9, [.ref sb, .int (iz (sn)), .long (lz (st))])), (sb, zaL (G.2 0) 40 (sf)), (da, .inr (9, [.ref db, .int (iz (dn)), .long (lz (dt))])), (db, zaL (G.2 0) 40 (df)), (wa, .inr (9, [.ref wb, .int (iz (wn)), .long (lz (wt))])), (wb, zaL (G.2 0) 40 (wf)), (ro, .inr (5, [.int (iz (md))]))] := hD
  have hl : lv_has ls 3 [(0, .ref x), (1, .int (iz (pe))), (2, .int (iz (po)))] := hl
  rw [← hH, ← hlo]
  refine lv_iload_n hx hb dX9_worth_0 rfl (lv_at hl 1 rfl) ?_
  refine zr_i2l hx hb (x := pe) (⟨by omega, by omega⟩) dX9_worth_1 ?_
  refine lv_lconst (v := lz (0)) hx hb dX9_worth_2 rfl ?_
  refine zr_ldc2 (z := 40) hx hb hown (hts (.constantLong RX9 87 (40)) (by decide +kernel)) rfl dX9_worth_3 ?_
  refine zc_z (wr := [(x, .inr (10, [.ref ro, .ref rw, .ref bo, .ref li, .ref sh, .ref tx, .ref lo, .ref nl])), (rw, .inr (6, [.ref am, .ref q, .ref bq])), (am, zaL (G.2 0) 41 (f)), (q, .inr (2, [.ref sa, .ref da, .ref wa, .long (lz (u0)), .long (lz (d0)), .int (iz (p0))])), (sa, .inr (9, [.ref sb, .int (iz (sn)), .long (lz (st))])), (sb, zaL (G.2 0) 40 (sf)), (da, .inr (9, [.ref db, .int (iz (dn)), .long (lz (dt))])), (db, zaL (G.2 0) 40 (df)), (wa, .inr (9, [.ref wb, .int (iz (wn)), .long (lz (wt))])), (wb, zaL (G.2 0) 40 (wf)), (ro, .inr (5, [.int (iz (md))]))]) (va_runS (As := [.long (lz (pe)), .long (lz (0)), .long (lz (40))]) (rest := []) ⟨hx, hb, hml, hown, hts⟩ (c_X9_isWithin l G pe 0 40 (by omega) (by omega) (by omega) H.size) (va_cwS 3 hts gX9_worth_X9_isWithin rfl rfl rfl (by decide +kernel) ⟨Nat.le_of_ble_eq_true rfl, Nat.le_of_ble_eq_true rfl⟩) (zpS hKX hP hD [] rfl rfl) rfl rfl hl.1 rfl (lv_room (Nat.le_of_ble_eq_true rfl)) dX9_worth_6 ⟨(by first | exact Nat.le_of_ble_eq_true rfl | (show _ ≤ (3 : Nat); omega)), (by first | exact Nat.le_of_ble_eq_true rfl | (show _ ≤ (18 : Nat); omega))⟩) hP hD hS hA [] [0, 1, 2, 3, 4, 5, 6, 7, 8, 9, 10] rfl rfl rfl (by decide) (fun z_2 u_1 H locs hq_4 hP hD hS => ?_)
  have hP : va_P G.1 vwCl [(x, .inr (10, [.ref ro, .ref rw, .ref bo, .ref li, .ref sh, .ref tx, .ref lo, .ref nl])), (rw, .inr (6, [.ref am, .ref q, .ref bq])), (am, zaL (G.2 0) 41 (f)), (q, .inr (2, [.ref sa, .ref da, .ref wa, .long (lz (u0)), .long (lz (d0)), .int (iz (p0))])), (sa, .inr (9, [.ref sb, .int (iz (sn)), .long (lz (st))])), (sb, zaL (G.2 0) 40 (sf)), (da, .inr (9, [.ref db, .int (iz (dn)), .long (lz (dt))])), (db, zaL (G.2 0) 40 (df)), (wa, .inr (9, [.ref wb, .int (iz (wn)), .long (lz (wt))])), (wb, zaL (G.2 0) 40 (wf)), (ro, .inr (5, [.int (iz (md))]))] H := hP
  have hD : va_D A [(x, .inr (10, [.ref ro, .ref rw, .ref bo, .ref li, .ref sh, .ref tx, .ref lo, .ref nl])), (rw, .inr (6, [.ref am, .ref q, .ref bq])), (am, zaL (G.2 0) 41 (f)), (q, .inr (2, [.ref sa, .ref da, .ref wa, .long (lz (u0)), .long (lz (d0)), .int (iz (p0))])), (sa, .inr (9, [.ref sb, .int (iz (sn)), .long (lz (st))])), (sb, zaL (G.2 0) 40 (sf)), (da, .inr (9, [.ref db, .int (iz (dn)), .long (lz (dt))])), (db, zaL (G.2 0) 40 (df)), (wa, .inr (9, [.ref wb, .int (iz (wn)), .long (lz (wt))])), (wb, zaL (G.2 0) 40 (wf)), (ro, .inr (5, [.int (iz (md))]))] := hD
  have hq_4 : z_2 = decide ((0 : Int) ≤ pe ∧ pe ≤ (40 : Int)) := hq_4
  refine zct_v (wr := [(x, .inr (10, [.ref ro, .ref rw, .ref bo, .ref li, .ref sh, .ref tx, .ref lo, .ref nl])), (rw, .inr (6, [.ref am, .ref q, .ref bq])), (am, zaL (G.2 0) 41 (f)), (q, .inr (2, [.ref sa, .ref da, .ref wa, .long (lz (u0)), .long (lz (d0)), .int (iz (p0))])), (sa, .inr (9, [.ref sb, .int (iz (sn)), .long (lz (st))])), (sb, zaL (G.2 0) 40 (sf)), (da, .inr (9, [.ref db, .int (iz (dn)), .long (lz (dt))])), (db, zaL (G.2 0) 40 (df)), (wa, .inr (9, [.ref wb, .int (iz (wn)), .long (lz (wt))])), (wb, zaL (G.2 0) 40 (wf)), (ro, .inr (5, [.int (iz (md))]))]) (vx_runS (As := [.int (iz (zbb z_2))]) (rest := []) ⟨hx, hb, hml, hown, hts⟩ (c_X9_demand_t l G s1 s2 s3 z_2 hl0 H.size) (va_cwS 1 hts gX9_worth_X9_demand rfl rfl rfl (by decide +kernel) ⟨Nat.le_of_ble_eq_true rfl, Nat.le_of_ble_eq_true rfl⟩) (zpSe zXE_ok hE hS hA hKX hP hD [] rfl rfl) rfl rfl hl.1 rfl (lv_room (Nat.le_of_ble_eq_true rfl)) dX9_worth_9 ⟨(by first | exact Nat.le_of_ble_eq_true rfl | (show _ ≤ (3 : Nat); omega)), (by first | exact Nat.le_of_ble_eq_true rfl | (show _ ≤ (18 : Nat); omega))⟩) hP hD hS hA [] [0, 1, 2, 3, 4, 5, 6, 7, 8, 9, 10] rfl rfl rfl (by decide) (fun E9 ce9 q9 ux_8 H locs hx9_9 hP hD hS hce9 hcv9 hcl9 => ?_) (fun u_7 H locs hq_6 hP hD hS => ?_)
  ·
    have hP : va_P G.1 vwCl [(x, .inr (10, [.ref ro, .ref rw, .ref bo, .ref li, .ref sh, .ref tx, .ref lo, .ref nl])), (rw, .inr (6, [.ref am, .ref q, .ref bq])), (am, zaL (G.2 0) 41 (f)), (q, .inr (2, [.ref sa, .ref da, .ref wa, .long (lz (u0)), .long (lz (d0)), .int (iz (p0))])), (sa, .inr (9, [.ref sb, .int (iz (sn)), .long (lz (st))])), (sb, zaL (G.2 0) 40 (sf)), (da, .inr (9, [.ref db, .int (iz (dn)), .long (lz (dt))])), (db, zaL (G.2 0) 40 (df)), (wa, .inr (9, [.ref wb, .int (iz (wn)), .long (lz (wt))])), (wb, zaL (G.2 0) 40 (wf)), (ro, .inr (5, [.int (iz (md))]))] H := hP
    have hD : va_D A [(x, .inr (10, [.ref ro, .ref rw, .ref bo, .ref li, .ref sh, .ref tx, .ref lo, .ref nl])), (rw, .inr (6, [.ref am, .ref q, .ref bq])), (am, zaL (G.2 0) 41 (f)), (q, .inr (2, [.ref sa, .ref da, .ref wa, .long (lz (u0)), .long (lz (d0)), .int (iz (p0))])), (sa, .inr (9, [.ref sb, .int (iz (sn)), .long (lz (st))])), (sb, zaL (G.2 0) 40 (sf)), (da, .inr (9, [.ref db, .int (iz (dn)), .long (lz (dt))])), (db, zaL (G.2 0) 40 (df)), (wa, .inr (9, [.ref wb, .int (iz (wn)), .long (lz (wt))])), (wb, zaL (G.2 0) 40 (wf)), (ro, .inr (5, [.int (iz (md))]))] := hD
    rcases hx9_9 with ⟨rfl, hxc⟩
    ·
      have hxc : z_2 = false := hxc
      have hzz_2 := of_decide_eq_false (hq_4.symm.trans hxc)
      rw [hQ]
      exact zt_out (sf, sn, st, df, dn, dt, wf, wn, wt, u0, d0, p0) hout hlocks hce9 hcv9 hcl9 hP hD hS (Or.inl ⟨rfl, (show ¬ (0 ≤ pe ∧ pe ≤ 40 ∧ 0 ≤ po ∧ po ≤ 20000) from by omega)⟩) (by first | exact Nat.le_of_ble_eq_true rfl | omega) (by first | exact Nat.le_of_ble_eq_true rfl | omega)
  have hP : va_P G.1 vwCl [(x, .inr (10, [.ref ro, .ref rw, .ref bo, .ref li, .ref sh, .ref tx, .ref lo, .ref nl])), (rw, .inr (6, [.ref am, .ref q, .ref bq])), (am, zaL (G.2 0) 41 (f)), (q, .inr (2, [.ref sa, .ref da, .ref wa, .long (lz (u0)), .long (lz (d0)), .int (iz (p0))])), (sa, .inr (9, [.ref sb, .int (iz (sn)), .long (lz (st))])), (sb, zaL (G.2 0) 40 (sf)), (da, .inr (9, [.ref db, .int (iz (dn)), .long (lz (dt))])), (db, zaL (G.2 0) 40 (df)), (wa, .inr (9, [.ref wb, .int (iz (wn)), .long (lz (wt))])), (wb, zaL (G.2 0) 40 (wf)), (ro, .inr (5, [.int (iz (md))]))] H := hP
  have hD : va_D A [(x, .inr (10, [.ref ro, .ref rw, .ref bo, .ref li, .ref sh, .ref tx, .ref lo, .ref nl])), (rw, .inr (6, [.ref am, .ref q, .ref bq])), (am, zaL (G.2 0) 41 (f)), (q, .inr (2, [.ref sa, .ref da, .ref wa, .long (lz (u0)), .long (lz (d0)), .int (iz (p0))])), (sa, .inr (9, [.ref sb, .int (iz (sn)), .long (lz (st))])), (sb, zaL (G.2 0) 40 (sf)), (da, .inr (9, [.ref db, .int (iz (dn)), .long (lz (dt))])), (db, zaL (G.2 0) 40 (df)), (wa, .inr (9, [.ref wb, .int (iz (wn)), .long (lz (wt))])), (wb, zaL (G.2 0) 40 (wf)), (ro, .inr (5, [.int (iz (md))]))] := hD
  have hq_6 : z_2 = true := hq_6
  have hzz_2 := of_decide_eq_true (hq_4.symm.trans hq_6)
  refine lv_iload_n hx hb dX9_worth_12 rfl (lv_at hl 2 rfl) ?_
  refine zct_v (wr := [(x, .inr (10, [.ref ro, .ref rw, .ref bo, .ref li, .ref sh, .ref tx, .ref lo, .ref nl])), (rw, .inr (6, [.ref am, .ref q, .ref bq])), (am, zaL (G.2 0) 41 (f)), (q, .inr (2, [.ref sa, .ref da, .ref wa, .long (lz (u0)), .long (lz (d0)), .int (iz (p0))])), (sa, .inr (9, [.ref sb, .int (iz (sn)), .long (lz (st))])), (sb, zaL (G.2 0) 40 (sf)), (da, .inr (9, [.ref db, .int (iz (dn)), .long (lz (dt))])), (db, zaL (G.2 0) 40 (df)), (wa, .inr (9, [.ref wb, .int (iz (wn)), .long (lz (wt))])), (wb, zaL (G.2 0) 40 (wf)), (ro, .inr (5, [.int (iz (md))]))]) (vx_runS (As := [.int (iz (po))]) (rest := []) ⟨hx, hb, hml, hown, hts⟩ (c_X9_demandRate l G s1 s2 s3 po hl0 (by omega) H.size) (va_cwS 1 hts gX9_worth_X9_demandRate rfl rfl rfl (by decide +kernel) ⟨Nat.le_of_ble_eq_true rfl, Nat.le_of_ble_eq_true rfl⟩) (zpSe zXE_ok hE hS hA hKX hP hD [] rfl rfl) rfl rfl hl.1 rfl (lv_room (Nat.le_of_ble_eq_true rfl)) dX9_worth_13 ⟨(by first | exact Nat.le_of_ble_eq_true rfl | (show _ ≤ (3 : Nat); omega)), (by first | exact Nat.le_of_ble_eq_true rfl | (show _ ≤ (18 : Nat); omega))⟩) hP hD hS hA [] [0, 1, 2, 3, 4, 5, 6, 7, 8, 9, 10] rfl rfl rfl (by decide) (fun E9 ce9 q9 ux_13 H locs hx9_14 hP hD hS hce9 hcv9 hcl9 => ?_) (fun u_12 H locs hq_11 hP hD hS => ?_)
  ·
    have hP : va_P G.1 vwCl [(x, .inr (10, [.ref ro, .ref rw, .ref bo, .ref li, .ref sh, .ref tx, .ref lo, .ref nl])), (rw, .inr (6, [.ref am, .ref q, .ref bq])), (am, zaL (G.2 0) 41 (f)), (q, .inr (2, [.ref sa, .ref da, .ref wa, .long (lz (u0)), .long (lz (d0)), .int (iz (p0))])), (sa, .inr (9, [.ref sb, .int (iz (sn)), .long (lz (st))])), (sb, zaL (G.2 0) 40 (sf)), (da, .inr (9, [.ref db, .int (iz (dn)), .long (lz (dt))])), (db, zaL (G.2 0) 40 (df)), (wa, .inr (9, [.ref wb, .int (iz (wn)), .long (lz (wt))])), (wb, zaL (G.2 0) 40 (wf)), (ro, .inr (5, [.int (iz (md))]))] H := hP
    have hD : va_D A [(x, .inr (10, [.ref ro, .ref rw, .ref bo, .ref li, .ref sh, .ref tx, .ref lo, .ref nl])), (rw, .inr (6, [.ref am, .ref q, .ref bq])), (am, zaL (G.2 0) 41 (f)), (q, .inr (2, [.ref sa, .ref da, .ref wa, .long (lz (u0)), .long (lz (d0)), .int (iz (p0))])), (sa, .inr (9, [.ref sb, .int (iz (sn)), .long (lz (st))])), (sb, zaL (G.2 0) 40 (sf)), (da, .inr (9, [.ref db, .int (iz (dn)), .long (lz (dt))])), (db, zaL (G.2 0) 40 (df)), (wa, .inr (9, [.ref wb, .int (iz (wn)), .long (lz (wt))])), (wb, zaL (G.2 0) 40 (wf)), (ro, .inr (5, [.int (iz (md))]))] := hD
    rcases hx9_14 with ⟨rfl, hxc⟩
    ·
      have hxc : ¬ (0 ≤ po ∧ po ≤ 20000) := hxc
      rw [hQ]
      exact zt_out (sf, sn, st, df, dn, dt, wf, wn, wt, u0, d0, p0) hout hlocks hce9 hcv9 hcl9 hP hD hS (Or.inl ⟨rfl, (show ¬ (0 ≤ pe ∧ pe ≤ 40 ∧ 0 ≤ po ∧ po ≤ 20000) from by omega)⟩) (by first | exact Nat.le_of_ble_eq_true rfl | omega) (by first | exact Nat.le_of_ble_eq_true rfl | omega)
  have hP : va_P G.1 vwCl [(x, .inr (10, [.ref ro, .ref rw, .ref bo, .ref li, .ref sh, .ref tx, .ref lo, .ref nl])), (rw, .inr (6, [.ref am, .ref q, .ref bq])), (am, zaL (G.2 0) 41 (f)), (q, .inr (2, [.ref sa, .ref da, .ref wa, .long (lz (u0)), .long (lz (d0)), .int (iz (p0))])), (sa, .inr (9, [.ref sb, .int (iz (sn)), .long (lz (st))])), (sb, zaL (G.2 0) 40 (sf)), (da, .inr (9, [.ref db, .int (iz (dn)), .long (lz (dt))])), (db, zaL (G.2 0) 40 (df)), (wa, .inr (9, [.ref wb, .int (iz (wn)), .long (lz (wt))])), (wb, zaL (G.2 0) 40 (wf)), (ro, .inr (5, [.int (iz (md))]))] H := hP
  have hD : va_D A [(x, .inr (10, [.ref ro, .ref rw, .ref bo, .ref li, .ref sh, .ref tx, .ref lo, .ref nl])), (rw, .inr (6, [.ref am, .ref q, .ref bq])), (am, zaL (G.2 0) 41 (f)), (q, .inr (2, [.ref sa, .ref da, .ref wa, .long (lz (u0)), .long (lz (d0)), .int (iz (p0))])), (sa, .inr (9, [.ref sb, .int (iz (sn)), .long (lz (st))])), (sb, zaL (G.2 0) 40 (sf)), (da, .inr (9, [.ref db, .int (iz (dn)), .long (lz (dt))])), (db, zaL (G.2 0) 40 (df)), (wa, .inr (9, [.ref wb, .int (iz (wn)), .long (lz (wt))])), (wb, zaL (G.2 0) 40 (wf)), (ro, .inr (5, [.int (iz (md))]))] := hD
  have hq_11 : 0 ≤ po ∧ po ≤ 20000 := hq_11
  refine lv_aload_n hx hb dX9_worth_16 rfl (lv_at hl 0 rfl) ?_
  refine va_get (D := G.1) (ci := 10) (v := .ref rw) (C := RX9) (T := TX9) (N := 8) hx hb hts iwX9 hown hK hP 0 rfl rfl 1 (by decide) (hts (.fieldLink RX9 19 "AnnuityHouse" "row" "LAnnuityHouse$Row;") (by decide +kernel)) (fun _ h9 => h9) rfl dX9_worth_17 ?_
  refine lv_iload_n hx hb dX9_worth_20 rfl (lv_at hl 1 rfl) ?_
  refine lv_iload_n hx hb dX9_worth_21 rfl (lv_at hl 2 rfl) ?_
  refine lv_aload_n hx hb dX9_worth_22 rfl (lv_at hl 0 rfl) ?_
  refine va_get (D := G.1) (ci := 10) (v := .ref ro) (C := RX9) (T := TX9) (N := 8) hx hb hts iwX9 hown hK hP 0 rfl rfl 0 (by decide) (hts (.fieldLink RX9 10 "AnnuityHouse" "rounder" "LAnnuityHouse$Rounder;") (by decide +kernel)) (fun _ h9 => h9) rfl dX9_worth_23 ?_
  refine zct_l (wr := [(x, .inr (10, [.ref ro, .ref rw, .ref bo, .ref li, .ref sh, .ref tx, .ref lo, .ref nl]))]) (vx_runV (As := [.int (iz (pe)), .int (iz (po)), .ref ro]) (rest := []) ⟨hx, hb, hml, hown, hts⟩ (c_X5_worthIn l G s1 s2 s3 rw am q bq f ro md sa sb sf sn st da db df dn dt wa wb wf wn wt u0 d0 p0 pe po hl0 (by omega) (by omega) (by omega) (by omega) H.size) (cwV 3 hts gX9_worth_X5_worthIn rfl rfl rfl (by decide +kernel) ⟨Nat.le_of_ble_eq_true rfl, Nat.le_of_ble_eq_true rfl⟩) (zpVe zXE_ok hE hS hA hKX hP hD [1, 2, 3, 4, 5, 6, 7, 8, 9, 10] rfl rfl (va_recv hK hP (ci := 6) (q0 := 1) rfl rfl)) rfl rfl hl.1 rfl (lv_room (Nat.le_of_ble_eq_true rfl)) dX9_worth_26 ⟨(by first | exact Nat.le_of_ble_eq_true rfl | (show _ ≤ (3 : Nat); omega)), (by first | exact Nat.le_of_ble_eq_true rfl | (show _ ≤ (18 : Nat); omega))⟩) hP hD hS hA [1, 2, 3, 4, 5, 6, 7, 8, 9, 10] [0] rfl rfl rfl (by decide) (fun E9 ce9 q9 ux_26 H locs hx9_27 hP hD hS hce9 hcv9 hcl9 => ?_) (fun zz u_25 H locs hz hP hD hS => ?_)
  ·
    obtain ⟨sf2_15, sn2_16, st2_17, df2_18, dn2_19, dt2_20, wf2_21, wn2_22, wt2_23, pq_24⟩ := ux_26
    have hP : va_P G.1 vwCl [(x, .inr (10, [.ref ro, .ref rw, .ref bo, .ref li, .ref sh, .ref tx, .ref lo, .ref nl])), (rw, .inr (6, [.ref am, .ref q, .ref bq])), (am, zaL (G.2 0) 41 (f)), (q, .inr (2, [.ref sa, .ref da, .ref wa, .long (lz (zqu po)), .long (lz (zqd po)), .int (iz (pq_24))])), (sa, .inr (9, [.ref sb, .int (iz (sn2_16)), .long (lz (st2_17))])), (sb, zaL (G.2 0) 40 (sf2_15)), (da, .inr (9, [.ref db, .int (iz (dn2_19)), .long (lz (dt2_20))])), (db, zaL (G.2 0) 40 (df2_18)), (wa, .inr (9, [.ref wb, .int (iz (wn2_22)), .long (lz (wt2_23))])), (wb, zaL (G.2 0) 40 (wf2_21)), (ro, .inr (5, [.int (iz (md))]))] H := hP
    have hD : va_D A [(x, .inr (10, [.ref ro, .ref rw, .ref bo, .ref li, .ref sh, .ref tx, .ref lo, .ref nl])), (rw, .inr (6, [.ref am, .ref q, .ref bq])), (am, zaL (G.2 0) 41 (f)), (q, .inr (2, [.ref sa, .ref da, .ref wa, .long (lz (zqu po)), .long (lz (zqd po)), .int (iz (pq_24))])), (sa, .inr (9, [.ref sb, .int (iz (sn2_16)), .long (lz (st2_17))])), (sb, zaL (G.2 0) 40 (sf2_15)), (da, .inr (9, [.ref db, .int (iz (dn2_19)), .long (lz (dt2_20))])), (db, zaL (G.2 0) 40 (df2_18)), (wa, .inr (9, [.ref wb, .int (iz (wn2_22)), .long (lz (wt2_23))])), (wb, zaL (G.2 0) 40 (wf2_21)), (ro, .inr (5, [.int (iz (md))]))] := hD
    rcases hx9_27 with ⟨rfl, hxc⟩
    ·
      have hxc : md = 7 ∧ znm f po % zqq po pe ≠ 0 := hxc
      rw [hQ]
      exact zt_out (sf2_15, sn2_16, st2_17, df2_18, dn2_19, dt2_20, wf2_21, wn2_22, wt2_23, zqu po, zqd po, pq_24) hout hlocks hce9 hcv9 hcl9 hP hD hS (Or.inr ⟨rfl, (show (0 ≤ pe ∧ pe ≤ 40 ∧ 0 ≤ po ∧ po ≤ 20000) ∧ md = 7 ∧ znm f po % zqq po pe ≠ 0 from ⟨by omega, hxc⟩)⟩) (by first | exact Nat.le_of_ble_eq_true rfl | omega) (by first | exact Nat.le_of_ble_eq_true rfl | omega)
  obtain ⟨sf9, sn9, st9, df9, dn9, dt9, wf9, wn9, wt9, pq9⟩ := u_25
  have hP : va_P G.1 vwCl [(x, .inr (10, [.ref ro, .ref rw, .ref bo, .ref li, .ref sh, .ref tx, .ref lo, .ref nl])), (rw, .inr (6, [.ref am, .ref q, .ref bq])), (am, zaL (G.2 0) 41 (f)), (q, .inr (2, [.ref sa, .ref da, .ref wa, .long (lz (zqu po)), .long (lz (zqd po)), .int (iz (pq9))])), (sa, .inr (9, [.ref sb, .int (iz (sn9)), .long (lz (st9))])), (sb, zaL (G.2 0) 40 (sf9)), (da, .inr (9, [.ref db, .int (iz (dn9)), .long (lz (dt9))])), (db, zaL (G.2 0) 40 (df9)), (wa, .inr (9, [.ref wb, .int (iz (wn9)), .long (lz (wt9))])), (wb, zaL (G.2 0) 40 (wf9)), (ro, .inr (5, [.int (iz (md))]))] H := hP
  have hD : va_D A [(x, .inr (10, [.ref ro, .ref rw, .ref bo, .ref li, .ref sh, .ref tx, .ref lo, .ref nl])), (rw, .inr (6, [.ref am, .ref q, .ref bq])), (am, zaL (G.2 0) 41 (f)), (q, .inr (2, [.ref sa, .ref da, .ref wa, .long (lz (zqu po)), .long (lz (zqd po)), .int (iz (pq9))])), (sa, .inr (9, [.ref sb, .int (iz (sn9)), .long (lz (st9))])), (sb, zaL (G.2 0) 40 (sf9)), (da, .inr (9, [.ref db, .int (iz (dn9)), .long (lz (dt9))])), (db, zaL (G.2 0) 40 (df9)), (wa, .inr (9, [.ref wb, .int (iz (wn9)), .long (lz (wt9))])), (wb, zaL (G.2 0) 40 (wf9)), (ro, .inr (5, [.int (iz (md))]))] := hD
  have hz : (znm f po % zqq po pe = 0 ∨ md ≠ 7) ∧ zz = zrd md (znm f po) (zqq po pe) := hz
  rw [hQ]
  exact vx_ret (zr_lret (z := zz) (u := (sf9, sn9, st9, df9, dn9, dt9, wf9, wn9, wt9, zqu po, zqd po, pq9)) hx hb hr hlocks hP hD hS (by first | exact Nat.le_of_ble_eq_true rfl | omega) (by first | exact Nat.le_of_ble_eq_true rfl | omega) dX9_worth_29 (show (0 ≤ pe ∧ pe ≤ 40 ∧ 0 ≤ po ∧ po ≤ 20000) ∧ (znm f po % zqq po pe = 0 ∨ md ≠ 7) ∧ zz = zrd md (znm f po) (zqq po pe) from ⟨by omega, hz⟩))

def rm_c_X9_signAt : Room := { frames := 8, cells := 1, slots := 6, locals := 143 }
theorem iw_X9_signAt_X9 : ∀ w ∈ wsX90, w ∈ wsX9_signAt := by decide +kernel
set_option maxHeartbeats 1000000 in
set_option maxRecDepth 100000 in
theorem c_X9_signAt (l : Launch) (G : zG) (s1 : Nat) (s2 : Nat) (s3 : Nat) (x : Nat) (ro : Nat) (rw : Nat) (bo : Nat) (li : Nat) (sh : Nat) (tx : Nat) (lo : Nat) (nl : Nat) (am : Nat) (q : Nat) (bq : Nat) (f : Int → Int) (wa : Nat) (sa : Nat) (sb : Nat) (sf : Int → Int) (sn : Int) (st : Int) (da : Nat) (db : Nat) (df : Int → Int) (dn : Int) (dt : Int) (u0 : Int) (d0 : Int) (p0 : Int) (po : Int) (hl0 : l.stackTraces = false) (r_po : -2147483648 ≤ po ∧ po < 2147483648) (hf : zrok f) : zMt l (zXE s1 s2 s3) G yX9_signAt wsX9_signAt rm_c_X9_signAt [.ref x, .int (iz (po))] [(x, .inr (10, [.ref ro, .ref rw, .ref bo, .ref li, .ref sh, .ref tx, .ref lo, .ref nl])), (rw, .inr (6, [.ref am, .ref q, .ref bq])), (am, zaL (G.2 0) 41 (f)), (q, .inr (2, [.ref sa, .ref da, .ref wa, .long (lz (u0)), .long (lz (d0)), .int (iz (p0))])), (sa, .inr (9, [.ref sb, .int (iz (sn)), .long (lz (st))])), (sb, zaL (G.2 0) 40 (sf)), (da, .inr (9, [.ref db, .int (iz (dn)), .long (lz (dt))])), (db, zaL (G.2 0) 40 (df))] (fun A => zQi G (fun (z : Int) (u : (Int → Int) × Int × Int × (Int → Int) × Int × Int × Int × Int × Int) => (0 ≤ po ∧ po ≤ 20000) ∧ z = (znm f po).sign) (fun (u : (Int → Int) × Int × Int × (Int → Int) × Int × Int × Int × Int × Int) => [(x, .inr (10, [.ref ro, .ref rw, .ref bo, .ref li, .ref sh, .ref tx, .ref lo, .ref nl])), (rw, .inr (6, [.ref am, .ref q, .ref bq])), (am, zaL (G.2 0) 41 (f)), (q, .inr (2, [.ref sa, .ref da, .ref wa, .long (lz (u.2.2.2.2.2.2.2.1)), .long (lz (u.2.2.2.2.2.2.2.2)), .int (iz (u.2.2.2.2.2.2.1))])), (sa, .inr (9, [.ref sb, .int (iz (u.2.1)), .long (lz (u.2.2.1))])), (sb, zaL (G.2 0) 40 (u.1)), (da, .inr (9, [.ref db, .int (iz (u.2.2.2.2.1)), .long (lz (u.2.2.2.2.2.1))])), (db, zaL (G.2 0) 40 (u.2.2.2.1))]) A) (SX := (Int → Int) × Int × Int × (Int → Int) × Int × Int × Int × Int × Int) (fun (E9 : String) (ux : (Int → Int) × Int × Int × (Int → Int) × Int × Int × Int × Int × Int) => (E9 = "java/lang/IllegalArgumentException" ∧ ¬ (0 ≤ po ∧ po ≤ 20000))) (fun (ux : (Int → Int) × Int × Int × (Int → Int) × Int × Int × Int × Int × Int) => [(x, .inr (10, [.ref ro, .ref rw, .ref bo, .ref li, .ref sh, .ref tx, .ref lo, .ref nl])), (rw, .inr (6, [.ref am, .ref q, .ref bq])), (am, zaL (G.2 0) 41 (f)), (q, .inr (2, [.ref sa, .ref da, .ref wa, .long (lz (ux.2.2.2.2.2.2.2.1)), .long (lz (ux.2.2.2.2.2.2.2.2)), .int (iz (ux.2.2.2.2.2.2.1))])), (sa, .inr (9, [.ref sb, .int (iz (ux.2.1)), .long (lz (ux.2.2.1))])), (sb, zaL (G.2 0) 40 (ux.1)), (da, .inr (9, [.ref db, .int (iz (ux.2.2.2.2.1)), .long (lz (ux.2.2.2.2.2.1))])), (db, zaL (G.2 0) 40 (ux.2.2.2.1))]) 1 6 := by
  refine zMt_of (cc := cX9_signAt) (maxL := 2) (ret := (some .int)) (by decide) rfl (Nat.le_of_ble_eq_true rfl) ?_
  intro p e s m below meth c ls A Q hQ hx hb hr hts hown hlocks hml hout hKX hE hP hD hA hS hl
  have hK := hKX.1
  have iwX9 := iw_X9_signAt_X9
  obtain ⟨H, hH⟩ : ∃ h, h = s.heap := ⟨_, rfl⟩
  obtain ⟨locs, hlo⟩ : ∃ h : List Loc, h = [] := ⟨_, rfl⟩
  have hS : va_S A s.heap H locs := by rw [hH, hlo]; exact hS
  have hP : va_P G.1 vwCl [(x, .inr (10, [.ref ro, .ref rw, .ref bo, .ref li, .ref sh, .ref tx, .ref lo, .ref nl])), (rw, .inr (6, [.ref am, .ref q, .ref bq])), (am, zaL (G.2 0) 41 (f)), (q, .inr (2, [.ref sa, .ref da, .ref wa, .long (lz (u0)), .long (lz (d0)), .int (iz (p0))])), (sa, .inr (9, [.ref sb, .int (iz (sn)), .long (lz (st))])), (sb, zaL (G.2 0) 40 (sf)), (da, .inr (9, [.ref db, .int (iz (dn)), .long (lz (dt))])), (db, zaL (G.2 0) 40 (df))] H := by rw [hH]; exact hP
  have hD : va_D A [(x, .inr (10, [.ref ro, .ref rw, .ref bo, .ref li, .ref sh, .ref tx, .ref lo, .ref nl])), (rw, .inr (6, [.ref am, .ref q, .ref bq])), (am, zaL (G.2 0) 41 (f)), (q, .inr (2, [.ref sa, .ref da, .ref wa, .long (lz (u0)), .long (lz (d0)), .int (iz (p0))])), (sa, .inr (9, [.ref sb, .int (iz (sn)), .long (lz (st))])), (sb, zaL (G.2 0) 40 (sf)), (da, .inr (9, [.ref db, .int (iz (dn)), .long (lz (dt))])), (db, zaL (G.2 0) 40 (df))] := hD
  have hl : lv_has ls 2 [(0, .ref x), (1, .int (iz (po)))] := hl
  rw [← hH, ← hlo]
  refine lv_iload_n hx hb dX9_signAt_0 rfl (lv_at hl 1 rfl) ?_
  refine zct_v (wr := [(x, .inr (10, [.ref ro, .ref rw, .ref bo, .ref li, .ref sh, .ref tx, .ref lo, .ref nl])), (rw, .inr (6, [.ref am, .ref q, .ref bq])), (am, zaL (G.2 0) 41 (f)), (q, .inr (2, [.ref sa, .ref da, .ref wa, .long (lz (u0)), .long (lz (d0)), .int (iz (p0))])), (sa, .inr (9, [.ref sb, .int (iz (sn)), .long (lz (st))])), (sb, zaL (G.2 0) 40 (sf)), (da, .inr (9, [.ref db, .int (iz (dn)), .long (lz (dt))])), (db, zaL (G.2 0) 40 (df))]) (vx_runS (As := [.int (iz (po))]) (rest := []) ⟨hx, hb, hml, hown, hts⟩ (c_X9_demandRate l G s1 s2 s3 po hl0 (by omega) H.size) (va_cwS 1 hts gX9_signAt_X9_demandRate rfl rfl rfl (by decide +kernel) ⟨Nat.le_of_ble_eq_true rfl, Nat.le_of_ble_eq_true rfl⟩) (zpSe zXE_ok hE hS hA hKX hP hD [] rfl rfl) rfl rfl hl.1 rfl (lv_room (Nat.le_of_ble_eq_true rfl)) dX9_signAt_1 ⟨(by first | exact Nat.le_of_ble_eq_true rfl | (show _ ≤ (1 : Nat); omega)), (by first | exact Nat.le_of_ble_eq_true rfl | (show _ ≤ (6 : Nat); omega))⟩) hP hD hS hA [] [0, 1, 2, 3, 4, 5, 6, 7] rfl rfl rfl (by decide) (fun E9 ce9 q9 ux_4 H locs hx9_5 hP hD hS hce9 hcv9 hcl9 => ?_) (fun u_3 H locs hq_2 hP hD hS => ?_)
  ·
    have hP : va_P G.1 vwCl [(x, .inr (10, [.ref ro, .ref rw, .ref bo, .ref li, .ref sh, .ref tx, .ref lo, .ref nl])), (rw, .inr (6, [.ref am, .ref q, .ref bq])), (am, zaL (G.2 0) 41 (f)), (q, .inr (2, [.ref sa, .ref da, .ref wa, .long (lz (u0)), .long (lz (d0)), .int (iz (p0))])), (sa, .inr (9, [.ref sb, .int (iz (sn)), .long (lz (st))])), (sb, zaL (G.2 0) 40 (sf)), (da, .inr (9, [.ref db, .int (iz (dn)), .long (lz (dt))])), (db, zaL (G.2 0) 40 (df))] H := hP
    have hD : va_D A [(x, .inr (10, [.ref ro, .ref rw, .ref bo, .ref li, .ref sh, .ref tx, .ref lo, .ref nl])), (rw, .inr (6, [.ref am, .ref q, .ref bq])), (am, zaL (G.2 0) 41 (f)), (q, .inr (2, [.ref sa, .ref da, .ref wa, .long (lz (u0)), .long (lz (d0)), .int (iz (p0))])), (sa, .inr (9, [.ref sb, .int (iz (sn)), .long (lz (st))])), (sb, zaL (G.2 0) 40 (sf)), (da, .inr (9, [.ref db, .int (iz (dn)), .long (lz (dt))])), (db, zaL (G.2 0) 40 (df))] := hD
    rcases hx9_5 with ⟨rfl, hxc⟩
    ·
      have hxc : ¬ (0 ≤ po ∧ po ≤ 20000) := hxc
      rw [hQ]
      exact zt_out (sf, sn, st, df, dn, dt, p0, u0, d0) hout hlocks hce9 hcv9 hcl9 hP hD hS ⟨rfl, (show ¬ (0 ≤ po ∧ po ≤ 20000) from by omega)⟩ (by first | exact Nat.le_of_ble_eq_true rfl | omega) (by first | exact Nat.le_of_ble_eq_true rfl | omega)
  have hP : va_P G.1 vwCl [(x, .inr (10, [.ref ro, .ref rw, .ref bo, .ref li, .ref sh, .ref tx, .ref lo, .ref nl])), (rw, .inr (6, [.ref am, .ref q, .ref bq])), (am, zaL (G.2 0) 41 (f)), (q, .inr (2, [.ref sa, .ref da, .ref wa, .long (lz (u0)), .long (lz (d0)), .int (iz (p0))])), (sa, .inr (9, [.ref sb, .int (iz (sn)), .long (lz (st))])), (sb, zaL (G.2 0) 40 (sf)), (da, .inr (9, [.ref db, .int (iz (dn)), .long (lz (dt))])), (db, zaL (G.2 0) 40 (df))] H := hP
  have hD : va_D A [(x, .inr (10, [.ref ro, .ref rw, .ref bo, .ref li, .ref sh, .ref tx, .ref lo, .ref nl])), (rw, .inr (6, [.ref am, .ref q, .ref bq])), (am, zaL (G.2 0) 41 (f)), (q, .inr (2, [.ref sa, .ref da, .ref wa, .long (lz (u0)), .long (lz (d0)), .int (iz (p0))])), (sa, .inr (9, [.ref sb, .int (iz (sn)), .long (lz (st))])), (sb, zaL (G.2 0) 40 (sf)), (da, .inr (9, [.ref db, .int (iz (dn)), .long (lz (dt))])), (db, zaL (G.2 0) 40 (df))] := hD
  have hq_2 : 0 ≤ po ∧ po ≤ 20000 := hq_2
  refine lv_aload_n hx hb dX9_signAt_4 rfl (lv_at hl 0 rfl) ?_
  refine va_get (D := G.1) (ci := 10) (v := .ref rw) (C := RX9) (T := TX9) (N := 8) hx hb hts iwX9 hown hK hP 0 rfl rfl 1 (by decide) (hts (.fieldLink RX9 19 "AnnuityHouse" "row" "LAnnuityHouse$Row;") (by decide +kernel)) (fun _ h9 => h9) rfl dX9_signAt_5 ?_
  refine lv_iload_n hx hb dX9_signAt_8 rfl (lv_at hl 1 rfl) ?_
  refine zc_i (wr := [(x, .inr (10, [.ref ro, .ref rw, .ref bo, .ref li, .ref sh, .ref tx, .ref lo, .ref nl]))]) (va_runV (As := [.int (iz (po))]) (rest := []) ⟨hx, hb, hml, hown, hts⟩ (c_X5_signOfWorth l G rw am q bq f wa sa sb sf sn st da db df dn dt u0 d0 p0 po (by omega) (by omega) H.size) (cwV 1 hts gX9_signAt_X5_signOfWorth rfl rfl rfl (by decide +kernel) ⟨Nat.le_of_ble_eq_true rfl, Nat.le_of_ble_eq_true rfl⟩) (zpV hKX hP hD [1, 2, 3, 4, 5, 6, 7] rfl rfl 1 6 rfl rfl) rfl rfl hl.1 rfl (lv_room (Nat.le_of_ble_eq_true rfl)) dX9_signAt_9 ⟨(by first | exact Nat.le_of_ble_eq_true rfl | (show _ ≤ (1 : Nat); omega)), (by first | exact Nat.le_of_ble_eq_true rfl | (show _ ≤ (6 : Nat); omega))⟩) hP hD hS hA [1, 2, 3, 4, 5, 6, 7] [0] rfl rfl rfl (by decide) (fun zz u_6 H locs hz hP hD hS => ?_)
  obtain ⟨sf9, sn9, st9, df9, dn9, dt9, pq9, qu9, qd9⟩ := u_6
  have hP : va_P G.1 vwCl [(x, .inr (10, [.ref ro, .ref rw, .ref bo, .ref li, .ref sh, .ref tx, .ref lo, .ref nl])), (rw, .inr (6, [.ref am, .ref q, .ref bq])), (am, zaL (G.2 0) 41 (f)), (q, .inr (2, [.ref sa, .ref da, .ref wa, .long (lz (qu9)), .long (lz (qd9)), .int (iz (pq9))])), (sa, .inr (9, [.ref sb, .int (iz (sn9)), .long (lz (st9))])), (sb, zaL (G.2 0) 40 (sf9)), (da, .inr (9, [.ref db, .int (iz (dn9)), .long (lz (dt9))])), (db, zaL (G.2 0) 40 (df9))] H := hP
  have hD : va_D A [(x, .inr (10, [.ref ro, .ref rw, .ref bo, .ref li, .ref sh, .ref tx, .ref lo, .ref nl])), (rw, .inr (6, [.ref am, .ref q, .ref bq])), (am, zaL (G.2 0) 41 (f)), (q, .inr (2, [.ref sa, .ref da, .ref wa, .long (lz (qu9)), .long (lz (qd9)), .int (iz (pq9))])), (sa, .inr (9, [.ref sb, .int (iz (sn9)), .long (lz (st9))])), (sb, zaL (G.2 0) 40 (sf9)), (da, .inr (9, [.ref db, .int (iz (dn9)), .long (lz (dt9))])), (db, zaL (G.2 0) 40 (df9))] := hD
  have hz : zz = (znm f po).sign ∧ qu9 = zqu po ∧ qd9 = zqd po := hz
  rw [hQ]
  exact vx_ret (zr_iret (z := zz) (u := (sf9, sn9, st9, df9, dn9, dt9, pq9, qu9, qd9)) hx hb hr hlocks hP hD hS (by first | exact Nat.le_of_ble_eq_true rfl | omega) (by first | exact Nat.le_of_ble_eq_true rfl | omega) dX9_signAt_12 (show (0 ≤ po ∧ po ≤ 20000) ∧ zz = (znm f po).sign from ⟨by omega, hz.1⟩))

def rm_c_X9_changes : Room := { frames := 1, cells := 0, slots := 0, locals := 28 }
theorem iw_X9_changes_X9 : ∀ w ∈ wsX90, w ∈ wsX9_changes := by decide +kernel
set_option maxHeartbeats 1000000 in
set_option maxRecDepth 100000 in
theorem c_X9_changes (l : Launch) (G : zG) (x : Nat) (ro : Nat) (rw : Nat) (bo : Nat) (li : Nat) (sh : Nat) (tx : Nat) (lo : Nat) (nl : Nat) (am : Nat) (q : Nat) (bq : Nat) (f : Int → Int) (hf : zrok f) : zM l G yX9_changes wsX9_changes rm_c_X9_changes [.ref x] [(x, .inr (10, [.ref ro, .ref rw, .ref bo, .ref li, .ref sh, .ref tx, .ref lo, .ref nl])), (rw, .inr (6, [.ref am, .ref q, .ref bq])), (am, zaL (G.2 0) 41 (f))] (fun A => zQi G (fun (z : Int) (_ : Unit) => z = zchg f 41 ∧ 0 ≤ z ∧ z ≤ 41) (fun (_ : Unit) => [(x, .inr (10, [.ref ro, .ref rw, .ref bo, .ref li, .ref sh, .ref tx, .ref lo, .ref nl])), (rw, .inr (6, [.ref am, .ref q, .ref bq])), (am, zaL (G.2 0) 41 (f))]) A) 0 0 := by
  refine zM_of (cc := cX9_changes) (maxL := 1) (ret := (some .int)) (by decide) rfl (Nat.le_of_ble_eq_true rfl) ?_
  intro p e s m below meth c ls A Q hQ hx hb hr hts hown hlocks hml hnm hKX hP hD hA hS hl
  have hK := hKX.1
  have iwX9 := iw_X9_changes_X9
  obtain ⟨H, hH⟩ : ∃ h, h = s.heap := ⟨_, rfl⟩
  obtain ⟨locs, hlo⟩ : ∃ h : List Loc, h = [] := ⟨_, rfl⟩
  have hS : va_S A s.heap H locs := by rw [hH, hlo]; exact hS
  have hP : va_P G.1 vwCl [(x, .inr (10, [.ref ro, .ref rw, .ref bo, .ref li, .ref sh, .ref tx, .ref lo, .ref nl])), (rw, .inr (6, [.ref am, .ref q, .ref bq])), (am, zaL (G.2 0) 41 (f))] H := by rw [hH]; exact hP
  have hD : va_D A [(x, .inr (10, [.ref ro, .ref rw, .ref bo, .ref li, .ref sh, .ref tx, .ref lo, .ref nl])), (rw, .inr (6, [.ref am, .ref q, .ref bq])), (am, zaL (G.2 0) 41 (f))] := hD
  have hl : lv_has ls 1 [(0, .ref x)] := hl
  rw [← hH, ← hlo]
  refine lv_aload_n hx hb dX9_changes_0 rfl (lv_at hl 0 rfl) ?_
  refine va_get (D := G.1) (ci := 10) (v := .ref rw) (C := RX9) (T := TX9) (N := 8) hx hb hts iwX9 hown hK hP 0 rfl rfl 1 (by decide) (hts (.fieldLink RX9 19 "AnnuityHouse" "row" "LAnnuityHouse$Row;") (by decide +kernel)) (fun _ h9 => h9) rfl dX9_changes_1 ?_
  refine zc_i (wr := [(x, .inr (10, [.ref ro, .ref rw, .ref bo, .ref li, .ref sh, .ref tx, .ref lo, .ref nl]))]) (va_runV (As := []) (rest := []) ⟨hx, hb, hml, hown, hts⟩ (c_X5_countChanges l G rw am q bq f (by omega) H.size) (cwV 0 hts gX9_changes_X5_countChanges rfl rfl rfl (by decide +kernel) ⟨Nat.le_of_ble_eq_true rfl, Nat.le_of_ble_eq_true rfl⟩) (zpV hKX hP hD [1, 2] rfl rfl 1 6 rfl rfl) rfl rfl hl.1 rfl (lv_room (Nat.le_of_ble_eq_true rfl)) dX9_changes_4 ⟨(by first | exact Nat.le_of_ble_eq_true rfl | (show _ ≤ (0 : Nat); omega)), (by first | exact Nat.le_of_ble_eq_true rfl | (show _ ≤ (0 : Nat); omega))⟩) hP hD hS hA [1, 2] [0] rfl rfl rfl (by decide) (fun zz u_1 H locs hz hP hD hS => ?_)
  have hP : va_P G.1 vwCl [(x, .inr (10, [.ref ro, .ref rw, .ref bo, .ref li, .ref sh, .ref tx, .ref lo, .ref nl])), (rw, .inr (6, [.ref am, .ref q, .ref bq])), (am, zaL (G.2 0) 41 (f))] H := hP
  have hD : va_D A [(x, .inr (10, [.ref ro, .ref rw, .ref bo, .ref li, .ref sh, .ref tx, .ref lo, .ref nl])), (rw, .inr (6, [.ref am, .ref q, .ref bq])), (am, zaL (G.2 0) 41 (f))] := hD
  have hz : zz = zchg f 41 ∧ 0 ≤ zz ∧ zz ≤ 41 := hz
  rw [hQ]
  exact zr_iret (z := zz) (u := ()) hx hb hr hlocks hP hD hS (by first | exact Nat.le_of_ble_eq_true rfl | omega) (by first | exact Nat.le_of_ble_eq_true rfl | omega) dX9_changes_7 (show zz = zchg f 41 ∧ 0 ≤ zz ∧ zz ≤ 41 from hz)

def rm_c_X9_rowYield : Room := { frames := 7, cells := 1, slots := 6, locals := 168 }
theorem iw_X9_rowYield_X9 : ∀ w ∈ wsX90, w ∈ wsX9_rowYield := by decide +kernel
set_option maxHeartbeats 1000000 in
set_option maxRecDepth 100000 in
theorem c_X9_rowYield (l : Launch) (G : zG) (s1 : Nat) (s2 : Nat) (s3 : Nat) (x : Nat) (ro : Nat) (rw : Nat) (bo : Nat) (li : Nat) (sh : Nat) (tx : Nat) (lo : Nat) (nl : Nat) (am : Nat) (q : Nat) (bq : Nat) (f : Int → Int) (wa : Nat) (sa : Nat) (sb : Nat) (sf : Int → Int) (sn : Int) (st : Int) (da : Nat) (db : Nat) (df : Int → Int) (dn : Int) (dt : Int) (u0 : Int) (d0 : Int) (p0 : Int) (hl0 : l.stackTraces = false) (hf : zrok f) : zMt l (zXE s1 s2 s3) G yX9_rowYield wsX9_rowYield rm_c_X9_rowYield [.ref x] [(x, .inr (10, [.ref ro, .ref rw, .ref bo, .ref li, .ref sh, .ref tx, .ref lo, .ref nl])), (rw, .inr (6, [.ref am, .ref q, .ref bq])), (am, zaL (G.2 0) 41 (f)), (q, .inr (2, [.ref sa, .ref da, .ref wa, .long (lz (u0)), .long (lz (d0)), .int (iz (p0))])), (sa, .inr (9, [.ref sb, .int (iz (sn)), .long (lz (st))])), (sb, zaL (G.2 0) 40 (sf)), (da, .inr (9, [.ref db, .int (iz (dn)), .long (lz (dt))])), (db, zaL (G.2 0) 40 (df))] (fun A => zQi G (fun (z : Int) (u : (Int → Int) × Int × Int × (Int → Int) × Int × Int × Int × Int × Int) => zchg f 41 = 1 ∧ ((z = -1 ∧ (znm f 20000).sign = -zfs f 41) ∨ (0 ≤ z ∧ z ≤ 20000 ∧ ¬ (znm f z).sign = -zfs f 41 ∧ (z = 0 ∨ (znm f (z - 1)).sign = -zfs f 41)))) (fun (u : (Int → Int) × Int × Int × (Int → Int) × Int × Int × Int × Int × Int) => [(x, .inr (10, [.ref ro, .ref rw, .ref bo, .ref li, .ref sh, .ref tx, .ref lo, .ref nl])), (rw, .inr (6, [.ref am, .ref q, .ref bq])), (am, zaL (G.2 0) 41 (f)), (q, .inr (2, [.ref sa, .ref da, .ref wa, .long (lz (u.2.2.2.2.2.2.2.1)), .long (lz (u.2.2.2.2.2.2.2.2)), .int (iz (u.2.2.2.2.2.2.1))])), (sa, .inr (9, [.ref sb, .int (iz (u.2.1)), .long (lz (u.2.2.1))])), (sb, zaL (G.2 0) 40 (u.1)), (da, .inr (9, [.ref db, .int (iz (u.2.2.2.2.1)), .long (lz (u.2.2.2.2.2.1))])), (db, zaL (G.2 0) 40 (u.2.2.2.1))]) A) (SX := (Int → Int) × Int × Int × (Int → Int) × Int × Int × Int × Int × Int) (fun (E9 : String) (ux : (Int → Int) × Int × Int × (Int → Int) × Int × Int × Int × Int × Int) => (E9 = "java/lang/IllegalStateException" ∧ ¬ zchg f 41 = 1)) (fun (ux : (Int → Int) × Int × Int × (Int → Int) × Int × Int × Int × Int × Int) => [(x, .inr (10, [.ref ro, .ref rw, .ref bo, .ref li, .ref sh, .ref tx, .ref lo, .ref nl])), (rw, .inr (6, [.ref am, .ref q, .ref bq])), (am, zaL (G.2 0) 41 (f)), (q, .inr (2, [.ref sa, .ref da, .ref wa, .long (lz (ux.2.2.2.2.2.2.2.1)), .long (lz (ux.2.2.2.2.2.2.2.2)), .int (iz (ux.2.2.2.2.2.2.1))])), (sa, .inr (9, [.ref sb, .int (iz (ux.2.1)), .long (lz (ux.2.2.1))])), (sb, zaL (G.2 0) 40 (ux.1)), (da, .inr (9, [.ref db, .int (iz (ux.2.2.2.2.1)), .long (lz (ux.2.2.2.2.2.1))])), (db, zaL (G.2 0) 40 (ux.2.2.2.1))]) 1 6 := by
  refine zMt_of (cc := cX9_rowYield) (maxL := 1) (ret := (some .int)) (by decide) rfl (Nat.le_of_ble_eq_true rfl) ?_
  intro p e s m below meth c ls A Q hQ hx hb hr hts hown hlocks hml hout hKX hE hP hD hA hS hl
  have hK := hKX.1
  have iwX9 := iw_X9_rowYield_X9
  obtain ⟨H, hH⟩ : ∃ h, h = s.heap := ⟨_, rfl⟩
  obtain ⟨locs, hlo⟩ : ∃ h : List Loc, h = [] := ⟨_, rfl⟩
  have hS : va_S A s.heap H locs := by rw [hH, hlo]; exact hS
  have hP : va_P G.1 vwCl [(x, .inr (10, [.ref ro, .ref rw, .ref bo, .ref li, .ref sh, .ref tx, .ref lo, .ref nl])), (rw, .inr (6, [.ref am, .ref q, .ref bq])), (am, zaL (G.2 0) 41 (f)), (q, .inr (2, [.ref sa, .ref da, .ref wa, .long (lz (u0)), .long (lz (d0)), .int (iz (p0))])), (sa, .inr (9, [.ref sb, .int (iz (sn)), .long (lz (st))])), (sb, zaL (G.2 0) 40 (sf)), (da, .inr (9, [.ref db, .int (iz (dn)), .long (lz (dt))])), (db, zaL (G.2 0) 40 (df))] H := by rw [hH]; exact hP
  have hD : va_D A [(x, .inr (10, [.ref ro, .ref rw, .ref bo, .ref li, .ref sh, .ref tx, .ref lo, .ref nl])), (rw, .inr (6, [.ref am, .ref q, .ref bq])), (am, zaL (G.2 0) 41 (f)), (q, .inr (2, [.ref sa, .ref da, .ref wa, .long (lz (u0)), .long (lz (d0)), .int (iz (p0))])), (sa, .inr (9, [.ref sb, .int (iz (sn)), .long (lz (st))])), (sb, zaL (G.2 0) 40 (sf)), (da, .inr (9, [.ref db, .int (iz (dn)), .long (lz (dt))])), (db, zaL (G.2 0) 40 (df))] := hD
  have hl : lv_has ls 1 [(0, .ref x)] := hl
  rw [← hH, ← hlo]
  refine lv_aload_n hx hb dX9_rowYield_0 rfl (lv_at hl 0 rfl) ?_
  refine va_get (D := G.1) (ci := 10) (v := .ref rw) (C := RX9) (T := TX9) (N := 8) hx hb hts iwX9 hown hK hP 0 rfl rfl 1 (by decide) (hts (.fieldLink RX9 19 "AnnuityHouse" "row" "LAnnuityHouse$Row;") (by decide +kernel)) (fun _ h9 => h9) rfl dX9_rowYield_1 ?_
  refine zc_i (wr := [(x, .inr (10, [.ref ro, .ref rw, .ref bo, .ref li, .ref sh, .ref tx, .ref lo, .ref nl])), (q, .inr (2, [.ref sa, .ref da, .ref wa, .long (lz (u0)), .long (lz (d0)), .int (iz (p0))])), (sa, .inr (9, [.ref sb, .int (iz (sn)), .long (lz (st))])), (sb, zaL (G.2 0) 40 (sf)), (da, .inr (9, [.ref db, .int (iz (dn)), .long (lz (dt))])), (db, zaL (G.2 0) 40 (df))]) (va_runV (As := []) (rest := []) ⟨hx, hb, hml, hown, hts⟩ (c_X5_countChanges l G rw am q bq f (by omega) H.size) (cwV 0 hts gX9_rowYield_X5_countChanges rfl rfl rfl (by decide +kernel) ⟨Nat.le_of_ble_eq_true rfl, Nat.le_of_ble_eq_true rfl⟩) (zpV hKX hP hD [1, 2] rfl rfl 1 6 rfl rfl) rfl rfl hl.1 rfl (lv_room (Nat.le_of_ble_eq_true rfl)) dX9_rowYield_4 ⟨(by first | exact Nat.le_of_ble_eq_true rfl | (show _ ≤ (1 : Nat); omega)), (by first | exact Nat.le_of_ble_eq_true rfl | (show _ ≤ (6 : Nat); omega))⟩) hP hD hS hA [1, 2] [0, 3, 4, 5, 6, 7] rfl rfl rfl (by decide) (fun zc u_1 H locs hzc hP hD hS => ?_)
  have hP : va_P G.1 vwCl [(x, .inr (10, [.ref ro, .ref rw, .ref bo, .ref li, .ref sh, .ref tx, .ref lo, .ref nl])), (q, .inr (2, [.ref sa, .ref da, .ref wa, .long (lz (u0)), .long (lz (d0)), .int (iz (p0))])), (sa, .inr (9, [.ref sb, .int (iz (sn)), .long (lz (st))])), (sb, zaL (G.2 0) 40 (sf)), (da, .inr (9, [.ref db, .int (iz (dn)), .long (lz (dt))])), (db, zaL (G.2 0) 40 (df)), (rw, .inr (6, [.ref am, .ref q, .ref bq])), (am, zaL (G.2 0) 41 (f))] H := hP
  have hD : va_D A [(x, .inr (10, [.ref ro, .ref rw, .ref bo, .ref li, .ref sh, .ref tx, .ref lo, .ref nl])), (q, .inr (2, [.ref sa, .ref da, .ref wa, .long (lz (u0)), .long (lz (d0)), .int (iz (p0))])), (sa, .inr (9, [.ref sb, .int (iz (sn)), .long (lz (st))])), (sb, zaL (G.2 0) 40 (sf)), (da, .inr (9, [.ref db, .int (iz (dn)), .long (lz (dt))])), (db, zaL (G.2 0) 40 (df)), (rw, .inr (6, [.ref am, .ref q, .ref bq])), (am, zaL (G.2 0) 41 (f))] := hD
  have hzc : zc = zchg f 41 ∧ 0 ≤ zc ∧ zc ≤ 41 := hzc
  have hl_16 : ∀ (bq9 : Bool) (H : Heap) (locs : List Loc) (ls : Array Slot), (bq9 = decide (zchg f 41 = 1)) → va_P G.1 vwCl [(x, .inr (10, [.ref ro, .ref rw, .ref bo, .ref li, .ref sh, .ref tx, .ref lo, .ref nl])), (q, .inr (2, [.ref sa, .ref da, .ref wa, .long (lz (u0)), .long (lz (d0)), .int (iz (p0))])), (sa, .inr (9, [.ref sb, .int (iz (sn)), .long (lz (st))])), (sb, zaL (G.2 0) 40 (sf)), (da, .inr (9, [.ref db, .int (iz (dn)), .long (lz (dt))])), (db, zaL (G.2 0) 40 (df)), (rw, .inr (6, [.ref am, .ref q, .ref bq])), (am, zaL (G.2 0) 41 (f))] H → va_D A [(x, .inr (10, [.ref ro, .ref rw, .ref bo, .ref li, .ref sh, .ref tx, .ref lo, .ref nl])), (q, .inr (2, [.ref sa, .ref da, .ref wa, .long (lz (u0)), .long (lz (d0)), .int (iz (p0))])), (sa, .inr (9, [.ref sb, .int (iz (sn)), .long (lz (st))])), (sb, zaL (G.2 0) 40 (sf)), (da, .inr (9, [.ref db, .int (iz (dn)), .long (lz (dt))])), (db, zaL (G.2 0) 40 (df)), (rw, .inr (6, [.ref am, .ref q, .ref bq])), (am, zaL (G.2 0) 41 (f))] → va_S A s.heap H locs → lv_has ls 1 [(0, .ref x)] → W p l e rm_c_X9_rowYield s m ([.ref x] : List Value).toArray below meth c H locs (0 + 0) (0 + 0) Q (F0 m 16 ls [.int (iz (zbb bq9))]) := by
    intro bq9 H locs ls jq hP hD hS hl
    refine zct_v (wr := [(x, .inr (10, [.ref ro, .ref rw, .ref bo, .ref li, .ref sh, .ref tx, .ref lo, .ref nl])), (q, .inr (2, [.ref sa, .ref da, .ref wa, .long (lz (u0)), .long (lz (d0)), .int (iz (p0))])), (sa, .inr (9, [.ref sb, .int (iz (sn)), .long (lz (st))])), (sb, zaL (G.2 0) 40 (sf)), (da, .inr (9, [.ref db, .int (iz (dn)), .long (lz (dt))])), (db, zaL (G.2 0) 40 (df)), (rw, .inr (6, [.ref am, .ref q, .ref bq])), (am, zaL (G.2 0) 41 (f))]) (vx_runS (As := [.int (iz (zbb bq9))]) (rest := []) ⟨hx, hb, hml, hown, hts⟩ (c_X9_demandState_t l G s1 s2 s3 bq9 hl0 H.size) (va_cwS 1 hts gX9_rowYield_X9_demandState rfl rfl rfl (by decide +kernel) ⟨Nat.le_of_ble_eq_true rfl, Nat.le_of_ble_eq_true rfl⟩) (zpSe zXE_ok hE hS hA hKX hP hD [] rfl rfl) rfl rfl hl.1 rfl (lv_room (Nat.le_of_ble_eq_true rfl)) dX9_rowYield_16 ⟨(by first | exact Nat.le_of_ble_eq_true rfl | (show _ ≤ (1 : Nat); omega)), (by first | exact Nat.le_of_ble_eq_true rfl | (show _ ≤ (6 : Nat); omega))⟩) hP hD hS hA [] [0, 1, 2, 3, 4, 5, 6, 7] rfl rfl rfl (by decide) (fun E9 ce9 q9 ux_5 H locs hx9_6 hP hD hS hce9 hcv9 hcl9 => ?_) (fun u_4 H locs td hP hD hS => ?_)
    ·
      have hP : va_P G.1 vwCl [(x, .inr (10, [.ref ro, .ref rw, .ref bo, .ref li, .ref sh, .ref tx, .ref lo, .ref nl])), (q, .inr (2, [.ref sa, .ref da, .ref wa, .long (lz (u0)), .long (lz (d0)), .int (iz (p0))])), (sa, .inr (9, [.ref sb, .int (iz (sn)), .long (lz (st))])), (sb, zaL (G.2 0) 40 (sf)), (da, .inr (9, [.ref db, .int (iz (dn)), .long (lz (dt))])), (db, zaL (G.2 0) 40 (df)), (rw, .inr (6, [.ref am, .ref q, .ref bq])), (am, zaL (G.2 0) 41 (f))] H := hP
      have hD : va_D A [(x, .inr (10, [.ref ro, .ref rw, .ref bo, .ref li, .ref sh, .ref tx, .ref lo, .ref nl])), (q, .inr (2, [.ref sa, .ref da, .ref wa, .long (lz (u0)), .long (lz (d0)), .int (iz (p0))])), (sa, .inr (9, [.ref sb, .int (iz (sn)), .long (lz (st))])), (sb, zaL (G.2 0) 40 (sf)), (da, .inr (9, [.ref db, .int (iz (dn)), .long (lz (dt))])), (db, zaL (G.2 0) 40 (df)), (rw, .inr (6, [.ref am, .ref q, .ref bq])), (am, zaL (G.2 0) 41 (f))] := hD
      rcases hx9_6 with ⟨rfl, hxc⟩
      ·
        have hxc : bq9 = false := hxc
        rw [hQ]
        exact zt_out (sf, sn, st, df, dn, dt, p0, u0, d0) hout hlocks hce9 hcv9 hcl9 (hP.sub [0, 6, 7, 1, 2, 3, 4, 5] rfl) (hD.sub [0, 6, 7, 1, 2, 3, 4, 5] (by decide) rfl) hS ⟨rfl, (show ¬ zchg f 41 = 1 from of_decide_eq_false (jq.symm.trans hxc))⟩ (by first | exact Nat.le_of_ble_eq_true rfl | omega) (by first | exact Nat.le_of_ble_eq_true rfl | omega)
    have hP : va_P G.1 vwCl [(x, .inr (10, [.ref ro, .ref rw, .ref bo, .ref li, .ref sh, .ref tx, .ref lo, .ref nl])), (q, .inr (2, [.ref sa, .ref da, .ref wa, .long (lz (u0)), .long (lz (d0)), .int (iz (p0))])), (sa, .inr (9, [.ref sb, .int (iz (sn)), .long (lz (st))])), (sb, zaL (G.2 0) 40 (sf)), (da, .inr (9, [.ref db, .int (iz (dn)), .long (lz (dt))])), (db, zaL (G.2 0) 40 (df)), (rw, .inr (6, [.ref am, .ref q, .ref bq])), (am, zaL (G.2 0) 41 (f))] H := hP
    have hD : va_D A [(x, .inr (10, [.ref ro, .ref rw, .ref bo, .ref li, .ref sh, .ref tx, .ref lo, .ref nl])), (q, .inr (2, [.ref sa, .ref da, .ref wa, .long (lz (u0)), .long (lz (d0)), .int (iz (p0))])), (sa, .inr (9, [.ref sb, .int (iz (sn)), .long (lz (st))])), (sb, zaL (G.2 0) 40 (sf)), (da, .inr (9, [.ref db, .int (iz (dn)), .long (lz (dt))])), (db, zaL (G.2 0) 40 (df)), (rw, .inr (6, [.ref am, .ref q, .ref bq])), (am, zaL (G.2 0) 41 (f))] := hD
    have td : bq9 = true := td
    refine lv_aload_n hx hb dX9_rowYield_19 rfl (lv_at hl 0 rfl) ?_
    refine va_get (D := G.1) (ci := 10) (v := .ref rw) (C := RX9) (T := TX9) (N := 8) hx hb hts iwX9 hown hK hP 0 rfl rfl 1 (by decide) (hts (.fieldLink RX9 19 "AnnuityHouse" "row" "LAnnuityHouse$Row;") (by decide +kernel)) (fun _ h9 => h9) rfl dX9_rowYield_20 ?_
    refine zc_i (wr := [(x, .inr (10, [.ref ro, .ref rw, .ref bo, .ref li, .ref sh, .ref tx, .ref lo, .ref nl]))]) (va_runV (As := []) (rest := []) ⟨hx, hb, hml, hown, hts⟩ (c_X5_yieldPoints l G rw am q bq f wa sa sb sf sn st da db df dn dt u0 d0 p0 (by omega) H.size) (cwV 0 hts gX9_rowYield_X5_yieldPoints rfl rfl rfl (by decide +kernel) ⟨Nat.le_of_ble_eq_true rfl, Nat.le_of_ble_eq_true rfl⟩) (zpV hKX hP hD [6, 7, 1, 2, 3, 4, 5] rfl rfl 6 6 rfl rfl) rfl rfl hl.1 rfl (lv_room (Nat.le_of_ble_eq_true rfl)) dX9_rowYield_23 ⟨(by first | exact Nat.le_of_ble_eq_true rfl | (show _ ≤ (1 : Nat); omega)), (by first | exact Nat.le_of_ble_eq_true rfl | (show _ ≤ (6 : Nat); omega))⟩) hP hD hS hA [6, 7, 1, 2, 3, 4, 5] [0] rfl rfl rfl (by decide) (fun zz u_7 H locs hz hP hD hS => ?_)
    obtain ⟨sf9, sn9, st9, df9, dn9, dt9, pq9, qu9, qd9⟩ := u_7
    have hP : va_P G.1 vwCl [(x, .inr (10, [.ref ro, .ref rw, .ref bo, .ref li, .ref sh, .ref tx, .ref lo, .ref nl])), (rw, .inr (6, [.ref am, .ref q, .ref bq])), (am, zaL (G.2 0) 41 (f)), (q, .inr (2, [.ref sa, .ref da, .ref wa, .long (lz (qu9)), .long (lz (qd9)), .int (iz (pq9))])), (sa, .inr (9, [.ref sb, .int (iz (sn9)), .long (lz (st9))])), (sb, zaL (G.2 0) 40 (sf9)), (da, .inr (9, [.ref db, .int (iz (dn9)), .long (lz (dt9))])), (db, zaL (G.2 0) 40 (df9))] H := hP
    have hD : va_D A [(x, .inr (10, [.ref ro, .ref rw, .ref bo, .ref li, .ref sh, .ref tx, .ref lo, .ref nl])), (rw, .inr (6, [.ref am, .ref q, .ref bq])), (am, zaL (G.2 0) 41 (f)), (q, .inr (2, [.ref sa, .ref da, .ref wa, .long (lz (qu9)), .long (lz (qd9)), .int (iz (pq9))])), (sa, .inr (9, [.ref sb, .int (iz (sn9)), .long (lz (st9))])), (sb, zaL (G.2 0) 40 (sf9)), (da, .inr (9, [.ref db, .int (iz (dn9)), .long (lz (dt9))])), (db, zaL (G.2 0) 40 (df9))] := hD
    have hz : ((zz = -1 ∧ (znm f (20000)).sign = -zfs f 41) ∨ (0 ≤ zz ∧ zz ≤ 20000 ∧ ¬ (znm f (zz)).sign = -zfs f 41 ∧ (zz = 0 ∨ (znm f (zz - 1)).sign = -zfs f 41))) := hz
    rw [hQ]
    exact vx_ret (zr_iret (z := zz) (u := (sf9, sn9, st9, df9, dn9, dt9, pq9, qu9, qd9)) hx hb hr hlocks hP hD hS (by first | exact Nat.le_of_ble_eq_true rfl | omega) (by first | exact Nat.le_of_ble_eq_true rfl | omega) dX9_rowYield_26 (show zchg f 41 = 1 ∧ ((zz = -1 ∧ (znm f 20000).sign = -zfs f 41) ∨ (0 ≤ zz ∧ zz ≤ 20000 ∧ ¬ (znm f zz).sign = -zfs f 41 ∧ (zz = 0 ∨ (znm f (zz - 1)).sign = -zfs f 41))) from ⟨of_decide_eq_true (jq.symm.trans td), hz⟩))
  refine lv_iconst (v := iz (1)) hx hb dX9_rowYield_7 rfl ?_
  refine zr_icmp_ne (x := zc) (y := 1) (tgt := 15) hx hb (⟨by omega, by omega⟩) (⟨by omega, by omega⟩) dX9_rowYield_8 (by decide) (fun h_9 => ?_) (fun h_9 => ?_)
  ·
    refine lv_iconst (v := iz (0)) hx hb dX9_rowYield_15 rfl ?_
    exact hl_16 false _ _ _ (by rw [← hzc.1]; first | exact (decide_eq_true (by omega)).symm | exact (decide_eq_false (by omega)).symm) (hP) (hD) hS (hl)
  ·
    refine lv_iconst (v := iz (1)) hx hb dX9_rowYield_11 rfl ?_
    refine lv_goto (tgt := 16) hx hb dX9_rowYield_12 (by decide) ?_
    exact hl_16 true _ _ _ (by rw [← hzc.1]; first | exact (decide_eq_true (by omega)).symm | exact (decide_eq_false (by omega)).symm) (hP) (hD) hS (hl)

def rm_c_X9_price : Room := { frames := 10, cells := 5, slots := 30, locals := 189 }
theorem iw_X9_price_X9 : ∀ w ∈ wsX90, w ∈ wsX9_price := by decide +kernel
set_option maxHeartbeats 1000000 in
set_option maxRecDepth 100000 in
theorem c_X9_price (l : Launch) (G : zG) (s1 : Nat) (s2 : Nat) (s3 : Nat) (x : Nat) (ro : Nat) (rw : Nat) (bo : Nat) (li : Nat) (sh : Nat) (tx : Nat) (lo : Nat) (nl : Nat) (q : Nat) (md : Int) (sa : Nat) (sb : Nat) (sf : Int → Int) (sn : Int) (st : Int) (da : Nat) (db : Nat) (df : Int → Int) (dn : Int) (dt : Int) (wa : Nat) (wb : Nat) (wf : Int → Int) (wn : Int) (wt : Int) (u0 : Int) (d0 : Int) (p0 : Int) (cp : Int) (fa : Int) (pr : Int) (po : Int) (hl0 : l.stackTraces = false) (r_cp : -9223372036854775808 ≤ cp ∧ cp < 9223372036854775808) (r_fa : -9223372036854775808 ≤ fa ∧ fa < 9223372036854775808) (r_pr : -2147483648 ≤ pr ∧ pr < 2147483648) (r_po : -2147483648 ≤ po ∧ po < 2147483648) (hmd : 0 ≤ md ∧ md ≤ 7) : zMt l (zXE s1 s2 s3) G yX9_price wsX9_price rm_c_X9_price [.ref x, .long (lz (cp)), .long (lz (fa)), .int (iz (pr)), .int (iz (po))] [(x, .inr (10, [.ref ro, .ref rw, .ref bo, .ref li, .ref sh, .ref tx, .ref lo, .ref nl])), (bo, .inr (1, [.ref q])), (q, .inr (2, [.ref sa, .ref da, .ref wa, .long (lz (u0)), .long (lz (d0)), .int (iz (p0))])), (sa, .inr (9, [.ref sb, .int (iz (sn)), .long (lz (st))])), (sb, zaL (G.2 0) 40 (sf)), (da, .inr (9, [.ref db, .int (iz (dn)), .long (lz (dt))])), (db, zaL (G.2 0) 40 (df)), (wa, .inr (9, [.ref wb, .int (iz (wn)), .long (lz (wt))])), (wb, zaL (G.2 0) 40 (wf)), (ro, .inr (5, [.int (iz (md))]))] (fun A => zQl G (fun (z : Int) (u : (Int → Int) × Int × Int × (Int → Int) × Int × Int × (Int → Int) × Int × Int × Int × Int × Int) => (0 ≤ cp ∧ cp ≤ 1000000000 ∧ 0 ≤ fa ∧ fa ≤ 1000000000 ∧ 1 ≤ pr ∧ pr ≤ 40 ∧ 0 ≤ po ∧ po ≤ 20000) ∧ (znm (zbf cp fa pr) po % zqq po 0 = 0 ∨ md ≠ 7) ∧ z = zrd md (znm (zbf cp fa pr) po) (zqq po 0)) (fun (u : (Int → Int) × Int × Int × (Int → Int) × Int × Int × (Int → Int) × Int × Int × Int × Int × Int) => [(x, .inr (10, [.ref ro, .ref rw, .ref bo, .ref li, .ref sh, .ref tx, .ref lo, .ref nl])), (bo, .inr (1, [.ref q])), (q, .inr (2, [.ref sa, .ref da, .ref wa, .long (lz (u.2.2.2.2.2.2.2.2.2.1)), .long (lz (u.2.2.2.2.2.2.2.2.2.2.1)), .int (iz (u.2.2.2.2.2.2.2.2.2.2.2))])), (sa, .inr (9, [.ref sb, .int (iz (u.2.1)), .long (lz (u.2.2.1))])), (sb, zaL (G.2 0) 40 (u.1)), (da, .inr (9, [.ref db, .int (iz (u.2.2.2.2.1)), .long (lz (u.2.2.2.2.2.1))])), (db, zaL (G.2 0) 40 (u.2.2.2.1)), (wa, .inr (9, [.ref wb, .int (iz (u.2.2.2.2.2.2.2.1)), .long (lz (u.2.2.2.2.2.2.2.2.1))])), (wb, zaL (G.2 0) 40 (u.2.2.2.2.2.2.1)), (ro, .inr (5, [.int (iz (md))]))]) A) (SX := (Int → Int) × Int × Int × (Int → Int) × Int × Int × (Int → Int) × Int × Int × Int × Int × Int) (fun (E9 : String) (ux : (Int → Int) × Int × Int × (Int → Int) × Int × Int × (Int → Int) × Int × Int × Int × Int × Int) => (E9 = "java/lang/IllegalArgumentException" ∧ ¬ (0 ≤ cp ∧ cp ≤ 1000000000 ∧ 0 ≤ fa ∧ fa ≤ 1000000000 ∧ 1 ≤ pr ∧ pr ≤ 40 ∧ 0 ≤ po ∧ po ≤ 20000)) ∨ (E9 = "java/lang/IllegalStateException" ∧ (0 ≤ cp ∧ cp ≤ 1000000000 ∧ 0 ≤ fa ∧ fa ≤ 1000000000 ∧ 1 ≤ pr ∧ pr ≤ 40 ∧ 0 ≤ po ∧ po ≤ 20000) ∧ md = 7 ∧ znm (zbf cp fa pr) po % zqq po 0 ≠ 0)) (fun (ux : (Int → Int) × Int × Int × (Int → Int) × Int × Int × (Int → Int) × Int × Int × Int × Int × Int) => [(x, .inr (10, [.ref ro, .ref rw, .ref bo, .ref li, .ref sh, .ref tx, .ref lo, .ref nl])), (bo, .inr (1, [.ref q])), (q, .inr (2, [.ref sa, .ref da, .ref wa, .long (lz (ux.2.2.2.2.2.2.2.2.2.1)), .long (lz (ux.2.2.2.2.2.2.2.2.2.2.1)), .int (iz (ux.2.2.2.2.2.2.2.2.2.2.2))])), (sa, .inr (9, [.ref sb, .int (iz (ux.2.1)), .long (lz (ux.2.2.1))])), (sb, zaL (G.2 0) 40 (ux.1)), (da, .inr (9, [.ref db, .int (iz (ux.2.2.2.2.1)), .long (lz (ux.2.2.2.2.2.1))])), (db, zaL (G.2 0) 40 (ux.2.2.2.1)), (wa, .inr (9, [.ref wb, .int (iz (ux.2.2.2.2.2.2.2.1)), .long (lz (ux.2.2.2.2.2.2.2.2.1))])), (wb, zaL (G.2 0) 40 (ux.2.2.2.2.2.2.1)), (ro, .inr (5, [.int (iz (md))]))]) 5 30 := by
  refine zMt_of (cc := cX9_price) (maxL := 7) (ret := (some .long)) (by decide) rfl (Nat.le_of_ble_eq_true rfl) ?_
  intro p e s m below meth c ls A Q hQ hx hb hr hts hown hlocks hml hout hKX hE hP hD hA hS hl
  have hK := hKX.1
  have iwX9 := iw_X9_price_X9
  obtain ⟨H, hH⟩ : ∃ h, h = s.heap := ⟨_, rfl⟩
  obtain ⟨locs, hlo⟩ : ∃ h : List Loc, h = [] := ⟨_, rfl⟩
  have hS : va_S A s.heap H locs := by rw [hH, hlo]; exact hS
  have hP : va_P G.1 vwCl [(x, .inr (10, [.ref ro, .ref rw, .ref bo, .ref li, .ref sh, .ref tx, .ref lo, .ref nl])), (bo, .inr (1, [.ref q])), (q, .inr (2, [.ref sa, .ref da, .ref wa, .long (lz (u0)), .long (lz (d0)), .int (iz (p0))])), (sa, .inr (9, [.ref sb, .int (iz (sn)), .long (lz (st))])), (sb, zaL (G.2 0) 40 (sf)), (da, .inr (9, [.ref db, .int (iz (dn)), .long (lz (dt))])), (db, zaL (G.2 0) 40 (df)), (wa, .inr (9, [.ref wb, .int (iz (wn)), .long (lz (wt))])), (wb, zaL (G.2 0) 40 (wf)), (ro, .inr (5, [.int (iz (md))]))] H := by rw [hH]; exact hP
  have hD : va_D A [(x, .inr (10, [.ref ro, .ref rw, .ref bo, .ref li, .ref sh, .ref tx, .ref lo, .ref nl])), (bo, .inr (1, [.ref q])), (q, .inr (2, [.ref sa, .ref da, .ref wa, .long (lz (u0)), .long (lz (d0)), .int (iz (p0))])), (sa, .inr (9, [.ref sb, .int (iz (sn)), .long (lz (st))])), (sb, zaL (G.2 0) 40 (sf)), (da, .inr (9, [.ref db, .int (iz (dn)), .long (lz (dt))])), (db, zaL (G.2 0) 40 (df)), (wa, .inr (9, [.ref wb, .int (iz (wn)), .long (lz (wt))])), (wb, zaL (G.2 0) 40 (wf)), (ro, .inr (5, [.int (iz (md))]))] := hD
  have hl : lv_has ls 7 [(0, .ref x), (1, .long (lz (cp))), (3, .long (lz (fa))), (5, .int (iz (pr))), (6, .int (iz (po)))] := hl
  rw [← hH, ← hlo]
  refine lv_lload_n hx hb dX9_price_0 rfl (lv_at hl 1 rfl) ?_
  refine lv_lload_n hx hb dX9_price_1 rfl (lv_at hl 2 rfl) ?_
  refine lv_iload hx hb dX9_price_2 (lv_at hl 3 rfl) ?_
  refine zct_v (wr := [(x, .inr (10, [.ref ro, .ref rw, .ref bo, .ref li, .ref sh, .ref tx, .ref lo, .ref nl])), (bo, .inr (1, [.ref q])), (q, .inr (2, [.ref sa, .ref da, .ref wa, .long (lz (u0)), .long (lz (d0)), .int (iz (p0))])), (sa, .inr (9, [.ref sb, .int (iz (sn)), .long (lz (st))])), (sb, zaL (G.2 0) 40 (sf)), (da, .inr (9, [.ref db, .int (iz (dn)), .long (lz (dt))])), (db, zaL (G.2 0) 40 (df)), (wa, .inr (9, [.ref wb, .int (iz (wn)), .long (lz (wt))])), (wb, zaL (G.2 0) 40 (wf)), (ro, .inr (5, [.int (iz (md))]))]) (vx_runS (As := [.long (lz (cp)), .long (lz (fa)), .int (iz (pr))]) (rest := []) ⟨hx, hb, hml, hown, hts⟩ (c_X9_demandBond l G s1 s2 s3 cp fa pr hl0 (by omega) (by omega) (by omega) H.size) (va_cwS 3 hts gX9_price_X9_demandBond rfl rfl rfl (by decide +kernel) ⟨Nat.le_of_ble_eq_true rfl, Nat.le_of_ble_eq_true rfl⟩) (zpSe zXE_ok hE hS hA hKX hP hD [] rfl rfl) rfl rfl hl.1 rfl (lv_room (Nat.le_of_ble_eq_true rfl)) dX9_price_4 ⟨(by first | exact Nat.le_of_ble_eq_true rfl | (show _ ≤ (5 : Nat); omega)), (by first | exact Nat.le_of_ble_eq_true rfl | (show _ ≤ (30 : Nat); omega))⟩) hP hD hS hA [] [0, 1, 2, 3, 4, 5, 6, 7, 8, 9] rfl rfl rfl (by decide) (fun E9 ce9 q9 ux_3 H locs hx9_4 hP hD hS hce9 hcv9 hcl9 => ?_) (fun u_2 H locs tb hP hD hS => ?_)
  ·
    have hP : va_P G.1 vwCl [(x, .inr (10, [.ref ro, .ref rw, .ref bo, .ref li, .ref sh, .ref tx, .ref lo, .ref nl])), (bo, .inr (1, [.ref q])), (q, .inr (2, [.ref sa, .ref da, .ref wa, .long (lz (u0)), .long (lz (d0)), .int (iz (p0))])), (sa, .inr (9, [.ref sb, .int (iz (sn)), .long (lz (st))])), (sb, zaL (G.2 0) 40 (sf)), (da, .inr (9, [.ref db, .int (iz (dn)), .long (lz (dt))])), (db, zaL (G.2 0) 40 (df)), (wa, .inr (9, [.ref wb, .int (iz (wn)), .long (lz (wt))])), (wb, zaL (G.2 0) 40 (wf)), (ro, .inr (5, [.int (iz (md))]))] H := hP
    have hD : va_D A [(x, .inr (10, [.ref ro, .ref rw, .ref bo, .ref li, .ref sh, .ref tx, .ref lo, .ref nl])), (bo, .inr (1, [.ref q])), (q, .inr (2, [.ref sa, .ref da, .ref wa, .long (lz (u0)), .long (lz (d0)), .int (iz (p0))])), (sa, .inr (9, [.ref sb, .int (iz (sn)), .long (lz (st))])), (sb, zaL (G.2 0) 40 (sf)), (da, .inr (9, [.ref db, .int (iz (dn)), .long (lz (dt))])), (db, zaL (G.2 0) 40 (df)), (wa, .inr (9, [.ref wb, .int (iz (wn)), .long (lz (wt))])), (wb, zaL (G.2 0) 40 (wf)), (ro, .inr (5, [.int (iz (md))]))] := hD
    rcases hx9_4 with ⟨rfl, hxc⟩
    ·
      have hxc : ¬ (0 ≤ cp ∧ cp ≤ 1000000000 ∧ 0 ≤ fa ∧ fa ≤ 1000000000 ∧ 1 ≤ pr ∧ pr ≤ 40) := hxc
      rw [hQ]
      exact zt_out (sf, sn, st, df, dn, dt, wf, wn, wt, u0, d0, p0) hout hlocks hce9 hcv9 hcl9 hP hD hS (Or.inl ⟨rfl, (show ¬ (0 ≤ cp ∧ cp ≤ 1000000000 ∧ 0 ≤ fa ∧ fa ≤ 1000000000 ∧ 1 ≤ pr ∧ pr ≤ 40 ∧ 0 ≤ po ∧ po ≤ 20000) from by omega)⟩) (by first | exact Nat.le_of_ble_eq_true rfl | omega) (by first | exact Nat.le_of_ble_eq_true rfl | omega)
  have hP : va_P G.1 vwCl [(x, .inr (10, [.ref ro, .ref rw, .ref bo, .ref li, .ref sh, .ref tx, .ref lo, .ref nl])), (bo, .inr (1, [.ref q])), (q, .inr (2, [.ref sa, .ref da, .ref wa, .long (lz (u0)), .long (lz (d0)), .int (iz (p0))])), (sa, .inr (9, [.ref sb, .int (iz (sn)), .long (lz (st))])), (sb, zaL (G.2 0) 40 (sf)), (da, .inr (9, [.ref db, .int (iz (dn)), .long (lz (dt))])), (db, zaL (G.2 0) 40 (df)), (wa, .inr (9, [.ref wb, .int (iz (wn)), .long (lz (wt))])), (wb, zaL (G.2 0) 40 (wf)), (ro, .inr (5, [.int (iz (md))]))] H := hP
  have hD : va_D A [(x, .inr (10, [.ref ro, .ref rw, .ref bo, .ref li, .ref sh, .ref tx, .ref lo, .ref nl])), (bo, .inr (1, [.ref q])), (q, .inr (2, [.ref sa, .ref da, .ref wa, .long (lz (u0)), .long (lz (d0)), .int (iz (p0))])), (sa, .inr (9, [.ref sb, .int (iz (sn)), .long (lz (st))])), (sb, zaL (G.2 0) 40 (sf)), (da, .inr (9, [.ref db, .int (iz (dn)), .long (lz (dt))])), (db, zaL (G.2 0) 40 (df)), (wa, .inr (9, [.ref wb, .int (iz (wn)), .long (lz (wt))])), (wb, zaL (G.2 0) 40 (wf)), (ro, .inr (5, [.int (iz (md))]))] := hD
  have tb : 0 ≤ cp ∧ cp ≤ 1000000000 ∧ 0 ≤ fa ∧ fa ≤ 1000000000 ∧ 1 ≤ pr ∧ pr ≤ 40 := tb
  refine lv_iload hx hb dX9_price_7 (lv_at hl 4 rfl) ?_
  refine zct_v (wr := [(x, .inr (10, [.ref ro, .ref rw, .ref bo, .ref li, .ref sh, .ref tx, .ref lo, .ref nl])), (bo, .inr (1, [.ref q])), (q, .inr (2, [.ref sa, .ref da, .ref wa, .long (lz (u0)), .long (lz (d0)), .int (iz (p0))])), (sa, .inr (9, [.ref sb, .int (iz (sn)), .long (lz (st))])), (sb, zaL (G.2 0) 40 (sf)), (da, .inr (9, [.ref db, .int (iz (dn)), .long (lz (dt))])), (db, zaL (G.2 0) 40 (df)), (wa, .inr (9, [.ref wb, .int (iz (wn)), .long (lz (wt))])), (wb, zaL (G.2 0) 40 (wf)), (ro, .inr (5, [.int (iz (md))]))]) (vx_runS (As := [.int (iz (po))]) (rest := []) ⟨hx, hb, hml, hown, hts⟩ (c_X9_demandRate l G s1 s2 s3 po hl0 (by omega) H.size) (va_cwS 1 hts gX9_price_X9_demandRate rfl rfl rfl (by decide +kernel) ⟨Nat.le_of_ble_eq_true rfl, Nat.le_of_ble_eq_true rfl⟩) (zpSe zXE_ok hE hS hA hKX hP hD [] rfl rfl) rfl rfl hl.1 rfl (lv_room (Nat.le_of_ble_eq_true rfl)) dX9_price_9 ⟨(by first | exact Nat.le_of_ble_eq_true rfl | (show _ ≤ (5 : Nat); omega)), (by first | exact Nat.le_of_ble_eq_true rfl | (show _ ≤ (30 : Nat); omega))⟩) hP hD hS hA [] [0, 1, 2, 3, 4, 5, 6, 7, 8, 9] rfl rfl rfl (by decide) (fun E9 ce9 q9 ux_7 H locs hx9_8 hP hD hS hce9 hcv9 hcl9 => ?_) (fun u_6 H locs tr9 hP hD hS => ?_)
  ·
    have hP : va_P G.1 vwCl [(x, .inr (10, [.ref ro, .ref rw, .ref bo, .ref li, .ref sh, .ref tx, .ref lo, .ref nl])), (bo, .inr (1, [.ref q])), (q, .inr (2, [.ref sa, .ref da, .ref wa, .long (lz (u0)), .long (lz (d0)), .int (iz (p0))])), (sa, .inr (9, [.ref sb, .int (iz (sn)), .long (lz (st))])), (sb, zaL (G.2 0) 40 (sf)), (da, .inr (9, [.ref db, .int (iz (dn)), .long (lz (dt))])), (db, zaL (G.2 0) 40 (df)), (wa, .inr (9, [.ref wb, .int (iz (wn)), .long (lz (wt))])), (wb, zaL (G.2 0) 40 (wf)), (ro, .inr (5, [.int (iz (md))]))] H := hP
    have hD : va_D A [(x, .inr (10, [.ref ro, .ref rw, .ref bo, .ref li, .ref sh, .ref tx, .ref lo, .ref nl])), (bo, .inr (1, [.ref q])), (q, .inr (2, [.ref sa, .ref da, .ref wa, .long (lz (u0)), .long (lz (d0)), .int (iz (p0))])), (sa, .inr (9, [.ref sb, .int (iz (sn)), .long (lz (st))])), (sb, zaL (G.2 0) 40 (sf)), (da, .inr (9, [.ref db, .int (iz (dn)), .long (lz (dt))])), (db, zaL (G.2 0) 40 (df)), (wa, .inr (9, [.ref wb, .int (iz (wn)), .long (lz (wt))])), (wb, zaL (G.2 0) 40 (wf)), (ro, .inr (5, [.int (iz (md))]))] := hD
    rcases hx9_8 with ⟨rfl, hxc⟩
    ·
      have hxc : ¬ (0 ≤ po ∧ po ≤ 20000) := hxc
      rw [hQ]
      exact zt_out (sf, sn, st, df, dn, dt, wf, wn, wt, u0, d0, p0) hout hlocks hce9 hcv9 hcl9 hP hD hS (Or.inl ⟨rfl, (show ¬ (0 ≤ cp ∧ cp ≤ 1000000000 ∧ 0 ≤ fa ∧ fa ≤ 1000000000 ∧ 1 ≤ pr ∧ pr ≤ 40 ∧ 0 ≤ po ∧ po ≤ 20000) from by omega)⟩) (by first | exact Nat.le_of_ble_eq_true rfl | omega) (by first | exact Nat.le_of_ble_eq_true rfl | omega)
  have hP : va_P G.1 vwCl [(x, .inr (10, [.ref ro, .ref rw, .ref bo, .ref li, .ref sh, .ref tx, .ref lo, .ref nl])), (bo, .inr (1, [.ref q])), (q, .inr (2, [.ref sa, .ref da, .ref wa, .long (lz (u0)), .long (lz (d0)), .int (iz (p0))])), (sa, .inr (9, [.ref sb, .int (iz (sn)), .long (lz (st))])), (sb, zaL (G.2 0) 40 (sf)), (da, .inr (9, [.ref db, .int (iz (dn)), .long (lz (dt))])), (db, zaL (G.2 0) 40 (df)), (wa, .inr (9, [.ref wb, .int (iz (wn)), .long (lz (wt))])), (wb, zaL (G.2 0) 40 (wf)), (ro, .inr (5, [.int (iz (md))]))] H := hP
  have hD : va_D A [(x, .inr (10, [.ref ro, .ref rw, .ref bo, .ref li, .ref sh, .ref tx, .ref lo, .ref nl])), (bo, .inr (1, [.ref q])), (q, .inr (2, [.ref sa, .ref da, .ref wa, .long (lz (u0)), .long (lz (d0)), .int (iz (p0))])), (sa, .inr (9, [.ref sb, .int (iz (sn)), .long (lz (st))])), (sb, zaL (G.2 0) 40 (sf)), (da, .inr (9, [.ref db, .int (iz (dn)), .long (lz (dt))])), (db, zaL (G.2 0) 40 (df)), (wa, .inr (9, [.ref wb, .int (iz (wn)), .long (lz (wt))])), (wb, zaL (G.2 0) 40 (wf)), (ro, .inr (5, [.int (iz (md))]))] := hD
  have tr9 : 0 ≤ po ∧ po ≤ 20000 := tr9
  refine lv_aload_n hx hb dX9_price_12 rfl (lv_at hl 0 rfl) ?_
  refine va_get (D := G.1) (ci := 10) (v := .ref bo) (C := RX9) (T := TX9) (N := 8) hx hb hts iwX9 hown hK hP 0 rfl rfl 2 (by decide) (hts (.fieldLink RX9 26 "AnnuityHouse" "bond" "LAnnuityHouse$Bond;") (by decide +kernel)) (fun _ h9 => h9) rfl dX9_price_13 ?_
  refine lv_lload_n hx hb dX9_price_16 rfl (lv_at hl 1 rfl) ?_
  refine lv_lload_n hx hb dX9_price_17 rfl (lv_at hl 2 rfl) ?_
  refine lv_iload hx hb dX9_price_18 (lv_at hl 3 rfl) ?_
  refine lv_iload hx hb dX9_price_20 (lv_at hl 4 rfl) ?_
  refine lv_aload_n hx hb dX9_price_22 rfl (lv_at hl 0 rfl) ?_
  refine va_get (D := G.1) (ci := 10) (v := .ref ro) (C := RX9) (T := TX9) (N := 8) hx hb hts iwX9 hown hK hP 0 rfl rfl 0 (by decide) (hts (.fieldLink RX9 10 "AnnuityHouse" "rounder" "LAnnuityHouse$Rounder;") (by decide +kernel)) (fun _ h9 => h9) rfl dX9_price_23 ?_
  refine zct_l (wr := [(x, .inr (10, [.ref ro, .ref rw, .ref bo, .ref li, .ref sh, .ref tx, .ref lo, .ref nl]))]) (vx_runV (As := [.long (lz (cp)), .long (lz (fa)), .int (iz (pr)), .int (iz (po)), .ref ro]) (rest := []) ⟨hx, hb, hml, hown, hts⟩ (c_X0_worthNow l G s1 s2 s3 bo q ro md sa sb sf sn st da db df dn dt wa wb wf wn wt u0 d0 p0 cp fa pr po hl0 (by omega) (by omega) (by omega) (by omega) H.size) (cwV 5 hts gX9_price_X0_worthNow rfl rfl rfl (by decide +kernel) ⟨Nat.le_of_ble_eq_true rfl, Nat.le_of_ble_eq_true rfl⟩) (zpVe zXE_ok hE hS hA hKX hP hD [1, 2, 3, 4, 5, 6, 7, 8, 9] rfl rfl (va_recv hK hP (ci := 1) (q0 := 1) rfl rfl)) rfl rfl hl.1 rfl (lv_room (Nat.le_of_ble_eq_true rfl)) dX9_price_26 ⟨(by first | exact Nat.le_of_ble_eq_true rfl | (show _ ≤ (5 : Nat); omega)), (by first | exact Nat.le_of_ble_eq_true rfl | (show _ ≤ (30 : Nat); omega))⟩) hP hD hS hA [1, 2, 3, 4, 5, 6, 7, 8, 9] [0] rfl rfl rfl (by decide) (fun E9 ce9 q9 ux_20 H locs hx9_21 hP hD hS hce9 hcv9 hcl9 => ?_) (fun zz u_19 H locs hz hP hD hS => ?_)
  ·
    obtain ⟨sf2_9, sn2_10, st2_11, df2_12, dn2_13, dt2_14, wf2_15, wn2_16, wt2_17, pe_18⟩ := ux_20
    have hP : va_P G.1 vwCl [(x, .inr (10, [.ref ro, .ref rw, .ref bo, .ref li, .ref sh, .ref tx, .ref lo, .ref nl])), (bo, .inr (1, [.ref q])), (q, .inr (2, [.ref sa, .ref da, .ref wa, .long (lz (zqu po)), .long (lz (zqd po)), .int (iz (pe_18))])), (sa, .inr (9, [.ref sb, .int (iz (sn2_10)), .long (lz (st2_11))])), (sb, zaL (G.2 0) 40 (sf2_9)), (da, .inr (9, [.ref db, .int (iz (dn2_13)), .long (lz (dt2_14))])), (db, zaL (G.2 0) 40 (df2_12)), (wa, .inr (9, [.ref wb, .int (iz (wn2_16)), .long (lz (wt2_17))])), (wb, zaL (G.2 0) 40 (wf2_15)), (ro, .inr (5, [.int (iz (md))]))] H := hP
    have hD : va_D A [(x, .inr (10, [.ref ro, .ref rw, .ref bo, .ref li, .ref sh, .ref tx, .ref lo, .ref nl])), (bo, .inr (1, [.ref q])), (q, .inr (2, [.ref sa, .ref da, .ref wa, .long (lz (zqu po)), .long (lz (zqd po)), .int (iz (pe_18))])), (sa, .inr (9, [.ref sb, .int (iz (sn2_10)), .long (lz (st2_11))])), (sb, zaL (G.2 0) 40 (sf2_9)), (da, .inr (9, [.ref db, .int (iz (dn2_13)), .long (lz (dt2_14))])), (db, zaL (G.2 0) 40 (df2_12)), (wa, .inr (9, [.ref wb, .int (iz (wn2_16)), .long (lz (wt2_17))])), (wb, zaL (G.2 0) 40 (wf2_15)), (ro, .inr (5, [.int (iz (md))]))] := hD
    rcases hx9_21 with ⟨rfl, hxc⟩
    ·
      have hxc : md = 7 ∧ znm (zbf cp fa pr) po % zqq po 0 ≠ 0 := hxc
      rw [hQ]
      exact zt_out (sf2_9, sn2_10, st2_11, df2_12, dn2_13, dt2_14, wf2_15, wn2_16, wt2_17, zqu po, zqd po, pe_18) hout hlocks hce9 hcv9 hcl9 hP hD hS (Or.inr ⟨rfl, (show (0 ≤ cp ∧ cp ≤ 1000000000 ∧ 0 ≤ fa ∧ fa ≤ 1000000000 ∧ 1 ≤ pr ∧ pr ≤ 40 ∧ 0 ≤ po ∧ po ≤ 20000) ∧ md = 7 ∧ znm (zbf cp fa pr) po % zqq po 0 ≠ 0 from ⟨by omega, hxc⟩)⟩) (by first | exact Nat.le_of_ble_eq_true rfl | omega) (by first | exact Nat.le_of_ble_eq_true rfl | omega)
  obtain ⟨sf9, sn9, st9, df9, dn9, dt9, wf9, wn9, wt9, pq9⟩ := u_19
  have hP : va_P G.1 vwCl [(x, .inr (10, [.ref ro, .ref rw, .ref bo, .ref li, .ref sh, .ref tx, .ref lo, .ref nl])), (bo, .inr (1, [.ref q])), (q, .inr (2, [.ref sa, .ref da, .ref wa, .long (lz (zqu po)), .long (lz (zqd po)), .int (iz (pq9))])), (sa, .inr (9, [.ref sb, .int (iz (sn9)), .long (lz (st9))])), (sb, zaL (G.2 0) 40 (sf9)), (da, .inr (9, [.ref db, .int (iz (dn9)), .long (lz (dt9))])), (db, zaL (G.2 0) 40 (df9)), (wa, .inr (9, [.ref wb, .int (iz (wn9)), .long (lz (wt9))])), (wb, zaL (G.2 0) 40 (wf9)), (ro, .inr (5, [.int (iz (md))]))] H := hP
  have hD : va_D A [(x, .inr (10, [.ref ro, .ref rw, .ref bo, .ref li, .ref sh, .ref tx, .ref lo, .ref nl])), (bo, .inr (1, [.ref q])), (q, .inr (2, [.ref sa, .ref da, .ref wa, .long (lz (zqu po)), .long (lz (zqd po)), .int (iz (pq9))])), (sa, .inr (9, [.ref sb, .int (iz (sn9)), .long (lz (st9))])), (sb, zaL (G.2 0) 40 (sf9)), (da, .inr (9, [.ref db, .int (iz (dn9)), .long (lz (dt9))])), (db, zaL (G.2 0) 40 (df9)), (wa, .inr (9, [.ref wb, .int (iz (wn9)), .long (lz (wt9))])), (wb, zaL (G.2 0) 40 (wf9)), (ro, .inr (5, [.int (iz (md))]))] := hD
  have hz : (znm (zbf cp fa pr) po % zqq po 0 = 0 ∨ md ≠ 7) ∧ zz = zrd md (znm (zbf cp fa pr) po) (zqq po 0) := hz
  rw [hQ]
  exact vx_ret (zr_lret (z := zz) (u := (sf9, sn9, st9, df9, dn9, dt9, wf9, wn9, wt9, zqu po, zqd po, pq9)) hx hb hr hlocks hP hD hS (by first | exact Nat.le_of_ble_eq_true rfl | omega) (by first | exact Nat.le_of_ble_eq_true rfl | omega) dX9_price_29 (show (0 ≤ cp ∧ cp ≤ 1000000000 ∧ 0 ≤ fa ∧ fa ≤ 1000000000 ∧ 1 ≤ pr ∧ pr ≤ 40 ∧ 0 ≤ po ∧ po ≤ 20000) ∧ (znm (zbf cp fa pr) po % zqq po 0 = 0 ∨ md ≠ 7) ∧ zz = zrd md (znm (zbf cp fa pr) po) (zqq po 0) from ⟨by omega, hz⟩))

def rm_c_X9_bondYield : Room := { frames := 8, cells := 4, slots := 24, locals := 185 }
theorem iw_X9_bondYield_X9 : ∀ w ∈ wsX90, w ∈ wsX9_bondYield := by decide +kernel
set_option maxHeartbeats 1000000 in
set_option maxRecDepth 100000 in
theorem c_X9_bondYield (l : Launch) (G : zG) (s1 : Nat) (s2 : Nat) (s3 : Nat) (x : Nat) (ro : Nat) (rw : Nat) (bo : Nat) (li : Nat) (sh : Nat) (tx : Nat) (lo : Nat) (nl : Nat) (q : Nat) (sa : Nat) (sb : Nat) (sf : Int → Int) (sn : Int) (st : Int) (da : Nat) (db : Nat) (df : Int → Int) (dn : Int) (dt : Int) (wa : Nat) (wb : Nat) (wf : Int → Int) (wn : Int) (wt : Int) (u0 : Int) (d0 : Int) (p0 : Int) (cp : Int) (fa : Int) (pr : Int) (mo : Int) (hl0 : l.stackTraces = false) (r_cp : -9223372036854775808 ≤ cp ∧ cp < 9223372036854775808) (r_fa : -9223372036854775808 ≤ fa ∧ fa < 9223372036854775808) (r_pr : -2147483648 ≤ pr ∧ pr < 2147483648) (r_mo : -9223372036854775808 ≤ mo ∧ mo < 9223372036854775808) : zMt l (zXE s1 s2 s3) G yX9_bondYield wsX9_bondYield rm_c_X9_bondYield [.ref x, .long (lz (cp)), .long (lz (fa)), .int (iz (pr)), .long (lz (mo))] [(x, .inr (10, [.ref ro, .ref rw, .ref bo, .ref li, .ref sh, .ref tx, .ref lo, .ref nl])), (bo, .inr (1, [.ref q])), (q, .inr (2, [.ref sa, .ref da, .ref wa, .long (lz (u0)), .long (lz (d0)), .int (iz (p0))])), (sa, .inr (9, [.ref sb, .int (iz (sn)), .long (lz (st))])), (sb, zaL (G.2 0) 40 (sf)), (da, .inr (9, [.ref db, .int (iz (dn)), .long (lz (dt))])), (db, zaL (G.2 0) 40 (df)), (wa, .inr (9, [.ref wb, .int (iz (wn)), .long (lz (wt))])), (wb, zaL (G.2 0) 40 (wf))] (fun A => zQi G (fun (z : Int) (u : (Int → Int) × Int × Int × (Int → Int) × Int × Int × (Int → Int) × Int × Int × Int × Int × Int) => (0 ≤ cp ∧ cp ≤ 1000000000 ∧ 0 ≤ fa ∧ fa ≤ 1000000000 ∧ 1 ≤ pr ∧ pr ≤ 40 ∧ 0 ≤ mo ∧ mo ≤ 1000000000000) ∧ ((z = -1 ∧ ¬ zchp cp fa pr mo (20000)) ∨ (0 ≤ z ∧ z ≤ 20000 ∧ zchp cp fa pr mo (z) ∧ (z = 0 ∨ ¬ zchp cp fa pr mo (z - 1))))) (fun (u : (Int → Int) × Int × Int × (Int → Int) × Int × Int × (Int → Int) × Int × Int × Int × Int × Int) => [(x, .inr (10, [.ref ro, .ref rw, .ref bo, .ref li, .ref sh, .ref tx, .ref lo, .ref nl])), (bo, .inr (1, [.ref q])), (q, .inr (2, [.ref sa, .ref da, .ref wa, .long (lz (u.2.2.2.2.2.2.2.2.2.1)), .long (lz (u.2.2.2.2.2.2.2.2.2.2.1)), .int (iz (u.2.2.2.2.2.2.2.2.2.2.2))])), (sa, .inr (9, [.ref sb, .int (iz (u.2.1)), .long (lz (u.2.2.1))])), (sb, zaL (G.2 0) 40 (u.1)), (da, .inr (9, [.ref db, .int (iz (u.2.2.2.2.1)), .long (lz (u.2.2.2.2.2.1))])), (db, zaL (G.2 0) 40 (u.2.2.2.1)), (wa, .inr (9, [.ref wb, .int (iz (u.2.2.2.2.2.2.2.1)), .long (lz (u.2.2.2.2.2.2.2.2.1))])), (wb, zaL (G.2 0) 40 (u.2.2.2.2.2.2.1))]) A) (SX := (Int → Int) × Int × Int × (Int → Int) × Int × Int × (Int → Int) × Int × Int × Int × Int × Int) (fun (E9 : String) (ux : (Int → Int) × Int × Int × (Int → Int) × Int × Int × (Int → Int) × Int × Int × Int × Int × Int) => (E9 = "java/lang/IllegalArgumentException" ∧ ¬ (0 ≤ cp ∧ cp ≤ 1000000000 ∧ 0 ≤ fa ∧ fa ≤ 1000000000 ∧ 1 ≤ pr ∧ pr ≤ 40 ∧ 0 ≤ mo ∧ mo ≤ 1000000000000))) (fun (ux : (Int → Int) × Int × Int × (Int → Int) × Int × Int × (Int → Int) × Int × Int × Int × Int × Int) => [(x, .inr (10, [.ref ro, .ref rw, .ref bo, .ref li, .ref sh, .ref tx, .ref lo, .ref nl])), (bo, .inr (1, [.ref q])), (q, .inr (2, [.ref sa, .ref da, .ref wa, .long (lz (ux.2.2.2.2.2.2.2.2.2.1)), .long (lz (ux.2.2.2.2.2.2.2.2.2.2.1)), .int (iz (ux.2.2.2.2.2.2.2.2.2.2.2))])), (sa, .inr (9, [.ref sb, .int (iz (ux.2.1)), .long (lz (ux.2.2.1))])), (sb, zaL (G.2 0) 40 (ux.1)), (da, .inr (9, [.ref db, .int (iz (ux.2.2.2.2.1)), .long (lz (ux.2.2.2.2.2.1))])), (db, zaL (G.2 0) 40 (ux.2.2.2.1)), (wa, .inr (9, [.ref wb, .int (iz (ux.2.2.2.2.2.2.2.1)), .long (lz (ux.2.2.2.2.2.2.2.2.1))])), (wb, zaL (G.2 0) 40 (ux.2.2.2.2.2.2.1))]) 4 24 := by
  refine zMt_of (cc := cX9_bondYield) (maxL := 8) (ret := (some .int)) (by decide) rfl (Nat.le_of_ble_eq_true rfl) ?_
  intro p e s m below meth c ls A Q hQ hx hb hr hts hown hlocks hml hout hKX hE hP hD hA hS hl
  have hK := hKX.1
  have iwX9 := iw_X9_bondYield_X9
  obtain ⟨H, hH⟩ : ∃ h, h = s.heap := ⟨_, rfl⟩
  obtain ⟨locs, hlo⟩ : ∃ h : List Loc, h = [] := ⟨_, rfl⟩
  have hS : va_S A s.heap H locs := by rw [hH, hlo]; exact hS
  have hP : va_P G.1 vwCl [(x, .inr (10, [.ref ro, .ref rw, .ref bo, .ref li, .ref sh, .ref tx, .ref lo, .ref nl])), (bo, .inr (1, [.ref q])), (q, .inr (2, [.ref sa, .ref da, .ref wa, .long (lz (u0)), .long (lz (d0)), .int (iz (p0))])), (sa, .inr (9, [.ref sb, .int (iz (sn)), .long (lz (st))])), (sb, zaL (G.2 0) 40 (sf)), (da, .inr (9, [.ref db, .int (iz (dn)), .long (lz (dt))])), (db, zaL (G.2 0) 40 (df)), (wa, .inr (9, [.ref wb, .int (iz (wn)), .long (lz (wt))])), (wb, zaL (G.2 0) 40 (wf))] H := by rw [hH]; exact hP
  have hD : va_D A [(x, .inr (10, [.ref ro, .ref rw, .ref bo, .ref li, .ref sh, .ref tx, .ref lo, .ref nl])), (bo, .inr (1, [.ref q])), (q, .inr (2, [.ref sa, .ref da, .ref wa, .long (lz (u0)), .long (lz (d0)), .int (iz (p0))])), (sa, .inr (9, [.ref sb, .int (iz (sn)), .long (lz (st))])), (sb, zaL (G.2 0) 40 (sf)), (da, .inr (9, [.ref db, .int (iz (dn)), .long (lz (dt))])), (db, zaL (G.2 0) 40 (df)), (wa, .inr (9, [.ref wb, .int (iz (wn)), .long (lz (wt))])), (wb, zaL (G.2 0) 40 (wf))] := hD
  have hl : lv_has ls 8 [(0, .ref x), (1, .long (lz (cp))), (3, .long (lz (fa))), (5, .int (iz (pr))), (6, .long (lz (mo)))] := hl
  rw [← hH, ← hlo]
  refine lv_lload_n hx hb dX9_bondYield_0 rfl (lv_at hl 1 rfl) ?_
  refine lv_lload_n hx hb dX9_bondYield_1 rfl (lv_at hl 2 rfl) ?_
  refine lv_iload hx hb dX9_bondYield_2 (lv_at hl 3 rfl) ?_
  refine zct_v (wr := [(x, .inr (10, [.ref ro, .ref rw, .ref bo, .ref li, .ref sh, .ref tx, .ref lo, .ref nl])), (bo, .inr (1, [.ref q])), (q, .inr (2, [.ref sa, .ref da, .ref wa, .long (lz (u0)), .long (lz (d0)), .int (iz (p0))])), (sa, .inr (9, [.ref sb, .int (iz (sn)), .long (lz (st))])), (sb, zaL (G.2 0) 40 (sf)), (da, .inr (9, [.ref db, .int (iz (dn)), .long (lz (dt))])), (db, zaL (G.2 0) 40 (df)), (wa, .inr (9, [.ref wb, .int (iz (wn)), .long (lz (wt))])), (wb, zaL (G.2 0) 40 (wf))]) (vx_runS (As := [.long (lz (cp)), .long (lz (fa)), .int (iz (pr))]) (rest := []) ⟨hx, hb, hml, hown, hts⟩ (c_X9_demandBond l G s1 s2 s3 cp fa pr hl0 (by omega) (by omega) (by omega) H.size) (va_cwS 3 hts gX9_bondYield_X9_demandBond rfl rfl rfl (by decide +kernel) ⟨Nat.le_of_ble_eq_true rfl, Nat.le_of_ble_eq_true rfl⟩) (zpSe zXE_ok hE hS hA hKX hP hD [] rfl rfl) rfl rfl hl.1 rfl (lv_room (Nat.le_of_ble_eq_true rfl)) dX9_bondYield_4 ⟨(by first | exact Nat.le_of_ble_eq_true rfl | (show _ ≤ (4 : Nat); omega)), (by first | exact Nat.le_of_ble_eq_true rfl | (show _ ≤ (24 : Nat); omega))⟩) hP hD hS hA [] [0, 1, 2, 3, 4, 5, 6, 7, 8] rfl rfl rfl (by decide) (fun E9 ce9 q9 ux_3 H locs hx9_4 hP hD hS hce9 hcv9 hcl9 => ?_) (fun u_2 H locs tb hP hD hS => ?_)
  ·
    have hP : va_P G.1 vwCl [(x, .inr (10, [.ref ro, .ref rw, .ref bo, .ref li, .ref sh, .ref tx, .ref lo, .ref nl])), (bo, .inr (1, [.ref q])), (q, .inr (2, [.ref sa, .ref da, .ref wa, .long (lz (u0)), .long (lz (d0)), .int (iz (p0))])), (sa, .inr (9, [.ref sb, .int (iz (sn)), .long (lz (st))])), (sb, zaL (G.2 0) 40 (sf)), (da, .inr (9, [.ref db, .int (iz (dn)), .long (lz (dt))])), (db, zaL (G.2 0) 40 (df)), (wa, .inr (9, [.ref wb, .int (iz (wn)), .long (lz (wt))])), (wb, zaL (G.2 0) 40 (wf))] H := hP
    have hD : va_D A [(x, .inr (10, [.ref ro, .ref rw, .ref bo, .ref li, .ref sh, .ref tx, .ref lo, .ref nl])), (bo, .inr (1, [.ref q])), (q, .inr (2, [.ref sa, .ref da, .ref wa, .long (lz (u0)), .long (lz (d0)), .int (iz (p0))])), (sa, .inr (9, [.ref sb, .int (iz (sn)), .long (lz (st))])), (sb, zaL (G.2 0) 40 (sf)), (da, .inr (9, [.ref db, .int (iz (dn)), .long (lz (dt))])), (db, zaL (G.2 0) 40 (df)), (wa, .inr (9, [.ref wb, .int (iz (wn)), .long (lz (wt))])), (wb, zaL (G.2 0) 40 (wf))] := hD
    rcases hx9_4 with ⟨rfl, hxc⟩
    ·
      have hxc : ¬ (0 ≤ cp ∧ cp ≤ 1000000000 ∧ 0 ≤ fa ∧ fa ≤ 1000000000 ∧ 1 ≤ pr ∧ pr ≤ 40) := hxc
      rw [hQ]
      exact zt_out (sf, sn, st, df, dn, dt, wf, wn, wt, u0, d0, p0) hout hlocks hce9 hcv9 hcl9 hP hD hS ⟨rfl, (show ¬ (0 ≤ cp ∧ cp ≤ 1000000000 ∧ 0 ≤ fa ∧ fa ≤ 1000000000 ∧ 1 ≤ pr ∧ pr ≤ 40 ∧ 0 ≤ mo ∧ mo ≤ 1000000000000) from by omega)⟩ (by first | exact Nat.le_of_ble_eq_true rfl | omega) (by first | exact Nat.le_of_ble_eq_true rfl | omega)
  have hP : va_P G.1 vwCl [(x, .inr (10, [.ref ro, .ref rw, .ref bo, .ref li, .ref sh, .ref tx, .ref lo, .ref nl])), (bo, .inr (1, [.ref q])), (q, .inr (2, [.ref sa, .ref da, .ref wa, .long (lz (u0)), .long (lz (d0)), .int (iz (p0))])), (sa, .inr (9, [.ref sb, .int (iz (sn)), .long (lz (st))])), (sb, zaL (G.2 0) 40 (sf)), (da, .inr (9, [.ref db, .int (iz (dn)), .long (lz (dt))])), (db, zaL (G.2 0) 40 (df)), (wa, .inr (9, [.ref wb, .int (iz (wn)), .long (lz (wt))])), (wb, zaL (G.2 0) 40 (wf))] H := hP
  have hD : va_D A [(x, .inr (10, [.ref ro, .ref rw, .ref bo, .ref li, .ref sh, .ref tx, .ref lo, .ref nl])), (bo, .inr (1, [.ref q])), (q, .inr (2, [.ref sa, .ref da, .ref wa, .long (lz (u0)), .long (lz (d0)), .int (iz (p0))])), (sa, .inr (9, [.ref sb, .int (iz (sn)), .long (lz (st))])), (sb, zaL (G.2 0) 40 (sf)), (da, .inr (9, [.ref db, .int (iz (dn)), .long (lz (dt))])), (db, zaL (G.2 0) 40 (df)), (wa, .inr (9, [.ref wb, .int (iz (wn)), .long (lz (wt))])), (wb, zaL (G.2 0) 40 (wf))] := hD
  have tb : 0 ≤ cp ∧ cp ≤ 1000000000 ∧ 0 ≤ fa ∧ fa ≤ 1000000000 ∧ 1 ≤ pr ∧ pr ≤ 40 := tb
  refine lv_lload hx hb dX9_bondYield_7 (lv_at hl 4 rfl) ?_
  refine lv_lconst (v := lz (0)) hx hb dX9_bondYield_9 rfl ?_
  refine zr_ldc2 (z := 1000000000000) hx hb hown (hts (.constantLong RX9 77 (1000000000000)) (by decide +kernel)) rfl dX9_bondYield_10 ?_
  refine zc_z (wr := [(x, .inr (10, [.ref ro, .ref rw, .ref bo, .ref li, .ref sh, .ref tx, .ref lo, .ref nl])), (bo, .inr (1, [.ref q])), (q, .inr (2, [.ref sa, .ref da, .ref wa, .long (lz (u0)), .long (lz (d0)), .int (iz (p0))])), (sa, .inr (9, [.ref sb, .int (iz (sn)), .long (lz (st))])), (sb, zaL (G.2 0) 40 (sf)), (da, .inr (9, [.ref db, .int (iz (dn)), .long (lz (dt))])), (db, zaL (G.2 0) 40 (df)), (wa, .inr (9, [.ref wb, .int (iz (wn)), .long (lz (wt))])), (wb, zaL (G.2 0) 40 (wf))]) (va_runS (As := [.long (lz (mo)), .long (lz (0)), .long (lz (1000000000000))]) (rest := []) ⟨hx, hb, hml, hown, hts⟩ (c_X9_isWithin l G mo 0 1000000000000 (by omega) (by omega) (by omega) H.size) (va_cwS 3 hts gX9_bondYield_X9_isWithin rfl rfl rfl (by decide +kernel) ⟨Nat.le_of_ble_eq_true rfl, Nat.le_of_ble_eq_true rfl⟩) (zpS hKX hP hD [] rfl rfl) rfl rfl hl.1 rfl (lv_room (Nat.le_of_ble_eq_true rfl)) dX9_bondYield_13 ⟨(by first | exact Nat.le_of_ble_eq_true rfl | (show _ ≤ (4 : Nat); omega)), (by first | exact Nat.le_of_ble_eq_true rfl | (show _ ≤ (24 : Nat); omega))⟩) hP hD hS hA [] [0, 1, 2, 3, 4, 5, 6, 7, 8] rfl rfl rfl (by decide) (fun z_6 u_5 H locs hq_8 hP hD hS => ?_)
  have hP : va_P G.1 vwCl [(x, .inr (10, [.ref ro, .ref rw, .ref bo, .ref li, .ref sh, .ref tx, .ref lo, .ref nl])), (bo, .inr (1, [.ref q])), (q, .inr (2, [.ref sa, .ref da, .ref wa, .long (lz (u0)), .long (lz (d0)), .int (iz (p0))])), (sa, .inr (9, [.ref sb, .int (iz (sn)), .long (lz (st))])), (sb, zaL (G.2 0) 40 (sf)), (da, .inr (9, [.ref db, .int (iz (dn)), .long (lz (dt))])), (db, zaL (G.2 0) 40 (df)), (wa, .inr (9, [.ref wb, .int (iz (wn)), .long (lz (wt))])), (wb, zaL (G.2 0) 40 (wf))] H := hP
  have hD : va_D A [(x, .inr (10, [.ref ro, .ref rw, .ref bo, .ref li, .ref sh, .ref tx, .ref lo, .ref nl])), (bo, .inr (1, [.ref q])), (q, .inr (2, [.ref sa, .ref da, .ref wa, .long (lz (u0)), .long (lz (d0)), .int (iz (p0))])), (sa, .inr (9, [.ref sb, .int (iz (sn)), .long (lz (st))])), (sb, zaL (G.2 0) 40 (sf)), (da, .inr (9, [.ref db, .int (iz (dn)), .long (lz (dt))])), (db, zaL (G.2 0) 40 (df)), (wa, .inr (9, [.ref wb, .int (iz (wn)), .long (lz (wt))])), (wb, zaL (G.2 0) 40 (wf))] := hD
  have hq_8 : z_6 = decide ((0 : Int) ≤ mo ∧ mo ≤ (1000000000000 : Int)) := hq_8
  refine zct_v (wr := [(x, .inr (10, [.ref ro, .ref rw, .ref bo, .ref li, .ref sh, .ref tx, .ref lo, .ref nl])), (bo, .inr (1, [.ref q])), (q, .inr (2, [.ref sa, .ref da, .ref wa, .long (lz (u0)), .long (lz (d0)), .int (iz (p0))])), (sa, .inr (9, [.ref sb, .int (iz (sn)), .long (lz (st))])), (sb, zaL (G.2 0) 40 (sf)), (da, .inr (9, [.ref db, .int (iz (dn)), .long (lz (dt))])), (db, zaL (G.2 0) 40 (df)), (wa, .inr (9, [.ref wb, .int (iz (wn)), .long (lz (wt))])), (wb, zaL (G.2 0) 40 (wf))]) (vx_runS (As := [.int (iz (zbb z_6))]) (rest := []) ⟨hx, hb, hml, hown, hts⟩ (c_X9_demand_t l G s1 s2 s3 z_6 hl0 H.size) (va_cwS 1 hts gX9_bondYield_X9_demand rfl rfl rfl (by decide +kernel) ⟨Nat.le_of_ble_eq_true rfl, Nat.le_of_ble_eq_true rfl⟩) (zpSe zXE_ok hE hS hA hKX hP hD [] rfl rfl) rfl rfl hl.1 rfl (lv_room (Nat.le_of_ble_eq_true rfl)) dX9_bondYield_16 ⟨(by first | exact Nat.le_of_ble_eq_true rfl | (show _ ≤ (4 : Nat); omega)), (by first | exact Nat.le_of_ble_eq_true rfl | (show _ ≤ (24 : Nat); omega))⟩) hP hD hS hA [] [0, 1, 2, 3, 4, 5, 6, 7, 8] rfl rfl rfl (by decide) (fun E9 ce9 q9 ux_12 H locs hx9_13 hP hD hS hce9 hcv9 hcl9 => ?_) (fun u_11 H locs hq_10 hP hD hS => ?_)
  ·
    have hP : va_P G.1 vwCl [(x, .inr (10, [.ref ro, .ref rw, .ref bo, .ref li, .ref sh, .ref tx, .ref lo, .ref nl])), (bo, .inr (1, [.ref q])), (q, .inr (2, [.ref sa, .ref da, .ref wa, .long (lz (u0)), .long (lz (d0)), .int (iz (p0))])), (sa, .inr (9, [.ref sb, .int (iz (sn)), .long (lz (st))])), (sb, zaL (G.2 0) 40 (sf)), (da, .inr (9, [.ref db, .int (iz (dn)), .long (lz (dt))])), (db, zaL (G.2 0) 40 (df)), (wa, .inr (9, [.ref wb, .int (iz (wn)), .long (lz (wt))])), (wb, zaL (G.2 0) 40 (wf))] H := hP
    have hD : va_D A [(x, .inr (10, [.ref ro, .ref rw, .ref bo, .ref li, .ref sh, .ref tx, .ref lo, .ref nl])), (bo, .inr (1, [.ref q])), (q, .inr (2, [.ref sa, .ref da, .ref wa, .long (lz (u0)), .long (lz (d0)), .int (iz (p0))])), (sa, .inr (9, [.ref sb, .int (iz (sn)), .long (lz (st))])), (sb, zaL (G.2 0) 40 (sf)), (da, .inr (9, [.ref db, .int (iz (dn)), .long (lz (dt))])), (db, zaL (G.2 0) 40 (df)), (wa, .inr (9, [.ref wb, .int (iz (wn)), .long (lz (wt))])), (wb, zaL (G.2 0) 40 (wf))] := hD
    rcases hx9_13 with ⟨rfl, hxc⟩
    ·
      have hxc : z_6 = false := hxc
      have hzz_6 := of_decide_eq_false (hq_8.symm.trans hxc)
      rw [hQ]
      exact zt_out (sf, sn, st, df, dn, dt, wf, wn, wt, u0, d0, p0) hout hlocks hce9 hcv9 hcl9 hP hD hS ⟨rfl, (show ¬ (0 ≤ cp ∧ cp ≤ 1000000000 ∧ 0 ≤ fa ∧ fa ≤ 1000000000 ∧ 1 ≤ pr ∧ pr ≤ 40 ∧ 0 ≤ mo ∧ mo ≤ 1000000000000) from by omega)⟩ (by first | exact Nat.le_of_ble_eq_true rfl | omega) (by first | exact Nat.le_of_ble_eq_true rfl | omega)
  have hP : va_P G.1 vwCl [(x, .inr (10, [.ref ro, .ref rw, .ref bo, .ref li, .ref sh, .ref tx, .ref lo, .ref nl])), (bo, .inr (1, [.ref q])), (q, .inr (2, [.ref sa, .ref da, .ref wa, .long (lz (u0)), .long (lz (d0)), .int (iz (p0))])), (sa, .inr (9, [.ref sb, .int (iz (sn)), .long (lz (st))])), (sb, zaL (G.2 0) 40 (sf)), (da, .inr (9, [.ref db, .int (iz (dn)), .long (lz (dt))])), (db, zaL (G.2 0) 40 (df)), (wa, .inr (9, [.ref wb, .int (iz (wn)), .long (lz (wt))])), (wb, zaL (G.2 0) 40 (wf))] H := hP
  have hD : va_D A [(x, .inr (10, [.ref ro, .ref rw, .ref bo, .ref li, .ref sh, .ref tx, .ref lo, .ref nl])), (bo, .inr (1, [.ref q])), (q, .inr (2, [.ref sa, .ref da, .ref wa, .long (lz (u0)), .long (lz (d0)), .int (iz (p0))])), (sa, .inr (9, [.ref sb, .int (iz (sn)), .long (lz (st))])), (sb, zaL (G.2 0) 40 (sf)), (da, .inr (9, [.ref db, .int (iz (dn)), .long (lz (dt))])), (db, zaL (G.2 0) 40 (df)), (wa, .inr (9, [.ref wb, .int (iz (wn)), .long (lz (wt))])), (wb, zaL (G.2 0) 40 (wf))] := hD
  have hq_10 : z_6 = true := hq_10
  have hzz_6 := of_decide_eq_true (hq_8.symm.trans hq_10)
  refine lv_aload_n hx hb dX9_bondYield_19 rfl (lv_at hl 0 rfl) ?_
  refine va_get (D := G.1) (ci := 10) (v := .ref bo) (C := RX9) (T := TX9) (N := 8) hx hb hts iwX9 hown hK hP 0 rfl rfl 2 (by decide) (hts (.fieldLink RX9 26 "AnnuityHouse" "bond" "LAnnuityHouse$Bond;") (by decide +kernel)) (fun _ h9 => h9) rfl dX9_bondYield_20 ?_
  refine lv_lload_n hx hb dX9_bondYield_23 rfl (lv_at hl 1 rfl) ?_
  refine lv_lload_n hx hb dX9_bondYield_24 rfl (lv_at hl 2 rfl) ?_
  refine lv_iload hx hb dX9_bondYield_25 (lv_at hl 3 rfl) ?_
  refine lv_lload hx hb dX9_bondYield_27 (lv_at hl 4 rfl) ?_
  refine zc_i (wr := [(x, .inr (10, [.ref ro, .ref rw, .ref bo, .ref li, .ref sh, .ref tx, .ref lo, .ref nl]))]) (va_runV (As := [.long (lz (cp)), .long (lz (fa)), .int (iz (pr)), .long (lz (mo))]) (rest := []) ⟨hx, hb, hml, hown, hts⟩ (c_X0_yieldPoints l G bo q sa sb sf sn st da db df dn dt wa wb wf wn wt u0 d0 p0 cp fa pr mo (by omega) (by omega) (by omega) H.size) (cwV 4 hts gX9_bondYield_X0_yieldPoints rfl rfl rfl (by decide +kernel) ⟨Nat.le_of_ble_eq_true rfl, Nat.le_of_ble_eq_true rfl⟩) (zpV hKX hP hD [1, 2, 3, 4, 5, 6, 7, 8] rfl rfl 1 1 rfl rfl) rfl rfl hl.1 rfl (lv_room (Nat.le_of_ble_eq_true rfl)) dX9_bondYield_29 ⟨(by first | exact Nat.le_of_ble_eq_true rfl | (show _ ≤ (4 : Nat); omega)), (by first | exact Nat.le_of_ble_eq_true rfl | (show _ ≤ (24 : Nat); omega))⟩) hP hD hS hA [1, 2, 3, 4, 5, 6, 7, 8] [0] rfl rfl rfl (by decide) (fun zz u_14 H locs hz hP hD hS => ?_)
  obtain ⟨sf9, sn9, st9, df9, dn9, dt9, wf9, wn9, wt9, ru9, rd9, pq9⟩ := u_14
  have hP : va_P G.1 vwCl [(x, .inr (10, [.ref ro, .ref rw, .ref bo, .ref li, .ref sh, .ref tx, .ref lo, .ref nl])), (bo, .inr (1, [.ref q])), (q, .inr (2, [.ref sa, .ref da, .ref wa, .long (lz (ru9)), .long (lz (rd9)), .int (iz (pq9))])), (sa, .inr (9, [.ref sb, .int (iz (sn9)), .long (lz (st9))])), (sb, zaL (G.2 0) 40 (sf9)), (da, .inr (9, [.ref db, .int (iz (dn9)), .long (lz (dt9))])), (db, zaL (G.2 0) 40 (df9)), (wa, .inr (9, [.ref wb, .int (iz (wn9)), .long (lz (wt9))])), (wb, zaL (G.2 0) 40 (wf9))] H := hP
  have hD : va_D A [(x, .inr (10, [.ref ro, .ref rw, .ref bo, .ref li, .ref sh, .ref tx, .ref lo, .ref nl])), (bo, .inr (1, [.ref q])), (q, .inr (2, [.ref sa, .ref da, .ref wa, .long (lz (ru9)), .long (lz (rd9)), .int (iz (pq9))])), (sa, .inr (9, [.ref sb, .int (iz (sn9)), .long (lz (st9))])), (sb, zaL (G.2 0) 40 (sf9)), (da, .inr (9, [.ref db, .int (iz (dn9)), .long (lz (dt9))])), (db, zaL (G.2 0) 40 (df9)), (wa, .inr (9, [.ref wb, .int (iz (wn9)), .long (lz (wt9))])), (wb, zaL (G.2 0) 40 (wf9))] := hD
  have hz : ((zz = -1 ∧ ¬ zchp cp fa pr mo (20000)) ∨ (0 ≤ zz ∧ zz ≤ 20000 ∧ zchp cp fa pr mo (zz) ∧ (zz = 0 ∨ ¬ zchp cp fa pr mo (zz - 1)))) := hz
  rw [hQ]
  exact vx_ret (zr_iret (z := zz) (u := (sf9, sn9, st9, df9, dn9, dt9, wf9, wn9, wt9, ru9, rd9, pq9)) hx hb hr hlocks hP hD hS (by first | exact Nat.le_of_ble_eq_true rfl | omega) (by first | exact Nat.le_of_ble_eq_true rfl | omega) dX9_bondYield_32 (show (0 ≤ cp ∧ cp ≤ 1000000000 ∧ 0 ≤ fa ∧ fa ≤ 1000000000 ∧ 1 ≤ pr ∧ pr ≤ 40 ∧ 0 ≤ mo ∧ mo ≤ 1000000000000) ∧ ((zz = -1 ∧ ¬ zchp cp fa pr mo (20000)) ∨ (0 ≤ zz ∧ zz ≤ 20000 ∧ zchp cp fa pr mo (zz) ∧ (zz = 0 ∨ ¬ zchp cp fa pr mo (zz - 1)))) from ⟨by omega, hz⟩))

def rm_c_X9_clearWeights : Room := { frames := 1, cells := 0, slots := 0, locals := 21 }
theorem iw_X9_clearWeights_X9 : ∀ w ∈ wsX90, w ∈ wsX9_clearWeights := by decide +kernel
set_option maxHeartbeats 1000000 in
set_option maxRecDepth 100000 in
theorem c_X9_clearWeights (l : Launch) (G : zG) (x : Nat) (ro : Nat) (rw : Nat) (bo : Nat) (li : Nat) (sh : Nat) (tx : Nat) (lo : Nat) (nl : Nat) (wt : Nat) (n : Int)  : zM l G yX9_clearWeights wsX9_clearWeights rm_c_X9_clearWeights [.ref x] [(x, .inr (10, [.ref ro, .ref rw, .ref bo, .ref li, .ref sh, .ref tx, .ref lo, .ref nl])), (sh, .inr (7, [.ref wt, .int (iz (n))]))] (fun A => zQi G (fun (z : Int) (_ : Unit) => z = n) (fun (_ : Unit) => [(x, .inr (10, [.ref ro, .ref rw, .ref bo, .ref li, .ref sh, .ref tx, .ref lo, .ref nl])), (sh, .inr (7, [.ref wt, .int (iz (0))]))]) A) 0 0 := by
  refine zM_of (cc := cX9_clearWeights) (maxL := 1) (ret := (some .int)) (by decide) rfl (Nat.le_of_ble_eq_true rfl) ?_
  intro p e s m below meth c ls A Q hQ hx hb hr hts hown hlocks hml hnm hKX hP hD hA hS hl
  have hK := hKX.1
  have iwX9 := iw_X9_clearWeights_X9
  obtain ⟨H, hH⟩ : ∃ h, h = s.heap := ⟨_, rfl⟩
  obtain ⟨locs, hlo⟩ : ∃ h : List Loc, h = [] := ⟨_, rfl⟩
  have hS : va_S A s.heap H locs := by rw [hH, hlo]; exact hS
  have hP : va_P G.1 vwCl [(x, .inr (10, [.ref ro, .ref rw, .ref bo, .ref li, .ref sh, .ref tx, .ref lo, .ref nl])), (sh, .inr (7, [.ref wt, .int (iz (n))]))] H := by rw [hH]; exact hP
  have hD : va_D A [(x, .inr (10, [.ref ro, .ref rw, .ref bo, .ref li, .ref sh, .ref tx, .ref lo, .ref nl])), (sh, .inr (7, [.ref wt, .int (iz (n))]))] := hD
  have hl : lv_has ls 1 [(0, .ref x)] := hl
  rw [← hH, ← hlo]
  refine lv_aload_n hx hb dX9_clearWeights_0 rfl (lv_at hl 0 rfl) ?_
  refine va_get (D := G.1) (ci := 10) (v := .ref sh) (C := RX9) (T := TX9) (N := 8) hx hb hts iwX9 hown hK hP 0 rfl rfl 4 (by decide) (hts (.fieldLink RX9 40 "AnnuityHouse" "shares" "LAnnuityHouse$Shares;") (by decide +kernel)) (fun _ h9 => h9) rfl dX9_clearWeights_1 ?_
  refine zc_i (wr := [(x, .inr (10, [.ref ro, .ref rw, .ref bo, .ref li, .ref sh, .ref tx, .ref lo, .ref nl]))]) (va_runV (As := []) (rest := []) ⟨hx, hb, hml, hown, hts⟩ (c_X6_clear l G sh wt n  H.size) (cwV 0 hts gX9_clearWeights_X6_clear rfl rfl rfl (by decide +kernel) ⟨Nat.le_of_ble_eq_true rfl, Nat.le_of_ble_eq_true rfl⟩) (zpV hKX hP hD [1] rfl rfl 1 7 rfl rfl) rfl rfl hl.1 rfl (lv_room (Nat.le_of_ble_eq_true rfl)) dX9_clearWeights_4 ⟨(by first | exact Nat.le_of_ble_eq_true rfl | (show _ ≤ (0 : Nat); omega)), (by first | exact Nat.le_of_ble_eq_true rfl | (show _ ≤ (0 : Nat); omega))⟩) hP hD hS hA [1] [0] rfl rfl rfl (by decide) (fun zz u_1 H locs hz hP hD hS => ?_)
  have hP : va_P G.1 vwCl [(x, .inr (10, [.ref ro, .ref rw, .ref bo, .ref li, .ref sh, .ref tx, .ref lo, .ref nl])), (sh, .inr (7, [.ref wt, .int (iz (0))]))] H := hP
  have hD : va_D A [(x, .inr (10, [.ref ro, .ref rw, .ref bo, .ref li, .ref sh, .ref tx, .ref lo, .ref nl])), (sh, .inr (7, [.ref wt, .int (iz (0))]))] := hD
  have hz : zz = n := hz
  rw [hQ]
  exact zr_iret (z := zz) (u := ()) hx hb hr hlocks hP hD hS (by first | exact Nat.le_of_ble_eq_true rfl | omega) (by first | exact Nat.le_of_ble_eq_true rfl | omega) dX9_clearWeights_7 (show zz = n from hz)

def rm_c_X9_clearSteps : Room := { frames := 1, cells := 0, slots := 0, locals := 21 }
theorem iw_X9_clearSteps_X9 : ∀ w ∈ wsX90, w ∈ wsX9_clearSteps := by decide +kernel
set_option maxHeartbeats 1000000 in
set_option maxRecDepth 100000 in
theorem c_X9_clearSteps (l : Launch) (G : zG) (x : Nat) (ro : Nat) (rw : Nat) (bo : Nat) (li : Nat) (sh : Nat) (tx : Nat) (lo : Nat) (nl : Nat) (fm : Nat) (pm : Nat) (n : Int)  : zM l G yX9_clearSteps wsX9_clearSteps rm_c_X9_clearSteps [.ref x] [(x, .inr (10, [.ref ro, .ref rw, .ref bo, .ref li, .ref sh, .ref tx, .ref lo, .ref nl])), (tx, .inr (8, [.ref fm, .ref pm, .int (iz (n))]))] (fun A => zQi G (fun (z : Int) (_ : Unit) => z = n) (fun (_ : Unit) => [(x, .inr (10, [.ref ro, .ref rw, .ref bo, .ref li, .ref sh, .ref tx, .ref lo, .ref nl])), (tx, .inr (8, [.ref fm, .ref pm, .int (iz (0))]))]) A) 0 0 := by
  refine zM_of (cc := cX9_clearSteps) (maxL := 1) (ret := (some .int)) (by decide) rfl (Nat.le_of_ble_eq_true rfl) ?_
  intro p e s m below meth c ls A Q hQ hx hb hr hts hown hlocks hml hnm hKX hP hD hA hS hl
  have hK := hKX.1
  have iwX9 := iw_X9_clearSteps_X9
  obtain ⟨H, hH⟩ : ∃ h, h = s.heap := ⟨_, rfl⟩
  obtain ⟨locs, hlo⟩ : ∃ h : List Loc, h = [] := ⟨_, rfl⟩
  have hS : va_S A s.heap H locs := by rw [hH, hlo]; exact hS
  have hP : va_P G.1 vwCl [(x, .inr (10, [.ref ro, .ref rw, .ref bo, .ref li, .ref sh, .ref tx, .ref lo, .ref nl])), (tx, .inr (8, [.ref fm, .ref pm, .int (iz (n))]))] H := by rw [hH]; exact hP
  have hD : va_D A [(x, .inr (10, [.ref ro, .ref rw, .ref bo, .ref li, .ref sh, .ref tx, .ref lo, .ref nl])), (tx, .inr (8, [.ref fm, .ref pm, .int (iz (n))]))] := hD
  have hl : lv_has ls 1 [(0, .ref x)] := hl
  rw [← hH, ← hlo]
  refine lv_aload_n hx hb dX9_clearSteps_0 rfl (lv_at hl 0 rfl) ?_
  refine va_get (D := G.1) (ci := 10) (v := .ref tx) (C := RX9) (T := TX9) (N := 8) hx hb hts iwX9 hown hK hP 0 rfl rfl 5 (by decide) (hts (.fieldLink RX9 47 "AnnuityHouse" "taxes" "LAnnuityHouse$Taxes;") (by decide +kernel)) (fun _ h9 => h9) rfl dX9_clearSteps_1 ?_
  refine zc_i (wr := [(x, .inr (10, [.ref ro, .ref rw, .ref bo, .ref li, .ref sh, .ref tx, .ref lo, .ref nl]))]) (va_runV (As := []) (rest := []) ⟨hx, hb, hml, hown, hts⟩ (c_X7_clear l G tx fm pm n  H.size) (cwV 0 hts gX9_clearSteps_X7_clear rfl rfl rfl (by decide +kernel) ⟨Nat.le_of_ble_eq_true rfl, Nat.le_of_ble_eq_true rfl⟩) (zpV hKX hP hD [1] rfl rfl 1 8 rfl rfl) rfl rfl hl.1 rfl (lv_room (Nat.le_of_ble_eq_true rfl)) dX9_clearSteps_4 ⟨(by first | exact Nat.le_of_ble_eq_true rfl | (show _ ≤ (0 : Nat); omega)), (by first | exact Nat.le_of_ble_eq_true rfl | (show _ ≤ (0 : Nat); omega))⟩) hP hD hS hA [1] [0] rfl rfl rfl (by decide) (fun zz u_1 H locs hz hP hD hS => ?_)
  have hP : va_P G.1 vwCl [(x, .inr (10, [.ref ro, .ref rw, .ref bo, .ref li, .ref sh, .ref tx, .ref lo, .ref nl])), (tx, .inr (8, [.ref fm, .ref pm, .int (iz (0))]))] H := hP
  have hD : va_D A [(x, .inr (10, [.ref ro, .ref rw, .ref bo, .ref li, .ref sh, .ref tx, .ref lo, .ref nl])), (tx, .inr (8, [.ref fm, .ref pm, .int (iz (0))]))] := hD
  have hz : zz = n := hz
  rw [hQ]
  exact zr_iret (z := zz) (u := ()) hx hb hr hlocks hP hD hS (by first | exact Nat.le_of_ble_eq_true rfl | omega) (by first | exact Nat.le_of_ble_eq_true rfl | omega) dX9_clearSteps_7 (show zz = n from hz)

def rm_c_X9_tax : Room := { frames := 9, cells := 2, slots := 12, locals := 165 }
theorem iw_X9_tax_X9 : ∀ w ∈ wsX90, w ∈ wsX9_tax := by decide +kernel
set_option maxHeartbeats 1000000 in
set_option maxRecDepth 100000 in
theorem c_X9_tax (l : Launch) (G : zG) (s1 : Nat) (s2 : Nat) (s3 : Nat) (x : Nat) (ro : Nat) (rw : Nat) (bo : Nat) (li : Nat) (sh : Nat) (tx : Nat) (lo : Nat) (nl : Nat) (fm : Nat) (pm : Nat) (f : Int → Int) (g : Int → Int) (n : Int) (md : Int) (mo : Int) (hl0 : l.stackTraces = false) (r_mo : -9223372036854775808 ≤ mo ∧ mo < 9223372036854775808) (hmd : 0 ≤ md ∧ md ≤ 7) (hs : zstp f g n) : zMt l (zXE s1 s2 s3) G yX9_tax wsX9_tax rm_c_X9_tax [.ref x, .long (lz (mo))] [(x, .inr (10, [.ref ro, .ref rw, .ref bo, .ref li, .ref sh, .ref tx, .ref lo, .ref nl])), (tx, .inr (8, [.ref fm, .ref pm, .int (iz (n))])), (fm, zaL (G.2 0) 8 (f)), (pm, zaI (G.2 1) 8 (g)), (ro, .inr (5, [.int (iz (md))]))] (fun A => zQl G (fun (z : Int) (_ : Unit) => (0 ≤ mo ∧ mo ≤ 1000000000000) ∧ (zth f g n mo % 1000 = 0 ∨ md ≠ 7) ∧ z = zrd md (zth f g n mo) 1000) (fun (_ : Unit) => [(x, .inr (10, [.ref ro, .ref rw, .ref bo, .ref li, .ref sh, .ref tx, .ref lo, .ref nl])), (tx, .inr (8, [.ref fm, .ref pm, .int (iz (n))])), (fm, zaL (G.2 0) 8 (f)), (pm, zaI (G.2 1) 8 (g)), (ro, .inr (5, [.int (iz (md))]))]) A) (SX := Unit) (fun (E9 : String) (ux : Unit) => (E9 = "java/lang/IllegalArgumentException" ∧ ¬ (0 ≤ mo ∧ mo ≤ 1000000000000)) ∨ (E9 = "java/lang/IllegalStateException" ∧ (0 ≤ mo ∧ mo ≤ 1000000000000) ∧ md = 7 ∧ zth f g n mo % 1000 ≠ 0)) (fun (ux : Unit) => [(x, .inr (10, [.ref ro, .ref rw, .ref bo, .ref li, .ref sh, .ref tx, .ref lo, .ref nl])), (tx, .inr (8, [.ref fm, .ref pm, .int (iz (n))])), (fm, zaL (G.2 0) 8 (f)), (pm, zaI (G.2 1) 8 (g)), (ro, .inr (5, [.int (iz (md))]))]) 2 12 := by
  refine zMt_of (cc := cX9_tax) (maxL := 3) (ret := (some .long)) (by decide) rfl (Nat.le_of_ble_eq_true rfl) ?_
  intro p e s m below meth c ls A Q hQ hx hb hr hts hown hlocks hml hout hKX hE hP hD hA hS hl
  have hK := hKX.1
  have iwX9 := iw_X9_tax_X9
  obtain ⟨H, hH⟩ : ∃ h, h = s.heap := ⟨_, rfl⟩
  obtain ⟨locs, hlo⟩ : ∃ h : List Loc, h = [] := ⟨_, rfl⟩
  have hS : va_S A s.heap H locs := by rw [hH, hlo]; exact hS
  have hP : va_P G.1 vwCl [(x, .inr (10, [.ref ro, .ref rw, .ref bo, .ref li, .ref sh, .ref tx, .ref lo, .ref nl])), (tx, .inr (8, [.ref fm, .ref pm, .int (iz (n))])), (fm, zaL (G.2 0) 8 (f)), (pm, zaI (G.2 1) 8 (g)), (ro, .inr (5, [.int (iz (md))]))] H := by rw [hH]; exact hP
  have hD : va_D A [(x, .inr (10, [.ref ro, .ref rw, .ref bo, .ref li, .ref sh, .ref tx, .ref lo, .ref nl])), (tx, .inr (8, [.ref fm, .ref pm, .int (iz (n))])), (fm, zaL (G.2 0) 8 (f)), (pm, zaI (G.2 1) 8 (g)), (ro, .inr (5, [.int (iz (md))]))] := hD
  have hl : lv_has ls 3 [(0, .ref x), (1, .long (lz (mo)))] := hl
  rw [← hH, ← hlo]
  refine lv_lload_n hx hb dX9_tax_0 rfl (lv_at hl 1 rfl) ?_
  refine lv_lconst (v := lz (0)) hx hb dX9_tax_1 rfl ?_
  refine zr_ldc2 (z := 1000000000000) hx hb hown (hts (.constantLong RX9 77 (1000000000000)) (by decide +kernel)) rfl dX9_tax_2 ?_
  refine zc_z (wr := [(x, .inr (10, [.ref ro, .ref rw, .ref bo, .ref li, .ref sh, .ref tx, .ref lo, .ref nl])), (tx, .inr (8, [.ref fm, .ref pm, .int (iz (n))])), (fm, zaL (G.2 0) 8 (f)), (pm, zaI (G.2 1) 8 (g)), (ro, .inr (5, [.int (iz (md))]))]) (va_runS (As := [.long (lz (mo)), .long (lz (0)), .long (lz (1000000000000))]) (rest := []) ⟨hx, hb, hml, hown, hts⟩ (c_X9_isWithin l G mo 0 1000000000000 (by omega) (by omega) (by omega) H.size) (va_cwS 3 hts gX9_tax_X9_isWithin rfl rfl rfl (by decide +kernel) ⟨Nat.le_of_ble_eq_true rfl, Nat.le_of_ble_eq_true rfl⟩) (zpS hKX hP hD [] rfl rfl) rfl rfl hl.1 rfl (lv_room (Nat.le_of_ble_eq_true rfl)) dX9_tax_5 ⟨(by first | exact Nat.le_of_ble_eq_true rfl | (show _ ≤ (2 : Nat); omega)), (by first | exact Nat.le_of_ble_eq_true rfl | (show _ ≤ (12 : Nat); omega))⟩) hP hD hS hA [] [0, 1, 2, 3, 4] rfl rfl rfl (by decide) (fun z_2 u_1 H locs hq_4 hP hD hS => ?_)
  have hP : va_P G.1 vwCl [(x, .inr (10, [.ref ro, .ref rw, .ref bo, .ref li, .ref sh, .ref tx, .ref lo, .ref nl])), (tx, .inr (8, [.ref fm, .ref pm, .int (iz (n))])), (fm, zaL (G.2 0) 8 (f)), (pm, zaI (G.2 1) 8 (g)), (ro, .inr (5, [.int (iz (md))]))] H := hP
  have hD : va_D A [(x, .inr (10, [.ref ro, .ref rw, .ref bo, .ref li, .ref sh, .ref tx, .ref lo, .ref nl])), (tx, .inr (8, [.ref fm, .ref pm, .int (iz (n))])), (fm, zaL (G.2 0) 8 (f)), (pm, zaI (G.2 1) 8 (g)), (ro, .inr (5, [.int (iz (md))]))] := hD
  have hq_4 : z_2 = decide ((0 : Int) ≤ mo ∧ mo ≤ (1000000000000 : Int)) := hq_4
  refine zct_v (wr := [(x, .inr (10, [.ref ro, .ref rw, .ref bo, .ref li, .ref sh, .ref tx, .ref lo, .ref nl])), (tx, .inr (8, [.ref fm, .ref pm, .int (iz (n))])), (fm, zaL (G.2 0) 8 (f)), (pm, zaI (G.2 1) 8 (g)), (ro, .inr (5, [.int (iz (md))]))]) (vx_runS (As := [.int (iz (zbb z_2))]) (rest := []) ⟨hx, hb, hml, hown, hts⟩ (c_X9_demand_t l G s1 s2 s3 z_2 hl0 H.size) (va_cwS 1 hts gX9_tax_X9_demand rfl rfl rfl (by decide +kernel) ⟨Nat.le_of_ble_eq_true rfl, Nat.le_of_ble_eq_true rfl⟩) (zpSe zXE_ok hE hS hA hKX hP hD [] rfl rfl) rfl rfl hl.1 rfl (lv_room (Nat.le_of_ble_eq_true rfl)) dX9_tax_8 ⟨(by first | exact Nat.le_of_ble_eq_true rfl | (show _ ≤ (2 : Nat); omega)), (by first | exact Nat.le_of_ble_eq_true rfl | (show _ ≤ (12 : Nat); omega))⟩) hP hD hS hA [] [0, 1, 2, 3, 4] rfl rfl rfl (by decide) (fun E9 ce9 q9 ux_8 H locs hx9_9 hP hD hS hce9 hcv9 hcl9 => ?_) (fun u_7 H locs hq_6 hP hD hS => ?_)
  ·
    have hP : va_P G.1 vwCl [(x, .inr (10, [.ref ro, .ref rw, .ref bo, .ref li, .ref sh, .ref tx, .ref lo, .ref nl])), (tx, .inr (8, [.ref fm, .ref pm, .int (iz (n))])), (fm, zaL (G.2 0) 8 (f)), (pm, zaI (G.2 1) 8 (g)), (ro, .inr (5, [.int (iz (md))]))] H := hP
    have hD : va_D A [(x, .inr (10, [.ref ro, .ref rw, .ref bo, .ref li, .ref sh, .ref tx, .ref lo, .ref nl])), (tx, .inr (8, [.ref fm, .ref pm, .int (iz (n))])), (fm, zaL (G.2 0) 8 (f)), (pm, zaI (G.2 1) 8 (g)), (ro, .inr (5, [.int (iz (md))]))] := hD
    rcases hx9_9 with ⟨rfl, hxc⟩
    ·
      have hxc : z_2 = false := hxc
      have hzz_2 := of_decide_eq_false (hq_4.symm.trans hxc)
      rw [hQ]
      exact zt_out () hout hlocks hce9 hcv9 hcl9 hP hD hS (Or.inl ⟨rfl, (show ¬ (0 ≤ mo ∧ mo ≤ 1000000000000) from by first | exact hxc | omega)⟩) (by first | exact Nat.le_of_ble_eq_true rfl | omega) (by first | exact Nat.le_of_ble_eq_true rfl | omega)
  have hP : va_P G.1 vwCl [(x, .inr (10, [.ref ro, .ref rw, .ref bo, .ref li, .ref sh, .ref tx, .ref lo, .ref nl])), (tx, .inr (8, [.ref fm, .ref pm, .int (iz (n))])), (fm, zaL (G.2 0) 8 (f)), (pm, zaI (G.2 1) 8 (g)), (ro, .inr (5, [.int (iz (md))]))] H := hP
  have hD : va_D A [(x, .inr (10, [.ref ro, .ref rw, .ref bo, .ref li, .ref sh, .ref tx, .ref lo, .ref nl])), (tx, .inr (8, [.ref fm, .ref pm, .int (iz (n))])), (fm, zaL (G.2 0) 8 (f)), (pm, zaI (G.2 1) 8 (g)), (ro, .inr (5, [.int (iz (md))]))] := hD
  have hq_6 : z_2 = true := hq_6
  have hzz_2 := of_decide_eq_true (hq_4.symm.trans hq_6)
  refine lv_aload_n hx hb dX9_tax_11 rfl (lv_at hl 0 rfl) ?_
  refine va_get (D := G.1) (ci := 10) (v := .ref ro) (C := RX9) (T := TX9) (N := 8) hx hb hts iwX9 hown hK hP 0 rfl rfl 0 (by decide) (hts (.fieldLink RX9 10 "AnnuityHouse" "rounder" "LAnnuityHouse$Rounder;") (by decide +kernel)) (fun _ h9 => h9) rfl dX9_tax_12 ?_
  refine lv_aload_n hx hb dX9_tax_15 rfl (lv_at hl 0 rfl) ?_
  refine va_get (D := G.1) (ci := 10) (v := .ref tx) (C := RX9) (T := TX9) (N := 8) hx hb hts iwX9 hown hK hP 0 rfl rfl 5 (by decide) (hts (.fieldLink RX9 47 "AnnuityHouse" "taxes" "LAnnuityHouse$Taxes;") (by decide +kernel)) (fun _ h9 => h9) rfl dX9_tax_16 ?_
  refine lv_lload_n hx hb dX9_tax_19 rfl (lv_at hl 1 rfl) ?_
  refine zc_l (wr := [(x, .inr (10, [.ref ro, .ref rw, .ref bo, .ref li, .ref sh, .ref tx, .ref lo, .ref nl])), (ro, .inr (5, [.int (iz (md))]))]) (va_runV (As := [.long (lz (mo))]) (rest := [.ref ro]) ⟨hx, hb, hml, hown, hts⟩ (c_X7_thousandfoldOf l G tx fm pm f g n mo (by omega) (by omega) H.size) (cwV 1 hts gX9_tax_X7_thousandfoldOf rfl rfl rfl (by decide +kernel) ⟨Nat.le_of_ble_eq_true rfl, Nat.le_of_ble_eq_true rfl⟩) (zpV hKX hP hD [1, 2, 3] rfl rfl 1 8 rfl rfl) rfl rfl hl.1 rfl (lv_room (Nat.le_of_ble_eq_true rfl)) dX9_tax_20 ⟨(by first | exact Nat.le_of_ble_eq_true rfl | (show _ ≤ (2 : Nat); omega)), (by first | exact Nat.le_of_ble_eq_true rfl | (show _ ≤ (12 : Nat); omega))⟩) hP hD hS hA [1, 2, 3] [0, 4] rfl rfl rfl (by decide) (fun tf u_10 H locs htf hP hD hS => ?_)
  have hP : va_P G.1 vwCl [(x, .inr (10, [.ref ro, .ref rw, .ref bo, .ref li, .ref sh, .ref tx, .ref lo, .ref nl])), (ro, .inr (5, [.int (iz (md))])), (tx, .inr (8, [.ref fm, .ref pm, .int (iz (n))])), (fm, zaL (G.2 0) 8 (f)), (pm, zaI (G.2 1) 8 (g))] H := hP
  have hD : va_D A [(x, .inr (10, [.ref ro, .ref rw, .ref bo, .ref li, .ref sh, .ref tx, .ref lo, .ref nl])), (ro, .inr (5, [.int (iz (md))])), (tx, .inr (8, [.ref fm, .ref pm, .int (iz (n))])), (fm, zaL (G.2 0) 8 (f)), (pm, zaI (G.2 1) 8 (g))] := hD
  have htf : tf = zth f g n mo := htf
  have htb := zth_b (mo := mo) hs (by omega)
  rw [← htf] at htb
  refine zr_ldc2 (z := 1000) hx hb hown (hts (.constantLong RX9 244 (1000)) (by decide +kernel)) rfl dX9_tax_23 ?_
  refine zct_l (wr := [(x, .inr (10, [.ref ro, .ref rw, .ref bo, .ref li, .ref sh, .ref tx, .ref lo, .ref nl])), (tx, .inr (8, [.ref fm, .ref pm, .int (iz (n))])), (fm, zaL (G.2 0) 8 (f)), (pm, zaI (G.2 1) 8 (g))]) (vx_runV (As := [.long (lz (tf)), .long (lz (1000))]) (rest := []) ⟨hx, hb, hml, hown, hts⟩ (c_X4_ratio l G s1 s2 s3 ro md tf 1000 hl0 (by omega) (by omega) (by omega) H.size) (cwV 2 hts gX9_tax_X4_ratio rfl rfl rfl (by decide +kernel) ⟨Nat.le_of_ble_eq_true rfl, Nat.le_of_ble_eq_true rfl⟩) (zpVe zXE_ok hE hS hA hKX hP hD [1] rfl rfl (va_recv hK hP (ci := 5) (q0 := 1) rfl rfl)) rfl rfl hl.1 rfl (lv_room (Nat.le_of_ble_eq_true rfl)) dX9_tax_26 ⟨(by first | exact Nat.le_of_ble_eq_true rfl | (show _ ≤ (2 : Nat); omega)), (by first | exact Nat.le_of_ble_eq_true rfl | (show _ ≤ (12 : Nat); omega))⟩) hP hD hS hA [1] [0, 2, 3, 4] rfl rfl rfl (by decide) (fun E9 ce9 q9 ux_13 H locs hx9_14 hP hD hS hce9 hcv9 hcl9 => ?_) (fun zz u_12 H locs hz hP hD hS => ?_)
  ·
    have hP : va_P G.1 vwCl [(x, .inr (10, [.ref ro, .ref rw, .ref bo, .ref li, .ref sh, .ref tx, .ref lo, .ref nl])), (tx, .inr (8, [.ref fm, .ref pm, .int (iz (n))])), (fm, zaL (G.2 0) 8 (f)), (pm, zaI (G.2 1) 8 (g)), (ro, .inr (5, [.int (iz (md))]))] H := hP
    have hD : va_D A [(x, .inr (10, [.ref ro, .ref rw, .ref bo, .ref li, .ref sh, .ref tx, .ref lo, .ref nl])), (tx, .inr (8, [.ref fm, .ref pm, .int (iz (n))])), (fm, zaL (G.2 0) 8 (f)), (pm, zaI (G.2 1) 8 (g)), (ro, .inr (5, [.int (iz (md))]))] := hD
    rcases hx9_14 with ⟨rfl, hxc⟩
    ·
      have hxc : md = 7 ∧ (tf.natAbs : Int) % (1000 : Int) ≠ 0 := hxc
      rw [hQ]
      exact zt_out () hout hlocks hce9 hcv9 hcl9 hP hD hS (Or.inr ⟨rfl, (show (0 ≤ mo ∧ mo ≤ 1000000000000) ∧ md = 7 ∧ zth f g n mo % 1000 ≠ 0 from ⟨by omega, hxc.1, fun q => hxc.2 ((znz (by decide)).mpr (by rw [htf]; exact q))⟩)⟩) (by first | exact Nat.le_of_ble_eq_true rfl | omega) (by first | exact Nat.le_of_ble_eq_true rfl | omega)
  have hP : va_P G.1 vwCl [(x, .inr (10, [.ref ro, .ref rw, .ref bo, .ref li, .ref sh, .ref tx, .ref lo, .ref nl])), (tx, .inr (8, [.ref fm, .ref pm, .int (iz (n))])), (fm, zaL (G.2 0) 8 (f)), (pm, zaI (G.2 1) 8 (g)), (ro, .inr (5, [.int (iz (md))]))] H := hP
  have hD : va_D A [(x, .inr (10, [.ref ro, .ref rw, .ref bo, .ref li, .ref sh, .ref tx, .ref lo, .ref nl])), (tx, .inr (8, [.ref fm, .ref pm, .int (iz (n))])), (fm, zaL (G.2 0) 8 (f)), (pm, zaI (G.2 1) 8 (g)), (ro, .inr (5, [.int (iz (md))]))] := hD
  have hz : ((tf.natAbs : Int) % (1000 : Int) = 0 ∨ md ≠ 7) ∧ zz = zrd md tf (1000 : Int) := hz
  rw [hQ]
  exact vx_ret (zr_lret (z := zz) (u := ()) hx hb hr hlocks hP hD hS (by first | exact Nat.le_of_ble_eq_true rfl | omega) (by first | exact Nat.le_of_ble_eq_true rfl | omega) dX9_tax_29 (show (0 ≤ mo ∧ mo ≤ 1000000000000) ∧ (zth f g n mo % 1000 = 0 ∨ md ≠ 7) ∧ zz = zrd md (zth f g n mo) 1000 from ⟨by omega, by rw [← htf]; exact hz.1.elim (fun q => Or.inl ((znz (by decide)).mp q)) Or.inr, by rw [← htf]; exact hz.2⟩))

def rm_c_X9_untaxed : Room := { frames := 7, cells := 1, slots := 6, locals := 110 }
theorem iw_X9_untaxed_X9 : ∀ w ∈ wsX90, w ∈ wsX9_untaxed := by decide +kernel
set_option maxHeartbeats 1000000 in
set_option maxRecDepth 100000 in
theorem c_X9_untaxed (l : Launch) (G : zG) (s1 : Nat) (s2 : Nat) (s3 : Nat) (x : Nat) (ro : Nat) (rw : Nat) (bo : Nat) (li : Nat) (sh : Nat) (tx : Nat) (lo : Nat) (nl : Nat) (fm : Nat) (pm : Nat) (f : Int → Int) (g : Int → Int) (n : Int) (mo : Int) (hl0 : l.stackTraces = false) (r_mo : -9223372036854775808 ≤ mo ∧ mo < 9223372036854775808) (hs : zstp f g n) : zMt l (zXE s1 s2 s3) G yX9_untaxed wsX9_untaxed rm_c_X9_untaxed [.ref x, .long (lz (mo))] [(x, .inr (10, [.ref ro, .ref rw, .ref bo, .ref li, .ref sh, .ref tx, .ref lo, .ref nl])), (tx, .inr (8, [.ref fm, .ref pm, .int (iz (n))])), (fm, zaL (G.2 0) 8 (f)), (pm, zaI (G.2 1) 8 (g))] (fun A => zQl G (fun (z : Int) (_ : Unit) => (0 ≤ mo ∧ mo ≤ 1000000000) ∧ ((z = -1 ∧ ¬ zlv f g n (1000000000000) mo) ∨ (0 ≤ z ∧ z ≤ 1000000000000 ∧ zlv f g n (z) mo ∧ (z = 0 ∨ ¬ zlv f g n (z - 1) mo)))) (fun (_ : Unit) => [(x, .inr (10, [.ref ro, .ref rw, .ref bo, .ref li, .ref sh, .ref tx, .ref lo, .ref nl])), (tx, .inr (8, [.ref fm, .ref pm, .int (iz (n))])), (fm, zaL (G.2 0) 8 (f)), (pm, zaI (G.2 1) 8 (g))]) A) (SX := Unit) (fun (E9 : String) (ux : Unit) => (E9 = "java/lang/IllegalArgumentException" ∧ ¬ (0 ≤ mo ∧ mo ≤ 1000000000))) (fun (ux : Unit) => [(x, .inr (10, [.ref ro, .ref rw, .ref bo, .ref li, .ref sh, .ref tx, .ref lo, .ref nl])), (tx, .inr (8, [.ref fm, .ref pm, .int (iz (n))])), (fm, zaL (G.2 0) 8 (f)), (pm, zaI (G.2 1) 8 (g))]) 1 6 := by
  refine zMt_of (cc := cX9_untaxed) (maxL := 3) (ret := (some .long)) (by decide) rfl (Nat.le_of_ble_eq_true rfl) ?_
  intro p e s m below meth c ls A Q hQ hx hb hr hts hown hlocks hml hout hKX hE hP hD hA hS hl
  have hK := hKX.1
  have iwX9 := iw_X9_untaxed_X9
  obtain ⟨H, hH⟩ : ∃ h, h = s.heap := ⟨_, rfl⟩
  obtain ⟨locs, hlo⟩ : ∃ h : List Loc, h = [] := ⟨_, rfl⟩
  have hS : va_S A s.heap H locs := by rw [hH, hlo]; exact hS
  have hP : va_P G.1 vwCl [(x, .inr (10, [.ref ro, .ref rw, .ref bo, .ref li, .ref sh, .ref tx, .ref lo, .ref nl])), (tx, .inr (8, [.ref fm, .ref pm, .int (iz (n))])), (fm, zaL (G.2 0) 8 (f)), (pm, zaI (G.2 1) 8 (g))] H := by rw [hH]; exact hP
  have hD : va_D A [(x, .inr (10, [.ref ro, .ref rw, .ref bo, .ref li, .ref sh, .ref tx, .ref lo, .ref nl])), (tx, .inr (8, [.ref fm, .ref pm, .int (iz (n))])), (fm, zaL (G.2 0) 8 (f)), (pm, zaI (G.2 1) 8 (g))] := hD
  have hl : lv_has ls 3 [(0, .ref x), (1, .long (lz (mo)))] := hl
  rw [← hH, ← hlo]
  refine lv_lload_n hx hb dX9_untaxed_0 rfl (lv_at hl 1 rfl) ?_
  refine lv_lconst (v := lz (0)) hx hb dX9_untaxed_1 rfl ?_
  refine zr_ldc2 (z := 1000000000) hx hb hown (hts (.constantLong RX9 91 (1000000000)) (by decide +kernel)) rfl dX9_untaxed_2 ?_
  refine zc_z (wr := [(x, .inr (10, [.ref ro, .ref rw, .ref bo, .ref li, .ref sh, .ref tx, .ref lo, .ref nl])), (tx, .inr (8, [.ref fm, .ref pm, .int (iz (n))])), (fm, zaL (G.2 0) 8 (f)), (pm, zaI (G.2 1) 8 (g))]) (va_runS (As := [.long (lz (mo)), .long (lz (0)), .long (lz (1000000000))]) (rest := []) ⟨hx, hb, hml, hown, hts⟩ (c_X9_isWithin l G mo 0 1000000000 (by omega) (by omega) (by omega) H.size) (va_cwS 3 hts gX9_untaxed_X9_isWithin rfl rfl rfl (by decide +kernel) ⟨Nat.le_of_ble_eq_true rfl, Nat.le_of_ble_eq_true rfl⟩) (zpS hKX hP hD [] rfl rfl) rfl rfl hl.1 rfl (lv_room (Nat.le_of_ble_eq_true rfl)) dX9_untaxed_5 ⟨(by first | exact Nat.le_of_ble_eq_true rfl | (show _ ≤ (1 : Nat); omega)), (by first | exact Nat.le_of_ble_eq_true rfl | (show _ ≤ (6 : Nat); omega))⟩) hP hD hS hA [] [0, 1, 2, 3] rfl rfl rfl (by decide) (fun z_2 u_1 H locs hq_4 hP hD hS => ?_)
  have hP : va_P G.1 vwCl [(x, .inr (10, [.ref ro, .ref rw, .ref bo, .ref li, .ref sh, .ref tx, .ref lo, .ref nl])), (tx, .inr (8, [.ref fm, .ref pm, .int (iz (n))])), (fm, zaL (G.2 0) 8 (f)), (pm, zaI (G.2 1) 8 (g))] H := hP
  have hD : va_D A [(x, .inr (10, [.ref ro, .ref rw, .ref bo, .ref li, .ref sh, .ref tx, .ref lo, .ref nl])), (tx, .inr (8, [.ref fm, .ref pm, .int (iz (n))])), (fm, zaL (G.2 0) 8 (f)), (pm, zaI (G.2 1) 8 (g))] := hD
  have hq_4 : z_2 = decide ((0 : Int) ≤ mo ∧ mo ≤ (1000000000 : Int)) := hq_4
  refine zct_v (wr := [(x, .inr (10, [.ref ro, .ref rw, .ref bo, .ref li, .ref sh, .ref tx, .ref lo, .ref nl])), (tx, .inr (8, [.ref fm, .ref pm, .int (iz (n))])), (fm, zaL (G.2 0) 8 (f)), (pm, zaI (G.2 1) 8 (g))]) (vx_runS (As := [.int (iz (zbb z_2))]) (rest := []) ⟨hx, hb, hml, hown, hts⟩ (c_X9_demand_t l G s1 s2 s3 z_2 hl0 H.size) (va_cwS 1 hts gX9_untaxed_X9_demand rfl rfl rfl (by decide +kernel) ⟨Nat.le_of_ble_eq_true rfl, Nat.le_of_ble_eq_true rfl⟩) (zpSe zXE_ok hE hS hA hKX hP hD [] rfl rfl) rfl rfl hl.1 rfl (lv_room (Nat.le_of_ble_eq_true rfl)) dX9_untaxed_8 ⟨(by first | exact Nat.le_of_ble_eq_true rfl | (show _ ≤ (1 : Nat); omega)), (by first | exact Nat.le_of_ble_eq_true rfl | (show _ ≤ (6 : Nat); omega))⟩) hP hD hS hA [] [0, 1, 2, 3] rfl rfl rfl (by decide) (fun E9 ce9 q9 ux_8 H locs hx9_9 hP hD hS hce9 hcv9 hcl9 => ?_) (fun u_7 H locs hq_6 hP hD hS => ?_)
  ·
    have hP : va_P G.1 vwCl [(x, .inr (10, [.ref ro, .ref rw, .ref bo, .ref li, .ref sh, .ref tx, .ref lo, .ref nl])), (tx, .inr (8, [.ref fm, .ref pm, .int (iz (n))])), (fm, zaL (G.2 0) 8 (f)), (pm, zaI (G.2 1) 8 (g))] H := hP
    have hD : va_D A [(x, .inr (10, [.ref ro, .ref rw, .ref bo, .ref li, .ref sh, .ref tx, .ref lo, .ref nl])), (tx, .inr (8, [.ref fm, .ref pm, .int (iz (n))])), (fm, zaL (G.2 0) 8 (f)), (pm, zaI (G.2 1) 8 (g))] := hD
    rcases hx9_9 with ⟨rfl, hxc⟩
    ·
      have hxc : z_2 = false := hxc
      have hzz_2 := of_decide_eq_false (hq_4.symm.trans hxc)
      rw [hQ]
      exact zt_out () hout hlocks hce9 hcv9 hcl9 hP hD hS ⟨rfl, (show ¬ (0 ≤ mo ∧ mo ≤ 1000000000) from by first | exact hxc | omega)⟩ (by first | exact Nat.le_of_ble_eq_true rfl | omega) (by first | exact Nat.le_of_ble_eq_true rfl | omega)
  have hP : va_P G.1 vwCl [(x, .inr (10, [.ref ro, .ref rw, .ref bo, .ref li, .ref sh, .ref tx, .ref lo, .ref nl])), (tx, .inr (8, [.ref fm, .ref pm, .int (iz (n))])), (fm, zaL (G.2 0) 8 (f)), (pm, zaI (G.2 1) 8 (g))] H := hP
  have hD : va_D A [(x, .inr (10, [.ref ro, .ref rw, .ref bo, .ref li, .ref sh, .ref tx, .ref lo, .ref nl])), (tx, .inr (8, [.ref fm, .ref pm, .int (iz (n))])), (fm, zaL (G.2 0) 8 (f)), (pm, zaI (G.2 1) 8 (g))] := hD
  have hq_6 : z_2 = true := hq_6
  have hzz_2 := of_decide_eq_true (hq_4.symm.trans hq_6)
  refine lv_aload_n hx hb dX9_untaxed_11 rfl (lv_at hl 0 rfl) ?_
  refine va_get (D := G.1) (ci := 10) (v := .ref tx) (C := RX9) (T := TX9) (N := 8) hx hb hts iwX9 hown hK hP 0 rfl rfl 5 (by decide) (hts (.fieldLink RX9 47 "AnnuityHouse" "taxes" "LAnnuityHouse$Taxes;") (by decide +kernel)) (fun _ h9 => h9) rfl dX9_untaxed_12 ?_
  refine lv_lload_n hx hb dX9_untaxed_15 rfl (lv_at hl 1 rfl) ?_
  refine zc_l (wr := [(x, .inr (10, [.ref ro, .ref rw, .ref bo, .ref li, .ref sh, .ref tx, .ref lo, .ref nl]))]) (va_runV (As := [.long (lz (mo))]) (rest := []) ⟨hx, hb, hml, hown, hts⟩ (c_X7_leastLeaving l G tx fm pm f g n mo (by omega) (by omega) H.size) (cwV 1 hts gX9_untaxed_X7_leastLeaving rfl rfl rfl (by decide +kernel) ⟨Nat.le_of_ble_eq_true rfl, Nat.le_of_ble_eq_true rfl⟩) (zpV hKX hP hD [1, 2, 3] rfl rfl 1 8 rfl rfl) rfl rfl hl.1 rfl (lv_room (Nat.le_of_ble_eq_true rfl)) dX9_untaxed_16 ⟨(by first | exact Nat.le_of_ble_eq_true rfl | (show _ ≤ (1 : Nat); omega)), (by first | exact Nat.le_of_ble_eq_true rfl | (show _ ≤ (6 : Nat); omega))⟩) hP hD hS hA [1, 2, 3] [0] rfl rfl rfl (by decide) (fun zz u_10 H locs hz hP hD hS => ?_)
  have hP : va_P G.1 vwCl [(x, .inr (10, [.ref ro, .ref rw, .ref bo, .ref li, .ref sh, .ref tx, .ref lo, .ref nl])), (tx, .inr (8, [.ref fm, .ref pm, .int (iz (n))])), (fm, zaL (G.2 0) 8 (f)), (pm, zaI (G.2 1) 8 (g))] H := hP
  have hD : va_D A [(x, .inr (10, [.ref ro, .ref rw, .ref bo, .ref li, .ref sh, .ref tx, .ref lo, .ref nl])), (tx, .inr (8, [.ref fm, .ref pm, .int (iz (n))])), (fm, zaL (G.2 0) 8 (f)), (pm, zaI (G.2 1) 8 (g))] := hD
  have hz : ((zz = -1 ∧ ¬ zlv f g n (1000000000000) mo) ∨ (0 ≤ zz ∧ zz ≤ 1000000000000 ∧ zlv f g n (zz) mo ∧ (zz = 0 ∨ ¬ zlv f g n (zz - 1) mo))) := hz
  rw [hQ]
  exact vx_ret (zr_lret (z := zz) (u := ()) hx hb hr hlocks hP hD hS (by first | exact Nat.le_of_ble_eq_true rfl | omega) (by first | exact Nat.le_of_ble_eq_true rfl | omega) dX9_untaxed_19 (show (0 ≤ mo ∧ mo ≤ 1000000000) ∧ ((zz = -1 ∧ ¬ zlv f g n (1000000000000) mo) ∨ (0 ≤ zz ∧ zz ≤ 1000000000000 ∧ zlv f g n (zz) mo ∧ (zz = 0 ∨ ¬ zlv f g n (zz - 1) mo))) from ⟨by omega, hz⟩))

def rm_c_X9_clearLives : Room := { frames := 1, cells := 0, slots := 0, locals := 21 }
theorem iw_X9_clearLives_X9 : ∀ w ∈ wsX90, w ∈ wsX9_clearLives := by decide +kernel
set_option maxHeartbeats 1000000 in
set_option maxRecDepth 100000 in
theorem c_X9_clearLives (l : Launch) (G : zG) (x : Nat) (ro : Nat) (rw : Nat) (bo : Nat) (li : Nat) (sh : Nat) (tx : Nat) (lo : Nat) (nl : Nat) (lv : Nat) (q : Nat) (bq : Nat) (ags : Int)  : zM l G yX9_clearLives wsX9_clearLives rm_c_X9_clearLives [.ref x] [(x, .inr (10, [.ref ro, .ref rw, .ref bo, .ref li, .ref sh, .ref tx, .ref lo, .ref nl])), (li, .inr (3, [.ref lv, .ref q, .ref bq, .int (iz (ags))]))] (fun A => zQi G (fun (z : Int) (_ : Unit) => z = ags) (fun (_ : Unit) => [(x, .inr (10, [.ref ro, .ref rw, .ref bo, .ref li, .ref sh, .ref tx, .ref lo, .ref nl])), (li, .inr (3, [.ref lv, .ref q, .ref bq, .int (iz (0))]))]) A) 0 0 := by
  refine zM_of (cc := cX9_clearLives) (maxL := 1) (ret := (some .int)) (by decide) rfl (Nat.le_of_ble_eq_true rfl) ?_
  intro p e s m below meth c ls A Q hQ hx hb hr hts hown hlocks hml hnm hKX hP hD hA hS hl
  have hK := hKX.1
  have iwX9 := iw_X9_clearLives_X9
  obtain ⟨H, hH⟩ : ∃ h, h = s.heap := ⟨_, rfl⟩
  obtain ⟨locs, hlo⟩ : ∃ h : List Loc, h = [] := ⟨_, rfl⟩
  have hS : va_S A s.heap H locs := by rw [hH, hlo]; exact hS
  have hP : va_P G.1 vwCl [(x, .inr (10, [.ref ro, .ref rw, .ref bo, .ref li, .ref sh, .ref tx, .ref lo, .ref nl])), (li, .inr (3, [.ref lv, .ref q, .ref bq, .int (iz (ags))]))] H := by rw [hH]; exact hP
  have hD : va_D A [(x, .inr (10, [.ref ro, .ref rw, .ref bo, .ref li, .ref sh, .ref tx, .ref lo, .ref nl])), (li, .inr (3, [.ref lv, .ref q, .ref bq, .int (iz (ags))]))] := hD
  have hl : lv_has ls 1 [(0, .ref x)] := hl
  rw [← hH, ← hlo]
  refine lv_aload_n hx hb dX9_clearLives_0 rfl (lv_at hl 0 rfl) ?_
  refine va_get (D := G.1) (ci := 10) (v := .ref li) (C := RX9) (T := TX9) (N := 8) hx hb hts iwX9 hown hK hP 0 rfl rfl 3 (by decide) (hts (.fieldLink RX9 33 "AnnuityHouse" "lives" "LAnnuityHouse$Lives;") (by decide +kernel)) (fun _ h9 => h9) rfl dX9_clearLives_1 ?_
  refine zc_i (wr := [(x, .inr (10, [.ref ro, .ref rw, .ref bo, .ref li, .ref sh, .ref tx, .ref lo, .ref nl]))]) (va_runV (As := []) (rest := []) ⟨hx, hb, hml, hown, hts⟩ (c_X2_clear l G li lv q bq ags  H.size) (cwV 0 hts gX9_clearLives_X2_clear rfl rfl rfl (by decide +kernel) ⟨Nat.le_of_ble_eq_true rfl, Nat.le_of_ble_eq_true rfl⟩) (zpV hKX hP hD [1] rfl rfl 1 3 rfl rfl) rfl rfl hl.1 rfl (lv_room (Nat.le_of_ble_eq_true rfl)) dX9_clearLives_4 ⟨(by first | exact Nat.le_of_ble_eq_true rfl | (show _ ≤ (0 : Nat); omega)), (by first | exact Nat.le_of_ble_eq_true rfl | (show _ ≤ (0 : Nat); omega))⟩) hP hD hS hA [1] [0] rfl rfl rfl (by decide) (fun zz u_1 H locs hz hP hD hS => ?_)
  have hP : va_P G.1 vwCl [(x, .inr (10, [.ref ro, .ref rw, .ref bo, .ref li, .ref sh, .ref tx, .ref lo, .ref nl])), (li, .inr (3, [.ref lv, .ref q, .ref bq, .int (iz (0))]))] H := hP
  have hD : va_D A [(x, .inr (10, [.ref ro, .ref rw, .ref bo, .ref li, .ref sh, .ref tx, .ref lo, .ref nl])), (li, .inr (3, [.ref lv, .ref q, .ref bq, .int (iz (0))]))] := hD
  have hz : zz = ags := hz
  rw [hQ]
  exact zr_iret (z := zz) (u := ()) hx hb hr hlocks hP hD hS (by first | exact Nat.le_of_ble_eq_true rfl | omega) (by first | exact Nat.le_of_ble_eq_true rfl | omega) dX9_clearLives_7 (show zz = ags from hz)
