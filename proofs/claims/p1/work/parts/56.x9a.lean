-- THE CLASS ON A FRESH HOUSE: the public methods (laid by wip/walk/x9a.py)
theorem zrd_rng {ov k : Int} (h1 : -1000000000000 ≤ ov) (h2 : ov ≤ 1000000000000) (hk : 0 ≤ k ∧ k ≤ 6) : -1000000000000000000 ≤ ov * 10 ^ k.toNat ∧ ov * 10 ^ k.toNat ≤ 1000000000000000000 := by
  have a := zpow_le (b := 10) (by decide) (show k.toNat ≤ 6 by omega)
  have b := zpow_pos (x := 10) (by decide) k.toNat
  have c : (10 : Int) ^ 6 = 1000000 := by decide
  have d1 : ov * 10 ^ k.toNat ≤ 1000000000000 * 10 ^ k.toNat := Int.mul_le_mul_of_nonneg_right h2 (by omega)
  have d2 : -1000000000000 * 10 ^ k.toNat ≤ ov * 10 ^ k.toNat := Int.mul_le_mul_of_nonneg_right h1 (by omega)
  omega
theorem zcd_rng {x y : Int} (h : 0 ≤ x ∧ x ≤ 1000000000) (h2 : 0 ≤ y ∧ y ≤ 366) : 0 ≤ x * y ∧ x * y ≤ 366000000000 := by
  have a := Int.mul_nonneg h.1 h2.1
  have b : x * y ≤ 1000000000 * y := Int.mul_le_mul_of_nonneg_right h.2 h2.1
  omega
def rm_c_X5_add_x : Room := { frames := 7, cells := 1, slots := 6, locals := 110 }
set_option maxHeartbeats 1000000 in
set_option maxRecDepth 100000 in
theorem c_X5_add_x (l : Launch) (G : zG) (s1 : Nat) (s2 : Nat) (s3 : Nat) (y : Nat) (am : Nat) (q : Nat) (bq : Nat) (fr : Int) (mn : Int) (mo : Int) (se : Int) (hl0 : l.stackTraces = false) (h1 : 0 ≤ fr ∧ 1 ≤ mn ∧ fr + mn ≤ 41 ∧ -1000000000 ≤ mo ∧ mo ≤ 1000000000 ∧ -1000000 ≤ se ∧ se ≤ 1000000) (h2 : ¬ (∀ j : Int, 0 ≤ j → j < mn → zamt (mo + j * se))) : zMx l (zXE s1 s2 s3) G yX5_add wsX5_add rm_c_X5_add_x [.ref y, .int (iz (fr)), .int (iz (mn)), .long (lz (mo)), .long (lz (se))] [(y, .inr (6, [.ref am, .ref q, .ref bq])), (am, zaL (G.2 0) 41 (fun _ => 0))] "java/lang/IllegalStateException" 1 6 := by
  refine zMx_of (cc := cX5_add) (maxL := 8) (ret := none) (by decide) rfl (Nat.le_of_ble_eq_true rfl) ?_
  intro p e s m below meth c ls A Q hQ hx hb hr hts hown hlocks hml hout hKX hE hP hD hA hS hl
  have hK := hKX.1
  have iwX5 := iw_X5_add_X5
  obtain ⟨H, hH⟩ : ∃ h, h = s.heap := ⟨_, rfl⟩
  obtain ⟨locs, hlo⟩ : ∃ h : List Loc, h = [] := ⟨_, rfl⟩
  have hS : va_S A s.heap H locs := by rw [hH, hlo]; exact hS
  have hP : va_P G.1 vwCl [(y, .inr (6, [.ref am, .ref q, .ref bq])), (am, zaL (G.2 0) 41 (fun _ => 0))] H := by rw [hH]; exact hP
  have hD : va_D A [(y, .inr (6, [.ref am, .ref q, .ref bq])), (am, zaL (G.2 0) 41 (fun _ => 0))] := hD
  have hl : lv_has ls 8 [(0, .ref y), (1, .int (iz (fr))), (2, .int (iz (mn))), (3, .long (lz (mo))), (5, .long (lz (se)))] := hl
  rw [← hH, ← hlo]
  refine lv_iconst (v := iz (0)) hx hb dX5_add_0 rfl ?_
  refine lv_istore (lv' := [(7, .int (iz (0))), (0, .ref y), (1, .int (iz (fr))), (2, .int (iz (mn))), (3, .long (lz (mo))), (5, .long (lz (se)))]) hx hb dX5_add_1 hl (by decide) rfl (fun ls hl => ?_)
  have hl_3 : ∀ (zn_3 : Nat) (k : Int) (H : Heap) (locs : List Loc) (ls : Array Slot), (mn - k).toNat < zn_3 → (0 ≤ k ∧ k ≤ mn) → (∀ j : Int, 0 ≤ j → j < k → zamt (mo + j * se)) → va_P G.1 vwCl [(y, .inr (6, [.ref am, .ref q, .ref bq])), (am, zaL (G.2 0) 41 (fun _ => 0))] H → va_D A [(y, .inr (6, [.ref am, .ref q, .ref bq])), (am, zaL (G.2 0) 41 (fun _ => 0))] → va_S A s.heap H locs → lv_has ls 8 [(7, .int (iz (k))), (0, .ref y), (1, .int (iz (fr))), (2, .int (iz (mn))), (3, .long (lz (mo))), (5, .long (lz (se)))] → W p l e rm_c_X5_add_x s m ([.ref y, .int (iz (fr)), .int (iz (mn)), .long (lz (mo)), .long (lz (se))] : List Value).toArray below meth c H locs 0 0 Q (F0 m 3 ls []) := by
    intro zn_3
    induction zn_3 with
    | zero => intro k H locs ls hm; exact absurd hm (Nat.not_lt_zero _)
    | succ zn_3 ih_3 =>
      intro k H locs ls hm_3 k1 k2 hP hD hS hl
      refine lv_iload hx hb dX5_add_3 (lv_at hl 0 rfl) ?_
      refine lv_iload_n hx hb dX5_add_5 rfl (lv_at hl 3 rfl) ?_
      refine zr_icmp_ge (x := k) (y := mn) (tgt := 45) hx hb (⟨by omega, by omega⟩) (⟨by omega, by omega⟩) dX5_add_6 (by decide) (fun h_1 => ?_) (fun h_1 => ?_)
      ·
        exact absurd (by rw [show k = mn by omega] at k2; exact k2) h2
      ·
        refine lv_aload_n hx hb dX5_add_9 rfl (lv_at hl 1 rfl) ?_
        refine va_get (D := G.1) (ci := 6) (v := .ref am) (C := RX5) (T := TX5) (N := 3) hx hb hts iwX5 hown hK hP 0 rfl rfl 0 (by decide) (hts (.fieldLink RX5 9 "AnnuityHouse$Row" "amounts" "[J") (by decide +kernel)) (fun _ h9 => h9) rfl dX5_add_10 ?_
        refine lv_iload_n hx hb dX5_add_13 rfl (lv_at hl 2 rfl) ?_
        refine lv_iload hx hb dX5_add_14 (lv_at hl 0 rfl) ?_
        refine zr_iadd hx hb dX5_add_16 ?_
        refine zr_lald hx hb hK hP 1 0 rfl rfl (i := fr + k) (⟨by omega, by omega, by omega⟩) dX5_add_17 ?_
        refine zr_eql (x := (fun _ => 0) (fr + k)) (y := 0) rfl ?_
        refine lv_lload_n hx hb dX5_add_18 rfl (lv_at hl 4 rfl) ?_
        refine zr_ladd hx hb dX5_add_19 ?_
        refine lv_iload hx hb dX5_add_20 (lv_at hl 0 rfl) ?_
        have hkr := tpm_rng (k := k) (se := se) (by omega) (by omega)
        refine zr_i2l hx hb (x := k) (⟨by omega, by omega⟩) dX5_add_22 ?_
        refine lv_lload hx hb dX5_add_23 (lv_at hl 5 rfl) ?_
        refine zr_lmul hx hb dX5_add_25 ?_
        refine zr_ladd hx hb dX5_add_26 ?_
        refine zr_ldc2 (z := -1000000000) hx hb hown (hts (.constantLong RX5 25 (-1000000000)) (by decide +kernel)) rfl dX5_add_27 ?_
        refine zr_ldc2 (z := 1000000000) hx hb hown (hts (.constantLong RX5 27 (1000000000)) (by decide +kernel)) rfl dX5_add_30 ?_
        refine zc_z (wr := [(y, .inr (6, [.ref am, .ref q, .ref bq])), (am, zaL (G.2 0) 41 (fun _ => 0))]) (va_runSN (As := [.long (lz ((0 + mo) + (k * se))), .long (lz (-1000000000)), .long (lz (1000000000))]) (rest := []) ⟨hx, hb, hml, hown, hts⟩ (c_X9_isWithin l G ((0 + mo) + (k * se)) (-1000000000) 1000000000 (by omega) (by omega) (by omega) H.size) ⟨va_cnB 3 hts gX5_add_X9_isWithin_n29 rfl rfl rfl (hKX.2.2.2 (.methodLinkNest "AnnuityHouse$Row" 29 ⟨"AnnuityHouse", "isWithin", "(JJJ)Z"⟩ "AnnuityHouse") (by decide +kernel)) (hts (.initialized RX9) (by decide +kernel)) (by decide +kernel) ⟨Nat.le_of_ble_eq_true rfl, Nat.le_of_ble_eq_true rfl⟩, hts (.static yX9_isWithin) (by decide +kernel), trivial⟩ (zpS hKX hP hD [] rfl rfl) rfl rfl hl.1 rfl (lv_room (Nat.le_of_ble_eq_true rfl)) dX5_add_33 ⟨(by first | exact Nat.le_of_ble_eq_true rfl | (show _ ≤ (1 : Nat); omega)), (by first | exact Nat.le_of_ble_eq_true rfl | (show _ ≤ (6 : Nat); omega))⟩) hP hD hS hA [] [0, 1] rfl rfl rfl (by decide) (fun y1 u_2 H locs hy1 hP hD hS => ?_)
        have hP : va_P G.1 vwCl [(y, .inr (6, [.ref am, .ref q, .ref bq])), (am, zaL (G.2 0) 41 (fun _ => 0))] H := hP
        have hD : va_D A [(y, .inr (6, [.ref am, .ref q, .ref bq])), (am, zaL (G.2 0) 41 (fun _ => 0))] := hD
        have hy1 : y1 = decide ((-1000000000 : Int) ≤ ((0 + mo) + (k * se)) ∧ ((0 + mo) + (k * se)) ≤ (1000000000 : Int)) := hy1
        rcases Bool.eq_false_or_eq_true y1 with hbt_y1 | hbt_y1
        ·
          rw [hbt_y1]
          have hzy1 := of_decide_eq_true (hy1.symm.trans hbt_y1)
          refine zc_v (wr := [(y, .inr (6, [.ref am, .ref q, .ref bq])), (am, zaL (G.2 0) 41 (fun _ => 0))]) (va_runSN (As := [.int (iz (zbb true))]) (rest := []) ⟨hx, hb, hml, hown, hts⟩ (c_X9_demandState_o l G   H.size) ⟨va_cnB 1 hts gX5_add_X9_demandState_n33 rfl rfl rfl (hKX.2.2.2 (.methodLinkNest "AnnuityHouse$Row" 33 ⟨"AnnuityHouse", "demandState", "(Z)V"⟩ "AnnuityHouse") (by decide +kernel)) (hts (.initialized RX9) (by decide +kernel)) (by decide +kernel) ⟨Nat.le_of_ble_eq_true rfl, Nat.le_of_ble_eq_true rfl⟩, hts (.static yX9_demandState) (by decide +kernel), trivial⟩ (zpS hKX hP hD [] rfl rfl) rfl rfl hl.1 rfl (lv_room (Nat.le_of_ble_eq_true rfl)) dX5_add_36 ⟨(by first | exact Nat.le_of_ble_eq_true rfl | (show _ ≤ (1 : Nat); omega)), (by first | exact Nat.le_of_ble_eq_true rfl | (show _ ≤ (6 : Nat); omega))⟩) hP hD hS hA [] [0, 1] rfl rfl rfl (by decide) (fun u_4 H locs hq_7 hP hD hS => ?_)
          have hP : va_P G.1 vwCl [(y, .inr (6, [.ref am, .ref q, .ref bq])), (am, zaL (G.2 0) 41 (fun _ => 0))] H := hP
          have hD : va_D A [(y, .inr (6, [.ref am, .ref q, .ref bq])), (am, zaL (G.2 0) 41 (fun _ => 0))] := hD
          refine lv_iinc (v := iz (k + 1)) (lv' := [(7, .int (iz (k + 1))), (0, .ref y), (1, .int (iz (fr))), (2, .int (iz (mn))), (3, .long (lz (mo))), (5, .long (lz (se)))]) hx hb dX5_add_39 hl (k := 0) rfl (by rw [show Int32.ofInt (1) = iz (1) from rfl, iz_add]) (by decide) rfl (fun ls hl => ?_)
          refine lv_goto (tgt := 3) hx hb dX5_add_42 (by decide) ?_
          refine W.widen (k := 0) (n := 0) (by omega) (by omega) ?_
          exact ih_3 (k + 1) _ _ _ (by omega) (by omega) (fun j a b => (show j < k ∨ j = k by omega).elim (fun q => k2 j a q) (fun q => by rw [q]; unfold zamt; omega)) (hP) (hD) hS (hl)
        ·
          rw [hbt_y1]
          have hzy1 := of_decide_eq_false (hy1.symm.trans hbt_y1)
          rw [hQ]
          exact zx_thr (X := "java/lang/IllegalStateException") (vx_runSN (As := [.int (iz (zbb false))]) (rest := []) ⟨hx, hb, hml, hown, hts⟩ (c_X9_demandState_x l G s1 s2 s3 hl0 H.size) ⟨va_cnB 1 hts gX5_add_X9_demandState_n33 rfl rfl rfl (hKX.2.2.2 (.methodLinkNest "AnnuityHouse$Row" 33 ⟨"AnnuityHouse", "demandState", "(Z)V"⟩ "AnnuityHouse") (by decide +kernel)) (hts (.initialized RX9) (by decide +kernel)) (by decide +kernel) ⟨Nat.le_of_ble_eq_true rfl, Nat.le_of_ble_eq_true rfl⟩, hts (.static yX9_demandState) (by decide +kernel), trivial⟩ (zpSe zXE_ok hE hS hA hKX hP hD [] rfl rfl) rfl rfl hl.1 rfl (lv_room (Nat.le_of_ble_eq_true rfl)) dX5_add_36 ⟨(by first | exact Nat.le_of_ble_eq_true rfl | (show _ ≤ (1 : Nat); omega)), (by first | exact Nat.le_of_ble_eq_true rfl | (show _ ≤ (6 : Nat); omega))⟩) hS (va_free (wc := []) hD hS hA [] rfl) hout hlocks (by first | exact Nat.le_of_ble_eq_true rfl | omega) (by first | exact Nat.le_of_ble_eq_true rfl | omega)
  exact hl_3 ((mn - 0 : Int).toNat + 1) 0 _ _ _ (Nat.lt_succ_self _) (by omega) (fun j a b => absurd b (by omega)) (hP) (hD) hS (hl)

def rm_c_X9_setMode_o : Room := { frames := 1, cells := 0, slots := 0, locals := 25 }
theorem iw_X9_setMode_X4 : ∀ w ∈ wsX40, w ∈ wsX9_setMode := by decide +kernel
theorem iw_X9_setMode_X9 : ∀ w ∈ wsX90, w ∈ wsX9_setMode := by decide +kernel
set_option maxHeartbeats 1000000 in
set_option maxRecDepth 100000 in
theorem c_X9_setMode_o (l : Launch) (G : zG) (x : Nat) (ro : Nat) (rw : Nat) (bo : Nat) (li : Nat) (sh : Nat) (tx : Nat) (lo : Nat) (nl : Nat) (md : Int) (h0 : -2147483648 ≤ md ∧ md < 2147483648) (h1 : 0 ≤ md ∧ md ≤ 7) : zM l G yX9_setMode wsX9_setMode rm_c_X9_setMode_o [.ref x, .int (iz (md))] [(x, .inr (10, [.ref ro, .ref rw, .ref bo, .ref li, .ref sh, .ref tx, .ref lo, .ref nl])), (ro, .inr (5, [.int (iz (6))]))] (fun A => zQi G (fun (z : Int) (_ : Unit) => z = 6) (fun (_ : Unit) => [(x, .inr (10, [.ref ro, .ref rw, .ref bo, .ref li, .ref sh, .ref tx, .ref lo, .ref nl])), (ro, .inr (5, [.int (iz (md))]))]) A) 0 0 := by
  refine zM_of (cc := cX9_setMode) (maxL := 3) (ret := (some .int)) (by decide) rfl (Nat.le_of_ble_eq_true rfl) ?_
  intro p e s m below meth c ls A Q hQ hx hb hr hts hown hlocks hml hnm hKX hP hD hA hS hl
  have hK := hKX.1
  have iwX4 := iw_X9_setMode_X4
  have iwX9 := iw_X9_setMode_X9
  obtain ⟨H, hH⟩ : ∃ h, h = s.heap := ⟨_, rfl⟩
  obtain ⟨locs, hlo⟩ : ∃ h : List Loc, h = [] := ⟨_, rfl⟩
  have hS : va_S A s.heap H locs := by rw [hH, hlo]; exact hS
  have hP : va_P G.1 vwCl [(x, .inr (10, [.ref ro, .ref rw, .ref bo, .ref li, .ref sh, .ref tx, .ref lo, .ref nl])), (ro, .inr (5, [.int (iz (6))]))] H := by rw [hH]; exact hP
  have hD : va_D A [(x, .inr (10, [.ref ro, .ref rw, .ref bo, .ref li, .ref sh, .ref tx, .ref lo, .ref nl])), (ro, .inr (5, [.int (iz (6))]))] := hD
  have hl : lv_has ls 3 [(0, .ref x), (1, .int (iz (md)))] := hl
  rw [← hH, ← hlo]
  refine lv_iload_n hx hb dX9_setMode_0 rfl (lv_at hl 1 rfl) ?_
  refine zr_i2l hx hb (x := md) (⟨by omega, by omega⟩) dX9_setMode_1 ?_
  refine lv_lconst (v := lz (0)) hx hb dX9_setMode_2 rfl ?_
  refine zr_ldc2 (z := 7) hx hb hown (hts (.constantLong RX9 61 (7)) (by decide +kernel)) rfl dX9_setMode_3 ?_
  refine zc_z (wr := [(x, .inr (10, [.ref ro, .ref rw, .ref bo, .ref li, .ref sh, .ref tx, .ref lo, .ref nl])), (ro, .inr (5, [.int (iz (6))]))]) (va_runS (As := [.long (lz (md)), .long (lz (0)), .long (lz (7))]) (rest := []) ⟨hx, hb, hml, hown, hts⟩ (c_X9_isWithin l G md 0 7 (by omega) (by omega) (by omega) H.size) (va_cwS 3 hts gX9_setMode_X9_isWithin rfl rfl rfl (by decide +kernel) ⟨Nat.le_of_ble_eq_true rfl, Nat.le_of_ble_eq_true rfl⟩) (zpS hKX hP hD [] rfl rfl) rfl rfl hl.1 rfl (lv_room (Nat.le_of_ble_eq_true rfl)) dX9_setMode_6 ⟨(by first | exact Nat.le_of_ble_eq_true rfl | (show _ ≤ (0 : Nat); omega)), (by first | exact Nat.le_of_ble_eq_true rfl | (show _ ≤ (0 : Nat); omega))⟩) hP hD hS hA [] [0, 1] rfl rfl rfl (by decide) (fun y1 u_1 H locs hy1 hP hD hS => ?_)
  have hP : va_P G.1 vwCl [(x, .inr (10, [.ref ro, .ref rw, .ref bo, .ref li, .ref sh, .ref tx, .ref lo, .ref nl])), (ro, .inr (5, [.int (iz (6))]))] H := hP
  have hD : va_D A [(x, .inr (10, [.ref ro, .ref rw, .ref bo, .ref li, .ref sh, .ref tx, .ref lo, .ref nl])), (ro, .inr (5, [.int (iz (6))]))] := hD
  have hy1 : y1 = decide ((0 : Int) ≤ md ∧ md ≤ (7 : Int)) := hy1
  rw [show y1 = true from hy1.trans (decide_eq_true (by omega))]
  refine zc_v (wr := [(x, .inr (10, [.ref ro, .ref rw, .ref bo, .ref li, .ref sh, .ref tx, .ref lo, .ref nl])), (ro, .inr (5, [.int (iz (6))]))]) (va_runS (As := [.int (iz (zbb true))]) (rest := []) ⟨hx, hb, hml, hown, hts⟩ (c_X9_demand_o l G   H.size) (va_cwS 1 hts gX9_setMode_X9_demand rfl rfl rfl (by decide +kernel) ⟨Nat.le_of_ble_eq_true rfl, Nat.le_of_ble_eq_true rfl⟩) (zpS hKX hP hD [] rfl rfl) rfl rfl hl.1 rfl (lv_room (Nat.le_of_ble_eq_true rfl)) dX9_setMode_9 ⟨(by first | exact Nat.le_of_ble_eq_true rfl | (show _ ≤ (0 : Nat); omega)), (by first | exact Nat.le_of_ble_eq_true rfl | (show _ ≤ (0 : Nat); omega))⟩) hP hD hS hA [] [0, 1] rfl rfl rfl (by decide) (fun u_3 H locs hq_6 hP hD hS => ?_)
  have hP : va_P G.1 vwCl [(x, .inr (10, [.ref ro, .ref rw, .ref bo, .ref li, .ref sh, .ref tx, .ref lo, .ref nl])), (ro, .inr (5, [.int (iz (6))]))] H := hP
  have hD : va_D A [(x, .inr (10, [.ref ro, .ref rw, .ref bo, .ref li, .ref sh, .ref tx, .ref lo, .ref nl])), (ro, .inr (5, [.int (iz (6))]))] := hD
  refine lv_aload_n hx hb dX9_setMode_12 rfl (lv_at hl 0 rfl) ?_
  refine va_get (D := G.1) (ci := 10) (v := .ref ro) (C := RX9) (T := TX9) (N := 8) hx hb hts iwX9 hown hK hP 0 rfl rfl 0 (by decide) (hts (.fieldLink RX9 10 "AnnuityHouse" "rounder" "LAnnuityHouse$Rounder;") (by decide +kernel)) (fun _ h9 => h9) rfl dX9_setMode_13 ?_
  refine va_get (D := G.1) (ci := 5) (v := .int (iz (6))) (C := RX4) (T := TX4) (N := 1) hx hb hts iwX4 hown hK hP 1 rfl rfl 0 (by decide) (hts (.fieldLink RX9 71 "AnnuityHouse$Rounder" "mode" "I") (by decide +kernel)) (fun _ h9 => h9) rfl dX9_setMode_16 ?_
  refine lv_istore_n (lv' := [(2, .int (iz (6))), (0, .ref x), (1, .int (iz (md)))]) hx hb dX9_setMode_19 rfl hl (by decide) rfl (fun ls hl => ?_)
  refine lv_aload_n hx hb dX9_setMode_20 rfl (lv_at hl 1 rfl) ?_
  refine va_get (D := G.1) (ci := 10) (v := .ref ro) (C := RX9) (T := TX9) (N := 8) hx hb hts iwX9 hown hK hP 0 rfl rfl 0 (by decide) (hts (.fieldLink RX9 10 "AnnuityHouse" "rounder" "LAnnuityHouse$Rounder;") (by decide +kernel)) (fun _ h9 => h9) rfl dX9_setMode_21 ?_
  refine lv_iload_n hx hb dX9_setMode_24 rfl (lv_at hl 2 rfl) ?_
  refine va_put (D := G.1) (ci := 5) (v := .int (iz (md))) (ty := .int) (C := RX4) (T := TX4) (N := 1) hx hb hts iwX4 tyX4 tyX4_ok nmX4 hown hK hP hD hS 1 rfl rfl 0 (by decide) (hts (.fieldLink RX9 71 "AnnuityHouse$Rounder" "mode" "I") (by decide +kernel)) (fun _ h9 => h9) rfl (by decide +kernel) rfl rfl (Nat.le_of_ble_eq_true rfl) dX9_setMode_25 (fun H locs hP hD hS => ?_)
  have hP : va_P G.1 vwCl [(x, .inr (10, [.ref ro, .ref rw, .ref bo, .ref li, .ref sh, .ref tx, .ref lo, .ref nl])), (ro, .inr (5, [.int (iz (md))]))] H := hP
  have hD : va_D A [(x, .inr (10, [.ref ro, .ref rw, .ref bo, .ref li, .ref sh, .ref tx, .ref lo, .ref nl])), (ro, .inr (5, [.int (iz (md))]))] := hD
  refine lv_iload_n hx hb dX9_setMode_28 rfl (lv_at hl 0 rfl) ?_
  rw [hQ]
  exact zr_iret (z := 6) (u := ()) hx hb hr hlocks hP hD hS (by first | exact Nat.le_of_ble_eq_true rfl | omega) (by first | exact Nat.le_of_ble_eq_true rfl | omega) dX9_setMode_29 (show 6 = 6 from rfl)

def rm_c_X9_setMode_x : Room := { frames := 7, cells := 1, slots := 6, locals := 110 }
set_option maxHeartbeats 1000000 in
set_option maxRecDepth 100000 in
theorem c_X9_setMode_x (l : Launch) (G : zG) (s1 : Nat) (s2 : Nat) (s3 : Nat) (x : Nat) (ro : Nat) (rw : Nat) (bo : Nat) (li : Nat) (sh : Nat) (tx : Nat) (lo : Nat) (nl : Nat) (md : Int) (hl0 : l.stackTraces = false) (h0 : -2147483648 ≤ md ∧ md < 2147483648) (h1 : ¬ (0 ≤ md ∧ md ≤ 7)) : zMx l (zXE s1 s2 s3) G yX9_setMode wsX9_setMode rm_c_X9_setMode_x [.ref x, .int (iz (md))] [(x, .inr (10, [.ref ro, .ref rw, .ref bo, .ref li, .ref sh, .ref tx, .ref lo, .ref nl]))] "java/lang/IllegalArgumentException" 1 6 := by
  refine zMx_of (cc := cX9_setMode) (maxL := 3) (ret := (some .int)) (by decide) rfl (Nat.le_of_ble_eq_true rfl) ?_
  intro p e s m below meth c ls A Q hQ hx hb hr hts hown hlocks hml hout hKX hE hP hD hA hS hl
  have hK := hKX.1
  obtain ⟨H, hH⟩ : ∃ h, h = s.heap := ⟨_, rfl⟩
  obtain ⟨locs, hlo⟩ : ∃ h : List Loc, h = [] := ⟨_, rfl⟩
  have hS : va_S A s.heap H locs := by rw [hH, hlo]; exact hS
  have hP : va_P G.1 vwCl [(x, .inr (10, [.ref ro, .ref rw, .ref bo, .ref li, .ref sh, .ref tx, .ref lo, .ref nl]))] H := by rw [hH]; exact hP
  have hD : va_D A [(x, .inr (10, [.ref ro, .ref rw, .ref bo, .ref li, .ref sh, .ref tx, .ref lo, .ref nl]))] := hD
  have hl : lv_has ls 3 [(0, .ref x), (1, .int (iz (md)))] := hl
  rw [← hH, ← hlo]
  refine lv_iload_n hx hb dX9_setMode_0 rfl (lv_at hl 1 rfl) ?_
  refine zr_i2l hx hb (x := md) (⟨by omega, by omega⟩) dX9_setMode_1 ?_
  refine lv_lconst (v := lz (0)) hx hb dX9_setMode_2 rfl ?_
  refine zr_ldc2 (z := 7) hx hb hown (hts (.constantLong RX9 61 (7)) (by decide +kernel)) rfl dX9_setMode_3 ?_
  refine zc_z (wr := [(x, .inr (10, [.ref ro, .ref rw, .ref bo, .ref li, .ref sh, .ref tx, .ref lo, .ref nl]))]) (va_runS (As := [.long (lz (md)), .long (lz (0)), .long (lz (7))]) (rest := []) ⟨hx, hb, hml, hown, hts⟩ (c_X9_isWithin l G md 0 7 (by omega) (by omega) (by omega) H.size) (va_cwS 3 hts gX9_setMode_X9_isWithin rfl rfl rfl (by decide +kernel) ⟨Nat.le_of_ble_eq_true rfl, Nat.le_of_ble_eq_true rfl⟩) (zpS hKX hP hD [] rfl rfl) rfl rfl hl.1 rfl (lv_room (Nat.le_of_ble_eq_true rfl)) dX9_setMode_6 ⟨(by first | exact Nat.le_of_ble_eq_true rfl | (show _ ≤ (1 : Nat); omega)), (by first | exact Nat.le_of_ble_eq_true rfl | (show _ ≤ (6 : Nat); omega))⟩) hP hD hS hA [] [0] rfl rfl rfl (by decide) (fun y1 u_1 H locs hy1 hP hD hS => ?_)
  have hP : va_P G.1 vwCl [(x, .inr (10, [.ref ro, .ref rw, .ref bo, .ref li, .ref sh, .ref tx, .ref lo, .ref nl]))] H := hP
  have hD : va_D A [(x, .inr (10, [.ref ro, .ref rw, .ref bo, .ref li, .ref sh, .ref tx, .ref lo, .ref nl]))] := hD
  have hy1 : y1 = decide ((0 : Int) ≤ md ∧ md ≤ (7 : Int)) := hy1
  rw [show y1 = false from hy1.trans (decide_eq_false (by omega))]
  rw [hQ]
  exact zx_thr (X := "java/lang/IllegalArgumentException") (vx_runS (As := [.int (iz (zbb false))]) (rest := []) ⟨hx, hb, hml, hown, hts⟩ (c_X9_demand_x l G s1 s2 s3 hl0 H.size) (va_cwS 1 hts gX9_setMode_X9_demand rfl rfl rfl (by decide +kernel) ⟨Nat.le_of_ble_eq_true rfl, Nat.le_of_ble_eq_true rfl⟩) (zpSe zXE_ok hE hS hA hKX hP hD [] rfl rfl) rfl rfl hl.1 rfl (lv_room (Nat.le_of_ble_eq_true rfl)) dX9_setMode_9 ⟨(by first | exact Nat.le_of_ble_eq_true rfl | (show _ ≤ (1 : Nat); omega)), (by first | exact Nat.le_of_ble_eq_true rfl | (show _ ≤ (6 : Nat); omega))⟩) hS (va_free (wc := []) hD hS hA [] rfl) hout hlocks (by first | exact Nat.le_of_ble_eq_true rfl | omega) (by first | exact Nat.le_of_ble_eq_true rfl | omega)

def rm_c_X9_mode : Room := { frames := 0, cells := 0, slots := 0, locals := 0 }
theorem iw_X9_mode_X4 : ∀ w ∈ wsX40, w ∈ wsX9_mode := by decide +kernel
theorem iw_X9_mode_X9 : ∀ w ∈ wsX90, w ∈ wsX9_mode := by decide +kernel
set_option maxHeartbeats 1000000 in
set_option maxRecDepth 100000 in
theorem c_X9_mode (l : Launch) (G : zG) (x : Nat) (ro : Nat) (rw : Nat) (bo : Nat) (li : Nat) (sh : Nat) (tx : Nat) (lo : Nat) (nl : Nat)  : zM l G yX9_mode wsX9_mode rm_c_X9_mode [.ref x] [(x, .inr (10, [.ref ro, .ref rw, .ref bo, .ref li, .ref sh, .ref tx, .ref lo, .ref nl])), (ro, .inr (5, [.int (iz (6))]))] (fun A => zQi G (fun (z : Int) (_ : Unit) => z = 6) (fun (_ : Unit) => [(x, .inr (10, [.ref ro, .ref rw, .ref bo, .ref li, .ref sh, .ref tx, .ref lo, .ref nl])), (ro, .inr (5, [.int (iz (6))]))]) A) 0 0 := by
  refine zM_of (cc := cX9_mode) (maxL := 1) (ret := (some .int)) (by decide) rfl (Nat.le_of_ble_eq_true rfl) ?_
  intro p e s m below meth c ls A Q hQ hx hb hr hts hown hlocks hml hnm hKX hP hD hA hS hl
  have hK := hKX.1
  have iwX4 := iw_X9_mode_X4
  have iwX9 := iw_X9_mode_X9
  obtain ⟨H, hH⟩ : ∃ h, h = s.heap := ⟨_, rfl⟩
  obtain ⟨locs, hlo⟩ : ∃ h : List Loc, h = [] := ⟨_, rfl⟩
  have hS : va_S A s.heap H locs := by rw [hH, hlo]; exact hS
  have hP : va_P G.1 vwCl [(x, .inr (10, [.ref ro, .ref rw, .ref bo, .ref li, .ref sh, .ref tx, .ref lo, .ref nl])), (ro, .inr (5, [.int (iz (6))]))] H := by rw [hH]; exact hP
  have hD : va_D A [(x, .inr (10, [.ref ro, .ref rw, .ref bo, .ref li, .ref sh, .ref tx, .ref lo, .ref nl])), (ro, .inr (5, [.int (iz (6))]))] := hD
  have hl : lv_has ls 1 [(0, .ref x)] := hl
  rw [← hH, ← hlo]
  refine lv_aload_n hx hb dX9_mode_0 rfl (lv_at hl 0 rfl) ?_
  refine va_get (D := G.1) (ci := 10) (v := .ref ro) (C := RX9) (T := TX9) (N := 8) hx hb hts iwX9 hown hK hP 0 rfl rfl 0 (by decide) (hts (.fieldLink RX9 10 "AnnuityHouse" "rounder" "LAnnuityHouse$Rounder;") (by decide +kernel)) (fun _ h9 => h9) rfl dX9_mode_1 ?_
  refine va_get (D := G.1) (ci := 5) (v := .int (iz (6))) (C := RX4) (T := TX4) (N := 1) hx hb hts iwX4 hown hK hP 1 rfl rfl 0 (by decide) (hts (.fieldLink RX9 71 "AnnuityHouse$Rounder" "mode" "I") (by decide +kernel)) (fun _ h9 => h9) rfl dX9_mode_4 ?_
  rw [hQ]
  exact zr_iret (z := 6) (u := ()) hx hb hr hlocks hP hD hS (by first | exact Nat.le_of_ble_eq_true rfl | omega) (by first | exact Nat.le_of_ble_eq_true rfl | omega) dX9_mode_7 (show 6 = 6 from rfl)

def rm_c_X9_round_o : Room := { frames := 3, cells := 0, slots := 0, locals := 79 }
theorem iw_X9_round_X9 : ∀ w ∈ wsX90, w ∈ wsX9_round := by decide +kernel
set_option maxHeartbeats 1000000 in
set_option maxRecDepth 100000 in
theorem c_X9_round_o (l : Launch) (G : zG) (x : Nat) (ro : Nat) (rw : Nat) (bo : Nat) (li : Nat) (sh : Nat) (tx : Nat) (lo : Nat) (nl : Nat) (ov : Int) (un : Int) (dg : Int) (h0 : -9223372036854775808 ≤ ov ∧ ov < 9223372036854775808) (h01 : -9223372036854775808 ≤ un ∧ un < 9223372036854775808) (h02 : -2147483648 ≤ dg ∧ dg < 2147483648) (h1 : -1000000000000 ≤ ov ∧ ov ≤ 1000000000000 ∧ 1 ≤ un ∧ un ≤ 1000000000000 ∧ 0 ≤ dg ∧ dg ≤ 6) : zM l G yX9_round wsX9_round rm_c_X9_round_o [.ref x, .long (lz (ov)), .long (lz (un)), .int (iz (dg))] [(x, .inr (10, [.ref ro, .ref rw, .ref bo, .ref li, .ref sh, .ref tx, .ref lo, .ref nl])), (ro, .inr (5, [.int (iz (6))]))] (fun A => zQl G (fun (z : Int) (_ : Unit) => z = zr6 (ov * 10 ^ dg.toNat) un) (fun (_ : Unit) => [(x, .inr (10, [.ref ro, .ref rw, .ref bo, .ref li, .ref sh, .ref tx, .ref lo, .ref nl])), (ro, .inr (5, [.int (iz (6))]))]) A) 0 0 := by
  refine zM_of (cc := cX9_round) (maxL := 9) (ret := (some .long)) (by decide) rfl (Nat.le_of_ble_eq_true rfl) ?_
  intro p e s m below meth c ls A Q hQ hx hb hr hts hown hlocks hml hnm hKX hP hD hA hS hl
  have hK := hKX.1
  have iwX9 := iw_X9_round_X9
  obtain ⟨H, hH⟩ : ∃ h, h = s.heap := ⟨_, rfl⟩
  obtain ⟨locs, hlo⟩ : ∃ h : List Loc, h = [] := ⟨_, rfl⟩
  have hS : va_S A s.heap H locs := by rw [hH, hlo]; exact hS
  have hP : va_P G.1 vwCl [(x, .inr (10, [.ref ro, .ref rw, .ref bo, .ref li, .ref sh, .ref tx, .ref lo, .ref nl])), (ro, .inr (5, [.int (iz (6))]))] H := by rw [hH]; exact hP
  have hD : va_D A [(x, .inr (10, [.ref ro, .ref rw, .ref bo, .ref li, .ref sh, .ref tx, .ref lo, .ref nl])), (ro, .inr (5, [.int (iz (6))]))] := hD
  have hl : lv_has ls 9 [(0, .ref x), (1, .long (lz (ov))), (3, .long (lz (un))), (5, .int (iz (dg)))] := hl
  rw [← hH, ← hlo]
  refine lv_lload_n hx hb dX9_round_0 rfl (lv_at hl 1 rfl) ?_
  refine zr_ldc2 (z := -1000000000000) hx hb hown (hts (.constantLong RX9 75 (-1000000000000)) (by decide +kernel)) rfl dX9_round_1 ?_
  refine zr_ldc2 (z := 1000000000000) hx hb hown (hts (.constantLong RX9 77 (1000000000000)) (by decide +kernel)) rfl dX9_round_4 ?_
  refine zc_z (wr := [(x, .inr (10, [.ref ro, .ref rw, .ref bo, .ref li, .ref sh, .ref tx, .ref lo, .ref nl])), (ro, .inr (5, [.int (iz (6))]))]) (va_runS (As := [.long (lz (ov)), .long (lz (-1000000000000)), .long (lz (1000000000000))]) (rest := []) ⟨hx, hb, hml, hown, hts⟩ (c_X9_isWithin l G ov (-1000000000000) 1000000000000 (by omega) (by omega) (by omega) H.size) (va_cwS 3 hts gX9_round_X9_isWithin rfl rfl rfl (by decide +kernel) ⟨Nat.le_of_ble_eq_true rfl, Nat.le_of_ble_eq_true rfl⟩) (zpS hKX hP hD [] rfl rfl) rfl rfl hl.1 rfl (lv_room (Nat.le_of_ble_eq_true rfl)) dX9_round_7 ⟨(by first | exact Nat.le_of_ble_eq_true rfl | (show _ ≤ (0 : Nat); omega)), (by first | exact Nat.le_of_ble_eq_true rfl | (show _ ≤ (0 : Nat); omega))⟩) hP hD hS hA [] [0, 1] rfl rfl rfl (by decide) (fun y1 u_1 H locs hy1 hP hD hS => ?_)
  have hP : va_P G.1 vwCl [(x, .inr (10, [.ref ro, .ref rw, .ref bo, .ref li, .ref sh, .ref tx, .ref lo, .ref nl])), (ro, .inr (5, [.int (iz (6))]))] H := hP
  have hD : va_D A [(x, .inr (10, [.ref ro, .ref rw, .ref bo, .ref li, .ref sh, .ref tx, .ref lo, .ref nl])), (ro, .inr (5, [.int (iz (6))]))] := hD
  have hy1 : y1 = decide ((-1000000000000 : Int) ≤ ov ∧ ov ≤ (1000000000000 : Int)) := hy1
  rw [show y1 = true from hy1.trans (decide_eq_true (by omega))]
  refine zc_v (wr := [(x, .inr (10, [.ref ro, .ref rw, .ref bo, .ref li, .ref sh, .ref tx, .ref lo, .ref nl])), (ro, .inr (5, [.int (iz (6))]))]) (va_runS (As := [.int (iz (zbb true))]) (rest := []) ⟨hx, hb, hml, hown, hts⟩ (c_X9_demand_o l G   H.size) (va_cwS 1 hts gX9_round_X9_demand rfl rfl rfl (by decide +kernel) ⟨Nat.le_of_ble_eq_true rfl, Nat.le_of_ble_eq_true rfl⟩) (zpS hKX hP hD [] rfl rfl) rfl rfl hl.1 rfl (lv_room (Nat.le_of_ble_eq_true rfl)) dX9_round_10 ⟨(by first | exact Nat.le_of_ble_eq_true rfl | (show _ ≤ (0 : Nat); omega)), (by first | exact Nat.le_of_ble_eq_true rfl | (show _ ≤ (0 : Nat); omega))⟩) hP hD hS hA [] [0, 1] rfl rfl rfl (by decide) (fun u_3 H locs hq_6 hP hD hS => ?_)
  have hP : va_P G.1 vwCl [(x, .inr (10, [.ref ro, .ref rw, .ref bo, .ref li, .ref sh, .ref tx, .ref lo, .ref nl])), (ro, .inr (5, [.int (iz (6))]))] H := hP
  have hD : va_D A [(x, .inr (10, [.ref ro, .ref rw, .ref bo, .ref li, .ref sh, .ref tx, .ref lo, .ref nl])), (ro, .inr (5, [.int (iz (6))]))] := hD
  refine lv_lload_n hx hb dX9_round_13 rfl (lv_at hl 2 rfl) ?_
  refine lv_lconst (v := lz (1)) hx hb dX9_round_14 rfl ?_
  refine zr_ldc2 (z := 1000000000000) hx hb hown (hts (.constantLong RX9 77 (1000000000000)) (by decide +kernel)) rfl dX9_round_15 ?_
  refine zc_z (wr := [(x, .inr (10, [.ref ro, .ref rw, .ref bo, .ref li, .ref sh, .ref tx, .ref lo, .ref nl])), (ro, .inr (5, [.int (iz (6))]))]) (va_runS (As := [.long (lz (un)), .long (lz (1)), .long (lz (1000000000000))]) (rest := []) ⟨hx, hb, hml, hown, hts⟩ (c_X9_isWithin l G un 1 1000000000000 (by omega) (by omega) (by omega) H.size) (va_cwS 3 hts gX9_round_X9_isWithin rfl rfl rfl (by decide +kernel) ⟨Nat.le_of_ble_eq_true rfl, Nat.le_of_ble_eq_true rfl⟩) (zpS hKX hP hD [] rfl rfl) rfl rfl hl.1 rfl (lv_room (Nat.le_of_ble_eq_true rfl)) dX9_round_18 ⟨(by first | exact Nat.le_of_ble_eq_true rfl | (show _ ≤ (0 : Nat); omega)), (by first | exact Nat.le_of_ble_eq_true rfl | (show _ ≤ (0 : Nat); omega))⟩) hP hD hS hA [] [0, 1] rfl rfl rfl (by decide) (fun y2 u_7 H locs hy2 hP hD hS => ?_)
  have hP : va_P G.1 vwCl [(x, .inr (10, [.ref ro, .ref rw, .ref bo, .ref li, .ref sh, .ref tx, .ref lo, .ref nl])), (ro, .inr (5, [.int (iz (6))]))] H := hP
  have hD : va_D A [(x, .inr (10, [.ref ro, .ref rw, .ref bo, .ref li, .ref sh, .ref tx, .ref lo, .ref nl])), (ro, .inr (5, [.int (iz (6))]))] := hD
  have hy2 : y2 = decide ((1 : Int) ≤ un ∧ un ≤ (1000000000000 : Int)) := hy2
  rw [show y2 = true from hy2.trans (decide_eq_true (by omega))]
  refine zc_v (wr := [(x, .inr (10, [.ref ro, .ref rw, .ref bo, .ref li, .ref sh, .ref tx, .ref lo, .ref nl])), (ro, .inr (5, [.int (iz (6))]))]) (va_runS (As := [.int (iz (zbb true))]) (rest := []) ⟨hx, hb, hml, hown, hts⟩ (c_X9_demand_o l G   H.size) (va_cwS 1 hts gX9_round_X9_demand rfl rfl rfl (by decide +kernel) ⟨Nat.le_of_ble_eq_true rfl, Nat.le_of_ble_eq_true rfl⟩) (zpS hKX hP hD [] rfl rfl) rfl rfl hl.1 rfl (lv_room (Nat.le_of_ble_eq_true rfl)) dX9_round_21 ⟨(by first | exact Nat.le_of_ble_eq_true rfl | (show _ ≤ (0 : Nat); omega)), (by first | exact Nat.le_of_ble_eq_true rfl | (show _ ≤ (0 : Nat); omega))⟩) hP hD hS hA [] [0, 1] rfl rfl rfl (by decide) (fun u_9 H locs hq_12 hP hD hS => ?_)
  have hP : va_P G.1 vwCl [(x, .inr (10, [.ref ro, .ref rw, .ref bo, .ref li, .ref sh, .ref tx, .ref lo, .ref nl])), (ro, .inr (5, [.int (iz (6))]))] H := hP
  have hD : va_D A [(x, .inr (10, [.ref ro, .ref rw, .ref bo, .ref li, .ref sh, .ref tx, .ref lo, .ref nl])), (ro, .inr (5, [.int (iz (6))]))] := hD
  refine lv_iload hx hb dX9_round_24 (lv_at hl 3 rfl) ?_
  refine zr_i2l hx hb (x := dg) (⟨by omega, by omega⟩) dX9_round_26 ?_
  refine lv_lconst (v := lz (0)) hx hb dX9_round_27 rfl ?_
  refine zr_ldc2 (z := 6) hx hb hown (hts (.constantLong RX9 79 (6)) (by decide +kernel)) rfl dX9_round_28 ?_
  refine zc_z (wr := [(x, .inr (10, [.ref ro, .ref rw, .ref bo, .ref li, .ref sh, .ref tx, .ref lo, .ref nl])), (ro, .inr (5, [.int (iz (6))]))]) (va_runS (As := [.long (lz (dg)), .long (lz (0)), .long (lz (6))]) (rest := []) ⟨hx, hb, hml, hown, hts⟩ (c_X9_isWithin l G dg 0 6 (by omega) (by omega) (by omega) H.size) (va_cwS 3 hts gX9_round_X9_isWithin rfl rfl rfl (by decide +kernel) ⟨Nat.le_of_ble_eq_true rfl, Nat.le_of_ble_eq_true rfl⟩) (zpS hKX hP hD [] rfl rfl) rfl rfl hl.1 rfl (lv_room (Nat.le_of_ble_eq_true rfl)) dX9_round_31 ⟨(by first | exact Nat.le_of_ble_eq_true rfl | (show _ ≤ (0 : Nat); omega)), (by first | exact Nat.le_of_ble_eq_true rfl | (show _ ≤ (0 : Nat); omega))⟩) hP hD hS hA [] [0, 1] rfl rfl rfl (by decide) (fun y3 u_13 H locs hy3 hP hD hS => ?_)
  have hP : va_P G.1 vwCl [(x, .inr (10, [.ref ro, .ref rw, .ref bo, .ref li, .ref sh, .ref tx, .ref lo, .ref nl])), (ro, .inr (5, [.int (iz (6))]))] H := hP
  have hD : va_D A [(x, .inr (10, [.ref ro, .ref rw, .ref bo, .ref li, .ref sh, .ref tx, .ref lo, .ref nl])), (ro, .inr (5, [.int (iz (6))]))] := hD
  have hy3 : y3 = decide ((0 : Int) ≤ dg ∧ dg ≤ (6 : Int)) := hy3
  rw [show y3 = true from hy3.trans (decide_eq_true (by omega))]
  refine zc_v (wr := [(x, .inr (10, [.ref ro, .ref rw, .ref bo, .ref li, .ref sh, .ref tx, .ref lo, .ref nl])), (ro, .inr (5, [.int (iz (6))]))]) (va_runS (As := [.int (iz (zbb true))]) (rest := []) ⟨hx, hb, hml, hown, hts⟩ (c_X9_demand_o l G   H.size) (va_cwS 1 hts gX9_round_X9_demand rfl rfl rfl (by decide +kernel) ⟨Nat.le_of_ble_eq_true rfl, Nat.le_of_ble_eq_true rfl⟩) (zpS hKX hP hD [] rfl rfl) rfl rfl hl.1 rfl (lv_room (Nat.le_of_ble_eq_true rfl)) dX9_round_34 ⟨(by first | exact Nat.le_of_ble_eq_true rfl | (show _ ≤ (0 : Nat); omega)), (by first | exact Nat.le_of_ble_eq_true rfl | (show _ ≤ (0 : Nat); omega))⟩) hP hD hS hA [] [0, 1] rfl rfl rfl (by decide) (fun u_15 H locs hq_18 hP hD hS => ?_)
  have hP : va_P G.1 vwCl [(x, .inr (10, [.ref ro, .ref rw, .ref bo, .ref li, .ref sh, .ref tx, .ref lo, .ref nl])), (ro, .inr (5, [.int (iz (6))]))] H := hP
  have hD : va_D A [(x, .inr (10, [.ref ro, .ref rw, .ref bo, .ref li, .ref sh, .ref tx, .ref lo, .ref nl])), (ro, .inr (5, [.int (iz (6))]))] := hD
  refine lv_lload_n hx hb dX9_round_37 rfl (lv_at hl 1 rfl) ?_
  refine lv_lstore (lv' := [(6, .long (lz (ov))), (0, .ref x), (1, .long (lz (ov))), (3, .long (lz (un))), (5, .int (iz (dg)))]) hx hb dX9_round_38 hl (by decide) rfl (fun ls hl => ?_)
  refine lv_iconst (v := iz (0)) hx hb dX9_round_40 rfl ?_
  refine lv_istore (lv' := [(8, .int (iz (0))), (6, .long (lz (ov))), (0, .ref x), (1, .long (lz (ov))), (3, .long (lz (un))), (5, .int (iz (dg)))]) hx hb dX9_round_41 hl (by decide) rfl (fun ls hl => ?_)
  have hl_43 : ∀ (zn_43 : Nat) (i : Int) (sc : Int) (H : Heap) (locs : List Loc) (ls : Array Slot), (dg - i).toNat < zn_43 → (0 ≤ i ∧ i ≤ dg) → (sc = ov * 10 ^ i.toNat) → va_P G.1 vwCl [(x, .inr (10, [.ref ro, .ref rw, .ref bo, .ref li, .ref sh, .ref tx, .ref lo, .ref nl])), (ro, .inr (5, [.int (iz (6))]))] H → va_D A [(x, .inr (10, [.ref ro, .ref rw, .ref bo, .ref li, .ref sh, .ref tx, .ref lo, .ref nl])), (ro, .inr (5, [.int (iz (6))]))] → va_S A s.heap H locs → lv_has ls 9 [(8, .int (iz (i))), (6, .long (lz (sc))), (0, .ref x), (1, .long (lz (ov))), (3, .long (lz (un))), (5, .int (iz (dg)))] → W p l e rm_c_X9_round_o s m ([.ref x, .long (lz (ov)), .long (lz (un)), .int (iz (dg))] : List Value).toArray below meth c H locs (0 + 0 + 0 + 0 + 0 + 0 + 0) (0 + 0 + 0 + 0 + 0 + 0 + 0) Q (F0 m 43 ls []) := by
    intro zn_43
    induction zn_43 with
    | zero => intro i sc H locs ls hm; exact absurd hm (Nat.not_lt_zero _)
    | succ zn_43 ih_43 =>
      intro i sc H locs ls hm_43 k1 k2 hP hD hS hl
      refine lv_iload hx hb dX9_round_43 (lv_at hl 0 rfl) ?_
      refine lv_iload hx hb dX9_round_45 (lv_at hl 5 rfl) ?_
      refine zr_icmp_ge (x := i) (y := dg) (tgt := 64) hx hb (⟨by omega, by omega⟩) (⟨by omega, by omega⟩) dX9_round_47 (by decide) (fun h_19 => ?_) (fun h_19 => ?_)
      ·
        refine lv_aload_n hx hb dX9_round_64 rfl (lv_at hl 2 rfl) ?_
        refine va_get (D := G.1) (ci := 10) (v := .ref ro) (C := RX9) (T := TX9) (N := 8) hx hb hts iwX9 hown hK hP 0 rfl rfl 0 (by decide) (hts (.fieldLink RX9 10 "AnnuityHouse" "rounder" "LAnnuityHouse$Rounder;") (by decide +kernel)) (fun _ h9 => h9) rfl dX9_round_65 ?_
        refine lv_lload hx hb dX9_round_68 (lv_at hl 1 rfl) ?_
        refine lv_lload_n hx hb dX9_round_70 rfl (lv_at hl 4 rfl) ?_
        have hrr := zrd_rng (k := dg) h1.1 h1.2.1 (by omega)
        refine zc_l (wr := [(x, .inr (10, [.ref ro, .ref rw, .ref bo, .ref li, .ref sh, .ref tx, .ref lo, .ref nl]))]) (va_runV (As := [.long (lz (sc)), .long (lz (un))]) (rest := []) ⟨hx, hb, hml, hown, hts⟩ (c_X4_ratio l G ro sc un (by rw [k2, show i = dg by omega]; exact hrr) (by omega) H.size) (cwV 2 hts gX9_round_X4_ratio rfl rfl rfl (by decide +kernel) ⟨Nat.le_of_ble_eq_true rfl, Nat.le_of_ble_eq_true rfl⟩) (zpV hKX hP hD [1] rfl rfl 1 5 rfl rfl) rfl rfl hl.1 rfl (lv_room (Nat.le_of_ble_eq_true rfl)) dX9_round_71 ⟨(by first | exact Nat.le_of_ble_eq_true rfl | (show _ ≤ (0 : Nat); omega)), (by first | exact Nat.le_of_ble_eq_true rfl | (show _ ≤ (0 : Nat); omega))⟩) hP hD hS hA [1] [0] rfl rfl rfl (by decide) (fun zz u_20 H locs hz hP hD hS => ?_)
        have hP : va_P G.1 vwCl [(x, .inr (10, [.ref ro, .ref rw, .ref bo, .ref li, .ref sh, .ref tx, .ref lo, .ref nl])), (ro, .inr (5, [.int (iz (6))]))] H := hP
        have hD : va_D A [(x, .inr (10, [.ref ro, .ref rw, .ref bo, .ref li, .ref sh, .ref tx, .ref lo, .ref nl])), (ro, .inr (5, [.int (iz (6))]))] := hD
        have hz : zz = zr6 sc un := hz
        rw [hQ]
        exact zr_lret (z := zz) (u := ()) hx hb hr hlocks hP hD hS (by first | exact Nat.le_of_ble_eq_true rfl | omega) (by first | exact Nat.le_of_ble_eq_true rfl | omega) dX9_round_74 (show zz = zr6 (ov * 10 ^ dg.toNat) un from by rw [hz, k2, show i = dg by omega])
      ·
        refine lv_lload hx hb dX9_round_50 (lv_at hl 1 rfl) ?_
        refine zr_ldc2 (z := 10) hx hb hown (hts (.constantLong RX9 81 (10)) (by decide +kernel)) rfl dX9_round_52 ?_
        refine zr_lmul hx hb dX9_round_55 ?_
        refine lv_lstore (lv' := [(6, .long (lz (sc * 10))), (8, .int (iz (i))), (0, .ref x), (1, .long (lz (ov))), (3, .long (lz (un))), (5, .int (iz (dg)))]) hx hb dX9_round_56 hl (by decide) rfl (fun ls hl => ?_)
        refine lv_iinc (v := iz (i + 1)) (lv' := [(8, .int (iz (i + 1))), (6, .long (lz (sc * 10))), (0, .ref x), (1, .long (lz (ov))), (3, .long (lz (un))), (5, .int (iz (dg)))]) hx hb dX9_round_58 hl (k := 1) rfl (by rw [show Int32.ofInt (1) = iz (1) from rfl, iz_add]) (by decide) rfl (fun ls hl => ?_)
        refine lv_goto (tgt := 43) hx hb dX9_round_61 (by decide) ?_
        exact ih_43 (i + 1) (sc * 10) _ _ _ (by omega) (by omega) (by rw [k2, zpow_s (by omega), Int.mul_assoc]) (hP) (hD) hS (hl)
  exact hl_43 ((dg - 0 : Int).toNat + 1) 0 ov _ _ _ (Nat.lt_succ_self _) (by omega) (by simp) (hP) (hD) hS (hl)

def rm_c_X9_round_x : Room := { frames := 7, cells := 1, slots := 6, locals := 110 }
set_option maxHeartbeats 1000000 in
set_option maxRecDepth 100000 in
theorem c_X9_round_x (l : Launch) (G : zG) (s1 : Nat) (s2 : Nat) (s3 : Nat) (x : Nat) (ro : Nat) (rw : Nat) (bo : Nat) (li : Nat) (sh : Nat) (tx : Nat) (lo : Nat) (nl : Nat) (ov : Int) (un : Int) (dg : Int) (hl0 : l.stackTraces = false) (h0 : -9223372036854775808 ≤ ov ∧ ov < 9223372036854775808) (h01 : -9223372036854775808 ≤ un ∧ un < 9223372036854775808) (h02 : -2147483648 ≤ dg ∧ dg < 2147483648) (h1 : ¬ (-1000000000000 ≤ ov ∧ ov ≤ 1000000000000 ∧ 1 ≤ un ∧ un ≤ 1000000000000 ∧ 0 ≤ dg ∧ dg ≤ 6)) : zMx l (zXE s1 s2 s3) G yX9_round wsX9_round rm_c_X9_round_x [.ref x, .long (lz (ov)), .long (lz (un)), .int (iz (dg))] [(x, .inr (10, [.ref ro, .ref rw, .ref bo, .ref li, .ref sh, .ref tx, .ref lo, .ref nl]))] "java/lang/IllegalArgumentException" 1 6 := by
  refine zMx_of (cc := cX9_round) (maxL := 9) (ret := (some .long)) (by decide) rfl (Nat.le_of_ble_eq_true rfl) ?_
  intro p e s m below meth c ls A Q hQ hx hb hr hts hown hlocks hml hout hKX hE hP hD hA hS hl
  have hK := hKX.1
  obtain ⟨H, hH⟩ : ∃ h, h = s.heap := ⟨_, rfl⟩
  obtain ⟨locs, hlo⟩ : ∃ h : List Loc, h = [] := ⟨_, rfl⟩
  have hS : va_S A s.heap H locs := by rw [hH, hlo]; exact hS
  have hP : va_P G.1 vwCl [(x, .inr (10, [.ref ro, .ref rw, .ref bo, .ref li, .ref sh, .ref tx, .ref lo, .ref nl]))] H := by rw [hH]; exact hP
  have hD : va_D A [(x, .inr (10, [.ref ro, .ref rw, .ref bo, .ref li, .ref sh, .ref tx, .ref lo, .ref nl]))] := hD
  have hl : lv_has ls 9 [(0, .ref x), (1, .long (lz (ov))), (3, .long (lz (un))), (5, .int (iz (dg)))] := hl
  rw [← hH, ← hlo]
  refine lv_lload_n hx hb dX9_round_0 rfl (lv_at hl 1 rfl) ?_
  refine zr_ldc2 (z := -1000000000000) hx hb hown (hts (.constantLong RX9 75 (-1000000000000)) (by decide +kernel)) rfl dX9_round_1 ?_
  refine zr_ldc2 (z := 1000000000000) hx hb hown (hts (.constantLong RX9 77 (1000000000000)) (by decide +kernel)) rfl dX9_round_4 ?_
  refine zc_z (wr := [(x, .inr (10, [.ref ro, .ref rw, .ref bo, .ref li, .ref sh, .ref tx, .ref lo, .ref nl]))]) (va_runS (As := [.long (lz (ov)), .long (lz (-1000000000000)), .long (lz (1000000000000))]) (rest := []) ⟨hx, hb, hml, hown, hts⟩ (c_X9_isWithin l G ov (-1000000000000) 1000000000000 (by omega) (by omega) (by omega) H.size) (va_cwS 3 hts gX9_round_X9_isWithin rfl rfl rfl (by decide +kernel) ⟨Nat.le_of_ble_eq_true rfl, Nat.le_of_ble_eq_true rfl⟩) (zpS hKX hP hD [] rfl rfl) rfl rfl hl.1 rfl (lv_room (Nat.le_of_ble_eq_true rfl)) dX9_round_7 ⟨(by first | exact Nat.le_of_ble_eq_true rfl | (show _ ≤ (1 : Nat); omega)), (by first | exact Nat.le_of_ble_eq_true rfl | (show _ ≤ (6 : Nat); omega))⟩) hP hD hS hA [] [0] rfl rfl rfl (by decide) (fun y1 u_1 H locs hy1 hP hD hS => ?_)
  have hP : va_P G.1 vwCl [(x, .inr (10, [.ref ro, .ref rw, .ref bo, .ref li, .ref sh, .ref tx, .ref lo, .ref nl]))] H := hP
  have hD : va_D A [(x, .inr (10, [.ref ro, .ref rw, .ref bo, .ref li, .ref sh, .ref tx, .ref lo, .ref nl]))] := hD
  have hy1 : y1 = decide ((-1000000000000 : Int) ≤ ov ∧ ov ≤ (1000000000000 : Int)) := hy1
  rcases Bool.eq_false_or_eq_true y1 with hbt_y1 | hbt_y1
  ·
    rw [hbt_y1]
    have hzy1 := of_decide_eq_true (hy1.symm.trans hbt_y1)
    refine zc_v (wr := [(x, .inr (10, [.ref ro, .ref rw, .ref bo, .ref li, .ref sh, .ref tx, .ref lo, .ref nl]))]) (va_runS (As := [.int (iz (zbb true))]) (rest := []) ⟨hx, hb, hml, hown, hts⟩ (c_X9_demand_o l G   H.size) (va_cwS 1 hts gX9_round_X9_demand rfl rfl rfl (by decide +kernel) ⟨Nat.le_of_ble_eq_true rfl, Nat.le_of_ble_eq_true rfl⟩) (zpS hKX hP hD [] rfl rfl) rfl rfl hl.1 rfl (lv_room (Nat.le_of_ble_eq_true rfl)) dX9_round_10 ⟨(by first | exact Nat.le_of_ble_eq_true rfl | (show _ ≤ (1 : Nat); omega)), (by first | exact Nat.le_of_ble_eq_true rfl | (show _ ≤ (6 : Nat); omega))⟩) hP hD hS hA [] [0] rfl rfl rfl (by decide) (fun u_3 H locs hq_6 hP hD hS => ?_)
    have hP : va_P G.1 vwCl [(x, .inr (10, [.ref ro, .ref rw, .ref bo, .ref li, .ref sh, .ref tx, .ref lo, .ref nl]))] H := hP
    have hD : va_D A [(x, .inr (10, [.ref ro, .ref rw, .ref bo, .ref li, .ref sh, .ref tx, .ref lo, .ref nl]))] := hD
    refine lv_lload_n hx hb dX9_round_13 rfl (lv_at hl 2 rfl) ?_
    refine lv_lconst (v := lz (1)) hx hb dX9_round_14 rfl ?_
    refine zr_ldc2 (z := 1000000000000) hx hb hown (hts (.constantLong RX9 77 (1000000000000)) (by decide +kernel)) rfl dX9_round_15 ?_
    refine zc_z (wr := [(x, .inr (10, [.ref ro, .ref rw, .ref bo, .ref li, .ref sh, .ref tx, .ref lo, .ref nl]))]) (va_runS (As := [.long (lz (un)), .long (lz (1)), .long (lz (1000000000000))]) (rest := []) ⟨hx, hb, hml, hown, hts⟩ (c_X9_isWithin l G un 1 1000000000000 (by omega) (by omega) (by omega) H.size) (va_cwS 3 hts gX9_round_X9_isWithin rfl rfl rfl (by decide +kernel) ⟨Nat.le_of_ble_eq_true rfl, Nat.le_of_ble_eq_true rfl⟩) (zpS hKX hP hD [] rfl rfl) rfl rfl hl.1 rfl (lv_room (Nat.le_of_ble_eq_true rfl)) dX9_round_18 ⟨(by first | exact Nat.le_of_ble_eq_true rfl | (show _ ≤ (1 : Nat); omega)), (by first | exact Nat.le_of_ble_eq_true rfl | (show _ ≤ (6 : Nat); omega))⟩) hP hD hS hA [] [0] rfl rfl rfl (by decide) (fun y2 u_7 H locs hy2 hP hD hS => ?_)
    have hP : va_P G.1 vwCl [(x, .inr (10, [.ref ro, .ref rw, .ref bo, .ref li, .ref sh, .ref tx, .ref lo, .ref nl]))] H := hP
    have hD : va_D A [(x, .inr (10, [.ref ro, .ref rw, .ref bo, .ref li, .ref sh, .ref tx, .ref lo, .ref nl]))] := hD
    have hy2 : y2 = decide ((1 : Int) ≤ un ∧ un ≤ (1000000000000 : Int)) := hy2
    rcases Bool.eq_false_or_eq_true y2 with hbt_y2 | hbt_y2
    ·
      rw [hbt_y2]
      have hzy2 := of_decide_eq_true (hy2.symm.trans hbt_y2)
      refine zc_v (wr := [(x, .inr (10, [.ref ro, .ref rw, .ref bo, .ref li, .ref sh, .ref tx, .ref lo, .ref nl]))]) (va_runS (As := [.int (iz (zbb true))]) (rest := []) ⟨hx, hb, hml, hown, hts⟩ (c_X9_demand_o l G   H.size) (va_cwS 1 hts gX9_round_X9_demand rfl rfl rfl (by decide +kernel) ⟨Nat.le_of_ble_eq_true rfl, Nat.le_of_ble_eq_true rfl⟩) (zpS hKX hP hD [] rfl rfl) rfl rfl hl.1 rfl (lv_room (Nat.le_of_ble_eq_true rfl)) dX9_round_21 ⟨(by first | exact Nat.le_of_ble_eq_true rfl | (show _ ≤ (1 : Nat); omega)), (by first | exact Nat.le_of_ble_eq_true rfl | (show _ ≤ (6 : Nat); omega))⟩) hP hD hS hA [] [0] rfl rfl rfl (by decide) (fun u_9 H locs hq_12 hP hD hS => ?_)
      have hP : va_P G.1 vwCl [(x, .inr (10, [.ref ro, .ref rw, .ref bo, .ref li, .ref sh, .ref tx, .ref lo, .ref nl]))] H := hP
      have hD : va_D A [(x, .inr (10, [.ref ro, .ref rw, .ref bo, .ref li, .ref sh, .ref tx, .ref lo, .ref nl]))] := hD
      refine lv_iload hx hb dX9_round_24 (lv_at hl 3 rfl) ?_
      refine zr_i2l hx hb (x := dg) (⟨by omega, by omega⟩) dX9_round_26 ?_
      refine lv_lconst (v := lz (0)) hx hb dX9_round_27 rfl ?_
      refine zr_ldc2 (z := 6) hx hb hown (hts (.constantLong RX9 79 (6)) (by decide +kernel)) rfl dX9_round_28 ?_
      refine zc_z (wr := [(x, .inr (10, [.ref ro, .ref rw, .ref bo, .ref li, .ref sh, .ref tx, .ref lo, .ref nl]))]) (va_runS (As := [.long (lz (dg)), .long (lz (0)), .long (lz (6))]) (rest := []) ⟨hx, hb, hml, hown, hts⟩ (c_X9_isWithin l G dg 0 6 (by omega) (by omega) (by omega) H.size) (va_cwS 3 hts gX9_round_X9_isWithin rfl rfl rfl (by decide +kernel) ⟨Nat.le_of_ble_eq_true rfl, Nat.le_of_ble_eq_true rfl⟩) (zpS hKX hP hD [] rfl rfl) rfl rfl hl.1 rfl (lv_room (Nat.le_of_ble_eq_true rfl)) dX9_round_31 ⟨(by first | exact Nat.le_of_ble_eq_true rfl | (show _ ≤ (1 : Nat); omega)), (by first | exact Nat.le_of_ble_eq_true rfl | (show _ ≤ (6 : Nat); omega))⟩) hP hD hS hA [] [0] rfl rfl rfl (by decide) (fun y3 u_13 H locs hy3 hP hD hS => ?_)
      have hP : va_P G.1 vwCl [(x, .inr (10, [.ref ro, .ref rw, .ref bo, .ref li, .ref sh, .ref tx, .ref lo, .ref nl]))] H := hP
      have hD : va_D A [(x, .inr (10, [.ref ro, .ref rw, .ref bo, .ref li, .ref sh, .ref tx, .ref lo, .ref nl]))] := hD
      have hy3 : y3 = decide ((0 : Int) ≤ dg ∧ dg ≤ (6 : Int)) := hy3
      rcases Bool.eq_false_or_eq_true y3 with hbt_y3 | hbt_y3
      ·
        rw [hbt_y3]
        have hzy3 := of_decide_eq_true (hy3.symm.trans hbt_y3)
        refine zc_v (wr := [(x, .inr (10, [.ref ro, .ref rw, .ref bo, .ref li, .ref sh, .ref tx, .ref lo, .ref nl]))]) (va_runS (As := [.int (iz (zbb true))]) (rest := []) ⟨hx, hb, hml, hown, hts⟩ (c_X9_demand_o l G   H.size) (va_cwS 1 hts gX9_round_X9_demand rfl rfl rfl (by decide +kernel) ⟨Nat.le_of_ble_eq_true rfl, Nat.le_of_ble_eq_true rfl⟩) (zpS hKX hP hD [] rfl rfl) rfl rfl hl.1 rfl (lv_room (Nat.le_of_ble_eq_true rfl)) dX9_round_34 ⟨(by first | exact Nat.le_of_ble_eq_true rfl | (show _ ≤ (1 : Nat); omega)), (by first | exact Nat.le_of_ble_eq_true rfl | (show _ ≤ (6 : Nat); omega))⟩) hP hD hS hA [] [0] rfl rfl rfl (by decide) (fun u_15 H locs hq_18 hP hD hS => ?_)
        have hP : va_P G.1 vwCl [(x, .inr (10, [.ref ro, .ref rw, .ref bo, .ref li, .ref sh, .ref tx, .ref lo, .ref nl]))] H := hP
        have hD : va_D A [(x, .inr (10, [.ref ro, .ref rw, .ref bo, .ref li, .ref sh, .ref tx, .ref lo, .ref nl]))] := hD
        exact absurd h1 (by omega)
      ·
        rw [hbt_y3]
        have hzy3 := of_decide_eq_false (hy3.symm.trans hbt_y3)
        rw [hQ]
        exact zx_thr (X := "java/lang/IllegalArgumentException") (vx_runS (As := [.int (iz (zbb false))]) (rest := []) ⟨hx, hb, hml, hown, hts⟩ (c_X9_demand_x l G s1 s2 s3 hl0 H.size) (va_cwS 1 hts gX9_round_X9_demand rfl rfl rfl (by decide +kernel) ⟨Nat.le_of_ble_eq_true rfl, Nat.le_of_ble_eq_true rfl⟩) (zpSe zXE_ok hE hS hA hKX hP hD [] rfl rfl) rfl rfl hl.1 rfl (lv_room (Nat.le_of_ble_eq_true rfl)) dX9_round_34 ⟨(by first | exact Nat.le_of_ble_eq_true rfl | (show _ ≤ (1 : Nat); omega)), (by first | exact Nat.le_of_ble_eq_true rfl | (show _ ≤ (6 : Nat); omega))⟩) hS (va_free (wc := []) hD hS hA [] rfl) hout hlocks (by first | exact Nat.le_of_ble_eq_true rfl | omega) (by first | exact Nat.le_of_ble_eq_true rfl | omega)
    ·
      rw [hbt_y2]
      have hzy2 := of_decide_eq_false (hy2.symm.trans hbt_y2)
      rw [hQ]
      exact zx_thr (X := "java/lang/IllegalArgumentException") (vx_runS (As := [.int (iz (zbb false))]) (rest := []) ⟨hx, hb, hml, hown, hts⟩ (c_X9_demand_x l G s1 s2 s3 hl0 H.size) (va_cwS 1 hts gX9_round_X9_demand rfl rfl rfl (by decide +kernel) ⟨Nat.le_of_ble_eq_true rfl, Nat.le_of_ble_eq_true rfl⟩) (zpSe zXE_ok hE hS hA hKX hP hD [] rfl rfl) rfl rfl hl.1 rfl (lv_room (Nat.le_of_ble_eq_true rfl)) dX9_round_21 ⟨(by first | exact Nat.le_of_ble_eq_true rfl | (show _ ≤ (1 : Nat); omega)), (by first | exact Nat.le_of_ble_eq_true rfl | (show _ ≤ (6 : Nat); omega))⟩) hS (va_free (wc := []) hD hS hA [] rfl) hout hlocks (by first | exact Nat.le_of_ble_eq_true rfl | omega) (by first | exact Nat.le_of_ble_eq_true rfl | omega)
  ·
    rw [hbt_y1]
    have hzy1 := of_decide_eq_false (hy1.symm.trans hbt_y1)
    rw [hQ]
    exact zx_thr (X := "java/lang/IllegalArgumentException") (vx_runS (As := [.int (iz (zbb false))]) (rest := []) ⟨hx, hb, hml, hown, hts⟩ (c_X9_demand_x l G s1 s2 s3 hl0 H.size) (va_cwS 1 hts gX9_round_X9_demand rfl rfl rfl (by decide +kernel) ⟨Nat.le_of_ble_eq_true rfl, Nat.le_of_ble_eq_true rfl⟩) (zpSe zXE_ok hE hS hA hKX hP hD [] rfl rfl) rfl rfl hl.1 rfl (lv_room (Nat.le_of_ble_eq_true rfl)) dX9_round_10 ⟨(by first | exact Nat.le_of_ble_eq_true rfl | (show _ ≤ (1 : Nat); omega)), (by first | exact Nat.le_of_ble_eq_true rfl | (show _ ≤ (6 : Nat); omega))⟩) hS (va_free (wc := []) hD hS hA [] rfl) hout hlocks (by first | exact Nat.le_of_ble_eq_true rfl | omega) (by first | exact Nat.le_of_ble_eq_true rfl | omega)

def rm_c_X9_pay_o : Room := { frames := 2, cells := 0, slots := 0, locals := 52 }
theorem iw_X9_pay_X9 : ∀ w ∈ wsX90, w ∈ wsX9_pay := by decide +kernel
set_option maxHeartbeats 1000000 in
set_option maxRecDepth 100000 in
theorem c_X9_pay_o (l : Launch) (G : zG) (x : Nat) (ro : Nat) (rw : Nat) (bo : Nat) (li : Nat) (sh : Nat) (tx : Nat) (lo : Nat) (nl : Nat) (am : Nat) (q : Nat) (bq : Nat) (pe : Int) (mo : Int) (h0 : -2147483648 ≤ pe ∧ pe < 2147483648) (h01 : -9223372036854775808 ≤ mo ∧ mo < 9223372036854775808) (h1 : 0 ≤ pe ∧ pe ≤ 40 ∧ -1000000000 ≤ mo ∧ mo ≤ 1000000000) : zM l G yX9_pay wsX9_pay rm_c_X9_pay_o [.ref x, .int (iz (pe)), .long (lz (mo))] [(x, .inr (10, [.ref ro, .ref rw, .ref bo, .ref li, .ref sh, .ref tx, .ref lo, .ref nl])), (rw, .inr (6, [.ref am, .ref q, .ref bq])), (am, zaL (G.2 0) 41 (fun _ => 0))] (fun A => zQl G (fun (z : Int) (f2 : (Int → Int)) => z = mo) (fun (f2 : (Int → Int)) => [(x, .inr (10, [.ref ro, .ref rw, .ref bo, .ref li, .ref sh, .ref tx, .ref lo, .ref nl])), (rw, .inr (6, [.ref am, .ref q, .ref bq])), (am, zaL (G.2 0) 41 (f2))]) A) 0 0 := by
  refine zM_of (cc := cX9_pay) (maxL := 4) (ret := (some .long)) (by decide) rfl (Nat.le_of_ble_eq_true rfl) ?_
  intro p e s m below meth c ls A Q hQ hx hb hr hts hown hlocks hml hnm hKX hP hD hA hS hl
  have hK := hKX.1
  have iwX9 := iw_X9_pay_X9
  obtain ⟨H, hH⟩ : ∃ h, h = s.heap := ⟨_, rfl⟩
  obtain ⟨locs, hlo⟩ : ∃ h : List Loc, h = [] := ⟨_, rfl⟩
  have hS : va_S A s.heap H locs := by rw [hH, hlo]; exact hS
  have hP : va_P G.1 vwCl [(x, .inr (10, [.ref ro, .ref rw, .ref bo, .ref li, .ref sh, .ref tx, .ref lo, .ref nl])), (rw, .inr (6, [.ref am, .ref q, .ref bq])), (am, zaL (G.2 0) 41 (fun _ => 0))] H := by rw [hH]; exact hP
  have hD : va_D A [(x, .inr (10, [.ref ro, .ref rw, .ref bo, .ref li, .ref sh, .ref tx, .ref lo, .ref nl])), (rw, .inr (6, [.ref am, .ref q, .ref bq])), (am, zaL (G.2 0) 41 (fun _ => 0))] := hD
  have hl : lv_has ls 4 [(0, .ref x), (1, .int (iz (pe))), (2, .long (lz (mo)))] := hl
  rw [← hH, ← hlo]
  refine lv_iload_n hx hb dX9_pay_0 rfl (lv_at hl 1 rfl) ?_
  refine zr_i2l hx hb (x := pe) (⟨by omega, by omega⟩) dX9_pay_1 ?_
  refine lv_lconst (v := lz (0)) hx hb dX9_pay_2 rfl ?_
  refine zr_ldc2 (z := 40) hx hb hown (hts (.constantLong RX9 87 (40)) (by decide +kernel)) rfl dX9_pay_3 ?_
  refine zc_z (wr := [(x, .inr (10, [.ref ro, .ref rw, .ref bo, .ref li, .ref sh, .ref tx, .ref lo, .ref nl])), (rw, .inr (6, [.ref am, .ref q, .ref bq])), (am, zaL (G.2 0) 41 (fun _ => 0))]) (va_runS (As := [.long (lz (pe)), .long (lz (0)), .long (lz (40))]) (rest := []) ⟨hx, hb, hml, hown, hts⟩ (c_X9_isWithin l G pe 0 40 (by omega) (by omega) (by omega) H.size) (va_cwS 3 hts gX9_pay_X9_isWithin rfl rfl rfl (by decide +kernel) ⟨Nat.le_of_ble_eq_true rfl, Nat.le_of_ble_eq_true rfl⟩) (zpS hKX hP hD [] rfl rfl) rfl rfl hl.1 rfl (lv_room (Nat.le_of_ble_eq_true rfl)) dX9_pay_6 ⟨(by first | exact Nat.le_of_ble_eq_true rfl | (show _ ≤ (0 : Nat); omega)), (by first | exact Nat.le_of_ble_eq_true rfl | (show _ ≤ (0 : Nat); omega))⟩) hP hD hS hA [] [0, 1, 2] rfl rfl rfl (by decide) (fun y1 u_1 H locs hy1 hP hD hS => ?_)
  have hP : va_P G.1 vwCl [(x, .inr (10, [.ref ro, .ref rw, .ref bo, .ref li, .ref sh, .ref tx, .ref lo, .ref nl])), (rw, .inr (6, [.ref am, .ref q, .ref bq])), (am, zaL (G.2 0) 41 (fun _ => 0))] H := hP
  have hD : va_D A [(x, .inr (10, [.ref ro, .ref rw, .ref bo, .ref li, .ref sh, .ref tx, .ref lo, .ref nl])), (rw, .inr (6, [.ref am, .ref q, .ref bq])), (am, zaL (G.2 0) 41 (fun _ => 0))] := hD
  have hy1 : y1 = decide ((0 : Int) ≤ pe ∧ pe ≤ (40 : Int)) := hy1
  rw [show y1 = true from hy1.trans (decide_eq_true (by omega))]
  refine zc_v (wr := [(x, .inr (10, [.ref ro, .ref rw, .ref bo, .ref li, .ref sh, .ref tx, .ref lo, .ref nl])), (rw, .inr (6, [.ref am, .ref q, .ref bq])), (am, zaL (G.2 0) 41 (fun _ => 0))]) (va_runS (As := [.int (iz (zbb true))]) (rest := []) ⟨hx, hb, hml, hown, hts⟩ (c_X9_demand_o l G   H.size) (va_cwS 1 hts gX9_pay_X9_demand rfl rfl rfl (by decide +kernel) ⟨Nat.le_of_ble_eq_true rfl, Nat.le_of_ble_eq_true rfl⟩) (zpS hKX hP hD [] rfl rfl) rfl rfl hl.1 rfl (lv_room (Nat.le_of_ble_eq_true rfl)) dX9_pay_9 ⟨(by first | exact Nat.le_of_ble_eq_true rfl | (show _ ≤ (0 : Nat); omega)), (by first | exact Nat.le_of_ble_eq_true rfl | (show _ ≤ (0 : Nat); omega))⟩) hP hD hS hA [] [0, 1, 2] rfl rfl rfl (by decide) (fun u_3 H locs hq_6 hP hD hS => ?_)
  have hP : va_P G.1 vwCl [(x, .inr (10, [.ref ro, .ref rw, .ref bo, .ref li, .ref sh, .ref tx, .ref lo, .ref nl])), (rw, .inr (6, [.ref am, .ref q, .ref bq])), (am, zaL (G.2 0) 41 (fun _ => 0))] H := hP
  have hD : va_D A [(x, .inr (10, [.ref ro, .ref rw, .ref bo, .ref li, .ref sh, .ref tx, .ref lo, .ref nl])), (rw, .inr (6, [.ref am, .ref q, .ref bq])), (am, zaL (G.2 0) 41 (fun _ => 0))] := hD
  refine lv_lload_n hx hb dX9_pay_12 rfl (lv_at hl 2 rfl) ?_
  refine zr_ldc2 (z := -1000000000) hx hb hown (hts (.constantLong RX9 89 (-1000000000)) (by decide +kernel)) rfl dX9_pay_13 ?_
  refine zr_ldc2 (z := 1000000000) hx hb hown (hts (.constantLong RX9 91 (1000000000)) (by decide +kernel)) rfl dX9_pay_16 ?_
  refine zc_z (wr := [(x, .inr (10, [.ref ro, .ref rw, .ref bo, .ref li, .ref sh, .ref tx, .ref lo, .ref nl])), (rw, .inr (6, [.ref am, .ref q, .ref bq])), (am, zaL (G.2 0) 41 (fun _ => 0))]) (va_runS (As := [.long (lz (mo)), .long (lz (-1000000000)), .long (lz (1000000000))]) (rest := []) ⟨hx, hb, hml, hown, hts⟩ (c_X9_isWithin l G mo (-1000000000) 1000000000 (by omega) (by omega) (by omega) H.size) (va_cwS 3 hts gX9_pay_X9_isWithin rfl rfl rfl (by decide +kernel) ⟨Nat.le_of_ble_eq_true rfl, Nat.le_of_ble_eq_true rfl⟩) (zpS hKX hP hD [] rfl rfl) rfl rfl hl.1 rfl (lv_room (Nat.le_of_ble_eq_true rfl)) dX9_pay_19 ⟨(by first | exact Nat.le_of_ble_eq_true rfl | (show _ ≤ (0 : Nat); omega)), (by first | exact Nat.le_of_ble_eq_true rfl | (show _ ≤ (0 : Nat); omega))⟩) hP hD hS hA [] [0, 1, 2] rfl rfl rfl (by decide) (fun y2 u_7 H locs hy2 hP hD hS => ?_)
  have hP : va_P G.1 vwCl [(x, .inr (10, [.ref ro, .ref rw, .ref bo, .ref li, .ref sh, .ref tx, .ref lo, .ref nl])), (rw, .inr (6, [.ref am, .ref q, .ref bq])), (am, zaL (G.2 0) 41 (fun _ => 0))] H := hP
  have hD : va_D A [(x, .inr (10, [.ref ro, .ref rw, .ref bo, .ref li, .ref sh, .ref tx, .ref lo, .ref nl])), (rw, .inr (6, [.ref am, .ref q, .ref bq])), (am, zaL (G.2 0) 41 (fun _ => 0))] := hD
  have hy2 : y2 = decide ((-1000000000 : Int) ≤ mo ∧ mo ≤ (1000000000 : Int)) := hy2
  rw [show y2 = true from hy2.trans (decide_eq_true (by omega))]
  refine zc_v (wr := [(x, .inr (10, [.ref ro, .ref rw, .ref bo, .ref li, .ref sh, .ref tx, .ref lo, .ref nl])), (rw, .inr (6, [.ref am, .ref q, .ref bq])), (am, zaL (G.2 0) 41 (fun _ => 0))]) (va_runS (As := [.int (iz (zbb true))]) (rest := []) ⟨hx, hb, hml, hown, hts⟩ (c_X9_demand_o l G   H.size) (va_cwS 1 hts gX9_pay_X9_demand rfl rfl rfl (by decide +kernel) ⟨Nat.le_of_ble_eq_true rfl, Nat.le_of_ble_eq_true rfl⟩) (zpS hKX hP hD [] rfl rfl) rfl rfl hl.1 rfl (lv_room (Nat.le_of_ble_eq_true rfl)) dX9_pay_22 ⟨(by first | exact Nat.le_of_ble_eq_true rfl | (show _ ≤ (0 : Nat); omega)), (by first | exact Nat.le_of_ble_eq_true rfl | (show _ ≤ (0 : Nat); omega))⟩) hP hD hS hA [] [0, 1, 2] rfl rfl rfl (by decide) (fun u_9 H locs hq_12 hP hD hS => ?_)
  have hP : va_P G.1 vwCl [(x, .inr (10, [.ref ro, .ref rw, .ref bo, .ref li, .ref sh, .ref tx, .ref lo, .ref nl])), (rw, .inr (6, [.ref am, .ref q, .ref bq])), (am, zaL (G.2 0) 41 (fun _ => 0))] H := hP
  have hD : va_D A [(x, .inr (10, [.ref ro, .ref rw, .ref bo, .ref li, .ref sh, .ref tx, .ref lo, .ref nl])), (rw, .inr (6, [.ref am, .ref q, .ref bq])), (am, zaL (G.2 0) 41 (fun _ => 0))] := hD
  refine lv_aload_n hx hb dX9_pay_25 rfl (lv_at hl 0 rfl) ?_
  refine va_get (D := G.1) (ci := 10) (v := .ref rw) (C := RX9) (T := TX9) (N := 8) hx hb hts iwX9 hown hK hP 0 rfl rfl 1 (by decide) (hts (.fieldLink RX9 19 "AnnuityHouse" "row" "LAnnuityHouse$Row;") (by decide +kernel)) (fun _ h9 => h9) rfl dX9_pay_26 ?_
  refine lv_iload_n hx hb dX9_pay_29 rfl (lv_at hl 1 rfl) ?_
  refine lv_iconst (v := iz (1)) hx hb dX9_pay_30 rfl ?_
  refine lv_lload_n hx hb dX9_pay_31 rfl (lv_at hl 2 rfl) ?_
  refine lv_lconst (v := lz (0)) hx hb dX9_pay_32 rfl ?_
  refine zc_v (wr := [(x, .inr (10, [.ref ro, .ref rw, .ref bo, .ref li, .ref sh, .ref tx, .ref lo, .ref nl]))]) (va_runV (As := [.int (iz (pe)), .int (iz (1)), .long (lz (mo)), .long (lz (0))]) (rest := []) ⟨hx, hb, hml, hown, hts⟩ (c_X5_add_o l G rw am q bq pe 1 mo 0 (by omega) (fun j a b => by rw [Int.mul_zero]; unfold zamt; omega) H.size) (cwV 4 hts gX9_pay_X5_add rfl rfl rfl (by decide +kernel) ⟨Nat.le_of_ble_eq_true rfl, Nat.le_of_ble_eq_true rfl⟩) (zpV hKX hP hD [1, 2] rfl rfl 1 6 rfl rfl) rfl rfl hl.1 rfl (lv_room (Nat.le_of_ble_eq_true rfl)) dX9_pay_33 ⟨(by first | exact Nat.le_of_ble_eq_true rfl | (show _ ≤ (0 : Nat); omega)), (by first | exact Nat.le_of_ble_eq_true rfl | (show _ ≤ (0 : Nat); omega))⟩) hP hD hS hA [1, 2] [0] rfl rfl rfl (by decide) (fun u_13 H locs hf2 hP hD hS => ?_)
  generalize u_13 = f2 at hP hD hf2
  have hP : va_P G.1 vwCl [(x, .inr (10, [.ref ro, .ref rw, .ref bo, .ref li, .ref sh, .ref tx, .ref lo, .ref nl])), (rw, .inr (6, [.ref am, .ref q, .ref bq])), (am, zaL (G.2 0) 41 (f2))] H := hP
  have hD : va_D A [(x, .inr (10, [.ref ro, .ref rw, .ref bo, .ref li, .ref sh, .ref tx, .ref lo, .ref nl])), (rw, .inr (6, [.ref am, .ref q, .ref bq])), (am, zaL (G.2 0) 41 (f2))] := hD
  have hf2 : ∀ i, f2 i = zpmf pe (1 : Int) mo (0 : Int) i := hf2
  refine lv_aload_n hx hb dX9_pay_36 rfl (lv_at hl 0 rfl) ?_
  refine va_get (D := G.1) (ci := 10) (v := .ref rw) (C := RX9) (T := TX9) (N := 8) hx hb hts iwX9 hown hK hP 0 rfl rfl 1 (by decide) (hts (.fieldLink RX9 19 "AnnuityHouse" "row" "LAnnuityHouse$Row;") (by decide +kernel)) (fun _ h9 => h9) rfl dX9_pay_37 ?_
  refine lv_iload_n hx hb dX9_pay_40 rfl (lv_at hl 1 rfl) ?_
  refine zc_l (wr := [(x, .inr (10, [.ref ro, .ref rw, .ref bo, .ref li, .ref sh, .ref tx, .ref lo, .ref nl]))]) (va_runV (As := [.int (iz (pe))]) (rest := []) ⟨hx, hb, hml, hown, hts⟩ (c_X5_amountIn l G rw am q bq f2 pe (by omega) H.size) (cwV 1 hts gX9_pay_X5_amountIn rfl rfl rfl (by decide +kernel) ⟨Nat.le_of_ble_eq_true rfl, Nat.le_of_ble_eq_true rfl⟩) (zpV hKX hP hD [1, 2] rfl rfl 1 6 rfl rfl) rfl rfl hl.1 rfl (lv_room (Nat.le_of_ble_eq_true rfl)) dX9_pay_41 ⟨(by first | exact Nat.le_of_ble_eq_true rfl | (show _ ≤ (0 : Nat); omega)), (by first | exact Nat.le_of_ble_eq_true rfl | (show _ ≤ (0 : Nat); omega))⟩) hP hD hS hA [1, 2] [0] rfl rfl rfl (by decide) (fun zz u_16 H locs hz hP hD hS => ?_)
  have hP : va_P G.1 vwCl [(x, .inr (10, [.ref ro, .ref rw, .ref bo, .ref li, .ref sh, .ref tx, .ref lo, .ref nl])), (rw, .inr (6, [.ref am, .ref q, .ref bq])), (am, zaL (G.2 0) 41 (f2))] H := hP
  have hD : va_D A [(x, .inr (10, [.ref ro, .ref rw, .ref bo, .ref li, .ref sh, .ref tx, .ref lo, .ref nl])), (rw, .inr (6, [.ref am, .ref q, .ref bq])), (am, zaL (G.2 0) 41 (f2))] := hD
  have hz : zz = f2 pe := hz
  rw [hQ]
  exact zr_lret (z := zz) (u := (f2)) hx hb hr hlocks hP hD hS (by first | exact Nat.le_of_ble_eq_true rfl | omega) (by first | exact Nat.le_of_ble_eq_true rfl | omega) dX9_pay_44 (show zz = mo from by rw [hz, hf2]; unfold zpmf; rw [if_pos (by omega)]; omega)

def rm_c_X9_pay_x : Room := { frames := 7, cells := 1, slots := 6, locals := 110 }
set_option maxHeartbeats 1000000 in
set_option maxRecDepth 100000 in
theorem c_X9_pay_x (l : Launch) (G : zG) (s1 : Nat) (s2 : Nat) (s3 : Nat) (x : Nat) (ro : Nat) (rw : Nat) (bo : Nat) (li : Nat) (sh : Nat) (tx : Nat) (lo : Nat) (nl : Nat) (pe : Int) (mo : Int) (hl0 : l.stackTraces = false) (h0 : -2147483648 ≤ pe ∧ pe < 2147483648) (h01 : -9223372036854775808 ≤ mo ∧ mo < 9223372036854775808) (h1 : ¬ (0 ≤ pe ∧ pe ≤ 40 ∧ -1000000000 ≤ mo ∧ mo ≤ 1000000000)) : zMx l (zXE s1 s2 s3) G yX9_pay wsX9_pay rm_c_X9_pay_x [.ref x, .int (iz (pe)), .long (lz (mo))] [(x, .inr (10, [.ref ro, .ref rw, .ref bo, .ref li, .ref sh, .ref tx, .ref lo, .ref nl]))] "java/lang/IllegalArgumentException" 1 6 := by
  refine zMx_of (cc := cX9_pay) (maxL := 4) (ret := (some .long)) (by decide) rfl (Nat.le_of_ble_eq_true rfl) ?_
  intro p e s m below meth c ls A Q hQ hx hb hr hts hown hlocks hml hout hKX hE hP hD hA hS hl
  have hK := hKX.1
  obtain ⟨H, hH⟩ : ∃ h, h = s.heap := ⟨_, rfl⟩
  obtain ⟨locs, hlo⟩ : ∃ h : List Loc, h = [] := ⟨_, rfl⟩
  have hS : va_S A s.heap H locs := by rw [hH, hlo]; exact hS
  have hP : va_P G.1 vwCl [(x, .inr (10, [.ref ro, .ref rw, .ref bo, .ref li, .ref sh, .ref tx, .ref lo, .ref nl]))] H := by rw [hH]; exact hP
  have hD : va_D A [(x, .inr (10, [.ref ro, .ref rw, .ref bo, .ref li, .ref sh, .ref tx, .ref lo, .ref nl]))] := hD
  have hl : lv_has ls 4 [(0, .ref x), (1, .int (iz (pe))), (2, .long (lz (mo)))] := hl
  rw [← hH, ← hlo]
  refine lv_iload_n hx hb dX9_pay_0 rfl (lv_at hl 1 rfl) ?_
  refine zr_i2l hx hb (x := pe) (⟨by omega, by omega⟩) dX9_pay_1 ?_
  refine lv_lconst (v := lz (0)) hx hb dX9_pay_2 rfl ?_
  refine zr_ldc2 (z := 40) hx hb hown (hts (.constantLong RX9 87 (40)) (by decide +kernel)) rfl dX9_pay_3 ?_
  refine zc_z (wr := [(x, .inr (10, [.ref ro, .ref rw, .ref bo, .ref li, .ref sh, .ref tx, .ref lo, .ref nl]))]) (va_runS (As := [.long (lz (pe)), .long (lz (0)), .long (lz (40))]) (rest := []) ⟨hx, hb, hml, hown, hts⟩ (c_X9_isWithin l G pe 0 40 (by omega) (by omega) (by omega) H.size) (va_cwS 3 hts gX9_pay_X9_isWithin rfl rfl rfl (by decide +kernel) ⟨Nat.le_of_ble_eq_true rfl, Nat.le_of_ble_eq_true rfl⟩) (zpS hKX hP hD [] rfl rfl) rfl rfl hl.1 rfl (lv_room (Nat.le_of_ble_eq_true rfl)) dX9_pay_6 ⟨(by first | exact Nat.le_of_ble_eq_true rfl | (show _ ≤ (1 : Nat); omega)), (by first | exact Nat.le_of_ble_eq_true rfl | (show _ ≤ (6 : Nat); omega))⟩) hP hD hS hA [] [0] rfl rfl rfl (by decide) (fun y1 u_1 H locs hy1 hP hD hS => ?_)
  have hP : va_P G.1 vwCl [(x, .inr (10, [.ref ro, .ref rw, .ref bo, .ref li, .ref sh, .ref tx, .ref lo, .ref nl]))] H := hP
  have hD : va_D A [(x, .inr (10, [.ref ro, .ref rw, .ref bo, .ref li, .ref sh, .ref tx, .ref lo, .ref nl]))] := hD
  have hy1 : y1 = decide ((0 : Int) ≤ pe ∧ pe ≤ (40 : Int)) := hy1
  rcases Bool.eq_false_or_eq_true y1 with hbt_y1 | hbt_y1
  ·
    rw [hbt_y1]
    have hzy1 := of_decide_eq_true (hy1.symm.trans hbt_y1)
    refine zc_v (wr := [(x, .inr (10, [.ref ro, .ref rw, .ref bo, .ref li, .ref sh, .ref tx, .ref lo, .ref nl]))]) (va_runS (As := [.int (iz (zbb true))]) (rest := []) ⟨hx, hb, hml, hown, hts⟩ (c_X9_demand_o l G   H.size) (va_cwS 1 hts gX9_pay_X9_demand rfl rfl rfl (by decide +kernel) ⟨Nat.le_of_ble_eq_true rfl, Nat.le_of_ble_eq_true rfl⟩) (zpS hKX hP hD [] rfl rfl) rfl rfl hl.1 rfl (lv_room (Nat.le_of_ble_eq_true rfl)) dX9_pay_9 ⟨(by first | exact Nat.le_of_ble_eq_true rfl | (show _ ≤ (1 : Nat); omega)), (by first | exact Nat.le_of_ble_eq_true rfl | (show _ ≤ (6 : Nat); omega))⟩) hP hD hS hA [] [0] rfl rfl rfl (by decide) (fun u_3 H locs hq_6 hP hD hS => ?_)
    have hP : va_P G.1 vwCl [(x, .inr (10, [.ref ro, .ref rw, .ref bo, .ref li, .ref sh, .ref tx, .ref lo, .ref nl]))] H := hP
    have hD : va_D A [(x, .inr (10, [.ref ro, .ref rw, .ref bo, .ref li, .ref sh, .ref tx, .ref lo, .ref nl]))] := hD
    refine lv_lload_n hx hb dX9_pay_12 rfl (lv_at hl 2 rfl) ?_
    refine zr_ldc2 (z := -1000000000) hx hb hown (hts (.constantLong RX9 89 (-1000000000)) (by decide +kernel)) rfl dX9_pay_13 ?_
    refine zr_ldc2 (z := 1000000000) hx hb hown (hts (.constantLong RX9 91 (1000000000)) (by decide +kernel)) rfl dX9_pay_16 ?_
    refine zc_z (wr := [(x, .inr (10, [.ref ro, .ref rw, .ref bo, .ref li, .ref sh, .ref tx, .ref lo, .ref nl]))]) (va_runS (As := [.long (lz (mo)), .long (lz (-1000000000)), .long (lz (1000000000))]) (rest := []) ⟨hx, hb, hml, hown, hts⟩ (c_X9_isWithin l G mo (-1000000000) 1000000000 (by omega) (by omega) (by omega) H.size) (va_cwS 3 hts gX9_pay_X9_isWithin rfl rfl rfl (by decide +kernel) ⟨Nat.le_of_ble_eq_true rfl, Nat.le_of_ble_eq_true rfl⟩) (zpS hKX hP hD [] rfl rfl) rfl rfl hl.1 rfl (lv_room (Nat.le_of_ble_eq_true rfl)) dX9_pay_19 ⟨(by first | exact Nat.le_of_ble_eq_true rfl | (show _ ≤ (1 : Nat); omega)), (by first | exact Nat.le_of_ble_eq_true rfl | (show _ ≤ (6 : Nat); omega))⟩) hP hD hS hA [] [0] rfl rfl rfl (by decide) (fun y2 u_7 H locs hy2 hP hD hS => ?_)
    have hP : va_P G.1 vwCl [(x, .inr (10, [.ref ro, .ref rw, .ref bo, .ref li, .ref sh, .ref tx, .ref lo, .ref nl]))] H := hP
    have hD : va_D A [(x, .inr (10, [.ref ro, .ref rw, .ref bo, .ref li, .ref sh, .ref tx, .ref lo, .ref nl]))] := hD
    have hy2 : y2 = decide ((-1000000000 : Int) ≤ mo ∧ mo ≤ (1000000000 : Int)) := hy2
    rcases Bool.eq_false_or_eq_true y2 with hbt_y2 | hbt_y2
    ·
      rw [hbt_y2]
      have hzy2 := of_decide_eq_true (hy2.symm.trans hbt_y2)
      refine zc_v (wr := [(x, .inr (10, [.ref ro, .ref rw, .ref bo, .ref li, .ref sh, .ref tx, .ref lo, .ref nl]))]) (va_runS (As := [.int (iz (zbb true))]) (rest := []) ⟨hx, hb, hml, hown, hts⟩ (c_X9_demand_o l G   H.size) (va_cwS 1 hts gX9_pay_X9_demand rfl rfl rfl (by decide +kernel) ⟨Nat.le_of_ble_eq_true rfl, Nat.le_of_ble_eq_true rfl⟩) (zpS hKX hP hD [] rfl rfl) rfl rfl hl.1 rfl (lv_room (Nat.le_of_ble_eq_true rfl)) dX9_pay_22 ⟨(by first | exact Nat.le_of_ble_eq_true rfl | (show _ ≤ (1 : Nat); omega)), (by first | exact Nat.le_of_ble_eq_true rfl | (show _ ≤ (6 : Nat); omega))⟩) hP hD hS hA [] [0] rfl rfl rfl (by decide) (fun u_9 H locs hq_12 hP hD hS => ?_)
      have hP : va_P G.1 vwCl [(x, .inr (10, [.ref ro, .ref rw, .ref bo, .ref li, .ref sh, .ref tx, .ref lo, .ref nl]))] H := hP
      have hD : va_D A [(x, .inr (10, [.ref ro, .ref rw, .ref bo, .ref li, .ref sh, .ref tx, .ref lo, .ref nl]))] := hD
      exact absurd h1 (by omega)
    ·
      rw [hbt_y2]
      have hzy2 := of_decide_eq_false (hy2.symm.trans hbt_y2)
      rw [hQ]
      exact zx_thr (X := "java/lang/IllegalArgumentException") (vx_runS (As := [.int (iz (zbb false))]) (rest := []) ⟨hx, hb, hml, hown, hts⟩ (c_X9_demand_x l G s1 s2 s3 hl0 H.size) (va_cwS 1 hts gX9_pay_X9_demand rfl rfl rfl (by decide +kernel) ⟨Nat.le_of_ble_eq_true rfl, Nat.le_of_ble_eq_true rfl⟩) (zpSe zXE_ok hE hS hA hKX hP hD [] rfl rfl) rfl rfl hl.1 rfl (lv_room (Nat.le_of_ble_eq_true rfl)) dX9_pay_22 ⟨(by first | exact Nat.le_of_ble_eq_true rfl | (show _ ≤ (1 : Nat); omega)), (by first | exact Nat.le_of_ble_eq_true rfl | (show _ ≤ (6 : Nat); omega))⟩) hS (va_free (wc := []) hD hS hA [] rfl) hout hlocks (by first | exact Nat.le_of_ble_eq_true rfl | omega) (by first | exact Nat.le_of_ble_eq_true rfl | omega)
  ·
    rw [hbt_y1]
    have hzy1 := of_decide_eq_false (hy1.symm.trans hbt_y1)
    rw [hQ]
    exact zx_thr (X := "java/lang/IllegalArgumentException") (vx_runS (As := [.int (iz (zbb false))]) (rest := []) ⟨hx, hb, hml, hown, hts⟩ (c_X9_demand_x l G s1 s2 s3 hl0 H.size) (va_cwS 1 hts gX9_pay_X9_demand rfl rfl rfl (by decide +kernel) ⟨Nat.le_of_ble_eq_true rfl, Nat.le_of_ble_eq_true rfl⟩) (zpSe zXE_ok hE hS hA hKX hP hD [] rfl rfl) rfl rfl hl.1 rfl (lv_room (Nat.le_of_ble_eq_true rfl)) dX9_pay_9 ⟨(by first | exact Nat.le_of_ble_eq_true rfl | (show _ ≤ (1 : Nat); omega)), (by first | exact Nat.le_of_ble_eq_true rfl | (show _ ≤ (6 : Nat); omega))⟩) hS (va_free (wc := []) hD hS hA [] rfl) hout hlocks (by first | exact Nat.le_of_ble_eq_true rfl | omega) (by first | exact Nat.le_of_ble_eq_true rfl | omega)

def rm_c_X9_payMany_o : Room := { frames := 2, cells := 0, slots := 0, locals := 52 }
theorem iw_X9_payMany_X9 : ∀ w ∈ wsX90, w ∈ wsX9_payMany := by decide +kernel
set_option maxHeartbeats 1000000 in
set_option maxRecDepth 100000 in
theorem c_X9_payMany_o (l : Launch) (G : zG) (x : Nat) (ro : Nat) (rw : Nat) (bo : Nat) (li : Nat) (sh : Nat) (tx : Nat) (lo : Nat) (nl : Nat) (am : Nat) (q : Nat) (bq : Nat) (fr : Int) (mn : Int) (mo : Int) (se : Int) (h0 : -2147483648 ≤ fr ∧ fr < 2147483648) (h01 : -2147483648 ≤ mn ∧ mn < 2147483648) (h02 : -9223372036854775808 ≤ mo ∧ mo < 9223372036854775808) (h03 : -9223372036854775808 ≤ se ∧ se < 9223372036854775808) (h1 : 0 ≤ fr ∧ fr ≤ 40 ∧ 1 ≤ mn ∧ mn ≤ 41 ∧ -1000000000 ≤ mo ∧ mo ≤ 1000000000 ∧ -1000000 ≤ se ∧ se ≤ 1000000 ∧ fr + mn ≤ 41) (h2 : ∀ j : Int, 0 ≤ j → j < mn → zamt (mo + j * se)) : zM l G yX9_payMany wsX9_payMany rm_c_X9_payMany_o [.ref x, .int (iz (fr)), .int (iz (mn)), .long (lz (mo)), .long (lz (se))] [(x, .inr (10, [.ref ro, .ref rw, .ref bo, .ref li, .ref sh, .ref tx, .ref lo, .ref nl])), (rw, .inr (6, [.ref am, .ref q, .ref bq])), (am, zaL (G.2 0) 41 (fun _ => 0))] (fun A => zQi G (fun (z : Int) (f2 : (Int → Int)) => z = zcnt (zpmf fr mn mo se) 41) (fun (f2 : (Int → Int)) => [(x, .inr (10, [.ref ro, .ref rw, .ref bo, .ref li, .ref sh, .ref tx, .ref lo, .ref nl])), (rw, .inr (6, [.ref am, .ref q, .ref bq])), (am, zaL (G.2 0) 41 (f2))]) A) 0 0 := by
  refine zM_of (cc := cX9_payMany) (maxL := 7) (ret := (some .int)) (by decide) rfl (Nat.le_of_ble_eq_true rfl) ?_
  intro p e s m below meth c ls A Q hQ hx hb hr hts hown hlocks hml hnm hKX hP hD hA hS hl
  have hK := hKX.1
  have iwX9 := iw_X9_payMany_X9
  obtain ⟨H, hH⟩ : ∃ h, h = s.heap := ⟨_, rfl⟩
  obtain ⟨locs, hlo⟩ : ∃ h : List Loc, h = [] := ⟨_, rfl⟩
  have hS : va_S A s.heap H locs := by rw [hH, hlo]; exact hS
  have hP : va_P G.1 vwCl [(x, .inr (10, [.ref ro, .ref rw, .ref bo, .ref li, .ref sh, .ref tx, .ref lo, .ref nl])), (rw, .inr (6, [.ref am, .ref q, .ref bq])), (am, zaL (G.2 0) 41 (fun _ => 0))] H := by rw [hH]; exact hP
  have hD : va_D A [(x, .inr (10, [.ref ro, .ref rw, .ref bo, .ref li, .ref sh, .ref tx, .ref lo, .ref nl])), (rw, .inr (6, [.ref am, .ref q, .ref bq])), (am, zaL (G.2 0) 41 (fun _ => 0))] := hD
  have hl : lv_has ls 7 [(0, .ref x), (1, .int (iz (fr))), (2, .int (iz (mn))), (3, .long (lz (mo))), (5, .long (lz (se)))] := hl
  rw [← hH, ← hlo]
  refine lv_iload_n hx hb dX9_payMany_0 rfl (lv_at hl 1 rfl) ?_
  refine zr_i2l hx hb (x := fr) (⟨by omega, by omega⟩) dX9_payMany_1 ?_
  refine lv_lconst (v := lz (0)) hx hb dX9_payMany_2 rfl ?_
  refine zr_ldc2 (z := 40) hx hb hown (hts (.constantLong RX9 87 (40)) (by decide +kernel)) rfl dX9_payMany_3 ?_
  refine zc_z (wr := [(x, .inr (10, [.ref ro, .ref rw, .ref bo, .ref li, .ref sh, .ref tx, .ref lo, .ref nl])), (rw, .inr (6, [.ref am, .ref q, .ref bq])), (am, zaL (G.2 0) 41 (fun _ => 0))]) (va_runS (As := [.long (lz (fr)), .long (lz (0)), .long (lz (40))]) (rest := []) ⟨hx, hb, hml, hown, hts⟩ (c_X9_isWithin l G fr 0 40 (by omega) (by omega) (by omega) H.size) (va_cwS 3 hts gX9_payMany_X9_isWithin rfl rfl rfl (by decide +kernel) ⟨Nat.le_of_ble_eq_true rfl, Nat.le_of_ble_eq_true rfl⟩) (zpS hKX hP hD [] rfl rfl) rfl rfl hl.1 rfl (lv_room (Nat.le_of_ble_eq_true rfl)) dX9_payMany_6 ⟨(by first | exact Nat.le_of_ble_eq_true rfl | (show _ ≤ (0 : Nat); omega)), (by first | exact Nat.le_of_ble_eq_true rfl | (show _ ≤ (0 : Nat); omega))⟩) hP hD hS hA [] [0, 1, 2] rfl rfl rfl (by decide) (fun y1 u_1 H locs hy1 hP hD hS => ?_)
  have hP : va_P G.1 vwCl [(x, .inr (10, [.ref ro, .ref rw, .ref bo, .ref li, .ref sh, .ref tx, .ref lo, .ref nl])), (rw, .inr (6, [.ref am, .ref q, .ref bq])), (am, zaL (G.2 0) 41 (fun _ => 0))] H := hP
  have hD : va_D A [(x, .inr (10, [.ref ro, .ref rw, .ref bo, .ref li, .ref sh, .ref tx, .ref lo, .ref nl])), (rw, .inr (6, [.ref am, .ref q, .ref bq])), (am, zaL (G.2 0) 41 (fun _ => 0))] := hD
  have hy1 : y1 = decide ((0 : Int) ≤ fr ∧ fr ≤ (40 : Int)) := hy1
  rw [show y1 = true from hy1.trans (decide_eq_true (by omega))]
  refine zc_v (wr := [(x, .inr (10, [.ref ro, .ref rw, .ref bo, .ref li, .ref sh, .ref tx, .ref lo, .ref nl])), (rw, .inr (6, [.ref am, .ref q, .ref bq])), (am, zaL (G.2 0) 41 (fun _ => 0))]) (va_runS (As := [.int (iz (zbb true))]) (rest := []) ⟨hx, hb, hml, hown, hts⟩ (c_X9_demand_o l G   H.size) (va_cwS 1 hts gX9_payMany_X9_demand rfl rfl rfl (by decide +kernel) ⟨Nat.le_of_ble_eq_true rfl, Nat.le_of_ble_eq_true rfl⟩) (zpS hKX hP hD [] rfl rfl) rfl rfl hl.1 rfl (lv_room (Nat.le_of_ble_eq_true rfl)) dX9_payMany_9 ⟨(by first | exact Nat.le_of_ble_eq_true rfl | (show _ ≤ (0 : Nat); omega)), (by first | exact Nat.le_of_ble_eq_true rfl | (show _ ≤ (0 : Nat); omega))⟩) hP hD hS hA [] [0, 1, 2] rfl rfl rfl (by decide) (fun u_3 H locs hq_6 hP hD hS => ?_)
  have hP : va_P G.1 vwCl [(x, .inr (10, [.ref ro, .ref rw, .ref bo, .ref li, .ref sh, .ref tx, .ref lo, .ref nl])), (rw, .inr (6, [.ref am, .ref q, .ref bq])), (am, zaL (G.2 0) 41 (fun _ => 0))] H := hP
  have hD : va_D A [(x, .inr (10, [.ref ro, .ref rw, .ref bo, .ref li, .ref sh, .ref tx, .ref lo, .ref nl])), (rw, .inr (6, [.ref am, .ref q, .ref bq])), (am, zaL (G.2 0) 41 (fun _ => 0))] := hD
  refine lv_iload_n hx hb dX9_payMany_12 rfl (lv_at hl 2 rfl) ?_
  refine zr_i2l hx hb (x := mn) (⟨by omega, by omega⟩) dX9_payMany_13 ?_
  refine lv_lconst (v := lz (1)) hx hb dX9_payMany_14 rfl ?_
  refine zr_ldc2 (z := 41) hx hb hown (hts (.constantLong RX9 101 (41)) (by decide +kernel)) rfl dX9_payMany_15 ?_
  refine zc_z (wr := [(x, .inr (10, [.ref ro, .ref rw, .ref bo, .ref li, .ref sh, .ref tx, .ref lo, .ref nl])), (rw, .inr (6, [.ref am, .ref q, .ref bq])), (am, zaL (G.2 0) 41 (fun _ => 0))]) (va_runS (As := [.long (lz (mn)), .long (lz (1)), .long (lz (41))]) (rest := []) ⟨hx, hb, hml, hown, hts⟩ (c_X9_isWithin l G mn 1 41 (by omega) (by omega) (by omega) H.size) (va_cwS 3 hts gX9_payMany_X9_isWithin rfl rfl rfl (by decide +kernel) ⟨Nat.le_of_ble_eq_true rfl, Nat.le_of_ble_eq_true rfl⟩) (zpS hKX hP hD [] rfl rfl) rfl rfl hl.1 rfl (lv_room (Nat.le_of_ble_eq_true rfl)) dX9_payMany_18 ⟨(by first | exact Nat.le_of_ble_eq_true rfl | (show _ ≤ (0 : Nat); omega)), (by first | exact Nat.le_of_ble_eq_true rfl | (show _ ≤ (0 : Nat); omega))⟩) hP hD hS hA [] [0, 1, 2] rfl rfl rfl (by decide) (fun y2 u_7 H locs hy2 hP hD hS => ?_)
  have hP : va_P G.1 vwCl [(x, .inr (10, [.ref ro, .ref rw, .ref bo, .ref li, .ref sh, .ref tx, .ref lo, .ref nl])), (rw, .inr (6, [.ref am, .ref q, .ref bq])), (am, zaL (G.2 0) 41 (fun _ => 0))] H := hP
  have hD : va_D A [(x, .inr (10, [.ref ro, .ref rw, .ref bo, .ref li, .ref sh, .ref tx, .ref lo, .ref nl])), (rw, .inr (6, [.ref am, .ref q, .ref bq])), (am, zaL (G.2 0) 41 (fun _ => 0))] := hD
  have hy2 : y2 = decide ((1 : Int) ≤ mn ∧ mn ≤ (41 : Int)) := hy2
  rw [show y2 = true from hy2.trans (decide_eq_true (by omega))]
  refine zc_v (wr := [(x, .inr (10, [.ref ro, .ref rw, .ref bo, .ref li, .ref sh, .ref tx, .ref lo, .ref nl])), (rw, .inr (6, [.ref am, .ref q, .ref bq])), (am, zaL (G.2 0) 41 (fun _ => 0))]) (va_runS (As := [.int (iz (zbb true))]) (rest := []) ⟨hx, hb, hml, hown, hts⟩ (c_X9_demand_o l G   H.size) (va_cwS 1 hts gX9_payMany_X9_demand rfl rfl rfl (by decide +kernel) ⟨Nat.le_of_ble_eq_true rfl, Nat.le_of_ble_eq_true rfl⟩) (zpS hKX hP hD [] rfl rfl) rfl rfl hl.1 rfl (lv_room (Nat.le_of_ble_eq_true rfl)) dX9_payMany_21 ⟨(by first | exact Nat.le_of_ble_eq_true rfl | (show _ ≤ (0 : Nat); omega)), (by first | exact Nat.le_of_ble_eq_true rfl | (show _ ≤ (0 : Nat); omega))⟩) hP hD hS hA [] [0, 1, 2] rfl rfl rfl (by decide) (fun u_9 H locs hq_12 hP hD hS => ?_)
  have hP : va_P G.1 vwCl [(x, .inr (10, [.ref ro, .ref rw, .ref bo, .ref li, .ref sh, .ref tx, .ref lo, .ref nl])), (rw, .inr (6, [.ref am, .ref q, .ref bq])), (am, zaL (G.2 0) 41 (fun _ => 0))] H := hP
  have hD : va_D A [(x, .inr (10, [.ref ro, .ref rw, .ref bo, .ref li, .ref sh, .ref tx, .ref lo, .ref nl])), (rw, .inr (6, [.ref am, .ref q, .ref bq])), (am, zaL (G.2 0) 41 (fun _ => 0))] := hD
  refine lv_lload_n hx hb dX9_payMany_24 rfl (lv_at hl 3 rfl) ?_
  refine zr_ldc2 (z := -1000000000) hx hb hown (hts (.constantLong RX9 89 (-1000000000)) (by decide +kernel)) rfl dX9_payMany_25 ?_
  refine zr_ldc2 (z := 1000000000) hx hb hown (hts (.constantLong RX9 91 (1000000000)) (by decide +kernel)) rfl dX9_payMany_28 ?_
  refine zc_z (wr := [(x, .inr (10, [.ref ro, .ref rw, .ref bo, .ref li, .ref sh, .ref tx, .ref lo, .ref nl])), (rw, .inr (6, [.ref am, .ref q, .ref bq])), (am, zaL (G.2 0) 41 (fun _ => 0))]) (va_runS (As := [.long (lz (mo)), .long (lz (-1000000000)), .long (lz (1000000000))]) (rest := []) ⟨hx, hb, hml, hown, hts⟩ (c_X9_isWithin l G mo (-1000000000) 1000000000 (by omega) (by omega) (by omega) H.size) (va_cwS 3 hts gX9_payMany_X9_isWithin rfl rfl rfl (by decide +kernel) ⟨Nat.le_of_ble_eq_true rfl, Nat.le_of_ble_eq_true rfl⟩) (zpS hKX hP hD [] rfl rfl) rfl rfl hl.1 rfl (lv_room (Nat.le_of_ble_eq_true rfl)) dX9_payMany_31 ⟨(by first | exact Nat.le_of_ble_eq_true rfl | (show _ ≤ (0 : Nat); omega)), (by first | exact Nat.le_of_ble_eq_true rfl | (show _ ≤ (0 : Nat); omega))⟩) hP hD hS hA [] [0, 1, 2] rfl rfl rfl (by decide) (fun y3 u_13 H locs hy3 hP hD hS => ?_)
  have hP : va_P G.1 vwCl [(x, .inr (10, [.ref ro, .ref rw, .ref bo, .ref li, .ref sh, .ref tx, .ref lo, .ref nl])), (rw, .inr (6, [.ref am, .ref q, .ref bq])), (am, zaL (G.2 0) 41 (fun _ => 0))] H := hP
  have hD : va_D A [(x, .inr (10, [.ref ro, .ref rw, .ref bo, .ref li, .ref sh, .ref tx, .ref lo, .ref nl])), (rw, .inr (6, [.ref am, .ref q, .ref bq])), (am, zaL (G.2 0) 41 (fun _ => 0))] := hD
  have hy3 : y3 = decide ((-1000000000 : Int) ≤ mo ∧ mo ≤ (1000000000 : Int)) := hy3
  rw [show y3 = true from hy3.trans (decide_eq_true (by omega))]
  refine zc_v (wr := [(x, .inr (10, [.ref ro, .ref rw, .ref bo, .ref li, .ref sh, .ref tx, .ref lo, .ref nl])), (rw, .inr (6, [.ref am, .ref q, .ref bq])), (am, zaL (G.2 0) 41 (fun _ => 0))]) (va_runS (As := [.int (iz (zbb true))]) (rest := []) ⟨hx, hb, hml, hown, hts⟩ (c_X9_demand_o l G   H.size) (va_cwS 1 hts gX9_payMany_X9_demand rfl rfl rfl (by decide +kernel) ⟨Nat.le_of_ble_eq_true rfl, Nat.le_of_ble_eq_true rfl⟩) (zpS hKX hP hD [] rfl rfl) rfl rfl hl.1 rfl (lv_room (Nat.le_of_ble_eq_true rfl)) dX9_payMany_34 ⟨(by first | exact Nat.le_of_ble_eq_true rfl | (show _ ≤ (0 : Nat); omega)), (by first | exact Nat.le_of_ble_eq_true rfl | (show _ ≤ (0 : Nat); omega))⟩) hP hD hS hA [] [0, 1, 2] rfl rfl rfl (by decide) (fun u_15 H locs hq_18 hP hD hS => ?_)
  have hP : va_P G.1 vwCl [(x, .inr (10, [.ref ro, .ref rw, .ref bo, .ref li, .ref sh, .ref tx, .ref lo, .ref nl])), (rw, .inr (6, [.ref am, .ref q, .ref bq])), (am, zaL (G.2 0) 41 (fun _ => 0))] H := hP
  have hD : va_D A [(x, .inr (10, [.ref ro, .ref rw, .ref bo, .ref li, .ref sh, .ref tx, .ref lo, .ref nl])), (rw, .inr (6, [.ref am, .ref q, .ref bq])), (am, zaL (G.2 0) 41 (fun _ => 0))] := hD
  refine lv_lload hx hb dX9_payMany_37 (lv_at hl 4 rfl) ?_
  refine zr_ldc2 (z := -1000000) hx hb hown (hts (.constantLong RX9 103 (-1000000)) (by decide +kernel)) rfl dX9_payMany_39 ?_
  refine zr_ldc2 (z := 1000000) hx hb hown (hts (.constantLong RX9 105 (1000000)) (by decide +kernel)) rfl dX9_payMany_42 ?_
  refine zc_z (wr := [(x, .inr (10, [.ref ro, .ref rw, .ref bo, .ref li, .ref sh, .ref tx, .ref lo, .ref nl])), (rw, .inr (6, [.ref am, .ref q, .ref bq])), (am, zaL (G.2 0) 41 (fun _ => 0))]) (va_runS (As := [.long (lz (se)), .long (lz (-1000000)), .long (lz (1000000))]) (rest := []) ⟨hx, hb, hml, hown, hts⟩ (c_X9_isWithin l G se (-1000000) 1000000 (by omega) (by omega) (by omega) H.size) (va_cwS 3 hts gX9_payMany_X9_isWithin rfl rfl rfl (by decide +kernel) ⟨Nat.le_of_ble_eq_true rfl, Nat.le_of_ble_eq_true rfl⟩) (zpS hKX hP hD [] rfl rfl) rfl rfl hl.1 rfl (lv_room (Nat.le_of_ble_eq_true rfl)) dX9_payMany_45 ⟨(by first | exact Nat.le_of_ble_eq_true rfl | (show _ ≤ (0 : Nat); omega)), (by first | exact Nat.le_of_ble_eq_true rfl | (show _ ≤ (0 : Nat); omega))⟩) hP hD hS hA [] [0, 1, 2] rfl rfl rfl (by decide) (fun y4 u_19 H locs hy4 hP hD hS => ?_)
  have hP : va_P G.1 vwCl [(x, .inr (10, [.ref ro, .ref rw, .ref bo, .ref li, .ref sh, .ref tx, .ref lo, .ref nl])), (rw, .inr (6, [.ref am, .ref q, .ref bq])), (am, zaL (G.2 0) 41 (fun _ => 0))] H := hP
  have hD : va_D A [(x, .inr (10, [.ref ro, .ref rw, .ref bo, .ref li, .ref sh, .ref tx, .ref lo, .ref nl])), (rw, .inr (6, [.ref am, .ref q, .ref bq])), (am, zaL (G.2 0) 41 (fun _ => 0))] := hD
  have hy4 : y4 = decide ((-1000000 : Int) ≤ se ∧ se ≤ (1000000 : Int)) := hy4
  rw [show y4 = true from hy4.trans (decide_eq_true (by omega))]
  refine zc_v (wr := [(x, .inr (10, [.ref ro, .ref rw, .ref bo, .ref li, .ref sh, .ref tx, .ref lo, .ref nl])), (rw, .inr (6, [.ref am, .ref q, .ref bq])), (am, zaL (G.2 0) 41 (fun _ => 0))]) (va_runS (As := [.int (iz (zbb true))]) (rest := []) ⟨hx, hb, hml, hown, hts⟩ (c_X9_demand_o l G   H.size) (va_cwS 1 hts gX9_payMany_X9_demand rfl rfl rfl (by decide +kernel) ⟨Nat.le_of_ble_eq_true rfl, Nat.le_of_ble_eq_true rfl⟩) (zpS hKX hP hD [] rfl rfl) rfl rfl hl.1 rfl (lv_room (Nat.le_of_ble_eq_true rfl)) dX9_payMany_48 ⟨(by first | exact Nat.le_of_ble_eq_true rfl | (show _ ≤ (0 : Nat); omega)), (by first | exact Nat.le_of_ble_eq_true rfl | (show _ ≤ (0 : Nat); omega))⟩) hP hD hS hA [] [0, 1, 2] rfl rfl rfl (by decide) (fun u_21 H locs hq_24 hP hD hS => ?_)
  have hP : va_P G.1 vwCl [(x, .inr (10, [.ref ro, .ref rw, .ref bo, .ref li, .ref sh, .ref tx, .ref lo, .ref nl])), (rw, .inr (6, [.ref am, .ref q, .ref bq])), (am, zaL (G.2 0) 41 (fun _ => 0))] H := hP
  have hD : va_D A [(x, .inr (10, [.ref ro, .ref rw, .ref bo, .ref li, .ref sh, .ref tx, .ref lo, .ref nl])), (rw, .inr (6, [.ref am, .ref q, .ref bq])), (am, zaL (G.2 0) 41 (fun _ => 0))] := hD
  refine lv_iload_n hx hb dX9_payMany_51 rfl (lv_at hl 1 rfl) ?_
  refine lv_iload_n hx hb dX9_payMany_52 rfl (lv_at hl 2 rfl) ?_
  refine zr_iadd hx hb dX9_payMany_53 ?_
  refine lv_iconst (v := iz (1)) hx hb dX9_payMany_54 rfl ?_
  refine zr_isub hx hb dX9_payMany_55 ?_
  refine lv_bipush (v := iz (40)) hx hb dX9_payMany_56 rfl ?_
  refine zr_icmp_gt (x := (fr + mn) - 1) (y := 40) (tgt := 65) hx hb (⟨by omega, by omega⟩) (⟨by omega, by omega⟩) dX9_payMany_58 (by decide) (fun h_25 => ?_) (fun h_25 => ?_)
  · exact absurd h_25 (by omega)
  ·
    refine lv_iconst (v := iz (1)) hx hb dX9_payMany_61 rfl ?_
    refine lv_goto (tgt := 66) hx hb dX9_payMany_62 (by decide) ?_
    refine zc_v (wr := [(x, .inr (10, [.ref ro, .ref rw, .ref bo, .ref li, .ref sh, .ref tx, .ref lo, .ref nl])), (rw, .inr (6, [.ref am, .ref q, .ref bq])), (am, zaL (G.2 0) 41 (fun _ => 0))]) (va_runS (As := [.int (iz (1))]) (rest := []) ⟨hx, hb, hml, hown, hts⟩ (c_X9_demand_o l G   H.size) (va_cwS 1 hts gX9_payMany_X9_demand rfl rfl rfl (by decide +kernel) ⟨Nat.le_of_ble_eq_true rfl, Nat.le_of_ble_eq_true rfl⟩) (zpS hKX hP hD [] rfl rfl) rfl rfl hl.1 rfl (lv_room (Nat.le_of_ble_eq_true rfl)) dX9_payMany_66 ⟨(by first | exact Nat.le_of_ble_eq_true rfl | (show _ ≤ (0 : Nat); omega)), (by first | exact Nat.le_of_ble_eq_true rfl | (show _ ≤ (0 : Nat); omega))⟩) hP hD hS hA [] [0, 1, 2] rfl rfl rfl (by decide) (fun u_26 H locs hq_29 hP hD hS => ?_)
    have hP : va_P G.1 vwCl [(x, .inr (10, [.ref ro, .ref rw, .ref bo, .ref li, .ref sh, .ref tx, .ref lo, .ref nl])), (rw, .inr (6, [.ref am, .ref q, .ref bq])), (am, zaL (G.2 0) 41 (fun _ => 0))] H := hP
    have hD : va_D A [(x, .inr (10, [.ref ro, .ref rw, .ref bo, .ref li, .ref sh, .ref tx, .ref lo, .ref nl])), (rw, .inr (6, [.ref am, .ref q, .ref bq])), (am, zaL (G.2 0) 41 (fun _ => 0))] := hD
    refine lv_aload_n hx hb dX9_payMany_69 rfl (lv_at hl 0 rfl) ?_
    refine va_get (D := G.1) (ci := 10) (v := .ref rw) (C := RX9) (T := TX9) (N := 8) hx hb hts iwX9 hown hK hP 0 rfl rfl 1 (by decide) (hts (.fieldLink RX9 19 "AnnuityHouse" "row" "LAnnuityHouse$Row;") (by decide +kernel)) (fun _ h9 => h9) rfl dX9_payMany_70 ?_
    refine lv_iload_n hx hb dX9_payMany_73 rfl (lv_at hl 1 rfl) ?_
    refine lv_iload_n hx hb dX9_payMany_74 rfl (lv_at hl 2 rfl) ?_
    refine lv_lload_n hx hb dX9_payMany_75 rfl (lv_at hl 3 rfl) ?_
    refine lv_lload hx hb dX9_payMany_76 (lv_at hl 4 rfl) ?_
    refine zc_v (wr := [(x, .inr (10, [.ref ro, .ref rw, .ref bo, .ref li, .ref sh, .ref tx, .ref lo, .ref nl]))]) (va_runV (As := [.int (iz (fr)), .int (iz (mn)), .long (lz (mo)), .long (lz (se))]) (rest := []) ⟨hx, hb, hml, hown, hts⟩ (c_X5_add_o l G rw am q bq fr mn mo se (by omega) (h2) H.size) (cwV 4 hts gX9_payMany_X5_add rfl rfl rfl (by decide +kernel) ⟨Nat.le_of_ble_eq_true rfl, Nat.le_of_ble_eq_true rfl⟩) (zpV hKX hP hD [1, 2] rfl rfl 1 6 rfl rfl) rfl rfl hl.1 rfl (lv_room (Nat.le_of_ble_eq_true rfl)) dX9_payMany_78 ⟨(by first | exact Nat.le_of_ble_eq_true rfl | (show _ ≤ (0 : Nat); omega)), (by first | exact Nat.le_of_ble_eq_true rfl | (show _ ≤ (0 : Nat); omega))⟩) hP hD hS hA [1, 2] [0] rfl rfl rfl (by decide) (fun u_30 H locs hf2 hP hD hS => ?_)
    generalize u_30 = f2 at hP hD hf2
    have hP : va_P G.1 vwCl [(x, .inr (10, [.ref ro, .ref rw, .ref bo, .ref li, .ref sh, .ref tx, .ref lo, .ref nl])), (rw, .inr (6, [.ref am, .ref q, .ref bq])), (am, zaL (G.2 0) 41 (f2))] H := hP
    have hD : va_D A [(x, .inr (10, [.ref ro, .ref rw, .ref bo, .ref li, .ref sh, .ref tx, .ref lo, .ref nl])), (rw, .inr (6, [.ref am, .ref q, .ref bq])), (am, zaL (G.2 0) 41 (f2))] := hD
    have hf2 : ∀ i, f2 i = zpmf fr mn mo se i := hf2
    refine lv_aload_n hx hb dX9_payMany_81 rfl (lv_at hl 0 rfl) ?_
    refine va_get (D := G.1) (ci := 10) (v := .ref rw) (C := RX9) (T := TX9) (N := 8) hx hb hts iwX9 hown hK hP 0 rfl rfl 1 (by decide) (hts (.fieldLink RX9 19 "AnnuityHouse" "row" "LAnnuityHouse$Row;") (by decide +kernel)) (fun _ h9 => h9) rfl dX9_payMany_82 ?_
    refine zc_i (wr := [(x, .inr (10, [.ref ro, .ref rw, .ref bo, .ref li, .ref sh, .ref tx, .ref lo, .ref nl]))]) (va_runV (As := []) (rest := []) ⟨hx, hb, hml, hown, hts⟩ (c_X5_countPaying l G rw am q bq f2 (tpm_lo (k := mn) (fr := fr) (mo := mo) (se := se) hf2 (by omega) (by omega) (by omega)) H.size) (cwV 0 hts gX9_payMany_X5_countPaying rfl rfl rfl (by decide +kernel) ⟨Nat.le_of_ble_eq_true rfl, Nat.le_of_ble_eq_true rfl⟩) (zpV hKX hP hD [1, 2] rfl rfl 1 6 rfl rfl) rfl rfl hl.1 rfl (lv_room (Nat.le_of_ble_eq_true rfl)) dX9_payMany_85 ⟨(by first | exact Nat.le_of_ble_eq_true rfl | (show _ ≤ (0 : Nat); omega)), (by first | exact Nat.le_of_ble_eq_true rfl | (show _ ≤ (0 : Nat); omega))⟩) hP hD hS hA [1, 2] [0] rfl rfl rfl (by decide) (fun zz u_33 H locs hz hP hD hS => ?_)
    have hP : va_P G.1 vwCl [(x, .inr (10, [.ref ro, .ref rw, .ref bo, .ref li, .ref sh, .ref tx, .ref lo, .ref nl])), (rw, .inr (6, [.ref am, .ref q, .ref bq])), (am, zaL (G.2 0) 41 (f2))] H := hP
    have hD : va_D A [(x, .inr (10, [.ref ro, .ref rw, .ref bo, .ref li, .ref sh, .ref tx, .ref lo, .ref nl])), (rw, .inr (6, [.ref am, .ref q, .ref bq])), (am, zaL (G.2 0) 41 (f2))] := hD
    have hz : zz = zcnt f2 41 := hz
    rw [hQ]
    exact zr_iret (z := zz) (u := (f2)) hx hb hr hlocks hP hD hS (by first | exact Nat.le_of_ble_eq_true rfl | omega) (by first | exact Nat.le_of_ble_eq_true rfl | omega) dX9_payMany_88 (show zz = zcnt (zpmf fr mn mo se) 41 from by rw [hz, show f2 = zpmf fr mn mo se from funext hf2])

def rm_c_X9_payMany_n : Room := { frames := 8, cells := 1, slots := 6, locals := 137 }
set_option maxHeartbeats 1000000 in
set_option maxRecDepth 100000 in
theorem c_X9_payMany_n (l : Launch) (G : zG) (s1 : Nat) (s2 : Nat) (s3 : Nat) (x : Nat) (ro : Nat) (rw : Nat) (bo : Nat) (li : Nat) (sh : Nat) (tx : Nat) (lo : Nat) (nl : Nat) (am : Nat) (q : Nat) (bq : Nat) (fr : Int) (mn : Int) (mo : Int) (se : Int) (hl0 : l.stackTraces = false) (h0 : -2147483648 ≤ fr ∧ fr < 2147483648) (h01 : -2147483648 ≤ mn ∧ mn < 2147483648) (h02 : -9223372036854775808 ≤ mo ∧ mo < 9223372036854775808) (h03 : -9223372036854775808 ≤ se ∧ se < 9223372036854775808) (h1 : 0 ≤ fr ∧ fr ≤ 40 ∧ 1 ≤ mn ∧ mn ≤ 41 ∧ -1000000000 ≤ mo ∧ mo ≤ 1000000000 ∧ -1000000 ≤ se ∧ se ≤ 1000000 ∧ fr + mn ≤ 41) (h2 : ¬ (∀ j : Int, 0 ≤ j → j < mn → zamt (mo + j * se))) : zMx l (zXE s1 s2 s3) G yX9_payMany wsX9_payMany rm_c_X9_payMany_n [.ref x, .int (iz (fr)), .int (iz (mn)), .long (lz (mo)), .long (lz (se))] [(x, .inr (10, [.ref ro, .ref rw, .ref bo, .ref li, .ref sh, .ref tx, .ref lo, .ref nl])), (rw, .inr (6, [.ref am, .ref q, .ref bq])), (am, zaL (G.2 0) 41 (fun _ => 0))] "java/lang/IllegalStateException" 1 6 := by
  refine zMx_of (cc := cX9_payMany) (maxL := 7) (ret := (some .int)) (by decide) rfl (Nat.le_of_ble_eq_true rfl) ?_
  intro p e s m below meth c ls A Q hQ hx hb hr hts hown hlocks hml hout hKX hE hP hD hA hS hl
  have hK := hKX.1
  have iwX9 := iw_X9_payMany_X9
  obtain ⟨H, hH⟩ : ∃ h, h = s.heap := ⟨_, rfl⟩
  obtain ⟨locs, hlo⟩ : ∃ h : List Loc, h = [] := ⟨_, rfl⟩
  have hS : va_S A s.heap H locs := by rw [hH, hlo]; exact hS
  have hP : va_P G.1 vwCl [(x, .inr (10, [.ref ro, .ref rw, .ref bo, .ref li, .ref sh, .ref tx, .ref lo, .ref nl])), (rw, .inr (6, [.ref am, .ref q, .ref bq])), (am, zaL (G.2 0) 41 (fun _ => 0))] H := by rw [hH]; exact hP
  have hD : va_D A [(x, .inr (10, [.ref ro, .ref rw, .ref bo, .ref li, .ref sh, .ref tx, .ref lo, .ref nl])), (rw, .inr (6, [.ref am, .ref q, .ref bq])), (am, zaL (G.2 0) 41 (fun _ => 0))] := hD
  have hl : lv_has ls 7 [(0, .ref x), (1, .int (iz (fr))), (2, .int (iz (mn))), (3, .long (lz (mo))), (5, .long (lz (se)))] := hl
  rw [← hH, ← hlo]
  refine lv_iload_n hx hb dX9_payMany_0 rfl (lv_at hl 1 rfl) ?_
  refine zr_i2l hx hb (x := fr) (⟨by omega, by omega⟩) dX9_payMany_1 ?_
  refine lv_lconst (v := lz (0)) hx hb dX9_payMany_2 rfl ?_
  refine zr_ldc2 (z := 40) hx hb hown (hts (.constantLong RX9 87 (40)) (by decide +kernel)) rfl dX9_payMany_3 ?_
  refine zc_z (wr := [(x, .inr (10, [.ref ro, .ref rw, .ref bo, .ref li, .ref sh, .ref tx, .ref lo, .ref nl])), (rw, .inr (6, [.ref am, .ref q, .ref bq])), (am, zaL (G.2 0) 41 (fun _ => 0))]) (va_runS (As := [.long (lz (fr)), .long (lz (0)), .long (lz (40))]) (rest := []) ⟨hx, hb, hml, hown, hts⟩ (c_X9_isWithin l G fr 0 40 (by omega) (by omega) (by omega) H.size) (va_cwS 3 hts gX9_payMany_X9_isWithin rfl rfl rfl (by decide +kernel) ⟨Nat.le_of_ble_eq_true rfl, Nat.le_of_ble_eq_true rfl⟩) (zpS hKX hP hD [] rfl rfl) rfl rfl hl.1 rfl (lv_room (Nat.le_of_ble_eq_true rfl)) dX9_payMany_6 ⟨(by first | exact Nat.le_of_ble_eq_true rfl | (show _ ≤ (1 : Nat); omega)), (by first | exact Nat.le_of_ble_eq_true rfl | (show _ ≤ (6 : Nat); omega))⟩) hP hD hS hA [] [0, 1, 2] rfl rfl rfl (by decide) (fun y1 u_1 H locs hy1 hP hD hS => ?_)
  have hP : va_P G.1 vwCl [(x, .inr (10, [.ref ro, .ref rw, .ref bo, .ref li, .ref sh, .ref tx, .ref lo, .ref nl])), (rw, .inr (6, [.ref am, .ref q, .ref bq])), (am, zaL (G.2 0) 41 (fun _ => 0))] H := hP
  have hD : va_D A [(x, .inr (10, [.ref ro, .ref rw, .ref bo, .ref li, .ref sh, .ref tx, .ref lo, .ref nl])), (rw, .inr (6, [.ref am, .ref q, .ref bq])), (am, zaL (G.2 0) 41 (fun _ => 0))] := hD
  have hy1 : y1 = decide ((0 : Int) ≤ fr ∧ fr ≤ (40 : Int)) := hy1
  rw [show y1 = true from hy1.trans (decide_eq_true (by omega))]
  refine zc_v (wr := [(x, .inr (10, [.ref ro, .ref rw, .ref bo, .ref li, .ref sh, .ref tx, .ref lo, .ref nl])), (rw, .inr (6, [.ref am, .ref q, .ref bq])), (am, zaL (G.2 0) 41 (fun _ => 0))]) (va_runS (As := [.int (iz (zbb true))]) (rest := []) ⟨hx, hb, hml, hown, hts⟩ (c_X9_demand_o l G   H.size) (va_cwS 1 hts gX9_payMany_X9_demand rfl rfl rfl (by decide +kernel) ⟨Nat.le_of_ble_eq_true rfl, Nat.le_of_ble_eq_true rfl⟩) (zpS hKX hP hD [] rfl rfl) rfl rfl hl.1 rfl (lv_room (Nat.le_of_ble_eq_true rfl)) dX9_payMany_9 ⟨(by first | exact Nat.le_of_ble_eq_true rfl | (show _ ≤ (1 : Nat); omega)), (by first | exact Nat.le_of_ble_eq_true rfl | (show _ ≤ (6 : Nat); omega))⟩) hP hD hS hA [] [0, 1, 2] rfl rfl rfl (by decide) (fun u_3 H locs hq_6 hP hD hS => ?_)
  have hP : va_P G.1 vwCl [(x, .inr (10, [.ref ro, .ref rw, .ref bo, .ref li, .ref sh, .ref tx, .ref lo, .ref nl])), (rw, .inr (6, [.ref am, .ref q, .ref bq])), (am, zaL (G.2 0) 41 (fun _ => 0))] H := hP
  have hD : va_D A [(x, .inr (10, [.ref ro, .ref rw, .ref bo, .ref li, .ref sh, .ref tx, .ref lo, .ref nl])), (rw, .inr (6, [.ref am, .ref q, .ref bq])), (am, zaL (G.2 0) 41 (fun _ => 0))] := hD
  refine lv_iload_n hx hb dX9_payMany_12 rfl (lv_at hl 2 rfl) ?_
  refine zr_i2l hx hb (x := mn) (⟨by omega, by omega⟩) dX9_payMany_13 ?_
  refine lv_lconst (v := lz (1)) hx hb dX9_payMany_14 rfl ?_
  refine zr_ldc2 (z := 41) hx hb hown (hts (.constantLong RX9 101 (41)) (by decide +kernel)) rfl dX9_payMany_15 ?_
  refine zc_z (wr := [(x, .inr (10, [.ref ro, .ref rw, .ref bo, .ref li, .ref sh, .ref tx, .ref lo, .ref nl])), (rw, .inr (6, [.ref am, .ref q, .ref bq])), (am, zaL (G.2 0) 41 (fun _ => 0))]) (va_runS (As := [.long (lz (mn)), .long (lz (1)), .long (lz (41))]) (rest := []) ⟨hx, hb, hml, hown, hts⟩ (c_X9_isWithin l G mn 1 41 (by omega) (by omega) (by omega) H.size) (va_cwS 3 hts gX9_payMany_X9_isWithin rfl rfl rfl (by decide +kernel) ⟨Nat.le_of_ble_eq_true rfl, Nat.le_of_ble_eq_true rfl⟩) (zpS hKX hP hD [] rfl rfl) rfl rfl hl.1 rfl (lv_room (Nat.le_of_ble_eq_true rfl)) dX9_payMany_18 ⟨(by first | exact Nat.le_of_ble_eq_true rfl | (show _ ≤ (1 : Nat); omega)), (by first | exact Nat.le_of_ble_eq_true rfl | (show _ ≤ (6 : Nat); omega))⟩) hP hD hS hA [] [0, 1, 2] rfl rfl rfl (by decide) (fun y2 u_7 H locs hy2 hP hD hS => ?_)
  have hP : va_P G.1 vwCl [(x, .inr (10, [.ref ro, .ref rw, .ref bo, .ref li, .ref sh, .ref tx, .ref lo, .ref nl])), (rw, .inr (6, [.ref am, .ref q, .ref bq])), (am, zaL (G.2 0) 41 (fun _ => 0))] H := hP
  have hD : va_D A [(x, .inr (10, [.ref ro, .ref rw, .ref bo, .ref li, .ref sh, .ref tx, .ref lo, .ref nl])), (rw, .inr (6, [.ref am, .ref q, .ref bq])), (am, zaL (G.2 0) 41 (fun _ => 0))] := hD
  have hy2 : y2 = decide ((1 : Int) ≤ mn ∧ mn ≤ (41 : Int)) := hy2
  rw [show y2 = true from hy2.trans (decide_eq_true (by omega))]
  refine zc_v (wr := [(x, .inr (10, [.ref ro, .ref rw, .ref bo, .ref li, .ref sh, .ref tx, .ref lo, .ref nl])), (rw, .inr (6, [.ref am, .ref q, .ref bq])), (am, zaL (G.2 0) 41 (fun _ => 0))]) (va_runS (As := [.int (iz (zbb true))]) (rest := []) ⟨hx, hb, hml, hown, hts⟩ (c_X9_demand_o l G   H.size) (va_cwS 1 hts gX9_payMany_X9_demand rfl rfl rfl (by decide +kernel) ⟨Nat.le_of_ble_eq_true rfl, Nat.le_of_ble_eq_true rfl⟩) (zpS hKX hP hD [] rfl rfl) rfl rfl hl.1 rfl (lv_room (Nat.le_of_ble_eq_true rfl)) dX9_payMany_21 ⟨(by first | exact Nat.le_of_ble_eq_true rfl | (show _ ≤ (1 : Nat); omega)), (by first | exact Nat.le_of_ble_eq_true rfl | (show _ ≤ (6 : Nat); omega))⟩) hP hD hS hA [] [0, 1, 2] rfl rfl rfl (by decide) (fun u_9 H locs hq_12 hP hD hS => ?_)
  have hP : va_P G.1 vwCl [(x, .inr (10, [.ref ro, .ref rw, .ref bo, .ref li, .ref sh, .ref tx, .ref lo, .ref nl])), (rw, .inr (6, [.ref am, .ref q, .ref bq])), (am, zaL (G.2 0) 41 (fun _ => 0))] H := hP
  have hD : va_D A [(x, .inr (10, [.ref ro, .ref rw, .ref bo, .ref li, .ref sh, .ref tx, .ref lo, .ref nl])), (rw, .inr (6, [.ref am, .ref q, .ref bq])), (am, zaL (G.2 0) 41 (fun _ => 0))] := hD
  refine lv_lload_n hx hb dX9_payMany_24 rfl (lv_at hl 3 rfl) ?_
  refine zr_ldc2 (z := -1000000000) hx hb hown (hts (.constantLong RX9 89 (-1000000000)) (by decide +kernel)) rfl dX9_payMany_25 ?_
  refine zr_ldc2 (z := 1000000000) hx hb hown (hts (.constantLong RX9 91 (1000000000)) (by decide +kernel)) rfl dX9_payMany_28 ?_
  refine zc_z (wr := [(x, .inr (10, [.ref ro, .ref rw, .ref bo, .ref li, .ref sh, .ref tx, .ref lo, .ref nl])), (rw, .inr (6, [.ref am, .ref q, .ref bq])), (am, zaL (G.2 0) 41 (fun _ => 0))]) (va_runS (As := [.long (lz (mo)), .long (lz (-1000000000)), .long (lz (1000000000))]) (rest := []) ⟨hx, hb, hml, hown, hts⟩ (c_X9_isWithin l G mo (-1000000000) 1000000000 (by omega) (by omega) (by omega) H.size) (va_cwS 3 hts gX9_payMany_X9_isWithin rfl rfl rfl (by decide +kernel) ⟨Nat.le_of_ble_eq_true rfl, Nat.le_of_ble_eq_true rfl⟩) (zpS hKX hP hD [] rfl rfl) rfl rfl hl.1 rfl (lv_room (Nat.le_of_ble_eq_true rfl)) dX9_payMany_31 ⟨(by first | exact Nat.le_of_ble_eq_true rfl | (show _ ≤ (1 : Nat); omega)), (by first | exact Nat.le_of_ble_eq_true rfl | (show _ ≤ (6 : Nat); omega))⟩) hP hD hS hA [] [0, 1, 2] rfl rfl rfl (by decide) (fun y3 u_13 H locs hy3 hP hD hS => ?_)
  have hP : va_P G.1 vwCl [(x, .inr (10, [.ref ro, .ref rw, .ref bo, .ref li, .ref sh, .ref tx, .ref lo, .ref nl])), (rw, .inr (6, [.ref am, .ref q, .ref bq])), (am, zaL (G.2 0) 41 (fun _ => 0))] H := hP
  have hD : va_D A [(x, .inr (10, [.ref ro, .ref rw, .ref bo, .ref li, .ref sh, .ref tx, .ref lo, .ref nl])), (rw, .inr (6, [.ref am, .ref q, .ref bq])), (am, zaL (G.2 0) 41 (fun _ => 0))] := hD
  have hy3 : y3 = decide ((-1000000000 : Int) ≤ mo ∧ mo ≤ (1000000000 : Int)) := hy3
  rw [show y3 = true from hy3.trans (decide_eq_true (by omega))]
  refine zc_v (wr := [(x, .inr (10, [.ref ro, .ref rw, .ref bo, .ref li, .ref sh, .ref tx, .ref lo, .ref nl])), (rw, .inr (6, [.ref am, .ref q, .ref bq])), (am, zaL (G.2 0) 41 (fun _ => 0))]) (va_runS (As := [.int (iz (zbb true))]) (rest := []) ⟨hx, hb, hml, hown, hts⟩ (c_X9_demand_o l G   H.size) (va_cwS 1 hts gX9_payMany_X9_demand rfl rfl rfl (by decide +kernel) ⟨Nat.le_of_ble_eq_true rfl, Nat.le_of_ble_eq_true rfl⟩) (zpS hKX hP hD [] rfl rfl) rfl rfl hl.1 rfl (lv_room (Nat.le_of_ble_eq_true rfl)) dX9_payMany_34 ⟨(by first | exact Nat.le_of_ble_eq_true rfl | (show _ ≤ (1 : Nat); omega)), (by first | exact Nat.le_of_ble_eq_true rfl | (show _ ≤ (6 : Nat); omega))⟩) hP hD hS hA [] [0, 1, 2] rfl rfl rfl (by decide) (fun u_15 H locs hq_18 hP hD hS => ?_)
  have hP : va_P G.1 vwCl [(x, .inr (10, [.ref ro, .ref rw, .ref bo, .ref li, .ref sh, .ref tx, .ref lo, .ref nl])), (rw, .inr (6, [.ref am, .ref q, .ref bq])), (am, zaL (G.2 0) 41 (fun _ => 0))] H := hP
  have hD : va_D A [(x, .inr (10, [.ref ro, .ref rw, .ref bo, .ref li, .ref sh, .ref tx, .ref lo, .ref nl])), (rw, .inr (6, [.ref am, .ref q, .ref bq])), (am, zaL (G.2 0) 41 (fun _ => 0))] := hD
  refine lv_lload hx hb dX9_payMany_37 (lv_at hl 4 rfl) ?_
  refine zr_ldc2 (z := -1000000) hx hb hown (hts (.constantLong RX9 103 (-1000000)) (by decide +kernel)) rfl dX9_payMany_39 ?_
  refine zr_ldc2 (z := 1000000) hx hb hown (hts (.constantLong RX9 105 (1000000)) (by decide +kernel)) rfl dX9_payMany_42 ?_
  refine zc_z (wr := [(x, .inr (10, [.ref ro, .ref rw, .ref bo, .ref li, .ref sh, .ref tx, .ref lo, .ref nl])), (rw, .inr (6, [.ref am, .ref q, .ref bq])), (am, zaL (G.2 0) 41 (fun _ => 0))]) (va_runS (As := [.long (lz (se)), .long (lz (-1000000)), .long (lz (1000000))]) (rest := []) ⟨hx, hb, hml, hown, hts⟩ (c_X9_isWithin l G se (-1000000) 1000000 (by omega) (by omega) (by omega) H.size) (va_cwS 3 hts gX9_payMany_X9_isWithin rfl rfl rfl (by decide +kernel) ⟨Nat.le_of_ble_eq_true rfl, Nat.le_of_ble_eq_true rfl⟩) (zpS hKX hP hD [] rfl rfl) rfl rfl hl.1 rfl (lv_room (Nat.le_of_ble_eq_true rfl)) dX9_payMany_45 ⟨(by first | exact Nat.le_of_ble_eq_true rfl | (show _ ≤ (1 : Nat); omega)), (by first | exact Nat.le_of_ble_eq_true rfl | (show _ ≤ (6 : Nat); omega))⟩) hP hD hS hA [] [0, 1, 2] rfl rfl rfl (by decide) (fun y4 u_19 H locs hy4 hP hD hS => ?_)
  have hP : va_P G.1 vwCl [(x, .inr (10, [.ref ro, .ref rw, .ref bo, .ref li, .ref sh, .ref tx, .ref lo, .ref nl])), (rw, .inr (6, [.ref am, .ref q, .ref bq])), (am, zaL (G.2 0) 41 (fun _ => 0))] H := hP
  have hD : va_D A [(x, .inr (10, [.ref ro, .ref rw, .ref bo, .ref li, .ref sh, .ref tx, .ref lo, .ref nl])), (rw, .inr (6, [.ref am, .ref q, .ref bq])), (am, zaL (G.2 0) 41 (fun _ => 0))] := hD
  have hy4 : y4 = decide ((-1000000 : Int) ≤ se ∧ se ≤ (1000000 : Int)) := hy4
  rw [show y4 = true from hy4.trans (decide_eq_true (by omega))]
  refine zc_v (wr := [(x, .inr (10, [.ref ro, .ref rw, .ref bo, .ref li, .ref sh, .ref tx, .ref lo, .ref nl])), (rw, .inr (6, [.ref am, .ref q, .ref bq])), (am, zaL (G.2 0) 41 (fun _ => 0))]) (va_runS (As := [.int (iz (zbb true))]) (rest := []) ⟨hx, hb, hml, hown, hts⟩ (c_X9_demand_o l G   H.size) (va_cwS 1 hts gX9_payMany_X9_demand rfl rfl rfl (by decide +kernel) ⟨Nat.le_of_ble_eq_true rfl, Nat.le_of_ble_eq_true rfl⟩) (zpS hKX hP hD [] rfl rfl) rfl rfl hl.1 rfl (lv_room (Nat.le_of_ble_eq_true rfl)) dX9_payMany_48 ⟨(by first | exact Nat.le_of_ble_eq_true rfl | (show _ ≤ (1 : Nat); omega)), (by first | exact Nat.le_of_ble_eq_true rfl | (show _ ≤ (6 : Nat); omega))⟩) hP hD hS hA [] [0, 1, 2] rfl rfl rfl (by decide) (fun u_21 H locs hq_24 hP hD hS => ?_)
  have hP : va_P G.1 vwCl [(x, .inr (10, [.ref ro, .ref rw, .ref bo, .ref li, .ref sh, .ref tx, .ref lo, .ref nl])), (rw, .inr (6, [.ref am, .ref q, .ref bq])), (am, zaL (G.2 0) 41 (fun _ => 0))] H := hP
  have hD : va_D A [(x, .inr (10, [.ref ro, .ref rw, .ref bo, .ref li, .ref sh, .ref tx, .ref lo, .ref nl])), (rw, .inr (6, [.ref am, .ref q, .ref bq])), (am, zaL (G.2 0) 41 (fun _ => 0))] := hD
  refine lv_iload_n hx hb dX9_payMany_51 rfl (lv_at hl 1 rfl) ?_
  refine lv_iload_n hx hb dX9_payMany_52 rfl (lv_at hl 2 rfl) ?_
  refine zr_iadd hx hb dX9_payMany_53 ?_
  refine lv_iconst (v := iz (1)) hx hb dX9_payMany_54 rfl ?_
  refine zr_isub hx hb dX9_payMany_55 ?_
  refine lv_bipush (v := iz (40)) hx hb dX9_payMany_56 rfl ?_
  refine zr_icmp_gt (x := (fr + mn) - 1) (y := 40) (tgt := 65) hx hb (⟨by omega, by omega⟩) (⟨by omega, by omega⟩) dX9_payMany_58 (by decide) (fun h_25 => ?_) (fun h_25 => ?_)
  · exact absurd h_25 (by omega)
  ·
    refine lv_iconst (v := iz (1)) hx hb dX9_payMany_61 rfl ?_
    refine lv_goto (tgt := 66) hx hb dX9_payMany_62 (by decide) ?_
    refine zc_v (wr := [(x, .inr (10, [.ref ro, .ref rw, .ref bo, .ref li, .ref sh, .ref tx, .ref lo, .ref nl])), (rw, .inr (6, [.ref am, .ref q, .ref bq])), (am, zaL (G.2 0) 41 (fun _ => 0))]) (va_runS (As := [.int (iz (1))]) (rest := []) ⟨hx, hb, hml, hown, hts⟩ (c_X9_demand_o l G   H.size) (va_cwS 1 hts gX9_payMany_X9_demand rfl rfl rfl (by decide +kernel) ⟨Nat.le_of_ble_eq_true rfl, Nat.le_of_ble_eq_true rfl⟩) (zpS hKX hP hD [] rfl rfl) rfl rfl hl.1 rfl (lv_room (Nat.le_of_ble_eq_true rfl)) dX9_payMany_66 ⟨(by first | exact Nat.le_of_ble_eq_true rfl | (show _ ≤ (1 : Nat); omega)), (by first | exact Nat.le_of_ble_eq_true rfl | (show _ ≤ (6 : Nat); omega))⟩) hP hD hS hA [] [0, 1, 2] rfl rfl rfl (by decide) (fun u_26 H locs hq_29 hP hD hS => ?_)
    have hP : va_P G.1 vwCl [(x, .inr (10, [.ref ro, .ref rw, .ref bo, .ref li, .ref sh, .ref tx, .ref lo, .ref nl])), (rw, .inr (6, [.ref am, .ref q, .ref bq])), (am, zaL (G.2 0) 41 (fun _ => 0))] H := hP
    have hD : va_D A [(x, .inr (10, [.ref ro, .ref rw, .ref bo, .ref li, .ref sh, .ref tx, .ref lo, .ref nl])), (rw, .inr (6, [.ref am, .ref q, .ref bq])), (am, zaL (G.2 0) 41 (fun _ => 0))] := hD
    refine lv_aload_n hx hb dX9_payMany_69 rfl (lv_at hl 0 rfl) ?_
    refine va_get (D := G.1) (ci := 10) (v := .ref rw) (C := RX9) (T := TX9) (N := 8) hx hb hts iwX9 hown hK hP 0 rfl rfl 1 (by decide) (hts (.fieldLink RX9 19 "AnnuityHouse" "row" "LAnnuityHouse$Row;") (by decide +kernel)) (fun _ h9 => h9) rfl dX9_payMany_70 ?_
    refine lv_iload_n hx hb dX9_payMany_73 rfl (lv_at hl 1 rfl) ?_
    refine lv_iload_n hx hb dX9_payMany_74 rfl (lv_at hl 2 rfl) ?_
    refine lv_lload_n hx hb dX9_payMany_75 rfl (lv_at hl 3 rfl) ?_
    refine lv_lload hx hb dX9_payMany_76 (lv_at hl 4 rfl) ?_
    rw [hQ]
    exact zx_thr (X := "java/lang/IllegalStateException") (vx_runV (As := [.int (iz (fr)), .int (iz (mn)), .long (lz (mo)), .long (lz (se))]) (rest := []) ⟨hx, hb, hml, hown, hts⟩ (c_X5_add_x l G s1 s2 s3 rw am q bq fr mn mo se hl0 (by omega) (h2) H.size) (cwV 4 hts gX9_payMany_X5_add rfl rfl rfl (by decide +kernel) ⟨Nat.le_of_ble_eq_true rfl, Nat.le_of_ble_eq_true rfl⟩) (zpVe zXE_ok hE hS hA hKX hP hD [1, 2] rfl rfl (va_recv hK hP (ci := 6) (q0 := 1) rfl rfl)) rfl rfl hl.1 rfl (lv_room (Nat.le_of_ble_eq_true rfl)) dX9_payMany_78 ⟨(by first | exact Nat.le_of_ble_eq_true rfl | (show _ ≤ (1 : Nat); omega)), (by first | exact Nat.le_of_ble_eq_true rfl | (show _ ≤ (6 : Nat); omega))⟩) hS (va_free (wc := [(rw, .inr (6, [.ref am, .ref q, .ref bq])), (am, zaL (G.2 0) 41 (fun _ => 0))]) hD hS hA [1, 2] rfl) hout hlocks (by first | exact Nat.le_of_ble_eq_true rfl | omega) (by first | exact Nat.le_of_ble_eq_true rfl | omega)

def rm_c_X9_payMany_x : Room := { frames := 7, cells := 1, slots := 6, locals := 110 }
set_option maxHeartbeats 1000000 in
set_option maxRecDepth 100000 in
theorem c_X9_payMany_x (l : Launch) (G : zG) (s1 : Nat) (s2 : Nat) (s3 : Nat) (x : Nat) (ro : Nat) (rw : Nat) (bo : Nat) (li : Nat) (sh : Nat) (tx : Nat) (lo : Nat) (nl : Nat) (fr : Int) (mn : Int) (mo : Int) (se : Int) (hl0 : l.stackTraces = false) (h0 : -2147483648 ≤ fr ∧ fr < 2147483648) (h01 : -2147483648 ≤ mn ∧ mn < 2147483648) (h02 : -9223372036854775808 ≤ mo ∧ mo < 9223372036854775808) (h03 : -9223372036854775808 ≤ se ∧ se < 9223372036854775808) (h1 : ¬ (0 ≤ fr ∧ fr ≤ 40 ∧ 1 ≤ mn ∧ mn ≤ 41 ∧ -1000000000 ≤ mo ∧ mo ≤ 1000000000 ∧ -1000000 ≤ se ∧ se ≤ 1000000 ∧ fr + mn ≤ 41)) : zMx l (zXE s1 s2 s3) G yX9_payMany wsX9_payMany rm_c_X9_payMany_x [.ref x, .int (iz (fr)), .int (iz (mn)), .long (lz (mo)), .long (lz (se))] [(x, .inr (10, [.ref ro, .ref rw, .ref bo, .ref li, .ref sh, .ref tx, .ref lo, .ref nl]))] "java/lang/IllegalArgumentException" 1 6 := by
  refine zMx_of (cc := cX9_payMany) (maxL := 7) (ret := (some .int)) (by decide) rfl (Nat.le_of_ble_eq_true rfl) ?_
  intro p e s m below meth c ls A Q hQ hx hb hr hts hown hlocks hml hout hKX hE hP hD hA hS hl
  have hK := hKX.1
  obtain ⟨H, hH⟩ : ∃ h, h = s.heap := ⟨_, rfl⟩
  obtain ⟨locs, hlo⟩ : ∃ h : List Loc, h = [] := ⟨_, rfl⟩
  have hS : va_S A s.heap H locs := by rw [hH, hlo]; exact hS
  have hP : va_P G.1 vwCl [(x, .inr (10, [.ref ro, .ref rw, .ref bo, .ref li, .ref sh, .ref tx, .ref lo, .ref nl]))] H := by rw [hH]; exact hP
  have hD : va_D A [(x, .inr (10, [.ref ro, .ref rw, .ref bo, .ref li, .ref sh, .ref tx, .ref lo, .ref nl]))] := hD
  have hl : lv_has ls 7 [(0, .ref x), (1, .int (iz (fr))), (2, .int (iz (mn))), (3, .long (lz (mo))), (5, .long (lz (se)))] := hl
  rw [← hH, ← hlo]
  refine lv_iload_n hx hb dX9_payMany_0 rfl (lv_at hl 1 rfl) ?_
  refine zr_i2l hx hb (x := fr) (⟨by omega, by omega⟩) dX9_payMany_1 ?_
  refine lv_lconst (v := lz (0)) hx hb dX9_payMany_2 rfl ?_
  refine zr_ldc2 (z := 40) hx hb hown (hts (.constantLong RX9 87 (40)) (by decide +kernel)) rfl dX9_payMany_3 ?_
  refine zc_z (wr := [(x, .inr (10, [.ref ro, .ref rw, .ref bo, .ref li, .ref sh, .ref tx, .ref lo, .ref nl]))]) (va_runS (As := [.long (lz (fr)), .long (lz (0)), .long (lz (40))]) (rest := []) ⟨hx, hb, hml, hown, hts⟩ (c_X9_isWithin l G fr 0 40 (by omega) (by omega) (by omega) H.size) (va_cwS 3 hts gX9_payMany_X9_isWithin rfl rfl rfl (by decide +kernel) ⟨Nat.le_of_ble_eq_true rfl, Nat.le_of_ble_eq_true rfl⟩) (zpS hKX hP hD [] rfl rfl) rfl rfl hl.1 rfl (lv_room (Nat.le_of_ble_eq_true rfl)) dX9_payMany_6 ⟨(by first | exact Nat.le_of_ble_eq_true rfl | (show _ ≤ (1 : Nat); omega)), (by first | exact Nat.le_of_ble_eq_true rfl | (show _ ≤ (6 : Nat); omega))⟩) hP hD hS hA [] [0] rfl rfl rfl (by decide) (fun y1 u_1 H locs hy1 hP hD hS => ?_)
  have hP : va_P G.1 vwCl [(x, .inr (10, [.ref ro, .ref rw, .ref bo, .ref li, .ref sh, .ref tx, .ref lo, .ref nl]))] H := hP
  have hD : va_D A [(x, .inr (10, [.ref ro, .ref rw, .ref bo, .ref li, .ref sh, .ref tx, .ref lo, .ref nl]))] := hD
  have hy1 : y1 = decide ((0 : Int) ≤ fr ∧ fr ≤ (40 : Int)) := hy1
  rcases Bool.eq_false_or_eq_true y1 with hbt_y1 | hbt_y1
  ·
    rw [hbt_y1]
    have hzy1 := of_decide_eq_true (hy1.symm.trans hbt_y1)
    refine zc_v (wr := [(x, .inr (10, [.ref ro, .ref rw, .ref bo, .ref li, .ref sh, .ref tx, .ref lo, .ref nl]))]) (va_runS (As := [.int (iz (zbb true))]) (rest := []) ⟨hx, hb, hml, hown, hts⟩ (c_X9_demand_o l G   H.size) (va_cwS 1 hts gX9_payMany_X9_demand rfl rfl rfl (by decide +kernel) ⟨Nat.le_of_ble_eq_true rfl, Nat.le_of_ble_eq_true rfl⟩) (zpS hKX hP hD [] rfl rfl) rfl rfl hl.1 rfl (lv_room (Nat.le_of_ble_eq_true rfl)) dX9_payMany_9 ⟨(by first | exact Nat.le_of_ble_eq_true rfl | (show _ ≤ (1 : Nat); omega)), (by first | exact Nat.le_of_ble_eq_true rfl | (show _ ≤ (6 : Nat); omega))⟩) hP hD hS hA [] [0] rfl rfl rfl (by decide) (fun u_3 H locs hq_6 hP hD hS => ?_)
    have hP : va_P G.1 vwCl [(x, .inr (10, [.ref ro, .ref rw, .ref bo, .ref li, .ref sh, .ref tx, .ref lo, .ref nl]))] H := hP
    have hD : va_D A [(x, .inr (10, [.ref ro, .ref rw, .ref bo, .ref li, .ref sh, .ref tx, .ref lo, .ref nl]))] := hD
    refine lv_iload_n hx hb dX9_payMany_12 rfl (lv_at hl 2 rfl) ?_
    refine zr_i2l hx hb (x := mn) (⟨by omega, by omega⟩) dX9_payMany_13 ?_
    refine lv_lconst (v := lz (1)) hx hb dX9_payMany_14 rfl ?_
    refine zr_ldc2 (z := 41) hx hb hown (hts (.constantLong RX9 101 (41)) (by decide +kernel)) rfl dX9_payMany_15 ?_
    refine zc_z (wr := [(x, .inr (10, [.ref ro, .ref rw, .ref bo, .ref li, .ref sh, .ref tx, .ref lo, .ref nl]))]) (va_runS (As := [.long (lz (mn)), .long (lz (1)), .long (lz (41))]) (rest := []) ⟨hx, hb, hml, hown, hts⟩ (c_X9_isWithin l G mn 1 41 (by omega) (by omega) (by omega) H.size) (va_cwS 3 hts gX9_payMany_X9_isWithin rfl rfl rfl (by decide +kernel) ⟨Nat.le_of_ble_eq_true rfl, Nat.le_of_ble_eq_true rfl⟩) (zpS hKX hP hD [] rfl rfl) rfl rfl hl.1 rfl (lv_room (Nat.le_of_ble_eq_true rfl)) dX9_payMany_18 ⟨(by first | exact Nat.le_of_ble_eq_true rfl | (show _ ≤ (1 : Nat); omega)), (by first | exact Nat.le_of_ble_eq_true rfl | (show _ ≤ (6 : Nat); omega))⟩) hP hD hS hA [] [0] rfl rfl rfl (by decide) (fun y2 u_7 H locs hy2 hP hD hS => ?_)
    have hP : va_P G.1 vwCl [(x, .inr (10, [.ref ro, .ref rw, .ref bo, .ref li, .ref sh, .ref tx, .ref lo, .ref nl]))] H := hP
    have hD : va_D A [(x, .inr (10, [.ref ro, .ref rw, .ref bo, .ref li, .ref sh, .ref tx, .ref lo, .ref nl]))] := hD
    have hy2 : y2 = decide ((1 : Int) ≤ mn ∧ mn ≤ (41 : Int)) := hy2
    rcases Bool.eq_false_or_eq_true y2 with hbt_y2 | hbt_y2
    ·
      rw [hbt_y2]
      have hzy2 := of_decide_eq_true (hy2.symm.trans hbt_y2)
      refine zc_v (wr := [(x, .inr (10, [.ref ro, .ref rw, .ref bo, .ref li, .ref sh, .ref tx, .ref lo, .ref nl]))]) (va_runS (As := [.int (iz (zbb true))]) (rest := []) ⟨hx, hb, hml, hown, hts⟩ (c_X9_demand_o l G   H.size) (va_cwS 1 hts gX9_payMany_X9_demand rfl rfl rfl (by decide +kernel) ⟨Nat.le_of_ble_eq_true rfl, Nat.le_of_ble_eq_true rfl⟩) (zpS hKX hP hD [] rfl rfl) rfl rfl hl.1 rfl (lv_room (Nat.le_of_ble_eq_true rfl)) dX9_payMany_21 ⟨(by first | exact Nat.le_of_ble_eq_true rfl | (show _ ≤ (1 : Nat); omega)), (by first | exact Nat.le_of_ble_eq_true rfl | (show _ ≤ (6 : Nat); omega))⟩) hP hD hS hA [] [0] rfl rfl rfl (by decide) (fun u_9 H locs hq_12 hP hD hS => ?_)
      have hP : va_P G.1 vwCl [(x, .inr (10, [.ref ro, .ref rw, .ref bo, .ref li, .ref sh, .ref tx, .ref lo, .ref nl]))] H := hP
      have hD : va_D A [(x, .inr (10, [.ref ro, .ref rw, .ref bo, .ref li, .ref sh, .ref tx, .ref lo, .ref nl]))] := hD
      refine lv_lload_n hx hb dX9_payMany_24 rfl (lv_at hl 3 rfl) ?_
      refine zr_ldc2 (z := -1000000000) hx hb hown (hts (.constantLong RX9 89 (-1000000000)) (by decide +kernel)) rfl dX9_payMany_25 ?_
      refine zr_ldc2 (z := 1000000000) hx hb hown (hts (.constantLong RX9 91 (1000000000)) (by decide +kernel)) rfl dX9_payMany_28 ?_
      refine zc_z (wr := [(x, .inr (10, [.ref ro, .ref rw, .ref bo, .ref li, .ref sh, .ref tx, .ref lo, .ref nl]))]) (va_runS (As := [.long (lz (mo)), .long (lz (-1000000000)), .long (lz (1000000000))]) (rest := []) ⟨hx, hb, hml, hown, hts⟩ (c_X9_isWithin l G mo (-1000000000) 1000000000 (by omega) (by omega) (by omega) H.size) (va_cwS 3 hts gX9_payMany_X9_isWithin rfl rfl rfl (by decide +kernel) ⟨Nat.le_of_ble_eq_true rfl, Nat.le_of_ble_eq_true rfl⟩) (zpS hKX hP hD [] rfl rfl) rfl rfl hl.1 rfl (lv_room (Nat.le_of_ble_eq_true rfl)) dX9_payMany_31 ⟨(by first | exact Nat.le_of_ble_eq_true rfl | (show _ ≤ (1 : Nat); omega)), (by first | exact Nat.le_of_ble_eq_true rfl | (show _ ≤ (6 : Nat); omega))⟩) hP hD hS hA [] [0] rfl rfl rfl (by decide) (fun y3 u_13 H locs hy3 hP hD hS => ?_)
      have hP : va_P G.1 vwCl [(x, .inr (10, [.ref ro, .ref rw, .ref bo, .ref li, .ref sh, .ref tx, .ref lo, .ref nl]))] H := hP
      have hD : va_D A [(x, .inr (10, [.ref ro, .ref rw, .ref bo, .ref li, .ref sh, .ref tx, .ref lo, .ref nl]))] := hD
      have hy3 : y3 = decide ((-1000000000 : Int) ≤ mo ∧ mo ≤ (1000000000 : Int)) := hy3
      rcases Bool.eq_false_or_eq_true y3 with hbt_y3 | hbt_y3
      ·
        rw [hbt_y3]
        have hzy3 := of_decide_eq_true (hy3.symm.trans hbt_y3)
        refine zc_v (wr := [(x, .inr (10, [.ref ro, .ref rw, .ref bo, .ref li, .ref sh, .ref tx, .ref lo, .ref nl]))]) (va_runS (As := [.int (iz (zbb true))]) (rest := []) ⟨hx, hb, hml, hown, hts⟩ (c_X9_demand_o l G   H.size) (va_cwS 1 hts gX9_payMany_X9_demand rfl rfl rfl (by decide +kernel) ⟨Nat.le_of_ble_eq_true rfl, Nat.le_of_ble_eq_true rfl⟩) (zpS hKX hP hD [] rfl rfl) rfl rfl hl.1 rfl (lv_room (Nat.le_of_ble_eq_true rfl)) dX9_payMany_34 ⟨(by first | exact Nat.le_of_ble_eq_true rfl | (show _ ≤ (1 : Nat); omega)), (by first | exact Nat.le_of_ble_eq_true rfl | (show _ ≤ (6 : Nat); omega))⟩) hP hD hS hA [] [0] rfl rfl rfl (by decide) (fun u_15 H locs hq_18 hP hD hS => ?_)
        have hP : va_P G.1 vwCl [(x, .inr (10, [.ref ro, .ref rw, .ref bo, .ref li, .ref sh, .ref tx, .ref lo, .ref nl]))] H := hP
        have hD : va_D A [(x, .inr (10, [.ref ro, .ref rw, .ref bo, .ref li, .ref sh, .ref tx, .ref lo, .ref nl]))] := hD
        refine lv_lload hx hb dX9_payMany_37 (lv_at hl 4 rfl) ?_
        refine zr_ldc2 (z := -1000000) hx hb hown (hts (.constantLong RX9 103 (-1000000)) (by decide +kernel)) rfl dX9_payMany_39 ?_
        refine zr_ldc2 (z := 1000000) hx hb hown (hts (.constantLong RX9 105 (1000000)) (by decide +kernel)) rfl dX9_payMany_42 ?_
        refine zc_z (wr := [(x, .inr (10, [.ref ro, .ref rw, .ref bo, .ref li, .ref sh, .ref tx, .ref lo, .ref nl]))]) (va_runS (As := [.long (lz (se)), .long (lz (-1000000)), .long (lz (1000000))]) (rest := []) ⟨hx, hb, hml, hown, hts⟩ (c_X9_isWithin l G se (-1000000) 1000000 (by omega) (by omega) (by omega) H.size) (va_cwS 3 hts gX9_payMany_X9_isWithin rfl rfl rfl (by decide +kernel) ⟨Nat.le_of_ble_eq_true rfl, Nat.le_of_ble_eq_true rfl⟩) (zpS hKX hP hD [] rfl rfl) rfl rfl hl.1 rfl (lv_room (Nat.le_of_ble_eq_true rfl)) dX9_payMany_45 ⟨(by first | exact Nat.le_of_ble_eq_true rfl | (show _ ≤ (1 : Nat); omega)), (by first | exact Nat.le_of_ble_eq_true rfl | (show _ ≤ (6 : Nat); omega))⟩) hP hD hS hA [] [0] rfl rfl rfl (by decide) (fun y4 u_19 H locs hy4 hP hD hS => ?_)
        have hP : va_P G.1 vwCl [(x, .inr (10, [.ref ro, .ref rw, .ref bo, .ref li, .ref sh, .ref tx, .ref lo, .ref nl]))] H := hP
        have hD : va_D A [(x, .inr (10, [.ref ro, .ref rw, .ref bo, .ref li, .ref sh, .ref tx, .ref lo, .ref nl]))] := hD
        have hy4 : y4 = decide ((-1000000 : Int) ≤ se ∧ se ≤ (1000000 : Int)) := hy4
        rcases Bool.eq_false_or_eq_true y4 with hbt_y4 | hbt_y4
        ·
          rw [hbt_y4]
          have hzy4 := of_decide_eq_true (hy4.symm.trans hbt_y4)
          refine zc_v (wr := [(x, .inr (10, [.ref ro, .ref rw, .ref bo, .ref li, .ref sh, .ref tx, .ref lo, .ref nl]))]) (va_runS (As := [.int (iz (zbb true))]) (rest := []) ⟨hx, hb, hml, hown, hts⟩ (c_X9_demand_o l G   H.size) (va_cwS 1 hts gX9_payMany_X9_demand rfl rfl rfl (by decide +kernel) ⟨Nat.le_of_ble_eq_true rfl, Nat.le_of_ble_eq_true rfl⟩) (zpS hKX hP hD [] rfl rfl) rfl rfl hl.1 rfl (lv_room (Nat.le_of_ble_eq_true rfl)) dX9_payMany_48 ⟨(by first | exact Nat.le_of_ble_eq_true rfl | (show _ ≤ (1 : Nat); omega)), (by first | exact Nat.le_of_ble_eq_true rfl | (show _ ≤ (6 : Nat); omega))⟩) hP hD hS hA [] [0] rfl rfl rfl (by decide) (fun u_21 H locs hq_24 hP hD hS => ?_)
          have hP : va_P G.1 vwCl [(x, .inr (10, [.ref ro, .ref rw, .ref bo, .ref li, .ref sh, .ref tx, .ref lo, .ref nl]))] H := hP
          have hD : va_D A [(x, .inr (10, [.ref ro, .ref rw, .ref bo, .ref li, .ref sh, .ref tx, .ref lo, .ref nl]))] := hD
          refine lv_iload_n hx hb dX9_payMany_51 rfl (lv_at hl 1 rfl) ?_
          refine lv_iload_n hx hb dX9_payMany_52 rfl (lv_at hl 2 rfl) ?_
          refine zr_iadd hx hb dX9_payMany_53 ?_
          refine lv_iconst (v := iz (1)) hx hb dX9_payMany_54 rfl ?_
          refine zr_isub hx hb dX9_payMany_55 ?_
          refine lv_bipush (v := iz (40)) hx hb dX9_payMany_56 rfl ?_
          refine zr_icmp_gt (x := (fr + mn) - 1) (y := 40) (tgt := 65) hx hb (⟨by omega, by omega⟩) (⟨by omega, by omega⟩) dX9_payMany_58 (by decide) (fun h_25 => ?_) (fun h_25 => ?_)
          ·
            refine lv_iconst (v := iz (0)) hx hb dX9_payMany_65 rfl ?_
            rw [hQ]
            exact zx_thr (X := "java/lang/IllegalArgumentException") (vx_runS (As := [.int (iz (0))]) (rest := []) ⟨hx, hb, hml, hown, hts⟩ (c_X9_demand_x l G s1 s2 s3 hl0 H.size) (va_cwS 1 hts gX9_payMany_X9_demand rfl rfl rfl (by decide +kernel) ⟨Nat.le_of_ble_eq_true rfl, Nat.le_of_ble_eq_true rfl⟩) (zpSe zXE_ok hE hS hA hKX hP hD [] rfl rfl) rfl rfl hl.1 rfl (lv_room (Nat.le_of_ble_eq_true rfl)) dX9_payMany_66 ⟨(by first | exact Nat.le_of_ble_eq_true rfl | (show _ ≤ (1 : Nat); omega)), (by first | exact Nat.le_of_ble_eq_true rfl | (show _ ≤ (6 : Nat); omega))⟩) hS (va_free (wc := []) hD hS hA [] rfl) hout hlocks (by first | exact Nat.le_of_ble_eq_true rfl | omega) (by first | exact Nat.le_of_ble_eq_true rfl | omega)
          ·
            refine lv_iconst (v := iz (1)) hx hb dX9_payMany_61 rfl ?_
            refine lv_goto (tgt := 66) hx hb dX9_payMany_62 (by decide) ?_
            refine zc_v (wr := [(x, .inr (10, [.ref ro, .ref rw, .ref bo, .ref li, .ref sh, .ref tx, .ref lo, .ref nl]))]) (va_runS (As := [.int (iz (1))]) (rest := []) ⟨hx, hb, hml, hown, hts⟩ (c_X9_demand_o l G   H.size) (va_cwS 1 hts gX9_payMany_X9_demand rfl rfl rfl (by decide +kernel) ⟨Nat.le_of_ble_eq_true rfl, Nat.le_of_ble_eq_true rfl⟩) (zpS hKX hP hD [] rfl rfl) rfl rfl hl.1 rfl (lv_room (Nat.le_of_ble_eq_true rfl)) dX9_payMany_66 ⟨(by first | exact Nat.le_of_ble_eq_true rfl | (show _ ≤ (1 : Nat); omega)), (by first | exact Nat.le_of_ble_eq_true rfl | (show _ ≤ (6 : Nat); omega))⟩) hP hD hS hA [] [0] rfl rfl rfl (by decide) (fun u_26 H locs hq_29 hP hD hS => ?_)
            have hP : va_P G.1 vwCl [(x, .inr (10, [.ref ro, .ref rw, .ref bo, .ref li, .ref sh, .ref tx, .ref lo, .ref nl]))] H := hP
            have hD : va_D A [(x, .inr (10, [.ref ro, .ref rw, .ref bo, .ref li, .ref sh, .ref tx, .ref lo, .ref nl]))] := hD
            exact absurd h1 (by omega)
        ·
          rw [hbt_y4]
          have hzy4 := of_decide_eq_false (hy4.symm.trans hbt_y4)
          rw [hQ]
          exact zx_thr (X := "java/lang/IllegalArgumentException") (vx_runS (As := [.int (iz (zbb false))]) (rest := []) ⟨hx, hb, hml, hown, hts⟩ (c_X9_demand_x l G s1 s2 s3 hl0 H.size) (va_cwS 1 hts gX9_payMany_X9_demand rfl rfl rfl (by decide +kernel) ⟨Nat.le_of_ble_eq_true rfl, Nat.le_of_ble_eq_true rfl⟩) (zpSe zXE_ok hE hS hA hKX hP hD [] rfl rfl) rfl rfl hl.1 rfl (lv_room (Nat.le_of_ble_eq_true rfl)) dX9_payMany_48 ⟨(by first | exact Nat.le_of_ble_eq_true rfl | (show _ ≤ (1 : Nat); omega)), (by first | exact Nat.le_of_ble_eq_true rfl | (show _ ≤ (6 : Nat); omega))⟩) hS (va_free (wc := []) hD hS hA [] rfl) hout hlocks (by first | exact Nat.le_of_ble_eq_true rfl | omega) (by first | exact Nat.le_of_ble_eq_true rfl | omega)
      ·
        rw [hbt_y3]
        have hzy3 := of_decide_eq_false (hy3.symm.trans hbt_y3)
        rw [hQ]
        exact zx_thr (X := "java/lang/IllegalArgumentException") (vx_runS (As := [.int (iz (zbb false))]) (rest := []) ⟨hx, hb, hml, hown, hts⟩ (c_X9_demand_x l G s1 s2 s3 hl0 H.size) (va_cwS 1 hts gX9_payMany_X9_demand rfl rfl rfl (by decide +kernel) ⟨Nat.le_of_ble_eq_true rfl, Nat.le_of_ble_eq_true rfl⟩) (zpSe zXE_ok hE hS hA hKX hP hD [] rfl rfl) rfl rfl hl.1 rfl (lv_room (Nat.le_of_ble_eq_true rfl)) dX9_payMany_34 ⟨(by first | exact Nat.le_of_ble_eq_true rfl | (show _ ≤ (1 : Nat); omega)), (by first | exact Nat.le_of_ble_eq_true rfl | (show _ ≤ (6 : Nat); omega))⟩) hS (va_free (wc := []) hD hS hA [] rfl) hout hlocks (by first | exact Nat.le_of_ble_eq_true rfl | omega) (by first | exact Nat.le_of_ble_eq_true rfl | omega)
    ·
      rw [hbt_y2]
      have hzy2 := of_decide_eq_false (hy2.symm.trans hbt_y2)
      rw [hQ]
      exact zx_thr (X := "java/lang/IllegalArgumentException") (vx_runS (As := [.int (iz (zbb false))]) (rest := []) ⟨hx, hb, hml, hown, hts⟩ (c_X9_demand_x l G s1 s2 s3 hl0 H.size) (va_cwS 1 hts gX9_payMany_X9_demand rfl rfl rfl (by decide +kernel) ⟨Nat.le_of_ble_eq_true rfl, Nat.le_of_ble_eq_true rfl⟩) (zpSe zXE_ok hE hS hA hKX hP hD [] rfl rfl) rfl rfl hl.1 rfl (lv_room (Nat.le_of_ble_eq_true rfl)) dX9_payMany_21 ⟨(by first | exact Nat.le_of_ble_eq_true rfl | (show _ ≤ (1 : Nat); omega)), (by first | exact Nat.le_of_ble_eq_true rfl | (show _ ≤ (6 : Nat); omega))⟩) hS (va_free (wc := []) hD hS hA [] rfl) hout hlocks (by first | exact Nat.le_of_ble_eq_true rfl | omega) (by first | exact Nat.le_of_ble_eq_true rfl | omega)
  ·
    rw [hbt_y1]
    have hzy1 := of_decide_eq_false (hy1.symm.trans hbt_y1)
    rw [hQ]
    exact zx_thr (X := "java/lang/IllegalArgumentException") (vx_runS (As := [.int (iz (zbb false))]) (rest := []) ⟨hx, hb, hml, hown, hts⟩ (c_X9_demand_x l G s1 s2 s3 hl0 H.size) (va_cwS 1 hts gX9_payMany_X9_demand rfl rfl rfl (by decide +kernel) ⟨Nat.le_of_ble_eq_true rfl, Nat.le_of_ble_eq_true rfl⟩) (zpSe zXE_ok hE hS hA hKX hP hD [] rfl rfl) rfl rfl hl.1 rfl (lv_room (Nat.le_of_ble_eq_true rfl)) dX9_payMany_9 ⟨(by first | exact Nat.le_of_ble_eq_true rfl | (show _ ≤ (1 : Nat); omega)), (by first | exact Nat.le_of_ble_eq_true rfl | (show _ ≤ (6 : Nat); omega))⟩) hS (va_free (wc := []) hD hS hA [] rfl) hout hlocks (by first | exact Nat.le_of_ble_eq_true rfl | omega) (by first | exact Nat.le_of_ble_eq_true rfl | omega)

def rm_c_X9_clearRow : Room := { frames := 2, cells := 0, slots := 0, locals := 44 }
theorem iw_X9_clearRow_X9 : ∀ w ∈ wsX90, w ∈ wsX9_clearRow := by decide +kernel
set_option maxHeartbeats 1000000 in
set_option maxRecDepth 100000 in
theorem c_X9_clearRow (l : Launch) (G : zG) (x : Nat) (ro : Nat) (rw : Nat) (bo : Nat) (li : Nat) (sh : Nat) (tx : Nat) (lo : Nat) (nl : Nat) (am : Nat) (q : Nat) (bq : Nat)  : zM l G yX9_clearRow wsX9_clearRow rm_c_X9_clearRow [.ref x] [(x, .inr (10, [.ref ro, .ref rw, .ref bo, .ref li, .ref sh, .ref tx, .ref lo, .ref nl])), (rw, .inr (6, [.ref am, .ref q, .ref bq])), (am, zaL (G.2 0) 41 (fun _ => 0))] (fun A => zQi G (fun (z : Int) (f2 : (Int → Int)) => z = 0) (fun (f2 : (Int → Int)) => [(x, .inr (10, [.ref ro, .ref rw, .ref bo, .ref li, .ref sh, .ref tx, .ref lo, .ref nl])), (rw, .inr (6, [.ref am, .ref q, .ref bq])), (am, zaL (G.2 0) 41 (f2))]) A) 0 0 := by
  refine zM_of (cc := cX9_clearRow) (maxL := 2) (ret := (some .int)) (by decide) rfl (Nat.le_of_ble_eq_true rfl) ?_
  intro p e s m below meth c ls A Q hQ hx hb hr hts hown hlocks hml hnm hKX hP hD hA hS hl
  have hK := hKX.1
  have iwX9 := iw_X9_clearRow_X9
  obtain ⟨H, hH⟩ : ∃ h, h = s.heap := ⟨_, rfl⟩
  obtain ⟨locs, hlo⟩ : ∃ h : List Loc, h = [] := ⟨_, rfl⟩
  have hS : va_S A s.heap H locs := by rw [hH, hlo]; exact hS
  have hP : va_P G.1 vwCl [(x, .inr (10, [.ref ro, .ref rw, .ref bo, .ref li, .ref sh, .ref tx, .ref lo, .ref nl])), (rw, .inr (6, [.ref am, .ref q, .ref bq])), (am, zaL (G.2 0) 41 (fun _ => 0))] H := by rw [hH]; exact hP
  have hD : va_D A [(x, .inr (10, [.ref ro, .ref rw, .ref bo, .ref li, .ref sh, .ref tx, .ref lo, .ref nl])), (rw, .inr (6, [.ref am, .ref q, .ref bq])), (am, zaL (G.2 0) 41 (fun _ => 0))] := hD
  have hl : lv_has ls 2 [(0, .ref x)] := hl
  rw [← hH, ← hlo]
  refine lv_aload_n hx hb dX9_clearRow_0 rfl (lv_at hl 0 rfl) ?_
  refine va_get (D := G.1) (ci := 10) (v := .ref rw) (C := RX9) (T := TX9) (N := 8) hx hb hts iwX9 hown hK hP 0 rfl rfl 1 (by decide) (hts (.fieldLink RX9 19 "AnnuityHouse" "row" "LAnnuityHouse$Row;") (by decide +kernel)) (fun _ h9 => h9) rfl dX9_clearRow_1 ?_
  refine zc_i (wr := [(x, .inr (10, [.ref ro, .ref rw, .ref bo, .ref li, .ref sh, .ref tx, .ref lo, .ref nl]))]) (va_runV (As := []) (rest := []) ⟨hx, hb, hml, hown, hts⟩ (c_X5_countPaying l G rw am q bq (fun _ => 0) (fun _ => ⟨by decide, by decide⟩) H.size) (cwV 0 hts gX9_clearRow_X5_countPaying rfl rfl rfl (by decide +kernel) ⟨Nat.le_of_ble_eq_true rfl, Nat.le_of_ble_eq_true rfl⟩) (zpV hKX hP hD [1, 2] rfl rfl 1 6 rfl rfl) rfl rfl hl.1 rfl (lv_room (Nat.le_of_ble_eq_true rfl)) dX9_clearRow_4 ⟨(by first | exact Nat.le_of_ble_eq_true rfl | (show _ ≤ (0 : Nat); omega)), (by first | exact Nat.le_of_ble_eq_true rfl | (show _ ≤ (0 : Nat); omega))⟩) hP hD hS hA [1, 2] [0] rfl rfl rfl (by decide) (fun zz u_1 H locs hz hP hD hS => ?_)
  have hP : va_P G.1 vwCl [(x, .inr (10, [.ref ro, .ref rw, .ref bo, .ref li, .ref sh, .ref tx, .ref lo, .ref nl])), (rw, .inr (6, [.ref am, .ref q, .ref bq])), (am, zaL (G.2 0) 41 ((fun _ => 0)))] H := hP
  have hD : va_D A [(x, .inr (10, [.ref ro, .ref rw, .ref bo, .ref li, .ref sh, .ref tx, .ref lo, .ref nl])), (rw, .inr (6, [.ref am, .ref q, .ref bq])), (am, zaL (G.2 0) 41 ((fun _ => 0)))] := hD
  have hz : zz = zcnt (fun _ => 0) 41 := hz
  refine lv_istore_n (lv' := [(1, .int (iz (zz))), (0, .ref x)]) hx hb dX9_clearRow_7 rfl hl (by decide) rfl (fun ls hl => ?_)
  refine lv_aload_n hx hb dX9_clearRow_8 rfl (lv_at hl 1 rfl) ?_
  refine va_get (D := G.1) (ci := 10) (v := .ref rw) (C := RX9) (T := TX9) (N := 8) hx hb hts iwX9 hown hK hP 0 rfl rfl 1 (by decide) (hts (.fieldLink RX9 19 "AnnuityHouse" "row" "LAnnuityHouse$Row;") (by decide +kernel)) (fun _ h9 => h9) rfl dX9_clearRow_9 ?_
  refine zc_v (wr := [(x, .inr (10, [.ref ro, .ref rw, .ref bo, .ref li, .ref sh, .ref tx, .ref lo, .ref nl]))]) (va_runV (As := []) (rest := []) ⟨hx, hb, hml, hown, hts⟩ (c_X5_clear l G rw am q bq (fun _ => 0)  H.size) (cwV 0 hts gX9_clearRow_X5_clear rfl rfl rfl (by decide +kernel) ⟨Nat.le_of_ble_eq_true rfl, Nat.le_of_ble_eq_true rfl⟩) (zpV hKX hP hD [1, 2] rfl rfl 1 6 rfl rfl) rfl rfl hl.1 rfl (lv_room (Nat.le_of_ble_eq_true rfl)) dX9_clearRow_12 ⟨(by first | exact Nat.le_of_ble_eq_true rfl | (show _ ≤ (0 : Nat); omega)), (by first | exact Nat.le_of_ble_eq_true rfl | (show _ ≤ (0 : Nat); omega))⟩) hP hD hS hA [1, 2] [0] rfl rfl rfl (by decide) (fun u_3 H locs t1 hP hD hS => ?_)
  generalize u_3 = f2 at hP hD t1
  have hP : va_P G.1 vwCl [(x, .inr (10, [.ref ro, .ref rw, .ref bo, .ref li, .ref sh, .ref tx, .ref lo, .ref nl])), (rw, .inr (6, [.ref am, .ref q, .ref bq])), (am, zaL (G.2 0) 41 (f2))] H := hP
  have hD : va_D A [(x, .inr (10, [.ref ro, .ref rw, .ref bo, .ref li, .ref sh, .ref tx, .ref lo, .ref nl])), (rw, .inr (6, [.ref am, .ref q, .ref bq])), (am, zaL (G.2 0) 41 (f2))] := hD
  refine lv_iload_n hx hb dX9_clearRow_15 rfl (lv_at hl 0 rfl) ?_
  rw [hQ]
  exact zr_iret (z := zz) (u := (f2)) hx hb hr hlocks hP hD hS (by first | exact Nat.le_of_ble_eq_true rfl | omega) (by first | exact Nat.le_of_ble_eq_true rfl | omega) dX9_clearRow_16 (show zz = 0 from hz.trans (by decide +kernel))

def rm_c_X9_amount_o : Room := { frames := 1, cells := 0, slots := 0, locals := 25 }
theorem iw_X9_amount_X9 : ∀ w ∈ wsX90, w ∈ wsX9_amount := by decide +kernel
set_option maxHeartbeats 1000000 in
set_option maxRecDepth 100000 in
theorem c_X9_amount_o (l : Launch) (G : zG) (x : Nat) (ro : Nat) (rw : Nat) (bo : Nat) (li : Nat) (sh : Nat) (tx : Nat) (lo : Nat) (nl : Nat) (am : Nat) (q : Nat) (bq : Nat) (pe : Int) (h0 : -2147483648 ≤ pe ∧ pe < 2147483648) (h1 : 0 ≤ pe ∧ pe ≤ 40) : zM l G yX9_amount wsX9_amount rm_c_X9_amount_o [.ref x, .int (iz (pe))] [(x, .inr (10, [.ref ro, .ref rw, .ref bo, .ref li, .ref sh, .ref tx, .ref lo, .ref nl])), (rw, .inr (6, [.ref am, .ref q, .ref bq])), (am, zaL (G.2 0) 41 (fun _ => 0))] (fun A => zQl G (fun (z : Int) (_ : Unit) => z = 0) (fun (_ : Unit) => [(x, .inr (10, [.ref ro, .ref rw, .ref bo, .ref li, .ref sh, .ref tx, .ref lo, .ref nl])), (rw, .inr (6, [.ref am, .ref q, .ref bq])), (am, zaL (G.2 0) 41 (fun _ => 0))]) A) 0 0 := by
  refine zM_of (cc := cX9_amount) (maxL := 2) (ret := (some .long)) (by decide) rfl (Nat.le_of_ble_eq_true rfl) ?_
  intro p e s m below meth c ls A Q hQ hx hb hr hts hown hlocks hml hnm hKX hP hD hA hS hl
  have hK := hKX.1
  have iwX9 := iw_X9_amount_X9
  obtain ⟨H, hH⟩ : ∃ h, h = s.heap := ⟨_, rfl⟩
  obtain ⟨locs, hlo⟩ : ∃ h : List Loc, h = [] := ⟨_, rfl⟩
  have hS : va_S A s.heap H locs := by rw [hH, hlo]; exact hS
  have hP : va_P G.1 vwCl [(x, .inr (10, [.ref ro, .ref rw, .ref bo, .ref li, .ref sh, .ref tx, .ref lo, .ref nl])), (rw, .inr (6, [.ref am, .ref q, .ref bq])), (am, zaL (G.2 0) 41 (fun _ => 0))] H := by rw [hH]; exact hP
  have hD : va_D A [(x, .inr (10, [.ref ro, .ref rw, .ref bo, .ref li, .ref sh, .ref tx, .ref lo, .ref nl])), (rw, .inr (6, [.ref am, .ref q, .ref bq])), (am, zaL (G.2 0) 41 (fun _ => 0))] := hD
  have hl : lv_has ls 2 [(0, .ref x), (1, .int (iz (pe)))] := hl
  rw [← hH, ← hlo]
  refine lv_iload_n hx hb dX9_amount_0 rfl (lv_at hl 1 rfl) ?_
  refine zr_i2l hx hb (x := pe) (⟨by omega, by omega⟩) dX9_amount_1 ?_
  refine lv_lconst (v := lz (0)) hx hb dX9_amount_2 rfl ?_
  refine zr_ldc2 (z := 40) hx hb hown (hts (.constantLong RX9 87 (40)) (by decide +kernel)) rfl dX9_amount_3 ?_
  refine zc_z (wr := [(x, .inr (10, [.ref ro, .ref rw, .ref bo, .ref li, .ref sh, .ref tx, .ref lo, .ref nl])), (rw, .inr (6, [.ref am, .ref q, .ref bq])), (am, zaL (G.2 0) 41 (fun _ => 0))]) (va_runS (As := [.long (lz (pe)), .long (lz (0)), .long (lz (40))]) (rest := []) ⟨hx, hb, hml, hown, hts⟩ (c_X9_isWithin l G pe 0 40 (by omega) (by omega) (by omega) H.size) (va_cwS 3 hts gX9_amount_X9_isWithin rfl rfl rfl (by decide +kernel) ⟨Nat.le_of_ble_eq_true rfl, Nat.le_of_ble_eq_true rfl⟩) (zpS hKX hP hD [] rfl rfl) rfl rfl hl.1 rfl (lv_room (Nat.le_of_ble_eq_true rfl)) dX9_amount_6 ⟨(by first | exact Nat.le_of_ble_eq_true rfl | (show _ ≤ (0 : Nat); omega)), (by first | exact Nat.le_of_ble_eq_true rfl | (show _ ≤ (0 : Nat); omega))⟩) hP hD hS hA [] [0, 1, 2] rfl rfl rfl (by decide) (fun y1 u_1 H locs hy1 hP hD hS => ?_)
  have hP : va_P G.1 vwCl [(x, .inr (10, [.ref ro, .ref rw, .ref bo, .ref li, .ref sh, .ref tx, .ref lo, .ref nl])), (rw, .inr (6, [.ref am, .ref q, .ref bq])), (am, zaL (G.2 0) 41 (fun _ => 0))] H := hP
  have hD : va_D A [(x, .inr (10, [.ref ro, .ref rw, .ref bo, .ref li, .ref sh, .ref tx, .ref lo, .ref nl])), (rw, .inr (6, [.ref am, .ref q, .ref bq])), (am, zaL (G.2 0) 41 (fun _ => 0))] := hD
  have hy1 : y1 = decide ((0 : Int) ≤ pe ∧ pe ≤ (40 : Int)) := hy1
  rw [show y1 = true from hy1.trans (decide_eq_true (by omega))]
  refine zc_v (wr := [(x, .inr (10, [.ref ro, .ref rw, .ref bo, .ref li, .ref sh, .ref tx, .ref lo, .ref nl])), (rw, .inr (6, [.ref am, .ref q, .ref bq])), (am, zaL (G.2 0) 41 (fun _ => 0))]) (va_runS (As := [.int (iz (zbb true))]) (rest := []) ⟨hx, hb, hml, hown, hts⟩ (c_X9_demand_o l G   H.size) (va_cwS 1 hts gX9_amount_X9_demand rfl rfl rfl (by decide +kernel) ⟨Nat.le_of_ble_eq_true rfl, Nat.le_of_ble_eq_true rfl⟩) (zpS hKX hP hD [] rfl rfl) rfl rfl hl.1 rfl (lv_room (Nat.le_of_ble_eq_true rfl)) dX9_amount_9 ⟨(by first | exact Nat.le_of_ble_eq_true rfl | (show _ ≤ (0 : Nat); omega)), (by first | exact Nat.le_of_ble_eq_true rfl | (show _ ≤ (0 : Nat); omega))⟩) hP hD hS hA [] [0, 1, 2] rfl rfl rfl (by decide) (fun u_3 H locs hq_6 hP hD hS => ?_)
  have hP : va_P G.1 vwCl [(x, .inr (10, [.ref ro, .ref rw, .ref bo, .ref li, .ref sh, .ref tx, .ref lo, .ref nl])), (rw, .inr (6, [.ref am, .ref q, .ref bq])), (am, zaL (G.2 0) 41 (fun _ => 0))] H := hP
  have hD : va_D A [(x, .inr (10, [.ref ro, .ref rw, .ref bo, .ref li, .ref sh, .ref tx, .ref lo, .ref nl])), (rw, .inr (6, [.ref am, .ref q, .ref bq])), (am, zaL (G.2 0) 41 (fun _ => 0))] := hD
  refine lv_aload_n hx hb dX9_amount_12 rfl (lv_at hl 0 rfl) ?_
  refine va_get (D := G.1) (ci := 10) (v := .ref rw) (C := RX9) (T := TX9) (N := 8) hx hb hts iwX9 hown hK hP 0 rfl rfl 1 (by decide) (hts (.fieldLink RX9 19 "AnnuityHouse" "row" "LAnnuityHouse$Row;") (by decide +kernel)) (fun _ h9 => h9) rfl dX9_amount_13 ?_
  refine lv_iload_n hx hb dX9_amount_16 rfl (lv_at hl 1 rfl) ?_
  refine zc_l (wr := [(x, .inr (10, [.ref ro, .ref rw, .ref bo, .ref li, .ref sh, .ref tx, .ref lo, .ref nl]))]) (va_runV (As := [.int (iz (pe))]) (rest := []) ⟨hx, hb, hml, hown, hts⟩ (c_X5_amountIn l G rw am q bq (fun _ => 0) pe (by omega) H.size) (cwV 1 hts gX9_amount_X5_amountIn rfl rfl rfl (by decide +kernel) ⟨Nat.le_of_ble_eq_true rfl, Nat.le_of_ble_eq_true rfl⟩) (zpV hKX hP hD [1, 2] rfl rfl 1 6 rfl rfl) rfl rfl hl.1 rfl (lv_room (Nat.le_of_ble_eq_true rfl)) dX9_amount_17 ⟨(by first | exact Nat.le_of_ble_eq_true rfl | (show _ ≤ (0 : Nat); omega)), (by first | exact Nat.le_of_ble_eq_true rfl | (show _ ≤ (0 : Nat); omega))⟩) hP hD hS hA [1, 2] [0] rfl rfl rfl (by decide) (fun zz u_7 H locs hz hP hD hS => ?_)
  have hP : va_P G.1 vwCl [(x, .inr (10, [.ref ro, .ref rw, .ref bo, .ref li, .ref sh, .ref tx, .ref lo, .ref nl])), (rw, .inr (6, [.ref am, .ref q, .ref bq])), (am, zaL (G.2 0) 41 ((fun _ => 0)))] H := hP
  have hD : va_D A [(x, .inr (10, [.ref ro, .ref rw, .ref bo, .ref li, .ref sh, .ref tx, .ref lo, .ref nl])), (rw, .inr (6, [.ref am, .ref q, .ref bq])), (am, zaL (G.2 0) 41 ((fun _ => 0)))] := hD
  have hz : zz = (fun _ => 0) pe := hz
  rw [hQ]
  exact zr_lret (z := zz) (u := ()) hx hb hr hlocks hP hD hS (by first | exact Nat.le_of_ble_eq_true rfl | omega) (by first | exact Nat.le_of_ble_eq_true rfl | omega) dX9_amount_20 (show zz = 0 from hz)

def rm_c_X9_amount_x : Room := { frames := 7, cells := 1, slots := 6, locals := 110 }
set_option maxHeartbeats 1000000 in
set_option maxRecDepth 100000 in
theorem c_X9_amount_x (l : Launch) (G : zG) (s1 : Nat) (s2 : Nat) (s3 : Nat) (x : Nat) (ro : Nat) (rw : Nat) (bo : Nat) (li : Nat) (sh : Nat) (tx : Nat) (lo : Nat) (nl : Nat) (pe : Int) (hl0 : l.stackTraces = false) (h0 : -2147483648 ≤ pe ∧ pe < 2147483648) (h1 : ¬ (0 ≤ pe ∧ pe ≤ 40)) : zMx l (zXE s1 s2 s3) G yX9_amount wsX9_amount rm_c_X9_amount_x [.ref x, .int (iz (pe))] [(x, .inr (10, [.ref ro, .ref rw, .ref bo, .ref li, .ref sh, .ref tx, .ref lo, .ref nl]))] "java/lang/IllegalArgumentException" 1 6 := by
  refine zMx_of (cc := cX9_amount) (maxL := 2) (ret := (some .long)) (by decide) rfl (Nat.le_of_ble_eq_true rfl) ?_
  intro p e s m below meth c ls A Q hQ hx hb hr hts hown hlocks hml hout hKX hE hP hD hA hS hl
  have hK := hKX.1
  obtain ⟨H, hH⟩ : ∃ h, h = s.heap := ⟨_, rfl⟩
  obtain ⟨locs, hlo⟩ : ∃ h : List Loc, h = [] := ⟨_, rfl⟩
  have hS : va_S A s.heap H locs := by rw [hH, hlo]; exact hS
  have hP : va_P G.1 vwCl [(x, .inr (10, [.ref ro, .ref rw, .ref bo, .ref li, .ref sh, .ref tx, .ref lo, .ref nl]))] H := by rw [hH]; exact hP
  have hD : va_D A [(x, .inr (10, [.ref ro, .ref rw, .ref bo, .ref li, .ref sh, .ref tx, .ref lo, .ref nl]))] := hD
  have hl : lv_has ls 2 [(0, .ref x), (1, .int (iz (pe)))] := hl
  rw [← hH, ← hlo]
  refine lv_iload_n hx hb dX9_amount_0 rfl (lv_at hl 1 rfl) ?_
  refine zr_i2l hx hb (x := pe) (⟨by omega, by omega⟩) dX9_amount_1 ?_
  refine lv_lconst (v := lz (0)) hx hb dX9_amount_2 rfl ?_
  refine zr_ldc2 (z := 40) hx hb hown (hts (.constantLong RX9 87 (40)) (by decide +kernel)) rfl dX9_amount_3 ?_
  refine zc_z (wr := [(x, .inr (10, [.ref ro, .ref rw, .ref bo, .ref li, .ref sh, .ref tx, .ref lo, .ref nl]))]) (va_runS (As := [.long (lz (pe)), .long (lz (0)), .long (lz (40))]) (rest := []) ⟨hx, hb, hml, hown, hts⟩ (c_X9_isWithin l G pe 0 40 (by omega) (by omega) (by omega) H.size) (va_cwS 3 hts gX9_amount_X9_isWithin rfl rfl rfl (by decide +kernel) ⟨Nat.le_of_ble_eq_true rfl, Nat.le_of_ble_eq_true rfl⟩) (zpS hKX hP hD [] rfl rfl) rfl rfl hl.1 rfl (lv_room (Nat.le_of_ble_eq_true rfl)) dX9_amount_6 ⟨(by first | exact Nat.le_of_ble_eq_true rfl | (show _ ≤ (1 : Nat); omega)), (by first | exact Nat.le_of_ble_eq_true rfl | (show _ ≤ (6 : Nat); omega))⟩) hP hD hS hA [] [0] rfl rfl rfl (by decide) (fun y1 u_1 H locs hy1 hP hD hS => ?_)
  have hP : va_P G.1 vwCl [(x, .inr (10, [.ref ro, .ref rw, .ref bo, .ref li, .ref sh, .ref tx, .ref lo, .ref nl]))] H := hP
  have hD : va_D A [(x, .inr (10, [.ref ro, .ref rw, .ref bo, .ref li, .ref sh, .ref tx, .ref lo, .ref nl]))] := hD
  have hy1 : y1 = decide ((0 : Int) ≤ pe ∧ pe ≤ (40 : Int)) := hy1
  rw [show y1 = false from hy1.trans (decide_eq_false (by omega))]
  rw [hQ]
  exact zx_thr (X := "java/lang/IllegalArgumentException") (vx_runS (As := [.int (iz (zbb false))]) (rest := []) ⟨hx, hb, hml, hown, hts⟩ (c_X9_demand_x l G s1 s2 s3 hl0 H.size) (va_cwS 1 hts gX9_amount_X9_demand rfl rfl rfl (by decide +kernel) ⟨Nat.le_of_ble_eq_true rfl, Nat.le_of_ble_eq_true rfl⟩) (zpSe zXE_ok hE hS hA hKX hP hD [] rfl rfl) rfl rfl hl.1 rfl (lv_room (Nat.le_of_ble_eq_true rfl)) dX9_amount_9 ⟨(by first | exact Nat.le_of_ble_eq_true rfl | (show _ ≤ (1 : Nat); omega)), (by first | exact Nat.le_of_ble_eq_true rfl | (show _ ≤ (6 : Nat); omega))⟩) hS (va_free (wc := []) hD hS hA [] rfl) hout hlocks (by first | exact Nat.le_of_ble_eq_true rfl | omega) (by first | exact Nat.le_of_ble_eq_true rfl | omega)

def rm_c_X9_worth_o : Room := { frames := 6, cells := 0, slots := 0, locals := 147 }
theorem iw_X9_worth_X9 : ∀ w ∈ wsX90, w ∈ wsX9_worth := by decide +kernel
set_option maxHeartbeats 1000000 in
set_option maxRecDepth 100000 in
theorem c_X9_worth_o (l : Launch) (G : zG) (x : Nat) (ro : Nat) (rw : Nat) (bo : Nat) (li : Nat) (sh : Nat) (tx : Nat) (lo : Nat) (nl : Nat) (am : Nat) (q : Nat) (bq : Nat) (sa : Nat) (sb : Nat) (da : Nat) (db : Nat) (wa : Nat) (wb : Nat) (pe : Int) (po : Int) (h0 : -2147483648 ≤ pe ∧ pe < 2147483648) (h01 : -2147483648 ≤ po ∧ po < 2147483648) (h1 : 0 ≤ pe ∧ pe ≤ 40 ∧ 0 ≤ po ∧ po ≤ 20000) : zM l G yX9_worth wsX9_worth rm_c_X9_worth_o [.ref x, .int (iz (pe)), .int (iz (po))] [(x, .inr (10, [.ref ro, .ref rw, .ref bo, .ref li, .ref sh, .ref tx, .ref lo, .ref nl])), (rw, .inr (6, [.ref am, .ref q, .ref bq])), (am, zaL (G.2 0) 41 (fun _ => 0)), (q, .inr (2, [.ref sa, .ref da, .ref wa, .long (lz (1)), .long (lz (1)), .int (iz (0))])), (sa, .inr (9, [.ref sb, .int (iz (0)), .long (lz (0))])), (sb, zaL (G.2 0) 40 (fun _ => 0)), (da, .inr (9, [.ref db, .int (iz (0)), .long (lz (0))])), (db, zaL (G.2 0) 40 (fun _ => 0)), (wa, .inr (9, [.ref wb, .int (iz (0)), .long (lz (0))])), (wb, zaL (G.2 0) 40 (fun _ => 0)), (ro, .inr (5, [.int (iz (6))]))] (fun A => zQl G (fun (z : Int) (u : (Int → Int) × Int × Int × (Int → Int) × Int × Int × (Int → Int) × Int × Int × Int × Int × Int) => z = 0) (fun (u : (Int → Int) × Int × Int × (Int → Int) × Int × Int × (Int → Int) × Int × Int × Int × Int × Int) => [(x, .inr (10, [.ref ro, .ref rw, .ref bo, .ref li, .ref sh, .ref tx, .ref lo, .ref nl])), (rw, .inr (6, [.ref am, .ref q, .ref bq])), (am, zaL (G.2 0) 41 (fun _ => 0)), (q, .inr (2, [.ref sa, .ref da, .ref wa, .long (lz (u.2.2.2.2.2.2.2.2.2.1)), .long (lz (u.2.2.2.2.2.2.2.2.2.2.1)), .int (iz (u.2.2.2.2.2.2.2.2.2.2.2))])), (sa, .inr (9, [.ref sb, .int (iz (u.2.1)), .long (lz (u.2.2.1))])), (sb, zaL (G.2 0) 40 (u.1)), (da, .inr (9, [.ref db, .int (iz (u.2.2.2.2.1)), .long (lz (u.2.2.2.2.2.1))])), (db, zaL (G.2 0) 40 (u.2.2.2.1)), (wa, .inr (9, [.ref wb, .int (iz (u.2.2.2.2.2.2.2.1)), .long (lz (u.2.2.2.2.2.2.2.2.1))])), (wb, zaL (G.2 0) 40 (u.2.2.2.2.2.2.1)), (ro, .inr (5, [.int (iz (6))]))]) A) 0 0 := by
  refine zM_of (cc := cX9_worth) (maxL := 3) (ret := (some .long)) (by decide) rfl (Nat.le_of_ble_eq_true rfl) ?_
  intro p e s m below meth c ls A Q hQ hx hb hr hts hown hlocks hml hnm hKX hP hD hA hS hl
  have hK := hKX.1
  have iwX9 := iw_X9_worth_X9
  obtain ⟨H, hH⟩ : ∃ h, h = s.heap := ⟨_, rfl⟩
  obtain ⟨locs, hlo⟩ : ∃ h : List Loc, h = [] := ⟨_, rfl⟩
  have hS : va_S A s.heap H locs := by rw [hH, hlo]; exact hS
  have hP : va_P G.1 vwCl [(x, .inr (10, [.ref ro, .ref rw, .ref bo, .ref li, .ref sh, .ref tx, .ref lo, .ref nl])), (rw, .inr (6, [.ref am, .ref q, .ref bq])), (am, zaL (G.2 0) 41 (fun _ => 0)), (q, .inr (2, [.ref sa, .ref da, .ref wa, .long (lz (1)), .long (lz (1)), .int (iz (0))])), (sa, .inr (9, [.ref sb, .int (iz (0)), .long (lz (0))])), (sb, zaL (G.2 0) 40 (fun _ => 0)), (da, .inr (9, [.ref db, .int (iz (0)), .long (lz (0))])), (db, zaL (G.2 0) 40 (fun _ => 0)), (wa, .inr (9, [.ref wb, .int (iz (0)), .long (lz (0))])), (wb, zaL (G.2 0) 40 (fun _ => 0)), (ro, .inr (5, [.int (iz (6))]))] H := by rw [hH]; exact hP
  have hD : va_D A [(x, .inr (10, [.ref ro, .ref rw, .ref bo, .ref li, .ref sh, .ref tx, .ref lo, .ref nl])), (rw, .inr (6, [.ref am, .ref q, .ref bq])), (am, zaL (G.2 0) 41 (fun _ => 0)), (q, .inr (2, [.ref sa, .ref da, .ref wa, .long (lz (1)), .long (lz (1)), .int (iz (0))])), (sa, .inr (9, [.ref sb, .int (iz (0)), .long (lz (0))])), (sb, zaL (G.2 0) 40 (fun _ => 0)), (da, .inr (9, [.ref db, .int (iz (0)), .long (lz (0))])), (db, zaL (G.2 0) 40 (fun _ => 0)), (wa, .inr (9, [.ref wb, .int (iz (0)), .long (lz (0))])), (wb, zaL (G.2 0) 40 (fun _ => 0)), (ro, .inr (5, [.int (iz (6))]))] := hD
  have hl : lv_has ls 3 [(0, .ref x), (1, .int (iz (pe))), (2, .int (iz (po)))] := hl
  rw [← hH, ← hlo]
  refine lv_iload_n hx hb dX9_worth_0 rfl (lv_at hl 1 rfl) ?_
  refine zr_i2l hx hb (x := pe) (⟨by omega, by omega⟩) dX9_worth_1 ?_
  refine lv_lconst (v := lz (0)) hx hb dX9_worth_2 rfl ?_
  refine zr_ldc2 (z := 40) hx hb hown (hts (.constantLong RX9 87 (40)) (by decide +kernel)) rfl dX9_worth_3 ?_
  refine zc_z (wr := [(x, .inr (10, [.ref ro, .ref rw, .ref bo, .ref li, .ref sh, .ref tx, .ref lo, .ref nl])), (rw, .inr (6, [.ref am, .ref q, .ref bq])), (am, zaL (G.2 0) 41 (fun _ => 0)), (q, .inr (2, [.ref sa, .ref da, .ref wa, .long (lz (1)), .long (lz (1)), .int (iz (0))])), (sa, .inr (9, [.ref sb, .int (iz (0)), .long (lz (0))])), (sb, zaL (G.2 0) 40 (fun _ => 0)), (da, .inr (9, [.ref db, .int (iz (0)), .long (lz (0))])), (db, zaL (G.2 0) 40 (fun _ => 0)), (wa, .inr (9, [.ref wb, .int (iz (0)), .long (lz (0))])), (wb, zaL (G.2 0) 40 (fun _ => 0)), (ro, .inr (5, [.int (iz (6))]))]) (va_runS (As := [.long (lz (pe)), .long (lz (0)), .long (lz (40))]) (rest := []) ⟨hx, hb, hml, hown, hts⟩ (c_X9_isWithin l G pe 0 40 (by omega) (by omega) (by omega) H.size) (va_cwS 3 hts gX9_worth_X9_isWithin rfl rfl rfl (by decide +kernel) ⟨Nat.le_of_ble_eq_true rfl, Nat.le_of_ble_eq_true rfl⟩) (zpS hKX hP hD [] rfl rfl) rfl rfl hl.1 rfl (lv_room (Nat.le_of_ble_eq_true rfl)) dX9_worth_6 ⟨(by first | exact Nat.le_of_ble_eq_true rfl | (show _ ≤ (0 : Nat); omega)), (by first | exact Nat.le_of_ble_eq_true rfl | (show _ ≤ (0 : Nat); omega))⟩) hP hD hS hA [] [0, 1, 2, 3, 4, 5, 6, 7, 8, 9, 10] rfl rfl rfl (by decide) (fun y1 u_1 H locs hy1 hP hD hS => ?_)
  have hP : va_P G.1 vwCl [(x, .inr (10, [.ref ro, .ref rw, .ref bo, .ref li, .ref sh, .ref tx, .ref lo, .ref nl])), (rw, .inr (6, [.ref am, .ref q, .ref bq])), (am, zaL (G.2 0) 41 (fun _ => 0)), (q, .inr (2, [.ref sa, .ref da, .ref wa, .long (lz (1)), .long (lz (1)), .int (iz (0))])), (sa, .inr (9, [.ref sb, .int (iz (0)), .long (lz (0))])), (sb, zaL (G.2 0) 40 (fun _ => 0)), (da, .inr (9, [.ref db, .int (iz (0)), .long (lz (0))])), (db, zaL (G.2 0) 40 (fun _ => 0)), (wa, .inr (9, [.ref wb, .int (iz (0)), .long (lz (0))])), (wb, zaL (G.2 0) 40 (fun _ => 0)), (ro, .inr (5, [.int (iz (6))]))] H := hP
  have hD : va_D A [(x, .inr (10, [.ref ro, .ref rw, .ref bo, .ref li, .ref sh, .ref tx, .ref lo, .ref nl])), (rw, .inr (6, [.ref am, .ref q, .ref bq])), (am, zaL (G.2 0) 41 (fun _ => 0)), (q, .inr (2, [.ref sa, .ref da, .ref wa, .long (lz (1)), .long (lz (1)), .int (iz (0))])), (sa, .inr (9, [.ref sb, .int (iz (0)), .long (lz (0))])), (sb, zaL (G.2 0) 40 (fun _ => 0)), (da, .inr (9, [.ref db, .int (iz (0)), .long (lz (0))])), (db, zaL (G.2 0) 40 (fun _ => 0)), (wa, .inr (9, [.ref wb, .int (iz (0)), .long (lz (0))])), (wb, zaL (G.2 0) 40 (fun _ => 0)), (ro, .inr (5, [.int (iz (6))]))] := hD
  have hy1 : y1 = decide ((0 : Int) ≤ pe ∧ pe ≤ (40 : Int)) := hy1
  rw [show y1 = true from hy1.trans (decide_eq_true (by omega))]
  refine zc_v (wr := [(x, .inr (10, [.ref ro, .ref rw, .ref bo, .ref li, .ref sh, .ref tx, .ref lo, .ref nl])), (rw, .inr (6, [.ref am, .ref q, .ref bq])), (am, zaL (G.2 0) 41 (fun _ => 0)), (q, .inr (2, [.ref sa, .ref da, .ref wa, .long (lz (1)), .long (lz (1)), .int (iz (0))])), (sa, .inr (9, [.ref sb, .int (iz (0)), .long (lz (0))])), (sb, zaL (G.2 0) 40 (fun _ => 0)), (da, .inr (9, [.ref db, .int (iz (0)), .long (lz (0))])), (db, zaL (G.2 0) 40 (fun _ => 0)), (wa, .inr (9, [.ref wb, .int (iz (0)), .long (lz (0))])), (wb, zaL (G.2 0) 40 (fun _ => 0)), (ro, .inr (5, [.int (iz (6))]))]) (va_runS (As := [.int (iz (zbb true))]) (rest := []) ⟨hx, hb, hml, hown, hts⟩ (c_X9_demand_o l G   H.size) (va_cwS 1 hts gX9_worth_X9_demand rfl rfl rfl (by decide +kernel) ⟨Nat.le_of_ble_eq_true rfl, Nat.le_of_ble_eq_true rfl⟩) (zpS hKX hP hD [] rfl rfl) rfl rfl hl.1 rfl (lv_room (Nat.le_of_ble_eq_true rfl)) dX9_worth_9 ⟨(by first | exact Nat.le_of_ble_eq_true rfl | (show _ ≤ (0 : Nat); omega)), (by first | exact Nat.le_of_ble_eq_true rfl | (show _ ≤ (0 : Nat); omega))⟩) hP hD hS hA [] [0, 1, 2, 3, 4, 5, 6, 7, 8, 9, 10] rfl rfl rfl (by decide) (fun u_3 H locs hq_6 hP hD hS => ?_)
  have hP : va_P G.1 vwCl [(x, .inr (10, [.ref ro, .ref rw, .ref bo, .ref li, .ref sh, .ref tx, .ref lo, .ref nl])), (rw, .inr (6, [.ref am, .ref q, .ref bq])), (am, zaL (G.2 0) 41 (fun _ => 0)), (q, .inr (2, [.ref sa, .ref da, .ref wa, .long (lz (1)), .long (lz (1)), .int (iz (0))])), (sa, .inr (9, [.ref sb, .int (iz (0)), .long (lz (0))])), (sb, zaL (G.2 0) 40 (fun _ => 0)), (da, .inr (9, [.ref db, .int (iz (0)), .long (lz (0))])), (db, zaL (G.2 0) 40 (fun _ => 0)), (wa, .inr (9, [.ref wb, .int (iz (0)), .long (lz (0))])), (wb, zaL (G.2 0) 40 (fun _ => 0)), (ro, .inr (5, [.int (iz (6))]))] H := hP
  have hD : va_D A [(x, .inr (10, [.ref ro, .ref rw, .ref bo, .ref li, .ref sh, .ref tx, .ref lo, .ref nl])), (rw, .inr (6, [.ref am, .ref q, .ref bq])), (am, zaL (G.2 0) 41 (fun _ => 0)), (q, .inr (2, [.ref sa, .ref da, .ref wa, .long (lz (1)), .long (lz (1)), .int (iz (0))])), (sa, .inr (9, [.ref sb, .int (iz (0)), .long (lz (0))])), (sb, zaL (G.2 0) 40 (fun _ => 0)), (da, .inr (9, [.ref db, .int (iz (0)), .long (lz (0))])), (db, zaL (G.2 0) 40 (fun _ => 0)), (wa, .inr (9, [.ref wb, .int (iz (0)), .long (lz (0))])), (wb, zaL (G.2 0) 40 (fun _ => 0)), (ro, .inr (5, [.int (iz (6))]))] := hD
  refine lv_iload_n hx hb dX9_worth_12 rfl (lv_at hl 2 rfl) ?_
  refine zc_v (wr := [(x, .inr (10, [.ref ro, .ref rw, .ref bo, .ref li, .ref sh, .ref tx, .ref lo, .ref nl])), (rw, .inr (6, [.ref am, .ref q, .ref bq])), (am, zaL (G.2 0) 41 (fun _ => 0)), (q, .inr (2, [.ref sa, .ref da, .ref wa, .long (lz (1)), .long (lz (1)), .int (iz (0))])), (sa, .inr (9, [.ref sb, .int (iz (0)), .long (lz (0))])), (sb, zaL (G.2 0) 40 (fun _ => 0)), (da, .inr (9, [.ref db, .int (iz (0)), .long (lz (0))])), (db, zaL (G.2 0) 40 (fun _ => 0)), (wa, .inr (9, [.ref wb, .int (iz (0)), .long (lz (0))])), (wb, zaL (G.2 0) 40 (fun _ => 0)), (ro, .inr (5, [.int (iz (6))]))]) (va_runS (As := [.int (iz (po))]) (rest := []) ⟨hx, hb, hml, hown, hts⟩ (c_X9_demandRate_o l G po (by omega) (by omega) H.size) (va_cwS 1 hts gX9_worth_X9_demandRate rfl rfl rfl (by decide +kernel) ⟨Nat.le_of_ble_eq_true rfl, Nat.le_of_ble_eq_true rfl⟩) (zpS hKX hP hD [] rfl rfl) rfl rfl hl.1 rfl (lv_room (Nat.le_of_ble_eq_true rfl)) dX9_worth_13 ⟨(by first | exact Nat.le_of_ble_eq_true rfl | (show _ ≤ (0 : Nat); omega)), (by first | exact Nat.le_of_ble_eq_true rfl | (show _ ≤ (0 : Nat); omega))⟩) hP hD hS hA [] [0, 1, 2, 3, 4, 5, 6, 7, 8, 9, 10] rfl rfl rfl (by decide) (fun u_7 H locs td hP hD hS => ?_)
  have hP : va_P G.1 vwCl [(x, .inr (10, [.ref ro, .ref rw, .ref bo, .ref li, .ref sh, .ref tx, .ref lo, .ref nl])), (rw, .inr (6, [.ref am, .ref q, .ref bq])), (am, zaL (G.2 0) 41 (fun _ => 0)), (q, .inr (2, [.ref sa, .ref da, .ref wa, .long (lz (1)), .long (lz (1)), .int (iz (0))])), (sa, .inr (9, [.ref sb, .int (iz (0)), .long (lz (0))])), (sb, zaL (G.2 0) 40 (fun _ => 0)), (da, .inr (9, [.ref db, .int (iz (0)), .long (lz (0))])), (db, zaL (G.2 0) 40 (fun _ => 0)), (wa, .inr (9, [.ref wb, .int (iz (0)), .long (lz (0))])), (wb, zaL (G.2 0) 40 (fun _ => 0)), (ro, .inr (5, [.int (iz (6))]))] H := hP
  have hD : va_D A [(x, .inr (10, [.ref ro, .ref rw, .ref bo, .ref li, .ref sh, .ref tx, .ref lo, .ref nl])), (rw, .inr (6, [.ref am, .ref q, .ref bq])), (am, zaL (G.2 0) 41 (fun _ => 0)), (q, .inr (2, [.ref sa, .ref da, .ref wa, .long (lz (1)), .long (lz (1)), .int (iz (0))])), (sa, .inr (9, [.ref sb, .int (iz (0)), .long (lz (0))])), (sb, zaL (G.2 0) 40 (fun _ => 0)), (da, .inr (9, [.ref db, .int (iz (0)), .long (lz (0))])), (db, zaL (G.2 0) 40 (fun _ => 0)), (wa, .inr (9, [.ref wb, .int (iz (0)), .long (lz (0))])), (wb, zaL (G.2 0) 40 (fun _ => 0)), (ro, .inr (5, [.int (iz (6))]))] := hD
  refine lv_aload_n hx hb dX9_worth_16 rfl (lv_at hl 0 rfl) ?_
  refine va_get (D := G.1) (ci := 10) (v := .ref rw) (C := RX9) (T := TX9) (N := 8) hx hb hts iwX9 hown hK hP 0 rfl rfl 1 (by decide) (hts (.fieldLink RX9 19 "AnnuityHouse" "row" "LAnnuityHouse$Row;") (by decide +kernel)) (fun _ h9 => h9) rfl dX9_worth_17 ?_
  refine lv_iload_n hx hb dX9_worth_20 rfl (lv_at hl 1 rfl) ?_
  refine lv_iload_n hx hb dX9_worth_21 rfl (lv_at hl 2 rfl) ?_
  refine lv_aload_n hx hb dX9_worth_22 rfl (lv_at hl 0 rfl) ?_
  refine va_get (D := G.1) (ci := 10) (v := .ref ro) (C := RX9) (T := TX9) (N := 8) hx hb hts iwX9 hown hK hP 0 rfl rfl 0 (by decide) (hts (.fieldLink RX9 10 "AnnuityHouse" "rounder" "LAnnuityHouse$Rounder;") (by decide +kernel)) (fun _ h9 => h9) rfl dX9_worth_23 ?_
  refine zc_l (wr := [(x, .inr (10, [.ref ro, .ref rw, .ref bo, .ref li, .ref sh, .ref tx, .ref lo, .ref nl]))]) (va_runV (As := [.int (iz (pe)), .int (iz (po)), .ref ro]) (rest := []) ⟨hx, hb, hml, hown, hts⟩ (c_X5_worthIn l G rw am q bq ro sa sb (fun _ => 0) 0 0 da db (fun _ => 0) 0 0 wa wb (fun _ => 0) 0 0 1 1 0 pe po (by omega) (by omega) H.size) (cwV 3 hts gX9_worth_X5_worthIn rfl rfl rfl (by decide +kernel) ⟨Nat.le_of_ble_eq_true rfl, Nat.le_of_ble_eq_true rfl⟩) (zpV hKX hP hD [1, 2, 3, 4, 5, 6, 7, 8, 9, 10] rfl rfl 1 6 rfl rfl) rfl rfl hl.1 rfl (lv_room (Nat.le_of_ble_eq_true rfl)) dX9_worth_26 ⟨(by first | exact Nat.le_of_ble_eq_true rfl | (show _ ≤ (0 : Nat); omega)), (by first | exact Nat.le_of_ble_eq_true rfl | (show _ ≤ (0 : Nat); omega))⟩) hP hD hS hA [1, 2, 3, 4, 5, 6, 7, 8, 9, 10] [0] rfl rfl rfl (by decide) (fun zz u_10 H locs hz hP hD hS => ?_)
  obtain ⟨sf2, sn2, st2, df2, dn2, dt2, wf2, wn2, wt2, ru, rd, pq⟩ := u_10
  have hP : va_P G.1 vwCl [(x, .inr (10, [.ref ro, .ref rw, .ref bo, .ref li, .ref sh, .ref tx, .ref lo, .ref nl])), (rw, .inr (6, [.ref am, .ref q, .ref bq])), (am, zaL (G.2 0) 41 (fun _ => 0)), (q, .inr (2, [.ref sa, .ref da, .ref wa, .long (lz (ru)), .long (lz (rd)), .int (iz (pq))])), (sa, .inr (9, [.ref sb, .int (iz (sn2)), .long (lz (st2))])), (sb, zaL (G.2 0) 40 (sf2)), (da, .inr (9, [.ref db, .int (iz (dn2)), .long (lz (dt2))])), (db, zaL (G.2 0) 40 (df2)), (wa, .inr (9, [.ref wb, .int (iz (wn2)), .long (lz (wt2))])), (wb, zaL (G.2 0) 40 (wf2)), (ro, .inr (5, [.int (iz (6))]))] H := hP
  have hD : va_D A [(x, .inr (10, [.ref ro, .ref rw, .ref bo, .ref li, .ref sh, .ref tx, .ref lo, .ref nl])), (rw, .inr (6, [.ref am, .ref q, .ref bq])), (am, zaL (G.2 0) 41 (fun _ => 0)), (q, .inr (2, [.ref sa, .ref da, .ref wa, .long (lz (ru)), .long (lz (rd)), .int (iz (pq))])), (sa, .inr (9, [.ref sb, .int (iz (sn2)), .long (lz (st2))])), (sb, zaL (G.2 0) 40 (sf2)), (da, .inr (9, [.ref db, .int (iz (dn2)), .long (lz (dt2))])), (db, zaL (G.2 0) 40 (df2)), (wa, .inr (9, [.ref wb, .int (iz (wn2)), .long (lz (wt2))])), (wb, zaL (G.2 0) 40 (wf2)), (ro, .inr (5, [.int (iz (6))]))] := hD
  have hz : zz = 0 := hz
  rw [hQ]
  exact zr_lret (z := zz) (u := (sf2, sn2, st2, df2, dn2, dt2, wf2, wn2, wt2, ru, rd, pq)) hx hb hr hlocks hP hD hS (by first | exact Nat.le_of_ble_eq_true rfl | omega) (by first | exact Nat.le_of_ble_eq_true rfl | omega) dX9_worth_29 (show zz = 0 from hz)

def rm_c_X9_worth_x : Room := { frames := 8, cells := 1, slots := 6, locals := 130 }
set_option maxHeartbeats 1000000 in
set_option maxRecDepth 100000 in
theorem c_X9_worth_x (l : Launch) (G : zG) (s1 : Nat) (s2 : Nat) (s3 : Nat) (x : Nat) (ro : Nat) (rw : Nat) (bo : Nat) (li : Nat) (sh : Nat) (tx : Nat) (lo : Nat) (nl : Nat) (pe : Int) (po : Int) (hl0 : l.stackTraces = false) (h0 : -2147483648 ≤ pe ∧ pe < 2147483648) (h01 : -2147483648 ≤ po ∧ po < 2147483648) (h1 : ¬ (0 ≤ pe ∧ pe ≤ 40 ∧ 0 ≤ po ∧ po ≤ 20000)) : zMx l (zXE s1 s2 s3) G yX9_worth wsX9_worth rm_c_X9_worth_x [.ref x, .int (iz (pe)), .int (iz (po))] [(x, .inr (10, [.ref ro, .ref rw, .ref bo, .ref li, .ref sh, .ref tx, .ref lo, .ref nl]))] "java/lang/IllegalArgumentException" 1 6 := by
  refine zMx_of (cc := cX9_worth) (maxL := 3) (ret := (some .long)) (by decide) rfl (Nat.le_of_ble_eq_true rfl) ?_
  intro p e s m below meth c ls A Q hQ hx hb hr hts hown hlocks hml hout hKX hE hP hD hA hS hl
  have hK := hKX.1
  obtain ⟨H, hH⟩ : ∃ h, h = s.heap := ⟨_, rfl⟩
  obtain ⟨locs, hlo⟩ : ∃ h : List Loc, h = [] := ⟨_, rfl⟩
  have hS : va_S A s.heap H locs := by rw [hH, hlo]; exact hS
  have hP : va_P G.1 vwCl [(x, .inr (10, [.ref ro, .ref rw, .ref bo, .ref li, .ref sh, .ref tx, .ref lo, .ref nl]))] H := by rw [hH]; exact hP
  have hD : va_D A [(x, .inr (10, [.ref ro, .ref rw, .ref bo, .ref li, .ref sh, .ref tx, .ref lo, .ref nl]))] := hD
  have hl : lv_has ls 3 [(0, .ref x), (1, .int (iz (pe))), (2, .int (iz (po)))] := hl
  rw [← hH, ← hlo]
  refine lv_iload_n hx hb dX9_worth_0 rfl (lv_at hl 1 rfl) ?_
  refine zr_i2l hx hb (x := pe) (⟨by omega, by omega⟩) dX9_worth_1 ?_
  refine lv_lconst (v := lz (0)) hx hb dX9_worth_2 rfl ?_
  refine zr_ldc2 (z := 40) hx hb hown (hts (.constantLong RX9 87 (40)) (by decide +kernel)) rfl dX9_worth_3 ?_
  refine zc_z (wr := [(x, .inr (10, [.ref ro, .ref rw, .ref bo, .ref li, .ref sh, .ref tx, .ref lo, .ref nl]))]) (va_runS (As := [.long (lz (pe)), .long (lz (0)), .long (lz (40))]) (rest := []) ⟨hx, hb, hml, hown, hts⟩ (c_X9_isWithin l G pe 0 40 (by omega) (by omega) (by omega) H.size) (va_cwS 3 hts gX9_worth_X9_isWithin rfl rfl rfl (by decide +kernel) ⟨Nat.le_of_ble_eq_true rfl, Nat.le_of_ble_eq_true rfl⟩) (zpS hKX hP hD [] rfl rfl) rfl rfl hl.1 rfl (lv_room (Nat.le_of_ble_eq_true rfl)) dX9_worth_6 ⟨(by first | exact Nat.le_of_ble_eq_true rfl | (show _ ≤ (1 : Nat); omega)), (by first | exact Nat.le_of_ble_eq_true rfl | (show _ ≤ (6 : Nat); omega))⟩) hP hD hS hA [] [0] rfl rfl rfl (by decide) (fun y1 u_1 H locs hy1 hP hD hS => ?_)
  have hP : va_P G.1 vwCl [(x, .inr (10, [.ref ro, .ref rw, .ref bo, .ref li, .ref sh, .ref tx, .ref lo, .ref nl]))] H := hP
  have hD : va_D A [(x, .inr (10, [.ref ro, .ref rw, .ref bo, .ref li, .ref sh, .ref tx, .ref lo, .ref nl]))] := hD
  have hy1 : y1 = decide ((0 : Int) ≤ pe ∧ pe ≤ (40 : Int)) := hy1
  rcases Bool.eq_false_or_eq_true y1 with hbt_y1 | hbt_y1
  ·
    rw [hbt_y1]
    have hzy1 := of_decide_eq_true (hy1.symm.trans hbt_y1)
    refine zc_v (wr := [(x, .inr (10, [.ref ro, .ref rw, .ref bo, .ref li, .ref sh, .ref tx, .ref lo, .ref nl]))]) (va_runS (As := [.int (iz (zbb true))]) (rest := []) ⟨hx, hb, hml, hown, hts⟩ (c_X9_demand_o l G   H.size) (va_cwS 1 hts gX9_worth_X9_demand rfl rfl rfl (by decide +kernel) ⟨Nat.le_of_ble_eq_true rfl, Nat.le_of_ble_eq_true rfl⟩) (zpS hKX hP hD [] rfl rfl) rfl rfl hl.1 rfl (lv_room (Nat.le_of_ble_eq_true rfl)) dX9_worth_9 ⟨(by first | exact Nat.le_of_ble_eq_true rfl | (show _ ≤ (1 : Nat); omega)), (by first | exact Nat.le_of_ble_eq_true rfl | (show _ ≤ (6 : Nat); omega))⟩) hP hD hS hA [] [0] rfl rfl rfl (by decide) (fun u_3 H locs hq_6 hP hD hS => ?_)
    have hP : va_P G.1 vwCl [(x, .inr (10, [.ref ro, .ref rw, .ref bo, .ref li, .ref sh, .ref tx, .ref lo, .ref nl]))] H := hP
    have hD : va_D A [(x, .inr (10, [.ref ro, .ref rw, .ref bo, .ref li, .ref sh, .ref tx, .ref lo, .ref nl]))] := hD
    refine lv_iload_n hx hb dX9_worth_12 rfl (lv_at hl 2 rfl) ?_
    rw [hQ]
    exact zx_thr (X := "java/lang/IllegalArgumentException") (vx_runS (As := [.int (iz (po))]) (rest := []) ⟨hx, hb, hml, hown, hts⟩ (c_X9_demandRate_x l G s1 s2 s3 po hl0 (by omega) (by omega) H.size) (va_cwS 1 hts gX9_worth_X9_demandRate rfl rfl rfl (by decide +kernel) ⟨Nat.le_of_ble_eq_true rfl, Nat.le_of_ble_eq_true rfl⟩) (zpSe zXE_ok hE hS hA hKX hP hD [] rfl rfl) rfl rfl hl.1 rfl (lv_room (Nat.le_of_ble_eq_true rfl)) dX9_worth_13 ⟨(by first | exact Nat.le_of_ble_eq_true rfl | (show _ ≤ (1 : Nat); omega)), (by first | exact Nat.le_of_ble_eq_true rfl | (show _ ≤ (6 : Nat); omega))⟩) hS (va_free (wc := []) hD hS hA [] rfl) hout hlocks (by first | exact Nat.le_of_ble_eq_true rfl | omega) (by first | exact Nat.le_of_ble_eq_true rfl | omega)
  ·
    rw [hbt_y1]
    have hzy1 := of_decide_eq_false (hy1.symm.trans hbt_y1)
    rw [hQ]
    exact zx_thr (X := "java/lang/IllegalArgumentException") (vx_runS (As := [.int (iz (zbb false))]) (rest := []) ⟨hx, hb, hml, hown, hts⟩ (c_X9_demand_x l G s1 s2 s3 hl0 H.size) (va_cwS 1 hts gX9_worth_X9_demand rfl rfl rfl (by decide +kernel) ⟨Nat.le_of_ble_eq_true rfl, Nat.le_of_ble_eq_true rfl⟩) (zpSe zXE_ok hE hS hA hKX hP hD [] rfl rfl) rfl rfl hl.1 rfl (lv_room (Nat.le_of_ble_eq_true rfl)) dX9_worth_9 ⟨(by first | exact Nat.le_of_ble_eq_true rfl | (show _ ≤ (1 : Nat); omega)), (by first | exact Nat.le_of_ble_eq_true rfl | (show _ ≤ (6 : Nat); omega))⟩) hS (va_free (wc := []) hD hS hA [] rfl) hout hlocks (by first | exact Nat.le_of_ble_eq_true rfl | omega) (by first | exact Nat.le_of_ble_eq_true rfl | omega)

def rm_c_X9_signAt_o : Room := { frames := 6, cells := 0, slots := 0, locals := 143 }
theorem iw_X9_signAt_X9 : ∀ w ∈ wsX90, w ∈ wsX9_signAt := by decide +kernel
set_option maxHeartbeats 1000000 in
set_option maxRecDepth 100000 in
theorem c_X9_signAt_o (l : Launch) (G : zG) (x : Nat) (ro : Nat) (rw : Nat) (bo : Nat) (li : Nat) (sh : Nat) (tx : Nat) (lo : Nat) (nl : Nat) (am : Nat) (q : Nat) (bq : Nat) (wa : Nat) (sa : Nat) (sb : Nat) (da : Nat) (db : Nat) (po : Int) (h0 : -2147483648 ≤ po ∧ po < 2147483648) (h1 : 0 ≤ po ∧ po ≤ 20000) : zM l G yX9_signAt wsX9_signAt rm_c_X9_signAt_o [.ref x, .int (iz (po))] [(x, .inr (10, [.ref ro, .ref rw, .ref bo, .ref li, .ref sh, .ref tx, .ref lo, .ref nl])), (rw, .inr (6, [.ref am, .ref q, .ref bq])), (am, zaL (G.2 0) 41 (fun _ => 0)), (q, .inr (2, [.ref sa, .ref da, .ref wa, .long (lz (1)), .long (lz (1)), .int (iz (0))])), (sa, .inr (9, [.ref sb, .int (iz (0)), .long (lz (0))])), (sb, zaL (G.2 0) 40 (fun _ => 0)), (da, .inr (9, [.ref db, .int (iz (0)), .long (lz (0))])), (db, zaL (G.2 0) 40 (fun _ => 0))] (fun A => zQi G (fun (z : Int) (u : (Int → Int) × Int × Int × (Int → Int) × Int × Int × Int × Int × Int) => z = 0) (fun (u : (Int → Int) × Int × Int × (Int → Int) × Int × Int × Int × Int × Int) => [(x, .inr (10, [.ref ro, .ref rw, .ref bo, .ref li, .ref sh, .ref tx, .ref lo, .ref nl])), (rw, .inr (6, [.ref am, .ref q, .ref bq])), (am, zaL (G.2 0) 41 (fun _ => 0)), (q, .inr (2, [.ref sa, .ref da, .ref wa, .long (lz (u.2.2.2.2.2.2.1)), .long (lz (u.2.2.2.2.2.2.2.1)), .int (iz (u.2.2.2.2.2.2.2.2))])), (sa, .inr (9, [.ref sb, .int (iz (u.2.1)), .long (lz (u.2.2.1))])), (sb, zaL (G.2 0) 40 (u.1)), (da, .inr (9, [.ref db, .int (iz (u.2.2.2.2.1)), .long (lz (u.2.2.2.2.2.1))])), (db, zaL (G.2 0) 40 (u.2.2.2.1))]) A) 0 0 := by
  refine zM_of (cc := cX9_signAt) (maxL := 2) (ret := (some .int)) (by decide) rfl (Nat.le_of_ble_eq_true rfl) ?_
  intro p e s m below meth c ls A Q hQ hx hb hr hts hown hlocks hml hnm hKX hP hD hA hS hl
  have hK := hKX.1
  have iwX9 := iw_X9_signAt_X9
  obtain ⟨H, hH⟩ : ∃ h, h = s.heap := ⟨_, rfl⟩
  obtain ⟨locs, hlo⟩ : ∃ h : List Loc, h = [] := ⟨_, rfl⟩
  have hS : va_S A s.heap H locs := by rw [hH, hlo]; exact hS
  have hP : va_P G.1 vwCl [(x, .inr (10, [.ref ro, .ref rw, .ref bo, .ref li, .ref sh, .ref tx, .ref lo, .ref nl])), (rw, .inr (6, [.ref am, .ref q, .ref bq])), (am, zaL (G.2 0) 41 (fun _ => 0)), (q, .inr (2, [.ref sa, .ref da, .ref wa, .long (lz (1)), .long (lz (1)), .int (iz (0))])), (sa, .inr (9, [.ref sb, .int (iz (0)), .long (lz (0))])), (sb, zaL (G.2 0) 40 (fun _ => 0)), (da, .inr (9, [.ref db, .int (iz (0)), .long (lz (0))])), (db, zaL (G.2 0) 40 (fun _ => 0))] H := by rw [hH]; exact hP
  have hD : va_D A [(x, .inr (10, [.ref ro, .ref rw, .ref bo, .ref li, .ref sh, .ref tx, .ref lo, .ref nl])), (rw, .inr (6, [.ref am, .ref q, .ref bq])), (am, zaL (G.2 0) 41 (fun _ => 0)), (q, .inr (2, [.ref sa, .ref da, .ref wa, .long (lz (1)), .long (lz (1)), .int (iz (0))])), (sa, .inr (9, [.ref sb, .int (iz (0)), .long (lz (0))])), (sb, zaL (G.2 0) 40 (fun _ => 0)), (da, .inr (9, [.ref db, .int (iz (0)), .long (lz (0))])), (db, zaL (G.2 0) 40 (fun _ => 0))] := hD
  have hl : lv_has ls 2 [(0, .ref x), (1, .int (iz (po)))] := hl
  rw [← hH, ← hlo]
  refine lv_iload_n hx hb dX9_signAt_0 rfl (lv_at hl 1 rfl) ?_
  refine zc_v (wr := [(x, .inr (10, [.ref ro, .ref rw, .ref bo, .ref li, .ref sh, .ref tx, .ref lo, .ref nl])), (rw, .inr (6, [.ref am, .ref q, .ref bq])), (am, zaL (G.2 0) 41 (fun _ => 0)), (q, .inr (2, [.ref sa, .ref da, .ref wa, .long (lz (1)), .long (lz (1)), .int (iz (0))])), (sa, .inr (9, [.ref sb, .int (iz (0)), .long (lz (0))])), (sb, zaL (G.2 0) 40 (fun _ => 0)), (da, .inr (9, [.ref db, .int (iz (0)), .long (lz (0))])), (db, zaL (G.2 0) 40 (fun _ => 0))]) (va_runS (As := [.int (iz (po))]) (rest := []) ⟨hx, hb, hml, hown, hts⟩ (c_X9_demandRate_o l G po (by omega) (by omega) H.size) (va_cwS 1 hts gX9_signAt_X9_demandRate rfl rfl rfl (by decide +kernel) ⟨Nat.le_of_ble_eq_true rfl, Nat.le_of_ble_eq_true rfl⟩) (zpS hKX hP hD [] rfl rfl) rfl rfl hl.1 rfl (lv_room (Nat.le_of_ble_eq_true rfl)) dX9_signAt_1 ⟨(by first | exact Nat.le_of_ble_eq_true rfl | (show _ ≤ (0 : Nat); omega)), (by first | exact Nat.le_of_ble_eq_true rfl | (show _ ≤ (0 : Nat); omega))⟩) hP hD hS hA [] [0, 1, 2, 3, 4, 5, 6, 7] rfl rfl rfl (by decide) (fun u_1 H locs td hP hD hS => ?_)
  have hP : va_P G.1 vwCl [(x, .inr (10, [.ref ro, .ref rw, .ref bo, .ref li, .ref sh, .ref tx, .ref lo, .ref nl])), (rw, .inr (6, [.ref am, .ref q, .ref bq])), (am, zaL (G.2 0) 41 (fun _ => 0)), (q, .inr (2, [.ref sa, .ref da, .ref wa, .long (lz (1)), .long (lz (1)), .int (iz (0))])), (sa, .inr (9, [.ref sb, .int (iz (0)), .long (lz (0))])), (sb, zaL (G.2 0) 40 (fun _ => 0)), (da, .inr (9, [.ref db, .int (iz (0)), .long (lz (0))])), (db, zaL (G.2 0) 40 (fun _ => 0))] H := hP
  have hD : va_D A [(x, .inr (10, [.ref ro, .ref rw, .ref bo, .ref li, .ref sh, .ref tx, .ref lo, .ref nl])), (rw, .inr (6, [.ref am, .ref q, .ref bq])), (am, zaL (G.2 0) 41 (fun _ => 0)), (q, .inr (2, [.ref sa, .ref da, .ref wa, .long (lz (1)), .long (lz (1)), .int (iz (0))])), (sa, .inr (9, [.ref sb, .int (iz (0)), .long (lz (0))])), (sb, zaL (G.2 0) 40 (fun _ => 0)), (da, .inr (9, [.ref db, .int (iz (0)), .long (lz (0))])), (db, zaL (G.2 0) 40 (fun _ => 0))] := hD
  refine lv_aload_n hx hb dX9_signAt_4 rfl (lv_at hl 0 rfl) ?_
  refine va_get (D := G.1) (ci := 10) (v := .ref rw) (C := RX9) (T := TX9) (N := 8) hx hb hts iwX9 hown hK hP 0 rfl rfl 1 (by decide) (hts (.fieldLink RX9 19 "AnnuityHouse" "row" "LAnnuityHouse$Row;") (by decide +kernel)) (fun _ h9 => h9) rfl dX9_signAt_5 ?_
  refine lv_iload_n hx hb dX9_signAt_8 rfl (lv_at hl 1 rfl) ?_
  refine zc_i (wr := [(x, .inr (10, [.ref ro, .ref rw, .ref bo, .ref li, .ref sh, .ref tx, .ref lo, .ref nl]))]) (va_runV (As := [.int (iz (po))]) (rest := []) ⟨hx, hb, hml, hown, hts⟩ (c_X5_signOfWorth l G rw am q bq wa sa sb (fun _ => 0) 0 0 da db (fun _ => 0) 0 0 1 1 0 po (by omega) H.size) (cwV 1 hts gX9_signAt_X5_signOfWorth rfl rfl rfl (by decide +kernel) ⟨Nat.le_of_ble_eq_true rfl, Nat.le_of_ble_eq_true rfl⟩) (zpV hKX hP hD [1, 2, 3, 4, 5, 6, 7] rfl rfl 1 6 rfl rfl) rfl rfl hl.1 rfl (lv_room (Nat.le_of_ble_eq_true rfl)) dX9_signAt_9 ⟨(by first | exact Nat.le_of_ble_eq_true rfl | (show _ ≤ (0 : Nat); omega)), (by first | exact Nat.le_of_ble_eq_true rfl | (show _ ≤ (0 : Nat); omega))⟩) hP hD hS hA [1, 2, 3, 4, 5, 6, 7] [0] rfl rfl rfl (by decide) (fun zz u_4 H locs hz hP hD hS => ?_)
  obtain ⟨sf2, sn2, st2, df2, dn2, dt2, ru, rd, pq⟩ := u_4
  have hP : va_P G.1 vwCl [(x, .inr (10, [.ref ro, .ref rw, .ref bo, .ref li, .ref sh, .ref tx, .ref lo, .ref nl])), (rw, .inr (6, [.ref am, .ref q, .ref bq])), (am, zaL (G.2 0) 41 (fun _ => 0)), (q, .inr (2, [.ref sa, .ref da, .ref wa, .long (lz (ru)), .long (lz (rd)), .int (iz (pq))])), (sa, .inr (9, [.ref sb, .int (iz (sn2)), .long (lz (st2))])), (sb, zaL (G.2 0) 40 (sf2)), (da, .inr (9, [.ref db, .int (iz (dn2)), .long (lz (dt2))])), (db, zaL (G.2 0) 40 (df2))] H := hP
  have hD : va_D A [(x, .inr (10, [.ref ro, .ref rw, .ref bo, .ref li, .ref sh, .ref tx, .ref lo, .ref nl])), (rw, .inr (6, [.ref am, .ref q, .ref bq])), (am, zaL (G.2 0) 41 (fun _ => 0)), (q, .inr (2, [.ref sa, .ref da, .ref wa, .long (lz (ru)), .long (lz (rd)), .int (iz (pq))])), (sa, .inr (9, [.ref sb, .int (iz (sn2)), .long (lz (st2))])), (sb, zaL (G.2 0) 40 (sf2)), (da, .inr (9, [.ref db, .int (iz (dn2)), .long (lz (dt2))])), (db, zaL (G.2 0) 40 (df2))] := hD
  have hz : zz = 0 := hz
  rw [hQ]
  exact zr_iret (z := zz) (u := (sf2, sn2, st2, df2, dn2, dt2, ru, rd, pq)) hx hb hr hlocks hP hD hS (by first | exact Nat.le_of_ble_eq_true rfl | omega) (by first | exact Nat.le_of_ble_eq_true rfl | omega) dX9_signAt_12 (show zz = 0 from hz)

def rm_c_X9_signAt_x : Room := { frames := 8, cells := 1, slots := 6, locals := 130 }
set_option maxHeartbeats 1000000 in
set_option maxRecDepth 100000 in
theorem c_X9_signAt_x (l : Launch) (G : zG) (s1 : Nat) (s2 : Nat) (s3 : Nat) (x : Nat) (ro : Nat) (rw : Nat) (bo : Nat) (li : Nat) (sh : Nat) (tx : Nat) (lo : Nat) (nl : Nat) (po : Int) (hl0 : l.stackTraces = false) (h0 : -2147483648 ≤ po ∧ po < 2147483648) (h1 : ¬ (0 ≤ po ∧ po ≤ 20000)) : zMx l (zXE s1 s2 s3) G yX9_signAt wsX9_signAt rm_c_X9_signAt_x [.ref x, .int (iz (po))] [(x, .inr (10, [.ref ro, .ref rw, .ref bo, .ref li, .ref sh, .ref tx, .ref lo, .ref nl]))] "java/lang/IllegalArgumentException" 1 6 := by
  refine zMx_of (cc := cX9_signAt) (maxL := 2) (ret := (some .int)) (by decide) rfl (Nat.le_of_ble_eq_true rfl) ?_
  intro p e s m below meth c ls A Q hQ hx hb hr hts hown hlocks hml hout hKX hE hP hD hA hS hl
  have hK := hKX.1
  obtain ⟨H, hH⟩ : ∃ h, h = s.heap := ⟨_, rfl⟩
  obtain ⟨locs, hlo⟩ : ∃ h : List Loc, h = [] := ⟨_, rfl⟩
  have hS : va_S A s.heap H locs := by rw [hH, hlo]; exact hS
  have hP : va_P G.1 vwCl [(x, .inr (10, [.ref ro, .ref rw, .ref bo, .ref li, .ref sh, .ref tx, .ref lo, .ref nl]))] H := by rw [hH]; exact hP
  have hD : va_D A [(x, .inr (10, [.ref ro, .ref rw, .ref bo, .ref li, .ref sh, .ref tx, .ref lo, .ref nl]))] := hD
  have hl : lv_has ls 2 [(0, .ref x), (1, .int (iz (po)))] := hl
  rw [← hH, ← hlo]
  refine lv_iload_n hx hb dX9_signAt_0 rfl (lv_at hl 1 rfl) ?_
  rw [hQ]
  exact zx_thr (X := "java/lang/IllegalArgumentException") (vx_runS (As := [.int (iz (po))]) (rest := []) ⟨hx, hb, hml, hown, hts⟩ (c_X9_demandRate_x l G s1 s2 s3 po hl0 (by omega) (by omega) H.size) (va_cwS 1 hts gX9_signAt_X9_demandRate rfl rfl rfl (by decide +kernel) ⟨Nat.le_of_ble_eq_true rfl, Nat.le_of_ble_eq_true rfl⟩) (zpSe zXE_ok hE hS hA hKX hP hD [] rfl rfl) rfl rfl hl.1 rfl (lv_room (Nat.le_of_ble_eq_true rfl)) dX9_signAt_1 ⟨(by first | exact Nat.le_of_ble_eq_true rfl | (show _ ≤ (1 : Nat); omega)), (by first | exact Nat.le_of_ble_eq_true rfl | (show _ ≤ (6 : Nat); omega))⟩) hS (va_free (wc := []) hD hS hA [] rfl) hout hlocks (by first | exact Nat.le_of_ble_eq_true rfl | omega) (by first | exact Nat.le_of_ble_eq_true rfl | omega)

def rm_c_X9_changes : Room := { frames := 1, cells := 0, slots := 0, locals := 28 }
theorem iw_X9_changes_X9 : ∀ w ∈ wsX90, w ∈ wsX9_changes := by decide +kernel
set_option maxHeartbeats 1000000 in
set_option maxRecDepth 100000 in
theorem c_X9_changes (l : Launch) (G : zG) (x : Nat) (ro : Nat) (rw : Nat) (bo : Nat) (li : Nat) (sh : Nat) (tx : Nat) (lo : Nat) (nl : Nat) (am : Nat) (q : Nat) (bq : Nat)  : zM l G yX9_changes wsX9_changes rm_c_X9_changes [.ref x] [(x, .inr (10, [.ref ro, .ref rw, .ref bo, .ref li, .ref sh, .ref tx, .ref lo, .ref nl])), (rw, .inr (6, [.ref am, .ref q, .ref bq])), (am, zaL (G.2 0) 41 (fun _ => 0))] (fun A => zQi G (fun (z : Int) (_ : Unit) => z = 0) (fun (_ : Unit) => [(x, .inr (10, [.ref ro, .ref rw, .ref bo, .ref li, .ref sh, .ref tx, .ref lo, .ref nl])), (rw, .inr (6, [.ref am, .ref q, .ref bq])), (am, zaL (G.2 0) 41 (fun _ => 0))]) A) 0 0 := by
  refine zM_of (cc := cX9_changes) (maxL := 1) (ret := (some .int)) (by decide) rfl (Nat.le_of_ble_eq_true rfl) ?_
  intro p e s m below meth c ls A Q hQ hx hb hr hts hown hlocks hml hnm hKX hP hD hA hS hl
  have hK := hKX.1
  have iwX9 := iw_X9_changes_X9
  obtain ⟨H, hH⟩ : ∃ h, h = s.heap := ⟨_, rfl⟩
  obtain ⟨locs, hlo⟩ : ∃ h : List Loc, h = [] := ⟨_, rfl⟩
  have hS : va_S A s.heap H locs := by rw [hH, hlo]; exact hS
  have hP : va_P G.1 vwCl [(x, .inr (10, [.ref ro, .ref rw, .ref bo, .ref li, .ref sh, .ref tx, .ref lo, .ref nl])), (rw, .inr (6, [.ref am, .ref q, .ref bq])), (am, zaL (G.2 0) 41 (fun _ => 0))] H := by rw [hH]; exact hP
  have hD : va_D A [(x, .inr (10, [.ref ro, .ref rw, .ref bo, .ref li, .ref sh, .ref tx, .ref lo, .ref nl])), (rw, .inr (6, [.ref am, .ref q, .ref bq])), (am, zaL (G.2 0) 41 (fun _ => 0))] := hD
  have hl : lv_has ls 1 [(0, .ref x)] := hl
  rw [← hH, ← hlo]
  refine lv_aload_n hx hb dX9_changes_0 rfl (lv_at hl 0 rfl) ?_
  refine va_get (D := G.1) (ci := 10) (v := .ref rw) (C := RX9) (T := TX9) (N := 8) hx hb hts iwX9 hown hK hP 0 rfl rfl 1 (by decide) (hts (.fieldLink RX9 19 "AnnuityHouse" "row" "LAnnuityHouse$Row;") (by decide +kernel)) (fun _ h9 => h9) rfl dX9_changes_1 ?_
  refine zc_i (wr := [(x, .inr (10, [.ref ro, .ref rw, .ref bo, .ref li, .ref sh, .ref tx, .ref lo, .ref nl]))]) (va_runV (As := []) (rest := []) ⟨hx, hb, hml, hown, hts⟩ (c_X5_countChanges l G rw am q bq  H.size) (cwV 0 hts gX9_changes_X5_countChanges rfl rfl rfl (by decide +kernel) ⟨Nat.le_of_ble_eq_true rfl, Nat.le_of_ble_eq_true rfl⟩) (zpV hKX hP hD [1, 2] rfl rfl 1 6 rfl rfl) rfl rfl hl.1 rfl (lv_room (Nat.le_of_ble_eq_true rfl)) dX9_changes_4 ⟨(by first | exact Nat.le_of_ble_eq_true rfl | (show _ ≤ (0 : Nat); omega)), (by first | exact Nat.le_of_ble_eq_true rfl | (show _ ≤ (0 : Nat); omega))⟩) hP hD hS hA [1, 2] [0] rfl rfl rfl (by decide) (fun zz u_1 H locs hz hP hD hS => ?_)
  have hP : va_P G.1 vwCl [(x, .inr (10, [.ref ro, .ref rw, .ref bo, .ref li, .ref sh, .ref tx, .ref lo, .ref nl])), (rw, .inr (6, [.ref am, .ref q, .ref bq])), (am, zaL (G.2 0) 41 (fun _ => 0))] H := hP
  have hD : va_D A [(x, .inr (10, [.ref ro, .ref rw, .ref bo, .ref li, .ref sh, .ref tx, .ref lo, .ref nl])), (rw, .inr (6, [.ref am, .ref q, .ref bq])), (am, zaL (G.2 0) 41 (fun _ => 0))] := hD
  have hz : zz = 0 := hz
  rw [hQ]
  exact zr_iret (z := zz) (u := ()) hx hb hr hlocks hP hD hS (by first | exact Nat.le_of_ble_eq_true rfl | omega) (by first | exact Nat.le_of_ble_eq_true rfl | omega) dX9_changes_7 (show zz = 0 from hz)

def rm_c_X9_rowYield : Room := { frames := 7, cells := 1, slots := 6, locals := 110 }
theorem iw_X9_rowYield_X9 : ∀ w ∈ wsX90, w ∈ wsX9_rowYield := by decide +kernel
set_option maxHeartbeats 1000000 in
set_option maxRecDepth 100000 in
theorem c_X9_rowYield (l : Launch) (G : zG) (s1 : Nat) (s2 : Nat) (s3 : Nat) (x : Nat) (ro : Nat) (rw : Nat) (bo : Nat) (li : Nat) (sh : Nat) (tx : Nat) (lo : Nat) (nl : Nat) (am : Nat) (q : Nat) (bq : Nat) (hl0 : l.stackTraces = false) : zMx l (zXE s1 s2 s3) G yX9_rowYield wsX9_rowYield rm_c_X9_rowYield [.ref x] [(x, .inr (10, [.ref ro, .ref rw, .ref bo, .ref li, .ref sh, .ref tx, .ref lo, .ref nl])), (rw, .inr (6, [.ref am, .ref q, .ref bq])), (am, zaL (G.2 0) 41 (fun _ => 0))] "java/lang/IllegalStateException" 1 6 := by
  refine zMx_of (cc := cX9_rowYield) (maxL := 1) (ret := (some .int)) (by decide) rfl (Nat.le_of_ble_eq_true rfl) ?_
  intro p e s m below meth c ls A Q hQ hx hb hr hts hown hlocks hml hout hKX hE hP hD hA hS hl
  have hK := hKX.1
  have iwX9 := iw_X9_rowYield_X9
  obtain ⟨H, hH⟩ : ∃ h, h = s.heap := ⟨_, rfl⟩
  obtain ⟨locs, hlo⟩ : ∃ h : List Loc, h = [] := ⟨_, rfl⟩
  have hS : va_S A s.heap H locs := by rw [hH, hlo]; exact hS
  have hP : va_P G.1 vwCl [(x, .inr (10, [.ref ro, .ref rw, .ref bo, .ref li, .ref sh, .ref tx, .ref lo, .ref nl])), (rw, .inr (6, [.ref am, .ref q, .ref bq])), (am, zaL (G.2 0) 41 (fun _ => 0))] H := by rw [hH]; exact hP
  have hD : va_D A [(x, .inr (10, [.ref ro, .ref rw, .ref bo, .ref li, .ref sh, .ref tx, .ref lo, .ref nl])), (rw, .inr (6, [.ref am, .ref q, .ref bq])), (am, zaL (G.2 0) 41 (fun _ => 0))] := hD
  have hl : lv_has ls 1 [(0, .ref x)] := hl
  rw [← hH, ← hlo]
  refine lv_aload_n hx hb dX9_rowYield_0 rfl (lv_at hl 0 rfl) ?_
  refine va_get (D := G.1) (ci := 10) (v := .ref rw) (C := RX9) (T := TX9) (N := 8) hx hb hts iwX9 hown hK hP 0 rfl rfl 1 (by decide) (hts (.fieldLink RX9 19 "AnnuityHouse" "row" "LAnnuityHouse$Row;") (by decide +kernel)) (fun _ h9 => h9) rfl dX9_rowYield_1 ?_
  refine zc_i (wr := [(x, .inr (10, [.ref ro, .ref rw, .ref bo, .ref li, .ref sh, .ref tx, .ref lo, .ref nl]))]) (va_runV (As := []) (rest := []) ⟨hx, hb, hml, hown, hts⟩ (c_X5_countChanges l G rw am q bq  H.size) (cwV 0 hts gX9_rowYield_X5_countChanges rfl rfl rfl (by decide +kernel) ⟨Nat.le_of_ble_eq_true rfl, Nat.le_of_ble_eq_true rfl⟩) (zpV hKX hP hD [1, 2] rfl rfl 1 6 rfl rfl) rfl rfl hl.1 rfl (lv_room (Nat.le_of_ble_eq_true rfl)) dX9_rowYield_4 ⟨(by first | exact Nat.le_of_ble_eq_true rfl | (show _ ≤ (1 : Nat); omega)), (by first | exact Nat.le_of_ble_eq_true rfl | (show _ ≤ (6 : Nat); omega))⟩) hP hD hS hA [1, 2] [0] rfl rfl rfl (by decide) (fun zz u_1 H locs hz hP hD hS => ?_)
  have hP : va_P G.1 vwCl [(x, .inr (10, [.ref ro, .ref rw, .ref bo, .ref li, .ref sh, .ref tx, .ref lo, .ref nl])), (rw, .inr (6, [.ref am, .ref q, .ref bq])), (am, zaL (G.2 0) 41 (fun _ => 0))] H := hP
  have hD : va_D A [(x, .inr (10, [.ref ro, .ref rw, .ref bo, .ref li, .ref sh, .ref tx, .ref lo, .ref nl])), (rw, .inr (6, [.ref am, .ref q, .ref bq])), (am, zaL (G.2 0) 41 (fun _ => 0))] := hD
  have hz : zz = 0 := hz
  refine lv_iconst (v := iz (1)) hx hb dX9_rowYield_7 rfl ?_
  refine zr_icmp_ne (x := zz) (y := 1) (tgt := 15) hx hb (⟨by omega, by omega⟩) (⟨by omega, by omega⟩) dX9_rowYield_8 (by decide) (fun h_3 => ?_) (fun h_3 => ?_)
  ·
    refine lv_iconst (v := iz (0)) hx hb dX9_rowYield_15 rfl ?_
    rw [hQ]
    exact zx_thr (X := "java/lang/IllegalStateException") (vx_runS (As := [.int (iz (0))]) (rest := []) ⟨hx, hb, hml, hown, hts⟩ (c_X9_demandState_x l G s1 s2 s3 hl0 H.size) (va_cwS 1 hts gX9_rowYield_X9_demandState rfl rfl rfl (by decide +kernel) ⟨Nat.le_of_ble_eq_true rfl, Nat.le_of_ble_eq_true rfl⟩) (zpSe zXE_ok hE hS hA hKX hP hD [] rfl rfl) rfl rfl hl.1 rfl (lv_room (Nat.le_of_ble_eq_true rfl)) dX9_rowYield_16 ⟨(by first | exact Nat.le_of_ble_eq_true rfl | (show _ ≤ (1 : Nat); omega)), (by first | exact Nat.le_of_ble_eq_true rfl | (show _ ≤ (6 : Nat); omega))⟩) hS (va_free (wc := []) hD hS hA [] rfl) hout hlocks (by first | exact Nat.le_of_ble_eq_true rfl | omega) (by first | exact Nat.le_of_ble_eq_true rfl | omega)
  · exact absurd h_3 (by omega)

def rm_c_X9_takeNextLoan : Room := { frames := 0, cells := 0, slots := 0, locals := 0 }
theorem iw_X9_takeNextLoan_X9 : ∀ w ∈ wsX90, w ∈ wsX9_takeNextLoan := by decide +kernel
set_option maxHeartbeats 1000000 in
set_option maxRecDepth 100000 in
theorem c_X9_takeNextLoan (l : Launch) (G : zG) (x : Nat) (ro : Nat) (rw : Nat) (bo : Nat) (li : Nat) (sh : Nat) (tx : Nat) (lo : Nat) (nl : Nat)  : zM l G yX9_takeNextLoan wsX9_takeNextLoan rm_c_X9_takeNextLoan [.ref x] [(x, .inr (10, [.ref ro, .ref rw, .ref bo, .ref li, .ref sh, .ref tx, .ref lo, .ref nl]))] (fun A => zQv G (fun (_ : Unit) => True) (fun (_ : Unit) => [(x, .inr (10, [.ref ro, .ref rw, .ref bo, .ref li, .ref sh, .ref tx, .ref nl, .ref lo]))]) A) 0 0 := by
  refine zM_of (cc := cX9_takeNextLoan) (maxL := 2) (ret := none) (by decide) rfl (Nat.le_of_ble_eq_true rfl) ?_
  intro p e s m below meth c ls A Q hQ hx hb hr hts hown hlocks hml hnm hKX hP hD hA hS hl
  have hK := hKX.1
  have iwX9 := iw_X9_takeNextLoan_X9
  obtain ⟨H, hH⟩ : ∃ h, h = s.heap := ⟨_, rfl⟩
  obtain ⟨locs, hlo⟩ : ∃ h : List Loc, h = [] := ⟨_, rfl⟩
  have hS : va_S A s.heap H locs := by rw [hH, hlo]; exact hS
  have hP : va_P G.1 vwCl [(x, .inr (10, [.ref ro, .ref rw, .ref bo, .ref li, .ref sh, .ref tx, .ref lo, .ref nl]))] H := by rw [hH]; exact hP
  have hD : va_D A [(x, .inr (10, [.ref ro, .ref rw, .ref bo, .ref li, .ref sh, .ref tx, .ref lo, .ref nl]))] := hD
  have hl : lv_has ls 2 [(0, .ref x)] := hl
  rw [← hH, ← hlo]
  refine lv_aload_n hx hb dX9_takeNextLoan_0 rfl (lv_at hl 0 rfl) ?_
  refine va_get (D := G.1) (ci := 10) (v := .ref lo) (C := RX9) (T := TX9) (N := 8) hx hb hts iwX9 hown hK hP 0 rfl rfl 6 (by decide) (hts (.fieldLink RX9 54 "AnnuityHouse" "loan" "LAnnuityHouse$Loan;") (by decide +kernel)) (fun _ h9 => h9) rfl dX9_takeNextLoan_1 ?_
  refine lv_astore_n (lv' := [(1, .ref lo), (0, .ref x)]) hx hb dX9_takeNextLoan_4 rfl hl (by decide) rfl (fun ls hl => ?_)
  refine lv_aload_n hx hb dX9_takeNextLoan_5 rfl (lv_at hl 1 rfl) ?_
  refine lv_aload_n hx hb dX9_takeNextLoan_6 rfl (lv_at hl 1 rfl) ?_
  refine va_get (D := G.1) (ci := 10) (v := .ref nl) (C := RX9) (T := TX9) (N := 8) hx hb hts iwX9 hown hK hP 0 rfl rfl 7 (by decide) (hts (.fieldLink RX9 58 "AnnuityHouse" "nextLoan" "LAnnuityHouse$Loan;") (by decide +kernel)) (fun _ h9 => h9) rfl dX9_takeNextLoan_7 ?_
  refine va_put (D := G.1) (ci := 10) (v := .ref nl) (ty := (.object "AnnuityHouse$Loan")) (C := RX9) (T := TX9) (N := 8) hx hb hts iwX9 tyX9 tyX9_ok nmX9 hown hK hP hD hS 0 rfl rfl 6 (by decide) (hts (.fieldLink RX9 54 "AnnuityHouse" "loan" "LAnnuityHouse$Loan;") (by decide +kernel)) (fun _ h9 => h9) rfl (by decide +kernel) rfl rfl (Nat.le_of_ble_eq_true rfl) dX9_takeNextLoan_10 (fun H locs hP hD hS => ?_)
  have hP : va_P G.1 vwCl [(x, .inr (10, [.ref ro, .ref rw, .ref bo, .ref li, .ref sh, .ref tx, .ref nl, .ref nl]))] H := hP
  have hD : va_D A [(x, .inr (10, [.ref ro, .ref rw, .ref bo, .ref li, .ref sh, .ref tx, .ref nl, .ref nl]))] := hD
  refine lv_aload_n hx hb dX9_takeNextLoan_13 rfl (lv_at hl 1 rfl) ?_
  refine lv_aload_n hx hb dX9_takeNextLoan_14 rfl (lv_at hl 0 rfl) ?_
  refine va_put (D := G.1) (ci := 10) (v := .ref lo) (ty := (.object "AnnuityHouse$Loan")) (C := RX9) (T := TX9) (N := 8) hx hb hts iwX9 tyX9 tyX9_ok nmX9 hown hK hP hD hS 0 rfl rfl 7 (by decide) (hts (.fieldLink RX9 58 "AnnuityHouse" "nextLoan" "LAnnuityHouse$Loan;") (by decide +kernel)) (fun _ h9 => h9) rfl (by decide +kernel) rfl rfl (Nat.le_of_ble_eq_true rfl) dX9_takeNextLoan_15 (fun H locs hP hD hS => ?_)
  have hP : va_P G.1 vwCl [(x, .inr (10, [.ref ro, .ref rw, .ref bo, .ref li, .ref sh, .ref tx, .ref nl, .ref lo]))] H := hP
  have hD : va_D A [(x, .inr (10, [.ref ro, .ref rw, .ref bo, .ref li, .ref sh, .ref tx, .ref nl, .ref lo]))] := hD
  rw [hQ]
  exact zr_vret (u := ()) hx hb hr hlocks hP hD hS (by first | exact Nat.le_of_ble_eq_true rfl | omega) (by first | exact Nat.le_of_ble_eq_true rfl | omega) dX9_takeNextLoan_18 (show True from trivial)

def rm_c_X9_lend_o : Room := { frames := 6, cells := 0, slots := 0, locals := 175 }
theorem iw_X9_lend_X9 : ∀ w ∈ wsX90, w ∈ wsX9_lend := by decide +kernel
set_option maxHeartbeats 1000000 in
set_option maxRecDepth 100000 in
theorem c_X9_lend_o (l : Launch) (G : zG) (x : Nat) (ro : Nat) (rw : Nat) (bo : Nat) (li : Nat) (sh : Nat) (tx : Nat) (lo : Nat) (nl : Nat) (nr : Nat) (ne : Nat) (nh : Nat) (tb : Nat) (q : Nat) (tr : Nat → Nat) (sa : Nat) (sb : Nat) (da : Nat) (db : Nat) (wa : Nat) (wb : Nat) (mo : Int) (po : Int) (pn : Int) (h0 : -9223372036854775808 ≤ mo ∧ mo < 9223372036854775808) (h01 : -2147483648 ≤ po ∧ po < 2147483648) (h02 : -2147483648 ≤ pn ∧ pn < 2147483648) (h1 : 1 ≤ mo ∧ mo ≤ 1000000000 ∧ 0 ≤ po ∧ po ≤ 20000 ∧ 1 ≤ pn ∧ pn ≤ 60) : zM l G yX9_lend wsX9_lend rm_c_X9_lend_o [.ref x, .long (lz (mo)), .int (iz (po)), .int (iz (pn))] [(x, .inr (10, [.ref ro, .ref rw, .ref bo, .ref li, .ref sh, .ref tx, .ref lo, .ref nl])), (nl, .inr (4, [.ref nr, .ref ne, .ref nh, .ref tb, .ref q, .long (lz (0)), .int (iz (0)), .int (iz (0))])), (nr, zaI (G.2 1) 61 (fun _ => 0)), (ne, zaL (G.2 0) 61 (fun _ => 0)), (nh, zaZ (G.2 2) 61 (fun _ => 0)), (tb, zaR (G.2 3) 7 (ztb tr)), ((tr 0), zaL (G.2 0) 61 (fun _ => 0)), ((tr 1), zaL (G.2 0) 61 (fun _ => 0)), ((tr 2), zaL (G.2 0) 61 (fun _ => 0)), ((tr 3), zaL (G.2 0) 61 (fun _ => 0)), ((tr 4), zaL (G.2 0) 61 (fun _ => 0)), ((tr 5), zaL (G.2 0) 61 (fun _ => 0)), ((tr 6), zaL (G.2 0) 61 (fun _ => 0)), (q, .inr (2, [.ref sa, .ref da, .ref wa, .long (lz (1)), .long (lz (1)), .int (iz (0))])), (sa, .inr (9, [.ref sb, .int (iz (0)), .long (lz (0))])), (sb, zaL (G.2 0) 40 (fun _ => 0)), (da, .inr (9, [.ref db, .int (iz (0)), .long (lz (0))])), (db, zaL (G.2 0) 40 (fun _ => 0)), (wa, .inr (9, [.ref wb, .int (iz (0)), .long (lz (0))])), (wb, zaL (G.2 0) 40 (fun _ => 0)), (ro, .inr (5, [.int (iz (6))]))] (fun A => zQl G (fun (z : Int) (u : (Int → Int) × (Int → Int) × (Int → Int) × (Int → Int) × (Int → Int) × (Int → Int) × (Int → Int) × (Int → Int) × (Int → Int) × (Int → Int) × Int × (Int → Int) × Int × Int × (Int → Int) × Int × Int × (Int → Int) × Int × Int × Int × Int × Int) => z = zinst mo po pn) (fun (u : (Int → Int) × (Int → Int) × (Int → Int) × (Int → Int) × (Int → Int) × (Int → Int) × (Int → Int) × (Int → Int) × (Int → Int) × (Int → Int) × Int × (Int → Int) × Int × Int × (Int → Int) × Int × Int × (Int → Int) × Int × Int × Int × Int × Int) => [(x, .inr (10, [.ref ro, .ref rw, .ref bo, .ref li, .ref sh, .ref tx, .ref nl, .ref lo])), (nl, .inr (4, [.ref nr, .ref ne, .ref nh, .ref tb, .ref q, .long (lz (mo)), .int (iz (pn)), .int (iz (u.2.2.2.2.2.2.2.2.2.2.1))])), (nr, zaI (G.2 1) 61 (u.1)), (ne, zaL (G.2 0) 61 (u.2.1)), (nh, zaZ (G.2 2) 61 (u.2.2.1)), (tb, zaR (G.2 3) 7 (ztb tr)), ((tr 0), zaL (G.2 0) 61 (u.2.2.2.1)), ((tr 1), zaL (G.2 0) 61 (u.2.2.2.2.1)), ((tr 2), zaL (G.2 0) 61 (u.2.2.2.2.2.1)), ((tr 3), zaL (G.2 0) 61 (u.2.2.2.2.2.2.1)), ((tr 4), zaL (G.2 0) 61 (u.2.2.2.2.2.2.2.1)), ((tr 5), zaL (G.2 0) 61 (u.2.2.2.2.2.2.2.2.1)), ((tr 6), zaL (G.2 0) 61 (u.2.2.2.2.2.2.2.2.2.1)), (q, .inr (2, [.ref sa, .ref da, .ref wa, .long (lz (u.2.2.2.2.2.2.2.2.2.2.2.2.2.2.2.2.2.2.2.2.1)), .long (lz (u.2.2.2.2.2.2.2.2.2.2.2.2.2.2.2.2.2.2.2.2.2.1)), .int (iz (u.2.2.2.2.2.2.2.2.2.2.2.2.2.2.2.2.2.2.2.2.2.2))])), (sa, .inr (9, [.ref sb, .int (iz (u.2.2.2.2.2.2.2.2.2.2.2.2.1)), .long (lz (u.2.2.2.2.2.2.2.2.2.2.2.2.2.1))])), (sb, zaL (G.2 0) 40 (u.2.2.2.2.2.2.2.2.2.2.2.1)), (da, .inr (9, [.ref db, .int (iz (u.2.2.2.2.2.2.2.2.2.2.2.2.2.2.2.1)), .long (lz (u.2.2.2.2.2.2.2.2.2.2.2.2.2.2.2.2.1))])), (db, zaL (G.2 0) 40 (u.2.2.2.2.2.2.2.2.2.2.2.2.2.2.1)), (wa, .inr (9, [.ref wb, .int (iz (u.2.2.2.2.2.2.2.2.2.2.2.2.2.2.2.2.2.2.1)), .long (lz (u.2.2.2.2.2.2.2.2.2.2.2.2.2.2.2.2.2.2.2.1))])), (wb, zaL (G.2 0) 40 (u.2.2.2.2.2.2.2.2.2.2.2.2.2.2.2.2.2.1)), (ro, .inr (5, [.int (iz (6))]))]) A) 0 0 := by
  refine zM_of (cc := cX9_lend) (maxL := 5) (ret := (some .long)) (by decide) rfl (Nat.le_of_ble_eq_true rfl) ?_
  intro p e s m below meth c ls A Q hQ hx hb hr hts hown hlocks hml hnm hKX hP hD hA hS hl
  have hK := hKX.1
  have iwX9 := iw_X9_lend_X9
  obtain ⟨H, hH⟩ : ∃ h, h = s.heap := ⟨_, rfl⟩
  obtain ⟨locs, hlo⟩ : ∃ h : List Loc, h = [] := ⟨_, rfl⟩
  have hS : va_S A s.heap H locs := by rw [hH, hlo]; exact hS
  have hP : va_P G.1 vwCl [(x, .inr (10, [.ref ro, .ref rw, .ref bo, .ref li, .ref sh, .ref tx, .ref lo, .ref nl])), (nl, .inr (4, [.ref nr, .ref ne, .ref nh, .ref tb, .ref q, .long (lz (0)), .int (iz (0)), .int (iz (0))])), (nr, zaI (G.2 1) 61 (fun _ => 0)), (ne, zaL (G.2 0) 61 (fun _ => 0)), (nh, zaZ (G.2 2) 61 (fun _ => 0)), (tb, zaR (G.2 3) 7 (ztb tr)), ((tr 0), zaL (G.2 0) 61 (fun _ => 0)), ((tr 1), zaL (G.2 0) 61 (fun _ => 0)), ((tr 2), zaL (G.2 0) 61 (fun _ => 0)), ((tr 3), zaL (G.2 0) 61 (fun _ => 0)), ((tr 4), zaL (G.2 0) 61 (fun _ => 0)), ((tr 5), zaL (G.2 0) 61 (fun _ => 0)), ((tr 6), zaL (G.2 0) 61 (fun _ => 0)), (q, .inr (2, [.ref sa, .ref da, .ref wa, .long (lz (1)), .long (lz (1)), .int (iz (0))])), (sa, .inr (9, [.ref sb, .int (iz (0)), .long (lz (0))])), (sb, zaL (G.2 0) 40 (fun _ => 0)), (da, .inr (9, [.ref db, .int (iz (0)), .long (lz (0))])), (db, zaL (G.2 0) 40 (fun _ => 0)), (wa, .inr (9, [.ref wb, .int (iz (0)), .long (lz (0))])), (wb, zaL (G.2 0) 40 (fun _ => 0)), (ro, .inr (5, [.int (iz (6))]))] H := by rw [hH]; exact hP
  have hD : va_D A [(x, .inr (10, [.ref ro, .ref rw, .ref bo, .ref li, .ref sh, .ref tx, .ref lo, .ref nl])), (nl, .inr (4, [.ref nr, .ref ne, .ref nh, .ref tb, .ref q, .long (lz (0)), .int (iz (0)), .int (iz (0))])), (nr, zaI (G.2 1) 61 (fun _ => 0)), (ne, zaL (G.2 0) 61 (fun _ => 0)), (nh, zaZ (G.2 2) 61 (fun _ => 0)), (tb, zaR (G.2 3) 7 (ztb tr)), ((tr 0), zaL (G.2 0) 61 (fun _ => 0)), ((tr 1), zaL (G.2 0) 61 (fun _ => 0)), ((tr 2), zaL (G.2 0) 61 (fun _ => 0)), ((tr 3), zaL (G.2 0) 61 (fun _ => 0)), ((tr 4), zaL (G.2 0) 61 (fun _ => 0)), ((tr 5), zaL (G.2 0) 61 (fun _ => 0)), ((tr 6), zaL (G.2 0) 61 (fun _ => 0)), (q, .inr (2, [.ref sa, .ref da, .ref wa, .long (lz (1)), .long (lz (1)), .int (iz (0))])), (sa, .inr (9, [.ref sb, .int (iz (0)), .long (lz (0))])), (sb, zaL (G.2 0) 40 (fun _ => 0)), (da, .inr (9, [.ref db, .int (iz (0)), .long (lz (0))])), (db, zaL (G.2 0) 40 (fun _ => 0)), (wa, .inr (9, [.ref wb, .int (iz (0)), .long (lz (0))])), (wb, zaL (G.2 0) 40 (fun _ => 0)), (ro, .inr (5, [.int (iz (6))]))] := hD
  have hl : lv_has ls 5 [(0, .ref x), (1, .long (lz (mo))), (3, .int (iz (po))), (4, .int (iz (pn)))] := hl
  rw [← hH, ← hlo]
  refine lv_lload_n hx hb dX9_lend_0 rfl (lv_at hl 1 rfl) ?_
  refine lv_lconst (v := lz (1)) hx hb dX9_lend_1 rfl ?_
  refine zr_ldc2 (z := 1000000000) hx hb hown (hts (.constantLong RX9 91 (1000000000)) (by decide +kernel)) rfl dX9_lend_2 ?_
  refine zc_z (wr := [(x, .inr (10, [.ref ro, .ref rw, .ref bo, .ref li, .ref sh, .ref tx, .ref lo, .ref nl])), (nl, .inr (4, [.ref nr, .ref ne, .ref nh, .ref tb, .ref q, .long (lz (0)), .int (iz (0)), .int (iz (0))])), (nr, zaI (G.2 1) 61 (fun _ => 0)), (ne, zaL (G.2 0) 61 (fun _ => 0)), (nh, zaZ (G.2 2) 61 (fun _ => 0)), (tb, zaR (G.2 3) 7 (ztb tr)), ((tr 0), zaL (G.2 0) 61 (fun _ => 0)), ((tr 1), zaL (G.2 0) 61 (fun _ => 0)), ((tr 2), zaL (G.2 0) 61 (fun _ => 0)), ((tr 3), zaL (G.2 0) 61 (fun _ => 0)), ((tr 4), zaL (G.2 0) 61 (fun _ => 0)), ((tr 5), zaL (G.2 0) 61 (fun _ => 0)), ((tr 6), zaL (G.2 0) 61 (fun _ => 0)), (q, .inr (2, [.ref sa, .ref da, .ref wa, .long (lz (1)), .long (lz (1)), .int (iz (0))])), (sa, .inr (9, [.ref sb, .int (iz (0)), .long (lz (0))])), (sb, zaL (G.2 0) 40 (fun _ => 0)), (da, .inr (9, [.ref db, .int (iz (0)), .long (lz (0))])), (db, zaL (G.2 0) 40 (fun _ => 0)), (wa, .inr (9, [.ref wb, .int (iz (0)), .long (lz (0))])), (wb, zaL (G.2 0) 40 (fun _ => 0)), (ro, .inr (5, [.int (iz (6))]))]) (va_runS (As := [.long (lz (mo)), .long (lz (1)), .long (lz (1000000000))]) (rest := []) ⟨hx, hb, hml, hown, hts⟩ (c_X9_isWithin l G mo 1 1000000000 (by omega) (by omega) (by omega) H.size) (va_cwS 3 hts gX9_lend_X9_isWithin rfl rfl rfl (by decide +kernel) ⟨Nat.le_of_ble_eq_true rfl, Nat.le_of_ble_eq_true rfl⟩) (zpS hKX hP hD [] rfl rfl) rfl rfl hl.1 rfl (lv_room (Nat.le_of_ble_eq_true rfl)) dX9_lend_5 ⟨(by first | exact Nat.le_of_ble_eq_true rfl | (show _ ≤ (0 : Nat); omega)), (by first | exact Nat.le_of_ble_eq_true rfl | (show _ ≤ (0 : Nat); omega))⟩) hP hD hS hA [] [0, 1, 2, 3, 4, 5, 6, 7, 8, 9, 10, 11, 12, 13, 14, 15, 16, 17, 18, 19, 20] rfl rfl rfl (by decide) (fun y1 u_1 H locs hy1 hP hD hS => ?_)
  have hP : va_P G.1 vwCl [(x, .inr (10, [.ref ro, .ref rw, .ref bo, .ref li, .ref sh, .ref tx, .ref lo, .ref nl])), (nl, .inr (4, [.ref nr, .ref ne, .ref nh, .ref tb, .ref q, .long (lz (0)), .int (iz (0)), .int (iz (0))])), (nr, zaI (G.2 1) 61 (fun _ => 0)), (ne, zaL (G.2 0) 61 (fun _ => 0)), (nh, zaZ (G.2 2) 61 (fun _ => 0)), (tb, zaR (G.2 3) 7 (ztb tr)), ((tr 0), zaL (G.2 0) 61 (fun _ => 0)), ((tr 1), zaL (G.2 0) 61 (fun _ => 0)), ((tr 2), zaL (G.2 0) 61 (fun _ => 0)), ((tr 3), zaL (G.2 0) 61 (fun _ => 0)), ((tr 4), zaL (G.2 0) 61 (fun _ => 0)), ((tr 5), zaL (G.2 0) 61 (fun _ => 0)), ((tr 6), zaL (G.2 0) 61 (fun _ => 0)), (q, .inr (2, [.ref sa, .ref da, .ref wa, .long (lz (1)), .long (lz (1)), .int (iz (0))])), (sa, .inr (9, [.ref sb, .int (iz (0)), .long (lz (0))])), (sb, zaL (G.2 0) 40 (fun _ => 0)), (da, .inr (9, [.ref db, .int (iz (0)), .long (lz (0))])), (db, zaL (G.2 0) 40 (fun _ => 0)), (wa, .inr (9, [.ref wb, .int (iz (0)), .long (lz (0))])), (wb, zaL (G.2 0) 40 (fun _ => 0)), (ro, .inr (5, [.int (iz (6))]))] H := hP
  have hD : va_D A [(x, .inr (10, [.ref ro, .ref rw, .ref bo, .ref li, .ref sh, .ref tx, .ref lo, .ref nl])), (nl, .inr (4, [.ref nr, .ref ne, .ref nh, .ref tb, .ref q, .long (lz (0)), .int (iz (0)), .int (iz (0))])), (nr, zaI (G.2 1) 61 (fun _ => 0)), (ne, zaL (G.2 0) 61 (fun _ => 0)), (nh, zaZ (G.2 2) 61 (fun _ => 0)), (tb, zaR (G.2 3) 7 (ztb tr)), ((tr 0), zaL (G.2 0) 61 (fun _ => 0)), ((tr 1), zaL (G.2 0) 61 (fun _ => 0)), ((tr 2), zaL (G.2 0) 61 (fun _ => 0)), ((tr 3), zaL (G.2 0) 61 (fun _ => 0)), ((tr 4), zaL (G.2 0) 61 (fun _ => 0)), ((tr 5), zaL (G.2 0) 61 (fun _ => 0)), ((tr 6), zaL (G.2 0) 61 (fun _ => 0)), (q, .inr (2, [.ref sa, .ref da, .ref wa, .long (lz (1)), .long (lz (1)), .int (iz (0))])), (sa, .inr (9, [.ref sb, .int (iz (0)), .long (lz (0))])), (sb, zaL (G.2 0) 40 (fun _ => 0)), (da, .inr (9, [.ref db, .int (iz (0)), .long (lz (0))])), (db, zaL (G.2 0) 40 (fun _ => 0)), (wa, .inr (9, [.ref wb, .int (iz (0)), .long (lz (0))])), (wb, zaL (G.2 0) 40 (fun _ => 0)), (ro, .inr (5, [.int (iz (6))]))] := hD
  have hy1 : y1 = decide ((1 : Int) ≤ mo ∧ mo ≤ (1000000000 : Int)) := hy1
  rw [show y1 = true from hy1.trans (decide_eq_true (by omega))]
  refine zc_v (wr := [(x, .inr (10, [.ref ro, .ref rw, .ref bo, .ref li, .ref sh, .ref tx, .ref lo, .ref nl])), (nl, .inr (4, [.ref nr, .ref ne, .ref nh, .ref tb, .ref q, .long (lz (0)), .int (iz (0)), .int (iz (0))])), (nr, zaI (G.2 1) 61 (fun _ => 0)), (ne, zaL (G.2 0) 61 (fun _ => 0)), (nh, zaZ (G.2 2) 61 (fun _ => 0)), (tb, zaR (G.2 3) 7 (ztb tr)), ((tr 0), zaL (G.2 0) 61 (fun _ => 0)), ((tr 1), zaL (G.2 0) 61 (fun _ => 0)), ((tr 2), zaL (G.2 0) 61 (fun _ => 0)), ((tr 3), zaL (G.2 0) 61 (fun _ => 0)), ((tr 4), zaL (G.2 0) 61 (fun _ => 0)), ((tr 5), zaL (G.2 0) 61 (fun _ => 0)), ((tr 6), zaL (G.2 0) 61 (fun _ => 0)), (q, .inr (2, [.ref sa, .ref da, .ref wa, .long (lz (1)), .long (lz (1)), .int (iz (0))])), (sa, .inr (9, [.ref sb, .int (iz (0)), .long (lz (0))])), (sb, zaL (G.2 0) 40 (fun _ => 0)), (da, .inr (9, [.ref db, .int (iz (0)), .long (lz (0))])), (db, zaL (G.2 0) 40 (fun _ => 0)), (wa, .inr (9, [.ref wb, .int (iz (0)), .long (lz (0))])), (wb, zaL (G.2 0) 40 (fun _ => 0)), (ro, .inr (5, [.int (iz (6))]))]) (va_runS (As := [.int (iz (zbb true))]) (rest := []) ⟨hx, hb, hml, hown, hts⟩ (c_X9_demand_o l G   H.size) (va_cwS 1 hts gX9_lend_X9_demand rfl rfl rfl (by decide +kernel) ⟨Nat.le_of_ble_eq_true rfl, Nat.le_of_ble_eq_true rfl⟩) (zpS hKX hP hD [] rfl rfl) rfl rfl hl.1 rfl (lv_room (Nat.le_of_ble_eq_true rfl)) dX9_lend_8 ⟨(by first | exact Nat.le_of_ble_eq_true rfl | (show _ ≤ (0 : Nat); omega)), (by first | exact Nat.le_of_ble_eq_true rfl | (show _ ≤ (0 : Nat); omega))⟩) hP hD hS hA [] [0, 1, 2, 3, 4, 5, 6, 7, 8, 9, 10, 11, 12, 13, 14, 15, 16, 17, 18, 19, 20] rfl rfl rfl (by decide) (fun u_3 H locs hq_6 hP hD hS => ?_)
  have hP : va_P G.1 vwCl [(x, .inr (10, [.ref ro, .ref rw, .ref bo, .ref li, .ref sh, .ref tx, .ref lo, .ref nl])), (nl, .inr (4, [.ref nr, .ref ne, .ref nh, .ref tb, .ref q, .long (lz (0)), .int (iz (0)), .int (iz (0))])), (nr, zaI (G.2 1) 61 (fun _ => 0)), (ne, zaL (G.2 0) 61 (fun _ => 0)), (nh, zaZ (G.2 2) 61 (fun _ => 0)), (tb, zaR (G.2 3) 7 (ztb tr)), ((tr 0), zaL (G.2 0) 61 (fun _ => 0)), ((tr 1), zaL (G.2 0) 61 (fun _ => 0)), ((tr 2), zaL (G.2 0) 61 (fun _ => 0)), ((tr 3), zaL (G.2 0) 61 (fun _ => 0)), ((tr 4), zaL (G.2 0) 61 (fun _ => 0)), ((tr 5), zaL (G.2 0) 61 (fun _ => 0)), ((tr 6), zaL (G.2 0) 61 (fun _ => 0)), (q, .inr (2, [.ref sa, .ref da, .ref wa, .long (lz (1)), .long (lz (1)), .int (iz (0))])), (sa, .inr (9, [.ref sb, .int (iz (0)), .long (lz (0))])), (sb, zaL (G.2 0) 40 (fun _ => 0)), (da, .inr (9, [.ref db, .int (iz (0)), .long (lz (0))])), (db, zaL (G.2 0) 40 (fun _ => 0)), (wa, .inr (9, [.ref wb, .int (iz (0)), .long (lz (0))])), (wb, zaL (G.2 0) 40 (fun _ => 0)), (ro, .inr (5, [.int (iz (6))]))] H := hP
  have hD : va_D A [(x, .inr (10, [.ref ro, .ref rw, .ref bo, .ref li, .ref sh, .ref tx, .ref lo, .ref nl])), (nl, .inr (4, [.ref nr, .ref ne, .ref nh, .ref tb, .ref q, .long (lz (0)), .int (iz (0)), .int (iz (0))])), (nr, zaI (G.2 1) 61 (fun _ => 0)), (ne, zaL (G.2 0) 61 (fun _ => 0)), (nh, zaZ (G.2 2) 61 (fun _ => 0)), (tb, zaR (G.2 3) 7 (ztb tr)), ((tr 0), zaL (G.2 0) 61 (fun _ => 0)), ((tr 1), zaL (G.2 0) 61 (fun _ => 0)), ((tr 2), zaL (G.2 0) 61 (fun _ => 0)), ((tr 3), zaL (G.2 0) 61 (fun _ => 0)), ((tr 4), zaL (G.2 0) 61 (fun _ => 0)), ((tr 5), zaL (G.2 0) 61 (fun _ => 0)), ((tr 6), zaL (G.2 0) 61 (fun _ => 0)), (q, .inr (2, [.ref sa, .ref da, .ref wa, .long (lz (1)), .long (lz (1)), .int (iz (0))])), (sa, .inr (9, [.ref sb, .int (iz (0)), .long (lz (0))])), (sb, zaL (G.2 0) 40 (fun _ => 0)), (da, .inr (9, [.ref db, .int (iz (0)), .long (lz (0))])), (db, zaL (G.2 0) 40 (fun _ => 0)), (wa, .inr (9, [.ref wb, .int (iz (0)), .long (lz (0))])), (wb, zaL (G.2 0) 40 (fun _ => 0)), (ro, .inr (5, [.int (iz (6))]))] := hD
  refine lv_iload_n hx hb dX9_lend_11 rfl (lv_at hl 2 rfl) ?_
  refine zc_v (wr := [(x, .inr (10, [.ref ro, .ref rw, .ref bo, .ref li, .ref sh, .ref tx, .ref lo, .ref nl])), (nl, .inr (4, [.ref nr, .ref ne, .ref nh, .ref tb, .ref q, .long (lz (0)), .int (iz (0)), .int (iz (0))])), (nr, zaI (G.2 1) 61 (fun _ => 0)), (ne, zaL (G.2 0) 61 (fun _ => 0)), (nh, zaZ (G.2 2) 61 (fun _ => 0)), (tb, zaR (G.2 3) 7 (ztb tr)), ((tr 0), zaL (G.2 0) 61 (fun _ => 0)), ((tr 1), zaL (G.2 0) 61 (fun _ => 0)), ((tr 2), zaL (G.2 0) 61 (fun _ => 0)), ((tr 3), zaL (G.2 0) 61 (fun _ => 0)), ((tr 4), zaL (G.2 0) 61 (fun _ => 0)), ((tr 5), zaL (G.2 0) 61 (fun _ => 0)), ((tr 6), zaL (G.2 0) 61 (fun _ => 0)), (q, .inr (2, [.ref sa, .ref da, .ref wa, .long (lz (1)), .long (lz (1)), .int (iz (0))])), (sa, .inr (9, [.ref sb, .int (iz (0)), .long (lz (0))])), (sb, zaL (G.2 0) 40 (fun _ => 0)), (da, .inr (9, [.ref db, .int (iz (0)), .long (lz (0))])), (db, zaL (G.2 0) 40 (fun _ => 0)), (wa, .inr (9, [.ref wb, .int (iz (0)), .long (lz (0))])), (wb, zaL (G.2 0) 40 (fun _ => 0)), (ro, .inr (5, [.int (iz (6))]))]) (va_runS (As := [.int (iz (po))]) (rest := []) ⟨hx, hb, hml, hown, hts⟩ (c_X9_demandRate_o l G po (by omega) (by omega) H.size) (va_cwS 1 hts gX9_lend_X9_demandRate rfl rfl rfl (by decide +kernel) ⟨Nat.le_of_ble_eq_true rfl, Nat.le_of_ble_eq_true rfl⟩) (zpS hKX hP hD [] rfl rfl) rfl rfl hl.1 rfl (lv_room (Nat.le_of_ble_eq_true rfl)) dX9_lend_12 ⟨(by first | exact Nat.le_of_ble_eq_true rfl | (show _ ≤ (0 : Nat); omega)), (by first | exact Nat.le_of_ble_eq_true rfl | (show _ ≤ (0 : Nat); omega))⟩) hP hD hS hA [] [0, 1, 2, 3, 4, 5, 6, 7, 8, 9, 10, 11, 12, 13, 14, 15, 16, 17, 18, 19, 20] rfl rfl rfl (by decide) (fun u_7 H locs td hP hD hS => ?_)
  have hP : va_P G.1 vwCl [(x, .inr (10, [.ref ro, .ref rw, .ref bo, .ref li, .ref sh, .ref tx, .ref lo, .ref nl])), (nl, .inr (4, [.ref nr, .ref ne, .ref nh, .ref tb, .ref q, .long (lz (0)), .int (iz (0)), .int (iz (0))])), (nr, zaI (G.2 1) 61 (fun _ => 0)), (ne, zaL (G.2 0) 61 (fun _ => 0)), (nh, zaZ (G.2 2) 61 (fun _ => 0)), (tb, zaR (G.2 3) 7 (ztb tr)), ((tr 0), zaL (G.2 0) 61 (fun _ => 0)), ((tr 1), zaL (G.2 0) 61 (fun _ => 0)), ((tr 2), zaL (G.2 0) 61 (fun _ => 0)), ((tr 3), zaL (G.2 0) 61 (fun _ => 0)), ((tr 4), zaL (G.2 0) 61 (fun _ => 0)), ((tr 5), zaL (G.2 0) 61 (fun _ => 0)), ((tr 6), zaL (G.2 0) 61 (fun _ => 0)), (q, .inr (2, [.ref sa, .ref da, .ref wa, .long (lz (1)), .long (lz (1)), .int (iz (0))])), (sa, .inr (9, [.ref sb, .int (iz (0)), .long (lz (0))])), (sb, zaL (G.2 0) 40 (fun _ => 0)), (da, .inr (9, [.ref db, .int (iz (0)), .long (lz (0))])), (db, zaL (G.2 0) 40 (fun _ => 0)), (wa, .inr (9, [.ref wb, .int (iz (0)), .long (lz (0))])), (wb, zaL (G.2 0) 40 (fun _ => 0)), (ro, .inr (5, [.int (iz (6))]))] H := hP
  have hD : va_D A [(x, .inr (10, [.ref ro, .ref rw, .ref bo, .ref li, .ref sh, .ref tx, .ref lo, .ref nl])), (nl, .inr (4, [.ref nr, .ref ne, .ref nh, .ref tb, .ref q, .long (lz (0)), .int (iz (0)), .int (iz (0))])), (nr, zaI (G.2 1) 61 (fun _ => 0)), (ne, zaL (G.2 0) 61 (fun _ => 0)), (nh, zaZ (G.2 2) 61 (fun _ => 0)), (tb, zaR (G.2 3) 7 (ztb tr)), ((tr 0), zaL (G.2 0) 61 (fun _ => 0)), ((tr 1), zaL (G.2 0) 61 (fun _ => 0)), ((tr 2), zaL (G.2 0) 61 (fun _ => 0)), ((tr 3), zaL (G.2 0) 61 (fun _ => 0)), ((tr 4), zaL (G.2 0) 61 (fun _ => 0)), ((tr 5), zaL (G.2 0) 61 (fun _ => 0)), ((tr 6), zaL (G.2 0) 61 (fun _ => 0)), (q, .inr (2, [.ref sa, .ref da, .ref wa, .long (lz (1)), .long (lz (1)), .int (iz (0))])), (sa, .inr (9, [.ref sb, .int (iz (0)), .long (lz (0))])), (sb, zaL (G.2 0) 40 (fun _ => 0)), (da, .inr (9, [.ref db, .int (iz (0)), .long (lz (0))])), (db, zaL (G.2 0) 40 (fun _ => 0)), (wa, .inr (9, [.ref wb, .int (iz (0)), .long (lz (0))])), (wb, zaL (G.2 0) 40 (fun _ => 0)), (ro, .inr (5, [.int (iz (6))]))] := hD
  refine lv_iload hx hb dX9_lend_15 (lv_at hl 3 rfl) ?_
  refine zr_i2l hx hb (x := pn) (⟨by omega, by omega⟩) dX9_lend_17 ?_
  refine lv_lconst (v := lz (1)) hx hb dX9_lend_18 rfl ?_
  refine zr_ldc2 (z := 60) hx hb hown (hts (.constantLong RX9 135 (60)) (by decide +kernel)) rfl dX9_lend_19 ?_
  refine zc_z (wr := [(x, .inr (10, [.ref ro, .ref rw, .ref bo, .ref li, .ref sh, .ref tx, .ref lo, .ref nl])), (nl, .inr (4, [.ref nr, .ref ne, .ref nh, .ref tb, .ref q, .long (lz (0)), .int (iz (0)), .int (iz (0))])), (nr, zaI (G.2 1) 61 (fun _ => 0)), (ne, zaL (G.2 0) 61 (fun _ => 0)), (nh, zaZ (G.2 2) 61 (fun _ => 0)), (tb, zaR (G.2 3) 7 (ztb tr)), ((tr 0), zaL (G.2 0) 61 (fun _ => 0)), ((tr 1), zaL (G.2 0) 61 (fun _ => 0)), ((tr 2), zaL (G.2 0) 61 (fun _ => 0)), ((tr 3), zaL (G.2 0) 61 (fun _ => 0)), ((tr 4), zaL (G.2 0) 61 (fun _ => 0)), ((tr 5), zaL (G.2 0) 61 (fun _ => 0)), ((tr 6), zaL (G.2 0) 61 (fun _ => 0)), (q, .inr (2, [.ref sa, .ref da, .ref wa, .long (lz (1)), .long (lz (1)), .int (iz (0))])), (sa, .inr (9, [.ref sb, .int (iz (0)), .long (lz (0))])), (sb, zaL (G.2 0) 40 (fun _ => 0)), (da, .inr (9, [.ref db, .int (iz (0)), .long (lz (0))])), (db, zaL (G.2 0) 40 (fun _ => 0)), (wa, .inr (9, [.ref wb, .int (iz (0)), .long (lz (0))])), (wb, zaL (G.2 0) 40 (fun _ => 0)), (ro, .inr (5, [.int (iz (6))]))]) (va_runS (As := [.long (lz (pn)), .long (lz (1)), .long (lz (60))]) (rest := []) ⟨hx, hb, hml, hown, hts⟩ (c_X9_isWithin l G pn 1 60 (by omega) (by omega) (by omega) H.size) (va_cwS 3 hts gX9_lend_X9_isWithin rfl rfl rfl (by decide +kernel) ⟨Nat.le_of_ble_eq_true rfl, Nat.le_of_ble_eq_true rfl⟩) (zpS hKX hP hD [] rfl rfl) rfl rfl hl.1 rfl (lv_room (Nat.le_of_ble_eq_true rfl)) dX9_lend_22 ⟨(by first | exact Nat.le_of_ble_eq_true rfl | (show _ ≤ (0 : Nat); omega)), (by first | exact Nat.le_of_ble_eq_true rfl | (show _ ≤ (0 : Nat); omega))⟩) hP hD hS hA [] [0, 1, 2, 3, 4, 5, 6, 7, 8, 9, 10, 11, 12, 13, 14, 15, 16, 17, 18, 19, 20] rfl rfl rfl (by decide) (fun y3 u_10 H locs hy3 hP hD hS => ?_)
  have hP : va_P G.1 vwCl [(x, .inr (10, [.ref ro, .ref rw, .ref bo, .ref li, .ref sh, .ref tx, .ref lo, .ref nl])), (nl, .inr (4, [.ref nr, .ref ne, .ref nh, .ref tb, .ref q, .long (lz (0)), .int (iz (0)), .int (iz (0))])), (nr, zaI (G.2 1) 61 (fun _ => 0)), (ne, zaL (G.2 0) 61 (fun _ => 0)), (nh, zaZ (G.2 2) 61 (fun _ => 0)), (tb, zaR (G.2 3) 7 (ztb tr)), ((tr 0), zaL (G.2 0) 61 (fun _ => 0)), ((tr 1), zaL (G.2 0) 61 (fun _ => 0)), ((tr 2), zaL (G.2 0) 61 (fun _ => 0)), ((tr 3), zaL (G.2 0) 61 (fun _ => 0)), ((tr 4), zaL (G.2 0) 61 (fun _ => 0)), ((tr 5), zaL (G.2 0) 61 (fun _ => 0)), ((tr 6), zaL (G.2 0) 61 (fun _ => 0)), (q, .inr (2, [.ref sa, .ref da, .ref wa, .long (lz (1)), .long (lz (1)), .int (iz (0))])), (sa, .inr (9, [.ref sb, .int (iz (0)), .long (lz (0))])), (sb, zaL (G.2 0) 40 (fun _ => 0)), (da, .inr (9, [.ref db, .int (iz (0)), .long (lz (0))])), (db, zaL (G.2 0) 40 (fun _ => 0)), (wa, .inr (9, [.ref wb, .int (iz (0)), .long (lz (0))])), (wb, zaL (G.2 0) 40 (fun _ => 0)), (ro, .inr (5, [.int (iz (6))]))] H := hP
  have hD : va_D A [(x, .inr (10, [.ref ro, .ref rw, .ref bo, .ref li, .ref sh, .ref tx, .ref lo, .ref nl])), (nl, .inr (4, [.ref nr, .ref ne, .ref nh, .ref tb, .ref q, .long (lz (0)), .int (iz (0)), .int (iz (0))])), (nr, zaI (G.2 1) 61 (fun _ => 0)), (ne, zaL (G.2 0) 61 (fun _ => 0)), (nh, zaZ (G.2 2) 61 (fun _ => 0)), (tb, zaR (G.2 3) 7 (ztb tr)), ((tr 0), zaL (G.2 0) 61 (fun _ => 0)), ((tr 1), zaL (G.2 0) 61 (fun _ => 0)), ((tr 2), zaL (G.2 0) 61 (fun _ => 0)), ((tr 3), zaL (G.2 0) 61 (fun _ => 0)), ((tr 4), zaL (G.2 0) 61 (fun _ => 0)), ((tr 5), zaL (G.2 0) 61 (fun _ => 0)), ((tr 6), zaL (G.2 0) 61 (fun _ => 0)), (q, .inr (2, [.ref sa, .ref da, .ref wa, .long (lz (1)), .long (lz (1)), .int (iz (0))])), (sa, .inr (9, [.ref sb, .int (iz (0)), .long (lz (0))])), (sb, zaL (G.2 0) 40 (fun _ => 0)), (da, .inr (9, [.ref db, .int (iz (0)), .long (lz (0))])), (db, zaL (G.2 0) 40 (fun _ => 0)), (wa, .inr (9, [.ref wb, .int (iz (0)), .long (lz (0))])), (wb, zaL (G.2 0) 40 (fun _ => 0)), (ro, .inr (5, [.int (iz (6))]))] := hD
  have hy3 : y3 = decide ((1 : Int) ≤ pn ∧ pn ≤ (60 : Int)) := hy3
  rw [show y3 = true from hy3.trans (decide_eq_true (by omega))]
  refine zc_v (wr := [(x, .inr (10, [.ref ro, .ref rw, .ref bo, .ref li, .ref sh, .ref tx, .ref lo, .ref nl])), (nl, .inr (4, [.ref nr, .ref ne, .ref nh, .ref tb, .ref q, .long (lz (0)), .int (iz (0)), .int (iz (0))])), (nr, zaI (G.2 1) 61 (fun _ => 0)), (ne, zaL (G.2 0) 61 (fun _ => 0)), (nh, zaZ (G.2 2) 61 (fun _ => 0)), (tb, zaR (G.2 3) 7 (ztb tr)), ((tr 0), zaL (G.2 0) 61 (fun _ => 0)), ((tr 1), zaL (G.2 0) 61 (fun _ => 0)), ((tr 2), zaL (G.2 0) 61 (fun _ => 0)), ((tr 3), zaL (G.2 0) 61 (fun _ => 0)), ((tr 4), zaL (G.2 0) 61 (fun _ => 0)), ((tr 5), zaL (G.2 0) 61 (fun _ => 0)), ((tr 6), zaL (G.2 0) 61 (fun _ => 0)), (q, .inr (2, [.ref sa, .ref da, .ref wa, .long (lz (1)), .long (lz (1)), .int (iz (0))])), (sa, .inr (9, [.ref sb, .int (iz (0)), .long (lz (0))])), (sb, zaL (G.2 0) 40 (fun _ => 0)), (da, .inr (9, [.ref db, .int (iz (0)), .long (lz (0))])), (db, zaL (G.2 0) 40 (fun _ => 0)), (wa, .inr (9, [.ref wb, .int (iz (0)), .long (lz (0))])), (wb, zaL (G.2 0) 40 (fun _ => 0)), (ro, .inr (5, [.int (iz (6))]))]) (va_runS (As := [.int (iz (zbb true))]) (rest := []) ⟨hx, hb, hml, hown, hts⟩ (c_X9_demand_o l G   H.size) (va_cwS 1 hts gX9_lend_X9_demand rfl rfl rfl (by decide +kernel) ⟨Nat.le_of_ble_eq_true rfl, Nat.le_of_ble_eq_true rfl⟩) (zpS hKX hP hD [] rfl rfl) rfl rfl hl.1 rfl (lv_room (Nat.le_of_ble_eq_true rfl)) dX9_lend_25 ⟨(by first | exact Nat.le_of_ble_eq_true rfl | (show _ ≤ (0 : Nat); omega)), (by first | exact Nat.le_of_ble_eq_true rfl | (show _ ≤ (0 : Nat); omega))⟩) hP hD hS hA [] [0, 1, 2, 3, 4, 5, 6, 7, 8, 9, 10, 11, 12, 13, 14, 15, 16, 17, 18, 19, 20] rfl rfl rfl (by decide) (fun u_12 H locs hq_15 hP hD hS => ?_)
  have hP : va_P G.1 vwCl [(x, .inr (10, [.ref ro, .ref rw, .ref bo, .ref li, .ref sh, .ref tx, .ref lo, .ref nl])), (nl, .inr (4, [.ref nr, .ref ne, .ref nh, .ref tb, .ref q, .long (lz (0)), .int (iz (0)), .int (iz (0))])), (nr, zaI (G.2 1) 61 (fun _ => 0)), (ne, zaL (G.2 0) 61 (fun _ => 0)), (nh, zaZ (G.2 2) 61 (fun _ => 0)), (tb, zaR (G.2 3) 7 (ztb tr)), ((tr 0), zaL (G.2 0) 61 (fun _ => 0)), ((tr 1), zaL (G.2 0) 61 (fun _ => 0)), ((tr 2), zaL (G.2 0) 61 (fun _ => 0)), ((tr 3), zaL (G.2 0) 61 (fun _ => 0)), ((tr 4), zaL (G.2 0) 61 (fun _ => 0)), ((tr 5), zaL (G.2 0) 61 (fun _ => 0)), ((tr 6), zaL (G.2 0) 61 (fun _ => 0)), (q, .inr (2, [.ref sa, .ref da, .ref wa, .long (lz (1)), .long (lz (1)), .int (iz (0))])), (sa, .inr (9, [.ref sb, .int (iz (0)), .long (lz (0))])), (sb, zaL (G.2 0) 40 (fun _ => 0)), (da, .inr (9, [.ref db, .int (iz (0)), .long (lz (0))])), (db, zaL (G.2 0) 40 (fun _ => 0)), (wa, .inr (9, [.ref wb, .int (iz (0)), .long (lz (0))])), (wb, zaL (G.2 0) 40 (fun _ => 0)), (ro, .inr (5, [.int (iz (6))]))] H := hP
  have hD : va_D A [(x, .inr (10, [.ref ro, .ref rw, .ref bo, .ref li, .ref sh, .ref tx, .ref lo, .ref nl])), (nl, .inr (4, [.ref nr, .ref ne, .ref nh, .ref tb, .ref q, .long (lz (0)), .int (iz (0)), .int (iz (0))])), (nr, zaI (G.2 1) 61 (fun _ => 0)), (ne, zaL (G.2 0) 61 (fun _ => 0)), (nh, zaZ (G.2 2) 61 (fun _ => 0)), (tb, zaR (G.2 3) 7 (ztb tr)), ((tr 0), zaL (G.2 0) 61 (fun _ => 0)), ((tr 1), zaL (G.2 0) 61 (fun _ => 0)), ((tr 2), zaL (G.2 0) 61 (fun _ => 0)), ((tr 3), zaL (G.2 0) 61 (fun _ => 0)), ((tr 4), zaL (G.2 0) 61 (fun _ => 0)), ((tr 5), zaL (G.2 0) 61 (fun _ => 0)), ((tr 6), zaL (G.2 0) 61 (fun _ => 0)), (q, .inr (2, [.ref sa, .ref da, .ref wa, .long (lz (1)), .long (lz (1)), .int (iz (0))])), (sa, .inr (9, [.ref sb, .int (iz (0)), .long (lz (0))])), (sb, zaL (G.2 0) 40 (fun _ => 0)), (da, .inr (9, [.ref db, .int (iz (0)), .long (lz (0))])), (db, zaL (G.2 0) 40 (fun _ => 0)), (wa, .inr (9, [.ref wb, .int (iz (0)), .long (lz (0))])), (wb, zaL (G.2 0) 40 (fun _ => 0)), (ro, .inr (5, [.int (iz (6))]))] := hD
  refine lv_aload_n hx hb dX9_lend_28 rfl (lv_at hl 0 rfl) ?_
  refine va_get (D := G.1) (ci := 10) (v := .ref nl) (C := RX9) (T := TX9) (N := 8) hx hb hts iwX9 hown hK hP 0 rfl rfl 7 (by decide) (hts (.fieldLink RX9 58 "AnnuityHouse" "nextLoan" "LAnnuityHouse$Loan;") (by decide +kernel)) (fun _ h9 => h9) rfl dX9_lend_29 ?_
  refine lv_lload_n hx hb dX9_lend_32 rfl (lv_at hl 1 rfl) ?_
  refine lv_iload_n hx hb dX9_lend_33 rfl (lv_at hl 2 rfl) ?_
  refine lv_iload hx hb dX9_lend_34 (lv_at hl 3 rfl) ?_
  refine zc_v (wr := [(x, .inr (10, [.ref ro, .ref rw, .ref bo, .ref li, .ref sh, .ref tx, .ref lo, .ref nl])), (tb, zaR (G.2 3) 7 (ztb tr)), ((tr 0), zaL (G.2 0) 61 (fun _ => 0)), ((tr 1), zaL (G.2 0) 61 (fun _ => 0)), ((tr 2), zaL (G.2 0) 61 (fun _ => 0)), ((tr 3), zaL (G.2 0) 61 (fun _ => 0)), ((tr 4), zaL (G.2 0) 61 (fun _ => 0)), ((tr 5), zaL (G.2 0) 61 (fun _ => 0)), ((tr 6), zaL (G.2 0) 61 (fun _ => 0)), (q, .inr (2, [.ref sa, .ref da, .ref wa, .long (lz (1)), .long (lz (1)), .int (iz (0))])), (sa, .inr (9, [.ref sb, .int (iz (0)), .long (lz (0))])), (sb, zaL (G.2 0) 40 (fun _ => 0)), (da, .inr (9, [.ref db, .int (iz (0)), .long (lz (0))])), (db, zaL (G.2 0) 40 (fun _ => 0)), (wa, .inr (9, [.ref wb, .int (iz (0)), .long (lz (0))])), (wb, zaL (G.2 0) 40 (fun _ => 0)), (ro, .inr (5, [.int (iz (6))]))]) (va_runV (As := [.long (lz (mo)), .int (iz (po)), .int (iz (pn))]) (rest := []) ⟨hx, hb, hml, hown, hts⟩ (c_X3_begin l G nl nr ne nh tb q (fun _ => 0) (fun _ => 0) (fun _ => 0) 0 0 0 mo po pn  H.size) (cwV 3 hts gX9_lend_X3_begin rfl rfl rfl (by decide +kernel) ⟨Nat.le_of_ble_eq_true rfl, Nat.le_of_ble_eq_true rfl⟩) (zpV hKX hP hD [1, 2, 3, 4] rfl rfl 1 4 rfl rfl) rfl rfl hl.1 rfl (lv_room (Nat.le_of_ble_eq_true rfl)) dX9_lend_36 ⟨(by first | exact Nat.le_of_ble_eq_true rfl | (show _ ≤ (0 : Nat); omega)), (by first | exact Nat.le_of_ble_eq_true rfl | (show _ ≤ (0 : Nat); omega))⟩) hP hD hS hA [1, 2, 3, 4] [0, 5, 6, 7, 8, 9, 10, 11, 12, 13, 14, 15, 16, 17, 18, 19, 20] rfl rfl rfl (by decide) (fun u_16 H locs hbg hP hD hS => ?_)
  obtain ⟨g2, e2, h2_⟩ := u_16
  have hP : va_P G.1 vwCl [(x, .inr (10, [.ref ro, .ref rw, .ref bo, .ref li, .ref sh, .ref tx, .ref lo, .ref nl])), (tb, zaR (G.2 3) 7 (ztb tr)), ((tr 0), zaL (G.2 0) 61 (fun _ => 0)), ((tr 1), zaL (G.2 0) 61 (fun _ => 0)), ((tr 2), zaL (G.2 0) 61 (fun _ => 0)), ((tr 3), zaL (G.2 0) 61 (fun _ => 0)), ((tr 4), zaL (G.2 0) 61 (fun _ => 0)), ((tr 5), zaL (G.2 0) 61 (fun _ => 0)), ((tr 6), zaL (G.2 0) 61 (fun _ => 0)), (q, .inr (2, [.ref sa, .ref da, .ref wa, .long (lz (1)), .long (lz (1)), .int (iz (0))])), (sa, .inr (9, [.ref sb, .int (iz (0)), .long (lz (0))])), (sb, zaL (G.2 0) 40 (fun _ => 0)), (da, .inr (9, [.ref db, .int (iz (0)), .long (lz (0))])), (db, zaL (G.2 0) 40 (fun _ => 0)), (wa, .inr (9, [.ref wb, .int (iz (0)), .long (lz (0))])), (wb, zaL (G.2 0) 40 (fun _ => 0)), (ro, .inr (5, [.int (iz (6))])), (nl, .inr (4, [.ref nr, .ref ne, .ref nh, .ref tb, .ref q, .long (lz (mo)), .int (iz (pn)), .int (iz ((0 : Int)))])), (nr, zaI (G.2 1) 61 (g2)), (ne, zaL (G.2 0) 61 (e2)), (nh, zaZ (G.2 2) 61 (h2_))] H := hP
  have hD : va_D A [(x, .inr (10, [.ref ro, .ref rw, .ref bo, .ref li, .ref sh, .ref tx, .ref lo, .ref nl])), (tb, zaR (G.2 3) 7 (ztb tr)), ((tr 0), zaL (G.2 0) 61 (fun _ => 0)), ((tr 1), zaL (G.2 0) 61 (fun _ => 0)), ((tr 2), zaL (G.2 0) 61 (fun _ => 0)), ((tr 3), zaL (G.2 0) 61 (fun _ => 0)), ((tr 4), zaL (G.2 0) 61 (fun _ => 0)), ((tr 5), zaL (G.2 0) 61 (fun _ => 0)), ((tr 6), zaL (G.2 0) 61 (fun _ => 0)), (q, .inr (2, [.ref sa, .ref da, .ref wa, .long (lz (1)), .long (lz (1)), .int (iz (0))])), (sa, .inr (9, [.ref sb, .int (iz (0)), .long (lz (0))])), (sb, zaL (G.2 0) 40 (fun _ => 0)), (da, .inr (9, [.ref db, .int (iz (0)), .long (lz (0))])), (db, zaL (G.2 0) 40 (fun _ => 0)), (wa, .inr (9, [.ref wb, .int (iz (0)), .long (lz (0))])), (wb, zaL (G.2 0) 40 (fun _ => 0)), (ro, .inr (5, [.int (iz (6))])), (nl, .inr (4, [.ref nr, .ref ne, .ref nh, .ref tb, .ref q, .long (lz (mo)), .int (iz (pn)), .int (iz ((0 : Int)))])), (nr, zaI (G.2 1) 61 (g2)), (ne, zaL (G.2 0) 61 (e2)), (nh, zaZ (G.2 2) 61 (h2_))] := hD
  have hbg : ∀ k : Int, 1 ≤ k → k ≤ 60 → g2 k = (if k = 1 then po else -1) ∧ e2 k = 0 ∧ h2_ k = 0 := hbg
  refine lv_aload_n hx hb dX9_lend_39 rfl (lv_at hl 0 rfl) ?_
  refine va_get (D := G.1) (ci := 10) (v := .ref nl) (C := RX9) (T := TX9) (N := 8) hx hb hts iwX9 hown hK hP 0 rfl rfl 7 (by decide) (hts (.fieldLink RX9 58 "AnnuityHouse" "nextLoan" "LAnnuityHouse$Loan;") (by decide +kernel)) (fun _ h9 => h9) rfl dX9_lend_40 ?_
  refine lv_aload_n hx hb dX9_lend_43 rfl (lv_at hl 0 rfl) ?_
  refine va_get (D := G.1) (ci := 10) (v := .ref ro) (C := RX9) (T := TX9) (N := 8) hx hb hts iwX9 hown hK hP 0 rfl rfl 0 (by decide) (hts (.fieldLink RX9 10 "AnnuityHouse" "rounder" "LAnnuityHouse$Rounder;") (by decide +kernel)) (fun _ h9 => h9) rfl dX9_lend_44 ?_
  refine zc_v (wr := [(x, .inr (10, [.ref ro, .ref rw, .ref bo, .ref li, .ref sh, .ref tx, .ref lo, .ref nl]))]) (va_runV (As := [.ref ro]) (rest := []) ⟨hx, hb, hml, hown, hts⟩ (c_X3_workOut l G nl nr ne nh tb q ro tr (fun _ => 0) (fun _ => 0) (fun _ => 0) (fun _ => 0) (fun _ => 0) (fun _ => 0) (fun _ => 0) g2 e2 h2_ mo po pn 0 sa sb (fun _ => 0) 0 0 da db (fun _ => 0) 0 0 wa wb (fun _ => 0) 0 0 1 1 0 (by omega) (hbg) H.size) (cwV 1 hts gX9_lend_X3_workOut rfl rfl rfl (by decide +kernel) ⟨Nat.le_of_ble_eq_true rfl, Nat.le_of_ble_eq_true rfl⟩) (zpV hKX hP hD [17, 18, 19, 20, 1, 2, 3, 4, 5, 6, 7, 8, 9, 10, 11, 12, 13, 14, 15, 16] rfl rfl 17 4 rfl rfl) rfl rfl hl.1 rfl (lv_room (Nat.le_of_ble_eq_true rfl)) dX9_lend_47 ⟨(by first | exact Nat.le_of_ble_eq_true rfl | (show _ ≤ (0 : Nat); omega)), (by first | exact Nat.le_of_ble_eq_true rfl | (show _ ≤ (0 : Nat); omega))⟩) hP hD hS hA [17, 18, 19, 20, 1, 2, 3, 4, 5, 6, 7, 8, 9, 10, 11, 12, 13, 14, 15, 16] [0] rfl rfl rfl (by decide) (fun u_19 H locs hw hP hD hS => ?_)
  obtain ⟨o0, o1, o2, o3, o4, o5, o6, rw3, sf2, sn2, st2, df2, dn2, dt2, wf2, wn2, wt2, ru, rd, pq⟩ := u_19
  have hP : va_P G.1 vwCl [(x, .inr (10, [.ref ro, .ref rw, .ref bo, .ref li, .ref sh, .ref tx, .ref lo, .ref nl])), (nl, .inr (4, [.ref nr, .ref ne, .ref nh, .ref tb, .ref q, .long (lz (mo)), .int (iz (pn)), .int (iz (rw3))])), (nr, zaI (G.2 1) 61 (g2)), (ne, zaL (G.2 0) 61 (e2)), (nh, zaZ (G.2 2) 61 (h2_)), (tb, zaR (G.2 3) 7 (ztb tr)), ((tr 0), zaL (G.2 0) 61 (o0)), ((tr 1), zaL (G.2 0) 61 (o1)), ((tr 2), zaL (G.2 0) 61 (o2)), ((tr 3), zaL (G.2 0) 61 (o3)), ((tr 4), zaL (G.2 0) 61 (o4)), ((tr 5), zaL (G.2 0) 61 (o5)), ((tr 6), zaL (G.2 0) 61 (o6)), (q, .inr (2, [.ref sa, .ref da, .ref wa, .long (lz (ru)), .long (lz (rd)), .int (iz (pq))])), (sa, .inr (9, [.ref sb, .int (iz (sn2)), .long (lz (st2))])), (sb, zaL (G.2 0) 40 (sf2)), (da, .inr (9, [.ref db, .int (iz (dn2)), .long (lz (dt2))])), (db, zaL (G.2 0) 40 (df2)), (wa, .inr (9, [.ref wb, .int (iz (wn2)), .long (lz (wt2))])), (wb, zaL (G.2 0) 40 (wf2)), (ro, .inr (5, [.int (iz (6))]))] H := hP
  have hD : va_D A [(x, .inr (10, [.ref ro, .ref rw, .ref bo, .ref li, .ref sh, .ref tx, .ref lo, .ref nl])), (nl, .inr (4, [.ref nr, .ref ne, .ref nh, .ref tb, .ref q, .long (lz (mo)), .int (iz (pn)), .int (iz (rw3))])), (nr, zaI (G.2 1) 61 (g2)), (ne, zaL (G.2 0) 61 (e2)), (nh, zaZ (G.2 2) 61 (h2_)), (tb, zaR (G.2 3) 7 (ztb tr)), ((tr 0), zaL (G.2 0) 61 (o0)), ((tr 1), zaL (G.2 0) 61 (o1)), ((tr 2), zaL (G.2 0) 61 (o2)), ((tr 3), zaL (G.2 0) 61 (o3)), ((tr 4), zaL (G.2 0) 61 (o4)), ((tr 5), zaL (G.2 0) 61 (o5)), ((tr 6), zaL (G.2 0) 61 (o6)), (q, .inr (2, [.ref sa, .ref da, .ref wa, .long (lz (ru)), .long (lz (rd)), .int (iz (pq))])), (sa, .inr (9, [.ref sb, .int (iz (sn2)), .long (lz (st2))])), (sb, zaL (G.2 0) 40 (sf2)), (da, .inr (9, [.ref db, .int (iz (dn2)), .long (lz (dt2))])), (db, zaL (G.2 0) 40 (df2)), (wa, .inr (9, [.ref wb, .int (iz (wn2)), .long (lz (wt2))])), (wb, zaL (G.2 0) 40 (wf2)), (ro, .inr (5, [.int (iz (6))]))] := hD
  have hw : o6 1 = zinst mo po pn := hw
  refine lv_aload_n hx hb dX9_lend_50 rfl (lv_at hl 0 rfl) ?_
  refine zc_v (wr := [(nl, .inr (4, [.ref nr, .ref ne, .ref nh, .ref tb, .ref q, .long (lz (mo)), .int (iz (pn)), .int (iz (rw3))])), (nr, zaI (G.2 1) 61 (g2)), (ne, zaL (G.2 0) 61 (e2)), (nh, zaZ (G.2 2) 61 (h2_)), (tb, zaR (G.2 3) 7 (ztb tr)), ((tr 0), zaL (G.2 0) 61 (o0)), ((tr 1), zaL (G.2 0) 61 (o1)), ((tr 2), zaL (G.2 0) 61 (o2)), ((tr 3), zaL (G.2 0) 61 (o3)), ((tr 4), zaL (G.2 0) 61 (o4)), ((tr 5), zaL (G.2 0) 61 (o5)), ((tr 6), zaL (G.2 0) 61 (o6)), (q, .inr (2, [.ref sa, .ref da, .ref wa, .long (lz (ru)), .long (lz (rd)), .int (iz (pq))])), (sa, .inr (9, [.ref sb, .int (iz (sn2)), .long (lz (st2))])), (sb, zaL (G.2 0) 40 (sf2)), (da, .inr (9, [.ref db, .int (iz (dn2)), .long (lz (dt2))])), (db, zaL (G.2 0) 40 (df2)), (wa, .inr (9, [.ref wb, .int (iz (wn2)), .long (lz (wt2))])), (wb, zaL (G.2 0) 40 (wf2)), (ro, .inr (5, [.int (iz (6))]))]) (va_runV (As := []) (rest := []) ⟨hx, hb, hml, hown, hts⟩ (c_X9_takeNextLoan l G x ro rw bo li sh tx lo nl  H.size) (cwV 0 hts gX9_lend_X9_takeNextLoan rfl rfl rfl (by decide +kernel) ⟨Nat.le_of_ble_eq_true rfl, Nat.le_of_ble_eq_true rfl⟩) (zpV hKX hP hD [0] rfl rfl 0 10 rfl rfl) rfl rfl hl.1 rfl (lv_room (Nat.le_of_ble_eq_true rfl)) dX9_lend_51 ⟨(by first | exact Nat.le_of_ble_eq_true rfl | (show _ ≤ (0 : Nat); omega)), (by first | exact Nat.le_of_ble_eq_true rfl | (show _ ≤ (0 : Nat); omega))⟩) hP hD hS hA [0] [1, 2, 3, 4, 5, 6, 7, 8, 9, 10, 11, 12, 13, 14, 15, 16, 17, 18, 19, 20] rfl rfl rfl (by decide) (fun u_22 H locs tt hP hD hS => ?_)
  have hP : va_P G.1 vwCl [(nl, .inr (4, [.ref nr, .ref ne, .ref nh, .ref tb, .ref q, .long (lz (mo)), .int (iz (pn)), .int (iz (rw3))])), (nr, zaI (G.2 1) 61 (g2)), (ne, zaL (G.2 0) 61 (e2)), (nh, zaZ (G.2 2) 61 (h2_)), (tb, zaR (G.2 3) 7 (ztb tr)), ((tr 0), zaL (G.2 0) 61 (o0)), ((tr 1), zaL (G.2 0) 61 (o1)), ((tr 2), zaL (G.2 0) 61 (o2)), ((tr 3), zaL (G.2 0) 61 (o3)), ((tr 4), zaL (G.2 0) 61 (o4)), ((tr 5), zaL (G.2 0) 61 (o5)), ((tr 6), zaL (G.2 0) 61 (o6)), (q, .inr (2, [.ref sa, .ref da, .ref wa, .long (lz (ru)), .long (lz (rd)), .int (iz (pq))])), (sa, .inr (9, [.ref sb, .int (iz (sn2)), .long (lz (st2))])), (sb, zaL (G.2 0) 40 (sf2)), (da, .inr (9, [.ref db, .int (iz (dn2)), .long (lz (dt2))])), (db, zaL (G.2 0) 40 (df2)), (wa, .inr (9, [.ref wb, .int (iz (wn2)), .long (lz (wt2))])), (wb, zaL (G.2 0) 40 (wf2)), (ro, .inr (5, [.int (iz (6))])), (x, .inr (10, [.ref ro, .ref rw, .ref bo, .ref li, .ref sh, .ref tx, .ref nl, .ref lo]))] H := hP
  have hD : va_D A [(nl, .inr (4, [.ref nr, .ref ne, .ref nh, .ref tb, .ref q, .long (lz (mo)), .int (iz (pn)), .int (iz (rw3))])), (nr, zaI (G.2 1) 61 (g2)), (ne, zaL (G.2 0) 61 (e2)), (nh, zaZ (G.2 2) 61 (h2_)), (tb, zaR (G.2 3) 7 (ztb tr)), ((tr 0), zaL (G.2 0) 61 (o0)), ((tr 1), zaL (G.2 0) 61 (o1)), ((tr 2), zaL (G.2 0) 61 (o2)), ((tr 3), zaL (G.2 0) 61 (o3)), ((tr 4), zaL (G.2 0) 61 (o4)), ((tr 5), zaL (G.2 0) 61 (o5)), ((tr 6), zaL (G.2 0) 61 (o6)), (q, .inr (2, [.ref sa, .ref da, .ref wa, .long (lz (ru)), .long (lz (rd)), .int (iz (pq))])), (sa, .inr (9, [.ref sb, .int (iz (sn2)), .long (lz (st2))])), (sb, zaL (G.2 0) 40 (sf2)), (da, .inr (9, [.ref db, .int (iz (dn2)), .long (lz (dt2))])), (db, zaL (G.2 0) 40 (df2)), (wa, .inr (9, [.ref wb, .int (iz (wn2)), .long (lz (wt2))])), (wb, zaL (G.2 0) 40 (wf2)), (ro, .inr (5, [.int (iz (6))])), (x, .inr (10, [.ref ro, .ref rw, .ref bo, .ref li, .ref sh, .ref tx, .ref nl, .ref lo]))] := hD
  refine lv_aload_n hx hb dX9_lend_54 rfl (lv_at hl 0 rfl) ?_
  refine va_get (D := G.1) (ci := 10) (v := .ref nl) (C := RX9) (T := TX9) (N := 8) hx hb hts iwX9 hown hK hP 20 rfl rfl 6 (by decide) (hts (.fieldLink RX9 54 "AnnuityHouse" "loan" "LAnnuityHouse$Loan;") (by decide +kernel)) (fun _ h9 => h9) rfl dX9_lend_55 ?_
  refine lv_iconst (v := iz (1)) hx hb dX9_lend_58 rfl ?_
  refine lv_bipush (v := iz (6)) hx hb dX9_lend_59 rfl ?_
  refine zc_l (wr := [(nr, zaI (G.2 1) 61 (g2)), (ne, zaL (G.2 0) 61 (e2)), (nh, zaZ (G.2 2) 61 (h2_)), ((tr 0), zaL (G.2 0) 61 (o0)), ((tr 1), zaL (G.2 0) 61 (o1)), ((tr 2), zaL (G.2 0) 61 (o2)), ((tr 3), zaL (G.2 0) 61 (o3)), ((tr 4), zaL (G.2 0) 61 (o4)), ((tr 5), zaL (G.2 0) 61 (o5)), (q, .inr (2, [.ref sa, .ref da, .ref wa, .long (lz (ru)), .long (lz (rd)), .int (iz (pq))])), (sa, .inr (9, [.ref sb, .int (iz (sn2)), .long (lz (st2))])), (sb, zaL (G.2 0) 40 (sf2)), (da, .inr (9, [.ref db, .int (iz (dn2)), .long (lz (dt2))])), (db, zaL (G.2 0) 40 (df2)), (wa, .inr (9, [.ref wb, .int (iz (wn2)), .long (lz (wt2))])), (wb, zaL (G.2 0) 40 (wf2)), (ro, .inr (5, [.int (iz (6))])), (x, .inr (10, [.ref ro, .ref rw, .ref bo, .ref li, .ref sh, .ref tx, .ref nl, .ref lo]))]) (va_runV (As := [.int (iz (1)), .int (iz (6))]) (rest := []) ⟨hx, hb, hml, hown, hts⟩ (c_X3_cell l G nl nr ne nh tb q tr o6 mo pn rw3  H.size) (cwV 2 hts gX9_lend_X3_cell rfl rfl rfl (by decide +kernel) ⟨Nat.le_of_ble_eq_true rfl, Nat.le_of_ble_eq_true rfl⟩) (zpV hKX hP hD [0, 4, 11] rfl rfl 0 4 rfl rfl) rfl rfl hl.1 rfl (lv_room (Nat.le_of_ble_eq_true rfl)) dX9_lend_61 ⟨(by first | exact Nat.le_of_ble_eq_true rfl | (show _ ≤ (0 : Nat); omega)), (by first | exact Nat.le_of_ble_eq_true rfl | (show _ ≤ (0 : Nat); omega))⟩) hP hD hS hA [0, 4, 11] [1, 2, 3, 5, 6, 7, 8, 9, 10, 12, 13, 14, 15, 16, 17, 18, 19, 20] rfl rfl rfl (by decide) (fun zz u_25 H locs hz hP hD hS => ?_)
  have hP : va_P G.1 vwCl [(nr, zaI (G.2 1) 61 (g2)), (ne, zaL (G.2 0) 61 (e2)), (nh, zaZ (G.2 2) 61 (h2_)), ((tr 0), zaL (G.2 0) 61 (o0)), ((tr 1), zaL (G.2 0) 61 (o1)), ((tr 2), zaL (G.2 0) 61 (o2)), ((tr 3), zaL (G.2 0) 61 (o3)), ((tr 4), zaL (G.2 0) 61 (o4)), ((tr 5), zaL (G.2 0) 61 (o5)), (q, .inr (2, [.ref sa, .ref da, .ref wa, .long (lz (ru)), .long (lz (rd)), .int (iz (pq))])), (sa, .inr (9, [.ref sb, .int (iz (sn2)), .long (lz (st2))])), (sb, zaL (G.2 0) 40 (sf2)), (da, .inr (9, [.ref db, .int (iz (dn2)), .long (lz (dt2))])), (db, zaL (G.2 0) 40 (df2)), (wa, .inr (9, [.ref wb, .int (iz (wn2)), .long (lz (wt2))])), (wb, zaL (G.2 0) 40 (wf2)), (ro, .inr (5, [.int (iz (6))])), (x, .inr (10, [.ref ro, .ref rw, .ref bo, .ref li, .ref sh, .ref tx, .ref nl, .ref lo])), (nl, .inr (4, [.ref nr, .ref ne, .ref nh, .ref tb, .ref q, .long (lz (mo)), .int (iz (pn)), .int (iz (rw3))])), (tb, zaR (G.2 3) 7 (ztb tr)), ((tr 6), zaL (G.2 0) 61 (o6))] H := hP
  have hD : va_D A [(nr, zaI (G.2 1) 61 (g2)), (ne, zaL (G.2 0) 61 (e2)), (nh, zaZ (G.2 2) 61 (h2_)), ((tr 0), zaL (G.2 0) 61 (o0)), ((tr 1), zaL (G.2 0) 61 (o1)), ((tr 2), zaL (G.2 0) 61 (o2)), ((tr 3), zaL (G.2 0) 61 (o3)), ((tr 4), zaL (G.2 0) 61 (o4)), ((tr 5), zaL (G.2 0) 61 (o5)), (q, .inr (2, [.ref sa, .ref da, .ref wa, .long (lz (ru)), .long (lz (rd)), .int (iz (pq))])), (sa, .inr (9, [.ref sb, .int (iz (sn2)), .long (lz (st2))])), (sb, zaL (G.2 0) 40 (sf2)), (da, .inr (9, [.ref db, .int (iz (dn2)), .long (lz (dt2))])), (db, zaL (G.2 0) 40 (df2)), (wa, .inr (9, [.ref wb, .int (iz (wn2)), .long (lz (wt2))])), (wb, zaL (G.2 0) 40 (wf2)), (ro, .inr (5, [.int (iz (6))])), (x, .inr (10, [.ref ro, .ref rw, .ref bo, .ref li, .ref sh, .ref tx, .ref nl, .ref lo])), (nl, .inr (4, [.ref nr, .ref ne, .ref nh, .ref tb, .ref q, .long (lz (mo)), .int (iz (pn)), .int (iz (rw3))])), (tb, zaR (G.2 3) 7 (ztb tr)), ((tr 6), zaL (G.2 0) 61 (o6))] := hD
  have hz : zz = o6 1 := hz
  rw [hQ]
  exact zr_lret (z := zz) (u := (g2, e2, h2_, o0, o1, o2, o3, o4, o5, o6, rw3, sf2, sn2, st2, df2, dn2, dt2, wf2, wn2, wt2, ru, rd, pq)) hx hb hr hlocks (hP.sub [17, 18, 0, 1, 2, 19, 3, 4, 5, 6, 7, 8, 20, 9, 10, 11, 12, 13, 14, 15, 16] rfl) (hD.sub [17, 18, 0, 1, 2, 19, 3, 4, 5, 6, 7, 8, 20, 9, 10, 11, 12, 13, 14, 15, 16] (by decide) rfl) hS (by first | exact Nat.le_of_ble_eq_true rfl | omega) (by first | exact Nat.le_of_ble_eq_true rfl | omega) dX9_lend_64 (show zz = zinst mo po pn from hz.trans hw)

def rm_c_X9_lend_x : Room := { frames := 8, cells := 1, slots := 6, locals := 130 }
set_option maxHeartbeats 1000000 in
set_option maxRecDepth 100000 in
theorem c_X9_lend_x (l : Launch) (G : zG) (s1 : Nat) (s2 : Nat) (s3 : Nat) (x : Nat) (ro : Nat) (rw : Nat) (bo : Nat) (li : Nat) (sh : Nat) (tx : Nat) (lo : Nat) (nl : Nat) (mo : Int) (po : Int) (pn : Int) (hl0 : l.stackTraces = false) (h0 : -9223372036854775808 ≤ mo ∧ mo < 9223372036854775808) (h01 : -2147483648 ≤ po ∧ po < 2147483648) (h02 : -2147483648 ≤ pn ∧ pn < 2147483648) (h1 : ¬ (1 ≤ mo ∧ mo ≤ 1000000000 ∧ 0 ≤ po ∧ po ≤ 20000 ∧ 1 ≤ pn ∧ pn ≤ 60)) : zMx l (zXE s1 s2 s3) G yX9_lend wsX9_lend rm_c_X9_lend_x [.ref x, .long (lz (mo)), .int (iz (po)), .int (iz (pn))] [(x, .inr (10, [.ref ro, .ref rw, .ref bo, .ref li, .ref sh, .ref tx, .ref lo, .ref nl]))] "java/lang/IllegalArgumentException" 1 6 := by
  refine zMx_of (cc := cX9_lend) (maxL := 5) (ret := (some .long)) (by decide) rfl (Nat.le_of_ble_eq_true rfl) ?_
  intro p e s m below meth c ls A Q hQ hx hb hr hts hown hlocks hml hout hKX hE hP hD hA hS hl
  have hK := hKX.1
  obtain ⟨H, hH⟩ : ∃ h, h = s.heap := ⟨_, rfl⟩
  obtain ⟨locs, hlo⟩ : ∃ h : List Loc, h = [] := ⟨_, rfl⟩
  have hS : va_S A s.heap H locs := by rw [hH, hlo]; exact hS
  have hP : va_P G.1 vwCl [(x, .inr (10, [.ref ro, .ref rw, .ref bo, .ref li, .ref sh, .ref tx, .ref lo, .ref nl]))] H := by rw [hH]; exact hP
  have hD : va_D A [(x, .inr (10, [.ref ro, .ref rw, .ref bo, .ref li, .ref sh, .ref tx, .ref lo, .ref nl]))] := hD
  have hl : lv_has ls 5 [(0, .ref x), (1, .long (lz (mo))), (3, .int (iz (po))), (4, .int (iz (pn)))] := hl
  rw [← hH, ← hlo]
  refine lv_lload_n hx hb dX9_lend_0 rfl (lv_at hl 1 rfl) ?_
  refine lv_lconst (v := lz (1)) hx hb dX9_lend_1 rfl ?_
  refine zr_ldc2 (z := 1000000000) hx hb hown (hts (.constantLong RX9 91 (1000000000)) (by decide +kernel)) rfl dX9_lend_2 ?_
  refine zc_z (wr := [(x, .inr (10, [.ref ro, .ref rw, .ref bo, .ref li, .ref sh, .ref tx, .ref lo, .ref nl]))]) (va_runS (As := [.long (lz (mo)), .long (lz (1)), .long (lz (1000000000))]) (rest := []) ⟨hx, hb, hml, hown, hts⟩ (c_X9_isWithin l G mo 1 1000000000 (by omega) (by omega) (by omega) H.size) (va_cwS 3 hts gX9_lend_X9_isWithin rfl rfl rfl (by decide +kernel) ⟨Nat.le_of_ble_eq_true rfl, Nat.le_of_ble_eq_true rfl⟩) (zpS hKX hP hD [] rfl rfl) rfl rfl hl.1 rfl (lv_room (Nat.le_of_ble_eq_true rfl)) dX9_lend_5 ⟨(by first | exact Nat.le_of_ble_eq_true rfl | (show _ ≤ (1 : Nat); omega)), (by first | exact Nat.le_of_ble_eq_true rfl | (show _ ≤ (6 : Nat); omega))⟩) hP hD hS hA [] [0] rfl rfl rfl (by decide) (fun y1 u_1 H locs hy1 hP hD hS => ?_)
  have hP : va_P G.1 vwCl [(x, .inr (10, [.ref ro, .ref rw, .ref bo, .ref li, .ref sh, .ref tx, .ref lo, .ref nl]))] H := hP
  have hD : va_D A [(x, .inr (10, [.ref ro, .ref rw, .ref bo, .ref li, .ref sh, .ref tx, .ref lo, .ref nl]))] := hD
  have hy1 : y1 = decide ((1 : Int) ≤ mo ∧ mo ≤ (1000000000 : Int)) := hy1
  rcases Bool.eq_false_or_eq_true y1 with hbt_y1 | hbt_y1
  ·
    rw [hbt_y1]
    have hzy1 := of_decide_eq_true (hy1.symm.trans hbt_y1)
    refine zc_v (wr := [(x, .inr (10, [.ref ro, .ref rw, .ref bo, .ref li, .ref sh, .ref tx, .ref lo, .ref nl]))]) (va_runS (As := [.int (iz (zbb true))]) (rest := []) ⟨hx, hb, hml, hown, hts⟩ (c_X9_demand_o l G   H.size) (va_cwS 1 hts gX9_lend_X9_demand rfl rfl rfl (by decide +kernel) ⟨Nat.le_of_ble_eq_true rfl, Nat.le_of_ble_eq_true rfl⟩) (zpS hKX hP hD [] rfl rfl) rfl rfl hl.1 rfl (lv_room (Nat.le_of_ble_eq_true rfl)) dX9_lend_8 ⟨(by first | exact Nat.le_of_ble_eq_true rfl | (show _ ≤ (1 : Nat); omega)), (by first | exact Nat.le_of_ble_eq_true rfl | (show _ ≤ (6 : Nat); omega))⟩) hP hD hS hA [] [0] rfl rfl rfl (by decide) (fun u_3 H locs hq_6 hP hD hS => ?_)
    have hP : va_P G.1 vwCl [(x, .inr (10, [.ref ro, .ref rw, .ref bo, .ref li, .ref sh, .ref tx, .ref lo, .ref nl]))] H := hP
    have hD : va_D A [(x, .inr (10, [.ref ro, .ref rw, .ref bo, .ref li, .ref sh, .ref tx, .ref lo, .ref nl]))] := hD
    refine lv_iload_n hx hb dX9_lend_11 rfl (lv_at hl 2 rfl) ?_
    by_cases hsp_12 : 0 ≤ po ∧ po ≤ 20000
    ·
      refine zc_v (wr := [(x, .inr (10, [.ref ro, .ref rw, .ref bo, .ref li, .ref sh, .ref tx, .ref lo, .ref nl]))]) (va_runS (As := [.int (iz (po))]) (rest := []) ⟨hx, hb, hml, hown, hts⟩ (c_X9_demandRate_o l G po (by omega) (by omega) H.size) (va_cwS 1 hts gX9_lend_X9_demandRate rfl rfl rfl (by decide +kernel) ⟨Nat.le_of_ble_eq_true rfl, Nat.le_of_ble_eq_true rfl⟩) (zpS hKX hP hD [] rfl rfl) rfl rfl hl.1 rfl (lv_room (Nat.le_of_ble_eq_true rfl)) dX9_lend_12 ⟨(by first | exact Nat.le_of_ble_eq_true rfl | (show _ ≤ (1 : Nat); omega)), (by first | exact Nat.le_of_ble_eq_true rfl | (show _ ≤ (6 : Nat); omega))⟩) hP hD hS hA [] [0] rfl rfl rfl (by decide) (fun u_7 H locs hq_10 hP hD hS => ?_)
      have hP : va_P G.1 vwCl [(x, .inr (10, [.ref ro, .ref rw, .ref bo, .ref li, .ref sh, .ref tx, .ref lo, .ref nl]))] H := hP
      have hD : va_D A [(x, .inr (10, [.ref ro, .ref rw, .ref bo, .ref li, .ref sh, .ref tx, .ref lo, .ref nl]))] := hD
      refine lv_iload hx hb dX9_lend_15 (lv_at hl 3 rfl) ?_
      refine zr_i2l hx hb (x := pn) (⟨by omega, by omega⟩) dX9_lend_17 ?_
      refine lv_lconst (v := lz (1)) hx hb dX9_lend_18 rfl ?_
      refine zr_ldc2 (z := 60) hx hb hown (hts (.constantLong RX9 135 (60)) (by decide +kernel)) rfl dX9_lend_19 ?_
      refine zc_z (wr := [(x, .inr (10, [.ref ro, .ref rw, .ref bo, .ref li, .ref sh, .ref tx, .ref lo, .ref nl]))]) (va_runS (As := [.long (lz (pn)), .long (lz (1)), .long (lz (60))]) (rest := []) ⟨hx, hb, hml, hown, hts⟩ (c_X9_isWithin l G pn 1 60 (by omega) (by omega) (by omega) H.size) (va_cwS 3 hts gX9_lend_X9_isWithin rfl rfl rfl (by decide +kernel) ⟨Nat.le_of_ble_eq_true rfl, Nat.le_of_ble_eq_true rfl⟩) (zpS hKX hP hD [] rfl rfl) rfl rfl hl.1 rfl (lv_room (Nat.le_of_ble_eq_true rfl)) dX9_lend_22 ⟨(by first | exact Nat.le_of_ble_eq_true rfl | (show _ ≤ (1 : Nat); omega)), (by first | exact Nat.le_of_ble_eq_true rfl | (show _ ≤ (6 : Nat); omega))⟩) hP hD hS hA [] [0] rfl rfl rfl (by decide) (fun y3 u_11 H locs hy3 hP hD hS => ?_)
      have hP : va_P G.1 vwCl [(x, .inr (10, [.ref ro, .ref rw, .ref bo, .ref li, .ref sh, .ref tx, .ref lo, .ref nl]))] H := hP
      have hD : va_D A [(x, .inr (10, [.ref ro, .ref rw, .ref bo, .ref li, .ref sh, .ref tx, .ref lo, .ref nl]))] := hD
      have hy3 : y3 = decide ((1 : Int) ≤ pn ∧ pn ≤ (60 : Int)) := hy3
      rcases Bool.eq_false_or_eq_true y3 with hbt_y3 | hbt_y3
      ·
        rw [hbt_y3]
        have hzy3 := of_decide_eq_true (hy3.symm.trans hbt_y3)
        refine zc_v (wr := [(x, .inr (10, [.ref ro, .ref rw, .ref bo, .ref li, .ref sh, .ref tx, .ref lo, .ref nl]))]) (va_runS (As := [.int (iz (zbb true))]) (rest := []) ⟨hx, hb, hml, hown, hts⟩ (c_X9_demand_o l G   H.size) (va_cwS 1 hts gX9_lend_X9_demand rfl rfl rfl (by decide +kernel) ⟨Nat.le_of_ble_eq_true rfl, Nat.le_of_ble_eq_true rfl⟩) (zpS hKX hP hD [] rfl rfl) rfl rfl hl.1 rfl (lv_room (Nat.le_of_ble_eq_true rfl)) dX9_lend_25 ⟨(by first | exact Nat.le_of_ble_eq_true rfl | (show _ ≤ (1 : Nat); omega)), (by first | exact Nat.le_of_ble_eq_true rfl | (show _ ≤ (6 : Nat); omega))⟩) hP hD hS hA [] [0] rfl rfl rfl (by decide) (fun u_13 H locs hq_16 hP hD hS => ?_)
        have hP : va_P G.1 vwCl [(x, .inr (10, [.ref ro, .ref rw, .ref bo, .ref li, .ref sh, .ref tx, .ref lo, .ref nl]))] H := hP
        have hD : va_D A [(x, .inr (10, [.ref ro, .ref rw, .ref bo, .ref li, .ref sh, .ref tx, .ref lo, .ref nl]))] := hD
        exact absurd h1 (by omega)
      ·
        rw [hbt_y3]
        have hzy3 := of_decide_eq_false (hy3.symm.trans hbt_y3)
        rw [hQ]
        exact zx_thr (X := "java/lang/IllegalArgumentException") (vx_runS (As := [.int (iz (zbb false))]) (rest := []) ⟨hx, hb, hml, hown, hts⟩ (c_X9_demand_x l G s1 s2 s3 hl0 H.size) (va_cwS 1 hts gX9_lend_X9_demand rfl rfl rfl (by decide +kernel) ⟨Nat.le_of_ble_eq_true rfl, Nat.le_of_ble_eq_true rfl⟩) (zpSe zXE_ok hE hS hA hKX hP hD [] rfl rfl) rfl rfl hl.1 rfl (lv_room (Nat.le_of_ble_eq_true rfl)) dX9_lend_25 ⟨(by first | exact Nat.le_of_ble_eq_true rfl | (show _ ≤ (1 : Nat); omega)), (by first | exact Nat.le_of_ble_eq_true rfl | (show _ ≤ (6 : Nat); omega))⟩) hS (va_free (wc := []) hD hS hA [] rfl) hout hlocks (by first | exact Nat.le_of_ble_eq_true rfl | omega) (by first | exact Nat.le_of_ble_eq_true rfl | omega)
    ·
      rw [hQ]
      exact zx_thr (X := "java/lang/IllegalArgumentException") (vx_runS (As := [.int (iz (po))]) (rest := []) ⟨hx, hb, hml, hown, hts⟩ (c_X9_demandRate_x l G s1 s2 s3 po hl0 (by omega) (by omega) H.size) (va_cwS 1 hts gX9_lend_X9_demandRate rfl rfl rfl (by decide +kernel) ⟨Nat.le_of_ble_eq_true rfl, Nat.le_of_ble_eq_true rfl⟩) (zpSe zXE_ok hE hS hA hKX hP hD [] rfl rfl) rfl rfl hl.1 rfl (lv_room (Nat.le_of_ble_eq_true rfl)) dX9_lend_12 ⟨(by first | exact Nat.le_of_ble_eq_true rfl | (show _ ≤ (1 : Nat); omega)), (by first | exact Nat.le_of_ble_eq_true rfl | (show _ ≤ (6 : Nat); omega))⟩) hS (va_free (wc := []) hD hS hA [] rfl) hout hlocks (by first | exact Nat.le_of_ble_eq_true rfl | omega) (by first | exact Nat.le_of_ble_eq_true rfl | omega)
  ·
    rw [hbt_y1]
    have hzy1 := of_decide_eq_false (hy1.symm.trans hbt_y1)
    rw [hQ]
    exact zx_thr (X := "java/lang/IllegalArgumentException") (vx_runS (As := [.int (iz (zbb false))]) (rest := []) ⟨hx, hb, hml, hown, hts⟩ (c_X9_demand_x l G s1 s2 s3 hl0 H.size) (va_cwS 1 hts gX9_lend_X9_demand rfl rfl rfl (by decide +kernel) ⟨Nat.le_of_ble_eq_true rfl, Nat.le_of_ble_eq_true rfl⟩) (zpSe zXE_ok hE hS hA hKX hP hD [] rfl rfl) rfl rfl hl.1 rfl (lv_room (Nat.le_of_ble_eq_true rfl)) dX9_lend_8 ⟨(by first | exact Nat.le_of_ble_eq_true rfl | (show _ ≤ (1 : Nat); omega)), (by first | exact Nat.le_of_ble_eq_true rfl | (show _ ≤ (6 : Nat); omega))⟩) hS (va_free (wc := []) hD hS hA [] rfl) hout hlocks (by first | exact Nat.le_of_ble_eq_true rfl | omega) (by first | exact Nat.le_of_ble_eq_true rfl | omega)

def rm_c_X9_price_o : Room := { frames := 6, cells := 0, slots := 0, locals := 153 }
theorem iw_X9_price_X9 : ∀ w ∈ wsX90, w ∈ wsX9_price := by decide +kernel
set_option maxHeartbeats 1000000 in
set_option maxRecDepth 100000 in
theorem c_X9_price_o (l : Launch) (G : zG) (x : Nat) (ro : Nat) (rw : Nat) (bo : Nat) (li : Nat) (sh : Nat) (tx : Nat) (lo : Nat) (nl : Nat) (q : Nat) (sa : Nat) (sb : Nat) (da : Nat) (db : Nat) (wa : Nat) (wb : Nat) (cp : Int) (fa : Int) (pr : Int) (po : Int) (h0 : -9223372036854775808 ≤ cp ∧ cp < 9223372036854775808) (h01 : -9223372036854775808 ≤ fa ∧ fa < 9223372036854775808) (h02 : -2147483648 ≤ pr ∧ pr < 2147483648) (h03 : -2147483648 ≤ po ∧ po < 2147483648) (h1 : 0 ≤ cp ∧ cp ≤ 1000000000 ∧ 0 ≤ fa ∧ fa ≤ 1000000000 ∧ 1 ≤ pr ∧ pr ≤ 40 ∧ 0 ≤ po ∧ po ≤ 20000) : zM l G yX9_price wsX9_price rm_c_X9_price_o [.ref x, .long (lz (cp)), .long (lz (fa)), .int (iz (pr)), .int (iz (po))] [(x, .inr (10, [.ref ro, .ref rw, .ref bo, .ref li, .ref sh, .ref tx, .ref lo, .ref nl])), (bo, .inr (1, [.ref q])), (q, .inr (2, [.ref sa, .ref da, .ref wa, .long (lz (1)), .long (lz (1)), .int (iz (0))])), (sa, .inr (9, [.ref sb, .int (iz (0)), .long (lz (0))])), (sb, zaL (G.2 0) 40 (fun _ => 0)), (da, .inr (9, [.ref db, .int (iz (0)), .long (lz (0))])), (db, zaL (G.2 0) 40 (fun _ => 0)), (wa, .inr (9, [.ref wb, .int (iz (0)), .long (lz (0))])), (wb, zaL (G.2 0) 40 (fun _ => 0)), (ro, .inr (5, [.int (iz (6))]))] (fun A => zQl G (fun (z : Int) (u : (Int → Int) × Int × Int × (Int → Int) × Int × Int × (Int → Int) × Int × Int × Int × Int × Int) => z = zr6 (zbt cp fa pr po) ((100000 + po) ^ pr.toNat)) (fun (u : (Int → Int) × Int × Int × (Int → Int) × Int × Int × (Int → Int) × Int × Int × Int × Int × Int) => [(x, .inr (10, [.ref ro, .ref rw, .ref bo, .ref li, .ref sh, .ref tx, .ref lo, .ref nl])), (bo, .inr (1, [.ref q])), (q, .inr (2, [.ref sa, .ref da, .ref wa, .long (lz (u.2.2.2.2.2.2.2.2.2.1)), .long (lz (u.2.2.2.2.2.2.2.2.2.2.1)), .int (iz (u.2.2.2.2.2.2.2.2.2.2.2))])), (sa, .inr (9, [.ref sb, .int (iz (u.2.1)), .long (lz (u.2.2.1))])), (sb, zaL (G.2 0) 40 (u.1)), (da, .inr (9, [.ref db, .int (iz (u.2.2.2.2.1)), .long (lz (u.2.2.2.2.2.1))])), (db, zaL (G.2 0) 40 (u.2.2.2.1)), (wa, .inr (9, [.ref wb, .int (iz (u.2.2.2.2.2.2.2.1)), .long (lz (u.2.2.2.2.2.2.2.2.1))])), (wb, zaL (G.2 0) 40 (u.2.2.2.2.2.2.1)), (ro, .inr (5, [.int (iz (6))]))]) A) 0 0 := by
  refine zM_of (cc := cX9_price) (maxL := 7) (ret := (some .long)) (by decide) rfl (Nat.le_of_ble_eq_true rfl) ?_
  intro p e s m below meth c ls A Q hQ hx hb hr hts hown hlocks hml hnm hKX hP hD hA hS hl
  have hK := hKX.1
  have iwX9 := iw_X9_price_X9
  obtain ⟨H, hH⟩ : ∃ h, h = s.heap := ⟨_, rfl⟩
  obtain ⟨locs, hlo⟩ : ∃ h : List Loc, h = [] := ⟨_, rfl⟩
  have hS : va_S A s.heap H locs := by rw [hH, hlo]; exact hS
  have hP : va_P G.1 vwCl [(x, .inr (10, [.ref ro, .ref rw, .ref bo, .ref li, .ref sh, .ref tx, .ref lo, .ref nl])), (bo, .inr (1, [.ref q])), (q, .inr (2, [.ref sa, .ref da, .ref wa, .long (lz (1)), .long (lz (1)), .int (iz (0))])), (sa, .inr (9, [.ref sb, .int (iz (0)), .long (lz (0))])), (sb, zaL (G.2 0) 40 (fun _ => 0)), (da, .inr (9, [.ref db, .int (iz (0)), .long (lz (0))])), (db, zaL (G.2 0) 40 (fun _ => 0)), (wa, .inr (9, [.ref wb, .int (iz (0)), .long (lz (0))])), (wb, zaL (G.2 0) 40 (fun _ => 0)), (ro, .inr (5, [.int (iz (6))]))] H := by rw [hH]; exact hP
  have hD : va_D A [(x, .inr (10, [.ref ro, .ref rw, .ref bo, .ref li, .ref sh, .ref tx, .ref lo, .ref nl])), (bo, .inr (1, [.ref q])), (q, .inr (2, [.ref sa, .ref da, .ref wa, .long (lz (1)), .long (lz (1)), .int (iz (0))])), (sa, .inr (9, [.ref sb, .int (iz (0)), .long (lz (0))])), (sb, zaL (G.2 0) 40 (fun _ => 0)), (da, .inr (9, [.ref db, .int (iz (0)), .long (lz (0))])), (db, zaL (G.2 0) 40 (fun _ => 0)), (wa, .inr (9, [.ref wb, .int (iz (0)), .long (lz (0))])), (wb, zaL (G.2 0) 40 (fun _ => 0)), (ro, .inr (5, [.int (iz (6))]))] := hD
  have hl : lv_has ls 7 [(0, .ref x), (1, .long (lz (cp))), (3, .long (lz (fa))), (5, .int (iz (pr))), (6, .int (iz (po)))] := hl
  rw [← hH, ← hlo]
  refine lv_lload_n hx hb dX9_price_0 rfl (lv_at hl 1 rfl) ?_
  refine lv_lload_n hx hb dX9_price_1 rfl (lv_at hl 2 rfl) ?_
  refine lv_iload hx hb dX9_price_2 (lv_at hl 3 rfl) ?_
  refine zc_v (wr := [(x, .inr (10, [.ref ro, .ref rw, .ref bo, .ref li, .ref sh, .ref tx, .ref lo, .ref nl])), (bo, .inr (1, [.ref q])), (q, .inr (2, [.ref sa, .ref da, .ref wa, .long (lz (1)), .long (lz (1)), .int (iz (0))])), (sa, .inr (9, [.ref sb, .int (iz (0)), .long (lz (0))])), (sb, zaL (G.2 0) 40 (fun _ => 0)), (da, .inr (9, [.ref db, .int (iz (0)), .long (lz (0))])), (db, zaL (G.2 0) 40 (fun _ => 0)), (wa, .inr (9, [.ref wb, .int (iz (0)), .long (lz (0))])), (wb, zaL (G.2 0) 40 (fun _ => 0)), (ro, .inr (5, [.int (iz (6))]))]) (va_runS (As := [.long (lz (cp)), .long (lz (fa)), .int (iz (pr))]) (rest := []) ⟨hx, hb, hml, hown, hts⟩ (c_X9_demandBond_o l G cp fa pr (by omega) (by omega) (by omega) (by omega) H.size) (va_cwS 3 hts gX9_price_X9_demandBond rfl rfl rfl (by decide +kernel) ⟨Nat.le_of_ble_eq_true rfl, Nat.le_of_ble_eq_true rfl⟩) (zpS hKX hP hD [] rfl rfl) rfl rfl hl.1 rfl (lv_room (Nat.le_of_ble_eq_true rfl)) dX9_price_4 ⟨(by first | exact Nat.le_of_ble_eq_true rfl | (show _ ≤ (0 : Nat); omega)), (by first | exact Nat.le_of_ble_eq_true rfl | (show _ ≤ (0 : Nat); omega))⟩) hP hD hS hA [] [0, 1, 2, 3, 4, 5, 6, 7, 8, 9] rfl rfl rfl (by decide) (fun u_1 H locs td hP hD hS => ?_)
  have hP : va_P G.1 vwCl [(x, .inr (10, [.ref ro, .ref rw, .ref bo, .ref li, .ref sh, .ref tx, .ref lo, .ref nl])), (bo, .inr (1, [.ref q])), (q, .inr (2, [.ref sa, .ref da, .ref wa, .long (lz (1)), .long (lz (1)), .int (iz (0))])), (sa, .inr (9, [.ref sb, .int (iz (0)), .long (lz (0))])), (sb, zaL (G.2 0) 40 (fun _ => 0)), (da, .inr (9, [.ref db, .int (iz (0)), .long (lz (0))])), (db, zaL (G.2 0) 40 (fun _ => 0)), (wa, .inr (9, [.ref wb, .int (iz (0)), .long (lz (0))])), (wb, zaL (G.2 0) 40 (fun _ => 0)), (ro, .inr (5, [.int (iz (6))]))] H := hP
  have hD : va_D A [(x, .inr (10, [.ref ro, .ref rw, .ref bo, .ref li, .ref sh, .ref tx, .ref lo, .ref nl])), (bo, .inr (1, [.ref q])), (q, .inr (2, [.ref sa, .ref da, .ref wa, .long (lz (1)), .long (lz (1)), .int (iz (0))])), (sa, .inr (9, [.ref sb, .int (iz (0)), .long (lz (0))])), (sb, zaL (G.2 0) 40 (fun _ => 0)), (da, .inr (9, [.ref db, .int (iz (0)), .long (lz (0))])), (db, zaL (G.2 0) 40 (fun _ => 0)), (wa, .inr (9, [.ref wb, .int (iz (0)), .long (lz (0))])), (wb, zaL (G.2 0) 40 (fun _ => 0)), (ro, .inr (5, [.int (iz (6))]))] := hD
  refine lv_iload hx hb dX9_price_7 (lv_at hl 4 rfl) ?_
  refine zc_v (wr := [(x, .inr (10, [.ref ro, .ref rw, .ref bo, .ref li, .ref sh, .ref tx, .ref lo, .ref nl])), (bo, .inr (1, [.ref q])), (q, .inr (2, [.ref sa, .ref da, .ref wa, .long (lz (1)), .long (lz (1)), .int (iz (0))])), (sa, .inr (9, [.ref sb, .int (iz (0)), .long (lz (0))])), (sb, zaL (G.2 0) 40 (fun _ => 0)), (da, .inr (9, [.ref db, .int (iz (0)), .long (lz (0))])), (db, zaL (G.2 0) 40 (fun _ => 0)), (wa, .inr (9, [.ref wb, .int (iz (0)), .long (lz (0))])), (wb, zaL (G.2 0) 40 (fun _ => 0)), (ro, .inr (5, [.int (iz (6))]))]) (va_runS (As := [.int (iz (po))]) (rest := []) ⟨hx, hb, hml, hown, hts⟩ (c_X9_demandRate_o l G po (by omega) (by omega) H.size) (va_cwS 1 hts gX9_price_X9_demandRate rfl rfl rfl (by decide +kernel) ⟨Nat.le_of_ble_eq_true rfl, Nat.le_of_ble_eq_true rfl⟩) (zpS hKX hP hD [] rfl rfl) rfl rfl hl.1 rfl (lv_room (Nat.le_of_ble_eq_true rfl)) dX9_price_9 ⟨(by first | exact Nat.le_of_ble_eq_true rfl | (show _ ≤ (0 : Nat); omega)), (by first | exact Nat.le_of_ble_eq_true rfl | (show _ ≤ (0 : Nat); omega))⟩) hP hD hS hA [] [0, 1, 2, 3, 4, 5, 6, 7, 8, 9] rfl rfl rfl (by decide) (fun u_4 H locs td2 hP hD hS => ?_)
  have hP : va_P G.1 vwCl [(x, .inr (10, [.ref ro, .ref rw, .ref bo, .ref li, .ref sh, .ref tx, .ref lo, .ref nl])), (bo, .inr (1, [.ref q])), (q, .inr (2, [.ref sa, .ref da, .ref wa, .long (lz (1)), .long (lz (1)), .int (iz (0))])), (sa, .inr (9, [.ref sb, .int (iz (0)), .long (lz (0))])), (sb, zaL (G.2 0) 40 (fun _ => 0)), (da, .inr (9, [.ref db, .int (iz (0)), .long (lz (0))])), (db, zaL (G.2 0) 40 (fun _ => 0)), (wa, .inr (9, [.ref wb, .int (iz (0)), .long (lz (0))])), (wb, zaL (G.2 0) 40 (fun _ => 0)), (ro, .inr (5, [.int (iz (6))]))] H := hP
  have hD : va_D A [(x, .inr (10, [.ref ro, .ref rw, .ref bo, .ref li, .ref sh, .ref tx, .ref lo, .ref nl])), (bo, .inr (1, [.ref q])), (q, .inr (2, [.ref sa, .ref da, .ref wa, .long (lz (1)), .long (lz (1)), .int (iz (0))])), (sa, .inr (9, [.ref sb, .int (iz (0)), .long (lz (0))])), (sb, zaL (G.2 0) 40 (fun _ => 0)), (da, .inr (9, [.ref db, .int (iz (0)), .long (lz (0))])), (db, zaL (G.2 0) 40 (fun _ => 0)), (wa, .inr (9, [.ref wb, .int (iz (0)), .long (lz (0))])), (wb, zaL (G.2 0) 40 (fun _ => 0)), (ro, .inr (5, [.int (iz (6))]))] := hD
  refine lv_aload_n hx hb dX9_price_12 rfl (lv_at hl 0 rfl) ?_
  refine va_get (D := G.1) (ci := 10) (v := .ref bo) (C := RX9) (T := TX9) (N := 8) hx hb hts iwX9 hown hK hP 0 rfl rfl 2 (by decide) (hts (.fieldLink RX9 26 "AnnuityHouse" "bond" "LAnnuityHouse$Bond;") (by decide +kernel)) (fun _ h9 => h9) rfl dX9_price_13 ?_
  refine lv_lload_n hx hb dX9_price_16 rfl (lv_at hl 1 rfl) ?_
  refine lv_lload_n hx hb dX9_price_17 rfl (lv_at hl 2 rfl) ?_
  refine lv_iload hx hb dX9_price_18 (lv_at hl 3 rfl) ?_
  refine lv_iload hx hb dX9_price_20 (lv_at hl 4 rfl) ?_
  refine lv_aload_n hx hb dX9_price_22 rfl (lv_at hl 0 rfl) ?_
  refine va_get (D := G.1) (ci := 10) (v := .ref ro) (C := RX9) (T := TX9) (N := 8) hx hb hts iwX9 hown hK hP 0 rfl rfl 0 (by decide) (hts (.fieldLink RX9 10 "AnnuityHouse" "rounder" "LAnnuityHouse$Rounder;") (by decide +kernel)) (fun _ h9 => h9) rfl dX9_price_23 ?_
  refine zc_l (wr := [(x, .inr (10, [.ref ro, .ref rw, .ref bo, .ref li, .ref sh, .ref tx, .ref lo, .ref nl]))]) (va_runV (As := [.long (lz (cp)), .long (lz (fa)), .int (iz (pr)), .int (iz (po)), .ref ro]) (rest := []) ⟨hx, hb, hml, hown, hts⟩ (c_X0_worthNow l G bo q ro sa sb (fun _ => 0) 0 0 da db (fun _ => 0) 0 0 wa wb (fun _ => 0) 0 0 1 1 0 cp fa pr po (by omega) (by omega) (by omega) H.size) (cwV 5 hts gX9_price_X0_worthNow rfl rfl rfl (by decide +kernel) ⟨Nat.le_of_ble_eq_true rfl, Nat.le_of_ble_eq_true rfl⟩) (zpV hKX hP hD [1, 2, 3, 4, 5, 6, 7, 8, 9] rfl rfl 1 1 rfl rfl) rfl rfl hl.1 rfl (lv_room (Nat.le_of_ble_eq_true rfl)) dX9_price_26 ⟨(by first | exact Nat.le_of_ble_eq_true rfl | (show _ ≤ (0 : Nat); omega)), (by first | exact Nat.le_of_ble_eq_true rfl | (show _ ≤ (0 : Nat); omega))⟩) hP hD hS hA [1, 2, 3, 4, 5, 6, 7, 8, 9] [0] rfl rfl rfl (by decide) (fun zz u_7 H locs hz hP hD hS => ?_)
  obtain ⟨sf2, sn2, st2, df2, dn2, dt2, wf2, wn2, wt2, ru, rd, pq⟩ := u_7
  have hP : va_P G.1 vwCl [(x, .inr (10, [.ref ro, .ref rw, .ref bo, .ref li, .ref sh, .ref tx, .ref lo, .ref nl])), (bo, .inr (1, [.ref q])), (q, .inr (2, [.ref sa, .ref da, .ref wa, .long (lz (ru)), .long (lz (rd)), .int (iz (pq))])), (sa, .inr (9, [.ref sb, .int (iz (sn2)), .long (lz (st2))])), (sb, zaL (G.2 0) 40 (sf2)), (da, .inr (9, [.ref db, .int (iz (dn2)), .long (lz (dt2))])), (db, zaL (G.2 0) 40 (df2)), (wa, .inr (9, [.ref wb, .int (iz (wn2)), .long (lz (wt2))])), (wb, zaL (G.2 0) 40 (wf2)), (ro, .inr (5, [.int (iz (6))]))] H := hP
  have hD : va_D A [(x, .inr (10, [.ref ro, .ref rw, .ref bo, .ref li, .ref sh, .ref tx, .ref lo, .ref nl])), (bo, .inr (1, [.ref q])), (q, .inr (2, [.ref sa, .ref da, .ref wa, .long (lz (ru)), .long (lz (rd)), .int (iz (pq))])), (sa, .inr (9, [.ref sb, .int (iz (sn2)), .long (lz (st2))])), (sb, zaL (G.2 0) 40 (sf2)), (da, .inr (9, [.ref db, .int (iz (dn2)), .long (lz (dt2))])), (db, zaL (G.2 0) 40 (df2)), (wa, .inr (9, [.ref wb, .int (iz (wn2)), .long (lz (wt2))])), (wb, zaL (G.2 0) 40 (wf2)), (ro, .inr (5, [.int (iz (6))]))] := hD
  have hz : zz = zr6 (zbt cp fa pr po) ((100000 + po) ^ pr.toNat) := hz
  rw [hQ]
  exact zr_lret (z := zz) (u := (sf2, sn2, st2, df2, dn2, dt2, wf2, wn2, wt2, ru, rd, pq)) hx hb hr hlocks hP hD hS (by first | exact Nat.le_of_ble_eq_true rfl | omega) (by first | exact Nat.le_of_ble_eq_true rfl | omega) dX9_price_29 (show zz = zr6 (zbt cp fa pr po) ((100000 + po) ^ pr.toNat) from hz)

def rm_c_X9_price_x : Room := { frames := 8, cells := 1, slots := 6, locals := 134 }
set_option maxHeartbeats 1000000 in
set_option maxRecDepth 100000 in
theorem c_X9_price_x (l : Launch) (G : zG) (s1 : Nat) (s2 : Nat) (s3 : Nat) (x : Nat) (ro : Nat) (rw : Nat) (bo : Nat) (li : Nat) (sh : Nat) (tx : Nat) (lo : Nat) (nl : Nat) (cp : Int) (fa : Int) (pr : Int) (po : Int) (hl0 : l.stackTraces = false) (h0 : -9223372036854775808 ≤ cp ∧ cp < 9223372036854775808) (h01 : -9223372036854775808 ≤ fa ∧ fa < 9223372036854775808) (h02 : -2147483648 ≤ pr ∧ pr < 2147483648) (h03 : -2147483648 ≤ po ∧ po < 2147483648) (h1 : ¬ (0 ≤ cp ∧ cp ≤ 1000000000 ∧ 0 ≤ fa ∧ fa ≤ 1000000000 ∧ 1 ≤ pr ∧ pr ≤ 40 ∧ 0 ≤ po ∧ po ≤ 20000)) : zMx l (zXE s1 s2 s3) G yX9_price wsX9_price rm_c_X9_price_x [.ref x, .long (lz (cp)), .long (lz (fa)), .int (iz (pr)), .int (iz (po))] [(x, .inr (10, [.ref ro, .ref rw, .ref bo, .ref li, .ref sh, .ref tx, .ref lo, .ref nl]))] "java/lang/IllegalArgumentException" 1 6 := by
  refine zMx_of (cc := cX9_price) (maxL := 7) (ret := (some .long)) (by decide) rfl (Nat.le_of_ble_eq_true rfl) ?_
  intro p e s m below meth c ls A Q hQ hx hb hr hts hown hlocks hml hout hKX hE hP hD hA hS hl
  have hK := hKX.1
  obtain ⟨H, hH⟩ : ∃ h, h = s.heap := ⟨_, rfl⟩
  obtain ⟨locs, hlo⟩ : ∃ h : List Loc, h = [] := ⟨_, rfl⟩
  have hS : va_S A s.heap H locs := by rw [hH, hlo]; exact hS
  have hP : va_P G.1 vwCl [(x, .inr (10, [.ref ro, .ref rw, .ref bo, .ref li, .ref sh, .ref tx, .ref lo, .ref nl]))] H := by rw [hH]; exact hP
  have hD : va_D A [(x, .inr (10, [.ref ro, .ref rw, .ref bo, .ref li, .ref sh, .ref tx, .ref lo, .ref nl]))] := hD
  have hl : lv_has ls 7 [(0, .ref x), (1, .long (lz (cp))), (3, .long (lz (fa))), (5, .int (iz (pr))), (6, .int (iz (po)))] := hl
  rw [← hH, ← hlo]
  refine lv_lload_n hx hb dX9_price_0 rfl (lv_at hl 1 rfl) ?_
  refine lv_lload_n hx hb dX9_price_1 rfl (lv_at hl 2 rfl) ?_
  refine lv_iload hx hb dX9_price_2 (lv_at hl 3 rfl) ?_
  by_cases hsp_4 : 0 ≤ cp ∧ cp ≤ 1000000000 ∧ 0 ≤ fa ∧ fa ≤ 1000000000 ∧ 1 ≤ pr ∧ pr ≤ 40
  ·
    refine zc_v (wr := [(x, .inr (10, [.ref ro, .ref rw, .ref bo, .ref li, .ref sh, .ref tx, .ref lo, .ref nl]))]) (va_runS (As := [.long (lz (cp)), .long (lz (fa)), .int (iz (pr))]) (rest := []) ⟨hx, hb, hml, hown, hts⟩ (c_X9_demandBond_o l G cp fa pr (by omega) (by omega) (by omega) (by omega) H.size) (va_cwS 3 hts gX9_price_X9_demandBond rfl rfl rfl (by decide +kernel) ⟨Nat.le_of_ble_eq_true rfl, Nat.le_of_ble_eq_true rfl⟩) (zpS hKX hP hD [] rfl rfl) rfl rfl hl.1 rfl (lv_room (Nat.le_of_ble_eq_true rfl)) dX9_price_4 ⟨(by first | exact Nat.le_of_ble_eq_true rfl | (show _ ≤ (1 : Nat); omega)), (by first | exact Nat.le_of_ble_eq_true rfl | (show _ ≤ (6 : Nat); omega))⟩) hP hD hS hA [] [0] rfl rfl rfl (by decide) (fun u_1 H locs hq_4 hP hD hS => ?_)
    have hP : va_P G.1 vwCl [(x, .inr (10, [.ref ro, .ref rw, .ref bo, .ref li, .ref sh, .ref tx, .ref lo, .ref nl]))] H := hP
    have hD : va_D A [(x, .inr (10, [.ref ro, .ref rw, .ref bo, .ref li, .ref sh, .ref tx, .ref lo, .ref nl]))] := hD
    refine lv_iload hx hb dX9_price_7 (lv_at hl 4 rfl) ?_
    rw [hQ]
    exact zx_thr (X := "java/lang/IllegalArgumentException") (vx_runS (As := [.int (iz (po))]) (rest := []) ⟨hx, hb, hml, hown, hts⟩ (c_X9_demandRate_x l G s1 s2 s3 po hl0 (by omega) (by omega) H.size) (va_cwS 1 hts gX9_price_X9_demandRate rfl rfl rfl (by decide +kernel) ⟨Nat.le_of_ble_eq_true rfl, Nat.le_of_ble_eq_true rfl⟩) (zpSe zXE_ok hE hS hA hKX hP hD [] rfl rfl) rfl rfl hl.1 rfl (lv_room (Nat.le_of_ble_eq_true rfl)) dX9_price_9 ⟨(by first | exact Nat.le_of_ble_eq_true rfl | (show _ ≤ (1 : Nat); omega)), (by first | exact Nat.le_of_ble_eq_true rfl | (show _ ≤ (6 : Nat); omega))⟩) hS (va_free (wc := []) hD hS hA [] rfl) hout hlocks (by first | exact Nat.le_of_ble_eq_true rfl | omega) (by first | exact Nat.le_of_ble_eq_true rfl | omega)
  ·
    rw [hQ]
    exact zx_thr (X := "java/lang/IllegalArgumentException") (vx_runS (As := [.long (lz (cp)), .long (lz (fa)), .int (iz (pr))]) (rest := []) ⟨hx, hb, hml, hown, hts⟩ (c_X9_demandBond_x l G s1 s2 s3 cp fa pr hl0 (by omega) (by omega) (by omega) (by omega) H.size) (va_cwS 3 hts gX9_price_X9_demandBond rfl rfl rfl (by decide +kernel) ⟨Nat.le_of_ble_eq_true rfl, Nat.le_of_ble_eq_true rfl⟩) (zpSe zXE_ok hE hS hA hKX hP hD [] rfl rfl) rfl rfl hl.1 rfl (lv_room (Nat.le_of_ble_eq_true rfl)) dX9_price_4 ⟨(by first | exact Nat.le_of_ble_eq_true rfl | (show _ ≤ (1 : Nat); omega)), (by first | exact Nat.le_of_ble_eq_true rfl | (show _ ≤ (6 : Nat); omega))⟩) hS (va_free (wc := []) hD hS hA [] rfl) hout hlocks (by first | exact Nat.le_of_ble_eq_true rfl | omega) (by first | exact Nat.le_of_ble_eq_true rfl | omega)

def rm_c_X9_bondYield_o : Room := { frames := 7, cells := 0, slots := 0, locals := 185 }
theorem iw_X9_bondYield_X9 : ∀ w ∈ wsX90, w ∈ wsX9_bondYield := by decide +kernel
set_option maxHeartbeats 1000000 in
set_option maxRecDepth 100000 in
theorem c_X9_bondYield_o (l : Launch) (G : zG) (x : Nat) (ro : Nat) (rw : Nat) (bo : Nat) (li : Nat) (sh : Nat) (tx : Nat) (lo : Nat) (nl : Nat) (q : Nat) (sa : Nat) (sb : Nat) (da : Nat) (db : Nat) (wa : Nat) (wb : Nat) (cp : Int) (fa : Int) (pr : Int) (mo : Int) (h0 : -9223372036854775808 ≤ cp ∧ cp < 9223372036854775808) (h01 : -9223372036854775808 ≤ fa ∧ fa < 9223372036854775808) (h02 : -2147483648 ≤ pr ∧ pr < 2147483648) (h03 : -9223372036854775808 ≤ mo ∧ mo < 9223372036854775808) (h1 : 0 ≤ cp ∧ cp ≤ 1000000000 ∧ 0 ≤ fa ∧ fa ≤ 1000000000 ∧ 1 ≤ pr ∧ pr ≤ 40 ∧ 0 ≤ mo ∧ mo ≤ 1000000000000) : zM l G yX9_bondYield wsX9_bondYield rm_c_X9_bondYield_o [.ref x, .long (lz (cp)), .long (lz (fa)), .int (iz (pr)), .long (lz (mo))] [(x, .inr (10, [.ref ro, .ref rw, .ref bo, .ref li, .ref sh, .ref tx, .ref lo, .ref nl])), (bo, .inr (1, [.ref q])), (q, .inr (2, [.ref sa, .ref da, .ref wa, .long (lz (1)), .long (lz (1)), .int (iz (0))])), (sa, .inr (9, [.ref sb, .int (iz (0)), .long (lz (0))])), (sb, zaL (G.2 0) 40 (fun _ => 0)), (da, .inr (9, [.ref db, .int (iz (0)), .long (lz (0))])), (db, zaL (G.2 0) 40 (fun _ => 0)), (wa, .inr (9, [.ref wb, .int (iz (0)), .long (lz (0))])), (wb, zaL (G.2 0) 40 (fun _ => 0))] (fun A => zQi G (fun (z : Int) (u : (Int → Int) × Int × Int × (Int → Int) × Int × Int × (Int → Int) × Int × Int × Int × Int × Int) => ((z = -1 ∧ ¬ zcheap cp fa pr mo (20000)) ∨ (0 ≤ z ∧ z ≤ 20000 ∧ zcheap cp fa pr mo (z) ∧ ∀ p : Int, 0 ≤ p → p < z → ¬ zcheap cp fa pr mo (p)))) (fun (u : (Int → Int) × Int × Int × (Int → Int) × Int × Int × (Int → Int) × Int × Int × Int × Int × Int) => [(x, .inr (10, [.ref ro, .ref rw, .ref bo, .ref li, .ref sh, .ref tx, .ref lo, .ref nl])), (bo, .inr (1, [.ref q])), (q, .inr (2, [.ref sa, .ref da, .ref wa, .long (lz (u.2.2.2.2.2.2.2.2.2.1)), .long (lz (u.2.2.2.2.2.2.2.2.2.2.1)), .int (iz (u.2.2.2.2.2.2.2.2.2.2.2))])), (sa, .inr (9, [.ref sb, .int (iz (u.2.1)), .long (lz (u.2.2.1))])), (sb, zaL (G.2 0) 40 (u.1)), (da, .inr (9, [.ref db, .int (iz (u.2.2.2.2.1)), .long (lz (u.2.2.2.2.2.1))])), (db, zaL (G.2 0) 40 (u.2.2.2.1)), (wa, .inr (9, [.ref wb, .int (iz (u.2.2.2.2.2.2.2.1)), .long (lz (u.2.2.2.2.2.2.2.2.1))])), (wb, zaL (G.2 0) 40 (u.2.2.2.2.2.2.1))]) A) 0 0 := by
  refine zM_of (cc := cX9_bondYield) (maxL := 8) (ret := (some .int)) (by decide) rfl (Nat.le_of_ble_eq_true rfl) ?_
  intro p e s m below meth c ls A Q hQ hx hb hr hts hown hlocks hml hnm hKX hP hD hA hS hl
  have hK := hKX.1
  have iwX9 := iw_X9_bondYield_X9
  obtain ⟨H, hH⟩ : ∃ h, h = s.heap := ⟨_, rfl⟩
  obtain ⟨locs, hlo⟩ : ∃ h : List Loc, h = [] := ⟨_, rfl⟩
  have hS : va_S A s.heap H locs := by rw [hH, hlo]; exact hS
  have hP : va_P G.1 vwCl [(x, .inr (10, [.ref ro, .ref rw, .ref bo, .ref li, .ref sh, .ref tx, .ref lo, .ref nl])), (bo, .inr (1, [.ref q])), (q, .inr (2, [.ref sa, .ref da, .ref wa, .long (lz (1)), .long (lz (1)), .int (iz (0))])), (sa, .inr (9, [.ref sb, .int (iz (0)), .long (lz (0))])), (sb, zaL (G.2 0) 40 (fun _ => 0)), (da, .inr (9, [.ref db, .int (iz (0)), .long (lz (0))])), (db, zaL (G.2 0) 40 (fun _ => 0)), (wa, .inr (9, [.ref wb, .int (iz (0)), .long (lz (0))])), (wb, zaL (G.2 0) 40 (fun _ => 0))] H := by rw [hH]; exact hP
  have hD : va_D A [(x, .inr (10, [.ref ro, .ref rw, .ref bo, .ref li, .ref sh, .ref tx, .ref lo, .ref nl])), (bo, .inr (1, [.ref q])), (q, .inr (2, [.ref sa, .ref da, .ref wa, .long (lz (1)), .long (lz (1)), .int (iz (0))])), (sa, .inr (9, [.ref sb, .int (iz (0)), .long (lz (0))])), (sb, zaL (G.2 0) 40 (fun _ => 0)), (da, .inr (9, [.ref db, .int (iz (0)), .long (lz (0))])), (db, zaL (G.2 0) 40 (fun _ => 0)), (wa, .inr (9, [.ref wb, .int (iz (0)), .long (lz (0))])), (wb, zaL (G.2 0) 40 (fun _ => 0))] := hD
  have hl : lv_has ls 8 [(0, .ref x), (1, .long (lz (cp))), (3, .long (lz (fa))), (5, .int (iz (pr))), (6, .long (lz (mo)))] := hl
  rw [← hH, ← hlo]
  refine lv_lload_n hx hb dX9_bondYield_0 rfl (lv_at hl 1 rfl) ?_
  refine lv_lload_n hx hb dX9_bondYield_1 rfl (lv_at hl 2 rfl) ?_
  refine lv_iload hx hb dX9_bondYield_2 (lv_at hl 3 rfl) ?_
  refine zc_v (wr := [(x, .inr (10, [.ref ro, .ref rw, .ref bo, .ref li, .ref sh, .ref tx, .ref lo, .ref nl])), (bo, .inr (1, [.ref q])), (q, .inr (2, [.ref sa, .ref da, .ref wa, .long (lz (1)), .long (lz (1)), .int (iz (0))])), (sa, .inr (9, [.ref sb, .int (iz (0)), .long (lz (0))])), (sb, zaL (G.2 0) 40 (fun _ => 0)), (da, .inr (9, [.ref db, .int (iz (0)), .long (lz (0))])), (db, zaL (G.2 0) 40 (fun _ => 0)), (wa, .inr (9, [.ref wb, .int (iz (0)), .long (lz (0))])), (wb, zaL (G.2 0) 40 (fun _ => 0))]) (va_runS (As := [.long (lz (cp)), .long (lz (fa)), .int (iz (pr))]) (rest := []) ⟨hx, hb, hml, hown, hts⟩ (c_X9_demandBond_o l G cp fa pr (by omega) (by omega) (by omega) (by omega) H.size) (va_cwS 3 hts gX9_bondYield_X9_demandBond rfl rfl rfl (by decide +kernel) ⟨Nat.le_of_ble_eq_true rfl, Nat.le_of_ble_eq_true rfl⟩) (zpS hKX hP hD [] rfl rfl) rfl rfl hl.1 rfl (lv_room (Nat.le_of_ble_eq_true rfl)) dX9_bondYield_4 ⟨(by first | exact Nat.le_of_ble_eq_true rfl | (show _ ≤ (0 : Nat); omega)), (by first | exact Nat.le_of_ble_eq_true rfl | (show _ ≤ (0 : Nat); omega))⟩) hP hD hS hA [] [0, 1, 2, 3, 4, 5, 6, 7, 8] rfl rfl rfl (by decide) (fun u_1 H locs td hP hD hS => ?_)
  have hP : va_P G.1 vwCl [(x, .inr (10, [.ref ro, .ref rw, .ref bo, .ref li, .ref sh, .ref tx, .ref lo, .ref nl])), (bo, .inr (1, [.ref q])), (q, .inr (2, [.ref sa, .ref da, .ref wa, .long (lz (1)), .long (lz (1)), .int (iz (0))])), (sa, .inr (9, [.ref sb, .int (iz (0)), .long (lz (0))])), (sb, zaL (G.2 0) 40 (fun _ => 0)), (da, .inr (9, [.ref db, .int (iz (0)), .long (lz (0))])), (db, zaL (G.2 0) 40 (fun _ => 0)), (wa, .inr (9, [.ref wb, .int (iz (0)), .long (lz (0))])), (wb, zaL (G.2 0) 40 (fun _ => 0))] H := hP
  have hD : va_D A [(x, .inr (10, [.ref ro, .ref rw, .ref bo, .ref li, .ref sh, .ref tx, .ref lo, .ref nl])), (bo, .inr (1, [.ref q])), (q, .inr (2, [.ref sa, .ref da, .ref wa, .long (lz (1)), .long (lz (1)), .int (iz (0))])), (sa, .inr (9, [.ref sb, .int (iz (0)), .long (lz (0))])), (sb, zaL (G.2 0) 40 (fun _ => 0)), (da, .inr (9, [.ref db, .int (iz (0)), .long (lz (0))])), (db, zaL (G.2 0) 40 (fun _ => 0)), (wa, .inr (9, [.ref wb, .int (iz (0)), .long (lz (0))])), (wb, zaL (G.2 0) 40 (fun _ => 0))] := hD
  refine lv_lload hx hb dX9_bondYield_7 (lv_at hl 4 rfl) ?_
  refine lv_lconst (v := lz (0)) hx hb dX9_bondYield_9 rfl ?_
  refine zr_ldc2 (z := 1000000000000) hx hb hown (hts (.constantLong RX9 77 (1000000000000)) (by decide +kernel)) rfl dX9_bondYield_10 ?_
  refine zc_z (wr := [(x, .inr (10, [.ref ro, .ref rw, .ref bo, .ref li, .ref sh, .ref tx, .ref lo, .ref nl])), (bo, .inr (1, [.ref q])), (q, .inr (2, [.ref sa, .ref da, .ref wa, .long (lz (1)), .long (lz (1)), .int (iz (0))])), (sa, .inr (9, [.ref sb, .int (iz (0)), .long (lz (0))])), (sb, zaL (G.2 0) 40 (fun _ => 0)), (da, .inr (9, [.ref db, .int (iz (0)), .long (lz (0))])), (db, zaL (G.2 0) 40 (fun _ => 0)), (wa, .inr (9, [.ref wb, .int (iz (0)), .long (lz (0))])), (wb, zaL (G.2 0) 40 (fun _ => 0))]) (va_runS (As := [.long (lz (mo)), .long (lz (0)), .long (lz (1000000000000))]) (rest := []) ⟨hx, hb, hml, hown, hts⟩ (c_X9_isWithin l G mo 0 1000000000000 (by omega) (by omega) (by omega) H.size) (va_cwS 3 hts gX9_bondYield_X9_isWithin rfl rfl rfl (by decide +kernel) ⟨Nat.le_of_ble_eq_true rfl, Nat.le_of_ble_eq_true rfl⟩) (zpS hKX hP hD [] rfl rfl) rfl rfl hl.1 rfl (lv_room (Nat.le_of_ble_eq_true rfl)) dX9_bondYield_13 ⟨(by first | exact Nat.le_of_ble_eq_true rfl | (show _ ≤ (0 : Nat); omega)), (by first | exact Nat.le_of_ble_eq_true rfl | (show _ ≤ (0 : Nat); omega))⟩) hP hD hS hA [] [0, 1, 2, 3, 4, 5, 6, 7, 8] rfl rfl rfl (by decide) (fun y1 u_4 H locs hy1 hP hD hS => ?_)
  have hP : va_P G.1 vwCl [(x, .inr (10, [.ref ro, .ref rw, .ref bo, .ref li, .ref sh, .ref tx, .ref lo, .ref nl])), (bo, .inr (1, [.ref q])), (q, .inr (2, [.ref sa, .ref da, .ref wa, .long (lz (1)), .long (lz (1)), .int (iz (0))])), (sa, .inr (9, [.ref sb, .int (iz (0)), .long (lz (0))])), (sb, zaL (G.2 0) 40 (fun _ => 0)), (da, .inr (9, [.ref db, .int (iz (0)), .long (lz (0))])), (db, zaL (G.2 0) 40 (fun _ => 0)), (wa, .inr (9, [.ref wb, .int (iz (0)), .long (lz (0))])), (wb, zaL (G.2 0) 40 (fun _ => 0))] H := hP
  have hD : va_D A [(x, .inr (10, [.ref ro, .ref rw, .ref bo, .ref li, .ref sh, .ref tx, .ref lo, .ref nl])), (bo, .inr (1, [.ref q])), (q, .inr (2, [.ref sa, .ref da, .ref wa, .long (lz (1)), .long (lz (1)), .int (iz (0))])), (sa, .inr (9, [.ref sb, .int (iz (0)), .long (lz (0))])), (sb, zaL (G.2 0) 40 (fun _ => 0)), (da, .inr (9, [.ref db, .int (iz (0)), .long (lz (0))])), (db, zaL (G.2 0) 40 (fun _ => 0)), (wa, .inr (9, [.ref wb, .int (iz (0)), .long (lz (0))])), (wb, zaL (G.2 0) 40 (fun _ => 0))] := hD
  have hy1 : y1 = decide ((0 : Int) ≤ mo ∧ mo ≤ (1000000000000 : Int)) := hy1
  rw [show y1 = true from hy1.trans (decide_eq_true (by omega))]
  refine zc_v (wr := [(x, .inr (10, [.ref ro, .ref rw, .ref bo, .ref li, .ref sh, .ref tx, .ref lo, .ref nl])), (bo, .inr (1, [.ref q])), (q, .inr (2, [.ref sa, .ref da, .ref wa, .long (lz (1)), .long (lz (1)), .int (iz (0))])), (sa, .inr (9, [.ref sb, .int (iz (0)), .long (lz (0))])), (sb, zaL (G.2 0) 40 (fun _ => 0)), (da, .inr (9, [.ref db, .int (iz (0)), .long (lz (0))])), (db, zaL (G.2 0) 40 (fun _ => 0)), (wa, .inr (9, [.ref wb, .int (iz (0)), .long (lz (0))])), (wb, zaL (G.2 0) 40 (fun _ => 0))]) (va_runS (As := [.int (iz (zbb true))]) (rest := []) ⟨hx, hb, hml, hown, hts⟩ (c_X9_demand_o l G   H.size) (va_cwS 1 hts gX9_bondYield_X9_demand rfl rfl rfl (by decide +kernel) ⟨Nat.le_of_ble_eq_true rfl, Nat.le_of_ble_eq_true rfl⟩) (zpS hKX hP hD [] rfl rfl) rfl rfl hl.1 rfl (lv_room (Nat.le_of_ble_eq_true rfl)) dX9_bondYield_16 ⟨(by first | exact Nat.le_of_ble_eq_true rfl | (show _ ≤ (0 : Nat); omega)), (by first | exact Nat.le_of_ble_eq_true rfl | (show _ ≤ (0 : Nat); omega))⟩) hP hD hS hA [] [0, 1, 2, 3, 4, 5, 6, 7, 8] rfl rfl rfl (by decide) (fun u_6 H locs hq_9 hP hD hS => ?_)
  have hP : va_P G.1 vwCl [(x, .inr (10, [.ref ro, .ref rw, .ref bo, .ref li, .ref sh, .ref tx, .ref lo, .ref nl])), (bo, .inr (1, [.ref q])), (q, .inr (2, [.ref sa, .ref da, .ref wa, .long (lz (1)), .long (lz (1)), .int (iz (0))])), (sa, .inr (9, [.ref sb, .int (iz (0)), .long (lz (0))])), (sb, zaL (G.2 0) 40 (fun _ => 0)), (da, .inr (9, [.ref db, .int (iz (0)), .long (lz (0))])), (db, zaL (G.2 0) 40 (fun _ => 0)), (wa, .inr (9, [.ref wb, .int (iz (0)), .long (lz (0))])), (wb, zaL (G.2 0) 40 (fun _ => 0))] H := hP
  have hD : va_D A [(x, .inr (10, [.ref ro, .ref rw, .ref bo, .ref li, .ref sh, .ref tx, .ref lo, .ref nl])), (bo, .inr (1, [.ref q])), (q, .inr (2, [.ref sa, .ref da, .ref wa, .long (lz (1)), .long (lz (1)), .int (iz (0))])), (sa, .inr (9, [.ref sb, .int (iz (0)), .long (lz (0))])), (sb, zaL (G.2 0) 40 (fun _ => 0)), (da, .inr (9, [.ref db, .int (iz (0)), .long (lz (0))])), (db, zaL (G.2 0) 40 (fun _ => 0)), (wa, .inr (9, [.ref wb, .int (iz (0)), .long (lz (0))])), (wb, zaL (G.2 0) 40 (fun _ => 0))] := hD
  refine lv_aload_n hx hb dX9_bondYield_19 rfl (lv_at hl 0 rfl) ?_
  refine va_get (D := G.1) (ci := 10) (v := .ref bo) (C := RX9) (T := TX9) (N := 8) hx hb hts iwX9 hown hK hP 0 rfl rfl 2 (by decide) (hts (.fieldLink RX9 26 "AnnuityHouse" "bond" "LAnnuityHouse$Bond;") (by decide +kernel)) (fun _ h9 => h9) rfl dX9_bondYield_20 ?_
  refine lv_lload_n hx hb dX9_bondYield_23 rfl (lv_at hl 1 rfl) ?_
  refine lv_lload_n hx hb dX9_bondYield_24 rfl (lv_at hl 2 rfl) ?_
  refine lv_iload hx hb dX9_bondYield_25 (lv_at hl 3 rfl) ?_
  refine lv_lload hx hb dX9_bondYield_27 (lv_at hl 4 rfl) ?_
  refine zc_i (wr := [(x, .inr (10, [.ref ro, .ref rw, .ref bo, .ref li, .ref sh, .ref tx, .ref lo, .ref nl]))]) (va_runV (As := [.long (lz (cp)), .long (lz (fa)), .int (iz (pr)), .long (lz (mo))]) (rest := []) ⟨hx, hb, hml, hown, hts⟩ (c_X0_yieldPoints l G bo q sa sb (fun _ => 0) 0 0 da db (fun _ => 0) 0 0 wa wb (fun _ => 0) 0 0 1 1 0 cp fa pr mo (by omega) (by omega) (by omega) H.size) (cwV 4 hts gX9_bondYield_X0_yieldPoints rfl rfl rfl (by decide +kernel) ⟨Nat.le_of_ble_eq_true rfl, Nat.le_of_ble_eq_true rfl⟩) (zpV hKX hP hD [1, 2, 3, 4, 5, 6, 7, 8] rfl rfl 1 1 rfl rfl) rfl rfl hl.1 rfl (lv_room (Nat.le_of_ble_eq_true rfl)) dX9_bondYield_29 ⟨(by first | exact Nat.le_of_ble_eq_true rfl | (show _ ≤ (0 : Nat); omega)), (by first | exact Nat.le_of_ble_eq_true rfl | (show _ ≤ (0 : Nat); omega))⟩) hP hD hS hA [1, 2, 3, 4, 5, 6, 7, 8] [0] rfl rfl rfl (by decide) (fun zz u_10 H locs hz hP hD hS => ?_)
  obtain ⟨sf2, sn2, st2, df2, dn2, dt2, wf2, wn2, wt2, ru, rd, pq⟩ := u_10
  have hP : va_P G.1 vwCl [(x, .inr (10, [.ref ro, .ref rw, .ref bo, .ref li, .ref sh, .ref tx, .ref lo, .ref nl])), (bo, .inr (1, [.ref q])), (q, .inr (2, [.ref sa, .ref da, .ref wa, .long (lz (ru)), .long (lz (rd)), .int (iz (pq))])), (sa, .inr (9, [.ref sb, .int (iz (sn2)), .long (lz (st2))])), (sb, zaL (G.2 0) 40 (sf2)), (da, .inr (9, [.ref db, .int (iz (dn2)), .long (lz (dt2))])), (db, zaL (G.2 0) 40 (df2)), (wa, .inr (9, [.ref wb, .int (iz (wn2)), .long (lz (wt2))])), (wb, zaL (G.2 0) 40 (wf2))] H := hP
  have hD : va_D A [(x, .inr (10, [.ref ro, .ref rw, .ref bo, .ref li, .ref sh, .ref tx, .ref lo, .ref nl])), (bo, .inr (1, [.ref q])), (q, .inr (2, [.ref sa, .ref da, .ref wa, .long (lz (ru)), .long (lz (rd)), .int (iz (pq))])), (sa, .inr (9, [.ref sb, .int (iz (sn2)), .long (lz (st2))])), (sb, zaL (G.2 0) 40 (sf2)), (da, .inr (9, [.ref db, .int (iz (dn2)), .long (lz (dt2))])), (db, zaL (G.2 0) 40 (df2)), (wa, .inr (9, [.ref wb, .int (iz (wn2)), .long (lz (wt2))])), (wb, zaL (G.2 0) 40 (wf2))] := hD
  have hz : ((zz = -1 ∧ ¬ zcheap cp fa pr mo (20000)) ∨ (0 ≤ zz ∧ zz ≤ 20000 ∧ zcheap cp fa pr mo (zz) ∧ ∀ p : Int, 0 ≤ p → p < zz → ¬ zcheap cp fa pr mo (p))) := hz
  rw [hQ]
  exact zr_iret (z := zz) (u := (sf2, sn2, st2, df2, dn2, dt2, wf2, wn2, wt2, ru, rd, pq)) hx hb hr hlocks hP hD hS (by first | exact Nat.le_of_ble_eq_true rfl | omega) (by first | exact Nat.le_of_ble_eq_true rfl | omega) dX9_bondYield_32 (show ((zz = -1 ∧ ¬ zcheap cp fa pr mo (20000)) ∨ (0 ≤ zz ∧ zz ≤ 20000 ∧ zcheap cp fa pr mo (zz) ∧ ∀ p : Int, 0 ≤ p → p < zz → ¬ zcheap cp fa pr mo (p))) from hz)

def rm_c_X9_bondYield_x : Room := { frames := 8, cells := 1, slots := 6, locals := 134 }
set_option maxHeartbeats 1000000 in
set_option maxRecDepth 100000 in
theorem c_X9_bondYield_x (l : Launch) (G : zG) (s1 : Nat) (s2 : Nat) (s3 : Nat) (x : Nat) (ro : Nat) (rw : Nat) (bo : Nat) (li : Nat) (sh : Nat) (tx : Nat) (lo : Nat) (nl : Nat) (cp : Int) (fa : Int) (pr : Int) (mo : Int) (hl0 : l.stackTraces = false) (h0 : -9223372036854775808 ≤ cp ∧ cp < 9223372036854775808) (h01 : -9223372036854775808 ≤ fa ∧ fa < 9223372036854775808) (h02 : -2147483648 ≤ pr ∧ pr < 2147483648) (h03 : -9223372036854775808 ≤ mo ∧ mo < 9223372036854775808) (h1 : ¬ (0 ≤ cp ∧ cp ≤ 1000000000 ∧ 0 ≤ fa ∧ fa ≤ 1000000000 ∧ 1 ≤ pr ∧ pr ≤ 40 ∧ 0 ≤ mo ∧ mo ≤ 1000000000000)) : zMx l (zXE s1 s2 s3) G yX9_bondYield wsX9_bondYield rm_c_X9_bondYield_x [.ref x, .long (lz (cp)), .long (lz (fa)), .int (iz (pr)), .long (lz (mo))] [(x, .inr (10, [.ref ro, .ref rw, .ref bo, .ref li, .ref sh, .ref tx, .ref lo, .ref nl]))] "java/lang/IllegalArgumentException" 1 6 := by
  refine zMx_of (cc := cX9_bondYield) (maxL := 8) (ret := (some .int)) (by decide) rfl (Nat.le_of_ble_eq_true rfl) ?_
  intro p e s m below meth c ls A Q hQ hx hb hr hts hown hlocks hml hout hKX hE hP hD hA hS hl
  have hK := hKX.1
  obtain ⟨H, hH⟩ : ∃ h, h = s.heap := ⟨_, rfl⟩
  obtain ⟨locs, hlo⟩ : ∃ h : List Loc, h = [] := ⟨_, rfl⟩
  have hS : va_S A s.heap H locs := by rw [hH, hlo]; exact hS
  have hP : va_P G.1 vwCl [(x, .inr (10, [.ref ro, .ref rw, .ref bo, .ref li, .ref sh, .ref tx, .ref lo, .ref nl]))] H := by rw [hH]; exact hP
  have hD : va_D A [(x, .inr (10, [.ref ro, .ref rw, .ref bo, .ref li, .ref sh, .ref tx, .ref lo, .ref nl]))] := hD
  have hl : lv_has ls 8 [(0, .ref x), (1, .long (lz (cp))), (3, .long (lz (fa))), (5, .int (iz (pr))), (6, .long (lz (mo)))] := hl
  rw [← hH, ← hlo]
  refine lv_lload_n hx hb dX9_bondYield_0 rfl (lv_at hl 1 rfl) ?_
  refine lv_lload_n hx hb dX9_bondYield_1 rfl (lv_at hl 2 rfl) ?_
  refine lv_iload hx hb dX9_bondYield_2 (lv_at hl 3 rfl) ?_
  by_cases hsp_4 : 0 ≤ cp ∧ cp ≤ 1000000000 ∧ 0 ≤ fa ∧ fa ≤ 1000000000 ∧ 1 ≤ pr ∧ pr ≤ 40
  ·
    refine zc_v (wr := [(x, .inr (10, [.ref ro, .ref rw, .ref bo, .ref li, .ref sh, .ref tx, .ref lo, .ref nl]))]) (va_runS (As := [.long (lz (cp)), .long (lz (fa)), .int (iz (pr))]) (rest := []) ⟨hx, hb, hml, hown, hts⟩ (c_X9_demandBond_o l G cp fa pr (by omega) (by omega) (by omega) (by omega) H.size) (va_cwS 3 hts gX9_bondYield_X9_demandBond rfl rfl rfl (by decide +kernel) ⟨Nat.le_of_ble_eq_true rfl, Nat.le_of_ble_eq_true rfl⟩) (zpS hKX hP hD [] rfl rfl) rfl rfl hl.1 rfl (lv_room (Nat.le_of_ble_eq_true rfl)) dX9_bondYield_4 ⟨(by first | exact Nat.le_of_ble_eq_true rfl | (show _ ≤ (1 : Nat); omega)), (by first | exact Nat.le_of_ble_eq_true rfl | (show _ ≤ (6 : Nat); omega))⟩) hP hD hS hA [] [0] rfl rfl rfl (by decide) (fun u_1 H locs hq_4 hP hD hS => ?_)
    have hP : va_P G.1 vwCl [(x, .inr (10, [.ref ro, .ref rw, .ref bo, .ref li, .ref sh, .ref tx, .ref lo, .ref nl]))] H := hP
    have hD : va_D A [(x, .inr (10, [.ref ro, .ref rw, .ref bo, .ref li, .ref sh, .ref tx, .ref lo, .ref nl]))] := hD
    refine lv_lload hx hb dX9_bondYield_7 (lv_at hl 4 rfl) ?_
    refine lv_lconst (v := lz (0)) hx hb dX9_bondYield_9 rfl ?_
    refine zr_ldc2 (z := 1000000000000) hx hb hown (hts (.constantLong RX9 77 (1000000000000)) (by decide +kernel)) rfl dX9_bondYield_10 ?_
    refine zc_z (wr := [(x, .inr (10, [.ref ro, .ref rw, .ref bo, .ref li, .ref sh, .ref tx, .ref lo, .ref nl]))]) (va_runS (As := [.long (lz (mo)), .long (lz (0)), .long (lz (1000000000000))]) (rest := []) ⟨hx, hb, hml, hown, hts⟩ (c_X9_isWithin l G mo 0 1000000000000 (by omega) (by omega) (by omega) H.size) (va_cwS 3 hts gX9_bondYield_X9_isWithin rfl rfl rfl (by decide +kernel) ⟨Nat.le_of_ble_eq_true rfl, Nat.le_of_ble_eq_true rfl⟩) (zpS hKX hP hD [] rfl rfl) rfl rfl hl.1 rfl (lv_room (Nat.le_of_ble_eq_true rfl)) dX9_bondYield_13 ⟨(by first | exact Nat.le_of_ble_eq_true rfl | (show _ ≤ (1 : Nat); omega)), (by first | exact Nat.le_of_ble_eq_true rfl | (show _ ≤ (6 : Nat); omega))⟩) hP hD hS hA [] [0] rfl rfl rfl (by decide) (fun y1 u_5 H locs hy1 hP hD hS => ?_)
    have hP : va_P G.1 vwCl [(x, .inr (10, [.ref ro, .ref rw, .ref bo, .ref li, .ref sh, .ref tx, .ref lo, .ref nl]))] H := hP
    have hD : va_D A [(x, .inr (10, [.ref ro, .ref rw, .ref bo, .ref li, .ref sh, .ref tx, .ref lo, .ref nl]))] := hD
    have hy1 : y1 = decide ((0 : Int) ≤ mo ∧ mo ≤ (1000000000000 : Int)) := hy1
    rw [show y1 = false from hy1.trans (decide_eq_false (by omega))]
    rw [hQ]
    exact zx_thr (X := "java/lang/IllegalArgumentException") (vx_runS (As := [.int (iz (zbb false))]) (rest := []) ⟨hx, hb, hml, hown, hts⟩ (c_X9_demand_x l G s1 s2 s3 hl0 H.size) (va_cwS 1 hts gX9_bondYield_X9_demand rfl rfl rfl (by decide +kernel) ⟨Nat.le_of_ble_eq_true rfl, Nat.le_of_ble_eq_true rfl⟩) (zpSe zXE_ok hE hS hA hKX hP hD [] rfl rfl) rfl rfl hl.1 rfl (lv_room (Nat.le_of_ble_eq_true rfl)) dX9_bondYield_16 ⟨(by first | exact Nat.le_of_ble_eq_true rfl | (show _ ≤ (1 : Nat); omega)), (by first | exact Nat.le_of_ble_eq_true rfl | (show _ ≤ (6 : Nat); omega))⟩) hS (va_free (wc := []) hD hS hA [] rfl) hout hlocks (by first | exact Nat.le_of_ble_eq_true rfl | omega) (by first | exact Nat.le_of_ble_eq_true rfl | omega)
  ·
    rw [hQ]
    exact zx_thr (X := "java/lang/IllegalArgumentException") (vx_runS (As := [.long (lz (cp)), .long (lz (fa)), .int (iz (pr))]) (rest := []) ⟨hx, hb, hml, hown, hts⟩ (c_X9_demandBond_x l G s1 s2 s3 cp fa pr hl0 (by omega) (by omega) (by omega) (by omega) H.size) (va_cwS 3 hts gX9_bondYield_X9_demandBond rfl rfl rfl (by decide +kernel) ⟨Nat.le_of_ble_eq_true rfl, Nat.le_of_ble_eq_true rfl⟩) (zpSe zXE_ok hE hS hA hKX hP hD [] rfl rfl) rfl rfl hl.1 rfl (lv_room (Nat.le_of_ble_eq_true rfl)) dX9_bondYield_4 ⟨(by first | exact Nat.le_of_ble_eq_true rfl | (show _ ≤ (1 : Nat); omega)), (by first | exact Nat.le_of_ble_eq_true rfl | (show _ ≤ (6 : Nat); omega))⟩) hS (va_free (wc := []) hD hS hA [] rfl) hout hlocks (by first | exact Nat.le_of_ble_eq_true rfl | omega) (by first | exact Nat.le_of_ble_eq_true rfl | omega)

def rm_c_X9_accrued_o : Room := { frames := 3, cells := 0, slots := 0, locals := 79 }
theorem iw_X9_accrued_X9 : ∀ w ∈ wsX90, w ∈ wsX9_accrued := by decide +kernel
set_option maxHeartbeats 1000000 in
set_option maxRecDepth 100000 in
theorem c_X9_accrued_o (l : Launch) (G : zG) (x : Nat) (ro : Nat) (rw : Nat) (bo : Nat) (li : Nat) (sh : Nat) (tx : Nat) (lo : Nat) (nl : Nat) (cp : Int) (da : Int) (le : Int) (h0 : -9223372036854775808 ≤ cp ∧ cp < 9223372036854775808) (h01 : -2147483648 ≤ da ∧ da < 2147483648) (h02 : -2147483648 ≤ le ∧ le < 2147483648) (h1 : 0 ≤ cp ∧ cp ≤ 1000000000 ∧ 1 ≤ le ∧ le ≤ 366 ∧ 0 ≤ da ∧ da ≤ le) : zM l G yX9_accrued wsX9_accrued rm_c_X9_accrued_o [.ref x, .long (lz (cp)), .int (iz (da)), .int (iz (le))] [(x, .inr (10, [.ref ro, .ref rw, .ref bo, .ref li, .ref sh, .ref tx, .ref lo, .ref nl])), (ro, .inr (5, [.int (iz (6))]))] (fun A => zQl G (fun (z : Int) (_ : Unit) => z = zr6 (cp * da) le) (fun (_ : Unit) => [(x, .inr (10, [.ref ro, .ref rw, .ref bo, .ref li, .ref sh, .ref tx, .ref lo, .ref nl])), (ro, .inr (5, [.int (iz (6))]))]) A) 0 0 := by
  refine zM_of (cc := cX9_accrued) (maxL := 5) (ret := (some .long)) (by decide) rfl (Nat.le_of_ble_eq_true rfl) ?_
  intro p e s m below meth c ls A Q hQ hx hb hr hts hown hlocks hml hnm hKX hP hD hA hS hl
  have hK := hKX.1
  have iwX9 := iw_X9_accrued_X9
  obtain ⟨H, hH⟩ : ∃ h, h = s.heap := ⟨_, rfl⟩
  obtain ⟨locs, hlo⟩ : ∃ h : List Loc, h = [] := ⟨_, rfl⟩
  have hS : va_S A s.heap H locs := by rw [hH, hlo]; exact hS
  have hP : va_P G.1 vwCl [(x, .inr (10, [.ref ro, .ref rw, .ref bo, .ref li, .ref sh, .ref tx, .ref lo, .ref nl])), (ro, .inr (5, [.int (iz (6))]))] H := by rw [hH]; exact hP
  have hD : va_D A [(x, .inr (10, [.ref ro, .ref rw, .ref bo, .ref li, .ref sh, .ref tx, .ref lo, .ref nl])), (ro, .inr (5, [.int (iz (6))]))] := hD
  have hl : lv_has ls 5 [(0, .ref x), (1, .long (lz (cp))), (3, .int (iz (da))), (4, .int (iz (le)))] := hl
  rw [← hH, ← hlo]
  refine lv_lload_n hx hb dX9_accrued_0 rfl (lv_at hl 1 rfl) ?_
  refine lv_lconst (v := lz (0)) hx hb dX9_accrued_1 rfl ?_
  refine zr_ldc2 (z := 1000000000) hx hb hown (hts (.constantLong RX9 91 (1000000000)) (by decide +kernel)) rfl dX9_accrued_2 ?_
  refine zc_z (wr := [(x, .inr (10, [.ref ro, .ref rw, .ref bo, .ref li, .ref sh, .ref tx, .ref lo, .ref nl])), (ro, .inr (5, [.int (iz (6))]))]) (va_runS (As := [.long (lz (cp)), .long (lz (0)), .long (lz (1000000000))]) (rest := []) ⟨hx, hb, hml, hown, hts⟩ (c_X9_isWithin l G cp 0 1000000000 (by omega) (by omega) (by omega) H.size) (va_cwS 3 hts gX9_accrued_X9_isWithin rfl rfl rfl (by decide +kernel) ⟨Nat.le_of_ble_eq_true rfl, Nat.le_of_ble_eq_true rfl⟩) (zpS hKX hP hD [] rfl rfl) rfl rfl hl.1 rfl (lv_room (Nat.le_of_ble_eq_true rfl)) dX9_accrued_5 ⟨(by first | exact Nat.le_of_ble_eq_true rfl | (show _ ≤ (0 : Nat); omega)), (by first | exact Nat.le_of_ble_eq_true rfl | (show _ ≤ (0 : Nat); omega))⟩) hP hD hS hA [] [0, 1] rfl rfl rfl (by decide) (fun y1 u_1 H locs hy1 hP hD hS => ?_)
  have hP : va_P G.1 vwCl [(x, .inr (10, [.ref ro, .ref rw, .ref bo, .ref li, .ref sh, .ref tx, .ref lo, .ref nl])), (ro, .inr (5, [.int (iz (6))]))] H := hP
  have hD : va_D A [(x, .inr (10, [.ref ro, .ref rw, .ref bo, .ref li, .ref sh, .ref tx, .ref lo, .ref nl])), (ro, .inr (5, [.int (iz (6))]))] := hD
  have hy1 : y1 = decide ((0 : Int) ≤ cp ∧ cp ≤ (1000000000 : Int)) := hy1
  rw [show y1 = true from hy1.trans (decide_eq_true (by omega))]
  refine zc_v (wr := [(x, .inr (10, [.ref ro, .ref rw, .ref bo, .ref li, .ref sh, .ref tx, .ref lo, .ref nl])), (ro, .inr (5, [.int (iz (6))]))]) (va_runS (As := [.int (iz (zbb true))]) (rest := []) ⟨hx, hb, hml, hown, hts⟩ (c_X9_demand_o l G   H.size) (va_cwS 1 hts gX9_accrued_X9_demand rfl rfl rfl (by decide +kernel) ⟨Nat.le_of_ble_eq_true rfl, Nat.le_of_ble_eq_true rfl⟩) (zpS hKX hP hD [] rfl rfl) rfl rfl hl.1 rfl (lv_room (Nat.le_of_ble_eq_true rfl)) dX9_accrued_8 ⟨(by first | exact Nat.le_of_ble_eq_true rfl | (show _ ≤ (0 : Nat); omega)), (by first | exact Nat.le_of_ble_eq_true rfl | (show _ ≤ (0 : Nat); omega))⟩) hP hD hS hA [] [0, 1] rfl rfl rfl (by decide) (fun u_3 H locs hq_6 hP hD hS => ?_)
  have hP : va_P G.1 vwCl [(x, .inr (10, [.ref ro, .ref rw, .ref bo, .ref li, .ref sh, .ref tx, .ref lo, .ref nl])), (ro, .inr (5, [.int (iz (6))]))] H := hP
  have hD : va_D A [(x, .inr (10, [.ref ro, .ref rw, .ref bo, .ref li, .ref sh, .ref tx, .ref lo, .ref nl])), (ro, .inr (5, [.int (iz (6))]))] := hD
  refine lv_iload hx hb dX9_accrued_11 (lv_at hl 3 rfl) ?_
  refine zr_i2l hx hb (x := le) (⟨by omega, by omega⟩) dX9_accrued_13 ?_
  refine lv_lconst (v := lz (1)) hx hb dX9_accrued_14 rfl ?_
  refine zr_ldc2 (z := 366) hx hb hown (hts (.constantLong RX9 198 (366)) (by decide +kernel)) rfl dX9_accrued_15 ?_
  refine zc_z (wr := [(x, .inr (10, [.ref ro, .ref rw, .ref bo, .ref li, .ref sh, .ref tx, .ref lo, .ref nl])), (ro, .inr (5, [.int (iz (6))]))]) (va_runS (As := [.long (lz (le)), .long (lz (1)), .long (lz (366))]) (rest := []) ⟨hx, hb, hml, hown, hts⟩ (c_X9_isWithin l G le 1 366 (by omega) (by omega) (by omega) H.size) (va_cwS 3 hts gX9_accrued_X9_isWithin rfl rfl rfl (by decide +kernel) ⟨Nat.le_of_ble_eq_true rfl, Nat.le_of_ble_eq_true rfl⟩) (zpS hKX hP hD [] rfl rfl) rfl rfl hl.1 rfl (lv_room (Nat.le_of_ble_eq_true rfl)) dX9_accrued_18 ⟨(by first | exact Nat.le_of_ble_eq_true rfl | (show _ ≤ (0 : Nat); omega)), (by first | exact Nat.le_of_ble_eq_true rfl | (show _ ≤ (0 : Nat); omega))⟩) hP hD hS hA [] [0, 1] rfl rfl rfl (by decide) (fun y2 u_7 H locs hy2 hP hD hS => ?_)
  have hP : va_P G.1 vwCl [(x, .inr (10, [.ref ro, .ref rw, .ref bo, .ref li, .ref sh, .ref tx, .ref lo, .ref nl])), (ro, .inr (5, [.int (iz (6))]))] H := hP
  have hD : va_D A [(x, .inr (10, [.ref ro, .ref rw, .ref bo, .ref li, .ref sh, .ref tx, .ref lo, .ref nl])), (ro, .inr (5, [.int (iz (6))]))] := hD
  have hy2 : y2 = decide ((1 : Int) ≤ le ∧ le ≤ (366 : Int)) := hy2
  rw [show y2 = true from hy2.trans (decide_eq_true (by omega))]
  refine zc_v (wr := [(x, .inr (10, [.ref ro, .ref rw, .ref bo, .ref li, .ref sh, .ref tx, .ref lo, .ref nl])), (ro, .inr (5, [.int (iz (6))]))]) (va_runS (As := [.int (iz (zbb true))]) (rest := []) ⟨hx, hb, hml, hown, hts⟩ (c_X9_demand_o l G   H.size) (va_cwS 1 hts gX9_accrued_X9_demand rfl rfl rfl (by decide +kernel) ⟨Nat.le_of_ble_eq_true rfl, Nat.le_of_ble_eq_true rfl⟩) (zpS hKX hP hD [] rfl rfl) rfl rfl hl.1 rfl (lv_room (Nat.le_of_ble_eq_true rfl)) dX9_accrued_21 ⟨(by first | exact Nat.le_of_ble_eq_true rfl | (show _ ≤ (0 : Nat); omega)), (by first | exact Nat.le_of_ble_eq_true rfl | (show _ ≤ (0 : Nat); omega))⟩) hP hD hS hA [] [0, 1] rfl rfl rfl (by decide) (fun u_9 H locs hq_12 hP hD hS => ?_)
  have hP : va_P G.1 vwCl [(x, .inr (10, [.ref ro, .ref rw, .ref bo, .ref li, .ref sh, .ref tx, .ref lo, .ref nl])), (ro, .inr (5, [.int (iz (6))]))] H := hP
  have hD : va_D A [(x, .inr (10, [.ref ro, .ref rw, .ref bo, .ref li, .ref sh, .ref tx, .ref lo, .ref nl])), (ro, .inr (5, [.int (iz (6))]))] := hD
  refine lv_iload_n hx hb dX9_accrued_24 rfl (lv_at hl 2 rfl) ?_
  refine zr_i2l hx hb (x := da) (⟨by omega, by omega⟩) dX9_accrued_25 ?_
  refine lv_lconst (v := lz (0)) hx hb dX9_accrued_26 rfl ?_
  refine lv_iload hx hb dX9_accrued_27 (lv_at hl 3 rfl) ?_
  refine zr_i2l hx hb (x := le) (⟨by omega, by omega⟩) dX9_accrued_29 ?_
  refine zc_z (wr := [(x, .inr (10, [.ref ro, .ref rw, .ref bo, .ref li, .ref sh, .ref tx, .ref lo, .ref nl])), (ro, .inr (5, [.int (iz (6))]))]) (va_runS (As := [.long (lz (da)), .long (lz (0)), .long (lz (le))]) (rest := []) ⟨hx, hb, hml, hown, hts⟩ (c_X9_isWithin l G da 0 le (by omega) (by omega) (by omega) H.size) (va_cwS 3 hts gX9_accrued_X9_isWithin rfl rfl rfl (by decide +kernel) ⟨Nat.le_of_ble_eq_true rfl, Nat.le_of_ble_eq_true rfl⟩) (zpS hKX hP hD [] rfl rfl) rfl rfl hl.1 rfl (lv_room (Nat.le_of_ble_eq_true rfl)) dX9_accrued_30 ⟨(by first | exact Nat.le_of_ble_eq_true rfl | (show _ ≤ (0 : Nat); omega)), (by first | exact Nat.le_of_ble_eq_true rfl | (show _ ≤ (0 : Nat); omega))⟩) hP hD hS hA [] [0, 1] rfl rfl rfl (by decide) (fun y3 u_13 H locs hy3 hP hD hS => ?_)
  have hP : va_P G.1 vwCl [(x, .inr (10, [.ref ro, .ref rw, .ref bo, .ref li, .ref sh, .ref tx, .ref lo, .ref nl])), (ro, .inr (5, [.int (iz (6))]))] H := hP
  have hD : va_D A [(x, .inr (10, [.ref ro, .ref rw, .ref bo, .ref li, .ref sh, .ref tx, .ref lo, .ref nl])), (ro, .inr (5, [.int (iz (6))]))] := hD
  have hy3 : y3 = decide ((0 : Int) ≤ da ∧ da ≤ le) := hy3
  rw [show y3 = true from hy3.trans (decide_eq_true (by omega))]
  refine zc_v (wr := [(x, .inr (10, [.ref ro, .ref rw, .ref bo, .ref li, .ref sh, .ref tx, .ref lo, .ref nl])), (ro, .inr (5, [.int (iz (6))]))]) (va_runS (As := [.int (iz (zbb true))]) (rest := []) ⟨hx, hb, hml, hown, hts⟩ (c_X9_demand_o l G   H.size) (va_cwS 1 hts gX9_accrued_X9_demand rfl rfl rfl (by decide +kernel) ⟨Nat.le_of_ble_eq_true rfl, Nat.le_of_ble_eq_true rfl⟩) (zpS hKX hP hD [] rfl rfl) rfl rfl hl.1 rfl (lv_room (Nat.le_of_ble_eq_true rfl)) dX9_accrued_33 ⟨(by first | exact Nat.le_of_ble_eq_true rfl | (show _ ≤ (0 : Nat); omega)), (by first | exact Nat.le_of_ble_eq_true rfl | (show _ ≤ (0 : Nat); omega))⟩) hP hD hS hA [] [0, 1] rfl rfl rfl (by decide) (fun u_15 H locs hq_18 hP hD hS => ?_)
  have hP : va_P G.1 vwCl [(x, .inr (10, [.ref ro, .ref rw, .ref bo, .ref li, .ref sh, .ref tx, .ref lo, .ref nl])), (ro, .inr (5, [.int (iz (6))]))] H := hP
  have hD : va_D A [(x, .inr (10, [.ref ro, .ref rw, .ref bo, .ref li, .ref sh, .ref tx, .ref lo, .ref nl])), (ro, .inr (5, [.int (iz (6))]))] := hD
  refine lv_aload_n hx hb dX9_accrued_36 rfl (lv_at hl 0 rfl) ?_
  refine va_get (D := G.1) (ci := 10) (v := .ref ro) (C := RX9) (T := TX9) (N := 8) hx hb hts iwX9 hown hK hP 0 rfl rfl 0 (by decide) (hts (.fieldLink RX9 10 "AnnuityHouse" "rounder" "LAnnuityHouse$Rounder;") (by decide +kernel)) (fun _ h9 => h9) rfl dX9_accrued_37 ?_
  refine lv_lload_n hx hb dX9_accrued_40 rfl (lv_at hl 1 rfl) ?_
  refine lv_iload_n hx hb dX9_accrued_41 rfl (lv_at hl 2 rfl) ?_
  refine zr_i2l hx hb (x := da) (⟨by omega, by omega⟩) dX9_accrued_42 ?_
  refine zr_lmul hx hb dX9_accrued_43 ?_
  refine lv_iload hx hb dX9_accrued_44 (lv_at hl 3 rfl) ?_
  refine zr_i2l hx hb (x := le) (⟨by omega, by omega⟩) dX9_accrued_46 ?_
  have hcd := zcd_rng (x := cp) (y := da) (by omega) (by omega)
  refine zc_l (wr := [(x, .inr (10, [.ref ro, .ref rw, .ref bo, .ref li, .ref sh, .ref tx, .ref lo, .ref nl]))]) (va_runV (As := [.long (lz (cp * da)), .long (lz (le))]) (rest := []) ⟨hx, hb, hml, hown, hts⟩ (c_X4_ratio l G ro (cp * da) le (by omega) (by omega) H.size) (cwV 2 hts gX9_accrued_X4_ratio rfl rfl rfl (by decide +kernel) ⟨Nat.le_of_ble_eq_true rfl, Nat.le_of_ble_eq_true rfl⟩) (zpV hKX hP hD [1] rfl rfl 1 5 rfl rfl) rfl rfl hl.1 rfl (lv_room (Nat.le_of_ble_eq_true rfl)) dX9_accrued_47 ⟨(by first | exact Nat.le_of_ble_eq_true rfl | (show _ ≤ (0 : Nat); omega)), (by first | exact Nat.le_of_ble_eq_true rfl | (show _ ≤ (0 : Nat); omega))⟩) hP hD hS hA [1] [0] rfl rfl rfl (by decide) (fun zz u_19 H locs hz hP hD hS => ?_)
  have hP : va_P G.1 vwCl [(x, .inr (10, [.ref ro, .ref rw, .ref bo, .ref li, .ref sh, .ref tx, .ref lo, .ref nl])), (ro, .inr (5, [.int (iz (6))]))] H := hP
  have hD : va_D A [(x, .inr (10, [.ref ro, .ref rw, .ref bo, .ref li, .ref sh, .ref tx, .ref lo, .ref nl])), (ro, .inr (5, [.int (iz (6))]))] := hD
  have hz : zz = zr6 (cp * da) le := hz
  rw [hQ]
  exact zr_lret (z := zz) (u := ()) hx hb hr hlocks hP hD hS (by first | exact Nat.le_of_ble_eq_true rfl | omega) (by first | exact Nat.le_of_ble_eq_true rfl | omega) dX9_accrued_50 (show zz = zr6 (cp * da) le from hz)

def rm_c_X9_accrued_x : Room := { frames := 7, cells := 1, slots := 6, locals := 110 }
set_option maxHeartbeats 1000000 in
set_option maxRecDepth 100000 in
theorem c_X9_accrued_x (l : Launch) (G : zG) (s1 : Nat) (s2 : Nat) (s3 : Nat) (x : Nat) (ro : Nat) (rw : Nat) (bo : Nat) (li : Nat) (sh : Nat) (tx : Nat) (lo : Nat) (nl : Nat) (cp : Int) (da : Int) (le : Int) (hl0 : l.stackTraces = false) (h0 : -9223372036854775808 ≤ cp ∧ cp < 9223372036854775808) (h01 : -2147483648 ≤ da ∧ da < 2147483648) (h02 : -2147483648 ≤ le ∧ le < 2147483648) (h1 : ¬ (0 ≤ cp ∧ cp ≤ 1000000000 ∧ 1 ≤ le ∧ le ≤ 366 ∧ 0 ≤ da ∧ da ≤ le)) : zMx l (zXE s1 s2 s3) G yX9_accrued wsX9_accrued rm_c_X9_accrued_x [.ref x, .long (lz (cp)), .int (iz (da)), .int (iz (le))] [(x, .inr (10, [.ref ro, .ref rw, .ref bo, .ref li, .ref sh, .ref tx, .ref lo, .ref nl]))] "java/lang/IllegalArgumentException" 1 6 := by
  refine zMx_of (cc := cX9_accrued) (maxL := 5) (ret := (some .long)) (by decide) rfl (Nat.le_of_ble_eq_true rfl) ?_
  intro p e s m below meth c ls A Q hQ hx hb hr hts hown hlocks hml hout hKX hE hP hD hA hS hl
  have hK := hKX.1
  obtain ⟨H, hH⟩ : ∃ h, h = s.heap := ⟨_, rfl⟩
  obtain ⟨locs, hlo⟩ : ∃ h : List Loc, h = [] := ⟨_, rfl⟩
  have hS : va_S A s.heap H locs := by rw [hH, hlo]; exact hS
  have hP : va_P G.1 vwCl [(x, .inr (10, [.ref ro, .ref rw, .ref bo, .ref li, .ref sh, .ref tx, .ref lo, .ref nl]))] H := by rw [hH]; exact hP
  have hD : va_D A [(x, .inr (10, [.ref ro, .ref rw, .ref bo, .ref li, .ref sh, .ref tx, .ref lo, .ref nl]))] := hD
  have hl : lv_has ls 5 [(0, .ref x), (1, .long (lz (cp))), (3, .int (iz (da))), (4, .int (iz (le)))] := hl
  rw [← hH, ← hlo]
  refine lv_lload_n hx hb dX9_accrued_0 rfl (lv_at hl 1 rfl) ?_
  refine lv_lconst (v := lz (0)) hx hb dX9_accrued_1 rfl ?_
  refine zr_ldc2 (z := 1000000000) hx hb hown (hts (.constantLong RX9 91 (1000000000)) (by decide +kernel)) rfl dX9_accrued_2 ?_
  refine zc_z (wr := [(x, .inr (10, [.ref ro, .ref rw, .ref bo, .ref li, .ref sh, .ref tx, .ref lo, .ref nl]))]) (va_runS (As := [.long (lz (cp)), .long (lz (0)), .long (lz (1000000000))]) (rest := []) ⟨hx, hb, hml, hown, hts⟩ (c_X9_isWithin l G cp 0 1000000000 (by omega) (by omega) (by omega) H.size) (va_cwS 3 hts gX9_accrued_X9_isWithin rfl rfl rfl (by decide +kernel) ⟨Nat.le_of_ble_eq_true rfl, Nat.le_of_ble_eq_true rfl⟩) (zpS hKX hP hD [] rfl rfl) rfl rfl hl.1 rfl (lv_room (Nat.le_of_ble_eq_true rfl)) dX9_accrued_5 ⟨(by first | exact Nat.le_of_ble_eq_true rfl | (show _ ≤ (1 : Nat); omega)), (by first | exact Nat.le_of_ble_eq_true rfl | (show _ ≤ (6 : Nat); omega))⟩) hP hD hS hA [] [0] rfl rfl rfl (by decide) (fun y1 u_1 H locs hy1 hP hD hS => ?_)
  have hP : va_P G.1 vwCl [(x, .inr (10, [.ref ro, .ref rw, .ref bo, .ref li, .ref sh, .ref tx, .ref lo, .ref nl]))] H := hP
  have hD : va_D A [(x, .inr (10, [.ref ro, .ref rw, .ref bo, .ref li, .ref sh, .ref tx, .ref lo, .ref nl]))] := hD
  have hy1 : y1 = decide ((0 : Int) ≤ cp ∧ cp ≤ (1000000000 : Int)) := hy1
  rcases Bool.eq_false_or_eq_true y1 with hbt_y1 | hbt_y1
  ·
    rw [hbt_y1]
    have hzy1 := of_decide_eq_true (hy1.symm.trans hbt_y1)
    refine zc_v (wr := [(x, .inr (10, [.ref ro, .ref rw, .ref bo, .ref li, .ref sh, .ref tx, .ref lo, .ref nl]))]) (va_runS (As := [.int (iz (zbb true))]) (rest := []) ⟨hx, hb, hml, hown, hts⟩ (c_X9_demand_o l G   H.size) (va_cwS 1 hts gX9_accrued_X9_demand rfl rfl rfl (by decide +kernel) ⟨Nat.le_of_ble_eq_true rfl, Nat.le_of_ble_eq_true rfl⟩) (zpS hKX hP hD [] rfl rfl) rfl rfl hl.1 rfl (lv_room (Nat.le_of_ble_eq_true rfl)) dX9_accrued_8 ⟨(by first | exact Nat.le_of_ble_eq_true rfl | (show _ ≤ (1 : Nat); omega)), (by first | exact Nat.le_of_ble_eq_true rfl | (show _ ≤ (6 : Nat); omega))⟩) hP hD hS hA [] [0] rfl rfl rfl (by decide) (fun u_3 H locs hq_6 hP hD hS => ?_)
    have hP : va_P G.1 vwCl [(x, .inr (10, [.ref ro, .ref rw, .ref bo, .ref li, .ref sh, .ref tx, .ref lo, .ref nl]))] H := hP
    have hD : va_D A [(x, .inr (10, [.ref ro, .ref rw, .ref bo, .ref li, .ref sh, .ref tx, .ref lo, .ref nl]))] := hD
    refine lv_iload hx hb dX9_accrued_11 (lv_at hl 3 rfl) ?_
    refine zr_i2l hx hb (x := le) (⟨by omega, by omega⟩) dX9_accrued_13 ?_
    refine lv_lconst (v := lz (1)) hx hb dX9_accrued_14 rfl ?_
    refine zr_ldc2 (z := 366) hx hb hown (hts (.constantLong RX9 198 (366)) (by decide +kernel)) rfl dX9_accrued_15 ?_
    refine zc_z (wr := [(x, .inr (10, [.ref ro, .ref rw, .ref bo, .ref li, .ref sh, .ref tx, .ref lo, .ref nl]))]) (va_runS (As := [.long (lz (le)), .long (lz (1)), .long (lz (366))]) (rest := []) ⟨hx, hb, hml, hown, hts⟩ (c_X9_isWithin l G le 1 366 (by omega) (by omega) (by omega) H.size) (va_cwS 3 hts gX9_accrued_X9_isWithin rfl rfl rfl (by decide +kernel) ⟨Nat.le_of_ble_eq_true rfl, Nat.le_of_ble_eq_true rfl⟩) (zpS hKX hP hD [] rfl rfl) rfl rfl hl.1 rfl (lv_room (Nat.le_of_ble_eq_true rfl)) dX9_accrued_18 ⟨(by first | exact Nat.le_of_ble_eq_true rfl | (show _ ≤ (1 : Nat); omega)), (by first | exact Nat.le_of_ble_eq_true rfl | (show _ ≤ (6 : Nat); omega))⟩) hP hD hS hA [] [0] rfl rfl rfl (by decide) (fun y2 u_7 H locs hy2 hP hD hS => ?_)
    have hP : va_P G.1 vwCl [(x, .inr (10, [.ref ro, .ref rw, .ref bo, .ref li, .ref sh, .ref tx, .ref lo, .ref nl]))] H := hP
    have hD : va_D A [(x, .inr (10, [.ref ro, .ref rw, .ref bo, .ref li, .ref sh, .ref tx, .ref lo, .ref nl]))] := hD
    have hy2 : y2 = decide ((1 : Int) ≤ le ∧ le ≤ (366 : Int)) := hy2
    rcases Bool.eq_false_or_eq_true y2 with hbt_y2 | hbt_y2
    ·
      rw [hbt_y2]
      have hzy2 := of_decide_eq_true (hy2.symm.trans hbt_y2)
      refine zc_v (wr := [(x, .inr (10, [.ref ro, .ref rw, .ref bo, .ref li, .ref sh, .ref tx, .ref lo, .ref nl]))]) (va_runS (As := [.int (iz (zbb true))]) (rest := []) ⟨hx, hb, hml, hown, hts⟩ (c_X9_demand_o l G   H.size) (va_cwS 1 hts gX9_accrued_X9_demand rfl rfl rfl (by decide +kernel) ⟨Nat.le_of_ble_eq_true rfl, Nat.le_of_ble_eq_true rfl⟩) (zpS hKX hP hD [] rfl rfl) rfl rfl hl.1 rfl (lv_room (Nat.le_of_ble_eq_true rfl)) dX9_accrued_21 ⟨(by first | exact Nat.le_of_ble_eq_true rfl | (show _ ≤ (1 : Nat); omega)), (by first | exact Nat.le_of_ble_eq_true rfl | (show _ ≤ (6 : Nat); omega))⟩) hP hD hS hA [] [0] rfl rfl rfl (by decide) (fun u_9 H locs hq_12 hP hD hS => ?_)
      have hP : va_P G.1 vwCl [(x, .inr (10, [.ref ro, .ref rw, .ref bo, .ref li, .ref sh, .ref tx, .ref lo, .ref nl]))] H := hP
      have hD : va_D A [(x, .inr (10, [.ref ro, .ref rw, .ref bo, .ref li, .ref sh, .ref tx, .ref lo, .ref nl]))] := hD
      refine lv_iload_n hx hb dX9_accrued_24 rfl (lv_at hl 2 rfl) ?_
      refine zr_i2l hx hb (x := da) (⟨by omega, by omega⟩) dX9_accrued_25 ?_
      refine lv_lconst (v := lz (0)) hx hb dX9_accrued_26 rfl ?_
      refine lv_iload hx hb dX9_accrued_27 (lv_at hl 3 rfl) ?_
      refine zr_i2l hx hb (x := le) (⟨by omega, by omega⟩) dX9_accrued_29 ?_
      refine zc_z (wr := [(x, .inr (10, [.ref ro, .ref rw, .ref bo, .ref li, .ref sh, .ref tx, .ref lo, .ref nl]))]) (va_runS (As := [.long (lz (da)), .long (lz (0)), .long (lz (le))]) (rest := []) ⟨hx, hb, hml, hown, hts⟩ (c_X9_isWithin l G da 0 le (by omega) (by omega) (by omega) H.size) (va_cwS 3 hts gX9_accrued_X9_isWithin rfl rfl rfl (by decide +kernel) ⟨Nat.le_of_ble_eq_true rfl, Nat.le_of_ble_eq_true rfl⟩) (zpS hKX hP hD [] rfl rfl) rfl rfl hl.1 rfl (lv_room (Nat.le_of_ble_eq_true rfl)) dX9_accrued_30 ⟨(by first | exact Nat.le_of_ble_eq_true rfl | (show _ ≤ (1 : Nat); omega)), (by first | exact Nat.le_of_ble_eq_true rfl | (show _ ≤ (6 : Nat); omega))⟩) hP hD hS hA [] [0] rfl rfl rfl (by decide) (fun y3 u_13 H locs hy3 hP hD hS => ?_)
      have hP : va_P G.1 vwCl [(x, .inr (10, [.ref ro, .ref rw, .ref bo, .ref li, .ref sh, .ref tx, .ref lo, .ref nl]))] H := hP
      have hD : va_D A [(x, .inr (10, [.ref ro, .ref rw, .ref bo, .ref li, .ref sh, .ref tx, .ref lo, .ref nl]))] := hD
      have hy3 : y3 = decide ((0 : Int) ≤ da ∧ da ≤ le) := hy3
      rcases Bool.eq_false_or_eq_true y3 with hbt_y3 | hbt_y3
      ·
        rw [hbt_y3]
        have hzy3 := of_decide_eq_true (hy3.symm.trans hbt_y3)
        refine zc_v (wr := [(x, .inr (10, [.ref ro, .ref rw, .ref bo, .ref li, .ref sh, .ref tx, .ref lo, .ref nl]))]) (va_runS (As := [.int (iz (zbb true))]) (rest := []) ⟨hx, hb, hml, hown, hts⟩ (c_X9_demand_o l G   H.size) (va_cwS 1 hts gX9_accrued_X9_demand rfl rfl rfl (by decide +kernel) ⟨Nat.le_of_ble_eq_true rfl, Nat.le_of_ble_eq_true rfl⟩) (zpS hKX hP hD [] rfl rfl) rfl rfl hl.1 rfl (lv_room (Nat.le_of_ble_eq_true rfl)) dX9_accrued_33 ⟨(by first | exact Nat.le_of_ble_eq_true rfl | (show _ ≤ (1 : Nat); omega)), (by first | exact Nat.le_of_ble_eq_true rfl | (show _ ≤ (6 : Nat); omega))⟩) hP hD hS hA [] [0] rfl rfl rfl (by decide) (fun u_15 H locs hq_18 hP hD hS => ?_)
        have hP : va_P G.1 vwCl [(x, .inr (10, [.ref ro, .ref rw, .ref bo, .ref li, .ref sh, .ref tx, .ref lo, .ref nl]))] H := hP
        have hD : va_D A [(x, .inr (10, [.ref ro, .ref rw, .ref bo, .ref li, .ref sh, .ref tx, .ref lo, .ref nl]))] := hD
        exact absurd h1 (by omega)
      ·
        rw [hbt_y3]
        have hzy3 := of_decide_eq_false (hy3.symm.trans hbt_y3)
        rw [hQ]
        exact zx_thr (X := "java/lang/IllegalArgumentException") (vx_runS (As := [.int (iz (zbb false))]) (rest := []) ⟨hx, hb, hml, hown, hts⟩ (c_X9_demand_x l G s1 s2 s3 hl0 H.size) (va_cwS 1 hts gX9_accrued_X9_demand rfl rfl rfl (by decide +kernel) ⟨Nat.le_of_ble_eq_true rfl, Nat.le_of_ble_eq_true rfl⟩) (zpSe zXE_ok hE hS hA hKX hP hD [] rfl rfl) rfl rfl hl.1 rfl (lv_room (Nat.le_of_ble_eq_true rfl)) dX9_accrued_33 ⟨(by first | exact Nat.le_of_ble_eq_true rfl | (show _ ≤ (1 : Nat); omega)), (by first | exact Nat.le_of_ble_eq_true rfl | (show _ ≤ (6 : Nat); omega))⟩) hS (va_free (wc := []) hD hS hA [] rfl) hout hlocks (by first | exact Nat.le_of_ble_eq_true rfl | omega) (by first | exact Nat.le_of_ble_eq_true rfl | omega)
    ·
      rw [hbt_y2]
      have hzy2 := of_decide_eq_false (hy2.symm.trans hbt_y2)
      rw [hQ]
      exact zx_thr (X := "java/lang/IllegalArgumentException") (vx_runS (As := [.int (iz (zbb false))]) (rest := []) ⟨hx, hb, hml, hown, hts⟩ (c_X9_demand_x l G s1 s2 s3 hl0 H.size) (va_cwS 1 hts gX9_accrued_X9_demand rfl rfl rfl (by decide +kernel) ⟨Nat.le_of_ble_eq_true rfl, Nat.le_of_ble_eq_true rfl⟩) (zpSe zXE_ok hE hS hA hKX hP hD [] rfl rfl) rfl rfl hl.1 rfl (lv_room (Nat.le_of_ble_eq_true rfl)) dX9_accrued_21 ⟨(by first | exact Nat.le_of_ble_eq_true rfl | (show _ ≤ (1 : Nat); omega)), (by first | exact Nat.le_of_ble_eq_true rfl | (show _ ≤ (6 : Nat); omega))⟩) hS (va_free (wc := []) hD hS hA [] rfl) hout hlocks (by first | exact Nat.le_of_ble_eq_true rfl | omega) (by first | exact Nat.le_of_ble_eq_true rfl | omega)
  ·
    rw [hbt_y1]
    have hzy1 := of_decide_eq_false (hy1.symm.trans hbt_y1)
    rw [hQ]
    exact zx_thr (X := "java/lang/IllegalArgumentException") (vx_runS (As := [.int (iz (zbb false))]) (rest := []) ⟨hx, hb, hml, hown, hts⟩ (c_X9_demand_x l G s1 s2 s3 hl0 H.size) (va_cwS 1 hts gX9_accrued_X9_demand rfl rfl rfl (by decide +kernel) ⟨Nat.le_of_ble_eq_true rfl, Nat.le_of_ble_eq_true rfl⟩) (zpSe zXE_ok hE hS hA hKX hP hD [] rfl rfl) rfl rfl hl.1 rfl (lv_room (Nat.le_of_ble_eq_true rfl)) dX9_accrued_8 ⟨(by first | exact Nat.le_of_ble_eq_true rfl | (show _ ≤ (1 : Nat); omega)), (by first | exact Nat.le_of_ble_eq_true rfl | (show _ ≤ (6 : Nat); omega))⟩) hS (va_free (wc := []) hD hS hA [] rfl) hout hlocks (by first | exact Nat.le_of_ble_eq_true rfl | omega) (by first | exact Nat.le_of_ble_eq_true rfl | omega)

def rm_c_X9_live_o : Room := { frames := 1, cells := 0, slots := 0, locals := 25 }
theorem iw_X9_live_X2 : ∀ w ∈ wsX20, w ∈ wsX9_live := by decide +kernel
theorem iw_X9_live_X9 : ∀ w ∈ wsX90, w ∈ wsX9_live := by decide +kernel
set_option maxHeartbeats 1000000 in
set_option maxRecDepth 100000 in
theorem c_X9_live_o (l : Launch) (G : zG) (x : Nat) (ro : Nat) (rw : Nat) (bo : Nat) (li : Nat) (sh : Nat) (tx : Nat) (lo : Nat) (nl : Nat) (lv : Nat) (q : Nat) (bq : Nat) (le : Int) (h0 : -2147483648 ≤ le ∧ le < 2147483648) (h1 : 1 ≤ le ∧ le ≤ 1000000) : zM l G yX9_live wsX9_live rm_c_X9_live_o [.ref x, .int (iz (le))] [(x, .inr (10, [.ref ro, .ref rw, .ref bo, .ref li, .ref sh, .ref tx, .ref lo, .ref nl])), (li, .inr (3, [.ref lv, .ref q, .ref bq, .int (iz (0))])), (lv, zaI (G.2 1) 30 (fun _ => 0))] (fun A => zQi G (fun (z : Int) (f2 : (Int → Int)) => z = 1) (fun (f2 : (Int → Int)) => [(x, .inr (10, [.ref ro, .ref rw, .ref bo, .ref li, .ref sh, .ref tx, .ref lo, .ref nl])), (li, .inr (3, [.ref lv, .ref q, .ref bq, .int (iz (0 + 1))])), (lv, zaI (G.2 1) 30 (f2))]) A) 0 0 := by
  refine zM_of (cc := cX9_live) (maxL := 2) (ret := (some .int)) (by decide) rfl (Nat.le_of_ble_eq_true rfl) ?_
  intro p e s m below meth c ls A Q hQ hx hb hr hts hown hlocks hml hnm hKX hP hD hA hS hl
  have hK := hKX.1
  have iwX2 := iw_X9_live_X2
  have iwX9 := iw_X9_live_X9
  obtain ⟨H, hH⟩ : ∃ h, h = s.heap := ⟨_, rfl⟩
  obtain ⟨locs, hlo⟩ : ∃ h : List Loc, h = [] := ⟨_, rfl⟩
  have hS : va_S A s.heap H locs := by rw [hH, hlo]; exact hS
  have hP : va_P G.1 vwCl [(x, .inr (10, [.ref ro, .ref rw, .ref bo, .ref li, .ref sh, .ref tx, .ref lo, .ref nl])), (li, .inr (3, [.ref lv, .ref q, .ref bq, .int (iz (0))])), (lv, zaI (G.2 1) 30 (fun _ => 0))] H := by rw [hH]; exact hP
  have hD : va_D A [(x, .inr (10, [.ref ro, .ref rw, .ref bo, .ref li, .ref sh, .ref tx, .ref lo, .ref nl])), (li, .inr (3, [.ref lv, .ref q, .ref bq, .int (iz (0))])), (lv, zaI (G.2 1) 30 (fun _ => 0))] := hD
  have hl : lv_has ls 2 [(0, .ref x), (1, .int (iz (le)))] := hl
  rw [← hH, ← hlo]
  refine lv_iload_n hx hb dX9_live_0 rfl (lv_at hl 1 rfl) ?_
  refine zr_i2l hx hb (x := le) (⟨by omega, by omega⟩) dX9_live_1 ?_
  refine lv_lconst (v := lz (1)) hx hb dX9_live_2 rfl ?_
  refine lv_aload_n hx hb dX9_live_3 rfl (lv_at hl 0 rfl) ?_
  refine va_get (D := G.1) (ci := 10) (v := .ref li) (C := RX9) (T := TX9) (N := 8) hx hb hts iwX9 hown hK hP 0 rfl rfl 3 (by decide) (hts (.fieldLink RX9 33 "AnnuityHouse" "lives" "LAnnuityHouse$Lives;") (by decide +kernel)) (fun _ h9 => h9) rfl dX9_live_4 ?_
  refine zc_i (wr := [(x, .inr (10, [.ref ro, .ref rw, .ref bo, .ref li, .ref sh, .ref tx, .ref lo, .ref nl])), (lv, zaI (G.2 1) 30 (fun _ => 0))]) (va_runV (As := []) (rest := [.long (lz (1)), .long (lz (le))]) ⟨hx, hb, hml, hown, hts⟩ (c_X2_mostLeftNext l G li lv q bq  H.size) (cwV 0 hts gX9_live_X2_mostLeftNext rfl rfl rfl (by decide +kernel) ⟨Nat.le_of_ble_eq_true rfl, Nat.le_of_ble_eq_true rfl⟩) (zpV hKX hP hD [1] rfl rfl 1 3 rfl rfl) rfl rfl hl.1 rfl (lv_room (Nat.le_of_ble_eq_true rfl)) dX9_live_7 ⟨(by first | exact Nat.le_of_ble_eq_true rfl | (show _ ≤ (0 : Nat); omega)), (by first | exact Nat.le_of_ble_eq_true rfl | (show _ ≤ (0 : Nat); omega))⟩) hP hD hS hA [1] [0, 2] rfl rfl rfl (by decide) (fun ml u_1 H locs hml_ hP hD hS => ?_)
  have hP : va_P G.1 vwCl [(x, .inr (10, [.ref ro, .ref rw, .ref bo, .ref li, .ref sh, .ref tx, .ref lo, .ref nl])), (lv, zaI (G.2 1) 30 (fun _ => 0)), (li, .inr (3, [.ref lv, .ref q, .ref bq, .int (iz (0))]))] H := hP
  have hD : va_D A [(x, .inr (10, [.ref ro, .ref rw, .ref bo, .ref li, .ref sh, .ref tx, .ref lo, .ref nl])), (lv, zaI (G.2 1) 30 (fun _ => 0)), (li, .inr (3, [.ref lv, .ref q, .ref bq, .int (iz (0))]))] := hD
  have hml_ : ml = 1000000 := hml_
  refine zr_i2l hx hb (x := ml) (⟨by omega, by omega⟩) dX9_live_10 ?_
  refine zc_z (wr := [(x, .inr (10, [.ref ro, .ref rw, .ref bo, .ref li, .ref sh, .ref tx, .ref lo, .ref nl])), (lv, zaI (G.2 1) 30 (fun _ => 0)), (li, .inr (3, [.ref lv, .ref q, .ref bq, .int (iz (0))]))]) (va_runS (As := [.long (lz (le)), .long (lz (1)), .long (lz (ml))]) (rest := []) ⟨hx, hb, hml, hown, hts⟩ (c_X9_isWithin l G le 1 ml (by omega) (by omega) (by omega) H.size) (va_cwS 3 hts gX9_live_X9_isWithin rfl rfl rfl (by decide +kernel) ⟨Nat.le_of_ble_eq_true rfl, Nat.le_of_ble_eq_true rfl⟩) (zpS hKX hP hD [] rfl rfl) rfl rfl hl.1 rfl (lv_room (Nat.le_of_ble_eq_true rfl)) dX9_live_11 ⟨(by first | exact Nat.le_of_ble_eq_true rfl | (show _ ≤ (0 : Nat); omega)), (by first | exact Nat.le_of_ble_eq_true rfl | (show _ ≤ (0 : Nat); omega))⟩) hP hD hS hA [] [0, 1, 2] rfl rfl rfl (by decide) (fun y1 u_3 H locs hy1 hP hD hS => ?_)
  have hP : va_P G.1 vwCl [(x, .inr (10, [.ref ro, .ref rw, .ref bo, .ref li, .ref sh, .ref tx, .ref lo, .ref nl])), (lv, zaI (G.2 1) 30 (fun _ => 0)), (li, .inr (3, [.ref lv, .ref q, .ref bq, .int (iz (0))]))] H := hP
  have hD : va_D A [(x, .inr (10, [.ref ro, .ref rw, .ref bo, .ref li, .ref sh, .ref tx, .ref lo, .ref nl])), (lv, zaI (G.2 1) 30 (fun _ => 0)), (li, .inr (3, [.ref lv, .ref q, .ref bq, .int (iz (0))]))] := hD
  have hy1 : y1 = decide ((1 : Int) ≤ le ∧ le ≤ ml) := hy1
  rw [show y1 = true from hy1.trans (decide_eq_true (by omega))]
  refine zc_v (wr := [(x, .inr (10, [.ref ro, .ref rw, .ref bo, .ref li, .ref sh, .ref tx, .ref lo, .ref nl])), (lv, zaI (G.2 1) 30 (fun _ => 0)), (li, .inr (3, [.ref lv, .ref q, .ref bq, .int (iz (0))]))]) (va_runS (As := [.int (iz (zbb true))]) (rest := []) ⟨hx, hb, hml, hown, hts⟩ (c_X9_demand_o l G   H.size) (va_cwS 1 hts gX9_live_X9_demand rfl rfl rfl (by decide +kernel) ⟨Nat.le_of_ble_eq_true rfl, Nat.le_of_ble_eq_true rfl⟩) (zpS hKX hP hD [] rfl rfl) rfl rfl hl.1 rfl (lv_room (Nat.le_of_ble_eq_true rfl)) dX9_live_14 ⟨(by first | exact Nat.le_of_ble_eq_true rfl | (show _ ≤ (0 : Nat); omega)), (by first | exact Nat.le_of_ble_eq_true rfl | (show _ ≤ (0 : Nat); omega))⟩) hP hD hS hA [] [0, 1, 2] rfl rfl rfl (by decide) (fun u_5 H locs hq_8 hP hD hS => ?_)
  have hP : va_P G.1 vwCl [(x, .inr (10, [.ref ro, .ref rw, .ref bo, .ref li, .ref sh, .ref tx, .ref lo, .ref nl])), (lv, zaI (G.2 1) 30 (fun _ => 0)), (li, .inr (3, [.ref lv, .ref q, .ref bq, .int (iz (0))]))] H := hP
  have hD : va_D A [(x, .inr (10, [.ref ro, .ref rw, .ref bo, .ref li, .ref sh, .ref tx, .ref lo, .ref nl])), (lv, zaI (G.2 1) 30 (fun _ => 0)), (li, .inr (3, [.ref lv, .ref q, .ref bq, .int (iz (0))]))] := hD
  refine lv_aload_n hx hb dX9_live_17 rfl (lv_at hl 0 rfl) ?_
  refine va_get (D := G.1) (ci := 10) (v := .ref li) (C := RX9) (T := TX9) (N := 8) hx hb hts iwX9 hown hK hP 0 rfl rfl 3 (by decide) (hts (.fieldLink RX9 33 "AnnuityHouse" "lives" "LAnnuityHouse$Lives;") (by decide +kernel)) (fun _ h9 => h9) rfl dX9_live_18 ?_
  refine va_get (D := G.1) (ci := 3) (v := .int (iz (0))) (C := RX2) (T := TX2) (N := 4) hx hb hts iwX2 hown hK hP 2 rfl rfl 3 (by decide) (hts (.fieldLink RX9 203 "AnnuityHouse$Lives" "ages" "I") (by decide +kernel)) (fun _ h9 => h9) rfl dX9_live_21 ?_
  refine lv_bipush (v := iz (30)) hx hb dX9_live_24 rfl ?_
  refine zr_icmp_ge (x := 0) (y := 30) (tgt := 33) hx hb (⟨by omega, by omega⟩) (⟨by omega, by omega⟩) dX9_live_26 (by decide) (fun h_9 => ?_) (fun h_9 => ?_)
  · exact absurd h_9 (by omega)
  ·
    refine lv_iconst (v := iz (1)) hx hb dX9_live_29 rfl ?_
    refine lv_goto (tgt := 34) hx hb dX9_live_30 (by decide) ?_
    refine zc_v (wr := [(x, .inr (10, [.ref ro, .ref rw, .ref bo, .ref li, .ref sh, .ref tx, .ref lo, .ref nl])), (lv, zaI (G.2 1) 30 (fun _ => 0)), (li, .inr (3, [.ref lv, .ref q, .ref bq, .int (iz (0))]))]) (va_runS (As := [.int (iz (1))]) (rest := []) ⟨hx, hb, hml, hown, hts⟩ (c_X9_demandState_o l G   H.size) (va_cwS 1 hts gX9_live_X9_demandState rfl rfl rfl (by decide +kernel) ⟨Nat.le_of_ble_eq_true rfl, Nat.le_of_ble_eq_true rfl⟩) (zpS hKX hP hD [] rfl rfl) rfl rfl hl.1 rfl (lv_room (Nat.le_of_ble_eq_true rfl)) dX9_live_34 ⟨(by first | exact Nat.le_of_ble_eq_true rfl | (show _ ≤ (0 : Nat); omega)), (by first | exact Nat.le_of_ble_eq_true rfl | (show _ ≤ (0 : Nat); omega))⟩) hP hD hS hA [] [0, 1, 2] rfl rfl rfl (by decide) (fun u_10 H locs hq_13 hP hD hS => ?_)
    have hP : va_P G.1 vwCl [(x, .inr (10, [.ref ro, .ref rw, .ref bo, .ref li, .ref sh, .ref tx, .ref lo, .ref nl])), (lv, zaI (G.2 1) 30 (fun _ => 0)), (li, .inr (3, [.ref lv, .ref q, .ref bq, .int (iz (0))]))] H := hP
    have hD : va_D A [(x, .inr (10, [.ref ro, .ref rw, .ref bo, .ref li, .ref sh, .ref tx, .ref lo, .ref nl])), (lv, zaI (G.2 1) 30 (fun _ => 0)), (li, .inr (3, [.ref lv, .ref q, .ref bq, .int (iz (0))]))] := hD
    refine lv_aload_n hx hb dX9_live_37 rfl (lv_at hl 0 rfl) ?_
    refine va_get (D := G.1) (ci := 10) (v := .ref li) (C := RX9) (T := TX9) (N := 8) hx hb hts iwX9 hown hK hP 0 rfl rfl 3 (by decide) (hts (.fieldLink RX9 33 "AnnuityHouse" "lives" "LAnnuityHouse$Lives;") (by decide +kernel)) (fun _ h9 => h9) rfl dX9_live_38 ?_
    refine lv_iload_n hx hb dX9_live_41 rfl (lv_at hl 1 rfl) ?_
    refine zc_i (wr := [(x, .inr (10, [.ref ro, .ref rw, .ref bo, .ref li, .ref sh, .ref tx, .ref lo, .ref nl]))]) (va_runV (As := [.int (iz (le))]) (rest := []) ⟨hx, hb, hml, hown, hts⟩ (c_X2_add l G li lv q bq le  H.size) (cwV 1 hts gX9_live_X2_add rfl rfl rfl (by decide +kernel) ⟨Nat.le_of_ble_eq_true rfl, Nat.le_of_ble_eq_true rfl⟩) (zpV hKX hP hD [2, 1] rfl rfl 2 3 rfl rfl) rfl rfl hl.1 rfl (lv_room (Nat.le_of_ble_eq_true rfl)) dX9_live_42 ⟨(by first | exact Nat.le_of_ble_eq_true rfl | (show _ ≤ (0 : Nat); omega)), (by first | exact Nat.le_of_ble_eq_true rfl | (show _ ≤ (0 : Nat); omega))⟩) hP hD hS hA [2, 1] [0] rfl rfl rfl (by decide) (fun zz u_14 H locs hz hP hD hS => ?_)
    generalize u_14 = f2 at hP hD hz
    have hP : va_P G.1 vwCl [(x, .inr (10, [.ref ro, .ref rw, .ref bo, .ref li, .ref sh, .ref tx, .ref lo, .ref nl])), (li, .inr (3, [.ref lv, .ref q, .ref bq, .int (iz (0 + 1))])), (lv, zaI (G.2 1) 30 (f2))] H := hP
    have hD : va_D A [(x, .inr (10, [.ref ro, .ref rw, .ref bo, .ref li, .ref sh, .ref tx, .ref lo, .ref nl])), (li, .inr (3, [.ref lv, .ref q, .ref bq, .int (iz (0 + 1))])), (lv, zaI (G.2 1) 30 (f2))] := hD
    have hz : zz = 1 := hz
    rw [hQ]
    exact zr_iret (z := zz) (u := (f2)) hx hb hr hlocks hP hD hS (by first | exact Nat.le_of_ble_eq_true rfl | omega) (by first | exact Nat.le_of_ble_eq_true rfl | omega) dX9_live_45 (show zz = 1 from hz)

def rm_c_X9_live_x : Room := { frames := 7, cells := 1, slots := 6, locals := 110 }
set_option maxHeartbeats 1000000 in
set_option maxRecDepth 100000 in
theorem c_X9_live_x (l : Launch) (G : zG) (s1 : Nat) (s2 : Nat) (s3 : Nat) (x : Nat) (ro : Nat) (rw : Nat) (bo : Nat) (li : Nat) (sh : Nat) (tx : Nat) (lo : Nat) (nl : Nat) (lv : Nat) (q : Nat) (bq : Nat) (le : Int) (hl0 : l.stackTraces = false) (h0 : -2147483648 ≤ le ∧ le < 2147483648) (h1 : ¬ (1 ≤ le ∧ le ≤ 1000000)) : zMx l (zXE s1 s2 s3) G yX9_live wsX9_live rm_c_X9_live_x [.ref x, .int (iz (le))] [(x, .inr (10, [.ref ro, .ref rw, .ref bo, .ref li, .ref sh, .ref tx, .ref lo, .ref nl])), (li, .inr (3, [.ref lv, .ref q, .ref bq, .int (iz (0))]))] "java/lang/IllegalArgumentException" 1 6 := by
  refine zMx_of (cc := cX9_live) (maxL := 2) (ret := (some .int)) (by decide) rfl (Nat.le_of_ble_eq_true rfl) ?_
  intro p e s m below meth c ls A Q hQ hx hb hr hts hown hlocks hml hout hKX hE hP hD hA hS hl
  have hK := hKX.1
  have iwX9 := iw_X9_live_X9
  obtain ⟨H, hH⟩ : ∃ h, h = s.heap := ⟨_, rfl⟩
  obtain ⟨locs, hlo⟩ : ∃ h : List Loc, h = [] := ⟨_, rfl⟩
  have hS : va_S A s.heap H locs := by rw [hH, hlo]; exact hS
  have hP : va_P G.1 vwCl [(x, .inr (10, [.ref ro, .ref rw, .ref bo, .ref li, .ref sh, .ref tx, .ref lo, .ref nl])), (li, .inr (3, [.ref lv, .ref q, .ref bq, .int (iz (0))]))] H := by rw [hH]; exact hP
  have hD : va_D A [(x, .inr (10, [.ref ro, .ref rw, .ref bo, .ref li, .ref sh, .ref tx, .ref lo, .ref nl])), (li, .inr (3, [.ref lv, .ref q, .ref bq, .int (iz (0))]))] := hD
  have hl : lv_has ls 2 [(0, .ref x), (1, .int (iz (le)))] := hl
  rw [← hH, ← hlo]
  refine lv_iload_n hx hb dX9_live_0 rfl (lv_at hl 1 rfl) ?_
  refine zr_i2l hx hb (x := le) (⟨by omega, by omega⟩) dX9_live_1 ?_
  refine lv_lconst (v := lz (1)) hx hb dX9_live_2 rfl ?_
  refine lv_aload_n hx hb dX9_live_3 rfl (lv_at hl 0 rfl) ?_
  refine va_get (D := G.1) (ci := 10) (v := .ref li) (C := RX9) (T := TX9) (N := 8) hx hb hts iwX9 hown hK hP 0 rfl rfl 3 (by decide) (hts (.fieldLink RX9 33 "AnnuityHouse" "lives" "LAnnuityHouse$Lives;") (by decide +kernel)) (fun _ h9 => h9) rfl dX9_live_4 ?_
  refine zc_i (wr := [(x, .inr (10, [.ref ro, .ref rw, .ref bo, .ref li, .ref sh, .ref tx, .ref lo, .ref nl]))]) (va_runV (As := []) (rest := [.long (lz (1)), .long (lz (le))]) ⟨hx, hb, hml, hown, hts⟩ (c_X2_mostLeftNext l G li lv q bq  H.size) (cwV 0 hts gX9_live_X2_mostLeftNext rfl rfl rfl (by decide +kernel) ⟨Nat.le_of_ble_eq_true rfl, Nat.le_of_ble_eq_true rfl⟩) (zpV hKX hP hD [1] rfl rfl 1 3 rfl rfl) rfl rfl hl.1 rfl (lv_room (Nat.le_of_ble_eq_true rfl)) dX9_live_7 ⟨(by first | exact Nat.le_of_ble_eq_true rfl | (show _ ≤ (1 : Nat); omega)), (by first | exact Nat.le_of_ble_eq_true rfl | (show _ ≤ (6 : Nat); omega))⟩) hP hD hS hA [1] [0] rfl rfl rfl (by decide) (fun ml u_1 H locs hml_ hP hD hS => ?_)
  have hP : va_P G.1 vwCl [(x, .inr (10, [.ref ro, .ref rw, .ref bo, .ref li, .ref sh, .ref tx, .ref lo, .ref nl])), (li, .inr (3, [.ref lv, .ref q, .ref bq, .int (iz (0))]))] H := hP
  have hD : va_D A [(x, .inr (10, [.ref ro, .ref rw, .ref bo, .ref li, .ref sh, .ref tx, .ref lo, .ref nl])), (li, .inr (3, [.ref lv, .ref q, .ref bq, .int (iz (0))]))] := hD
  have hml_ : ml = 1000000 := hml_
  refine zr_i2l hx hb (x := ml) (⟨by omega, by omega⟩) dX9_live_10 ?_
  refine zc_z (wr := [(x, .inr (10, [.ref ro, .ref rw, .ref bo, .ref li, .ref sh, .ref tx, .ref lo, .ref nl])), (li, .inr (3, [.ref lv, .ref q, .ref bq, .int (iz (0))]))]) (va_runS (As := [.long (lz (le)), .long (lz (1)), .long (lz (ml))]) (rest := []) ⟨hx, hb, hml, hown, hts⟩ (c_X9_isWithin l G le 1 ml (by omega) (by omega) (by omega) H.size) (va_cwS 3 hts gX9_live_X9_isWithin rfl rfl rfl (by decide +kernel) ⟨Nat.le_of_ble_eq_true rfl, Nat.le_of_ble_eq_true rfl⟩) (zpS hKX hP hD [] rfl rfl) rfl rfl hl.1 rfl (lv_room (Nat.le_of_ble_eq_true rfl)) dX9_live_11 ⟨(by first | exact Nat.le_of_ble_eq_true rfl | (show _ ≤ (1 : Nat); omega)), (by first | exact Nat.le_of_ble_eq_true rfl | (show _ ≤ (6 : Nat); omega))⟩) hP hD hS hA [] [0, 1] rfl rfl rfl (by decide) (fun y1 u_3 H locs hy1 hP hD hS => ?_)
  have hP : va_P G.1 vwCl [(x, .inr (10, [.ref ro, .ref rw, .ref bo, .ref li, .ref sh, .ref tx, .ref lo, .ref nl])), (li, .inr (3, [.ref lv, .ref q, .ref bq, .int (iz (0))]))] H := hP
  have hD : va_D A [(x, .inr (10, [.ref ro, .ref rw, .ref bo, .ref li, .ref sh, .ref tx, .ref lo, .ref nl])), (li, .inr (3, [.ref lv, .ref q, .ref bq, .int (iz (0))]))] := hD
  have hy1 : y1 = decide ((1 : Int) ≤ le ∧ le ≤ ml) := hy1
  rw [show y1 = false from hy1.trans (decide_eq_false (by omega))]
  rw [hQ]
  exact zx_thr (X := "java/lang/IllegalArgumentException") (vx_runS (As := [.int (iz (zbb false))]) (rest := []) ⟨hx, hb, hml, hown, hts⟩ (c_X9_demand_x l G s1 s2 s3 hl0 H.size) (va_cwS 1 hts gX9_live_X9_demand rfl rfl rfl (by decide +kernel) ⟨Nat.le_of_ble_eq_true rfl, Nat.le_of_ble_eq_true rfl⟩) (zpSe zXE_ok hE hS hA hKX hP hD [] rfl rfl) rfl rfl hl.1 rfl (lv_room (Nat.le_of_ble_eq_true rfl)) dX9_live_14 ⟨(by first | exact Nat.le_of_ble_eq_true rfl | (show _ ≤ (1 : Nat); omega)), (by first | exact Nat.le_of_ble_eq_true rfl | (show _ ≤ (6 : Nat); omega))⟩) hS (va_free (wc := []) hD hS hA [] rfl) hout hlocks (by first | exact Nat.le_of_ble_eq_true rfl | omega) (by first | exact Nat.le_of_ble_eq_true rfl | omega)

def rm_c_X9_clearLives : Room := { frames := 1, cells := 0, slots := 0, locals := 21 }
theorem iw_X9_clearLives_X9 : ∀ w ∈ wsX90, w ∈ wsX9_clearLives := by decide +kernel
set_option maxHeartbeats 1000000 in
set_option maxRecDepth 100000 in
theorem c_X9_clearLives (l : Launch) (G : zG) (x : Nat) (ro : Nat) (rw : Nat) (bo : Nat) (li : Nat) (sh : Nat) (tx : Nat) (lo : Nat) (nl : Nat) (lv : Nat) (q : Nat) (bq : Nat)  : zM l G yX9_clearLives wsX9_clearLives rm_c_X9_clearLives [.ref x] [(x, .inr (10, [.ref ro, .ref rw, .ref bo, .ref li, .ref sh, .ref tx, .ref lo, .ref nl])), (li, .inr (3, [.ref lv, .ref q, .ref bq, .int (iz (0))]))] (fun A => zQi G (fun (z : Int) (_ : Unit) => z = 0) (fun (_ : Unit) => [(x, .inr (10, [.ref ro, .ref rw, .ref bo, .ref li, .ref sh, .ref tx, .ref lo, .ref nl])), (li, .inr (3, [.ref lv, .ref q, .ref bq, .int (iz (0))]))]) A) 0 0 := by
  refine zM_of (cc := cX9_clearLives) (maxL := 1) (ret := (some .int)) (by decide) rfl (Nat.le_of_ble_eq_true rfl) ?_
  intro p e s m below meth c ls A Q hQ hx hb hr hts hown hlocks hml hnm hKX hP hD hA hS hl
  have hK := hKX.1
  have iwX9 := iw_X9_clearLives_X9
  obtain ⟨H, hH⟩ : ∃ h, h = s.heap := ⟨_, rfl⟩
  obtain ⟨locs, hlo⟩ : ∃ h : List Loc, h = [] := ⟨_, rfl⟩
  have hS : va_S A s.heap H locs := by rw [hH, hlo]; exact hS
  have hP : va_P G.1 vwCl [(x, .inr (10, [.ref ro, .ref rw, .ref bo, .ref li, .ref sh, .ref tx, .ref lo, .ref nl])), (li, .inr (3, [.ref lv, .ref q, .ref bq, .int (iz (0))]))] H := by rw [hH]; exact hP
  have hD : va_D A [(x, .inr (10, [.ref ro, .ref rw, .ref bo, .ref li, .ref sh, .ref tx, .ref lo, .ref nl])), (li, .inr (3, [.ref lv, .ref q, .ref bq, .int (iz (0))]))] := hD
  have hl : lv_has ls 1 [(0, .ref x)] := hl
  rw [← hH, ← hlo]
  refine lv_aload_n hx hb dX9_clearLives_0 rfl (lv_at hl 0 rfl) ?_
  refine va_get (D := G.1) (ci := 10) (v := .ref li) (C := RX9) (T := TX9) (N := 8) hx hb hts iwX9 hown hK hP 0 rfl rfl 3 (by decide) (hts (.fieldLink RX9 33 "AnnuityHouse" "lives" "LAnnuityHouse$Lives;") (by decide +kernel)) (fun _ h9 => h9) rfl dX9_clearLives_1 ?_
  refine zc_i (wr := [(x, .inr (10, [.ref ro, .ref rw, .ref bo, .ref li, .ref sh, .ref tx, .ref lo, .ref nl]))]) (va_runV (As := []) (rest := []) ⟨hx, hb, hml, hown, hts⟩ (c_X2_clear l G li lv q bq  H.size) (cwV 0 hts gX9_clearLives_X2_clear rfl rfl rfl (by decide +kernel) ⟨Nat.le_of_ble_eq_true rfl, Nat.le_of_ble_eq_true rfl⟩) (zpV hKX hP hD [1] rfl rfl 1 3 rfl rfl) rfl rfl hl.1 rfl (lv_room (Nat.le_of_ble_eq_true rfl)) dX9_clearLives_4 ⟨(by first | exact Nat.le_of_ble_eq_true rfl | (show _ ≤ (0 : Nat); omega)), (by first | exact Nat.le_of_ble_eq_true rfl | (show _ ≤ (0 : Nat); omega))⟩) hP hD hS hA [1] [0] rfl rfl rfl (by decide) (fun zz u_1 H locs hz hP hD hS => ?_)
  have hP : va_P G.1 vwCl [(x, .inr (10, [.ref ro, .ref rw, .ref bo, .ref li, .ref sh, .ref tx, .ref lo, .ref nl])), (li, .inr (3, [.ref lv, .ref q, .ref bq, .int (iz (0))]))] H := hP
  have hD : va_D A [(x, .inr (10, [.ref ro, .ref rw, .ref bo, .ref li, .ref sh, .ref tx, .ref lo, .ref nl])), (li, .inr (3, [.ref lv, .ref q, .ref bq, .int (iz (0))]))] := hD
  have hz : zz = 0 := hz
  rw [hQ]
  exact zr_iret (z := zz) (u := ()) hx hb hr hlocks hP hD hS (by first | exact Nat.le_of_ble_eq_true rfl | omega) (by first | exact Nat.le_of_ble_eq_true rfl | omega) dX9_clearLives_7 (show zz = 0 from hz)

def rm_c_X9_weigh_o : Room := { frames := 1, cells := 0, slots := 0, locals := 25 }
theorem iw_X9_weigh_X6 : ∀ w ∈ wsX60, w ∈ wsX9_weigh := by decide +kernel
theorem iw_X9_weigh_X9 : ∀ w ∈ wsX90, w ∈ wsX9_weigh := by decide +kernel
set_option maxHeartbeats 1000000 in
set_option maxRecDepth 100000 in
theorem c_X9_weigh_o (l : Launch) (G : zG) (x : Nat) (ro : Nat) (rw : Nat) (bo : Nat) (li : Nat) (sh : Nat) (tx : Nat) (lo : Nat) (nl : Nat) (wt : Nat) (we : Int) (h0 : -2147483648 ≤ we ∧ we < 2147483648) (h1 : 0 ≤ we ∧ we ≤ 1000000) : zM l G yX9_weigh wsX9_weigh rm_c_X9_weigh_o [.ref x, .int (iz (we))] [(x, .inr (10, [.ref ro, .ref rw, .ref bo, .ref li, .ref sh, .ref tx, .ref lo, .ref nl])), (sh, .inr (7, [.ref wt, .int (iz (0))])), (wt, zaI (G.2 1) 12 (fun _ => 0))] (fun A => zQi G (fun (z : Int) (f2 : (Int → Int)) => z = 1) (fun (f2 : (Int → Int)) => [(x, .inr (10, [.ref ro, .ref rw, .ref bo, .ref li, .ref sh, .ref tx, .ref lo, .ref nl])), (sh, .inr (7, [.ref wt, .int (iz (0 + 1))])), (wt, zaI (G.2 1) 12 (f2))]) A) 0 0 := by
  refine zM_of (cc := cX9_weigh) (maxL := 2) (ret := (some .int)) (by decide) rfl (Nat.le_of_ble_eq_true rfl) ?_
  intro p e s m below meth c ls A Q hQ hx hb hr hts hown hlocks hml hnm hKX hP hD hA hS hl
  have hK := hKX.1
  have iwX6 := iw_X9_weigh_X6
  have iwX9 := iw_X9_weigh_X9
  obtain ⟨H, hH⟩ : ∃ h, h = s.heap := ⟨_, rfl⟩
  obtain ⟨locs, hlo⟩ : ∃ h : List Loc, h = [] := ⟨_, rfl⟩
  have hS : va_S A s.heap H locs := by rw [hH, hlo]; exact hS
  have hP : va_P G.1 vwCl [(x, .inr (10, [.ref ro, .ref rw, .ref bo, .ref li, .ref sh, .ref tx, .ref lo, .ref nl])), (sh, .inr (7, [.ref wt, .int (iz (0))])), (wt, zaI (G.2 1) 12 (fun _ => 0))] H := by rw [hH]; exact hP
  have hD : va_D A [(x, .inr (10, [.ref ro, .ref rw, .ref bo, .ref li, .ref sh, .ref tx, .ref lo, .ref nl])), (sh, .inr (7, [.ref wt, .int (iz (0))])), (wt, zaI (G.2 1) 12 (fun _ => 0))] := hD
  have hl : lv_has ls 2 [(0, .ref x), (1, .int (iz (we)))] := hl
  rw [← hH, ← hlo]
  refine lv_iload_n hx hb dX9_weigh_0 rfl (lv_at hl 1 rfl) ?_
  refine zr_i2l hx hb (x := we) (⟨by omega, by omega⟩) dX9_weigh_1 ?_
  refine lv_lconst (v := lz (0)) hx hb dX9_weigh_2 rfl ?_
  refine zr_ldc2 (z := 1000000) hx hb hown (hts (.constantLong RX9 105 (1000000)) (by decide +kernel)) rfl dX9_weigh_3 ?_
  refine zc_z (wr := [(x, .inr (10, [.ref ro, .ref rw, .ref bo, .ref li, .ref sh, .ref tx, .ref lo, .ref nl])), (sh, .inr (7, [.ref wt, .int (iz (0))])), (wt, zaI (G.2 1) 12 (fun _ => 0))]) (va_runS (As := [.long (lz (we)), .long (lz (0)), .long (lz (1000000))]) (rest := []) ⟨hx, hb, hml, hown, hts⟩ (c_X9_isWithin l G we 0 1000000 (by omega) (by omega) (by omega) H.size) (va_cwS 3 hts gX9_weigh_X9_isWithin rfl rfl rfl (by decide +kernel) ⟨Nat.le_of_ble_eq_true rfl, Nat.le_of_ble_eq_true rfl⟩) (zpS hKX hP hD [] rfl rfl) rfl rfl hl.1 rfl (lv_room (Nat.le_of_ble_eq_true rfl)) dX9_weigh_6 ⟨(by first | exact Nat.le_of_ble_eq_true rfl | (show _ ≤ (0 : Nat); omega)), (by first | exact Nat.le_of_ble_eq_true rfl | (show _ ≤ (0 : Nat); omega))⟩) hP hD hS hA [] [0, 1, 2] rfl rfl rfl (by decide) (fun y1 u_1 H locs hy1 hP hD hS => ?_)
  have hP : va_P G.1 vwCl [(x, .inr (10, [.ref ro, .ref rw, .ref bo, .ref li, .ref sh, .ref tx, .ref lo, .ref nl])), (sh, .inr (7, [.ref wt, .int (iz (0))])), (wt, zaI (G.2 1) 12 (fun _ => 0))] H := hP
  have hD : va_D A [(x, .inr (10, [.ref ro, .ref rw, .ref bo, .ref li, .ref sh, .ref tx, .ref lo, .ref nl])), (sh, .inr (7, [.ref wt, .int (iz (0))])), (wt, zaI (G.2 1) 12 (fun _ => 0))] := hD
  have hy1 : y1 = decide ((0 : Int) ≤ we ∧ we ≤ (1000000 : Int)) := hy1
  rw [show y1 = true from hy1.trans (decide_eq_true (by omega))]
  refine zc_v (wr := [(x, .inr (10, [.ref ro, .ref rw, .ref bo, .ref li, .ref sh, .ref tx, .ref lo, .ref nl])), (sh, .inr (7, [.ref wt, .int (iz (0))])), (wt, zaI (G.2 1) 12 (fun _ => 0))]) (va_runS (As := [.int (iz (zbb true))]) (rest := []) ⟨hx, hb, hml, hown, hts⟩ (c_X9_demand_o l G   H.size) (va_cwS 1 hts gX9_weigh_X9_demand rfl rfl rfl (by decide +kernel) ⟨Nat.le_of_ble_eq_true rfl, Nat.le_of_ble_eq_true rfl⟩) (zpS hKX hP hD [] rfl rfl) rfl rfl hl.1 rfl (lv_room (Nat.le_of_ble_eq_true rfl)) dX9_weigh_9 ⟨(by first | exact Nat.le_of_ble_eq_true rfl | (show _ ≤ (0 : Nat); omega)), (by first | exact Nat.le_of_ble_eq_true rfl | (show _ ≤ (0 : Nat); omega))⟩) hP hD hS hA [] [0, 1, 2] rfl rfl rfl (by decide) (fun u_3 H locs hq_6 hP hD hS => ?_)
  have hP : va_P G.1 vwCl [(x, .inr (10, [.ref ro, .ref rw, .ref bo, .ref li, .ref sh, .ref tx, .ref lo, .ref nl])), (sh, .inr (7, [.ref wt, .int (iz (0))])), (wt, zaI (G.2 1) 12 (fun _ => 0))] H := hP
  have hD : va_D A [(x, .inr (10, [.ref ro, .ref rw, .ref bo, .ref li, .ref sh, .ref tx, .ref lo, .ref nl])), (sh, .inr (7, [.ref wt, .int (iz (0))])), (wt, zaI (G.2 1) 12 (fun _ => 0))] := hD
  refine lv_aload_n hx hb dX9_weigh_12 rfl (lv_at hl 0 rfl) ?_
  refine va_get (D := G.1) (ci := 10) (v := .ref sh) (C := RX9) (T := TX9) (N := 8) hx hb hts iwX9 hown hK hP 0 rfl rfl 4 (by decide) (hts (.fieldLink RX9 40 "AnnuityHouse" "shares" "LAnnuityHouse$Shares;") (by decide +kernel)) (fun _ h9 => h9) rfl dX9_weigh_13 ?_
  refine va_get (D := G.1) (ci := 7) (v := .int (iz (0))) (C := RX6) (T := TX6) (N := 2) hx hb hts iwX6 hown hK hP 1 rfl rfl 1 (by decide) (hts (.fieldLink RX9 228 "AnnuityHouse$Shares" "people" "I") (by decide +kernel)) (fun _ h9 => h9) rfl dX9_weigh_16 ?_
  refine lv_bipush (v := iz (12)) hx hb dX9_weigh_19 rfl ?_
  refine zr_icmp_ge (x := 0) (y := 12) (tgt := 28) hx hb (⟨by omega, by omega⟩) (⟨by omega, by omega⟩) dX9_weigh_21 (by decide) (fun h_7 => ?_) (fun h_7 => ?_)
  · exact absurd h_7 (by omega)
  ·
    refine lv_iconst (v := iz (1)) hx hb dX9_weigh_24 rfl ?_
    refine lv_goto (tgt := 29) hx hb dX9_weigh_25 (by decide) ?_
    refine zc_v (wr := [(x, .inr (10, [.ref ro, .ref rw, .ref bo, .ref li, .ref sh, .ref tx, .ref lo, .ref nl])), (sh, .inr (7, [.ref wt, .int (iz (0))])), (wt, zaI (G.2 1) 12 (fun _ => 0))]) (va_runS (As := [.int (iz (1))]) (rest := []) ⟨hx, hb, hml, hown, hts⟩ (c_X9_demandState_o l G   H.size) (va_cwS 1 hts gX9_weigh_X9_demandState rfl rfl rfl (by decide +kernel) ⟨Nat.le_of_ble_eq_true rfl, Nat.le_of_ble_eq_true rfl⟩) (zpS hKX hP hD [] rfl rfl) rfl rfl hl.1 rfl (lv_room (Nat.le_of_ble_eq_true rfl)) dX9_weigh_29 ⟨(by first | exact Nat.le_of_ble_eq_true rfl | (show _ ≤ (0 : Nat); omega)), (by first | exact Nat.le_of_ble_eq_true rfl | (show _ ≤ (0 : Nat); omega))⟩) hP hD hS hA [] [0, 1, 2] rfl rfl rfl (by decide) (fun u_8 H locs hq_11 hP hD hS => ?_)
    have hP : va_P G.1 vwCl [(x, .inr (10, [.ref ro, .ref rw, .ref bo, .ref li, .ref sh, .ref tx, .ref lo, .ref nl])), (sh, .inr (7, [.ref wt, .int (iz (0))])), (wt, zaI (G.2 1) 12 (fun _ => 0))] H := hP
    have hD : va_D A [(x, .inr (10, [.ref ro, .ref rw, .ref bo, .ref li, .ref sh, .ref tx, .ref lo, .ref nl])), (sh, .inr (7, [.ref wt, .int (iz (0))])), (wt, zaI (G.2 1) 12 (fun _ => 0))] := hD
    refine lv_aload_n hx hb dX9_weigh_32 rfl (lv_at hl 0 rfl) ?_
    refine va_get (D := G.1) (ci := 10) (v := .ref sh) (C := RX9) (T := TX9) (N := 8) hx hb hts iwX9 hown hK hP 0 rfl rfl 4 (by decide) (hts (.fieldLink RX9 40 "AnnuityHouse" "shares" "LAnnuityHouse$Shares;") (by decide +kernel)) (fun _ h9 => h9) rfl dX9_weigh_33 ?_
    refine lv_iload_n hx hb dX9_weigh_36 rfl (lv_at hl 1 rfl) ?_
    refine zc_i (wr := [(x, .inr (10, [.ref ro, .ref rw, .ref bo, .ref li, .ref sh, .ref tx, .ref lo, .ref nl]))]) (va_runV (As := [.int (iz (we))]) (rest := []) ⟨hx, hb, hml, hown, hts⟩ (c_X6_add l G sh wt we  H.size) (cwV 1 hts gX9_weigh_X6_add rfl rfl rfl (by decide +kernel) ⟨Nat.le_of_ble_eq_true rfl, Nat.le_of_ble_eq_true rfl⟩) (zpV hKX hP hD [1, 2] rfl rfl 1 7 rfl rfl) rfl rfl hl.1 rfl (lv_room (Nat.le_of_ble_eq_true rfl)) dX9_weigh_37 ⟨(by first | exact Nat.le_of_ble_eq_true rfl | (show _ ≤ (0 : Nat); omega)), (by first | exact Nat.le_of_ble_eq_true rfl | (show _ ≤ (0 : Nat); omega))⟩) hP hD hS hA [1, 2] [0] rfl rfl rfl (by decide) (fun zz u_12 H locs hz hP hD hS => ?_)
    generalize u_12 = f2 at hP hD hz
    have hP : va_P G.1 vwCl [(x, .inr (10, [.ref ro, .ref rw, .ref bo, .ref li, .ref sh, .ref tx, .ref lo, .ref nl])), (sh, .inr (7, [.ref wt, .int (iz (0 + 1))])), (wt, zaI (G.2 1) 12 (f2))] H := hP
    have hD : va_D A [(x, .inr (10, [.ref ro, .ref rw, .ref bo, .ref li, .ref sh, .ref tx, .ref lo, .ref nl])), (sh, .inr (7, [.ref wt, .int (iz (0 + 1))])), (wt, zaI (G.2 1) 12 (f2))] := hD
    have hz : zz = 1 := hz
    rw [hQ]
    exact zr_iret (z := zz) (u := (f2)) hx hb hr hlocks hP hD hS (by first | exact Nat.le_of_ble_eq_true rfl | omega) (by first | exact Nat.le_of_ble_eq_true rfl | omega) dX9_weigh_40 (show zz = 1 from hz)

def rm_c_X9_weigh_x : Room := { frames := 7, cells := 1, slots := 6, locals := 110 }
set_option maxHeartbeats 1000000 in
set_option maxRecDepth 100000 in
theorem c_X9_weigh_x (l : Launch) (G : zG) (s1 : Nat) (s2 : Nat) (s3 : Nat) (x : Nat) (ro : Nat) (rw : Nat) (bo : Nat) (li : Nat) (sh : Nat) (tx : Nat) (lo : Nat) (nl : Nat) (we : Int) (hl0 : l.stackTraces = false) (h0 : -2147483648 ≤ we ∧ we < 2147483648) (h1 : ¬ (0 ≤ we ∧ we ≤ 1000000)) : zMx l (zXE s1 s2 s3) G yX9_weigh wsX9_weigh rm_c_X9_weigh_x [.ref x, .int (iz (we))] [(x, .inr (10, [.ref ro, .ref rw, .ref bo, .ref li, .ref sh, .ref tx, .ref lo, .ref nl]))] "java/lang/IllegalArgumentException" 1 6 := by
  refine zMx_of (cc := cX9_weigh) (maxL := 2) (ret := (some .int)) (by decide) rfl (Nat.le_of_ble_eq_true rfl) ?_
  intro p e s m below meth c ls A Q hQ hx hb hr hts hown hlocks hml hout hKX hE hP hD hA hS hl
  have hK := hKX.1
  obtain ⟨H, hH⟩ : ∃ h, h = s.heap := ⟨_, rfl⟩
  obtain ⟨locs, hlo⟩ : ∃ h : List Loc, h = [] := ⟨_, rfl⟩
  have hS : va_S A s.heap H locs := by rw [hH, hlo]; exact hS
  have hP : va_P G.1 vwCl [(x, .inr (10, [.ref ro, .ref rw, .ref bo, .ref li, .ref sh, .ref tx, .ref lo, .ref nl]))] H := by rw [hH]; exact hP
  have hD : va_D A [(x, .inr (10, [.ref ro, .ref rw, .ref bo, .ref li, .ref sh, .ref tx, .ref lo, .ref nl]))] := hD
  have hl : lv_has ls 2 [(0, .ref x), (1, .int (iz (we)))] := hl
  rw [← hH, ← hlo]
  refine lv_iload_n hx hb dX9_weigh_0 rfl (lv_at hl 1 rfl) ?_
  refine zr_i2l hx hb (x := we) (⟨by omega, by omega⟩) dX9_weigh_1 ?_
  refine lv_lconst (v := lz (0)) hx hb dX9_weigh_2 rfl ?_
  refine zr_ldc2 (z := 1000000) hx hb hown (hts (.constantLong RX9 105 (1000000)) (by decide +kernel)) rfl dX9_weigh_3 ?_
  refine zc_z (wr := [(x, .inr (10, [.ref ro, .ref rw, .ref bo, .ref li, .ref sh, .ref tx, .ref lo, .ref nl]))]) (va_runS (As := [.long (lz (we)), .long (lz (0)), .long (lz (1000000))]) (rest := []) ⟨hx, hb, hml, hown, hts⟩ (c_X9_isWithin l G we 0 1000000 (by omega) (by omega) (by omega) H.size) (va_cwS 3 hts gX9_weigh_X9_isWithin rfl rfl rfl (by decide +kernel) ⟨Nat.le_of_ble_eq_true rfl, Nat.le_of_ble_eq_true rfl⟩) (zpS hKX hP hD [] rfl rfl) rfl rfl hl.1 rfl (lv_room (Nat.le_of_ble_eq_true rfl)) dX9_weigh_6 ⟨(by first | exact Nat.le_of_ble_eq_true rfl | (show _ ≤ (1 : Nat); omega)), (by first | exact Nat.le_of_ble_eq_true rfl | (show _ ≤ (6 : Nat); omega))⟩) hP hD hS hA [] [0] rfl rfl rfl (by decide) (fun y1 u_1 H locs hy1 hP hD hS => ?_)
  have hP : va_P G.1 vwCl [(x, .inr (10, [.ref ro, .ref rw, .ref bo, .ref li, .ref sh, .ref tx, .ref lo, .ref nl]))] H := hP
  have hD : va_D A [(x, .inr (10, [.ref ro, .ref rw, .ref bo, .ref li, .ref sh, .ref tx, .ref lo, .ref nl]))] := hD
  have hy1 : y1 = decide ((0 : Int) ≤ we ∧ we ≤ (1000000 : Int)) := hy1
  rw [show y1 = false from hy1.trans (decide_eq_false (by omega))]
  rw [hQ]
  exact zx_thr (X := "java/lang/IllegalArgumentException") (vx_runS (As := [.int (iz (zbb false))]) (rest := []) ⟨hx, hb, hml, hown, hts⟩ (c_X9_demand_x l G s1 s2 s3 hl0 H.size) (va_cwS 1 hts gX9_weigh_X9_demand rfl rfl rfl (by decide +kernel) ⟨Nat.le_of_ble_eq_true rfl, Nat.le_of_ble_eq_true rfl⟩) (zpSe zXE_ok hE hS hA hKX hP hD [] rfl rfl) rfl rfl hl.1 rfl (lv_room (Nat.le_of_ble_eq_true rfl)) dX9_weigh_9 ⟨(by first | exact Nat.le_of_ble_eq_true rfl | (show _ ≤ (1 : Nat); omega)), (by first | exact Nat.le_of_ble_eq_true rfl | (show _ ≤ (6 : Nat); omega))⟩) hS (va_free (wc := []) hD hS hA [] rfl) hout hlocks (by first | exact Nat.le_of_ble_eq_true rfl | omega) (by first | exact Nat.le_of_ble_eq_true rfl | omega)

def rm_c_X9_clearWeights : Room := { frames := 1, cells := 0, slots := 0, locals := 21 }
theorem iw_X9_clearWeights_X9 : ∀ w ∈ wsX90, w ∈ wsX9_clearWeights := by decide +kernel
set_option maxHeartbeats 1000000 in
set_option maxRecDepth 100000 in
theorem c_X9_clearWeights (l : Launch) (G : zG) (x : Nat) (ro : Nat) (rw : Nat) (bo : Nat) (li : Nat) (sh : Nat) (tx : Nat) (lo : Nat) (nl : Nat) (wt : Nat)  : zM l G yX9_clearWeights wsX9_clearWeights rm_c_X9_clearWeights [.ref x] [(x, .inr (10, [.ref ro, .ref rw, .ref bo, .ref li, .ref sh, .ref tx, .ref lo, .ref nl])), (sh, .inr (7, [.ref wt, .int (iz (0))]))] (fun A => zQi G (fun (z : Int) (_ : Unit) => z = 0) (fun (_ : Unit) => [(x, .inr (10, [.ref ro, .ref rw, .ref bo, .ref li, .ref sh, .ref tx, .ref lo, .ref nl])), (sh, .inr (7, [.ref wt, .int (iz (0))]))]) A) 0 0 := by
  refine zM_of (cc := cX9_clearWeights) (maxL := 1) (ret := (some .int)) (by decide) rfl (Nat.le_of_ble_eq_true rfl) ?_
  intro p e s m below meth c ls A Q hQ hx hb hr hts hown hlocks hml hnm hKX hP hD hA hS hl
  have hK := hKX.1
  have iwX9 := iw_X9_clearWeights_X9
  obtain ⟨H, hH⟩ : ∃ h, h = s.heap := ⟨_, rfl⟩
  obtain ⟨locs, hlo⟩ : ∃ h : List Loc, h = [] := ⟨_, rfl⟩
  have hS : va_S A s.heap H locs := by rw [hH, hlo]; exact hS
  have hP : va_P G.1 vwCl [(x, .inr (10, [.ref ro, .ref rw, .ref bo, .ref li, .ref sh, .ref tx, .ref lo, .ref nl])), (sh, .inr (7, [.ref wt, .int (iz (0))]))] H := by rw [hH]; exact hP
  have hD : va_D A [(x, .inr (10, [.ref ro, .ref rw, .ref bo, .ref li, .ref sh, .ref tx, .ref lo, .ref nl])), (sh, .inr (7, [.ref wt, .int (iz (0))]))] := hD
  have hl : lv_has ls 1 [(0, .ref x)] := hl
  rw [← hH, ← hlo]
  refine lv_aload_n hx hb dX9_clearWeights_0 rfl (lv_at hl 0 rfl) ?_
  refine va_get (D := G.1) (ci := 10) (v := .ref sh) (C := RX9) (T := TX9) (N := 8) hx hb hts iwX9 hown hK hP 0 rfl rfl 4 (by decide) (hts (.fieldLink RX9 40 "AnnuityHouse" "shares" "LAnnuityHouse$Shares;") (by decide +kernel)) (fun _ h9 => h9) rfl dX9_clearWeights_1 ?_
  refine zc_i (wr := [(x, .inr (10, [.ref ro, .ref rw, .ref bo, .ref li, .ref sh, .ref tx, .ref lo, .ref nl]))]) (va_runV (As := []) (rest := []) ⟨hx, hb, hml, hown, hts⟩ (c_X6_clear l G sh wt  H.size) (cwV 0 hts gX9_clearWeights_X6_clear rfl rfl rfl (by decide +kernel) ⟨Nat.le_of_ble_eq_true rfl, Nat.le_of_ble_eq_true rfl⟩) (zpV hKX hP hD [1] rfl rfl 1 7 rfl rfl) rfl rfl hl.1 rfl (lv_room (Nat.le_of_ble_eq_true rfl)) dX9_clearWeights_4 ⟨(by first | exact Nat.le_of_ble_eq_true rfl | (show _ ≤ (0 : Nat); omega)), (by first | exact Nat.le_of_ble_eq_true rfl | (show _ ≤ (0 : Nat); omega))⟩) hP hD hS hA [1] [0] rfl rfl rfl (by decide) (fun zz u_1 H locs hz hP hD hS => ?_)
  have hP : va_P G.1 vwCl [(x, .inr (10, [.ref ro, .ref rw, .ref bo, .ref li, .ref sh, .ref tx, .ref lo, .ref nl])), (sh, .inr (7, [.ref wt, .int (iz (0))]))] H := hP
  have hD : va_D A [(x, .inr (10, [.ref ro, .ref rw, .ref bo, .ref li, .ref sh, .ref tx, .ref lo, .ref nl])), (sh, .inr (7, [.ref wt, .int (iz (0))]))] := hD
  have hz : zz = 0 := hz
  rw [hQ]
  exact zr_iret (z := zz) (u := ()) hx hb hr hlocks hP hD hS (by first | exact Nat.le_of_ble_eq_true rfl | omega) (by first | exact Nat.le_of_ble_eq_true rfl | omega) dX9_clearWeights_7 (show zz = 0 from hz)

def rm_c_X9_part_o : Room := { frames := 7, cells := 1, slots := 6, locals := 110 }
theorem iw_X9_part_X6 : ∀ w ∈ wsX60, w ∈ wsX9_part := by decide +kernel
theorem iw_X9_part_X9 : ∀ w ∈ wsX90, w ∈ wsX9_part := by decide +kernel
set_option maxHeartbeats 1000000 in
set_option maxRecDepth 100000 in
theorem c_X9_part_o (l : Launch) (G : zG) (s1 : Nat) (s2 : Nat) (s3 : Nat) (x : Nat) (ro : Nat) (rw : Nat) (bo : Nat) (li : Nat) (sh : Nat) (tx : Nat) (lo : Nat) (nl : Nat) (wt : Nat) (mo : Int) (wh : Int) (hl0 : l.stackTraces = false) (h0 : -9223372036854775808 ≤ mo ∧ mo < 9223372036854775808) (h01 : -2147483648 ≤ wh ∧ wh < 2147483648) (h1 : 0 ≤ mo ∧ mo ≤ 1000000000000) : zMx l (zXE s1 s2 s3) G yX9_part wsX9_part rm_c_X9_part_o [.ref x, .long (lz (mo)), .int (iz (wh))] [(x, .inr (10, [.ref ro, .ref rw, .ref bo, .ref li, .ref sh, .ref tx, .ref lo, .ref nl])), (sh, .inr (7, [.ref wt, .int (iz (0))]))] "java/util/NoSuchElementException" 1 6 := by
  refine zMx_of (cc := cX9_part) (maxL := 4) (ret := (some .long)) (by decide) rfl (Nat.le_of_ble_eq_true rfl) ?_
  intro p e s m below meth c ls A Q hQ hx hb hr hts hown hlocks hml hout hKX hE hP hD hA hS hl
  have hK := hKX.1
  have iwX6 := iw_X9_part_X6
  have iwX9 := iw_X9_part_X9
  obtain ⟨H, hH⟩ : ∃ h, h = s.heap := ⟨_, rfl⟩
  obtain ⟨locs, hlo⟩ : ∃ h : List Loc, h = [] := ⟨_, rfl⟩
  have hS : va_S A s.heap H locs := by rw [hH, hlo]; exact hS
  have hP : va_P G.1 vwCl [(x, .inr (10, [.ref ro, .ref rw, .ref bo, .ref li, .ref sh, .ref tx, .ref lo, .ref nl])), (sh, .inr (7, [.ref wt, .int (iz (0))]))] H := by rw [hH]; exact hP
  have hD : va_D A [(x, .inr (10, [.ref ro, .ref rw, .ref bo, .ref li, .ref sh, .ref tx, .ref lo, .ref nl])), (sh, .inr (7, [.ref wt, .int (iz (0))]))] := hD
  have hl : lv_has ls 4 [(0, .ref x), (1, .long (lz (mo))), (3, .int (iz (wh)))] := hl
  rw [← hH, ← hlo]
  refine lv_lload_n hx hb dX9_part_0 rfl (lv_at hl 1 rfl) ?_
  refine lv_lconst (v := lz (0)) hx hb dX9_part_1 rfl ?_
  refine zr_ldc2 (z := 1000000000000) hx hb hown (hts (.constantLong RX9 77 (1000000000000)) (by decide +kernel)) rfl dX9_part_2 ?_
  refine zc_z (wr := [(x, .inr (10, [.ref ro, .ref rw, .ref bo, .ref li, .ref sh, .ref tx, .ref lo, .ref nl])), (sh, .inr (7, [.ref wt, .int (iz (0))]))]) (va_runS (As := [.long (lz (mo)), .long (lz (0)), .long (lz (1000000000000))]) (rest := []) ⟨hx, hb, hml, hown, hts⟩ (c_X9_isWithin l G mo 0 1000000000000 (by omega) (by omega) (by omega) H.size) (va_cwS 3 hts gX9_part_X9_isWithin rfl rfl rfl (by decide +kernel) ⟨Nat.le_of_ble_eq_true rfl, Nat.le_of_ble_eq_true rfl⟩) (zpS hKX hP hD [] rfl rfl) rfl rfl hl.1 rfl (lv_room (Nat.le_of_ble_eq_true rfl)) dX9_part_5 ⟨(by first | exact Nat.le_of_ble_eq_true rfl | (show _ ≤ (1 : Nat); omega)), (by first | exact Nat.le_of_ble_eq_true rfl | (show _ ≤ (6 : Nat); omega))⟩) hP hD hS hA [] [0, 1] rfl rfl rfl (by decide) (fun y1 u_1 H locs hy1 hP hD hS => ?_)
  have hP : va_P G.1 vwCl [(x, .inr (10, [.ref ro, .ref rw, .ref bo, .ref li, .ref sh, .ref tx, .ref lo, .ref nl])), (sh, .inr (7, [.ref wt, .int (iz (0))]))] H := hP
  have hD : va_D A [(x, .inr (10, [.ref ro, .ref rw, .ref bo, .ref li, .ref sh, .ref tx, .ref lo, .ref nl])), (sh, .inr (7, [.ref wt, .int (iz (0))]))] := hD
  have hy1 : y1 = decide ((0 : Int) ≤ mo ∧ mo ≤ (1000000000000 : Int)) := hy1
  rw [show y1 = true from hy1.trans (decide_eq_true (by omega))]
  refine zc_v (wr := [(x, .inr (10, [.ref ro, .ref rw, .ref bo, .ref li, .ref sh, .ref tx, .ref lo, .ref nl])), (sh, .inr (7, [.ref wt, .int (iz (0))]))]) (va_runS (As := [.int (iz (zbb true))]) (rest := []) ⟨hx, hb, hml, hown, hts⟩ (c_X9_demand_o l G   H.size) (va_cwS 1 hts gX9_part_X9_demand rfl rfl rfl (by decide +kernel) ⟨Nat.le_of_ble_eq_true rfl, Nat.le_of_ble_eq_true rfl⟩) (zpS hKX hP hD [] rfl rfl) rfl rfl hl.1 rfl (lv_room (Nat.le_of_ble_eq_true rfl)) dX9_part_8 ⟨(by first | exact Nat.le_of_ble_eq_true rfl | (show _ ≤ (1 : Nat); omega)), (by first | exact Nat.le_of_ble_eq_true rfl | (show _ ≤ (6 : Nat); omega))⟩) hP hD hS hA [] [0, 1] rfl rfl rfl (by decide) (fun u_3 H locs hq_6 hP hD hS => ?_)
  have hP : va_P G.1 vwCl [(x, .inr (10, [.ref ro, .ref rw, .ref bo, .ref li, .ref sh, .ref tx, .ref lo, .ref nl])), (sh, .inr (7, [.ref wt, .int (iz (0))]))] H := hP
  have hD : va_D A [(x, .inr (10, [.ref ro, .ref rw, .ref bo, .ref li, .ref sh, .ref tx, .ref lo, .ref nl])), (sh, .inr (7, [.ref wt, .int (iz (0))]))] := hD
  refine lv_iload_n hx hb dX9_part_11 rfl (lv_at hl 2 rfl) ?_
  refine zr_i2l hx hb (x := wh) (⟨by omega, by omega⟩) dX9_part_12 ?_
  refine lv_lconst (v := lz (0)) hx hb dX9_part_13 rfl ?_
  refine lv_aload_n hx hb dX9_part_14 rfl (lv_at hl 0 rfl) ?_
  refine va_get (D := G.1) (ci := 10) (v := .ref sh) (C := RX9) (T := TX9) (N := 8) hx hb hts iwX9 hown hK hP 0 rfl rfl 4 (by decide) (hts (.fieldLink RX9 40 "AnnuityHouse" "shares" "LAnnuityHouse$Shares;") (by decide +kernel)) (fun _ h9 => h9) rfl dX9_part_15 ?_
  refine va_get (D := G.1) (ci := 7) (v := .int (iz (0))) (C := RX6) (T := TX6) (N := 2) hx hb hts iwX6 hown hK hP 1 rfl rfl 1 (by decide) (hts (.fieldLink RX9 228 "AnnuityHouse$Shares" "people" "I") (by decide +kernel)) (fun _ h9 => h9) rfl dX9_part_18 ?_
  refine lv_iconst (v := iz (1)) hx hb dX9_part_21 rfl ?_
  refine zr_isub hx hb dX9_part_22 ?_
  refine zr_i2l hx hb (x := 0 - 1) (⟨by decide, by decide⟩) dX9_part_23 ?_
  refine zc_z (wr := [(x, .inr (10, [.ref ro, .ref rw, .ref bo, .ref li, .ref sh, .ref tx, .ref lo, .ref nl])), (sh, .inr (7, [.ref wt, .int (iz (0))]))]) (va_runS (As := [.long (lz (wh)), .long (lz (0)), .long (lz (0 - 1))]) (rest := []) ⟨hx, hb, hml, hown, hts⟩ (c_X9_isWithin l G wh 0 (0 - 1) (by omega) (by omega) (by omega) H.size) (va_cwS 3 hts gX9_part_X9_isWithin rfl rfl rfl (by decide +kernel) ⟨Nat.le_of_ble_eq_true rfl, Nat.le_of_ble_eq_true rfl⟩) (zpS hKX hP hD [] rfl rfl) rfl rfl hl.1 rfl (lv_room (Nat.le_of_ble_eq_true rfl)) dX9_part_24 ⟨(by first | exact Nat.le_of_ble_eq_true rfl | (show _ ≤ (1 : Nat); omega)), (by first | exact Nat.le_of_ble_eq_true rfl | (show _ ≤ (6 : Nat); omega))⟩) hP hD hS hA [] [0, 1] rfl rfl rfl (by decide) (fun y2 u_7 H locs hy2 hP hD hS => ?_)
  have hP : va_P G.1 vwCl [(x, .inr (10, [.ref ro, .ref rw, .ref bo, .ref li, .ref sh, .ref tx, .ref lo, .ref nl])), (sh, .inr (7, [.ref wt, .int (iz (0))]))] H := hP
  have hD : va_D A [(x, .inr (10, [.ref ro, .ref rw, .ref bo, .ref li, .ref sh, .ref tx, .ref lo, .ref nl])), (sh, .inr (7, [.ref wt, .int (iz (0))]))] := hD
  have hy2 : y2 = decide ((0 : Int) ≤ wh ∧ wh ≤ (0 - 1)) := hy2
  rw [show y2 = false from hy2.trans (decide_eq_false (by omega))]
  rw [hQ]
  exact zx_thr (X := "java/util/NoSuchElementException") (vx_runS (As := [.int (iz (zbb false))]) (rest := []) ⟨hx, hb, hml, hown, hts⟩ (c_X9_demandElement_x l G s1 s2 s3 hl0 H.size) (va_cwS 1 hts gX9_part_X9_demandElement rfl rfl rfl (by decide +kernel) ⟨Nat.le_of_ble_eq_true rfl, Nat.le_of_ble_eq_true rfl⟩) (zpSe zXE_ok hE hS hA hKX hP hD [] rfl rfl) rfl rfl hl.1 rfl (lv_room (Nat.le_of_ble_eq_true rfl)) dX9_part_27 ⟨(by first | exact Nat.le_of_ble_eq_true rfl | (show _ ≤ (1 : Nat); omega)), (by first | exact Nat.le_of_ble_eq_true rfl | (show _ ≤ (6 : Nat); omega))⟩) hS (va_free (wc := []) hD hS hA [] rfl) hout hlocks (by first | exact Nat.le_of_ble_eq_true rfl | omega) (by first | exact Nat.le_of_ble_eq_true rfl | omega)

def rm_c_X9_part_x : Room := { frames := 7, cells := 1, slots := 6, locals := 110 }
set_option maxHeartbeats 1000000 in
set_option maxRecDepth 100000 in
theorem c_X9_part_x (l : Launch) (G : zG) (s1 : Nat) (s2 : Nat) (s3 : Nat) (x : Nat) (ro : Nat) (rw : Nat) (bo : Nat) (li : Nat) (sh : Nat) (tx : Nat) (lo : Nat) (nl : Nat) (mo : Int) (wh : Int) (hl0 : l.stackTraces = false) (h0 : -9223372036854775808 ≤ mo ∧ mo < 9223372036854775808) (h01 : -2147483648 ≤ wh ∧ wh < 2147483648) (h1 : ¬ (0 ≤ mo ∧ mo ≤ 1000000000000)) : zMx l (zXE s1 s2 s3) G yX9_part wsX9_part rm_c_X9_part_x [.ref x, .long (lz (mo)), .int (iz (wh))] [(x, .inr (10, [.ref ro, .ref rw, .ref bo, .ref li, .ref sh, .ref tx, .ref lo, .ref nl]))] "java/lang/IllegalArgumentException" 1 6 := by
  refine zMx_of (cc := cX9_part) (maxL := 4) (ret := (some .long)) (by decide) rfl (Nat.le_of_ble_eq_true rfl) ?_
  intro p e s m below meth c ls A Q hQ hx hb hr hts hown hlocks hml hout hKX hE hP hD hA hS hl
  have hK := hKX.1
  obtain ⟨H, hH⟩ : ∃ h, h = s.heap := ⟨_, rfl⟩
  obtain ⟨locs, hlo⟩ : ∃ h : List Loc, h = [] := ⟨_, rfl⟩
  have hS : va_S A s.heap H locs := by rw [hH, hlo]; exact hS
  have hP : va_P G.1 vwCl [(x, .inr (10, [.ref ro, .ref rw, .ref bo, .ref li, .ref sh, .ref tx, .ref lo, .ref nl]))] H := by rw [hH]; exact hP
  have hD : va_D A [(x, .inr (10, [.ref ro, .ref rw, .ref bo, .ref li, .ref sh, .ref tx, .ref lo, .ref nl]))] := hD
  have hl : lv_has ls 4 [(0, .ref x), (1, .long (lz (mo))), (3, .int (iz (wh)))] := hl
  rw [← hH, ← hlo]
  refine lv_lload_n hx hb dX9_part_0 rfl (lv_at hl 1 rfl) ?_
  refine lv_lconst (v := lz (0)) hx hb dX9_part_1 rfl ?_
  refine zr_ldc2 (z := 1000000000000) hx hb hown (hts (.constantLong RX9 77 (1000000000000)) (by decide +kernel)) rfl dX9_part_2 ?_
  refine zc_z (wr := [(x, .inr (10, [.ref ro, .ref rw, .ref bo, .ref li, .ref sh, .ref tx, .ref lo, .ref nl]))]) (va_runS (As := [.long (lz (mo)), .long (lz (0)), .long (lz (1000000000000))]) (rest := []) ⟨hx, hb, hml, hown, hts⟩ (c_X9_isWithin l G mo 0 1000000000000 (by omega) (by omega) (by omega) H.size) (va_cwS 3 hts gX9_part_X9_isWithin rfl rfl rfl (by decide +kernel) ⟨Nat.le_of_ble_eq_true rfl, Nat.le_of_ble_eq_true rfl⟩) (zpS hKX hP hD [] rfl rfl) rfl rfl hl.1 rfl (lv_room (Nat.le_of_ble_eq_true rfl)) dX9_part_5 ⟨(by first | exact Nat.le_of_ble_eq_true rfl | (show _ ≤ (1 : Nat); omega)), (by first | exact Nat.le_of_ble_eq_true rfl | (show _ ≤ (6 : Nat); omega))⟩) hP hD hS hA [] [0] rfl rfl rfl (by decide) (fun y1 u_1 H locs hy1 hP hD hS => ?_)
  have hP : va_P G.1 vwCl [(x, .inr (10, [.ref ro, .ref rw, .ref bo, .ref li, .ref sh, .ref tx, .ref lo, .ref nl]))] H := hP
  have hD : va_D A [(x, .inr (10, [.ref ro, .ref rw, .ref bo, .ref li, .ref sh, .ref tx, .ref lo, .ref nl]))] := hD
  have hy1 : y1 = decide ((0 : Int) ≤ mo ∧ mo ≤ (1000000000000 : Int)) := hy1
  rw [show y1 = false from hy1.trans (decide_eq_false (by omega))]
  rw [hQ]
  exact zx_thr (X := "java/lang/IllegalArgumentException") (vx_runS (As := [.int (iz (zbb false))]) (rest := []) ⟨hx, hb, hml, hown, hts⟩ (c_X9_demand_x l G s1 s2 s3 hl0 H.size) (va_cwS 1 hts gX9_part_X9_demand rfl rfl rfl (by decide +kernel) ⟨Nat.le_of_ble_eq_true rfl, Nat.le_of_ble_eq_true rfl⟩) (zpSe zXE_ok hE hS hA hKX hP hD [] rfl rfl) rfl rfl hl.1 rfl (lv_room (Nat.le_of_ble_eq_true rfl)) dX9_part_8 ⟨(by first | exact Nat.le_of_ble_eq_true rfl | (show _ ≤ (1 : Nat); omega)), (by first | exact Nat.le_of_ble_eq_true rfl | (show _ ≤ (6 : Nat); omega))⟩) hS (va_free (wc := []) hD hS hA [] rfl) hout hlocks (by first | exact Nat.le_of_ble_eq_true rfl | omega) (by first | exact Nat.le_of_ble_eq_true rfl | omega)

def rm_c_X9_step_o : Room := { frames := 1, cells := 0, slots := 0, locals := 25 }
theorem iw_X9_step_X7 : ∀ w ∈ wsX70, w ∈ wsX9_step := by decide +kernel
theorem iw_X9_step_X9 : ∀ w ∈ wsX90, w ∈ wsX9_step := by decide +kernel
set_option maxHeartbeats 1000000 in
set_option maxRecDepth 100000 in
theorem c_X9_step_o (l : Launch) (G : zG) (x : Nat) (ro : Nat) (rw : Nat) (bo : Nat) (li : Nat) (sh : Nat) (tx : Nat) (lo : Nat) (nl : Nat) (fm : Nat) (pm : Nat) (fr : Int) (pl : Int) (h0 : -9223372036854775808 ≤ fr ∧ fr < 9223372036854775808) (h01 : -2147483648 ≤ pl ∧ pl < 2147483648) (h1 : 0 ≤ fr ∧ fr ≤ 1000000000 ∧ 0 ≤ pl ∧ pl ≤ 1000) : zM l G yX9_step wsX9_step rm_c_X9_step_o [.ref x, .long (lz (fr)), .int (iz (pl))] [(x, .inr (10, [.ref ro, .ref rw, .ref bo, .ref li, .ref sh, .ref tx, .ref lo, .ref nl])), (tx, .inr (8, [.ref fm, .ref pm, .int (iz (0))])), (fm, zaL (G.2 0) 8 (fun _ => 0)), (pm, zaI (G.2 1) 8 (fun _ => 0))] (fun A => zQi G (fun (z : Int) (u : (Int → Int) × (Int → Int)) => z = 1) (fun (u : (Int → Int) × (Int → Int)) => [(x, .inr (10, [.ref ro, .ref rw, .ref bo, .ref li, .ref sh, .ref tx, .ref lo, .ref nl])), (tx, .inr (8, [.ref fm, .ref pm, .int (iz (0 + 1))])), (fm, zaL (G.2 0) 8 (u.1)), (pm, zaI (G.2 1) 8 (u.2))]) A) 0 0 := by
  refine zM_of (cc := cX9_step) (maxL := 4) (ret := (some .int)) (by decide) rfl (Nat.le_of_ble_eq_true rfl) ?_
  intro p e s m below meth c ls A Q hQ hx hb hr hts hown hlocks hml hnm hKX hP hD hA hS hl
  have hK := hKX.1
  have iwX7 := iw_X9_step_X7
  have iwX9 := iw_X9_step_X9
  obtain ⟨H, hH⟩ : ∃ h, h = s.heap := ⟨_, rfl⟩
  obtain ⟨locs, hlo⟩ : ∃ h : List Loc, h = [] := ⟨_, rfl⟩
  have hS : va_S A s.heap H locs := by rw [hH, hlo]; exact hS
  have hP : va_P G.1 vwCl [(x, .inr (10, [.ref ro, .ref rw, .ref bo, .ref li, .ref sh, .ref tx, .ref lo, .ref nl])), (tx, .inr (8, [.ref fm, .ref pm, .int (iz (0))])), (fm, zaL (G.2 0) 8 (fun _ => 0)), (pm, zaI (G.2 1) 8 (fun _ => 0))] H := by rw [hH]; exact hP
  have hD : va_D A [(x, .inr (10, [.ref ro, .ref rw, .ref bo, .ref li, .ref sh, .ref tx, .ref lo, .ref nl])), (tx, .inr (8, [.ref fm, .ref pm, .int (iz (0))])), (fm, zaL (G.2 0) 8 (fun _ => 0)), (pm, zaI (G.2 1) 8 (fun _ => 0))] := hD
  have hl : lv_has ls 4 [(0, .ref x), (1, .long (lz (fr))), (3, .int (iz (pl)))] := hl
  rw [← hH, ← hlo]
  refine lv_lload_n hx hb dX9_step_0 rfl (lv_at hl 1 rfl) ?_
  refine lv_aload_n hx hb dX9_step_1 rfl (lv_at hl 0 rfl) ?_
  refine va_get (D := G.1) (ci := 10) (v := .ref tx) (C := RX9) (T := TX9) (N := 8) hx hb hts iwX9 hown hK hP 0 rfl rfl 5 (by decide) (hts (.fieldLink RX9 47 "AnnuityHouse" "taxes" "LAnnuityHouse$Taxes;") (by decide +kernel)) (fun _ h9 => h9) rfl dX9_step_2 ?_
  refine zc_l (wr := [(x, .inr (10, [.ref ro, .ref rw, .ref bo, .ref li, .ref sh, .ref tx, .ref lo, .ref nl])), (fm, zaL (G.2 0) 8 (fun _ => 0)), (pm, zaI (G.2 1) 8 (fun _ => 0))]) (va_runV (As := []) (rest := [.long (lz (fr))]) ⟨hx, hb, hml, hown, hts⟩ (c_X7_leastNextFrom l G tx fm pm  H.size) (cwV 0 hts gX9_step_X7_leastNextFrom rfl rfl rfl (by decide +kernel) ⟨Nat.le_of_ble_eq_true rfl, Nat.le_of_ble_eq_true rfl⟩) (zpV hKX hP hD [1] rfl rfl 1 8 rfl rfl) rfl rfl hl.1 rfl (lv_room (Nat.le_of_ble_eq_true rfl)) dX9_step_5 ⟨(by first | exact Nat.le_of_ble_eq_true rfl | (show _ ≤ (0 : Nat); omega)), (by first | exact Nat.le_of_ble_eq_true rfl | (show _ ≤ (0 : Nat); omega))⟩) hP hD hS hA [1] [0, 2, 3] rfl rfl rfl (by decide) (fun ln u_1 H locs hln hP hD hS => ?_)
  have hP : va_P G.1 vwCl [(x, .inr (10, [.ref ro, .ref rw, .ref bo, .ref li, .ref sh, .ref tx, .ref lo, .ref nl])), (fm, zaL (G.2 0) 8 (fun _ => 0)), (pm, zaI (G.2 1) 8 (fun _ => 0)), (tx, .inr (8, [.ref fm, .ref pm, .int (iz (0))]))] H := hP
  have hD : va_D A [(x, .inr (10, [.ref ro, .ref rw, .ref bo, .ref li, .ref sh, .ref tx, .ref lo, .ref nl])), (fm, zaL (G.2 0) 8 (fun _ => 0)), (pm, zaI (G.2 1) 8 (fun _ => 0)), (tx, .inr (8, [.ref fm, .ref pm, .int (iz (0))]))] := hD
  have hln : ln = 0 := hln
  rw [show ln = 0 from hln]
  refine zr_ldc2 (z := 1000000000) hx hb hown (hts (.constantLong RX9 91 (1000000000)) (by decide +kernel)) rfl dX9_step_8 ?_
  refine zc_z (wr := [(x, .inr (10, [.ref ro, .ref rw, .ref bo, .ref li, .ref sh, .ref tx, .ref lo, .ref nl])), (fm, zaL (G.2 0) 8 (fun _ => 0)), (pm, zaI (G.2 1) 8 (fun _ => 0)), (tx, .inr (8, [.ref fm, .ref pm, .int (iz (0))]))]) (va_runS (As := [.long (lz (fr)), .long (lz (0)), .long (lz (1000000000))]) (rest := []) ⟨hx, hb, hml, hown, hts⟩ (c_X9_isWithin l G fr 0 1000000000 (by omega) (by omega) (by omega) H.size) (va_cwS 3 hts gX9_step_X9_isWithin rfl rfl rfl (by decide +kernel) ⟨Nat.le_of_ble_eq_true rfl, Nat.le_of_ble_eq_true rfl⟩) (zpS hKX hP hD [] rfl rfl) rfl rfl hl.1 rfl (lv_room (Nat.le_of_ble_eq_true rfl)) dX9_step_11 ⟨(by first | exact Nat.le_of_ble_eq_true rfl | (show _ ≤ (0 : Nat); omega)), (by first | exact Nat.le_of_ble_eq_true rfl | (show _ ≤ (0 : Nat); omega))⟩) hP hD hS hA [] [0, 1, 2, 3] rfl rfl rfl (by decide) (fun y1 u_3 H locs hy1 hP hD hS => ?_)
  have hP : va_P G.1 vwCl [(x, .inr (10, [.ref ro, .ref rw, .ref bo, .ref li, .ref sh, .ref tx, .ref lo, .ref nl])), (fm, zaL (G.2 0) 8 (fun _ => 0)), (pm, zaI (G.2 1) 8 (fun _ => 0)), (tx, .inr (8, [.ref fm, .ref pm, .int (iz (0))]))] H := hP
  have hD : va_D A [(x, .inr (10, [.ref ro, .ref rw, .ref bo, .ref li, .ref sh, .ref tx, .ref lo, .ref nl])), (fm, zaL (G.2 0) 8 (fun _ => 0)), (pm, zaI (G.2 1) 8 (fun _ => 0)), (tx, .inr (8, [.ref fm, .ref pm, .int (iz (0))]))] := hD
  have hy1 : y1 = decide ((0 : Int) ≤ fr ∧ fr ≤ (1000000000 : Int)) := hy1
  rw [show y1 = true from hy1.trans (decide_eq_true (by omega))]
  refine zc_v (wr := [(x, .inr (10, [.ref ro, .ref rw, .ref bo, .ref li, .ref sh, .ref tx, .ref lo, .ref nl])), (fm, zaL (G.2 0) 8 (fun _ => 0)), (pm, zaI (G.2 1) 8 (fun _ => 0)), (tx, .inr (8, [.ref fm, .ref pm, .int (iz (0))]))]) (va_runS (As := [.int (iz (zbb true))]) (rest := []) ⟨hx, hb, hml, hown, hts⟩ (c_X9_demand_o l G   H.size) (va_cwS 1 hts gX9_step_X9_demand rfl rfl rfl (by decide +kernel) ⟨Nat.le_of_ble_eq_true rfl, Nat.le_of_ble_eq_true rfl⟩) (zpS hKX hP hD [] rfl rfl) rfl rfl hl.1 rfl (lv_room (Nat.le_of_ble_eq_true rfl)) dX9_step_14 ⟨(by first | exact Nat.le_of_ble_eq_true rfl | (show _ ≤ (0 : Nat); omega)), (by first | exact Nat.le_of_ble_eq_true rfl | (show _ ≤ (0 : Nat); omega))⟩) hP hD hS hA [] [0, 1, 2, 3] rfl rfl rfl (by decide) (fun u_5 H locs hq_8 hP hD hS => ?_)
  have hP : va_P G.1 vwCl [(x, .inr (10, [.ref ro, .ref rw, .ref bo, .ref li, .ref sh, .ref tx, .ref lo, .ref nl])), (fm, zaL (G.2 0) 8 (fun _ => 0)), (pm, zaI (G.2 1) 8 (fun _ => 0)), (tx, .inr (8, [.ref fm, .ref pm, .int (iz (0))]))] H := hP
  have hD : va_D A [(x, .inr (10, [.ref ro, .ref rw, .ref bo, .ref li, .ref sh, .ref tx, .ref lo, .ref nl])), (fm, zaL (G.2 0) 8 (fun _ => 0)), (pm, zaI (G.2 1) 8 (fun _ => 0)), (tx, .inr (8, [.ref fm, .ref pm, .int (iz (0))]))] := hD
  refine lv_iload_n hx hb dX9_step_17 rfl (lv_at hl 2 rfl) ?_
  refine zr_i2l hx hb (x := pl) (⟨by omega, by omega⟩) dX9_step_18 ?_
  refine lv_lconst (v := lz (0)) hx hb dX9_step_19 rfl ?_
  refine zr_ldc2 (z := 1000) hx hb hown (hts (.constantLong RX9 244 (1000)) (by decide +kernel)) rfl dX9_step_20 ?_
  refine zc_z (wr := [(x, .inr (10, [.ref ro, .ref rw, .ref bo, .ref li, .ref sh, .ref tx, .ref lo, .ref nl])), (fm, zaL (G.2 0) 8 (fun _ => 0)), (pm, zaI (G.2 1) 8 (fun _ => 0)), (tx, .inr (8, [.ref fm, .ref pm, .int (iz (0))]))]) (va_runS (As := [.long (lz (pl)), .long (lz (0)), .long (lz (1000))]) (rest := []) ⟨hx, hb, hml, hown, hts⟩ (c_X9_isWithin l G pl 0 1000 (by omega) (by omega) (by omega) H.size) (va_cwS 3 hts gX9_step_X9_isWithin rfl rfl rfl (by decide +kernel) ⟨Nat.le_of_ble_eq_true rfl, Nat.le_of_ble_eq_true rfl⟩) (zpS hKX hP hD [] rfl rfl) rfl rfl hl.1 rfl (lv_room (Nat.le_of_ble_eq_true rfl)) dX9_step_23 ⟨(by first | exact Nat.le_of_ble_eq_true rfl | (show _ ≤ (0 : Nat); omega)), (by first | exact Nat.le_of_ble_eq_true rfl | (show _ ≤ (0 : Nat); omega))⟩) hP hD hS hA [] [0, 1, 2, 3] rfl rfl rfl (by decide) (fun y2 u_9 H locs hy2 hP hD hS => ?_)
  have hP : va_P G.1 vwCl [(x, .inr (10, [.ref ro, .ref rw, .ref bo, .ref li, .ref sh, .ref tx, .ref lo, .ref nl])), (fm, zaL (G.2 0) 8 (fun _ => 0)), (pm, zaI (G.2 1) 8 (fun _ => 0)), (tx, .inr (8, [.ref fm, .ref pm, .int (iz (0))]))] H := hP
  have hD : va_D A [(x, .inr (10, [.ref ro, .ref rw, .ref bo, .ref li, .ref sh, .ref tx, .ref lo, .ref nl])), (fm, zaL (G.2 0) 8 (fun _ => 0)), (pm, zaI (G.2 1) 8 (fun _ => 0)), (tx, .inr (8, [.ref fm, .ref pm, .int (iz (0))]))] := hD
  have hy2 : y2 = decide ((0 : Int) ≤ pl ∧ pl ≤ (1000 : Int)) := hy2
  rw [show y2 = true from hy2.trans (decide_eq_true (by omega))]
  refine zc_v (wr := [(x, .inr (10, [.ref ro, .ref rw, .ref bo, .ref li, .ref sh, .ref tx, .ref lo, .ref nl])), (fm, zaL (G.2 0) 8 (fun _ => 0)), (pm, zaI (G.2 1) 8 (fun _ => 0)), (tx, .inr (8, [.ref fm, .ref pm, .int (iz (0))]))]) (va_runS (As := [.int (iz (zbb true))]) (rest := []) ⟨hx, hb, hml, hown, hts⟩ (c_X9_demand_o l G   H.size) (va_cwS 1 hts gX9_step_X9_demand rfl rfl rfl (by decide +kernel) ⟨Nat.le_of_ble_eq_true rfl, Nat.le_of_ble_eq_true rfl⟩) (zpS hKX hP hD [] rfl rfl) rfl rfl hl.1 rfl (lv_room (Nat.le_of_ble_eq_true rfl)) dX9_step_26 ⟨(by first | exact Nat.le_of_ble_eq_true rfl | (show _ ≤ (0 : Nat); omega)), (by first | exact Nat.le_of_ble_eq_true rfl | (show _ ≤ (0 : Nat); omega))⟩) hP hD hS hA [] [0, 1, 2, 3] rfl rfl rfl (by decide) (fun u_11 H locs hq_14 hP hD hS => ?_)
  have hP : va_P G.1 vwCl [(x, .inr (10, [.ref ro, .ref rw, .ref bo, .ref li, .ref sh, .ref tx, .ref lo, .ref nl])), (fm, zaL (G.2 0) 8 (fun _ => 0)), (pm, zaI (G.2 1) 8 (fun _ => 0)), (tx, .inr (8, [.ref fm, .ref pm, .int (iz (0))]))] H := hP
  have hD : va_D A [(x, .inr (10, [.ref ro, .ref rw, .ref bo, .ref li, .ref sh, .ref tx, .ref lo, .ref nl])), (fm, zaL (G.2 0) 8 (fun _ => 0)), (pm, zaI (G.2 1) 8 (fun _ => 0)), (tx, .inr (8, [.ref fm, .ref pm, .int (iz (0))]))] := hD
  refine lv_aload_n hx hb dX9_step_29 rfl (lv_at hl 0 rfl) ?_
  refine va_get (D := G.1) (ci := 10) (v := .ref tx) (C := RX9) (T := TX9) (N := 8) hx hb hts iwX9 hown hK hP 0 rfl rfl 5 (by decide) (hts (.fieldLink RX9 47 "AnnuityHouse" "taxes" "LAnnuityHouse$Taxes;") (by decide +kernel)) (fun _ h9 => h9) rfl dX9_step_30 ?_
  refine va_get (D := G.1) (ci := 8) (v := .int (iz (0))) (C := RX7) (T := TX7) (N := 3) hx hb hts iwX7 hown hK hP 3 rfl rfl 2 (by decide) (hts (.fieldLink RX9 246 "AnnuityHouse$Taxes" "steps" "I") (by decide +kernel)) (fun _ h9 => h9) rfl dX9_step_33 ?_
  refine lv_bipush (v := iz (8)) hx hb dX9_step_36 rfl ?_
  refine zr_icmp_ge (x := 0) (y := 8) (tgt := 45) hx hb (⟨by omega, by omega⟩) (⟨by omega, by omega⟩) dX9_step_38 (by decide) (fun h_15 => ?_) (fun h_15 => ?_)
  · exact absurd h_15 (by omega)
  ·
    refine lv_iconst (v := iz (1)) hx hb dX9_step_41 rfl ?_
    refine lv_goto (tgt := 46) hx hb dX9_step_42 (by decide) ?_
    refine zc_v (wr := [(x, .inr (10, [.ref ro, .ref rw, .ref bo, .ref li, .ref sh, .ref tx, .ref lo, .ref nl])), (fm, zaL (G.2 0) 8 (fun _ => 0)), (pm, zaI (G.2 1) 8 (fun _ => 0)), (tx, .inr (8, [.ref fm, .ref pm, .int (iz (0))]))]) (va_runS (As := [.int (iz (1))]) (rest := []) ⟨hx, hb, hml, hown, hts⟩ (c_X9_demandState_o l G   H.size) (va_cwS 1 hts gX9_step_X9_demandState rfl rfl rfl (by decide +kernel) ⟨Nat.le_of_ble_eq_true rfl, Nat.le_of_ble_eq_true rfl⟩) (zpS hKX hP hD [] rfl rfl) rfl rfl hl.1 rfl (lv_room (Nat.le_of_ble_eq_true rfl)) dX9_step_46 ⟨(by first | exact Nat.le_of_ble_eq_true rfl | (show _ ≤ (0 : Nat); omega)), (by first | exact Nat.le_of_ble_eq_true rfl | (show _ ≤ (0 : Nat); omega))⟩) hP hD hS hA [] [0, 1, 2, 3] rfl rfl rfl (by decide) (fun u_16 H locs hq_19 hP hD hS => ?_)
    have hP : va_P G.1 vwCl [(x, .inr (10, [.ref ro, .ref rw, .ref bo, .ref li, .ref sh, .ref tx, .ref lo, .ref nl])), (fm, zaL (G.2 0) 8 (fun _ => 0)), (pm, zaI (G.2 1) 8 (fun _ => 0)), (tx, .inr (8, [.ref fm, .ref pm, .int (iz (0))]))] H := hP
    have hD : va_D A [(x, .inr (10, [.ref ro, .ref rw, .ref bo, .ref li, .ref sh, .ref tx, .ref lo, .ref nl])), (fm, zaL (G.2 0) 8 (fun _ => 0)), (pm, zaI (G.2 1) 8 (fun _ => 0)), (tx, .inr (8, [.ref fm, .ref pm, .int (iz (0))]))] := hD
    refine lv_aload_n hx hb dX9_step_49 rfl (lv_at hl 0 rfl) ?_
    refine va_get (D := G.1) (ci := 10) (v := .ref tx) (C := RX9) (T := TX9) (N := 8) hx hb hts iwX9 hown hK hP 0 rfl rfl 5 (by decide) (hts (.fieldLink RX9 47 "AnnuityHouse" "taxes" "LAnnuityHouse$Taxes;") (by decide +kernel)) (fun _ h9 => h9) rfl dX9_step_50 ?_
    refine lv_lload_n hx hb dX9_step_53 rfl (lv_at hl 1 rfl) ?_
    refine lv_iload_n hx hb dX9_step_54 rfl (lv_at hl 2 rfl) ?_
    refine zc_i (wr := [(x, .inr (10, [.ref ro, .ref rw, .ref bo, .ref li, .ref sh, .ref tx, .ref lo, .ref nl]))]) (va_runV (As := [.long (lz (fr)), .int (iz (pl))]) (rest := []) ⟨hx, hb, hml, hown, hts⟩ (c_X7_add l G tx fm pm fr pl  H.size) (cwV 2 hts gX9_step_X7_add rfl rfl rfl (by decide +kernel) ⟨Nat.le_of_ble_eq_true rfl, Nat.le_of_ble_eq_true rfl⟩) (zpV hKX hP hD [3, 1, 2] rfl rfl 3 8 rfl rfl) rfl rfl hl.1 rfl (lv_room (Nat.le_of_ble_eq_true rfl)) dX9_step_55 ⟨(by first | exact Nat.le_of_ble_eq_true rfl | (show _ ≤ (0 : Nat); omega)), (by first | exact Nat.le_of_ble_eq_true rfl | (show _ ≤ (0 : Nat); omega))⟩) hP hD hS hA [3, 1, 2] [0] rfl rfl rfl (by decide) (fun zz u_20 H locs hz hP hD hS => ?_)
    obtain ⟨f2, g2⟩ := u_20
    have hP : va_P G.1 vwCl [(x, .inr (10, [.ref ro, .ref rw, .ref bo, .ref li, .ref sh, .ref tx, .ref lo, .ref nl])), (tx, .inr (8, [.ref fm, .ref pm, .int (iz (0 + 1))])), (fm, zaL (G.2 0) 8 (f2)), (pm, zaI (G.2 1) 8 (g2))] H := hP
    have hD : va_D A [(x, .inr (10, [.ref ro, .ref rw, .ref bo, .ref li, .ref sh, .ref tx, .ref lo, .ref nl])), (tx, .inr (8, [.ref fm, .ref pm, .int (iz (0 + 1))])), (fm, zaL (G.2 0) 8 (f2)), (pm, zaI (G.2 1) 8 (g2))] := hD
    have hz : zz = 1 := hz
    rw [hQ]
    exact zr_iret (z := zz) (u := (f2, g2)) hx hb hr hlocks hP hD hS (by first | exact Nat.le_of_ble_eq_true rfl | omega) (by first | exact Nat.le_of_ble_eq_true rfl | omega) dX9_step_58 (show zz = 1 from hz)

def rm_c_X9_step_x : Room := { frames := 7, cells := 1, slots := 6, locals := 110 }
set_option maxHeartbeats 1000000 in
set_option maxRecDepth 100000 in
theorem c_X9_step_x (l : Launch) (G : zG) (s1 : Nat) (s2 : Nat) (s3 : Nat) (x : Nat) (ro : Nat) (rw : Nat) (bo : Nat) (li : Nat) (sh : Nat) (tx : Nat) (lo : Nat) (nl : Nat) (fm : Nat) (pm : Nat) (fr : Int) (pl : Int) (hl0 : l.stackTraces = false) (h0 : -9223372036854775808 ≤ fr ∧ fr < 9223372036854775808) (h01 : -2147483648 ≤ pl ∧ pl < 2147483648) (h1 : ¬ (0 ≤ fr ∧ fr ≤ 1000000000 ∧ 0 ≤ pl ∧ pl ≤ 1000)) : zMx l (zXE s1 s2 s3) G yX9_step wsX9_step rm_c_X9_step_x [.ref x, .long (lz (fr)), .int (iz (pl))] [(x, .inr (10, [.ref ro, .ref rw, .ref bo, .ref li, .ref sh, .ref tx, .ref lo, .ref nl])), (tx, .inr (8, [.ref fm, .ref pm, .int (iz (0))]))] "java/lang/IllegalArgumentException" 1 6 := by
  refine zMx_of (cc := cX9_step) (maxL := 4) (ret := (some .int)) (by decide) rfl (Nat.le_of_ble_eq_true rfl) ?_
  intro p e s m below meth c ls A Q hQ hx hb hr hts hown hlocks hml hout hKX hE hP hD hA hS hl
  have hK := hKX.1
  have iwX9 := iw_X9_step_X9
  obtain ⟨H, hH⟩ : ∃ h, h = s.heap := ⟨_, rfl⟩
  obtain ⟨locs, hlo⟩ : ∃ h : List Loc, h = [] := ⟨_, rfl⟩
  have hS : va_S A s.heap H locs := by rw [hH, hlo]; exact hS
  have hP : va_P G.1 vwCl [(x, .inr (10, [.ref ro, .ref rw, .ref bo, .ref li, .ref sh, .ref tx, .ref lo, .ref nl])), (tx, .inr (8, [.ref fm, .ref pm, .int (iz (0))]))] H := by rw [hH]; exact hP
  have hD : va_D A [(x, .inr (10, [.ref ro, .ref rw, .ref bo, .ref li, .ref sh, .ref tx, .ref lo, .ref nl])), (tx, .inr (8, [.ref fm, .ref pm, .int (iz (0))]))] := hD
  have hl : lv_has ls 4 [(0, .ref x), (1, .long (lz (fr))), (3, .int (iz (pl)))] := hl
  rw [← hH, ← hlo]
  refine lv_lload_n hx hb dX9_step_0 rfl (lv_at hl 1 rfl) ?_
  refine lv_aload_n hx hb dX9_step_1 rfl (lv_at hl 0 rfl) ?_
  refine va_get (D := G.1) (ci := 10) (v := .ref tx) (C := RX9) (T := TX9) (N := 8) hx hb hts iwX9 hown hK hP 0 rfl rfl 5 (by decide) (hts (.fieldLink RX9 47 "AnnuityHouse" "taxes" "LAnnuityHouse$Taxes;") (by decide +kernel)) (fun _ h9 => h9) rfl dX9_step_2 ?_
  refine zc_l (wr := [(x, .inr (10, [.ref ro, .ref rw, .ref bo, .ref li, .ref sh, .ref tx, .ref lo, .ref nl]))]) (va_runV (As := []) (rest := [.long (lz (fr))]) ⟨hx, hb, hml, hown, hts⟩ (c_X7_leastNextFrom l G tx fm pm  H.size) (cwV 0 hts gX9_step_X7_leastNextFrom rfl rfl rfl (by decide +kernel) ⟨Nat.le_of_ble_eq_true rfl, Nat.le_of_ble_eq_true rfl⟩) (zpV hKX hP hD [1] rfl rfl 1 8 rfl rfl) rfl rfl hl.1 rfl (lv_room (Nat.le_of_ble_eq_true rfl)) dX9_step_5 ⟨(by first | exact Nat.le_of_ble_eq_true rfl | (show _ ≤ (1 : Nat); omega)), (by first | exact Nat.le_of_ble_eq_true rfl | (show _ ≤ (6 : Nat); omega))⟩) hP hD hS hA [1] [0] rfl rfl rfl (by decide) (fun ln u_1 H locs hln hP hD hS => ?_)
  have hP : va_P G.1 vwCl [(x, .inr (10, [.ref ro, .ref rw, .ref bo, .ref li, .ref sh, .ref tx, .ref lo, .ref nl])), (tx, .inr (8, [.ref fm, .ref pm, .int (iz (0))]))] H := hP
  have hD : va_D A [(x, .inr (10, [.ref ro, .ref rw, .ref bo, .ref li, .ref sh, .ref tx, .ref lo, .ref nl])), (tx, .inr (8, [.ref fm, .ref pm, .int (iz (0))]))] := hD
  have hln : ln = 0 := hln
  rw [show ln = 0 from hln]
  refine zr_ldc2 (z := 1000000000) hx hb hown (hts (.constantLong RX9 91 (1000000000)) (by decide +kernel)) rfl dX9_step_8 ?_
  refine zc_z (wr := [(x, .inr (10, [.ref ro, .ref rw, .ref bo, .ref li, .ref sh, .ref tx, .ref lo, .ref nl])), (tx, .inr (8, [.ref fm, .ref pm, .int (iz (0))]))]) (va_runS (As := [.long (lz (fr)), .long (lz (0)), .long (lz (1000000000))]) (rest := []) ⟨hx, hb, hml, hown, hts⟩ (c_X9_isWithin l G fr 0 1000000000 (by omega) (by omega) (by omega) H.size) (va_cwS 3 hts gX9_step_X9_isWithin rfl rfl rfl (by decide +kernel) ⟨Nat.le_of_ble_eq_true rfl, Nat.le_of_ble_eq_true rfl⟩) (zpS hKX hP hD [] rfl rfl) rfl rfl hl.1 rfl (lv_room (Nat.le_of_ble_eq_true rfl)) dX9_step_11 ⟨(by first | exact Nat.le_of_ble_eq_true rfl | (show _ ≤ (1 : Nat); omega)), (by first | exact Nat.le_of_ble_eq_true rfl | (show _ ≤ (6 : Nat); omega))⟩) hP hD hS hA [] [0, 1] rfl rfl rfl (by decide) (fun y1 u_3 H locs hy1 hP hD hS => ?_)
  have hP : va_P G.1 vwCl [(x, .inr (10, [.ref ro, .ref rw, .ref bo, .ref li, .ref sh, .ref tx, .ref lo, .ref nl])), (tx, .inr (8, [.ref fm, .ref pm, .int (iz (0))]))] H := hP
  have hD : va_D A [(x, .inr (10, [.ref ro, .ref rw, .ref bo, .ref li, .ref sh, .ref tx, .ref lo, .ref nl])), (tx, .inr (8, [.ref fm, .ref pm, .int (iz (0))]))] := hD
  have hy1 : y1 = decide ((0 : Int) ≤ fr ∧ fr ≤ (1000000000 : Int)) := hy1
  rcases Bool.eq_false_or_eq_true y1 with hbt_y1 | hbt_y1
  ·
    rw [hbt_y1]
    have hzy1 := of_decide_eq_true (hy1.symm.trans hbt_y1)
    refine zc_v (wr := [(x, .inr (10, [.ref ro, .ref rw, .ref bo, .ref li, .ref sh, .ref tx, .ref lo, .ref nl])), (tx, .inr (8, [.ref fm, .ref pm, .int (iz (0))]))]) (va_runS (As := [.int (iz (zbb true))]) (rest := []) ⟨hx, hb, hml, hown, hts⟩ (c_X9_demand_o l G   H.size) (va_cwS 1 hts gX9_step_X9_demand rfl rfl rfl (by decide +kernel) ⟨Nat.le_of_ble_eq_true rfl, Nat.le_of_ble_eq_true rfl⟩) (zpS hKX hP hD [] rfl rfl) rfl rfl hl.1 rfl (lv_room (Nat.le_of_ble_eq_true rfl)) dX9_step_14 ⟨(by first | exact Nat.le_of_ble_eq_true rfl | (show _ ≤ (1 : Nat); omega)), (by first | exact Nat.le_of_ble_eq_true rfl | (show _ ≤ (6 : Nat); omega))⟩) hP hD hS hA [] [0, 1] rfl rfl rfl (by decide) (fun u_5 H locs hq_8 hP hD hS => ?_)
    have hP : va_P G.1 vwCl [(x, .inr (10, [.ref ro, .ref rw, .ref bo, .ref li, .ref sh, .ref tx, .ref lo, .ref nl])), (tx, .inr (8, [.ref fm, .ref pm, .int (iz (0))]))] H := hP
    have hD : va_D A [(x, .inr (10, [.ref ro, .ref rw, .ref bo, .ref li, .ref sh, .ref tx, .ref lo, .ref nl])), (tx, .inr (8, [.ref fm, .ref pm, .int (iz (0))]))] := hD
    refine lv_iload_n hx hb dX9_step_17 rfl (lv_at hl 2 rfl) ?_
    refine zr_i2l hx hb (x := pl) (⟨by omega, by omega⟩) dX9_step_18 ?_
    refine lv_lconst (v := lz (0)) hx hb dX9_step_19 rfl ?_
    refine zr_ldc2 (z := 1000) hx hb hown (hts (.constantLong RX9 244 (1000)) (by decide +kernel)) rfl dX9_step_20 ?_
    refine zc_z (wr := [(x, .inr (10, [.ref ro, .ref rw, .ref bo, .ref li, .ref sh, .ref tx, .ref lo, .ref nl])), (tx, .inr (8, [.ref fm, .ref pm, .int (iz (0))]))]) (va_runS (As := [.long (lz (pl)), .long (lz (0)), .long (lz (1000))]) (rest := []) ⟨hx, hb, hml, hown, hts⟩ (c_X9_isWithin l G pl 0 1000 (by omega) (by omega) (by omega) H.size) (va_cwS 3 hts gX9_step_X9_isWithin rfl rfl rfl (by decide +kernel) ⟨Nat.le_of_ble_eq_true rfl, Nat.le_of_ble_eq_true rfl⟩) (zpS hKX hP hD [] rfl rfl) rfl rfl hl.1 rfl (lv_room (Nat.le_of_ble_eq_true rfl)) dX9_step_23 ⟨(by first | exact Nat.le_of_ble_eq_true rfl | (show _ ≤ (1 : Nat); omega)), (by first | exact Nat.le_of_ble_eq_true rfl | (show _ ≤ (6 : Nat); omega))⟩) hP hD hS hA [] [0, 1] rfl rfl rfl (by decide) (fun y2 u_9 H locs hy2 hP hD hS => ?_)
    have hP : va_P G.1 vwCl [(x, .inr (10, [.ref ro, .ref rw, .ref bo, .ref li, .ref sh, .ref tx, .ref lo, .ref nl])), (tx, .inr (8, [.ref fm, .ref pm, .int (iz (0))]))] H := hP
    have hD : va_D A [(x, .inr (10, [.ref ro, .ref rw, .ref bo, .ref li, .ref sh, .ref tx, .ref lo, .ref nl])), (tx, .inr (8, [.ref fm, .ref pm, .int (iz (0))]))] := hD
    have hy2 : y2 = decide ((0 : Int) ≤ pl ∧ pl ≤ (1000 : Int)) := hy2
    rcases Bool.eq_false_or_eq_true y2 with hbt_y2 | hbt_y2
    ·
      rw [hbt_y2]
      have hzy2 := of_decide_eq_true (hy2.symm.trans hbt_y2)
      refine zc_v (wr := [(x, .inr (10, [.ref ro, .ref rw, .ref bo, .ref li, .ref sh, .ref tx, .ref lo, .ref nl])), (tx, .inr (8, [.ref fm, .ref pm, .int (iz (0))]))]) (va_runS (As := [.int (iz (zbb true))]) (rest := []) ⟨hx, hb, hml, hown, hts⟩ (c_X9_demand_o l G   H.size) (va_cwS 1 hts gX9_step_X9_demand rfl rfl rfl (by decide +kernel) ⟨Nat.le_of_ble_eq_true rfl, Nat.le_of_ble_eq_true rfl⟩) (zpS hKX hP hD [] rfl rfl) rfl rfl hl.1 rfl (lv_room (Nat.le_of_ble_eq_true rfl)) dX9_step_26 ⟨(by first | exact Nat.le_of_ble_eq_true rfl | (show _ ≤ (1 : Nat); omega)), (by first | exact Nat.le_of_ble_eq_true rfl | (show _ ≤ (6 : Nat); omega))⟩) hP hD hS hA [] [0, 1] rfl rfl rfl (by decide) (fun u_11 H locs hq_14 hP hD hS => ?_)
      have hP : va_P G.1 vwCl [(x, .inr (10, [.ref ro, .ref rw, .ref bo, .ref li, .ref sh, .ref tx, .ref lo, .ref nl])), (tx, .inr (8, [.ref fm, .ref pm, .int (iz (0))]))] H := hP
      have hD : va_D A [(x, .inr (10, [.ref ro, .ref rw, .ref bo, .ref li, .ref sh, .ref tx, .ref lo, .ref nl])), (tx, .inr (8, [.ref fm, .ref pm, .int (iz (0))]))] := hD
      exact absurd h1 (by omega)
    ·
      rw [hbt_y2]
      have hzy2 := of_decide_eq_false (hy2.symm.trans hbt_y2)
      rw [hQ]
      exact zx_thr (X := "java/lang/IllegalArgumentException") (vx_runS (As := [.int (iz (zbb false))]) (rest := []) ⟨hx, hb, hml, hown, hts⟩ (c_X9_demand_x l G s1 s2 s3 hl0 H.size) (va_cwS 1 hts gX9_step_X9_demand rfl rfl rfl (by decide +kernel) ⟨Nat.le_of_ble_eq_true rfl, Nat.le_of_ble_eq_true rfl⟩) (zpSe zXE_ok hE hS hA hKX hP hD [] rfl rfl) rfl rfl hl.1 rfl (lv_room (Nat.le_of_ble_eq_true rfl)) dX9_step_26 ⟨(by first | exact Nat.le_of_ble_eq_true rfl | (show _ ≤ (1 : Nat); omega)), (by first | exact Nat.le_of_ble_eq_true rfl | (show _ ≤ (6 : Nat); omega))⟩) hS (va_free (wc := []) hD hS hA [] rfl) hout hlocks (by first | exact Nat.le_of_ble_eq_true rfl | omega) (by first | exact Nat.le_of_ble_eq_true rfl | omega)
  ·
    rw [hbt_y1]
    have hzy1 := of_decide_eq_false (hy1.symm.trans hbt_y1)
    rw [hQ]
    exact zx_thr (X := "java/lang/IllegalArgumentException") (vx_runS (As := [.int (iz (zbb false))]) (rest := []) ⟨hx, hb, hml, hown, hts⟩ (c_X9_demand_x l G s1 s2 s3 hl0 H.size) (va_cwS 1 hts gX9_step_X9_demand rfl rfl rfl (by decide +kernel) ⟨Nat.le_of_ble_eq_true rfl, Nat.le_of_ble_eq_true rfl⟩) (zpSe zXE_ok hE hS hA hKX hP hD [] rfl rfl) rfl rfl hl.1 rfl (lv_room (Nat.le_of_ble_eq_true rfl)) dX9_step_14 ⟨(by first | exact Nat.le_of_ble_eq_true rfl | (show _ ≤ (1 : Nat); omega)), (by first | exact Nat.le_of_ble_eq_true rfl | (show _ ≤ (6 : Nat); omega))⟩) hS (va_free (wc := []) hD hS hA [] rfl) hout hlocks (by first | exact Nat.le_of_ble_eq_true rfl | omega) (by first | exact Nat.le_of_ble_eq_true rfl | omega)

def rm_c_X9_clearSteps : Room := { frames := 1, cells := 0, slots := 0, locals := 21 }
theorem iw_X9_clearSteps_X9 : ∀ w ∈ wsX90, w ∈ wsX9_clearSteps := by decide +kernel
set_option maxHeartbeats 1000000 in
set_option maxRecDepth 100000 in
theorem c_X9_clearSteps (l : Launch) (G : zG) (x : Nat) (ro : Nat) (rw : Nat) (bo : Nat) (li : Nat) (sh : Nat) (tx : Nat) (lo : Nat) (nl : Nat) (fm : Nat) (pm : Nat)  : zM l G yX9_clearSteps wsX9_clearSteps rm_c_X9_clearSteps [.ref x] [(x, .inr (10, [.ref ro, .ref rw, .ref bo, .ref li, .ref sh, .ref tx, .ref lo, .ref nl])), (tx, .inr (8, [.ref fm, .ref pm, .int (iz (0))]))] (fun A => zQi G (fun (z : Int) (_ : Unit) => z = 0) (fun (_ : Unit) => [(x, .inr (10, [.ref ro, .ref rw, .ref bo, .ref li, .ref sh, .ref tx, .ref lo, .ref nl])), (tx, .inr (8, [.ref fm, .ref pm, .int (iz (0))]))]) A) 0 0 := by
  refine zM_of (cc := cX9_clearSteps) (maxL := 1) (ret := (some .int)) (by decide) rfl (Nat.le_of_ble_eq_true rfl) ?_
  intro p e s m below meth c ls A Q hQ hx hb hr hts hown hlocks hml hnm hKX hP hD hA hS hl
  have hK := hKX.1
  have iwX9 := iw_X9_clearSteps_X9
  obtain ⟨H, hH⟩ : ∃ h, h = s.heap := ⟨_, rfl⟩
  obtain ⟨locs, hlo⟩ : ∃ h : List Loc, h = [] := ⟨_, rfl⟩
  have hS : va_S A s.heap H locs := by rw [hH, hlo]; exact hS
  have hP : va_P G.1 vwCl [(x, .inr (10, [.ref ro, .ref rw, .ref bo, .ref li, .ref sh, .ref tx, .ref lo, .ref nl])), (tx, .inr (8, [.ref fm, .ref pm, .int (iz (0))]))] H := by rw [hH]; exact hP
  have hD : va_D A [(x, .inr (10, [.ref ro, .ref rw, .ref bo, .ref li, .ref sh, .ref tx, .ref lo, .ref nl])), (tx, .inr (8, [.ref fm, .ref pm, .int (iz (0))]))] := hD
  have hl : lv_has ls 1 [(0, .ref x)] := hl
  rw [← hH, ← hlo]
  refine lv_aload_n hx hb dX9_clearSteps_0 rfl (lv_at hl 0 rfl) ?_
  refine va_get (D := G.1) (ci := 10) (v := .ref tx) (C := RX9) (T := TX9) (N := 8) hx hb hts iwX9 hown hK hP 0 rfl rfl 5 (by decide) (hts (.fieldLink RX9 47 "AnnuityHouse" "taxes" "LAnnuityHouse$Taxes;") (by decide +kernel)) (fun _ h9 => h9) rfl dX9_clearSteps_1 ?_
  refine zc_i (wr := [(x, .inr (10, [.ref ro, .ref rw, .ref bo, .ref li, .ref sh, .ref tx, .ref lo, .ref nl]))]) (va_runV (As := []) (rest := []) ⟨hx, hb, hml, hown, hts⟩ (c_X7_clear l G tx fm pm  H.size) (cwV 0 hts gX9_clearSteps_X7_clear rfl rfl rfl (by decide +kernel) ⟨Nat.le_of_ble_eq_true rfl, Nat.le_of_ble_eq_true rfl⟩) (zpV hKX hP hD [1] rfl rfl 1 8 rfl rfl) rfl rfl hl.1 rfl (lv_room (Nat.le_of_ble_eq_true rfl)) dX9_clearSteps_4 ⟨(by first | exact Nat.le_of_ble_eq_true rfl | (show _ ≤ (0 : Nat); omega)), (by first | exact Nat.le_of_ble_eq_true rfl | (show _ ≤ (0 : Nat); omega))⟩) hP hD hS hA [1] [0] rfl rfl rfl (by decide) (fun zz u_1 H locs hz hP hD hS => ?_)
  have hP : va_P G.1 vwCl [(x, .inr (10, [.ref ro, .ref rw, .ref bo, .ref li, .ref sh, .ref tx, .ref lo, .ref nl])), (tx, .inr (8, [.ref fm, .ref pm, .int (iz (0))]))] H := hP
  have hD : va_D A [(x, .inr (10, [.ref ro, .ref rw, .ref bo, .ref li, .ref sh, .ref tx, .ref lo, .ref nl])), (tx, .inr (8, [.ref fm, .ref pm, .int (iz (0))]))] := hD
  have hz : zz = 0 := hz
  rw [hQ]
  exact zr_iret (z := zz) (u := ()) hx hb hr hlocks hP hD hS (by first | exact Nat.le_of_ble_eq_true rfl | omega) (by first | exact Nat.le_of_ble_eq_true rfl | omega) dX9_clearSteps_7 (show zz = 0 from hz)

def rm_c_X9_tax_o : Room := { frames := 3, cells := 0, slots := 0, locals := 79 }
theorem iw_X9_tax_X9 : ∀ w ∈ wsX90, w ∈ wsX9_tax := by decide +kernel
set_option maxHeartbeats 1000000 in
set_option maxRecDepth 100000 in
theorem c_X9_tax_o (l : Launch) (G : zG) (x : Nat) (ro : Nat) (rw : Nat) (bo : Nat) (li : Nat) (sh : Nat) (tx : Nat) (lo : Nat) (nl : Nat) (fm : Nat) (pm : Nat) (mo : Int) (h0 : -9223372036854775808 ≤ mo ∧ mo < 9223372036854775808) (h1 : 0 ≤ mo ∧ mo ≤ 1000000000000) : zM l G yX9_tax wsX9_tax rm_c_X9_tax_o [.ref x, .long (lz (mo))] [(x, .inr (10, [.ref ro, .ref rw, .ref bo, .ref li, .ref sh, .ref tx, .ref lo, .ref nl])), (tx, .inr (8, [.ref fm, .ref pm, .int (iz (0))])), (ro, .inr (5, [.int (iz (6))]))] (fun A => zQl G (fun (z : Int) (_ : Unit) => z = 0) (fun (_ : Unit) => [(x, .inr (10, [.ref ro, .ref rw, .ref bo, .ref li, .ref sh, .ref tx, .ref lo, .ref nl])), (tx, .inr (8, [.ref fm, .ref pm, .int (iz (0))])), (ro, .inr (5, [.int (iz (6))]))]) A) 0 0 := by
  refine zM_of (cc := cX9_tax) (maxL := 3) (ret := (some .long)) (by decide) rfl (Nat.le_of_ble_eq_true rfl) ?_
  intro p e s m below meth c ls A Q hQ hx hb hr hts hown hlocks hml hnm hKX hP hD hA hS hl
  have hK := hKX.1
  have iwX9 := iw_X9_tax_X9
  obtain ⟨H, hH⟩ : ∃ h, h = s.heap := ⟨_, rfl⟩
  obtain ⟨locs, hlo⟩ : ∃ h : List Loc, h = [] := ⟨_, rfl⟩
  have hS : va_S A s.heap H locs := by rw [hH, hlo]; exact hS
  have hP : va_P G.1 vwCl [(x, .inr (10, [.ref ro, .ref rw, .ref bo, .ref li, .ref sh, .ref tx, .ref lo, .ref nl])), (tx, .inr (8, [.ref fm, .ref pm, .int (iz (0))])), (ro, .inr (5, [.int (iz (6))]))] H := by rw [hH]; exact hP
  have hD : va_D A [(x, .inr (10, [.ref ro, .ref rw, .ref bo, .ref li, .ref sh, .ref tx, .ref lo, .ref nl])), (tx, .inr (8, [.ref fm, .ref pm, .int (iz (0))])), (ro, .inr (5, [.int (iz (6))]))] := hD
  have hl : lv_has ls 3 [(0, .ref x), (1, .long (lz (mo)))] := hl
  rw [← hH, ← hlo]
  refine lv_lload_n hx hb dX9_tax_0 rfl (lv_at hl 1 rfl) ?_
  refine lv_lconst (v := lz (0)) hx hb dX9_tax_1 rfl ?_
  refine zr_ldc2 (z := 1000000000000) hx hb hown (hts (.constantLong RX9 77 (1000000000000)) (by decide +kernel)) rfl dX9_tax_2 ?_
  refine zc_z (wr := [(x, .inr (10, [.ref ro, .ref rw, .ref bo, .ref li, .ref sh, .ref tx, .ref lo, .ref nl])), (tx, .inr (8, [.ref fm, .ref pm, .int (iz (0))])), (ro, .inr (5, [.int (iz (6))]))]) (va_runS (As := [.long (lz (mo)), .long (lz (0)), .long (lz (1000000000000))]) (rest := []) ⟨hx, hb, hml, hown, hts⟩ (c_X9_isWithin l G mo 0 1000000000000 (by omega) (by omega) (by omega) H.size) (va_cwS 3 hts gX9_tax_X9_isWithin rfl rfl rfl (by decide +kernel) ⟨Nat.le_of_ble_eq_true rfl, Nat.le_of_ble_eq_true rfl⟩) (zpS hKX hP hD [] rfl rfl) rfl rfl hl.1 rfl (lv_room (Nat.le_of_ble_eq_true rfl)) dX9_tax_5 ⟨(by first | exact Nat.le_of_ble_eq_true rfl | (show _ ≤ (0 : Nat); omega)), (by first | exact Nat.le_of_ble_eq_true rfl | (show _ ≤ (0 : Nat); omega))⟩) hP hD hS hA [] [0, 1, 2] rfl rfl rfl (by decide) (fun y1 u_1 H locs hy1 hP hD hS => ?_)
  have hP : va_P G.1 vwCl [(x, .inr (10, [.ref ro, .ref rw, .ref bo, .ref li, .ref sh, .ref tx, .ref lo, .ref nl])), (tx, .inr (8, [.ref fm, .ref pm, .int (iz (0))])), (ro, .inr (5, [.int (iz (6))]))] H := hP
  have hD : va_D A [(x, .inr (10, [.ref ro, .ref rw, .ref bo, .ref li, .ref sh, .ref tx, .ref lo, .ref nl])), (tx, .inr (8, [.ref fm, .ref pm, .int (iz (0))])), (ro, .inr (5, [.int (iz (6))]))] := hD
  have hy1 : y1 = decide ((0 : Int) ≤ mo ∧ mo ≤ (1000000000000 : Int)) := hy1
  rw [show y1 = true from hy1.trans (decide_eq_true (by omega))]
  refine zc_v (wr := [(x, .inr (10, [.ref ro, .ref rw, .ref bo, .ref li, .ref sh, .ref tx, .ref lo, .ref nl])), (tx, .inr (8, [.ref fm, .ref pm, .int (iz (0))])), (ro, .inr (5, [.int (iz (6))]))]) (va_runS (As := [.int (iz (zbb true))]) (rest := []) ⟨hx, hb, hml, hown, hts⟩ (c_X9_demand_o l G   H.size) (va_cwS 1 hts gX9_tax_X9_demand rfl rfl rfl (by decide +kernel) ⟨Nat.le_of_ble_eq_true rfl, Nat.le_of_ble_eq_true rfl⟩) (zpS hKX hP hD [] rfl rfl) rfl rfl hl.1 rfl (lv_room (Nat.le_of_ble_eq_true rfl)) dX9_tax_8 ⟨(by first | exact Nat.le_of_ble_eq_true rfl | (show _ ≤ (0 : Nat); omega)), (by first | exact Nat.le_of_ble_eq_true rfl | (show _ ≤ (0 : Nat); omega))⟩) hP hD hS hA [] [0, 1, 2] rfl rfl rfl (by decide) (fun u_3 H locs hq_6 hP hD hS => ?_)
  have hP : va_P G.1 vwCl [(x, .inr (10, [.ref ro, .ref rw, .ref bo, .ref li, .ref sh, .ref tx, .ref lo, .ref nl])), (tx, .inr (8, [.ref fm, .ref pm, .int (iz (0))])), (ro, .inr (5, [.int (iz (6))]))] H := hP
  have hD : va_D A [(x, .inr (10, [.ref ro, .ref rw, .ref bo, .ref li, .ref sh, .ref tx, .ref lo, .ref nl])), (tx, .inr (8, [.ref fm, .ref pm, .int (iz (0))])), (ro, .inr (5, [.int (iz (6))]))] := hD
  refine lv_aload_n hx hb dX9_tax_11 rfl (lv_at hl 0 rfl) ?_
  refine va_get (D := G.1) (ci := 10) (v := .ref ro) (C := RX9) (T := TX9) (N := 8) hx hb hts iwX9 hown hK hP 0 rfl rfl 0 (by decide) (hts (.fieldLink RX9 10 "AnnuityHouse" "rounder" "LAnnuityHouse$Rounder;") (by decide +kernel)) (fun _ h9 => h9) rfl dX9_tax_12 ?_
  refine lv_aload_n hx hb dX9_tax_15 rfl (lv_at hl 0 rfl) ?_
  refine va_get (D := G.1) (ci := 10) (v := .ref tx) (C := RX9) (T := TX9) (N := 8) hx hb hts iwX9 hown hK hP 0 rfl rfl 5 (by decide) (hts (.fieldLink RX9 47 "AnnuityHouse" "taxes" "LAnnuityHouse$Taxes;") (by decide +kernel)) (fun _ h9 => h9) rfl dX9_tax_16 ?_
  refine lv_lload_n hx hb dX9_tax_19 rfl (lv_at hl 1 rfl) ?_
  refine zc_l (wr := [(x, .inr (10, [.ref ro, .ref rw, .ref bo, .ref li, .ref sh, .ref tx, .ref lo, .ref nl])), (ro, .inr (5, [.int (iz (6))]))]) (va_runV (As := [.long (lz (mo))]) (rest := [.ref ro]) ⟨hx, hb, hml, hown, hts⟩ (c_X7_thousandfoldOf l G tx fm pm mo  H.size) (cwV 1 hts gX9_tax_X7_thousandfoldOf rfl rfl rfl (by decide +kernel) ⟨Nat.le_of_ble_eq_true rfl, Nat.le_of_ble_eq_true rfl⟩) (zpV hKX hP hD [1] rfl rfl 1 8 rfl rfl) rfl rfl hl.1 rfl (lv_room (Nat.le_of_ble_eq_true rfl)) dX9_tax_20 ⟨(by first | exact Nat.le_of_ble_eq_true rfl | (show _ ≤ (0 : Nat); omega)), (by first | exact Nat.le_of_ble_eq_true rfl | (show _ ≤ (0 : Nat); omega))⟩) hP hD hS hA [1] [0, 2] rfl rfl rfl (by decide) (fun tf u_7 H locs htf hP hD hS => ?_)
  have hP : va_P G.1 vwCl [(x, .inr (10, [.ref ro, .ref rw, .ref bo, .ref li, .ref sh, .ref tx, .ref lo, .ref nl])), (ro, .inr (5, [.int (iz (6))])), (tx, .inr (8, [.ref fm, .ref pm, .int (iz (0))]))] H := hP
  have hD : va_D A [(x, .inr (10, [.ref ro, .ref rw, .ref bo, .ref li, .ref sh, .ref tx, .ref lo, .ref nl])), (ro, .inr (5, [.int (iz (6))])), (tx, .inr (8, [.ref fm, .ref pm, .int (iz (0))]))] := hD
  have htf : tf = 0 := htf
  refine zr_ldc2 (z := 1000) hx hb hown (hts (.constantLong RX9 244 (1000)) (by decide +kernel)) rfl dX9_tax_23 ?_
  refine zc_l (wr := [(x, .inr (10, [.ref ro, .ref rw, .ref bo, .ref li, .ref sh, .ref tx, .ref lo, .ref nl])), (tx, .inr (8, [.ref fm, .ref pm, .int (iz (0))]))]) (va_runV (As := [.long (lz (tf)), .long (lz (1000))]) (rest := []) ⟨hx, hb, hml, hown, hts⟩ (c_X4_ratio l G ro tf 1000 (by omega) (by omega) H.size) (cwV 2 hts gX9_tax_X4_ratio rfl rfl rfl (by decide +kernel) ⟨Nat.le_of_ble_eq_true rfl, Nat.le_of_ble_eq_true rfl⟩) (zpV hKX hP hD [1] rfl rfl 1 5 rfl rfl) rfl rfl hl.1 rfl (lv_room (Nat.le_of_ble_eq_true rfl)) dX9_tax_26 ⟨(by first | exact Nat.le_of_ble_eq_true rfl | (show _ ≤ (0 : Nat); omega)), (by first | exact Nat.le_of_ble_eq_true rfl | (show _ ≤ (0 : Nat); omega))⟩) hP hD hS hA [1] [0, 2] rfl rfl rfl (by decide) (fun zz u_9 H locs hz hP hD hS => ?_)
  have hP : va_P G.1 vwCl [(x, .inr (10, [.ref ro, .ref rw, .ref bo, .ref li, .ref sh, .ref tx, .ref lo, .ref nl])), (tx, .inr (8, [.ref fm, .ref pm, .int (iz (0))])), (ro, .inr (5, [.int (iz (6))]))] H := hP
  have hD : va_D A [(x, .inr (10, [.ref ro, .ref rw, .ref bo, .ref li, .ref sh, .ref tx, .ref lo, .ref nl])), (tx, .inr (8, [.ref fm, .ref pm, .int (iz (0))])), (ro, .inr (5, [.int (iz (6))]))] := hD
  have hz : zz = zr6 tf (1000 : Int) := hz
  rw [hQ]
  exact zr_lret (z := zz) (u := ()) hx hb hr hlocks hP hD hS (by first | exact Nat.le_of_ble_eq_true rfl | omega) (by first | exact Nat.le_of_ble_eq_true rfl | omega) dX9_tax_29 (show zz = 0 from by rw [hz, htf]; decide +kernel)

def rm_c_X9_tax_x : Room := { frames := 7, cells := 1, slots := 6, locals := 110 }
set_option maxHeartbeats 1000000 in
set_option maxRecDepth 100000 in
theorem c_X9_tax_x (l : Launch) (G : zG) (s1 : Nat) (s2 : Nat) (s3 : Nat) (x : Nat) (ro : Nat) (rw : Nat) (bo : Nat) (li : Nat) (sh : Nat) (tx : Nat) (lo : Nat) (nl : Nat) (mo : Int) (hl0 : l.stackTraces = false) (h0 : -9223372036854775808 ≤ mo ∧ mo < 9223372036854775808) (h1 : ¬ (0 ≤ mo ∧ mo ≤ 1000000000000)) : zMx l (zXE s1 s2 s3) G yX9_tax wsX9_tax rm_c_X9_tax_x [.ref x, .long (lz (mo))] [(x, .inr (10, [.ref ro, .ref rw, .ref bo, .ref li, .ref sh, .ref tx, .ref lo, .ref nl]))] "java/lang/IllegalArgumentException" 1 6 := by
  refine zMx_of (cc := cX9_tax) (maxL := 3) (ret := (some .long)) (by decide) rfl (Nat.le_of_ble_eq_true rfl) ?_
  intro p e s m below meth c ls A Q hQ hx hb hr hts hown hlocks hml hout hKX hE hP hD hA hS hl
  have hK := hKX.1
  obtain ⟨H, hH⟩ : ∃ h, h = s.heap := ⟨_, rfl⟩
  obtain ⟨locs, hlo⟩ : ∃ h : List Loc, h = [] := ⟨_, rfl⟩
  have hS : va_S A s.heap H locs := by rw [hH, hlo]; exact hS
  have hP : va_P G.1 vwCl [(x, .inr (10, [.ref ro, .ref rw, .ref bo, .ref li, .ref sh, .ref tx, .ref lo, .ref nl]))] H := by rw [hH]; exact hP
  have hD : va_D A [(x, .inr (10, [.ref ro, .ref rw, .ref bo, .ref li, .ref sh, .ref tx, .ref lo, .ref nl]))] := hD
  have hl : lv_has ls 3 [(0, .ref x), (1, .long (lz (mo)))] := hl
  rw [← hH, ← hlo]
  refine lv_lload_n hx hb dX9_tax_0 rfl (lv_at hl 1 rfl) ?_
  refine lv_lconst (v := lz (0)) hx hb dX9_tax_1 rfl ?_
  refine zr_ldc2 (z := 1000000000000) hx hb hown (hts (.constantLong RX9 77 (1000000000000)) (by decide +kernel)) rfl dX9_tax_2 ?_
  refine zc_z (wr := [(x, .inr (10, [.ref ro, .ref rw, .ref bo, .ref li, .ref sh, .ref tx, .ref lo, .ref nl]))]) (va_runS (As := [.long (lz (mo)), .long (lz (0)), .long (lz (1000000000000))]) (rest := []) ⟨hx, hb, hml, hown, hts⟩ (c_X9_isWithin l G mo 0 1000000000000 (by omega) (by omega) (by omega) H.size) (va_cwS 3 hts gX9_tax_X9_isWithin rfl rfl rfl (by decide +kernel) ⟨Nat.le_of_ble_eq_true rfl, Nat.le_of_ble_eq_true rfl⟩) (zpS hKX hP hD [] rfl rfl) rfl rfl hl.1 rfl (lv_room (Nat.le_of_ble_eq_true rfl)) dX9_tax_5 ⟨(by first | exact Nat.le_of_ble_eq_true rfl | (show _ ≤ (1 : Nat); omega)), (by first | exact Nat.le_of_ble_eq_true rfl | (show _ ≤ (6 : Nat); omega))⟩) hP hD hS hA [] [0] rfl rfl rfl (by decide) (fun y1 u_1 H locs hy1 hP hD hS => ?_)
  have hP : va_P G.1 vwCl [(x, .inr (10, [.ref ro, .ref rw, .ref bo, .ref li, .ref sh, .ref tx, .ref lo, .ref nl]))] H := hP
  have hD : va_D A [(x, .inr (10, [.ref ro, .ref rw, .ref bo, .ref li, .ref sh, .ref tx, .ref lo, .ref nl]))] := hD
  have hy1 : y1 = decide ((0 : Int) ≤ mo ∧ mo ≤ (1000000000000 : Int)) := hy1
  rw [show y1 = false from hy1.trans (decide_eq_false (by omega))]
  rw [hQ]
  exact zx_thr (X := "java/lang/IllegalArgumentException") (vx_runS (As := [.int (iz (zbb false))]) (rest := []) ⟨hx, hb, hml, hown, hts⟩ (c_X9_demand_x l G s1 s2 s3 hl0 H.size) (va_cwS 1 hts gX9_tax_X9_demand rfl rfl rfl (by decide +kernel) ⟨Nat.le_of_ble_eq_true rfl, Nat.le_of_ble_eq_true rfl⟩) (zpSe zXE_ok hE hS hA hKX hP hD [] rfl rfl) rfl rfl hl.1 rfl (lv_room (Nat.le_of_ble_eq_true rfl)) dX9_tax_8 ⟨(by first | exact Nat.le_of_ble_eq_true rfl | (show _ ≤ (1 : Nat); omega)), (by first | exact Nat.le_of_ble_eq_true rfl | (show _ ≤ (6 : Nat); omega))⟩) hS (va_free (wc := []) hD hS hA [] rfl) hout hlocks (by first | exact Nat.le_of_ble_eq_true rfl | omega) (by first | exact Nat.le_of_ble_eq_true rfl | omega)

def rm_c_X9_untaxed_o : Room := { frames := 3, cells := 0, slots := 0, locals := 80 }
theorem iw_X9_untaxed_X9 : ∀ w ∈ wsX90, w ∈ wsX9_untaxed := by decide +kernel
set_option maxHeartbeats 1000000 in
set_option maxRecDepth 100000 in
theorem c_X9_untaxed_o (l : Launch) (G : zG) (x : Nat) (ro : Nat) (rw : Nat) (bo : Nat) (li : Nat) (sh : Nat) (tx : Nat) (lo : Nat) (nl : Nat) (fm : Nat) (pm : Nat) (mo : Int) (h0 : -9223372036854775808 ≤ mo ∧ mo < 9223372036854775808) (h1 : 0 ≤ mo ∧ mo ≤ 1000000000) : zM l G yX9_untaxed wsX9_untaxed rm_c_X9_untaxed_o [.ref x, .long (lz (mo))] [(x, .inr (10, [.ref ro, .ref rw, .ref bo, .ref li, .ref sh, .ref tx, .ref lo, .ref nl])), (tx, .inr (8, [.ref fm, .ref pm, .int (iz (0))]))] (fun A => zQl G (fun (z : Int) (_ : Unit) => z = mo) (fun (_ : Unit) => [(x, .inr (10, [.ref ro, .ref rw, .ref bo, .ref li, .ref sh, .ref tx, .ref lo, .ref nl])), (tx, .inr (8, [.ref fm, .ref pm, .int (iz (0))]))]) A) 0 0 := by
  refine zM_of (cc := cX9_untaxed) (maxL := 3) (ret := (some .long)) (by decide) rfl (Nat.le_of_ble_eq_true rfl) ?_
  intro p e s m below meth c ls A Q hQ hx hb hr hts hown hlocks hml hnm hKX hP hD hA hS hl
  have hK := hKX.1
  have iwX9 := iw_X9_untaxed_X9
  obtain ⟨H, hH⟩ : ∃ h, h = s.heap := ⟨_, rfl⟩
  obtain ⟨locs, hlo⟩ : ∃ h : List Loc, h = [] := ⟨_, rfl⟩
  have hS : va_S A s.heap H locs := by rw [hH, hlo]; exact hS
  have hP : va_P G.1 vwCl [(x, .inr (10, [.ref ro, .ref rw, .ref bo, .ref li, .ref sh, .ref tx, .ref lo, .ref nl])), (tx, .inr (8, [.ref fm, .ref pm, .int (iz (0))]))] H := by rw [hH]; exact hP
  have hD : va_D A [(x, .inr (10, [.ref ro, .ref rw, .ref bo, .ref li, .ref sh, .ref tx, .ref lo, .ref nl])), (tx, .inr (8, [.ref fm, .ref pm, .int (iz (0))]))] := hD
  have hl : lv_has ls 3 [(0, .ref x), (1, .long (lz (mo)))] := hl
  rw [← hH, ← hlo]
  refine lv_lload_n hx hb dX9_untaxed_0 rfl (lv_at hl 1 rfl) ?_
  refine lv_lconst (v := lz (0)) hx hb dX9_untaxed_1 rfl ?_
  refine zr_ldc2 (z := 1000000000) hx hb hown (hts (.constantLong RX9 91 (1000000000)) (by decide +kernel)) rfl dX9_untaxed_2 ?_
  refine zc_z (wr := [(x, .inr (10, [.ref ro, .ref rw, .ref bo, .ref li, .ref sh, .ref tx, .ref lo, .ref nl])), (tx, .inr (8, [.ref fm, .ref pm, .int (iz (0))]))]) (va_runS (As := [.long (lz (mo)), .long (lz (0)), .long (lz (1000000000))]) (rest := []) ⟨hx, hb, hml, hown, hts⟩ (c_X9_isWithin l G mo 0 1000000000 (by omega) (by omega) (by omega) H.size) (va_cwS 3 hts gX9_untaxed_X9_isWithin rfl rfl rfl (by decide +kernel) ⟨Nat.le_of_ble_eq_true rfl, Nat.le_of_ble_eq_true rfl⟩) (zpS hKX hP hD [] rfl rfl) rfl rfl hl.1 rfl (lv_room (Nat.le_of_ble_eq_true rfl)) dX9_untaxed_5 ⟨(by first | exact Nat.le_of_ble_eq_true rfl | (show _ ≤ (0 : Nat); omega)), (by first | exact Nat.le_of_ble_eq_true rfl | (show _ ≤ (0 : Nat); omega))⟩) hP hD hS hA [] [0, 1] rfl rfl rfl (by decide) (fun y1 u_1 H locs hy1 hP hD hS => ?_)
  have hP : va_P G.1 vwCl [(x, .inr (10, [.ref ro, .ref rw, .ref bo, .ref li, .ref sh, .ref tx, .ref lo, .ref nl])), (tx, .inr (8, [.ref fm, .ref pm, .int (iz (0))]))] H := hP
  have hD : va_D A [(x, .inr (10, [.ref ro, .ref rw, .ref bo, .ref li, .ref sh, .ref tx, .ref lo, .ref nl])), (tx, .inr (8, [.ref fm, .ref pm, .int (iz (0))]))] := hD
  have hy1 : y1 = decide ((0 : Int) ≤ mo ∧ mo ≤ (1000000000 : Int)) := hy1
  rw [show y1 = true from hy1.trans (decide_eq_true (by omega))]
  refine zc_v (wr := [(x, .inr (10, [.ref ro, .ref rw, .ref bo, .ref li, .ref sh, .ref tx, .ref lo, .ref nl])), (tx, .inr (8, [.ref fm, .ref pm, .int (iz (0))]))]) (va_runS (As := [.int (iz (zbb true))]) (rest := []) ⟨hx, hb, hml, hown, hts⟩ (c_X9_demand_o l G   H.size) (va_cwS 1 hts gX9_untaxed_X9_demand rfl rfl rfl (by decide +kernel) ⟨Nat.le_of_ble_eq_true rfl, Nat.le_of_ble_eq_true rfl⟩) (zpS hKX hP hD [] rfl rfl) rfl rfl hl.1 rfl (lv_room (Nat.le_of_ble_eq_true rfl)) dX9_untaxed_8 ⟨(by first | exact Nat.le_of_ble_eq_true rfl | (show _ ≤ (0 : Nat); omega)), (by first | exact Nat.le_of_ble_eq_true rfl | (show _ ≤ (0 : Nat); omega))⟩) hP hD hS hA [] [0, 1] rfl rfl rfl (by decide) (fun u_3 H locs hq_6 hP hD hS => ?_)
  have hP : va_P G.1 vwCl [(x, .inr (10, [.ref ro, .ref rw, .ref bo, .ref li, .ref sh, .ref tx, .ref lo, .ref nl])), (tx, .inr (8, [.ref fm, .ref pm, .int (iz (0))]))] H := hP
  have hD : va_D A [(x, .inr (10, [.ref ro, .ref rw, .ref bo, .ref li, .ref sh, .ref tx, .ref lo, .ref nl])), (tx, .inr (8, [.ref fm, .ref pm, .int (iz (0))]))] := hD
  refine lv_aload_n hx hb dX9_untaxed_11 rfl (lv_at hl 0 rfl) ?_
  refine va_get (D := G.1) (ci := 10) (v := .ref tx) (C := RX9) (T := TX9) (N := 8) hx hb hts iwX9 hown hK hP 0 rfl rfl 5 (by decide) (hts (.fieldLink RX9 47 "AnnuityHouse" "taxes" "LAnnuityHouse$Taxes;") (by decide +kernel)) (fun _ h9 => h9) rfl dX9_untaxed_12 ?_
  refine lv_lload_n hx hb dX9_untaxed_15 rfl (lv_at hl 1 rfl) ?_
  refine zc_l (wr := [(x, .inr (10, [.ref ro, .ref rw, .ref bo, .ref li, .ref sh, .ref tx, .ref lo, .ref nl]))]) (va_runV (As := [.long (lz (mo))]) (rest := []) ⟨hx, hb, hml, hown, hts⟩ (c_X7_leastLeaving l G tx fm pm mo (by omega) H.size) (cwV 1 hts gX9_untaxed_X7_leastLeaving rfl rfl rfl (by decide +kernel) ⟨Nat.le_of_ble_eq_true rfl, Nat.le_of_ble_eq_true rfl⟩) (zpV hKX hP hD [1] rfl rfl 1 8 rfl rfl) rfl rfl hl.1 rfl (lv_room (Nat.le_of_ble_eq_true rfl)) dX9_untaxed_16 ⟨(by first | exact Nat.le_of_ble_eq_true rfl | (show _ ≤ (0 : Nat); omega)), (by first | exact Nat.le_of_ble_eq_true rfl | (show _ ≤ (0 : Nat); omega))⟩) hP hD hS hA [1] [0] rfl rfl rfl (by decide) (fun zz u_7 H locs hz hP hD hS => ?_)
  have hP : va_P G.1 vwCl [(x, .inr (10, [.ref ro, .ref rw, .ref bo, .ref li, .ref sh, .ref tx, .ref lo, .ref nl])), (tx, .inr (8, [.ref fm, .ref pm, .int (iz (0))]))] H := hP
  have hD : va_D A [(x, .inr (10, [.ref ro, .ref rw, .ref bo, .ref li, .ref sh, .ref tx, .ref lo, .ref nl])), (tx, .inr (8, [.ref fm, .ref pm, .int (iz (0))]))] := hD
  have hz : zz = mo := hz
  rw [hQ]
  exact zr_lret (z := zz) (u := ()) hx hb hr hlocks hP hD hS (by first | exact Nat.le_of_ble_eq_true rfl | omega) (by first | exact Nat.le_of_ble_eq_true rfl | omega) dX9_untaxed_19 (show zz = mo from hz)

def rm_c_X9_untaxed_x : Room := { frames := 7, cells := 1, slots := 6, locals := 110 }
set_option maxHeartbeats 1000000 in
set_option maxRecDepth 100000 in
theorem c_X9_untaxed_x (l : Launch) (G : zG) (s1 : Nat) (s2 : Nat) (s3 : Nat) (x : Nat) (ro : Nat) (rw : Nat) (bo : Nat) (li : Nat) (sh : Nat) (tx : Nat) (lo : Nat) (nl : Nat) (mo : Int) (hl0 : l.stackTraces = false) (h0 : -9223372036854775808 ≤ mo ∧ mo < 9223372036854775808) (h1 : ¬ (0 ≤ mo ∧ mo ≤ 1000000000)) : zMx l (zXE s1 s2 s3) G yX9_untaxed wsX9_untaxed rm_c_X9_untaxed_x [.ref x, .long (lz (mo))] [(x, .inr (10, [.ref ro, .ref rw, .ref bo, .ref li, .ref sh, .ref tx, .ref lo, .ref nl]))] "java/lang/IllegalArgumentException" 1 6 := by
  refine zMx_of (cc := cX9_untaxed) (maxL := 3) (ret := (some .long)) (by decide) rfl (Nat.le_of_ble_eq_true rfl) ?_
  intro p e s m below meth c ls A Q hQ hx hb hr hts hown hlocks hml hout hKX hE hP hD hA hS hl
  have hK := hKX.1
  obtain ⟨H, hH⟩ : ∃ h, h = s.heap := ⟨_, rfl⟩
  obtain ⟨locs, hlo⟩ : ∃ h : List Loc, h = [] := ⟨_, rfl⟩
  have hS : va_S A s.heap H locs := by rw [hH, hlo]; exact hS
  have hP : va_P G.1 vwCl [(x, .inr (10, [.ref ro, .ref rw, .ref bo, .ref li, .ref sh, .ref tx, .ref lo, .ref nl]))] H := by rw [hH]; exact hP
  have hD : va_D A [(x, .inr (10, [.ref ro, .ref rw, .ref bo, .ref li, .ref sh, .ref tx, .ref lo, .ref nl]))] := hD
  have hl : lv_has ls 3 [(0, .ref x), (1, .long (lz (mo)))] := hl
  rw [← hH, ← hlo]
  refine lv_lload_n hx hb dX9_untaxed_0 rfl (lv_at hl 1 rfl) ?_
  refine lv_lconst (v := lz (0)) hx hb dX9_untaxed_1 rfl ?_
  refine zr_ldc2 (z := 1000000000) hx hb hown (hts (.constantLong RX9 91 (1000000000)) (by decide +kernel)) rfl dX9_untaxed_2 ?_
  refine zc_z (wr := [(x, .inr (10, [.ref ro, .ref rw, .ref bo, .ref li, .ref sh, .ref tx, .ref lo, .ref nl]))]) (va_runS (As := [.long (lz (mo)), .long (lz (0)), .long (lz (1000000000))]) (rest := []) ⟨hx, hb, hml, hown, hts⟩ (c_X9_isWithin l G mo 0 1000000000 (by omega) (by omega) (by omega) H.size) (va_cwS 3 hts gX9_untaxed_X9_isWithin rfl rfl rfl (by decide +kernel) ⟨Nat.le_of_ble_eq_true rfl, Nat.le_of_ble_eq_true rfl⟩) (zpS hKX hP hD [] rfl rfl) rfl rfl hl.1 rfl (lv_room (Nat.le_of_ble_eq_true rfl)) dX9_untaxed_5 ⟨(by first | exact Nat.le_of_ble_eq_true rfl | (show _ ≤ (1 : Nat); omega)), (by first | exact Nat.le_of_ble_eq_true rfl | (show _ ≤ (6 : Nat); omega))⟩) hP hD hS hA [] [0] rfl rfl rfl (by decide) (fun y1 u_1 H locs hy1 hP hD hS => ?_)
  have hP : va_P G.1 vwCl [(x, .inr (10, [.ref ro, .ref rw, .ref bo, .ref li, .ref sh, .ref tx, .ref lo, .ref nl]))] H := hP
  have hD : va_D A [(x, .inr (10, [.ref ro, .ref rw, .ref bo, .ref li, .ref sh, .ref tx, .ref lo, .ref nl]))] := hD
  have hy1 : y1 = decide ((0 : Int) ≤ mo ∧ mo ≤ (1000000000 : Int)) := hy1
  rw [show y1 = false from hy1.trans (decide_eq_false (by omega))]
  rw [hQ]
  exact zx_thr (X := "java/lang/IllegalArgumentException") (vx_runS (As := [.int (iz (zbb false))]) (rest := []) ⟨hx, hb, hml, hown, hts⟩ (c_X9_demand_x l G s1 s2 s3 hl0 H.size) (va_cwS 1 hts gX9_untaxed_X9_demand rfl rfl rfl (by decide +kernel) ⟨Nat.le_of_ble_eq_true rfl, Nat.le_of_ble_eq_true rfl⟩) (zpSe zXE_ok hE hS hA hKX hP hD [] rfl rfl) rfl rfl hl.1 rfl (lv_room (Nat.le_of_ble_eq_true rfl)) dX9_untaxed_8 ⟨(by first | exact Nat.le_of_ble_eq_true rfl | (show _ ≤ (1 : Nat); omega)), (by first | exact Nat.le_of_ble_eq_true rfl | (show _ ≤ (6 : Nat); omega))⟩) hS (va_free (wc := []) hD hS hA [] rfl) hout hlocks (by first | exact Nat.le_of_ble_eq_true rfl | omega) (by first | exact Nat.le_of_ble_eq_true rfl | omega)

def rm_c_X9_errors_o : Room := { frames := 6, cells := 0, slots := 0, locals := 144 }
theorem iw_X9_errors_X9 : ∀ w ∈ wsX90, w ∈ wsX9_errors := by decide +kernel
set_option maxHeartbeats 1000000 in
set_option maxRecDepth 100000 in
theorem c_X9_errors_o (l : Launch) (G : zG) (x : Nat) (ro : Nat) (rw : Nat) (bo : Nat) (li : Nat) (sh : Nat) (tx : Nat) (lo : Nat) (nl : Nat) (am : Nat) (q : Nat) (bq : Nat) (wa : Nat) (bwa : Nat) (sa : Nat) (sb : Nat) (da : Nat) (db : Nat) (bsa : Nat) (bsb : Nat) (bda : Nat) (bdb : Nat) (nr : Nat) (ne : Nat) (nh : Nat) (tb : Nat) (lq : Nat) (lv : Nat) (lf : Nat) (lg : Nat) (wt : Nat) (po : Int) (h0 : -2147483648 ≤ po ∧ po < 2147483648) (h1 : 0 ≤ po ∧ po ≤ 20000) : zM l G yX9_errors wsX9_errors rm_c_X9_errors_o [.ref x, .int (iz (po))] [(x, .inr (10, [.ref ro, .ref rw, .ref bo, .ref li, .ref sh, .ref tx, .ref lo, .ref nl])), (rw, .inr (6, [.ref am, .ref q, .ref bq])), (am, zaL (G.2 0) 41 (fun _ => 0)), (q, .inr (2, [.ref sa, .ref da, .ref wa, .long (lz (1)), .long (lz (1)), .int (iz (0))])), (sa, .inr (9, [.ref sb, .int (iz (0)), .long (lz (0))])), (sb, zaL (G.2 0) 40 (fun _ => 0)), (da, .inr (9, [.ref db, .int (iz (0)), .long (lz (0))])), (db, zaL (G.2 0) 40 (fun _ => 0)), (bq, .inr (2, [.ref bsa, .ref bda, .ref bwa, .long (lz (1)), .long (lz (1)), .int (iz (0))])), (bsa, .inr (9, [.ref bsb, .int (iz (0)), .long (lz (0))])), (bsb, zaL (G.2 0) 40 (fun _ => 0)), (bda, .inr (9, [.ref bdb, .int (iz (0)), .long (lz (0))])), (bdb, zaL (G.2 0) 40 (fun _ => 0)), (lo, .inr (4, [.ref nr, .ref ne, .ref nh, .ref tb, .ref lq, .long (lz (0)), .int (iz (0)), .int (iz (0))])), (li, .inr (3, [.ref lv, .ref lf, .ref lg, .int (iz (0))])), (sh, .inr (7, [.ref wt, .int (iz (0))]))] (fun A => zQi G (fun (z : Int) (u : (Int → Int) × Int × Int × (Int → Int) × Int × Int × Int × Int × Int × (Int → Int) × Int × Int × (Int → Int) × Int × Int × Int × Int × Int) => z = 0) (fun (u : (Int → Int) × Int × Int × (Int → Int) × Int × Int × Int × Int × Int × (Int → Int) × Int × Int × (Int → Int) × Int × Int × Int × Int × Int) => [(x, .inr (10, [.ref ro, .ref rw, .ref bo, .ref li, .ref sh, .ref tx, .ref lo, .ref nl])), (rw, .inr (6, [.ref am, .ref q, .ref bq])), (am, zaL (G.2 0) 41 (fun _ => 0)), (q, .inr (2, [.ref sa, .ref da, .ref wa, .long (lz (u.2.2.2.2.2.2.1)), .long (lz (u.2.2.2.2.2.2.2.1)), .int (iz (u.2.2.2.2.2.2.2.2.1))])), (sa, .inr (9, [.ref sb, .int (iz (u.2.1)), .long (lz (u.2.2.1))])), (sb, zaL (G.2 0) 40 (u.1)), (da, .inr (9, [.ref db, .int (iz (u.2.2.2.2.1)), .long (lz (u.2.2.2.2.2.1))])), (db, zaL (G.2 0) 40 (u.2.2.2.1)), (bq, .inr (2, [.ref bsa, .ref bda, .ref bwa, .long (lz (u.2.2.2.2.2.2.2.2.2.2.2.2.2.2.2.1)), .long (lz (u.2.2.2.2.2.2.2.2.2.2.2.2.2.2.2.2.1)), .int (iz (u.2.2.2.2.2.2.2.2.2.2.2.2.2.2.2.2.2))])), (bsa, .inr (9, [.ref bsb, .int (iz (u.2.2.2.2.2.2.2.2.2.2.1)), .long (lz (u.2.2.2.2.2.2.2.2.2.2.2.1))])), (bsb, zaL (G.2 0) 40 (u.2.2.2.2.2.2.2.2.2.1)), (bda, .inr (9, [.ref bdb, .int (iz (u.2.2.2.2.2.2.2.2.2.2.2.2.2.1)), .long (lz (u.2.2.2.2.2.2.2.2.2.2.2.2.2.2.1))])), (bdb, zaL (G.2 0) 40 (u.2.2.2.2.2.2.2.2.2.2.2.2.1)), (lo, .inr (4, [.ref nr, .ref ne, .ref nh, .ref tb, .ref lq, .long (lz (0)), .int (iz (0)), .int (iz (0))])), (li, .inr (3, [.ref lv, .ref lf, .ref lg, .int (iz (0))])), (sh, .inr (7, [.ref wt, .int (iz (0))]))]) A) 0 0 := by
  refine zM_of (cc := cX9_errors) (maxL := 3) (ret := (some .int)) (by decide) rfl (Nat.le_of_ble_eq_true rfl) ?_
  intro p e s m below meth c ls A Q hQ hx hb hr hts hown hlocks hml hnm hKX hP hD hA hS hl
  have hK := hKX.1
  have iwX9 := iw_X9_errors_X9
  obtain ⟨H, hH⟩ : ∃ h, h = s.heap := ⟨_, rfl⟩
  obtain ⟨locs, hlo⟩ : ∃ h : List Loc, h = [] := ⟨_, rfl⟩
  have hS : va_S A s.heap H locs := by rw [hH, hlo]; exact hS
  have hP : va_P G.1 vwCl [(x, .inr (10, [.ref ro, .ref rw, .ref bo, .ref li, .ref sh, .ref tx, .ref lo, .ref nl])), (rw, .inr (6, [.ref am, .ref q, .ref bq])), (am, zaL (G.2 0) 41 (fun _ => 0)), (q, .inr (2, [.ref sa, .ref da, .ref wa, .long (lz (1)), .long (lz (1)), .int (iz (0))])), (sa, .inr (9, [.ref sb, .int (iz (0)), .long (lz (0))])), (sb, zaL (G.2 0) 40 (fun _ => 0)), (da, .inr (9, [.ref db, .int (iz (0)), .long (lz (0))])), (db, zaL (G.2 0) 40 (fun _ => 0)), (bq, .inr (2, [.ref bsa, .ref bda, .ref bwa, .long (lz (1)), .long (lz (1)), .int (iz (0))])), (bsa, .inr (9, [.ref bsb, .int (iz (0)), .long (lz (0))])), (bsb, zaL (G.2 0) 40 (fun _ => 0)), (bda, .inr (9, [.ref bdb, .int (iz (0)), .long (lz (0))])), (bdb, zaL (G.2 0) 40 (fun _ => 0)), (lo, .inr (4, [.ref nr, .ref ne, .ref nh, .ref tb, .ref lq, .long (lz (0)), .int (iz (0)), .int (iz (0))])), (li, .inr (3, [.ref lv, .ref lf, .ref lg, .int (iz (0))])), (sh, .inr (7, [.ref wt, .int (iz (0))]))] H := by rw [hH]; exact hP
  have hD : va_D A [(x, .inr (10, [.ref ro, .ref rw, .ref bo, .ref li, .ref sh, .ref tx, .ref lo, .ref nl])), (rw, .inr (6, [.ref am, .ref q, .ref bq])), (am, zaL (G.2 0) 41 (fun _ => 0)), (q, .inr (2, [.ref sa, .ref da, .ref wa, .long (lz (1)), .long (lz (1)), .int (iz (0))])), (sa, .inr (9, [.ref sb, .int (iz (0)), .long (lz (0))])), (sb, zaL (G.2 0) 40 (fun _ => 0)), (da, .inr (9, [.ref db, .int (iz (0)), .long (lz (0))])), (db, zaL (G.2 0) 40 (fun _ => 0)), (bq, .inr (2, [.ref bsa, .ref bda, .ref bwa, .long (lz (1)), .long (lz (1)), .int (iz (0))])), (bsa, .inr (9, [.ref bsb, .int (iz (0)), .long (lz (0))])), (bsb, zaL (G.2 0) 40 (fun _ => 0)), (bda, .inr (9, [.ref bdb, .int (iz (0)), .long (lz (0))])), (bdb, zaL (G.2 0) 40 (fun _ => 0)), (lo, .inr (4, [.ref nr, .ref ne, .ref nh, .ref tb, .ref lq, .long (lz (0)), .int (iz (0)), .int (iz (0))])), (li, .inr (3, [.ref lv, .ref lf, .ref lg, .int (iz (0))])), (sh, .inr (7, [.ref wt, .int (iz (0))]))] := hD
  have hl : lv_has ls 3 [(0, .ref x), (1, .int (iz (po)))] := hl
  rw [← hH, ← hlo]
  refine lv_iload_n hx hb dX9_errors_0 rfl (lv_at hl 1 rfl) ?_
  refine zc_v (wr := [(x, .inr (10, [.ref ro, .ref rw, .ref bo, .ref li, .ref sh, .ref tx, .ref lo, .ref nl])), (rw, .inr (6, [.ref am, .ref q, .ref bq])), (am, zaL (G.2 0) 41 (fun _ => 0)), (q, .inr (2, [.ref sa, .ref da, .ref wa, .long (lz (1)), .long (lz (1)), .int (iz (0))])), (sa, .inr (9, [.ref sb, .int (iz (0)), .long (lz (0))])), (sb, zaL (G.2 0) 40 (fun _ => 0)), (da, .inr (9, [.ref db, .int (iz (0)), .long (lz (0))])), (db, zaL (G.2 0) 40 (fun _ => 0)), (bq, .inr (2, [.ref bsa, .ref bda, .ref bwa, .long (lz (1)), .long (lz (1)), .int (iz (0))])), (bsa, .inr (9, [.ref bsb, .int (iz (0)), .long (lz (0))])), (bsb, zaL (G.2 0) 40 (fun _ => 0)), (bda, .inr (9, [.ref bdb, .int (iz (0)), .long (lz (0))])), (bdb, zaL (G.2 0) 40 (fun _ => 0)), (lo, .inr (4, [.ref nr, .ref ne, .ref nh, .ref tb, .ref lq, .long (lz (0)), .int (iz (0)), .int (iz (0))])), (li, .inr (3, [.ref lv, .ref lf, .ref lg, .int (iz (0))])), (sh, .inr (7, [.ref wt, .int (iz (0))]))]) (va_runS (As := [.int (iz (po))]) (rest := []) ⟨hx, hb, hml, hown, hts⟩ (c_X9_demandRate_o l G po (by omega) (by omega) H.size) (va_cwS 1 hts gX9_errors_X9_demandRate rfl rfl rfl (by decide +kernel) ⟨Nat.le_of_ble_eq_true rfl, Nat.le_of_ble_eq_true rfl⟩) (zpS hKX hP hD [] rfl rfl) rfl rfl hl.1 rfl (lv_room (Nat.le_of_ble_eq_true rfl)) dX9_errors_1 ⟨(by first | exact Nat.le_of_ble_eq_true rfl | (show _ ≤ (0 : Nat); omega)), (by first | exact Nat.le_of_ble_eq_true rfl | (show _ ≤ (0 : Nat); omega))⟩) hP hD hS hA [] [0, 1, 2, 3, 4, 5, 6, 7, 8, 9, 10, 11, 12, 13, 14, 15] rfl rfl rfl (by decide) (fun u_1 H locs td hP hD hS => ?_)
  have hP : va_P G.1 vwCl [(x, .inr (10, [.ref ro, .ref rw, .ref bo, .ref li, .ref sh, .ref tx, .ref lo, .ref nl])), (rw, .inr (6, [.ref am, .ref q, .ref bq])), (am, zaL (G.2 0) 41 (fun _ => 0)), (q, .inr (2, [.ref sa, .ref da, .ref wa, .long (lz (1)), .long (lz (1)), .int (iz (0))])), (sa, .inr (9, [.ref sb, .int (iz (0)), .long (lz (0))])), (sb, zaL (G.2 0) 40 (fun _ => 0)), (da, .inr (9, [.ref db, .int (iz (0)), .long (lz (0))])), (db, zaL (G.2 0) 40 (fun _ => 0)), (bq, .inr (2, [.ref bsa, .ref bda, .ref bwa, .long (lz (1)), .long (lz (1)), .int (iz (0))])), (bsa, .inr (9, [.ref bsb, .int (iz (0)), .long (lz (0))])), (bsb, zaL (G.2 0) 40 (fun _ => 0)), (bda, .inr (9, [.ref bdb, .int (iz (0)), .long (lz (0))])), (bdb, zaL (G.2 0) 40 (fun _ => 0)), (lo, .inr (4, [.ref nr, .ref ne, .ref nh, .ref tb, .ref lq, .long (lz (0)), .int (iz (0)), .int (iz (0))])), (li, .inr (3, [.ref lv, .ref lf, .ref lg, .int (iz (0))])), (sh, .inr (7, [.ref wt, .int (iz (0))]))] H := hP
  have hD : va_D A [(x, .inr (10, [.ref ro, .ref rw, .ref bo, .ref li, .ref sh, .ref tx, .ref lo, .ref nl])), (rw, .inr (6, [.ref am, .ref q, .ref bq])), (am, zaL (G.2 0) 41 (fun _ => 0)), (q, .inr (2, [.ref sa, .ref da, .ref wa, .long (lz (1)), .long (lz (1)), .int (iz (0))])), (sa, .inr (9, [.ref sb, .int (iz (0)), .long (lz (0))])), (sb, zaL (G.2 0) 40 (fun _ => 0)), (da, .inr (9, [.ref db, .int (iz (0)), .long (lz (0))])), (db, zaL (G.2 0) 40 (fun _ => 0)), (bq, .inr (2, [.ref bsa, .ref bda, .ref bwa, .long (lz (1)), .long (lz (1)), .int (iz (0))])), (bsa, .inr (9, [.ref bsb, .int (iz (0)), .long (lz (0))])), (bsb, zaL (G.2 0) 40 (fun _ => 0)), (bda, .inr (9, [.ref bdb, .int (iz (0)), .long (lz (0))])), (bdb, zaL (G.2 0) 40 (fun _ => 0)), (lo, .inr (4, [.ref nr, .ref ne, .ref nh, .ref tb, .ref lq, .long (lz (0)), .int (iz (0)), .int (iz (0))])), (li, .inr (3, [.ref lv, .ref lf, .ref lg, .int (iz (0))])), (sh, .inr (7, [.ref wt, .int (iz (0))]))] := hD
  refine lv_iconst (v := iz (0)) hx hb dX9_errors_4 rfl ?_
  refine lv_istore_n (lv' := [(2, .int (iz (0))), (0, .ref x), (1, .int (iz (po)))]) hx hb dX9_errors_5 rfl hl (by decide) rfl (fun ls hl => ?_)
  refine lv_iload_n hx hb dX9_errors_6 rfl (lv_at hl 0 rfl) ?_
  refine lv_aload_n hx hb dX9_errors_7 rfl (lv_at hl 1 rfl) ?_
  refine va_get (D := G.1) (ci := 10) (v := .ref rw) (C := RX9) (T := TX9) (N := 8) hx hb hts iwX9 hown hK hP 0 rfl rfl 1 (by decide) (hts (.fieldLink RX9 19 "AnnuityHouse" "row" "LAnnuityHouse$Row;") (by decide +kernel)) (fun _ h9 => h9) rfl dX9_errors_8 ?_
  refine lv_iload_n hx hb dX9_errors_11 rfl (lv_at hl 2 rfl) ?_
  refine zc_z (wr := [(x, .inr (10, [.ref ro, .ref rw, .ref bo, .ref li, .ref sh, .ref tx, .ref lo, .ref nl])), (lo, .inr (4, [.ref nr, .ref ne, .ref nh, .ref tb, .ref lq, .long (lz (0)), .int (iz (0)), .int (iz (0))])), (li, .inr (3, [.ref lv, .ref lf, .ref lg, .int (iz (0))])), (sh, .inr (7, [.ref wt, .int (iz (0))]))]) (va_runV (As := [.int (iz (po))]) (rest := [.int (iz (0))]) ⟨hx, hb, hml, hown, hts⟩ (c_X5_isCarriedAlike l G rw am q bq wa sa sb (fun _ => 0) 0 0 da db (fun _ => 0) 0 0 1 1 0 bwa bsa bsb (fun _ => 0) 0 0 bda bdb (fun _ => 0) 0 0 1 1 0 po (by omega) H.size) (cwV 1 hts gX9_errors_X5_isCarriedAlike rfl rfl rfl (by decide +kernel) ⟨Nat.le_of_ble_eq_true rfl, Nat.le_of_ble_eq_true rfl⟩) (zpV hKX hP hD [1, 2, 3, 4, 5, 6, 7, 8, 9, 10, 11, 12] rfl rfl 1 6 rfl rfl) rfl rfl hl.1 rfl (lv_room (Nat.le_of_ble_eq_true rfl)) dX9_errors_12 ⟨(by first | exact Nat.le_of_ble_eq_true rfl | (show _ ≤ (0 : Nat); omega)), (by first | exact Nat.le_of_ble_eq_true rfl | (show _ ≤ (0 : Nat); omega))⟩) hP hD hS hA [1, 2, 3, 4, 5, 6, 7, 8, 9, 10, 11, 12] [0, 13, 14, 15] rfl rfl rfl (by decide) (fun e1 u_4 H locs he1 hP hD hS => ?_)
  obtain ⟨sf2, sn2, st2, df2, dn2, dt2, ru, rd, pq, bsf2, bsn2, bst2, bdf2, bdn2, bdt2, bru, brd, bpq⟩ := u_4
  have hP : va_P G.1 vwCl [(x, .inr (10, [.ref ro, .ref rw, .ref bo, .ref li, .ref sh, .ref tx, .ref lo, .ref nl])), (lo, .inr (4, [.ref nr, .ref ne, .ref nh, .ref tb, .ref lq, .long (lz (0)), .int (iz (0)), .int (iz (0))])), (li, .inr (3, [.ref lv, .ref lf, .ref lg, .int (iz (0))])), (sh, .inr (7, [.ref wt, .int (iz (0))])), (rw, .inr (6, [.ref am, .ref q, .ref bq])), (am, zaL (G.2 0) 41 (fun _ => 0)), (q, .inr (2, [.ref sa, .ref da, .ref wa, .long (lz (ru)), .long (lz (rd)), .int (iz (pq))])), (sa, .inr (9, [.ref sb, .int (iz (sn2)), .long (lz (st2))])), (sb, zaL (G.2 0) 40 (sf2)), (da, .inr (9, [.ref db, .int (iz (dn2)), .long (lz (dt2))])), (db, zaL (G.2 0) 40 (df2)), (bq, .inr (2, [.ref bsa, .ref bda, .ref bwa, .long (lz (bru)), .long (lz (brd)), .int (iz (bpq))])), (bsa, .inr (9, [.ref bsb, .int (iz (bsn2)), .long (lz (bst2))])), (bsb, zaL (G.2 0) 40 (bsf2)), (bda, .inr (9, [.ref bdb, .int (iz (bdn2)), .long (lz (bdt2))])), (bdb, zaL (G.2 0) 40 (bdf2))] H := hP
  have hD : va_D A [(x, .inr (10, [.ref ro, .ref rw, .ref bo, .ref li, .ref sh, .ref tx, .ref lo, .ref nl])), (lo, .inr (4, [.ref nr, .ref ne, .ref nh, .ref tb, .ref lq, .long (lz (0)), .int (iz (0)), .int (iz (0))])), (li, .inr (3, [.ref lv, .ref lf, .ref lg, .int (iz (0))])), (sh, .inr (7, [.ref wt, .int (iz (0))])), (rw, .inr (6, [.ref am, .ref q, .ref bq])), (am, zaL (G.2 0) 41 (fun _ => 0)), (q, .inr (2, [.ref sa, .ref da, .ref wa, .long (lz (ru)), .long (lz (rd)), .int (iz (pq))])), (sa, .inr (9, [.ref sb, .int (iz (sn2)), .long (lz (st2))])), (sb, zaL (G.2 0) 40 (sf2)), (da, .inr (9, [.ref db, .int (iz (dn2)), .long (lz (dt2))])), (db, zaL (G.2 0) 40 (df2)), (bq, .inr (2, [.ref bsa, .ref bda, .ref bwa, .long (lz (bru)), .long (lz (brd)), .int (iz (bpq))])), (bsa, .inr (9, [.ref bsb, .int (iz (bsn2)), .long (lz (bst2))])), (bsb, zaL (G.2 0) 40 (bsf2)), (bda, .inr (9, [.ref bdb, .int (iz (bdn2)), .long (lz (bdt2))])), (bdb, zaL (G.2 0) 40 (bdf2))] := hD
  have he1 : e1 = true := he1
  rw [show e1 = true from he1]
  refine zr_ifz_eq (tgt := 22) hx hb dX9_errors_15 (by decide) (fun h_6 => ?_) (fun h_6 => ?_)
  · exact absurd h_6 (by decide)
  ·
    refine lv_iconst (v := iz (0)) hx hb dX9_errors_18 rfl ?_
    refine lv_goto (tgt := 23) hx hb dX9_errors_19 (by decide) ?_
    refine zr_iadd hx hb dX9_errors_23 ?_
    refine lv_istore_n (lv' := [(2, .int (iz (0 + 0))), (0, .ref x), (1, .int (iz (po)))]) hx hb dX9_errors_24 rfl hl (by decide) rfl (fun ls hl => ?_)
    refine lv_iload_n hx hb dX9_errors_25 rfl (lv_at hl 0 rfl) ?_
    refine lv_aload_n hx hb dX9_errors_26 rfl (lv_at hl 1 rfl) ?_
    refine va_get (D := G.1) (ci := 10) (v := .ref lo) (C := RX9) (T := TX9) (N := 8) hx hb hts iwX9 hown hK hP 0 rfl rfl 6 (by decide) (hts (.fieldLink RX9 54 "AnnuityHouse" "loan" "LAnnuityHouse$Loan;") (by decide +kernel)) (fun _ h9 => h9) rfl dX9_errors_27 ?_
    refine zc_z (wr := [(x, .inr (10, [.ref ro, .ref rw, .ref bo, .ref li, .ref sh, .ref tx, .ref lo, .ref nl])), (li, .inr (3, [.ref lv, .ref lf, .ref lg, .int (iz (0))])), (sh, .inr (7, [.ref wt, .int (iz (0))])), (rw, .inr (6, [.ref am, .ref q, .ref bq])), (am, zaL (G.2 0) 41 (fun _ => 0)), (q, .inr (2, [.ref sa, .ref da, .ref wa, .long (lz (ru)), .long (lz (rd)), .int (iz (pq))])), (sa, .inr (9, [.ref sb, .int (iz (sn2)), .long (lz (st2))])), (sb, zaL (G.2 0) 40 (sf2)), (da, .inr (9, [.ref db, .int (iz (dn2)), .long (lz (dt2))])), (db, zaL (G.2 0) 40 (df2)), (bq, .inr (2, [.ref bsa, .ref bda, .ref bwa, .long (lz (bru)), .long (lz (brd)), .int (iz (bpq))])), (bsa, .inr (9, [.ref bsb, .int (iz (bsn2)), .long (lz (bst2))])), (bsb, zaL (G.2 0) 40 (bsf2)), (bda, .inr (9, [.ref bdb, .int (iz (bdn2)), .long (lz (bdt2))])), (bdb, zaL (G.2 0) 40 (bdf2))]) (va_runV (As := []) (rest := [.int (iz (0 + 0))]) ⟨hx, hb, hml, hown, hts⟩ (c_X3_isRepaid l G lo nr ne nh tb lq 0  H.size) (cwV 0 hts gX9_errors_X3_isRepaid rfl rfl rfl (by decide +kernel) ⟨Nat.le_of_ble_eq_true rfl, Nat.le_of_ble_eq_true rfl⟩) (zpV hKX hP hD [1] rfl rfl 1 4 rfl rfl) rfl rfl hl.1 rfl (lv_room (Nat.le_of_ble_eq_true rfl)) dX9_errors_30 ⟨(by first | exact Nat.le_of_ble_eq_true rfl | (show _ ≤ (0 : Nat); omega)), (by first | exact Nat.le_of_ble_eq_true rfl | (show _ ≤ (0 : Nat); omega))⟩) hP hD hS hA [1] [0, 2, 3, 4, 5, 6, 7, 8, 9, 10, 11, 12, 13, 14, 15] rfl rfl rfl (by decide) (fun e2 u_7 H locs he2 hP hD hS => ?_)
    have hP : va_P G.1 vwCl [(x, .inr (10, [.ref ro, .ref rw, .ref bo, .ref li, .ref sh, .ref tx, .ref lo, .ref nl])), (li, .inr (3, [.ref lv, .ref lf, .ref lg, .int (iz (0))])), (sh, .inr (7, [.ref wt, .int (iz (0))])), (rw, .inr (6, [.ref am, .ref q, .ref bq])), (am, zaL (G.2 0) 41 (fun _ => 0)), (q, .inr (2, [.ref sa, .ref da, .ref wa, .long (lz (ru)), .long (lz (rd)), .int (iz (pq))])), (sa, .inr (9, [.ref sb, .int (iz (sn2)), .long (lz (st2))])), (sb, zaL (G.2 0) 40 (sf2)), (da, .inr (9, [.ref db, .int (iz (dn2)), .long (lz (dt2))])), (db, zaL (G.2 0) 40 (df2)), (bq, .inr (2, [.ref bsa, .ref bda, .ref bwa, .long (lz (bru)), .long (lz (brd)), .int (iz (bpq))])), (bsa, .inr (9, [.ref bsb, .int (iz (bsn2)), .long (lz (bst2))])), (bsb, zaL (G.2 0) 40 (bsf2)), (bda, .inr (9, [.ref bdb, .int (iz (bdn2)), .long (lz (bdt2))])), (bdb, zaL (G.2 0) 40 (bdf2)), (lo, .inr (4, [.ref nr, .ref ne, .ref nh, .ref tb, .ref lq, .long (lz (0)), .int (iz ((0 : Int))), .int (iz (0))]))] H := hP
    have hD : va_D A [(x, .inr (10, [.ref ro, .ref rw, .ref bo, .ref li, .ref sh, .ref tx, .ref lo, .ref nl])), (li, .inr (3, [.ref lv, .ref lf, .ref lg, .int (iz (0))])), (sh, .inr (7, [.ref wt, .int (iz (0))])), (rw, .inr (6, [.ref am, .ref q, .ref bq])), (am, zaL (G.2 0) 41 (fun _ => 0)), (q, .inr (2, [.ref sa, .ref da, .ref wa, .long (lz (ru)), .long (lz (rd)), .int (iz (pq))])), (sa, .inr (9, [.ref sb, .int (iz (sn2)), .long (lz (st2))])), (sb, zaL (G.2 0) 40 (sf2)), (da, .inr (9, [.ref db, .int (iz (dn2)), .long (lz (dt2))])), (db, zaL (G.2 0) 40 (df2)), (bq, .inr (2, [.ref bsa, .ref bda, .ref bwa, .long (lz (bru)), .long (lz (brd)), .int (iz (bpq))])), (bsa, .inr (9, [.ref bsb, .int (iz (bsn2)), .long (lz (bst2))])), (bsb, zaL (G.2 0) 40 (bsf2)), (bda, .inr (9, [.ref bdb, .int (iz (bdn2)), .long (lz (bdt2))])), (bdb, zaL (G.2 0) 40 (bdf2)), (lo, .inr (4, [.ref nr, .ref ne, .ref nh, .ref tb, .ref lq, .long (lz (0)), .int (iz ((0 : Int))), .int (iz (0))]))] := hD
    have he2 : e2 = true := he2
    rw [show e2 = true from he2]
    refine zr_ifz_eq (tgt := 40) hx hb dX9_errors_33 (by decide) (fun h_9 => ?_) (fun h_9 => ?_)
    · exact absurd h_9 (by decide)
    ·
      refine lv_iconst (v := iz (0)) hx hb dX9_errors_36 rfl ?_
      refine lv_goto (tgt := 41) hx hb dX9_errors_37 (by decide) ?_
      refine zr_iadd hx hb dX9_errors_41 ?_
      refine lv_istore_n (lv' := [(2, .int (iz ((0 + 0) + 0))), (0, .ref x), (1, .int (iz (po)))]) hx hb dX9_errors_42 rfl hl (by decide) rfl (fun ls hl => ?_)
      refine lv_iload_n hx hb dX9_errors_43 rfl (lv_at hl 0 rfl) ?_
      refine lv_aload_n hx hb dX9_errors_44 rfl (lv_at hl 1 rfl) ?_
      refine va_get (D := G.1) (ci := 10) (v := .ref li) (C := RX9) (T := TX9) (N := 8) hx hb hts iwX9 hown hK hP 0 rfl rfl 3 (by decide) (hts (.fieldLink RX9 33 "AnnuityHouse" "lives" "LAnnuityHouse$Lives;") (by decide +kernel)) (fun _ h9 => h9) rfl dX9_errors_45 ?_
      refine lv_iload_n hx hb dX9_errors_48 rfl (lv_at hl 2 rfl) ?_
      refine zc_z (wr := [(x, .inr (10, [.ref ro, .ref rw, .ref bo, .ref li, .ref sh, .ref tx, .ref lo, .ref nl])), (sh, .inr (7, [.ref wt, .int (iz (0))])), (rw, .inr (6, [.ref am, .ref q, .ref bq])), (am, zaL (G.2 0) 41 (fun _ => 0)), (q, .inr (2, [.ref sa, .ref da, .ref wa, .long (lz (ru)), .long (lz (rd)), .int (iz (pq))])), (sa, .inr (9, [.ref sb, .int (iz (sn2)), .long (lz (st2))])), (sb, zaL (G.2 0) 40 (sf2)), (da, .inr (9, [.ref db, .int (iz (dn2)), .long (lz (dt2))])), (db, zaL (G.2 0) 40 (df2)), (bq, .inr (2, [.ref bsa, .ref bda, .ref bwa, .long (lz (bru)), .long (lz (brd)), .int (iz (bpq))])), (bsa, .inr (9, [.ref bsb, .int (iz (bsn2)), .long (lz (bst2))])), (bsb, zaL (G.2 0) 40 (bsf2)), (bda, .inr (9, [.ref bdb, .int (iz (bdn2)), .long (lz (bdt2))])), (bdb, zaL (G.2 0) 40 (bdf2)), (lo, .inr (4, [.ref nr, .ref ne, .ref nh, .ref tb, .ref lq, .long (lz (0)), .int (iz ((0 : Int))), .int (iz (0))]))]) (va_runV (As := [.int (iz (po))]) (rest := [.int (iz ((0 + 0) + 0))]) ⟨hx, hb, hml, hown, hts⟩ (c_X2_isSumShared l G li lv lf lg po  H.size) (cwV 1 hts gX9_errors_X2_isSumShared rfl rfl rfl (by decide +kernel) ⟨Nat.le_of_ble_eq_true rfl, Nat.le_of_ble_eq_true rfl⟩) (zpV hKX hP hD [1] rfl rfl 1 3 rfl rfl) rfl rfl hl.1 rfl (lv_room (Nat.le_of_ble_eq_true rfl)) dX9_errors_49 ⟨(by first | exact Nat.le_of_ble_eq_true rfl | (show _ ≤ (0 : Nat); omega)), (by first | exact Nat.le_of_ble_eq_true rfl | (show _ ≤ (0 : Nat); omega))⟩) hP hD hS hA [1] [0, 2, 3, 4, 5, 6, 7, 8, 9, 10, 11, 12, 13, 14, 15] rfl rfl rfl (by decide) (fun e3 u_10 H locs he3 hP hD hS => ?_)
      have hP : va_P G.1 vwCl [(x, .inr (10, [.ref ro, .ref rw, .ref bo, .ref li, .ref sh, .ref tx, .ref lo, .ref nl])), (sh, .inr (7, [.ref wt, .int (iz (0))])), (rw, .inr (6, [.ref am, .ref q, .ref bq])), (am, zaL (G.2 0) 41 (fun _ => 0)), (q, .inr (2, [.ref sa, .ref da, .ref wa, .long (lz (ru)), .long (lz (rd)), .int (iz (pq))])), (sa, .inr (9, [.ref sb, .int (iz (sn2)), .long (lz (st2))])), (sb, zaL (G.2 0) 40 (sf2)), (da, .inr (9, [.ref db, .int (iz (dn2)), .long (lz (dt2))])), (db, zaL (G.2 0) 40 (df2)), (bq, .inr (2, [.ref bsa, .ref bda, .ref bwa, .long (lz (bru)), .long (lz (brd)), .int (iz (bpq))])), (bsa, .inr (9, [.ref bsb, .int (iz (bsn2)), .long (lz (bst2))])), (bsb, zaL (G.2 0) 40 (bsf2)), (bda, .inr (9, [.ref bdb, .int (iz (bdn2)), .long (lz (bdt2))])), (bdb, zaL (G.2 0) 40 (bdf2)), (lo, .inr (4, [.ref nr, .ref ne, .ref nh, .ref tb, .ref lq, .long (lz (0)), .int (iz ((0 : Int))), .int (iz (0))])), (li, .inr (3, [.ref lv, .ref lf, .ref lg, .int (iz (0))]))] H := hP
      have hD : va_D A [(x, .inr (10, [.ref ro, .ref rw, .ref bo, .ref li, .ref sh, .ref tx, .ref lo, .ref nl])), (sh, .inr (7, [.ref wt, .int (iz (0))])), (rw, .inr (6, [.ref am, .ref q, .ref bq])), (am, zaL (G.2 0) 41 (fun _ => 0)), (q, .inr (2, [.ref sa, .ref da, .ref wa, .long (lz (ru)), .long (lz (rd)), .int (iz (pq))])), (sa, .inr (9, [.ref sb, .int (iz (sn2)), .long (lz (st2))])), (sb, zaL (G.2 0) 40 (sf2)), (da, .inr (9, [.ref db, .int (iz (dn2)), .long (lz (dt2))])), (db, zaL (G.2 0) 40 (df2)), (bq, .inr (2, [.ref bsa, .ref bda, .ref bwa, .long (lz (bru)), .long (lz (brd)), .int (iz (bpq))])), (bsa, .inr (9, [.ref bsb, .int (iz (bsn2)), .long (lz (bst2))])), (bsb, zaL (G.2 0) 40 (bsf2)), (bda, .inr (9, [.ref bdb, .int (iz (bdn2)), .long (lz (bdt2))])), (bdb, zaL (G.2 0) 40 (bdf2)), (lo, .inr (4, [.ref nr, .ref ne, .ref nh, .ref tb, .ref lq, .long (lz (0)), .int (iz ((0 : Int))), .int (iz (0))])), (li, .inr (3, [.ref lv, .ref lf, .ref lg, .int (iz (0))]))] := hD
      have he3 : e3 = true := he3
      rw [show e3 = true from he3]
      refine zr_ifz_eq (tgt := 59) hx hb dX9_errors_52 (by decide) (fun h_12 => ?_) (fun h_12 => ?_)
      · exact absurd h_12 (by decide)
      ·
        refine lv_iconst (v := iz (0)) hx hb dX9_errors_55 rfl ?_
        refine lv_goto (tgt := 60) hx hb dX9_errors_56 (by decide) ?_
        refine zr_iadd hx hb dX9_errors_60 ?_
        refine lv_istore_n (lv' := [(2, .int (iz (((0 + 0) + 0) + 0))), (0, .ref x), (1, .int (iz (po)))]) hx hb dX9_errors_61 rfl hl (by decide) rfl (fun ls hl => ?_)
        refine lv_iload_n hx hb dX9_errors_62 rfl (lv_at hl 0 rfl) ?_
        refine lv_aload_n hx hb dX9_errors_63 rfl (lv_at hl 1 rfl) ?_
        refine va_get (D := G.1) (ci := 10) (v := .ref sh) (C := RX9) (T := TX9) (N := 8) hx hb hts iwX9 hown hK hP 0 rfl rfl 4 (by decide) (hts (.fieldLink RX9 40 "AnnuityHouse" "shares" "LAnnuityHouse$Shares;") (by decide +kernel)) (fun _ h9 => h9) rfl dX9_errors_64 ?_
        refine zr_ldc2 (z := 1000003) hx hb hown (hts (.constantLong RX9 270 (1000003)) (by decide +kernel)) rfl dX9_errors_67 ?_
        refine zc_z (wr := [(x, .inr (10, [.ref ro, .ref rw, .ref bo, .ref li, .ref sh, .ref tx, .ref lo, .ref nl])), (rw, .inr (6, [.ref am, .ref q, .ref bq])), (am, zaL (G.2 0) 41 (fun _ => 0)), (q, .inr (2, [.ref sa, .ref da, .ref wa, .long (lz (ru)), .long (lz (rd)), .int (iz (pq))])), (sa, .inr (9, [.ref sb, .int (iz (sn2)), .long (lz (st2))])), (sb, zaL (G.2 0) 40 (sf2)), (da, .inr (9, [.ref db, .int (iz (dn2)), .long (lz (dt2))])), (db, zaL (G.2 0) 40 (df2)), (bq, .inr (2, [.ref bsa, .ref bda, .ref bwa, .long (lz (bru)), .long (lz (brd)), .int (iz (bpq))])), (bsa, .inr (9, [.ref bsb, .int (iz (bsn2)), .long (lz (bst2))])), (bsb, zaL (G.2 0) 40 (bsf2)), (bda, .inr (9, [.ref bdb, .int (iz (bdn2)), .long (lz (bdt2))])), (bdb, zaL (G.2 0) 40 (bdf2)), (lo, .inr (4, [.ref nr, .ref ne, .ref nh, .ref tb, .ref lq, .long (lz (0)), .int (iz ((0 : Int))), .int (iz (0))])), (li, .inr (3, [.ref lv, .ref lf, .ref lg, .int (iz (0))]))]) (va_runV (As := [.long (lz (1000003))]) (rest := [.int (iz (((0 + 0) + 0) + 0))]) ⟨hx, hb, hml, hown, hts⟩ (c_X6_isPartedWhole l G sh wt 1000003  H.size) (cwV 1 hts gX9_errors_X6_isPartedWhole rfl rfl rfl (by decide +kernel) ⟨Nat.le_of_ble_eq_true rfl, Nat.le_of_ble_eq_true rfl⟩) (zpV hKX hP hD [1] rfl rfl 1 7 rfl rfl) rfl rfl hl.1 rfl (lv_room (Nat.le_of_ble_eq_true rfl)) dX9_errors_70 ⟨(by first | exact Nat.le_of_ble_eq_true rfl | (show _ ≤ (0 : Nat); omega)), (by first | exact Nat.le_of_ble_eq_true rfl | (show _ ≤ (0 : Nat); omega))⟩) hP hD hS hA [1] [0, 2, 3, 4, 5, 6, 7, 8, 9, 10, 11, 12, 13, 14, 15] rfl rfl rfl (by decide) (fun e4 u_13 H locs he4 hP hD hS => ?_)
        have hP : va_P G.1 vwCl [(x, .inr (10, [.ref ro, .ref rw, .ref bo, .ref li, .ref sh, .ref tx, .ref lo, .ref nl])), (rw, .inr (6, [.ref am, .ref q, .ref bq])), (am, zaL (G.2 0) 41 (fun _ => 0)), (q, .inr (2, [.ref sa, .ref da, .ref wa, .long (lz (ru)), .long (lz (rd)), .int (iz (pq))])), (sa, .inr (9, [.ref sb, .int (iz (sn2)), .long (lz (st2))])), (sb, zaL (G.2 0) 40 (sf2)), (da, .inr (9, [.ref db, .int (iz (dn2)), .long (lz (dt2))])), (db, zaL (G.2 0) 40 (df2)), (bq, .inr (2, [.ref bsa, .ref bda, .ref bwa, .long (lz (bru)), .long (lz (brd)), .int (iz (bpq))])), (bsa, .inr (9, [.ref bsb, .int (iz (bsn2)), .long (lz (bst2))])), (bsb, zaL (G.2 0) 40 (bsf2)), (bda, .inr (9, [.ref bdb, .int (iz (bdn2)), .long (lz (bdt2))])), (bdb, zaL (G.2 0) 40 (bdf2)), (lo, .inr (4, [.ref nr, .ref ne, .ref nh, .ref tb, .ref lq, .long (lz (0)), .int (iz ((0 : Int))), .int (iz (0))])), (li, .inr (3, [.ref lv, .ref lf, .ref lg, .int (iz (0))])), (sh, .inr (7, [.ref wt, .int (iz (0))]))] H := hP
        have hD : va_D A [(x, .inr (10, [.ref ro, .ref rw, .ref bo, .ref li, .ref sh, .ref tx, .ref lo, .ref nl])), (rw, .inr (6, [.ref am, .ref q, .ref bq])), (am, zaL (G.2 0) 41 (fun _ => 0)), (q, .inr (2, [.ref sa, .ref da, .ref wa, .long (lz (ru)), .long (lz (rd)), .int (iz (pq))])), (sa, .inr (9, [.ref sb, .int (iz (sn2)), .long (lz (st2))])), (sb, zaL (G.2 0) 40 (sf2)), (da, .inr (9, [.ref db, .int (iz (dn2)), .long (lz (dt2))])), (db, zaL (G.2 0) 40 (df2)), (bq, .inr (2, [.ref bsa, .ref bda, .ref bwa, .long (lz (bru)), .long (lz (brd)), .int (iz (bpq))])), (bsa, .inr (9, [.ref bsb, .int (iz (bsn2)), .long (lz (bst2))])), (bsb, zaL (G.2 0) 40 (bsf2)), (bda, .inr (9, [.ref bdb, .int (iz (bdn2)), .long (lz (bdt2))])), (bdb, zaL (G.2 0) 40 (bdf2)), (lo, .inr (4, [.ref nr, .ref ne, .ref nh, .ref tb, .ref lq, .long (lz (0)), .int (iz ((0 : Int))), .int (iz (0))])), (li, .inr (3, [.ref lv, .ref lf, .ref lg, .int (iz (0))])), (sh, .inr (7, [.ref wt, .int (iz (0))]))] := hD
        have he4 : e4 = true := he4
        rw [show e4 = true from he4]
        refine zr_ifz_eq (tgt := 80) hx hb dX9_errors_73 (by decide) (fun h_15 => ?_) (fun h_15 => ?_)
        · exact absurd h_15 (by decide)
        ·
          refine lv_iconst (v := iz (0)) hx hb dX9_errors_76 rfl ?_
          refine lv_goto (tgt := 81) hx hb dX9_errors_77 (by decide) ?_
          refine zr_iadd hx hb dX9_errors_81 ?_
          refine lv_istore_n (lv' := [(2, .int (iz ((((0 + 0) + 0) + 0) + 0))), (0, .ref x), (1, .int (iz (po)))]) hx hb dX9_errors_82 rfl hl (by decide) rfl (fun ls hl => ?_)
          refine lv_iload_n hx hb dX9_errors_83 rfl (lv_at hl 0 rfl) ?_
          rw [hQ]
          exact zr_iret (z := (((0 + 0) + 0) + 0) + 0) (u := (sf2, sn2, st2, df2, dn2, dt2, ru, rd, pq, bsf2, bsn2, bst2, bdf2, bdn2, bdt2, bru, brd, bpq)) hx hb hr hlocks hP hD hS (by first | exact Nat.le_of_ble_eq_true rfl | omega) (by first | exact Nat.le_of_ble_eq_true rfl | omega) dX9_errors_84 (show ((((0 + 0) + 0) + 0) + 0) = 0 from rfl)

def rm_c_X9_errors_x : Room := { frames := 8, cells := 1, slots := 6, locals := 130 }
set_option maxHeartbeats 1000000 in
set_option maxRecDepth 100000 in
theorem c_X9_errors_x (l : Launch) (G : zG) (s1 : Nat) (s2 : Nat) (s3 : Nat) (x : Nat) (ro : Nat) (rw : Nat) (bo : Nat) (li : Nat) (sh : Nat) (tx : Nat) (lo : Nat) (nl : Nat) (po : Int) (hl0 : l.stackTraces = false) (h0 : -2147483648 ≤ po ∧ po < 2147483648) (h1 : ¬ (0 ≤ po ∧ po ≤ 20000)) : zMx l (zXE s1 s2 s3) G yX9_errors wsX9_errors rm_c_X9_errors_x [.ref x, .int (iz (po))] [(x, .inr (10, [.ref ro, .ref rw, .ref bo, .ref li, .ref sh, .ref tx, .ref lo, .ref nl]))] "java/lang/IllegalArgumentException" 1 6 := by
  refine zMx_of (cc := cX9_errors) (maxL := 3) (ret := (some .int)) (by decide) rfl (Nat.le_of_ble_eq_true rfl) ?_
  intro p e s m below meth c ls A Q hQ hx hb hr hts hown hlocks hml hout hKX hE hP hD hA hS hl
  have hK := hKX.1
  obtain ⟨H, hH⟩ : ∃ h, h = s.heap := ⟨_, rfl⟩
  obtain ⟨locs, hlo⟩ : ∃ h : List Loc, h = [] := ⟨_, rfl⟩
  have hS : va_S A s.heap H locs := by rw [hH, hlo]; exact hS
  have hP : va_P G.1 vwCl [(x, .inr (10, [.ref ro, .ref rw, .ref bo, .ref li, .ref sh, .ref tx, .ref lo, .ref nl]))] H := by rw [hH]; exact hP
  have hD : va_D A [(x, .inr (10, [.ref ro, .ref rw, .ref bo, .ref li, .ref sh, .ref tx, .ref lo, .ref nl]))] := hD
  have hl : lv_has ls 3 [(0, .ref x), (1, .int (iz (po)))] := hl
  rw [← hH, ← hlo]
  refine lv_iload_n hx hb dX9_errors_0 rfl (lv_at hl 1 rfl) ?_
  rw [hQ]
  exact zx_thr (X := "java/lang/IllegalArgumentException") (vx_runS (As := [.int (iz (po))]) (rest := []) ⟨hx, hb, hml, hown, hts⟩ (c_X9_demandRate_x l G s1 s2 s3 po hl0 (by omega) (by omega) H.size) (va_cwS 1 hts gX9_errors_X9_demandRate rfl rfl rfl (by decide +kernel) ⟨Nat.le_of_ble_eq_true rfl, Nat.le_of_ble_eq_true rfl⟩) (zpSe zXE_ok hE hS hA hKX hP hD [] rfl rfl) rfl rfl hl.1 rfl (lv_room (Nat.le_of_ble_eq_true rfl)) dX9_errors_1 ⟨(by first | exact Nat.le_of_ble_eq_true rfl | (show _ ≤ (1 : Nat); omega)), (by first | exact Nat.le_of_ble_eq_true rfl | (show _ ≤ (6 : Nat); omega))⟩) hS (va_free (wc := []) hD hS hA [] rfl) hout hlocks (by first | exact Nat.le_of_ble_eq_true rfl | omega) (by first | exact Nat.le_of_ble_eq_true rfl | omega)

def rm_c_X9_meanAmount : Room := { frames := 1, cells := 0, slots := 0, locals := 26 }
theorem iw_X9_meanAmount_X9 : ∀ w ∈ wsX90, w ∈ wsX9_meanAmount := by decide +kernel
set_option maxHeartbeats 1000000 in
set_option maxRecDepth 100000 in
theorem c_X9_meanAmount (l : Launch) (G : zG) (x : Nat) (ro : Nat) (rw : Nat) (bo : Nat) (li : Nat) (sh : Nat) (tx : Nat) (lo : Nat) (nl : Nat) (am : Nat) (q : Nat) (bq : Nat)  : zM l G yX9_meanAmount wsX9_meanAmount rm_c_X9_meanAmount [.ref x] [(x, .inr (10, [.ref ro, .ref rw, .ref bo, .ref li, .ref sh, .ref tx, .ref lo, .ref nl])), (rw, .inr (6, [.ref am, .ref q, .ref bq])), (am, zaL (G.2 0) 41 (fun _ => 0))] (fun A => zQd G (fun (z : UInt64) (_ : Unit) => z = FP.dconst0) (fun (_ : Unit) => [(x, .inr (10, [.ref ro, .ref rw, .ref bo, .ref li, .ref sh, .ref tx, .ref lo, .ref nl])), (rw, .inr (6, [.ref am, .ref q, .ref bq])), (am, zaL (G.2 0) 41 (fun _ => 0))]) A) 0 0 := by
  refine zM_of (cc := cX9_meanAmount) (maxL := 2) (ret := (some .double)) (by decide) rfl (Nat.le_of_ble_eq_true rfl) ?_
  intro p e s m below meth c ls A Q hQ hx hb hr hts hown hlocks hml hnm hKX hP hD hA hS hl
  have hK := hKX.1
  have iwX9 := iw_X9_meanAmount_X9
  obtain ⟨H, hH⟩ : ∃ h, h = s.heap := ⟨_, rfl⟩
  obtain ⟨locs, hlo⟩ : ∃ h : List Loc, h = [] := ⟨_, rfl⟩
  have hS : va_S A s.heap H locs := by rw [hH, hlo]; exact hS
  have hP : va_P G.1 vwCl [(x, .inr (10, [.ref ro, .ref rw, .ref bo, .ref li, .ref sh, .ref tx, .ref lo, .ref nl])), (rw, .inr (6, [.ref am, .ref q, .ref bq])), (am, zaL (G.2 0) 41 (fun _ => 0))] H := by rw [hH]; exact hP
  have hD : va_D A [(x, .inr (10, [.ref ro, .ref rw, .ref bo, .ref li, .ref sh, .ref tx, .ref lo, .ref nl])), (rw, .inr (6, [.ref am, .ref q, .ref bq])), (am, zaL (G.2 0) 41 (fun _ => 0))] := hD
  have hl : lv_has ls 2 [(0, .ref x)] := hl
  rw [← hH, ← hlo]
  refine lv_aload_n hx hb dX9_meanAmount_0 rfl (lv_at hl 0 rfl) ?_
  refine va_get (D := G.1) (ci := 10) (v := .ref rw) (C := RX9) (T := TX9) (N := 8) hx hb hts iwX9 hown hK hP 0 rfl rfl 1 (by decide) (hts (.fieldLink RX9 19 "AnnuityHouse" "row" "LAnnuityHouse$Row;") (by decide +kernel)) (fun _ h9 => h9) rfl dX9_meanAmount_1 ?_
  refine zc_i (wr := [(x, .inr (10, [.ref ro, .ref rw, .ref bo, .ref li, .ref sh, .ref tx, .ref lo, .ref nl]))]) (va_runV (As := []) (rest := []) ⟨hx, hb, hml, hown, hts⟩ (c_X5_countPaying l G rw am q bq (fun _ => 0) (fun _ => ⟨by decide, by decide⟩) H.size) (cwV 0 hts gX9_meanAmount_X5_countPaying rfl rfl rfl (by decide +kernel) ⟨Nat.le_of_ble_eq_true rfl, Nat.le_of_ble_eq_true rfl⟩) (zpV hKX hP hD [1, 2] rfl rfl 1 6 rfl rfl) rfl rfl hl.1 rfl (lv_room (Nat.le_of_ble_eq_true rfl)) dX9_meanAmount_4 ⟨(by first | exact Nat.le_of_ble_eq_true rfl | (show _ ≤ (0 : Nat); omega)), (by first | exact Nat.le_of_ble_eq_true rfl | (show _ ≤ (0 : Nat); omega))⟩) hP hD hS hA [1, 2] [0] rfl rfl rfl (by decide) (fun zz u_1 H locs hz hP hD hS => ?_)
  have hP : va_P G.1 vwCl [(x, .inr (10, [.ref ro, .ref rw, .ref bo, .ref li, .ref sh, .ref tx, .ref lo, .ref nl])), (rw, .inr (6, [.ref am, .ref q, .ref bq])), (am, zaL (G.2 0) 41 ((fun _ => 0)))] H := hP
  have hD : va_D A [(x, .inr (10, [.ref ro, .ref rw, .ref bo, .ref li, .ref sh, .ref tx, .ref lo, .ref nl])), (rw, .inr (6, [.ref am, .ref q, .ref bq])), (am, zaL (G.2 0) 41 ((fun _ => 0)))] := hD
  have hz : zz = zcnt (fun _ => 0) 41 := hz
  have hz0 : zz = 0 := hz.trans (by decide +kernel)
  refine lv_istore_n (lv' := [(1, .int (iz (zz))), (0, .ref x)]) hx hb dX9_meanAmount_7 rfl hl (by decide) rfl (fun ls hl => ?_)
  refine lv_iload_n hx hb dX9_meanAmount_8 rfl (lv_at hl 0 rfl) ?_
  refine zr_if_ne (x := zz) (tgt := 16) hx hb (⟨by omega, by omega⟩) dX9_meanAmount_9 (by decide) (fun h_3 => ?_) (fun h_3 => ?_)
  · exact absurd h_3 (by omega)
  ·
    refine lv_dconst0 hx hb dX9_meanAmount_12 ?_
    refine lv_goto (tgt := 27) hx hb dX9_meanAmount_13 (by decide) ?_
    rw [hQ]
    exact zr_dret (z := FP.dconst0) (u := ()) hx hb hr hlocks hP hD hS (by first | exact Nat.le_of_ble_eq_true rfl | omega) (by first | exact Nat.le_of_ble_eq_true rfl | omega) dX9_meanAmount_27 (show FP.dconst0 = FP.dconst0 from rfl)

def rm_c_X9_interestShare : Room := { frames := 1, cells := 0, slots := 0, locals := 24 }
theorem iw_X9_interestShare_X9 : ∀ w ∈ wsX90, w ∈ wsX9_interestShare := by decide +kernel
set_option maxHeartbeats 1000000 in
set_option maxRecDepth 100000 in
theorem c_X9_interestShare (l : Launch) (G : zG) (x : Nat) (ro : Nat) (rw : Nat) (bo : Nat) (li : Nat) (sh : Nat) (tx : Nat) (lo : Nat) (nl : Nat) (nr : Nat) (ne : Nat) (nh : Nat) (tb : Nat) (lq : Nat)  : zM l G yX9_interestShare wsX9_interestShare rm_c_X9_interestShare [.ref x] [(x, .inr (10, [.ref ro, .ref rw, .ref bo, .ref li, .ref sh, .ref tx, .ref lo, .ref nl])), (lo, .inr (4, [.ref nr, .ref ne, .ref nh, .ref tb, .ref lq, .long (lz (0)), .int (iz (0)), .int (iz (0))]))] (fun A => zQf G (fun (z : UInt32) (_ : Unit) => z = FP.fconst0) (fun (_ : Unit) => [(x, .inr (10, [.ref ro, .ref rw, .ref bo, .ref li, .ref sh, .ref tx, .ref lo, .ref nl])), (lo, .inr (4, [.ref nr, .ref ne, .ref nh, .ref tb, .ref lq, .long (lz (0)), .int (iz (0)), .int (iz (0))]))]) A) 0 0 := by
  refine zM_of (cc := cX9_interestShare) (maxL := 3) (ret := (some .float)) (by decide) rfl (Nat.le_of_ble_eq_true rfl) ?_
  intro p e s m below meth c ls A Q hQ hx hb hr hts hown hlocks hml hnm hKX hP hD hA hS hl
  have hK := hKX.1
  have iwX9 := iw_X9_interestShare_X9
  obtain ⟨H, hH⟩ : ∃ h, h = s.heap := ⟨_, rfl⟩
  obtain ⟨locs, hlo⟩ : ∃ h : List Loc, h = [] := ⟨_, rfl⟩
  have hS : va_S A s.heap H locs := by rw [hH, hlo]; exact hS
  have hP : va_P G.1 vwCl [(x, .inr (10, [.ref ro, .ref rw, .ref bo, .ref li, .ref sh, .ref tx, .ref lo, .ref nl])), (lo, .inr (4, [.ref nr, .ref ne, .ref nh, .ref tb, .ref lq, .long (lz (0)), .int (iz (0)), .int (iz (0))]))] H := by rw [hH]; exact hP
  have hD : va_D A [(x, .inr (10, [.ref ro, .ref rw, .ref bo, .ref li, .ref sh, .ref tx, .ref lo, .ref nl])), (lo, .inr (4, [.ref nr, .ref ne, .ref nh, .ref tb, .ref lq, .long (lz (0)), .int (iz (0)), .int (iz (0))]))] := hD
  have hl : lv_has ls 3 [(0, .ref x)] := hl
  rw [← hH, ← hlo]
  refine lv_aload_n hx hb dX9_interestShare_0 rfl (lv_at hl 0 rfl) ?_
  refine va_get (D := G.1) (ci := 10) (v := .ref lo) (C := RX9) (T := TX9) (N := 8) hx hb hts iwX9 hown hK hP 0 rfl rfl 6 (by decide) (hts (.fieldLink RX9 54 "AnnuityHouse" "loan" "LAnnuityHouse$Loan;") (by decide +kernel)) (fun _ h9 => h9) rfl dX9_interestShare_1 ?_
  refine lv_iconst (v := iz (2)) hx hb dX9_interestShare_4 rfl ?_
  refine zc_l (wr := [(x, .inr (10, [.ref ro, .ref rw, .ref bo, .ref li, .ref sh, .ref tx, .ref lo, .ref nl]))]) (va_runV (As := [.int (iz (2))]) (rest := []) ⟨hx, hb, hml, hown, hts⟩ (c_X3_sumOf l G lo nr ne nh tb lq 0 0 2  H.size) (cwV 1 hts gX9_interestShare_X3_sumOf rfl rfl rfl (by decide +kernel) ⟨Nat.le_of_ble_eq_true rfl, Nat.le_of_ble_eq_true rfl⟩) (zpV hKX hP hD [1] rfl rfl 1 4 rfl rfl) rfl rfl hl.1 rfl (lv_room (Nat.le_of_ble_eq_true rfl)) dX9_interestShare_5 ⟨(by first | exact Nat.le_of_ble_eq_true rfl | (show _ ≤ (0 : Nat); omega)), (by first | exact Nat.le_of_ble_eq_true rfl | (show _ ≤ (0 : Nat); omega))⟩) hP hD hS hA [1] [0] rfl rfl rfl (by decide) (fun zz u_1 H locs hz hP hD hS => ?_)
  have hP : va_P G.1 vwCl [(x, .inr (10, [.ref ro, .ref rw, .ref bo, .ref li, .ref sh, .ref tx, .ref lo, .ref nl])), (lo, .inr (4, [.ref nr, .ref ne, .ref nh, .ref tb, .ref lq, .long (lz ((0 : Int))), .int (iz ((0 : Int))), .int (iz (0))]))] H := hP
  have hD : va_D A [(x, .inr (10, [.ref ro, .ref rw, .ref bo, .ref li, .ref sh, .ref tx, .ref lo, .ref nl])), (lo, .inr (4, [.ref nr, .ref ne, .ref nh, .ref tb, .ref lq, .long (lz ((0 : Int))), .int (iz ((0 : Int))), .int (iz (0))]))] := hD
  have hz : zz = 0 := hz
  refine lv_lstore_n (lv' := [(1, .long (lz (zz))), (0, .ref x)]) hx hb dX9_interestShare_8 rfl hl (by decide) rfl (fun ls hl => ?_)
  refine lv_lload_n hx hb dX9_interestShare_9 rfl (lv_at hl 0 rfl) ?_
  refine lv_lconst (v := lz (0)) hx hb dX9_interestShare_10 rfl ?_
  refine zr_lcmp_ne (x := zz) (y := 0) (tgt := 19) hx hb (⟨by omega, by omega⟩) (⟨by omega, by omega⟩) dX9_interestShare_11 dX9_interestShare_12 (by decide) (fun h_3 => ?_) (fun h_3 => ?_)
  · exact absurd h_3 (by omega)
  ·
    refine lv_fconst0 hx hb dX9_interestShare_15 ?_
    refine lv_goto (tgt := 31) hx hb dX9_interestShare_16 (by decide) ?_
    rw [hQ]
    exact zr_fret (z := FP.fconst0) (u := ()) hx hb hr hlocks hP hD hS (by first | exact Nat.le_of_ble_eq_true rfl | omega) (by first | exact Nat.le_of_ble_eq_true rfl | omega) dX9_interestShare_31 (show FP.fconst0 = FP.fconst0 from rfl)
