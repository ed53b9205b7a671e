-- THE CLASS'S WHOLE NUMBERS: contracts (laid by wip/walk/x8.py)
def rm_c_X8_limb : Room := { frames := 0, cells := 0, slots := 0, locals := 0 }
theorem iw_X8_limb_X8 : ∀ w ∈ wsX80, w ∈ wsX8_limb := by decide +kernel
set_option maxHeartbeats 1000000 in
set_option maxRecDepth 100000 in
theorem c_X8_limb (l : Launch) (G : zG) (a : Nat) (b : Nat) (f : Int → Int) (n : Int) (t : Int) (i : Int) (h1 : 0 ≤ n ∧ n ≤ 40) (h2 : -2147483648 ≤ i ∧ i < 2147483648) : zM l G yX8_limb wsX8_limb rm_c_X8_limb [.ref a, .int (iz (i))] [(a, .inr (9, [.ref b, .int (iz (n)), .long (lz (t))])), (b, zaL (G.2 0) 40 (f))] (fun A => zQl G (fun (z : Int) (_ : Unit) => z = if 0 ≤ i ∧ i < n then f i else t % 1073741824) (fun (_ : Unit) => [(a, .inr (9, [.ref b, .int (iz (n)), .long (lz (t))])), (b, zaL (G.2 0) 40 (f))]) A) 0 0 := by
  refine zM_of (cc := cX8_limb) (maxL := 2) (ret := (some .long)) (by decide) rfl (Nat.le_of_ble_eq_true rfl) ?_
  intro p e s m below meth c ls A Q hQ hx hb hr hts hown hlocks hml hnm hKX hP hD hA hS hl
  have hK := hKX.1
  have iwX8 := iw_X8_limb_X8
  obtain ⟨H, hH⟩ : ∃ h, h = s.heap := ⟨_, rfl⟩
  obtain ⟨locs, hlo⟩ : ∃ h : List Loc, h = [] := ⟨_, rfl⟩
  have hS : va_S A s.heap H locs := by rw [hH, hlo]; exact hS
  have hP : va_P G.1 vwCl [(a, .inr (9, [.ref b, .int (iz (n)), .long (lz (t))])), (b, zaL (G.2 0) 40 (f))] H := by rw [hH]; exact hP
  have hD : va_D A [(a, .inr (9, [.ref b, .int (iz (n)), .long (lz (t))])), (b, zaL (G.2 0) 40 (f))] := hD
  have hl : lv_has ls 2 [(0, .ref a), (1, .int (iz (i)))] := hl
  rw [← hH, ← hlo]
  refine lv_iload_n hx hb dX8_limb_0 rfl (lv_at hl 1 rfl) ?_
  refine zr_if_lt (x := i) (tgt := 21) hx hb (⟨by omega, by omega⟩) dX8_limb_1 (by decide) (fun h_1 => ?_) (fun h_1 => ?_)
  ·
    refine lv_aload_n hx hb dX8_limb_21 rfl (lv_at hl 0 rfl) ?_
    refine va_get (D := G.1) (ci := 9) (v := .long (lz (t))) (C := RX8) (T := TX8) (N := 3) hx hb hts iwX8 hown hK hP 0 rfl rfl 2 (by decide) (hts (.fieldLink RX8 19 "AnnuityHouse$Whole" "top" "J") (by decide +kernel)) (fun _ h9 => h9) rfl dX8_limb_22 ?_
    refine zr_ldc2 (z := 1073741823) hx hb hown (hts (.constantLong RX8 31 (1073741823)) (by decide +kernel)) rfl dX8_limb_25 ?_
    refine zr_land30 hx hb dX8_limb_28 ?_
    rw [hQ]
    exact zr_lret (z := t % 1073741824) (u := ()) hx hb hr hlocks hP hD hS (by first | exact Nat.le_of_ble_eq_true rfl | omega) (by first | exact Nat.le_of_ble_eq_true rfl | omega) dX8_limb_29 (show (t % 1073741824) = if 0 ≤ i ∧ i < n then f i else t % 1073741824 from by first | exact (if_pos (by omega)).symm | exact (if_neg (by omega)).symm)
  ·
    refine lv_iload_n hx hb dX8_limb_4 rfl (lv_at hl 1 rfl) ?_
    refine lv_aload_n hx hb dX8_limb_5 rfl (lv_at hl 0 rfl) ?_
    refine va_get (D := G.1) (ci := 9) (v := .int (iz (n))) (C := RX8) (T := TX8) (N := 3) hx hb hts iwX8 hown hK hP 0 rfl rfl 1 (by decide) (hts (.fieldLink RX8 15 "AnnuityHouse$Whole" "size" "I") (by decide +kernel)) (fun _ h9 => h9) rfl dX8_limb_6 ?_
    refine zr_icmp_ge (x := i) (y := n) (tgt := 21) hx hb (⟨by omega, by omega⟩) (⟨by omega, by omega⟩) dX8_limb_9 (by decide) (fun h_2 => ?_) (fun h_2 => ?_)
    ·
      refine lv_aload_n hx hb dX8_limb_21 rfl (lv_at hl 0 rfl) ?_
      refine va_get (D := G.1) (ci := 9) (v := .long (lz (t))) (C := RX8) (T := TX8) (N := 3) hx hb hts iwX8 hown hK hP 0 rfl rfl 2 (by decide) (hts (.fieldLink RX8 19 "AnnuityHouse$Whole" "top" "J") (by decide +kernel)) (fun _ h9 => h9) rfl dX8_limb_22 ?_
      refine zr_ldc2 (z := 1073741823) hx hb hown (hts (.constantLong RX8 31 (1073741823)) (by decide +kernel)) rfl dX8_limb_25 ?_
      refine zr_land30 hx hb dX8_limb_28 ?_
      rw [hQ]
      exact zr_lret (z := t % 1073741824) (u := ()) hx hb hr hlocks hP hD hS (by first | exact Nat.le_of_ble_eq_true rfl | omega) (by first | exact Nat.le_of_ble_eq_true rfl | omega) dX8_limb_29 (show (t % 1073741824) = if 0 ≤ i ∧ i < n then f i else t % 1073741824 from by first | exact (if_pos (by omega)).symm | exact (if_neg (by omega)).symm)
    ·
      refine lv_aload_n hx hb dX8_limb_12 rfl (lv_at hl 0 rfl) ?_
      refine va_get (D := G.1) (ci := 9) (v := .ref b) (C := RX8) (T := TX8) (N := 3) hx hb hts iwX8 hown hK hP 0 rfl rfl 0 (by decide) (hts (.fieldLink RX8 11 "AnnuityHouse$Whole" "limbs" "[J") (by decide +kernel)) (fun _ h9 => h9) rfl dX8_limb_13 ?_
      refine lv_iload_n hx hb dX8_limb_16 rfl (lv_at hl 1 rfl) ?_
      refine zr_lald hx hb hK hP 1 0 rfl rfl (i := i) (⟨by omega, by omega, by omega⟩) dX8_limb_17 ?_
      refine lv_goto (tgt := 29) hx hb dX8_limb_18 (by decide) ?_
      rw [hQ]
      exact zr_lret (z := f i) (u := ()) hx hb hr hlocks hP hD hS (by first | exact Nat.le_of_ble_eq_true rfl | omega) (by first | exact Nat.le_of_ble_eq_true rfl | omega) dX8_limb_29 (show (f i) = if 0 ≤ i ∧ i < n then f i else t % 1073741824 from by first | exact (if_pos (by omega)).symm | exact (if_neg (by omega)).symm)

def rm_c_X8_sign : Room := { frames := 0, cells := 0, slots := 0, locals := 0 }
theorem iw_X8_sign_X8 : ∀ w ∈ wsX80, w ∈ wsX8_sign := by decide +kernel
set_option maxHeartbeats 1000000 in
set_option maxRecDepth 100000 in
theorem c_X8_sign (l : Launch) (G : zG) (a : Nat) (b : Nat) (f : Int → Int) (n : Int) (t : Int) (v : Int) (h1 : zwv f n t v) : zM l G yX8_sign wsX8_sign rm_c_X8_sign [.ref a] [(a, .inr (9, [.ref b, .int (iz (n)), .long (lz (t))])), (b, zaL (G.2 0) 40 (f))] (fun A => zQi G (fun (z : Int) (_ : Unit) => z = v.sign) (fun (_ : Unit) => [(a, .inr (9, [.ref b, .int (iz (n)), .long (lz (t))])), (b, zaL (G.2 0) 40 (f))]) A) 0 0 := by
  refine zM_of (cc := cX8_sign) (maxL := 1) (ret := (some .int)) (by decide) rfl (Nat.le_of_ble_eq_true rfl) ?_
  intro p e s m below meth c ls A Q hQ hx hb hr hts hown hlocks hml hnm hKX hP hD hA hS hl
  have hK := hKX.1
  have iwX8 := iw_X8_sign_X8
  obtain ⟨H, hH⟩ : ∃ h, h = s.heap := ⟨_, rfl⟩
  obtain ⟨locs, hlo⟩ : ∃ h : List Loc, h = [] := ⟨_, rfl⟩
  have hS : va_S A s.heap H locs := by rw [hH, hlo]; exact hS
  have hP : va_P G.1 vwCl [(a, .inr (9, [.ref b, .int (iz (n)), .long (lz (t))])), (b, zaL (G.2 0) 40 (f))] H := by rw [hH]; exact hP
  have hD : va_D A [(a, .inr (9, [.ref b, .int (iz (n)), .long (lz (t))])), (b, zaL (G.2 0) 40 (f))] := hD
  have hl : lv_has ls 1 [(0, .ref a)] := hl
  rw [← hH, ← hlo]
  refine lv_aload_n hx hb dX8_sign_0 rfl (lv_at hl 0 rfl) ?_
  refine va_get (D := G.1) (ci := 9) (v := .long (lz (t))) (C := RX8) (T := TX8) (N := 3) hx hb hts iwX8 hown hK hP 0 rfl rfl 2 (by decide) (hts (.fieldLink RX8 19 "AnnuityHouse$Whole" "top" "J") (by decide +kernel)) (fun _ h9 => h9) rfl dX8_sign_1 ?_
  refine lv_lconst (v := lz (0)) hx hb dX8_sign_4 rfl ?_
  refine zr_lcmp_ge (x := t) (y := 0) (tgt := 11) hx hb (h1.tl) (⟨by omega, by omega⟩) dX8_sign_5 dX8_sign_6 (by decide) (fun h_1 => ?_) (fun h_1 => ?_)
  ·
    refine lv_aload_n hx hb dX8_sign_11 rfl (lv_at hl 0 rfl) ?_
    refine va_get (D := G.1) (ci := 9) (v := .int (iz (n))) (C := RX8) (T := TX8) (N := 3) hx hb hts iwX8 hown hK hP 0 rfl rfl 1 (by decide) (hts (.fieldLink RX8 15 "AnnuityHouse$Whole" "size" "I") (by decide +kernel)) (fun _ h9 => h9) rfl dX8_sign_12 ?_
    refine zr_if_le (x := n) (tgt := 22) hx hb (h1.ni) dX8_sign_15 (by decide) (fun h_2 => ?_) (fun h_2 => ?_)
    ·
      refine lv_iconst (v := iz (0)) hx hb dX8_sign_22 rfl ?_
      rw [hQ]
      exact zr_iret (z := 0) (u := ()) hx hb hr hlocks hP hD hS (by first | exact Nat.le_of_ble_eq_true rfl | omega) (by first | exact Nat.le_of_ble_eq_true rfl | omega) dX8_sign_23 (show 0 = v.sign from by first | exact (Int.sign_eq_neg_one_of_neg (h1.neg (by omega))).symm | exact (Int.sign_eq_one_of_pos (h1.pos (by omega) (by omega))).symm | exact (congrArg Int.sign (h1.nul (by omega) (by omega))).symm)
    ·
      refine lv_iconst (v := iz (1)) hx hb dX8_sign_18 rfl ?_
      refine lv_goto (tgt := 23) hx hb dX8_sign_19 (by decide) ?_
      rw [hQ]
      exact zr_iret (z := 1) (u := ()) hx hb hr hlocks hP hD hS (by first | exact Nat.le_of_ble_eq_true rfl | omega) (by first | exact Nat.le_of_ble_eq_true rfl | omega) dX8_sign_23 (show 1 = v.sign from by first | exact (Int.sign_eq_neg_one_of_neg (h1.neg (by omega))).symm | exact (Int.sign_eq_one_of_pos (h1.pos (by omega) (by omega))).symm | exact (congrArg Int.sign (h1.nul (by omega) (by omega))).symm)
  ·
    refine lv_iconst (v := iz (-1)) hx hb dX8_sign_9 rfl ?_
    rw [hQ]
    exact zr_iret (z := -1) (u := ()) hx hb hr hlocks hP hD hS (by first | exact Nat.le_of_ble_eq_true rfl | omega) (by first | exact Nat.le_of_ble_eq_true rfl | omega) dX8_sign_10 (show (-1) = v.sign from by first | exact (Int.sign_eq_neg_one_of_neg (h1.neg (by omega))).symm | exact (Int.sign_eq_one_of_pos (h1.pos (by omega) (by omega))).symm | exact (congrArg Int.sign (h1.nul (by omega) (by omega))).symm)

def rm_c_X8_makeRoom : Room := { frames := 0, cells := 0, slots := 0, locals := 0 }
theorem iw_X8_makeRoom_X8 : ∀ w ∈ wsX80, w ∈ wsX8_makeRoom := by decide +kernel
set_option maxHeartbeats 1000000 in
set_option maxRecDepth 100000 in
theorem c_X8_makeRoom (l : Launch) (G : zG) (a : Nat) (b : Nat) (f : Int → Int) (n : Int) (t : Int) (i : Int) (h1 : 0 ≤ i ∧ i ≤ 37) : zM l G yX8_makeRoom wsX8_makeRoom rm_c_X8_makeRoom [.ref a, .int (iz (i))] [(a, .inr (9, [.ref b, .int (iz (n)), .long (lz (t))])), (b, zaL (G.2 0) 40 (f))] (fun A => zQv G (fun (_ : Unit) => True) (fun (_ : Unit) => [(a, .inr (9, [.ref b, .int (iz (n)), .long (lz (t))])), (b, zaL (G.2 0) 40 (f))]) A) 0 0 := by
  refine zM_of (cc := cX8_makeRoom) (maxL := 2) (ret := none) (by decide) rfl (Nat.le_of_ble_eq_true rfl) ?_
  intro p e s m below meth c ls A Q hQ hx hb hr hts hown hlocks hml hnm hKX hP hD hA hS hl
  have hK := hKX.1
  have iwX8 := iw_X8_makeRoom_X8
  obtain ⟨H, hH⟩ : ∃ h, h = s.heap := ⟨_, rfl⟩
  obtain ⟨locs, hlo⟩ : ∃ h : List Loc, h = [] := ⟨_, rfl⟩
  have hS : va_S A s.heap H locs := by rw [hH, hlo]; exact hS
  have hP : va_P G.1 vwCl [(a, .inr (9, [.ref b, .int (iz (n)), .long (lz (t))])), (b, zaL (G.2 0) 40 (f))] H := by rw [hH]; exact hP
  have hD : va_D A [(a, .inr (9, [.ref b, .int (iz (n)), .long (lz (t))])), (b, zaL (G.2 0) 40 (f))] := hD
  have hl : lv_has ls 2 [(0, .ref a), (1, .int (iz (i)))] := hl
  rw [← hH, ← hlo]
  refine lv_iload_n hx hb dX8_makeRoom_0 rfl (lv_at hl 1 rfl) ?_
  refine lv_iconst (v := iz (3)) hx hb dX8_makeRoom_1 rfl ?_
  refine zr_iadd hx hb dX8_makeRoom_2 ?_
  refine lv_aload_n hx hb dX8_makeRoom_3 rfl (lv_at hl 0 rfl) ?_
  refine va_get (D := G.1) (ci := 9) (v := .ref b) (C := RX8) (T := TX8) (N := 3) hx hb hts iwX8 hown hK hP 0 rfl rfl 0 (by decide) (hts (.fieldLink RX8 11 "AnnuityHouse$Whole" "limbs" "[J") (by decide +kernel)) (fun _ h9 => h9) rfl dX8_makeRoom_4 ?_
  refine zr_alenL hx hb hK hP 1 0 rfl rfl dX8_makeRoom_7 ?_
  refine zr_icmp_le (x := i + 3) (y := 40) (tgt := 25) hx hb (⟨by omega, by omega⟩) (⟨by omega, by omega⟩) dX8_makeRoom_8 (by decide) (fun h_1 => ?_) (fun h_1 => ?_)
  ·
    rw [hQ]
    exact zr_vret (u := ()) hx hb hr hlocks hP hD hS (by first | exact Nat.le_of_ble_eq_true rfl | omega) (by first | exact Nat.le_of_ble_eq_true rfl | omega) dX8_makeRoom_25 (show True from trivial)
  · exact absurd h_1 (by omega)

def rm_c_X8_finish : Room := { frames := 0, cells := 0, slots := 0, locals := 0 }
theorem iw_X8_finish_X8 : ∀ w ∈ wsX80, w ∈ wsX8_finish := by decide +kernel
set_option maxHeartbeats 1000000 in
set_option maxRecDepth 100000 in
theorem c_X8_finish (l : Launch) (G : zG) (a : Nat) (b : Nat) (f : Int → Int) (n : Int) (t : Int) (i0 : Int) (x : Int) (h1 : 0 ≤ i0 ∧ i0 ≤ 37) (h2 : zdig f i0) (h3 : -9223372036854775808 ≤ x ∧ x < 9223372036854775808) : zM l G yX8_finish wsX8_finish rm_c_X8_finish [.ref a, .int (iz (i0)), .long (lz (x))] [(a, .inr (9, [.ref b, .int (iz (n)), .long (lz (t))])), (b, zaL (G.2 0) 40 (f))] (fun A => zQv G (fun (u : (Int → Int) × Int × Int) => zwv u.1 u.2.1 u.2.2 (zsum f i0.toNat + x * 1073741824 ^ i0.toNat)) (fun (u : (Int → Int) × Int × Int) => [(a, .inr (9, [.ref b, .int (iz (u.2.1)), .long (lz (u.2.2))])), (b, zaL (G.2 0) 40 (u.1))]) A) 0 0 := by
  refine zM_of (cc := cX8_finish) (maxL := 7) (ret := none) (by decide) rfl (Nat.le_of_ble_eq_true rfl) ?_
  intro p e s m below meth c ls A Q hQ hx hb hr hts hown hlocks hml hnm hKX hP hD hA hS hl
  have hK := hKX.1
  have iwX8 := iw_X8_finish_X8
  obtain ⟨H, hH⟩ : ∃ h, h = s.heap := ⟨_, rfl⟩
  obtain ⟨locs, hlo⟩ : ∃ h : List Loc, h = [] := ⟨_, rfl⟩
  have hS : va_S A s.heap H locs := by rw [hH, hlo]; exact hS
  have hP : va_P G.1 vwCl [(a, .inr (9, [.ref b, .int (iz (n)), .long (lz (t))])), (b, zaL (G.2 0) 40 (f))] H := by rw [hH]; exact hP
  have hD : va_D A [(a, .inr (9, [.ref b, .int (iz (n)), .long (lz (t))])), (b, zaL (G.2 0) 40 (f))] := hD
  have hl : lv_has ls 7 [(0, .ref a), (1, .int (iz (i0))), (2, .long (lz (x)))] := hl
  rw [← hH, ← hlo]
  refine lv_lload_n hx hb dX8_finish_0 rfl (lv_at hl 2 rfl) ?_
  refine lv_lstore (lv' := [(4, .long (lz (x))), (0, .ref a), (1, .int (iz (i0))), (2, .long (lz (x)))]) hx hb dX8_finish_1 hl (by decide) rfl (fun ls hl => ?_)
  refine lv_aload_n hx hb dX8_finish_3 rfl (lv_at hl 1 rfl) ?_
  refine lv_iload_n hx hb dX8_finish_4 rfl (lv_at hl 2 rfl) ?_
  refine lv_iconst (v := iz (3)) hx hb dX8_finish_5 rfl ?_
  refine zr_iadd hx hb dX8_finish_6 ?_
  refine va_put (D := G.1) (ci := 9) (v := .int (iz (i0 + 3))) (ty := .int) (C := RX8) (T := TX8) (N := 3) hx hb hts iwX8 tyX8 tyX8_ok nmX8 hown hK hP hD hS 0 rfl rfl 1 (by decide) (hts (.fieldLink RX8 15 "AnnuityHouse$Whole" "size" "I") (by decide +kernel)) (fun _ h9 => h9) rfl (by decide +kernel) rfl rfl (Nat.le_of_ble_eq_true rfl) dX8_finish_7 (fun H locs hP hD hS => ?_)
  have hP : va_P G.1 vwCl [(a, .inr (9, [.ref b, .int (iz (i0 + 3)), .long (lz (t))])), (b, zaL (G.2 0) 40 (f))] H := hP
  have hD : va_D A [(a, .inr (9, [.ref b, .int (iz (i0 + 3)), .long (lz (t))])), (b, zaL (G.2 0) 40 (f))] := hD
  refine lv_iload_n hx hb dX8_finish_10 rfl (lv_at hl 2 rfl) ?_
  refine lv_istore (lv' := [(6, .int (iz (i0))), (4, .long (lz (x))), (0, .ref a), (1, .int (iz (i0))), (2, .long (lz (x)))]) hx hb dX8_finish_11 hl (by decide) rfl (fun ls hl => ?_)
  have hl_13 : ∀ (zn_13 : Nat) (i : Int) (r : Int) (g : Int → Int) (H : Heap) (locs : List Loc) (ls : Array Slot), (i0 + 3 - i).toNat < zn_13 → (i0 ≤ i ∧ i ≤ i0 + 3) → (zdig g i) → (zsum g i.toNat + r * 1073741824 ^ i.toNat = zsum f i0.toNat + x * 1073741824 ^ i0.toNat) → ((i = i0 → -9223372036854775808 ≤ r ∧ r < 9223372036854775808) ∧ (i = i0 + 1 → -8589934592 ≤ r ∧ r < 8589934592) ∧ (i = i0 + 2 → -8 ≤ r ∧ r < 8) ∧ (i = i0 + 3 → -1 ≤ r ∧ r < 1)) → va_P G.1 vwCl [(a, .inr (9, [.ref b, .int (iz (i0 + 3)), .long (lz (t))])), (b, zaL (G.2 0) 40 (g))] H → va_D A [(a, .inr (9, [.ref b, .int (iz (i0 + 3)), .long (lz (t))])), (b, zaL (G.2 0) 40 (g))] → va_S A s.heap H locs → lv_has ls 7 [(6, .int (iz (i))), (4, .long (lz (r))), (0, .ref a), (1, .int (iz (i0))), (2, .long (lz (x)))] → W p l e rm_c_X8_finish s m ([.ref a, .int (iz (i0)), .long (lz (x))] : List Value).toArray below meth c H locs 0 0 Q (F0 m 13 ls []) := by
    intro zn_13
    induction zn_13 with
    | zero => intro i r g H locs ls hm; exact absurd hm (Nat.not_lt_zero _)
    | succ zn_13 ih_13 =>
      intro i r g H locs ls hm_13 k1 k2 k3 k4 hP hD hS hl
      refine lv_iload hx hb dX8_finish_13 (lv_at hl 0 rfl) ?_
      refine lv_aload_n hx hb dX8_finish_15 rfl (lv_at hl 2 rfl) ?_
      refine va_get (D := G.1) (ci := 9) (v := .int (iz (i0 + 3))) (C := RX8) (T := TX8) (N := 3) hx hb hts iwX8 hown hK hP 0 rfl rfl 1 (by decide) (hts (.fieldLink RX8 15 "AnnuityHouse$Whole" "size" "I") (by decide +kernel)) (fun _ h9 => h9) rfl dX8_finish_16 ?_
      refine zr_icmp_ge (x := i) (y := i0 + 3) (tgt := 48) hx hb (⟨by omega, by omega⟩) (⟨by omega, by omega⟩) dX8_finish_19 (by decide) (fun h_1 => ?_) (fun h_1 => ?_)
      ·
        refine lv_aload_n hx hb dX8_finish_48 rfl (lv_at hl 2 rfl) ?_
        refine lv_lload hx hb dX8_finish_49 (lv_at hl 1 rfl) ?_
        refine va_put (D := G.1) (ci := 9) (v := .long (lz (r))) (ty := .long) (C := RX8) (T := TX8) (N := 3) hx hb hts iwX8 tyX8 tyX8_ok nmX8 hown hK hP hD hS 0 rfl rfl 2 (by decide) (hts (.fieldLink RX8 19 "AnnuityHouse$Whole" "top" "J") (by decide +kernel)) (fun _ h9 => h9) rfl (by decide +kernel) rfl rfl (Nat.le_of_ble_eq_true rfl) dX8_finish_51 (fun H locs hP hD hS => ?_)
        have hP : va_P G.1 vwCl [(a, .inr (9, [.ref b, .int (iz (i0 + 3)), .long (lz (r))])), (b, zaL (G.2 0) 40 (g))] H := hP
        have hD : va_D A [(a, .inr (9, [.ref b, .int (iz (i0 + 3)), .long (lz (r))])), (b, zaL (G.2 0) 40 (g))] := hD
        have hl_54 : ∀ (zn_54 : Nat) (j : Int) (H : Heap) (locs : List Loc) (ls : Array Slot), (j).toNat < zn_54 → (0 ≤ j ∧ j ≤ 40) → (zdig g j) → (zsum g j.toNat + r * 1073741824 ^ j.toNat = zsum f i0.toNat + x * 1073741824 ^ i0.toNat) → va_P G.1 vwCl [(a, .inr (9, [.ref b, .int (iz (j)), .long (lz (r))])), (b, zaL (G.2 0) 40 (g))] H → va_D A [(a, .inr (9, [.ref b, .int (iz (j)), .long (lz (r))])), (b, zaL (G.2 0) 40 (g))] → va_S A s.heap H locs → lv_has ls 7 [(0, .ref a), (1, .int (iz (i0))), (2, .long (lz (x)))] → W p l e rm_c_X8_finish s m ([.ref a, .int (iz (i0)), .long (lz (x))] : List Value).toArray below meth c H locs 0 0 Q (F0 m 54 ls []) := by
          intro zn_54
          induction zn_54 with
          | zero => intro j H locs ls hm; exact absurd hm (Nat.not_lt_zero _)
          | succ zn_54 ih_54 =>
            intro j H locs ls hm_54 m1 m2 m3 hP hD hS hl
            refine lv_aload_n hx hb dX8_finish_54 rfl (lv_at hl 0 rfl) ?_
            refine va_get (D := G.1) (ci := 9) (v := .int (iz (j))) (C := RX8) (T := TX8) (N := 3) hx hb hts iwX8 hown hK hP 0 rfl rfl 1 (by decide) (hts (.fieldLink RX8 15 "AnnuityHouse$Whole" "size" "I") (by decide +kernel)) (fun _ h9 => h9) rfl dX8_finish_55 ?_
            refine zr_if_le (x := j) (tgt := 97) hx hb (⟨by omega, by omega⟩) dX8_finish_58 (by decide) (fun h_2 => ?_) (fun h_2 => ?_)
            ·
              rw [hQ]
              exact zr_vret (u := (g, j, r)) hx hb hr hlocks hP hD hS (by first | exact Nat.le_of_ble_eq_true rfl | omega) (by first | exact Nat.le_of_ble_eq_true rfl | omega) dX8_finish_97 (show zwv g j r (zsum f i0.toNat + x * 1073741824 ^ i0.toNat) from zwv_mk m1.1 m1.2 (by omega) m2 m3.symm (fun _ => by first | assumption | omega))
            ·
              refine lv_aload_n hx hb dX8_finish_61 rfl (lv_at hl 0 rfl) ?_
              refine va_get (D := G.1) (ci := 9) (v := .ref b) (C := RX8) (T := TX8) (N := 3) hx hb hts iwX8 hown hK hP 0 rfl rfl 0 (by decide) (hts (.fieldLink RX8 11 "AnnuityHouse$Whole" "limbs" "[J") (by decide +kernel)) (fun _ h9 => h9) rfl dX8_finish_62 ?_
              refine lv_aload_n hx hb dX8_finish_65 rfl (lv_at hl 0 rfl) ?_
              refine va_get (D := G.1) (ci := 9) (v := .int (iz (j))) (C := RX8) (T := TX8) (N := 3) hx hb hts iwX8 hown hK hP 0 rfl rfl 1 (by decide) (hts (.fieldLink RX8 15 "AnnuityHouse$Whole" "size" "I") (by decide +kernel)) (fun _ h9 => h9) rfl dX8_finish_66 ?_
              refine lv_iconst (v := iz (1)) hx hb dX8_finish_69 rfl ?_
              refine zr_isub hx hb dX8_finish_70 ?_
              refine zr_lald hx hb hK hP 1 0 rfl rfl (i := j - 1) (⟨by omega, by omega, by omega⟩) dX8_finish_71 ?_
              refine lv_aload_n hx hb dX8_finish_72 rfl (lv_at hl 0 rfl) ?_
              refine va_get (D := G.1) (ci := 9) (v := .long (lz (r))) (C := RX8) (T := TX8) (N := 3) hx hb hts iwX8 hown hK hP 0 rfl rfl 2 (by decide) (hts (.fieldLink RX8 19 "AnnuityHouse$Whole" "top" "J") (by decide +kernel)) (fun _ h9 => h9) rfl dX8_finish_73 ?_
              refine zr_ldc2 (z := 1073741823) hx hb hown (hts (.constantLong RX8 31 (1073741823)) (by decide +kernel)) rfl dX8_finish_76 ?_
              refine zr_land30 hx hb dX8_finish_79 ?_
              refine zr_lcmp_ne (x := g (j - 1)) (y := r % 1073741824) (tgt := 97) hx hb (by have := m2 (j - 1) (by omega) (by omega); exact ⟨by omega, by omega⟩) (⟨by omega, by omega⟩) dX8_finish_80 dX8_finish_81 (by decide) (fun h_3 => ?_) (fun h_3 => ?_)
              ·
                rw [hQ]
                exact zr_vret (u := (g, j, r)) hx hb hr hlocks hP hD hS (by first | exact Nat.le_of_ble_eq_true rfl | omega) (by first | exact Nat.le_of_ble_eq_true rfl | omega) dX8_finish_97 (show zwv g j r (zsum f i0.toNat + x * 1073741824 ^ i0.toNat) from zwv_mk m1.1 m1.2 (by omega) m2 m3.symm (fun _ => by first | assumption | omega))
              ·
                have hh := h_3
                have rr : r = 0 ∨ r = -1 := by omega
                refine lv_aload_n hx hb dX8_finish_84 rfl (lv_at hl 0 rfl) ?_
                refine lv_dup hx hb dX8_finish_85 rfl ?_
                refine va_get (D := G.1) (ci := 9) (v := .int (iz (j))) (C := RX8) (T := TX8) (N := 3) hx hb hts iwX8 hown hK hP 0 rfl rfl 1 (by decide) (hts (.fieldLink RX8 15 "AnnuityHouse$Whole" "size" "I") (by decide +kernel)) (fun _ h9 => h9) rfl dX8_finish_86 ?_
                refine lv_iconst (v := iz (1)) hx hb dX8_finish_89 rfl ?_
                refine zr_isub hx hb dX8_finish_90 ?_
                refine va_put (D := G.1) (ci := 9) (v := .int (iz (j - 1))) (ty := .int) (C := RX8) (T := TX8) (N := 3) hx hb hts iwX8 tyX8 tyX8_ok nmX8 hown hK hP hD hS 0 rfl rfl 1 (by decide) (hts (.fieldLink RX8 15 "AnnuityHouse$Whole" "size" "I") (by decide +kernel)) (fun _ h9 => h9) rfl (by decide +kernel) rfl rfl (Nat.le_of_ble_eq_true rfl) dX8_finish_91 (fun H locs hP hD hS => ?_)
                have hP : va_P G.1 vwCl [(a, .inr (9, [.ref b, .int (iz (j - 1)), .long (lz (r))])), (b, zaL (G.2 0) 40 (g))] H := hP
                have hD : va_D A [(a, .inr (9, [.ref b, .int (iz (j - 1)), .long (lz (r))])), (b, zaL (G.2 0) 40 (g))] := hD
                refine lv_goto (tgt := 54) hx hb dX8_finish_94 (by decide) ?_
                exact ih_54 (j - 1) _ _ _ (by omega) (by omega) (fun q h0 h1 => m2 q h0 (by omega)) ((zcut_i (by omega) (by omega) hh).trans m3) (hP) (hD) hS (hl)
        have ei : i = i0 + 3 := by omega
        have k2e : zdig g (i0 + 3) := ei ▸ k2
        have k3e : zsum g (i0 + 3).toNat + r * 1073741824 ^ (i0 + 3).toNat = _ := ei ▸ k3
        exact hl_54 (((i0 + 3) : Int).toNat + 1) (i0 + 3) _ _ _ (Nat.lt_succ_self _) (by omega) (k2e) (k3e) (hP) (hD) hS (lv_sub hl [2, 3, 4] rfl)
      ·
        refine lv_aload_n hx hb dX8_finish_22 rfl (lv_at hl 2 rfl) ?_
        refine va_get (D := G.1) (ci := 9) (v := .ref b) (C := RX8) (T := TX8) (N := 3) hx hb hts iwX8 hown hK hP 0 rfl rfl 0 (by decide) (hts (.fieldLink RX8 11 "AnnuityHouse$Whole" "limbs" "[J") (by decide +kernel)) (fun _ h9 => h9) rfl dX8_finish_23 ?_
        refine lv_iload hx hb dX8_finish_26 (lv_at hl 0 rfl) ?_
        refine lv_lload hx hb dX8_finish_28 (lv_at hl 1 rfl) ?_
        refine zr_ldc2 (z := 1073741823) hx hb hown (hts (.constantLong RX8 31 (1073741823)) (by decide +kernel)) rfl dX8_finish_30 ?_
        refine zr_land30 hx hb dX8_finish_33 ?_
        refine zr_last hx hb hK hP hD hS 1 0 rfl rfl (i := i) (x := r % 1073741824) (⟨by omega, by omega, by omega⟩) dX8_finish_34 (fun H locs hP hD hS => ?_)
        have hP : va_P G.1 vwCl [(a, .inr (9, [.ref b, .int (iz (i0 + 3)), .long (lz (t))])), (b, zaL (G.2 0) 40 (zup g i (r % 1073741824)))] H := hP
        have hD : va_D A [(a, .inr (9, [.ref b, .int (iz (i0 + 3)), .long (lz (t))])), (b, zaL (G.2 0) 40 (zup g i (r % 1073741824)))] := hD
        refine lv_lload hx hb dX8_finish_35 (lv_at hl 1 rfl) ?_
        refine lv_bipush (v := iz (30)) hx hb dX8_finish_37 rfl ?_
        refine zr_lshr30 hx hb (x := r) (⟨by omega, by omega⟩) dX8_finish_39 ?_
        refine lv_lstore (lv' := [(4, .long (lz (r / 1073741824))), (6, .int (iz (i))), (0, .ref a), (1, .int (iz (i0))), (2, .long (lz (x)))]) hx hb dX8_finish_40 hl (by decide) rfl (fun ls hl => ?_)
        refine lv_iinc (v := iz (i + 1)) (lv' := [(6, .int (iz (i + 1))), (4, .long (lz (r / 1073741824))), (0, .ref a), (1, .int (iz (i0))), (2, .long (lz (x)))]) hx hb dX8_finish_42 hl (k := 1) rfl (by rw [show Int32.ofInt (1) = iz (1) from rfl, iz_add]) (by decide) rfl (fun ls hl => ?_)
        refine lv_goto (tgt := 13) hx hb dX8_finish_45 (by decide) ?_
        have k2n := zdig_up k2 (x := r % 1073741824) ⟨by omega, by omega⟩
        have k3n := zstep_i (g := zup g i (r % 1073741824)) (by omega) (fun j _ hj => zup_n (by omega)) (zup_s _ _ _) k3
        exact ih_13 (i + 1) (r / 1073741824) (zup g i (r % 1073741824)) _ _ _ (by omega) (by omega) (k2n) (k3n) (⟨fun h => absurd h (by omega), fun h => by omega, fun h => by omega, fun h => by omega⟩) (hP) (hD) hS (hl)
  exact hl_13 ((i0 + 3 - i0 : Int).toNat + 1) i0 x f _ _ _ (Nat.lt_succ_self _) (by omega) (h2) (rfl) (⟨fun _ => h3, fun h => absurd h (by omega), fun h => absurd h (by omega), fun h => absurd h (by omega)⟩) (hP) (hD) hS (hl)

def rm_c_X8_set : Room := { frames := 1, cells := 0, slots := 0, locals := 26 }
set_option maxHeartbeats 1000000 in
set_option maxRecDepth 100000 in
theorem c_X8_set (l : Launch) (G : zG) (a : Nat) (b : Nat) (f : Int → Int) (n : Int) (t : Int) (x : Int) (h1 : -9223372036854775808 ≤ x ∧ x < 9223372036854775808) : zM l G yX8_set wsX8_set rm_c_X8_set [.ref a, .long (lz (x))] [(a, .inr (9, [.ref b, .int (iz (n)), .long (lz (t))])), (b, zaL (G.2 0) 40 (f))] (fun A => zQv G (fun (u : (Int → Int) × Int × Int) => zwv u.1 u.2.1 u.2.2 x) (fun (u : (Int → Int) × Int × Int) => [(a, .inr (9, [.ref b, .int (iz (u.2.1)), .long (lz (u.2.2))])), (b, zaL (G.2 0) 40 (u.1))]) A) 0 0 := by
  refine zM_of (cc := cX8_set) (maxL := 3) (ret := none) (by decide) rfl (Nat.le_of_ble_eq_true rfl) ?_
  intro p e s m below meth c ls A Q hQ hx hb hr hts hown hlocks hml hnm hKX hP hD hA hS hl
  have hK := hKX.1
  obtain ⟨H, hH⟩ : ∃ h, h = s.heap := ⟨_, rfl⟩
  obtain ⟨locs, hlo⟩ : ∃ h : List Loc, h = [] := ⟨_, rfl⟩
  have hS : va_S A s.heap H locs := by rw [hH, hlo]; exact hS
  have hP : va_P G.1 vwCl [(a, .inr (9, [.ref b, .int (iz (n)), .long (lz (t))])), (b, zaL (G.2 0) 40 (f))] H := by rw [hH]; exact hP
  have hD : va_D A [(a, .inr (9, [.ref b, .int (iz (n)), .long (lz (t))])), (b, zaL (G.2 0) 40 (f))] := hD
  have hl : lv_has ls 3 [(0, .ref a), (1, .long (lz (x)))] := hl
  rw [← hH, ← hlo]
  refine lv_aload_n hx hb dX8_set_0 rfl (lv_at hl 0 rfl) ?_
  refine lv_iconst (v := iz (0)) hx hb dX8_set_1 rfl ?_
  refine lv_lload_n hx hb dX8_set_2 rfl (lv_at hl 1 rfl) ?_
  refine zc_v (wr := []) (va_runV (As := [.int (iz (0)), .long (lz (x))]) (rest := []) ⟨hx, hb, hml, hown, hts⟩ (c_X8_finish l G a b f n t 0 x (⟨by omega, by omega⟩) (fun i h0 h1 => absurd h1 (by omega)) (h1) H.size) (cwV 2 hts gX8_set_X8_finish rfl rfl rfl (by decide +kernel) ⟨Nat.le_of_ble_eq_true rfl, Nat.le_of_ble_eq_true rfl⟩) (zpV hKX hP hD [0, 1] rfl rfl 0 9 rfl rfl) rfl rfl hl.1 rfl (lv_room (Nat.le_of_ble_eq_true rfl)) dX8_set_3 ⟨(by first | exact Nat.le_of_ble_eq_true rfl | (show _ ≤ (0 : Nat); omega)), (by first | exact Nat.le_of_ble_eq_true rfl | (show _ ≤ (0 : Nat); omega))⟩) hP hD hS hA [0, 1] [] rfl rfl rfl (by decide) (fun u_4 H locs hq hP hD hS => ?_)
  obtain ⟨f2_1, n2_2, t2_3⟩ := u_4
  have hP : va_P G.1 vwCl [(a, .inr (9, [.ref b, .int (iz (n2_2)), .long (lz (t2_3))])), (b, zaL (G.2 0) 40 (f2_1))] H := hP
  have hD : va_D A [(a, .inr (9, [.ref b, .int (iz (n2_2)), .long (lz (t2_3))])), (b, zaL (G.2 0) 40 (f2_1))] := hD
  have hq : zwv f2_1 n2_2 t2_3 (zsum f (0 : Int).toNat + x * 1073741824 ^ (0 : Int).toNat) := hq
  rw [hQ]
  exact zr_vret (u := (f2_1, n2_2, t2_3)) hx hb hr hlocks hP hD hS (by first | exact Nat.le_of_ble_eq_true rfl | omega) (by first | exact Nat.le_of_ble_eq_true rfl | omega) dX8_set_6 (show zwv f2_1 n2_2 t2_3 x from by simpa [zsum] using hq)

def rm_c_X8_times : Room := { frames := 1, cells := 0, slots := 0, locals := 26 }
theorem iw_X8_times_X8 : ∀ w ∈ wsX80, w ∈ wsX8_times := by decide +kernel
set_option maxHeartbeats 1000000 in
set_option maxRecDepth 100000 in
theorem c_X8_times (l : Launch) (G : zG) (a : Nat) (b : Nat) (f : Int → Int) (n : Int) (t : Int) (v : Int) (x : Int) (h1 : zwv f n t v) (h2 : n ≤ 37) (h3 : -2147483648 ≤ x ∧ x ≤ 2147483648) : zM l G yX8_times wsX8_times rm_c_X8_times [.ref a, .long (lz (x))] [(a, .inr (9, [.ref b, .int (iz (n)), .long (lz (t))])), (b, zaL (G.2 0) 40 (f))] (fun A => zQv G (fun (u : (Int → Int) × Int × Int) => zwv u.1 u.2.1 u.2.2 (v * x)) (fun (u : (Int → Int) × Int × Int) => [(a, .inr (9, [.ref b, .int (iz (u.2.1)), .long (lz (u.2.2))])), (b, zaL (G.2 0) 40 (u.1))]) A) 0 0 := by
  refine zM_of (cc := cX8_times) (maxL := 6) (ret := none) (by decide) rfl (Nat.le_of_ble_eq_true rfl) ?_
  intro p e s m below meth c ls A Q hQ hx hb hr hts hown hlocks hml hnm hKX hP hD hA hS hl
  have hK := hKX.1
  have iwX8 := iw_X8_times_X8
  obtain ⟨H, hH⟩ : ∃ h, h = s.heap := ⟨_, rfl⟩
  obtain ⟨locs, hlo⟩ : ∃ h : List Loc, h = [] := ⟨_, rfl⟩
  have hS : va_S A s.heap H locs := by rw [hH, hlo]; exact hS
  have hP : va_P G.1 vwCl [(a, .inr (9, [.ref b, .int (iz (n)), .long (lz (t))])), (b, zaL (G.2 0) 40 (f))] H := by rw [hH]; exact hP
  have hD : va_D A [(a, .inr (9, [.ref b, .int (iz (n)), .long (lz (t))])), (b, zaL (G.2 0) 40 (f))] := hD
  have hl : lv_has ls 6 [(0, .ref a), (1, .long (lz (x)))] := hl
  rw [← hH, ← hlo]
  have h0 := h1.n0
  refine lv_aload_n hx hb dX8_times_0 rfl (lv_at hl 0 rfl) ?_
  refine lv_aload_n hx hb dX8_times_1 rfl (lv_at hl 0 rfl) ?_
  refine va_get (D := G.1) (ci := 9) (v := .int (iz (n))) (C := RX8) (T := TX8) (N := 3) hx hb hts iwX8 hown hK hP 0 rfl rfl 1 (by decide) (hts (.fieldLink RX8 15 "AnnuityHouse$Whole" "size" "I") (by decide +kernel)) (fun _ h9 => h9) rfl dX8_times_2 ?_
  refine zc_v (wr := []) (va_runV (As := [.int (iz (n))]) (rest := []) ⟨hx, hb, hml, hown, hts⟩ (c_X8_makeRoom l G a b f n t n (by omega) H.size) (cwV 1 hts gX8_times_X8_makeRoom rfl rfl rfl (by decide +kernel) ⟨Nat.le_of_ble_eq_true rfl, Nat.le_of_ble_eq_true rfl⟩) (zpV hKX hP hD [0, 1] rfl rfl 0 9 rfl rfl) rfl rfl hl.1 rfl (lv_room (Nat.le_of_ble_eq_true rfl)) dX8_times_5 ⟨(by first | exact Nat.le_of_ble_eq_true rfl | (show _ ≤ (0 : Nat); omega)), (by first | exact Nat.le_of_ble_eq_true rfl | (show _ ≤ (0 : Nat); omega))⟩) hP hD hS hA [0, 1] [] rfl rfl rfl (by decide) (fun u_1 H locs hq_4 hP hD hS => ?_)
  have hP : va_P G.1 vwCl [(a, .inr (9, [.ref b, .int (iz (n)), .long (lz (t))])), (b, zaL (G.2 0) 40 (f))] H := hP
  have hD : va_D A [(a, .inr (9, [.ref b, .int (iz (n)), .long (lz (t))])), (b, zaL (G.2 0) 40 (f))] := hD
  refine lv_lconst (v := lz (0)) hx hb dX8_times_8 rfl ?_
  refine lv_lstore_n (lv' := [(3, .long (lz (0))), (0, .ref a), (1, .long (lz (x)))]) hx hb dX8_times_9 rfl hl (by decide) rfl (fun ls hl => ?_)
  refine lv_iconst (v := iz (0)) hx hb dX8_times_10 rfl ?_
  refine lv_istore (lv' := [(5, .int (iz (0))), (3, .long (lz (0))), (0, .ref a), (1, .long (lz (x)))]) hx hb dX8_times_11 hl (by decide) rfl (fun ls hl => ?_)
  have hl_13 : ∀ (zn_13 : Nat) (i : Int) (q : Int) (g : Int → Int) (H : Heap) (locs : List Loc) (ls : Array Slot), (n - i).toNat < zn_13 → (0 ≤ i ∧ i ≤ n) → (zdig g i) → (zsum g i.toNat + q * 1073741824 ^ i.toNat = x * zsum f i.toNat) → (-2147483648 ≤ q ∧ q ≤ 2147483648) → (∀ j : Int, i ≤ j → g j = f j) → va_P G.1 vwCl [(a, .inr (9, [.ref b, .int (iz (n)), .long (lz (t))])), (b, zaL (G.2 0) 40 (g))] H → va_D A [(a, .inr (9, [.ref b, .int (iz (n)), .long (lz (t))])), (b, zaL (G.2 0) 40 (g))] → va_S A s.heap H locs → lv_has ls 6 [(5, .int (iz (i))), (3, .long (lz (q))), (0, .ref a), (1, .long (lz (x)))] → W p l e rm_c_X8_times s m ([.ref a, .long (lz (x))] : List Value).toArray below meth c H locs (0 + 0) (0 + 0) Q (F0 m 13 ls []) := by
    intro zn_13
    induction zn_13 with
    | zero => intro i q g H locs ls hm; exact absurd hm (Nat.not_lt_zero _)
    | succ zn_13 ih_13 =>
      intro i q g H locs ls hm_13 k1 k2 k3 k4 k5 hP hD hS hl
      refine lv_iload hx hb dX8_times_13 (lv_at hl 0 rfl) ?_
      refine lv_aload_n hx hb dX8_times_15 rfl (lv_at hl 2 rfl) ?_
      refine va_get (D := G.1) (ci := 9) (v := .int (iz (n))) (C := RX8) (T := TX8) (N := 3) hx hb hts iwX8 hown hK hP 0 rfl rfl 1 (by decide) (hts (.fieldLink RX8 15 "AnnuityHouse$Whole" "size" "I") (by decide +kernel)) (fun _ h9 => h9) rfl dX8_times_16 ?_
      refine zr_icmp_ge (x := i) (y := n) (tgt := 57) hx hb (⟨by omega, by omega⟩) (⟨by omega, by omega⟩) dX8_times_19 (by decide) (fun h_5 => ?_) (fun h_5 => ?_)
      ·
        refine lv_aload_n hx hb dX8_times_57 rfl (lv_at hl 2 rfl) ?_
        refine lv_aload_n hx hb dX8_times_58 rfl (lv_at hl 2 rfl) ?_
        refine va_get (D := G.1) (ci := 9) (v := .int (iz (n))) (C := RX8) (T := TX8) (N := 3) hx hb hts iwX8 hown hK hP 0 rfl rfl 1 (by decide) (hts (.fieldLink RX8 15 "AnnuityHouse$Whole" "size" "I") (by decide +kernel)) (fun _ h9 => h9) rfl dX8_times_59 ?_
        refine lv_aload_n hx hb dX8_times_62 rfl (lv_at hl 2 rfl) ?_
        refine va_get (D := G.1) (ci := 9) (v := .long (lz (t))) (C := RX8) (T := TX8) (N := 3) hx hb hts iwX8 hown hK hP 0 rfl rfl 2 (by decide) (hts (.fieldLink RX8 19 "AnnuityHouse$Whole" "top" "J") (by decide +kernel)) (fun _ h9 => h9) rfl dX8_times_63 ?_
        refine lv_lload_n hx hb dX8_times_66 rfl (lv_at hl 3 rfl) ?_
        refine zr_lmul hx hb dX8_times_67 ?_
        refine zr_namel (fun p2 ep2 => ?_)
        have hp2 : -2147483648 ≤ p2 ∧ p2 ≤ 2147483648 := by rcases h1.t0 with e | e <;> rw [ep2, e] <;> omega
        refine lv_lload_n hx hb dX8_times_68 rfl (lv_at hl 1 rfl) ?_
        refine zr_ladd hx hb dX8_times_69 ?_
        have ei : i = n := by omega
        have k2x : zdig g n := ei ▸ k2
        have k3x : zsum g n.toNat + q * 1073741824 ^ n.toNat = x * zsum f n.toNat := ei ▸ k3
        refine zc_v (wr := []) (va_runV (As := [.int (iz (n)), .long (lz (p2 + q))]) (rest := []) ⟨hx, hb, hml, hown, hts⟩ (c_X8_finish l G a b g n t n (p2 + q) (by omega) (k2x) (by omega) H.size) (cwV 2 hts gX8_times_X8_finish rfl rfl rfl (by decide +kernel) ⟨Nat.le_of_ble_eq_true rfl, Nat.le_of_ble_eq_true rfl⟩) (zpV hKX hP hD [0, 1] rfl rfl 0 9 rfl rfl) rfl rfl hl.1 rfl (lv_room (Nat.le_of_ble_eq_true rfl)) dX8_times_70 ⟨(by first | exact Nat.le_of_ble_eq_true rfl | (show _ ≤ (0 : Nat); omega)), (by first | exact Nat.le_of_ble_eq_true rfl | (show _ ≤ (0 : Nat); omega))⟩) hP hD hS hA [0, 1] [] rfl rfl rfl (by decide) (fun u_9 H locs hq hP hD hS => ?_)
        obtain ⟨f2_6, n2_7, t2_8⟩ := u_9
        have hP : va_P G.1 vwCl [(a, .inr (9, [.ref b, .int (iz (n2_7)), .long (lz (t2_8))])), (b, zaL (G.2 0) 40 (f2_6))] H := hP
        have hD : va_D A [(a, .inr (9, [.ref b, .int (iz (n2_7)), .long (lz (t2_8))])), (b, zaL (G.2 0) 40 (f2_6))] := hD
        have hq : zwv f2_6 n2_7 t2_8 (zsum g n.toNat + (p2 + q) * 1073741824 ^ n.toNat) := hq
        rw [hQ]
        exact zr_vret (u := (f2_6, n2_7, t2_8)) hx hb hr hlocks hP hD hS (by first | exact Nat.le_of_ble_eq_true rfl | omega) (by first | exact Nat.le_of_ble_eq_true rfl | omega) dX8_times_73 (show zwv f2_6 n2_7 t2_8 (v * x) from by rw [ep2, zmul_end h1 k3x] at hq; exact hq)
      ·
        refine lv_lload_n hx hb dX8_times_22 rfl (lv_at hl 1 rfl) ?_
        refine lv_aload_n hx hb dX8_times_23 rfl (lv_at hl 2 rfl) ?_
        refine va_get (D := G.1) (ci := 9) (v := .ref b) (C := RX8) (T := TX8) (N := 3) hx hb hts iwX8 hown hK hP 0 rfl rfl 0 (by decide) (hts (.fieldLink RX8 11 "AnnuityHouse$Whole" "limbs" "[J") (by decide +kernel)) (fun _ h9 => h9) rfl dX8_times_24 ?_
        refine lv_iload hx hb dX8_times_27 (lv_at hl 0 rfl) ?_
        refine zr_lald hx hb hK hP 1 0 rfl rfl (i := i) (⟨by omega, by omega, by omega⟩) dX8_times_29 ?_
        refine lv_lload_n hx hb dX8_times_30 rfl (lv_at hl 3 rfl) ?_
        refine zr_lmul hx hb dX8_times_31 ?_
        refine zr_namel (fun p ep => ?_)
        have k9 := h1.dig i (by omega) (by omega)
        rw [← k5 i (by omega)] at k9
        have hp := zmul_rng k9 h3
        rw [← ep] at hp
        refine zr_ladd hx hb dX8_times_32 ?_
        refine zr_namel (fun w ew => ?_)
        have k3w : zsum g i.toNat + w * 1073741824 ^ i.toNat = x * zsum f (i + 1).toNat := by rw [ew, ep, k5 i (by omega)]; exact zmulstep (by omega) k3
        refine lv_lstore_n (lv' := [(3, .long (lz (w))), (5, .int (iz (i))), (0, .ref a), (1, .long (lz (x)))]) hx hb dX8_times_33 rfl hl (by decide) rfl (fun ls hl => ?_)
        refine lv_aload_n hx hb dX8_times_34 rfl (lv_at hl 2 rfl) ?_
        refine va_get (D := G.1) (ci := 9) (v := .ref b) (C := RX8) (T := TX8) (N := 3) hx hb hts iwX8 hown hK hP 0 rfl rfl 0 (by decide) (hts (.fieldLink RX8 11 "AnnuityHouse$Whole" "limbs" "[J") (by decide +kernel)) (fun _ h9 => h9) rfl dX8_times_35 ?_
        refine lv_iload hx hb dX8_times_38 (lv_at hl 1 rfl) ?_
        refine lv_lload_n hx hb dX8_times_40 rfl (lv_at hl 0 rfl) ?_
        refine zr_ldc2 (z := 1073741823) hx hb hown (hts (.constantLong RX8 31 (1073741823)) (by decide +kernel)) rfl dX8_times_41 ?_
        refine zr_land30 hx hb dX8_times_44 ?_
        refine zr_last hx hb hK hP hD hS 1 0 rfl rfl (i := i) (x := w % 1073741824) (⟨by omega, by omega, by omega⟩) dX8_times_45 (fun H locs hP hD hS => ?_)
        have hP : va_P G.1 vwCl [(a, .inr (9, [.ref b, .int (iz (n)), .long (lz (t))])), (b, zaL (G.2 0) 40 (zup g i (w % 1073741824)))] H := hP
        have hD : va_D A [(a, .inr (9, [.ref b, .int (iz (n)), .long (lz (t))])), (b, zaL (G.2 0) 40 (zup g i (w % 1073741824)))] := hD
        refine lv_lload_n hx hb dX8_times_46 rfl (lv_at hl 0 rfl) ?_
        refine lv_bipush (v := iz (30)) hx hb dX8_times_47 rfl ?_
        refine zr_lshr30 hx hb (x := w) (⟨by omega, by omega⟩) dX8_times_49 ?_
        refine lv_lstore_n (lv' := [(3, .long (lz (w / 1073741824))), (5, .int (iz (i))), (0, .ref a), (1, .long (lz (x)))]) hx hb dX8_times_50 rfl hl (by decide) rfl (fun ls hl => ?_)
        refine lv_iinc (v := iz (i + 1)) (lv' := [(5, .int (iz (i + 1))), (3, .long (lz (w / 1073741824))), (0, .ref a), (1, .long (lz (x)))]) hx hb dX8_times_51 hl (k := 1) rfl (by rw [show Int32.ofInt (1) = iz (1) from rfl, iz_add]) (by decide) rfl (fun ls hl => ?_)
        refine lv_goto (tgt := 13) hx hb dX8_times_54 (by decide) ?_
        exact ih_13 (i + 1) (w / 1073741824) (zup g i (w % 1073741824)) _ _ _ (by omega) (by omega) (zdig_up k2 ⟨by omega, by omega⟩) (zstep_i (g := zup g i (w % 1073741824)) (by omega) (fun j _ hj => zup_n (by omega)) (zup_s _ _ _) k3w) (by omega) (fun j hj => (zup_n (by omega)).trans (k5 j (by omega))) (hP) (hD) hS (hl)
  exact hl_13 ((n - 0 : Int).toNat + 1) 0 0 f _ _ _ (Nat.lt_succ_self _) (by omega) (fun i h0 h1 => absurd h1 (by omega)) (by simp [zsum]) (by omega) (fun _ _ => rfl) (hP) (hD) hS (hl)

def rm_c_X8_timesPower : Room := { frames := 2, cells := 0, slots := 0, locals := 51 }
set_option maxHeartbeats 1000000 in
set_option maxRecDepth 100000 in
theorem c_X8_timesPower (l : Launch) (G : zG) (a : Nat) (b : Nat) (f : Int → Int) (n : Int) (t : Int) (v : Int) (x : Int) (k : Int) (h1 : zwv f n t v) (h2 : 1 ≤ x ∧ x ≤ 2147483648) (h3 : 0 ≤ k ∧ k < 2147483647) (h4 : -(1073741824 ^ 37) < v * x ^ k.toNat ∧ v * x ^ k.toNat < 1073741824 ^ 37) : zM l G yX8_timesPower wsX8_timesPower rm_c_X8_timesPower [.ref a, .long (lz (x)), .int (iz (k))] [(a, .inr (9, [.ref b, .int (iz (n)), .long (lz (t))])), (b, zaL (G.2 0) 40 (f))] (fun A => zQv G (fun (u : (Int → Int) × Int × Int) => zwv u.1 u.2.1 u.2.2 (v * x ^ k.toNat)) (fun (u : (Int → Int) × Int × Int) => [(a, .inr (9, [.ref b, .int (iz (u.2.1)), .long (lz (u.2.2))])), (b, zaL (G.2 0) 40 (u.1))]) A) 0 0 := by
  refine zM_of (cc := cX8_timesPower) (maxL := 5) (ret := none) (by decide) rfl (Nat.le_of_ble_eq_true rfl) ?_
  intro p e s m below meth c ls A Q hQ hx hb hr hts hown hlocks hml hnm hKX hP hD hA hS hl
  have hK := hKX.1
  obtain ⟨H, hH⟩ : ∃ h, h = s.heap := ⟨_, rfl⟩
  obtain ⟨locs, hlo⟩ : ∃ h : List Loc, h = [] := ⟨_, rfl⟩
  have hS : va_S A s.heap H locs := by rw [hH, hlo]; exact hS
  have hP : va_P G.1 vwCl [(a, .inr (9, [.ref b, .int (iz (n)), .long (lz (t))])), (b, zaL (G.2 0) 40 (f))] H := by rw [hH]; exact hP
  have hD : va_D A [(a, .inr (9, [.ref b, .int (iz (n)), .long (lz (t))])), (b, zaL (G.2 0) 40 (f))] := hD
  have hl : lv_has ls 5 [(0, .ref a), (1, .long (lz (x))), (3, .int (iz (k)))] := hl
  rw [← hH, ← hlo]
  refine lv_iconst (v := iz (0)) hx hb dX8_timesPower_0 rfl ?_
  refine lv_istore (lv' := [(4, .int (iz (0))), (0, .ref a), (1, .long (lz (x))), (3, .int (iz (k)))]) hx hb dX8_timesPower_1 hl (by decide) rfl (fun ls hl => ?_)
  have hl_3 : ∀ (zn_3 : Nat) (i : Int) (g : Int → Int) (m0 : Int) (u0 : Int) (H : Heap) (locs : List Loc) (ls : Array Slot), (k - i).toNat < zn_3 → (0 ≤ i ∧ i ≤ k) → (zwv g m0 u0 (v * x ^ i.toNat)) → va_P G.1 vwCl [(a, .inr (9, [.ref b, .int (iz (m0)), .long (lz (u0))])), (b, zaL (G.2 0) 40 (g))] H → va_D A [(a, .inr (9, [.ref b, .int (iz (m0)), .long (lz (u0))])), (b, zaL (G.2 0) 40 (g))] → va_S A s.heap H locs → lv_has ls 5 [(4, .int (iz (i))), (0, .ref a), (1, .long (lz (x))), (3, .int (iz (k)))] → W p l e rm_c_X8_timesPower s m ([.ref a, .long (lz (x)), .int (iz (k))] : List Value).toArray below meth c H locs 0 0 Q (F0 m 3 ls []) := by
    intro zn_3
    induction zn_3 with
    | zero => intro i g m0 u0 H locs ls hm; exact absurd hm (Nat.not_lt_zero _)
    | succ zn_3 ih_3 =>
      intro i g m0 u0 H locs ls hm_3 k1 k2 hP hD hS hl
      refine lv_iload hx hb dX8_timesPower_3 (lv_at hl 0 rfl) ?_
      refine lv_iload_n hx hb dX8_timesPower_5 rfl (lv_at hl 3 rfl) ?_
      refine zr_icmp_ge (x := i) (y := k) (tgt := 20) hx hb (⟨by omega, by omega⟩) (⟨by omega, by omega⟩) dX8_timesPower_6 (by decide) (fun h_1 => ?_) (fun h_1 => ?_)
      ·
        rw [hQ]
        exact zr_vret (u := (g, m0, u0)) hx hb hr hlocks hP hD hS (by first | exact Nat.le_of_ble_eq_true rfl | omega) (by first | exact Nat.le_of_ble_eq_true rfl | omega) dX8_timesPower_20 (show zwv g m0 u0 (v * x ^ k.toNat) from by rw [show k = i by omega]; exact k2)
      ·
        refine lv_aload_n hx hb dX8_timesPower_9 rfl (lv_at hl 1 rfl) ?_
        refine lv_lload_n hx hb dX8_timesPower_10 rfl (lv_at hl 2 rfl) ?_
        have hbb := zpow_in h2.1 (show i ≤ k by omega) (by omega) h4
        refine zc_v (wr := []) (va_runV (As := [.long (lz (x))]) (rest := []) ⟨hx, hb, hml, hown, hts⟩ (c_X8_times l G a b g m0 u0 (v * x ^ i.toNat) x (k2) (zwv_small k2 (k := 37) (by omega) (by omega)) (by omega) H.size) (cwV 1 hts gX8_timesPower_X8_times rfl rfl rfl (by decide +kernel) ⟨Nat.le_of_ble_eq_true rfl, Nat.le_of_ble_eq_true rfl⟩) (zpV hKX hP hD [0, 1] rfl rfl 0 9 rfl rfl) rfl rfl hl.1 rfl (lv_room (Nat.le_of_ble_eq_true rfl)) dX8_timesPower_11 ⟨(by first | exact Nat.le_of_ble_eq_true rfl | (show _ ≤ (0 : Nat); omega)), (by first | exact Nat.le_of_ble_eq_true rfl | (show _ ≤ (0 : Nat); omega))⟩) hP hD hS hA [0, 1] [] rfl rfl rfl (by decide) (fun u_5 H locs hq hP hD hS => ?_)
        obtain ⟨f2_2, n2_3, t2_4⟩ := u_5
        have hP : va_P G.1 vwCl [(a, .inr (9, [.ref b, .int (iz (n2_3)), .long (lz (t2_4))])), (b, zaL (G.2 0) 40 (f2_2))] H := hP
        have hD : va_D A [(a, .inr (9, [.ref b, .int (iz (n2_3)), .long (lz (t2_4))])), (b, zaL (G.2 0) 40 (f2_2))] := hD
        have hq : zwv f2_2 n2_3 t2_4 ((v * x ^ i.toNat) * x) := hq
        refine lv_iinc (v := iz (i + 1)) (lv' := [(4, .int (iz (i + 1))), (0, .ref a), (1, .long (lz (x))), (3, .int (iz (k)))]) hx hb dX8_timesPower_14 hl (k := 0) rfl (by rw [show Int32.ofInt (1) = iz (1) from rfl, iz_add]) (by decide) rfl (fun ls hl => ?_)
        refine lv_goto (tgt := 3) hx hb dX8_timesPower_17 (by decide) ?_
        refine W.widen (k := 0) (n := 0) (by omega) (by omega) ?_
        exact ih_3 (i + 1) f2_2 n2_3 t2_4 _ _ _ (by omega) (by omega) (by rw [zpow_s (by omega), ← Int.mul_assoc]; exact hq) (hP) (hD) hS (hl)
  exact hl_3 ((k - 0 : Int).toNat + 1) 0 f n t _ _ _ (Nat.lt_succ_self _) (by omega) (by simpa using h1) (hP) (hD) hS (hl)

def rm_c_X8_combine : Room := { frames := 1, cells := 0, slots := 0, locals := 26 }
theorem iw_X8_combine_X8 : ∀ w ∈ wsX80, w ∈ wsX8_combine := by decide +kernel
set_option maxHeartbeats 1000000 in
set_option maxRecDepth 100000 in
theorem c_X8_combine (l : Launch) (G : zG) (a : Nat) (b : Nat) (f : Int → Int) (n : Int) (t : Int) (a2 : Nat) (b2 : Nat) (f2 : Int → Int) (n2 : Int) (t2 : Int) (v : Int) (v2 : Int) (x : Int) (y : Int) (mv : Int) (h1 : zwv f n t v) (h2 : zwv f2 n2 t2 v2) (h3 : -2147483648 ≤ x ∧ x ≤ 2147483648) (h4 : -2147483648 ≤ y ∧ y ≤ 2147483648) (h5 : 0 ≤ mv) (h6 : n ≤ 37 ∧ n2 + mv ≤ 37) : zM l G yX8_combine wsX8_combine rm_c_X8_combine [.ref a, .long (lz (x)), .ref a2, .long (lz (y)), .int (iz (mv))] [(a, .inr (9, [.ref b, .int (iz (n)), .long (lz (t))])), (b, zaL (G.2 0) 40 (f)), (a2, .inr (9, [.ref b2, .int (iz (n2)), .long (lz (t2))])), (b2, zaL (G.2 0) 40 (f2))] (fun A => zQv G (fun (u : (Int → Int) × Int × Int) => zwv u.1 u.2.1 u.2.2 (v * x + v2 * 1073741824 ^ mv.toNat * y)) (fun (u : (Int → Int) × Int × Int) => [(a, .inr (9, [.ref b, .int (iz (u.2.1)), .long (lz (u.2.2))])), (b, zaL (G.2 0) 40 (u.1)), (a2, .inr (9, [.ref b2, .int (iz (n2)), .long (lz (t2))])), (b2, zaL (G.2 0) 40 (f2))]) A) 0 0 := by
  refine zM_of (cc := cX8_combine) (maxL := 15) (ret := none) (by decide) rfl (Nat.le_of_ble_eq_true rfl) ?_
  intro p e s m below meth c ls A Q hQ hx hb hr hts hown hlocks hml hnm hKX hP hD hA hS hl
  have hK := hKX.1
  have iwX8 := iw_X8_combine_X8
  obtain ⟨H, hH⟩ : ∃ h, h = s.heap := ⟨_, rfl⟩
  obtain ⟨locs, hlo⟩ : ∃ h : List Loc, h = [] := ⟨_, rfl⟩
  have hS : va_S A s.heap H locs := by rw [hH, hlo]; exact hS
  have hP : va_P G.1 vwCl [(a, .inr (9, [.ref b, .int (iz (n)), .long (lz (t))])), (b, zaL (G.2 0) 40 (f)), (a2, .inr (9, [.ref b2, .int (iz (n2)), .long (lz (t2))])), (b2, zaL (G.2 0) 40 (f2))] H := by rw [hH]; exact hP
  have hD : va_D A [(a, .inr (9, [.ref b, .int (iz (n)), .long (lz (t))])), (b, zaL (G.2 0) 40 (f)), (a2, .inr (9, [.ref b2, .int (iz (n2)), .long (lz (t2))])), (b2, zaL (G.2 0) 40 (f2))] := hD
  have hl : lv_has ls 15 [(0, .ref a), (1, .long (lz (x))), (3, .ref a2), (4, .long (lz (y))), (6, .int (iz (mv)))] := hl
  rw [← hH, ← hlo]
  have h01 := h1.n0
  have h02 := h2.n0
  refine lv_aload_n hx hb dX8_combine_0 rfl (lv_at hl 0 rfl) ?_
  refine va_get (D := G.1) (ci := 9) (v := .int (iz (n))) (C := RX8) (T := TX8) (N := 3) hx hb hts iwX8 hown hK hP 0 rfl rfl 1 (by decide) (hts (.fieldLink RX8 15 "AnnuityHouse$Whole" "size" "I") (by decide +kernel)) (fun _ h9 => h9) rfl dX8_combine_1 ?_
  refine lv_aload_n hx hb dX8_combine_4 rfl (lv_at hl 2 rfl) ?_
  refine va_get (D := G.1) (ci := 9) (v := .int (iz (n2))) (C := RX8) (T := TX8) (N := 3) hx hb hts iwX8 hown hK hP 2 rfl rfl 1 (by decide) (hts (.fieldLink RX8 15 "AnnuityHouse$Whole" "size" "I") (by decide +kernel)) (fun _ h9 => h9) rfl dX8_combine_5 ?_
  refine lv_iload hx hb dX8_combine_8 (lv_at hl 4 rfl) ?_
  refine zr_iadd hx hb dX8_combine_10 ?_
  refine zr_mmax (x := n) (y := n2 + mv) hx hb (hml.trans hl.1.symm) hown (hts (.methodLink RX8 37 Lib.Math.max.name) (by decide +kernel)) (hts (.static Lib.Math.max.name) (by decide +kernel)) (hts (.initialized "java/lang/Math") (by decide +kernel)) (hts (.code Lib.Math.max.name Lib.Math.max.code 2 (some .int)) (by decide +kernel)) (Nat.le_of_ble_eq_true rfl) (Nat.le_of_ble_eq_true rfl) (by first | exact Nat.le_of_ble_eq_true rfl | (show _ ≤ (0 : Nat); omega)) (by first | exact Nat.le_of_ble_eq_true rfl | (show _ ≤ (0 : Nat); omega)) (⟨by omega, by omega⟩) (⟨by omega, by omega⟩) dX8_combine_11 ?_
  refine zr_namei (fun R eR => ?_)
  refine lv_istore (lv' := [(7, .int (iz (R))), (0, .ref a), (1, .long (lz (x))), (3, .ref a2), (4, .long (lz (y))), (6, .int (iz (mv)))]) hx hb dX8_combine_14 hl (by decide) rfl (fun ls hl => ?_)
  refine lv_aload_n hx hb dX8_combine_16 rfl (lv_at hl 1 rfl) ?_
  refine lv_iload hx hb dX8_combine_17 (lv_at hl 0 rfl) ?_
  refine zc_v (wr := [(a2, .inr (9, [.ref b2, .int (iz (n2)), .long (lz (t2))])), (b2, zaL (G.2 0) 40 (f2))]) (va_runV (As := [.int (iz (R))]) (rest := []) ⟨hx, hb, hml, hown, hts⟩ (c_X8_makeRoom l G a b f n t R (by omega) H.size) (cwV 1 hts gX8_combine_X8_makeRoom rfl rfl rfl (by decide +kernel) ⟨Nat.le_of_ble_eq_true rfl, Nat.le_of_ble_eq_true rfl⟩) (zpV hKX hP hD [0, 1] rfl rfl 0 9 rfl rfl) rfl rfl hl.1 rfl (lv_room (Nat.le_of_ble_eq_true rfl)) dX8_combine_19 ⟨(by first | exact Nat.le_of_ble_eq_true rfl | (show _ ≤ (0 : Nat); omega)), (by first | exact Nat.le_of_ble_eq_true rfl | (show _ ≤ (0 : Nat); omega))⟩) hP hD hS hA [0, 1] [2, 3] rfl rfl rfl (by decide) (fun u_1 H locs hq_4 hP hD hS => ?_)
  have hP : va_P G.1 vwCl [(a2, .inr (9, [.ref b2, .int (iz (n2)), .long (lz (t2))])), (b2, zaL (G.2 0) 40 (f2)), (a, .inr (9, [.ref b, .int (iz (n)), .long (lz (t))])), (b, zaL (G.2 0) 40 (f))] H := hP
  have hD : va_D A [(a2, .inr (9, [.ref b2, .int (iz (n2)), .long (lz (t2))])), (b2, zaL (G.2 0) 40 (f2)), (a, .inr (9, [.ref b, .int (iz (n)), .long (lz (t))])), (b, zaL (G.2 0) 40 (f))] := hD
  refine lv_lconst (v := lz (0)) hx hb dX8_combine_22 rfl ?_
  refine lv_lstore (lv' := [(8, .long (lz (0))), (7, .int (iz (R))), (0, .ref a), (1, .long (lz (x))), (3, .ref a2), (4, .long (lz (y))), (6, .int (iz (mv)))]) hx hb dX8_combine_23 hl (by decide) rfl (fun ls hl => ?_)
  refine lv_iconst (v := iz (0)) hx hb dX8_combine_25 rfl ?_
  refine lv_istore (lv' := [(10, .int (iz (0))), (8, .long (lz (0))), (7, .int (iz (R))), (0, .ref a), (1, .long (lz (x))), (3, .ref a2), (4, .long (lz (y))), (6, .int (iz (mv)))]) hx hb dX8_combine_26 hl (by decide) rfl (fun ls hl => ?_)
  have hl_28 : ∀ (zn_28 : Nat) (i : Int) (q : Int) (g : Int → Int) (H : Heap) (locs : List Loc) (ls : Array Slot), (R - i).toNat < zn_28 → (0 ≤ i ∧ i ≤ R) → (zdig g i) → (zsum g i.toNat + q * 1073741824 ^ i.toNat = x * zsum (zx f n t) i.toNat + y * zsum (zmv (zx f2 n2 t2) mv) i.toNat) → (-4294967296 ≤ q ∧ q ≤ 4294967296) → (∀ j : Int, i ≤ j → g j = f j) → va_P G.1 vwCl [(a2, .inr (9, [.ref b2, .int (iz (n2)), .long (lz (t2))])), (b2, zaL (G.2 0) 40 (f2)), (a, .inr (9, [.ref b, .int (iz (n)), .long (lz (t))])), (b, zaL (G.2 0) 40 (g))] H → va_D A [(a2, .inr (9, [.ref b2, .int (iz (n2)), .long (lz (t2))])), (b2, zaL (G.2 0) 40 (f2)), (a, .inr (9, [.ref b, .int (iz (n)), .long (lz (t))])), (b, zaL (G.2 0) 40 (g))] → va_S A s.heap H locs → lv_has ls 15 [(10, .int (iz (i))), (8, .long (lz (q))), (7, .int (iz (R))), (0, .ref a), (1, .long (lz (x))), (3, .ref a2), (4, .long (lz (y))), (6, .int (iz (mv)))] → W p l e rm_c_X8_combine s m ([.ref a, .long (lz (x)), .ref a2, .long (lz (y)), .int (iz (mv))] : List Value).toArray below meth c H locs (0 + 0) (0 + 0) Q (F0 m 28 ls []) := by
    intro zn_28
    induction zn_28 with
    | zero => intro i q g H locs ls hm; exact absurd hm (Nat.not_lt_zero _)
    | succ zn_28 ih_28 =>
      intro i q g H locs ls hm_28 k1 k2 k3 k4 k5 hP hD hS hl
      refine lv_iload hx hb dX8_combine_28 (lv_at hl 0 rfl) ?_
      refine lv_iload hx hb dX8_combine_30 (lv_at hl 2 rfl) ?_
      refine zr_icmp_ge (x := i) (y := R) (tgt := 151) hx hb (⟨by omega, by omega⟩) (⟨by omega, by omega⟩) dX8_combine_32 (by decide) (fun h_5 => ?_) (fun h_5 => ?_)
      ·
        refine lv_aload_n hx hb dX8_combine_151 rfl (lv_at hl 3 rfl) ?_
        refine lv_iload hx hb dX8_combine_152 (lv_at hl 2 rfl) ?_
        refine lv_aload_n hx hb dX8_combine_154 rfl (lv_at hl 3 rfl) ?_
        refine va_get (D := G.1) (ci := 9) (v := .long (lz (t))) (C := RX8) (T := TX8) (N := 3) hx hb hts iwX8 hown hK hP 2 rfl rfl 2 (by decide) (hts (.fieldLink RX8 19 "AnnuityHouse$Whole" "top" "J") (by decide +kernel)) (fun _ h9 => h9) rfl dX8_combine_155 ?_
        refine lv_lload_n hx hb dX8_combine_158 rfl (lv_at hl 4 rfl) ?_
        refine zr_lmul hx hb dX8_combine_159 ?_
        refine zr_namel (fun p3 ep3 => ?_)
        have hp3 : -2147483648 ≤ p3 ∧ p3 ≤ 2147483648 := by rcases h1.t0 with e | e <;> rw [ep3, e] <;> omega
        refine lv_aload_n hx hb dX8_combine_160 rfl (lv_at hl 5 rfl) ?_
        refine va_get (D := G.1) (ci := 9) (v := .long (lz (t2))) (C := RX8) (T := TX8) (N := 3) hx hb hts iwX8 hown hK hP 0 rfl rfl 2 (by decide) (hts (.fieldLink RX8 19 "AnnuityHouse$Whole" "top" "J") (by decide +kernel)) (fun _ h9 => h9) rfl dX8_combine_161 ?_
        refine lv_lload hx hb dX8_combine_164 (lv_at hl 6 rfl) ?_
        refine zr_lmul hx hb dX8_combine_166 ?_
        refine zr_namel (fun p4 ep4 => ?_)
        have hp4 : -2147483648 ≤ p4 ∧ p4 ≤ 2147483648 := by rcases h2.t0 with e | e <;> rw [ep4, e] <;> omega
        refine zr_ladd hx hb dX8_combine_167 ?_
        refine lv_lload hx hb dX8_combine_168 (lv_at hl 1 rfl) ?_
        refine zr_ladd hx hb dX8_combine_170 ?_
        have ei : i = R := by omega
        have k2x : zdig g R := ei ▸ k2
        have k3x : zsum g R.toNat + q * 1073741824 ^ R.toNat = x * zsum (zx f n t) R.toNat + y * zsum (zmv (zx f2 n2 t2) mv) R.toNat := ei ▸ k3
        refine zc_v (wr := [(a2, .inr (9, [.ref b2, .int (iz (n2)), .long (lz (t2))])), (b2, zaL (G.2 0) 40 (f2))]) (va_runV (As := [.int (iz (R)), .long (lz ((p3 + p4) + q))]) (rest := []) ⟨hx, hb, hml, hown, hts⟩ (c_X8_finish l G a b g n t R ((p3 + p4) + q) (by omega) (k2x) (by omega) H.size) (cwV 2 hts gX8_combine_X8_finish rfl rfl rfl (by decide +kernel) ⟨Nat.le_of_ble_eq_true rfl, Nat.le_of_ble_eq_true rfl⟩) (zpV hKX hP hD [2, 3] rfl rfl 2 9 rfl rfl) rfl rfl hl.1 rfl (lv_room (Nat.le_of_ble_eq_true rfl)) dX8_combine_171 ⟨(by first | exact Nat.le_of_ble_eq_true rfl | (show _ ≤ (0 : Nat); omega)), (by first | exact Nat.le_of_ble_eq_true rfl | (show _ ≤ (0 : Nat); omega))⟩) hP hD hS hA [2, 3] [0, 1] rfl rfl rfl (by decide) (fun u_9 H locs hq hP hD hS => ?_)
        obtain ⟨f2_6, n2_7, t2_8⟩ := u_9
        have hP : va_P G.1 vwCl [(a2, .inr (9, [.ref b2, .int (iz (n2)), .long (lz (t2))])), (b2, zaL (G.2 0) 40 (f2)), (a, .inr (9, [.ref b, .int (iz (n2_7)), .long (lz (t2_8))])), (b, zaL (G.2 0) 40 (f2_6))] H := hP
        have hD : va_D A [(a2, .inr (9, [.ref b2, .int (iz (n2)), .long (lz (t2))])), (b2, zaL (G.2 0) 40 (f2)), (a, .inr (9, [.ref b, .int (iz (n2_7)), .long (lz (t2_8))])), (b, zaL (G.2 0) 40 (f2_6))] := hD
        have hq : zwv f2_6 n2_7 t2_8 (zsum g R.toNat + ((p3 + p4) + q) * 1073741824 ^ R.toNat) := hq
        rw [hQ]
        exact zr_vret (u := (f2_6, n2_7, t2_8)) hx hb hr hlocks (hP.sub [2, 3, 0, 1] rfl) (hD.sub [2, 3, 0, 1] (by decide) rfl) hS (by first | exact Nat.le_of_ble_eq_true rfl | omega) (by first | exact Nat.le_of_ble_eq_true rfl | omega) dX8_combine_174 (show zwv f2_6 n2_7 t2_8 (v * x + v2 * 1073741824 ^ mv.toNat * y) from by rw [ep3, ep4, zcomb_end h1 h2 h5 (by omega) (by omega) k3x] at hq; exact hq)
      ·
        have hl_62 : ∀ (mi : Int) (H : Heap) (locs : List Loc) (ls : Array Slot), (mi = zx f n t i) → va_P G.1 vwCl [(a2, .inr (9, [.ref b2, .int (iz (n2)), .long (lz (t2))])), (b2, zaL (G.2 0) 40 (f2)), (a, .inr (9, [.ref b, .int (iz (n)), .long (lz (t))])), (b, zaL (G.2 0) 40 (g))] H → va_D A [(a2, .inr (9, [.ref b2, .int (iz (n2)), .long (lz (t2))])), (b2, zaL (G.2 0) 40 (f2)), (a, .inr (9, [.ref b, .int (iz (n)), .long (lz (t))])), (b, zaL (G.2 0) 40 (g))] → va_S A s.heap H locs → lv_has ls 15 [(10, .int (iz (i))), (8, .long (lz (q))), (7, .int (iz (R))), (0, .ref a), (1, .long (lz (x))), (3, .ref a2), (4, .long (lz (y))), (6, .int (iz (mv)))] → W p l e rm_c_X8_combine s m ([.ref a, .long (lz (x)), .ref a2, .long (lz (y)), .int (iz (mv))] : List Value).toArray below meth c H locs (0 + 0) (0 + 0) Q (F0 m 62 ls [.long (lz (mi))]) := by
          intro mi H locs ls j1 hP hD hS hl
          refine lv_lstore (lv' := [(11, .long (lz (mi))), (10, .int (iz (i))), (8, .long (lz (q))), (7, .int (iz (R))), (0, .ref a), (1, .long (lz (x))), (3, .ref a2), (4, .long (lz (y))), (6, .int (iz (mv)))]) hx hb dX8_combine_62 hl (by decide) rfl (fun ls hl => ?_)
          have hl_108 : ∀ (th : Int) (H : Heap) (locs : List Loc) (ls : Array Slot), (th = zmv (zx f2 n2 t2) mv i) → va_P G.1 vwCl [(a2, .inr (9, [.ref b2, .int (iz (n2)), .long (lz (t2))])), (b2, zaL (G.2 0) 40 (f2)), (a, .inr (9, [.ref b, .int (iz (n)), .long (lz (t))])), (b, zaL (G.2 0) 40 (g))] H → va_D A [(a2, .inr (9, [.ref b2, .int (iz (n2)), .long (lz (t2))])), (b2, zaL (G.2 0) 40 (f2)), (a, .inr (9, [.ref b, .int (iz (n)), .long (lz (t))])), (b, zaL (G.2 0) 40 (g))] → va_S A s.heap H locs → lv_has ls 15 [(11, .long (lz (mi))), (10, .int (iz (i))), (8, .long (lz (q))), (7, .int (iz (R))), (0, .ref a), (1, .long (lz (x))), (3, .ref a2), (4, .long (lz (y))), (6, .int (iz (mv)))] → W p l e rm_c_X8_combine s m ([.ref a, .long (lz (x)), .ref a2, .long (lz (y)), .int (iz (mv))] : List Value).toArray below meth c H locs (0 + 0) (0 + 0) Q (F0 m 108 ls [.long (lz (th))]) := by
            intro th H locs ls j2 hP hD hS hl
            refine lv_lstore (lv' := [(13, .long (lz (th))), (11, .long (lz (mi))), (10, .int (iz (i))), (8, .long (lz (q))), (7, .int (iz (R))), (0, .ref a), (1, .long (lz (x))), (3, .ref a2), (4, .long (lz (y))), (6, .int (iz (mv)))]) hx hb dX8_combine_108 hl (by decide) rfl (fun ls hl => ?_)
            refine lv_lload hx hb dX8_combine_110 (lv_at hl 3 rfl) ?_
            refine lv_lload hx hb dX8_combine_112 (lv_at hl 1 rfl) ?_
            refine lv_lload_n hx hb dX8_combine_114 rfl (lv_at hl 6 rfl) ?_
            refine zr_lmul hx hb dX8_combine_115 ?_
            refine zr_namel (fun p1 ep1 => ?_)
            have hp1 := zmul_rng (zx_dig h1 i (by omega)) h3
            rw [← j1, ← ep1] at hp1
            refine lv_lload hx hb dX8_combine_116 (lv_at hl 0 rfl) ?_
            refine lv_lload hx hb dX8_combine_118 (lv_at hl 8 rfl) ?_
            refine zr_lmul hx hb dX8_combine_120 ?_
            refine zr_namel (fun p2 ep2 => ?_)
            have hp2 := zmul_rng (zmv_dig (zx_dig h2) i (by omega) h5) h4
            rw [← j2, ← ep2] at hp2
            refine zr_ladd hx hb dX8_combine_121 ?_
            refine zr_ladd hx hb dX8_combine_122 ?_
            refine zr_namel (fun w ew => ?_)
            have k3w : zsum g i.toNat + w * 1073741824 ^ i.toNat = x * zsum (zx f n t) (i + 1).toNat + y * zsum (zmv (zx f2 n2 t2) mv) (i + 1).toNat := by rw [ew, ep1, ep2, j1, j2]; exact zcomb_step (by omega) k3
            refine lv_lstore (lv' := [(8, .long (lz (w))), (13, .long (lz (th))), (11, .long (lz (mi))), (10, .int (iz (i))), (7, .int (iz (R))), (0, .ref a), (1, .long (lz (x))), (3, .ref a2), (4, .long (lz (y))), (6, .int (iz (mv)))]) hx hb dX8_combine_123 hl (by decide) rfl (fun ls hl => ?_)
            refine lv_aload_n hx hb dX8_combine_125 rfl (lv_at hl 5 rfl) ?_
            refine va_get (D := G.1) (ci := 9) (v := .ref b) (C := RX8) (T := TX8) (N := 3) hx hb hts iwX8 hown hK hP 2 rfl rfl 0 (by decide) (hts (.fieldLink RX8 11 "AnnuityHouse$Whole" "limbs" "[J") (by decide +kernel)) (fun _ h9 => h9) rfl dX8_combine_126 ?_
            refine lv_iload hx hb dX8_combine_129 (lv_at hl 3 rfl) ?_
            refine lv_lload hx hb dX8_combine_131 (lv_at hl 0 rfl) ?_
            refine zr_ldc2 (z := 1073741823) hx hb hown (hts (.constantLong RX8 31 (1073741823)) (by decide +kernel)) rfl dX8_combine_133 ?_
            refine zr_land30 hx hb dX8_combine_136 ?_
            refine zr_last hx hb hK hP hD hS 3 0 rfl rfl (i := i) (x := w % 1073741824) (⟨by omega, by omega, by omega⟩) dX8_combine_137 (fun H locs hP hD hS => ?_)
            have hP : va_P G.1 vwCl [(a2, .inr (9, [.ref b2, .int (iz (n2)), .long (lz (t2))])), (b2, zaL (G.2 0) 40 (f2)), (a, .inr (9, [.ref b, .int (iz (n)), .long (lz (t))])), (b, zaL (G.2 0) 40 (zup g i (w % 1073741824)))] H := hP
            have hD : va_D A [(a2, .inr (9, [.ref b2, .int (iz (n2)), .long (lz (t2))])), (b2, zaL (G.2 0) 40 (f2)), (a, .inr (9, [.ref b, .int (iz (n)), .long (lz (t))])), (b, zaL (G.2 0) 40 (zup g i (w % 1073741824)))] := hD
            refine lv_lload hx hb dX8_combine_138 (lv_at hl 0 rfl) ?_
            refine lv_bipush (v := iz (30)) hx hb dX8_combine_140 rfl ?_
            refine zr_lshr30 hx hb (x := w) (⟨by omega, by omega⟩) dX8_combine_142 ?_
            refine lv_lstore (lv' := [(8, .long (lz (w / 1073741824))), (13, .long (lz (th))), (11, .long (lz (mi))), (10, .int (iz (i))), (7, .int (iz (R))), (0, .ref a), (1, .long (lz (x))), (3, .ref a2), (4, .long (lz (y))), (6, .int (iz (mv)))]) hx hb dX8_combine_143 hl (by decide) rfl (fun ls hl => ?_)
            refine lv_iinc (v := iz (i + 1)) (lv' := [(10, .int (iz (i + 1))), (8, .long (lz (w / 1073741824))), (13, .long (lz (th))), (11, .long (lz (mi))), (7, .int (iz (R))), (0, .ref a), (1, .long (lz (x))), (3, .ref a2), (4, .long (lz (y))), (6, .int (iz (mv)))]) hx hb dX8_combine_145 hl (k := 3) rfl (by rw [show Int32.ofInt (1) = iz (1) from rfl, iz_add]) (by decide) rfl (fun ls hl => ?_)
            refine lv_goto (tgt := 28) hx hb dX8_combine_148 (by decide) ?_
            exact ih_28 (i + 1) (w / 1073741824) (zup g i (w % 1073741824)) _ _ _ (by omega) (by omega) (zdig_up k2 ⟨by omega, by omega⟩) (zstep_i (g := zup g i (w % 1073741824)) (by omega) (fun j _ hj => zup_n (by omega)) (zup_s _ _ _) k3w) (by omega) (fun j hj => (zup_n (by omega)).trans (k5 j (by omega))) (hP) (hD) hS (lv_sub hl [0, 1, 4, 5, 6, 7, 8, 9] rfl)
          refine lv_iload hx hb dX8_combine_64 (lv_at hl 1 rfl) ?_
          refine lv_iload hx hb dX8_combine_66 (lv_at hl 8 rfl) ?_
          refine zr_icmp_ge (x := i) (y := mv) (tgt := 75) hx hb (⟨by omega, by omega⟩) (⟨by omega, by omega⟩) dX8_combine_68 (by decide) (fun h_12 => ?_) (fun h_12 => ?_)
          ·
            refine lv_iload hx hb dX8_combine_75 (lv_at hl 1 rfl) ?_
            refine lv_iload hx hb dX8_combine_77 (lv_at hl 8 rfl) ?_
            refine zr_isub hx hb dX8_combine_79 ?_
            refine lv_aload_n hx hb dX8_combine_80 rfl (lv_at hl 6 rfl) ?_
            refine va_get (D := G.1) (ci := 9) (v := .int (iz (n2))) (C := RX8) (T := TX8) (N := 3) hx hb hts iwX8 hown hK hP 0 rfl rfl 1 (by decide) (hts (.fieldLink RX8 15 "AnnuityHouse$Whole" "size" "I") (by decide +kernel)) (fun _ h9 => h9) rfl dX8_combine_81 ?_
            refine zr_icmp_ge (x := i - mv) (y := n2) (tgt := 100) hx hb (⟨by omega, by omega⟩) (⟨by omega, by omega⟩) dX8_combine_84 (by decide) (fun h_13 => ?_) (fun h_13 => ?_)
            ·
              refine lv_aload_n hx hb dX8_combine_100 rfl (lv_at hl 6 rfl) ?_
              refine va_get (D := G.1) (ci := 9) (v := .long (lz (t2))) (C := RX8) (T := TX8) (N := 3) hx hb hts iwX8 hown hK hP 0 rfl rfl 2 (by decide) (hts (.fieldLink RX8 19 "AnnuityHouse$Whole" "top" "J") (by decide +kernel)) (fun _ h9 => h9) rfl dX8_combine_101 ?_
              refine zr_ldc2 (z := 1073741823) hx hb hown (hts (.constantLong RX8 31 (1073741823)) (by decide +kernel)) rfl dX8_combine_104 ?_
              refine zr_land30 hx hb dX8_combine_107 ?_
              exact hl_108 (t2 % 1073741824) _ _ _ (by first | exact (if_pos (by omega)).symm | exact zmv_lo (by omega) (by omega) | exact zmv_hi (by omega) (by omega)) (hP) (hD) hS (hl)
            ·
              refine lv_aload_n hx hb dX8_combine_87 rfl (lv_at hl 6 rfl) ?_
              refine va_get (D := G.1) (ci := 9) (v := .ref b2) (C := RX8) (T := TX8) (N := 3) hx hb hts iwX8 hown hK hP 0 rfl rfl 0 (by decide) (hts (.fieldLink RX8 11 "AnnuityHouse$Whole" "limbs" "[J") (by decide +kernel)) (fun _ h9 => h9) rfl dX8_combine_88 ?_
              refine lv_iload hx hb dX8_combine_91 (lv_at hl 1 rfl) ?_
              refine lv_iload hx hb dX8_combine_93 (lv_at hl 8 rfl) ?_
              refine zr_isub hx hb dX8_combine_95 ?_
              refine zr_lald hx hb hK hP 1 0 rfl rfl (i := i - mv) (⟨by omega, by omega, by omega⟩) dX8_combine_96 ?_
              refine lv_goto (tgt := 108) hx hb dX8_combine_97 (by decide) ?_
              exact hl_108 (f2 (i - mv)) _ _ _ (by first | exact (if_pos (by omega)).symm | exact zmv_lo (by omega) (by omega) | exact zmv_hi (by omega) (by omega)) (hP) (hD) hS (hl)
          ·
            refine lv_lconst (v := lz (0)) hx hb dX8_combine_71 rfl ?_
            refine lv_goto (tgt := 108) hx hb dX8_combine_72 (by decide) ?_
            exact hl_108 0 _ _ _ (by first | exact (if_pos (by omega)).symm | exact zmv_lo (by omega) (by omega) | exact zmv_hi (by omega) (by omega)) (hP) (hD) hS (hl)
        refine lv_iload hx hb dX8_combine_35 (lv_at hl 0 rfl) ?_
        refine lv_aload_n hx hb dX8_combine_37 rfl (lv_at hl 3 rfl) ?_
        refine va_get (D := G.1) (ci := 9) (v := .int (iz (n))) (C := RX8) (T := TX8) (N := 3) hx hb hts iwX8 hown hK hP 2 rfl rfl 1 (by decide) (hts (.fieldLink RX8 15 "AnnuityHouse$Whole" "size" "I") (by decide +kernel)) (fun _ h9 => h9) rfl dX8_combine_38 ?_
        refine zr_icmp_ge (x := i) (y := n) (tgt := 54) hx hb (⟨by omega, by omega⟩) (⟨by omega, by omega⟩) dX8_combine_41 (by decide) (fun h_14 => ?_) (fun h_14 => ?_)
        ·
          refine lv_aload_n hx hb dX8_combine_54 rfl (lv_at hl 3 rfl) ?_
          refine va_get (D := G.1) (ci := 9) (v := .long (lz (t))) (C := RX8) (T := TX8) (N := 3) hx hb hts iwX8 hown hK hP 2 rfl rfl 2 (by decide) (hts (.fieldLink RX8 19 "AnnuityHouse$Whole" "top" "J") (by decide +kernel)) (fun _ h9 => h9) rfl dX8_combine_55 ?_
          refine zr_ldc2 (z := 1073741823) hx hb hown (hts (.constantLong RX8 31 (1073741823)) (by decide +kernel)) rfl dX8_combine_58 ?_
          refine zr_land30 hx hb dX8_combine_61 ?_
          exact hl_62 (t % 1073741824) _ _ _ (by first | exact (k5 i (by omega)).trans (if_pos (by omega)).symm | exact (if_neg (by omega)).symm) (hP) (hD) hS (hl)
        ·
          refine lv_aload_n hx hb dX8_combine_44 rfl (lv_at hl 3 rfl) ?_
          refine va_get (D := G.1) (ci := 9) (v := .ref b) (C := RX8) (T := TX8) (N := 3) hx hb hts iwX8 hown hK hP 2 rfl rfl 0 (by decide) (hts (.fieldLink RX8 11 "AnnuityHouse$Whole" "limbs" "[J") (by decide +kernel)) (fun _ h9 => h9) rfl dX8_combine_45 ?_
          refine lv_iload hx hb dX8_combine_48 (lv_at hl 0 rfl) ?_
          refine zr_lald hx hb hK hP 3 0 rfl rfl (i := i) (⟨by omega, by omega, by omega⟩) dX8_combine_50 ?_
          refine lv_goto (tgt := 62) hx hb dX8_combine_51 (by decide) ?_
          exact hl_62 (g i) _ _ _ (by first | exact (k5 i (by omega)).trans (if_pos (by omega)).symm | exact (if_neg (by omega)).symm) (hP) (hD) hS (hl)
  exact hl_28 ((R - 0 : Int).toNat + 1) 0 0 f _ _ _ (Nat.lt_succ_self _) (by omega) (fun i h0 h1 => absurd h1 (by omega)) (by simp [zsum]) (by omega) (fun _ _ => rfl) (hP) (hD) hS (hl)

def rm_c_X8_isAtLeast : Room := { frames := 1, cells := 0, slots := 0, locals := 21 }
theorem iw_X8_isAtLeast_X8 : ∀ w ∈ wsX80, w ∈ wsX8_isAtLeast := by decide +kernel
set_option maxHeartbeats 1000000 in
set_option maxRecDepth 100000 in
theorem c_X8_isAtLeast (l : Launch) (G : zG) (a : Nat) (b : Nat) (f : Int → Int) (n : Int) (t : Int) (a2 : Nat) (b2 : Nat) (f2 : Int → Int) (n2 : Int) (t2 : Int) (v : Int) (v2 : Int) (mv : Int) (h1 : zwv f n t v) (h2 : zwv f2 n2 t2 v2) (h3 : 0 ≤ v ∧ 0 ≤ v2) (h4 : 0 ≤ mv) (h5 : 0 < v2 ∨ mv = 0) (h6 : n2 + mv ≤ 100) : zM l G yX8_isAtLeast wsX8_isAtLeast rm_c_X8_isAtLeast [.ref a, .ref a2, .int (iz (mv))] [(a, .inr (9, [.ref b, .int (iz (n)), .long (lz (t))])), (b, zaL (G.2 0) 40 (f)), (a2, .inr (9, [.ref b2, .int (iz (n2)), .long (lz (t2))])), (b2, zaL (G.2 0) 40 (f2))] (fun A => zQz G (fun (z : Bool) (_ : Unit) => z = decide (v2 * 1073741824 ^ mv.toNat ≤ v)) (fun (_ : Unit) => [(a, .inr (9, [.ref b, .int (iz (n)), .long (lz (t))])), (b, zaL (G.2 0) 40 (f)), (a2, .inr (9, [.ref b2, .int (iz (n2)), .long (lz (t2))])), (b2, zaL (G.2 0) 40 (f2))]) A) 0 0 := by
  refine zM_of (cc := cX8_isAtLeast) (maxL := 5) (ret := (some .boolean)) (by decide) rfl (Nat.le_of_ble_eq_true rfl) ?_
  intro p e s m below meth c ls A Q hQ hx hb hr hts hown hlocks hml hnm hKX hP hD hA hS hl
  have hK := hKX.1
  have iwX8 := iw_X8_isAtLeast_X8
  obtain ⟨H, hH⟩ : ∃ h, h = s.heap := ⟨_, rfl⟩
  obtain ⟨locs, hlo⟩ : ∃ h : List Loc, h = [] := ⟨_, rfl⟩
  have hS : va_S A s.heap H locs := by rw [hH, hlo]; exact hS
  have hP : va_P G.1 vwCl [(a, .inr (9, [.ref b, .int (iz (n)), .long (lz (t))])), (b, zaL (G.2 0) 40 (f)), (a2, .inr (9, [.ref b2, .int (iz (n2)), .long (lz (t2))])), (b2, zaL (G.2 0) 40 (f2))] H := by rw [hH]; exact hP
  have hD : va_D A [(a, .inr (9, [.ref b, .int (iz (n)), .long (lz (t))])), (b, zaL (G.2 0) 40 (f)), (a2, .inr (9, [.ref b2, .int (iz (n2)), .long (lz (t2))])), (b2, zaL (G.2 0) 40 (f2))] := hD
  have hl : lv_has ls 5 [(0, .ref a), (1, .ref a2), (2, .int (iz (mv)))] := hl
  rw [← hH, ← hlo]
  have h01 := h1.n0
  have h02 := h2.n0
  have et := h1.t00 h3.1
  have et2 := h2.t00 h3.2
  refine lv_aload_n hx hb dX8_isAtLeast_0 rfl (lv_at hl 1 rfl) ?_
  refine va_get (D := G.1) (ci := 9) (v := .int (iz (n2))) (C := RX8) (T := TX8) (N := 3) hx hb hts iwX8 hown hK hP 2 rfl rfl 1 (by decide) (hts (.fieldLink RX8 15 "AnnuityHouse$Whole" "size" "I") (by decide +kernel)) (fun _ h9 => h9) rfl dX8_isAtLeast_1 ?_
  refine lv_iload_n hx hb dX8_isAtLeast_4 rfl (lv_at hl 2 rfl) ?_
  refine zr_iadd hx hb dX8_isAtLeast_5 ?_
  refine lv_istore_n (lv' := [(3, .int (iz (n2 + mv))), (0, .ref a), (1, .ref a2), (2, .int (iz (mv)))]) hx hb dX8_isAtLeast_6 rfl hl (by decide) rfl (fun ls hl => ?_)
  refine lv_aload_n hx hb dX8_isAtLeast_7 rfl (lv_at hl 1 rfl) ?_
  refine va_get (D := G.1) (ci := 9) (v := .int (iz (n))) (C := RX8) (T := TX8) (N := 3) hx hb hts iwX8 hown hK hP 0 rfl rfl 1 (by decide) (hts (.fieldLink RX8 15 "AnnuityHouse$Whole" "size" "I") (by decide +kernel)) (fun _ h9 => h9) rfl dX8_isAtLeast_8 ?_
  refine lv_iload_n hx hb dX8_isAtLeast_11 rfl (lv_at hl 0 rfl) ?_
  refine zr_icmp_eq (x := n) (y := n2 + mv) (tgt := 29) hx hb (⟨by omega, by omega⟩) (⟨by omega, by omega⟩) dX8_isAtLeast_12 (by decide) (fun h_1 => ?_) (fun h_1 => ?_)
  ·
    refine lv_aload_n hx hb dX8_isAtLeast_29 rfl (lv_at hl 1 rfl) ?_
    refine va_get (D := G.1) (ci := 9) (v := .int (iz (n))) (C := RX8) (T := TX8) (N := 3) hx hb hts iwX8 hown hK hP 0 rfl rfl 1 (by decide) (hts (.fieldLink RX8 15 "AnnuityHouse$Whole" "size" "I") (by decide +kernel)) (fun _ h9 => h9) rfl dX8_isAtLeast_30 ?_
    refine lv_iconst (v := iz (1)) hx hb dX8_isAtLeast_33 rfl ?_
    refine zr_isub hx hb dX8_isAtLeast_34 ?_
    refine lv_istore (lv' := [(4, .int (iz (n - 1))), (3, .int (iz (n2 + mv))), (0, .ref a), (1, .ref a2), (2, .int (iz (mv)))]) hx hb dX8_isAtLeast_35 hl (by decide) rfl (fun ls hl => ?_)
    have hl_37 : ∀ (zn_37 : Nat) (i : Int) (H : Heap) (locs : List Loc) (ls : Array Slot), (i - mv + 1).toNat < zn_37 → (mv - 1 ≤ i ∧ i < n) → (∀ j : Int, i < j → j < n → f j = f2 (j - mv)) → va_P G.1 vwCl [(a, .inr (9, [.ref b, .int (iz (n)), .long (lz (t))])), (b, zaL (G.2 0) 40 (f)), (a2, .inr (9, [.ref b2, .int (iz (n2)), .long (lz (t2))])), (b2, zaL (G.2 0) 40 (f2))] H → va_D A [(a, .inr (9, [.ref b, .int (iz (n)), .long (lz (t))])), (b, zaL (G.2 0) 40 (f)), (a2, .inr (9, [.ref b2, .int (iz (n2)), .long (lz (t2))])), (b2, zaL (G.2 0) 40 (f2))] → va_S A s.heap H locs → lv_has ls 5 [(4, .int (iz (i))), (3, .int (iz (n2 + mv))), (0, .ref a), (1, .ref a2), (2, .int (iz (mv)))] → W p l e rm_c_X8_isAtLeast s m ([.ref a, .ref a2, .int (iz (mv))] : List Value).toArray below meth c H locs 0 0 Q (F0 m 37 ls []) := by
      intro zn_37
      induction zn_37 with
      | zero => intro i H locs ls hm; exact absurd hm (Nat.not_lt_zero _)
      | succ zn_37 ih_37 =>
        intro i H locs ls hm_37 k1 k2 hP hD hS hl
        refine lv_iload hx hb dX8_isAtLeast_37 (lv_at hl 0 rfl) ?_
        refine lv_iload_n hx hb dX8_isAtLeast_39 rfl (lv_at hl 4 rfl) ?_
        refine zr_icmp_lt (x := i) (y := mv) (tgt := 91) hx hb (⟨by omega, by omega⟩) (⟨by omega, by omega⟩) dX8_isAtLeast_40 (by decide) (fun h_2 => ?_) (fun h_2 => ?_)
        ·
          refine lv_iconst (v := iz (1)) hx hb dX8_isAtLeast_91 rfl ?_
          rw [hQ]
          exact zr_zret (z := true) (rfl) (u := ()) hx hb hr hlocks hP hD hS (by first | exact Nat.le_of_ble_eq_true rfl | omega) (by first | exact Nat.le_of_ble_eq_true rfl | omega) dX8_isAtLeast_92 (show true = decide (v2 * 1073741824 ^ mv.toNat ≤ v) from zal_same h1 h2 h3.1 h3.2 h4 (by omega) (fun j a b => k2 j (by omega) b))
        ·
          refine lv_aload_n hx hb dX8_isAtLeast_43 rfl (lv_at hl 2 rfl) ?_
          refine lv_iload hx hb dX8_isAtLeast_44 (lv_at hl 0 rfl) ?_
          refine zc_l (wr := [(a2, .inr (9, [.ref b2, .int (iz (n2)), .long (lz (t2))])), (b2, zaL (G.2 0) 40 (f2))]) (va_runV (As := [.int (iz (i))]) (rest := []) ⟨hx, hb, hml, hown, hts⟩ (c_X8_limb l G a b f n t i (by omega) (by omega) H.size) (cwV 1 hts gX8_isAtLeast_X8_limb rfl rfl rfl (by decide +kernel) ⟨Nat.le_of_ble_eq_true rfl, Nat.le_of_ble_eq_true rfl⟩) (zpV hKX hP hD [0, 1] rfl rfl 0 9 rfl rfl) rfl rfl hl.1 rfl (lv_room (Nat.le_of_ble_eq_true rfl)) dX8_isAtLeast_46 ⟨(by first | exact Nat.le_of_ble_eq_true rfl | (show _ ≤ (0 : Nat); omega)), (by first | exact Nat.le_of_ble_eq_true rfl | (show _ ≤ (0 : Nat); omega))⟩) hP hD hS hA [0, 1] [2, 3] rfl rfl rfl (by decide) (fun y1 u_3 H locs hy1 hP hD hS => ?_)
          have hP : va_P G.1 vwCl [(a2, .inr (9, [.ref b2, .int (iz (n2)), .long (lz (t2))])), (b2, zaL (G.2 0) 40 (f2)), (a, .inr (9, [.ref b, .int (iz (n)), .long (lz (t))])), (b, zaL (G.2 0) 40 (f))] H := hP
          have hD : va_D A [(a2, .inr (9, [.ref b2, .int (iz (n2)), .long (lz (t2))])), (b2, zaL (G.2 0) 40 (f2)), (a, .inr (9, [.ref b, .int (iz (n)), .long (lz (t))])), (b, zaL (G.2 0) 40 (f))] := hD
          have hy1 : y1 = if 0 ≤ i ∧ i < n then f i else t % 1073741824 := hy1
          rw [if_pos (by omega)] at hy1
          refine lv_aload_n hx hb dX8_isAtLeast_49 rfl (lv_at hl 3 rfl) ?_
          refine lv_iload hx hb dX8_isAtLeast_50 (lv_at hl 0 rfl) ?_
          refine lv_iload_n hx hb dX8_isAtLeast_52 rfl (lv_at hl 4 rfl) ?_
          refine zr_isub hx hb dX8_isAtLeast_53 ?_
          refine zc_l (wr := [(a, .inr (9, [.ref b, .int (iz (n)), .long (lz (t))])), (b, zaL (G.2 0) 40 (f))]) (va_runV (As := [.int (iz (i - mv))]) (rest := [.long (lz (y1))]) ⟨hx, hb, hml, hown, hts⟩ (c_X8_limb l G a2 b2 f2 n2 t2 (i - mv) (by omega) (by omega) H.size) (cwV 1 hts gX8_isAtLeast_X8_limb rfl rfl rfl (by decide +kernel) ⟨Nat.le_of_ble_eq_true rfl, Nat.le_of_ble_eq_true rfl⟩) (zpV hKX hP hD [0, 1] rfl rfl 0 9 rfl rfl) rfl rfl hl.1 rfl (lv_room (Nat.le_of_ble_eq_true rfl)) dX8_isAtLeast_54 ⟨(by first | exact Nat.le_of_ble_eq_true rfl | (show _ ≤ (0 : Nat); omega)), (by first | exact Nat.le_of_ble_eq_true rfl | (show _ ≤ (0 : Nat); omega))⟩) hP hD hS hA [0, 1] [2, 3] rfl rfl rfl (by decide) (fun y2 u_5 H locs hy2 hP hD hS => ?_)
          have hP : va_P G.1 vwCl [(a, .inr (9, [.ref b, .int (iz (n)), .long (lz (t))])), (b, zaL (G.2 0) 40 (f)), (a2, .inr (9, [.ref b2, .int (iz (n2)), .long (lz (t2))])), (b2, zaL (G.2 0) 40 (f2))] H := hP
          have hD : va_D A [(a, .inr (9, [.ref b, .int (iz (n)), .long (lz (t))])), (b, zaL (G.2 0) 40 (f)), (a2, .inr (9, [.ref b2, .int (iz (n2)), .long (lz (t2))])), (b2, zaL (G.2 0) 40 (f2))] := hD
          have hy2 : y2 = if 0 ≤ (i - mv) ∧ (i - mv) < n2 then f2 (i - mv) else t2 % 1073741824 := hy2
          rw [if_pos (by omega)] at hy2
          refine zr_lcmp_eq (x := y1) (y := y2) (tgt := 85) hx hb (by have := h1.dig i (by omega) (by omega); exact ⟨by omega, by omega⟩) (by have := h2.dig (i - mv) (by omega) (by omega); exact ⟨by omega, by omega⟩) dX8_isAtLeast_57 dX8_isAtLeast_58 (by decide) (fun h_7 => ?_) (fun h_7 => ?_)
          ·
            have hs : f i = f2 (i - mv) := by omega
            refine lv_iinc (v := iz (i - 1)) (lv' := [(4, .int (iz (i - 1))), (3, .int (iz (n2 + mv))), (0, .ref a), (1, .ref a2), (2, .int (iz (mv)))]) hx hb dX8_isAtLeast_85 hl (k := 0) rfl (by rw [show Int32.ofInt (-1) = iz (-1) from rfl, iz_add]; exact congrArg iz (by omega)) (by decide) rfl (fun ls hl => ?_)
            refine lv_goto (tgt := 37) hx hb dX8_isAtLeast_88 (by decide) ?_
            refine W.widen (k := 0) (n := 0) (by omega) (by omega) ?_
            exact ih_37 (i - 1) _ _ _ (by omega) (by omega) (fun j a b => (show j = i ∨ i < j by omega).elim (fun c => by rw [c]; exact hs) (fun c => k2 j c b)) (hP) (hD) hS (hl)
          ·
            refine lv_aload_n hx hb dX8_isAtLeast_61 rfl (lv_at hl 2 rfl) ?_
            refine lv_iload hx hb dX8_isAtLeast_62 (lv_at hl 0 rfl) ?_
            refine zc_l (wr := [(a2, .inr (9, [.ref b2, .int (iz (n2)), .long (lz (t2))])), (b2, zaL (G.2 0) 40 (f2))]) (va_runV (As := [.int (iz (i))]) (rest := []) ⟨hx, hb, hml, hown, hts⟩ (c_X8_limb l G a b f n t i (by omega) (by omega) H.size) (cwV 1 hts gX8_isAtLeast_X8_limb rfl rfl rfl (by decide +kernel) ⟨Nat.le_of_ble_eq_true rfl, Nat.le_of_ble_eq_true rfl⟩) (zpV hKX hP hD [0, 1] rfl rfl 0 9 rfl rfl) rfl rfl hl.1 rfl (lv_room (Nat.le_of_ble_eq_true rfl)) dX8_isAtLeast_64 ⟨(by first | exact Nat.le_of_ble_eq_true rfl | (show _ ≤ (0 : Nat); omega)), (by first | exact Nat.le_of_ble_eq_true rfl | (show _ ≤ (0 : Nat); omega))⟩) hP hD hS hA [0, 1] [2, 3] rfl rfl rfl (by decide) (fun y3 u_8 H locs hy3 hP hD hS => ?_)
            have hP : va_P G.1 vwCl [(a2, .inr (9, [.ref b2, .int (iz (n2)), .long (lz (t2))])), (b2, zaL (G.2 0) 40 (f2)), (a, .inr (9, [.ref b, .int (iz (n)), .long (lz (t))])), (b, zaL (G.2 0) 40 (f))] H := hP
            have hD : va_D A [(a2, .inr (9, [.ref b2, .int (iz (n2)), .long (lz (t2))])), (b2, zaL (G.2 0) 40 (f2)), (a, .inr (9, [.ref b, .int (iz (n)), .long (lz (t))])), (b, zaL (G.2 0) 40 (f))] := hD
            have hy3 : y3 = if 0 ≤ i ∧ i < n then f i else t % 1073741824 := hy3
            rw [if_pos (by omega)] at hy3
            refine lv_aload_n hx hb dX8_isAtLeast_67 rfl (lv_at hl 3 rfl) ?_
            refine lv_iload hx hb dX8_isAtLeast_68 (lv_at hl 0 rfl) ?_
            refine lv_iload_n hx hb dX8_isAtLeast_70 rfl (lv_at hl 4 rfl) ?_
            refine zr_isub hx hb dX8_isAtLeast_71 ?_
            refine zc_l (wr := [(a, .inr (9, [.ref b, .int (iz (n)), .long (lz (t))])), (b, zaL (G.2 0) 40 (f))]) (va_runV (As := [.int (iz (i - mv))]) (rest := [.long (lz (y3))]) ⟨hx, hb, hml, hown, hts⟩ (c_X8_limb l G a2 b2 f2 n2 t2 (i - mv) (by omega) (by omega) H.size) (cwV 1 hts gX8_isAtLeast_X8_limb rfl rfl rfl (by decide +kernel) ⟨Nat.le_of_ble_eq_true rfl, Nat.le_of_ble_eq_true rfl⟩) (zpV hKX hP hD [0, 1] rfl rfl 0 9 rfl rfl) rfl rfl hl.1 rfl (lv_room (Nat.le_of_ble_eq_true rfl)) dX8_isAtLeast_72 ⟨(by first | exact Nat.le_of_ble_eq_true rfl | (show _ ≤ (0 : Nat); omega)), (by first | exact Nat.le_of_ble_eq_true rfl | (show _ ≤ (0 : Nat); omega))⟩) hP hD hS hA [0, 1] [2, 3] rfl rfl rfl (by decide) (fun y4 u_10 H locs hy4 hP hD hS => ?_)
            have hP : va_P G.1 vwCl [(a, .inr (9, [.ref b, .int (iz (n)), .long (lz (t))])), (b, zaL (G.2 0) 40 (f)), (a2, .inr (9, [.ref b2, .int (iz (n2)), .long (lz (t2))])), (b2, zaL (G.2 0) 40 (f2))] H := hP
            have hD : va_D A [(a, .inr (9, [.ref b, .int (iz (n)), .long (lz (t))])), (b, zaL (G.2 0) 40 (f)), (a2, .inr (9, [.ref b2, .int (iz (n2)), .long (lz (t2))])), (b2, zaL (G.2 0) 40 (f2))] := hD
            have hy4 : y4 = if 0 ≤ (i - mv) ∧ (i - mv) < n2 then f2 (i - mv) else t2 % 1073741824 := hy4
            rw [if_pos (by omega)] at hy4
            refine zr_lcmp_le (x := y3) (y := y4) (tgt := 83) hx hb (by have := h1.dig i (by omega) (by omega); exact ⟨by omega, by omega⟩) (by have := h2.dig (i - mv) (by omega) (by omega); exact ⟨by omega, by omega⟩) dX8_isAtLeast_75 dX8_isAtLeast_76 (by decide) (fun h_12 => ?_) (fun h_12 => ?_)
            ·
              refine lv_iconst (v := iz (0)) hx hb dX8_isAtLeast_83 rfl ?_
              rw [hQ]
              exact zr_zret (z := false) (rfl) (u := ()) hx hb hr hlocks hP hD hS (by first | exact Nat.le_of_ble_eq_true rfl | omega) (by first | exact Nat.le_of_ble_eq_true rfl | omega) dX8_isAtLeast_84 (show false = decide (v2 * 1073741824 ^ mv.toNat ≤ v) from by rw [← zal_dif h1 h2 h3.1 h3.2 h4 (by omega) ⟨by omega, by omega⟩ k2 (by omega)]; first | exact (decide_eq_true (by omega)).symm | exact (decide_eq_false (by omega)).symm)
            ·
              refine lv_iconst (v := iz (1)) hx hb dX8_isAtLeast_79 rfl ?_
              refine lv_goto (tgt := 84) hx hb dX8_isAtLeast_80 (by decide) ?_
              rw [hQ]
              exact zr_zret (z := true) (rfl) (u := ()) hx hb hr hlocks hP hD hS (by first | exact Nat.le_of_ble_eq_true rfl | omega) (by first | exact Nat.le_of_ble_eq_true rfl | omega) dX8_isAtLeast_84 (show true = decide (v2 * 1073741824 ^ mv.toNat ≤ v) from by rw [← zal_dif h1 h2 h3.1 h3.2 h4 (by omega) ⟨by omega, by omega⟩ k2 (by omega)]; first | exact (decide_eq_true (by omega)).symm | exact (decide_eq_false (by omega)).symm)
    exact hl_37 (((n - 1) - mv + 1 : Int).toNat + 1) (n - 1) _ _ _ (Nat.lt_succ_self _) (by omega) (fun j a b => absurd b (by omega)) (hP) (hD) hS (hl)
  ·
    refine lv_aload_n hx hb dX8_isAtLeast_15 rfl (lv_at hl 1 rfl) ?_
    refine va_get (D := G.1) (ci := 9) (v := .int (iz (n))) (C := RX8) (T := TX8) (N := 3) hx hb hts iwX8 hown hK hP 0 rfl rfl 1 (by decide) (hts (.fieldLink RX8 15 "AnnuityHouse$Whole" "size" "I") (by decide +kernel)) (fun _ h9 => h9) rfl dX8_isAtLeast_16 ?_
    refine lv_iload_n hx hb dX8_isAtLeast_19 rfl (lv_at hl 0 rfl) ?_
    refine zr_icmp_le (x := n) (y := n2 + mv) (tgt := 27) hx hb (⟨by omega, by omega⟩) (⟨by omega, by omega⟩) dX8_isAtLeast_20 (by decide) (fun h_13 => ?_) (fun h_13 => ?_)
    ·
      refine lv_iconst (v := iz (0)) hx hb dX8_isAtLeast_27 rfl ?_
      rw [hQ]
      exact zr_zret (z := false) (rfl) (u := ()) hx hb hr hlocks hP hD hS (by first | exact Nat.le_of_ble_eq_true rfl | omega) (by first | exact Nat.le_of_ble_eq_true rfl | omega) dX8_isAtLeast_28 (show false = decide (v2 * 1073741824 ^ mv.toNat ≤ v) from by first | exact zal_big h1 h2 h3.1 h3.2 h4 (by omega) | exact zal_small h1 h2 h3.1 h3.2 h4 h5 (by omega))
    ·
      refine lv_iconst (v := iz (1)) hx hb dX8_isAtLeast_23 rfl ?_
      refine lv_goto (tgt := 28) hx hb dX8_isAtLeast_24 (by decide) ?_
      rw [hQ]
      exact zr_zret (z := true) (rfl) (u := ()) hx hb hr hlocks hP hD hS (by first | exact Nat.le_of_ble_eq_true rfl | omega) (by first | exact Nat.le_of_ble_eq_true rfl | omega) dX8_isAtLeast_28 (show true = decide (v2 * 1073741824 ^ mv.toNat ≤ v) from by first | exact zal_big h1 h2 h3.1 h3.2 h4 (by omega) | exact zal_small h1 h2 h3.1 h3.2 h4 h5 (by omega))

def rm_c_X8_scaleOf : Room := { frames := 0, cells := 0, slots := 0, locals := 0 }
set_option maxHeartbeats 1000000 in
set_option maxRecDepth 100000 in
theorem c_X8_scaleOf (l : Launch) (G : zG) (x : Int) (h1 : 1 ≤ x ∧ x < 1073741824) : zM l G yX8_scaleOf wsX8_scaleOf rm_c_X8_scaleOf [.long (lz (x))] [] (fun A => zQl G (fun (z : Int) (_ : Unit) => 1 ≤ z ∧ z < 1073741824 ∧ x * z < 1073741824) (fun (_ : Unit) => []) A) 0 0 := by
  refine zM_of (cc := cX8_scaleOf) (maxL := 5) (ret := (some .long)) (by decide) rfl (Nat.le_of_ble_eq_true rfl) ?_
  intro p e s m below meth c ls A Q hQ hx hb hr hts hown hlocks hml hnm hKX hP hD hA hS hl
  have hK := hKX.1
  obtain ⟨H, hH⟩ : ∃ h, h = s.heap := ⟨_, rfl⟩
  obtain ⟨locs, hlo⟩ : ∃ h : List Loc, h = [] := ⟨_, rfl⟩
  have hS : va_S A s.heap H locs := by rw [hH, hlo]; exact hS
  have hP : va_P G.1 vwCl [] H := by rw [hH]; exact hP
  have hD : va_D A [] := hD
  have hl : lv_has ls 5 [(0, .long (lz (x)))] := hl
  rw [← hH, ← hlo]
  refine lv_lconst (v := lz (1)) hx hb dX8_scaleOf_0 rfl ?_
  refine lv_lstore_n (lv' := [(2, .long (lz (1))), (0, .long (lz (x)))]) hx hb dX8_scaleOf_1 rfl hl (by decide) rfl (fun ls hl => ?_)
  refine lv_iconst (v := iz (1)) hx hb dX8_scaleOf_2 rfl ?_
  refine lv_istore (lv' := [(4, .int (iz (1))), (2, .long (lz (1))), (0, .long (lz (x)))]) hx hb dX8_scaleOf_3 hl (by decide) rfl (fun ls hl => ?_)
  have hl_5 : ∀ (zn_5 : Nat) (sc : Int) (bt : Int) (H : Heap) (locs : List Loc) (ls : Array Slot), (30 - bt).toNat < zn_5 → (1 ≤ bt ∧ bt ≤ 30) → (1 ≤ sc ∧ sc < 1073741824) → (x * sc < 1073741824) → va_P G.1 vwCl [] H → va_D A [] → va_S A s.heap H locs → lv_has ls 5 [(4, .int (iz (bt))), (2, .long (lz (sc))), (0, .long (lz (x)))] → W p l e rm_c_X8_scaleOf s m ([.long (lz (x))] : List Value).toArray below meth c H locs 0 0 Q (F0 m 5 ls []) := by
    intro zn_5
    induction zn_5 with
    | zero => intro sc bt H locs ls hm; exact absurd hm (Nat.not_lt_zero _)
    | succ zn_5 ih_5 =>
      intro sc bt H locs ls hm_5 k1 k2 k3 hP hD hS hl
      refine lv_iload hx hb dX8_scaleOf_5 (lv_at hl 0 rfl) ?_
      refine lv_bipush (v := iz (30)) hx hb dX8_scaleOf_7 rfl ?_
      refine zr_icmp_ge (x := bt) (y := 30) (tgt := 38) hx hb (⟨by omega, by omega⟩) (⟨by omega, by omega⟩) dX8_scaleOf_9 (by decide) (fun h_1 => ?_) (fun h_1 => ?_)
      ·
        refine lv_lload_n hx hb dX8_scaleOf_38 rfl (lv_at hl 1 rfl) ?_
        rw [hQ]
        exact zr_lret (z := sc) (u := ()) hx hb hr hlocks hP hD hS (by first | exact Nat.le_of_ble_eq_true rfl | omega) (by first | exact Nat.le_of_ble_eq_true rfl | omega) dX8_scaleOf_39 (show 1 ≤ sc ∧ sc < 1073741824 ∧ x * sc < 1073741824 from ⟨k2.1, k2.2, by omega⟩)
      ·
        refine lv_lload_n hx hb dX8_scaleOf_12 rfl (lv_at hl 2 rfl) ?_
        refine lv_lload_n hx hb dX8_scaleOf_13 rfl (lv_at hl 1 rfl) ?_
        refine zr_lmul hx hb dX8_scaleOf_14 ?_
        refine zr_namel (fun y ey => ?_)
        have hy : 1 ≤ y ∧ y < 1073741824 := by rw [ey]; exact ⟨by have := Int.mul_le_mul_of_nonneg_right (c := sc) h1.1 (by omega); omega, k3⟩
        refine zr_ldc2 (z := 2) hx hb hown (hts (.constantLong RX8 63 (2)) (by decide +kernel)) rfl dX8_scaleOf_15 ?_
        refine zr_lmul hx hb dX8_scaleOf_18 ?_
        refine zr_ldc2 (z := 1073741823) hx hb hown (hts (.constantLong RX8 31 (1073741823)) (by decide +kernel)) rfl dX8_scaleOf_19 ?_
        refine zr_lcmp_gt (x := y * 2) (y := 1073741823) (tgt := 38) hx hb (⟨by omega, by omega⟩) (⟨by omega, by omega⟩) dX8_scaleOf_22 dX8_scaleOf_23 (by decide) (fun h_2 => ?_) (fun h_2 => ?_)
        ·
          refine lv_lload_n hx hb dX8_scaleOf_38 rfl (lv_at hl 1 rfl) ?_
          rw [hQ]
          exact zr_lret (z := sc) (u := ()) hx hb hr hlocks hP hD hS (by first | exact Nat.le_of_ble_eq_true rfl | omega) (by first | exact Nat.le_of_ble_eq_true rfl | omega) dX8_scaleOf_39 (show 1 ≤ sc ∧ sc < 1073741824 ∧ x * sc < 1073741824 from ⟨k2.1, k2.2, by omega⟩)
        ·
          have k3n : x * (sc * 2) < 1073741824 := by rw [← Int.mul_assoc, ← ey]; omega
          have k2n : sc * 2 < 1073741824 := by have := Int.mul_le_mul_of_nonneg_right (c := sc * 2) h1.1 (by omega); omega
          refine lv_lload_n hx hb dX8_scaleOf_26 rfl (lv_at hl 1 rfl) ?_
          refine zr_ldc2 (z := 2) hx hb hown (hts (.constantLong RX8 63 (2)) (by decide +kernel)) rfl dX8_scaleOf_27 ?_
          refine zr_lmul hx hb dX8_scaleOf_30 ?_
          refine lv_lstore_n (lv' := [(2, .long (lz (sc * 2))), (4, .int (iz (bt))), (0, .long (lz (x)))]) hx hb dX8_scaleOf_31 rfl hl (by decide) rfl (fun ls hl => ?_)
          refine lv_iinc (v := iz (bt + 1)) (lv' := [(4, .int (iz (bt + 1))), (2, .long (lz (sc * 2))), (0, .long (lz (x)))]) hx hb dX8_scaleOf_32 hl (k := 1) rfl (by rw [show Int32.ofInt (1) = iz (1) from rfl, iz_add]) (by decide) rfl (fun ls hl => ?_)
          refine lv_goto (tgt := 5) hx hb dX8_scaleOf_35 (by decide) ?_
          exact ih_5 (sc * 2) (bt + 1) _ _ _ (by omega) (by omega) (⟨by omega, k2n⟩) (k3n) (hP) (hD) hS (hl)
  exact hl_5 ((30 - 1 : Int).toNat + 1) 1 1 _ _ _ (Nat.lt_succ_self _) (by omega) (by omega) (by omega) (hP) (hD) hS (hl)

def rm_c_X8_divide : Room := { frames := 2, cells := 0, slots := 0, locals := 60 }
theorem iw_X8_divide_X8 : ∀ w ∈ wsX80, w ∈ wsX8_divide := by decide +kernel
set_option maxHeartbeats 1000000 in
set_option maxRecDepth 100000 in
theorem c_X8_divide (l : Launch) (G : zG) (a : Nat) (b : Nat) (f : Int → Int) (n : Int) (t : Int) (a2 : Nat) (b2 : Nat) (f2 : Int → Int) (n2 : Int) (t2 : Int) (v : Int) (v2 : Int) (h1 : zwv f n t v) (h2 : zwv f2 n2 t2 v2) (h3 : 0 ≤ v) (h4 : 0 < v2) (h5 : v < 1073741824 ^ 35) (h6 : v2 < 1073741824 ^ 35) (h7 : v < v2 * 1073741824 ^ 2) : zM l G yX8_divide wsX8_divide rm_c_X8_divide [.ref a, .ref a2] [(a, .inr (9, [.ref b, .int (iz (n)), .long (lz (t))])), (b, zaL (G.2 0) 40 (f)), (a2, .inr (9, [.ref b2, .int (iz (n2)), .long (lz (t2))])), (b2, zaL (G.2 0) 40 (f2))] (fun A => zQl G (fun (z : Int) (u : (Int → Int) × Int × Int × (Int → Int) × Int × Int × Int) => z = v / v2 ∧ zwv u.1 u.2.1 u.2.2.1 (v % v2 * u.2.2.2.2.2.2) ∧ zwv u.2.2.2.1 u.2.2.2.2.1 u.2.2.2.2.2.1 (v2 * u.2.2.2.2.2.2) ∧ 1 ≤ u.2.2.2.2.2.2 ∧ u.2.2.2.2.2.2 < 1073741824) (fun (u : (Int → Int) × Int × Int × (Int → Int) × Int × Int × Int) => [(a, .inr (9, [.ref b, .int (iz (u.2.1)), .long (lz (u.2.2.1))])), (b, zaL (G.2 0) 40 (u.1)), (a2, .inr (9, [.ref b2, .int (iz (u.2.2.2.2.1)), .long (lz (u.2.2.2.2.2.1))])), (b2, zaL (G.2 0) 40 (u.2.2.2.1))]) A) 0 0 := by
  refine zM_of (cc := cX8_divide) (maxL := 13) (ret := (some .long)) (by decide) rfl (Nat.le_of_ble_eq_true rfl) ?_
  intro p e s m below meth c ls A Q hQ hx hb hr hts hown hlocks hml hnm hKX hP hD hA hS hl
  have hK := hKX.1
  have iwX8 := iw_X8_divide_X8
  obtain ⟨H, hH⟩ : ∃ h, h = s.heap := ⟨_, rfl⟩
  obtain ⟨locs, hlo⟩ : ∃ h : List Loc, h = [] := ⟨_, rfl⟩
  have hS : va_S A s.heap H locs := by rw [hH, hlo]; exact hS
  have hP : va_P G.1 vwCl [(a, .inr (9, [.ref b, .int (iz (n)), .long (lz (t))])), (b, zaL (G.2 0) 40 (f)), (a2, .inr (9, [.ref b2, .int (iz (n2)), .long (lz (t2))])), (b2, zaL (G.2 0) 40 (f2))] H := by rw [hH]; exact hP
  have hD : va_D A [(a, .inr (9, [.ref b, .int (iz (n)), .long (lz (t))])), (b, zaL (G.2 0) 40 (f)), (a2, .inr (9, [.ref b2, .int (iz (n2)), .long (lz (t2))])), (b2, zaL (G.2 0) 40 (f2))] := hD
  have hl : lv_has ls 13 [(0, .ref a), (1, .ref a2)] := hl
  rw [← hH, ← hlo]
  have h01 := h1.n0
  have h02 := h2.n0
  have et := h1.t00 h3
  have et2 := h2.t00 (by omega)
  have hld := zlead h2 h4
  have s1 := zwv_small h1 (k := 35) (by omega) h5
  have s2 := zwv_small h2 (k := 35) (by omega) h6
  refine lv_aload_n hx hb dX8_divide_0 rfl (lv_at hl 1 rfl) ?_
  refine va_get (D := G.1) (ci := 9) (v := .int (iz (n2))) (C := RX8) (T := TX8) (N := 3) hx hb hts iwX8 hown hK hP 2 rfl rfl 1 (by decide) (hts (.fieldLink RX8 15 "AnnuityHouse$Whole" "size" "I") (by decide +kernel)) (fun _ h9 => h9) rfl dX8_divide_1 ?_
  refine zr_if_ne (x := n2) (tgt := 9) hx hb (⟨by omega, by omega⟩) dX8_divide_4 (by decide) (fun h_1 => ?_) (fun h_1 => ?_)
  ·
    refine lv_aload_n hx hb dX8_divide_9 rfl (lv_at hl 1 rfl) ?_
    refine lv_aload_n hx hb dX8_divide_10 rfl (lv_at hl 1 rfl) ?_
    refine va_get (D := G.1) (ci := 9) (v := .int (iz (n2))) (C := RX8) (T := TX8) (N := 3) hx hb hts iwX8 hown hK hP 2 rfl rfl 1 (by decide) (hts (.fieldLink RX8 15 "AnnuityHouse$Whole" "size" "I") (by decide +kernel)) (fun _ h9 => h9) rfl dX8_divide_11 ?_
    refine lv_iconst (v := iz (1)) hx hb dX8_divide_14 rfl ?_
    refine zr_isub hx hb dX8_divide_15 ?_
    refine zc_l (wr := [(a, .inr (9, [.ref b, .int (iz (n)), .long (lz (t))])), (b, zaL (G.2 0) 40 (f))]) (va_runV (As := [.int (iz (n2 - 1))]) (rest := []) ⟨hx, hb, hml, hown, hts⟩ (c_X8_limb l G a2 b2 f2 n2 t2 (n2 - 1) (by omega) (by omega) H.size) (cwV 1 hts gX8_divide_X8_limb rfl rfl rfl (by decide +kernel) ⟨Nat.le_of_ble_eq_true rfl, Nat.le_of_ble_eq_true rfl⟩) (zpV hKX hP hD [2, 3] rfl rfl 2 9 rfl rfl) rfl rfl hl.1 rfl (lv_room (Nat.le_of_ble_eq_true rfl)) dX8_divide_16 ⟨(by first | exact Nat.le_of_ble_eq_true rfl | (show _ ≤ (0 : Nat); omega)), (by first | exact Nat.le_of_ble_eq_true rfl | (show _ ≤ (0 : Nat); omega))⟩) hP hD hS hA [2, 3] [0, 1] rfl rfl rfl (by decide) (fun y1 u_2 H locs hy1 hP hD hS => ?_)
    have hP : va_P G.1 vwCl [(a, .inr (9, [.ref b, .int (iz (n)), .long (lz (t))])), (b, zaL (G.2 0) 40 (f)), (a2, .inr (9, [.ref b2, .int (iz (n2)), .long (lz (t2))])), (b2, zaL (G.2 0) 40 (f2))] H := hP
    have hD : va_D A [(a, .inr (9, [.ref b, .int (iz (n)), .long (lz (t))])), (b, zaL (G.2 0) 40 (f)), (a2, .inr (9, [.ref b2, .int (iz (n2)), .long (lz (t2))])), (b2, zaL (G.2 0) 40 (f2))] := hD
    have hy1 : y1 = if 0 ≤ (n2 - 1) ∧ (n2 - 1) < n2 then f2 (n2 - 1) else t2 % 1073741824 := hy1
    rw [if_pos (by omega)] at hy1
    refine zc_l (wr := [(a, .inr (9, [.ref b, .int (iz (n)), .long (lz (t))])), (b, zaL (G.2 0) 40 (f)), (a2, .inr (9, [.ref b2, .int (iz (n2)), .long (lz (t2))])), (b2, zaL (G.2 0) 40 (f2))]) (va_runS (As := [.long (lz (y1))]) (rest := []) ⟨hx, hb, hml, hown, hts⟩ (c_X8_scaleOf l G y1 (by omega) H.size) (va_cwS 1 hts gX8_divide_X8_scaleOf rfl rfl rfl (by decide +kernel) ⟨Nat.le_of_ble_eq_true rfl, Nat.le_of_ble_eq_true rfl⟩) (zpS hKX hP hD [] rfl rfl) rfl rfl hl.1 rfl (lv_room (Nat.le_of_ble_eq_true rfl)) dX8_divide_19 ⟨(by first | exact Nat.le_of_ble_eq_true rfl | (show _ ≤ (0 : Nat); omega)), (by first | exact Nat.le_of_ble_eq_true rfl | (show _ ≤ (0 : Nat); omega))⟩) hP hD hS hA [] [0, 1, 2, 3] rfl rfl rfl (by decide) (fun sc u_4 H locs hsc hP hD hS => ?_)
    have hP : va_P G.1 vwCl [(a, .inr (9, [.ref b, .int (iz (n)), .long (lz (t))])), (b, zaL (G.2 0) 40 (f)), (a2, .inr (9, [.ref b2, .int (iz (n2)), .long (lz (t2))])), (b2, zaL (G.2 0) 40 (f2))] H := hP
    have hD : va_D A [(a, .inr (9, [.ref b, .int (iz (n)), .long (lz (t))])), (b, zaL (G.2 0) 40 (f)), (a2, .inr (9, [.ref b2, .int (iz (n2)), .long (lz (t2))])), (b2, zaL (G.2 0) 40 (f2))] := hD
    have hsc : 1 ≤ sc ∧ sc < 1073741824 ∧ y1 * sc < 1073741824 := hsc
    have hV0 := zB35 h5 h3 ⟨hsc.1, hsc.2.1⟩
    have hD0 := zB35 h6 (by omega) ⟨hsc.1, hsc.2.1⟩
    have hDp : 0 < v2 * sc := Int.mul_pos h4 (by omega)
    refine lv_lstore_n (lv' := [(2, .long (lz (sc))), (0, .ref a), (1, .ref a2)]) hx hb dX8_divide_22 rfl hl (by decide) rfl (fun ls hl => ?_)
    refine lv_aload_n hx hb dX8_divide_23 rfl (lv_at hl 1 rfl) ?_
    refine lv_lload_n hx hb dX8_divide_24 rfl (lv_at hl 0 rfl) ?_
    refine zc_v (wr := [(a2, .inr (9, [.ref b2, .int (iz (n2)), .long (lz (t2))])), (b2, zaL (G.2 0) 40 (f2))]) (va_runV (As := [.long (lz (sc))]) (rest := []) ⟨hx, hb, hml, hown, hts⟩ (c_X8_times l G a b f n t v sc (h1) (by omega) (by omega) H.size) (cwV 1 hts gX8_divide_X8_times rfl rfl rfl (by decide +kernel) ⟨Nat.le_of_ble_eq_true rfl, Nat.le_of_ble_eq_true rfl⟩) (zpV hKX hP hD [0, 1] rfl rfl 0 9 rfl rfl) rfl rfl hl.1 rfl (lv_room (Nat.le_of_ble_eq_true rfl)) dX8_divide_25 ⟨(by first | exact Nat.le_of_ble_eq_true rfl | (show _ ≤ (0 : Nat); omega)), (by first | exact Nat.le_of_ble_eq_true rfl | (show _ ≤ (0 : Nat); omega))⟩) hP hD hS hA [0, 1] [2, 3] rfl rfl rfl (by decide) (fun u_6 H locs hV hP hD hS => ?_)
    obtain ⟨fa, na, ta⟩ := u_6
    have hP : va_P G.1 vwCl [(a2, .inr (9, [.ref b2, .int (iz (n2)), .long (lz (t2))])), (b2, zaL (G.2 0) 40 (f2)), (a, .inr (9, [.ref b, .int (iz (na)), .long (lz (ta))])), (b, zaL (G.2 0) 40 (fa))] H := hP
    have hD : va_D A [(a2, .inr (9, [.ref b2, .int (iz (n2)), .long (lz (t2))])), (b2, zaL (G.2 0) 40 (f2)), (a, .inr (9, [.ref b, .int (iz (na)), .long (lz (ta))])), (b, zaL (G.2 0) 40 (fa))] := hD
    have hV : zwv fa na ta (v * sc) := hV
    refine lv_aload_n hx hb dX8_divide_28 rfl (lv_at hl 2 rfl) ?_
    refine lv_lload_n hx hb dX8_divide_29 rfl (lv_at hl 0 rfl) ?_
    refine zc_v (wr := [(a, .inr (9, [.ref b, .int (iz (na)), .long (lz (ta))])), (b, zaL (G.2 0) 40 (fa))]) (va_runV (As := [.long (lz (sc))]) (rest := []) ⟨hx, hb, hml, hown, hts⟩ (c_X8_times l G a2 b2 f2 n2 t2 v2 sc (h2) (by omega) (by omega) H.size) (cwV 1 hts gX8_divide_X8_times rfl rfl rfl (by decide +kernel) ⟨Nat.le_of_ble_eq_true rfl, Nat.le_of_ble_eq_true rfl⟩) (zpV hKX hP hD [0, 1] rfl rfl 0 9 rfl rfl) rfl rfl hl.1 rfl (lv_room (Nat.le_of_ble_eq_true rfl)) dX8_divide_30 ⟨(by first | exact Nat.le_of_ble_eq_true rfl | (show _ ≤ (0 : Nat); omega)), (by first | exact Nat.le_of_ble_eq_true rfl | (show _ ≤ (0 : Nat); omega))⟩) hP hD hS hA [0, 1] [2, 3] rfl rfl rfl (by decide) (fun u_9 H locs hDD hP hD hS => ?_)
    obtain ⟨fb, nb, tb⟩ := u_9
    have hP : va_P G.1 vwCl [(a, .inr (9, [.ref b, .int (iz (na)), .long (lz (ta))])), (b, zaL (G.2 0) 40 (fa)), (a2, .inr (9, [.ref b2, .int (iz (nb)), .long (lz (tb))])), (b2, zaL (G.2 0) 40 (fb))] H := hP
    have hD : va_D A [(a, .inr (9, [.ref b, .int (iz (na)), .long (lz (ta))])), (b, zaL (G.2 0) 40 (fa)), (a2, .inr (9, [.ref b2, .int (iz (nb)), .long (lz (tb))])), (b2, zaL (G.2 0) 40 (fb))] := hD
    have hDD : zwv fb nb tb (v2 * sc) := hDD
    have hl2 := zlead hDD hDp
    have nb0 := hDD.n0
    have na0 := hV.n0
    have s4 := zwv_small hDD (k := 36) (by omega) hD0.2
    have et4 := hDD.t00 (by omega)
    refine lv_aload_n hx hb dX8_divide_33 rfl (lv_at hl 2 rfl) ?_
    refine lv_aload_n hx hb dX8_divide_34 rfl (lv_at hl 2 rfl) ?_
    refine va_get (D := G.1) (ci := 9) (v := .int (iz (nb))) (C := RX8) (T := TX8) (N := 3) hx hb hts iwX8 hown hK hP 2 rfl rfl 1 (by decide) (hts (.fieldLink RX8 15 "AnnuityHouse$Whole" "size" "I") (by decide +kernel)) (fun _ h9 => h9) rfl dX8_divide_35 ?_
    refine lv_iconst (v := iz (1)) hx hb dX8_divide_38 rfl ?_
    refine zr_isub hx hb dX8_divide_39 ?_
    refine zc_l (wr := [(a, .inr (9, [.ref b, .int (iz (na)), .long (lz (ta))])), (b, zaL (G.2 0) 40 (fa))]) (va_runV (As := [.int (iz (nb - 1))]) (rest := []) ⟨hx, hb, hml, hown, hts⟩ (c_X8_limb l G a2 b2 fb nb tb (nb - 1) (by omega) (by omega) H.size) (cwV 1 hts gX8_divide_X8_limb rfl rfl rfl (by decide +kernel) ⟨Nat.le_of_ble_eq_true rfl, Nat.le_of_ble_eq_true rfl⟩) (zpV hKX hP hD [2, 3] rfl rfl 2 9 rfl rfl) rfl rfl hl.1 rfl (lv_room (Nat.le_of_ble_eq_true rfl)) dX8_divide_40 ⟨(by first | exact Nat.le_of_ble_eq_true rfl | (show _ ≤ (0 : Nat); omega)), (by first | exact Nat.le_of_ble_eq_true rfl | (show _ ≤ (0 : Nat); omega))⟩) hP hD hS hA [2, 3] [0, 1] rfl rfl rfl (by decide) (fun fi u_12 H locs hfi hP hD hS => ?_)
    have hP : va_P G.1 vwCl [(a, .inr (9, [.ref b, .int (iz (na)), .long (lz (ta))])), (b, zaL (G.2 0) 40 (fa)), (a2, .inr (9, [.ref b2, .int (iz (nb)), .long (lz (tb))])), (b2, zaL (G.2 0) 40 (fb))] H := hP
    have hD : va_D A [(a, .inr (9, [.ref b, .int (iz (na)), .long (lz (ta))])), (b, zaL (G.2 0) 40 (fa)), (a2, .inr (9, [.ref b2, .int (iz (nb)), .long (lz (tb))])), (b2, zaL (G.2 0) 40 (fb))] := hD
    have hfi : fi = if 0 ≤ (nb - 1) ∧ (nb - 1) < nb then fb (nb - 1) else tb % 1073741824 := hfi
    rw [if_pos (by omega)] at hfi
    rw [← hfi] at hl2
    refine lv_lstore (lv' := [(4, .long (lz (fi))), (2, .long (lz (sc))), (0, .ref a), (1, .ref a2)]) hx hb dX8_divide_43 hl (by decide) rfl (fun ls hl => ?_)
    refine lv_lconst (v := lz (0)) hx hb dX8_divide_45 rfl ?_
    refine lv_lstore (lv' := [(6, .long (lz (0))), (4, .long (lz (fi))), (2, .long (lz (sc))), (0, .ref a), (1, .ref a2)]) hx hb dX8_divide_46 hl (by decide) rfl (fun ls hl => ?_)
    refine lv_iconst (v := iz (1)) hx hb dX8_divide_48 rfl ?_
    refine lv_istore (lv' := [(8, .int (iz (1))), (6, .long (lz (0))), (4, .long (lz (fi))), (2, .long (lz (sc))), (0, .ref a), (1, .ref a2)]) hx hb dX8_divide_49 hl (by decide) rfl (fun ls hl => ?_)
    have hl_51 : ∀ (zn_51 : Nat) (mv : Int) (qt : Int) (g : Int → Int) (m0 : Int) (u0 : Int) (rs : Int) (H : Heap) (locs : List Loc) (ls : Array Slot), (mv + 1).toNat < zn_51 → (-1 ≤ mv ∧ mv ≤ 1) → (zwv g m0 u0 rs) → (qt * (v2 * sc) + rs = v * sc) → (0 ≤ rs) → (rs < v2 * sc * 1073741824 ^ (mv + 1).toNat) → (rs ≤ v * sc) → va_P G.1 vwCl [(a, .inr (9, [.ref b, .int (iz (m0)), .long (lz (u0))])), (b, zaL (G.2 0) 40 (g)), (a2, .inr (9, [.ref b2, .int (iz (nb)), .long (lz (tb))])), (b2, zaL (G.2 0) 40 (fb))] H → va_D A [(a, .inr (9, [.ref b, .int (iz (m0)), .long (lz (u0))])), (b, zaL (G.2 0) 40 (g)), (a2, .inr (9, [.ref b2, .int (iz (nb)), .long (lz (tb))])), (b2, zaL (G.2 0) 40 (fb))] → va_S A s.heap H locs → lv_has ls 13 [(8, .int (iz (mv))), (6, .long (lz (qt))), (4, .long (lz (fi))), (2, .long (lz (sc))), (0, .ref a), (1, .ref a2)] → W p l e rm_c_X8_divide s m ([.ref a, .ref a2] : List Value).toArray below meth c H locs (0 + 0 + 0 + 0 + 0 + 0) (0 + 0 + 0 + 0 + 0 + 0) Q (F0 m 51 ls []) := by
      intro zn_51
      induction zn_51 with
      | zero => intro mv qt g m0 u0 rs H locs ls hm; exact absurd hm (Nat.not_lt_zero _)
      | succ zn_51 ih_51 =>
        intro mv qt g m0 u0 rs H locs ls hm_51 k1 k2 k3 k4 k5 k6 hP hD hS hl
        refine lv_iload hx hb dX8_divide_51 (lv_at hl 0 rfl) ?_
        refine zr_if_lt (x := mv) (tgt := 150) hx hb (⟨by omega, by omega⟩) dX8_divide_53 (by decide) (fun h_14 => ?_) (fun h_14 => ?_)
        ·
          refine lv_lload hx hb dX8_divide_150 (lv_at hl 1 rfl) ?_
          rw [hQ]
          exact zr_lret (z := qt) (u := (g, m0, u0, fb, nb, tb, sc)) hx hb hr hlocks hP hD hS (by first | exact Nat.le_of_ble_eq_true rfl | omega) (by first | exact Nat.le_of_ble_eq_true rfl | omega) dX8_divide_152 (show qt = v / v2 ∧ zwv g m0 u0 (v % v2 * sc) ∧ zwv fb nb tb (v2 * sc) ∧ 1 ≤ sc ∧ sc < 1073741824 from ⟨(zdv_end hsc.1 h4 k3 k4 (zdv_last k1 (by omega) k5)).1, by rw [← (zdv_end hsc.1 h4 k3 k4 (zdv_last k1 (by omega) k5)).2]; exact k2, hDD, hsc.1, hsc.2.1⟩)
        ·
          refine lv_aload_n hx hb dX8_divide_56 rfl (lv_at hl 5 rfl) ?_
          refine va_get (D := G.1) (ci := 9) (v := .int (iz (nb))) (C := RX8) (T := TX8) (N := 3) hx hb hts iwX8 hown hK hP 2 rfl rfl 1 (by decide) (hts (.fieldLink RX8 15 "AnnuityHouse$Whole" "size" "I") (by decide +kernel)) (fun _ h9 => h9) rfl dX8_divide_57 ?_
          refine lv_iload hx hb dX8_divide_60 (lv_at hl 0 rfl) ?_
          refine zr_iadd hx hb dX8_divide_62 ?_
          refine lv_istore (lv' := [(9, .int (iz (nb + mv))), (8, .int (iz (mv))), (6, .long (lz (qt))), (4, .long (lz (fi))), (2, .long (lz (sc))), (0, .ref a), (1, .ref a2)]) hx hb dX8_divide_63 hl (by decide) rfl (fun ls hl => ?_)
          refine lv_iconst (v := iz (0)) hx hb dX8_divide_65 rfl ?_
          refine lv_istore (lv' := [(10, .int (iz (0))), (9, .int (iz (nb + mv))), (8, .int (iz (mv))), (6, .long (lz (qt))), (4, .long (lz (fi))), (2, .long (lz (sc))), (0, .ref a), (1, .ref a2)]) hx hb dX8_divide_66 hl (by decide) rfl (fun ls hl => ?_)
          have hl_68 : ∀ (zn_68 : Nat) (tn : Int) (qt2 : Int) (g2 : Int → Int) (m2 : Int) (u2 : Int) (rs2 : Int) (qq : Int) (H : Heap) (locs : List Loc) (ls : Array Slot), (qq).toNat < zn_68 → (0 ≤ tn ∧ tn ≤ 32) → (zwv g2 m2 u2 rs2) → (qt2 * (v2 * sc) + rs2 = v * sc) → (0 ≤ rs2) → (rs2 < v2 * sc * 1073741824 ^ (mv + 1).toNat) → (rs2 ≤ v * sc) → (qq = rs2 / (v2 * sc * 1073741824 ^ mv.toNat)) → (qq = 0 ∨ (1 ≤ qq ∧ (qq - 1) * 2 ^ tn.toNat < 1073741824 ∧ tn ≤ 31)) → va_P G.1 vwCl [(a, .inr (9, [.ref b, .int (iz (m2)), .long (lz (u2))])), (b, zaL (G.2 0) 40 (g2)), (a2, .inr (9, [.ref b2, .int (iz (nb)), .long (lz (tb))])), (b2, zaL (G.2 0) 40 (fb))] H → va_D A [(a, .inr (9, [.ref b, .int (iz (m2)), .long (lz (u2))])), (b, zaL (G.2 0) 40 (g2)), (a2, .inr (9, [.ref b2, .int (iz (nb)), .long (lz (tb))])), (b2, zaL (G.2 0) 40 (fb))] → va_S A s.heap H locs → lv_has ls 13 [(10, .int (iz (tn))), (9, .int (iz (nb + mv))), (8, .int (iz (mv))), (6, .long (lz (qt2))), (4, .long (lz (fi))), (2, .long (lz (sc))), (0, .ref a), (1, .ref a2)] → W p l e rm_c_X8_divide s m ([.ref a, .ref a2] : List Value).toArray below meth c H locs (0 + 0 + 0 + 0 + 0 + 0) (0 + 0 + 0 + 0 + 0 + 0) Q (F0 m 68 ls []) := by
            intro zn_68
            induction zn_68 with
            | zero => intro tn qt2 g2 m2 u2 rs2 qq H locs ls hm; exact absurd hm (Nat.not_lt_zero _)
            | succ zn_68 ih_68 =>
              intro tn qt2 g2 m2 u2 rs2 qq H locs ls hm_68 j1 j2 j3 j4 j5 j6 j7 j8 hP hD hS hl
              have m20 := j2.n0
              have s3 := zwv_small j2 (k := 36) (by omega) (by omega)
              refine lv_iload hx hb dX8_divide_68 (lv_at hl 0 rfl) ?_
              refine zr_ldc (z := 1000000) hx hb hown (hts (.constant RX8 51 (1000000)) (by decide +kernel)) rfl dX8_divide_70 ?_
              refine zr_icmp_ge (x := tn) (y := 1000000) (tgt := 144) hx hb (⟨by omega, by omega⟩) (⟨by omega, by omega⟩) dX8_divide_72 (by decide) (fun h_15 => ?_) (fun h_15 => ?_)
              · exact absurd h_15 (by omega)
              ·
                refine lv_aload_n hx hb dX8_divide_75 rfl (lv_at hl 6 rfl) ?_
                refine lv_aload_n hx hb dX8_divide_76 rfl (lv_at hl 7 rfl) ?_
                refine lv_iload hx hb dX8_divide_77 (lv_at hl 2 rfl) ?_
                refine zc_z (wr := []) (va_runV (As := [.ref a2, .int (iz (mv))]) (rest := []) ⟨hx, hb, hml, hown, hts⟩ (c_X8_isAtLeast l G a b g2 m2 u2 a2 b2 fb nb tb rs2 (v2 * sc) mv (j2) (hDD) (by omega) (by omega) (by omega) (by omega) H.size) (cwV 2 hts gX8_divide_X8_isAtLeast rfl rfl rfl (by decide +kernel) ⟨Nat.le_of_ble_eq_true rfl, Nat.le_of_ble_eq_true rfl⟩) (zpV hKX hP hD [0, 1, 2, 3] rfl rfl 0 9 rfl rfl) rfl rfl hl.1 rfl (lv_room (Nat.le_of_ble_eq_true rfl)) dX8_divide_79 ⟨(by first | exact Nat.le_of_ble_eq_true rfl | (show _ ≤ (0 : Nat); omega)), (by first | exact Nat.le_of_ble_eq_true rfl | (show _ ≤ (0 : Nat); omega))⟩) hP hD hS hA [0, 1, 2, 3] [] rfl rfl rfl (by decide) (fun al u_16 H locs hal hP hD hS => ?_)
                have hP : va_P G.1 vwCl [(a, .inr (9, [.ref b, .int (iz (m2)), .long (lz (u2))])), (b, zaL (G.2 0) 40 (g2)), (a2, .inr (9, [.ref b2, .int (iz (nb)), .long (lz (tb))])), (b2, zaL (G.2 0) 40 (fb))] H := hP
                have hD : va_D A [(a, .inr (9, [.ref b, .int (iz (m2)), .long (lz (u2))])), (b, zaL (G.2 0) 40 (g2)), (a2, .inr (9, [.ref b2, .int (iz (nb)), .long (lz (tb))])), (b2, zaL (G.2 0) 40 (fb))] := hD
                have hal : al = decide ((v2 * sc) * 1073741824 ^ mv.toNat ≤ rs2) := hal
                refine zr_ifz_eq (tgt := 144) hx hb dX8_divide_82 (by decide) (fun h_18 => ?_) (fun h_18 => ?_)
                ·
                  have hzal := of_decide_eq_false (hal.symm.trans h_18)
                  have hal0 := h_18
                  refine lv_iinc (v := iz (mv - 1)) (lv' := [(8, .int (iz (mv - 1))), (10, .int (iz (tn))), (9, .int (iz (nb + mv))), (6, .long (lz (qt2))), (4, .long (lz (fi))), (2, .long (lz (sc))), (0, .ref a), (1, .ref a2)]) hx hb dX8_divide_144 hl (k := 2) rfl (by rw [show Int32.ofInt (-1) = iz (-1) from rfl, iz_add]; exact congrArg iz (by omega)) (by decide) rfl (fun ls hl => ?_)
                  refine lv_goto (tgt := 51) hx hb dX8_divide_147 (by decide) ?_
                  refine W.widen (k := 0 + 0 + 0 + 0 + 0 + 0) (n := 0 + 0 + 0 + 0 + 0 + 0) (by omega) (by omega) ?_
                  exact ih_51 (mv - 1) qt2 g2 m2 u2 rs2 _ _ _ (by omega) (by omega) (j2) (j3) (by omega) (zdv_less (by omega) hal hal0) (by omega) (hP) (hD) hS (lv_sub hl [0, 3, 4, 5, 6, 7] rfl)
                ·
                  have hzal := of_decide_eq_true (hal.symm.trans h_18)
                  have hal1 := h_18
                  refine lv_lconst (v := lz (1)) hx hb dX8_divide_85 rfl ?_
                  refine lv_aload_n hx hb dX8_divide_86 rfl (lv_at hl 6 rfl) ?_
                  refine lv_iload hx hb dX8_divide_87 (lv_at hl 1 rfl) ?_
                  refine zc_l (wr := [(a2, .inr (9, [.ref b2, .int (iz (nb)), .long (lz (tb))])), (b2, zaL (G.2 0) 40 (fb))]) (va_runV (As := [.int (iz (nb + mv))]) (rest := [.long (lz (1))]) ⟨hx, hb, hml, hown, hts⟩ (c_X8_limb l G a b g2 m2 u2 (nb + mv) (by omega) (by omega) H.size) (cwV 1 hts gX8_divide_X8_limb rfl rfl rfl (by decide +kernel) ⟨Nat.le_of_ble_eq_true rfl, Nat.le_of_ble_eq_true rfl⟩) (zpV hKX hP hD [0, 1] rfl rfl 0 9 rfl rfl) rfl rfl hl.1 rfl (lv_room (Nat.le_of_ble_eq_true rfl)) dX8_divide_89 ⟨(by first | exact Nat.le_of_ble_eq_true rfl | (show _ ≤ (0 : Nat); omega)), (by first | exact Nat.le_of_ble_eq_true rfl | (show _ ≤ (0 : Nat); omega))⟩) hP hD hS hA [0, 1] [2, 3] rfl rfl rfl (by decide) (fun y5 u_19 H locs hy5 hP hD hS => ?_)
                  have hP : va_P G.1 vwCl [(a2, .inr (9, [.ref b2, .int (iz (nb)), .long (lz (tb))])), (b2, zaL (G.2 0) 40 (fb)), (a, .inr (9, [.ref b, .int (iz (m2)), .long (lz (u2))])), (b, zaL (G.2 0) 40 (g2))] H := hP
                  have hD : va_D A [(a2, .inr (9, [.ref b2, .int (iz (nb)), .long (lz (tb))])), (b2, zaL (G.2 0) 40 (fb)), (a, .inr (9, [.ref b, .int (iz (m2)), .long (lz (u2))])), (b, zaL (G.2 0) 40 (g2))] := hD
                  have hy5 : y5 = if 0 ≤ (nb + mv) ∧ (nb + mv) < m2 then g2 (nb + mv) else u2 % 1073741824 := hy5
                  refine lv_bipush (v := iz (30)) hx hb dX8_divide_92 rfl ?_
                  refine zr_lshl30 hx hb dX8_divide_94 ?_
                  refine lv_aload_n hx hb dX8_divide_95 rfl (lv_at hl 6 rfl) ?_
                  refine lv_iload hx hb dX8_divide_96 (lv_at hl 1 rfl) ?_
                  refine lv_iconst (v := iz (1)) hx hb dX8_divide_98 rfl ?_
                  refine zr_isub hx hb dX8_divide_99 ?_
                  refine zc_l (wr := [(a2, .inr (9, [.ref b2, .int (iz (nb)), .long (lz (tb))])), (b2, zaL (G.2 0) 40 (fb))]) (va_runV (As := [.int (iz ((nb + mv) - 1))]) (rest := [.long (lz (y5 * 1073741824)), .long (lz (1))]) ⟨hx, hb, hml, hown, hts⟩ (c_X8_limb l G a b g2 m2 u2 ((nb + mv) - 1) (by omega) (by omega) H.size) (cwV 1 hts gX8_divide_X8_limb rfl rfl rfl (by decide +kernel) ⟨Nat.le_of_ble_eq_true rfl, Nat.le_of_ble_eq_true rfl⟩) (zpV hKX hP hD [2, 3] rfl rfl 2 9 rfl rfl) rfl rfl hl.1 rfl (lv_room (Nat.le_of_ble_eq_true rfl)) dX8_divide_100 ⟨(by first | exact Nat.le_of_ble_eq_true rfl | (show _ ≤ (0 : Nat); omega)), (by first | exact Nat.le_of_ble_eq_true rfl | (show _ ≤ (0 : Nat); omega))⟩) hP hD hS hA [2, 3] [0, 1] rfl rfl rfl (by decide) (fun y6 u_21 H locs hy6 hP hD hS => ?_)
                  have hP : va_P G.1 vwCl [(a2, .inr (9, [.ref b2, .int (iz (nb)), .long (lz (tb))])), (b2, zaL (G.2 0) 40 (fb)), (a, .inr (9, [.ref b, .int (iz (m2)), .long (lz (u2))])), (b, zaL (G.2 0) 40 (g2))] H := hP
                  have hD : va_D A [(a2, .inr (9, [.ref b2, .int (iz (nb)), .long (lz (tb))])), (b2, zaL (G.2 0) 40 (fb)), (a, .inr (9, [.ref b, .int (iz (m2)), .long (lz (u2))])), (b, zaL (G.2 0) 40 (g2))] := hD
                  have hy6 : y6 = if 0 ≤ ((nb + mv) - 1) ∧ ((nb + mv) - 1) < m2 then g2 ((nb + mv) - 1) else u2 % 1073741824 := hy6
                  refine zr_ladd hx hb dX8_divide_103 ?_
                  refine zr_namel (fun T eT => ?_)
                  have hT := zdv_T j2 j4 (ld := nb + mv) (by omega) (zdv_bound hDD hDp (by omega) j5)
                  have w5 : y5 = zx g2 m2 u2 (nb + mv) := by rw [hy5]; exact zx_if (by omega)
                  have w6 : y6 = zx g2 m2 u2 (nb + mv - 1) := by rw [hy6]; exact zx_if (by omega)
                  rw [← w5, ← w6, ← eT] at hT
                  have d5 := zx_dig j2 (nb + mv) (by omega)
                  have d6 := zx_dig j2 (nb + mv - 1) (by omega)
                  rw [← w5] at d5
                  rw [← w6] at d6
                  refine lv_lload hx hb dX8_divide_104 (lv_at hl 4 rfl) ?_
                  refine lv_lconst (v := lz (1)) hx hb dX8_divide_106 rfl ?_
                  refine zr_ladd hx hb dX8_divide_107 ?_
                  refine zr_ldiv hx hb (x := T) (y := fi + 1) ⟨by omega, by omega⟩ ⟨by omega, by omega⟩ (by omega) (by omega) dX8_divide_108 ?_
                  refine zr_namel (fun gd egd => ?_)
                  have hgd : 0 ≤ gd ∧ gd ≤ T := by rw [egd]; exact ⟨Int.ediv_nonneg (by omega) (by omega), Int.ediv_le_self _ (by omega)⟩
                  refine zr_mmaxL (x := 1) (y := gd) hx hb (hml.trans hl.1.symm) hown (hts (.methodLink RX8 56 Lib.MathLoose.max_long.x) (by decide +kernel)) (hts (.static Lib.MathLoose.max_long.x) (by decide +kernel)) (hts (.initialized "java/lang/Math") (by decide +kernel)) (hts (.code Lib.MathLoose.max_long.x Lib.MathLoose.max_long.code 4 (some .long)) (by decide +kernel)) (Nat.le_of_ble_eq_true rfl) (Nat.le_of_ble_eq_true rfl) (by first | exact Nat.le_of_ble_eq_true rfl | (show _ ≤ (0 : Nat); omega)) (by first | exact Nat.le_of_ble_eq_true rfl | (show _ ≤ (0 : Nat); omega)) (⟨by omega, by omega⟩) (⟨by omega, by omega⟩) dX8_divide_109 ?_
                  refine zr_namel (fun ge ege => ?_)
                  have hX : 0 < v2 * sc * 1073741824 ^ mv.toNat := Int.mul_pos hDp (zB_pos _)
                  have hE := zdv_E (mv := mv) (D := v2 * sc) (fi := fi) hl2.1 (by omega) hl2.2.2.2.1 hl2.2.2.2.2
                  have hg := zguess (zB_pos (nb + mv - 1).toNat) hX hE.1 hE.2 hl2.2.1 hT j4 j7
                  rw [← egd] at hg
                  have hq1 : 1 ≤ qq := by rw [j7]; exact (Int.le_ediv_iff_mul_le hX).mpr (by rw [Int.one_mul]; exact of_decide_eq_true (hal.symm.trans hal1))
                  have hge : 1 ≤ ge ∧ ge ≤ qq ∧ qq ≤ 2 * ge + 1 := by omega
                  have hj8 := j8.resolve_left (by omega)
                  have hqb : qq - 1 < 1073741824 := zdv_small j1.1 hq1 hj8.2.1
                  have hn4 : 0 ≤ rs2 * 1 + v2 * sc * 1073741824 ^ mv.toNat * -(ge) ∧ rs2 * 1 + v2 * sc * 1073741824 ^ mv.toNat * -(ge) ≤ rs2 := zdv_rest hX j4 j7 hge.1 hge.2.1
                  have hn8 := zdv_next j1.1 hj8 hge
                  refine lv_lstore (lv' := [(11, .long (lz (ge))), (10, .int (iz (tn))), (9, .int (iz (nb + mv))), (8, .int (iz (mv))), (6, .long (lz (qt2))), (4, .long (lz (fi))), (2, .long (lz (sc))), (0, .ref a), (1, .ref a2)]) hx hb dX8_divide_112 hl (by decide) rfl (fun ls hl => ?_)
                  refine lv_aload_n hx hb dX8_divide_114 rfl (lv_at hl 7 rfl) ?_
                  refine lv_lconst (v := lz (1)) hx hb dX8_divide_115 rfl ?_
                  refine lv_aload_n hx hb dX8_divide_116 rfl (lv_at hl 8 rfl) ?_
                  refine lv_lload hx hb dX8_divide_117 (lv_at hl 0 rfl) ?_
                  refine zr_lneg hx hb dX8_divide_119 ?_
                  refine lv_iload hx hb dX8_divide_120 (lv_at hl 3 rfl) ?_
                  refine zc_v (wr := []) (va_runV (As := [.long (lz (1)), .ref a2, .long (lz (-(ge))), .int (iz (mv))]) (rest := []) ⟨hx, hb, hml, hown, hts⟩ (c_X8_combine l G a b g2 m2 u2 a2 b2 fb nb tb rs2 (v2 * sc) 1 (-(ge)) mv (j2) (hDD) (by omega) (by omega) (by omega) (by omega) H.size) (cwV 4 hts gX8_divide_X8_combine rfl rfl rfl (by decide +kernel) ⟨Nat.le_of_ble_eq_true rfl, Nat.le_of_ble_eq_true rfl⟩) (zpV hKX hP hD [2, 3, 0, 1] rfl rfl 2 9 rfl rfl) rfl rfl hl.1 rfl (lv_room (Nat.le_of_ble_eq_true rfl)) dX8_divide_122 ⟨(by first | exact Nat.le_of_ble_eq_true rfl | (show _ ≤ (0 : Nat); omega)), (by first | exact Nat.le_of_ble_eq_true rfl | (show _ ≤ (0 : Nat); omega))⟩) hP hD hS hA [2, 3, 0, 1] [] rfl rfl rfl (by decide) (fun u_23 H locs hc hP hD hS => ?_)
                  obtain ⟨gc, mc2, uc⟩ := u_23
                  have hP : va_P G.1 vwCl [(a, .inr (9, [.ref b, .int (iz (mc2)), .long (lz (uc))])), (b, zaL (G.2 0) 40 (gc)), (a2, .inr (9, [.ref b2, .int (iz (nb)), .long (lz (tb))])), (b2, zaL (G.2 0) 40 (fb))] H := hP
                  have hD : va_D A [(a, .inr (9, [.ref b, .int (iz (mc2)), .long (lz (uc))])), (b, zaL (G.2 0) 40 (gc)), (a2, .inr (9, [.ref b2, .int (iz (nb)), .long (lz (tb))])), (b2, zaL (G.2 0) 40 (fb))] := hD
                  have hc : zwv gc mc2 uc (rs2 * (1 : Int) + (v2 * sc) * 1073741824 ^ mv.toNat * (-(ge))) := hc
                  refine lv_lload hx hb dX8_divide_125 (lv_at hl 4 rfl) ?_
                  refine lv_lload hx hb dX8_divide_127 (lv_at hl 0 rfl) ?_
                  refine lv_iload hx hb dX8_divide_129 (lv_at hl 3 rfl) ?_
                  refine lv_bipush (v := iz (30)) hx hb dX8_divide_131 rfl ?_
                  refine zr_imul hx hb dX8_divide_133 ?_
                  refine zr_lshl_mv hx hb (by omega) dX8_divide_134 ?_
                  refine zr_ladd hx hb dX8_divide_135 ?_
                  refine lv_lstore (lv' := [(6, .long (lz (qt2 + (ge * 1073741824 ^ mv.toNat)))), (11, .long (lz (ge))), (10, .int (iz (tn))), (9, .int (iz (nb + mv))), (8, .int (iz (mv))), (4, .long (lz (fi))), (2, .long (lz (sc))), (0, .ref a), (1, .ref a2)]) hx hb dX8_divide_136 hl (by decide) rfl (fun ls hl => ?_)
                  refine lv_iinc (v := iz (tn + 1)) (lv' := [(10, .int (iz (tn + 1))), (6, .long (lz (qt2 + (ge * 1073741824 ^ mv.toNat)))), (11, .long (lz (ge))), (9, .int (iz (nb + mv))), (8, .int (iz (mv))), (4, .long (lz (fi))), (2, .long (lz (sc))), (0, .ref a), (1, .ref a2)]) hx hb dX8_divide_138 hl (k := 2) rfl (by rw [show Int32.ofInt (1) = iz (1) from rfl, iz_add]) (by decide) rfl (fun ls hl => ?_)
                  refine lv_goto (tgt := 68) hx hb dX8_divide_141 (by decide) ?_
                  refine W.widen (k := 0 + 0 + 0 + 0 + 0 + 0) (n := 0 + 0 + 0 + 0 + 0 + 0) (by omega) (by omega) ?_
                  exact ih_68 (tn + 1) (qt2 + (ge * 1073741824 ^ mv.toNat)) gc mc2 uc (rs2 * 1 + v2 * sc * 1073741824 ^ mv.toNat * -(ge)) (qq - ge) _ _ _ (by omega) (by omega) (hc) (zdv_v j3) (hn4.1) (by omega) (by omega) (by rw [zdv_q hX, ← j7]) (hn8) (hP) (hD) hS (lv_sub hl [0, 3, 4, 1, 5, 6, 7, 8] rfl)
          exact hl_68 (((rs / (v2 * sc * 1073741824 ^ mv.toNat)) : Int).toNat + 1) 0 qt g m0 u0 rs (rs / (v2 * sc * 1073741824 ^ mv.toNat)) _ _ _ (Nat.lt_succ_self _) (by omega) (k2) (k3) (by omega) (k5) (k6) (rfl) (zdv_q0 hDp (by omega) k4 k5) (hP) (hD) hS (hl)
    exact hl_51 ((1 + 1 : Int).toNat + 1) 1 0 fa na ta (v * sc) _ _ _ (Nat.lt_succ_self _) (by omega) (hV) (by omega) (by omega) (zdv_init h7 hsc.1) (by omega) (hP) (hD) hS (hl)
  · exact absurd h_1 (by omega)
