-- THE REFERENCE ON A FRESH OBJECT: helpers (laid by wip/walk/x12a.py)
/-- the code of the first condition that doesn't hold -/
def zcode (b1 b2 b3 : Bool) : Int := if b1 then if b2 then if b3 then 0 else 3 else 2 else 1
/-- to the nearest whole number, of two as near the even one: sizes -/
def zhe (t b : Int) : Int := (t.natAbs : Int) / b + (if b < 2 * ((t.natAbs : Int) % b) ∨ (2 * ((t.natAbs : Int) % b) = b ∧ (t.natAbs : Int) / b % 2 = 1) then 1 else 0)
/-- .. and with its sign -/
def zr6 (t b : Int) : Int := if t < 0 then -(zhe t b) else zhe t b
theorem zhe_ex {t b a : Int} (ha : (t.natAbs : Int) = a) (hb : 0 < b) (h : a % b = 0) : zhe t b = a / b := by
  unfold zhe
  rw [ha, h, if_neg (by omega)]; omega
theorem zhe_up {t b a hf : Int} {od : Bool} (ha : (t.natAbs : Int) = a) (hb : 0 < b) (hr : 0 ≤ a % b) (e1 : hf = (((a % b + a % b).natAbs : Int) - (b.natAbs : Int)).sign) (e2 : od = true ↔ a / b % 2 = 1) (h : true = decide (0 < hf ∨ (hf = 0 ∧ od = true))) : zhe t b = a / b + 1 := by
  unfold zhe
  have h2 := of_decide_eq_true h.symm
  rw [ha, if_pos]
  rcases h2 with q | ⟨q, q2⟩
  · left
    have := Int.sign_pos_iff (x := ((a % b + a % b).natAbs : Int) - (b.natAbs : Int))
    rw [← e1] at this
    have := this.mp q
    omega
  · right
    rw [e1] at q
    have := Int.sign_eq_zero_iff_zero.mp q
    exact ⟨by omega, e2.mp q2⟩
theorem zhe_dn {t b a hf : Int} {od : Bool} (ha : (t.natAbs : Int) = a) (hb : 0 < b) (hr : 0 ≤ a % b) (e1 : hf = (((a % b + a % b).natAbs : Int) - (b.natAbs : Int)).sign) (e2 : od = true ↔ a / b % 2 = 1) (h : false = decide (0 < hf ∨ (hf = 0 ∧ od = true))) : zhe t b = a / b := by
  unfold zhe
  have h2 := of_decide_eq_false h.symm
  rw [ha, if_neg]
  · omega
  · rintro (q | ⟨q, q2⟩)
    · refine h2 (Or.inl ?_)
      rw [e1]
      exact Int.sign_pos_iff.mpr (by omega)
    · refine h2 (Or.inr ⟨?_, e2.mpr q2⟩)
      rw [e1, show ((a % b + a % b).natAbs : Int) - (b.natAbs : Int) = 0 by omega]
      rfl
theorem zr6_n {t b : Int} (h : t < 0) : zr6 t b = -(zhe t b) := if_pos h
theorem zr6_p {t b : Int} (h : 0 ≤ t) : zr6 t b = zhe t b := if_neg (by omega)
theorem tra_lt {y i k : Int} (h1 : 1 ≤ y ∧ y < 1000000000000) (hi : i ≤ k) (h0 : 0 ≤ i) (h3 : y ^ k.toNat < 10000 ^ 100) : ((y ^ i.toNat).natAbs : Int) * (y.natAbs : Int) < 10000 ^ 128 := by
  have p1 := zpow_pos h1.1 i.toNat
  have p2 := zpow_le h1.1 (show i.toNat ≤ k.toNat by omega)
  rw [show ((y ^ i.toNat).natAbs : Int) = y ^ i.toNat by omega, show (y.natAbs : Int) = y by omega]
  have a1 : y ^ i.toNat * y ≤ y ^ i.toNat * 1000000000000 := Int.mul_le_mul_of_nonneg_left (by omega) (by omega)
  have b : (10000 : Int) ^ 128 = 10000 ^ 100 * 10000 ^ 28 := by rw [← Int.pow_add]
  have b2 : (10000 : Int) ^ 100 * 1000000000000 ≤ 10000 ^ 100 * 10000 ^ 28 := Int.mul_le_mul_of_nonneg_left (by decide +kernel) (by have := tB_pos 100; omega)
  omega
theorem tr_dbl {r b : Int} (h7 : b < 10000 ^ 120) (h0 : 0 ≤ r) (h1 : r < b) : (r.natAbs : Int) + (r.natAbs : Int) < 10000 ^ 128 := by
  have b : (10000 : Int) ^ 128 = 10000 ^ 120 * 10000 ^ 8 := by rw [← Int.pow_add]
  have b2 : (10000 : Int) ^ 120 * 2 ≤ 10000 ^ 120 * 10000 ^ 8 := Int.mul_le_mul_of_nonneg_left (by decide +kernel) (by have := tB_pos 120; omega)
  omega
theorem tr_one {q v : Int} (h6 : (v.natAbs : Int) < 10000 ^ 120) (h0 : 0 ≤ q) (h1 : q ≤ (v.natAbs : Int)) : (q.natAbs : Int) + ((1 : Int).natAbs : Int) < 10000 ^ 128 := by
  have b : (10000 : Int) ^ 128 = 10000 ^ 120 * 10000 ^ 8 := by rw [← Int.pow_add]
  have b2 : (10000 : Int) ^ 120 * 2 ≤ 10000 ^ 120 * 10000 ^ 8 := Int.mul_le_mul_of_nonneg_left (by decide +kernel) (by have := tB_pos 120; omega)
  have b3 := tB_pos 120
  have : ((1 : Int).natAbs : Int) = 1 := rfl
  omega
def rm_c_X12_in : Room := { frames := 0, cells := 0, slots := 0, locals := 0 }
set_option maxHeartbeats 1000000 in
set_option maxRecDepth 100000 in
theorem c_X12_in (l : Launch) (G : zG) (y : Int) (lo : Int) (hi : Int) (h1 : -9223372036854775808 ≤ y ∧ y < 9223372036854775808) (h2 : -9223372036854775808 ≤ lo ∧ lo < 9223372036854775808) (h3 : -9223372036854775808 ≤ hi ∧ hi < 9223372036854775808) : zM l G yX12_in wsX12_in rm_c_X12_in [.long (lz (y)), .long (lz (lo)), .long (lz (hi))] [] (fun A => zQz G (fun (z : Bool) (_ : Unit) => z = decide (lo ≤ y ∧ y ≤ hi)) (fun (_ : Unit) => []) A) 0 0 := by
  refine zM_of (cc := cX12_in) (maxL := 6) (ret := (some .boolean)) (by decide) rfl (Nat.le_of_ble_eq_true rfl) ?_
  intro p e s m below meth c ls A Q hQ hx hb hr hts hown hlocks hml hnm hKX hP hD hA hS hl
  have hK := hKX.1
  obtain ⟨H, hH⟩ : ∃ h, h = s.heap := ⟨_, rfl⟩
  obtain ⟨locs, hlo⟩ : ∃ h : List Loc, h = [] := ⟨_, rfl⟩
  have hS : va_S A s.heap H locs := by rw [hH, hlo]; exact hS
  have hP : va_P G.1 vwCl [] H := by rw [hH]; exact hP
  have hD : va_D A [] := hD
  have hl : lv_has ls 6 [(0, .long (lz (y))), (2, .long (lz (lo))), (4, .long (lz (hi)))] := hl
  rw [← hH, ← hlo]
  refine lv_lload_n hx hb dX12_in_0 rfl (lv_at hl 0 rfl) ?_
  refine lv_lload_n hx hb dX12_in_1 rfl (lv_at hl 1 rfl) ?_
  refine zr_lcmp_lt (x := y) (y := lo) (tgt := 17) hx hb (h1) (h2) dX12_in_2 dX12_in_3 (by decide) (fun h_1 => ?_) (fun h_1 => ?_)
  ·
    refine lv_iconst (v := iz (0)) hx hb dX12_in_17 rfl ?_
    rw [hQ]
    exact zr_zret (z := false) (rfl) (u := ()) hx hb hr hlocks hP hD hS (by first | exact Nat.le_of_ble_eq_true rfl | omega) (by first | exact Nat.le_of_ble_eq_true rfl | omega) dX12_in_18 (show false = decide (lo ≤ y ∧ y ≤ hi) from by first | exact (decide_eq_true (by omega)).symm | exact (decide_eq_false (by omega)).symm)
  ·
    refine lv_lload_n hx hb dX12_in_6 rfl (lv_at hl 0 rfl) ?_
    refine lv_lload hx hb dX12_in_7 (lv_at hl 2 rfl) ?_
    refine zr_lcmp_gt (x := y) (y := hi) (tgt := 17) hx hb (h1) (h3) dX12_in_9 dX12_in_10 (by decide) (fun h_2 => ?_) (fun h_2 => ?_)
    ·
      refine lv_iconst (v := iz (0)) hx hb dX12_in_17 rfl ?_
      rw [hQ]
      exact zr_zret (z := false) (rfl) (u := ()) hx hb hr hlocks hP hD hS (by first | exact Nat.le_of_ble_eq_true rfl | omega) (by first | exact Nat.le_of_ble_eq_true rfl | omega) dX12_in_18 (show false = decide (lo ≤ y ∧ y ≤ hi) from by first | exact (decide_eq_true (by omega)).symm | exact (decide_eq_false (by omega)).symm)
    ·
      refine lv_iconst (v := iz (1)) hx hb dX12_in_13 rfl ?_
      refine lv_goto (tgt := 18) hx hb dX12_in_14 (by decide) ?_
      rw [hQ]
      exact zr_zret (z := true) (rfl) (u := ()) hx hb hr hlocks hP hD hS (by first | exact Nat.le_of_ble_eq_true rfl | omega) (by first | exact Nat.le_of_ble_eq_true rfl | omega) dX12_in_18 (show true = decide (lo ≤ y ∧ y ≤ hi) from by first | exact (decide_eq_true (by omega)).symm | exact (decide_eq_false (by omega)).symm)

def rm_c_X12_passes : Room := { frames := 0, cells := 0, slots := 0, locals := 0 }
theorem iw_X12_passes_X12 : ∀ w ∈ wsX120, w ∈ wsX12_passes := by decide +kernel
set_option maxHeartbeats 1000000 in
set_option maxRecDepth 100000 in
theorem c_X12_passes (l : Launch) (G : zG) (x : Nat) (th : Int) (w1 : Value) (w2 : Value) (w3 : Value) (w4 : Value) (w5 : Value) (w6 : Value) (w7 : Value) (w8 : Value) (w9 : Value) (w10 : Value) (md : Int) (b1 : Bool) (b2 : Bool) (b3 : Bool)  : zM l G yX12_passes wsX12_passes rm_c_X12_passes [.ref x, .int (iz (zbb b1)), .int (iz (zbb b2)), .int (iz (zbb b3))] [(x, .inr (13, [.int (iz (th)), .int (iz (md)), w1, w2, w3, w4, w5, w6, w7, w8, w9, w10]))] (fun A => zQz G (fun (z : Bool) (th2 : Int) => z = (b1 && b2 && b3) ∧ th2 = zcode b1 b2 b3) (fun (th2 : Int) => [(x, .inr (13, [.int (iz (th2)), .int (iz (md)), w1, w2, w3, w4, w5, w6, w7, w8, w9, w10]))]) A) 0 0 := by
  refine zM_of (cc := cX12_passes) (maxL := 4) (ret := (some .boolean)) (by decide) rfl (Nat.le_of_ble_eq_true rfl) ?_
  intro p e s m below meth c ls A Q hQ hx hb hr hts hown hlocks hml hnm hKX hP hD hA hS hl
  have hK := hKX.1
  have iwX12 := iw_X12_passes_X12
  obtain ⟨H, hH⟩ : ∃ h, h = s.heap := ⟨_, rfl⟩
  obtain ⟨locs, hlo⟩ : ∃ h : List Loc, h = [] := ⟨_, rfl⟩
  have hS : va_S A s.heap H locs := by rw [hH, hlo]; exact hS
  have hP : va_P G.1 vwCl [(x, .inr (13, [.int (iz (th)), .int (iz (md)), w1, w2, w3, w4, w5, w6, w7, w8, w9, w10]))] H := by rw [hH]; exact hP
  have hD : va_D A [(x, .inr (13, [.int (iz (th)), .int (iz (md)), w1, w2, w3, w4, w5, w6, w7, w8, w9, w10]))] := hD
  have hl : lv_has ls 4 [(0, .ref x), (1, .int (iz (zbb b1))), (2, .int (iz (zbb b2))), (3, .int (iz (zbb b3)))] := hl
  rw [← hH, ← hlo]
  refine lv_aload_n hx hb dX12_passes_0 rfl (lv_at hl 0 rfl) ?_
  refine lv_iload_n hx hb dX12_passes_1 rfl (lv_at hl 1 rfl) ?_
  refine zr_ifz_ne (tgt := 9) hx hb dX12_passes_2 (by decide) (fun h_1 => ?_) (fun h_1 => ?_)
  ·
    refine lv_iload_n hx hb dX12_passes_9 rfl (lv_at hl 2 rfl) ?_
    refine zr_ifz_ne (tgt := 17) hx hb dX12_passes_10 (by decide) (fun h_2 => ?_) (fun h_2 => ?_)
    ·
      refine lv_iload_n hx hb dX12_passes_17 rfl (lv_at hl 3 rfl) ?_
      refine zr_ifz_ne (tgt := 25) hx hb dX12_passes_18 (by decide) (fun h_3 => ?_) (fun h_3 => ?_)
      ·
        refine lv_iconst (v := iz (0)) hx hb dX12_passes_25 rfl ?_
        refine va_put (D := G.1) (ci := 13) (v := .int (iz (0))) (ty := .int) (C := RX12) (T := TX12) (N := 12) hx hb hts iwX12 tyX12 tyX12_ok nmX12 hown hK hP hD hS 0 rfl rfl 0 (by decide) (hts (.fieldLink RX12 1 "AnnuityHouseModel" "thrown" "I") (by decide +kernel)) (fun _ h9 => h9) rfl (by decide +kernel) rfl rfl (Nat.le_of_ble_eq_true rfl) dX12_passes_26 (fun H locs hP hD hS => ?_)
        have hP : va_P G.1 vwCl [(x, .inr (13, [.int (iz (0)), .int (iz (md)), w1, w2, w3, w4, w5, w6, w7, w8, w9, w10]))] H := hP
        have hD : va_D A [(x, .inr (13, [.int (iz (0)), .int (iz (md)), w1, w2, w3, w4, w5, w6, w7, w8, w9, w10]))] := hD
        refine lv_aload_n hx hb dX12_passes_29 rfl (lv_at hl 0 rfl) ?_
        refine va_get (D := G.1) (ci := 13) (v := .int (iz (0))) (C := RX12) (T := TX12) (N := 12) hx hb hts iwX12 hown hK hP 0 rfl rfl 0 (by decide) (hts (.fieldLink RX12 1 "AnnuityHouseModel" "thrown" "I") (by decide +kernel)) (fun _ h9 => h9) rfl dX12_passes_30 ?_
        refine zr_if_ne (x := 0) (tgt := 40) hx hb (⟨by omega, by omega⟩) dX12_passes_33 (by decide) (fun h_4 => ?_) (fun h_4 => ?_)
        · exact absurd h_4 (by omega)
        ·
          refine lv_iconst (v := iz (1)) hx hb dX12_passes_36 rfl ?_
          refine lv_goto (tgt := 41) hx hb dX12_passes_37 (by decide) ?_
          rw [hQ]
          exact zr_zret (z := true) (rfl) (u := (0)) hx hb hr hlocks hP hD hS (by first | exact Nat.le_of_ble_eq_true rfl | omega) (by first | exact Nat.le_of_ble_eq_true rfl | omega) dX12_passes_41 (show true = (b1 && b2 && b3) ∧ 0 = zcode b1 b2 b3 from by subst_vars; exact ⟨rfl, rfl⟩)
      ·
        refine lv_iconst (v := iz (3)) hx hb dX12_passes_21 rfl ?_
        refine lv_goto (tgt := 26) hx hb dX12_passes_22 (by decide) ?_
        refine va_put (D := G.1) (ci := 13) (v := .int (iz (3))) (ty := .int) (C := RX12) (T := TX12) (N := 12) hx hb hts iwX12 tyX12 tyX12_ok nmX12 hown hK hP hD hS 0 rfl rfl 0 (by decide) (hts (.fieldLink RX12 1 "AnnuityHouseModel" "thrown" "I") (by decide +kernel)) (fun _ h9 => h9) rfl (by decide +kernel) rfl rfl (Nat.le_of_ble_eq_true rfl) dX12_passes_26 (fun H locs hP hD hS => ?_)
        have hP : va_P G.1 vwCl [(x, .inr (13, [.int (iz (3)), .int (iz (md)), w1, w2, w3, w4, w5, w6, w7, w8, w9, w10]))] H := hP
        have hD : va_D A [(x, .inr (13, [.int (iz (3)), .int (iz (md)), w1, w2, w3, w4, w5, w6, w7, w8, w9, w10]))] := hD
        refine lv_aload_n hx hb dX12_passes_29 rfl (lv_at hl 0 rfl) ?_
        refine va_get (D := G.1) (ci := 13) (v := .int (iz (3))) (C := RX12) (T := TX12) (N := 12) hx hb hts iwX12 hown hK hP 0 rfl rfl 0 (by decide) (hts (.fieldLink RX12 1 "AnnuityHouseModel" "thrown" "I") (by decide +kernel)) (fun _ h9 => h9) rfl dX12_passes_30 ?_
        refine zr_if_ne (x := 3) (tgt := 40) hx hb (⟨by omega, by omega⟩) dX12_passes_33 (by decide) (fun h_5 => ?_) (fun h_5 => ?_)
        ·
          refine lv_iconst (v := iz (0)) hx hb dX12_passes_40 rfl ?_
          rw [hQ]
          exact zr_zret (z := false) (rfl) (u := (3)) hx hb hr hlocks hP hD hS (by first | exact Nat.le_of_ble_eq_true rfl | omega) (by first | exact Nat.le_of_ble_eq_true rfl | omega) dX12_passes_41 (show false = (b1 && b2 && b3) ∧ 3 = zcode b1 b2 b3 from by subst_vars; exact ⟨rfl, rfl⟩)
        · exact absurd h_5 (by omega)
    ·
      refine lv_iconst (v := iz (2)) hx hb dX12_passes_13 rfl ?_
      refine lv_goto (tgt := 26) hx hb dX12_passes_14 (by decide) ?_
      refine va_put (D := G.1) (ci := 13) (v := .int (iz (2))) (ty := .int) (C := RX12) (T := TX12) (N := 12) hx hb hts iwX12 tyX12 tyX12_ok nmX12 hown hK hP hD hS 0 rfl rfl 0 (by decide) (hts (.fieldLink RX12 1 "AnnuityHouseModel" "thrown" "I") (by decide +kernel)) (fun _ h9 => h9) rfl (by decide +kernel) rfl rfl (Nat.le_of_ble_eq_true rfl) dX12_passes_26 (fun H locs hP hD hS => ?_)
      have hP : va_P G.1 vwCl [(x, .inr (13, [.int (iz (2)), .int (iz (md)), w1, w2, w3, w4, w5, w6, w7, w8, w9, w10]))] H := hP
      have hD : va_D A [(x, .inr (13, [.int (iz (2)), .int (iz (md)), w1, w2, w3, w4, w5, w6, w7, w8, w9, w10]))] := hD
      refine lv_aload_n hx hb dX12_passes_29 rfl (lv_at hl 0 rfl) ?_
      refine va_get (D := G.1) (ci := 13) (v := .int (iz (2))) (C := RX12) (T := TX12) (N := 12) hx hb hts iwX12 hown hK hP 0 rfl rfl 0 (by decide) (hts (.fieldLink RX12 1 "AnnuityHouseModel" "thrown" "I") (by decide +kernel)) (fun _ h9 => h9) rfl dX12_passes_30 ?_
      refine zr_if_ne (x := 2) (tgt := 40) hx hb (⟨by omega, by omega⟩) dX12_passes_33 (by decide) (fun h_6 => ?_) (fun h_6 => ?_)
      ·
        refine lv_iconst (v := iz (0)) hx hb dX12_passes_40 rfl ?_
        rw [hQ]
        exact zr_zret (z := false) (rfl) (u := (2)) hx hb hr hlocks hP hD hS (by first | exact Nat.le_of_ble_eq_true rfl | omega) (by first | exact Nat.le_of_ble_eq_true rfl | omega) dX12_passes_41 (show false = (b1 && b2 && b3) ∧ 2 = zcode b1 b2 b3 from by subst_vars; exact ⟨rfl, rfl⟩)
      · exact absurd h_6 (by omega)
  ·
    refine lv_iconst (v := iz (1)) hx hb dX12_passes_5 rfl ?_
    refine lv_goto (tgt := 26) hx hb dX12_passes_6 (by decide) ?_
    refine va_put (D := G.1) (ci := 13) (v := .int (iz (1))) (ty := .int) (C := RX12) (T := TX12) (N := 12) hx hb hts iwX12 tyX12 tyX12_ok nmX12 hown hK hP hD hS 0 rfl rfl 0 (by decide) (hts (.fieldLink RX12 1 "AnnuityHouseModel" "thrown" "I") (by decide +kernel)) (fun _ h9 => h9) rfl (by decide +kernel) rfl rfl (Nat.le_of_ble_eq_true rfl) dX12_passes_26 (fun H locs hP hD hS => ?_)
    have hP : va_P G.1 vwCl [(x, .inr (13, [.int (iz (1)), .int (iz (md)), w1, w2, w3, w4, w5, w6, w7, w8, w9, w10]))] H := hP
    have hD : va_D A [(x, .inr (13, [.int (iz (1)), .int (iz (md)), w1, w2, w3, w4, w5, w6, w7, w8, w9, w10]))] := hD
    refine lv_aload_n hx hb dX12_passes_29 rfl (lv_at hl 0 rfl) ?_
    refine va_get (D := G.1) (ci := 13) (v := .int (iz (1))) (C := RX12) (T := TX12) (N := 12) hx hb hts iwX12 hown hK hP 0 rfl rfl 0 (by decide) (hts (.fieldLink RX12 1 "AnnuityHouseModel" "thrown" "I") (by decide +kernel)) (fun _ h9 => h9) rfl dX12_passes_30 ?_
    refine zr_if_ne (x := 1) (tgt := 40) hx hb (⟨by omega, by omega⟩) dX12_passes_33 (by decide) (fun h_7 => ?_) (fun h_7 => ?_)
    ·
      refine lv_iconst (v := iz (0)) hx hb dX12_passes_40 rfl ?_
      rw [hQ]
      exact zr_zret (z := false) (rfl) (u := (1)) hx hb hr hlocks hP hD hS (by first | exact Nat.le_of_ble_eq_true rfl | omega) (by first | exact Nat.le_of_ble_eq_true rfl | omega) dX12_passes_41 (show false = (b1 && b2 && b3) ∧ 1 = zcode b1 b2 b3 from by subst_vars; exact ⟨rfl, rfl⟩)
    · exact absurd h_7 (by omega)

def rm_c_X12_isRoundedUp : Room := { frames := 0, cells := 0, slots := 0, locals := 0 }
set_option maxHeartbeats 1000000 in
set_option maxRecDepth 100000 in
theorem c_X12_isRoundedUp (l : Launch) (G : zG) (sg : Int) (hf : Int) (od : Bool) (h1 : -1 ≤ hf ∧ hf ≤ 1) : zM l G yX12_isRoundedUp wsX12_isRoundedUp rm_c_X12_isRoundedUp [.int (iz (6)), .int (iz (sg)), .int (iz (hf)), .int (iz (zbb od))] [] (fun A => zQz G (fun (z : Bool) (_ : Unit) => z = decide (0 < hf ∨ (hf = 0 ∧ od = true))) (fun (_ : Unit) => []) A) 0 0 := by
  refine zM_of (cc := cX12_isRoundedUp) (maxL := 4) (ret := (some .boolean)) (by decide) rfl (Nat.le_of_ble_eq_true rfl) ?_
  intro p e s m below meth c ls A Q hQ hx hb hr hts hown hlocks hml hnm hKX hP hD hA hS hl
  have hK := hKX.1
  obtain ⟨H, hH⟩ : ∃ h, h = s.heap := ⟨_, rfl⟩
  obtain ⟨locs, hlo⟩ : ∃ h : List Loc, h = [] := ⟨_, rfl⟩
  have hS : va_S A s.heap H locs := by rw [hH, hlo]; exact hS
  have hP : va_P G.1 vwCl [] H := by rw [hH]; exact hP
  have hD : va_D A [] := hD
  have hl : lv_has ls 4 [(0, .int (iz (6))), (1, .int (iz (sg))), (2, .int (iz (hf))), (3, .int (iz (zbb od)))] := hl
  rw [← hH, ← hlo]
  refine lv_iload_n hx hb dX12_isRoundedUp_0 rfl (lv_at hl 0 rfl) ?_
  refine zr_if_eq (x := 6) (tgt := 9) hx hb (⟨by omega, by omega⟩) dX12_isRoundedUp_1 (by decide) (fun h_1 => ?_) (fun h_1 => ?_)
  · exact absurd h_1 (by omega)
  ·
    refine lv_iload_n hx hb dX12_isRoundedUp_4 rfl (lv_at hl 0 rfl) ?_
    refine lv_iconst (v := iz (1)) hx hb dX12_isRoundedUp_5 rfl ?_
    refine zr_icmp_ne (x := 6) (y := 1) (tgt := 19) hx hb (⟨by omega, by omega⟩) (⟨by omega, by omega⟩) dX12_isRoundedUp_6 (by decide) (fun h_2 => ?_) (fun h_2 => ?_)
    ·
      refine lv_iload_n hx hb dX12_isRoundedUp_19 rfl (lv_at hl 0 rfl) ?_
      refine lv_iconst (v := iz (2)) hx hb dX12_isRoundedUp_20 rfl ?_
      refine zr_icmp_eq (x := 6) (y := 2) (tgt := 29) hx hb (⟨by omega, by omega⟩) (⟨by omega, by omega⟩) dX12_isRoundedUp_21 (by decide) (fun h_3 => ?_) (fun h_3 => ?_)
      · exact absurd h_3 (by omega)
      ·
        refine lv_iload_n hx hb dX12_isRoundedUp_24 rfl (lv_at hl 0 rfl) ?_
        refine lv_iconst (v := iz (3)) hx hb dX12_isRoundedUp_25 rfl ?_
        refine zr_icmp_ne (x := 6) (y := 3) (tgt := 57) hx hb (⟨by omega, by omega⟩) (⟨by omega, by omega⟩) dX12_isRoundedUp_26 (by decide) (fun h_4 => ?_) (fun h_4 => ?_)
        ·
          refine lv_iload_n hx hb dX12_isRoundedUp_57 rfl (lv_at hl 2 rfl) ?_
          refine zr_if_gt (x := hf) (tgt := 80) hx hb (⟨by omega, by omega⟩) dX12_isRoundedUp_58 (by decide) (fun h_5 => ?_) (fun h_5 => ?_)
          ·
            refine lv_iconst (v := iz (1)) hx hb dX12_isRoundedUp_80 rfl ?_
            refine lv_goto (tgt := 85) hx hb dX12_isRoundedUp_81 (by decide) ?_
            rw [hQ]
            exact zr_zret (z := true) (rfl) (u := ()) hx hb hr hlocks hP hD hS (by first | exact Nat.le_of_ble_eq_true rfl | omega) (by first | exact Nat.le_of_ble_eq_true rfl | omega) dX12_isRoundedUp_85 (show true = decide (0 < hf ∨ (hf = 0 ∧ od = true)) from by subst_vars; first | exact (decide_eq_true (by first | (left; omega) | (right; exact ⟨by omega, rfl⟩))).symm | exact (decide_eq_false (by rintro (q | ⟨q, q2⟩) <;> first | omega | exact absurd q2 (by decide))).symm)
          ·
            refine lv_iload_n hx hb dX12_isRoundedUp_61 rfl (lv_at hl 2 rfl) ?_
            refine zr_if_ne (x := hf) (tgt := 84) hx hb (⟨by omega, by omega⟩) dX12_isRoundedUp_62 (by decide) (fun h_6 => ?_) (fun h_6 => ?_)
            ·
              refine lv_iconst (v := iz (0)) hx hb dX12_isRoundedUp_84 rfl ?_
              rw [hQ]
              exact zr_zret (z := false) (rfl) (u := ()) hx hb hr hlocks hP hD hS (by first | exact Nat.le_of_ble_eq_true rfl | omega) (by first | exact Nat.le_of_ble_eq_true rfl | omega) dX12_isRoundedUp_85 (show false = decide (0 < hf ∨ (hf = 0 ∧ od = true)) from by subst_vars; first | exact (decide_eq_true (by first | (left; omega) | (right; exact ⟨by omega, rfl⟩))).symm | exact (decide_eq_false (by rintro (q | ⟨q, q2⟩) <;> first | omega | exact absurd q2 (by decide))).symm)
            ·
              refine lv_iload_n hx hb dX12_isRoundedUp_65 rfl (lv_at hl 0 rfl) ?_
              refine lv_iconst (v := iz (4)) hx hb dX12_isRoundedUp_66 rfl ?_
              refine zr_icmp_eq (x := 6) (y := 4) (tgt := 80) hx hb (⟨by omega, by omega⟩) (⟨by omega, by omega⟩) dX12_isRoundedUp_67 (by decide) (fun h_7 => ?_) (fun h_7 => ?_)
              · exact absurd h_7 (by omega)
              ·
                refine lv_iload_n hx hb dX12_isRoundedUp_70 rfl (lv_at hl 0 rfl) ?_
                refine lv_bipush (v := iz (6)) hx hb dX12_isRoundedUp_71 rfl ?_
                refine zr_icmp_ne (x := 6) (y := 6) (tgt := 84) hx hb (⟨by omega, by omega⟩) (⟨by omega, by omega⟩) dX12_isRoundedUp_73 (by decide) (fun h_8 => ?_) (fun h_8 => ?_)
                · exact absurd h_8 (by omega)
                ·
                  refine lv_iload_n hx hb dX12_isRoundedUp_76 rfl (lv_at hl 3 rfl) ?_
                  refine zr_ifz_eq (tgt := 84) hx hb dX12_isRoundedUp_77 (by decide) (fun h_9 => ?_) (fun h_9 => ?_)
                  ·
                    refine lv_iconst (v := iz (0)) hx hb dX12_isRoundedUp_84 rfl ?_
                    rw [hQ]
                    exact zr_zret (z := false) (rfl) (u := ()) hx hb hr hlocks hP hD hS (by first | exact Nat.le_of_ble_eq_true rfl | omega) (by first | exact Nat.le_of_ble_eq_true rfl | omega) dX12_isRoundedUp_85 (show false = decide (0 < hf ∨ (hf = 0 ∧ od = true)) from by subst_vars; first | exact (decide_eq_true (by first | (left; omega) | (right; exact ⟨by omega, rfl⟩))).symm | exact (decide_eq_false (by rintro (q | ⟨q, q2⟩) <;> first | omega | exact absurd q2 (by decide))).symm)
                  ·
                    refine lv_iconst (v := iz (1)) hx hb dX12_isRoundedUp_80 rfl ?_
                    refine lv_goto (tgt := 85) hx hb dX12_isRoundedUp_81 (by decide) ?_
                    rw [hQ]
                    exact zr_zret (z := true) (rfl) (u := ()) hx hb hr hlocks hP hD hS (by first | exact Nat.le_of_ble_eq_true rfl | omega) (by first | exact Nat.le_of_ble_eq_true rfl | omega) dX12_isRoundedUp_85 (show true = decide (0 < hf ∨ (hf = 0 ∧ od = true)) from by subst_vars; first | exact (decide_eq_true (by first | (left; omega) | (right; exact ⟨by omega, rfl⟩))).symm | exact (decide_eq_false (by rintro (q | ⟨q, q2⟩) <;> first | omega | exact absurd q2 (by decide))).symm)
        · exact absurd h_4 (by omega)
    · exact absurd h_2 (by omega)

def rm_c_X12_raised : Room := { frames := 3, cells := 363, slots := 31455, locals := 62 }
set_option maxHeartbeats 1000000 in
set_option maxRecDepth 100000 in
theorem c_X12_raised (l : Launch) (G : zG) (y : Int) (k : Int) (h1 : 1 ≤ y ∧ y < 1000000000000) (h2 : 0 ≤ k ∧ k ≤ 60) (h3 : y ^ k.toNat < 10000 ^ 100) : zM l G yX12_raised wsX12_raised rm_c_X12_raised [.long (lz (y)), .int (iz (k))] [] (fun A => zQr G (fun (u : (Nat × (Int → Int) × Nat × Int)) (ra : Nat) => tmw u.2.1 u.2.2.1 u.2.2.2 (y ^ k.toNat)) (fun (u : (Nat × (Int → Int) × Nat × Int)) (ra : Nat) => [(ra, .inr (12, [.int (iz (u.2.2.2)), .ref u.1])), (u.1, zaI (G.2 1) u.2.2.1 (u.2.1))]) A) 363 31455 := by
  refine zM_of (cc := cX12_raised) (maxL := 5) (ret := (some (.object "AnnuityHouseModel$Whole"))) (by decide) rfl (Nat.le_of_ble_eq_true rfl) ?_
  intro p e s m below meth c ls A Q hQ hx hb hr hts hown hlocks hml hnm hKX hP hD hA hS hl
  have hK := hKX.1
  obtain ⟨H, hH⟩ : ∃ h, h = s.heap := ⟨_, rfl⟩
  obtain ⟨locs, hlo⟩ : ∃ h : List Loc, h = [] := ⟨_, rfl⟩
  have hS : va_S A s.heap H locs := by rw [hH, hlo]; exact hS
  have hP : va_P G.1 vwCl [] H := by rw [hH]; exact hP
  have hD : va_D A [] := hD
  have hl : lv_has ls 5 [(0, .long (lz (y))), (2, .int (iz (k)))] := hl
  rw [← hH, ← hlo]
  refine lv_lconst (v := lz (1)) hx hb dX12_raised_0 rfl ?_
  refine zc_r (wr := []) (va_runS (As := [.long (lz (1))]) (rest := []) ⟨hx, hb, hml, hown, hts⟩ (c_X11_of l G 1 (by omega) H.size) (va_cwS 1 hts gX12_raised_X11_of rfl rfl rfl (by decide +kernel) ⟨Nat.le_of_ble_eq_true rfl, Nat.le_of_ble_eq_true rfl⟩) (zpS hKX hP hD [] rfl rfl) rfl rfl hl.1 rfl (lv_room (Nat.le_of_ble_eq_true rfl)) dX12_raised_1 ⟨(by first | exact Nat.le_of_ble_eq_true rfl | (show _ ≤ (363 : Nat); omega)), (by first | exact Nat.le_of_ble_eq_true rfl | (show _ ≤ (31455 : Nat); omega))⟩) hP hD hS hA [] [] rfl rfl rfl (by decide) (fun u_1 r1 H locs hq1 hP hD hS => ?_)
  obtain ⟨b1, f1, N1, s1⟩ := u_1
  have hP : va_P G.1 vwCl [(r1, .inr (12, [.int (iz (s1)), .ref b1])), (b1, zaI (G.2 1) N1 (f1))] H := hP
  have hD : va_D A [(r1, .inr (12, [.int (iz (s1)), .ref b1])), (b1, zaI (G.2 1) N1 (f1))] := hD
  have hq1 : tmw f1 N1 s1 (1 : Int) := hq1
  refine lv_astore_n (lv' := [(3, .ref r1), (0, .long (lz (y))), (2, .int (iz (k)))]) hx hb dX12_raised_4 rfl hl (by decide) rfl (fun ls hl => ?_)
  refine lv_iconst (v := iz (0)) hx hb dX12_raised_5 rfl ?_
  refine lv_istore (lv' := [(4, .int (iz (0))), (3, .ref r1), (0, .long (lz (y))), (2, .int (iz (k)))]) hx hb dX12_raised_6 hl (by decide) rfl (fun ls hl => ?_)
  have hl_8 : ∀ (zn_8 : Nat) (i : Int) (rp : Nat) (bp : Nat) (fp : Int → Int) (Np : Nat) (sp : Int) (H : Heap) (locs : List Loc) (ls : Array Slot), (k - i).toNat < zn_8 → (0 ≤ i ∧ i ≤ k) → (tmw fp Np sp (y ^ i.toNat)) → va_P G.1 vwCl [(rp, .inr (12, [.int (iz (sp)), .ref bp])), (bp, zaI (G.2 1) Np (fp))] H → va_D A [(rp, .inr (12, [.int (iz (sp)), .ref bp])), (bp, zaI (G.2 1) Np (fp))] → va_S A s.heap H locs → lv_has ls 5 [(4, .int (iz (i))), (3, .ref rp), (0, .long (lz (y))), (2, .int (iz (k)))] → W p l e rm_c_X12_raised s m ([.long (lz (y)), .int (iz (k))] : List Value).toArray below meth c H locs (3 + 6 * (i).toNat) (135 + 522 * (i).toNat) Q (F0 m 8 ls []) := by
    intro zn_8
    induction zn_8 with
    | zero => intro i rp bp fp Np sp H locs ls hm; exact absurd hm (Nat.not_lt_zero _)
    | succ zn_8 ih_8 =>
      intro i rp bp fp Np sp H locs ls hm_8 k1 k2 hP hD hS hl
      refine lv_iload hx hb dX12_raised_8 (lv_at hl 0 rfl) ?_
      refine lv_iload_n hx hb dX12_raised_10 rfl (lv_at hl 3 rfl) ?_
      refine zr_icmp_ge (x := i) (y := k) (tgt := 29) hx hb (⟨by omega, by omega⟩) (⟨by omega, by omega⟩) dX12_raised_11 (by decide) (fun h_3 => ?_) (fun h_3 => ?_)
      ·
        refine lv_aload_n hx hb dX12_raised_29 rfl (lv_at hl 1 rfl) ?_
        rw [hQ]
        exact zr_aret (ra := rp) (Or.inl ⟨_, rfl⟩) (u := (bp, fp, Np, sp)) hx hb hr hlocks hP hD hS (by first | exact Nat.le_of_ble_eq_true rfl | omega) (by first | exact Nat.le_of_ble_eq_true rfl | omega) dX12_raised_30 (show tmw fp Np sp (y ^ k.toNat) from tpost k2 (by rw [show i = k by omega]))
      ·
        refine lv_aload_n hx hb dX12_raised_14 rfl (lv_at hl 1 rfl) ?_
        refine lv_lload_n hx hb dX12_raised_15 rfl (lv_at hl 2 rfl) ?_
        refine zc_r (wr := [(rp, .inr (12, [.int (iz (sp)), .ref bp])), (bp, zaI (G.2 1) Np (fp))]) (va_runS (As := [.long (lz (y))]) (rest := [.ref rp]) ⟨hx, hb, hml, hown, hts⟩ (c_X11_of l G y (by omega) H.size) (va_cwS 1 hts gX12_raised_X11_of rfl rfl rfl (by decide +kernel) ⟨Nat.le_of_ble_eq_true rfl, Nat.le_of_ble_eq_true rfl⟩) (zpS hKX hP hD [] rfl rfl) rfl rfl hl.1 rfl (lv_room (Nat.le_of_ble_eq_true rfl)) dX12_raised_16 ⟨(by first | exact Nat.le_of_ble_eq_true rfl | (show _ ≤ (363 : Nat); omega)), (by first | exact Nat.le_of_ble_eq_true rfl | (show _ ≤ (31455 : Nat); omega))⟩) hP hD hS hA [] [0, 1] rfl rfl rfl (by decide) (fun u_4 r2 H locs hq2 hP hD hS => ?_)
        obtain ⟨b2, f2, N2, s2⟩ := u_4
        have hP : va_P G.1 vwCl [(rp, .inr (12, [.int (iz (sp)), .ref bp])), (bp, zaI (G.2 1) Np (fp)), (r2, .inr (12, [.int (iz (s2)), .ref b2])), (b2, zaI (G.2 1) N2 (f2))] H := hP
        have hD : va_D A [(rp, .inr (12, [.int (iz (sp)), .ref bp])), (bp, zaI (G.2 1) Np (fp)), (r2, .inr (12, [.int (iz (s2)), .ref b2])), (b2, zaI (G.2 1) N2 (f2))] := hD
        have hq2 : tmw f2 N2 s2 y := hq2
        refine zc_r (wr := []) (va_runV (As := [.ref r2]) (rest := []) ⟨hx, hb, hml, hown, hts⟩ (c_X11_times l G rp bp fp Np sp r2 b2 f2 N2 s2 (y ^ i.toNat) y (k2) (hq2) (tra_lt h1 (by omega) (by omega) h3) H.size) (cwV 1 hts gX12_raised_X11_times rfl rfl rfl (by decide +kernel) ⟨Nat.le_of_ble_eq_true rfl, Nat.le_of_ble_eq_true rfl⟩) (zpV hKX hP hD [0, 1, 2, 3] rfl rfl 0 12 rfl rfl) rfl rfl hl.1 rfl (lv_room (Nat.le_of_ble_eq_true rfl)) dX12_raised_19 ⟨(by first | exact Nat.le_of_ble_eq_true rfl | (show _ ≤ (363 : Nat); omega)), (by first | exact Nat.le_of_ble_eq_true rfl | (show _ ≤ (31455 : Nat); omega))⟩) hP hD hS hA [0, 1, 2, 3] [] rfl rfl rfl (by decide) (fun u_6 r3 H locs hq3 hP hD hS => ?_)
        obtain ⟨b3, f3, N3, s3⟩ := u_6
        have hP : va_P G.1 vwCl [(rp, .inr (12, [.int (iz (sp)), .ref bp])), (bp, zaI (G.2 1) Np (fp)), (r2, .inr (12, [.int (iz (s2)), .ref b2])), (b2, zaI (G.2 1) N2 (f2)), (r3, .inr (12, [.int (iz (s3)), .ref b3])), (b3, zaI (G.2 1) N3 (f3))] H := hP
        have hD : va_D A [(rp, .inr (12, [.int (iz (sp)), .ref bp])), (bp, zaI (G.2 1) Np (fp)), (r2, .inr (12, [.int (iz (s2)), .ref b2])), (b2, zaI (G.2 1) N2 (f2)), (r3, .inr (12, [.int (iz (s3)), .ref b3])), (b3, zaI (G.2 1) N3 (f3))] := hD
        have hq3 : tmw f3 N3 s3 ((y ^ i.toNat) * y) := hq3
        refine lv_astore_n (lv' := [(3, .ref r3), (4, .int (iz (i))), (0, .long (lz (y))), (2, .int (iz (k)))]) hx hb dX12_raised_22 rfl hl (by decide) rfl (fun ls hl => ?_)
        refine lv_iinc (v := iz (i + 1)) (lv' := [(4, .int (iz (i + 1))), (3, .ref r3), (0, .long (lz (y))), (2, .int (iz (k)))]) hx hb dX12_raised_23 hl (k := 1) rfl (by rw [show Int32.ofInt (1) = iz (1) from rfl, iz_add]) (by decide) rfl (fun ls hl => ?_)
        refine lv_goto (tgt := 8) hx hb dX12_raised_26 (by decide) ?_
        refine W.widen (k := 3 + 6 * ((i + 1)).toNat) (n := 135 + 522 * ((i + 1)).toNat) (by omega) (by omega) ?_
        exact ih_8 (i + 1) r3 b3 f3 N3 s3 _ _ _ (by omega) (by omega) (tpost hq3 (zpow_s (by omega)).symm) (hP.sub [4, 5] rfl) (hD.sub [4, 5] (by decide) rfl) hS (hl)
  refine W.widen (k := 3 + 6 * ((0 : Int)).toNat) (n := 135 + 522 * ((0 : Int)).toNat) (by omega) (by omega) ?_
  exact hl_8 ((k - 0 : Int).toNat + 1) 0 r1 b1 f1 N1 s1 _ _ _ (Nat.lt_succ_self _) (by omega) (by simpa using hq1) (hP) (hD) hS (hl)

def rm_c_X12_rounded_pn : Room := { frames := 12, cells := 45, slots := 4300, locals := 500 }
theorem iw_X12_rounded_X11 : ∀ w ∈ wsX110, w ∈ wsX12_rounded := by decide +kernel
theorem iw_X12_rounded_X12 : ∀ w ∈ wsX120, w ∈ wsX12_rounded := by decide +kernel
set_option maxHeartbeats 1000000 in
set_option maxRecDepth 100000 in
theorem c_X12_rounded_pn (l : Launch) (G : zG) (x : Nat) (th : Int) (w1 : Value) (w2 : Value) (w3 : Value) (w4 : Value) (w5 : Value) (w6 : Value) (w7 : Value) (w8 : Value) (w9 : Value) (w10 : Value) (a : Nat) (b : Nat) (f : Int → Int) (N : Nat) (sg : Int) (a2 : Nat) (b2 : Nat) (f2 : Int → Int) (N2 : Nat) (sg2 : Int) (v : Int) (v2 : Int) (h1 : tmw f N sg v) (h2 : tmw f2 N2 sg2 v2) (h3 : 0 ≤ v) (h4 : 0 < v2) (h6 : (v.natAbs : Int) < 10000 ^ 120) (h7 : v2 < 10000 ^ 120) (h8 : N2 = 1 ∨ v2 ≤ v) : zM l G yX12_rounded wsX12_rounded rm_c_X12_rounded_pn [.ref x, .ref a, .ref a2] [(x, .inr (13, [.int (iz (th)), .int (iz (6)), w1, w2, w3, w4, w5, w6, w7, w8, w9, w10])), (a, .inr (12, [.int (iz (sg)), .ref b])), (b, zaI (G.2 1) N (f)), (a2, .inr (12, [.int (iz (sg2)), .ref b2])), (b2, zaI (G.2 1) N2 (f2))] (fun A => zQr G (fun (u : (Nat × (Int → Int) × Nat × Int)) (ra : Nat) => tmw u.2.1 u.2.2.1 u.2.2.2 (zr6 v v2)) (fun (u : (Nat × (Int → Int) × Nat × Int)) (ra : Nat) => [(x, .inr (13, [.int (iz (th)), .int (iz (6)), w1, w2, w3, w4, w5, w6, w7, w8, w9, w10])), (ra, .inr (12, [.int (iz (u.2.2.2)), .ref u.1])), (u.1, zaI (G.2 1) u.2.2.1 (u.2.1))]) A) 45 4300 := by
  refine zM_of (cc := cX12_rounded) (maxL := 7) (ret := (some (.object "AnnuityHouseModel$Whole"))) (by decide) rfl (Nat.le_of_ble_eq_true rfl) ?_
  intro p e s m below meth c ls A Q hQ hx hb hr hts hown hlocks hml hnm hKX hP hD hA hS hl
  have hK := hKX.1
  have iwX11 := iw_X12_rounded_X11
  have iwX12 := iw_X12_rounded_X12
  obtain ⟨H, hH⟩ : ∃ h, h = s.heap := ⟨_, rfl⟩
  obtain ⟨locs, hlo⟩ : ∃ h : List Loc, h = [] := ⟨_, rfl⟩
  have hS : va_S A s.heap H locs := by rw [hH, hlo]; exact hS
  have hP : va_P G.1 vwCl [(x, .inr (13, [.int (iz (th)), .int (iz (6)), w1, w2, w3, w4, w5, w6, w7, w8, w9, w10])), (a, .inr (12, [.int (iz (sg)), .ref b])), (b, zaI (G.2 1) N (f)), (a2, .inr (12, [.int (iz (sg2)), .ref b2])), (b2, zaI (G.2 1) N2 (f2))] H := by rw [hH]; exact hP
  have hD : va_D A [(x, .inr (13, [.int (iz (th)), .int (iz (6)), w1, w2, w3, w4, w5, w6, w7, w8, w9, w10])), (a, .inr (12, [.int (iz (sg)), .ref b])), (b, zaI (G.2 1) N (f)), (a2, .inr (12, [.int (iz (sg2)), .ref b2])), (b2, zaI (G.2 1) N2 (f2))] := hD
  have hl : lv_has ls 7 [(0, .ref x), (1, .ref a), (2, .ref a2)] := hl
  rw [← hH, ← hlo]
  have g1 := h1.sgi
  have s1 := h1.sgn
  have n2 := h2.n
  have p1 := Int.sign_nonneg_iff.mpr h3
  refine lv_aload_n hx hb dX12_rounded_0 rfl (lv_at hl 1 rfl) ?_
  refine zc_r (wr := [(x, .inr (13, [.int (iz (th)), .int (iz (6)), w1, w2, w3, w4, w5, w6, w7, w8, w9, w10])), (a2, .inr (12, [.int (iz (sg2)), .ref b2])), (b2, zaI (G.2 1) N2 (f2))]) (va_runV (As := []) (rest := []) ⟨hx, hb, hml, hown, hts⟩ (c_X11_size_p l G a b f N sg v (h1) (h3) H.size) (cwV 0 hts gX12_rounded_X11_size rfl rfl rfl (by decide +kernel) ⟨Nat.le_of_ble_eq_true rfl, Nat.le_of_ble_eq_true rfl⟩) (zpV hKX hP hD [1, 2] rfl rfl 1 12 rfl rfl) rfl rfl hl.1 rfl (lv_room (Nat.le_of_ble_eq_true rfl)) dX12_rounded_1 ⟨(by first | exact Nat.le_of_ble_eq_true rfl | (show _ ≤ (45 : Nat); omega)), (by first | exact Nat.le_of_ble_eq_true rfl | (show _ ≤ (4300 : Nat); omega))⟩) hP hD hS hA [1, 2] [0, 3, 4] rfl rfl rfl (by decide) (fun u_1 ra_3 H locs hsz hP hD hS => ?_)
  have hP : va_P G.1 vwCl [(x, .inr (13, [.int (iz (th)), .int (iz (6)), w1, w2, w3, w4, w5, w6, w7, w8, w9, w10])), (a2, .inr (12, [.int (iz (sg2)), .ref b2])), (b2, zaI (G.2 1) N2 (f2)), (a, .inr (12, [.int (iz (sg)), .ref b])), (b, zaI (G.2 1) N (f))] H := hP
  have hD : va_D A [(x, .inr (13, [.int (iz (th)), .int (iz (6)), w1, w2, w3, w4, w5, w6, w7, w8, w9, w10])), (a2, .inr (12, [.int (iz (sg2)), .ref b2])), (b2, zaI (G.2 1) N2 (f2)), (a, .inr (12, [.int (iz (sg)), .ref b])), (b, zaI (G.2 1) N (f))] := hD
  have hsz : ra_3 = a := hsz
  rw [hsz]
  refine lv_aload_n hx hb dX12_rounded_4 rfl (lv_at hl 2 rfl) ?_
  refine zc_r (wr := [(x, .inr (13, [.int (iz (th)), .int (iz (6)), w1, w2, w3, w4, w5, w6, w7, w8, w9, w10]))]) (va_runV (As := [.ref a2]) (rest := []) ⟨hx, hb, hml, hown, hts⟩ (c_X11_divided_n l G a b f N sg a2 b2 f2 N2 sg2 v v2 (h1) (h2) (by omega) (h4) (by omega) (h7) (h8) H.size) (cwV 1 hts gX12_rounded_X11_divided rfl rfl rfl (by decide +kernel) ⟨Nat.le_of_ble_eq_true rfl, Nat.le_of_ble_eq_true rfl⟩) (zpV hKX hP hD [3, 4, 1, 2] rfl rfl 3 12 rfl rfl) rfl rfl hl.1 rfl (lv_room (Nat.le_of_ble_eq_true rfl)) dX12_rounded_5 ⟨(by first | exact Nat.le_of_ble_eq_true rfl | (show _ ≤ (45 : Nat); omega)), (by first | exact Nat.le_of_ble_eq_true rfl | (show _ ≤ (4300 : Nat); omega))⟩) hP hD hS hA [3, 4, 1, 2] [0] rfl rfl rfl (by decide) (fun u_4 rr H locs hd hP hD hS => ?_)
  obtain ⟨fr, rq, bq, fq, Nq, sq, rz, bz, fz, Nz, sz⟩ := u_4
  have hP : va_P G.1 vwCl [(x, .inr (13, [.int (iz (th)), .int (iz (6)), w1, w2, w3, w4, w5, w6, w7, w8, w9, w10])), (a, .inr (12, [.int (iz (sg)), .ref b])), (b, zaI (G.2 1) N (f)), (a2, .inr (12, [.int (iz (sg2)), .ref b2])), (b2, zaI (G.2 1) N2 (f2)), (rr, zaR (G.2 4) 2 (fr)), (rq, .inr (12, [.int (iz (sq)), .ref bq])), (bq, zaI (G.2 1) Nq (fq)), (rz, .inr (12, [.int (iz (sz)), .ref bz])), (bz, zaI (G.2 1) Nz (fz))] H := hP
  have hD : va_D A [(x, .inr (13, [.int (iz (th)), .int (iz (6)), w1, w2, w3, w4, w5, w6, w7, w8, w9, w10])), (a, .inr (12, [.int (iz (sg)), .ref b])), (b, zaI (G.2 1) N (f)), (a2, .inr (12, [.int (iz (sg2)), .ref b2])), (b2, zaI (G.2 1) N2 (f2)), (rr, zaR (G.2 4) 2 (fr)), (rq, .inr (12, [.int (iz (sq)), .ref bq])), (bq, zaI (G.2 1) Nq (fq)), (rz, .inr (12, [.int (iz (sz)), .ref bz])), (bz, zaI (G.2 1) Nz (fz))] := hD
  have hd : fr 0 = some rq ∧ fr 1 = some rz ∧ tmw fq Nq sq (v / v2) ∧ tmw fz Nz sz (v % v2) := hd
  have hz := hd.2.2.2
  have hqv := hd.2.2.1
  have hr0 := Int.emod_nonneg v (show v2 ≠ 0 by omega)
  have hr1 := Int.emod_lt_of_pos v h4
  have hq0 : 0 ≤ v / v2 := Int.ediv_nonneg (by omega) (by omega)
  have hqle : v / v2 ≤ v := Int.ediv_le_self _ (by omega)
  refine lv_astore_n (lv' := [(3, .ref rr), (0, .ref x), (1, .ref a), (2, .ref a2)]) hx hb dX12_rounded_8 rfl hl (by decide) rfl (fun ls hl => ?_)
  refine lv_aload_n hx hb dX12_rounded_9 rfl (lv_at hl 0 rfl) ?_
  refine lv_iconst (v := iz (0)) hx hb dX12_rounded_10 rfl ?_
  refine zr_aldq (v := rq) hx hb hK hP 5 4 rfl rfl (i := 0) (⟨by omega, by omega, by omega⟩) (hd.1) dX12_rounded_11 ?_
  refine lv_astore (lv' := [(4, .ref rq), (3, .ref rr), (0, .ref x), (1, .ref a), (2, .ref a2)]) hx hb dX12_rounded_12 hl (by decide) rfl (fun ls hl => ?_)
  refine lv_aload_n hx hb dX12_rounded_14 rfl (lv_at hl 1 rfl) ?_
  refine lv_iconst (v := iz (1)) hx hb dX12_rounded_15 rfl ?_
  refine zr_aldq (v := rz) hx hb hK hP 5 4 rfl rfl (i := 1) (⟨by omega, by omega, by omega⟩) (hd.2.1) dX12_rounded_16 ?_
  refine zc_z (wr := [(x, .inr (13, [.int (iz (th)), .int (iz (6)), w1, w2, w3, w4, w5, w6, w7, w8, w9, w10])), (a, .inr (12, [.int (iz (sg)), .ref b])), (b, zaI (G.2 1) N (f)), (a2, .inr (12, [.int (iz (sg2)), .ref b2])), (b2, zaI (G.2 1) N2 (f2)), (rr, zaR (G.2 4) 2 (fr)), (rq, .inr (12, [.int (iz (sq)), .ref bq])), (bq, zaI (G.2 1) Nq (fq))]) (va_runV (As := []) (rest := []) ⟨hx, hb, hml, hown, hts⟩ (c_X11_isNothing l G rz bz fz Nz sz (v % v2) (hz) H.size) (cwV 0 hts gX12_rounded_X11_isNothing rfl rfl rfl (by decide +kernel) ⟨Nat.le_of_ble_eq_true rfl, Nat.le_of_ble_eq_true rfl⟩) (zpV hKX hP hD [8, 9] rfl rfl 8 12 rfl rfl) rfl rfl hl.1 rfl (lv_room (Nat.le_of_ble_eq_true rfl)) dX12_rounded_17 ⟨(by first | exact Nat.le_of_ble_eq_true rfl | (show _ ≤ (45 : Nat); omega)), (by first | exact Nat.le_of_ble_eq_true rfl | (show _ ≤ (4300 : Nat); omega))⟩) hP hD hS hA [8, 9] [0, 1, 2, 3, 4, 5, 6, 7] rfl rfl rfl (by decide) (fun en u_6 H locs hen hP hD hS => ?_)
  have hP : va_P G.1 vwCl [(x, .inr (13, [.int (iz (th)), .int (iz (6)), w1, w2, w3, w4, w5, w6, w7, w8, w9, w10])), (a, .inr (12, [.int (iz (sg)), .ref b])), (b, zaI (G.2 1) N (f)), (a2, .inr (12, [.int (iz (sg2)), .ref b2])), (b2, zaI (G.2 1) N2 (f2)), (rr, zaR (G.2 4) 2 (fr)), (rq, .inr (12, [.int (iz (sq)), .ref bq])), (bq, zaI (G.2 1) Nq (fq)), (rz, .inr (12, [.int (iz (sz)), .ref bz])), (bz, zaI (G.2 1) Nz (fz))] H := hP
  have hD : va_D A [(x, .inr (13, [.int (iz (th)), .int (iz (6)), w1, w2, w3, w4, w5, w6, w7, w8, w9, w10])), (a, .inr (12, [.int (iz (sg)), .ref b])), (b, zaI (G.2 1) N (f)), (a2, .inr (12, [.int (iz (sg2)), .ref b2])), (b2, zaI (G.2 1) N2 (f2)), (rr, zaR (G.2 4) 2 (fr)), (rq, .inr (12, [.int (iz (sq)), .ref bq])), (bq, zaI (G.2 1) Nq (fq)), (rz, .inr (12, [.int (iz (sz)), .ref bz])), (bz, zaI (G.2 1) Nz (fz))] := hD
  have hen : en = decide ((v % v2) = 0) := hen
  refine zr_ifz_ne (tgt := 103) hx hb dX12_rounded_20 (by decide) (fun h_8 => ?_) (fun h_8 => ?_)
  ·
    have hzen := of_decide_eq_true (hen.symm.trans h_8)
    have hval := zhe_ex (show ((v).natAbs : Int) = v by omega) h4 (of_decide_eq_true (hen.symm.trans h_8))
    have hq2e : (((v / v2).natAbs : Int)) = v / v2 := by omega
    refine lv_aload_n hx hb dX12_rounded_103 rfl (lv_at hl 3 rfl) ?_
    refine va_getN (D := G.1) (host := "AnnuityHouseModel") (ci := 12) (v := .int (iz (sg))) (C := RX11) (T := TX11) (N := 2) hx hb hts iwX11 hown hK hP 1 rfl rfl 0 (by decide) (va_Nw.use rfl (hKX.2.2.2 (.fieldLinkNest "AnnuityHouseModel" 39 "AnnuityHouseModel$Whole" "sign" "I" "AnnuityHouseModel") (by decide +kernel))) (fun _ h9 => h9) rfl dX12_rounded_104 ?_
    refine zr_if_ge (x := sg) (tgt := 118) hx hb (⟨by omega, by omega⟩) dX12_rounded_107 (by decide) (fun h_9 => ?_) (fun h_9 => ?_)
    ·
      refine lv_aload hx hb dX12_rounded_118 (lv_at hl 0 rfl) ?_
      rw [hQ]
      exact zr_aret (ra := rq) (Or.inl ⟨_, rfl⟩) (u := (bq, fq, Nq, sq)) hx hb hr hlocks (hP.sub [0, 6, 7] rfl) (hD.sub [0, 6, 7] (by decide) rfl) hS (by first | exact Nat.le_of_ble_eq_true rfl | omega) (by first | exact Nat.le_of_ble_eq_true rfl | omega) dX12_rounded_120 (show tmw fq Nq sq (zr6 v v2) from by rw [zr6_p h3]; first | exact tpost hpl hval.symm | exact tpost hqv hval.symm)
    · exact absurd h_9 (by omega)
  ·
    have hzen := of_decide_eq_false (hen.symm.trans h_8)
    have hen0 := h_8
    refine lv_aload_n hx hb dX12_rounded_23 rfl (lv_at hl 2 rfl) ?_
    refine va_get (D := G.1) (ci := 13) (v := .int (iz (6))) (C := RX12) (T := TX12) (N := 12) hx hb hts iwX12 hown hK hP 0 rfl rfl 1 (by decide) (hts (.fieldLink RX12 29 "AnnuityHouseModel" "mode" "I") (by decide +kernel)) (fun _ h9 => h9) rfl dX12_rounded_24 ?_
    refine lv_bipush (v := iz (7)) hx hb dX12_rounded_27 rfl ?_
    refine zr_icmp_ne (x := 6) (y := 7) (tgt := 34) hx hb (⟨by omega, by omega⟩) (⟨by omega, by omega⟩) dX12_rounded_29 (by decide) (fun h_10 => ?_) (fun h_10 => ?_)
    ·
      refine lv_aload_n hx hb dX12_rounded_34 rfl (lv_at hl 1 rfl) ?_
      refine lv_iconst (v := iz (1)) hx hb dX12_rounded_35 rfl ?_
      refine zr_aldq (v := rz) hx hb hK hP 5 4 rfl rfl (i := 1) (⟨by omega, by omega, by omega⟩) (hd.2.1) dX12_rounded_36 ?_
      refine lv_aload_n hx hb dX12_rounded_37 rfl (lv_at hl 1 rfl) ?_
      refine lv_iconst (v := iz (1)) hx hb dX12_rounded_38 rfl ?_
      refine zr_aldq (v := rz) hx hb hK hP 5 4 rfl rfl (i := 1) (⟨by omega, by omega, by omega⟩) (hd.2.1) dX12_rounded_39 ?_
      refine zc_r (wr := [(x, .inr (13, [.int (iz (th)), .int (iz (6)), w1, w2, w3, w4, w5, w6, w7, w8, w9, w10])), (a, .inr (12, [.int (iz (sg)), .ref b])), (b, zaI (G.2 1) N (f)), (a2, .inr (12, [.int (iz (sg2)), .ref b2])), (b2, zaI (G.2 1) N2 (f2)), (rr, zaR (G.2 4) 2 (fr)), (rq, .inr (12, [.int (iz (sq)), .ref bq])), (bq, zaI (G.2 1) Nq (fq))]) (va_runV (As := [.ref rz]) (rest := []) ⟨hx, hb, hml, hown, hts⟩ (c_X11_plus_k l G rz bz fz Nz sz (v % v2) (hz) (tr_dbl h7 hr0 hr1) (by have := of_decide_eq_false (hen.symm.trans hen0); omega) H.size) (cwV 1 hts gX12_rounded_X11_plus rfl rfl rfl (by decide +kernel) ⟨Nat.le_of_ble_eq_true rfl, Nat.le_of_ble_eq_true rfl⟩) (zpV hKX hP hD [8, 9] rfl rfl 8 12 rfl rfl) rfl rfl hl.1 rfl (lv_room (Nat.le_of_ble_eq_true rfl)) dX12_rounded_40 ⟨(by first | exact Nat.le_of_ble_eq_true rfl | (show _ ≤ (45 : Nat); omega)), (by first | exact Nat.le_of_ble_eq_true rfl | (show _ ≤ (4300 : Nat); omega))⟩) hP hD hS hA [8, 9] [0, 1, 2, 3, 4, 5, 6, 7] rfl rfl rfl (by decide) (fun u_11 r4 H locs hp hP hD hS => ?_)
      obtain ⟨b4, f4, N4, s4⟩ := u_11
      have hP : va_P G.1 vwCl [(x, .inr (13, [.int (iz (th)), .int (iz (6)), w1, w2, w3, w4, w5, w6, w7, w8, w9, w10])), (a, .inr (12, [.int (iz (sg)), .ref b])), (b, zaI (G.2 1) N (f)), (a2, .inr (12, [.int (iz (sg2)), .ref b2])), (b2, zaI (G.2 1) N2 (f2)), (rr, zaR (G.2 4) 2 (fr)), (rq, .inr (12, [.int (iz (sq)), .ref bq])), (bq, zaI (G.2 1) Nq (fq)), (rz, .inr (12, [.int (iz (sz)), .ref bz])), (bz, zaI (G.2 1) Nz (fz)), (r4, .inr (12, [.int (iz (s4)), .ref b4])), (b4, zaI (G.2 1) N4 (f4))] H := hP
      have hD : va_D A [(x, .inr (13, [.int (iz (th)), .int (iz (6)), w1, w2, w3, w4, w5, w6, w7, w8, w9, w10])), (a, .inr (12, [.int (iz (sg)), .ref b])), (b, zaI (G.2 1) N (f)), (a2, .inr (12, [.int (iz (sg2)), .ref b2])), (b2, zaI (G.2 1) N2 (f2)), (rr, zaR (G.2 4) 2 (fr)), (rq, .inr (12, [.int (iz (sq)), .ref bq])), (bq, zaI (G.2 1) Nq (fq)), (rz, .inr (12, [.int (iz (sz)), .ref bz])), (bz, zaI (G.2 1) Nz (fz)), (r4, .inr (12, [.int (iz (s4)), .ref b4])), (b4, zaI (G.2 1) N4 (f4))] := hD
      have hp : tmw f4 N4 s4 ((v % v2) + (v % v2)) := hp
      refine lv_aload_n hx hb dX12_rounded_43 rfl (lv_at hl 4 rfl) ?_
      refine zc_i (wr := [(x, .inr (13, [.int (iz (th)), .int (iz (6)), w1, w2, w3, w4, w5, w6, w7, w8, w9, w10])), (a, .inr (12, [.int (iz (sg)), .ref b])), (b, zaI (G.2 1) N (f)), (rr, zaR (G.2 4) 2 (fr)), (rq, .inr (12, [.int (iz (sq)), .ref bq])), (bq, zaI (G.2 1) Nq (fq)), (rz, .inr (12, [.int (iz (sz)), .ref bz])), (bz, zaI (G.2 1) Nz (fz))]) (va_runV (As := [.ref a2]) (rest := []) ⟨hx, hb, hml, hown, hts⟩ (c_X11_comparedSize l G r4 b4 f4 N4 s4 a2 b2 f2 N2 sg2 (v % v2 + v % v2) v2 (hp) (h2) H.size) (cwV 1 hts gX12_rounded_X11_comparedSize rfl rfl rfl (by decide +kernel) ⟨Nat.le_of_ble_eq_true rfl, Nat.le_of_ble_eq_true rfl⟩) (zpV hKX hP hD [10, 11, 3, 4] rfl rfl 10 12 rfl rfl) rfl rfl hl.1 rfl (lv_room (Nat.le_of_ble_eq_true rfl)) dX12_rounded_44 ⟨(by first | exact Nat.le_of_ble_eq_true rfl | (show _ ≤ (45 : Nat); omega)), (by first | exact Nat.le_of_ble_eq_true rfl | (show _ ≤ (4300 : Nat); omega))⟩) hP hD hS hA [10, 11, 3, 4] [0, 1, 2, 5, 6, 7, 8, 9] rfl rfl rfl (by decide) (fun hf u_13 H locs hhf hP hD hS => ?_)
      have hP : va_P G.1 vwCl [(x, .inr (13, [.int (iz (th)), .int (iz (6)), w1, w2, w3, w4, w5, w6, w7, w8, w9, w10])), (a, .inr (12, [.int (iz (sg)), .ref b])), (b, zaI (G.2 1) N (f)), (rr, zaR (G.2 4) 2 (fr)), (rq, .inr (12, [.int (iz (sq)), .ref bq])), (bq, zaI (G.2 1) Nq (fq)), (rz, .inr (12, [.int (iz (sz)), .ref bz])), (bz, zaI (G.2 1) Nz (fz)), (r4, .inr (12, [.int (iz (s4)), .ref b4])), (b4, zaI (G.2 1) N4 (f4)), (a2, .inr (12, [.int (iz (sg2)), .ref b2])), (b2, zaI (G.2 1) N2 (f2))] H := hP
      have hD : va_D A [(x, .inr (13, [.int (iz (th)), .int (iz (6)), w1, w2, w3, w4, w5, w6, w7, w8, w9, w10])), (a, .inr (12, [.int (iz (sg)), .ref b])), (b, zaI (G.2 1) N (f)), (rr, zaR (G.2 4) 2 (fr)), (rq, .inr (12, [.int (iz (sq)), .ref bq])), (bq, zaI (G.2 1) Nq (fq)), (rz, .inr (12, [.int (iz (sz)), .ref bz])), (bz, zaI (G.2 1) Nz (fz)), (r4, .inr (12, [.int (iz (s4)), .ref b4])), (b4, zaI (G.2 1) N4 (f4)), (a2, .inr (12, [.int (iz (sg2)), .ref b2])), (b2, zaI (G.2 1) N2 (f2))] := hD
      have hhf : hf = (((v % v2 + v % v2).natAbs : Int) - (v2.natAbs : Int)).sign := hhf
      have hsr := tsgn_rng (((v % v2 + v % v2).natAbs : Int) - (v2.natAbs : Int))
      refine lv_istore (lv' := [(5, .int (iz (hf))), (4, .ref rq), (3, .ref rr), (0, .ref x), (1, .ref a), (2, .ref a2)]) hx hb dX12_rounded_47 hl (by decide) rfl (fun ls hl => ?_)
      refine lv_aload_n hx hb dX12_rounded_49 rfl (lv_at hl 3 rfl) ?_
      refine va_get (D := G.1) (ci := 13) (v := .int (iz (6))) (C := RX12) (T := TX12) (N := 12) hx hb hts iwX12 hown hK hP 0 rfl rfl 1 (by decide) (hts (.fieldLink RX12 29 "AnnuityHouseModel" "mode" "I") (by decide +kernel)) (fun _ h9 => h9) rfl dX12_rounded_50 ?_
      refine lv_aload_n hx hb dX12_rounded_53 rfl (lv_at hl 4 rfl) ?_
      refine va_getN (D := G.1) (host := "AnnuityHouseModel") (ci := 12) (v := .int (iz (sg))) (C := RX11) (T := TX11) (N := 2) hx hb hts iwX11 hown hK hP 1 rfl rfl 0 (by decide) (va_Nw.use rfl (hKX.2.2.2 (.fieldLinkNest "AnnuityHouseModel" 39 "AnnuityHouseModel$Whole" "sign" "I" "AnnuityHouseModel") (by decide +kernel))) (fun _ h9 => h9) rfl dX12_rounded_54 ?_
      refine lv_iload hx hb dX12_rounded_57 (lv_at hl 0 rfl) ?_
      refine lv_aload hx hb dX12_rounded_59 (lv_at hl 1 rfl) ?_
      refine zr_ldc2 (z := 2) hx hb hown (hts (.constantLong RX12 42 (2)) (by decide +kernel)) rfl dX12_rounded_61 ?_
      refine zc_l (wr := [(x, .inr (13, [.int (iz (th)), .int (iz (6)), w1, w2, w3, w4, w5, w6, w7, w8, w9, w10])), (a, .inr (12, [.int (iz (sg)), .ref b])), (b, zaI (G.2 1) N (f)), (rr, zaR (G.2 4) 2 (fr)), (rz, .inr (12, [.int (iz (sz)), .ref bz])), (bz, zaI (G.2 1) Nz (fz)), (r4, .inr (12, [.int (iz (s4)), .ref b4])), (b4, zaI (G.2 1) N4 (f4)), (a2, .inr (12, [.int (iz (sg2)), .ref b2])), (b2, zaI (G.2 1) N2 (f2))]) (va_runV (As := [.long (lz (2))]) (rest := [.int (iz (hf)), .int (iz (sg)), .int (iz (6))]) ⟨hx, hb, hml, hown, hts⟩ (c_X11_rest l G rq bq fq Nq sq (v / v2) 2 (hqv) (by omega) H.size) (cwV 1 hts gX12_rounded_X11_rest rfl rfl rfl (by decide +kernel) ⟨Nat.le_of_ble_eq_true rfl, Nat.le_of_ble_eq_true rfl⟩) (zpV hKX hP hD [4, 5] rfl rfl 4 12 rfl rfl) rfl rfl hl.1 rfl (lv_room (Nat.le_of_ble_eq_true rfl)) dX12_rounded_64 ⟨(by first | exact Nat.le_of_ble_eq_true rfl | (show _ ≤ (45 : Nat); omega)), (by first | exact Nat.le_of_ble_eq_true rfl | (show _ ≤ (4300 : Nat); omega))⟩) hP hD hS hA [4, 5] [0, 1, 2, 3, 6, 7, 8, 9, 10, 11] rfl rfl rfl (by decide) (fun od2 u_15 H locs hod hP hD hS => ?_)
      have hP : va_P G.1 vwCl [(x, .inr (13, [.int (iz (th)), .int (iz (6)), w1, w2, w3, w4, w5, w6, w7, w8, w9, w10])), (a, .inr (12, [.int (iz (sg)), .ref b])), (b, zaI (G.2 1) N (f)), (rr, zaR (G.2 4) 2 (fr)), (rz, .inr (12, [.int (iz (sz)), .ref bz])), (bz, zaI (G.2 1) Nz (fz)), (r4, .inr (12, [.int (iz (s4)), .ref b4])), (b4, zaI (G.2 1) N4 (f4)), (a2, .inr (12, [.int (iz (sg2)), .ref b2])), (b2, zaI (G.2 1) N2 (f2)), (rq, .inr (12, [.int (iz (sq)), .ref bq])), (bq, zaI (G.2 1) Nq (fq))] H := hP
      have hD : va_D A [(x, .inr (13, [.int (iz (th)), .int (iz (6)), w1, w2, w3, w4, w5, w6, w7, w8, w9, w10])), (a, .inr (12, [.int (iz (sg)), .ref b])), (b, zaI (G.2 1) N (f)), (rr, zaR (G.2 4) 2 (fr)), (rz, .inr (12, [.int (iz (sz)), .ref bz])), (bz, zaI (G.2 1) Nz (fz)), (r4, .inr (12, [.int (iz (s4)), .ref b4])), (b4, zaI (G.2 1) N4 (f4)), (a2, .inr (12, [.int (iz (sg2)), .ref b2])), (b2, zaI (G.2 1) N2 (f2)), (rq, .inr (12, [.int (iz (sq)), .ref bq])), (bq, zaI (G.2 1) Nq (fq))] := hD
      have hod : od2 = ((v / v2).natAbs : Int) % (2 : Int) := hod
      refine lv_lconst (v := lz (1)) hx hb dX12_rounded_67 rfl ?_
      refine zr_lcmp_ne (x := od2) (y := 1) (tgt := 76) hx hb (⟨by omega, by omega⟩) (⟨by omega, by omega⟩) dX12_rounded_68 dX12_rounded_69 (by decide) (fun h_17 => ?_) (fun h_17 => ?_)
      ·
        refine lv_iconst (v := iz (0)) hx hb dX12_rounded_76 rfl ?_
        refine zc_z (wr := [(x, .inr (13, [.int (iz (th)), .int (iz (6)), w1, w2, w3, w4, w5, w6, w7, w8, w9, w10])), (a, .inr (12, [.int (iz (sg)), .ref b])), (b, zaI (G.2 1) N (f)), (rr, zaR (G.2 4) 2 (fr)), (rz, .inr (12, [.int (iz (sz)), .ref bz])), (bz, zaI (G.2 1) Nz (fz)), (r4, .inr (12, [.int (iz (s4)), .ref b4])), (b4, zaI (G.2 1) N4 (f4)), (a2, .inr (12, [.int (iz (sg2)), .ref b2])), (b2, zaI (G.2 1) N2 (f2)), (rq, .inr (12, [.int (iz (sq)), .ref bq])), (bq, zaI (G.2 1) Nq (fq))]) (va_runS (As := [.int (iz (6)), .int (iz (sg)), .int (iz (hf)), .int (iz (0))]) (rest := []) ⟨hx, hb, hml, hown, hts⟩ (c_X12_isRoundedUp l G sg hf false (by omega) H.size) (va_cwS 4 hts gX12_rounded_X12_isRoundedUp rfl rfl rfl (by decide +kernel) ⟨Nat.le_of_ble_eq_true rfl, Nat.le_of_ble_eq_true rfl⟩) (zpS hKX hP hD [] rfl rfl) rfl rfl hl.1 rfl (lv_room (Nat.le_of_ble_eq_true rfl)) dX12_rounded_77 ⟨(by first | exact Nat.le_of_ble_eq_true rfl | (show _ ≤ (45 : Nat); omega)), (by first | exact Nat.le_of_ble_eq_true rfl | (show _ ≤ (4300 : Nat); omega))⟩) hP hD hS hA [] [0, 1, 2, 3, 4, 5, 6, 7, 8, 9, 10, 11] rfl rfl rfl (by decide) (fun up u_18 H locs hup hP hD hS => ?_)
        have hP : va_P G.1 vwCl [(x, .inr (13, [.int (iz (th)), .int (iz (6)), w1, w2, w3, w4, w5, w6, w7, w8, w9, w10])), (a, .inr (12, [.int (iz (sg)), .ref b])), (b, zaI (G.2 1) N (f)), (rr, zaR (G.2 4) 2 (fr)), (rz, .inr (12, [.int (iz (sz)), .ref bz])), (bz, zaI (G.2 1) Nz (fz)), (r4, .inr (12, [.int (iz (s4)), .ref b4])), (b4, zaI (G.2 1) N4 (f4)), (a2, .inr (12, [.int (iz (sg2)), .ref b2])), (b2, zaI (G.2 1) N2 (f2)), (rq, .inr (12, [.int (iz (sq)), .ref bq])), (bq, zaI (G.2 1) Nq (fq))] H := hP
        have hD : va_D A [(x, .inr (13, [.int (iz (th)), .int (iz (6)), w1, w2, w3, w4, w5, w6, w7, w8, w9, w10])), (a, .inr (12, [.int (iz (sg)), .ref b])), (b, zaI (G.2 1) N (f)), (rr, zaR (G.2 4) 2 (fr)), (rz, .inr (12, [.int (iz (sz)), .ref bz])), (bz, zaI (G.2 1) Nz (fz)), (r4, .inr (12, [.int (iz (s4)), .ref b4])), (b4, zaI (G.2 1) N4 (f4)), (a2, .inr (12, [.int (iz (sg2)), .ref b2])), (b2, zaI (G.2 1) N2 (f2)), (rq, .inr (12, [.int (iz (sq)), .ref bq])), (bq, zaI (G.2 1) Nq (fq))] := hD
        have hup : up = decide (0 < hf ∨ (hf = 0 ∧ false = true)) := hup
        refine lv_istore (lv' := [(6, .int (iz (zbb up))), (5, .int (iz (hf))), (4, .ref rq), (3, .ref rr), (0, .ref x), (1, .ref a), (2, .ref a2)]) hx hb dX12_rounded_80 hl (by decide) rfl (fun ls hl => ?_)
        refine lv_iload hx hb dX12_rounded_82 (lv_at hl 0 rfl) ?_
        refine zr_ifz_eq (tgt := 99) hx hb dX12_rounded_84 (by decide) (fun h_20 => ?_) (fun h_20 => ?_)
        ·
          have hzup := of_decide_eq_false (hup.symm.trans h_20)
          have hval := zhe_dn (show ((v).natAbs : Int) = v by omega) h4 hr0 hhf (by first | exact ⟨fun _ => (by omega), fun _ => rfl⟩ | exact ⟨fun q => (by cases q), fun q => (by omega)⟩) (h_20 ▸ hup)
          refine lv_aload hx hb dX12_rounded_99 (lv_at hl 2 rfl) ?_
          refine lv_astore (lv' := [(4, .ref rq), (6, .int (iz (zbb up))), (5, .int (iz (hf))), (3, .ref rr), (0, .ref x), (1, .ref a), (2, .ref a2)]) hx hb dX12_rounded_101 hl (by decide) rfl (fun ls hl => ?_)
          have hq2e : (((v / v2).natAbs : Int)) = v / v2 := by omega
          refine lv_aload_n hx hb dX12_rounded_103 rfl (lv_at hl 5 rfl) ?_
          refine va_getN (D := G.1) (host := "AnnuityHouseModel") (ci := 12) (v := .int (iz (sg))) (C := RX11) (T := TX11) (N := 2) hx hb hts iwX11 hown hK hP 1 rfl rfl 0 (by decide) (va_Nw.use rfl (hKX.2.2.2 (.fieldLinkNest "AnnuityHouseModel" 39 "AnnuityHouseModel$Whole" "sign" "I" "AnnuityHouseModel") (by decide +kernel))) (fun _ h9 => h9) rfl dX12_rounded_104 ?_
          refine zr_if_ge (x := sg) (tgt := 118) hx hb (⟨by omega, by omega⟩) dX12_rounded_107 (by decide) (fun h_21 => ?_) (fun h_21 => ?_)
          ·
            refine lv_aload hx hb dX12_rounded_118 (lv_at hl 0 rfl) ?_
            rw [hQ]
            exact zr_aret (ra := rq) (Or.inl ⟨_, rfl⟩) (u := (bq, fq, Nq, sq)) hx hb hr hlocks (hP.sub [0, 10, 11] rfl) (hD.sub [0, 10, 11] (by decide) rfl) hS (by first | exact Nat.le_of_ble_eq_true rfl | omega) (by first | exact Nat.le_of_ble_eq_true rfl | omega) dX12_rounded_120 (show tmw fq Nq sq (zr6 v v2) from by rw [zr6_p h3]; first | exact tpost hpl hval.symm | exact tpost hqv hval.symm)
          · exact absurd h_21 (by omega)
        ·
          have hzup := of_decide_eq_true (hup.symm.trans h_20)
          have hval := zhe_up (show ((v).natAbs : Int) = v by omega) h4 hr0 hhf (by first | exact ⟨fun _ => (by omega), fun _ => rfl⟩ | exact ⟨fun q => (by cases q), fun q => (by omega)⟩) (h_20 ▸ hup)
          refine lv_aload hx hb dX12_rounded_87 (lv_at hl 2 rfl) ?_
          refine lv_lconst (v := lz (1)) hx hb dX12_rounded_89 rfl ?_
          refine zc_r (wr := [(x, .inr (13, [.int (iz (th)), .int (iz (6)), w1, w2, w3, w4, w5, w6, w7, w8, w9, w10])), (a, .inr (12, [.int (iz (sg)), .ref b])), (b, zaI (G.2 1) N (f)), (rr, zaR (G.2 4) 2 (fr)), (rz, .inr (12, [.int (iz (sz)), .ref bz])), (bz, zaI (G.2 1) Nz (fz)), (r4, .inr (12, [.int (iz (s4)), .ref b4])), (b4, zaI (G.2 1) N4 (f4)), (a2, .inr (12, [.int (iz (sg2)), .ref b2])), (b2, zaI (G.2 1) N2 (f2)), (rq, .inr (12, [.int (iz (sq)), .ref bq])), (bq, zaI (G.2 1) Nq (fq))]) (va_runS (As := [.long (lz (1))]) (rest := [.ref rq]) ⟨hx, hb, hml, hown, hts⟩ (c_X11_of l G 1 (by omega) H.size) (va_cwS 1 hts gX12_rounded_X11_of rfl rfl rfl (by decide +kernel) ⟨Nat.le_of_ble_eq_true rfl, Nat.le_of_ble_eq_true rfl⟩) (zpS hKX hP hD [] rfl rfl) rfl rfl hl.1 rfl (lv_room (Nat.le_of_ble_eq_true rfl)) dX12_rounded_90 ⟨(by first | exact Nat.le_of_ble_eq_true rfl | (show _ ≤ (45 : Nat); omega)), (by first | exact Nat.le_of_ble_eq_true rfl | (show _ ≤ (4300 : Nat); omega))⟩) hP hD hS hA [] [0, 1, 2, 3, 4, 5, 6, 7, 8, 9, 10, 11] rfl rfl rfl (by decide) (fun u_22 r6 H locs ho hP hD hS => ?_)
          obtain ⟨b6, f6, N6, s6⟩ := u_22
          have hP : va_P G.1 vwCl [(x, .inr (13, [.int (iz (th)), .int (iz (6)), w1, w2, w3, w4, w5, w6, w7, w8, w9, w10])), (a, .inr (12, [.int (iz (sg)), .ref b])), (b, zaI (G.2 1) N (f)), (rr, zaR (G.2 4) 2 (fr)), (rz, .inr (12, [.int (iz (sz)), .ref bz])), (bz, zaI (G.2 1) Nz (fz)), (r4, .inr (12, [.int (iz (s4)), .ref b4])), (b4, zaI (G.2 1) N4 (f4)), (a2, .inr (12, [.int (iz (sg2)), .ref b2])), (b2, zaI (G.2 1) N2 (f2)), (rq, .inr (12, [.int (iz (sq)), .ref bq])), (bq, zaI (G.2 1) Nq (fq)), (r6, .inr (12, [.int (iz (s6)), .ref b6])), (b6, zaI (G.2 1) N6 (f6))] H := hP
          have hD : va_D A [(x, .inr (13, [.int (iz (th)), .int (iz (6)), w1, w2, w3, w4, w5, w6, w7, w8, w9, w10])), (a, .inr (12, [.int (iz (sg)), .ref b])), (b, zaI (G.2 1) N (f)), (rr, zaR (G.2 4) 2 (fr)), (rz, .inr (12, [.int (iz (sz)), .ref bz])), (bz, zaI (G.2 1) Nz (fz)), (r4, .inr (12, [.int (iz (s4)), .ref b4])), (b4, zaI (G.2 1) N4 (f4)), (a2, .inr (12, [.int (iz (sg2)), .ref b2])), (b2, zaI (G.2 1) N2 (f2)), (rq, .inr (12, [.int (iz (sq)), .ref bq])), (bq, zaI (G.2 1) Nq (fq)), (r6, .inr (12, [.int (iz (s6)), .ref b6])), (b6, zaI (G.2 1) N6 (f6))] := hD
          have ho : tmw f6 N6 s6 (1 : Int) := ho
          refine zc_r (wr := [(x, .inr (13, [.int (iz (th)), .int (iz (6)), w1, w2, w3, w4, w5, w6, w7, w8, w9, w10])), (a, .inr (12, [.int (iz (sg)), .ref b])), (b, zaI (G.2 1) N (f)), (rr, zaR (G.2 4) 2 (fr)), (rz, .inr (12, [.int (iz (sz)), .ref bz])), (bz, zaI (G.2 1) Nz (fz)), (r4, .inr (12, [.int (iz (s4)), .ref b4])), (b4, zaI (G.2 1) N4 (f4)), (a2, .inr (12, [.int (iz (sg2)), .ref b2])), (b2, zaI (G.2 1) N2 (f2))]) (va_runV (As := [.ref r6]) (rest := []) ⟨hx, hb, hml, hown, hts⟩ (c_X11_plus l G rq bq fq Nq sq r6 b6 f6 N6 s6 (v / v2) 1 (hqv) (ho) (tr_one h6 hq0 (by omega)) H.size) (cwV 1 hts gX12_rounded_X11_plus rfl rfl rfl (by decide +kernel) ⟨Nat.le_of_ble_eq_true rfl, Nat.le_of_ble_eq_true rfl⟩) (zpV hKX hP hD [10, 11, 12, 13] rfl rfl 10 12 rfl rfl) rfl rfl hl.1 rfl (lv_room (Nat.le_of_ble_eq_true rfl)) dX12_rounded_93 ⟨(by first | exact Nat.le_of_ble_eq_true rfl | (show _ ≤ (45 : Nat); omega)), (by first | exact Nat.le_of_ble_eq_true rfl | (show _ ≤ (4300 : Nat); omega))⟩) hP hD hS hA [10, 11, 12, 13] [0, 1, 2, 3, 4, 5, 6, 7, 8, 9] rfl rfl rfl (by decide) (fun u_24 r7 H locs hpl hP hD hS => ?_)
          obtain ⟨b7, f7, N7, s7⟩ := u_24
          have hP : va_P G.1 vwCl [(x, .inr (13, [.int (iz (th)), .int (iz (6)), w1, w2, w3, w4, w5, w6, w7, w8, w9, w10])), (a, .inr (12, [.int (iz (sg)), .ref b])), (b, zaI (G.2 1) N (f)), (rr, zaR (G.2 4) 2 (fr)), (rz, .inr (12, [.int (iz (sz)), .ref bz])), (bz, zaI (G.2 1) Nz (fz)), (r4, .inr (12, [.int (iz (s4)), .ref b4])), (b4, zaI (G.2 1) N4 (f4)), (a2, .inr (12, [.int (iz (sg2)), .ref b2])), (b2, zaI (G.2 1) N2 (f2)), (r7, .inr (12, [.int (iz (s7)), .ref b7])), (b7, zaI (G.2 1) N7 (f7))] H := hP
          have hD : va_D A [(x, .inr (13, [.int (iz (th)), .int (iz (6)), w1, w2, w3, w4, w5, w6, w7, w8, w9, w10])), (a, .inr (12, [.int (iz (sg)), .ref b])), (b, zaI (G.2 1) N (f)), (rr, zaR (G.2 4) 2 (fr)), (rz, .inr (12, [.int (iz (sz)), .ref bz])), (bz, zaI (G.2 1) Nz (fz)), (r4, .inr (12, [.int (iz (s4)), .ref b4])), (b4, zaI (G.2 1) N4 (f4)), (a2, .inr (12, [.int (iz (sg2)), .ref b2])), (b2, zaI (G.2 1) N2 (f2)), (r7, .inr (12, [.int (iz (s7)), .ref b7])), (b7, zaI (G.2 1) N7 (f7))] := hD
          have hpl : tmw f7 N7 s7 ((v / v2) + (1 : Int)) := hpl
          refine lv_goto (tgt := 101) hx hb dX12_rounded_96 (by decide) ?_
          refine lv_astore (lv' := [(4, .ref r7), (6, .int (iz (zbb up))), (5, .int (iz (hf))), (3, .ref rr), (0, .ref x), (1, .ref a), (2, .ref a2)]) hx hb dX12_rounded_101 hl (by decide) rfl (fun ls hl => ?_)
          have hq2e : (((v / v2).natAbs : Int)) = v / v2 := by omega
          refine lv_aload_n hx hb dX12_rounded_103 rfl (lv_at hl 5 rfl) ?_
          refine va_getN (D := G.1) (host := "AnnuityHouseModel") (ci := 12) (v := .int (iz (sg))) (C := RX11) (T := TX11) (N := 2) hx hb hts iwX11 hown hK hP 1 rfl rfl 0 (by decide) (va_Nw.use rfl (hKX.2.2.2 (.fieldLinkNest "AnnuityHouseModel" 39 "AnnuityHouseModel$Whole" "sign" "I" "AnnuityHouseModel") (by decide +kernel))) (fun _ h9 => h9) rfl dX12_rounded_104 ?_
          refine zr_if_ge (x := sg) (tgt := 118) hx hb (⟨by omega, by omega⟩) dX12_rounded_107 (by decide) (fun h_26 => ?_) (fun h_26 => ?_)
          ·
            refine lv_aload hx hb dX12_rounded_118 (lv_at hl 0 rfl) ?_
            rw [hQ]
            exact zr_aret (ra := r7) (Or.inl ⟨_, rfl⟩) (u := (b7, f7, N7, s7)) hx hb hr hlocks (hP.sub [0, 10, 11] rfl) (hD.sub [0, 10, 11] (by decide) rfl) hS (by first | exact Nat.le_of_ble_eq_true rfl | omega) (by first | exact Nat.le_of_ble_eq_true rfl | omega) dX12_rounded_120 (show tmw f7 N7 s7 (zr6 v v2) from by rw [zr6_p h3]; first | exact tpost hpl hval.symm | exact tpost hqv hval.symm)
          · exact absurd h_26 (by omega)
      ·
        refine lv_iconst (v := iz (1)) hx hb dX12_rounded_72 rfl ?_
        refine lv_goto (tgt := 77) hx hb dX12_rounded_73 (by decide) ?_
        refine zc_z (wr := [(x, .inr (13, [.int (iz (th)), .int (iz (6)), w1, w2, w3, w4, w5, w6, w7, w8, w9, w10])), (a, .inr (12, [.int (iz (sg)), .ref b])), (b, zaI (G.2 1) N (f)), (rr, zaR (G.2 4) 2 (fr)), (rz, .inr (12, [.int (iz (sz)), .ref bz])), (bz, zaI (G.2 1) Nz (fz)), (r4, .inr (12, [.int (iz (s4)), .ref b4])), (b4, zaI (G.2 1) N4 (f4)), (a2, .inr (12, [.int (iz (sg2)), .ref b2])), (b2, zaI (G.2 1) N2 (f2)), (rq, .inr (12, [.int (iz (sq)), .ref bq])), (bq, zaI (G.2 1) Nq (fq))]) (va_runS (As := [.int (iz (6)), .int (iz (sg)), .int (iz (hf)), .int (iz (1))]) (rest := []) ⟨hx, hb, hml, hown, hts⟩ (c_X12_isRoundedUp l G sg hf true (by omega) H.size) (va_cwS 4 hts gX12_rounded_X12_isRoundedUp rfl rfl rfl (by decide +kernel) ⟨Nat.le_of_ble_eq_true rfl, Nat.le_of_ble_eq_true rfl⟩) (zpS hKX hP hD [] rfl rfl) rfl rfl hl.1 rfl (lv_room (Nat.le_of_ble_eq_true rfl)) dX12_rounded_77 ⟨(by first | exact Nat.le_of_ble_eq_true rfl | (show _ ≤ (45 : Nat); omega)), (by first | exact Nat.le_of_ble_eq_true rfl | (show _ ≤ (4300 : Nat); omega))⟩) hP hD hS hA [] [0, 1, 2, 3, 4, 5, 6, 7, 8, 9, 10, 11] rfl rfl rfl (by decide) (fun up u_27 H locs hup hP hD hS => ?_)
        have hP : va_P G.1 vwCl [(x, .inr (13, [.int (iz (th)), .int (iz (6)), w1, w2, w3, w4, w5, w6, w7, w8, w9, w10])), (a, .inr (12, [.int (iz (sg)), .ref b])), (b, zaI (G.2 1) N (f)), (rr, zaR (G.2 4) 2 (fr)), (rz, .inr (12, [.int (iz (sz)), .ref bz])), (bz, zaI (G.2 1) Nz (fz)), (r4, .inr (12, [.int (iz (s4)), .ref b4])), (b4, zaI (G.2 1) N4 (f4)), (a2, .inr (12, [.int (iz (sg2)), .ref b2])), (b2, zaI (G.2 1) N2 (f2)), (rq, .inr (12, [.int (iz (sq)), .ref bq])), (bq, zaI (G.2 1) Nq (fq))] H := hP
        have hD : va_D A [(x, .inr (13, [.int (iz (th)), .int (iz (6)), w1, w2, w3, w4, w5, w6, w7, w8, w9, w10])), (a, .inr (12, [.int (iz (sg)), .ref b])), (b, zaI (G.2 1) N (f)), (rr, zaR (G.2 4) 2 (fr)), (rz, .inr (12, [.int (iz (sz)), .ref bz])), (bz, zaI (G.2 1) Nz (fz)), (r4, .inr (12, [.int (iz (s4)), .ref b4])), (b4, zaI (G.2 1) N4 (f4)), (a2, .inr (12, [.int (iz (sg2)), .ref b2])), (b2, zaI (G.2 1) N2 (f2)), (rq, .inr (12, [.int (iz (sq)), .ref bq])), (bq, zaI (G.2 1) Nq (fq))] := hD
        have hup : up = decide (0 < hf ∨ (hf = 0 ∧ true = true)) := hup
        refine lv_istore (lv' := [(6, .int (iz (zbb up))), (5, .int (iz (hf))), (4, .ref rq), (3, .ref rr), (0, .ref x), (1, .ref a), (2, .ref a2)]) hx hb dX12_rounded_80 hl (by decide) rfl (fun ls hl => ?_)
        refine lv_iload hx hb dX12_rounded_82 (lv_at hl 0 rfl) ?_
        refine zr_ifz_eq (tgt := 99) hx hb dX12_rounded_84 (by decide) (fun h_29 => ?_) (fun h_29 => ?_)
        ·
          have hzup := of_decide_eq_false (hup.symm.trans h_29)
          have hval := zhe_dn (show ((v).natAbs : Int) = v by omega) h4 hr0 hhf (by first | exact ⟨fun _ => (by omega), fun _ => rfl⟩ | exact ⟨fun q => (by cases q), fun q => (by omega)⟩) (h_29 ▸ hup)
          refine lv_aload hx hb dX12_rounded_99 (lv_at hl 2 rfl) ?_
          refine lv_astore (lv' := [(4, .ref rq), (6, .int (iz (zbb up))), (5, .int (iz (hf))), (3, .ref rr), (0, .ref x), (1, .ref a), (2, .ref a2)]) hx hb dX12_rounded_101 hl (by decide) rfl (fun ls hl => ?_)
          have hq2e : (((v / v2).natAbs : Int)) = v / v2 := by omega
          refine lv_aload_n hx hb dX12_rounded_103 rfl (lv_at hl 5 rfl) ?_
          refine va_getN (D := G.1) (host := "AnnuityHouseModel") (ci := 12) (v := .int (iz (sg))) (C := RX11) (T := TX11) (N := 2) hx hb hts iwX11 hown hK hP 1 rfl rfl 0 (by decide) (va_Nw.use rfl (hKX.2.2.2 (.fieldLinkNest "AnnuityHouseModel" 39 "AnnuityHouseModel$Whole" "sign" "I" "AnnuityHouseModel") (by decide +kernel))) (fun _ h9 => h9) rfl dX12_rounded_104 ?_
          refine zr_if_ge (x := sg) (tgt := 118) hx hb (⟨by omega, by omega⟩) dX12_rounded_107 (by decide) (fun h_30 => ?_) (fun h_30 => ?_)
          ·
            refine lv_aload hx hb dX12_rounded_118 (lv_at hl 0 rfl) ?_
            rw [hQ]
            exact zr_aret (ra := rq) (Or.inl ⟨_, rfl⟩) (u := (bq, fq, Nq, sq)) hx hb hr hlocks (hP.sub [0, 10, 11] rfl) (hD.sub [0, 10, 11] (by decide) rfl) hS (by first | exact Nat.le_of_ble_eq_true rfl | omega) (by first | exact Nat.le_of_ble_eq_true rfl | omega) dX12_rounded_120 (show tmw fq Nq sq (zr6 v v2) from by rw [zr6_p h3]; first | exact tpost hpl hval.symm | exact tpost hqv hval.symm)
          · exact absurd h_30 (by omega)
        ·
          have hzup := of_decide_eq_true (hup.symm.trans h_29)
          have hval := zhe_up (show ((v).natAbs : Int) = v by omega) h4 hr0 hhf (by first | exact ⟨fun _ => (by omega), fun _ => rfl⟩ | exact ⟨fun q => (by cases q), fun q => (by omega)⟩) (h_29 ▸ hup)
          refine lv_aload hx hb dX12_rounded_87 (lv_at hl 2 rfl) ?_
          refine lv_lconst (v := lz (1)) hx hb dX12_rounded_89 rfl ?_
          refine zc_r (wr := [(x, .inr (13, [.int (iz (th)), .int (iz (6)), w1, w2, w3, w4, w5, w6, w7, w8, w9, w10])), (a, .inr (12, [.int (iz (sg)), .ref b])), (b, zaI (G.2 1) N (f)), (rr, zaR (G.2 4) 2 (fr)), (rz, .inr (12, [.int (iz (sz)), .ref bz])), (bz, zaI (G.2 1) Nz (fz)), (r4, .inr (12, [.int (iz (s4)), .ref b4])), (b4, zaI (G.2 1) N4 (f4)), (a2, .inr (12, [.int (iz (sg2)), .ref b2])), (b2, zaI (G.2 1) N2 (f2)), (rq, .inr (12, [.int (iz (sq)), .ref bq])), (bq, zaI (G.2 1) Nq (fq))]) (va_runS (As := [.long (lz (1))]) (rest := [.ref rq]) ⟨hx, hb, hml, hown, hts⟩ (c_X11_of l G 1 (by omega) H.size) (va_cwS 1 hts gX12_rounded_X11_of rfl rfl rfl (by decide +kernel) ⟨Nat.le_of_ble_eq_true rfl, Nat.le_of_ble_eq_true rfl⟩) (zpS hKX hP hD [] rfl rfl) rfl rfl hl.1 rfl (lv_room (Nat.le_of_ble_eq_true rfl)) dX12_rounded_90 ⟨(by first | exact Nat.le_of_ble_eq_true rfl | (show _ ≤ (45 : Nat); omega)), (by first | exact Nat.le_of_ble_eq_true rfl | (show _ ≤ (4300 : Nat); omega))⟩) hP hD hS hA [] [0, 1, 2, 3, 4, 5, 6, 7, 8, 9, 10, 11] rfl rfl rfl (by decide) (fun u_31 r6 H locs ho hP hD hS => ?_)
          obtain ⟨b6, f6, N6, s6⟩ := u_31
          have hP : va_P G.1 vwCl [(x, .inr (13, [.int (iz (th)), .int (iz (6)), w1, w2, w3, w4, w5, w6, w7, w8, w9, w10])), (a, .inr (12, [.int (iz (sg)), .ref b])), (b, zaI (G.2 1) N (f)), (rr, zaR (G.2 4) 2 (fr)), (rz, .inr (12, [.int (iz (sz)), .ref bz])), (bz, zaI (G.2 1) Nz (fz)), (r4, .inr (12, [.int (iz (s4)), .ref b4])), (b4, zaI (G.2 1) N4 (f4)), (a2, .inr (12, [.int (iz (sg2)), .ref b2])), (b2, zaI (G.2 1) N2 (f2)), (rq, .inr (12, [.int (iz (sq)), .ref bq])), (bq, zaI (G.2 1) Nq (fq)), (r6, .inr (12, [.int (iz (s6)), .ref b6])), (b6, zaI (G.2 1) N6 (f6))] H := hP
          have hD : va_D A [(x, .inr (13, [.int (iz (th)), .int (iz (6)), w1, w2, w3, w4, w5, w6, w7, w8, w9, w10])), (a, .inr (12, [.int (iz (sg)), .ref b])), (b, zaI (G.2 1) N (f)), (rr, zaR (G.2 4) 2 (fr)), (rz, .inr (12, [.int (iz (sz)), .ref bz])), (bz, zaI (G.2 1) Nz (fz)), (r4, .inr (12, [.int (iz (s4)), .ref b4])), (b4, zaI (G.2 1) N4 (f4)), (a2, .inr (12, [.int (iz (sg2)), .ref b2])), (b2, zaI (G.2 1) N2 (f2)), (rq, .inr (12, [.int (iz (sq)), .ref bq])), (bq, zaI (G.2 1) Nq (fq)), (r6, .inr (12, [.int (iz (s6)), .ref b6])), (b6, zaI (G.2 1) N6 (f6))] := hD
          have ho : tmw f6 N6 s6 (1 : Int) := ho
          refine zc_r (wr := [(x, .inr (13, [.int (iz (th)), .int (iz (6)), w1, w2, w3, w4, w5, w6, w7, w8, w9, w10])), (a, .inr (12, [.int (iz (sg)), .ref b])), (b, zaI (G.2 1) N (f)), (rr, zaR (G.2 4) 2 (fr)), (rz, .inr (12, [.int (iz (sz)), .ref bz])), (bz, zaI (G.2 1) Nz (fz)), (r4, .inr (12, [.int (iz (s4)), .ref b4])), (b4, zaI (G.2 1) N4 (f4)), (a2, .inr (12, [.int (iz (sg2)), .ref b2])), (b2, zaI (G.2 1) N2 (f2))]) (va_runV (As := [.ref r6]) (rest := []) ⟨hx, hb, hml, hown, hts⟩ (c_X11_plus l G rq bq fq Nq sq r6 b6 f6 N6 s6 (v / v2) 1 (hqv) (ho) (tr_one h6 hq0 (by omega)) H.size) (cwV 1 hts gX12_rounded_X11_plus rfl rfl rfl (by decide +kernel) ⟨Nat.le_of_ble_eq_true rfl, Nat.le_of_ble_eq_true rfl⟩) (zpV hKX hP hD [10, 11, 12, 13] rfl rfl 10 12 rfl rfl) rfl rfl hl.1 rfl (lv_room (Nat.le_of_ble_eq_true rfl)) dX12_rounded_93 ⟨(by first | exact Nat.le_of_ble_eq_true rfl | (show _ ≤ (45 : Nat); omega)), (by first | exact Nat.le_of_ble_eq_true rfl | (show _ ≤ (4300 : Nat); omega))⟩) hP hD hS hA [10, 11, 12, 13] [0, 1, 2, 3, 4, 5, 6, 7, 8, 9] rfl rfl rfl (by decide) (fun u_33 r7 H locs hpl hP hD hS => ?_)
          obtain ⟨b7, f7, N7, s7⟩ := u_33
          have hP : va_P G.1 vwCl [(x, .inr (13, [.int (iz (th)), .int (iz (6)), w1, w2, w3, w4, w5, w6, w7, w8, w9, w10])), (a, .inr (12, [.int (iz (sg)), .ref b])), (b, zaI (G.2 1) N (f)), (rr, zaR (G.2 4) 2 (fr)), (rz, .inr (12, [.int (iz (sz)), .ref bz])), (bz, zaI (G.2 1) Nz (fz)), (r4, .inr (12, [.int (iz (s4)), .ref b4])), (b4, zaI (G.2 1) N4 (f4)), (a2, .inr (12, [.int (iz (sg2)), .ref b2])), (b2, zaI (G.2 1) N2 (f2)), (r7, .inr (12, [.int (iz (s7)), .ref b7])), (b7, zaI (G.2 1) N7 (f7))] H := hP
          have hD : va_D A [(x, .inr (13, [.int (iz (th)), .int (iz (6)), w1, w2, w3, w4, w5, w6, w7, w8, w9, w10])), (a, .inr (12, [.int (iz (sg)), .ref b])), (b, zaI (G.2 1) N (f)), (rr, zaR (G.2 4) 2 (fr)), (rz, .inr (12, [.int (iz (sz)), .ref bz])), (bz, zaI (G.2 1) Nz (fz)), (r4, .inr (12, [.int (iz (s4)), .ref b4])), (b4, zaI (G.2 1) N4 (f4)), (a2, .inr (12, [.int (iz (sg2)), .ref b2])), (b2, zaI (G.2 1) N2 (f2)), (r7, .inr (12, [.int (iz (s7)), .ref b7])), (b7, zaI (G.2 1) N7 (f7))] := hD
          have hpl : tmw f7 N7 s7 ((v / v2) + (1 : Int)) := hpl
          refine lv_goto (tgt := 101) hx hb dX12_rounded_96 (by decide) ?_
          refine lv_astore (lv' := [(4, .ref r7), (6, .int (iz (zbb up))), (5, .int (iz (hf))), (3, .ref rr), (0, .ref x), (1, .ref a), (2, .ref a2)]) hx hb dX12_rounded_101 hl (by decide) rfl (fun ls hl => ?_)
          have hq2e : (((v / v2).natAbs : Int)) = v / v2 := by omega
          refine lv_aload_n hx hb dX12_rounded_103 rfl (lv_at hl 5 rfl) ?_
          refine va_getN (D := G.1) (host := "AnnuityHouseModel") (ci := 12) (v := .int (iz (sg))) (C := RX11) (T := TX11) (N := 2) hx hb hts iwX11 hown hK hP 1 rfl rfl 0 (by decide) (va_Nw.use rfl (hKX.2.2.2 (.fieldLinkNest "AnnuityHouseModel" 39 "AnnuityHouseModel$Whole" "sign" "I" "AnnuityHouseModel") (by decide +kernel))) (fun _ h9 => h9) rfl dX12_rounded_104 ?_
          refine zr_if_ge (x := sg) (tgt := 118) hx hb (⟨by omega, by omega⟩) dX12_rounded_107 (by decide) (fun h_35 => ?_) (fun h_35 => ?_)
          ·
            refine lv_aload hx hb dX12_rounded_118 (lv_at hl 0 rfl) ?_
            rw [hQ]
            exact zr_aret (ra := r7) (Or.inl ⟨_, rfl⟩) (u := (b7, f7, N7, s7)) hx hb hr hlocks (hP.sub [0, 10, 11] rfl) (hD.sub [0, 10, 11] (by decide) rfl) hS (by first | exact Nat.le_of_ble_eq_true rfl | omega) (by first | exact Nat.le_of_ble_eq_true rfl | omega) dX12_rounded_120 (show tmw f7 N7 s7 (zr6 v v2) from by rw [zr6_p h3]; first | exact tpost hpl hval.symm | exact tpost hqv hval.symm)
          · exact absurd h_35 (by omega)
    · exact absurd h_10 (by omega)

def rm_c_X12_rounded_po : Room := { frames := 12, cells := 45, slots := 4300, locals := 500 }
set_option maxHeartbeats 1000000 in
set_option maxRecDepth 100000 in
theorem c_X12_rounded_po (l : Launch) (G : zG) (x : Nat) (th : Int) (w1 : Value) (w2 : Value) (w3 : Value) (w4 : Value) (w5 : Value) (w6 : Value) (w7 : Value) (w8 : Value) (w9 : Value) (w10 : Value) (a : Nat) (b : Nat) (f : Int → Int) (N : Nat) (sg : Int) (a2 : Nat) (b2 : Nat) (f2 : Int → Int) (N2 : Nat) (sg2 : Int) (v : Int) (v2 : Int) (h1 : tmw f N sg v) (h2 : tmw f2 N2 sg2 v2) (h3 : 0 ≤ v) (h4 : 0 < v2) (h6 : (v.natAbs : Int) < 10000 ^ 120) (h7 : v2 < 10000 ^ 120) (h8 : N2 ≠ 1 ∧ v < v2) : zM l G yX12_rounded wsX12_rounded rm_c_X12_rounded_po [.ref x, .ref a, .ref a2] [(x, .inr (13, [.int (iz (th)), .int (iz (6)), w1, w2, w3, w4, w5, w6, w7, w8, w9, w10])), (a, .inr (12, [.int (iz (sg)), .ref b])), (b, zaI (G.2 1) N (f)), (a2, .inr (12, [.int (iz (sg2)), .ref b2])), (b2, zaI (G.2 1) N2 (f2))] (fun A => zQr G (fun (u : (Nat × (Int → Int) × Nat × Int)) (ra : Nat) => tmw u.2.1 u.2.2.1 u.2.2.2 (zr6 v v2)) (fun (u : (Nat × (Int → Int) × Nat × Int)) (ra : Nat) => [(x, .inr (13, [.int (iz (th)), .int (iz (6)), w1, w2, w3, w4, w5, w6, w7, w8, w9, w10])), (ra, .inr (12, [.int (iz (u.2.2.2)), .ref u.1])), (u.1, zaI (G.2 1) u.2.2.1 (u.2.1))]) A) 45 4300 := by
  refine zM_of (cc := cX12_rounded) (maxL := 7) (ret := (some (.object "AnnuityHouseModel$Whole"))) (by decide) rfl (Nat.le_of_ble_eq_true rfl) ?_
  intro p e s m below meth c ls A Q hQ hx hb hr hts hown hlocks hml hnm hKX hP hD hA hS hl
  have hK := hKX.1
  have iwX11 := iw_X12_rounded_X11
  have iwX12 := iw_X12_rounded_X12
  obtain ⟨H, hH⟩ : ∃ h, h = s.heap := ⟨_, rfl⟩
  obtain ⟨locs, hlo⟩ : ∃ h : List Loc, h = [] := ⟨_, rfl⟩
  have hS : va_S A s.heap H locs := by rw [hH, hlo]; exact hS
  have hP : va_P G.1 vwCl [(x, .inr (13, [.int (iz (th)), .int (iz (6)), w1, w2, w3, w4, w5, w6, w7, w8, w9, w10])), (a, .inr (12, [.int (iz (sg)), .ref b])), (b, zaI (G.2 1) N (f)), (a2, .inr (12, [.int (iz (sg2)), .ref b2])), (b2, zaI (G.2 1) N2 (f2))] H := by rw [hH]; exact hP
  have hD : va_D A [(x, .inr (13, [.int (iz (th)), .int (iz (6)), w1, w2, w3, w4, w5, w6, w7, w8, w9, w10])), (a, .inr (12, [.int (iz (sg)), .ref b])), (b, zaI (G.2 1) N (f)), (a2, .inr (12, [.int (iz (sg2)), .ref b2])), (b2, zaI (G.2 1) N2 (f2))] := hD
  have hl : lv_has ls 7 [(0, .ref x), (1, .ref a), (2, .ref a2)] := hl
  rw [← hH, ← hlo]
  have g1 := h1.sgi
  have s1 := h1.sgn
  have n2 := h2.n
  have p1 := Int.sign_nonneg_iff.mpr h3
  refine lv_aload_n hx hb dX12_rounded_0 rfl (lv_at hl 1 rfl) ?_
  refine zc_r (wr := [(x, .inr (13, [.int (iz (th)), .int (iz (6)), w1, w2, w3, w4, w5, w6, w7, w8, w9, w10])), (a2, .inr (12, [.int (iz (sg2)), .ref b2])), (b2, zaI (G.2 1) N2 (f2))]) (va_runV (As := []) (rest := []) ⟨hx, hb, hml, hown, hts⟩ (c_X11_size_p l G a b f N sg v (h1) (h3) H.size) (cwV 0 hts gX12_rounded_X11_size rfl rfl rfl (by decide +kernel) ⟨Nat.le_of_ble_eq_true rfl, Nat.le_of_ble_eq_true rfl⟩) (zpV hKX hP hD [1, 2] rfl rfl 1 12 rfl rfl) rfl rfl hl.1 rfl (lv_room (Nat.le_of_ble_eq_true rfl)) dX12_rounded_1 ⟨(by first | exact Nat.le_of_ble_eq_true rfl | (show _ ≤ (45 : Nat); omega)), (by first | exact Nat.le_of_ble_eq_true rfl | (show _ ≤ (4300 : Nat); omega))⟩) hP hD hS hA [1, 2] [0, 3, 4] rfl rfl rfl (by decide) (fun u_1 ra_3 H locs hsz hP hD hS => ?_)
  have hP : va_P G.1 vwCl [(x, .inr (13, [.int (iz (th)), .int (iz (6)), w1, w2, w3, w4, w5, w6, w7, w8, w9, w10])), (a2, .inr (12, [.int (iz (sg2)), .ref b2])), (b2, zaI (G.2 1) N2 (f2)), (a, .inr (12, [.int (iz (sg)), .ref b])), (b, zaI (G.2 1) N (f))] H := hP
  have hD : va_D A [(x, .inr (13, [.int (iz (th)), .int (iz (6)), w1, w2, w3, w4, w5, w6, w7, w8, w9, w10])), (a2, .inr (12, [.int (iz (sg2)), .ref b2])), (b2, zaI (G.2 1) N2 (f2)), (a, .inr (12, [.int (iz (sg)), .ref b])), (b, zaI (G.2 1) N (f))] := hD
  have hsz : ra_3 = a := hsz
  rw [hsz]
  refine lv_aload_n hx hb dX12_rounded_4 rfl (lv_at hl 2 rfl) ?_
  refine zc_r (wr := [(x, .inr (13, [.int (iz (th)), .int (iz (6)), w1, w2, w3, w4, w5, w6, w7, w8, w9, w10]))]) (va_runV (As := [.ref a2]) (rest := []) ⟨hx, hb, hml, hown, hts⟩ (c_X11_divided_o l G a b f N sg a2 b2 f2 N2 sg2 v v2 (h1) (h2) (by omega) (h4) (h8) H.size) (cwV 1 hts gX12_rounded_X11_divided rfl rfl rfl (by decide +kernel) ⟨Nat.le_of_ble_eq_true rfl, Nat.le_of_ble_eq_true rfl⟩) (zpV hKX hP hD [3, 4, 1, 2] rfl rfl 3 12 rfl rfl) rfl rfl hl.1 rfl (lv_room (Nat.le_of_ble_eq_true rfl)) dX12_rounded_5 ⟨(by first | exact Nat.le_of_ble_eq_true rfl | (show _ ≤ (45 : Nat); omega)), (by first | exact Nat.le_of_ble_eq_true rfl | (show _ ≤ (4300 : Nat); omega))⟩) hP hD hS hA [3, 4, 1, 2] [0] rfl rfl rfl (by decide) (fun u_4 rr H locs hd hP hD hS => ?_)
  obtain ⟨fr, rq, bq, fq, Nq, sq⟩ := u_4
  have hP : va_P G.1 vwCl [(x, .inr (13, [.int (iz (th)), .int (iz (6)), w1, w2, w3, w4, w5, w6, w7, w8, w9, w10])), (a, .inr (12, [.int (iz (sg)), .ref b])), (b, zaI (G.2 1) N (f)), (a2, .inr (12, [.int (iz (sg2)), .ref b2])), (b2, zaI (G.2 1) N2 (f2)), (rr, zaR (G.2 4) 2 (fr)), (rq, .inr (12, [.int (iz (sq)), .ref bq])), (bq, zaI (G.2 1) Nq (fq))] H := hP
  have hD : va_D A [(x, .inr (13, [.int (iz (th)), .int (iz (6)), w1, w2, w3, w4, w5, w6, w7, w8, w9, w10])), (a, .inr (12, [.int (iz (sg)), .ref b])), (b, zaI (G.2 1) N (f)), (a2, .inr (12, [.int (iz (sg2)), .ref b2])), (b2, zaI (G.2 1) N2 (f2)), (rr, zaR (G.2 4) 2 (fr)), (rq, .inr (12, [.int (iz (sq)), .ref bq])), (bq, zaI (G.2 1) Nq (fq))] := hD
  have hd : fr 0 = some rq ∧ fr 1 = some a ∧ tmw fq Nq sq (v / v2) := hd
  have hz : tmw f N sg (v % v2) := tpost h1 (Int.emod_eq_of_lt (by omega) h8.2).symm
  have hqv := hd.2.2
  have hr0 := Int.emod_nonneg v (show v2 ≠ 0 by omega)
  have hr1 := Int.emod_lt_of_pos v h4
  have hq0 : 0 ≤ v / v2 := Int.ediv_nonneg (by omega) (by omega)
  have hqle : v / v2 ≤ v := Int.ediv_le_self _ (by omega)
  refine lv_astore_n (lv' := [(3, .ref rr), (0, .ref x), (1, .ref a), (2, .ref a2)]) hx hb dX12_rounded_8 rfl hl (by decide) rfl (fun ls hl => ?_)
  refine lv_aload_n hx hb dX12_rounded_9 rfl (lv_at hl 0 rfl) ?_
  refine lv_iconst (v := iz (0)) hx hb dX12_rounded_10 rfl ?_
  refine zr_aldq (v := rq) hx hb hK hP 5 4 rfl rfl (i := 0) (⟨by omega, by omega, by omega⟩) (hd.1) dX12_rounded_11 ?_
  refine lv_astore (lv' := [(4, .ref rq), (3, .ref rr), (0, .ref x), (1, .ref a), (2, .ref a2)]) hx hb dX12_rounded_12 hl (by decide) rfl (fun ls hl => ?_)
  refine lv_aload_n hx hb dX12_rounded_14 rfl (lv_at hl 1 rfl) ?_
  refine lv_iconst (v := iz (1)) hx hb dX12_rounded_15 rfl ?_
  refine zr_aldq (v := a) hx hb hK hP 5 4 rfl rfl (i := 1) (⟨by omega, by omega, by omega⟩) (hd.2.1) dX12_rounded_16 ?_
  refine zc_z (wr := [(x, .inr (13, [.int (iz (th)), .int (iz (6)), w1, w2, w3, w4, w5, w6, w7, w8, w9, w10])), (a2, .inr (12, [.int (iz (sg2)), .ref b2])), (b2, zaI (G.2 1) N2 (f2)), (rr, zaR (G.2 4) 2 (fr)), (rq, .inr (12, [.int (iz (sq)), .ref bq])), (bq, zaI (G.2 1) Nq (fq))]) (va_runV (As := []) (rest := []) ⟨hx, hb, hml, hown, hts⟩ (c_X11_isNothing l G a b f N sg (v % v2) (hz) H.size) (cwV 0 hts gX12_rounded_X11_isNothing rfl rfl rfl (by decide +kernel) ⟨Nat.le_of_ble_eq_true rfl, Nat.le_of_ble_eq_true rfl⟩) (zpV hKX hP hD [1, 2] rfl rfl 1 12 rfl rfl) rfl rfl hl.1 rfl (lv_room (Nat.le_of_ble_eq_true rfl)) dX12_rounded_17 ⟨(by first | exact Nat.le_of_ble_eq_true rfl | (show _ ≤ (45 : Nat); omega)), (by first | exact Nat.le_of_ble_eq_true rfl | (show _ ≤ (4300 : Nat); omega))⟩) hP hD hS hA [1, 2] [0, 3, 4, 5, 6, 7] rfl rfl rfl (by decide) (fun en u_6 H locs hen hP hD hS => ?_)
  have hP : va_P G.1 vwCl [(x, .inr (13, [.int (iz (th)), .int (iz (6)), w1, w2, w3, w4, w5, w6, w7, w8, w9, w10])), (a2, .inr (12, [.int (iz (sg2)), .ref b2])), (b2, zaI (G.2 1) N2 (f2)), (rr, zaR (G.2 4) 2 (fr)), (rq, .inr (12, [.int (iz (sq)), .ref bq])), (bq, zaI (G.2 1) Nq (fq)), (a, .inr (12, [.int (iz (sg)), .ref b])), (b, zaI (G.2 1) N (f))] H := hP
  have hD : va_D A [(x, .inr (13, [.int (iz (th)), .int (iz (6)), w1, w2, w3, w4, w5, w6, w7, w8, w9, w10])), (a2, .inr (12, [.int (iz (sg2)), .ref b2])), (b2, zaI (G.2 1) N2 (f2)), (rr, zaR (G.2 4) 2 (fr)), (rq, .inr (12, [.int (iz (sq)), .ref bq])), (bq, zaI (G.2 1) Nq (fq)), (a, .inr (12, [.int (iz (sg)), .ref b])), (b, zaI (G.2 1) N (f))] := hD
  have hen : en = decide ((v % v2) = 0) := hen
  refine zr_ifz_ne (tgt := 103) hx hb dX12_rounded_20 (by decide) (fun h_8 => ?_) (fun h_8 => ?_)
  ·
    have hzen := of_decide_eq_true (hen.symm.trans h_8)
    have hval := zhe_ex (show ((v).natAbs : Int) = v by omega) h4 (of_decide_eq_true (hen.symm.trans h_8))
    have hq2e : (((v / v2).natAbs : Int)) = v / v2 := by omega
    refine lv_aload_n hx hb dX12_rounded_103 rfl (lv_at hl 3 rfl) ?_
    refine va_getN (D := G.1) (host := "AnnuityHouseModel") (ci := 12) (v := .int (iz (sg))) (C := RX11) (T := TX11) (N := 2) hx hb hts iwX11 hown hK hP 6 rfl rfl 0 (by decide) (va_Nw.use rfl (hKX.2.2.2 (.fieldLinkNest "AnnuityHouseModel" 39 "AnnuityHouseModel$Whole" "sign" "I" "AnnuityHouseModel") (by decide +kernel))) (fun _ h9 => h9) rfl dX12_rounded_104 ?_
    refine zr_if_ge (x := sg) (tgt := 118) hx hb (⟨by omega, by omega⟩) dX12_rounded_107 (by decide) (fun h_9 => ?_) (fun h_9 => ?_)
    ·
      refine lv_aload hx hb dX12_rounded_118 (lv_at hl 0 rfl) ?_
      rw [hQ]
      exact zr_aret (ra := rq) (Or.inl ⟨_, rfl⟩) (u := (bq, fq, Nq, sq)) hx hb hr hlocks (hP.sub [0, 4, 5] rfl) (hD.sub [0, 4, 5] (by decide) rfl) hS (by first | exact Nat.le_of_ble_eq_true rfl | omega) (by first | exact Nat.le_of_ble_eq_true rfl | omega) dX12_rounded_120 (show tmw fq Nq sq (zr6 v v2) from by rw [zr6_p h3]; first | exact tpost hpl hval.symm | exact tpost hqv hval.symm)
    · exact absurd h_9 (by omega)
  ·
    have hzen := of_decide_eq_false (hen.symm.trans h_8)
    have hen0 := h_8
    refine lv_aload_n hx hb dX12_rounded_23 rfl (lv_at hl 2 rfl) ?_
    refine va_get (D := G.1) (ci := 13) (v := .int (iz (6))) (C := RX12) (T := TX12) (N := 12) hx hb hts iwX12 hown hK hP 0 rfl rfl 1 (by decide) (hts (.fieldLink RX12 29 "AnnuityHouseModel" "mode" "I") (by decide +kernel)) (fun _ h9 => h9) rfl dX12_rounded_24 ?_
    refine lv_bipush (v := iz (7)) hx hb dX12_rounded_27 rfl ?_
    refine zr_icmp_ne (x := 6) (y := 7) (tgt := 34) hx hb (⟨by omega, by omega⟩) (⟨by omega, by omega⟩) dX12_rounded_29 (by decide) (fun h_10 => ?_) (fun h_10 => ?_)
    ·
      refine lv_aload_n hx hb dX12_rounded_34 rfl (lv_at hl 1 rfl) ?_
      refine lv_iconst (v := iz (1)) hx hb dX12_rounded_35 rfl ?_
      refine zr_aldq (v := a) hx hb hK hP 3 4 rfl rfl (i := 1) (⟨by omega, by omega, by omega⟩) (hd.2.1) dX12_rounded_36 ?_
      refine lv_aload_n hx hb dX12_rounded_37 rfl (lv_at hl 1 rfl) ?_
      refine lv_iconst (v := iz (1)) hx hb dX12_rounded_38 rfl ?_
      refine zr_aldq (v := a) hx hb hK hP 3 4 rfl rfl (i := 1) (⟨by omega, by omega, by omega⟩) (hd.2.1) dX12_rounded_39 ?_
      refine zc_r (wr := [(x, .inr (13, [.int (iz (th)), .int (iz (6)), w1, w2, w3, w4, w5, w6, w7, w8, w9, w10])), (a2, .inr (12, [.int (iz (sg2)), .ref b2])), (b2, zaI (G.2 1) N2 (f2)), (rr, zaR (G.2 4) 2 (fr)), (rq, .inr (12, [.int (iz (sq)), .ref bq])), (bq, zaI (G.2 1) Nq (fq))]) (va_runV (As := [.ref a]) (rest := []) ⟨hx, hb, hml, hown, hts⟩ (c_X11_plus_k l G a b f N sg (v % v2) (hz) (tr_dbl h7 hr0 hr1) (by have := of_decide_eq_false (hen.symm.trans hen0); omega) H.size) (cwV 1 hts gX12_rounded_X11_plus rfl rfl rfl (by decide +kernel) ⟨Nat.le_of_ble_eq_true rfl, Nat.le_of_ble_eq_true rfl⟩) (zpV hKX hP hD [6, 7] rfl rfl 6 12 rfl rfl) rfl rfl hl.1 rfl (lv_room (Nat.le_of_ble_eq_true rfl)) dX12_rounded_40 ⟨(by first | exact Nat.le_of_ble_eq_true rfl | (show _ ≤ (45 : Nat); omega)), (by first | exact Nat.le_of_ble_eq_true rfl | (show _ ≤ (4300 : Nat); omega))⟩) hP hD hS hA [6, 7] [0, 1, 2, 3, 4, 5] rfl rfl rfl (by decide) (fun u_11 r4 H locs hp hP hD hS => ?_)
      obtain ⟨b4, f4, N4, s4⟩ := u_11
      have hP : va_P G.1 vwCl [(x, .inr (13, [.int (iz (th)), .int (iz (6)), w1, w2, w3, w4, w5, w6, w7, w8, w9, w10])), (a2, .inr (12, [.int (iz (sg2)), .ref b2])), (b2, zaI (G.2 1) N2 (f2)), (rr, zaR (G.2 4) 2 (fr)), (rq, .inr (12, [.int (iz (sq)), .ref bq])), (bq, zaI (G.2 1) Nq (fq)), (a, .inr (12, [.int (iz (sg)), .ref b])), (b, zaI (G.2 1) N (f)), (r4, .inr (12, [.int (iz (s4)), .ref b4])), (b4, zaI (G.2 1) N4 (f4))] H := hP
      have hD : va_D A [(x, .inr (13, [.int (iz (th)), .int (iz (6)), w1, w2, w3, w4, w5, w6, w7, w8, w9, w10])), (a2, .inr (12, [.int (iz (sg2)), .ref b2])), (b2, zaI (G.2 1) N2 (f2)), (rr, zaR (G.2 4) 2 (fr)), (rq, .inr (12, [.int (iz (sq)), .ref bq])), (bq, zaI (G.2 1) Nq (fq)), (a, .inr (12, [.int (iz (sg)), .ref b])), (b, zaI (G.2 1) N (f)), (r4, .inr (12, [.int (iz (s4)), .ref b4])), (b4, zaI (G.2 1) N4 (f4))] := hD
      have hp : tmw f4 N4 s4 ((v % v2) + (v % v2)) := hp
      refine lv_aload_n hx hb dX12_rounded_43 rfl (lv_at hl 4 rfl) ?_
      refine zc_i (wr := [(x, .inr (13, [.int (iz (th)), .int (iz (6)), w1, w2, w3, w4, w5, w6, w7, w8, w9, w10])), (rr, zaR (G.2 4) 2 (fr)), (rq, .inr (12, [.int (iz (sq)), .ref bq])), (bq, zaI (G.2 1) Nq (fq)), (a, .inr (12, [.int (iz (sg)), .ref b])), (b, zaI (G.2 1) N (f))]) (va_runV (As := [.ref a2]) (rest := []) ⟨hx, hb, hml, hown, hts⟩ (c_X11_comparedSize l G r4 b4 f4 N4 s4 a2 b2 f2 N2 sg2 (v % v2 + v % v2) v2 (hp) (h2) H.size) (cwV 1 hts gX12_rounded_X11_comparedSize rfl rfl rfl (by decide +kernel) ⟨Nat.le_of_ble_eq_true rfl, Nat.le_of_ble_eq_true rfl⟩) (zpV hKX hP hD [8, 9, 1, 2] rfl rfl 8 12 rfl rfl) rfl rfl hl.1 rfl (lv_room (Nat.le_of_ble_eq_true rfl)) dX12_rounded_44 ⟨(by first | exact Nat.le_of_ble_eq_true rfl | (show _ ≤ (45 : Nat); omega)), (by first | exact Nat.le_of_ble_eq_true rfl | (show _ ≤ (4300 : Nat); omega))⟩) hP hD hS hA [8, 9, 1, 2] [0, 3, 4, 5, 6, 7] rfl rfl rfl (by decide) (fun hf u_13 H locs hhf hP hD hS => ?_)
      have hP : va_P G.1 vwCl [(x, .inr (13, [.int (iz (th)), .int (iz (6)), w1, w2, w3, w4, w5, w6, w7, w8, w9, w10])), (rr, zaR (G.2 4) 2 (fr)), (rq, .inr (12, [.int (iz (sq)), .ref bq])), (bq, zaI (G.2 1) Nq (fq)), (a, .inr (12, [.int (iz (sg)), .ref b])), (b, zaI (G.2 1) N (f)), (r4, .inr (12, [.int (iz (s4)), .ref b4])), (b4, zaI (G.2 1) N4 (f4)), (a2, .inr (12, [.int (iz (sg2)), .ref b2])), (b2, zaI (G.2 1) N2 (f2))] H := hP
      have hD : va_D A [(x, .inr (13, [.int (iz (th)), .int (iz (6)), w1, w2, w3, w4, w5, w6, w7, w8, w9, w10])), (rr, zaR (G.2 4) 2 (fr)), (rq, .inr (12, [.int (iz (sq)), .ref bq])), (bq, zaI (G.2 1) Nq (fq)), (a, .inr (12, [.int (iz (sg)), .ref b])), (b, zaI (G.2 1) N (f)), (r4, .inr (12, [.int (iz (s4)), .ref b4])), (b4, zaI (G.2 1) N4 (f4)), (a2, .inr (12, [.int (iz (sg2)), .ref b2])), (b2, zaI (G.2 1) N2 (f2))] := hD
      have hhf : hf = (((v % v2 + v % v2).natAbs : Int) - (v2.natAbs : Int)).sign := hhf
      have hsr := tsgn_rng (((v % v2 + v % v2).natAbs : Int) - (v2.natAbs : Int))
      refine lv_istore (lv' := [(5, .int (iz (hf))), (4, .ref rq), (3, .ref rr), (0, .ref x), (1, .ref a), (2, .ref a2)]) hx hb dX12_rounded_47 hl (by decide) rfl (fun ls hl => ?_)
      refine lv_aload_n hx hb dX12_rounded_49 rfl (lv_at hl 3 rfl) ?_
      refine va_get (D := G.1) (ci := 13) (v := .int (iz (6))) (C := RX12) (T := TX12) (N := 12) hx hb hts iwX12 hown hK hP 0 rfl rfl 1 (by decide) (hts (.fieldLink RX12 29 "AnnuityHouseModel" "mode" "I") (by decide +kernel)) (fun _ h9 => h9) rfl dX12_rounded_50 ?_
      refine lv_aload_n hx hb dX12_rounded_53 rfl (lv_at hl 4 rfl) ?_
      refine va_getN (D := G.1) (host := "AnnuityHouseModel") (ci := 12) (v := .int (iz (sg))) (C := RX11) (T := TX11) (N := 2) hx hb hts iwX11 hown hK hP 4 rfl rfl 0 (by decide) (va_Nw.use rfl (hKX.2.2.2 (.fieldLinkNest "AnnuityHouseModel" 39 "AnnuityHouseModel$Whole" "sign" "I" "AnnuityHouseModel") (by decide +kernel))) (fun _ h9 => h9) rfl dX12_rounded_54 ?_
      refine lv_iload hx hb dX12_rounded_57 (lv_at hl 0 rfl) ?_
      refine lv_aload hx hb dX12_rounded_59 (lv_at hl 1 rfl) ?_
      refine zr_ldc2 (z := 2) hx hb hown (hts (.constantLong RX12 42 (2)) (by decide +kernel)) rfl dX12_rounded_61 ?_
      refine zc_l (wr := [(x, .inr (13, [.int (iz (th)), .int (iz (6)), w1, w2, w3, w4, w5, w6, w7, w8, w9, w10])), (rr, zaR (G.2 4) 2 (fr)), (a, .inr (12, [.int (iz (sg)), .ref b])), (b, zaI (G.2 1) N (f)), (r4, .inr (12, [.int (iz (s4)), .ref b4])), (b4, zaI (G.2 1) N4 (f4)), (a2, .inr (12, [.int (iz (sg2)), .ref b2])), (b2, zaI (G.2 1) N2 (f2))]) (va_runV (As := [.long (lz (2))]) (rest := [.int (iz (hf)), .int (iz (sg)), .int (iz (6))]) ⟨hx, hb, hml, hown, hts⟩ (c_X11_rest l G rq bq fq Nq sq (v / v2) 2 (hqv) (by omega) H.size) (cwV 1 hts gX12_rounded_X11_rest rfl rfl rfl (by decide +kernel) ⟨Nat.le_of_ble_eq_true rfl, Nat.le_of_ble_eq_true rfl⟩) (zpV hKX hP hD [2, 3] rfl rfl 2 12 rfl rfl) rfl rfl hl.1 rfl (lv_room (Nat.le_of_ble_eq_true rfl)) dX12_rounded_64 ⟨(by first | exact Nat.le_of_ble_eq_true rfl | (show _ ≤ (45 : Nat); omega)), (by first | exact Nat.le_of_ble_eq_true rfl | (show _ ≤ (4300 : Nat); omega))⟩) hP hD hS hA [2, 3] [0, 1, 4, 5, 6, 7, 8, 9] rfl rfl rfl (by decide) (fun od2 u_15 H locs hod hP hD hS => ?_)
      have hP : va_P G.1 vwCl [(x, .inr (13, [.int (iz (th)), .int (iz (6)), w1, w2, w3, w4, w5, w6, w7, w8, w9, w10])), (rr, zaR (G.2 4) 2 (fr)), (a, .inr (12, [.int (iz (sg)), .ref b])), (b, zaI (G.2 1) N (f)), (r4, .inr (12, [.int (iz (s4)), .ref b4])), (b4, zaI (G.2 1) N4 (f4)), (a2, .inr (12, [.int (iz (sg2)), .ref b2])), (b2, zaI (G.2 1) N2 (f2)), (rq, .inr (12, [.int (iz (sq)), .ref bq])), (bq, zaI (G.2 1) Nq (fq))] H := hP
      have hD : va_D A [(x, .inr (13, [.int (iz (th)), .int (iz (6)), w1, w2, w3, w4, w5, w6, w7, w8, w9, w10])), (rr, zaR (G.2 4) 2 (fr)), (a, .inr (12, [.int (iz (sg)), .ref b])), (b, zaI (G.2 1) N (f)), (r4, .inr (12, [.int (iz (s4)), .ref b4])), (b4, zaI (G.2 1) N4 (f4)), (a2, .inr (12, [.int (iz (sg2)), .ref b2])), (b2, zaI (G.2 1) N2 (f2)), (rq, .inr (12, [.int (iz (sq)), .ref bq])), (bq, zaI (G.2 1) Nq (fq))] := hD
      have hod : od2 = ((v / v2).natAbs : Int) % (2 : Int) := hod
      refine lv_lconst (v := lz (1)) hx hb dX12_rounded_67 rfl ?_
      refine zr_lcmp_ne (x := od2) (y := 1) (tgt := 76) hx hb (⟨by omega, by omega⟩) (⟨by omega, by omega⟩) dX12_rounded_68 dX12_rounded_69 (by decide) (fun h_17 => ?_) (fun h_17 => ?_)
      ·
        refine lv_iconst (v := iz (0)) hx hb dX12_rounded_76 rfl ?_
        refine zc_z (wr := [(x, .inr (13, [.int (iz (th)), .int (iz (6)), w1, w2, w3, w4, w5, w6, w7, w8, w9, w10])), (rr, zaR (G.2 4) 2 (fr)), (a, .inr (12, [.int (iz (sg)), .ref b])), (b, zaI (G.2 1) N (f)), (r4, .inr (12, [.int (iz (s4)), .ref b4])), (b4, zaI (G.2 1) N4 (f4)), (a2, .inr (12, [.int (iz (sg2)), .ref b2])), (b2, zaI (G.2 1) N2 (f2)), (rq, .inr (12, [.int (iz (sq)), .ref bq])), (bq, zaI (G.2 1) Nq (fq))]) (va_runS (As := [.int (iz (6)), .int (iz (sg)), .int (iz (hf)), .int (iz (0))]) (rest := []) ⟨hx, hb, hml, hown, hts⟩ (c_X12_isRoundedUp l G sg hf false (by omega) H.size) (va_cwS 4 hts gX12_rounded_X12_isRoundedUp rfl rfl rfl (by decide +kernel) ⟨Nat.le_of_ble_eq_true rfl, Nat.le_of_ble_eq_true rfl⟩) (zpS hKX hP hD [] rfl rfl) rfl rfl hl.1 rfl (lv_room (Nat.le_of_ble_eq_true rfl)) dX12_rounded_77 ⟨(by first | exact Nat.le_of_ble_eq_true rfl | (show _ ≤ (45 : Nat); omega)), (by first | exact Nat.le_of_ble_eq_true rfl | (show _ ≤ (4300 : Nat); omega))⟩) hP hD hS hA [] [0, 1, 2, 3, 4, 5, 6, 7, 8, 9] rfl rfl rfl (by decide) (fun up u_18 H locs hup hP hD hS => ?_)
        have hP : va_P G.1 vwCl [(x, .inr (13, [.int (iz (th)), .int (iz (6)), w1, w2, w3, w4, w5, w6, w7, w8, w9, w10])), (rr, zaR (G.2 4) 2 (fr)), (a, .inr (12, [.int (iz (sg)), .ref b])), (b, zaI (G.2 1) N (f)), (r4, .inr (12, [.int (iz (s4)), .ref b4])), (b4, zaI (G.2 1) N4 (f4)), (a2, .inr (12, [.int (iz (sg2)), .ref b2])), (b2, zaI (G.2 1) N2 (f2)), (rq, .inr (12, [.int (iz (sq)), .ref bq])), (bq, zaI (G.2 1) Nq (fq))] H := hP
        have hD : va_D A [(x, .inr (13, [.int (iz (th)), .int (iz (6)), w1, w2, w3, w4, w5, w6, w7, w8, w9, w10])), (rr, zaR (G.2 4) 2 (fr)), (a, .inr (12, [.int (iz (sg)), .ref b])), (b, zaI (G.2 1) N (f)), (r4, .inr (12, [.int (iz (s4)), .ref b4])), (b4, zaI (G.2 1) N4 (f4)), (a2, .inr (12, [.int (iz (sg2)), .ref b2])), (b2, zaI (G.2 1) N2 (f2)), (rq, .inr (12, [.int (iz (sq)), .ref bq])), (bq, zaI (G.2 1) Nq (fq))] := hD
        have hup : up = decide (0 < hf ∨ (hf = 0 ∧ false = true)) := hup
        refine lv_istore (lv' := [(6, .int (iz (zbb up))), (5, .int (iz (hf))), (4, .ref rq), (3, .ref rr), (0, .ref x), (1, .ref a), (2, .ref a2)]) hx hb dX12_rounded_80 hl (by decide) rfl (fun ls hl => ?_)
        refine lv_iload hx hb dX12_rounded_82 (lv_at hl 0 rfl) ?_
        refine zr_ifz_eq (tgt := 99) hx hb dX12_rounded_84 (by decide) (fun h_20 => ?_) (fun h_20 => ?_)
        ·
          have hzup := of_decide_eq_false (hup.symm.trans h_20)
          have hval := zhe_dn (show ((v).natAbs : Int) = v by omega) h4 hr0 hhf (by first | exact ⟨fun _ => (by omega), fun _ => rfl⟩ | exact ⟨fun q => (by cases q), fun q => (by omega)⟩) (h_20 ▸ hup)
          refine lv_aload hx hb dX12_rounded_99 (lv_at hl 2 rfl) ?_
          refine lv_astore (lv' := [(4, .ref rq), (6, .int (iz (zbb up))), (5, .int (iz (hf))), (3, .ref rr), (0, .ref x), (1, .ref a), (2, .ref a2)]) hx hb dX12_rounded_101 hl (by decide) rfl (fun ls hl => ?_)
          have hq2e : (((v / v2).natAbs : Int)) = v / v2 := by omega
          refine lv_aload_n hx hb dX12_rounded_103 rfl (lv_at hl 5 rfl) ?_
          refine va_getN (D := G.1) (host := "AnnuityHouseModel") (ci := 12) (v := .int (iz (sg))) (C := RX11) (T := TX11) (N := 2) hx hb hts iwX11 hown hK hP 2 rfl rfl 0 (by decide) (va_Nw.use rfl (hKX.2.2.2 (.fieldLinkNest "AnnuityHouseModel" 39 "AnnuityHouseModel$Whole" "sign" "I" "AnnuityHouseModel") (by decide +kernel))) (fun _ h9 => h9) rfl dX12_rounded_104 ?_
          refine zr_if_ge (x := sg) (tgt := 118) hx hb (⟨by omega, by omega⟩) dX12_rounded_107 (by decide) (fun h_21 => ?_) (fun h_21 => ?_)
          ·
            refine lv_aload hx hb dX12_rounded_118 (lv_at hl 0 rfl) ?_
            rw [hQ]
            exact zr_aret (ra := rq) (Or.inl ⟨_, rfl⟩) (u := (bq, fq, Nq, sq)) hx hb hr hlocks (hP.sub [0, 8, 9] rfl) (hD.sub [0, 8, 9] (by decide) rfl) hS (by first | exact Nat.le_of_ble_eq_true rfl | omega) (by first | exact Nat.le_of_ble_eq_true rfl | omega) dX12_rounded_120 (show tmw fq Nq sq (zr6 v v2) from by rw [zr6_p h3]; first | exact tpost hpl hval.symm | exact tpost hqv hval.symm)
          · exact absurd h_21 (by omega)
        ·
          have hzup := of_decide_eq_true (hup.symm.trans h_20)
          have hval := zhe_up (show ((v).natAbs : Int) = v by omega) h4 hr0 hhf (by first | exact ⟨fun _ => (by omega), fun _ => rfl⟩ | exact ⟨fun q => (by cases q), fun q => (by omega)⟩) (h_20 ▸ hup)
          refine lv_aload hx hb dX12_rounded_87 (lv_at hl 2 rfl) ?_
          refine lv_lconst (v := lz (1)) hx hb dX12_rounded_89 rfl ?_
          refine zc_r (wr := [(x, .inr (13, [.int (iz (th)), .int (iz (6)), w1, w2, w3, w4, w5, w6, w7, w8, w9, w10])), (rr, zaR (G.2 4) 2 (fr)), (a, .inr (12, [.int (iz (sg)), .ref b])), (b, zaI (G.2 1) N (f)), (r4, .inr (12, [.int (iz (s4)), .ref b4])), (b4, zaI (G.2 1) N4 (f4)), (a2, .inr (12, [.int (iz (sg2)), .ref b2])), (b2, zaI (G.2 1) N2 (f2)), (rq, .inr (12, [.int (iz (sq)), .ref bq])), (bq, zaI (G.2 1) Nq (fq))]) (va_runS (As := [.long (lz (1))]) (rest := [.ref rq]) ⟨hx, hb, hml, hown, hts⟩ (c_X11_of l G 1 (by omega) H.size) (va_cwS 1 hts gX12_rounded_X11_of rfl rfl rfl (by decide +kernel) ⟨Nat.le_of_ble_eq_true rfl, Nat.le_of_ble_eq_true rfl⟩) (zpS hKX hP hD [] rfl rfl) rfl rfl hl.1 rfl (lv_room (Nat.le_of_ble_eq_true rfl)) dX12_rounded_90 ⟨(by first | exact Nat.le_of_ble_eq_true rfl | (show _ ≤ (45 : Nat); omega)), (by first | exact Nat.le_of_ble_eq_true rfl | (show _ ≤ (4300 : Nat); omega))⟩) hP hD hS hA [] [0, 1, 2, 3, 4, 5, 6, 7, 8, 9] rfl rfl rfl (by decide) (fun u_22 r6 H locs ho hP hD hS => ?_)
          obtain ⟨b6, f6, N6, s6⟩ := u_22
          have hP : va_P G.1 vwCl [(x, .inr (13, [.int (iz (th)), .int (iz (6)), w1, w2, w3, w4, w5, w6, w7, w8, w9, w10])), (rr, zaR (G.2 4) 2 (fr)), (a, .inr (12, [.int (iz (sg)), .ref b])), (b, zaI (G.2 1) N (f)), (r4, .inr (12, [.int (iz (s4)), .ref b4])), (b4, zaI (G.2 1) N4 (f4)), (a2, .inr (12, [.int (iz (sg2)), .ref b2])), (b2, zaI (G.2 1) N2 (f2)), (rq, .inr (12, [.int (iz (sq)), .ref bq])), (bq, zaI (G.2 1) Nq (fq)), (r6, .inr (12, [.int (iz (s6)), .ref b6])), (b6, zaI (G.2 1) N6 (f6))] H := hP
          have hD : va_D A [(x, .inr (13, [.int (iz (th)), .int (iz (6)), w1, w2, w3, w4, w5, w6, w7, w8, w9, w10])), (rr, zaR (G.2 4) 2 (fr)), (a, .inr (12, [.int (iz (sg)), .ref b])), (b, zaI (G.2 1) N (f)), (r4, .inr (12, [.int (iz (s4)), .ref b4])), (b4, zaI (G.2 1) N4 (f4)), (a2, .inr (12, [.int (iz (sg2)), .ref b2])), (b2, zaI (G.2 1) N2 (f2)), (rq, .inr (12, [.int (iz (sq)), .ref bq])), (bq, zaI (G.2 1) Nq (fq)), (r6, .inr (12, [.int (iz (s6)), .ref b6])), (b6, zaI (G.2 1) N6 (f6))] := hD
          have ho : tmw f6 N6 s6 (1 : Int) := ho
          refine zc_r (wr := [(x, .inr (13, [.int (iz (th)), .int (iz (6)), w1, w2, w3, w4, w5, w6, w7, w8, w9, w10])), (rr, zaR (G.2 4) 2 (fr)), (a, .inr (12, [.int (iz (sg)), .ref b])), (b, zaI (G.2 1) N (f)), (r4, .inr (12, [.int (iz (s4)), .ref b4])), (b4, zaI (G.2 1) N4 (f4)), (a2, .inr (12, [.int (iz (sg2)), .ref b2])), (b2, zaI (G.2 1) N2 (f2))]) (va_runV (As := [.ref r6]) (rest := []) ⟨hx, hb, hml, hown, hts⟩ (c_X11_plus l G rq bq fq Nq sq r6 b6 f6 N6 s6 (v / v2) 1 (hqv) (ho) (tr_one h6 hq0 (by omega)) H.size) (cwV 1 hts gX12_rounded_X11_plus rfl rfl rfl (by decide +kernel) ⟨Nat.le_of_ble_eq_true rfl, Nat.le_of_ble_eq_true rfl⟩) (zpV hKX hP hD [8, 9, 10, 11] rfl rfl 8 12 rfl rfl) rfl rfl hl.1 rfl (lv_room (Nat.le_of_ble_eq_true rfl)) dX12_rounded_93 ⟨(by first | exact Nat.le_of_ble_eq_true rfl | (show _ ≤ (45 : Nat); omega)), (by first | exact Nat.le_of_ble_eq_true rfl | (show _ ≤ (4300 : Nat); omega))⟩) hP hD hS hA [8, 9, 10, 11] [0, 1, 2, 3, 4, 5, 6, 7] rfl rfl rfl (by decide) (fun u_24 r7 H locs hpl hP hD hS => ?_)
          obtain ⟨b7, f7, N7, s7⟩ := u_24
          have hP : va_P G.1 vwCl [(x, .inr (13, [.int (iz (th)), .int (iz (6)), w1, w2, w3, w4, w5, w6, w7, w8, w9, w10])), (rr, zaR (G.2 4) 2 (fr)), (a, .inr (12, [.int (iz (sg)), .ref b])), (b, zaI (G.2 1) N (f)), (r4, .inr (12, [.int (iz (s4)), .ref b4])), (b4, zaI (G.2 1) N4 (f4)), (a2, .inr (12, [.int (iz (sg2)), .ref b2])), (b2, zaI (G.2 1) N2 (f2)), (r7, .inr (12, [.int (iz (s7)), .ref b7])), (b7, zaI (G.2 1) N7 (f7))] H := hP
          have hD : va_D A [(x, .inr (13, [.int (iz (th)), .int (iz (6)), w1, w2, w3, w4, w5, w6, w7, w8, w9, w10])), (rr, zaR (G.2 4) 2 (fr)), (a, .inr (12, [.int (iz (sg)), .ref b])), (b, zaI (G.2 1) N (f)), (r4, .inr (12, [.int (iz (s4)), .ref b4])), (b4, zaI (G.2 1) N4 (f4)), (a2, .inr (12, [.int (iz (sg2)), .ref b2])), (b2, zaI (G.2 1) N2 (f2)), (r7, .inr (12, [.int (iz (s7)), .ref b7])), (b7, zaI (G.2 1) N7 (f7))] := hD
          have hpl : tmw f7 N7 s7 ((v / v2) + (1 : Int)) := hpl
          refine lv_goto (tgt := 101) hx hb dX12_rounded_96 (by decide) ?_
          refine lv_astore (lv' := [(4, .ref r7), (6, .int (iz (zbb up))), (5, .int (iz (hf))), (3, .ref rr), (0, .ref x), (1, .ref a), (2, .ref a2)]) hx hb dX12_rounded_101 hl (by decide) rfl (fun ls hl => ?_)
          have hq2e : (((v / v2).natAbs : Int)) = v / v2 := by omega
          refine lv_aload_n hx hb dX12_rounded_103 rfl (lv_at hl 5 rfl) ?_
          refine va_getN (D := G.1) (host := "AnnuityHouseModel") (ci := 12) (v := .int (iz (sg))) (C := RX11) (T := TX11) (N := 2) hx hb hts iwX11 hown hK hP 2 rfl rfl 0 (by decide) (va_Nw.use rfl (hKX.2.2.2 (.fieldLinkNest "AnnuityHouseModel" 39 "AnnuityHouseModel$Whole" "sign" "I" "AnnuityHouseModel") (by decide +kernel))) (fun _ h9 => h9) rfl dX12_rounded_104 ?_
          refine zr_if_ge (x := sg) (tgt := 118) hx hb (⟨by omega, by omega⟩) dX12_rounded_107 (by decide) (fun h_26 => ?_) (fun h_26 => ?_)
          ·
            refine lv_aload hx hb dX12_rounded_118 (lv_at hl 0 rfl) ?_
            rw [hQ]
            exact zr_aret (ra := r7) (Or.inl ⟨_, rfl⟩) (u := (b7, f7, N7, s7)) hx hb hr hlocks (hP.sub [0, 8, 9] rfl) (hD.sub [0, 8, 9] (by decide) rfl) hS (by first | exact Nat.le_of_ble_eq_true rfl | omega) (by first | exact Nat.le_of_ble_eq_true rfl | omega) dX12_rounded_120 (show tmw f7 N7 s7 (zr6 v v2) from by rw [zr6_p h3]; first | exact tpost hpl hval.symm | exact tpost hqv hval.symm)
          · exact absurd h_26 (by omega)
      ·
        refine lv_iconst (v := iz (1)) hx hb dX12_rounded_72 rfl ?_
        refine lv_goto (tgt := 77) hx hb dX12_rounded_73 (by decide) ?_
        refine zc_z (wr := [(x, .inr (13, [.int (iz (th)), .int (iz (6)), w1, w2, w3, w4, w5, w6, w7, w8, w9, w10])), (rr, zaR (G.2 4) 2 (fr)), (a, .inr (12, [.int (iz (sg)), .ref b])), (b, zaI (G.2 1) N (f)), (r4, .inr (12, [.int (iz (s4)), .ref b4])), (b4, zaI (G.2 1) N4 (f4)), (a2, .inr (12, [.int (iz (sg2)), .ref b2])), (b2, zaI (G.2 1) N2 (f2)), (rq, .inr (12, [.int (iz (sq)), .ref bq])), (bq, zaI (G.2 1) Nq (fq))]) (va_runS (As := [.int (iz (6)), .int (iz (sg)), .int (iz (hf)), .int (iz (1))]) (rest := []) ⟨hx, hb, hml, hown, hts⟩ (c_X12_isRoundedUp l G sg hf true (by omega) H.size) (va_cwS 4 hts gX12_rounded_X12_isRoundedUp rfl rfl rfl (by decide +kernel) ⟨Nat.le_of_ble_eq_true rfl, Nat.le_of_ble_eq_true rfl⟩) (zpS hKX hP hD [] rfl rfl) rfl rfl hl.1 rfl (lv_room (Nat.le_of_ble_eq_true rfl)) dX12_rounded_77 ⟨(by first | exact Nat.le_of_ble_eq_true rfl | (show _ ≤ (45 : Nat); omega)), (by first | exact Nat.le_of_ble_eq_true rfl | (show _ ≤ (4300 : Nat); omega))⟩) hP hD hS hA [] [0, 1, 2, 3, 4, 5, 6, 7, 8, 9] rfl rfl rfl (by decide) (fun up u_27 H locs hup hP hD hS => ?_)
        have hP : va_P G.1 vwCl [(x, .inr (13, [.int (iz (th)), .int (iz (6)), w1, w2, w3, w4, w5, w6, w7, w8, w9, w10])), (rr, zaR (G.2 4) 2 (fr)), (a, .inr (12, [.int (iz (sg)), .ref b])), (b, zaI (G.2 1) N (f)), (r4, .inr (12, [.int (iz (s4)), .ref b4])), (b4, zaI (G.2 1) N4 (f4)), (a2, .inr (12, [.int (iz (sg2)), .ref b2])), (b2, zaI (G.2 1) N2 (f2)), (rq, .inr (12, [.int (iz (sq)), .ref bq])), (bq, zaI (G.2 1) Nq (fq))] H := hP
        have hD : va_D A [(x, .inr (13, [.int (iz (th)), .int (iz (6)), w1, w2, w3, w4, w5, w6, w7, w8, w9, w10])), (rr, zaR (G.2 4) 2 (fr)), (a, .inr (12, [.int (iz (sg)), .ref b])), (b, zaI (G.2 1) N (f)), (r4, .inr (12, [.int (iz (s4)), .ref b4])), (b4, zaI (G.2 1) N4 (f4)), (a2, .inr (12, [.int (iz (sg2)), .ref b2])), (b2, zaI (G.2 1) N2 (f2)), (rq, .inr (12, [.int (iz (sq)), .ref bq])), (bq, zaI (G.2 1) Nq (fq))] := hD
        have hup : up = decide (0 < hf ∨ (hf = 0 ∧ true = true)) := hup
        refine lv_istore (lv' := [(6, .int (iz (zbb up))), (5, .int (iz (hf))), (4, .ref rq), (3, .ref rr), (0, .ref x), (1, .ref a), (2, .ref a2)]) hx hb dX12_rounded_80 hl (by decide) rfl (fun ls hl => ?_)
        refine lv_iload hx hb dX12_rounded_82 (lv_at hl 0 rfl) ?_
        refine zr_ifz_eq (tgt := 99) hx hb dX12_rounded_84 (by decide) (fun h_29 => ?_) (fun h_29 => ?_)
        ·
          have hzup := of_decide_eq_false (hup.symm.trans h_29)
          have hval := zhe_dn (show ((v).natAbs : Int) = v by omega) h4 hr0 hhf (by first | exact ⟨fun _ => (by omega), fun _ => rfl⟩ | exact ⟨fun q => (by cases q), fun q => (by omega)⟩) (h_29 ▸ hup)
          refine lv_aload hx hb dX12_rounded_99 (lv_at hl 2 rfl) ?_
          refine lv_astore (lv' := [(4, .ref rq), (6, .int (iz (zbb up))), (5, .int (iz (hf))), (3, .ref rr), (0, .ref x), (1, .ref a), (2, .ref a2)]) hx hb dX12_rounded_101 hl (by decide) rfl (fun ls hl => ?_)
          have hq2e : (((v / v2).natAbs : Int)) = v / v2 := by omega
          refine lv_aload_n hx hb dX12_rounded_103 rfl (lv_at hl 5 rfl) ?_
          refine va_getN (D := G.1) (host := "AnnuityHouseModel") (ci := 12) (v := .int (iz (sg))) (C := RX11) (T := TX11) (N := 2) hx hb hts iwX11 hown hK hP 2 rfl rfl 0 (by decide) (va_Nw.use rfl (hKX.2.2.2 (.fieldLinkNest "AnnuityHouseModel" 39 "AnnuityHouseModel$Whole" "sign" "I" "AnnuityHouseModel") (by decide +kernel))) (fun _ h9 => h9) rfl dX12_rounded_104 ?_
          refine zr_if_ge (x := sg) (tgt := 118) hx hb (⟨by omega, by omega⟩) dX12_rounded_107 (by decide) (fun h_30 => ?_) (fun h_30 => ?_)
          ·
            refine lv_aload hx hb dX12_rounded_118 (lv_at hl 0 rfl) ?_
            rw [hQ]
            exact zr_aret (ra := rq) (Or.inl ⟨_, rfl⟩) (u := (bq, fq, Nq, sq)) hx hb hr hlocks (hP.sub [0, 8, 9] rfl) (hD.sub [0, 8, 9] (by decide) rfl) hS (by first | exact Nat.le_of_ble_eq_true rfl | omega) (by first | exact Nat.le_of_ble_eq_true rfl | omega) dX12_rounded_120 (show tmw fq Nq sq (zr6 v v2) from by rw [zr6_p h3]; first | exact tpost hpl hval.symm | exact tpost hqv hval.symm)
          · exact absurd h_30 (by omega)
        ·
          have hzup := of_decide_eq_true (hup.symm.trans h_29)
          have hval := zhe_up (show ((v).natAbs : Int) = v by omega) h4 hr0 hhf (by first | exact ⟨fun _ => (by omega), fun _ => rfl⟩ | exact ⟨fun q => (by cases q), fun q => (by omega)⟩) (h_29 ▸ hup)
          refine lv_aload hx hb dX12_rounded_87 (lv_at hl 2 rfl) ?_
          refine lv_lconst (v := lz (1)) hx hb dX12_rounded_89 rfl ?_
          refine zc_r (wr := [(x, .inr (13, [.int (iz (th)), .int (iz (6)), w1, w2, w3, w4, w5, w6, w7, w8, w9, w10])), (rr, zaR (G.2 4) 2 (fr)), (a, .inr (12, [.int (iz (sg)), .ref b])), (b, zaI (G.2 1) N (f)), (r4, .inr (12, [.int (iz (s4)), .ref b4])), (b4, zaI (G.2 1) N4 (f4)), (a2, .inr (12, [.int (iz (sg2)), .ref b2])), (b2, zaI (G.2 1) N2 (f2)), (rq, .inr (12, [.int (iz (sq)), .ref bq])), (bq, zaI (G.2 1) Nq (fq))]) (va_runS (As := [.long (lz (1))]) (rest := [.ref rq]) ⟨hx, hb, hml, hown, hts⟩ (c_X11_of l G 1 (by omega) H.size) (va_cwS 1 hts gX12_rounded_X11_of rfl rfl rfl (by decide +kernel) ⟨Nat.le_of_ble_eq_true rfl, Nat.le_of_ble_eq_true rfl⟩) (zpS hKX hP hD [] rfl rfl) rfl rfl hl.1 rfl (lv_room (Nat.le_of_ble_eq_true rfl)) dX12_rounded_90 ⟨(by first | exact Nat.le_of_ble_eq_true rfl | (show _ ≤ (45 : Nat); omega)), (by first | exact Nat.le_of_ble_eq_true rfl | (show _ ≤ (4300 : Nat); omega))⟩) hP hD hS hA [] [0, 1, 2, 3, 4, 5, 6, 7, 8, 9] rfl rfl rfl (by decide) (fun u_31 r6 H locs ho hP hD hS => ?_)
          obtain ⟨b6, f6, N6, s6⟩ := u_31
          have hP : va_P G.1 vwCl [(x, .inr (13, [.int (iz (th)), .int (iz (6)), w1, w2, w3, w4, w5, w6, w7, w8, w9, w10])), (rr, zaR (G.2 4) 2 (fr)), (a, .inr (12, [.int (iz (sg)), .ref b])), (b, zaI (G.2 1) N (f)), (r4, .inr (12, [.int (iz (s4)), .ref b4])), (b4, zaI (G.2 1) N4 (f4)), (a2, .inr (12, [.int (iz (sg2)), .ref b2])), (b2, zaI (G.2 1) N2 (f2)), (rq, .inr (12, [.int (iz (sq)), .ref bq])), (bq, zaI (G.2 1) Nq (fq)), (r6, .inr (12, [.int (iz (s6)), .ref b6])), (b6, zaI (G.2 1) N6 (f6))] H := hP
          have hD : va_D A [(x, .inr (13, [.int (iz (th)), .int (iz (6)), w1, w2, w3, w4, w5, w6, w7, w8, w9, w10])), (rr, zaR (G.2 4) 2 (fr)), (a, .inr (12, [.int (iz (sg)), .ref b])), (b, zaI (G.2 1) N (f)), (r4, .inr (12, [.int (iz (s4)), .ref b4])), (b4, zaI (G.2 1) N4 (f4)), (a2, .inr (12, [.int (iz (sg2)), .ref b2])), (b2, zaI (G.2 1) N2 (f2)), (rq, .inr (12, [.int (iz (sq)), .ref bq])), (bq, zaI (G.2 1) Nq (fq)), (r6, .inr (12, [.int (iz (s6)), .ref b6])), (b6, zaI (G.2 1) N6 (f6))] := hD
          have ho : tmw f6 N6 s6 (1 : Int) := ho
          refine zc_r (wr := [(x, .inr (13, [.int (iz (th)), .int (iz (6)), w1, w2, w3, w4, w5, w6, w7, w8, w9, w10])), (rr, zaR (G.2 4) 2 (fr)), (a, .inr (12, [.int (iz (sg)), .ref b])), (b, zaI (G.2 1) N (f)), (r4, .inr (12, [.int (iz (s4)), .ref b4])), (b4, zaI (G.2 1) N4 (f4)), (a2, .inr (12, [.int (iz (sg2)), .ref b2])), (b2, zaI (G.2 1) N2 (f2))]) (va_runV (As := [.ref r6]) (rest := []) ⟨hx, hb, hml, hown, hts⟩ (c_X11_plus l G rq bq fq Nq sq r6 b6 f6 N6 s6 (v / v2) 1 (hqv) (ho) (tr_one h6 hq0 (by omega)) H.size) (cwV 1 hts gX12_rounded_X11_plus rfl rfl rfl (by decide +kernel) ⟨Nat.le_of_ble_eq_true rfl, Nat.le_of_ble_eq_true rfl⟩) (zpV hKX hP hD [8, 9, 10, 11] rfl rfl 8 12 rfl rfl) rfl rfl hl.1 rfl (lv_room (Nat.le_of_ble_eq_true rfl)) dX12_rounded_93 ⟨(by first | exact Nat.le_of_ble_eq_true rfl | (show _ ≤ (45 : Nat); omega)), (by first | exact Nat.le_of_ble_eq_true rfl | (show _ ≤ (4300 : Nat); omega))⟩) hP hD hS hA [8, 9, 10, 11] [0, 1, 2, 3, 4, 5, 6, 7] rfl rfl rfl (by decide) (fun u_33 r7 H locs hpl hP hD hS => ?_)
          obtain ⟨b7, f7, N7, s7⟩ := u_33
          have hP : va_P G.1 vwCl [(x, .inr (13, [.int (iz (th)), .int (iz (6)), w1, w2, w3, w4, w5, w6, w7, w8, w9, w10])), (rr, zaR (G.2 4) 2 (fr)), (a, .inr (12, [.int (iz (sg)), .ref b])), (b, zaI (G.2 1) N (f)), (r4, .inr (12, [.int (iz (s4)), .ref b4])), (b4, zaI (G.2 1) N4 (f4)), (a2, .inr (12, [.int (iz (sg2)), .ref b2])), (b2, zaI (G.2 1) N2 (f2)), (r7, .inr (12, [.int (iz (s7)), .ref b7])), (b7, zaI (G.2 1) N7 (f7))] H := hP
          have hD : va_D A [(x, .inr (13, [.int (iz (th)), .int (iz (6)), w1, w2, w3, w4, w5, w6, w7, w8, w9, w10])), (rr, zaR (G.2 4) 2 (fr)), (a, .inr (12, [.int (iz (sg)), .ref b])), (b, zaI (G.2 1) N (f)), (r4, .inr (12, [.int (iz (s4)), .ref b4])), (b4, zaI (G.2 1) N4 (f4)), (a2, .inr (12, [.int (iz (sg2)), .ref b2])), (b2, zaI (G.2 1) N2 (f2)), (r7, .inr (12, [.int (iz (s7)), .ref b7])), (b7, zaI (G.2 1) N7 (f7))] := hD
          have hpl : tmw f7 N7 s7 ((v / v2) + (1 : Int)) := hpl
          refine lv_goto (tgt := 101) hx hb dX12_rounded_96 (by decide) ?_
          refine lv_astore (lv' := [(4, .ref r7), (6, .int (iz (zbb up))), (5, .int (iz (hf))), (3, .ref rr), (0, .ref x), (1, .ref a), (2, .ref a2)]) hx hb dX12_rounded_101 hl (by decide) rfl (fun ls hl => ?_)
          have hq2e : (((v / v2).natAbs : Int)) = v / v2 := by omega
          refine lv_aload_n hx hb dX12_rounded_103 rfl (lv_at hl 5 rfl) ?_
          refine va_getN (D := G.1) (host := "AnnuityHouseModel") (ci := 12) (v := .int (iz (sg))) (C := RX11) (T := TX11) (N := 2) hx hb hts iwX11 hown hK hP 2 rfl rfl 0 (by decide) (va_Nw.use rfl (hKX.2.2.2 (.fieldLinkNest "AnnuityHouseModel" 39 "AnnuityHouseModel$Whole" "sign" "I" "AnnuityHouseModel") (by decide +kernel))) (fun _ h9 => h9) rfl dX12_rounded_104 ?_
          refine zr_if_ge (x := sg) (tgt := 118) hx hb (⟨by omega, by omega⟩) dX12_rounded_107 (by decide) (fun h_35 => ?_) (fun h_35 => ?_)
          ·
            refine lv_aload hx hb dX12_rounded_118 (lv_at hl 0 rfl) ?_
            rw [hQ]
            exact zr_aret (ra := r7) (Or.inl ⟨_, rfl⟩) (u := (b7, f7, N7, s7)) hx hb hr hlocks (hP.sub [0, 8, 9] rfl) (hD.sub [0, 8, 9] (by decide) rfl) hS (by first | exact Nat.le_of_ble_eq_true rfl | omega) (by first | exact Nat.le_of_ble_eq_true rfl | omega) dX12_rounded_120 (show tmw f7 N7 s7 (zr6 v v2) from by rw [zr6_p h3]; first | exact tpost hpl hval.symm | exact tpost hqv hval.symm)
          · exact absurd h_35 (by omega)
    · exact absurd h_10 (by omega)

def rm_c_X12_rounded_nn : Room := { frames := 12, cells := 45, slots := 4300, locals := 500 }
set_option maxHeartbeats 1000000 in
set_option maxRecDepth 100000 in
theorem c_X12_rounded_nn (l : Launch) (G : zG) (x : Nat) (th : Int) (w1 : Value) (w2 : Value) (w3 : Value) (w4 : Value) (w5 : Value) (w6 : Value) (w7 : Value) (w8 : Value) (w9 : Value) (w10 : Value) (a : Nat) (b : Nat) (f : Int → Int) (N : Nat) (sg : Int) (a2 : Nat) (b2 : Nat) (f2 : Int → Int) (N2 : Nat) (sg2 : Int) (v : Int) (v2 : Int) (h1 : tmw f N sg v) (h2 : tmw f2 N2 sg2 v2) (h3 : v < 0) (h4 : 0 < v2) (h6 : (v.natAbs : Int) < 10000 ^ 120) (h7 : v2 < 10000 ^ 120) (h8 : N2 = 1 ∨ v2 ≤ -v) : zM l G yX12_rounded wsX12_rounded rm_c_X12_rounded_nn [.ref x, .ref a, .ref a2] [(x, .inr (13, [.int (iz (th)), .int (iz (6)), w1, w2, w3, w4, w5, w6, w7, w8, w9, w10])), (a, .inr (12, [.int (iz (sg)), .ref b])), (b, zaI (G.2 1) N (f)), (a2, .inr (12, [.int (iz (sg2)), .ref b2])), (b2, zaI (G.2 1) N2 (f2))] (fun A => zQr G (fun (u : (Nat × (Int → Int) × Nat × Int)) (ra : Nat) => tmw u.2.1 u.2.2.1 u.2.2.2 (zr6 v v2)) (fun (u : (Nat × (Int → Int) × Nat × Int)) (ra : Nat) => [(x, .inr (13, [.int (iz (th)), .int (iz (6)), w1, w2, w3, w4, w5, w6, w7, w8, w9, w10])), (ra, .inr (12, [.int (iz (u.2.2.2)), .ref u.1])), (u.1, zaI (G.2 1) u.2.2.1 (u.2.1))]) A) 45 4300 := by
  refine zM_of (cc := cX12_rounded) (maxL := 7) (ret := (some (.object "AnnuityHouseModel$Whole"))) (by decide) rfl (Nat.le_of_ble_eq_true rfl) ?_
  intro p e s m below meth c ls A Q hQ hx hb hr hts hown hlocks hml hnm hKX hP hD hA hS hl
  have hK := hKX.1
  have iwX11 := iw_X12_rounded_X11
  have iwX12 := iw_X12_rounded_X12
  obtain ⟨H, hH⟩ : ∃ h, h = s.heap := ⟨_, rfl⟩
  obtain ⟨locs, hlo⟩ : ∃ h : List Loc, h = [] := ⟨_, rfl⟩
  have hS : va_S A s.heap H locs := by rw [hH, hlo]; exact hS
  have hP : va_P G.1 vwCl [(x, .inr (13, [.int (iz (th)), .int (iz (6)), w1, w2, w3, w4, w5, w6, w7, w8, w9, w10])), (a, .inr (12, [.int (iz (sg)), .ref b])), (b, zaI (G.2 1) N (f)), (a2, .inr (12, [.int (iz (sg2)), .ref b2])), (b2, zaI (G.2 1) N2 (f2))] H := by rw [hH]; exact hP
  have hD : va_D A [(x, .inr (13, [.int (iz (th)), .int (iz (6)), w1, w2, w3, w4, w5, w6, w7, w8, w9, w10])), (a, .inr (12, [.int (iz (sg)), .ref b])), (b, zaI (G.2 1) N (f)), (a2, .inr (12, [.int (iz (sg2)), .ref b2])), (b2, zaI (G.2 1) N2 (f2))] := hD
  have hl : lv_has ls 7 [(0, .ref x), (1, .ref a), (2, .ref a2)] := hl
  rw [← hH, ← hlo]
  have g1 := h1.sgi
  have s1 := h1.sgn
  have n2 := h2.n
  have p1 := Int.sign_eq_neg_one_of_neg h3
  refine lv_aload_n hx hb dX12_rounded_0 rfl (lv_at hl 1 rfl) ?_
  refine zc_r (wr := [(x, .inr (13, [.int (iz (th)), .int (iz (6)), w1, w2, w3, w4, w5, w6, w7, w8, w9, w10])), (a2, .inr (12, [.int (iz (sg2)), .ref b2])), (b2, zaI (G.2 1) N2 (f2))]) (va_runV (As := []) (rest := []) ⟨hx, hb, hml, hown, hts⟩ (c_X11_size_n l G a b f N sg v (h1) (h3) H.size) (cwV 0 hts gX12_rounded_X11_size rfl rfl rfl (by decide +kernel) ⟨Nat.le_of_ble_eq_true rfl, Nat.le_of_ble_eq_true rfl⟩) (zpV hKX hP hD [1, 2] rfl rfl 1 12 rfl rfl) rfl rfl hl.1 rfl (lv_room (Nat.le_of_ble_eq_true rfl)) dX12_rounded_1 ⟨(by first | exact Nat.le_of_ble_eq_true rfl | (show _ ≤ (45 : Nat); omega)), (by first | exact Nat.le_of_ble_eq_true rfl | (show _ ≤ (4300 : Nat); omega))⟩) hP hD hS hA [1, 2] [0, 3, 4] rfl rfl rfl (by decide) (fun u_1 rs H locs hs9 hP hD hS => ?_)
  obtain ⟨b9, f9, N9, s9⟩ := u_1
  have hP : va_P G.1 vwCl [(x, .inr (13, [.int (iz (th)), .int (iz (6)), w1, w2, w3, w4, w5, w6, w7, w8, w9, w10])), (a2, .inr (12, [.int (iz (sg2)), .ref b2])), (b2, zaI (G.2 1) N2 (f2)), (a, .inr (12, [.int (iz (sg)), .ref b])), (b, zaI (G.2 1) N (f)), (rs, .inr (12, [.int (iz (s9)), .ref b9])), (b9, zaI (G.2 1) N9 (f9))] H := hP
  have hD : va_D A [(x, .inr (13, [.int (iz (th)), .int (iz (6)), w1, w2, w3, w4, w5, w6, w7, w8, w9, w10])), (a2, .inr (12, [.int (iz (sg2)), .ref b2])), (b2, zaI (G.2 1) N2 (f2)), (a, .inr (12, [.int (iz (sg)), .ref b])), (b, zaI (G.2 1) N (f)), (rs, .inr (12, [.int (iz (s9)), .ref b9])), (b9, zaI (G.2 1) N9 (f9))] := hD
  have hs9 : tmw f9 N9 s9 (-v) := hs9
  refine lv_aload_n hx hb dX12_rounded_4 rfl (lv_at hl 2 rfl) ?_
  refine zc_r (wr := [(x, .inr (13, [.int (iz (th)), .int (iz (6)), w1, w2, w3, w4, w5, w6, w7, w8, w9, w10])), (a, .inr (12, [.int (iz (sg)), .ref b])), (b, zaI (G.2 1) N (f))]) (va_runV (As := [.ref a2]) (rest := []) ⟨hx, hb, hml, hown, hts⟩ (c_X11_divided_n l G rs b9 f9 N9 s9 a2 b2 f2 N2 sg2 (-v) v2 (hs9) (h2) (by omega) (h4) (by omega) (h7) (h8) H.size) (cwV 1 hts gX12_rounded_X11_divided rfl rfl rfl (by decide +kernel) ⟨Nat.le_of_ble_eq_true rfl, Nat.le_of_ble_eq_true rfl⟩) (zpV hKX hP hD [5, 6, 1, 2] rfl rfl 5 12 rfl rfl) rfl rfl hl.1 rfl (lv_room (Nat.le_of_ble_eq_true rfl)) dX12_rounded_5 ⟨(by first | exact Nat.le_of_ble_eq_true rfl | (show _ ≤ (45 : Nat); omega)), (by first | exact Nat.le_of_ble_eq_true rfl | (show _ ≤ (4300 : Nat); omega))⟩) hP hD hS hA [5, 6, 1, 2] [0, 3, 4] rfl rfl rfl (by decide) (fun u_3 rr H locs hd hP hD hS => ?_)
  obtain ⟨fr, rq, bq, fq, Nq, sq, rz, bz, fz, Nz, sz⟩ := u_3
  have hP : va_P G.1 vwCl [(x, .inr (13, [.int (iz (th)), .int (iz (6)), w1, w2, w3, w4, w5, w6, w7, w8, w9, w10])), (a, .inr (12, [.int (iz (sg)), .ref b])), (b, zaI (G.2 1) N (f)), (rs, .inr (12, [.int (iz (s9)), .ref b9])), (b9, zaI (G.2 1) N9 (f9)), (a2, .inr (12, [.int (iz (sg2)), .ref b2])), (b2, zaI (G.2 1) N2 (f2)), (rr, zaR (G.2 4) 2 (fr)), (rq, .inr (12, [.int (iz (sq)), .ref bq])), (bq, zaI (G.2 1) Nq (fq)), (rz, .inr (12, [.int (iz (sz)), .ref bz])), (bz, zaI (G.2 1) Nz (fz))] H := hP
  have hD : va_D A [(x, .inr (13, [.int (iz (th)), .int (iz (6)), w1, w2, w3, w4, w5, w6, w7, w8, w9, w10])), (a, .inr (12, [.int (iz (sg)), .ref b])), (b, zaI (G.2 1) N (f)), (rs, .inr (12, [.int (iz (s9)), .ref b9])), (b9, zaI (G.2 1) N9 (f9)), (a2, .inr (12, [.int (iz (sg2)), .ref b2])), (b2, zaI (G.2 1) N2 (f2)), (rr, zaR (G.2 4) 2 (fr)), (rq, .inr (12, [.int (iz (sq)), .ref bq])), (bq, zaI (G.2 1) Nq (fq)), (rz, .inr (12, [.int (iz (sz)), .ref bz])), (bz, zaI (G.2 1) Nz (fz))] := hD
  have hd : fr 0 = some rq ∧ fr 1 = some rz ∧ tmw fq Nq sq ((-v) / v2) ∧ tmw fz Nz sz ((-v) % v2) := hd
  have hz := hd.2.2.2
  have hqv := hd.2.2.1
  have hr0 := Int.emod_nonneg (-v) (show v2 ≠ 0 by omega)
  have hr1 := Int.emod_lt_of_pos (-v) h4
  have hq0 : 0 ≤ (-v) / v2 := Int.ediv_nonneg (by omega) (by omega)
  have hqle : (-v) / v2 ≤ (-v) := Int.ediv_le_self _ (by omega)
  refine lv_astore_n (lv' := [(3, .ref rr), (0, .ref x), (1, .ref a), (2, .ref a2)]) hx hb dX12_rounded_8 rfl hl (by decide) rfl (fun ls hl => ?_)
  refine lv_aload_n hx hb dX12_rounded_9 rfl (lv_at hl 0 rfl) ?_
  refine lv_iconst (v := iz (0)) hx hb dX12_rounded_10 rfl ?_
  refine zr_aldq (v := rq) hx hb hK hP 7 4 rfl rfl (i := 0) (⟨by omega, by omega, by omega⟩) (hd.1) dX12_rounded_11 ?_
  refine lv_astore (lv' := [(4, .ref rq), (3, .ref rr), (0, .ref x), (1, .ref a), (2, .ref a2)]) hx hb dX12_rounded_12 hl (by decide) rfl (fun ls hl => ?_)
  refine lv_aload_n hx hb dX12_rounded_14 rfl (lv_at hl 1 rfl) ?_
  refine lv_iconst (v := iz (1)) hx hb dX12_rounded_15 rfl ?_
  refine zr_aldq (v := rz) hx hb hK hP 7 4 rfl rfl (i := 1) (⟨by omega, by omega, by omega⟩) (hd.2.1) dX12_rounded_16 ?_
  refine zc_z (wr := [(x, .inr (13, [.int (iz (th)), .int (iz (6)), w1, w2, w3, w4, w5, w6, w7, w8, w9, w10])), (a, .inr (12, [.int (iz (sg)), .ref b])), (b, zaI (G.2 1) N (f)), (rs, .inr (12, [.int (iz (s9)), .ref b9])), (b9, zaI (G.2 1) N9 (f9)), (a2, .inr (12, [.int (iz (sg2)), .ref b2])), (b2, zaI (G.2 1) N2 (f2)), (rr, zaR (G.2 4) 2 (fr)), (rq, .inr (12, [.int (iz (sq)), .ref bq])), (bq, zaI (G.2 1) Nq (fq))]) (va_runV (As := []) (rest := []) ⟨hx, hb, hml, hown, hts⟩ (c_X11_isNothing l G rz bz fz Nz sz ((-v) % v2) (hz) H.size) (cwV 0 hts gX12_rounded_X11_isNothing rfl rfl rfl (by decide +kernel) ⟨Nat.le_of_ble_eq_true rfl, Nat.le_of_ble_eq_true rfl⟩) (zpV hKX hP hD [10, 11] rfl rfl 10 12 rfl rfl) rfl rfl hl.1 rfl (lv_room (Nat.le_of_ble_eq_true rfl)) dX12_rounded_17 ⟨(by first | exact Nat.le_of_ble_eq_true rfl | (show _ ≤ (45 : Nat); omega)), (by first | exact Nat.le_of_ble_eq_true rfl | (show _ ≤ (4300 : Nat); omega))⟩) hP hD hS hA [10, 11] [0, 1, 2, 3, 4, 5, 6, 7, 8, 9] rfl rfl rfl (by decide) (fun en u_5 H locs hen hP hD hS => ?_)
  have hP : va_P G.1 vwCl [(x, .inr (13, [.int (iz (th)), .int (iz (6)), w1, w2, w3, w4, w5, w6, w7, w8, w9, w10])), (a, .inr (12, [.int (iz (sg)), .ref b])), (b, zaI (G.2 1) N (f)), (rs, .inr (12, [.int (iz (s9)), .ref b9])), (b9, zaI (G.2 1) N9 (f9)), (a2, .inr (12, [.int (iz (sg2)), .ref b2])), (b2, zaI (G.2 1) N2 (f2)), (rr, zaR (G.2 4) 2 (fr)), (rq, .inr (12, [.int (iz (sq)), .ref bq])), (bq, zaI (G.2 1) Nq (fq)), (rz, .inr (12, [.int (iz (sz)), .ref bz])), (bz, zaI (G.2 1) Nz (fz))] H := hP
  have hD : va_D A [(x, .inr (13, [.int (iz (th)), .int (iz (6)), w1, w2, w3, w4, w5, w6, w7, w8, w9, w10])), (a, .inr (12, [.int (iz (sg)), .ref b])), (b, zaI (G.2 1) N (f)), (rs, .inr (12, [.int (iz (s9)), .ref b9])), (b9, zaI (G.2 1) N9 (f9)), (a2, .inr (12, [.int (iz (sg2)), .ref b2])), (b2, zaI (G.2 1) N2 (f2)), (rr, zaR (G.2 4) 2 (fr)), (rq, .inr (12, [.int (iz (sq)), .ref bq])), (bq, zaI (G.2 1) Nq (fq)), (rz, .inr (12, [.int (iz (sz)), .ref bz])), (bz, zaI (G.2 1) Nz (fz))] := hD
  have hen : en = decide (((-v) % v2) = 0) := hen
  refine zr_ifz_ne (tgt := 103) hx hb dX12_rounded_20 (by decide) (fun h_7 => ?_) (fun h_7 => ?_)
  ·
    have hzen := of_decide_eq_true (hen.symm.trans h_7)
    have hval := zhe_ex (show ((v).natAbs : Int) = -v by omega) h4 (of_decide_eq_true (hen.symm.trans h_7))
    have hq2e : ((((-v) / v2).natAbs : Int)) = (-v) / v2 := by omega
    refine lv_aload_n hx hb dX12_rounded_103 rfl (lv_at hl 3 rfl) ?_
    refine va_getN (D := G.1) (host := "AnnuityHouseModel") (ci := 12) (v := .int (iz (sg))) (C := RX11) (T := TX11) (N := 2) hx hb hts iwX11 hown hK hP 1 rfl rfl 0 (by decide) (va_Nw.use rfl (hKX.2.2.2 (.fieldLinkNest "AnnuityHouseModel" 39 "AnnuityHouseModel$Whole" "sign" "I" "AnnuityHouseModel") (by decide +kernel))) (fun _ h9 => h9) rfl dX12_rounded_104 ?_
    refine zr_if_ge (x := sg) (tgt := 118) hx hb (⟨by omega, by omega⟩) dX12_rounded_107 (by decide) (fun h_8 => ?_) (fun h_8 => ?_)
    · exact absurd h_8 (by omega)
    ·
      refine lv_aload hx hb dX12_rounded_110 (lv_at hl 0 rfl) ?_
      refine zc_r (wr := [(x, .inr (13, [.int (iz (th)), .int (iz (6)), w1, w2, w3, w4, w5, w6, w7, w8, w9, w10])), (a, .inr (12, [.int (iz (sg)), .ref b])), (b, zaI (G.2 1) N (f)), (rs, .inr (12, [.int (iz (s9)), .ref b9])), (b9, zaI (G.2 1) N9 (f9)), (a2, .inr (12, [.int (iz (sg2)), .ref b2])), (b2, zaI (G.2 1) N2 (f2)), (rr, zaR (G.2 4) 2 (fr)), (rz, .inr (12, [.int (iz (sz)), .ref bz])), (bz, zaI (G.2 1) Nz (fz))]) (va_runV (As := []) (rest := []) ⟨hx, hb, hml, hown, hts⟩ (c_X11_negated l G rq bq fq Nq sq ((-v) / v2) (hqv) H.size) (cwV 0 hts gX12_rounded_X11_negated rfl rfl rfl (by decide +kernel) ⟨Nat.le_of_ble_eq_true rfl, Nat.le_of_ble_eq_true rfl⟩) (zpV hKX hP hD [8, 9] rfl rfl 8 12 rfl rfl) rfl rfl hl.1 rfl (lv_room (Nat.le_of_ble_eq_true rfl)) dX12_rounded_112 ⟨(by first | exact Nat.le_of_ble_eq_true rfl | (show _ ≤ (45 : Nat); omega)), (by first | exact Nat.le_of_ble_eq_true rfl | (show _ ≤ (4300 : Nat); omega))⟩) hP hD hS hA [8, 9] [0, 1, 2, 3, 4, 5, 6, 7, 10, 11] rfl rfl rfl (by decide) (fun u_9 r8 H locs hneg hP hD hS => ?_)
      obtain ⟨b8, f8, N8, s8⟩ := u_9
      have hP : va_P G.1 vwCl [(x, .inr (13, [.int (iz (th)), .int (iz (6)), w1, w2, w3, w4, w5, w6, w7, w8, w9, w10])), (a, .inr (12, [.int (iz (sg)), .ref b])), (b, zaI (G.2 1) N (f)), (rs, .inr (12, [.int (iz (s9)), .ref b9])), (b9, zaI (G.2 1) N9 (f9)), (a2, .inr (12, [.int (iz (sg2)), .ref b2])), (b2, zaI (G.2 1) N2 (f2)), (rr, zaR (G.2 4) 2 (fr)), (rz, .inr (12, [.int (iz (sz)), .ref bz])), (bz, zaI (G.2 1) Nz (fz)), (rq, .inr (12, [.int (iz (sq)), .ref bq])), (bq, zaI (G.2 1) Nq (fq)), (r8, .inr (12, [.int (iz (s8)), .ref b8])), (b8, zaI (G.2 1) N8 (f8))] H := hP
      have hD : va_D A [(x, .inr (13, [.int (iz (th)), .int (iz (6)), w1, w2, w3, w4, w5, w6, w7, w8, w9, w10])), (a, .inr (12, [.int (iz (sg)), .ref b])), (b, zaI (G.2 1) N (f)), (rs, .inr (12, [.int (iz (s9)), .ref b9])), (b9, zaI (G.2 1) N9 (f9)), (a2, .inr (12, [.int (iz (sg2)), .ref b2])), (b2, zaI (G.2 1) N2 (f2)), (rr, zaR (G.2 4) 2 (fr)), (rz, .inr (12, [.int (iz (sz)), .ref bz])), (bz, zaI (G.2 1) Nz (fz)), (rq, .inr (12, [.int (iz (sq)), .ref bq])), (bq, zaI (G.2 1) Nq (fq)), (r8, .inr (12, [.int (iz (s8)), .ref b8])), (b8, zaI (G.2 1) N8 (f8))] := hD
      have hneg : tmw f8 N8 s8 (-((-v) / v2)) := hneg
      refine lv_goto (tgt := 120) hx hb dX12_rounded_115 (by decide) ?_
      rw [hQ]
      exact zr_aret (ra := r8) (Or.inl ⟨_, rfl⟩) (u := (b8, f8, N8, s8)) hx hb hr hlocks (hP.sub [0, 12, 13] rfl) (hD.sub [0, 12, 13] (by decide) rfl) hS (by first | exact Nat.le_of_ble_eq_true rfl | omega) (by first | exact Nat.le_of_ble_eq_true rfl | omega) dX12_rounded_120 (show tmw f8 N8 s8 (zr6 v v2) from tpost hneg (by rw [zr6_n h3, hval]))
  ·
    have hzen := of_decide_eq_false (hen.symm.trans h_7)
    have hen0 := h_7
    refine lv_aload_n hx hb dX12_rounded_23 rfl (lv_at hl 2 rfl) ?_
    refine va_get (D := G.1) (ci := 13) (v := .int (iz (6))) (C := RX12) (T := TX12) (N := 12) hx hb hts iwX12 hown hK hP 0 rfl rfl 1 (by decide) (hts (.fieldLink RX12 29 "AnnuityHouseModel" "mode" "I") (by decide +kernel)) (fun _ h9 => h9) rfl dX12_rounded_24 ?_
    refine lv_bipush (v := iz (7)) hx hb dX12_rounded_27 rfl ?_
    refine zr_icmp_ne (x := 6) (y := 7) (tgt := 34) hx hb (⟨by omega, by omega⟩) (⟨by omega, by omega⟩) dX12_rounded_29 (by decide) (fun h_11 => ?_) (fun h_11 => ?_)
    ·
      refine lv_aload_n hx hb dX12_rounded_34 rfl (lv_at hl 1 rfl) ?_
      refine lv_iconst (v := iz (1)) hx hb dX12_rounded_35 rfl ?_
      refine zr_aldq (v := rz) hx hb hK hP 7 4 rfl rfl (i := 1) (⟨by omega, by omega, by omega⟩) (hd.2.1) dX12_rounded_36 ?_
      refine lv_aload_n hx hb dX12_rounded_37 rfl (lv_at hl 1 rfl) ?_
      refine lv_iconst (v := iz (1)) hx hb dX12_rounded_38 rfl ?_
      refine zr_aldq (v := rz) hx hb hK hP 7 4 rfl rfl (i := 1) (⟨by omega, by omega, by omega⟩) (hd.2.1) dX12_rounded_39 ?_
      refine zc_r (wr := [(x, .inr (13, [.int (iz (th)), .int (iz (6)), w1, w2, w3, w4, w5, w6, w7, w8, w9, w10])), (a, .inr (12, [.int (iz (sg)), .ref b])), (b, zaI (G.2 1) N (f)), (rs, .inr (12, [.int (iz (s9)), .ref b9])), (b9, zaI (G.2 1) N9 (f9)), (a2, .inr (12, [.int (iz (sg2)), .ref b2])), (b2, zaI (G.2 1) N2 (f2)), (rr, zaR (G.2 4) 2 (fr)), (rq, .inr (12, [.int (iz (sq)), .ref bq])), (bq, zaI (G.2 1) Nq (fq))]) (va_runV (As := [.ref rz]) (rest := []) ⟨hx, hb, hml, hown, hts⟩ (c_X11_plus_k l G rz bz fz Nz sz ((-v) % v2) (hz) (tr_dbl h7 hr0 hr1) (by have := of_decide_eq_false (hen.symm.trans hen0); omega) H.size) (cwV 1 hts gX12_rounded_X11_plus rfl rfl rfl (by decide +kernel) ⟨Nat.le_of_ble_eq_true rfl, Nat.le_of_ble_eq_true rfl⟩) (zpV hKX hP hD [10, 11] rfl rfl 10 12 rfl rfl) rfl rfl hl.1 rfl (lv_room (Nat.le_of_ble_eq_true rfl)) dX12_rounded_40 ⟨(by first | exact Nat.le_of_ble_eq_true rfl | (show _ ≤ (45 : Nat); omega)), (by first | exact Nat.le_of_ble_eq_true rfl | (show _ ≤ (4300 : Nat); omega))⟩) hP hD hS hA [10, 11] [0, 1, 2, 3, 4, 5, 6, 7, 8, 9] rfl rfl rfl (by decide) (fun u_12 r4 H locs hp hP hD hS => ?_)
      obtain ⟨b4, f4, N4, s4⟩ := u_12
      have hP : va_P G.1 vwCl [(x, .inr (13, [.int (iz (th)), .int (iz (6)), w1, w2, w3, w4, w5, w6, w7, w8, w9, w10])), (a, .inr (12, [.int (iz (sg)), .ref b])), (b, zaI (G.2 1) N (f)), (rs, .inr (12, [.int (iz (s9)), .ref b9])), (b9, zaI (G.2 1) N9 (f9)), (a2, .inr (12, [.int (iz (sg2)), .ref b2])), (b2, zaI (G.2 1) N2 (f2)), (rr, zaR (G.2 4) 2 (fr)), (rq, .inr (12, [.int (iz (sq)), .ref bq])), (bq, zaI (G.2 1) Nq (fq)), (rz, .inr (12, [.int (iz (sz)), .ref bz])), (bz, zaI (G.2 1) Nz (fz)), (r4, .inr (12, [.int (iz (s4)), .ref b4])), (b4, zaI (G.2 1) N4 (f4))] H := hP
      have hD : va_D A [(x, .inr (13, [.int (iz (th)), .int (iz (6)), w1, w2, w3, w4, w5, w6, w7, w8, w9, w10])), (a, .inr (12, [.int (iz (sg)), .ref b])), (b, zaI (G.2 1) N (f)), (rs, .inr (12, [.int (iz (s9)), .ref b9])), (b9, zaI (G.2 1) N9 (f9)), (a2, .inr (12, [.int (iz (sg2)), .ref b2])), (b2, zaI (G.2 1) N2 (f2)), (rr, zaR (G.2 4) 2 (fr)), (rq, .inr (12, [.int (iz (sq)), .ref bq])), (bq, zaI (G.2 1) Nq (fq)), (rz, .inr (12, [.int (iz (sz)), .ref bz])), (bz, zaI (G.2 1) Nz (fz)), (r4, .inr (12, [.int (iz (s4)), .ref b4])), (b4, zaI (G.2 1) N4 (f4))] := hD
      have hp : tmw f4 N4 s4 (((-v) % v2) + ((-v) % v2)) := hp
      refine lv_aload_n hx hb dX12_rounded_43 rfl (lv_at hl 4 rfl) ?_
      refine zc_i (wr := [(x, .inr (13, [.int (iz (th)), .int (iz (6)), w1, w2, w3, w4, w5, w6, w7, w8, w9, w10])), (a, .inr (12, [.int (iz (sg)), .ref b])), (b, zaI (G.2 1) N (f)), (rs, .inr (12, [.int (iz (s9)), .ref b9])), (b9, zaI (G.2 1) N9 (f9)), (rr, zaR (G.2 4) 2 (fr)), (rq, .inr (12, [.int (iz (sq)), .ref bq])), (bq, zaI (G.2 1) Nq (fq)), (rz, .inr (12, [.int (iz (sz)), .ref bz])), (bz, zaI (G.2 1) Nz (fz))]) (va_runV (As := [.ref a2]) (rest := []) ⟨hx, hb, hml, hown, hts⟩ (c_X11_comparedSize l G r4 b4 f4 N4 s4 a2 b2 f2 N2 sg2 ((-v) % v2 + (-v) % v2) v2 (hp) (h2) H.size) (cwV 1 hts gX12_rounded_X11_comparedSize rfl rfl rfl (by decide +kernel) ⟨Nat.le_of_ble_eq_true rfl, Nat.le_of_ble_eq_true rfl⟩) (zpV hKX hP hD [12, 13, 5, 6] rfl rfl 12 12 rfl rfl) rfl rfl hl.1 rfl (lv_room (Nat.le_of_ble_eq_true rfl)) dX12_rounded_44 ⟨(by first | exact Nat.le_of_ble_eq_true rfl | (show _ ≤ (45 : Nat); omega)), (by first | exact Nat.le_of_ble_eq_true rfl | (show _ ≤ (4300 : Nat); omega))⟩) hP hD hS hA [12, 13, 5, 6] [0, 1, 2, 3, 4, 7, 8, 9, 10, 11] rfl rfl rfl (by decide) (fun hf u_14 H locs hhf hP hD hS => ?_)
      have hP : va_P G.1 vwCl [(x, .inr (13, [.int (iz (th)), .int (iz (6)), w1, w2, w3, w4, w5, w6, w7, w8, w9, w10])), (a, .inr (12, [.int (iz (sg)), .ref b])), (b, zaI (G.2 1) N (f)), (rs, .inr (12, [.int (iz (s9)), .ref b9])), (b9, zaI (G.2 1) N9 (f9)), (rr, zaR (G.2 4) 2 (fr)), (rq, .inr (12, [.int (iz (sq)), .ref bq])), (bq, zaI (G.2 1) Nq (fq)), (rz, .inr (12, [.int (iz (sz)), .ref bz])), (bz, zaI (G.2 1) Nz (fz)), (r4, .inr (12, [.int (iz (s4)), .ref b4])), (b4, zaI (G.2 1) N4 (f4)), (a2, .inr (12, [.int (iz (sg2)), .ref b2])), (b2, zaI (G.2 1) N2 (f2))] H := hP
      have hD : va_D A [(x, .inr (13, [.int (iz (th)), .int (iz (6)), w1, w2, w3, w4, w5, w6, w7, w8, w9, w10])), (a, .inr (12, [.int (iz (sg)), .ref b])), (b, zaI (G.2 1) N (f)), (rs, .inr (12, [.int (iz (s9)), .ref b9])), (b9, zaI (G.2 1) N9 (f9)), (rr, zaR (G.2 4) 2 (fr)), (rq, .inr (12, [.int (iz (sq)), .ref bq])), (bq, zaI (G.2 1) Nq (fq)), (rz, .inr (12, [.int (iz (sz)), .ref bz])), (bz, zaI (G.2 1) Nz (fz)), (r4, .inr (12, [.int (iz (s4)), .ref b4])), (b4, zaI (G.2 1) N4 (f4)), (a2, .inr (12, [.int (iz (sg2)), .ref b2])), (b2, zaI (G.2 1) N2 (f2))] := hD
      have hhf : hf = ((((-v) % v2 + (-v) % v2).natAbs : Int) - (v2.natAbs : Int)).sign := hhf
      have hsr := tsgn_rng ((((-v) % v2 + (-v) % v2).natAbs : Int) - (v2.natAbs : Int))
      refine lv_istore (lv' := [(5, .int (iz (hf))), (4, .ref rq), (3, .ref rr), (0, .ref x), (1, .ref a), (2, .ref a2)]) hx hb dX12_rounded_47 hl (by decide) rfl (fun ls hl => ?_)
      refine lv_aload_n hx hb dX12_rounded_49 rfl (lv_at hl 3 rfl) ?_
      refine va_get (D := G.1) (ci := 13) (v := .int (iz (6))) (C := RX12) (T := TX12) (N := 12) hx hb hts iwX12 hown hK hP 0 rfl rfl 1 (by decide) (hts (.fieldLink RX12 29 "AnnuityHouseModel" "mode" "I") (by decide +kernel)) (fun _ h9 => h9) rfl dX12_rounded_50 ?_
      refine lv_aload_n hx hb dX12_rounded_53 rfl (lv_at hl 4 rfl) ?_
      refine va_getN (D := G.1) (host := "AnnuityHouseModel") (ci := 12) (v := .int (iz (sg))) (C := RX11) (T := TX11) (N := 2) hx hb hts iwX11 hown hK hP 1 rfl rfl 0 (by decide) (va_Nw.use rfl (hKX.2.2.2 (.fieldLinkNest "AnnuityHouseModel" 39 "AnnuityHouseModel$Whole" "sign" "I" "AnnuityHouseModel") (by decide +kernel))) (fun _ h9 => h9) rfl dX12_rounded_54 ?_
      refine lv_iload hx hb dX12_rounded_57 (lv_at hl 0 rfl) ?_
      refine lv_aload hx hb dX12_rounded_59 (lv_at hl 1 rfl) ?_
      refine zr_ldc2 (z := 2) hx hb hown (hts (.constantLong RX12 42 (2)) (by decide +kernel)) rfl dX12_rounded_61 ?_
      refine zc_l (wr := [(x, .inr (13, [.int (iz (th)), .int (iz (6)), w1, w2, w3, w4, w5, w6, w7, w8, w9, w10])), (a, .inr (12, [.int (iz (sg)), .ref b])), (b, zaI (G.2 1) N (f)), (rs, .inr (12, [.int (iz (s9)), .ref b9])), (b9, zaI (G.2 1) N9 (f9)), (rr, zaR (G.2 4) 2 (fr)), (rz, .inr (12, [.int (iz (sz)), .ref bz])), (bz, zaI (G.2 1) Nz (fz)), (r4, .inr (12, [.int (iz (s4)), .ref b4])), (b4, zaI (G.2 1) N4 (f4)), (a2, .inr (12, [.int (iz (sg2)), .ref b2])), (b2, zaI (G.2 1) N2 (f2))]) (va_runV (As := [.long (lz (2))]) (rest := [.int (iz (hf)), .int (iz (sg)), .int (iz (6))]) ⟨hx, hb, hml, hown, hts⟩ (c_X11_rest l G rq bq fq Nq sq ((-v) / v2) 2 (hqv) (by omega) H.size) (cwV 1 hts gX12_rounded_X11_rest rfl rfl rfl (by decide +kernel) ⟨Nat.le_of_ble_eq_true rfl, Nat.le_of_ble_eq_true rfl⟩) (zpV hKX hP hD [6, 7] rfl rfl 6 12 rfl rfl) rfl rfl hl.1 rfl (lv_room (Nat.le_of_ble_eq_true rfl)) dX12_rounded_64 ⟨(by first | exact Nat.le_of_ble_eq_true rfl | (show _ ≤ (45 : Nat); omega)), (by first | exact Nat.le_of_ble_eq_true rfl | (show _ ≤ (4300 : Nat); omega))⟩) hP hD hS hA [6, 7] [0, 1, 2, 3, 4, 5, 8, 9, 10, 11, 12, 13] rfl rfl rfl (by decide) (fun od2 u_16 H locs hod hP hD hS => ?_)
      have hP : va_P G.1 vwCl [(x, .inr (13, [.int (iz (th)), .int (iz (6)), w1, w2, w3, w4, w5, w6, w7, w8, w9, w10])), (a, .inr (12, [.int (iz (sg)), .ref b])), (b, zaI (G.2 1) N (f)), (rs, .inr (12, [.int (iz (s9)), .ref b9])), (b9, zaI (G.2 1) N9 (f9)), (rr, zaR (G.2 4) 2 (fr)), (rz, .inr (12, [.int (iz (sz)), .ref bz])), (bz, zaI (G.2 1) Nz (fz)), (r4, .inr (12, [.int (iz (s4)), .ref b4])), (b4, zaI (G.2 1) N4 (f4)), (a2, .inr (12, [.int (iz (sg2)), .ref b2])), (b2, zaI (G.2 1) N2 (f2)), (rq, .inr (12, [.int (iz (sq)), .ref bq])), (bq, zaI (G.2 1) Nq (fq))] H := hP
      have hD : va_D A [(x, .inr (13, [.int (iz (th)), .int (iz (6)), w1, w2, w3, w4, w5, w6, w7, w8, w9, w10])), (a, .inr (12, [.int (iz (sg)), .ref b])), (b, zaI (G.2 1) N (f)), (rs, .inr (12, [.int (iz (s9)), .ref b9])), (b9, zaI (G.2 1) N9 (f9)), (rr, zaR (G.2 4) 2 (fr)), (rz, .inr (12, [.int (iz (sz)), .ref bz])), (bz, zaI (G.2 1) Nz (fz)), (r4, .inr (12, [.int (iz (s4)), .ref b4])), (b4, zaI (G.2 1) N4 (f4)), (a2, .inr (12, [.int (iz (sg2)), .ref b2])), (b2, zaI (G.2 1) N2 (f2)), (rq, .inr (12, [.int (iz (sq)), .ref bq])), (bq, zaI (G.2 1) Nq (fq))] := hD
      have hod : od2 = (((-v) / v2).natAbs : Int) % (2 : Int) := hod
      refine lv_lconst (v := lz (1)) hx hb dX12_rounded_67 rfl ?_
      refine zr_lcmp_ne (x := od2) (y := 1) (tgt := 76) hx hb (⟨by omega, by omega⟩) (⟨by omega, by omega⟩) dX12_rounded_68 dX12_rounded_69 (by decide) (fun h_18 => ?_) (fun h_18 => ?_)
      ·
        refine lv_iconst (v := iz (0)) hx hb dX12_rounded_76 rfl ?_
        refine zc_z (wr := [(x, .inr (13, [.int (iz (th)), .int (iz (6)), w1, w2, w3, w4, w5, w6, w7, w8, w9, w10])), (a, .inr (12, [.int (iz (sg)), .ref b])), (b, zaI (G.2 1) N (f)), (rs, .inr (12, [.int (iz (s9)), .ref b9])), (b9, zaI (G.2 1) N9 (f9)), (rr, zaR (G.2 4) 2 (fr)), (rz, .inr (12, [.int (iz (sz)), .ref bz])), (bz, zaI (G.2 1) Nz (fz)), (r4, .inr (12, [.int (iz (s4)), .ref b4])), (b4, zaI (G.2 1) N4 (f4)), (a2, .inr (12, [.int (iz (sg2)), .ref b2])), (b2, zaI (G.2 1) N2 (f2)), (rq, .inr (12, [.int (iz (sq)), .ref bq])), (bq, zaI (G.2 1) Nq (fq))]) (va_runS (As := [.int (iz (6)), .int (iz (sg)), .int (iz (hf)), .int (iz (0))]) (rest := []) ⟨hx, hb, hml, hown, hts⟩ (c_X12_isRoundedUp l G sg hf false (by omega) H.size) (va_cwS 4 hts gX12_rounded_X12_isRoundedUp rfl rfl rfl (by decide +kernel) ⟨Nat.le_of_ble_eq_true rfl, Nat.le_of_ble_eq_true rfl⟩) (zpS hKX hP hD [] rfl rfl) rfl rfl hl.1 rfl (lv_room (Nat.le_of_ble_eq_true rfl)) dX12_rounded_77 ⟨(by first | exact Nat.le_of_ble_eq_true rfl | (show _ ≤ (45 : Nat); omega)), (by first | exact Nat.le_of_ble_eq_true rfl | (show _ ≤ (4300 : Nat); omega))⟩) hP hD hS hA [] [0, 1, 2, 3, 4, 5, 6, 7, 8, 9, 10, 11, 12, 13] rfl rfl rfl (by decide) (fun up u_19 H locs hup hP hD hS => ?_)
        have hP : va_P G.1 vwCl [(x, .inr (13, [.int (iz (th)), .int (iz (6)), w1, w2, w3, w4, w5, w6, w7, w8, w9, w10])), (a, .inr (12, [.int (iz (sg)), .ref b])), (b, zaI (G.2 1) N (f)), (rs, .inr (12, [.int (iz (s9)), .ref b9])), (b9, zaI (G.2 1) N9 (f9)), (rr, zaR (G.2 4) 2 (fr)), (rz, .inr (12, [.int (iz (sz)), .ref bz])), (bz, zaI (G.2 1) Nz (fz)), (r4, .inr (12, [.int (iz (s4)), .ref b4])), (b4, zaI (G.2 1) N4 (f4)), (a2, .inr (12, [.int (iz (sg2)), .ref b2])), (b2, zaI (G.2 1) N2 (f2)), (rq, .inr (12, [.int (iz (sq)), .ref bq])), (bq, zaI (G.2 1) Nq (fq))] H := hP
        have hD : va_D A [(x, .inr (13, [.int (iz (th)), .int (iz (6)), w1, w2, w3, w4, w5, w6, w7, w8, w9, w10])), (a, .inr (12, [.int (iz (sg)), .ref b])), (b, zaI (G.2 1) N (f)), (rs, .inr (12, [.int (iz (s9)), .ref b9])), (b9, zaI (G.2 1) N9 (f9)), (rr, zaR (G.2 4) 2 (fr)), (rz, .inr (12, [.int (iz (sz)), .ref bz])), (bz, zaI (G.2 1) Nz (fz)), (r4, .inr (12, [.int (iz (s4)), .ref b4])), (b4, zaI (G.2 1) N4 (f4)), (a2, .inr (12, [.int (iz (sg2)), .ref b2])), (b2, zaI (G.2 1) N2 (f2)), (rq, .inr (12, [.int (iz (sq)), .ref bq])), (bq, zaI (G.2 1) Nq (fq))] := hD
        have hup : up = decide (0 < hf ∨ (hf = 0 ∧ false = true)) := hup
        refine lv_istore (lv' := [(6, .int (iz (zbb up))), (5, .int (iz (hf))), (4, .ref rq), (3, .ref rr), (0, .ref x), (1, .ref a), (2, .ref a2)]) hx hb dX12_rounded_80 hl (by decide) rfl (fun ls hl => ?_)
        refine lv_iload hx hb dX12_rounded_82 (lv_at hl 0 rfl) ?_
        refine zr_ifz_eq (tgt := 99) hx hb dX12_rounded_84 (by decide) (fun h_21 => ?_) (fun h_21 => ?_)
        ·
          have hzup := of_decide_eq_false (hup.symm.trans h_21)
          have hval := zhe_dn (show ((v).natAbs : Int) = -v by omega) h4 hr0 hhf (by first | exact ⟨fun _ => (by omega), fun _ => rfl⟩ | exact ⟨fun q => (by cases q), fun q => (by omega)⟩) (h_21 ▸ hup)
          refine lv_aload hx hb dX12_rounded_99 (lv_at hl 2 rfl) ?_
          refine lv_astore (lv' := [(4, .ref rq), (6, .int (iz (zbb up))), (5, .int (iz (hf))), (3, .ref rr), (0, .ref x), (1, .ref a), (2, .ref a2)]) hx hb dX12_rounded_101 hl (by decide) rfl (fun ls hl => ?_)
          have hq2e : ((((-v) / v2).natAbs : Int)) = (-v) / v2 := by omega
          refine lv_aload_n hx hb dX12_rounded_103 rfl (lv_at hl 5 rfl) ?_
          refine va_getN (D := G.1) (host := "AnnuityHouseModel") (ci := 12) (v := .int (iz (sg))) (C := RX11) (T := TX11) (N := 2) hx hb hts iwX11 hown hK hP 1 rfl rfl 0 (by decide) (va_Nw.use rfl (hKX.2.2.2 (.fieldLinkNest "AnnuityHouseModel" 39 "AnnuityHouseModel$Whole" "sign" "I" "AnnuityHouseModel") (by decide +kernel))) (fun _ h9 => h9) rfl dX12_rounded_104 ?_
          refine zr_if_ge (x := sg) (tgt := 118) hx hb (⟨by omega, by omega⟩) dX12_rounded_107 (by decide) (fun h_22 => ?_) (fun h_22 => ?_)
          · exact absurd h_22 (by omega)
          ·
            refine lv_aload hx hb dX12_rounded_110 (lv_at hl 0 rfl) ?_
            refine zc_r (wr := [(x, .inr (13, [.int (iz (th)), .int (iz (6)), w1, w2, w3, w4, w5, w6, w7, w8, w9, w10])), (a, .inr (12, [.int (iz (sg)), .ref b])), (b, zaI (G.2 1) N (f)), (rs, .inr (12, [.int (iz (s9)), .ref b9])), (b9, zaI (G.2 1) N9 (f9)), (rr, zaR (G.2 4) 2 (fr)), (rz, .inr (12, [.int (iz (sz)), .ref bz])), (bz, zaI (G.2 1) Nz (fz)), (r4, .inr (12, [.int (iz (s4)), .ref b4])), (b4, zaI (G.2 1) N4 (f4)), (a2, .inr (12, [.int (iz (sg2)), .ref b2])), (b2, zaI (G.2 1) N2 (f2))]) (va_runV (As := []) (rest := []) ⟨hx, hb, hml, hown, hts⟩ (c_X11_negated l G rq bq fq Nq sq ((-v) / v2) (hqv) H.size) (cwV 0 hts gX12_rounded_X11_negated rfl rfl rfl (by decide +kernel) ⟨Nat.le_of_ble_eq_true rfl, Nat.le_of_ble_eq_true rfl⟩) (zpV hKX hP hD [12, 13] rfl rfl 12 12 rfl rfl) rfl rfl hl.1 rfl (lv_room (Nat.le_of_ble_eq_true rfl)) dX12_rounded_112 ⟨(by first | exact Nat.le_of_ble_eq_true rfl | (show _ ≤ (45 : Nat); omega)), (by first | exact Nat.le_of_ble_eq_true rfl | (show _ ≤ (4300 : Nat); omega))⟩) hP hD hS hA [12, 13] [0, 1, 2, 3, 4, 5, 6, 7, 8, 9, 10, 11] rfl rfl rfl (by decide) (fun u_23 r8 H locs hneg hP hD hS => ?_)
            obtain ⟨b8, f8, N8, s8⟩ := u_23
            have hP : va_P G.1 vwCl [(x, .inr (13, [.int (iz (th)), .int (iz (6)), w1, w2, w3, w4, w5, w6, w7, w8, w9, w10])), (a, .inr (12, [.int (iz (sg)), .ref b])), (b, zaI (G.2 1) N (f)), (rs, .inr (12, [.int (iz (s9)), .ref b9])), (b9, zaI (G.2 1) N9 (f9)), (rr, zaR (G.2 4) 2 (fr)), (rz, .inr (12, [.int (iz (sz)), .ref bz])), (bz, zaI (G.2 1) Nz (fz)), (r4, .inr (12, [.int (iz (s4)), .ref b4])), (b4, zaI (G.2 1) N4 (f4)), (a2, .inr (12, [.int (iz (sg2)), .ref b2])), (b2, zaI (G.2 1) N2 (f2)), (rq, .inr (12, [.int (iz (sq)), .ref bq])), (bq, zaI (G.2 1) Nq (fq)), (r8, .inr (12, [.int (iz (s8)), .ref b8])), (b8, zaI (G.2 1) N8 (f8))] H := hP
            have hD : va_D A [(x, .inr (13, [.int (iz (th)), .int (iz (6)), w1, w2, w3, w4, w5, w6, w7, w8, w9, w10])), (a, .inr (12, [.int (iz (sg)), .ref b])), (b, zaI (G.2 1) N (f)), (rs, .inr (12, [.int (iz (s9)), .ref b9])), (b9, zaI (G.2 1) N9 (f9)), (rr, zaR (G.2 4) 2 (fr)), (rz, .inr (12, [.int (iz (sz)), .ref bz])), (bz, zaI (G.2 1) Nz (fz)), (r4, .inr (12, [.int (iz (s4)), .ref b4])), (b4, zaI (G.2 1) N4 (f4)), (a2, .inr (12, [.int (iz (sg2)), .ref b2])), (b2, zaI (G.2 1) N2 (f2)), (rq, .inr (12, [.int (iz (sq)), .ref bq])), (bq, zaI (G.2 1) Nq (fq)), (r8, .inr (12, [.int (iz (s8)), .ref b8])), (b8, zaI (G.2 1) N8 (f8))] := hD
            have hneg : tmw f8 N8 s8 (-((-v) / v2)) := hneg
            refine lv_goto (tgt := 120) hx hb dX12_rounded_115 (by decide) ?_
            rw [hQ]
            exact zr_aret (ra := r8) (Or.inl ⟨_, rfl⟩) (u := (b8, f8, N8, s8)) hx hb hr hlocks (hP.sub [0, 14, 15] rfl) (hD.sub [0, 14, 15] (by decide) rfl) hS (by first | exact Nat.le_of_ble_eq_true rfl | omega) (by first | exact Nat.le_of_ble_eq_true rfl | omega) dX12_rounded_120 (show tmw f8 N8 s8 (zr6 v v2) from tpost hneg (by rw [zr6_n h3, hval]))
        ·
          have hzup := of_decide_eq_true (hup.symm.trans h_21)
          have hval := zhe_up (show ((v).natAbs : Int) = -v by omega) h4 hr0 hhf (by first | exact ⟨fun _ => (by omega), fun _ => rfl⟩ | exact ⟨fun q => (by cases q), fun q => (by omega)⟩) (h_21 ▸ hup)
          refine lv_aload hx hb dX12_rounded_87 (lv_at hl 2 rfl) ?_
          refine lv_lconst (v := lz (1)) hx hb dX12_rounded_89 rfl ?_
          refine zc_r (wr := [(x, .inr (13, [.int (iz (th)), .int (iz (6)), w1, w2, w3, w4, w5, w6, w7, w8, w9, w10])), (a, .inr (12, [.int (iz (sg)), .ref b])), (b, zaI (G.2 1) N (f)), (rs, .inr (12, [.int (iz (s9)), .ref b9])), (b9, zaI (G.2 1) N9 (f9)), (rr, zaR (G.2 4) 2 (fr)), (rz, .inr (12, [.int (iz (sz)), .ref bz])), (bz, zaI (G.2 1) Nz (fz)), (r4, .inr (12, [.int (iz (s4)), .ref b4])), (b4, zaI (G.2 1) N4 (f4)), (a2, .inr (12, [.int (iz (sg2)), .ref b2])), (b2, zaI (G.2 1) N2 (f2)), (rq, .inr (12, [.int (iz (sq)), .ref bq])), (bq, zaI (G.2 1) Nq (fq))]) (va_runS (As := [.long (lz (1))]) (rest := [.ref rq]) ⟨hx, hb, hml, hown, hts⟩ (c_X11_of l G 1 (by omega) H.size) (va_cwS 1 hts gX12_rounded_X11_of rfl rfl rfl (by decide +kernel) ⟨Nat.le_of_ble_eq_true rfl, Nat.le_of_ble_eq_true rfl⟩) (zpS hKX hP hD [] rfl rfl) rfl rfl hl.1 rfl (lv_room (Nat.le_of_ble_eq_true rfl)) dX12_rounded_90 ⟨(by first | exact Nat.le_of_ble_eq_true rfl | (show _ ≤ (45 : Nat); omega)), (by first | exact Nat.le_of_ble_eq_true rfl | (show _ ≤ (4300 : Nat); omega))⟩) hP hD hS hA [] [0, 1, 2, 3, 4, 5, 6, 7, 8, 9, 10, 11, 12, 13] rfl rfl rfl (by decide) (fun u_25 r6 H locs ho hP hD hS => ?_)
          obtain ⟨b6, f6, N6, s6⟩ := u_25
          have hP : va_P G.1 vwCl [(x, .inr (13, [.int (iz (th)), .int (iz (6)), w1, w2, w3, w4, w5, w6, w7, w8, w9, w10])), (a, .inr (12, [.int (iz (sg)), .ref b])), (b, zaI (G.2 1) N (f)), (rs, .inr (12, [.int (iz (s9)), .ref b9])), (b9, zaI (G.2 1) N9 (f9)), (rr, zaR (G.2 4) 2 (fr)), (rz, .inr (12, [.int (iz (sz)), .ref bz])), (bz, zaI (G.2 1) Nz (fz)), (r4, .inr (12, [.int (iz (s4)), .ref b4])), (b4, zaI (G.2 1) N4 (f4)), (a2, .inr (12, [.int (iz (sg2)), .ref b2])), (b2, zaI (G.2 1) N2 (f2)), (rq, .inr (12, [.int (iz (sq)), .ref bq])), (bq, zaI (G.2 1) Nq (fq)), (r6, .inr (12, [.int (iz (s6)), .ref b6])), (b6, zaI (G.2 1) N6 (f6))] H := hP
          have hD : va_D A [(x, .inr (13, [.int (iz (th)), .int (iz (6)), w1, w2, w3, w4, w5, w6, w7, w8, w9, w10])), (a, .inr (12, [.int (iz (sg)), .ref b])), (b, zaI (G.2 1) N (f)), (rs, .inr (12, [.int (iz (s9)), .ref b9])), (b9, zaI (G.2 1) N9 (f9)), (rr, zaR (G.2 4) 2 (fr)), (rz, .inr (12, [.int (iz (sz)), .ref bz])), (bz, zaI (G.2 1) Nz (fz)), (r4, .inr (12, [.int (iz (s4)), .ref b4])), (b4, zaI (G.2 1) N4 (f4)), (a2, .inr (12, [.int (iz (sg2)), .ref b2])), (b2, zaI (G.2 1) N2 (f2)), (rq, .inr (12, [.int (iz (sq)), .ref bq])), (bq, zaI (G.2 1) Nq (fq)), (r6, .inr (12, [.int (iz (s6)), .ref b6])), (b6, zaI (G.2 1) N6 (f6))] := hD
          have ho : tmw f6 N6 s6 (1 : Int) := ho
          refine zc_r (wr := [(x, .inr (13, [.int (iz (th)), .int (iz (6)), w1, w2, w3, w4, w5, w6, w7, w8, w9, w10])), (a, .inr (12, [.int (iz (sg)), .ref b])), (b, zaI (G.2 1) N (f)), (rs, .inr (12, [.int (iz (s9)), .ref b9])), (b9, zaI (G.2 1) N9 (f9)), (rr, zaR (G.2 4) 2 (fr)), (rz, .inr (12, [.int (iz (sz)), .ref bz])), (bz, zaI (G.2 1) Nz (fz)), (r4, .inr (12, [.int (iz (s4)), .ref b4])), (b4, zaI (G.2 1) N4 (f4)), (a2, .inr (12, [.int (iz (sg2)), .ref b2])), (b2, zaI (G.2 1) N2 (f2))]) (va_runV (As := [.ref r6]) (rest := []) ⟨hx, hb, hml, hown, hts⟩ (c_X11_plus l G rq bq fq Nq sq r6 b6 f6 N6 s6 ((-v) / v2) 1 (hqv) (ho) (tr_one h6 hq0 (by omega)) H.size) (cwV 1 hts gX12_rounded_X11_plus rfl rfl rfl (by decide +kernel) ⟨Nat.le_of_ble_eq_true rfl, Nat.le_of_ble_eq_true rfl⟩) (zpV hKX hP hD [12, 13, 14, 15] rfl rfl 12 12 rfl rfl) rfl rfl hl.1 rfl (lv_room (Nat.le_of_ble_eq_true rfl)) dX12_rounded_93 ⟨(by first | exact Nat.le_of_ble_eq_true rfl | (show _ ≤ (45 : Nat); omega)), (by first | exact Nat.le_of_ble_eq_true rfl | (show _ ≤ (4300 : Nat); omega))⟩) hP hD hS hA [12, 13, 14, 15] [0, 1, 2, 3, 4, 5, 6, 7, 8, 9, 10, 11] rfl rfl rfl (by decide) (fun u_27 r7 H locs hpl hP hD hS => ?_)
          obtain ⟨b7, f7, N7, s7⟩ := u_27
          have hP : va_P G.1 vwCl [(x, .inr (13, [.int (iz (th)), .int (iz (6)), w1, w2, w3, w4, w5, w6, w7, w8, w9, w10])), (a, .inr (12, [.int (iz (sg)), .ref b])), (b, zaI (G.2 1) N (f)), (rs, .inr (12, [.int (iz (s9)), .ref b9])), (b9, zaI (G.2 1) N9 (f9)), (rr, zaR (G.2 4) 2 (fr)), (rz, .inr (12, [.int (iz (sz)), .ref bz])), (bz, zaI (G.2 1) Nz (fz)), (r4, .inr (12, [.int (iz (s4)), .ref b4])), (b4, zaI (G.2 1) N4 (f4)), (a2, .inr (12, [.int (iz (sg2)), .ref b2])), (b2, zaI (G.2 1) N2 (f2)), (r7, .inr (12, [.int (iz (s7)), .ref b7])), (b7, zaI (G.2 1) N7 (f7))] H := hP
          have hD : va_D A [(x, .inr (13, [.int (iz (th)), .int (iz (6)), w1, w2, w3, w4, w5, w6, w7, w8, w9, w10])), (a, .inr (12, [.int (iz (sg)), .ref b])), (b, zaI (G.2 1) N (f)), (rs, .inr (12, [.int (iz (s9)), .ref b9])), (b9, zaI (G.2 1) N9 (f9)), (rr, zaR (G.2 4) 2 (fr)), (rz, .inr (12, [.int (iz (sz)), .ref bz])), (bz, zaI (G.2 1) Nz (fz)), (r4, .inr (12, [.int (iz (s4)), .ref b4])), (b4, zaI (G.2 1) N4 (f4)), (a2, .inr (12, [.int (iz (sg2)), .ref b2])), (b2, zaI (G.2 1) N2 (f2)), (r7, .inr (12, [.int (iz (s7)), .ref b7])), (b7, zaI (G.2 1) N7 (f7))] := hD
          have hpl : tmw f7 N7 s7 (((-v) / v2) + (1 : Int)) := hpl
          refine lv_goto (tgt := 101) hx hb dX12_rounded_96 (by decide) ?_
          refine lv_astore (lv' := [(4, .ref r7), (6, .int (iz (zbb up))), (5, .int (iz (hf))), (3, .ref rr), (0, .ref x), (1, .ref a), (2, .ref a2)]) hx hb dX12_rounded_101 hl (by decide) rfl (fun ls hl => ?_)
          have hq2e : ((((-v) / v2).natAbs : Int)) = (-v) / v2 := by omega
          refine lv_aload_n hx hb dX12_rounded_103 rfl (lv_at hl 5 rfl) ?_
          refine va_getN (D := G.1) (host := "AnnuityHouseModel") (ci := 12) (v := .int (iz (sg))) (C := RX11) (T := TX11) (N := 2) hx hb hts iwX11 hown hK hP 1 rfl rfl 0 (by decide) (va_Nw.use rfl (hKX.2.2.2 (.fieldLinkNest "AnnuityHouseModel" 39 "AnnuityHouseModel$Whole" "sign" "I" "AnnuityHouseModel") (by decide +kernel))) (fun _ h9 => h9) rfl dX12_rounded_104 ?_
          refine zr_if_ge (x := sg) (tgt := 118) hx hb (⟨by omega, by omega⟩) dX12_rounded_107 (by decide) (fun h_29 => ?_) (fun h_29 => ?_)
          · exact absurd h_29 (by omega)
          ·
            refine lv_aload hx hb dX12_rounded_110 (lv_at hl 0 rfl) ?_
            refine zc_r (wr := [(x, .inr (13, [.int (iz (th)), .int (iz (6)), w1, w2, w3, w4, w5, w6, w7, w8, w9, w10])), (a, .inr (12, [.int (iz (sg)), .ref b])), (b, zaI (G.2 1) N (f)), (rs, .inr (12, [.int (iz (s9)), .ref b9])), (b9, zaI (G.2 1) N9 (f9)), (rr, zaR (G.2 4) 2 (fr)), (rz, .inr (12, [.int (iz (sz)), .ref bz])), (bz, zaI (G.2 1) Nz (fz)), (r4, .inr (12, [.int (iz (s4)), .ref b4])), (b4, zaI (G.2 1) N4 (f4)), (a2, .inr (12, [.int (iz (sg2)), .ref b2])), (b2, zaI (G.2 1) N2 (f2))]) (va_runV (As := []) (rest := []) ⟨hx, hb, hml, hown, hts⟩ (c_X11_negated l G r7 b7 f7 N7 s7 ((-v) / v2 + 1) (hpl) H.size) (cwV 0 hts gX12_rounded_X11_negated rfl rfl rfl (by decide +kernel) ⟨Nat.le_of_ble_eq_true rfl, Nat.le_of_ble_eq_true rfl⟩) (zpV hKX hP hD [12, 13] rfl rfl 12 12 rfl rfl) rfl rfl hl.1 rfl (lv_room (Nat.le_of_ble_eq_true rfl)) dX12_rounded_112 ⟨(by first | exact Nat.le_of_ble_eq_true rfl | (show _ ≤ (45 : Nat); omega)), (by first | exact Nat.le_of_ble_eq_true rfl | (show _ ≤ (4300 : Nat); omega))⟩) hP hD hS hA [12, 13] [0, 1, 2, 3, 4, 5, 6, 7, 8, 9, 10, 11] rfl rfl rfl (by decide) (fun u_30 r8 H locs hneg hP hD hS => ?_)
            obtain ⟨b8, f8, N8, s8⟩ := u_30
            have hP : va_P G.1 vwCl [(x, .inr (13, [.int (iz (th)), .int (iz (6)), w1, w2, w3, w4, w5, w6, w7, w8, w9, w10])), (a, .inr (12, [.int (iz (sg)), .ref b])), (b, zaI (G.2 1) N (f)), (rs, .inr (12, [.int (iz (s9)), .ref b9])), (b9, zaI (G.2 1) N9 (f9)), (rr, zaR (G.2 4) 2 (fr)), (rz, .inr (12, [.int (iz (sz)), .ref bz])), (bz, zaI (G.2 1) Nz (fz)), (r4, .inr (12, [.int (iz (s4)), .ref b4])), (b4, zaI (G.2 1) N4 (f4)), (a2, .inr (12, [.int (iz (sg2)), .ref b2])), (b2, zaI (G.2 1) N2 (f2)), (r7, .inr (12, [.int (iz (s7)), .ref b7])), (b7, zaI (G.2 1) N7 (f7)), (r8, .inr (12, [.int (iz (s8)), .ref b8])), (b8, zaI (G.2 1) N8 (f8))] H := hP
            have hD : va_D A [(x, .inr (13, [.int (iz (th)), .int (iz (6)), w1, w2, w3, w4, w5, w6, w7, w8, w9, w10])), (a, .inr (12, [.int (iz (sg)), .ref b])), (b, zaI (G.2 1) N (f)), (rs, .inr (12, [.int (iz (s9)), .ref b9])), (b9, zaI (G.2 1) N9 (f9)), (rr, zaR (G.2 4) 2 (fr)), (rz, .inr (12, [.int (iz (sz)), .ref bz])), (bz, zaI (G.2 1) Nz (fz)), (r4, .inr (12, [.int (iz (s4)), .ref b4])), (b4, zaI (G.2 1) N4 (f4)), (a2, .inr (12, [.int (iz (sg2)), .ref b2])), (b2, zaI (G.2 1) N2 (f2)), (r7, .inr (12, [.int (iz (s7)), .ref b7])), (b7, zaI (G.2 1) N7 (f7)), (r8, .inr (12, [.int (iz (s8)), .ref b8])), (b8, zaI (G.2 1) N8 (f8))] := hD
            have hneg : tmw f8 N8 s8 (-((-v) / v2 + 1)) := hneg
            refine lv_goto (tgt := 120) hx hb dX12_rounded_115 (by decide) ?_
            rw [hQ]
            exact zr_aret (ra := r8) (Or.inl ⟨_, rfl⟩) (u := (b8, f8, N8, s8)) hx hb hr hlocks (hP.sub [0, 14, 15] rfl) (hD.sub [0, 14, 15] (by decide) rfl) hS (by first | exact Nat.le_of_ble_eq_true rfl | omega) (by first | exact Nat.le_of_ble_eq_true rfl | omega) dX12_rounded_120 (show tmw f8 N8 s8 (zr6 v v2) from tpost hneg (by rw [zr6_n h3, hval]))
      ·
        refine lv_iconst (v := iz (1)) hx hb dX12_rounded_72 rfl ?_
        refine lv_goto (tgt := 77) hx hb dX12_rounded_73 (by decide) ?_
        refine zc_z (wr := [(x, .inr (13, [.int (iz (th)), .int (iz (6)), w1, w2, w3, w4, w5, w6, w7, w8, w9, w10])), (a, .inr (12, [.int (iz (sg)), .ref b])), (b, zaI (G.2 1) N (f)), (rs, .inr (12, [.int (iz (s9)), .ref b9])), (b9, zaI (G.2 1) N9 (f9)), (rr, zaR (G.2 4) 2 (fr)), (rz, .inr (12, [.int (iz (sz)), .ref bz])), (bz, zaI (G.2 1) Nz (fz)), (r4, .inr (12, [.int (iz (s4)), .ref b4])), (b4, zaI (G.2 1) N4 (f4)), (a2, .inr (12, [.int (iz (sg2)), .ref b2])), (b2, zaI (G.2 1) N2 (f2)), (rq, .inr (12, [.int (iz (sq)), .ref bq])), (bq, zaI (G.2 1) Nq (fq))]) (va_runS (As := [.int (iz (6)), .int (iz (sg)), .int (iz (hf)), .int (iz (1))]) (rest := []) ⟨hx, hb, hml, hown, hts⟩ (c_X12_isRoundedUp l G sg hf true (by omega) H.size) (va_cwS 4 hts gX12_rounded_X12_isRoundedUp rfl rfl rfl (by decide +kernel) ⟨Nat.le_of_ble_eq_true rfl, Nat.le_of_ble_eq_true rfl⟩) (zpS hKX hP hD [] rfl rfl) rfl rfl hl.1 rfl (lv_room (Nat.le_of_ble_eq_true rfl)) dX12_rounded_77 ⟨(by first | exact Nat.le_of_ble_eq_true rfl | (show _ ≤ (45 : Nat); omega)), (by first | exact Nat.le_of_ble_eq_true rfl | (show _ ≤ (4300 : Nat); omega))⟩) hP hD hS hA [] [0, 1, 2, 3, 4, 5, 6, 7, 8, 9, 10, 11, 12, 13] rfl rfl rfl (by decide) (fun up u_32 H locs hup hP hD hS => ?_)
        have hP : va_P G.1 vwCl [(x, .inr (13, [.int (iz (th)), .int (iz (6)), w1, w2, w3, w4, w5, w6, w7, w8, w9, w10])), (a, .inr (12, [.int (iz (sg)), .ref b])), (b, zaI (G.2 1) N (f)), (rs, .inr (12, [.int (iz (s9)), .ref b9])), (b9, zaI (G.2 1) N9 (f9)), (rr, zaR (G.2 4) 2 (fr)), (rz, .inr (12, [.int (iz (sz)), .ref bz])), (bz, zaI (G.2 1) Nz (fz)), (r4, .inr (12, [.int (iz (s4)), .ref b4])), (b4, zaI (G.2 1) N4 (f4)), (a2, .inr (12, [.int (iz (sg2)), .ref b2])), (b2, zaI (G.2 1) N2 (f2)), (rq, .inr (12, [.int (iz (sq)), .ref bq])), (bq, zaI (G.2 1) Nq (fq))] H := hP
        have hD : va_D A [(x, .inr (13, [.int (iz (th)), .int (iz (6)), w1, w2, w3, w4, w5, w6, w7, w8, w9, w10])), (a, .inr (12, [.int (iz (sg)), .ref b])), (b, zaI (G.2 1) N (f)), (rs, .inr (12, [.int (iz (s9)), .ref b9])), (b9, zaI (G.2 1) N9 (f9)), (rr, zaR (G.2 4) 2 (fr)), (rz, .inr (12, [.int (iz (sz)), .ref bz])), (bz, zaI (G.2 1) Nz (fz)), (r4, .inr (12, [.int (iz (s4)), .ref b4])), (b4, zaI (G.2 1) N4 (f4)), (a2, .inr (12, [.int (iz (sg2)), .ref b2])), (b2, zaI (G.2 1) N2 (f2)), (rq, .inr (12, [.int (iz (sq)), .ref bq])), (bq, zaI (G.2 1) Nq (fq))] := hD
        have hup : up = decide (0 < hf ∨ (hf = 0 ∧ true = true)) := hup
        refine lv_istore (lv' := [(6, .int (iz (zbb up))), (5, .int (iz (hf))), (4, .ref rq), (3, .ref rr), (0, .ref x), (1, .ref a), (2, .ref a2)]) hx hb dX12_rounded_80 hl (by decide) rfl (fun ls hl => ?_)
        refine lv_iload hx hb dX12_rounded_82 (lv_at hl 0 rfl) ?_
        refine zr_ifz_eq (tgt := 99) hx hb dX12_rounded_84 (by decide) (fun h_34 => ?_) (fun h_34 => ?_)
        ·
          have hzup := of_decide_eq_false (hup.symm.trans h_34)
          have hval := zhe_dn (show ((v).natAbs : Int) = -v by omega) h4 hr0 hhf (by first | exact ⟨fun _ => (by omega), fun _ => rfl⟩ | exact ⟨fun q => (by cases q), fun q => (by omega)⟩) (h_34 ▸ hup)
          refine lv_aload hx hb dX12_rounded_99 (lv_at hl 2 rfl) ?_
          refine lv_astore (lv' := [(4, .ref rq), (6, .int (iz (zbb up))), (5, .int (iz (hf))), (3, .ref rr), (0, .ref x), (1, .ref a), (2, .ref a2)]) hx hb dX12_rounded_101 hl (by decide) rfl (fun ls hl => ?_)
          have hq2e : ((((-v) / v2).natAbs : Int)) = (-v) / v2 := by omega
          refine lv_aload_n hx hb dX12_rounded_103 rfl (lv_at hl 5 rfl) ?_
          refine va_getN (D := G.1) (host := "AnnuityHouseModel") (ci := 12) (v := .int (iz (sg))) (C := RX11) (T := TX11) (N := 2) hx hb hts iwX11 hown hK hP 1 rfl rfl 0 (by decide) (va_Nw.use rfl (hKX.2.2.2 (.fieldLinkNest "AnnuityHouseModel" 39 "AnnuityHouseModel$Whole" "sign" "I" "AnnuityHouseModel") (by decide +kernel))) (fun _ h9 => h9) rfl dX12_rounded_104 ?_
          refine zr_if_ge (x := sg) (tgt := 118) hx hb (⟨by omega, by omega⟩) dX12_rounded_107 (by decide) (fun h_35 => ?_) (fun h_35 => ?_)
          · exact absurd h_35 (by omega)
          ·
            refine lv_aload hx hb dX12_rounded_110 (lv_at hl 0 rfl) ?_
            refine zc_r (wr := [(x, .inr (13, [.int (iz (th)), .int (iz (6)), w1, w2, w3, w4, w5, w6, w7, w8, w9, w10])), (a, .inr (12, [.int (iz (sg)), .ref b])), (b, zaI (G.2 1) N (f)), (rs, .inr (12, [.int (iz (s9)), .ref b9])), (b9, zaI (G.2 1) N9 (f9)), (rr, zaR (G.2 4) 2 (fr)), (rz, .inr (12, [.int (iz (sz)), .ref bz])), (bz, zaI (G.2 1) Nz (fz)), (r4, .inr (12, [.int (iz (s4)), .ref b4])), (b4, zaI (G.2 1) N4 (f4)), (a2, .inr (12, [.int (iz (sg2)), .ref b2])), (b2, zaI (G.2 1) N2 (f2))]) (va_runV (As := []) (rest := []) ⟨hx, hb, hml, hown, hts⟩ (c_X11_negated l G rq bq fq Nq sq ((-v) / v2) (hqv) H.size) (cwV 0 hts gX12_rounded_X11_negated rfl rfl rfl (by decide +kernel) ⟨Nat.le_of_ble_eq_true rfl, Nat.le_of_ble_eq_true rfl⟩) (zpV hKX hP hD [12, 13] rfl rfl 12 12 rfl rfl) rfl rfl hl.1 rfl (lv_room (Nat.le_of_ble_eq_true rfl)) dX12_rounded_112 ⟨(by first | exact Nat.le_of_ble_eq_true rfl | (show _ ≤ (45 : Nat); omega)), (by first | exact Nat.le_of_ble_eq_true rfl | (show _ ≤ (4300 : Nat); omega))⟩) hP hD hS hA [12, 13] [0, 1, 2, 3, 4, 5, 6, 7, 8, 9, 10, 11] rfl rfl rfl (by decide) (fun u_36 r8 H locs hneg hP hD hS => ?_)
            obtain ⟨b8, f8, N8, s8⟩ := u_36
            have hP : va_P G.1 vwCl [(x, .inr (13, [.int (iz (th)), .int (iz (6)), w1, w2, w3, w4, w5, w6, w7, w8, w9, w10])), (a, .inr (12, [.int (iz (sg)), .ref b])), (b, zaI (G.2 1) N (f)), (rs, .inr (12, [.int (iz (s9)), .ref b9])), (b9, zaI (G.2 1) N9 (f9)), (rr, zaR (G.2 4) 2 (fr)), (rz, .inr (12, [.int (iz (sz)), .ref bz])), (bz, zaI (G.2 1) Nz (fz)), (r4, .inr (12, [.int (iz (s4)), .ref b4])), (b4, zaI (G.2 1) N4 (f4)), (a2, .inr (12, [.int (iz (sg2)), .ref b2])), (b2, zaI (G.2 1) N2 (f2)), (rq, .inr (12, [.int (iz (sq)), .ref bq])), (bq, zaI (G.2 1) Nq (fq)), (r8, .inr (12, [.int (iz (s8)), .ref b8])), (b8, zaI (G.2 1) N8 (f8))] H := hP
            have hD : va_D A [(x, .inr (13, [.int (iz (th)), .int (iz (6)), w1, w2, w3, w4, w5, w6, w7, w8, w9, w10])), (a, .inr (12, [.int (iz (sg)), .ref b])), (b, zaI (G.2 1) N (f)), (rs, .inr (12, [.int (iz (s9)), .ref b9])), (b9, zaI (G.2 1) N9 (f9)), (rr, zaR (G.2 4) 2 (fr)), (rz, .inr (12, [.int (iz (sz)), .ref bz])), (bz, zaI (G.2 1) Nz (fz)), (r4, .inr (12, [.int (iz (s4)), .ref b4])), (b4, zaI (G.2 1) N4 (f4)), (a2, .inr (12, [.int (iz (sg2)), .ref b2])), (b2, zaI (G.2 1) N2 (f2)), (rq, .inr (12, [.int (iz (sq)), .ref bq])), (bq, zaI (G.2 1) Nq (fq)), (r8, .inr (12, [.int (iz (s8)), .ref b8])), (b8, zaI (G.2 1) N8 (f8))] := hD
            have hneg : tmw f8 N8 s8 (-((-v) / v2)) := hneg
            refine lv_goto (tgt := 120) hx hb dX12_rounded_115 (by decide) ?_
            rw [hQ]
            exact zr_aret (ra := r8) (Or.inl ⟨_, rfl⟩) (u := (b8, f8, N8, s8)) hx hb hr hlocks (hP.sub [0, 14, 15] rfl) (hD.sub [0, 14, 15] (by decide) rfl) hS (by first | exact Nat.le_of_ble_eq_true rfl | omega) (by first | exact Nat.le_of_ble_eq_true rfl | omega) dX12_rounded_120 (show tmw f8 N8 s8 (zr6 v v2) from tpost hneg (by rw [zr6_n h3, hval]))
        ·
          have hzup := of_decide_eq_true (hup.symm.trans h_34)
          have hval := zhe_up (show ((v).natAbs : Int) = -v by omega) h4 hr0 hhf (by first | exact ⟨fun _ => (by omega), fun _ => rfl⟩ | exact ⟨fun q => (by cases q), fun q => (by omega)⟩) (h_34 ▸ hup)
          refine lv_aload hx hb dX12_rounded_87 (lv_at hl 2 rfl) ?_
          refine lv_lconst (v := lz (1)) hx hb dX12_rounded_89 rfl ?_
          refine zc_r (wr := [(x, .inr (13, [.int (iz (th)), .int (iz (6)), w1, w2, w3, w4, w5, w6, w7, w8, w9, w10])), (a, .inr (12, [.int (iz (sg)), .ref b])), (b, zaI (G.2 1) N (f)), (rs, .inr (12, [.int (iz (s9)), .ref b9])), (b9, zaI (G.2 1) N9 (f9)), (rr, zaR (G.2 4) 2 (fr)), (rz, .inr (12, [.int (iz (sz)), .ref bz])), (bz, zaI (G.2 1) Nz (fz)), (r4, .inr (12, [.int (iz (s4)), .ref b4])), (b4, zaI (G.2 1) N4 (f4)), (a2, .inr (12, [.int (iz (sg2)), .ref b2])), (b2, zaI (G.2 1) N2 (f2)), (rq, .inr (12, [.int (iz (sq)), .ref bq])), (bq, zaI (G.2 1) Nq (fq))]) (va_runS (As := [.long (lz (1))]) (rest := [.ref rq]) ⟨hx, hb, hml, hown, hts⟩ (c_X11_of l G 1 (by omega) H.size) (va_cwS 1 hts gX12_rounded_X11_of rfl rfl rfl (by decide +kernel) ⟨Nat.le_of_ble_eq_true rfl, Nat.le_of_ble_eq_true rfl⟩) (zpS hKX hP hD [] rfl rfl) rfl rfl hl.1 rfl (lv_room (Nat.le_of_ble_eq_true rfl)) dX12_rounded_90 ⟨(by first | exact Nat.le_of_ble_eq_true rfl | (show _ ≤ (45 : Nat); omega)), (by first | exact Nat.le_of_ble_eq_true rfl | (show _ ≤ (4300 : Nat); omega))⟩) hP hD hS hA [] [0, 1, 2, 3, 4, 5, 6, 7, 8, 9, 10, 11, 12, 13] rfl rfl rfl (by decide) (fun u_38 r6 H locs ho hP hD hS => ?_)
          obtain ⟨b6, f6, N6, s6⟩ := u_38
          have hP : va_P G.1 vwCl [(x, .inr (13, [.int (iz (th)), .int (iz (6)), w1, w2, w3, w4, w5, w6, w7, w8, w9, w10])), (a, .inr (12, [.int (iz (sg)), .ref b])), (b, zaI (G.2 1) N (f)), (rs, .inr (12, [.int (iz (s9)), .ref b9])), (b9, zaI (G.2 1) N9 (f9)), (rr, zaR (G.2 4) 2 (fr)), (rz, .inr (12, [.int (iz (sz)), .ref bz])), (bz, zaI (G.2 1) Nz (fz)), (r4, .inr (12, [.int (iz (s4)), .ref b4])), (b4, zaI (G.2 1) N4 (f4)), (a2, .inr (12, [.int (iz (sg2)), .ref b2])), (b2, zaI (G.2 1) N2 (f2)), (rq, .inr (12, [.int (iz (sq)), .ref bq])), (bq, zaI (G.2 1) Nq (fq)), (r6, .inr (12, [.int (iz (s6)), .ref b6])), (b6, zaI (G.2 1) N6 (f6))] H := hP
          have hD : va_D A [(x, .inr (13, [.int (iz (th)), .int (iz (6)), w1, w2, w3, w4, w5, w6, w7, w8, w9, w10])), (a, .inr (12, [.int (iz (sg)), .ref b])), (b, zaI (G.2 1) N (f)), (rs, .inr (12, [.int (iz (s9)), .ref b9])), (b9, zaI (G.2 1) N9 (f9)), (rr, zaR (G.2 4) 2 (fr)), (rz, .inr (12, [.int (iz (sz)), .ref bz])), (bz, zaI (G.2 1) Nz (fz)), (r4, .inr (12, [.int (iz (s4)), .ref b4])), (b4, zaI (G.2 1) N4 (f4)), (a2, .inr (12, [.int (iz (sg2)), .ref b2])), (b2, zaI (G.2 1) N2 (f2)), (rq, .inr (12, [.int (iz (sq)), .ref bq])), (bq, zaI (G.2 1) Nq (fq)), (r6, .inr (12, [.int (iz (s6)), .ref b6])), (b6, zaI (G.2 1) N6 (f6))] := hD
          have ho : tmw f6 N6 s6 (1 : Int) := ho
          refine zc_r (wr := [(x, .inr (13, [.int (iz (th)), .int (iz (6)), w1, w2, w3, w4, w5, w6, w7, w8, w9, w10])), (a, .inr (12, [.int (iz (sg)), .ref b])), (b, zaI (G.2 1) N (f)), (rs, .inr (12, [.int (iz (s9)), .ref b9])), (b9, zaI (G.2 1) N9 (f9)), (rr, zaR (G.2 4) 2 (fr)), (rz, .inr (12, [.int (iz (sz)), .ref bz])), (bz, zaI (G.2 1) Nz (fz)), (r4, .inr (12, [.int (iz (s4)), .ref b4])), (b4, zaI (G.2 1) N4 (f4)), (a2, .inr (12, [.int (iz (sg2)), .ref b2])), (b2, zaI (G.2 1) N2 (f2))]) (va_runV (As := [.ref r6]) (rest := []) ⟨hx, hb, hml, hown, hts⟩ (c_X11_plus l G rq bq fq Nq sq r6 b6 f6 N6 s6 ((-v) / v2) 1 (hqv) (ho) (tr_one h6 hq0 (by omega)) H.size) (cwV 1 hts gX12_rounded_X11_plus rfl rfl rfl (by decide +kernel) ⟨Nat.le_of_ble_eq_true rfl, Nat.le_of_ble_eq_true rfl⟩) (zpV hKX hP hD [12, 13, 14, 15] rfl rfl 12 12 rfl rfl) rfl rfl hl.1 rfl (lv_room (Nat.le_of_ble_eq_true rfl)) dX12_rounded_93 ⟨(by first | exact Nat.le_of_ble_eq_true rfl | (show _ ≤ (45 : Nat); omega)), (by first | exact Nat.le_of_ble_eq_true rfl | (show _ ≤ (4300 : Nat); omega))⟩) hP hD hS hA [12, 13, 14, 15] [0, 1, 2, 3, 4, 5, 6, 7, 8, 9, 10, 11] rfl rfl rfl (by decide) (fun u_40 r7 H locs hpl hP hD hS => ?_)
          obtain ⟨b7, f7, N7, s7⟩ := u_40
          have hP : va_P G.1 vwCl [(x, .inr (13, [.int (iz (th)), .int (iz (6)), w1, w2, w3, w4, w5, w6, w7, w8, w9, w10])), (a, .inr (12, [.int (iz (sg)), .ref b])), (b, zaI (G.2 1) N (f)), (rs, .inr (12, [.int (iz (s9)), .ref b9])), (b9, zaI (G.2 1) N9 (f9)), (rr, zaR (G.2 4) 2 (fr)), (rz, .inr (12, [.int (iz (sz)), .ref bz])), (bz, zaI (G.2 1) Nz (fz)), (r4, .inr (12, [.int (iz (s4)), .ref b4])), (b4, zaI (G.2 1) N4 (f4)), (a2, .inr (12, [.int (iz (sg2)), .ref b2])), (b2, zaI (G.2 1) N2 (f2)), (r7, .inr (12, [.int (iz (s7)), .ref b7])), (b7, zaI (G.2 1) N7 (f7))] H := hP
          have hD : va_D A [(x, .inr (13, [.int (iz (th)), .int (iz (6)), w1, w2, w3, w4, w5, w6, w7, w8, w9, w10])), (a, .inr (12, [.int (iz (sg)), .ref b])), (b, zaI (G.2 1) N (f)), (rs, .inr (12, [.int (iz (s9)), .ref b9])), (b9, zaI (G.2 1) N9 (f9)), (rr, zaR (G.2 4) 2 (fr)), (rz, .inr (12, [.int (iz (sz)), .ref bz])), (bz, zaI (G.2 1) Nz (fz)), (r4, .inr (12, [.int (iz (s4)), .ref b4])), (b4, zaI (G.2 1) N4 (f4)), (a2, .inr (12, [.int (iz (sg2)), .ref b2])), (b2, zaI (G.2 1) N2 (f2)), (r7, .inr (12, [.int (iz (s7)), .ref b7])), (b7, zaI (G.2 1) N7 (f7))] := hD
          have hpl : tmw f7 N7 s7 (((-v) / v2) + (1 : Int)) := hpl
          refine lv_goto (tgt := 101) hx hb dX12_rounded_96 (by decide) ?_
          refine lv_astore (lv' := [(4, .ref r7), (6, .int (iz (zbb up))), (5, .int (iz (hf))), (3, .ref rr), (0, .ref x), (1, .ref a), (2, .ref a2)]) hx hb dX12_rounded_101 hl (by decide) rfl (fun ls hl => ?_)
          have hq2e : ((((-v) / v2).natAbs : Int)) = (-v) / v2 := by omega
          refine lv_aload_n hx hb dX12_rounded_103 rfl (lv_at hl 5 rfl) ?_
          refine va_getN (D := G.1) (host := "AnnuityHouseModel") (ci := 12) (v := .int (iz (sg))) (C := RX11) (T := TX11) (N := 2) hx hb hts iwX11 hown hK hP 1 rfl rfl 0 (by decide) (va_Nw.use rfl (hKX.2.2.2 (.fieldLinkNest "AnnuityHouseModel" 39 "AnnuityHouseModel$Whole" "sign" "I" "AnnuityHouseModel") (by decide +kernel))) (fun _ h9 => h9) rfl dX12_rounded_104 ?_
          refine zr_if_ge (x := sg) (tgt := 118) hx hb (⟨by omega, by omega⟩) dX12_rounded_107 (by decide) (fun h_42 => ?_) (fun h_42 => ?_)
          · exact absurd h_42 (by omega)
          ·
            refine lv_aload hx hb dX12_rounded_110 (lv_at hl 0 rfl) ?_
            refine zc_r (wr := [(x, .inr (13, [.int (iz (th)), .int (iz (6)), w1, w2, w3, w4, w5, w6, w7, w8, w9, w10])), (a, .inr (12, [.int (iz (sg)), .ref b])), (b, zaI (G.2 1) N (f)), (rs, .inr (12, [.int (iz (s9)), .ref b9])), (b9, zaI (G.2 1) N9 (f9)), (rr, zaR (G.2 4) 2 (fr)), (rz, .inr (12, [.int (iz (sz)), .ref bz])), (bz, zaI (G.2 1) Nz (fz)), (r4, .inr (12, [.int (iz (s4)), .ref b4])), (b4, zaI (G.2 1) N4 (f4)), (a2, .inr (12, [.int (iz (sg2)), .ref b2])), (b2, zaI (G.2 1) N2 (f2))]) (va_runV (As := []) (rest := []) ⟨hx, hb, hml, hown, hts⟩ (c_X11_negated l G r7 b7 f7 N7 s7 ((-v) / v2 + 1) (hpl) H.size) (cwV 0 hts gX12_rounded_X11_negated rfl rfl rfl (by decide +kernel) ⟨Nat.le_of_ble_eq_true rfl, Nat.le_of_ble_eq_true rfl⟩) (zpV hKX hP hD [12, 13] rfl rfl 12 12 rfl rfl) rfl rfl hl.1 rfl (lv_room (Nat.le_of_ble_eq_true rfl)) dX12_rounded_112 ⟨(by first | exact Nat.le_of_ble_eq_true rfl | (show _ ≤ (45 : Nat); omega)), (by first | exact Nat.le_of_ble_eq_true rfl | (show _ ≤ (4300 : Nat); omega))⟩) hP hD hS hA [12, 13] [0, 1, 2, 3, 4, 5, 6, 7, 8, 9, 10, 11] rfl rfl rfl (by decide) (fun u_43 r8 H locs hneg hP hD hS => ?_)
            obtain ⟨b8, f8, N8, s8⟩ := u_43
            have hP : va_P G.1 vwCl [(x, .inr (13, [.int (iz (th)), .int (iz (6)), w1, w2, w3, w4, w5, w6, w7, w8, w9, w10])), (a, .inr (12, [.int (iz (sg)), .ref b])), (b, zaI (G.2 1) N (f)), (rs, .inr (12, [.int (iz (s9)), .ref b9])), (b9, zaI (G.2 1) N9 (f9)), (rr, zaR (G.2 4) 2 (fr)), (rz, .inr (12, [.int (iz (sz)), .ref bz])), (bz, zaI (G.2 1) Nz (fz)), (r4, .inr (12, [.int (iz (s4)), .ref b4])), (b4, zaI (G.2 1) N4 (f4)), (a2, .inr (12, [.int (iz (sg2)), .ref b2])), (b2, zaI (G.2 1) N2 (f2)), (r7, .inr (12, [.int (iz (s7)), .ref b7])), (b7, zaI (G.2 1) N7 (f7)), (r8, .inr (12, [.int (iz (s8)), .ref b8])), (b8, zaI (G.2 1) N8 (f8))] H := hP
            have hD : va_D A [(x, .inr (13, [.int (iz (th)), .int (iz (6)), w1, w2, w3, w4, w5, w6, w7, w8, w9, w10])), (a, .inr (12, [.int (iz (sg)), .ref b])), (b, zaI (G.2 1) N (f)), (rs, .inr (12, [.int (iz (s9)), .ref b9])), (b9, zaI (G.2 1) N9 (f9)), (rr, zaR (G.2 4) 2 (fr)), (rz, .inr (12, [.int (iz (sz)), .ref bz])), (bz, zaI (G.2 1) Nz (fz)), (r4, .inr (12, [.int (iz (s4)), .ref b4])), (b4, zaI (G.2 1) N4 (f4)), (a2, .inr (12, [.int (iz (sg2)), .ref b2])), (b2, zaI (G.2 1) N2 (f2)), (r7, .inr (12, [.int (iz (s7)), .ref b7])), (b7, zaI (G.2 1) N7 (f7)), (r8, .inr (12, [.int (iz (s8)), .ref b8])), (b8, zaI (G.2 1) N8 (f8))] := hD
            have hneg : tmw f8 N8 s8 (-((-v) / v2 + 1)) := hneg
            refine lv_goto (tgt := 120) hx hb dX12_rounded_115 (by decide) ?_
            rw [hQ]
            exact zr_aret (ra := r8) (Or.inl ⟨_, rfl⟩) (u := (b8, f8, N8, s8)) hx hb hr hlocks (hP.sub [0, 14, 15] rfl) (hD.sub [0, 14, 15] (by decide) rfl) hS (by first | exact Nat.le_of_ble_eq_true rfl | omega) (by first | exact Nat.le_of_ble_eq_true rfl | omega) dX12_rounded_120 (show tmw f8 N8 s8 (zr6 v v2) from tpost hneg (by rw [zr6_n h3, hval]))
    · exact absurd h_11 (by omega)

def rm_c_X12_rounded_no : Room := { frames := 12, cells := 45, slots := 4300, locals := 500 }
set_option maxHeartbeats 1000000 in
set_option maxRecDepth 100000 in
theorem c_X12_rounded_no (l : Launch) (G : zG) (x : Nat) (th : Int) (w1 : Value) (w2 : Value) (w3 : Value) (w4 : Value) (w5 : Value) (w6 : Value) (w7 : Value) (w8 : Value) (w9 : Value) (w10 : Value) (a : Nat) (b : Nat) (f : Int → Int) (N : Nat) (sg : Int) (a2 : Nat) (b2 : Nat) (f2 : Int → Int) (N2 : Nat) (sg2 : Int) (v : Int) (v2 : Int) (h1 : tmw f N sg v) (h2 : tmw f2 N2 sg2 v2) (h3 : v < 0) (h4 : 0 < v2) (h6 : (v.natAbs : Int) < 10000 ^ 120) (h7 : v2 < 10000 ^ 120) (h8 : N2 ≠ 1 ∧ -v < v2) : zM l G yX12_rounded wsX12_rounded rm_c_X12_rounded_no [.ref x, .ref a, .ref a2] [(x, .inr (13, [.int (iz (th)), .int (iz (6)), w1, w2, w3, w4, w5, w6, w7, w8, w9, w10])), (a, .inr (12, [.int (iz (sg)), .ref b])), (b, zaI (G.2 1) N (f)), (a2, .inr (12, [.int (iz (sg2)), .ref b2])), (b2, zaI (G.2 1) N2 (f2))] (fun A => zQr G (fun (u : (Nat × (Int → Int) × Nat × Int)) (ra : Nat) => tmw u.2.1 u.2.2.1 u.2.2.2 (zr6 v v2)) (fun (u : (Nat × (Int → Int) × Nat × Int)) (ra : Nat) => [(x, .inr (13, [.int (iz (th)), .int (iz (6)), w1, w2, w3, w4, w5, w6, w7, w8, w9, w10])), (ra, .inr (12, [.int (iz (u.2.2.2)), .ref u.1])), (u.1, zaI (G.2 1) u.2.2.1 (u.2.1))]) A) 45 4300 := by
  refine zM_of (cc := cX12_rounded) (maxL := 7) (ret := (some (.object "AnnuityHouseModel$Whole"))) (by decide) rfl (Nat.le_of_ble_eq_true rfl) ?_
  intro p e s m below meth c ls A Q hQ hx hb hr hts hown hlocks hml hnm hKX hP hD hA hS hl
  have hK := hKX.1
  have iwX11 := iw_X12_rounded_X11
  have iwX12 := iw_X12_rounded_X12
  obtain ⟨H, hH⟩ : ∃ h, h = s.heap := ⟨_, rfl⟩
  obtain ⟨locs, hlo⟩ : ∃ h : List Loc, h = [] := ⟨_, rfl⟩
  have hS : va_S A s.heap H locs := by rw [hH, hlo]; exact hS
  have hP : va_P G.1 vwCl [(x, .inr (13, [.int (iz (th)), .int (iz (6)), w1, w2, w3, w4, w5, w6, w7, w8, w9, w10])), (a, .inr (12, [.int (iz (sg)), .ref b])), (b, zaI (G.2 1) N (f)), (a2, .inr (12, [.int (iz (sg2)), .ref b2])), (b2, zaI (G.2 1) N2 (f2))] H := by rw [hH]; exact hP
  have hD : va_D A [(x, .inr (13, [.int (iz (th)), .int (iz (6)), w1, w2, w3, w4, w5, w6, w7, w8, w9, w10])), (a, .inr (12, [.int (iz (sg)), .ref b])), (b, zaI (G.2 1) N (f)), (a2, .inr (12, [.int (iz (sg2)), .ref b2])), (b2, zaI (G.2 1) N2 (f2))] := hD
  have hl : lv_has ls 7 [(0, .ref x), (1, .ref a), (2, .ref a2)] := hl
  rw [← hH, ← hlo]
  have g1 := h1.sgi
  have s1 := h1.sgn
  have n2 := h2.n
  have p1 := Int.sign_eq_neg_one_of_neg h3
  refine lv_aload_n hx hb dX12_rounded_0 rfl (lv_at hl 1 rfl) ?_
  refine zc_r (wr := [(x, .inr (13, [.int (iz (th)), .int (iz (6)), w1, w2, w3, w4, w5, w6, w7, w8, w9, w10])), (a2, .inr (12, [.int (iz (sg2)), .ref b2])), (b2, zaI (G.2 1) N2 (f2))]) (va_runV (As := []) (rest := []) ⟨hx, hb, hml, hown, hts⟩ (c_X11_size_n l G a b f N sg v (h1) (h3) H.size) (cwV 0 hts gX12_rounded_X11_size rfl rfl rfl (by decide +kernel) ⟨Nat.le_of_ble_eq_true rfl, Nat.le_of_ble_eq_true rfl⟩) (zpV hKX hP hD [1, 2] rfl rfl 1 12 rfl rfl) rfl rfl hl.1 rfl (lv_room (Nat.le_of_ble_eq_true rfl)) dX12_rounded_1 ⟨(by first | exact Nat.le_of_ble_eq_true rfl | (show _ ≤ (45 : Nat); omega)), (by first | exact Nat.le_of_ble_eq_true rfl | (show _ ≤ (4300 : Nat); omega))⟩) hP hD hS hA [1, 2] [0, 3, 4] rfl rfl rfl (by decide) (fun u_1 rs H locs hs9 hP hD hS => ?_)
  obtain ⟨b9, f9, N9, s9⟩ := u_1
  have hP : va_P G.1 vwCl [(x, .inr (13, [.int (iz (th)), .int (iz (6)), w1, w2, w3, w4, w5, w6, w7, w8, w9, w10])), (a2, .inr (12, [.int (iz (sg2)), .ref b2])), (b2, zaI (G.2 1) N2 (f2)), (a, .inr (12, [.int (iz (sg)), .ref b])), (b, zaI (G.2 1) N (f)), (rs, .inr (12, [.int (iz (s9)), .ref b9])), (b9, zaI (G.2 1) N9 (f9))] H := hP
  have hD : va_D A [(x, .inr (13, [.int (iz (th)), .int (iz (6)), w1, w2, w3, w4, w5, w6, w7, w8, w9, w10])), (a2, .inr (12, [.int (iz (sg2)), .ref b2])), (b2, zaI (G.2 1) N2 (f2)), (a, .inr (12, [.int (iz (sg)), .ref b])), (b, zaI (G.2 1) N (f)), (rs, .inr (12, [.int (iz (s9)), .ref b9])), (b9, zaI (G.2 1) N9 (f9))] := hD
  have hs9 : tmw f9 N9 s9 (-v) := hs9
  refine lv_aload_n hx hb dX12_rounded_4 rfl (lv_at hl 2 rfl) ?_
  refine zc_r (wr := [(x, .inr (13, [.int (iz (th)), .int (iz (6)), w1, w2, w3, w4, w5, w6, w7, w8, w9, w10])), (a, .inr (12, [.int (iz (sg)), .ref b])), (b, zaI (G.2 1) N (f))]) (va_runV (As := [.ref a2]) (rest := []) ⟨hx, hb, hml, hown, hts⟩ (c_X11_divided_o l G rs b9 f9 N9 s9 a2 b2 f2 N2 sg2 (-v) v2 (hs9) (h2) (by omega) (h4) (h8) H.size) (cwV 1 hts gX12_rounded_X11_divided rfl rfl rfl (by decide +kernel) ⟨Nat.le_of_ble_eq_true rfl, Nat.le_of_ble_eq_true rfl⟩) (zpV hKX hP hD [5, 6, 1, 2] rfl rfl 5 12 rfl rfl) rfl rfl hl.1 rfl (lv_room (Nat.le_of_ble_eq_true rfl)) dX12_rounded_5 ⟨(by first | exact Nat.le_of_ble_eq_true rfl | (show _ ≤ (45 : Nat); omega)), (by first | exact Nat.le_of_ble_eq_true rfl | (show _ ≤ (4300 : Nat); omega))⟩) hP hD hS hA [5, 6, 1, 2] [0, 3, 4] rfl rfl rfl (by decide) (fun u_3 rr H locs hd hP hD hS => ?_)
  obtain ⟨fr, rq, bq, fq, Nq, sq⟩ := u_3
  have hP : va_P G.1 vwCl [(x, .inr (13, [.int (iz (th)), .int (iz (6)), w1, w2, w3, w4, w5, w6, w7, w8, w9, w10])), (a, .inr (12, [.int (iz (sg)), .ref b])), (b, zaI (G.2 1) N (f)), (rs, .inr (12, [.int (iz (s9)), .ref b9])), (b9, zaI (G.2 1) N9 (f9)), (a2, .inr (12, [.int (iz (sg2)), .ref b2])), (b2, zaI (G.2 1) N2 (f2)), (rr, zaR (G.2 4) 2 (fr)), (rq, .inr (12, [.int (iz (sq)), .ref bq])), (bq, zaI (G.2 1) Nq (fq))] H := hP
  have hD : va_D A [(x, .inr (13, [.int (iz (th)), .int (iz (6)), w1, w2, w3, w4, w5, w6, w7, w8, w9, w10])), (a, .inr (12, [.int (iz (sg)), .ref b])), (b, zaI (G.2 1) N (f)), (rs, .inr (12, [.int (iz (s9)), .ref b9])), (b9, zaI (G.2 1) N9 (f9)), (a2, .inr (12, [.int (iz (sg2)), .ref b2])), (b2, zaI (G.2 1) N2 (f2)), (rr, zaR (G.2 4) 2 (fr)), (rq, .inr (12, [.int (iz (sq)), .ref bq])), (bq, zaI (G.2 1) Nq (fq))] := hD
  have hd : fr 0 = some rq ∧ fr 1 = some rs ∧ tmw fq Nq sq ((-v) / v2) := hd
  have hz : tmw f9 N9 s9 ((-v) % v2) := tpost hs9 (Int.emod_eq_of_lt (by omega) h8.2).symm
  have hqv := hd.2.2
  have hr0 := Int.emod_nonneg (-v) (show v2 ≠ 0 by omega)
  have hr1 := Int.emod_lt_of_pos (-v) h4
  have hq0 : 0 ≤ (-v) / v2 := Int.ediv_nonneg (by omega) (by omega)
  have hqle : (-v) / v2 ≤ (-v) := Int.ediv_le_self _ (by omega)
  refine lv_astore_n (lv' := [(3, .ref rr), (0, .ref x), (1, .ref a), (2, .ref a2)]) hx hb dX12_rounded_8 rfl hl (by decide) rfl (fun ls hl => ?_)
  refine lv_aload_n hx hb dX12_rounded_9 rfl (lv_at hl 0 rfl) ?_
  refine lv_iconst (v := iz (0)) hx hb dX12_rounded_10 rfl ?_
  refine zr_aldq (v := rq) hx hb hK hP 7 4 rfl rfl (i := 0) (⟨by omega, by omega, by omega⟩) (hd.1) dX12_rounded_11 ?_
  refine lv_astore (lv' := [(4, .ref rq), (3, .ref rr), (0, .ref x), (1, .ref a), (2, .ref a2)]) hx hb dX12_rounded_12 hl (by decide) rfl (fun ls hl => ?_)
  refine lv_aload_n hx hb dX12_rounded_14 rfl (lv_at hl 1 rfl) ?_
  refine lv_iconst (v := iz (1)) hx hb dX12_rounded_15 rfl ?_
  refine zr_aldq (v := rs) hx hb hK hP 7 4 rfl rfl (i := 1) (⟨by omega, by omega, by omega⟩) (hd.2.1) dX12_rounded_16 ?_
  refine zc_z (wr := [(x, .inr (13, [.int (iz (th)), .int (iz (6)), w1, w2, w3, w4, w5, w6, w7, w8, w9, w10])), (a, .inr (12, [.int (iz (sg)), .ref b])), (b, zaI (G.2 1) N (f)), (a2, .inr (12, [.int (iz (sg2)), .ref b2])), (b2, zaI (G.2 1) N2 (f2)), (rr, zaR (G.2 4) 2 (fr)), (rq, .inr (12, [.int (iz (sq)), .ref bq])), (bq, zaI (G.2 1) Nq (fq))]) (va_runV (As := []) (rest := []) ⟨hx, hb, hml, hown, hts⟩ (c_X11_isNothing l G rs b9 f9 N9 s9 ((-v) % v2) (hz) H.size) (cwV 0 hts gX12_rounded_X11_isNothing rfl rfl rfl (by decide +kernel) ⟨Nat.le_of_ble_eq_true rfl, Nat.le_of_ble_eq_true rfl⟩) (zpV hKX hP hD [3, 4] rfl rfl 3 12 rfl rfl) rfl rfl hl.1 rfl (lv_room (Nat.le_of_ble_eq_true rfl)) dX12_rounded_17 ⟨(by first | exact Nat.le_of_ble_eq_true rfl | (show _ ≤ (45 : Nat); omega)), (by first | exact Nat.le_of_ble_eq_true rfl | (show _ ≤ (4300 : Nat); omega))⟩) hP hD hS hA [3, 4] [0, 1, 2, 5, 6, 7, 8, 9] rfl rfl rfl (by decide) (fun en u_5 H locs hen hP hD hS => ?_)
  have hP : va_P G.1 vwCl [(x, .inr (13, [.int (iz (th)), .int (iz (6)), w1, w2, w3, w4, w5, w6, w7, w8, w9, w10])), (a, .inr (12, [.int (iz (sg)), .ref b])), (b, zaI (G.2 1) N (f)), (a2, .inr (12, [.int (iz (sg2)), .ref b2])), (b2, zaI (G.2 1) N2 (f2)), (rr, zaR (G.2 4) 2 (fr)), (rq, .inr (12, [.int (iz (sq)), .ref bq])), (bq, zaI (G.2 1) Nq (fq)), (rs, .inr (12, [.int (iz (s9)), .ref b9])), (b9, zaI (G.2 1) N9 (f9))] H := hP
  have hD : va_D A [(x, .inr (13, [.int (iz (th)), .int (iz (6)), w1, w2, w3, w4, w5, w6, w7, w8, w9, w10])), (a, .inr (12, [.int (iz (sg)), .ref b])), (b, zaI (G.2 1) N (f)), (a2, .inr (12, [.int (iz (sg2)), .ref b2])), (b2, zaI (G.2 1) N2 (f2)), (rr, zaR (G.2 4) 2 (fr)), (rq, .inr (12, [.int (iz (sq)), .ref bq])), (bq, zaI (G.2 1) Nq (fq)), (rs, .inr (12, [.int (iz (s9)), .ref b9])), (b9, zaI (G.2 1) N9 (f9))] := hD
  have hen : en = decide (((-v) % v2) = 0) := hen
  refine zr_ifz_ne (tgt := 103) hx hb dX12_rounded_20 (by decide) (fun h_7 => ?_) (fun h_7 => ?_)
  ·
    have hzen := of_decide_eq_true (hen.symm.trans h_7)
    have hval := zhe_ex (show ((v).natAbs : Int) = -v by omega) h4 (of_decide_eq_true (hen.symm.trans h_7))
    have hq2e : ((((-v) / v2).natAbs : Int)) = (-v) / v2 := by omega
    refine lv_aload_n hx hb dX12_rounded_103 rfl (lv_at hl 3 rfl) ?_
    refine va_getN (D := G.1) (host := "AnnuityHouseModel") (ci := 12) (v := .int (iz (sg))) (C := RX11) (T := TX11) (N := 2) hx hb hts iwX11 hown hK hP 1 rfl rfl 0 (by decide) (va_Nw.use rfl (hKX.2.2.2 (.fieldLinkNest "AnnuityHouseModel" 39 "AnnuityHouseModel$Whole" "sign" "I" "AnnuityHouseModel") (by decide +kernel))) (fun _ h9 => h9) rfl dX12_rounded_104 ?_
    refine zr_if_ge (x := sg) (tgt := 118) hx hb (⟨by omega, by omega⟩) dX12_rounded_107 (by decide) (fun h_8 => ?_) (fun h_8 => ?_)
    · exact absurd h_8 (by omega)
    ·
      refine lv_aload hx hb dX12_rounded_110 (lv_at hl 0 rfl) ?_
      refine zc_r (wr := [(x, .inr (13, [.int (iz (th)), .int (iz (6)), w1, w2, w3, w4, w5, w6, w7, w8, w9, w10])), (a, .inr (12, [.int (iz (sg)), .ref b])), (b, zaI (G.2 1) N (f)), (a2, .inr (12, [.int (iz (sg2)), .ref b2])), (b2, zaI (G.2 1) N2 (f2)), (rr, zaR (G.2 4) 2 (fr)), (rs, .inr (12, [.int (iz (s9)), .ref b9])), (b9, zaI (G.2 1) N9 (f9))]) (va_runV (As := []) (rest := []) ⟨hx, hb, hml, hown, hts⟩ (c_X11_negated l G rq bq fq Nq sq ((-v) / v2) (hqv) H.size) (cwV 0 hts gX12_rounded_X11_negated rfl rfl rfl (by decide +kernel) ⟨Nat.le_of_ble_eq_true rfl, Nat.le_of_ble_eq_true rfl⟩) (zpV hKX hP hD [6, 7] rfl rfl 6 12 rfl rfl) rfl rfl hl.1 rfl (lv_room (Nat.le_of_ble_eq_true rfl)) dX12_rounded_112 ⟨(by first | exact Nat.le_of_ble_eq_true rfl | (show _ ≤ (45 : Nat); omega)), (by first | exact Nat.le_of_ble_eq_true rfl | (show _ ≤ (4300 : Nat); omega))⟩) hP hD hS hA [6, 7] [0, 1, 2, 3, 4, 5, 8, 9] rfl rfl rfl (by decide) (fun u_9 r8 H locs hneg hP hD hS => ?_)
      obtain ⟨b8, f8, N8, s8⟩ := u_9
      have hP : va_P G.1 vwCl [(x, .inr (13, [.int (iz (th)), .int (iz (6)), w1, w2, w3, w4, w5, w6, w7, w8, w9, w10])), (a, .inr (12, [.int (iz (sg)), .ref b])), (b, zaI (G.2 1) N (f)), (a2, .inr (12, [.int (iz (sg2)), .ref b2])), (b2, zaI (G.2 1) N2 (f2)), (rr, zaR (G.2 4) 2 (fr)), (rs, .inr (12, [.int (iz (s9)), .ref b9])), (b9, zaI (G.2 1) N9 (f9)), (rq, .inr (12, [.int (iz (sq)), .ref bq])), (bq, zaI (G.2 1) Nq (fq)), (r8, .inr (12, [.int (iz (s8)), .ref b8])), (b8, zaI (G.2 1) N8 (f8))] H := hP
      have hD : va_D A [(x, .inr (13, [.int (iz (th)), .int (iz (6)), w1, w2, w3, w4, w5, w6, w7, w8, w9, w10])), (a, .inr (12, [.int (iz (sg)), .ref b])), (b, zaI (G.2 1) N (f)), (a2, .inr (12, [.int (iz (sg2)), .ref b2])), (b2, zaI (G.2 1) N2 (f2)), (rr, zaR (G.2 4) 2 (fr)), (rs, .inr (12, [.int (iz (s9)), .ref b9])), (b9, zaI (G.2 1) N9 (f9)), (rq, .inr (12, [.int (iz (sq)), .ref bq])), (bq, zaI (G.2 1) Nq (fq)), (r8, .inr (12, [.int (iz (s8)), .ref b8])), (b8, zaI (G.2 1) N8 (f8))] := hD
      have hneg : tmw f8 N8 s8 (-((-v) / v2)) := hneg
      refine lv_goto (tgt := 120) hx hb dX12_rounded_115 (by decide) ?_
      rw [hQ]
      exact zr_aret (ra := r8) (Or.inl ⟨_, rfl⟩) (u := (b8, f8, N8, s8)) hx hb hr hlocks (hP.sub [0, 10, 11] rfl) (hD.sub [0, 10, 11] (by decide) rfl) hS (by first | exact Nat.le_of_ble_eq_true rfl | omega) (by first | exact Nat.le_of_ble_eq_true rfl | omega) dX12_rounded_120 (show tmw f8 N8 s8 (zr6 v v2) from tpost hneg (by rw [zr6_n h3, hval]))
  ·
    have hzen := of_decide_eq_false (hen.symm.trans h_7)
    have hen0 := h_7
    refine lv_aload_n hx hb dX12_rounded_23 rfl (lv_at hl 2 rfl) ?_
    refine va_get (D := G.1) (ci := 13) (v := .int (iz (6))) (C := RX12) (T := TX12) (N := 12) hx hb hts iwX12 hown hK hP 0 rfl rfl 1 (by decide) (hts (.fieldLink RX12 29 "AnnuityHouseModel" "mode" "I") (by decide +kernel)) (fun _ h9 => h9) rfl dX12_rounded_24 ?_
    refine lv_bipush (v := iz (7)) hx hb dX12_rounded_27 rfl ?_
    refine zr_icmp_ne (x := 6) (y := 7) (tgt := 34) hx hb (⟨by omega, by omega⟩) (⟨by omega, by omega⟩) dX12_rounded_29 (by decide) (fun h_11 => ?_) (fun h_11 => ?_)
    ·
      refine lv_aload_n hx hb dX12_rounded_34 rfl (lv_at hl 1 rfl) ?_
      refine lv_iconst (v := iz (1)) hx hb dX12_rounded_35 rfl ?_
      refine zr_aldq (v := rs) hx hb hK hP 5 4 rfl rfl (i := 1) (⟨by omega, by omega, by omega⟩) (hd.2.1) dX12_rounded_36 ?_
      refine lv_aload_n hx hb dX12_rounded_37 rfl (lv_at hl 1 rfl) ?_
      refine lv_iconst (v := iz (1)) hx hb dX12_rounded_38 rfl ?_
      refine zr_aldq (v := rs) hx hb hK hP 5 4 rfl rfl (i := 1) (⟨by omega, by omega, by omega⟩) (hd.2.1) dX12_rounded_39 ?_
      refine zc_r (wr := [(x, .inr (13, [.int (iz (th)), .int (iz (6)), w1, w2, w3, w4, w5, w6, w7, w8, w9, w10])), (a, .inr (12, [.int (iz (sg)), .ref b])), (b, zaI (G.2 1) N (f)), (a2, .inr (12, [.int (iz (sg2)), .ref b2])), (b2, zaI (G.2 1) N2 (f2)), (rr, zaR (G.2 4) 2 (fr)), (rq, .inr (12, [.int (iz (sq)), .ref bq])), (bq, zaI (G.2 1) Nq (fq))]) (va_runV (As := [.ref rs]) (rest := []) ⟨hx, hb, hml, hown, hts⟩ (c_X11_plus_k l G rs b9 f9 N9 s9 ((-v) % v2) (hz) (tr_dbl h7 hr0 hr1) (by have := of_decide_eq_false (hen.symm.trans hen0); omega) H.size) (cwV 1 hts gX12_rounded_X11_plus rfl rfl rfl (by decide +kernel) ⟨Nat.le_of_ble_eq_true rfl, Nat.le_of_ble_eq_true rfl⟩) (zpV hKX hP hD [8, 9] rfl rfl 8 12 rfl rfl) rfl rfl hl.1 rfl (lv_room (Nat.le_of_ble_eq_true rfl)) dX12_rounded_40 ⟨(by first | exact Nat.le_of_ble_eq_true rfl | (show _ ≤ (45 : Nat); omega)), (by first | exact Nat.le_of_ble_eq_true rfl | (show _ ≤ (4300 : Nat); omega))⟩) hP hD hS hA [8, 9] [0, 1, 2, 3, 4, 5, 6, 7] rfl rfl rfl (by decide) (fun u_12 r4 H locs hp hP hD hS => ?_)
      obtain ⟨b4, f4, N4, s4⟩ := u_12
      have hP : va_P G.1 vwCl [(x, .inr (13, [.int (iz (th)), .int (iz (6)), w1, w2, w3, w4, w5, w6, w7, w8, w9, w10])), (a, .inr (12, [.int (iz (sg)), .ref b])), (b, zaI (G.2 1) N (f)), (a2, .inr (12, [.int (iz (sg2)), .ref b2])), (b2, zaI (G.2 1) N2 (f2)), (rr, zaR (G.2 4) 2 (fr)), (rq, .inr (12, [.int (iz (sq)), .ref bq])), (bq, zaI (G.2 1) Nq (fq)), (rs, .inr (12, [.int (iz (s9)), .ref b9])), (b9, zaI (G.2 1) N9 (f9)), (r4, .inr (12, [.int (iz (s4)), .ref b4])), (b4, zaI (G.2 1) N4 (f4))] H := hP
      have hD : va_D A [(x, .inr (13, [.int (iz (th)), .int (iz (6)), w1, w2, w3, w4, w5, w6, w7, w8, w9, w10])), (a, .inr (12, [.int (iz (sg)), .ref b])), (b, zaI (G.2 1) N (f)), (a2, .inr (12, [.int (iz (sg2)), .ref b2])), (b2, zaI (G.2 1) N2 (f2)), (rr, zaR (G.2 4) 2 (fr)), (rq, .inr (12, [.int (iz (sq)), .ref bq])), (bq, zaI (G.2 1) Nq (fq)), (rs, .inr (12, [.int (iz (s9)), .ref b9])), (b9, zaI (G.2 1) N9 (f9)), (r4, .inr (12, [.int (iz (s4)), .ref b4])), (b4, zaI (G.2 1) N4 (f4))] := hD
      have hp : tmw f4 N4 s4 (((-v) % v2) + ((-v) % v2)) := hp
      refine lv_aload_n hx hb dX12_rounded_43 rfl (lv_at hl 4 rfl) ?_
      refine zc_i (wr := [(x, .inr (13, [.int (iz (th)), .int (iz (6)), w1, w2, w3, w4, w5, w6, w7, w8, w9, w10])), (a, .inr (12, [.int (iz (sg)), .ref b])), (b, zaI (G.2 1) N (f)), (rr, zaR (G.2 4) 2 (fr)), (rq, .inr (12, [.int (iz (sq)), .ref bq])), (bq, zaI (G.2 1) Nq (fq)), (rs, .inr (12, [.int (iz (s9)), .ref b9])), (b9, zaI (G.2 1) N9 (f9))]) (va_runV (As := [.ref a2]) (rest := []) ⟨hx, hb, hml, hown, hts⟩ (c_X11_comparedSize l G r4 b4 f4 N4 s4 a2 b2 f2 N2 sg2 ((-v) % v2 + (-v) % v2) v2 (hp) (h2) H.size) (cwV 1 hts gX12_rounded_X11_comparedSize rfl rfl rfl (by decide +kernel) ⟨Nat.le_of_ble_eq_true rfl, Nat.le_of_ble_eq_true rfl⟩) (zpV hKX hP hD [10, 11, 3, 4] rfl rfl 10 12 rfl rfl) rfl rfl hl.1 rfl (lv_room (Nat.le_of_ble_eq_true rfl)) dX12_rounded_44 ⟨(by first | exact Nat.le_of_ble_eq_true rfl | (show _ ≤ (45 : Nat); omega)), (by first | exact Nat.le_of_ble_eq_true rfl | (show _ ≤ (4300 : Nat); omega))⟩) hP hD hS hA [10, 11, 3, 4] [0, 1, 2, 5, 6, 7, 8, 9] rfl rfl rfl (by decide) (fun hf u_14 H locs hhf hP hD hS => ?_)
      have hP : va_P G.1 vwCl [(x, .inr (13, [.int (iz (th)), .int (iz (6)), w1, w2, w3, w4, w5, w6, w7, w8, w9, w10])), (a, .inr (12, [.int (iz (sg)), .ref b])), (b, zaI (G.2 1) N (f)), (rr, zaR (G.2 4) 2 (fr)), (rq, .inr (12, [.int (iz (sq)), .ref bq])), (bq, zaI (G.2 1) Nq (fq)), (rs, .inr (12, [.int (iz (s9)), .ref b9])), (b9, zaI (G.2 1) N9 (f9)), (r4, .inr (12, [.int (iz (s4)), .ref b4])), (b4, zaI (G.2 1) N4 (f4)), (a2, .inr (12, [.int (iz (sg2)), .ref b2])), (b2, zaI (G.2 1) N2 (f2))] H := hP
      have hD : va_D A [(x, .inr (13, [.int (iz (th)), .int (iz (6)), w1, w2, w3, w4, w5, w6, w7, w8, w9, w10])), (a, .inr (12, [.int (iz (sg)), .ref b])), (b, zaI (G.2 1) N (f)), (rr, zaR (G.2 4) 2 (fr)), (rq, .inr (12, [.int (iz (sq)), .ref bq])), (bq, zaI (G.2 1) Nq (fq)), (rs, .inr (12, [.int (iz (s9)), .ref b9])), (b9, zaI (G.2 1) N9 (f9)), (r4, .inr (12, [.int (iz (s4)), .ref b4])), (b4, zaI (G.2 1) N4 (f4)), (a2, .inr (12, [.int (iz (sg2)), .ref b2])), (b2, zaI (G.2 1) N2 (f2))] := hD
      have hhf : hf = ((((-v) % v2 + (-v) % v2).natAbs : Int) - (v2.natAbs : Int)).sign := hhf
      have hsr := tsgn_rng ((((-v) % v2 + (-v) % v2).natAbs : Int) - (v2.natAbs : Int))
      refine lv_istore (lv' := [(5, .int (iz (hf))), (4, .ref rq), (3, .ref rr), (0, .ref x), (1, .ref a), (2, .ref a2)]) hx hb dX12_rounded_47 hl (by decide) rfl (fun ls hl => ?_)
      refine lv_aload_n hx hb dX12_rounded_49 rfl (lv_at hl 3 rfl) ?_
      refine va_get (D := G.1) (ci := 13) (v := .int (iz (6))) (C := RX12) (T := TX12) (N := 12) hx hb hts iwX12 hown hK hP 0 rfl rfl 1 (by decide) (hts (.fieldLink RX12 29 "AnnuityHouseModel" "mode" "I") (by decide +kernel)) (fun _ h9 => h9) rfl dX12_rounded_50 ?_
      refine lv_aload_n hx hb dX12_rounded_53 rfl (lv_at hl 4 rfl) ?_
      refine va_getN (D := G.1) (host := "AnnuityHouseModel") (ci := 12) (v := .int (iz (sg))) (C := RX11) (T := TX11) (N := 2) hx hb hts iwX11 hown hK hP 1 rfl rfl 0 (by decide) (va_Nw.use rfl (hKX.2.2.2 (.fieldLinkNest "AnnuityHouseModel" 39 "AnnuityHouseModel$Whole" "sign" "I" "AnnuityHouseModel") (by decide +kernel))) (fun _ h9 => h9) rfl dX12_rounded_54 ?_
      refine lv_iload hx hb dX12_rounded_57 (lv_at hl 0 rfl) ?_
      refine lv_aload hx hb dX12_rounded_59 (lv_at hl 1 rfl) ?_
      refine zr_ldc2 (z := 2) hx hb hown (hts (.constantLong RX12 42 (2)) (by decide +kernel)) rfl dX12_rounded_61 ?_
      refine zc_l (wr := [(x, .inr (13, [.int (iz (th)), .int (iz (6)), w1, w2, w3, w4, w5, w6, w7, w8, w9, w10])), (a, .inr (12, [.int (iz (sg)), .ref b])), (b, zaI (G.2 1) N (f)), (rr, zaR (G.2 4) 2 (fr)), (rs, .inr (12, [.int (iz (s9)), .ref b9])), (b9, zaI (G.2 1) N9 (f9)), (r4, .inr (12, [.int (iz (s4)), .ref b4])), (b4, zaI (G.2 1) N4 (f4)), (a2, .inr (12, [.int (iz (sg2)), .ref b2])), (b2, zaI (G.2 1) N2 (f2))]) (va_runV (As := [.long (lz (2))]) (rest := [.int (iz (hf)), .int (iz (sg)), .int (iz (6))]) ⟨hx, hb, hml, hown, hts⟩ (c_X11_rest l G rq bq fq Nq sq ((-v) / v2) 2 (hqv) (by omega) H.size) (cwV 1 hts gX12_rounded_X11_rest rfl rfl rfl (by decide +kernel) ⟨Nat.le_of_ble_eq_true rfl, Nat.le_of_ble_eq_true rfl⟩) (zpV hKX hP hD [4, 5] rfl rfl 4 12 rfl rfl) rfl rfl hl.1 rfl (lv_room (Nat.le_of_ble_eq_true rfl)) dX12_rounded_64 ⟨(by first | exact Nat.le_of_ble_eq_true rfl | (show _ ≤ (45 : Nat); omega)), (by first | exact Nat.le_of_ble_eq_true rfl | (show _ ≤ (4300 : Nat); omega))⟩) hP hD hS hA [4, 5] [0, 1, 2, 3, 6, 7, 8, 9, 10, 11] rfl rfl rfl (by decide) (fun od2 u_16 H locs hod hP hD hS => ?_)
      have hP : va_P G.1 vwCl [(x, .inr (13, [.int (iz (th)), .int (iz (6)), w1, w2, w3, w4, w5, w6, w7, w8, w9, w10])), (a, .inr (12, [.int (iz (sg)), .ref b])), (b, zaI (G.2 1) N (f)), (rr, zaR (G.2 4) 2 (fr)), (rs, .inr (12, [.int (iz (s9)), .ref b9])), (b9, zaI (G.2 1) N9 (f9)), (r4, .inr (12, [.int (iz (s4)), .ref b4])), (b4, zaI (G.2 1) N4 (f4)), (a2, .inr (12, [.int (iz (sg2)), .ref b2])), (b2, zaI (G.2 1) N2 (f2)), (rq, .inr (12, [.int (iz (sq)), .ref bq])), (bq, zaI (G.2 1) Nq (fq))] H := hP
      have hD : va_D A [(x, .inr (13, [.int (iz (th)), .int (iz (6)), w1, w2, w3, w4, w5, w6, w7, w8, w9, w10])), (a, .inr (12, [.int (iz (sg)), .ref b])), (b, zaI (G.2 1) N (f)), (rr, zaR (G.2 4) 2 (fr)), (rs, .inr (12, [.int (iz (s9)), .ref b9])), (b9, zaI (G.2 1) N9 (f9)), (r4, .inr (12, [.int (iz (s4)), .ref b4])), (b4, zaI (G.2 1) N4 (f4)), (a2, .inr (12, [.int (iz (sg2)), .ref b2])), (b2, zaI (G.2 1) N2 (f2)), (rq, .inr (12, [.int (iz (sq)), .ref bq])), (bq, zaI (G.2 1) Nq (fq))] := hD
      have hod : od2 = (((-v) / v2).natAbs : Int) % (2 : Int) := hod
      refine lv_lconst (v := lz (1)) hx hb dX12_rounded_67 rfl ?_
      refine zr_lcmp_ne (x := od2) (y := 1) (tgt := 76) hx hb (⟨by omega, by omega⟩) (⟨by omega, by omega⟩) dX12_rounded_68 dX12_rounded_69 (by decide) (fun h_18 => ?_) (fun h_18 => ?_)
      ·
        refine lv_iconst (v := iz (0)) hx hb dX12_rounded_76 rfl ?_
        refine zc_z (wr := [(x, .inr (13, [.int (iz (th)), .int (iz (6)), w1, w2, w3, w4, w5, w6, w7, w8, w9, w10])), (a, .inr (12, [.int (iz (sg)), .ref b])), (b, zaI (G.2 1) N (f)), (rr, zaR (G.2 4) 2 (fr)), (rs, .inr (12, [.int (iz (s9)), .ref b9])), (b9, zaI (G.2 1) N9 (f9)), (r4, .inr (12, [.int (iz (s4)), .ref b4])), (b4, zaI (G.2 1) N4 (f4)), (a2, .inr (12, [.int (iz (sg2)), .ref b2])), (b2, zaI (G.2 1) N2 (f2)), (rq, .inr (12, [.int (iz (sq)), .ref bq])), (bq, zaI (G.2 1) Nq (fq))]) (va_runS (As := [.int (iz (6)), .int (iz (sg)), .int (iz (hf)), .int (iz (0))]) (rest := []) ⟨hx, hb, hml, hown, hts⟩ (c_X12_isRoundedUp l G sg hf false (by omega) H.size) (va_cwS 4 hts gX12_rounded_X12_isRoundedUp rfl rfl rfl (by decide +kernel) ⟨Nat.le_of_ble_eq_true rfl, Nat.le_of_ble_eq_true rfl⟩) (zpS hKX hP hD [] rfl rfl) rfl rfl hl.1 rfl (lv_room (Nat.le_of_ble_eq_true rfl)) dX12_rounded_77 ⟨(by first | exact Nat.le_of_ble_eq_true rfl | (show _ ≤ (45 : Nat); omega)), (by first | exact Nat.le_of_ble_eq_true rfl | (show _ ≤ (4300 : Nat); omega))⟩) hP hD hS hA [] [0, 1, 2, 3, 4, 5, 6, 7, 8, 9, 10, 11] rfl rfl rfl (by decide) (fun up u_19 H locs hup hP hD hS => ?_)
        have hP : va_P G.1 vwCl [(x, .inr (13, [.int (iz (th)), .int (iz (6)), w1, w2, w3, w4, w5, w6, w7, w8, w9, w10])), (a, .inr (12, [.int (iz (sg)), .ref b])), (b, zaI (G.2 1) N (f)), (rr, zaR (G.2 4) 2 (fr)), (rs, .inr (12, [.int (iz (s9)), .ref b9])), (b9, zaI (G.2 1) N9 (f9)), (r4, .inr (12, [.int (iz (s4)), .ref b4])), (b4, zaI (G.2 1) N4 (f4)), (a2, .inr (12, [.int (iz (sg2)), .ref b2])), (b2, zaI (G.2 1) N2 (f2)), (rq, .inr (12, [.int (iz (sq)), .ref bq])), (bq, zaI (G.2 1) Nq (fq))] H := hP
        have hD : va_D A [(x, .inr (13, [.int (iz (th)), .int (iz (6)), w1, w2, w3, w4, w5, w6, w7, w8, w9, w10])), (a, .inr (12, [.int (iz (sg)), .ref b])), (b, zaI (G.2 1) N (f)), (rr, zaR (G.2 4) 2 (fr)), (rs, .inr (12, [.int (iz (s9)), .ref b9])), (b9, zaI (G.2 1) N9 (f9)), (r4, .inr (12, [.int (iz (s4)), .ref b4])), (b4, zaI (G.2 1) N4 (f4)), (a2, .inr (12, [.int (iz (sg2)), .ref b2])), (b2, zaI (G.2 1) N2 (f2)), (rq, .inr (12, [.int (iz (sq)), .ref bq])), (bq, zaI (G.2 1) Nq (fq))] := hD
        have hup : up = decide (0 < hf ∨ (hf = 0 ∧ false = true)) := hup
        refine lv_istore (lv' := [(6, .int (iz (zbb up))), (5, .int (iz (hf))), (4, .ref rq), (3, .ref rr), (0, .ref x), (1, .ref a), (2, .ref a2)]) hx hb dX12_rounded_80 hl (by decide) rfl (fun ls hl => ?_)
        refine lv_iload hx hb dX12_rounded_82 (lv_at hl 0 rfl) ?_
        refine zr_ifz_eq (tgt := 99) hx hb dX12_rounded_84 (by decide) (fun h_21 => ?_) (fun h_21 => ?_)
        ·
          have hzup := of_decide_eq_false (hup.symm.trans h_21)
          have hval := zhe_dn (show ((v).natAbs : Int) = -v by omega) h4 hr0 hhf (by first | exact ⟨fun _ => (by omega), fun _ => rfl⟩ | exact ⟨fun q => (by cases q), fun q => (by omega)⟩) (h_21 ▸ hup)
          refine lv_aload hx hb dX12_rounded_99 (lv_at hl 2 rfl) ?_
          refine lv_astore (lv' := [(4, .ref rq), (6, .int (iz (zbb up))), (5, .int (iz (hf))), (3, .ref rr), (0, .ref x), (1, .ref a), (2, .ref a2)]) hx hb dX12_rounded_101 hl (by decide) rfl (fun ls hl => ?_)
          have hq2e : ((((-v) / v2).natAbs : Int)) = (-v) / v2 := by omega
          refine lv_aload_n hx hb dX12_rounded_103 rfl (lv_at hl 5 rfl) ?_
          refine va_getN (D := G.1) (host := "AnnuityHouseModel") (ci := 12) (v := .int (iz (sg))) (C := RX11) (T := TX11) (N := 2) hx hb hts iwX11 hown hK hP 1 rfl rfl 0 (by decide) (va_Nw.use rfl (hKX.2.2.2 (.fieldLinkNest "AnnuityHouseModel" 39 "AnnuityHouseModel$Whole" "sign" "I" "AnnuityHouseModel") (by decide +kernel))) (fun _ h9 => h9) rfl dX12_rounded_104 ?_
          refine zr_if_ge (x := sg) (tgt := 118) hx hb (⟨by omega, by omega⟩) dX12_rounded_107 (by decide) (fun h_22 => ?_) (fun h_22 => ?_)
          · exact absurd h_22 (by omega)
          ·
            refine lv_aload hx hb dX12_rounded_110 (lv_at hl 0 rfl) ?_
            refine zc_r (wr := [(x, .inr (13, [.int (iz (th)), .int (iz (6)), w1, w2, w3, w4, w5, w6, w7, w8, w9, w10])), (a, .inr (12, [.int (iz (sg)), .ref b])), (b, zaI (G.2 1) N (f)), (rr, zaR (G.2 4) 2 (fr)), (rs, .inr (12, [.int (iz (s9)), .ref b9])), (b9, zaI (G.2 1) N9 (f9)), (r4, .inr (12, [.int (iz (s4)), .ref b4])), (b4, zaI (G.2 1) N4 (f4)), (a2, .inr (12, [.int (iz (sg2)), .ref b2])), (b2, zaI (G.2 1) N2 (f2))]) (va_runV (As := []) (rest := []) ⟨hx, hb, hml, hown, hts⟩ (c_X11_negated l G rq bq fq Nq sq ((-v) / v2) (hqv) H.size) (cwV 0 hts gX12_rounded_X11_negated rfl rfl rfl (by decide +kernel) ⟨Nat.le_of_ble_eq_true rfl, Nat.le_of_ble_eq_true rfl⟩) (zpV hKX hP hD [10, 11] rfl rfl 10 12 rfl rfl) rfl rfl hl.1 rfl (lv_room (Nat.le_of_ble_eq_true rfl)) dX12_rounded_112 ⟨(by first | exact Nat.le_of_ble_eq_true rfl | (show _ ≤ (45 : Nat); omega)), (by first | exact Nat.le_of_ble_eq_true rfl | (show _ ≤ (4300 : Nat); omega))⟩) hP hD hS hA [10, 11] [0, 1, 2, 3, 4, 5, 6, 7, 8, 9] rfl rfl rfl (by decide) (fun u_23 r8 H locs hneg hP hD hS => ?_)
            obtain ⟨b8, f8, N8, s8⟩ := u_23
            have hP : va_P G.1 vwCl [(x, .inr (13, [.int (iz (th)), .int (iz (6)), w1, w2, w3, w4, w5, w6, w7, w8, w9, w10])), (a, .inr (12, [.int (iz (sg)), .ref b])), (b, zaI (G.2 1) N (f)), (rr, zaR (G.2 4) 2 (fr)), (rs, .inr (12, [.int (iz (s9)), .ref b9])), (b9, zaI (G.2 1) N9 (f9)), (r4, .inr (12, [.int (iz (s4)), .ref b4])), (b4, zaI (G.2 1) N4 (f4)), (a2, .inr (12, [.int (iz (sg2)), .ref b2])), (b2, zaI (G.2 1) N2 (f2)), (rq, .inr (12, [.int (iz (sq)), .ref bq])), (bq, zaI (G.2 1) Nq (fq)), (r8, .inr (12, [.int (iz (s8)), .ref b8])), (b8, zaI (G.2 1) N8 (f8))] H := hP
            have hD : va_D A [(x, .inr (13, [.int (iz (th)), .int (iz (6)), w1, w2, w3, w4, w5, w6, w7, w8, w9, w10])), (a, .inr (12, [.int (iz (sg)), .ref b])), (b, zaI (G.2 1) N (f)), (rr, zaR (G.2 4) 2 (fr)), (rs, .inr (12, [.int (iz (s9)), .ref b9])), (b9, zaI (G.2 1) N9 (f9)), (r4, .inr (12, [.int (iz (s4)), .ref b4])), (b4, zaI (G.2 1) N4 (f4)), (a2, .inr (12, [.int (iz (sg2)), .ref b2])), (b2, zaI (G.2 1) N2 (f2)), (rq, .inr (12, [.int (iz (sq)), .ref bq])), (bq, zaI (G.2 1) Nq (fq)), (r8, .inr (12, [.int (iz (s8)), .ref b8])), (b8, zaI (G.2 1) N8 (f8))] := hD
            have hneg : tmw f8 N8 s8 (-((-v) / v2)) := hneg
            refine lv_goto (tgt := 120) hx hb dX12_rounded_115 (by decide) ?_
            rw [hQ]
            exact zr_aret (ra := r8) (Or.inl ⟨_, rfl⟩) (u := (b8, f8, N8, s8)) hx hb hr hlocks (hP.sub [0, 12, 13] rfl) (hD.sub [0, 12, 13] (by decide) rfl) hS (by first | exact Nat.le_of_ble_eq_true rfl | omega) (by first | exact Nat.le_of_ble_eq_true rfl | omega) dX12_rounded_120 (show tmw f8 N8 s8 (zr6 v v2) from tpost hneg (by rw [zr6_n h3, hval]))
        ·
          have hzup := of_decide_eq_true (hup.symm.trans h_21)
          have hval := zhe_up (show ((v).natAbs : Int) = -v by omega) h4 hr0 hhf (by first | exact ⟨fun _ => (by omega), fun _ => rfl⟩ | exact ⟨fun q => (by cases q), fun q => (by omega)⟩) (h_21 ▸ hup)
          refine lv_aload hx hb dX12_rounded_87 (lv_at hl 2 rfl) ?_
          refine lv_lconst (v := lz (1)) hx hb dX12_rounded_89 rfl ?_
          refine zc_r (wr := [(x, .inr (13, [.int (iz (th)), .int (iz (6)), w1, w2, w3, w4, w5, w6, w7, w8, w9, w10])), (a, .inr (12, [.int (iz (sg)), .ref b])), (b, zaI (G.2 1) N (f)), (rr, zaR (G.2 4) 2 (fr)), (rs, .inr (12, [.int (iz (s9)), .ref b9])), (b9, zaI (G.2 1) N9 (f9)), (r4, .inr (12, [.int (iz (s4)), .ref b4])), (b4, zaI (G.2 1) N4 (f4)), (a2, .inr (12, [.int (iz (sg2)), .ref b2])), (b2, zaI (G.2 1) N2 (f2)), (rq, .inr (12, [.int (iz (sq)), .ref bq])), (bq, zaI (G.2 1) Nq (fq))]) (va_runS (As := [.long (lz (1))]) (rest := [.ref rq]) ⟨hx, hb, hml, hown, hts⟩ (c_X11_of l G 1 (by omega) H.size) (va_cwS 1 hts gX12_rounded_X11_of rfl rfl rfl (by decide +kernel) ⟨Nat.le_of_ble_eq_true rfl, Nat.le_of_ble_eq_true rfl⟩) (zpS hKX hP hD [] rfl rfl) rfl rfl hl.1 rfl (lv_room (Nat.le_of_ble_eq_true rfl)) dX12_rounded_90 ⟨(by first | exact Nat.le_of_ble_eq_true rfl | (show _ ≤ (45 : Nat); omega)), (by first | exact Nat.le_of_ble_eq_true rfl | (show _ ≤ (4300 : Nat); omega))⟩) hP hD hS hA [] [0, 1, 2, 3, 4, 5, 6, 7, 8, 9, 10, 11] rfl rfl rfl (by decide) (fun u_25 r6 H locs ho hP hD hS => ?_)
          obtain ⟨b6, f6, N6, s6⟩ := u_25
          have hP : va_P G.1 vwCl [(x, .inr (13, [.int (iz (th)), .int (iz (6)), w1, w2, w3, w4, w5, w6, w7, w8, w9, w10])), (a, .inr (12, [.int (iz (sg)), .ref b])), (b, zaI (G.2 1) N (f)), (rr, zaR (G.2 4) 2 (fr)), (rs, .inr (12, [.int (iz (s9)), .ref b9])), (b9, zaI (G.2 1) N9 (f9)), (r4, .inr (12, [.int (iz (s4)), .ref b4])), (b4, zaI (G.2 1) N4 (f4)), (a2, .inr (12, [.int (iz (sg2)), .ref b2])), (b2, zaI (G.2 1) N2 (f2)), (rq, .inr (12, [.int (iz (sq)), .ref bq])), (bq, zaI (G.2 1) Nq (fq)), (r6, .inr (12, [.int (iz (s6)), .ref b6])), (b6, zaI (G.2 1) N6 (f6))] H := hP
          have hD : va_D A [(x, .inr (13, [.int (iz (th)), .int (iz (6)), w1, w2, w3, w4, w5, w6, w7, w8, w9, w10])), (a, .inr (12, [.int (iz (sg)), .ref b])), (b, zaI (G.2 1) N (f)), (rr, zaR (G.2 4) 2 (fr)), (rs, .inr (12, [.int (iz (s9)), .ref b9])), (b9, zaI (G.2 1) N9 (f9)), (r4, .inr (12, [.int (iz (s4)), .ref b4])), (b4, zaI (G.2 1) N4 (f4)), (a2, .inr (12, [.int (iz (sg2)), .ref b2])), (b2, zaI (G.2 1) N2 (f2)), (rq, .inr (12, [.int (iz (sq)), .ref bq])), (bq, zaI (G.2 1) Nq (fq)), (r6, .inr (12, [.int (iz (s6)), .ref b6])), (b6, zaI (G.2 1) N6 (f6))] := hD
          have ho : tmw f6 N6 s6 (1 : Int) := ho
          refine zc_r (wr := [(x, .inr (13, [.int (iz (th)), .int (iz (6)), w1, w2, w3, w4, w5, w6, w7, w8, w9, w10])), (a, .inr (12, [.int (iz (sg)), .ref b])), (b, zaI (G.2 1) N (f)), (rr, zaR (G.2 4) 2 (fr)), (rs, .inr (12, [.int (iz (s9)), .ref b9])), (b9, zaI (G.2 1) N9 (f9)), (r4, .inr (12, [.int (iz (s4)), .ref b4])), (b4, zaI (G.2 1) N4 (f4)), (a2, .inr (12, [.int (iz (sg2)), .ref b2])), (b2, zaI (G.2 1) N2 (f2))]) (va_runV (As := [.ref r6]) (rest := []) ⟨hx, hb, hml, hown, hts⟩ (c_X11_plus l G rq bq fq Nq sq r6 b6 f6 N6 s6 ((-v) / v2) 1 (hqv) (ho) (tr_one h6 hq0 (by omega)) H.size) (cwV 1 hts gX12_rounded_X11_plus rfl rfl rfl (by decide +kernel) ⟨Nat.le_of_ble_eq_true rfl, Nat.le_of_ble_eq_true rfl⟩) (zpV hKX hP hD [10, 11, 12, 13] rfl rfl 10 12 rfl rfl) rfl rfl hl.1 rfl (lv_room (Nat.le_of_ble_eq_true rfl)) dX12_rounded_93 ⟨(by first | exact Nat.le_of_ble_eq_true rfl | (show _ ≤ (45 : Nat); omega)), (by first | exact Nat.le_of_ble_eq_true rfl | (show _ ≤ (4300 : Nat); omega))⟩) hP hD hS hA [10, 11, 12, 13] [0, 1, 2, 3, 4, 5, 6, 7, 8, 9] rfl rfl rfl (by decide) (fun u_27 r7 H locs hpl hP hD hS => ?_)
          obtain ⟨b7, f7, N7, s7⟩ := u_27
          have hP : va_P G.1 vwCl [(x, .inr (13, [.int (iz (th)), .int (iz (6)), w1, w2, w3, w4, w5, w6, w7, w8, w9, w10])), (a, .inr (12, [.int (iz (sg)), .ref b])), (b, zaI (G.2 1) N (f)), (rr, zaR (G.2 4) 2 (fr)), (rs, .inr (12, [.int (iz (s9)), .ref b9])), (b9, zaI (G.2 1) N9 (f9)), (r4, .inr (12, [.int (iz (s4)), .ref b4])), (b4, zaI (G.2 1) N4 (f4)), (a2, .inr (12, [.int (iz (sg2)), .ref b2])), (b2, zaI (G.2 1) N2 (f2)), (r7, .inr (12, [.int (iz (s7)), .ref b7])), (b7, zaI (G.2 1) N7 (f7))] H := hP
          have hD : va_D A [(x, .inr (13, [.int (iz (th)), .int (iz (6)), w1, w2, w3, w4, w5, w6, w7, w8, w9, w10])), (a, .inr (12, [.int (iz (sg)), .ref b])), (b, zaI (G.2 1) N (f)), (rr, zaR (G.2 4) 2 (fr)), (rs, .inr (12, [.int (iz (s9)), .ref b9])), (b9, zaI (G.2 1) N9 (f9)), (r4, .inr (12, [.int (iz (s4)), .ref b4])), (b4, zaI (G.2 1) N4 (f4)), (a2, .inr (12, [.int (iz (sg2)), .ref b2])), (b2, zaI (G.2 1) N2 (f2)), (r7, .inr (12, [.int (iz (s7)), .ref b7])), (b7, zaI (G.2 1) N7 (f7))] := hD
          have hpl : tmw f7 N7 s7 (((-v) / v2) + (1 : Int)) := hpl
          refine lv_goto (tgt := 101) hx hb dX12_rounded_96 (by decide) ?_
          refine lv_astore (lv' := [(4, .ref r7), (6, .int (iz (zbb up))), (5, .int (iz (hf))), (3, .ref rr), (0, .ref x), (1, .ref a), (2, .ref a2)]) hx hb dX12_rounded_101 hl (by decide) rfl (fun ls hl => ?_)
          have hq2e : ((((-v) / v2).natAbs : Int)) = (-v) / v2 := by omega
          refine lv_aload_n hx hb dX12_rounded_103 rfl (lv_at hl 5 rfl) ?_
          refine va_getN (D := G.1) (host := "AnnuityHouseModel") (ci := 12) (v := .int (iz (sg))) (C := RX11) (T := TX11) (N := 2) hx hb hts iwX11 hown hK hP 1 rfl rfl 0 (by decide) (va_Nw.use rfl (hKX.2.2.2 (.fieldLinkNest "AnnuityHouseModel" 39 "AnnuityHouseModel$Whole" "sign" "I" "AnnuityHouseModel") (by decide +kernel))) (fun _ h9 => h9) rfl dX12_rounded_104 ?_
          refine zr_if_ge (x := sg) (tgt := 118) hx hb (⟨by omega, by omega⟩) dX12_rounded_107 (by decide) (fun h_29 => ?_) (fun h_29 => ?_)
          · exact absurd h_29 (by omega)
          ·
            refine lv_aload hx hb dX12_rounded_110 (lv_at hl 0 rfl) ?_
            refine zc_r (wr := [(x, .inr (13, [.int (iz (th)), .int (iz (6)), w1, w2, w3, w4, w5, w6, w7, w8, w9, w10])), (a, .inr (12, [.int (iz (sg)), .ref b])), (b, zaI (G.2 1) N (f)), (rr, zaR (G.2 4) 2 (fr)), (rs, .inr (12, [.int (iz (s9)), .ref b9])), (b9, zaI (G.2 1) N9 (f9)), (r4, .inr (12, [.int (iz (s4)), .ref b4])), (b4, zaI (G.2 1) N4 (f4)), (a2, .inr (12, [.int (iz (sg2)), .ref b2])), (b2, zaI (G.2 1) N2 (f2))]) (va_runV (As := []) (rest := []) ⟨hx, hb, hml, hown, hts⟩ (c_X11_negated l G r7 b7 f7 N7 s7 ((-v) / v2 + 1) (hpl) H.size) (cwV 0 hts gX12_rounded_X11_negated rfl rfl rfl (by decide +kernel) ⟨Nat.le_of_ble_eq_true rfl, Nat.le_of_ble_eq_true rfl⟩) (zpV hKX hP hD [10, 11] rfl rfl 10 12 rfl rfl) rfl rfl hl.1 rfl (lv_room (Nat.le_of_ble_eq_true rfl)) dX12_rounded_112 ⟨(by first | exact Nat.le_of_ble_eq_true rfl | (show _ ≤ (45 : Nat); omega)), (by first | exact Nat.le_of_ble_eq_true rfl | (show _ ≤ (4300 : Nat); omega))⟩) hP hD hS hA [10, 11] [0, 1, 2, 3, 4, 5, 6, 7, 8, 9] rfl rfl rfl (by decide) (fun u_30 r8 H locs hneg hP hD hS => ?_)
            obtain ⟨b8, f8, N8, s8⟩ := u_30
            have hP : va_P G.1 vwCl [(x, .inr (13, [.int (iz (th)), .int (iz (6)), w1, w2, w3, w4, w5, w6, w7, w8, w9, w10])), (a, .inr (12, [.int (iz (sg)), .ref b])), (b, zaI (G.2 1) N (f)), (rr, zaR (G.2 4) 2 (fr)), (rs, .inr (12, [.int (iz (s9)), .ref b9])), (b9, zaI (G.2 1) N9 (f9)), (r4, .inr (12, [.int (iz (s4)), .ref b4])), (b4, zaI (G.2 1) N4 (f4)), (a2, .inr (12, [.int (iz (sg2)), .ref b2])), (b2, zaI (G.2 1) N2 (f2)), (r7, .inr (12, [.int (iz (s7)), .ref b7])), (b7, zaI (G.2 1) N7 (f7)), (r8, .inr (12, [.int (iz (s8)), .ref b8])), (b8, zaI (G.2 1) N8 (f8))] H := hP
            have hD : va_D A [(x, .inr (13, [.int (iz (th)), .int (iz (6)), w1, w2, w3, w4, w5, w6, w7, w8, w9, w10])), (a, .inr (12, [.int (iz (sg)), .ref b])), (b, zaI (G.2 1) N (f)), (rr, zaR (G.2 4) 2 (fr)), (rs, .inr (12, [.int (iz (s9)), .ref b9])), (b9, zaI (G.2 1) N9 (f9)), (r4, .inr (12, [.int (iz (s4)), .ref b4])), (b4, zaI (G.2 1) N4 (f4)), (a2, .inr (12, [.int (iz (sg2)), .ref b2])), (b2, zaI (G.2 1) N2 (f2)), (r7, .inr (12, [.int (iz (s7)), .ref b7])), (b7, zaI (G.2 1) N7 (f7)), (r8, .inr (12, [.int (iz (s8)), .ref b8])), (b8, zaI (G.2 1) N8 (f8))] := hD
            have hneg : tmw f8 N8 s8 (-((-v) / v2 + 1)) := hneg
            refine lv_goto (tgt := 120) hx hb dX12_rounded_115 (by decide) ?_
            rw [hQ]
            exact zr_aret (ra := r8) (Or.inl ⟨_, rfl⟩) (u := (b8, f8, N8, s8)) hx hb hr hlocks (hP.sub [0, 12, 13] rfl) (hD.sub [0, 12, 13] (by decide) rfl) hS (by first | exact Nat.le_of_ble_eq_true rfl | omega) (by first | exact Nat.le_of_ble_eq_true rfl | omega) dX12_rounded_120 (show tmw f8 N8 s8 (zr6 v v2) from tpost hneg (by rw [zr6_n h3, hval]))
      ·
        refine lv_iconst (v := iz (1)) hx hb dX12_rounded_72 rfl ?_
        refine lv_goto (tgt := 77) hx hb dX12_rounded_73 (by decide) ?_
        refine zc_z (wr := [(x, .inr (13, [.int (iz (th)), .int (iz (6)), w1, w2, w3, w4, w5, w6, w7, w8, w9, w10])), (a, .inr (12, [.int (iz (sg)), .ref b])), (b, zaI (G.2 1) N (f)), (rr, zaR (G.2 4) 2 (fr)), (rs, .inr (12, [.int (iz (s9)), .ref b9])), (b9, zaI (G.2 1) N9 (f9)), (r4, .inr (12, [.int (iz (s4)), .ref b4])), (b4, zaI (G.2 1) N4 (f4)), (a2, .inr (12, [.int (iz (sg2)), .ref b2])), (b2, zaI (G.2 1) N2 (f2)), (rq, .inr (12, [.int (iz (sq)), .ref bq])), (bq, zaI (G.2 1) Nq (fq))]) (va_runS (As := [.int (iz (6)), .int (iz (sg)), .int (iz (hf)), .int (iz (1))]) (rest := []) ⟨hx, hb, hml, hown, hts⟩ (c_X12_isRoundedUp l G sg hf true (by omega) H.size) (va_cwS 4 hts gX12_rounded_X12_isRoundedUp rfl rfl rfl (by decide +kernel) ⟨Nat.le_of_ble_eq_true rfl, Nat.le_of_ble_eq_true rfl⟩) (zpS hKX hP hD [] rfl rfl) rfl rfl hl.1 rfl (lv_room (Nat.le_of_ble_eq_true rfl)) dX12_rounded_77 ⟨(by first | exact Nat.le_of_ble_eq_true rfl | (show _ ≤ (45 : Nat); omega)), (by first | exact Nat.le_of_ble_eq_true rfl | (show _ ≤ (4300 : Nat); omega))⟩) hP hD hS hA [] [0, 1, 2, 3, 4, 5, 6, 7, 8, 9, 10, 11] rfl rfl rfl (by decide) (fun up u_32 H locs hup hP hD hS => ?_)
        have hP : va_P G.1 vwCl [(x, .inr (13, [.int (iz (th)), .int (iz (6)), w1, w2, w3, w4, w5, w6, w7, w8, w9, w10])), (a, .inr (12, [.int (iz (sg)), .ref b])), (b, zaI (G.2 1) N (f)), (rr, zaR (G.2 4) 2 (fr)), (rs, .inr (12, [.int (iz (s9)), .ref b9])), (b9, zaI (G.2 1) N9 (f9)), (r4, .inr (12, [.int (iz (s4)), .ref b4])), (b4, zaI (G.2 1) N4 (f4)), (a2, .inr (12, [.int (iz (sg2)), .ref b2])), (b2, zaI (G.2 1) N2 (f2)), (rq, .inr (12, [.int (iz (sq)), .ref bq])), (bq, zaI (G.2 1) Nq (fq))] H := hP
        have hD : va_D A [(x, .inr (13, [.int (iz (th)), .int (iz (6)), w1, w2, w3, w4, w5, w6, w7, w8, w9, w10])), (a, .inr (12, [.int (iz (sg)), .ref b])), (b, zaI (G.2 1) N (f)), (rr, zaR (G.2 4) 2 (fr)), (rs, .inr (12, [.int (iz (s9)), .ref b9])), (b9, zaI (G.2 1) N9 (f9)), (r4, .inr (12, [.int (iz (s4)), .ref b4])), (b4, zaI (G.2 1) N4 (f4)), (a2, .inr (12, [.int (iz (sg2)), .ref b2])), (b2, zaI (G.2 1) N2 (f2)), (rq, .inr (12, [.int (iz (sq)), .ref bq])), (bq, zaI (G.2 1) Nq (fq))] := hD
        have hup : up = decide (0 < hf ∨ (hf = 0 ∧ true = true)) := hup
        refine lv_istore (lv' := [(6, .int (iz (zbb up))), (5, .int (iz (hf))), (4, .ref rq), (3, .ref rr), (0, .ref x), (1, .ref a), (2, .ref a2)]) hx hb dX12_rounded_80 hl (by decide) rfl (fun ls hl => ?_)
        refine lv_iload hx hb dX12_rounded_82 (lv_at hl 0 rfl) ?_
        refine zr_ifz_eq (tgt := 99) hx hb dX12_rounded_84 (by decide) (fun h_34 => ?_) (fun h_34 => ?_)
        ·
          have hzup := of_decide_eq_false (hup.symm.trans h_34)
          have hval := zhe_dn (show ((v).natAbs : Int) = -v by omega) h4 hr0 hhf (by first | exact ⟨fun _ => (by omega), fun _ => rfl⟩ | exact ⟨fun q => (by cases q), fun q => (by omega)⟩) (h_34 ▸ hup)
          refine lv_aload hx hb dX12_rounded_99 (lv_at hl 2 rfl) ?_
          refine lv_astore (lv' := [(4, .ref rq), (6, .int (iz (zbb up))), (5, .int (iz (hf))), (3, .ref rr), (0, .ref x), (1, .ref a), (2, .ref a2)]) hx hb dX12_rounded_101 hl (by decide) rfl (fun ls hl => ?_)
          have hq2e : ((((-v) / v2).natAbs : Int)) = (-v) / v2 := by omega
          refine lv_aload_n hx hb dX12_rounded_103 rfl (lv_at hl 5 rfl) ?_
          refine va_getN (D := G.1) (host := "AnnuityHouseModel") (ci := 12) (v := .int (iz (sg))) (C := RX11) (T := TX11) (N := 2) hx hb hts iwX11 hown hK hP 1 rfl rfl 0 (by decide) (va_Nw.use rfl (hKX.2.2.2 (.fieldLinkNest "AnnuityHouseModel" 39 "AnnuityHouseModel$Whole" "sign" "I" "AnnuityHouseModel") (by decide +kernel))) (fun _ h9 => h9) rfl dX12_rounded_104 ?_
          refine zr_if_ge (x := sg) (tgt := 118) hx hb (⟨by omega, by omega⟩) dX12_rounded_107 (by decide) (fun h_35 => ?_) (fun h_35 => ?_)
          · exact absurd h_35 (by omega)
          ·
            refine lv_aload hx hb dX12_rounded_110 (lv_at hl 0 rfl) ?_
            refine zc_r (wr := [(x, .inr (13, [.int (iz (th)), .int (iz (6)), w1, w2, w3, w4, w5, w6, w7, w8, w9, w10])), (a, .inr (12, [.int (iz (sg)), .ref b])), (b, zaI (G.2 1) N (f)), (rr, zaR (G.2 4) 2 (fr)), (rs, .inr (12, [.int (iz (s9)), .ref b9])), (b9, zaI (G.2 1) N9 (f9)), (r4, .inr (12, [.int (iz (s4)), .ref b4])), (b4, zaI (G.2 1) N4 (f4)), (a2, .inr (12, [.int (iz (sg2)), .ref b2])), (b2, zaI (G.2 1) N2 (f2))]) (va_runV (As := []) (rest := []) ⟨hx, hb, hml, hown, hts⟩ (c_X11_negated l G rq bq fq Nq sq ((-v) / v2) (hqv) H.size) (cwV 0 hts gX12_rounded_X11_negated rfl rfl rfl (by decide +kernel) ⟨Nat.le_of_ble_eq_true rfl, Nat.le_of_ble_eq_true rfl⟩) (zpV hKX hP hD [10, 11] rfl rfl 10 12 rfl rfl) rfl rfl hl.1 rfl (lv_room (Nat.le_of_ble_eq_true rfl)) dX12_rounded_112 ⟨(by first | exact Nat.le_of_ble_eq_true rfl | (show _ ≤ (45 : Nat); omega)), (by first | exact Nat.le_of_ble_eq_true rfl | (show _ ≤ (4300 : Nat); omega))⟩) hP hD hS hA [10, 11] [0, 1, 2, 3, 4, 5, 6, 7, 8, 9] rfl rfl rfl (by decide) (fun u_36 r8 H locs hneg hP hD hS => ?_)
            obtain ⟨b8, f8, N8, s8⟩ := u_36
            have hP : va_P G.1 vwCl [(x, .inr (13, [.int (iz (th)), .int (iz (6)), w1, w2, w3, w4, w5, w6, w7, w8, w9, w10])), (a, .inr (12, [.int (iz (sg)), .ref b])), (b, zaI (G.2 1) N (f)), (rr, zaR (G.2 4) 2 (fr)), (rs, .inr (12, [.int (iz (s9)), .ref b9])), (b9, zaI (G.2 1) N9 (f9)), (r4, .inr (12, [.int (iz (s4)), .ref b4])), (b4, zaI (G.2 1) N4 (f4)), (a2, .inr (12, [.int (iz (sg2)), .ref b2])), (b2, zaI (G.2 1) N2 (f2)), (rq, .inr (12, [.int (iz (sq)), .ref bq])), (bq, zaI (G.2 1) Nq (fq)), (r8, .inr (12, [.int (iz (s8)), .ref b8])), (b8, zaI (G.2 1) N8 (f8))] H := hP
            have hD : va_D A [(x, .inr (13, [.int (iz (th)), .int (iz (6)), w1, w2, w3, w4, w5, w6, w7, w8, w9, w10])), (a, .inr (12, [.int (iz (sg)), .ref b])), (b, zaI (G.2 1) N (f)), (rr, zaR (G.2 4) 2 (fr)), (rs, .inr (12, [.int (iz (s9)), .ref b9])), (b9, zaI (G.2 1) N9 (f9)), (r4, .inr (12, [.int (iz (s4)), .ref b4])), (b4, zaI (G.2 1) N4 (f4)), (a2, .inr (12, [.int (iz (sg2)), .ref b2])), (b2, zaI (G.2 1) N2 (f2)), (rq, .inr (12, [.int (iz (sq)), .ref bq])), (bq, zaI (G.2 1) Nq (fq)), (r8, .inr (12, [.int (iz (s8)), .ref b8])), (b8, zaI (G.2 1) N8 (f8))] := hD
            have hneg : tmw f8 N8 s8 (-((-v) / v2)) := hneg
            refine lv_goto (tgt := 120) hx hb dX12_rounded_115 (by decide) ?_
            rw [hQ]
            exact zr_aret (ra := r8) (Or.inl ⟨_, rfl⟩) (u := (b8, f8, N8, s8)) hx hb hr hlocks (hP.sub [0, 12, 13] rfl) (hD.sub [0, 12, 13] (by decide) rfl) hS (by first | exact Nat.le_of_ble_eq_true rfl | omega) (by first | exact Nat.le_of_ble_eq_true rfl | omega) dX12_rounded_120 (show tmw f8 N8 s8 (zr6 v v2) from tpost hneg (by rw [zr6_n h3, hval]))
        ·
          have hzup := of_decide_eq_true (hup.symm.trans h_34)
          have hval := zhe_up (show ((v).natAbs : Int) = -v by omega) h4 hr0 hhf (by first | exact ⟨fun _ => (by omega), fun _ => rfl⟩ | exact ⟨fun q => (by cases q), fun q => (by omega)⟩) (h_34 ▸ hup)
          refine lv_aload hx hb dX12_rounded_87 (lv_at hl 2 rfl) ?_
          refine lv_lconst (v := lz (1)) hx hb dX12_rounded_89 rfl ?_
          refine zc_r (wr := [(x, .inr (13, [.int (iz (th)), .int (iz (6)), w1, w2, w3, w4, w5, w6, w7, w8, w9, w10])), (a, .inr (12, [.int (iz (sg)), .ref b])), (b, zaI (G.2 1) N (f)), (rr, zaR (G.2 4) 2 (fr)), (rs, .inr (12, [.int (iz (s9)), .ref b9])), (b9, zaI (G.2 1) N9 (f9)), (r4, .inr (12, [.int (iz (s4)), .ref b4])), (b4, zaI (G.2 1) N4 (f4)), (a2, .inr (12, [.int (iz (sg2)), .ref b2])), (b2, zaI (G.2 1) N2 (f2)), (rq, .inr (12, [.int (iz (sq)), .ref bq])), (bq, zaI (G.2 1) Nq (fq))]) (va_runS (As := [.long (lz (1))]) (rest := [.ref rq]) ⟨hx, hb, hml, hown, hts⟩ (c_X11_of l G 1 (by omega) H.size) (va_cwS 1 hts gX12_rounded_X11_of rfl rfl rfl (by decide +kernel) ⟨Nat.le_of_ble_eq_true rfl, Nat.le_of_ble_eq_true rfl⟩) (zpS hKX hP hD [] rfl rfl) rfl rfl hl.1 rfl (lv_room (Nat.le_of_ble_eq_true rfl)) dX12_rounded_90 ⟨(by first | exact Nat.le_of_ble_eq_true rfl | (show _ ≤ (45 : Nat); omega)), (by first | exact Nat.le_of_ble_eq_true rfl | (show _ ≤ (4300 : Nat); omega))⟩) hP hD hS hA [] [0, 1, 2, 3, 4, 5, 6, 7, 8, 9, 10, 11] rfl rfl rfl (by decide) (fun u_38 r6 H locs ho hP hD hS => ?_)
          obtain ⟨b6, f6, N6, s6⟩ := u_38
          have hP : va_P G.1 vwCl [(x, .inr (13, [.int (iz (th)), .int (iz (6)), w1, w2, w3, w4, w5, w6, w7, w8, w9, w10])), (a, .inr (12, [.int (iz (sg)), .ref b])), (b, zaI (G.2 1) N (f)), (rr, zaR (G.2 4) 2 (fr)), (rs, .inr (12, [.int (iz (s9)), .ref b9])), (b9, zaI (G.2 1) N9 (f9)), (r4, .inr (12, [.int (iz (s4)), .ref b4])), (b4, zaI (G.2 1) N4 (f4)), (a2, .inr (12, [.int (iz (sg2)), .ref b2])), (b2, zaI (G.2 1) N2 (f2)), (rq, .inr (12, [.int (iz (sq)), .ref bq])), (bq, zaI (G.2 1) Nq (fq)), (r6, .inr (12, [.int (iz (s6)), .ref b6])), (b6, zaI (G.2 1) N6 (f6))] H := hP
          have hD : va_D A [(x, .inr (13, [.int (iz (th)), .int (iz (6)), w1, w2, w3, w4, w5, w6, w7, w8, w9, w10])), (a, .inr (12, [.int (iz (sg)), .ref b])), (b, zaI (G.2 1) N (f)), (rr, zaR (G.2 4) 2 (fr)), (rs, .inr (12, [.int (iz (s9)), .ref b9])), (b9, zaI (G.2 1) N9 (f9)), (r4, .inr (12, [.int (iz (s4)), .ref b4])), (b4, zaI (G.2 1) N4 (f4)), (a2, .inr (12, [.int (iz (sg2)), .ref b2])), (b2, zaI (G.2 1) N2 (f2)), (rq, .inr (12, [.int (iz (sq)), .ref bq])), (bq, zaI (G.2 1) Nq (fq)), (r6, .inr (12, [.int (iz (s6)), .ref b6])), (b6, zaI (G.2 1) N6 (f6))] := hD
          have ho : tmw f6 N6 s6 (1 : Int) := ho
          refine zc_r (wr := [(x, .inr (13, [.int (iz (th)), .int (iz (6)), w1, w2, w3, w4, w5, w6, w7, w8, w9, w10])), (a, .inr (12, [.int (iz (sg)), .ref b])), (b, zaI (G.2 1) N (f)), (rr, zaR (G.2 4) 2 (fr)), (rs, .inr (12, [.int (iz (s9)), .ref b9])), (b9, zaI (G.2 1) N9 (f9)), (r4, .inr (12, [.int (iz (s4)), .ref b4])), (b4, zaI (G.2 1) N4 (f4)), (a2, .inr (12, [.int (iz (sg2)), .ref b2])), (b2, zaI (G.2 1) N2 (f2))]) (va_runV (As := [.ref r6]) (rest := []) ⟨hx, hb, hml, hown, hts⟩ (c_X11_plus l G rq bq fq Nq sq r6 b6 f6 N6 s6 ((-v) / v2) 1 (hqv) (ho) (tr_one h6 hq0 (by omega)) H.size) (cwV 1 hts gX12_rounded_X11_plus rfl rfl rfl (by decide +kernel) ⟨Nat.le_of_ble_eq_true rfl, Nat.le_of_ble_eq_true rfl⟩) (zpV hKX hP hD [10, 11, 12, 13] rfl rfl 10 12 rfl rfl) rfl rfl hl.1 rfl (lv_room (Nat.le_of_ble_eq_true rfl)) dX12_rounded_93 ⟨(by first | exact Nat.le_of_ble_eq_true rfl | (show _ ≤ (45 : Nat); omega)), (by first | exact Nat.le_of_ble_eq_true rfl | (show _ ≤ (4300 : Nat); omega))⟩) hP hD hS hA [10, 11, 12, 13] [0, 1, 2, 3, 4, 5, 6, 7, 8, 9] rfl rfl rfl (by decide) (fun u_40 r7 H locs hpl hP hD hS => ?_)
          obtain ⟨b7, f7, N7, s7⟩ := u_40
          have hP : va_P G.1 vwCl [(x, .inr (13, [.int (iz (th)), .int (iz (6)), w1, w2, w3, w4, w5, w6, w7, w8, w9, w10])), (a, .inr (12, [.int (iz (sg)), .ref b])), (b, zaI (G.2 1) N (f)), (rr, zaR (G.2 4) 2 (fr)), (rs, .inr (12, [.int (iz (s9)), .ref b9])), (b9, zaI (G.2 1) N9 (f9)), (r4, .inr (12, [.int (iz (s4)), .ref b4])), (b4, zaI (G.2 1) N4 (f4)), (a2, .inr (12, [.int (iz (sg2)), .ref b2])), (b2, zaI (G.2 1) N2 (f2)), (r7, .inr (12, [.int (iz (s7)), .ref b7])), (b7, zaI (G.2 1) N7 (f7))] H := hP
          have hD : va_D A [(x, .inr (13, [.int (iz (th)), .int (iz (6)), w1, w2, w3, w4, w5, w6, w7, w8, w9, w10])), (a, .inr (12, [.int (iz (sg)), .ref b])), (b, zaI (G.2 1) N (f)), (rr, zaR (G.2 4) 2 (fr)), (rs, .inr (12, [.int (iz (s9)), .ref b9])), (b9, zaI (G.2 1) N9 (f9)), (r4, .inr (12, [.int (iz (s4)), .ref b4])), (b4, zaI (G.2 1) N4 (f4)), (a2, .inr (12, [.int (iz (sg2)), .ref b2])), (b2, zaI (G.2 1) N2 (f2)), (r7, .inr (12, [.int (iz (s7)), .ref b7])), (b7, zaI (G.2 1) N7 (f7))] := hD
          have hpl : tmw f7 N7 s7 (((-v) / v2) + (1 : Int)) := hpl
          refine lv_goto (tgt := 101) hx hb dX12_rounded_96 (by decide) ?_
          refine lv_astore (lv' := [(4, .ref r7), (6, .int (iz (zbb up))), (5, .int (iz (hf))), (3, .ref rr), (0, .ref x), (1, .ref a), (2, .ref a2)]) hx hb dX12_rounded_101 hl (by decide) rfl (fun ls hl => ?_)
          have hq2e : ((((-v) / v2).natAbs : Int)) = (-v) / v2 := by omega
          refine lv_aload_n hx hb dX12_rounded_103 rfl (lv_at hl 5 rfl) ?_
          refine va_getN (D := G.1) (host := "AnnuityHouseModel") (ci := 12) (v := .int (iz (sg))) (C := RX11) (T := TX11) (N := 2) hx hb hts iwX11 hown hK hP 1 rfl rfl 0 (by decide) (va_Nw.use rfl (hKX.2.2.2 (.fieldLinkNest "AnnuityHouseModel" 39 "AnnuityHouseModel$Whole" "sign" "I" "AnnuityHouseModel") (by decide +kernel))) (fun _ h9 => h9) rfl dX12_rounded_104 ?_
          refine zr_if_ge (x := sg) (tgt := 118) hx hb (⟨by omega, by omega⟩) dX12_rounded_107 (by decide) (fun h_42 => ?_) (fun h_42 => ?_)
          · exact absurd h_42 (by omega)
          ·
            refine lv_aload hx hb dX12_rounded_110 (lv_at hl 0 rfl) ?_
            refine zc_r (wr := [(x, .inr (13, [.int (iz (th)), .int (iz (6)), w1, w2, w3, w4, w5, w6, w7, w8, w9, w10])), (a, .inr (12, [.int (iz (sg)), .ref b])), (b, zaI (G.2 1) N (f)), (rr, zaR (G.2 4) 2 (fr)), (rs, .inr (12, [.int (iz (s9)), .ref b9])), (b9, zaI (G.2 1) N9 (f9)), (r4, .inr (12, [.int (iz (s4)), .ref b4])), (b4, zaI (G.2 1) N4 (f4)), (a2, .inr (12, [.int (iz (sg2)), .ref b2])), (b2, zaI (G.2 1) N2 (f2))]) (va_runV (As := []) (rest := []) ⟨hx, hb, hml, hown, hts⟩ (c_X11_negated l G r7 b7 f7 N7 s7 ((-v) / v2 + 1) (hpl) H.size) (cwV 0 hts gX12_rounded_X11_negated rfl rfl rfl (by decide +kernel) ⟨Nat.le_of_ble_eq_true rfl, Nat.le_of_ble_eq_true rfl⟩) (zpV hKX hP hD [10, 11] rfl rfl 10 12 rfl rfl) rfl rfl hl.1 rfl (lv_room (Nat.le_of_ble_eq_true rfl)) dX12_rounded_112 ⟨(by first | exact Nat.le_of_ble_eq_true rfl | (show _ ≤ (45 : Nat); omega)), (by first | exact Nat.le_of_ble_eq_true rfl | (show _ ≤ (4300 : Nat); omega))⟩) hP hD hS hA [10, 11] [0, 1, 2, 3, 4, 5, 6, 7, 8, 9] rfl rfl rfl (by decide) (fun u_43 r8 H locs hneg hP hD hS => ?_)
            obtain ⟨b8, f8, N8, s8⟩ := u_43
            have hP : va_P G.1 vwCl [(x, .inr (13, [.int (iz (th)), .int (iz (6)), w1, w2, w3, w4, w5, w6, w7, w8, w9, w10])), (a, .inr (12, [.int (iz (sg)), .ref b])), (b, zaI (G.2 1) N (f)), (rr, zaR (G.2 4) 2 (fr)), (rs, .inr (12, [.int (iz (s9)), .ref b9])), (b9, zaI (G.2 1) N9 (f9)), (r4, .inr (12, [.int (iz (s4)), .ref b4])), (b4, zaI (G.2 1) N4 (f4)), (a2, .inr (12, [.int (iz (sg2)), .ref b2])), (b2, zaI (G.2 1) N2 (f2)), (r7, .inr (12, [.int (iz (s7)), .ref b7])), (b7, zaI (G.2 1) N7 (f7)), (r8, .inr (12, [.int (iz (s8)), .ref b8])), (b8, zaI (G.2 1) N8 (f8))] H := hP
            have hD : va_D A [(x, .inr (13, [.int (iz (th)), .int (iz (6)), w1, w2, w3, w4, w5, w6, w7, w8, w9, w10])), (a, .inr (12, [.int (iz (sg)), .ref b])), (b, zaI (G.2 1) N (f)), (rr, zaR (G.2 4) 2 (fr)), (rs, .inr (12, [.int (iz (s9)), .ref b9])), (b9, zaI (G.2 1) N9 (f9)), (r4, .inr (12, [.int (iz (s4)), .ref b4])), (b4, zaI (G.2 1) N4 (f4)), (a2, .inr (12, [.int (iz (sg2)), .ref b2])), (b2, zaI (G.2 1) N2 (f2)), (r7, .inr (12, [.int (iz (s7)), .ref b7])), (b7, zaI (G.2 1) N7 (f7)), (r8, .inr (12, [.int (iz (s8)), .ref b8])), (b8, zaI (G.2 1) N8 (f8))] := hD
            have hneg : tmw f8 N8 s8 (-((-v) / v2 + 1)) := hneg
            refine lv_goto (tgt := 120) hx hb dX12_rounded_115 (by decide) ?_
            rw [hQ]
            exact zr_aret (ra := r8) (Or.inl ⟨_, rfl⟩) (u := (b8, f8, N8, s8)) hx hb hr hlocks (hP.sub [0, 12, 13] rfl) (hD.sub [0, 12, 13] (by decide) rfl) hS (by first | exact Nat.le_of_ble_eq_true rfl | omega) (by first | exact Nat.le_of_ble_eq_true rfl | omega) dX12_rounded_120 (show tmw f8 N8 s8 (zr6 v v2) from tpost hneg (by rw [zr6_n h3, hval]))
    · exact absurd h_11 (by omega)

def rm_c_X12_rounded : Room := { frames := 12, cells := 45, slots := 4300, locals := 500 }
set_option maxHeartbeats 1000000 in
set_option maxRecDepth 100000 in
theorem c_X12_rounded (l : Launch) (G : zG) (x : Nat) (th : Int) (w1 : Value) (w2 : Value) (w3 : Value) (w4 : Value) (w5 : Value) (w6 : Value) (w7 : Value) (w8 : Value) (w9 : Value) (w10 : Value) (a : Nat) (b : Nat) (f : Int → Int) (N : Nat) (sg : Int) (a2 : Nat) (b2 : Nat) (f2 : Int → Int) (N2 : Nat) (sg2 : Int) (v : Int) (v2 : Int) (h1 : tmw f N sg v) (h2 : tmw f2 N2 sg2 v2) (h4 : 0 < v2) (h6 : (v.natAbs : Int) < 10000 ^ 120) (h7 : v2 < 10000 ^ 120) : zM l G yX12_rounded wsX12_rounded rm_c_X12_rounded [.ref x, .ref a, .ref a2] [(x, .inr (13, [.int (iz (th)), .int (iz (6)), w1, w2, w3, w4, w5, w6, w7, w8, w9, w10])), (a, .inr (12, [.int (iz (sg)), .ref b])), (b, zaI (G.2 1) N (f)), (a2, .inr (12, [.int (iz (sg2)), .ref b2])), (b2, zaI (G.2 1) N2 (f2))] (fun A => zQr G (fun (u : (Nat × (Int → Int) × Nat × Int)) (ra : Nat) => tmw u.2.1 u.2.2.1 u.2.2.2 (zr6 v v2)) (fun (u : (Nat × (Int → Int) × Nat × Int)) (ra : Nat) => [(x, .inr (13, [.int (iz (th)), .int (iz (6)), w1, w2, w3, w4, w5, w6, w7, w8, w9, w10])), (ra, .inr (12, [.int (iz (u.2.2.2)), .ref u.1])), (u.1, zaI (G.2 1) u.2.2.1 (u.2.1))]) A) 45 4300 := by
  by_cases hv : v < 0
  · by_cases hn : N2 = 1 ∨ v2 ≤ -v
    · exact c_X12_rounded_nn l G x th w1 w2 w3 w4 w5 w6 w7 w8 w9 w10 a b f N sg a2 b2 f2 N2 sg2 v v2 h1 h2 hv h4 h6 h7 hn
    · exact c_X12_rounded_no l G x th w1 w2 w3 w4 w5 w6 w7 w8 w9 w10 a b f N sg a2 b2 f2 N2 sg2 v v2 h1 h2 hv h4 h6 h7 ⟨by omega, by omega⟩
  · by_cases hn : N2 = 1 ∨ v2 ≤ v
    · exact c_X12_rounded_pn l G x th w1 w2 w3 w4 w5 w6 w7 w8 w9 w10 a b f N sg a2 b2 f2 N2 sg2 v v2 h1 h2 (by omega) h4 h6 h7 hn
    · exact c_X12_rounded_po l G x th w1 w2 w3 w4 w5 w6 w7 w8 w9 w10 a b f N sg a2 b2 f2 N2 sg2 v v2 h1 h2 (by omega) h4 h6 h7 ⟨by omega, by omega⟩

def rm_c_X12_tells : Room := { frames := 1, cells := 0, slots := 0, locals := 23 }
set_option maxHeartbeats 1000000 in
set_option maxRecDepth 100000 in
theorem c_X12_tells (l : Launch) (G : zG) (x : Nat) (th : Int) (w1 : Value) (w2 : Value) (w3 : Value) (w4 : Value) (w5 : Value) (w6 : Value) (w7 : Value) (w8 : Value) (w9 : Value) (w10 : Value) (a : Nat) (b : Nat) (f : Int → Int) (N : Nat) (sg : Int) (v : Int) (h1 : tmw f N sg v) : zM l G yX12_tells wsX12_tells rm_c_X12_tells [.ref x, .ref a] [(x, .inr (13, [.int (iz (th)), .int (iz (6)), w1, w2, w3, w4, w5, w6, w7, w8, w9, w10])), (a, .inr (12, [.int (iz (sg)), .ref b])), (b, zaI (G.2 1) N (f))] (fun A => zQl G (fun (z : Int) (_ : Unit) => z = v) (fun (_ : Unit) => [(x, .inr (13, [.int (iz (th)), .int (iz (6)), w1, w2, w3, w4, w5, w6, w7, w8, w9, w10])), (a, .inr (12, [.int (iz (sg)), .ref b])), (b, zaI (G.2 1) N (f))]) A) 0 0 := by
  refine zM_of (cc := cX12_tells) (maxL := 2) (ret := (some .long)) (by decide) rfl (Nat.le_of_ble_eq_true rfl) ?_
  intro p e s m below meth c ls A Q hQ hx hb hr hts hown hlocks hml hnm hKX hP hD hA hS hl
  have hK := hKX.1
  obtain ⟨H, hH⟩ : ∃ h, h = s.heap := ⟨_, rfl⟩
  obtain ⟨locs, hlo⟩ : ∃ h : List Loc, h = [] := ⟨_, rfl⟩
  have hS : va_S A s.heap H locs := by rw [hH, hlo]; exact hS
  have hP : va_P G.1 vwCl [(x, .inr (13, [.int (iz (th)), .int (iz (6)), w1, w2, w3, w4, w5, w6, w7, w8, w9, w10])), (a, .inr (12, [.int (iz (sg)), .ref b])), (b, zaI (G.2 1) N (f))] H := by rw [hH]; exact hP
  have hD : va_D A [(x, .inr (13, [.int (iz (th)), .int (iz (6)), w1, w2, w3, w4, w5, w6, w7, w8, w9, w10])), (a, .inr (12, [.int (iz (sg)), .ref b])), (b, zaI (G.2 1) N (f))] := hD
  have hl : lv_has ls 2 [(0, .ref x), (1, .ref a)] := hl
  rw [← hH, ← hlo]
  refine lv_aload_n hx hb dX12_tells_0 rfl (lv_at hl 1 rfl) ?_
  refine lv_ifnonnull (tgt := 8) hx hb dX12_tells_1 (by decide) ?_
  refine lv_aload_n hx hb dX12_tells_8 rfl (lv_at hl 1 rfl) ?_
  refine zc_l (wr := [(x, .inr (13, [.int (iz (th)), .int (iz (6)), w1, w2, w3, w4, w5, w6, w7, w8, w9, w10]))]) (va_runV (As := []) (rest := []) ⟨hx, hb, hml, hown, hts⟩ (c_X11_number l G a b f N sg v (h1) H.size) (cwV 0 hts gX12_tells_X11_number rfl rfl rfl (by decide +kernel) ⟨Nat.le_of_ble_eq_true rfl, Nat.le_of_ble_eq_true rfl⟩) (zpV hKX hP hD [1, 2] rfl rfl 1 12 rfl rfl) rfl rfl hl.1 rfl (lv_room (Nat.le_of_ble_eq_true rfl)) dX12_tells_9 ⟨(by first | exact Nat.le_of_ble_eq_true rfl | (show _ ≤ (0 : Nat); omega)), (by first | exact Nat.le_of_ble_eq_true rfl | (show _ ≤ (0 : Nat); omega))⟩) hP hD hS hA [1, 2] [0] rfl rfl rfl (by decide) (fun nn u_1 H locs hq hP hD hS => ?_)
  have hP : va_P G.1 vwCl [(x, .inr (13, [.int (iz (th)), .int (iz (6)), w1, w2, w3, w4, w5, w6, w7, w8, w9, w10])), (a, .inr (12, [.int (iz (sg)), .ref b])), (b, zaI (G.2 1) N (f))] H := hP
  have hD : va_D A [(x, .inr (13, [.int (iz (th)), .int (iz (6)), w1, w2, w3, w4, w5, w6, w7, w8, w9, w10])), (a, .inr (12, [.int (iz (sg)), .ref b])), (b, zaI (G.2 1) N (f))] := hD
  have hq : nn = v := hq
  rw [hQ]
  exact zr_lret (z := nn) (u := ()) hx hb hr hlocks hP hD hS (by first | exact Nat.le_of_ble_eq_true rfl | omega) (by first | exact Nat.le_of_ble_eq_true rfl | omega) dX12_tells_12 (show nn = v from hq)
