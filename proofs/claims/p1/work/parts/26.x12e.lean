-- THE REFERENCE ON A FRESH OBJECT: payMany with answers (laid by wip/walk/x12e.py)
def zamt (y : Int) : Prop := -1000000000 ≤ y ∧ y ≤ 1000000000
def zcnt (f : Int → Int) : Nat → Int
  | 0 => 0
  | n + 1 => zcnt f n + if f n = 0 then 0 else 1
theorem zcnt_t {f : Int → Int} {i w : Int} (hi : 0 ≤ i) (h : w = zcnt f i.toNat) (h0 : f i = 0) : w + 0 = zcnt f (i + 1).toNat := by
  rw [show (i + 1).toNat = i.toNat + 1 by omega, zcnt, show ((i.toNat : Nat) : Int) = i by omega, if_pos h0, h]
theorem zcnt_f {f : Int → Int} {i w : Int} (hi : 0 ≤ i) (h : w = zcnt f i.toNat) (h0 : ¬ f i = 0) : w + 1 = zcnt f (i + 1).toNat := by
  rw [show (i + 1).toNat = i.toNat + 1 by omega, zcnt, show ((i.toNat : Nat) : Int) = i by omega, if_neg h0, h]
def zpmf (fr mn mo se : Int) : Int → Int := fun i => if fr ≤ i ∧ i < fr + mn then mo + (i - fr) * se else 0
theorem tpm_rng {k se : Int} (hk : 0 ≤ k ∧ k ≤ 41) (hs : -1000000 ≤ se ∧ se ≤ 1000000) : -41000000 ≤ k * se ∧ k * se ≤ 41000000 := by
  have a : k * se ≤ k * 1000000 := Int.mul_le_mul_of_nonneg_left hs.2 hk.1
  have b : k * -1000000 ≤ k * se := Int.mul_le_mul_of_nonneg_left hs.1 hk.1
  omega
theorem tpm_fit {k mo se y : Int} {ft z : Bool} (hk : 0 ≤ k) (h : ft = true ↔ ∀ j : Int, 0 ≤ j → j < k → zamt (mo + j * se)) (hz : z = decide (-1000000000 ≤ y ∧ y ≤ 1000000000)) (hy : y = mo + k * se) : (ft && z) = true ↔ ∀ j : Int, 0 ≤ j → j < k + 1 → zamt (mo + j * se) := by
  rw [Bool.and_eq_true, h, hz, decide_eq_true_iff, hy]
  constructor
  · intro a j hj hjk
    rcases Int.lt_or_le j k with c | c
    · exact a.1 j hj c
    · rw [show j = k by omega]; exact a.2
  · intro a
    exact ⟨fun j hj hjk => a j hj (by omega), a k hk (by omega)⟩
theorem tpm_up {f : Int → Int} {fr k mo se v : Int} (hk : 0 ≤ k) (h : ∀ i, f i = zpmf fr k mo se i) (hv : v = mo + k * se) : ∀ i, zup f (fr + k) v i = zpmf fr (k + 1) mo se i := by
  intro i
  show (if i = fr + k then v else f i) = if fr ≤ i ∧ i < fr + (k + 1) then mo + (i - fr) * se else 0
  by_cases e : i = fr + k
  · rw [if_pos e, if_pos (by omega), hv, show i - fr = k by omega]
  · rw [if_neg e, h i]
    show (if fr ≤ i ∧ i < fr + k then mo + (i - fr) * se else 0) = _
    by_cases c : fr ≤ i ∧ i < fr + k
    · rw [if_pos c, if_pos (by omega)]
    · rw [if_neg c, if_neg (by omega)]
theorem tpm_0 (fr mo se : Int) : ∀ i, (fun _ => 0 : Int → Int) i = zpmf fr 0 mo se i := fun i => (if_neg (by omega)).symm
theorem tpm_at {f : Int → Int} {fr k mo se : Int} (h : ∀ i, f i = zpmf fr k mo se i) : f (fr + k) = 0 := (h _).trans (if_neg (by omega))
theorem tpm_lo {f : Int → Int} {fr k mo se : Int} (h : ∀ i, f i = zpmf fr k mo se i) (hk : 0 ≤ k ∧ k ≤ 41) (hm : -1000000000 ≤ mo ∧ mo ≤ 1000000000) (hs : -1000000 ≤ se ∧ se ≤ 1000000) : ∀ i, -2000000000 ≤ f i ∧ f i ≤ 2000000000 := by
  intro i
  rw [h i]
  show -2000000000 ≤ (if fr ≤ i ∧ i < fr + k then mo + (i - fr) * se else 0) ∧ (if fr ≤ i ∧ i < fr + k then mo + (i - fr) * se else 0) ≤ 2000000000
  by_cases c : fr ≤ i ∧ i < fr + k
  · rw [if_pos c]
    have := tpm_rng (k := i - fr) (by omega) hs
    omega
  · rw [if_neg c]; omega
def rm_c_X12_amountsThere_f : Room := { frames := 0, cells := 0, slots := 0, locals := 0 }
set_option maxHeartbeats 1000000 in
set_option maxRecDepth 100000 in
theorem c_X12_amountsThere_f (l : Launch) (G : zG) (x : Nat) (am : Nat) (tb : Nat) (lv : Nat) (wt : Nat) (bg : Nat) (pm : Nat) (th : Int) (f : Int → Int) (h1 : ∀ i, -2000000000 ≤ f i ∧ f i ≤ 2000000000) : zM l G yX12_amountsThere wsX12_amountsThere rm_c_X12_amountsThere_f [.ref x] [(x, .inr (13, [.int (iz (th)), .int (iz (6)), .ref am, .null, .ref tb, .ref lv, .int (iz (0)), .ref wt, .int (iz (0)), .ref bg, .ref pm, .int (iz (0))])), (am, zaL (G.2 0) 41 (f))] (fun A => zQi G (fun (z : Int) (_ : Unit) => z = zcnt f 41) (fun (_ : Unit) => [(x, .inr (13, [.int (iz (th)), .int (iz (6)), .ref am, .null, .ref tb, .ref lv, .int (iz (0)), .ref wt, .int (iz (0)), .ref bg, .ref pm, .int (iz (0))])), (am, zaL (G.2 0) 41 (f))]) A) 0 0 := by
  refine zM_of (cc := cX12_amountsThere) (maxL := 3) (ret := (some .int)) (by decide) rfl (Nat.le_of_ble_eq_true rfl) ?_
  intro p e s m below meth c ls A Q hQ hx hb hr hts hown hlocks hml hnm hKX hP hD hA hS hl
  have hK := hKX.1
  have iwX12 := iw_X12_amountsThere_X12
  obtain ⟨H, hH⟩ : ∃ h, h = s.heap := ⟨_, rfl⟩
  obtain ⟨locs, hlo⟩ : ∃ h : List Loc, h = [] := ⟨_, rfl⟩
  have hS : va_S A s.heap H locs := by rw [hH, hlo]; exact hS
  have hP : va_P G.1 vwCl [(x, .inr (13, [.int (iz (th)), .int (iz (6)), .ref am, .null, .ref tb, .ref lv, .int (iz (0)), .ref wt, .int (iz (0)), .ref bg, .ref pm, .int (iz (0))])), (am, zaL (G.2 0) 41 (f))] H := by rw [hH]; exact hP
  have hD : va_D A [(x, .inr (13, [.int (iz (th)), .int (iz (6)), .ref am, .null, .ref tb, .ref lv, .int (iz (0)), .ref wt, .int (iz (0)), .ref bg, .ref pm, .int (iz (0))])), (am, zaL (G.2 0) 41 (f))] := hD
  have hl : lv_has ls 3 [(0, .ref x)] := hl
  rw [← hH, ← hlo]
  refine lv_iconst (v := iz (0)) hx hb dX12_amountsThere_0 rfl ?_
  refine lv_istore_n (lv' := [(1, .int (iz (0))), (0, .ref x)]) hx hb dX12_amountsThere_1 rfl hl (by decide) rfl (fun ls hl => ?_)
  refine lv_iconst (v := iz (0)) hx hb dX12_amountsThere_2 rfl ?_
  refine lv_istore_n (lv' := [(2, .int (iz (0))), (1, .int (iz (0))), (0, .ref x)]) hx hb dX12_amountsThere_3 rfl hl (by decide) rfl (fun ls hl => ?_)
  have hl_4 : ∀ (zn_4 : Nat) (i : Int) (w : Int) (H : Heap) (locs : List Loc) (ls : Array Slot), (41 - i).toNat < zn_4 → (0 ≤ i ∧ i ≤ 41) → (w = zcnt f i.toNat) → (0 ≤ w ∧ w ≤ i) → va_P G.1 vwCl [(x, .inr (13, [.int (iz (th)), .int (iz (6)), .ref am, .null, .ref tb, .ref lv, .int (iz (0)), .ref wt, .int (iz (0)), .ref bg, .ref pm, .int (iz (0))])), (am, zaL (G.2 0) 41 (f))] H → va_D A [(x, .inr (13, [.int (iz (th)), .int (iz (6)), .ref am, .null, .ref tb, .ref lv, .int (iz (0)), .ref wt, .int (iz (0)), .ref bg, .ref pm, .int (iz (0))])), (am, zaL (G.2 0) 41 (f))] → va_S A s.heap H locs → lv_has ls 3 [(2, .int (iz (i))), (1, .int (iz (w))), (0, .ref x)] → W p l e rm_c_X12_amountsThere_f s m ([.ref x] : List Value).toArray below meth c H locs 0 0 Q (F0 m 4 ls []) := by
    intro zn_4
    induction zn_4 with
    | zero => intro i w H locs ls hm; exact absurd hm (Nat.not_lt_zero _)
    | succ zn_4 ih_4 =>
      intro i w H locs ls hm_4 k1 k2 k3 hP hD hS hl
      have hfi := h1 i
      refine lv_iload_n hx hb dX12_amountsThere_4 rfl (lv_at hl 0 rfl) ?_
      refine lv_bipush (v := iz (41)) hx hb dX12_amountsThere_5 rfl ?_
      refine zr_icmp_ge (x := i) (y := 41) (tgt := 35) hx hb (⟨by omega, by omega⟩) (⟨by omega, by omega⟩) dX12_amountsThere_7 (by decide) (fun h_1 => ?_) (fun h_1 => ?_)
      ·
        refine lv_iload_n hx hb dX12_amountsThere_35 rfl (lv_at hl 1 rfl) ?_
        rw [hQ]
        exact zr_iret (z := w) (u := ()) hx hb hr hlocks hP hD hS (by first | exact Nat.le_of_ble_eq_true rfl | omega) (by first | exact Nat.le_of_ble_eq_true rfl | omega) dX12_amountsThere_36 (show w = zcnt f 41 from by rw [k2, show i = 41 by omega]; rfl)
      ·
        refine lv_iload_n hx hb dX12_amountsThere_10 rfl (lv_at hl 1 rfl) ?_
        refine lv_aload_n hx hb dX12_amountsThere_11 rfl (lv_at hl 2 rfl) ?_
        refine va_get (D := G.1) (ci := 13) (v := .ref am) (C := RX12) (T := TX12) (N := 12) hx hb hts iwX12 hown hK hP 0 rfl rfl 2 (by decide) (hts (.fieldLink RX12 65 "AnnuityHouseModel" "amounts" "[J") (by decide +kernel)) (fun _ h9 => h9) rfl dX12_amountsThere_12 ?_
        refine lv_iload_n hx hb dX12_amountsThere_15 rfl (lv_at hl 0 rfl) ?_
        refine zr_lald hx hb hK hP 1 0 rfl rfl (i := i) (⟨by omega, by omega, by omega⟩) dX12_amountsThere_16 ?_
        refine lv_lconst (v := lz (0)) hx hb dX12_amountsThere_17 rfl ?_
        have hfi := h1 i
        refine zr_lcmp_eq (x := f i) (y := 0) (tgt := 26) hx hb (⟨by omega, by omega⟩) (⟨by omega, by omega⟩) dX12_amountsThere_18 dX12_amountsThere_19 (by decide) (fun h_2 => ?_) (fun h_2 => ?_)
        ·
          have hz0 := h_2
          refine lv_iconst (v := iz (0)) hx hb dX12_amountsThere_26 rfl ?_
          refine zr_iadd hx hb dX12_amountsThere_27 ?_
          refine lv_istore_n (lv' := [(1, .int (iz (w + 0))), (2, .int (iz (i))), (0, .ref x)]) hx hb dX12_amountsThere_28 rfl hl (by decide) rfl (fun ls hl => ?_)
          refine lv_iinc (v := iz (i + 1)) (lv' := [(2, .int (iz (i + 1))), (1, .int (iz (w + 0))), (0, .ref x)]) hx hb dX12_amountsThere_29 hl (k := 1) rfl (by rw [show Int32.ofInt (1) = iz (1) from rfl, iz_add]) (by decide) rfl (fun ls hl => ?_)
          refine lv_goto (tgt := 4) hx hb dX12_amountsThere_32 (by decide) ?_
          exact ih_4 (i + 1) (w + 0) _ _ _ (by omega) (by omega) (by first | exact zcnt_t k1.1 k2 hz0 | exact zcnt_f k1.1 k2 hz0) (by omega) (hP) (hD) hS (hl)
        ·
          have hz0 := h_2
          refine lv_iconst (v := iz (1)) hx hb dX12_amountsThere_22 rfl ?_
          refine lv_goto (tgt := 27) hx hb dX12_amountsThere_23 (by decide) ?_
          refine zr_iadd hx hb dX12_amountsThere_27 ?_
          refine lv_istore_n (lv' := [(1, .int (iz (w + 1))), (2, .int (iz (i))), (0, .ref x)]) hx hb dX12_amountsThere_28 rfl hl (by decide) rfl (fun ls hl => ?_)
          refine lv_iinc (v := iz (i + 1)) (lv' := [(2, .int (iz (i + 1))), (1, .int (iz (w + 1))), (0, .ref x)]) hx hb dX12_amountsThere_29 hl (k := 1) rfl (by rw [show Int32.ofInt (1) = iz (1) from rfl, iz_add]) (by decide) rfl (fun ls hl => ?_)
          refine lv_goto (tgt := 4) hx hb dX12_amountsThere_32 (by decide) ?_
          exact ih_4 (i + 1) (w + 1) _ _ _ (by omega) (by omega) (by first | exact zcnt_t k1.1 k2 hz0 | exact zcnt_f k1.1 k2 hz0) (by omega) (hP) (hD) hS (hl)
  exact hl_4 ((41 - 0 : Int).toNat + 1) 0 0 _ _ _ (Nat.lt_succ_self _) (by omega) (rfl) (by omega) (hP) (hD) hS (hl)

def rm_c_X12_payMany_n : Room := { frames := 2, cells := 0, slots := 0, locals := 46 }
theorem iw_X12_payMany_X12 : ∀ w ∈ wsX120, w ∈ wsX12_payMany := by decide +kernel
set_option maxHeartbeats 1000000 in
set_option maxRecDepth 100000 in
theorem c_X12_payMany_n (l : Launch) (G : zG) (x : Nat) (am : Nat) (tb : Nat) (lv : Nat) (wt : Nat) (bg : Nat) (pm : Nat) (th : Int) (fr : Int) (mn : Int) (mo : Int) (se : Int) (h0 : -2147483648 ≤ fr ∧ fr < 2147483648) (h01 : -2147483648 ≤ mn ∧ mn < 2147483648) (h02 : -9223372036854775808 ≤ mo ∧ mo < 9223372036854775808) (h03 : -9223372036854775808 ≤ se ∧ se < 9223372036854775808) (h1 : 0 ≤ fr ∧ fr ≤ 40 ∧ 1 ≤ mn ∧ mn ≤ 41 ∧ -1000000000 ≤ mo ∧ mo ≤ 1000000000 ∧ -1000000 ≤ se ∧ se ≤ 1000000 ∧ fr + mn ≤ 41) (h2 : ¬ (∀ j : Int, 0 ≤ j → j < mn → zamt (mo + j * se))) : zM l G yX12_payMany wsX12_payMany rm_c_X12_payMany_n [.ref x, .int (iz (fr)), .int (iz (mn)), .long (lz (mo)), .long (lz (se))] [(x, .inr (13, [.int (iz (th)), .int (iz (6)), .ref am, .null, .ref tb, .ref lv, .int (iz (0)), .ref wt, .int (iz (0)), .ref bg, .ref pm, .int (iz (0))])), (am, zaL (G.2 0) 41 (fun _ => 0))] (fun A => zQi G (fun (z : Int) (th2 : Int) => z = 0 ∧ th2 = 2) (fun (th2 : Int) => [(x, .inr (13, [.int (iz (th2)), .int (iz (6)), .ref am, .null, .ref tb, .ref lv, .int (iz (0)), .ref wt, .int (iz (0)), .ref bg, .ref pm, .int (iz (0))]))]) A) 0 0 := by
  refine zM_of (cc := cX12_payMany) (maxL := 10) (ret := (some .int)) (by decide) rfl (Nat.le_of_ble_eq_true rfl) ?_
  intro p e s m below meth c ls A Q hQ hx hb hr hts hown hlocks hml hnm hKX hP hD hA hS hl
  have hK := hKX.1
  have iwX12 := iw_X12_payMany_X12
  obtain ⟨H, hH⟩ : ∃ h, h = s.heap := ⟨_, rfl⟩
  obtain ⟨locs, hlo⟩ : ∃ h : List Loc, h = [] := ⟨_, rfl⟩
  have hS : va_S A s.heap H locs := by rw [hH, hlo]; exact hS
  have hP : va_P G.1 vwCl [(x, .inr (13, [.int (iz (th)), .int (iz (6)), .ref am, .null, .ref tb, .ref lv, .int (iz (0)), .ref wt, .int (iz (0)), .ref bg, .ref pm, .int (iz (0))])), (am, zaL (G.2 0) 41 (fun _ => 0))] H := by rw [hH]; exact hP
  have hD : va_D A [(x, .inr (13, [.int (iz (th)), .int (iz (6)), .ref am, .null, .ref tb, .ref lv, .int (iz (0)), .ref wt, .int (iz (0)), .ref bg, .ref pm, .int (iz (0))])), (am, zaL (G.2 0) 41 (fun _ => 0))] := hD
  have hl : lv_has ls 10 [(0, .ref x), (1, .int (iz (fr))), (2, .int (iz (mn))), (3, .long (lz (mo))), (5, .long (lz (se)))] := hl
  rw [← hH, ← hlo]
  refine lv_iload_n hx hb dX12_payMany_0 rfl (lv_at hl 1 rfl) ?_
  refine zr_i2l hx hb (x := fr) (⟨by omega, by omega⟩) dX12_payMany_1 ?_
  refine lv_lconst (v := lz (0)) hx hb dX12_payMany_2 rfl ?_
  refine zr_ldc2 (z := 40) hx hb hown (hts (.constantLong RX12 125 (40)) (by decide +kernel)) rfl dX12_payMany_3 ?_
  refine zc_z (wr := [(x, .inr (13, [.int (iz (th)), .int (iz (6)), .ref am, .null, .ref tb, .ref lv, .int (iz (0)), .ref wt, .int (iz (0)), .ref bg, .ref pm, .int (iz (0))])), (am, zaL (G.2 0) 41 (fun _ => 0))]) (va_runS (As := [.long (lz (fr)), .long (lz (0)), .long (lz (40))]) (rest := []) ⟨hx, hb, hml, hown, hts⟩ (c_X12_in l G fr 0 40 (by omega) (by omega) (by omega) H.size) (va_cwS 3 hts gX12_payMany_X12_in rfl rfl rfl (by decide +kernel) ⟨Nat.le_of_ble_eq_true rfl, Nat.le_of_ble_eq_true rfl⟩) (zpS hKX hP hD [] rfl rfl) rfl rfl hl.1 rfl (lv_room (Nat.le_of_ble_eq_true rfl)) dX12_payMany_6 ⟨(by first | exact Nat.le_of_ble_eq_true rfl | (show _ ≤ (0 : Nat); omega)), (by first | exact Nat.le_of_ble_eq_true rfl | (show _ ≤ (0 : Nat); omega))⟩) hP hD hS hA [] [0, 1] rfl rfl rfl (by decide) (fun y1 u_1 H locs hy1 hP hD hS => ?_)
  have hP : va_P G.1 vwCl [(x, .inr (13, [.int (iz (th)), .int (iz (6)), .ref am, .null, .ref tb, .ref lv, .int (iz (0)), .ref wt, .int (iz (0)), .ref bg, .ref pm, .int (iz (0))])), (am, zaL (G.2 0) 41 (fun _ => 0))] H := hP
  have hD : va_D A [(x, .inr (13, [.int (iz (th)), .int (iz (6)), .ref am, .null, .ref tb, .ref lv, .int (iz (0)), .ref wt, .int (iz (0)), .ref bg, .ref pm, .int (iz (0))])), (am, zaL (G.2 0) 41 (fun _ => 0))] := hD
  have hy1 : y1 = decide ((0 : Int) ≤ fr ∧ fr ≤ (40 : Int)) := hy1
  rw [show y1 = true from hy1.trans (decide_eq_true (by omega))]
  refine zr_ifz_eq (tgt := 57) hx hb dX12_payMany_9 (by decide) (fun h_3 => ?_) (fun h_3 => ?_)
  · exact absurd h_3 (by decide)
  ·
    refine lv_iload_n hx hb dX12_payMany_12 rfl (lv_at hl 2 rfl) ?_
    refine zr_i2l hx hb (x := mn) (⟨by omega, by omega⟩) dX12_payMany_13 ?_
    refine lv_lconst (v := lz (1)) hx hb dX12_payMany_14 rfl ?_
    refine zr_ldc2 (z := 41) hx hb hown (hts (.constantLong RX12 131 (41)) (by decide +kernel)) rfl dX12_payMany_15 ?_
    refine zc_z (wr := [(x, .inr (13, [.int (iz (th)), .int (iz (6)), .ref am, .null, .ref tb, .ref lv, .int (iz (0)), .ref wt, .int (iz (0)), .ref bg, .ref pm, .int (iz (0))])), (am, zaL (G.2 0) 41 (fun _ => 0))]) (va_runS (As := [.long (lz (mn)), .long (lz (1)), .long (lz (41))]) (rest := []) ⟨hx, hb, hml, hown, hts⟩ (c_X12_in l G mn 1 41 (by omega) (by omega) (by omega) H.size) (va_cwS 3 hts gX12_payMany_X12_in rfl rfl rfl (by decide +kernel) ⟨Nat.le_of_ble_eq_true rfl, Nat.le_of_ble_eq_true rfl⟩) (zpS hKX hP hD [] rfl rfl) rfl rfl hl.1 rfl (lv_room (Nat.le_of_ble_eq_true rfl)) dX12_payMany_18 ⟨(by first | exact Nat.le_of_ble_eq_true rfl | (show _ ≤ (0 : Nat); omega)), (by first | exact Nat.le_of_ble_eq_true rfl | (show _ ≤ (0 : Nat); omega))⟩) hP hD hS hA [] [0, 1] rfl rfl rfl (by decide) (fun y2 u_4 H locs hy2 hP hD hS => ?_)
    have hP : va_P G.1 vwCl [(x, .inr (13, [.int (iz (th)), .int (iz (6)), .ref am, .null, .ref tb, .ref lv, .int (iz (0)), .ref wt, .int (iz (0)), .ref bg, .ref pm, .int (iz (0))])), (am, zaL (G.2 0) 41 (fun _ => 0))] H := hP
    have hD : va_D A [(x, .inr (13, [.int (iz (th)), .int (iz (6)), .ref am, .null, .ref tb, .ref lv, .int (iz (0)), .ref wt, .int (iz (0)), .ref bg, .ref pm, .int (iz (0))])), (am, zaL (G.2 0) 41 (fun _ => 0))] := hD
    have hy2 : y2 = decide ((1 : Int) ≤ mn ∧ mn ≤ (41 : Int)) := hy2
    rw [show y2 = true from hy2.trans (decide_eq_true (by omega))]
    refine zr_ifz_eq (tgt := 57) hx hb dX12_payMany_21 (by decide) (fun h_6 => ?_) (fun h_6 => ?_)
    · exact absurd h_6 (by decide)
    ·
      refine lv_lload_n hx hb dX12_payMany_24 rfl (lv_at hl 3 rfl) ?_
      refine zc_z (wr := [(x, .inr (13, [.int (iz (th)), .int (iz (6)), .ref am, .null, .ref tb, .ref lv, .int (iz (0)), .ref wt, .int (iz (0)), .ref bg, .ref pm, .int (iz (0))])), (am, zaL (G.2 0) 41 (fun _ => 0))]) (va_runS (As := [.long (lz (mo))]) (rest := []) ⟨hx, hb, hml, hown, hts⟩ (c_X12_isAmount l G mo (by omega) H.size) (va_cwS 1 hts gX12_payMany_X12_isAmount rfl rfl rfl (by decide +kernel) ⟨Nat.le_of_ble_eq_true rfl, Nat.le_of_ble_eq_true rfl⟩) (zpS hKX hP hD [] rfl rfl) rfl rfl hl.1 rfl (lv_room (Nat.le_of_ble_eq_true rfl)) dX12_payMany_25 ⟨(by first | exact Nat.le_of_ble_eq_true rfl | (show _ ≤ (0 : Nat); omega)), (by first | exact Nat.le_of_ble_eq_true rfl | (show _ ≤ (0 : Nat); omega))⟩) hP hD hS hA [] [0, 1] rfl rfl rfl (by decide) (fun y3 u_7 H locs hy3 hP hD hS => ?_)
      have hP : va_P G.1 vwCl [(x, .inr (13, [.int (iz (th)), .int (iz (6)), .ref am, .null, .ref tb, .ref lv, .int (iz (0)), .ref wt, .int (iz (0)), .ref bg, .ref pm, .int (iz (0))])), (am, zaL (G.2 0) 41 (fun _ => 0))] H := hP
      have hD : va_D A [(x, .inr (13, [.int (iz (th)), .int (iz (6)), .ref am, .null, .ref tb, .ref lv, .int (iz (0)), .ref wt, .int (iz (0)), .ref bg, .ref pm, .int (iz (0))])), (am, zaL (G.2 0) 41 (fun _ => 0))] := hD
      have hy3 : y3 = decide (-1000000000 ≤ mo ∧ mo ≤ 1000000000) := hy3
      rw [show y3 = true from hy3.trans (decide_eq_true (by omega))]
      refine zr_ifz_eq (tgt := 57) hx hb dX12_payMany_28 (by decide) (fun h_9 => ?_) (fun h_9 => ?_)
      · exact absurd h_9 (by decide)
      ·
        refine lv_lload hx hb dX12_payMany_31 (lv_at hl 4 rfl) ?_
        refine zr_ldc2 (z := -1000000) hx hb hown (hts (.constantLong RX12 133 (-1000000)) (by decide +kernel)) rfl dX12_payMany_33 ?_
        refine zr_ldc2 (z := 1000000) hx hb hown (hts (.constantLong RX12 135 (1000000)) (by decide +kernel)) rfl dX12_payMany_36 ?_
        refine zc_z (wr := [(x, .inr (13, [.int (iz (th)), .int (iz (6)), .ref am, .null, .ref tb, .ref lv, .int (iz (0)), .ref wt, .int (iz (0)), .ref bg, .ref pm, .int (iz (0))])), (am, zaL (G.2 0) 41 (fun _ => 0))]) (va_runS (As := [.long (lz (se)), .long (lz (-1000000)), .long (lz (1000000))]) (rest := []) ⟨hx, hb, hml, hown, hts⟩ (c_X12_in l G se (-1000000) 1000000 (by omega) (by omega) (by omega) H.size) (va_cwS 3 hts gX12_payMany_X12_in rfl rfl rfl (by decide +kernel) ⟨Nat.le_of_ble_eq_true rfl, Nat.le_of_ble_eq_true rfl⟩) (zpS hKX hP hD [] rfl rfl) rfl rfl hl.1 rfl (lv_room (Nat.le_of_ble_eq_true rfl)) dX12_payMany_39 ⟨(by first | exact Nat.le_of_ble_eq_true rfl | (show _ ≤ (0 : Nat); omega)), (by first | exact Nat.le_of_ble_eq_true rfl | (show _ ≤ (0 : Nat); omega))⟩) hP hD hS hA [] [0, 1] rfl rfl rfl (by decide) (fun y4 u_10 H locs hy4 hP hD hS => ?_)
        have hP : va_P G.1 vwCl [(x, .inr (13, [.int (iz (th)), .int (iz (6)), .ref am, .null, .ref tb, .ref lv, .int (iz (0)), .ref wt, .int (iz (0)), .ref bg, .ref pm, .int (iz (0))])), (am, zaL (G.2 0) 41 (fun _ => 0))] H := hP
        have hD : va_D A [(x, .inr (13, [.int (iz (th)), .int (iz (6)), .ref am, .null, .ref tb, .ref lv, .int (iz (0)), .ref wt, .int (iz (0)), .ref bg, .ref pm, .int (iz (0))])), (am, zaL (G.2 0) 41 (fun _ => 0))] := hD
        have hy4 : y4 = decide ((-1000000 : Int) ≤ se ∧ se ≤ (1000000 : Int)) := hy4
        rw [show y4 = true from hy4.trans (decide_eq_true (by omega))]
        refine zr_ifz_eq (tgt := 57) hx hb dX12_payMany_42 (by decide) (fun h_12 => ?_) (fun h_12 => ?_)
        · exact absurd h_12 (by decide)
        ·
          refine lv_iload_n hx hb dX12_payMany_45 rfl (lv_at hl 1 rfl) ?_
          refine lv_iload_n hx hb dX12_payMany_46 rfl (lv_at hl 2 rfl) ?_
          refine zr_iadd hx hb dX12_payMany_47 ?_
          refine lv_bipush (v := iz (41)) hx hb dX12_payMany_48 rfl ?_
          refine zr_icmp_gt (x := fr + mn) (y := 41) (tgt := 57) hx hb (⟨by omega, by omega⟩) (⟨by omega, by omega⟩) dX12_payMany_50 (by decide) (fun h_13 => ?_) (fun h_13 => ?_)
          · exact absurd h_13 (by omega)
          ·
            refine lv_iconst (v := iz (1)) hx hb dX12_payMany_53 rfl ?_
            refine lv_goto (tgt := 58) hx hb dX12_payMany_54 (by decide) ?_
            refine lv_istore (lv' := [(7, .int (iz (1))), (0, .ref x), (1, .int (iz (fr))), (2, .int (iz (mn))), (3, .long (lz (mo))), (5, .long (lz (se)))]) hx hb dX12_payMany_58 hl (by decide) rfl (fun ls hl => ?_)
            refine lv_iload hx hb dX12_payMany_60 (lv_at hl 0 rfl) ?_
            refine lv_istore (lv' := [(8, .int (iz (1))), (7, .int (iz (1))), (0, .ref x), (1, .int (iz (fr))), (2, .int (iz (mn))), (3, .long (lz (mo))), (5, .long (lz (se)))]) hx hb dX12_payMany_62 hl (by decide) rfl (fun ls hl => ?_)
            refine lv_iconst (v := iz (0)) hx hb dX12_payMany_64 rfl ?_
            refine lv_istore (lv' := [(9, .int (iz (0))), (8, .int (iz (1))), (7, .int (iz (1))), (0, .ref x), (1, .int (iz (fr))), (2, .int (iz (mn))), (3, .long (lz (mo))), (5, .long (lz (se)))]) hx hb dX12_payMany_65 hl (by decide) rfl (fun ls hl => ?_)
            have hl_67 : ∀ (zn_67 : Nat) (k : Int) (ft : Bool) (H : Heap) (locs : List Loc) (ls : Array Slot), (mn - k).toNat < zn_67 → (0 ≤ k ∧ k ≤ mn) → (ft = true ↔ ∀ j : Int, 0 ≤ j → j < k → zamt (mo + j * se)) → va_P G.1 vwCl [(x, .inr (13, [.int (iz (th)), .int (iz (6)), .ref am, .null, .ref tb, .ref lv, .int (iz (0)), .ref wt, .int (iz (0)), .ref bg, .ref pm, .int (iz (0))])), (am, zaL (G.2 0) 41 (fun _ => 0))] H → va_D A [(x, .inr (13, [.int (iz (th)), .int (iz (6)), .ref am, .null, .ref tb, .ref lv, .int (iz (0)), .ref wt, .int (iz (0)), .ref bg, .ref pm, .int (iz (0))])), (am, zaL (G.2 0) 41 (fun _ => 0))] → va_S A s.heap H locs → lv_has ls 10 [(9, .int (iz (k))), (8, .int (iz (zbb ft))), (7, .int (iz (1))), (0, .ref x), (1, .int (iz (fr))), (2, .int (iz (mn))), (3, .long (lz (mo))), (5, .long (lz (se)))] → W p l e rm_c_X12_payMany_n s m ([.ref x, .int (iz (fr)), .int (iz (mn)), .long (lz (mo)), .long (lz (se))] : List Value).toArray below meth c H locs (0 + 0 + 0 + 0 + 0) (0 + 0 + 0 + 0 + 0) Q (F0 m 67 ls []) := by
              intro zn_67
              induction zn_67 with
              | zero => intro k ft H locs ls hm; exact absurd hm (Nat.not_lt_zero _)
              | succ zn_67 ih_67 =>
                intro k ft H locs ls hm_67 k1 k2 hP hD hS hl
                refine lv_iload hx hb dX12_payMany_67 (lv_at hl 2 rfl) ?_
                refine zr_if_eq (x := 1) (tgt := 110) hx hb (⟨by omega, by omega⟩) dX12_payMany_69 (by decide) (fun h_14 => ?_) (fun h_14 => ?_)
                · exact absurd h_14 (by omega)
                ·
                  refine lv_iload hx hb dX12_payMany_72 (lv_at hl 0 rfl) ?_
                  refine lv_iload_n hx hb dX12_payMany_74 rfl (lv_at hl 5 rfl) ?_
                  refine zr_icmp_ge (x := k) (y := mn) (tgt := 110) hx hb (⟨by omega, by omega⟩) (⟨by omega, by omega⟩) dX12_payMany_75 (by decide) (fun h_15 => ?_) (fun h_15 => ?_)
                  ·
                    have eft : ft = false := Bool.eq_false_iff.2 (fun q => h2 (by have := k2.1 q; rw [show k = mn by omega] at this; exact this))
                    refine lv_aload_n hx hb dX12_payMany_110 rfl (lv_at hl 3 rfl) ?_
                    refine lv_iload hx hb dX12_payMany_111 (lv_at hl 2 rfl) ?_
                    refine lv_iload hx hb dX12_payMany_113 (lv_at hl 1 rfl) ?_
                    refine lv_iconst (v := iz (1)) hx hb dX12_payMany_115 rfl ?_
                    refine zc_z (wr := [(am, zaL (G.2 0) 41 (fun _ => 0))]) (va_runV (As := [.int (iz (1)), .int (iz (zbb ft)), .int (iz (1))]) (rest := []) ⟨hx, hb, hml, hown, hts⟩ (c_X12_passes l G x th (.ref am) .null (.ref tb) (.ref lv) (.int (iz (0))) (.ref wt) (.int (iz (0))) (.ref bg) (.ref pm) (.int (iz (0))) 6 true ft true  H.size) (cwV 3 hts gX12_payMany_X12_passes rfl rfl rfl (by decide +kernel) ⟨Nat.le_of_ble_eq_true rfl, Nat.le_of_ble_eq_true rfl⟩) (zpV hKX hP hD [0] rfl rfl 0 13 rfl rfl) rfl rfl hl.1 rfl (lv_room (Nat.le_of_ble_eq_true rfl)) dX12_payMany_116 ⟨(by first | exact Nat.le_of_ble_eq_true rfl | (show _ ≤ (0 : Nat); omega)), (by first | exact Nat.le_of_ble_eq_true rfl | (show _ ≤ (0 : Nat); omega))⟩) hP hD hS hA [0] [1] rfl rfl rfl (by decide) (fun pz u_16 H locs hp hP hD hS => ?_)
                    generalize u_16 = thp at hP hD hp
                    have hP : va_P G.1 vwCl [(am, zaL (G.2 0) 41 (fun _ => 0)), (x, .inr (13, [.int (iz (thp)), .int (iz ((6 : Int))), .ref am, .null, .ref tb, .ref lv, .int (iz (0)), .ref wt, .int (iz (0)), .ref bg, .ref pm, .int (iz (0))]))] H := hP
                    have hD : va_D A [(am, zaL (G.2 0) 41 (fun _ => 0)), (x, .inr (13, [.int (iz (thp)), .int (iz ((6 : Int))), .ref am, .null, .ref tb, .ref lv, .int (iz (0)), .ref wt, .int (iz (0)), .ref bg, .ref pm, .int (iz (0))]))] := hD
                    have hp : pz = (true && ft && true) ∧ thp = zcode true ft true := hp
                    rw [show pz = false from hp.1.trans (by rw [eft]; rfl)]
                    have htp : thp = 2 := hp.2.trans (by rw [eft]; rfl)
                    refine zr_ifz_ne (tgt := 124) hx hb dX12_payMany_119 (by decide) (fun h_18 => ?_) (fun h_18 => ?_)
                    · exact absurd h_18 (by decide)
                    ·
                      refine lv_iconst (v := iz (0)) hx hb dX12_payMany_122 rfl ?_
                      rw [hQ]
                      exact zr_iret (z := 0) (u := (thp)) hx hb hr hlocks (hP.sub [1] rfl) (hD.sub [1] (by decide) rfl) hS (by first | exact Nat.le_of_ble_eq_true rfl | omega) (by first | exact Nat.le_of_ble_eq_true rfl | omega) dX12_payMany_123 (show 0 = 0 ∧ thp = 2 from ⟨rfl, htp⟩)
                  ·
                    refine lv_iload hx hb dX12_payMany_78 (lv_at hl 1 rfl) ?_
                    refine lv_aload_n hx hb dX12_payMany_80 rfl (lv_at hl 3 rfl) ?_
                    refine va_get (D := G.1) (ci := 13) (v := .ref am) (C := RX12) (T := TX12) (N := 12) hx hb hts iwX12 hown hK hP 0 rfl rfl 2 (by decide) (hts (.fieldLink RX12 65 "AnnuityHouseModel" "amounts" "[J") (by decide +kernel)) (fun _ h9 => h9) rfl dX12_payMany_81 ?_
                    refine lv_iload_n hx hb dX12_payMany_84 rfl (lv_at hl 4 rfl) ?_
                    refine lv_iload hx hb dX12_payMany_85 (lv_at hl 0 rfl) ?_
                    refine zr_iadd hx hb dX12_payMany_87 ?_
                    refine zr_lald hx hb hK hP 1 0 rfl rfl (i := fr + k) (⟨by omega, by omega, by omega⟩) dX12_payMany_88 ?_
                    refine zr_eql (x := (fun _ => 0) (fr + k)) (y := 0) rfl ?_
                    refine lv_lload_n hx hb dX12_payMany_89 rfl (lv_at hl 6 rfl) ?_
                    refine zr_ladd hx hb dX12_payMany_90 ?_
                    refine lv_iload hx hb dX12_payMany_91 (lv_at hl 0 rfl) ?_
                    refine zr_i2l hx hb (x := k) (⟨by omega, by omega⟩) dX12_payMany_93 ?_
                    refine lv_lload hx hb dX12_payMany_94 (lv_at hl 7 rfl) ?_
                    have hkr := tpm_rng (k := k) (se := se) (by omega) (by omega)
                    refine zr_lmul hx hb dX12_payMany_96 ?_
                    refine zr_ladd hx hb dX12_payMany_97 ?_
                    refine zc_z (wr := [(x, .inr (13, [.int (iz (th)), .int (iz (6)), .ref am, .null, .ref tb, .ref lv, .int (iz (0)), .ref wt, .int (iz (0)), .ref bg, .ref pm, .int (iz (0))])), (am, zaL (G.2 0) 41 (fun _ => 0))]) (va_runS (As := [.long (lz ((0 + mo) + (k * se)))]) (rest := [.int (iz (zbb ft))]) ⟨hx, hb, hml, hown, hts⟩ (c_X12_isAmount l G ((0 + mo) + (k * se)) (by omega) H.size) (va_cwS 1 hts gX12_payMany_X12_isAmount rfl rfl rfl (by decide +kernel) ⟨Nat.le_of_ble_eq_true rfl, Nat.le_of_ble_eq_true rfl⟩) (zpS hKX hP hD [] rfl rfl) rfl rfl hl.1 rfl (lv_room (Nat.le_of_ble_eq_true rfl)) dX12_payMany_98 ⟨(by first | exact Nat.le_of_ble_eq_true rfl | (show _ ≤ (0 : Nat); omega)), (by first | exact Nat.le_of_ble_eq_true rfl | (show _ ≤ (0 : Nat); omega))⟩) hP hD hS hA [] [0, 1] rfl rfl rfl (by decide) (fun y5 u_19 H locs hy5 hP hD hS => ?_)
                    have hP : va_P G.1 vwCl [(x, .inr (13, [.int (iz (th)), .int (iz (6)), .ref am, .null, .ref tb, .ref lv, .int (iz (0)), .ref wt, .int (iz (0)), .ref bg, .ref pm, .int (iz (0))])), (am, zaL (G.2 0) 41 (fun _ => 0))] H := hP
                    have hD : va_D A [(x, .inr (13, [.int (iz (th)), .int (iz (6)), .ref am, .null, .ref tb, .ref lv, .int (iz (0)), .ref wt, .int (iz (0)), .ref bg, .ref pm, .int (iz (0))])), (am, zaL (G.2 0) 41 (fun _ => 0))] := hD
                    have hy5 : y5 = decide (-1000000000 ≤ ((0 + mo) + (k * se)) ∧ ((0 + mo) + (k * se)) ≤ 1000000000) := hy5
                    refine zr_iandZ hx hb dX12_payMany_101 ?_
                    refine lv_istore (lv' := [(8, .int (iz (zbb (ft && y5)))), (9, .int (iz (k))), (7, .int (iz (1))), (0, .ref x), (1, .int (iz (fr))), (2, .int (iz (mn))), (3, .long (lz (mo))), (5, .long (lz (se)))]) hx hb dX12_payMany_102 hl (by decide) rfl (fun ls hl => ?_)
                    refine lv_iinc (v := iz (k + 1)) (lv' := [(9, .int (iz (k + 1))), (8, .int (iz (zbb (ft && y5)))), (7, .int (iz (1))), (0, .ref x), (1, .int (iz (fr))), (2, .int (iz (mn))), (3, .long (lz (mo))), (5, .long (lz (se)))]) hx hb dX12_payMany_104 hl (k := 1) rfl (by rw [show Int32.ofInt (1) = iz (1) from rfl, iz_add]) (by decide) rfl (fun ls hl => ?_)
                    refine lv_goto (tgt := 67) hx hb dX12_payMany_107 (by decide) ?_
                    refine W.widen (k := 0 + 0 + 0 + 0 + 0) (n := 0 + 0 + 0 + 0 + 0) (by omega) (by omega) ?_
                    exact ih_67 (k + 1) (ft && y5) _ _ _ (by omega) (by omega) (tpm_fit k1.1 k2 hy5 (by omega)) (hP) (hD) hS (hl)
            exact hl_67 ((mn - 0 : Int).toNat + 1) 0 true _ _ _ (Nat.lt_succ_self _) (by omega) (⟨fun _ j a b => absurd b (by omega), fun _ => rfl⟩) (hP) (hD) hS (hl)

def rm_c_X12_payMany_o : Room := { frames := 2, cells := 0, slots := 0, locals := 46 }
set_option maxHeartbeats 1000000 in
set_option maxRecDepth 100000 in
theorem c_X12_payMany_o (l : Launch) (G : zG) (x : Nat) (am : Nat) (tb : Nat) (lv : Nat) (wt : Nat) (bg : Nat) (pm : Nat) (th : Int) (fr : Int) (mn : Int) (mo : Int) (se : Int) (h0 : -2147483648 ≤ fr ∧ fr < 2147483648) (h01 : -2147483648 ≤ mn ∧ mn < 2147483648) (h02 : -9223372036854775808 ≤ mo ∧ mo < 9223372036854775808) (h03 : -9223372036854775808 ≤ se ∧ se < 9223372036854775808) (h1 : 0 ≤ fr ∧ fr ≤ 40 ∧ 1 ≤ mn ∧ mn ≤ 41 ∧ -1000000000 ≤ mo ∧ mo ≤ 1000000000 ∧ -1000000 ≤ se ∧ se ≤ 1000000 ∧ fr + mn ≤ 41) (h2 : ∀ j : Int, 0 ≤ j → j < mn → zamt (mo + j * se)) : zM l G yX12_payMany wsX12_payMany rm_c_X12_payMany_o [.ref x, .int (iz (fr)), .int (iz (mn)), .long (lz (mo)), .long (lz (se))] [(x, .inr (13, [.int (iz (th)), .int (iz (6)), .ref am, .null, .ref tb, .ref lv, .int (iz (0)), .ref wt, .int (iz (0)), .ref bg, .ref pm, .int (iz (0))])), (am, zaL (G.2 0) 41 (fun _ => 0))] (fun A => zQi G (fun (z : Int) (th2 : Int) => z = zcnt (zpmf fr mn mo se) 41 ∧ th2 = 0) (fun (th2 : Int) => [(x, .inr (13, [.int (iz (th2)), .int (iz (6)), .ref am, .null, .ref tb, .ref lv, .int (iz (0)), .ref wt, .int (iz (0)), .ref bg, .ref pm, .int (iz (0))]))]) A) 0 0 := by
  refine zM_of (cc := cX12_payMany) (maxL := 10) (ret := (some .int)) (by decide) rfl (Nat.le_of_ble_eq_true rfl) ?_
  intro p e s m below meth c ls A Q hQ hx hb hr hts hown hlocks hml hnm hKX hP hD hA hS hl
  have hK := hKX.1
  have iwX12 := iw_X12_payMany_X12
  obtain ⟨H, hH⟩ : ∃ h, h = s.heap := ⟨_, rfl⟩
  obtain ⟨locs, hlo⟩ : ∃ h : List Loc, h = [] := ⟨_, rfl⟩
  have hS : va_S A s.heap H locs := by rw [hH, hlo]; exact hS
  have hP : va_P G.1 vwCl [(x, .inr (13, [.int (iz (th)), .int (iz (6)), .ref am, .null, .ref tb, .ref lv, .int (iz (0)), .ref wt, .int (iz (0)), .ref bg, .ref pm, .int (iz (0))])), (am, zaL (G.2 0) 41 (fun _ => 0))] H := by rw [hH]; exact hP
  have hD : va_D A [(x, .inr (13, [.int (iz (th)), .int (iz (6)), .ref am, .null, .ref tb, .ref lv, .int (iz (0)), .ref wt, .int (iz (0)), .ref bg, .ref pm, .int (iz (0))])), (am, zaL (G.2 0) 41 (fun _ => 0))] := hD
  have hl : lv_has ls 10 [(0, .ref x), (1, .int (iz (fr))), (2, .int (iz (mn))), (3, .long (lz (mo))), (5, .long (lz (se)))] := hl
  rw [← hH, ← hlo]
  refine lv_iload_n hx hb dX12_payMany_0 rfl (lv_at hl 1 rfl) ?_
  refine zr_i2l hx hb (x := fr) (⟨by omega, by omega⟩) dX12_payMany_1 ?_
  refine lv_lconst (v := lz (0)) hx hb dX12_payMany_2 rfl ?_
  refine zr_ldc2 (z := 40) hx hb hown (hts (.constantLong RX12 125 (40)) (by decide +kernel)) rfl dX12_payMany_3 ?_
  refine zc_z (wr := [(x, .inr (13, [.int (iz (th)), .int (iz (6)), .ref am, .null, .ref tb, .ref lv, .int (iz (0)), .ref wt, .int (iz (0)), .ref bg, .ref pm, .int (iz (0))])), (am, zaL (G.2 0) 41 (fun _ => 0))]) (va_runS (As := [.long (lz (fr)), .long (lz (0)), .long (lz (40))]) (rest := []) ⟨hx, hb, hml, hown, hts⟩ (c_X12_in l G fr 0 40 (by omega) (by omega) (by omega) H.size) (va_cwS 3 hts gX12_payMany_X12_in rfl rfl rfl (by decide +kernel) ⟨Nat.le_of_ble_eq_true rfl, Nat.le_of_ble_eq_true rfl⟩) (zpS hKX hP hD [] rfl rfl) rfl rfl hl.1 rfl (lv_room (Nat.le_of_ble_eq_true rfl)) dX12_payMany_6 ⟨(by first | exact Nat.le_of_ble_eq_true rfl | (show _ ≤ (0 : Nat); omega)), (by first | exact Nat.le_of_ble_eq_true rfl | (show _ ≤ (0 : Nat); omega))⟩) hP hD hS hA [] [0, 1] rfl rfl rfl (by decide) (fun y1 u_1 H locs hy1 hP hD hS => ?_)
  have hP : va_P G.1 vwCl [(x, .inr (13, [.int (iz (th)), .int (iz (6)), .ref am, .null, .ref tb, .ref lv, .int (iz (0)), .ref wt, .int (iz (0)), .ref bg, .ref pm, .int (iz (0))])), (am, zaL (G.2 0) 41 (fun _ => 0))] H := hP
  have hD : va_D A [(x, .inr (13, [.int (iz (th)), .int (iz (6)), .ref am, .null, .ref tb, .ref lv, .int (iz (0)), .ref wt, .int (iz (0)), .ref bg, .ref pm, .int (iz (0))])), (am, zaL (G.2 0) 41 (fun _ => 0))] := hD
  have hy1 : y1 = decide ((0 : Int) ≤ fr ∧ fr ≤ (40 : Int)) := hy1
  rw [show y1 = true from hy1.trans (decide_eq_true (by omega))]
  refine zr_ifz_eq (tgt := 57) hx hb dX12_payMany_9 (by decide) (fun h_3 => ?_) (fun h_3 => ?_)
  · exact absurd h_3 (by decide)
  ·
    refine lv_iload_n hx hb dX12_payMany_12 rfl (lv_at hl 2 rfl) ?_
    refine zr_i2l hx hb (x := mn) (⟨by omega, by omega⟩) dX12_payMany_13 ?_
    refine lv_lconst (v := lz (1)) hx hb dX12_payMany_14 rfl ?_
    refine zr_ldc2 (z := 41) hx hb hown (hts (.constantLong RX12 131 (41)) (by decide +kernel)) rfl dX12_payMany_15 ?_
    refine zc_z (wr := [(x, .inr (13, [.int (iz (th)), .int (iz (6)), .ref am, .null, .ref tb, .ref lv, .int (iz (0)), .ref wt, .int (iz (0)), .ref bg, .ref pm, .int (iz (0))])), (am, zaL (G.2 0) 41 (fun _ => 0))]) (va_runS (As := [.long (lz (mn)), .long (lz (1)), .long (lz (41))]) (rest := []) ⟨hx, hb, hml, hown, hts⟩ (c_X12_in l G mn 1 41 (by omega) (by omega) (by omega) H.size) (va_cwS 3 hts gX12_payMany_X12_in rfl rfl rfl (by decide +kernel) ⟨Nat.le_of_ble_eq_true rfl, Nat.le_of_ble_eq_true rfl⟩) (zpS hKX hP hD [] rfl rfl) rfl rfl hl.1 rfl (lv_room (Nat.le_of_ble_eq_true rfl)) dX12_payMany_18 ⟨(by first | exact Nat.le_of_ble_eq_true rfl | (show _ ≤ (0 : Nat); omega)), (by first | exact Nat.le_of_ble_eq_true rfl | (show _ ≤ (0 : Nat); omega))⟩) hP hD hS hA [] [0, 1] rfl rfl rfl (by decide) (fun y2 u_4 H locs hy2 hP hD hS => ?_)
    have hP : va_P G.1 vwCl [(x, .inr (13, [.int (iz (th)), .int (iz (6)), .ref am, .null, .ref tb, .ref lv, .int (iz (0)), .ref wt, .int (iz (0)), .ref bg, .ref pm, .int (iz (0))])), (am, zaL (G.2 0) 41 (fun _ => 0))] H := hP
    have hD : va_D A [(x, .inr (13, [.int (iz (th)), .int (iz (6)), .ref am, .null, .ref tb, .ref lv, .int (iz (0)), .ref wt, .int (iz (0)), .ref bg, .ref pm, .int (iz (0))])), (am, zaL (G.2 0) 41 (fun _ => 0))] := hD
    have hy2 : y2 = decide ((1 : Int) ≤ mn ∧ mn ≤ (41 : Int)) := hy2
    rw [show y2 = true from hy2.trans (decide_eq_true (by omega))]
    refine zr_ifz_eq (tgt := 57) hx hb dX12_payMany_21 (by decide) (fun h_6 => ?_) (fun h_6 => ?_)
    · exact absurd h_6 (by decide)
    ·
      refine lv_lload_n hx hb dX12_payMany_24 rfl (lv_at hl 3 rfl) ?_
      refine zc_z (wr := [(x, .inr (13, [.int (iz (th)), .int (iz (6)), .ref am, .null, .ref tb, .ref lv, .int (iz (0)), .ref wt, .int (iz (0)), .ref bg, .ref pm, .int (iz (0))])), (am, zaL (G.2 0) 41 (fun _ => 0))]) (va_runS (As := [.long (lz (mo))]) (rest := []) ⟨hx, hb, hml, hown, hts⟩ (c_X12_isAmount l G mo (by omega) H.size) (va_cwS 1 hts gX12_payMany_X12_isAmount rfl rfl rfl (by decide +kernel) ⟨Nat.le_of_ble_eq_true rfl, Nat.le_of_ble_eq_true rfl⟩) (zpS hKX hP hD [] rfl rfl) rfl rfl hl.1 rfl (lv_room (Nat.le_of_ble_eq_true rfl)) dX12_payMany_25 ⟨(by first | exact Nat.le_of_ble_eq_true rfl | (show _ ≤ (0 : Nat); omega)), (by first | exact Nat.le_of_ble_eq_true rfl | (show _ ≤ (0 : Nat); omega))⟩) hP hD hS hA [] [0, 1] rfl rfl rfl (by decide) (fun y3 u_7 H locs hy3 hP hD hS => ?_)
      have hP : va_P G.1 vwCl [(x, .inr (13, [.int (iz (th)), .int (iz (6)), .ref am, .null, .ref tb, .ref lv, .int (iz (0)), .ref wt, .int (iz (0)), .ref bg, .ref pm, .int (iz (0))])), (am, zaL (G.2 0) 41 (fun _ => 0))] H := hP
      have hD : va_D A [(x, .inr (13, [.int (iz (th)), .int (iz (6)), .ref am, .null, .ref tb, .ref lv, .int (iz (0)), .ref wt, .int (iz (0)), .ref bg, .ref pm, .int (iz (0))])), (am, zaL (G.2 0) 41 (fun _ => 0))] := hD
      have hy3 : y3 = decide (-1000000000 ≤ mo ∧ mo ≤ 1000000000) := hy3
      rw [show y3 = true from hy3.trans (decide_eq_true (by omega))]
      refine zr_ifz_eq (tgt := 57) hx hb dX12_payMany_28 (by decide) (fun h_9 => ?_) (fun h_9 => ?_)
      · exact absurd h_9 (by decide)
      ·
        refine lv_lload hx hb dX12_payMany_31 (lv_at hl 4 rfl) ?_
        refine zr_ldc2 (z := -1000000) hx hb hown (hts (.constantLong RX12 133 (-1000000)) (by decide +kernel)) rfl dX12_payMany_33 ?_
        refine zr_ldc2 (z := 1000000) hx hb hown (hts (.constantLong RX12 135 (1000000)) (by decide +kernel)) rfl dX12_payMany_36 ?_
        refine zc_z (wr := [(x, .inr (13, [.int (iz (th)), .int (iz (6)), .ref am, .null, .ref tb, .ref lv, .int (iz (0)), .ref wt, .int (iz (0)), .ref bg, .ref pm, .int (iz (0))])), (am, zaL (G.2 0) 41 (fun _ => 0))]) (va_runS (As := [.long (lz (se)), .long (lz (-1000000)), .long (lz (1000000))]) (rest := []) ⟨hx, hb, hml, hown, hts⟩ (c_X12_in l G se (-1000000) 1000000 (by omega) (by omega) (by omega) H.size) (va_cwS 3 hts gX12_payMany_X12_in rfl rfl rfl (by decide +kernel) ⟨Nat.le_of_ble_eq_true rfl, Nat.le_of_ble_eq_true rfl⟩) (zpS hKX hP hD [] rfl rfl) rfl rfl hl.1 rfl (lv_room (Nat.le_of_ble_eq_true rfl)) dX12_payMany_39 ⟨(by first | exact Nat.le_of_ble_eq_true rfl | (show _ ≤ (0 : Nat); omega)), (by first | exact Nat.le_of_ble_eq_true rfl | (show _ ≤ (0 : Nat); omega))⟩) hP hD hS hA [] [0, 1] rfl rfl rfl (by decide) (fun y4 u_10 H locs hy4 hP hD hS => ?_)
        have hP : va_P G.1 vwCl [(x, .inr (13, [.int (iz (th)), .int (iz (6)), .ref am, .null, .ref tb, .ref lv, .int (iz (0)), .ref wt, .int (iz (0)), .ref bg, .ref pm, .int (iz (0))])), (am, zaL (G.2 0) 41 (fun _ => 0))] H := hP
        have hD : va_D A [(x, .inr (13, [.int (iz (th)), .int (iz (6)), .ref am, .null, .ref tb, .ref lv, .int (iz (0)), .ref wt, .int (iz (0)), .ref bg, .ref pm, .int (iz (0))])), (am, zaL (G.2 0) 41 (fun _ => 0))] := hD
        have hy4 : y4 = decide ((-1000000 : Int) ≤ se ∧ se ≤ (1000000 : Int)) := hy4
        rw [show y4 = true from hy4.trans (decide_eq_true (by omega))]
        refine zr_ifz_eq (tgt := 57) hx hb dX12_payMany_42 (by decide) (fun h_12 => ?_) (fun h_12 => ?_)
        · exact absurd h_12 (by decide)
        ·
          refine lv_iload_n hx hb dX12_payMany_45 rfl (lv_at hl 1 rfl) ?_
          refine lv_iload_n hx hb dX12_payMany_46 rfl (lv_at hl 2 rfl) ?_
          refine zr_iadd hx hb dX12_payMany_47 ?_
          refine lv_bipush (v := iz (41)) hx hb dX12_payMany_48 rfl ?_
          refine zr_icmp_gt (x := fr + mn) (y := 41) (tgt := 57) hx hb (⟨by omega, by omega⟩) (⟨by omega, by omega⟩) dX12_payMany_50 (by decide) (fun h_13 => ?_) (fun h_13 => ?_)
          · exact absurd h_13 (by omega)
          ·
            refine lv_iconst (v := iz (1)) hx hb dX12_payMany_53 rfl ?_
            refine lv_goto (tgt := 58) hx hb dX12_payMany_54 (by decide) ?_
            refine lv_istore (lv' := [(7, .int (iz (1))), (0, .ref x), (1, .int (iz (fr))), (2, .int (iz (mn))), (3, .long (lz (mo))), (5, .long (lz (se)))]) hx hb dX12_payMany_58 hl (by decide) rfl (fun ls hl => ?_)
            refine lv_iload hx hb dX12_payMany_60 (lv_at hl 0 rfl) ?_
            refine lv_istore (lv' := [(8, .int (iz (1))), (7, .int (iz (1))), (0, .ref x), (1, .int (iz (fr))), (2, .int (iz (mn))), (3, .long (lz (mo))), (5, .long (lz (se)))]) hx hb dX12_payMany_62 hl (by decide) rfl (fun ls hl => ?_)
            refine lv_iconst (v := iz (0)) hx hb dX12_payMany_64 rfl ?_
            refine lv_istore (lv' := [(9, .int (iz (0))), (8, .int (iz (1))), (7, .int (iz (1))), (0, .ref x), (1, .int (iz (fr))), (2, .int (iz (mn))), (3, .long (lz (mo))), (5, .long (lz (se)))]) hx hb dX12_payMany_65 hl (by decide) rfl (fun ls hl => ?_)
            have hl_67 : ∀ (zn_67 : Nat) (k : Int) (ft : Bool) (H : Heap) (locs : List Loc) (ls : Array Slot), (mn - k).toNat < zn_67 → (0 ≤ k ∧ k ≤ mn) → (ft = true ↔ ∀ j : Int, 0 ≤ j → j < k → zamt (mo + j * se)) → va_P G.1 vwCl [(x, .inr (13, [.int (iz (th)), .int (iz (6)), .ref am, .null, .ref tb, .ref lv, .int (iz (0)), .ref wt, .int (iz (0)), .ref bg, .ref pm, .int (iz (0))])), (am, zaL (G.2 0) 41 (fun _ => 0))] H → va_D A [(x, .inr (13, [.int (iz (th)), .int (iz (6)), .ref am, .null, .ref tb, .ref lv, .int (iz (0)), .ref wt, .int (iz (0)), .ref bg, .ref pm, .int (iz (0))])), (am, zaL (G.2 0) 41 (fun _ => 0))] → va_S A s.heap H locs → lv_has ls 10 [(9, .int (iz (k))), (8, .int (iz (zbb ft))), (7, .int (iz (1))), (0, .ref x), (1, .int (iz (fr))), (2, .int (iz (mn))), (3, .long (lz (mo))), (5, .long (lz (se)))] → W p l e rm_c_X12_payMany_o s m ([.ref x, .int (iz (fr)), .int (iz (mn)), .long (lz (mo)), .long (lz (se))] : List Value).toArray below meth c H locs (0 + 0 + 0 + 0 + 0) (0 + 0 + 0 + 0 + 0) Q (F0 m 67 ls []) := by
              intro zn_67
              induction zn_67 with
              | zero => intro k ft H locs ls hm; exact absurd hm (Nat.not_lt_zero _)
              | succ zn_67 ih_67 =>
                intro k ft H locs ls hm_67 k1 k2 hP hD hS hl
                refine lv_iload hx hb dX12_payMany_67 (lv_at hl 2 rfl) ?_
                refine zr_if_eq (x := 1) (tgt := 110) hx hb (⟨by omega, by omega⟩) dX12_payMany_69 (by decide) (fun h_14 => ?_) (fun h_14 => ?_)
                · exact absurd h_14 (by omega)
                ·
                  refine lv_iload hx hb dX12_payMany_72 (lv_at hl 0 rfl) ?_
                  refine lv_iload_n hx hb dX12_payMany_74 rfl (lv_at hl 5 rfl) ?_
                  refine zr_icmp_ge (x := k) (y := mn) (tgt := 110) hx hb (⟨by omega, by omega⟩) (⟨by omega, by omega⟩) dX12_payMany_75 (by decide) (fun h_15 => ?_) (fun h_15 => ?_)
                  ·
                    have eft : ft = true := k2.2 (by rw [show k = mn by omega]; exact h2)
                    refine lv_aload_n hx hb dX12_payMany_110 rfl (lv_at hl 3 rfl) ?_
                    refine lv_iload hx hb dX12_payMany_111 (lv_at hl 2 rfl) ?_
                    refine lv_iload hx hb dX12_payMany_113 (lv_at hl 1 rfl) ?_
                    refine lv_iconst (v := iz (1)) hx hb dX12_payMany_115 rfl ?_
                    refine zc_z (wr := [(am, zaL (G.2 0) 41 (fun _ => 0))]) (va_runV (As := [.int (iz (1)), .int (iz (zbb ft)), .int (iz (1))]) (rest := []) ⟨hx, hb, hml, hown, hts⟩ (c_X12_passes l G x th (.ref am) .null (.ref tb) (.ref lv) (.int (iz (0))) (.ref wt) (.int (iz (0))) (.ref bg) (.ref pm) (.int (iz (0))) 6 true ft true  H.size) (cwV 3 hts gX12_payMany_X12_passes rfl rfl rfl (by decide +kernel) ⟨Nat.le_of_ble_eq_true rfl, Nat.le_of_ble_eq_true rfl⟩) (zpV hKX hP hD [0] rfl rfl 0 13 rfl rfl) rfl rfl hl.1 rfl (lv_room (Nat.le_of_ble_eq_true rfl)) dX12_payMany_116 ⟨(by first | exact Nat.le_of_ble_eq_true rfl | (show _ ≤ (0 : Nat); omega)), (by first | exact Nat.le_of_ble_eq_true rfl | (show _ ≤ (0 : Nat); omega))⟩) hP hD hS hA [0] [1] rfl rfl rfl (by decide) (fun pz u_16 H locs hp hP hD hS => ?_)
                    generalize u_16 = thp at hP hD hp
                    have hP : va_P G.1 vwCl [(am, zaL (G.2 0) 41 (fun _ => 0)), (x, .inr (13, [.int (iz (thp)), .int (iz ((6 : Int))), .ref am, .null, .ref tb, .ref lv, .int (iz (0)), .ref wt, .int (iz (0)), .ref bg, .ref pm, .int (iz (0))]))] H := hP
                    have hD : va_D A [(am, zaL (G.2 0) 41 (fun _ => 0)), (x, .inr (13, [.int (iz (thp)), .int (iz ((6 : Int))), .ref am, .null, .ref tb, .ref lv, .int (iz (0)), .ref wt, .int (iz (0)), .ref bg, .ref pm, .int (iz (0))]))] := hD
                    have hp : pz = (true && ft && true) ∧ thp = zcode true ft true := hp
                    rw [show pz = true from hp.1.trans (by rw [eft]; rfl)]
                    have htp : thp = 0 := hp.2.trans (by rw [eft]; rfl)
                    refine zr_ifz_ne (tgt := 124) hx hb dX12_payMany_119 (by decide) (fun h_18 => ?_) (fun h_18 => ?_)
                    ·
                      refine lv_iconst (v := iz (0)) hx hb dX12_payMany_124 rfl ?_
                      refine lv_istore (lv' := [(9, .int (iz (0))), (8, .int (iz (zbb ft))), (7, .int (iz (1))), (0, .ref x), (1, .int (iz (fr))), (2, .int (iz (mn))), (3, .long (lz (mo))), (5, .long (lz (se)))]) hx hb dX12_payMany_125 hl (by decide) rfl (fun ls hl => ?_)
                      have hl_127 : ∀ (zn_127 : Nat) (k : Int) (f : Int → Int) (H : Heap) (locs : List Loc) (ls : Array Slot), (mn - k).toNat < zn_127 → (0 ≤ k ∧ k ≤ mn) → (∀ i, f i = zpmf fr k mo se i) → va_P G.1 vwCl [(am, zaL (G.2 0) 41 (f)), (x, .inr (13, [.int (iz (thp)), .int (iz ((6 : Int))), .ref am, .null, .ref tb, .ref lv, .int (iz (0)), .ref wt, .int (iz (0)), .ref bg, .ref pm, .int (iz (0))]))] H → va_D A [(am, zaL (G.2 0) 41 (f)), (x, .inr (13, [.int (iz (thp)), .int (iz ((6 : Int))), .ref am, .null, .ref tb, .ref lv, .int (iz (0)), .ref wt, .int (iz (0)), .ref bg, .ref pm, .int (iz (0))]))] → va_S A s.heap H locs → lv_has ls 10 [(9, .int (iz (k))), (8, .int (iz (zbb ft))), (7, .int (iz (1))), (0, .ref x), (1, .int (iz (fr))), (2, .int (iz (mn))), (3, .long (lz (mo))), (5, .long (lz (se)))] → W p l e rm_c_X12_payMany_o s m ([.ref x, .int (iz (fr)), .int (iz (mn)), .long (lz (mo)), .long (lz (se))] : List Value).toArray below meth c H locs (0 + 0 + 0 + 0 + 0 + 0) (0 + 0 + 0 + 0 + 0 + 0) Q (F0 m 127 ls []) := by
                        intro zn_127
                        induction zn_127 with
                        | zero => intro k f H locs ls hm; exact absurd hm (Nat.not_lt_zero _)
                        | succ zn_127 ih_127 =>
                          intro k f H locs ls hm_127 k1 k2 hP hD hS hl
                          refine lv_iload hx hb dX12_payMany_127 (lv_at hl 0 rfl) ?_
                          refine lv_iload_n hx hb dX12_payMany_129 rfl (lv_at hl 5 rfl) ?_
                          refine zr_icmp_ge (x := k) (y := mn) (tgt := 159) hx hb (⟨by omega, by omega⟩) (⟨by omega, by omega⟩) dX12_payMany_130 (by decide) (fun h_19 => ?_) (fun h_19 => ?_)
                          ·
                            refine lv_aload_n hx hb dX12_payMany_159 rfl (lv_at hl 3 rfl) ?_
                            refine zc_i (wr := []) (va_runV (As := []) (rest := []) ⟨hx, hb, hml, hown, hts⟩ (c_X12_amountsThere_f l G x am tb lv wt bg pm thp f (tpm_lo k2 (by omega) (by omega) (by omega)) H.size) (cwV 0 hts gX12_payMany_X12_amountsThere rfl rfl rfl (by decide +kernel) ⟨Nat.le_of_ble_eq_true rfl, Nat.le_of_ble_eq_true rfl⟩) (zpV hKX hP hD [1, 0] rfl rfl 1 13 rfl rfl) rfl rfl hl.1 rfl (lv_room (Nat.le_of_ble_eq_true rfl)) dX12_payMany_160 ⟨(by first | exact Nat.le_of_ble_eq_true rfl | (show _ ≤ (0 : Nat); omega)), (by first | exact Nat.le_of_ble_eq_true rfl | (show _ ≤ (0 : Nat); omega))⟩) hP hD hS hA [1, 0] [] rfl rfl rfl (by decide) (fun zz u_20 H locs hzz hP hD hS => ?_)
                            have hP : va_P G.1 vwCl [(x, .inr (13, [.int (iz (thp)), .int (iz (6)), .ref am, .null, .ref tb, .ref lv, .int (iz (0)), .ref wt, .int (iz (0)), .ref bg, .ref pm, .int (iz (0))])), (am, zaL (G.2 0) 41 (f))] H := hP
                            have hD : va_D A [(x, .inr (13, [.int (iz (thp)), .int (iz (6)), .ref am, .null, .ref tb, .ref lv, .int (iz (0)), .ref wt, .int (iz (0)), .ref bg, .ref pm, .int (iz (0))])), (am, zaL (G.2 0) 41 (f))] := hD
                            have hzz : zz = zcnt f 41 := hzz
                            rw [hQ]
                            exact zr_iret (z := zz) (u := (thp)) hx hb hr hlocks (hP.sub [0] rfl) (hD.sub [0] (by decide) rfl) hS (by first | exact Nat.le_of_ble_eq_true rfl | omega) (by first | exact Nat.le_of_ble_eq_true rfl | omega) dX12_payMany_163 (show zz = zcnt (zpmf fr mn mo se) 41 ∧ thp = 0 from ⟨by rw [hzz, show f = zpmf fr mn mo se from funext (fun i => by rw [k2 i, show k = mn by omega])], htp⟩)
                          ·
                            refine lv_aload_n hx hb dX12_payMany_133 rfl (lv_at hl 3 rfl) ?_
                            refine va_get (D := G.1) (ci := 13) (v := .ref am) (C := RX12) (T := TX12) (N := 12) hx hb hts iwX12 hown hK hP 1 rfl rfl 2 (by decide) (hts (.fieldLink RX12 65 "AnnuityHouseModel" "amounts" "[J") (by decide +kernel)) (fun _ h9 => h9) rfl dX12_payMany_134 ?_
                            refine lv_iload_n hx hb dX12_payMany_137 rfl (lv_at hl 4 rfl) ?_
                            refine lv_iload hx hb dX12_payMany_138 (lv_at hl 0 rfl) ?_
                            refine zr_iadd hx hb dX12_payMany_140 ?_
                            have hfk := tpm_at k2
                            refine lv_dup2_11 hx hb dX12_payMany_141 rfl rfl ?_
                            refine zr_lald hx hb hK hP 0 0 rfl rfl (i := fr + k) (⟨by omega, by omega, by omega⟩) dX12_payMany_142 ?_
                            refine lv_lload_n hx hb dX12_payMany_143 rfl (lv_at hl 6 rfl) ?_
                            refine lv_iload hx hb dX12_payMany_144 (lv_at hl 0 rfl) ?_
                            refine zr_i2l hx hb (x := k) (⟨by omega, by omega⟩) dX12_payMany_146 ?_
                            refine lv_lload hx hb dX12_payMany_147 (lv_at hl 7 rfl) ?_
                            have hkr := tpm_rng (k := k) (se := se) (by omega) (by omega)
                            refine zr_lmul hx hb dX12_payMany_149 ?_
                            refine zr_ladd hx hb dX12_payMany_150 ?_
                            refine zr_ladd hx hb dX12_payMany_151 ?_
                            refine zr_last hx hb hK hP hD hS 0 0 rfl rfl (i := fr + k) (x := (f (fr + k)) + (mo + (k * se))) (⟨by omega, by omega, by omega⟩) dX12_payMany_152 (fun H locs hP hD hS => ?_)
                            have hP : va_P G.1 vwCl [(am, zaL (G.2 0) 41 (zup f (fr + k) ((f (fr + k)) + (mo + (k * se))))), (x, .inr (13, [.int (iz (thp)), .int (iz ((6 : Int))), .ref am, .null, .ref tb, .ref lv, .int (iz (0)), .ref wt, .int (iz (0)), .ref bg, .ref pm, .int (iz (0))]))] H := hP
                            have hD : va_D A [(am, zaL (G.2 0) 41 (zup f (fr + k) ((f (fr + k)) + (mo + (k * se))))), (x, .inr (13, [.int (iz (thp)), .int (iz ((6 : Int))), .ref am, .null, .ref tb, .ref lv, .int (iz (0)), .ref wt, .int (iz (0)), .ref bg, .ref pm, .int (iz (0))]))] := hD
                            refine lv_iinc (v := iz (k + 1)) (lv' := [(9, .int (iz (k + 1))), (8, .int (iz (zbb ft))), (7, .int (iz (1))), (0, .ref x), (1, .int (iz (fr))), (2, .int (iz (mn))), (3, .long (lz (mo))), (5, .long (lz (se)))]) hx hb dX12_payMany_153 hl (k := 0) rfl (by rw [show Int32.ofInt (1) = iz (1) from rfl, iz_add]) (by decide) rfl (fun ls hl => ?_)
                            refine lv_goto (tgt := 127) hx hb dX12_payMany_156 (by decide) ?_
                            exact ih_127 (k + 1) (zup f (fr + k) ((f (fr + k)) + (mo + (k * se)))) _ _ _ (by omega) (by omega) (tpm_up k1.1 k2 (by omega)) (hP) (hD) hS (hl)
                      exact hl_127 ((mn - 0 : Int).toNat + 1) 0 (fun _ => 0) _ _ _ (Nat.lt_succ_self _) (by omega) (tpm_0 fr mo se) (hP) (hD) hS (hl)
                    · exact absurd h_18 (by decide)
                  ·
                    refine lv_iload hx hb dX12_payMany_78 (lv_at hl 1 rfl) ?_
                    refine lv_aload_n hx hb dX12_payMany_80 rfl (lv_at hl 3 rfl) ?_
                    refine va_get (D := G.1) (ci := 13) (v := .ref am) (C := RX12) (T := TX12) (N := 12) hx hb hts iwX12 hown hK hP 0 rfl rfl 2 (by decide) (hts (.fieldLink RX12 65 "AnnuityHouseModel" "amounts" "[J") (by decide +kernel)) (fun _ h9 => h9) rfl dX12_payMany_81 ?_
                    refine lv_iload_n hx hb dX12_payMany_84 rfl (lv_at hl 4 rfl) ?_
                    refine lv_iload hx hb dX12_payMany_85 (lv_at hl 0 rfl) ?_
                    refine zr_iadd hx hb dX12_payMany_87 ?_
                    refine zr_lald hx hb hK hP 1 0 rfl rfl (i := fr + k) (⟨by omega, by omega, by omega⟩) dX12_payMany_88 ?_
                    refine zr_eql (x := (fun _ => 0) (fr + k)) (y := 0) rfl ?_
                    refine lv_lload_n hx hb dX12_payMany_89 rfl (lv_at hl 6 rfl) ?_
                    refine zr_ladd hx hb dX12_payMany_90 ?_
                    refine lv_iload hx hb dX12_payMany_91 (lv_at hl 0 rfl) ?_
                    refine zr_i2l hx hb (x := k) (⟨by omega, by omega⟩) dX12_payMany_93 ?_
                    refine lv_lload hx hb dX12_payMany_94 (lv_at hl 7 rfl) ?_
                    have hkr := tpm_rng (k := k) (se := se) (by omega) (by omega)
                    refine zr_lmul hx hb dX12_payMany_96 ?_
                    refine zr_ladd hx hb dX12_payMany_97 ?_
                    refine zc_z (wr := [(x, .inr (13, [.int (iz (th)), .int (iz (6)), .ref am, .null, .ref tb, .ref lv, .int (iz (0)), .ref wt, .int (iz (0)), .ref bg, .ref pm, .int (iz (0))])), (am, zaL (G.2 0) 41 (fun _ => 0))]) (va_runS (As := [.long (lz ((0 + mo) + (k * se)))]) (rest := [.int (iz (zbb ft))]) ⟨hx, hb, hml, hown, hts⟩ (c_X12_isAmount l G ((0 + mo) + (k * se)) (by omega) H.size) (va_cwS 1 hts gX12_payMany_X12_isAmount rfl rfl rfl (by decide +kernel) ⟨Nat.le_of_ble_eq_true rfl, Nat.le_of_ble_eq_true rfl⟩) (zpS hKX hP hD [] rfl rfl) rfl rfl hl.1 rfl (lv_room (Nat.le_of_ble_eq_true rfl)) dX12_payMany_98 ⟨(by first | exact Nat.le_of_ble_eq_true rfl | (show _ ≤ (0 : Nat); omega)), (by first | exact Nat.le_of_ble_eq_true rfl | (show _ ≤ (0 : Nat); omega))⟩) hP hD hS hA [] [0, 1] rfl rfl rfl (by decide) (fun y5 u_22 H locs hy5 hP hD hS => ?_)
                    have hP : va_P G.1 vwCl [(x, .inr (13, [.int (iz (th)), .int (iz (6)), .ref am, .null, .ref tb, .ref lv, .int (iz (0)), .ref wt, .int (iz (0)), .ref bg, .ref pm, .int (iz (0))])), (am, zaL (G.2 0) 41 (fun _ => 0))] H := hP
                    have hD : va_D A [(x, .inr (13, [.int (iz (th)), .int (iz (6)), .ref am, .null, .ref tb, .ref lv, .int (iz (0)), .ref wt, .int (iz (0)), .ref bg, .ref pm, .int (iz (0))])), (am, zaL (G.2 0) 41 (fun _ => 0))] := hD
                    have hy5 : y5 = decide (-1000000000 ≤ ((0 + mo) + (k * se)) ∧ ((0 + mo) + (k * se)) ≤ 1000000000) := hy5
                    refine zr_iandZ hx hb dX12_payMany_101 ?_
                    refine lv_istore (lv' := [(8, .int (iz (zbb (ft && y5)))), (9, .int (iz (k))), (7, .int (iz (1))), (0, .ref x), (1, .int (iz (fr))), (2, .int (iz (mn))), (3, .long (lz (mo))), (5, .long (lz (se)))]) hx hb dX12_payMany_102 hl (by decide) rfl (fun ls hl => ?_)
                    refine lv_iinc (v := iz (k + 1)) (lv' := [(9, .int (iz (k + 1))), (8, .int (iz (zbb (ft && y5)))), (7, .int (iz (1))), (0, .ref x), (1, .int (iz (fr))), (2, .int (iz (mn))), (3, .long (lz (mo))), (5, .long (lz (se)))]) hx hb dX12_payMany_104 hl (k := 1) rfl (by rw [show Int32.ofInt (1) = iz (1) from rfl, iz_add]) (by decide) rfl (fun ls hl => ?_)
                    refine lv_goto (tgt := 67) hx hb dX12_payMany_107 (by decide) ?_
                    refine W.widen (k := 0 + 0 + 0 + 0 + 0) (n := 0 + 0 + 0 + 0 + 0) (by omega) (by omega) ?_
                    exact ih_67 (k + 1) (ft && y5) _ _ _ (by omega) (by omega) (tpm_fit k1.1 k2 hy5 (by omega)) (hP) (hD) hS (hl)
            exact hl_67 ((mn - 0 : Int).toNat + 1) 0 true _ _ _ (Nat.lt_succ_self _) (by omega) (⟨fun _ j a b => absurd b (by omega), fun _ => rfl⟩) (hP) (hD) hS (hl)
