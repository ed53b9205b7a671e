-- THE REFERENCE'S WHOLE NUMBERS: contracts (laid by wip/walk/x11.py)
def rm_c_X11_limb : Room := { frames := 0, cells := 0, slots := 0, locals := 0 }
theorem iw_X11_limb_X11 : ∀ w ∈ wsX110, w ∈ wsX11_limb := by decide +kernel
set_option maxHeartbeats 1000000 in
set_option maxRecDepth 100000 in
theorem c_X11_limb (l : Launch) (G : zG) (a : Nat) (b : Nat) (f : Int → Int) (N : Nat) (sg : Int) (v : Int) (i : Int) (h1 : tmw f N sg v) (h2 : 0 ≤ i ∧ i < 2147483647) : zM l G yX11_limb wsX11_limb rm_c_X11_limb [.ref a, .int (iz (i))] [(a, .inr (12, [.int (iz (sg)), .ref b])), (b, zaI (G.2 1) N (f))] (fun A => zQi G (fun (z : Int) (_ : Unit) => z = tx f N i) (fun (_ : Unit) => [(a, .inr (12, [.int (iz (sg)), .ref b])), (b, zaI (G.2 1) N (f))]) A) 0 0 := by
  refine zM_of (cc := cX11_limb) (maxL := 2) (ret := (some .int)) (by decide) rfl (Nat.le_of_ble_eq_true rfl) ?_
  intro p e s m below meth c ls A Q hQ hx hb hr hts hown hlocks hml hnm hKX hP hD hA hS hl
  have hK := hKX.1
  have iwX11 := iw_X11_limb_X11
  obtain ⟨H, hH⟩ : ∃ h, h = s.heap := ⟨_, rfl⟩
  obtain ⟨locs, hlo⟩ : ∃ h : List Loc, h = [] := ⟨_, rfl⟩
  have hS : va_S A s.heap H locs := by rw [hH, hlo]; exact hS
  have hP : va_P G.1 vwCl [(a, .inr (12, [.int (iz (sg)), .ref b])), (b, zaI (G.2 1) N (f))] H := by rw [hH]; exact hP
  have hD : va_D A [(a, .inr (12, [.int (iz (sg)), .ref b])), (b, zaI (G.2 1) N (f))] := hD
  have hl : lv_has ls 2 [(0, .ref a), (1, .int (iz (i)))] := hl
  rw [← hH, ← hlo]
  have hn := h1.n
  refine lv_iload_n hx hb dX11_limb_0 rfl (lv_at hl 1 rfl) ?_
  refine lv_aload_n hx hb dX11_limb_1 rfl (lv_at hl 0 rfl) ?_
  refine va_get (D := G.1) (ci := 12) (v := .ref b) (C := RX11) (T := TX11) (N := 2) hx hb hts iwX11 hown hK hP 0 rfl rfl 1 (by decide) (hts (.fieldLink RX11 13 "AnnuityHouseModel$Whole" "limbs" "[I") (by decide +kernel)) (fun _ h9 => h9) rfl dX11_limb_2 ?_
  refine zr_alenI hx hb hK hP 1 1 rfl rfl dX11_limb_5 ?_
  refine zr_icmp_ge (x := i) (y := N) (tgt := 18) hx hb (⟨by omega, by omega⟩) (⟨by omega, by omega⟩) dX11_limb_6 (by decide) (fun h_1 => ?_) (fun h_1 => ?_)
  ·
    refine lv_iconst (v := iz (0)) hx hb dX11_limb_18 rfl ?_
    rw [hQ]
    exact zr_iret (z := 0) (u := ()) hx hb hr hlocks hP hD hS (by first | exact Nat.le_of_ble_eq_true rfl | omega) (by first | exact Nat.le_of_ble_eq_true rfl | omega) dX11_limb_19 (show 0 = tx f N i from by first | exact (if_pos (by omega)).symm | exact (if_neg (by omega)).symm)
  ·
    refine lv_aload_n hx hb dX11_limb_9 rfl (lv_at hl 0 rfl) ?_
    refine va_get (D := G.1) (ci := 12) (v := .ref b) (C := RX11) (T := TX11) (N := 2) hx hb hts iwX11 hown hK hP 0 rfl rfl 1 (by decide) (hts (.fieldLink RX11 13 "AnnuityHouseModel$Whole" "limbs" "[I") (by decide +kernel)) (fun _ h9 => h9) rfl dX11_limb_10 ?_
    refine lv_iload_n hx hb dX11_limb_13 rfl (lv_at hl 1 rfl) ?_
    refine zr_iald hx hb hK hP 1 1 rfl rfl (i := i) (⟨by omega, by omega, by omega⟩) dX11_limb_14 ?_
    refine lv_goto (tgt := 19) hx hb dX11_limb_15 (by decide) ?_
    rw [hQ]
    exact zr_iret (z := f i) (u := ()) hx hb hr hlocks hP hD hS (by first | exact Nat.le_of_ble_eq_true rfl | omega) (by first | exact Nat.le_of_ble_eq_true rfl | omega) dX11_limb_19 (show (f i) = tx f N i from by first | exact (if_pos (by omega)).symm | exact (if_neg (by omega)).symm)

def rm_c_X11_isNothing : Room := { frames := 0, cells := 0, slots := 0, locals := 0 }
theorem iw_X11_isNothing_X11 : ∀ w ∈ wsX110, w ∈ wsX11_isNothing := by decide +kernel
set_option maxHeartbeats 1000000 in
set_option maxRecDepth 100000 in
theorem c_X11_isNothing (l : Launch) (G : zG) (a : Nat) (b : Nat) (f : Int → Int) (N : Nat) (sg : Int) (v : Int) (h1 : tmw f N sg v) : zM l G yX11_isNothing wsX11_isNothing rm_c_X11_isNothing [.ref a] [(a, .inr (12, [.int (iz (sg)), .ref b])), (b, zaI (G.2 1) N (f))] (fun A => zQz G (fun (z : Bool) (_ : Unit) => z = decide (v = 0)) (fun (_ : Unit) => [(a, .inr (12, [.int (iz (sg)), .ref b])), (b, zaI (G.2 1) N (f))]) A) 0 0 := by
  refine zM_of (cc := cX11_isNothing) (maxL := 1) (ret := (some .boolean)) (by decide) rfl (Nat.le_of_ble_eq_true rfl) ?_
  intro p e s m below meth c ls A Q hQ hx hb hr hts hown hlocks hml hnm hKX hP hD hA hS hl
  have hK := hKX.1
  have iwX11 := iw_X11_isNothing_X11
  obtain ⟨H, hH⟩ : ∃ h, h = s.heap := ⟨_, rfl⟩
  obtain ⟨locs, hlo⟩ : ∃ h : List Loc, h = [] := ⟨_, rfl⟩
  have hS : va_S A s.heap H locs := by rw [hH, hlo]; exact hS
  have hP : va_P G.1 vwCl [(a, .inr (12, [.int (iz (sg)), .ref b])), (b, zaI (G.2 1) N (f))] H := by rw [hH]; exact hP
  have hD : va_D A [(a, .inr (12, [.int (iz (sg)), .ref b])), (b, zaI (G.2 1) N (f))] := hD
  have hl : lv_has ls 1 [(0, .ref a)] := hl
  rw [← hH, ← hlo]
  refine lv_aload_n hx hb dX11_isNothing_0 rfl (lv_at hl 0 rfl) ?_
  refine va_get (D := G.1) (ci := 12) (v := .int (iz (sg))) (C := RX11) (T := TX11) (N := 2) hx hb hts iwX11 hown hK hP 0 rfl rfl 0 (by decide) (hts (.fieldLink RX11 7 "AnnuityHouseModel$Whole" "sign" "I") (by decide +kernel)) (fun _ h9 => h9) rfl dX11_isNothing_1 ?_
  refine zr_if_ne (x := sg) (tgt := 11) hx hb (by rcases h1.sg with q | q | q <;> rw [q] <;> exact ⟨by omega, by omega⟩) dX11_isNothing_4 (by decide) (fun h_1 => ?_) (fun h_1 => ?_)
  ·
    refine lv_iconst (v := iz (0)) hx hb dX11_isNothing_11 rfl ?_
    rw [hQ]
    exact zr_zret (z := false) (rfl) (u := ()) hx hb hr hlocks hP hD hS (by first | exact Nat.le_of_ble_eq_true rfl | omega) (by first | exact Nat.le_of_ble_eq_true rfl | omega) dX11_isNothing_12 (show false = decide (v = 0) from by have := h1.sgn; have := Int.sign_eq_zero_iff_zero (a := v); first | exact (decide_eq_true (by omega)).symm | exact (decide_eq_false (by omega)).symm)
  ·
    refine lv_iconst (v := iz (1)) hx hb dX11_isNothing_7 rfl ?_
    refine lv_goto (tgt := 12) hx hb dX11_isNothing_8 (by decide) ?_
    rw [hQ]
    exact zr_zret (z := true) (rfl) (u := ()) hx hb hr hlocks hP hD hS (by first | exact Nat.le_of_ble_eq_true rfl | omega) (by first | exact Nat.le_of_ble_eq_true rfl | omega) dX11_isNothing_12 (show true = decide (v = 0) from by have := h1.sgn; have := Int.sign_eq_zero_iff_zero (a := v); first | exact (decide_eq_true (by omega)).symm | exact (decide_eq_false (by omega)).symm)

def rm_c_X11_init : Room := { frames := 1, cells := 1, slots := 128, locals := 12 }
theorem iw_X11_init_X11 : ∀ w ∈ wsX110, w ∈ wsX11_init := by decide +kernel
set_option maxHeartbeats 1000000 in
set_option maxRecDepth 100000 in
theorem c_X11_init (l : Launch) (G : zG) (a : Nat) (ca : Nat) (g : Int → Int) (M : Nat) (sg : Int) (h1 : tdig g M) (h2 : sg = -1 ∨ sg = 0 ∨ sg = 1) (h3 : M ≤ 260) (h4 : tsum g M < 10000 ^ 128) (h5 : sg = 0 → tsum g M = 0) : zM l G yX11_init wsX11_init rm_c_X11_init [.ref a, .int (iz (sg)), .ref ca] [(a, .inr (12, [.int (iz (0)), .null])), (ca, zaI (G.2 1) M (g))] (fun A => zQv G (fun (u : (Nat × (Int → Int) × Nat × Int)) => tmw u.2.1 u.2.2.1 u.2.2.2 (sg * tsum g M)) (fun (u : (Nat × (Int → Int) × Nat × Int)) => [(a, .inr (12, [.int (iz (u.2.2.2)), .ref u.1])), (u.1, zaI (G.2 1) u.2.2.1 (u.2.1)), (ca, zaI (G.2 1) M (g))]) A) 1 128 := by
  refine zM_of (cc := cX11_init) (maxL := 5) (ret := none) (by decide) rfl (Nat.le_of_ble_eq_true rfl) ?_
  intro p e s m below meth c ls A Q hQ hx hb hr hts hown hlocks hml hnm hKX hP hD hA hS hl
  have hK := hKX.1
  have iwX11 := iw_X11_init_X11
  obtain ⟨H, hH⟩ : ∃ h, h = s.heap := ⟨_, rfl⟩
  obtain ⟨locs, hlo⟩ : ∃ h : List Loc, h = [] := ⟨_, rfl⟩
  have hS : va_S A s.heap H locs := by rw [hH, hlo]; exact hS
  have hP : va_P G.1 vwCl [(a, .inr (12, [.int (iz (0)), .null])), (ca, zaI (G.2 1) M (g))] H := by rw [hH]; exact hP
  have hD : va_D A [(a, .inr (12, [.int (iz (0)), .null])), (ca, zaI (G.2 1) M (g))] := hD
  have hl : lv_has ls 5 [(0, .ref a), (1, .int (iz (sg))), (2, .ref ca)] := hl
  rw [← hH, ← hlo]
  refine lv_aload_n hx hb dX11_init_0 rfl (lv_at hl 0 rfl) ?_
  refine W.objInit hx hb hown (hts (.methodLink RX11 1 objectInit) (by decide +kernel)) (hts (.instanceMethod objectInit) (by decide +kernel)) (hts (.code objectInit ⟨#[0xb1]⟩ 1 none) (by decide +kernel)) rfl (by rw [hml]; exact hl.1) rfl dX11_init_1 (Nat.le_of_ble_eq_true rfl) (Nat.le_of_ble_eq_true rfl) ?_
  have hl_25 : ∀ (j : Int) (H : Heap) (locs : List Loc) (ls : Array Slot), (0 ≤ j ∧ j ≤ M) → (tsum g M = tsum g j.toNat) → (j = 0 ∨ g (j - 1) ≠ 0) → va_P G.1 vwCl [(a, .inr (12, [.int (iz (0)), .null])), (ca, zaI (G.2 1) M (g))] H → va_D A [(a, .inr (12, [.int (iz (0)), .null])), (ca, zaI (G.2 1) M (g))] → va_S A s.heap H locs → lv_has ls 5 [(3, .int (iz (j))), (0, .ref a), (1, .int (iz (sg))), (2, .ref ca)] → W p l e rm_c_X11_init s m ([.ref a, .int (iz (sg)), .ref ca] : List Value).toArray below meth c H locs 0 0 Q (F0 m 25 ls []) := by
    intro j H locs ls k1 k2 k3 hP hD hS hl
    have hl_35 : ∀ (y : Int) (H : Heap) (locs : List Loc) (ls : Array Slot), (y = if j = 0 then 0 else sg) → va_P G.1 vwCl [(a, .inr (12, [.int (iz (0)), .null])), (ca, zaI (G.2 1) M (g))] H → va_D A [(a, .inr (12, [.int (iz (0)), .null])), (ca, zaI (G.2 1) M (g))] → va_S A s.heap H locs → lv_has ls 5 [(3, .int (iz (j))), (0, .ref a), (1, .int (iz (sg))), (2, .ref ca)] → W p l e rm_c_X11_init s m ([.ref a, .int (iz (sg)), .ref ca] : List Value).toArray below meth c H locs 0 0 Q (F0 m 35 ls [.int (iz (y)), .ref a]) := by
      intro y H locs ls k4 hP hD hS hl
      have hj128 : j ≤ 128 := tini_len h1 k1 k2 k3 h4
      refine va_putF (D := G.1) (ci := 12) (v := .int (iz (y))) (ty := .int) (C := RX11) (T := TX11) (N := 2) hx hb hts iwX11 tyX11 tyX11_ok nmX11 hown hK hP hD hS 0 rfl rfl 0 (by decide) (hts (.fieldLink RX11 7 "AnnuityHouseModel$Whole" "sign" "I") (by decide +kernel)) (fun _ h9 => h9) rfl hnm rfl (by decide +kernel) rfl rfl (Nat.le_of_ble_eq_true rfl) dX11_init_35 (fun H locs hP hD hS => ?_)
      have hP : va_P G.1 vwCl [(a, .inr (12, [.int (iz (y)), .null])), (ca, zaI (G.2 1) M (g))] H := hP
      have hD : va_D A [(a, .inr (12, [.int (iz (y)), .null])), (ca, zaI (G.2 1) M (g))] := hD
      refine lv_aload_n hx hb dX11_init_38 rfl (lv_at hl 1 rfl) ?_
      refine lv_iload_n hx hb dX11_init_39 rfl (lv_at hl 0 rfl) ?_
      refine zr_newaI (G := G) (n := j) (N := (j).toNat) hx hb (hts (.arrayClass .int) (by decide +kernel)) hK hP hD hS hA (by omega) (by omega) (by omega) (by first | exact Nat.le_of_ble_eq_true rfl | (show _ ≤ (1 : Nat); omega)) (by first | exact Nat.le_of_ble_eq_true rfl | (show _ ≤ (128 : Nat); omega)) dX11_init_40 (fun nb H hP hD hS => ?_)
      have hP : va_P G.1 vwCl [(a, .inr (12, [.int (iz (y)), .null])), (ca, zaI (G.2 1) M (g)), (nb, zaI (G.2 1) ((j).toNat) (fun _ => 0))] H := hP
      have hD : va_D A [(a, .inr (12, [.int (iz (y)), .null])), (ca, zaI (G.2 1) M (g)), (nb, zaI (G.2 1) ((j).toNat) (fun _ => 0))] := hD
      refine va_putF (D := G.1) (ci := 12) (v := .ref nb) (ty := (.array .int)) (C := RX11) (T := TX11) (N := 2) hx hb hts iwX11 tyX11 tyX11_ok nmX11 hown hK hP hD hS 0 rfl rfl 1 (by decide) (hts (.fieldLink RX11 13 "AnnuityHouseModel$Whole" "limbs" "[I") (by decide +kernel)) (fun _ h9 => h9) rfl hnm rfl (by decide +kernel) rfl rfl (Nat.le_of_ble_eq_true rfl) dX11_init_42 (fun H locs hP hD hS => ?_)
      have hP : va_P G.1 vwCl [(a, .inr (12, [.int (iz (y)), .ref nb])), (ca, zaI (G.2 1) M (g)), (nb, zaI (G.2 1) ((j).toNat) (fun _ => 0))] H := hP
      have hD : va_D A [(a, .inr (12, [.int (iz (y)), .ref nb])), (ca, zaI (G.2 1) M (g)), (nb, zaI (G.2 1) ((j).toNat) (fun _ => 0))] := hD
      refine lv_iconst (v := iz (0)) hx hb dX11_init_45 rfl ?_
      refine lv_istore (lv' := [(4, .int (iz (0))), (3, .int (iz (j))), (0, .ref a), (1, .int (iz (sg))), (2, .ref ca)]) hx hb dX11_init_46 hl (by decide) rfl (fun ls hl => ?_)
      have hl_48 : ∀ (zn_48 : Nat) (i : Int) (hh : Int → Int) (H : Heap) (locs : List Loc) (ls : Array Slot), (j - i).toNat < zn_48 → (0 ≤ i ∧ i ≤ j) → (∀ k : Int, 0 ≤ k → k < i → hh k = g k) → va_P G.1 vwCl [(a, .inr (12, [.int (iz (y)), .ref nb])), (ca, zaI (G.2 1) M (g)), (nb, zaI (G.2 1) ((j).toNat) (hh))] H → va_D A [(a, .inr (12, [.int (iz (y)), .ref nb])), (ca, zaI (G.2 1) M (g)), (nb, zaI (G.2 1) ((j).toNat) (hh))] → va_S A s.heap H locs → lv_has ls 5 [(4, .int (iz (i))), (3, .int (iz (j))), (0, .ref a), (1, .int (iz (sg))), (2, .ref ca)] → W p l e rm_c_X11_init s m ([.ref a, .int (iz (sg)), .ref ca] : List Value).toArray below meth c H locs (0 + 1) (0 + ((j).toNat)) Q (F0 m 48 ls []) := by
        intro zn_48
        induction zn_48 with
        | zero => intro i hh H locs ls hm; exact absurd hm (Nat.not_lt_zero _)
        | succ zn_48 ih_48 =>
          intro i hh H locs ls hm_48 q1 q2 hP hD hS hl
          refine lv_iload hx hb dX11_init_48 (lv_at hl 0 rfl) ?_
          refine lv_iload_n hx hb dX11_init_50 rfl (lv_at hl 1 rfl) ?_
          refine zr_icmp_ge (x := i) (y := j) (tgt := 71) hx hb (⟨by omega, by omega⟩) (⟨by omega, by omega⟩) dX11_init_51 (by decide) (fun h_2 => ?_) (fun h_2 => ?_)
          ·
            rw [hQ]
            exact zr_vret (u := (nb, hh, (j).toNat, y)) hx hb hr hlocks (hP.sub [0, 2, 1] rfl) (hD.sub [0, 2, 1] (by decide) rfl) hS (by first | exact Nat.le_of_ble_eq_true rfl | omega) (by first | exact Nat.le_of_ble_eq_true rfl | omega) dX11_init_71 (show tmw hh ((j).toNat) y (sg * tsum g M) from tini_post h1 h2 k1 k2 k3 (fun k a b => q2 k a (by omega)) h4 h5 k4)
          ·
            refine lv_aload_n hx hb dX11_init_54 rfl (lv_at hl 2 rfl) ?_
            refine va_get (D := G.1) (ci := 12) (v := .ref nb) (C := RX11) (T := TX11) (N := 2) hx hb hts iwX11 hown hK hP 0 rfl rfl 1 (by decide) (hts (.fieldLink RX11 13 "AnnuityHouseModel$Whole" "limbs" "[I") (by decide +kernel)) (fun _ h9 => h9) rfl dX11_init_55 ?_
            refine lv_iload hx hb dX11_init_58 (lv_at hl 0 rfl) ?_
            refine lv_aload_n hx hb dX11_init_60 rfl (lv_at hl 4 rfl) ?_
            refine lv_iload hx hb dX11_init_61 (lv_at hl 0 rfl) ?_
            refine zr_iald hx hb hK hP 1 1 rfl rfl (i := i) (⟨by omega, by omega, by omega⟩) dX11_init_63 ?_
            refine zr_iast hx hb hK hP hD hS 2 1 rfl rfl (i := i) (x := g i) (⟨by omega, by omega, by omega⟩) dX11_init_64 (fun H locs hP hD hS => ?_)
            have hP : va_P G.1 vwCl [(a, .inr (12, [.int (iz (y)), .ref nb])), (ca, zaI (G.2 1) M (g)), (nb, zaI (G.2 1) ((j).toNat) (zup hh i (g i)))] H := hP
            have hD : va_D A [(a, .inr (12, [.int (iz (y)), .ref nb])), (ca, zaI (G.2 1) M (g)), (nb, zaI (G.2 1) ((j).toNat) (zup hh i (g i)))] := hD
            refine lv_iinc (v := iz (i + 1)) (lv' := [(4, .int (iz (i + 1))), (3, .int (iz (j))), (0, .ref a), (1, .int (iz (sg))), (2, .ref ca)]) hx hb dX11_init_65 hl (k := 0) rfl (by rw [show Int32.ofInt (1) = iz (1) from rfl, iz_add]) (by decide) rfl (fun ls hl => ?_)
            refine lv_goto (tgt := 48) hx hb dX11_init_68 (by decide) ?_
            exact ih_48 (i + 1) (zup hh i (g i)) _ _ _ (by omega) (by omega) (fun k a b => (show k = i ∨ k < i by omega).elim (fun q => by rw [q]; exact zup_s _ _ _) (fun q => (zup_n (by omega)).trans (q2 k a q))) (hP) (hD) hS (hl)
      exact hl_48 ((j - 0 : Int).toNat + 1) 0 (fun _ => 0) _ _ _ (Nat.lt_succ_self _) (by omega) (fun k a b => absurd b (by omega)) (hP) (hD) hS (hl)
    refine lv_aload_n hx hb dX11_init_25 rfl (lv_at hl 1 rfl) ?_
    refine lv_iload_n hx hb dX11_init_26 rfl (lv_at hl 0 rfl) ?_
    refine zr_if_ne (x := j) (tgt := 34) hx hb (⟨by omega, by omega⟩) dX11_init_27 (by decide) (fun h_3 => ?_) (fun h_3 => ?_)
    ·
      refine lv_iload_n hx hb dX11_init_34 rfl (lv_at hl 2 rfl) ?_
      exact hl_35 sg _ _ _ (by first | exact (if_pos (by omega)).symm | exact (if_neg (by omega)).symm) (hP) (hD) hS (hl)
    ·
      refine lv_iconst (v := iz (0)) hx hb dX11_init_30 rfl ?_
      refine lv_goto (tgt := 35) hx hb dX11_init_31 (by decide) ?_
      exact hl_35 0 _ _ _ (by first | exact (if_pos (by omega)).symm | exact (if_neg (by omega)).symm) (hP) (hD) hS (hl)
  refine lv_aload_n hx hb dX11_init_4 rfl (lv_at hl 2 rfl) ?_
  refine zr_alenI hx hb hK hP 1 1 rfl rfl dX11_init_5 ?_
  refine lv_istore_n (lv' := [(3, .int (iz (M))), (0, .ref a), (1, .int (iz (sg))), (2, .ref ca)]) hx hb dX11_init_6 rfl hl (by decide) rfl (fun ls hl => ?_)
  have hl_7 : ∀ (zn_7 : Nat) (j : Int) (H : Heap) (locs : List Loc) (ls : Array Slot), (j).toNat < zn_7 → (0 ≤ j ∧ j ≤ M) → (tsum g M = tsum g j.toNat) → va_P G.1 vwCl [(a, .inr (12, [.int (iz (0)), .null])), (ca, zaI (G.2 1) M (g))] H → va_D A [(a, .inr (12, [.int (iz (0)), .null])), (ca, zaI (G.2 1) M (g))] → va_S A s.heap H locs → lv_has ls 5 [(3, .int (iz (j))), (0, .ref a), (1, .int (iz (sg))), (2, .ref ca)] → W p l e rm_c_X11_init s m ([.ref a, .int (iz (sg)), .ref ca] : List Value).toArray below meth c H locs 0 0 Q (F0 m 7 ls []) := by
    intro zn_7
    induction zn_7 with
    | zero => intro j H locs ls hm; exact absurd hm (Nat.not_lt_zero _)
    | succ zn_7 ih_7 =>
      intro j H locs ls hm_7 q1 q2 hP hD hS hl
      refine lv_iload_n hx hb dX11_init_7 rfl (lv_at hl 0 rfl) ?_
      refine zr_if_le (x := j) (tgt := 25) hx hb (⟨by omega, by omega⟩) dX11_init_8 (by decide) (fun h_4 => ?_) (fun h_4 => ?_)
      ·
        exact hl_25 j _ _ _ (⟨by omega, by omega⟩) (q2) (by omega) (hP) (hD) hS (hl)
      ·
        refine lv_aload_n hx hb dX11_init_11 rfl (lv_at hl 3 rfl) ?_
        refine lv_iload_n hx hb dX11_init_12 rfl (lv_at hl 0 rfl) ?_
        refine lv_iconst (v := iz (1)) hx hb dX11_init_13 rfl ?_
        refine zr_isub hx hb dX11_init_14 ?_
        refine zr_iald hx hb hK hP 1 1 rfl rfl (i := j - 1) (⟨by omega, by omega, by omega⟩) dX11_init_15 ?_
        refine zr_if_ne (x := g (j - 1)) (tgt := 25) hx hb (by have := h1 (j - 1) (by omega) (by omega); exact ⟨by omega, by omega⟩) dX11_init_16 (by decide) (fun h_5 => ?_) (fun h_5 => ?_)
        ·
          exact hl_25 j _ _ _ (⟨by omega, by omega⟩) (q2) (by omega) (hP) (hD) hS (hl)
        ·
          refine lv_iinc (v := iz (j - 1)) (lv' := [(3, .int (iz (j - 1))), (0, .ref a), (1, .int (iz (sg))), (2, .ref ca)]) hx hb dX11_init_19 hl (k := 0) rfl (by rw [show Int32.ofInt (-1) = iz (-1) from rfl, iz_add]; exact congrArg iz (by omega)) (by decide) rfl (fun ls hl => ?_)
          refine lv_goto (tgt := 7) hx hb dX11_init_22 (by decide) ?_
          exact ih_7 (j - 1) _ _ _ (by omega) (by omega) (q2.trans (tini_cut (by omega) (by omega))) (hP) (hD) hS (hl)
  exact hl_7 ((M : Int).toNat + 1) M _ _ _ (Nat.lt_succ_self _) (by omega) (rfl) (hP) (hD) hS (hl)

def rm_c_X11_of : Room := { frames := 2, cells := 3, slots := 135, locals := 36 }
theorem iw_X11_of_X11 : ∀ w ∈ wsX110, w ∈ wsX11_of := by decide +kernel
set_option maxHeartbeats 1000000 in
set_option maxRecDepth 100000 in
theorem c_X11_of (l : Launch) (G : zG) (x : Int) (h1 : -9223372036854775808 ≤ x ∧ x < 9223372036854775808) : zM l G yX11_of wsX11_of rm_c_X11_of [.long (lz (x))] [] (fun A => zQr G (fun (u : (Nat × (Int → Int) × Nat × Int)) (ra : Nat) => tmw u.2.1 u.2.2.1 u.2.2.2 x) (fun (u : (Nat × (Int → Int) × Nat × Int)) (ra : Nat) => [(ra, .inr (12, [.int (iz (u.2.2.2)), .ref u.1])), (u.1, zaI (G.2 1) u.2.2.1 (u.2.1))]) A) 3 135 := by
  refine zM_of (cc := cX11_of) (maxL := 6) (ret := (some (.object "AnnuityHouseModel$Whole"))) (by decide) rfl (Nat.le_of_ble_eq_true rfl) ?_
  intro p e s m below meth c ls A Q hQ hx hb hr hts hown hlocks hml hnm hKX hP hD hA hS hl
  have hK := hKX.1
  have iwX11 := iw_X11_of_X11
  obtain ⟨H, hH⟩ : ∃ h, h = s.heap := ⟨_, rfl⟩
  obtain ⟨locs, hlo⟩ : ∃ h : List Loc, h = [] := ⟨_, rfl⟩
  have hS : va_S A s.heap H locs := by rw [hH, hlo]; exact hS
  have hP : va_P G.1 vwCl [] H := by rw [hH]; exact hP
  have hD : va_D A [] := hD
  have hl : lv_has ls 6 [(0, .long (lz (x)))] := hl
  rw [← hH, ← hlo]
  refine lv_iconst (v := iz (5)) hx hb dX11_of_0 rfl ?_
  refine zr_newaI (G := G) (n := 5) (N := 5) hx hb (hts (.arrayClass .int) (by decide +kernel)) hK hP hD hS hA (by omega) (by omega) (by omega) (by first | exact Nat.le_of_ble_eq_true rfl | (show _ ≤ (3 : Nat); omega)) (by first | exact Nat.le_of_ble_eq_true rfl | (show _ ≤ (135 : Nat); omega)) dX11_of_1 (fun cc H hP hD hS => ?_)
  have hP : va_P G.1 vwCl [(cc, zaI (G.2 1) 5 (fun _ => 0))] H := hP
  have hD : va_D A [(cc, zaI (G.2 1) 5 (fun _ => 0))] := hD
  refine lv_astore_n (lv' := [(2, .ref cc), (0, .long (lz (x)))]) hx hb dX11_of_3 rfl hl (by decide) rfl (fun ls hl => ?_)
  refine lv_lload_n hx hb dX11_of_4 rfl (lv_at hl 1 rfl) ?_
  refine lv_lstore_n (lv' := [(3, .long (lz (x))), (2, .ref cc), (0, .long (lz (x)))]) hx hb dX11_of_5 rfl hl (by decide) rfl (fun ls hl => ?_)
  refine lv_iconst (v := iz (0)) hx hb dX11_of_6 rfl ?_
  refine lv_istore (lv' := [(5, .int (iz (0))), (3, .long (lz (x))), (2, .ref cc), (0, .long (lz (x)))]) hx hb dX11_of_7 hl (by decide) rfl (fun ls hl => ?_)
  have hl_9 : ∀ (zn_9 : Nat) (i : Int) (r : Int) (hh : Int → Int) (H : Heap) (locs : List Loc) (ls : Array Slot), (5 - i).toNat < zn_9 → (0 ≤ i ∧ i ≤ 5) → (tdig hh i) → (tsum hh i.toNat + (r.natAbs : Int) * 10000 ^ i.toNat = (x.natAbs : Int)) → (-9223372036854775808 ≤ r ∧ r < 9223372036854775808) → va_P G.1 vwCl [(cc, zaI (G.2 1) 5 (hh))] H → va_D A [(cc, zaI (G.2 1) 5 (hh))] → va_S A s.heap H locs → lv_has ls 6 [(5, .int (iz (i))), (3, .long (lz (r))), (2, .ref cc), (0, .long (lz (x)))] → W p l e rm_c_X11_of s m ([.long (lz (x))] : List Value).toArray below meth c H locs (0 + 1) (0 + 5) Q (F0 m 9 ls []) := by
    intro zn_9
    induction zn_9 with
    | zero => intro i r hh H locs ls hm; exact absurd hm (Nat.not_lt_zero _)
    | succ zn_9 ih_9 =>
      intro i r hh H locs ls hm_9 k1 k2 k3 k4 hP hD hS hl
      refine lv_iload hx hb dX11_of_9 (lv_at hl 0 rfl) ?_
      refine lv_aload_n hx hb dX11_of_11 rfl (lv_at hl 2 rfl) ?_
      refine zr_alenI hx hb hK hP 0 1 rfl rfl dX11_of_12 ?_
      refine zr_icmp_ge (x := i) (y := 5) (tgt := 41) hx hb (⟨by omega, by omega⟩) (⟨by omega, by omega⟩) dX11_of_13 (by decide) (fun h_2 => ?_) (fun h_2 => ?_)
      ·
        have hdg : tdig hh 5 := (show i = 5 by omega) ▸ k2
        have hsm : tsum hh 5 = (x.natAbs : Int) := tof_end h1 (show i = 5 by omega) k3 k2
        refine va_new (D := G.1) (ci := 12) (fs := [.int 0, .null]) (C := RX11) (T := TX11) (N := 2) hx hb hts iwX11 tyX11 tyX11_ok hown (hts (.classLink RX11 8 RX11) (by decide +kernel)) (hts (.instantiable RX11 2) (by decide +kernel)) (hts (.initialized RX11) (by decide +kernel)) hK hP hD hS hA rfl (by decide +kernel) (by first | exact Nat.le_of_ble_eq_true rfl | (show _ ≤ (3 : Nat); omega)) (by first | exact Nat.le_of_ble_eq_true rfl | (show _ ≤ (135 : Nat); omega)) dX11_of_41 (fun ra H hP hD hS => ?_)
        have hP : va_P G.1 vwCl [(cc, zaI (G.2 1) 5 (hh)), (ra, .inr (12, [.int (iz (0)), .null]))] H := hP
        have hD : va_D A [(cc, zaI (G.2 1) 5 (hh)), (ra, .inr (12, [.int (iz (0)), .null]))] := hD
        refine lv_dup hx hb dX11_of_44 rfl ?_
        have hl_56 : ∀ (y : Int) (H : Heap) (locs : List Loc) (ls : Array Slot), (y = if x < 0 then -1 else 1) → va_P G.1 vwCl [(cc, zaI (G.2 1) 5 (hh)), (ra, .inr (12, [.int (iz (0)), .null]))] H → va_D A [(cc, zaI (G.2 1) 5 (hh)), (ra, .inr (12, [.int (iz (0)), .null]))] → va_S A s.heap H locs → lv_has ls 6 [(5, .int (iz (i))), (3, .long (lz (r))), (2, .ref cc), (0, .long (lz (x)))] → W p l e rm_c_X11_of s m ([.long (lz (x))] : List Value).toArray below meth c H locs (0 + 1 + 1) (0 + 5 + 2) Q (F0 m 56 ls [.int (iz (y)), .ref ra, .ref ra]) := by
          intro y H locs ls k5 hP hD hS hl
          refine lv_aload_n hx hb dX11_of_56 rfl (lv_at hl 2 rfl) ?_
          refine zc_v (wr := []) (va_runI (As := [.int (iz (y)), .ref cc]) (rest := [.ref ra]) ⟨hx, hb, hml, hown, hts⟩ (c_X11_init l G ra cc hh 5 y (hdg) (by omega) (by omega) (by rw [hsm]; exact tof_lt h1) (fun q => absurd q (by omega)) H.size) (cwI 2 hts gX11_of_X11_init rfl rfl rfl (hts (.initialized RX11) (by decide +kernel)) (hts (.methodLink RX11 25 yX11_init) (by decide +kernel)) (hts (.instanceMethod yX11_init) (by decide +kernel)) rfl (by decide +kernel) ⟨Nat.le_of_ble_eq_true rfl, Nat.le_of_ble_eq_true rfl⟩) (zpS hKX hP hD [1, 0] rfl rfl) rfl rfl hl.1 rfl (lv_room (Nat.le_of_ble_eq_true rfl)) dX11_of_57 ⟨(by first | exact Nat.le_of_ble_eq_true rfl | (show _ ≤ (3 : Nat); omega)), (by first | exact Nat.le_of_ble_eq_true rfl | (show _ ≤ (135 : Nat); omega))⟩) hP hD hS hA [1, 0] [] rfl rfl rfl (by decide) (fun u_3 H locs hq hP hD hS => ?_)
          obtain ⟨b1, f1, N1, s1⟩ := u_3
          have hP : va_P G.1 vwCl [(ra, .inr (12, [.int (iz (s1)), .ref b1])), (b1, zaI (G.2 1) N1 (f1)), (cc, zaI (G.2 1) 5 (hh))] H := hP
          have hD : va_D A [(ra, .inr (12, [.int (iz (s1)), .ref b1])), (b1, zaI (G.2 1) N1 (f1)), (cc, zaI (G.2 1) 5 (hh))] := hD
          have hq : tmw f1 N1 s1 (y * tsum hh 5) := hq
          rw [hQ]
          exact zr_aret (ra := ra) (Or.inl ⟨_, rfl⟩) (u := (b1, f1, N1, s1)) hx hb hr hlocks (hP.sub [0, 1] rfl) (hD.sub [0, 1] (by decide) rfl) hS (by first | exact Nat.le_of_ble_eq_true rfl | omega) (by first | exact Nat.le_of_ble_eq_true rfl | omega) dX11_of_60 (show tmw f1 N1 s1 x from tof_post k5 hsm hq)
        refine lv_lload_n hx hb dX11_of_45 rfl (lv_at hl 3 rfl) ?_
        refine lv_lconst (v := lz (0)) hx hb dX11_of_46 rfl ?_
        refine zr_lcmp_ge (x := x) (y := 0) (tgt := 55) hx hb (⟨by omega, by omega⟩) (⟨by omega, by omega⟩) dX11_of_47 dX11_of_48 (by decide) (fun h_6 => ?_) (fun h_6 => ?_)
        ·
          refine lv_iconst (v := iz (1)) hx hb dX11_of_55 rfl ?_
          exact hl_56 1 _ _ _ (by first | exact (if_pos (by omega)).symm | exact (if_neg (by omega)).symm) (hP) (hD) hS (hl)
        ·
          refine lv_iconst (v := iz (-1)) hx hb dX11_of_51 rfl ?_
          refine lv_goto (tgt := 56) hx hb dX11_of_52 (by decide) ?_
          exact hl_56 (-1) _ _ _ (by first | exact (if_pos (by omega)).symm | exact (if_neg (by omega)).symm) (hP) (hD) hS (hl)
      ·
        refine lv_aload_n hx hb dX11_of_16 rfl (lv_at hl 2 rfl) ?_
        refine lv_iload hx hb dX11_of_17 (lv_at hl 0 rfl) ?_
        refine lv_lload_n hx hb dX11_of_19 rfl (lv_at hl 1 rfl) ?_
        refine zr_ldc2 (z := 10000) hx hb hown (hts (.constantLong RX11 17 (10000)) (by decide +kernel)) rfl dX11_of_20 ?_
        refine zr_lremT hx hb (x := r) (y := 10000) ⟨by omega, by omega⟩ ⟨by omega, by omega⟩ (by omega) dX11_of_23 ?_
        have t1 := tof_mod r
        refine zr_mabsL (x := r.tmod 10000) hx hb (hml.trans hl.1.symm) hown (hts (.methodLink RX11 19 Lib.MathLoose.abs_long.x) (by decide +kernel)) (hts (.static Lib.MathLoose.abs_long.x) (by decide +kernel)) (hts (.initialized "java/lang/Math") (by decide +kernel)) (hts (.code Lib.MathLoose.abs_long.x Lib.MathLoose.abs_long.code 2 (some .long)) (by decide +kernel)) (Nat.le_of_ble_eq_true rfl) (Nat.le_of_ble_eq_true rfl) (by first | exact Nat.le_of_ble_eq_true rfl | (show _ ≤ (3 : Nat); omega)) (by first | exact Nat.le_of_ble_eq_true rfl | (show _ ≤ (135 : Nat); omega)) (⟨by omega, by omega⟩) dX11_of_24 ?_
        refine zr_l2i hx hb dX11_of_27 ?_
        refine zr_iast hx hb hK hP hD hS 0 1 rfl rfl (i := i) (x := ((r.tmod 10000).natAbs : Int)) (⟨by omega, by omega, by omega⟩) dX11_of_28 (fun H locs hP hD hS => ?_)
        have hP : va_P G.1 vwCl [(cc, zaI (G.2 1) 5 (zup hh i ((r.tmod 10000).natAbs : Int)))] H := hP
        have hD : va_D A [(cc, zaI (G.2 1) 5 (zup hh i ((r.tmod 10000).natAbs : Int)))] := hD
        refine lv_lload_n hx hb dX11_of_29 rfl (lv_at hl 1 rfl) ?_
        refine zr_ldc2 (z := 10000) hx hb hown (hts (.constantLong RX11 17 (10000)) (by decide +kernel)) rfl dX11_of_30 ?_
        refine zr_ldivT hx hb (x := r) (y := 10000) ⟨by omega, by omega⟩ ⟨by omega, by omega⟩ (by omega) dX11_of_33 ?_
        have t2 := tof_div r
        refine lv_lstore_n (lv' := [(3, .long (lz (r.tdiv 10000))), (5, .int (iz (i))), (2, .ref cc), (0, .long (lz (x)))]) hx hb dX11_of_34 rfl hl (by decide) rfl (fun ls hl => ?_)
        refine lv_iinc (v := iz (i + 1)) (lv' := [(5, .int (iz (i + 1))), (3, .long (lz (r.tdiv 10000))), (2, .ref cc), (0, .long (lz (x)))]) hx hb dX11_of_35 hl (k := 1) rfl (by rw [show Int32.ofInt (1) = iz (1) from rfl, iz_add]) (by decide) rfl (fun ls hl => ?_)
        refine lv_goto (tgt := 9) hx hb dX11_of_38 (by decide) ?_
        exact ih_9 (i + 1) (r.tdiv 10000) (zup hh i ((r.tmod 10000).natAbs : Int)) _ _ _ (by omega) (by omega) (tdig_up k2 (by omega)) (tof_step (by omega) k3) (by omega) (hP) (hD) hS (hl)
  exact hl_9 ((5 - 0 : Int).toNat + 1) 0 x (fun _ => 0) _ _ _ (Nat.lt_succ_self _) (by omega) (fun k a b => absurd b (by omega)) (by simp [tsum]) (by omega) (hP) (hD) hS (hl)

def rm_c_X11_negated : Room := { frames := 2, cells := 2, slots := 130, locals := 36 }
theorem iw_X11_negated_X11 : ∀ w ∈ wsX110, w ∈ wsX11_negated := by decide +kernel
set_option maxHeartbeats 1000000 in
set_option maxRecDepth 100000 in
theorem c_X11_negated (l : Launch) (G : zG) (a : Nat) (b : Nat) (f : Int → Int) (N : Nat) (sg : Int) (v : Int) (h1 : tmw f N sg v) : zM l G yX11_negated wsX11_negated rm_c_X11_negated [.ref a] [(a, .inr (12, [.int (iz (sg)), .ref b])), (b, zaI (G.2 1) N (f))] (fun A => zQr G (fun (u : (Nat × (Int → Int) × Nat × Int)) (ra : Nat) => tmw u.2.1 u.2.2.1 u.2.2.2 (-v)) (fun (u : (Nat × (Int → Int) × Nat × Int)) (ra : Nat) => [(a, .inr (12, [.int (iz (sg)), .ref b])), (b, zaI (G.2 1) N (f)), (ra, .inr (12, [.int (iz (u.2.2.2)), .ref u.1])), (u.1, zaI (G.2 1) u.2.2.1 (u.2.1))]) A) 2 130 := by
  refine zM_of (cc := cX11_negated) (maxL := 1) (ret := (some (.object "AnnuityHouseModel$Whole"))) (by decide) rfl (Nat.le_of_ble_eq_true rfl) ?_
  intro p e s m below meth c ls A Q hQ hx hb hr hts hown hlocks hml hnm hKX hP hD hA hS hl
  have hK := hKX.1
  have iwX11 := iw_X11_negated_X11
  obtain ⟨H, hH⟩ : ∃ h, h = s.heap := ⟨_, rfl⟩
  obtain ⟨locs, hlo⟩ : ∃ h : List Loc, h = [] := ⟨_, rfl⟩
  have hS : va_S A s.heap H locs := by rw [hH, hlo]; exact hS
  have hP : va_P G.1 vwCl [(a, .inr (12, [.int (iz (sg)), .ref b])), (b, zaI (G.2 1) N (f))] H := by rw [hH]; exact hP
  have hD : va_D A [(a, .inr (12, [.int (iz (sg)), .ref b])), (b, zaI (G.2 1) N (f))] := hD
  have hl : lv_has ls 1 [(0, .ref a)] := hl
  rw [← hH, ← hlo]
  refine va_new (D := G.1) (ci := 12) (fs := [.int 0, .null]) (C := RX11) (T := TX11) (N := 2) hx hb hts iwX11 tyX11 tyX11_ok hown (hts (.classLink RX11 8 RX11) (by decide +kernel)) (hts (.instantiable RX11 2) (by decide +kernel)) (hts (.initialized RX11) (by decide +kernel)) hK hP hD hS hA rfl (by decide +kernel) (by first | exact Nat.le_of_ble_eq_true rfl | (show _ ≤ (2 : Nat); omega)) (by first | exact Nat.le_of_ble_eq_true rfl | (show _ ≤ (130 : Nat); omega)) dX11_negated_0 (fun ra H hP hD hS => ?_)
  have hP : va_P G.1 vwCl [(a, .inr (12, [.int (iz (sg)), .ref b])), (b, zaI (G.2 1) N (f)), (ra, .inr (12, [.int (iz (0)), .null]))] H := hP
  have hD : va_D A [(a, .inr (12, [.int (iz (sg)), .ref b])), (b, zaI (G.2 1) N (f)), (ra, .inr (12, [.int (iz (0)), .null]))] := hD
  refine lv_dup hx hb dX11_negated_3 rfl ?_
  refine lv_aload_n hx hb dX11_negated_4 rfl (lv_at hl 0 rfl) ?_
  refine va_get (D := G.1) (ci := 12) (v := .int (iz (sg))) (C := RX11) (T := TX11) (N := 2) hx hb hts iwX11 hown hK hP 0 rfl rfl 0 (by decide) (hts (.fieldLink RX11 7 "AnnuityHouseModel$Whole" "sign" "I") (by decide +kernel)) (fun _ h9 => h9) rfl dX11_negated_5 ?_
  refine zr_ineg hx hb dX11_negated_8 ?_
  refine lv_aload_n hx hb dX11_negated_9 rfl (lv_at hl 0 rfl) ?_
  refine va_get (D := G.1) (ci := 12) (v := .ref b) (C := RX11) (T := TX11) (N := 2) hx hb hts iwX11 hown hK hP 0 rfl rfl 1 (by decide) (hts (.fieldLink RX11 13 "AnnuityHouseModel$Whole" "limbs" "[I") (by decide +kernel)) (fun _ h9 => h9) rfl dX11_negated_10 ?_
  refine zc_v (wr := [(a, .inr (12, [.int (iz (sg)), .ref b]))]) (va_runI (As := [.int (iz (-(sg))), .ref b]) (rest := [.ref ra]) ⟨hx, hb, hml, hown, hts⟩ (c_X11_init l G ra b f N (-(sg)) (h1.dig) (by have := h1.sgi; omega) (by have := h1.n; omega) (h1.lt) (fun q => h1.s00 (by omega)) H.size) (cwI 2 hts gX11_negated_X11_init rfl rfl rfl (hts (.initialized RX11) (by decide +kernel)) (hts (.methodLink RX11 25 yX11_init) (by decide +kernel)) (hts (.instanceMethod yX11_init) (by decide +kernel)) rfl (by decide +kernel) ⟨Nat.le_of_ble_eq_true rfl, Nat.le_of_ble_eq_true rfl⟩) (zpS hKX hP hD [2, 1] rfl rfl) rfl rfl hl.1 rfl (lv_room (Nat.le_of_ble_eq_true rfl)) dX11_negated_13 ⟨(by first | exact Nat.le_of_ble_eq_true rfl | (show _ ≤ (2 : Nat); omega)), (by first | exact Nat.le_of_ble_eq_true rfl | (show _ ≤ (130 : Nat); omega))⟩) hP hD hS hA [2, 1] [0] rfl rfl rfl (by decide) (fun u_1 H locs hq hP hD hS => ?_)
  obtain ⟨b1, f1, N1, s1⟩ := u_1
  have hP : va_P G.1 vwCl [(a, .inr (12, [.int (iz (sg)), .ref b])), (ra, .inr (12, [.int (iz (s1)), .ref b1])), (b1, zaI (G.2 1) N1 (f1)), (b, zaI (G.2 1) N (f))] H := hP
  have hD : va_D A [(a, .inr (12, [.int (iz (sg)), .ref b])), (ra, .inr (12, [.int (iz (s1)), .ref b1])), (b1, zaI (G.2 1) N1 (f1)), (b, zaI (G.2 1) N (f))] := hD
  have hq : tmw f1 N1 s1 ((-(sg)) * tsum f N) := hq
  rw [hQ]
  exact zr_aret (ra := ra) (Or.inl ⟨_, rfl⟩) (u := (b1, f1, N1, s1)) hx hb hr hlocks (hP.sub [0, 3, 1, 2] rfl) (hD.sub [0, 3, 1, 2] (by decide) rfl) hS (by first | exact Nat.le_of_ble_eq_true rfl | omega) (by first | exact Nat.le_of_ble_eq_true rfl | omega) dX11_negated_16 (show tmw f1 N1 s1 (-v) from tpost hq (by rw [h1.val, Int.neg_mul]))

def rm_c_X11_size_p : Room := { frames := 0, cells := 0, slots := 0, locals := 0 }
theorem iw_X11_size_X11 : ∀ w ∈ wsX110, w ∈ wsX11_size := by decide +kernel
set_option maxHeartbeats 1000000 in
set_option maxRecDepth 100000 in
theorem c_X11_size_p (l : Launch) (G : zG) (a : Nat) (b : Nat) (f : Int → Int) (N : Nat) (sg : Int) (v : Int) (h1 : tmw f N sg v) (h2 : 0 ≤ v) : zM l G yX11_size wsX11_size rm_c_X11_size_p [.ref a] [(a, .inr (12, [.int (iz (sg)), .ref b])), (b, zaI (G.2 1) N (f))] (fun A => zQr G (fun (_ : Unit) (ra : Nat) => ra = a) (fun (_ : Unit) (ra : Nat) => [(a, .inr (12, [.int (iz (sg)), .ref b])), (b, zaI (G.2 1) N (f))]) A) 0 0 := by
  refine zM_of (cc := cX11_size) (maxL := 1) (ret := (some (.object "AnnuityHouseModel$Whole"))) (by decide) rfl (Nat.le_of_ble_eq_true rfl) ?_
  intro p e s m below meth c ls A Q hQ hx hb hr hts hown hlocks hml hnm hKX hP hD hA hS hl
  have hK := hKX.1
  have iwX11 := iw_X11_size_X11
  obtain ⟨H, hH⟩ : ∃ h, h = s.heap := ⟨_, rfl⟩
  obtain ⟨locs, hlo⟩ : ∃ h : List Loc, h = [] := ⟨_, rfl⟩
  have hS : va_S A s.heap H locs := by rw [hH, hlo]; exact hS
  have hP : va_P G.1 vwCl [(a, .inr (12, [.int (iz (sg)), .ref b])), (b, zaI (G.2 1) N (f))] H := by rw [hH]; exact hP
  have hD : va_D A [(a, .inr (12, [.int (iz (sg)), .ref b])), (b, zaI (G.2 1) N (f))] := hD
  have hl : lv_has ls 1 [(0, .ref a)] := hl
  rw [← hH, ← hlo]
  refine lv_aload_n hx hb dX11_size_0 rfl (lv_at hl 0 rfl) ?_
  refine va_get (D := G.1) (ci := 12) (v := .int (iz (sg))) (C := RX11) (T := TX11) (N := 2) hx hb hts iwX11 hown hK hP 0 rfl rfl 0 (by decide) (hts (.fieldLink RX11 7 "AnnuityHouseModel$Whole" "sign" "I") (by decide +kernel)) (fun _ h9 => h9) rfl dX11_size_1 ?_
  refine zr_if_ge (x := sg) (tgt := 14) hx hb (by have := h1.sgi; exact ⟨by omega, by omega⟩) dX11_size_4 (by decide) (fun h_1 => ?_) (fun h_1 => ?_)
  ·
    refine lv_aload_n hx hb dX11_size_14 rfl (lv_at hl 0 rfl) ?_
    rw [hQ]
    exact zr_aret (ra := a) (Or.inl ⟨_, rfl⟩) (u := ()) hx hb hr hlocks hP hD hS (by first | exact Nat.le_of_ble_eq_true rfl | omega) (by first | exact Nat.le_of_ble_eq_true rfl | omega) dX11_size_15 (show a = a from rfl)
  · exact absurd h_1 (by have := h1.sgn; have := Int.sign_nonneg_iff.mpr h2; omega)

def rm_c_X11_size_n : Room := { frames := 3, cells := 2, slots := 130, locals := 56 }
set_option maxHeartbeats 1000000 in
set_option maxRecDepth 100000 in
theorem c_X11_size_n (l : Launch) (G : zG) (a : Nat) (b : Nat) (f : Int → Int) (N : Nat) (sg : Int) (v : Int) (h1 : tmw f N sg v) (h2 : v < 0) : zM l G yX11_size wsX11_size rm_c_X11_size_n [.ref a] [(a, .inr (12, [.int (iz (sg)), .ref b])), (b, zaI (G.2 1) N (f))] (fun A => zQr G (fun (u : (Nat × (Int → Int) × Nat × Int)) (ra : Nat) => tmw u.2.1 u.2.2.1 u.2.2.2 (-v)) (fun (u : (Nat × (Int → Int) × Nat × Int)) (ra : Nat) => [(a, .inr (12, [.int (iz (sg)), .ref b])), (b, zaI (G.2 1) N (f)), (ra, .inr (12, [.int (iz (u.2.2.2)), .ref u.1])), (u.1, zaI (G.2 1) u.2.2.1 (u.2.1))]) A) 2 130 := by
  refine zM_of (cc := cX11_size) (maxL := 1) (ret := (some (.object "AnnuityHouseModel$Whole"))) (by decide) rfl (Nat.le_of_ble_eq_true rfl) ?_
  intro p e s m below meth c ls A Q hQ hx hb hr hts hown hlocks hml hnm hKX hP hD hA hS hl
  have hK := hKX.1
  have iwX11 := iw_X11_size_X11
  obtain ⟨H, hH⟩ : ∃ h, h = s.heap := ⟨_, rfl⟩
  obtain ⟨locs, hlo⟩ : ∃ h : List Loc, h = [] := ⟨_, rfl⟩
  have hS : va_S A s.heap H locs := by rw [hH, hlo]; exact hS
  have hP : va_P G.1 vwCl [(a, .inr (12, [.int (iz (sg)), .ref b])), (b, zaI (G.2 1) N (f))] H := by rw [hH]; exact hP
  have hD : va_D A [(a, .inr (12, [.int (iz (sg)), .ref b])), (b, zaI (G.2 1) N (f))] := hD
  have hl : lv_has ls 1 [(0, .ref a)] := hl
  rw [← hH, ← hlo]
  refine lv_aload_n hx hb dX11_size_0 rfl (lv_at hl 0 rfl) ?_
  refine va_get (D := G.1) (ci := 12) (v := .int (iz (sg))) (C := RX11) (T := TX11) (N := 2) hx hb hts iwX11 hown hK hP 0 rfl rfl 0 (by decide) (hts (.fieldLink RX11 7 "AnnuityHouseModel$Whole" "sign" "I") (by decide +kernel)) (fun _ h9 => h9) rfl dX11_size_1 ?_
  refine zr_if_ge (x := sg) (tgt := 14) hx hb (by have := h1.sgi; exact ⟨by omega, by omega⟩) dX11_size_4 (by decide) (fun h_1 => ?_) (fun h_1 => ?_)
  · exact absurd h_1 (by have := h1.sgn; have := Int.sign_eq_neg_one_of_neg h2; omega)
  ·
    refine lv_aload_n hx hb dX11_size_7 rfl (lv_at hl 0 rfl) ?_
    refine zc_r (wr := []) (va_runV (As := []) (rest := []) ⟨hx, hb, hml, hown, hts⟩ (c_X11_negated l G a b f N sg v (h1) H.size) (cwV 0 hts gX11_size_X11_negated rfl rfl rfl (by decide +kernel) ⟨Nat.le_of_ble_eq_true rfl, Nat.le_of_ble_eq_true rfl⟩) (zpV hKX hP hD [0, 1] rfl rfl 0 12 rfl rfl) rfl rfl hl.1 rfl (lv_room (Nat.le_of_ble_eq_true rfl)) dX11_size_8 ⟨(by first | exact Nat.le_of_ble_eq_true rfl | (show _ ≤ (2 : Nat); omega)), (by first | exact Nat.le_of_ble_eq_true rfl | (show _ ≤ (130 : Nat); omega))⟩) hP hD hS hA [0, 1] [] rfl rfl rfl (by decide) (fun u_2 ra H locs hq hP hD hS => ?_)
    obtain ⟨b1, f1, N1, s1⟩ := u_2
    have hP : va_P G.1 vwCl [(a, .inr (12, [.int (iz (sg)), .ref b])), (b, zaI (G.2 1) N (f)), (ra, .inr (12, [.int (iz (s1)), .ref b1])), (b1, zaI (G.2 1) N1 (f1))] H := hP
    have hD : va_D A [(a, .inr (12, [.int (iz (sg)), .ref b])), (b, zaI (G.2 1) N (f)), (ra, .inr (12, [.int (iz (s1)), .ref b1])), (b1, zaI (G.2 1) N1 (f1))] := hD
    have hq : tmw f1 N1 s1 (-v) := hq
    refine lv_goto (tgt := 15) hx hb dX11_size_11 (by decide) ?_
    rw [hQ]
    exact zr_aret (ra := ra) (Or.inl ⟨_, rfl⟩) (u := (b1, f1, N1, s1)) hx hb hr hlocks hP hD hS (by first | exact Nat.le_of_ble_eq_true rfl | omega) (by first | exact Nat.le_of_ble_eq_true rfl | omega) dX11_size_15 (show tmw f1 N1 s1 (-v) from hq)

def rm_c_X11_comparedSize : Room := { frames := 1, cells := 0, slots := 0, locals := 21 }
theorem iw_X11_comparedSize_X11 : ∀ w ∈ wsX110, w ∈ wsX11_comparedSize := by decide +kernel
set_option maxHeartbeats 1000000 in
set_option maxRecDepth 100000 in
theorem c_X11_comparedSize (l : Launch) (G : zG) (a : Nat) (b : Nat) (f : Int → Int) (N : Nat) (sg : Int) (a2 : Nat) (b2 : Nat) (f2 : Int → Int) (N2 : Nat) (sg2 : Int) (v : Int) (v2 : Int) (h1 : tmw f N sg v) (h2 : tmw f2 N2 sg2 v2) : zM l G yX11_comparedSize wsX11_comparedSize rm_c_X11_comparedSize [.ref a, .ref a2] [(a, .inr (12, [.int (iz (sg)), .ref b])), (b, zaI (G.2 1) N (f)), (a2, .inr (12, [.int (iz (sg2)), .ref b2])), (b2, zaI (G.2 1) N2 (f2))] (fun A => zQi G (fun (z : Int) (_ : Unit) => z = ((v.natAbs : Int) - (v2.natAbs : Int)).sign) (fun (_ : Unit) => [(a, .inr (12, [.int (iz (sg)), .ref b])), (b, zaI (G.2 1) N (f)), (a2, .inr (12, [.int (iz (sg2)), .ref b2])), (b2, zaI (G.2 1) N2 (f2))]) A) 0 0 := by
  refine zM_of (cc := cX11_comparedSize) (maxL := 3) (ret := (some .int)) (by decide) rfl (Nat.le_of_ble_eq_true rfl) ?_
  intro p e s m below meth c ls A Q hQ hx hb hr hts hown hlocks hml hnm hKX hP hD hA hS hl
  have hK := hKX.1
  have iwX11 := iw_X11_comparedSize_X11
  obtain ⟨H, hH⟩ : ∃ h, h = s.heap := ⟨_, rfl⟩
  obtain ⟨locs, hlo⟩ : ∃ h : List Loc, h = [] := ⟨_, rfl⟩
  have hS : va_S A s.heap H locs := by rw [hH, hlo]; exact hS
  have hP : va_P G.1 vwCl [(a, .inr (12, [.int (iz (sg)), .ref b])), (b, zaI (G.2 1) N (f)), (a2, .inr (12, [.int (iz (sg2)), .ref b2])), (b2, zaI (G.2 1) N2 (f2))] H := by rw [hH]; exact hP
  have hD : va_D A [(a, .inr (12, [.int (iz (sg)), .ref b])), (b, zaI (G.2 1) N (f)), (a2, .inr (12, [.int (iz (sg2)), .ref b2])), (b2, zaI (G.2 1) N2 (f2))] := hD
  have hl : lv_has ls 3 [(0, .ref a), (1, .ref a2)] := hl
  rw [← hH, ← hlo]
  have n1 := h1.n
  have n2 := h2.n
  refine lv_aload_n hx hb dX11_comparedSize_0 rfl (lv_at hl 0 rfl) ?_
  refine va_get (D := G.1) (ci := 12) (v := .ref b) (C := RX11) (T := TX11) (N := 2) hx hb hts iwX11 hown hK hP 0 rfl rfl 1 (by decide) (hts (.fieldLink RX11 13 "AnnuityHouseModel$Whole" "limbs" "[I") (by decide +kernel)) (fun _ h9 => h9) rfl dX11_comparedSize_1 ?_
  refine zr_alenI hx hb hK hP 1 1 rfl rfl dX11_comparedSize_4 ?_
  refine lv_aload_n hx hb dX11_comparedSize_5 rfl (lv_at hl 1 rfl) ?_
  refine va_get (D := G.1) (ci := 12) (v := .ref b2) (C := RX11) (T := TX11) (N := 2) hx hb hts iwX11 hown hK hP 2 rfl rfl 1 (by decide) (hts (.fieldLink RX11 13 "AnnuityHouseModel$Whole" "limbs" "[I") (by decide +kernel)) (fun _ h9 => h9) rfl dX11_comparedSize_6 ?_
  refine zr_alenI hx hb hK hP 3 1 rfl rfl dX11_comparedSize_9 ?_
  refine zr_mmax (x := N) (y := N2) hx hb (hml.trans hl.1.symm) hown (hts (.methodLink RX11 32 Lib.Math.max.name) (by decide +kernel)) (hts (.static Lib.Math.max.name) (by decide +kernel)) (hts (.initialized "java/lang/Math") (by decide +kernel)) (hts (.code Lib.Math.max.name Lib.Math.max.code 2 (some .int)) (by decide +kernel)) (Nat.le_of_ble_eq_true rfl) (Nat.le_of_ble_eq_true rfl) (by first | exact Nat.le_of_ble_eq_true rfl | (show _ ≤ (0 : Nat); omega)) (by first | exact Nat.le_of_ble_eq_true rfl | (show _ ≤ (0 : Nat); omega)) (⟨by omega, by omega⟩) (⟨by omega, by omega⟩) dX11_comparedSize_10 ?_
  refine lv_iconst (v := iz (1)) hx hb dX11_comparedSize_13 rfl ?_
  refine zr_isub hx hb dX11_comparedSize_14 ?_
  refine zr_namei (fun K eK => ?_)
  refine lv_istore_n (lv' := [(2, .int (iz (K))), (0, .ref a), (1, .ref a2)]) hx hb dX11_comparedSize_15 rfl hl (by decide) rfl (fun ls hl => ?_)
  have hl_16 : ∀ (zn_16 : Nat) (k : Int) (H : Heap) (locs : List Loc) (ls : Array Slot), (k + 1).toNat < zn_16 → (-1 ≤ k ∧ k < max (N : Int) (N2 : Int)) → (∀ j : Int, k < j → j < max (N : Int) (N2 : Int) → tx f N j = tx f2 N2 j) → va_P G.1 vwCl [(a, .inr (12, [.int (iz (sg)), .ref b])), (b, zaI (G.2 1) N (f)), (a2, .inr (12, [.int (iz (sg2)), .ref b2])), (b2, zaI (G.2 1) N2 (f2))] H → va_D A [(a, .inr (12, [.int (iz (sg)), .ref b])), (b, zaI (G.2 1) N (f)), (a2, .inr (12, [.int (iz (sg2)), .ref b2])), (b2, zaI (G.2 1) N2 (f2))] → va_S A s.heap H locs → lv_has ls 3 [(2, .int (iz (k))), (0, .ref a), (1, .ref a2)] → W p l e rm_c_X11_comparedSize s m ([.ref a, .ref a2] : List Value).toArray below meth c H locs 0 0 Q (F0 m 16 ls []) := by
    intro zn_16
    induction zn_16 with
    | zero => intro k H locs ls hm; exact absurd hm (Nat.not_lt_zero _)
    | succ zn_16 ih_16 =>
      intro k H locs ls hm_16 k1 k2 hP hD hS hl
      refine lv_iload_n hx hb dX11_comparedSize_16 rfl (lv_at hl 0 rfl) ?_
      refine zr_if_lt (x := k) (tgt := 58) hx hb (⟨by omega, by omega⟩) dX11_comparedSize_17 (by decide) (fun h_1 => ?_) (fun h_1 => ?_)
      ·
        refine lv_iconst (v := iz (0)) hx hb dX11_comparedSize_58 rfl ?_
        rw [hQ]
        exact zr_iret (z := 0) (u := ()) hx hb hr hlocks hP hD hS (by first | exact Nat.le_of_ble_eq_true rfl | omega) (by first | exact Nat.le_of_ble_eq_true rfl | omega) dX11_comparedSize_59 (show 0 = ((v.natAbs : Int) - (v2.natAbs : Int)).sign from (tcs_eq h1 h2 (fun j a b => k2 j (by omega) b)).symm)
      ·
        refine lv_aload_n hx hb dX11_comparedSize_20 rfl (lv_at hl 1 rfl) ?_
        refine lv_iload_n hx hb dX11_comparedSize_21 rfl (lv_at hl 0 rfl) ?_
        refine zc_i (wr := [(a2, .inr (12, [.int (iz (sg2)), .ref b2])), (b2, zaI (G.2 1) N2 (f2))]) (va_runV (As := [.int (iz (k))]) (rest := []) ⟨hx, hb, hml, hown, hts⟩ (c_X11_limb l G a b f N sg v k (h1) (by omega) H.size) (cwV 1 hts gX11_comparedSize_X11_limb rfl rfl rfl (by decide +kernel) ⟨Nat.le_of_ble_eq_true rfl, Nat.le_of_ble_eq_true rfl⟩) (zpV hKX hP hD [0, 1] rfl rfl 0 12 rfl rfl) rfl rfl hl.1 rfl (lv_room (Nat.le_of_ble_eq_true rfl)) dX11_comparedSize_22 ⟨(by first | exact Nat.le_of_ble_eq_true rfl | (show _ ≤ (0 : Nat); omega)), (by first | exact Nat.le_of_ble_eq_true rfl | (show _ ≤ (0 : Nat); omega))⟩) hP hD hS hA [0, 1] [2, 3] rfl rfl rfl (by decide) (fun y1 u_2 H locs hy1 hP hD hS => ?_)
        have hP : va_P G.1 vwCl [(a2, .inr (12, [.int (iz (sg2)), .ref b2])), (b2, zaI (G.2 1) N2 (f2)), (a, .inr (12, [.int (iz (sg)), .ref b])), (b, zaI (G.2 1) N (f))] H := hP
        have hD : va_D A [(a2, .inr (12, [.int (iz (sg2)), .ref b2])), (b2, zaI (G.2 1) N2 (f2)), (a, .inr (12, [.int (iz (sg)), .ref b])), (b, zaI (G.2 1) N (f))] := hD
        have hy1 : y1 = tx f N k := hy1
        have d1 := tx_dig h1.dig k (by omega)
        refine lv_aload_n hx hb dX11_comparedSize_25 rfl (lv_at hl 2 rfl) ?_
        refine lv_iload_n hx hb dX11_comparedSize_26 rfl (lv_at hl 0 rfl) ?_
        refine zc_i (wr := [(a, .inr (12, [.int (iz (sg)), .ref b])), (b, zaI (G.2 1) N (f))]) (va_runV (As := [.int (iz (k))]) (rest := [.int (iz (y1))]) ⟨hx, hb, hml, hown, hts⟩ (c_X11_limb l G a2 b2 f2 N2 sg2 v2 k (h2) (by omega) H.size) (cwV 1 hts gX11_comparedSize_X11_limb rfl rfl rfl (by decide +kernel) ⟨Nat.le_of_ble_eq_true rfl, Nat.le_of_ble_eq_true rfl⟩) (zpV hKX hP hD [0, 1] rfl rfl 0 12 rfl rfl) rfl rfl hl.1 rfl (lv_room (Nat.le_of_ble_eq_true rfl)) dX11_comparedSize_27 ⟨(by first | exact Nat.le_of_ble_eq_true rfl | (show _ ≤ (0 : Nat); omega)), (by first | exact Nat.le_of_ble_eq_true rfl | (show _ ≤ (0 : Nat); omega))⟩) hP hD hS hA [0, 1] [2, 3] rfl rfl rfl (by decide) (fun y2 u_4 H locs hy2 hP hD hS => ?_)
        have hP : va_P G.1 vwCl [(a, .inr (12, [.int (iz (sg)), .ref b])), (b, zaI (G.2 1) N (f)), (a2, .inr (12, [.int (iz (sg2)), .ref b2])), (b2, zaI (G.2 1) N2 (f2))] H := hP
        have hD : va_D A [(a, .inr (12, [.int (iz (sg)), .ref b])), (b, zaI (G.2 1) N (f)), (a2, .inr (12, [.int (iz (sg2)), .ref b2])), (b2, zaI (G.2 1) N2 (f2))] := hD
        have hy2 : y2 = tx f2 N2 k := hy2
        have d2 := tx_dig h2.dig k (by omega)
        refine zr_icmp_eq (x := y1) (y := y2) (tgt := 52) hx hb (⟨by omega, by omega⟩) (⟨by omega, by omega⟩) dX11_comparedSize_30 (by decide) (fun h_6 => ?_) (fun h_6 => ?_)
        ·
          refine lv_iinc (v := iz (k - 1)) (lv' := [(2, .int (iz (k - 1))), (0, .ref a), (1, .ref a2)]) hx hb dX11_comparedSize_52 hl (k := 0) rfl (by rw [show Int32.ofInt (-1) = iz (-1) from rfl, iz_add]; exact congrArg iz (by omega)) (by decide) rfl (fun ls hl => ?_)
          refine lv_goto (tgt := 16) hx hb dX11_comparedSize_55 (by decide) ?_
          refine W.widen (k := 0) (n := 0) (by omega) (by omega) ?_
          exact ih_16 (k - 1) _ _ _ (by omega) (by omega) (fun j a b => (show j = k ∨ k < j by omega).elim (fun q => by rw [q]; omega) (fun q => k2 j q b)) (hP) (hD) hS (hl)
        ·
          refine lv_aload_n hx hb dX11_comparedSize_33 rfl (lv_at hl 1 rfl) ?_
          refine lv_iload_n hx hb dX11_comparedSize_34 rfl (lv_at hl 0 rfl) ?_
          refine zc_i (wr := [(a2, .inr (12, [.int (iz (sg2)), .ref b2])), (b2, zaI (G.2 1) N2 (f2))]) (va_runV (As := [.int (iz (k))]) (rest := []) ⟨hx, hb, hml, hown, hts⟩ (c_X11_limb l G a b f N sg v k (h1) (by omega) H.size) (cwV 1 hts gX11_comparedSize_X11_limb rfl rfl rfl (by decide +kernel) ⟨Nat.le_of_ble_eq_true rfl, Nat.le_of_ble_eq_true rfl⟩) (zpV hKX hP hD [0, 1] rfl rfl 0 12 rfl rfl) rfl rfl hl.1 rfl (lv_room (Nat.le_of_ble_eq_true rfl)) dX11_comparedSize_35 ⟨(by first | exact Nat.le_of_ble_eq_true rfl | (show _ ≤ (0 : Nat); omega)), (by first | exact Nat.le_of_ble_eq_true rfl | (show _ ≤ (0 : Nat); omega))⟩) hP hD hS hA [0, 1] [2, 3] rfl rfl rfl (by decide) (fun y3 u_7 H locs hy3 hP hD hS => ?_)
          have hP : va_P G.1 vwCl [(a2, .inr (12, [.int (iz (sg2)), .ref b2])), (b2, zaI (G.2 1) N2 (f2)), (a, .inr (12, [.int (iz (sg)), .ref b])), (b, zaI (G.2 1) N (f))] H := hP
          have hD : va_D A [(a2, .inr (12, [.int (iz (sg2)), .ref b2])), (b2, zaI (G.2 1) N2 (f2)), (a, .inr (12, [.int (iz (sg)), .ref b])), (b, zaI (G.2 1) N (f))] := hD
          have hy3 : y3 = tx f N k := hy3
          refine lv_aload_n hx hb dX11_comparedSize_38 rfl (lv_at hl 2 rfl) ?_
          refine lv_iload_n hx hb dX11_comparedSize_39 rfl (lv_at hl 0 rfl) ?_
          refine zc_i (wr := [(a, .inr (12, [.int (iz (sg)), .ref b])), (b, zaI (G.2 1) N (f))]) (va_runV (As := [.int (iz (k))]) (rest := [.int (iz (y3))]) ⟨hx, hb, hml, hown, hts⟩ (c_X11_limb l G a2 b2 f2 N2 sg2 v2 k (h2) (by omega) H.size) (cwV 1 hts gX11_comparedSize_X11_limb rfl rfl rfl (by decide +kernel) ⟨Nat.le_of_ble_eq_true rfl, Nat.le_of_ble_eq_true rfl⟩) (zpV hKX hP hD [0, 1] rfl rfl 0 12 rfl rfl) rfl rfl hl.1 rfl (lv_room (Nat.le_of_ble_eq_true rfl)) dX11_comparedSize_40 ⟨(by first | exact Nat.le_of_ble_eq_true rfl | (show _ ≤ (0 : Nat); omega)), (by first | exact Nat.le_of_ble_eq_true rfl | (show _ ≤ (0 : Nat); omega))⟩) hP hD hS hA [0, 1] [2, 3] rfl rfl rfl (by decide) (fun y4 u_9 H locs hy4 hP hD hS => ?_)
          have hP : va_P G.1 vwCl [(a, .inr (12, [.int (iz (sg)), .ref b])), (b, zaI (G.2 1) N (f)), (a2, .inr (12, [.int (iz (sg2)), .ref b2])), (b2, zaI (G.2 1) N2 (f2))] H := hP
          have hD : va_D A [(a, .inr (12, [.int (iz (sg)), .ref b])), (b, zaI (G.2 1) N (f)), (a2, .inr (12, [.int (iz (sg2)), .ref b2])), (b2, zaI (G.2 1) N2 (f2))] := hD
          have hy4 : y4 = tx f2 N2 k := hy4
          refine zr_icmp_ge (x := y3) (y := y4) (tgt := 50) hx hb (⟨by omega, by omega⟩) (⟨by omega, by omega⟩) dX11_comparedSize_43 (by decide) (fun h_11 => ?_) (fun h_11 => ?_)
          ·
            refine lv_iconst (v := iz (1)) hx hb dX11_comparedSize_50 rfl ?_
            rw [hQ]
            exact zr_iret (z := 1) (u := ()) hx hb hr hlocks hP hD hS (by first | exact Nat.le_of_ble_eq_true rfl | omega) (by first | exact Nat.le_of_ble_eq_true rfl | omega) dX11_comparedSize_51 (show 1 = ((v.natAbs : Int) - (v2.natAbs : Int)).sign from by have := tcs_ne h1 h2 ⟨by omega, by omega⟩ k2; first | exact (this.1 (by omega)).symm | exact (this.2 (by omega)).symm)
          ·
            refine lv_iconst (v := iz (-1)) hx hb dX11_comparedSize_46 rfl ?_
            refine lv_goto (tgt := 51) hx hb dX11_comparedSize_47 (by decide) ?_
            rw [hQ]
            exact zr_iret (z := -1) (u := ()) hx hb hr hlocks hP hD hS (by first | exact Nat.le_of_ble_eq_true rfl | omega) (by first | exact Nat.le_of_ble_eq_true rfl | omega) dX11_comparedSize_51 (show (-1) = ((v.natAbs : Int) - (v2.natAbs : Int)).sign from by have := tcs_ne h1 h2 ⟨by omega, by omega⟩ k2; first | exact (this.1 (by omega)).symm | exact (this.2 (by omega)).symm)
  exact hl_16 ((K + 1 : Int).toNat + 1) K _ _ _ (Nat.lt_succ_self _) (by omega) (fun j a b => absurd b (by omega)) (hP) (hD) hS (hl)

def rm_c_X11_joined_s : Room := { frames := 1, cells := 1, slots := 129, locals := 21 }
theorem iw_X11_joined_X11 : ∀ w ∈ wsX110, w ∈ wsX11_joined := by decide +kernel
set_option maxHeartbeats 1000000 in
set_option maxRecDepth 100000 in
theorem c_X11_joined_s (l : Launch) (G : zG) (a : Nat) (b : Nat) (f : Int → Int) (N : Nat) (sg : Int) (a2 : Nat) (b2 : Nat) (f2 : Int → Int) (N2 : Nat) (sg2 : Int) (v : Int) (v2 : Int) (h1 : tmw f N sg v) (h2 : tmw f2 N2 sg2 v2) : zM l G yX11_joined wsX11_joined rm_c_X11_joined_s [.ref a, .ref a2, .int (iz (1))] [(a, .inr (12, [.int (iz (sg)), .ref b])), (b, zaI (G.2 1) N (f)), (a2, .inr (12, [.int (iz (sg2)), .ref b2])), (b2, zaI (G.2 1) N2 (f2))] (fun A => zQr G (fun (u : ((Int → Int) × Nat)) (ra : Nat) => tdig u.1 u.2 ∧ tsum u.1 u.2 = tsum f N + tsum f2 N2 ∧ u.2 ≤ 129) (fun (u : ((Int → Int) × Nat)) (ra : Nat) => [(a, .inr (12, [.int (iz (sg)), .ref b])), (b, zaI (G.2 1) N (f)), (a2, .inr (12, [.int (iz (sg2)), .ref b2])), (b2, zaI (G.2 1) N2 (f2)), (ra, zaI (G.2 1) u.2 (u.1))]) A) 1 129 := by
  refine zM_of (cc := cX11_joined) (maxL := 7) (ret := (some (.array .int))) (by decide) rfl (Nat.le_of_ble_eq_true rfl) ?_
  intro p e s m below meth c ls A Q hQ hx hb hr hts hown hlocks hml hnm hKX hP hD hA hS hl
  have hK := hKX.1
  have iwX11 := iw_X11_joined_X11
  obtain ⟨H, hH⟩ : ∃ h, h = s.heap := ⟨_, rfl⟩
  obtain ⟨locs, hlo⟩ : ∃ h : List Loc, h = [] := ⟨_, rfl⟩
  have hS : va_S A s.heap H locs := by rw [hH, hlo]; exact hS
  have hP : va_P G.1 vwCl [(a, .inr (12, [.int (iz (sg)), .ref b])), (b, zaI (G.2 1) N (f)), (a2, .inr (12, [.int (iz (sg2)), .ref b2])), (b2, zaI (G.2 1) N2 (f2))] H := by rw [hH]; exact hP
  have hD : va_D A [(a, .inr (12, [.int (iz (sg)), .ref b])), (b, zaI (G.2 1) N (f)), (a2, .inr (12, [.int (iz (sg2)), .ref b2])), (b2, zaI (G.2 1) N2 (f2))] := hD
  have hl : lv_has ls 7 [(0, .ref a), (1, .ref a2), (2, .int (iz (1)))] := hl
  rw [← hH, ← hlo]
  have n1 := h1.n
  have n2 := h2.n
  refine lv_aload_n hx hb dX11_joined_0 rfl (lv_at hl 0 rfl) ?_
  refine va_get (D := G.1) (ci := 12) (v := .ref b) (C := RX11) (T := TX11) (N := 2) hx hb hts iwX11 hown hK hP 0 rfl rfl 1 (by decide) (hts (.fieldLink RX11 13 "AnnuityHouseModel$Whole" "limbs" "[I") (by decide +kernel)) (fun _ h9 => h9) rfl dX11_joined_1 ?_
  refine zr_alenI hx hb hK hP 1 1 rfl rfl dX11_joined_4 ?_
  refine lv_aload_n hx hb dX11_joined_5 rfl (lv_at hl 1 rfl) ?_
  refine va_get (D := G.1) (ci := 12) (v := .ref b2) (C := RX11) (T := TX11) (N := 2) hx hb hts iwX11 hown hK hP 2 rfl rfl 1 (by decide) (hts (.fieldLink RX11 13 "AnnuityHouseModel$Whole" "limbs" "[I") (by decide +kernel)) (fun _ h9 => h9) rfl dX11_joined_6 ?_
  refine zr_alenI hx hb hK hP 3 1 rfl rfl dX11_joined_9 ?_
  refine zr_mmax (x := N) (y := N2) hx hb (hml.trans hl.1.symm) hown (hts (.methodLink RX11 32 Lib.Math.max.name) (by decide +kernel)) (hts (.static Lib.Math.max.name) (by decide +kernel)) (hts (.initialized "java/lang/Math") (by decide +kernel)) (hts (.code Lib.Math.max.name Lib.Math.max.code 2 (some .int)) (by decide +kernel)) (Nat.le_of_ble_eq_true rfl) (Nat.le_of_ble_eq_true rfl) (by first | exact Nat.le_of_ble_eq_true rfl | (show _ ≤ (1 : Nat); omega)) (by first | exact Nat.le_of_ble_eq_true rfl | (show _ ≤ (129 : Nat); omega)) (⟨by omega, by omega⟩) (⟨by omega, by omega⟩) dX11_joined_10 ?_
  refine lv_iconst (v := iz (1)) hx hb dX11_joined_13 rfl ?_
  refine zr_iadd hx hb dX11_joined_14 ?_
  refine zr_namei (fun R eR => ?_)
  refine zr_newaI (G := G) (n := R) (N := (R).toNat) hx hb (hts (.arrayClass .int) (by decide +kernel)) hK hP hD hS hA (by omega) (by omega) (by omega) (by first | exact Nat.le_of_ble_eq_true rfl | (show _ ≤ (1 : Nat); omega)) (by first | exact Nat.le_of_ble_eq_true rfl | (show _ ≤ (129 : Nat); omega)) dX11_joined_15 (fun ra H hP hD hS => ?_)
  have hP : va_P G.1 vwCl [(a, .inr (12, [.int (iz (sg)), .ref b])), (b, zaI (G.2 1) N (f)), (a2, .inr (12, [.int (iz (sg2)), .ref b2])), (b2, zaI (G.2 1) N2 (f2)), (ra, zaI (G.2 1) ((R).toNat) (fun _ => 0))] H := hP
  have hD : va_D A [(a, .inr (12, [.int (iz (sg)), .ref b])), (b, zaI (G.2 1) N (f)), (a2, .inr (12, [.int (iz (sg2)), .ref b2])), (b2, zaI (G.2 1) N2 (f2)), (ra, zaI (G.2 1) ((R).toNat) (fun _ => 0))] := hD
  refine lv_astore_n (lv' := [(3, .ref ra), (0, .ref a), (1, .ref a2), (2, .int (iz (1)))]) hx hb dX11_joined_17 rfl hl (by decide) rfl (fun ls hl => ?_)
  refine lv_iconst (v := iz (0)) hx hb dX11_joined_18 rfl ?_
  refine lv_istore (lv' := [(4, .int (iz (0))), (3, .ref ra), (0, .ref a), (1, .ref a2), (2, .int (iz (1)))]) hx hb dX11_joined_19 hl (by decide) rfl (fun ls hl => ?_)
  refine lv_iconst (v := iz (0)) hx hb dX11_joined_21 rfl ?_
  refine lv_istore (lv' := [(5, .int (iz (0))), (4, .int (iz (0))), (3, .ref ra), (0, .ref a), (1, .ref a2), (2, .int (iz (1)))]) hx hb dX11_joined_22 hl (by decide) rfl (fun ls hl => ?_)
  have hl_24 : ∀ (zn_24 : Nat) (i : Int) (q : Int) (h : Int → Int) (H : Heap) (locs : List Loc) (ls : Array Slot), (R - i).toNat < zn_24 → (0 ≤ i ∧ i ≤ R) → (tdig h i) → (tsum h i.toNat + q * 10000 ^ i.toNat = tsum (tx f N) i.toNat + tsum (tx f2 N2) i.toNat) → (0 ≤ q ∧ q ≤ 1) → va_P G.1 vwCl [(a, .inr (12, [.int (iz (sg)), .ref b])), (b, zaI (G.2 1) N (f)), (a2, .inr (12, [.int (iz (sg2)), .ref b2])), (b2, zaI (G.2 1) N2 (f2)), (ra, zaI (G.2 1) ((R).toNat) (h))] H → va_D A [(a, .inr (12, [.int (iz (sg)), .ref b])), (b, zaI (G.2 1) N (f)), (a2, .inr (12, [.int (iz (sg2)), .ref b2])), (b2, zaI (G.2 1) N2 (f2)), (ra, zaI (G.2 1) ((R).toNat) (h))] → va_S A s.heap H locs → lv_has ls 7 [(5, .int (iz (i))), (4, .int (iz (q))), (3, .ref ra), (0, .ref a), (1, .ref a2), (2, .int (iz (1)))] → W p l e rm_c_X11_joined_s s m ([.ref a, .ref a2, .int (iz (1))] : List Value).toArray below meth c H locs (0 + 1) (0 + ((R).toNat)) Q (F0 m 24 ls []) := by
    intro zn_24
    induction zn_24 with
    | zero => intro i q h H locs ls hm; exact absurd hm (Nat.not_lt_zero _)
    | succ zn_24 ih_24 =>
      intro i q h H locs ls hm_24 k1 k2 k3 k4 hP hD hS hl
      refine lv_iload hx hb dX11_joined_24 (lv_at hl 0 rfl) ?_
      refine lv_aload_n hx hb dX11_joined_26 rfl (lv_at hl 2 rfl) ?_
      refine zr_alenI hx hb hK hP 4 1 rfl rfl dX11_joined_27 ?_
      refine zr_icmp_ge (x := i) (y := (R).toNat) (tgt := 99) hx hb (⟨by omega, by omega⟩) (⟨by omega, by omega⟩) dX11_joined_28 (by decide) (fun h_2 => ?_) (fun h_2 => ?_)
      ·
        refine lv_aload_n hx hb dX11_joined_99 rfl (lv_at hl 2 rfl) ?_
        have hend := tadd_end h1 h2 eR (by omega) k2 k4.1 k3
        rw [hQ]
        exact zr_aret (ra := ra) (Or.inr ⟨_, rfl⟩) (u := (h, R.toNat)) hx hb hr hlocks hP hD hS (by first | exact Nat.le_of_ble_eq_true rfl | omega) (by first | exact Nat.le_of_ble_eq_true rfl | omega) dX11_joined_100 (show tdig h ((R).toNat) ∧ tsum h ((R).toNat) = tsum f N + tsum f2 N2 ∧ ((R).toNat) ≤ 129 from ⟨hend.1, hend.2, by omega⟩)
      ·
        refine lv_aload_n hx hb dX11_joined_31 rfl (lv_at hl 3 rfl) ?_
        refine lv_iload hx hb dX11_joined_32 (lv_at hl 0 rfl) ?_
        refine zc_i (wr := [(a2, .inr (12, [.int (iz (sg2)), .ref b2])), (b2, zaI (G.2 1) N2 (f2)), (ra, zaI (G.2 1) ((R).toNat) (h))]) (va_runV (As := [.int (iz (i))]) (rest := []) ⟨hx, hb, hml, hown, hts⟩ (c_X11_limb l G a b f N sg v i (h1) (by omega) H.size) (cwV 1 hts gX11_joined_X11_limb rfl rfl rfl (by decide +kernel) ⟨Nat.le_of_ble_eq_true rfl, Nat.le_of_ble_eq_true rfl⟩) (zpV hKX hP hD [0, 1] rfl rfl 0 12 rfl rfl) rfl rfl hl.1 rfl (lv_room (Nat.le_of_ble_eq_true rfl)) dX11_joined_34 ⟨(by first | exact Nat.le_of_ble_eq_true rfl | (show _ ≤ (1 : Nat); omega)), (by first | exact Nat.le_of_ble_eq_true rfl | (show _ ≤ (129 : Nat); omega))⟩) hP hD hS hA [0, 1] [2, 3, 4] rfl rfl rfl (by decide) (fun y1 u_3 H locs hy1 hP hD hS => ?_)
        have hP : va_P G.1 vwCl [(a2, .inr (12, [.int (iz (sg2)), .ref b2])), (b2, zaI (G.2 1) N2 (f2)), (ra, zaI (G.2 1) ((R).toNat) (h)), (a, .inr (12, [.int (iz (sg)), .ref b])), (b, zaI (G.2 1) N (f))] H := hP
        have hD : va_D A [(a2, .inr (12, [.int (iz (sg2)), .ref b2])), (b2, zaI (G.2 1) N2 (f2)), (ra, zaI (G.2 1) ((R).toNat) (h)), (a, .inr (12, [.int (iz (sg)), .ref b])), (b, zaI (G.2 1) N (f))] := hD
        have hy1 : y1 = tx f N i := hy1
        have d1 := tx_dig h1.dig i (by omega)
        refine lv_iload_n hx hb dX11_joined_37 rfl (lv_at hl 5 rfl) ?_
        refine zr_if_eq (x := 1) (tgt := 50) hx hb (⟨by omega, by omega⟩) dX11_joined_38 (by decide) (fun h_5 => ?_) (fun h_5 => ?_)
        · exact absurd h_5 (by omega)
        ·
          refine lv_aload_n hx hb dX11_joined_41 rfl (lv_at hl 4 rfl) ?_
          refine lv_iload hx hb dX11_joined_42 (lv_at hl 0 rfl) ?_
          refine zc_i (wr := [(ra, zaI (G.2 1) ((R).toNat) (h)), (a, .inr (12, [.int (iz (sg)), .ref b])), (b, zaI (G.2 1) N (f))]) (va_runV (As := [.int (iz (i))]) (rest := [.int (iz (y1))]) ⟨hx, hb, hml, hown, hts⟩ (c_X11_limb l G a2 b2 f2 N2 sg2 v2 i (h2) (by omega) H.size) (cwV 1 hts gX11_joined_X11_limb rfl rfl rfl (by decide +kernel) ⟨Nat.le_of_ble_eq_true rfl, Nat.le_of_ble_eq_true rfl⟩) (zpV hKX hP hD [0, 1] rfl rfl 0 12 rfl rfl) rfl rfl hl.1 rfl (lv_room (Nat.le_of_ble_eq_true rfl)) dX11_joined_44 ⟨(by first | exact Nat.le_of_ble_eq_true rfl | (show _ ≤ (1 : Nat); omega)), (by first | exact Nat.le_of_ble_eq_true rfl | (show _ ≤ (129 : Nat); omega))⟩) hP hD hS hA [0, 1] [2, 3, 4] rfl rfl rfl (by decide) (fun y2 u_6 H locs hy2 hP hD hS => ?_)
          have hP : va_P G.1 vwCl [(ra, zaI (G.2 1) ((R).toNat) (h)), (a, .inr (12, [.int (iz (sg)), .ref b])), (b, zaI (G.2 1) N (f)), (a2, .inr (12, [.int (iz (sg2)), .ref b2])), (b2, zaI (G.2 1) N2 (f2))] H := hP
          have hD : va_D A [(ra, zaI (G.2 1) ((R).toNat) (h)), (a, .inr (12, [.int (iz (sg)), .ref b])), (b, zaI (G.2 1) N (f)), (a2, .inr (12, [.int (iz (sg2)), .ref b2])), (b2, zaI (G.2 1) N2 (f2))] := hD
          have hy2 : y2 = tx f2 N2 i := hy2
          have d2 := tx_dig h2.dig i (by omega)
          refine lv_goto (tgt := 57) hx hb dX11_joined_47 (by decide) ?_
          refine zr_iadd hx hb dX11_joined_57 ?_
          refine lv_iload hx hb dX11_joined_58 (lv_at hl 1 rfl) ?_
          refine zr_iadd hx hb dX11_joined_60 ?_
          refine zr_namei (fun w ew => ?_)
          refine lv_istore (lv' := [(6, .int (iz (w))), (5, .int (iz (i))), (4, .int (iz (q))), (3, .ref ra), (0, .ref a), (1, .ref a2), (2, .int (iz (1)))]) hx hb dX11_joined_61 hl (by decide) rfl (fun ls hl => ?_)
          refine lv_iload hx hb dX11_joined_63 (lv_at hl 0 rfl) ?_
          refine zr_if_ge (x := w) (tgt := 72) hx hb (⟨by omega, by omega⟩) dX11_joined_65 (by decide) (fun h_8 => ?_) (fun h_8 => ?_)
          ·
            refine lv_iload hx hb dX11_joined_72 (lv_at hl 0 rfl) ?_
            refine lv_sipush (v := iz (10000)) hx hb dX11_joined_74 rfl ?_
            refine zr_idiv hx hb (x := w) (y := 10000) ⟨by omega, by omega⟩ ⟨by omega, by omega⟩ (by omega) (by omega) dX11_joined_77 ?_
            refine lv_istore (lv' := [(4, .int (iz (w / 10000))), (6, .int (iz (w))), (5, .int (iz (i))), (3, .ref ra), (0, .ref a), (1, .ref a2), (2, .int (iz (1)))]) hx hb dX11_joined_78 hl (by decide) rfl (fun ls hl => ?_)
            refine lv_aload_n hx hb dX11_joined_80 rfl (lv_at hl 3 rfl) ?_
            refine lv_iload hx hb dX11_joined_81 (lv_at hl 2 rfl) ?_
            refine lv_iload hx hb dX11_joined_83 (lv_at hl 1 rfl) ?_
            refine lv_iload hx hb dX11_joined_85 (lv_at hl 0 rfl) ?_
            refine lv_sipush (v := iz (10000)) hx hb dX11_joined_87 rfl ?_
            refine zr_imul hx hb dX11_joined_90 ?_
            refine zr_isub hx hb dX11_joined_91 ?_
            refine zr_iast hx hb hK hP hD hS 0 1 rfl rfl (i := i) (x := w - ((w / 10000) * 10000)) (⟨by omega, by omega, by omega⟩) dX11_joined_92 (fun H locs hP hD hS => ?_)
            have hP : va_P G.1 vwCl [(ra, zaI (G.2 1) ((R).toNat) (zup h i (w - ((w / 10000) * 10000)))), (a, .inr (12, [.int (iz (sg)), .ref b])), (b, zaI (G.2 1) N (f)), (a2, .inr (12, [.int (iz (sg2)), .ref b2])), (b2, zaI (G.2 1) N2 (f2))] H := hP
            have hD : va_D A [(ra, zaI (G.2 1) ((R).toNat) (zup h i (w - ((w / 10000) * 10000)))), (a, .inr (12, [.int (iz (sg)), .ref b])), (b, zaI (G.2 1) N (f)), (a2, .inr (12, [.int (iz (sg2)), .ref b2])), (b2, zaI (G.2 1) N2 (f2))] := hD
            refine lv_iinc (v := iz (i + 1)) (lv' := [(5, .int (iz (i + 1))), (4, .int (iz (w / 10000))), (6, .int (iz (w))), (3, .ref ra), (0, .ref a), (1, .ref a2), (2, .int (iz (1)))]) hx hb dX11_joined_93 hl (k := 2) rfl (by rw [show Int32.ofInt (1) = iz (1) from rfl, iz_add]) (by decide) rfl (fun ls hl => ?_)
            refine lv_goto (tgt := 24) hx hb dX11_joined_96 (by decide) ?_
            refine W.widen (k := 0 + 1) (n := 0 + ((R).toNat)) (by omega) (by omega) ?_
            exact ih_24 (i + 1) (w / 10000) (zup h i (w - ((w / 10000) * 10000))) _ _ _ (by omega) (by omega) (tdig_up k2 (by omega)) (tadd_step (by omega) k3 (by omega)) (by omega) (hP.sub [1, 2, 3, 4, 0] rfl) (hD.sub [1, 2, 3, 4, 0] (by decide) rfl) hS (lv_sub hl [0, 1, 3, 4, 5, 6] rfl)
          · exact absurd h_8 (by omega)
  exact hl_24 ((R - 0 : Int).toNat + 1) 0 0 (fun _ => 0) _ _ _ (Nat.lt_succ_self _) (by omega) (fun k a b => absurd b (by omega)) (by simp [tsum]) (by omega) (hP) (hD) hS (hl)

def rm_c_X11_joined_d : Room := { frames := 1, cells := 1, slots := 129, locals := 21 }
set_option maxHeartbeats 1000000 in
set_option maxRecDepth 100000 in
theorem c_X11_joined_d (l : Launch) (G : zG) (a : Nat) (b : Nat) (f : Int → Int) (N : Nat) (sg : Int) (a2 : Nat) (b2 : Nat) (f2 : Int → Int) (N2 : Nat) (sg2 : Int) (v : Int) (v2 : Int) (h1 : tmw f N sg v) (h2 : tmw f2 N2 sg2 v2) (h3 : (v2.natAbs : Int) ≤ (v.natAbs : Int)) : zM l G yX11_joined wsX11_joined rm_c_X11_joined_d [.ref a, .ref a2, .int (iz (0))] [(a, .inr (12, [.int (iz (sg)), .ref b])), (b, zaI (G.2 1) N (f)), (a2, .inr (12, [.int (iz (sg2)), .ref b2])), (b2, zaI (G.2 1) N2 (f2))] (fun A => zQr G (fun (u : ((Int → Int) × Nat)) (ra : Nat) => tdig u.1 u.2 ∧ tsum u.1 u.2 = tsum f N - tsum f2 N2 ∧ u.2 ≤ 129) (fun (u : ((Int → Int) × Nat)) (ra : Nat) => [(a, .inr (12, [.int (iz (sg)), .ref b])), (b, zaI (G.2 1) N (f)), (a2, .inr (12, [.int (iz (sg2)), .ref b2])), (b2, zaI (G.2 1) N2 (f2)), (ra, zaI (G.2 1) u.2 (u.1))]) A) 1 129 := by
  refine zM_of (cc := cX11_joined) (maxL := 7) (ret := (some (.array .int))) (by decide) rfl (Nat.le_of_ble_eq_true rfl) ?_
  intro p e s m below meth c ls A Q hQ hx hb hr hts hown hlocks hml hnm hKX hP hD hA hS hl
  have hK := hKX.1
  have iwX11 := iw_X11_joined_X11
  obtain ⟨H, hH⟩ : ∃ h, h = s.heap := ⟨_, rfl⟩
  obtain ⟨locs, hlo⟩ : ∃ h : List Loc, h = [] := ⟨_, rfl⟩
  have hS : va_S A s.heap H locs := by rw [hH, hlo]; exact hS
  have hP : va_P G.1 vwCl [(a, .inr (12, [.int (iz (sg)), .ref b])), (b, zaI (G.2 1) N (f)), (a2, .inr (12, [.int (iz (sg2)), .ref b2])), (b2, zaI (G.2 1) N2 (f2))] H := by rw [hH]; exact hP
  have hD : va_D A [(a, .inr (12, [.int (iz (sg)), .ref b])), (b, zaI (G.2 1) N (f)), (a2, .inr (12, [.int (iz (sg2)), .ref b2])), (b2, zaI (G.2 1) N2 (f2))] := hD
  have hl : lv_has ls 7 [(0, .ref a), (1, .ref a2), (2, .int (iz (0)))] := hl
  rw [← hH, ← hlo]
  have n1 := h1.n
  have n2 := h2.n
  refine lv_aload_n hx hb dX11_joined_0 rfl (lv_at hl 0 rfl) ?_
  refine va_get (D := G.1) (ci := 12) (v := .ref b) (C := RX11) (T := TX11) (N := 2) hx hb hts iwX11 hown hK hP 0 rfl rfl 1 (by decide) (hts (.fieldLink RX11 13 "AnnuityHouseModel$Whole" "limbs" "[I") (by decide +kernel)) (fun _ h9 => h9) rfl dX11_joined_1 ?_
  refine zr_alenI hx hb hK hP 1 1 rfl rfl dX11_joined_4 ?_
  refine lv_aload_n hx hb dX11_joined_5 rfl (lv_at hl 1 rfl) ?_
  refine va_get (D := G.1) (ci := 12) (v := .ref b2) (C := RX11) (T := TX11) (N := 2) hx hb hts iwX11 hown hK hP 2 rfl rfl 1 (by decide) (hts (.fieldLink RX11 13 "AnnuityHouseModel$Whole" "limbs" "[I") (by decide +kernel)) (fun _ h9 => h9) rfl dX11_joined_6 ?_
  refine zr_alenI hx hb hK hP 3 1 rfl rfl dX11_joined_9 ?_
  refine zr_mmax (x := N) (y := N2) hx hb (hml.trans hl.1.symm) hown (hts (.methodLink RX11 32 Lib.Math.max.name) (by decide +kernel)) (hts (.static Lib.Math.max.name) (by decide +kernel)) (hts (.initialized "java/lang/Math") (by decide +kernel)) (hts (.code Lib.Math.max.name Lib.Math.max.code 2 (some .int)) (by decide +kernel)) (Nat.le_of_ble_eq_true rfl) (Nat.le_of_ble_eq_true rfl) (by first | exact Nat.le_of_ble_eq_true rfl | (show _ ≤ (1 : Nat); omega)) (by first | exact Nat.le_of_ble_eq_true rfl | (show _ ≤ (129 : Nat); omega)) (⟨by omega, by omega⟩) (⟨by omega, by omega⟩) dX11_joined_10 ?_
  refine lv_iconst (v := iz (1)) hx hb dX11_joined_13 rfl ?_
  refine zr_iadd hx hb dX11_joined_14 ?_
  refine zr_namei (fun R eR => ?_)
  refine zr_newaI (G := G) (n := R) (N := (R).toNat) hx hb (hts (.arrayClass .int) (by decide +kernel)) hK hP hD hS hA (by omega) (by omega) (by omega) (by first | exact Nat.le_of_ble_eq_true rfl | (show _ ≤ (1 : Nat); omega)) (by first | exact Nat.le_of_ble_eq_true rfl | (show _ ≤ (129 : Nat); omega)) dX11_joined_15 (fun ra H hP hD hS => ?_)
  have hP : va_P G.1 vwCl [(a, .inr (12, [.int (iz (sg)), .ref b])), (b, zaI (G.2 1) N (f)), (a2, .inr (12, [.int (iz (sg2)), .ref b2])), (b2, zaI (G.2 1) N2 (f2)), (ra, zaI (G.2 1) ((R).toNat) (fun _ => 0))] H := hP
  have hD : va_D A [(a, .inr (12, [.int (iz (sg)), .ref b])), (b, zaI (G.2 1) N (f)), (a2, .inr (12, [.int (iz (sg2)), .ref b2])), (b2, zaI (G.2 1) N2 (f2)), (ra, zaI (G.2 1) ((R).toNat) (fun _ => 0))] := hD
  refine lv_astore_n (lv' := [(3, .ref ra), (0, .ref a), (1, .ref a2), (2, .int (iz (0)))]) hx hb dX11_joined_17 rfl hl (by decide) rfl (fun ls hl => ?_)
  refine lv_iconst (v := iz (0)) hx hb dX11_joined_18 rfl ?_
  refine lv_istore (lv' := [(4, .int (iz (0))), (3, .ref ra), (0, .ref a), (1, .ref a2), (2, .int (iz (0)))]) hx hb dX11_joined_19 hl (by decide) rfl (fun ls hl => ?_)
  refine lv_iconst (v := iz (0)) hx hb dX11_joined_21 rfl ?_
  refine lv_istore (lv' := [(5, .int (iz (0))), (4, .int (iz (0))), (3, .ref ra), (0, .ref a), (1, .ref a2), (2, .int (iz (0)))]) hx hb dX11_joined_22 hl (by decide) rfl (fun ls hl => ?_)
  have hl_24 : ∀ (zn_24 : Nat) (i : Int) (q : Int) (h : Int → Int) (H : Heap) (locs : List Loc) (ls : Array Slot), (R - i).toNat < zn_24 → (0 ≤ i ∧ i ≤ R) → (tdig h i) → (tsum h i.toNat + q * 10000 ^ i.toNat = tsum (tx f N) i.toNat - tsum (tx f2 N2) i.toNat) → (-1 ≤ q ∧ q ≤ 0) → va_P G.1 vwCl [(a, .inr (12, [.int (iz (sg)), .ref b])), (b, zaI (G.2 1) N (f)), (a2, .inr (12, [.int (iz (sg2)), .ref b2])), (b2, zaI (G.2 1) N2 (f2)), (ra, zaI (G.2 1) ((R).toNat) (h))] H → va_D A [(a, .inr (12, [.int (iz (sg)), .ref b])), (b, zaI (G.2 1) N (f)), (a2, .inr (12, [.int (iz (sg2)), .ref b2])), (b2, zaI (G.2 1) N2 (f2)), (ra, zaI (G.2 1) ((R).toNat) (h))] → va_S A s.heap H locs → lv_has ls 7 [(5, .int (iz (i))), (4, .int (iz (q))), (3, .ref ra), (0, .ref a), (1, .ref a2), (2, .int (iz (0)))] → W p l e rm_c_X11_joined_d s m ([.ref a, .ref a2, .int (iz (0))] : List Value).toArray below meth c H locs (0 + 1) (0 + ((R).toNat)) Q (F0 m 24 ls []) := by
    intro zn_24
    induction zn_24 with
    | zero => intro i q h H locs ls hm; exact absurd hm (Nat.not_lt_zero _)
    | succ zn_24 ih_24 =>
      intro i q h H locs ls hm_24 k1 k2 k3 k4 hP hD hS hl
      refine lv_iload hx hb dX11_joined_24 (lv_at hl 0 rfl) ?_
      refine lv_aload_n hx hb dX11_joined_26 rfl (lv_at hl 2 rfl) ?_
      refine zr_alenI hx hb hK hP 4 1 rfl rfl dX11_joined_27 ?_
      refine zr_icmp_ge (x := i) (y := (R).toNat) (tgt := 99) hx hb (⟨by omega, by omega⟩) (⟨by omega, by omega⟩) dX11_joined_28 (by decide) (fun h_2 => ?_) (fun h_2 => ?_)
      ·
        refine lv_aload_n hx hb dX11_joined_99 rfl (lv_at hl 2 rfl) ?_
        have hend := tsub_end h1 h2 h3 eR (by omega) k2 k4 k3
        rw [hQ]
        exact zr_aret (ra := ra) (Or.inr ⟨_, rfl⟩) (u := (h, R.toNat)) hx hb hr hlocks hP hD hS (by first | exact Nat.le_of_ble_eq_true rfl | omega) (by first | exact Nat.le_of_ble_eq_true rfl | omega) dX11_joined_100 (show tdig h ((R).toNat) ∧ tsum h ((R).toNat) = tsum f N - tsum f2 N2 ∧ ((R).toNat) ≤ 129 from ⟨hend.1, hend.2, by omega⟩)
      ·
        refine lv_aload_n hx hb dX11_joined_31 rfl (lv_at hl 3 rfl) ?_
        refine lv_iload hx hb dX11_joined_32 (lv_at hl 0 rfl) ?_
        refine zc_i (wr := [(a2, .inr (12, [.int (iz (sg2)), .ref b2])), (b2, zaI (G.2 1) N2 (f2)), (ra, zaI (G.2 1) ((R).toNat) (h))]) (va_runV (As := [.int (iz (i))]) (rest := []) ⟨hx, hb, hml, hown, hts⟩ (c_X11_limb l G a b f N sg v i (h1) (by omega) H.size) (cwV 1 hts gX11_joined_X11_limb rfl rfl rfl (by decide +kernel) ⟨Nat.le_of_ble_eq_true rfl, Nat.le_of_ble_eq_true rfl⟩) (zpV hKX hP hD [0, 1] rfl rfl 0 12 rfl rfl) rfl rfl hl.1 rfl (lv_room (Nat.le_of_ble_eq_true rfl)) dX11_joined_34 ⟨(by first | exact Nat.le_of_ble_eq_true rfl | (show _ ≤ (1 : Nat); omega)), (by first | exact Nat.le_of_ble_eq_true rfl | (show _ ≤ (129 : Nat); omega))⟩) hP hD hS hA [0, 1] [2, 3, 4] rfl rfl rfl (by decide) (fun y1 u_3 H locs hy1 hP hD hS => ?_)
        have hP : va_P G.1 vwCl [(a2, .inr (12, [.int (iz (sg2)), .ref b2])), (b2, zaI (G.2 1) N2 (f2)), (ra, zaI (G.2 1) ((R).toNat) (h)), (a, .inr (12, [.int (iz (sg)), .ref b])), (b, zaI (G.2 1) N (f))] H := hP
        have hD : va_D A [(a2, .inr (12, [.int (iz (sg2)), .ref b2])), (b2, zaI (G.2 1) N2 (f2)), (ra, zaI (G.2 1) ((R).toNat) (h)), (a, .inr (12, [.int (iz (sg)), .ref b])), (b, zaI (G.2 1) N (f))] := hD
        have hy1 : y1 = tx f N i := hy1
        have d1 := tx_dig h1.dig i (by omega)
        refine lv_iload_n hx hb dX11_joined_37 rfl (lv_at hl 5 rfl) ?_
        refine zr_if_eq (x := 0) (tgt := 50) hx hb (⟨by omega, by omega⟩) dX11_joined_38 (by decide) (fun h_5 => ?_) (fun h_5 => ?_)
        ·
          refine lv_aload_n hx hb dX11_joined_50 rfl (lv_at hl 4 rfl) ?_
          refine lv_iload hx hb dX11_joined_51 (lv_at hl 0 rfl) ?_
          refine zc_i (wr := [(ra, zaI (G.2 1) ((R).toNat) (h)), (a, .inr (12, [.int (iz (sg)), .ref b])), (b, zaI (G.2 1) N (f))]) (va_runV (As := [.int (iz (i))]) (rest := [.int (iz (y1))]) ⟨hx, hb, hml, hown, hts⟩ (c_X11_limb l G a2 b2 f2 N2 sg2 v2 i (h2) (by omega) H.size) (cwV 1 hts gX11_joined_X11_limb rfl rfl rfl (by decide +kernel) ⟨Nat.le_of_ble_eq_true rfl, Nat.le_of_ble_eq_true rfl⟩) (zpV hKX hP hD [0, 1] rfl rfl 0 12 rfl rfl) rfl rfl hl.1 rfl (lv_room (Nat.le_of_ble_eq_true rfl)) dX11_joined_53 ⟨(by first | exact Nat.le_of_ble_eq_true rfl | (show _ ≤ (1 : Nat); omega)), (by first | exact Nat.le_of_ble_eq_true rfl | (show _ ≤ (129 : Nat); omega))⟩) hP hD hS hA [0, 1] [2, 3, 4] rfl rfl rfl (by decide) (fun y2 u_6 H locs hy2 hP hD hS => ?_)
          have hP : va_P G.1 vwCl [(ra, zaI (G.2 1) ((R).toNat) (h)), (a, .inr (12, [.int (iz (sg)), .ref b])), (b, zaI (G.2 1) N (f)), (a2, .inr (12, [.int (iz (sg2)), .ref b2])), (b2, zaI (G.2 1) N2 (f2))] H := hP
          have hD : va_D A [(ra, zaI (G.2 1) ((R).toNat) (h)), (a, .inr (12, [.int (iz (sg)), .ref b])), (b, zaI (G.2 1) N (f)), (a2, .inr (12, [.int (iz (sg2)), .ref b2])), (b2, zaI (G.2 1) N2 (f2))] := hD
          have hy2 : y2 = tx f2 N2 i := hy2
          have d2 := tx_dig h2.dig i (by omega)
          refine zr_ineg hx hb dX11_joined_56 ?_
          refine zr_iadd hx hb dX11_joined_57 ?_
          refine lv_iload hx hb dX11_joined_58 (lv_at hl 1 rfl) ?_
          refine zr_iadd hx hb dX11_joined_60 ?_
          refine zr_namei (fun w ew => ?_)
          refine lv_istore (lv' := [(6, .int (iz (w))), (5, .int (iz (i))), (4, .int (iz (q))), (3, .ref ra), (0, .ref a), (1, .ref a2), (2, .int (iz (0)))]) hx hb dX11_joined_61 hl (by decide) rfl (fun ls hl => ?_)
          refine lv_iload hx hb dX11_joined_63 (lv_at hl 0 rfl) ?_
          refine zr_if_ge (x := w) (tgt := 72) hx hb (⟨by omega, by omega⟩) dX11_joined_65 (by decide) (fun h_8 => ?_) (fun h_8 => ?_)
          ·
            refine lv_iload hx hb dX11_joined_72 (lv_at hl 0 rfl) ?_
            refine lv_sipush (v := iz (10000)) hx hb dX11_joined_74 rfl ?_
            refine zr_idiv hx hb (x := w) (y := 10000) ⟨by omega, by omega⟩ ⟨by omega, by omega⟩ (by omega) (by omega) dX11_joined_77 ?_
            refine lv_istore (lv' := [(4, .int (iz (w / 10000))), (6, .int (iz (w))), (5, .int (iz (i))), (3, .ref ra), (0, .ref a), (1, .ref a2), (2, .int (iz (0)))]) hx hb dX11_joined_78 hl (by decide) rfl (fun ls hl => ?_)
            refine lv_aload_n hx hb dX11_joined_80 rfl (lv_at hl 3 rfl) ?_
            refine lv_iload hx hb dX11_joined_81 (lv_at hl 2 rfl) ?_
            refine lv_iload hx hb dX11_joined_83 (lv_at hl 1 rfl) ?_
            refine lv_iload hx hb dX11_joined_85 (lv_at hl 0 rfl) ?_
            refine lv_sipush (v := iz (10000)) hx hb dX11_joined_87 rfl ?_
            refine zr_imul hx hb dX11_joined_90 ?_
            refine zr_isub hx hb dX11_joined_91 ?_
            refine zr_iast hx hb hK hP hD hS 0 1 rfl rfl (i := i) (x := w - ((w / 10000) * 10000)) (⟨by omega, by omega, by omega⟩) dX11_joined_92 (fun H locs hP hD hS => ?_)
            have hP : va_P G.1 vwCl [(ra, zaI (G.2 1) ((R).toNat) (zup h i (w - ((w / 10000) * 10000)))), (a, .inr (12, [.int (iz (sg)), .ref b])), (b, zaI (G.2 1) N (f)), (a2, .inr (12, [.int (iz (sg2)), .ref b2])), (b2, zaI (G.2 1) N2 (f2))] H := hP
            have hD : va_D A [(ra, zaI (G.2 1) ((R).toNat) (zup h i (w - ((w / 10000) * 10000)))), (a, .inr (12, [.int (iz (sg)), .ref b])), (b, zaI (G.2 1) N (f)), (a2, .inr (12, [.int (iz (sg2)), .ref b2])), (b2, zaI (G.2 1) N2 (f2))] := hD
            refine lv_iinc (v := iz (i + 1)) (lv' := [(5, .int (iz (i + 1))), (4, .int (iz (w / 10000))), (6, .int (iz (w))), (3, .ref ra), (0, .ref a), (1, .ref a2), (2, .int (iz (0)))]) hx hb dX11_joined_93 hl (k := 2) rfl (by rw [show Int32.ofInt (1) = iz (1) from rfl, iz_add]) (by decide) rfl (fun ls hl => ?_)
            refine lv_goto (tgt := 24) hx hb dX11_joined_96 (by decide) ?_
            refine W.widen (k := 0 + 1) (n := 0 + ((R).toNat)) (by omega) (by omega) ?_
            exact ih_24 (i + 1) (w / 10000) (zup h i (w - ((w / 10000) * 10000))) _ _ _ (by omega) (by omega) (tdig_up k2 (by omega)) (tsub_step (by omega) k3 (by omega)) (by omega) (hP.sub [1, 2, 3, 4, 0] rfl) (hD.sub [1, 2, 3, 4, 0] (by decide) rfl) hS (lv_sub hl [0, 1, 3, 4, 5, 6] rfl)
          ·
            refine lv_iconst (v := iz (-1)) hx hb dX11_joined_68 rfl ?_
            refine lv_goto (tgt := 78) hx hb dX11_joined_69 (by decide) ?_
            refine lv_istore (lv' := [(4, .int (iz (-1))), (6, .int (iz (w))), (5, .int (iz (i))), (3, .ref ra), (0, .ref a), (1, .ref a2), (2, .int (iz (0)))]) hx hb dX11_joined_78 hl (by decide) rfl (fun ls hl => ?_)
            refine lv_aload_n hx hb dX11_joined_80 rfl (lv_at hl 3 rfl) ?_
            refine lv_iload hx hb dX11_joined_81 (lv_at hl 2 rfl) ?_
            refine lv_iload hx hb dX11_joined_83 (lv_at hl 1 rfl) ?_
            refine lv_iload hx hb dX11_joined_85 (lv_at hl 0 rfl) ?_
            refine lv_sipush (v := iz (10000)) hx hb dX11_joined_87 rfl ?_
            refine zr_imul hx hb dX11_joined_90 ?_
            refine zr_isub hx hb dX11_joined_91 ?_
            refine zr_iast hx hb hK hP hD hS 0 1 rfl rfl (i := i) (x := w - ((-1) * 10000)) (⟨by omega, by omega, by omega⟩) dX11_joined_92 (fun H locs hP hD hS => ?_)
            have hP : va_P G.1 vwCl [(ra, zaI (G.2 1) ((R).toNat) (zup h i (w - ((-1) * 10000)))), (a, .inr (12, [.int (iz (sg)), .ref b])), (b, zaI (G.2 1) N (f)), (a2, .inr (12, [.int (iz (sg2)), .ref b2])), (b2, zaI (G.2 1) N2 (f2))] H := hP
            have hD : va_D A [(ra, zaI (G.2 1) ((R).toNat) (zup h i (w - ((-1) * 10000)))), (a, .inr (12, [.int (iz (sg)), .ref b])), (b, zaI (G.2 1) N (f)), (a2, .inr (12, [.int (iz (sg2)), .ref b2])), (b2, zaI (G.2 1) N2 (f2))] := hD
            refine lv_iinc (v := iz (i + 1)) (lv' := [(5, .int (iz (i + 1))), (4, .int (iz (-1))), (6, .int (iz (w))), (3, .ref ra), (0, .ref a), (1, .ref a2), (2, .int (iz (0)))]) hx hb dX11_joined_93 hl (k := 2) rfl (by rw [show Int32.ofInt (1) = iz (1) from rfl, iz_add]) (by decide) rfl (fun ls hl => ?_)
            refine lv_goto (tgt := 24) hx hb dX11_joined_96 (by decide) ?_
            refine W.widen (k := 0 + 1) (n := 0 + ((R).toNat)) (by omega) (by omega) ?_
            exact ih_24 (i + 1) (-1) (zup h i (w - ((-1) * 10000))) _ _ _ (by omega) (by omega) (tdig_up k2 (by omega)) (tsub_step (by omega) k3 (by omega)) (by omega) (hP.sub [1, 2, 3, 4, 0] rfl) (hD.sub [1, 2, 3, 4, 0] (by decide) rfl) hS (lv_sub hl [0, 1, 3, 4, 5, 6] rfl)
        · exact absurd h_5 (by omega)
  exact hl_24 ((R - 0 : Int).toNat + 1) 0 0 (fun _ => 0) _ _ _ (Nat.lt_succ_self _) (by omega) (fun k a b => absurd b (by omega)) (by simp [tsum]) (by omega) (hP) (hD) hS (hl)

def rm_c_X11_joined_a : Room := { frames := 1, cells := 1, slots := 129, locals := 21 }
set_option maxHeartbeats 1000000 in
set_option maxRecDepth 100000 in
theorem c_X11_joined_a (l : Launch) (G : zG) (a : Nat) (b : Nat) (f : Int → Int) (N : Nat) (sg : Int) (v : Int) (h1 : tmw f N sg v) : zM l G yX11_joined wsX11_joined rm_c_X11_joined_a [.ref a, .ref a, .int (iz (1))] [(a, .inr (12, [.int (iz (sg)), .ref b])), (b, zaI (G.2 1) N (f))] (fun A => zQr G (fun (u : ((Int → Int) × Nat)) (ra : Nat) => tdig u.1 u.2 ∧ tsum u.1 u.2 = tsum f N + tsum f N ∧ u.2 ≤ 129) (fun (u : ((Int → Int) × Nat)) (ra : Nat) => [(a, .inr (12, [.int (iz (sg)), .ref b])), (b, zaI (G.2 1) N (f)), (ra, zaI (G.2 1) u.2 (u.1))]) A) 1 129 := by
  refine zM_of (cc := cX11_joined) (maxL := 7) (ret := (some (.array .int))) (by decide) rfl (Nat.le_of_ble_eq_true rfl) ?_
  intro p e s m below meth c ls A Q hQ hx hb hr hts hown hlocks hml hnm hKX hP hD hA hS hl
  have hK := hKX.1
  have iwX11 := iw_X11_joined_X11
  obtain ⟨H, hH⟩ : ∃ h, h = s.heap := ⟨_, rfl⟩
  obtain ⟨locs, hlo⟩ : ∃ h : List Loc, h = [] := ⟨_, rfl⟩
  have hS : va_S A s.heap H locs := by rw [hH, hlo]; exact hS
  have hP : va_P G.1 vwCl [(a, .inr (12, [.int (iz (sg)), .ref b])), (b, zaI (G.2 1) N (f))] H := by rw [hH]; exact hP
  have hD : va_D A [(a, .inr (12, [.int (iz (sg)), .ref b])), (b, zaI (G.2 1) N (f))] := hD
  have hl : lv_has ls 7 [(0, .ref a), (1, .ref a), (2, .int (iz (1)))] := hl
  rw [← hH, ← hlo]
  have n1 := h1.n
  have n2 := h1.n
  refine lv_aload_n hx hb dX11_joined_0 rfl (lv_at hl 0 rfl) ?_
  refine va_get (D := G.1) (ci := 12) (v := .ref b) (C := RX11) (T := TX11) (N := 2) hx hb hts iwX11 hown hK hP 0 rfl rfl 1 (by decide) (hts (.fieldLink RX11 13 "AnnuityHouseModel$Whole" "limbs" "[I") (by decide +kernel)) (fun _ h9 => h9) rfl dX11_joined_1 ?_
  refine zr_alenI hx hb hK hP 1 1 rfl rfl dX11_joined_4 ?_
  refine lv_aload_n hx hb dX11_joined_5 rfl (lv_at hl 1 rfl) ?_
  refine va_get (D := G.1) (ci := 12) (v := .ref b) (C := RX11) (T := TX11) (N := 2) hx hb hts iwX11 hown hK hP 0 rfl rfl 1 (by decide) (hts (.fieldLink RX11 13 "AnnuityHouseModel$Whole" "limbs" "[I") (by decide +kernel)) (fun _ h9 => h9) rfl dX11_joined_6 ?_
  refine zr_alenI hx hb hK hP 1 1 rfl rfl dX11_joined_9 ?_
  refine zr_mmax (x := N) (y := N) hx hb (hml.trans hl.1.symm) hown (hts (.methodLink RX11 32 Lib.Math.max.name) (by decide +kernel)) (hts (.static Lib.Math.max.name) (by decide +kernel)) (hts (.initialized "java/lang/Math") (by decide +kernel)) (hts (.code Lib.Math.max.name Lib.Math.max.code 2 (some .int)) (by decide +kernel)) (Nat.le_of_ble_eq_true rfl) (Nat.le_of_ble_eq_true rfl) (by first | exact Nat.le_of_ble_eq_true rfl | (show _ ≤ (1 : Nat); omega)) (by first | exact Nat.le_of_ble_eq_true rfl | (show _ ≤ (129 : Nat); omega)) (⟨by omega, by omega⟩) (⟨by omega, by omega⟩) dX11_joined_10 ?_
  refine lv_iconst (v := iz (1)) hx hb dX11_joined_13 rfl ?_
  refine zr_iadd hx hb dX11_joined_14 ?_
  refine zr_namei (fun R eR => ?_)
  refine zr_newaI (G := G) (n := R) (N := (R).toNat) hx hb (hts (.arrayClass .int) (by decide +kernel)) hK hP hD hS hA (by omega) (by omega) (by omega) (by first | exact Nat.le_of_ble_eq_true rfl | (show _ ≤ (1 : Nat); omega)) (by first | exact Nat.le_of_ble_eq_true rfl | (show _ ≤ (129 : Nat); omega)) dX11_joined_15 (fun ra H hP hD hS => ?_)
  have hP : va_P G.1 vwCl [(a, .inr (12, [.int (iz (sg)), .ref b])), (b, zaI (G.2 1) N (f)), (ra, zaI (G.2 1) ((R).toNat) (fun _ => 0))] H := hP
  have hD : va_D A [(a, .inr (12, [.int (iz (sg)), .ref b])), (b, zaI (G.2 1) N (f)), (ra, zaI (G.2 1) ((R).toNat) (fun _ => 0))] := hD
  refine lv_astore_n (lv' := [(3, .ref ra), (0, .ref a), (1, .ref a), (2, .int (iz (1)))]) hx hb dX11_joined_17 rfl hl (by decide) rfl (fun ls hl => ?_)
  refine lv_iconst (v := iz (0)) hx hb dX11_joined_18 rfl ?_
  refine lv_istore (lv' := [(4, .int (iz (0))), (3, .ref ra), (0, .ref a), (1, .ref a), (2, .int (iz (1)))]) hx hb dX11_joined_19 hl (by decide) rfl (fun ls hl => ?_)
  refine lv_iconst (v := iz (0)) hx hb dX11_joined_21 rfl ?_
  refine lv_istore (lv' := [(5, .int (iz (0))), (4, .int (iz (0))), (3, .ref ra), (0, .ref a), (1, .ref a), (2, .int (iz (1)))]) hx hb dX11_joined_22 hl (by decide) rfl (fun ls hl => ?_)
  have hl_24 : ∀ (zn_24 : Nat) (i : Int) (q : Int) (h : Int → Int) (H : Heap) (locs : List Loc) (ls : Array Slot), (R - i).toNat < zn_24 → (0 ≤ i ∧ i ≤ R) → (tdig h i) → (tsum h i.toNat + q * 10000 ^ i.toNat = tsum (tx f N) i.toNat + tsum (tx f N) i.toNat) → (0 ≤ q ∧ q ≤ 1) → va_P G.1 vwCl [(a, .inr (12, [.int (iz (sg)), .ref b])), (b, zaI (G.2 1) N (f)), (ra, zaI (G.2 1) ((R).toNat) (h))] H → va_D A [(a, .inr (12, [.int (iz (sg)), .ref b])), (b, zaI (G.2 1) N (f)), (ra, zaI (G.2 1) ((R).toNat) (h))] → va_S A s.heap H locs → lv_has ls 7 [(5, .int (iz (i))), (4, .int (iz (q))), (3, .ref ra), (0, .ref a), (1, .ref a), (2, .int (iz (1)))] → W p l e rm_c_X11_joined_a s m ([.ref a, .ref a, .int (iz (1))] : List Value).toArray below meth c H locs (0 + 1) (0 + ((R).toNat)) Q (F0 m 24 ls []) := by
    intro zn_24
    induction zn_24 with
    | zero => intro i q h H locs ls hm; exact absurd hm (Nat.not_lt_zero _)
    | succ zn_24 ih_24 =>
      intro i q h H locs ls hm_24 k1 k2 k3 k4 hP hD hS hl
      refine lv_iload hx hb dX11_joined_24 (lv_at hl 0 rfl) ?_
      refine lv_aload_n hx hb dX11_joined_26 rfl (lv_at hl 2 rfl) ?_
      refine zr_alenI hx hb hK hP 2 1 rfl rfl dX11_joined_27 ?_
      refine zr_icmp_ge (x := i) (y := (R).toNat) (tgt := 99) hx hb (⟨by omega, by omega⟩) (⟨by omega, by omega⟩) dX11_joined_28 (by decide) (fun h_2 => ?_) (fun h_2 => ?_)
      ·
        refine lv_aload_n hx hb dX11_joined_99 rfl (lv_at hl 2 rfl) ?_
        have hend := tadd_end h1 h1 eR (by omega) k2 k4.1 k3
        rw [hQ]
        exact zr_aret (ra := ra) (Or.inr ⟨_, rfl⟩) (u := (h, R.toNat)) hx hb hr hlocks hP hD hS (by first | exact Nat.le_of_ble_eq_true rfl | omega) (by first | exact Nat.le_of_ble_eq_true rfl | omega) dX11_joined_100 (show tdig h ((R).toNat) ∧ tsum h ((R).toNat) = tsum f N + tsum f N ∧ ((R).toNat) ≤ 129 from ⟨hend.1, hend.2, by omega⟩)
      ·
        refine lv_aload_n hx hb dX11_joined_31 rfl (lv_at hl 3 rfl) ?_
        refine lv_iload hx hb dX11_joined_32 (lv_at hl 0 rfl) ?_
        refine zc_i (wr := [(ra, zaI (G.2 1) ((R).toNat) (h))]) (va_runV (As := [.int (iz (i))]) (rest := []) ⟨hx, hb, hml, hown, hts⟩ (c_X11_limb l G a b f N sg v i (h1) (by omega) H.size) (cwV 1 hts gX11_joined_X11_limb rfl rfl rfl (by decide +kernel) ⟨Nat.le_of_ble_eq_true rfl, Nat.le_of_ble_eq_true rfl⟩) (zpV hKX hP hD [0, 1] rfl rfl 0 12 rfl rfl) rfl rfl hl.1 rfl (lv_room (Nat.le_of_ble_eq_true rfl)) dX11_joined_34 ⟨(by first | exact Nat.le_of_ble_eq_true rfl | (show _ ≤ (1 : Nat); omega)), (by first | exact Nat.le_of_ble_eq_true rfl | (show _ ≤ (129 : Nat); omega))⟩) hP hD hS hA [0, 1] [2] rfl rfl rfl (by decide) (fun y1 u_3 H locs hy1 hP hD hS => ?_)
        have hP : va_P G.1 vwCl [(ra, zaI (G.2 1) ((R).toNat) (h)), (a, .inr (12, [.int (iz (sg)), .ref b])), (b, zaI (G.2 1) N (f))] H := hP
        have hD : va_D A [(ra, zaI (G.2 1) ((R).toNat) (h)), (a, .inr (12, [.int (iz (sg)), .ref b])), (b, zaI (G.2 1) N (f))] := hD
        have hy1 : y1 = tx f N i := hy1
        have d1 := tx_dig h1.dig i (by omega)
        refine lv_iload_n hx hb dX11_joined_37 rfl (lv_at hl 5 rfl) ?_
        refine zr_if_eq (x := 1) (tgt := 50) hx hb (⟨by omega, by omega⟩) dX11_joined_38 (by decide) (fun h_5 => ?_) (fun h_5 => ?_)
        · exact absurd h_5 (by omega)
        ·
          refine lv_aload_n hx hb dX11_joined_41 rfl (lv_at hl 4 rfl) ?_
          refine lv_iload hx hb dX11_joined_42 (lv_at hl 0 rfl) ?_
          refine zc_i (wr := [(ra, zaI (G.2 1) ((R).toNat) (h))]) (va_runV (As := [.int (iz (i))]) (rest := [.int (iz (y1))]) ⟨hx, hb, hml, hown, hts⟩ (c_X11_limb l G a b f N sg v i (h1) (by omega) H.size) (cwV 1 hts gX11_joined_X11_limb rfl rfl rfl (by decide +kernel) ⟨Nat.le_of_ble_eq_true rfl, Nat.le_of_ble_eq_true rfl⟩) (zpV hKX hP hD [1, 2] rfl rfl 1 12 rfl rfl) rfl rfl hl.1 rfl (lv_room (Nat.le_of_ble_eq_true rfl)) dX11_joined_44 ⟨(by first | exact Nat.le_of_ble_eq_true rfl | (show _ ≤ (1 : Nat); omega)), (by first | exact Nat.le_of_ble_eq_true rfl | (show _ ≤ (129 : Nat); omega))⟩) hP hD hS hA [1, 2] [0] rfl rfl rfl (by decide) (fun y2 u_6 H locs hy2 hP hD hS => ?_)
          have hP : va_P G.1 vwCl [(ra, zaI (G.2 1) ((R).toNat) (h)), (a, .inr (12, [.int (iz (sg)), .ref b])), (b, zaI (G.2 1) N (f))] H := hP
          have hD : va_D A [(ra, zaI (G.2 1) ((R).toNat) (h)), (a, .inr (12, [.int (iz (sg)), .ref b])), (b, zaI (G.2 1) N (f))] := hD
          have hy2 : y2 = tx f N i := hy2
          have d2 := tx_dig h1.dig i (by omega)
          refine lv_goto (tgt := 57) hx hb dX11_joined_47 (by decide) ?_
          refine zr_iadd hx hb dX11_joined_57 ?_
          refine lv_iload hx hb dX11_joined_58 (lv_at hl 1 rfl) ?_
          refine zr_iadd hx hb dX11_joined_60 ?_
          refine zr_namei (fun w ew => ?_)
          refine lv_istore (lv' := [(6, .int (iz (w))), (5, .int (iz (i))), (4, .int (iz (q))), (3, .ref ra), (0, .ref a), (1, .ref a), (2, .int (iz (1)))]) hx hb dX11_joined_61 hl (by decide) rfl (fun ls hl => ?_)
          refine lv_iload hx hb dX11_joined_63 (lv_at hl 0 rfl) ?_
          refine zr_if_ge (x := w) (tgt := 72) hx hb (⟨by omega, by omega⟩) dX11_joined_65 (by decide) (fun h_8 => ?_) (fun h_8 => ?_)
          ·
            refine lv_iload hx hb dX11_joined_72 (lv_at hl 0 rfl) ?_
            refine lv_sipush (v := iz (10000)) hx hb dX11_joined_74 rfl ?_
            refine zr_idiv hx hb (x := w) (y := 10000) ⟨by omega, by omega⟩ ⟨by omega, by omega⟩ (by omega) (by omega) dX11_joined_77 ?_
            refine lv_istore (lv' := [(4, .int (iz (w / 10000))), (6, .int (iz (w))), (5, .int (iz (i))), (3, .ref ra), (0, .ref a), (1, .ref a), (2, .int (iz (1)))]) hx hb dX11_joined_78 hl (by decide) rfl (fun ls hl => ?_)
            refine lv_aload_n hx hb dX11_joined_80 rfl (lv_at hl 3 rfl) ?_
            refine lv_iload hx hb dX11_joined_81 (lv_at hl 2 rfl) ?_
            refine lv_iload hx hb dX11_joined_83 (lv_at hl 1 rfl) ?_
            refine lv_iload hx hb dX11_joined_85 (lv_at hl 0 rfl) ?_
            refine lv_sipush (v := iz (10000)) hx hb dX11_joined_87 rfl ?_
            refine zr_imul hx hb dX11_joined_90 ?_
            refine zr_isub hx hb dX11_joined_91 ?_
            refine zr_iast hx hb hK hP hD hS 0 1 rfl rfl (i := i) (x := w - ((w / 10000) * 10000)) (⟨by omega, by omega, by omega⟩) dX11_joined_92 (fun H locs hP hD hS => ?_)
            have hP : va_P G.1 vwCl [(ra, zaI (G.2 1) ((R).toNat) (zup h i (w - ((w / 10000) * 10000)))), (a, .inr (12, [.int (iz (sg)), .ref b])), (b, zaI (G.2 1) N (f))] H := hP
            have hD : va_D A [(ra, zaI (G.2 1) ((R).toNat) (zup h i (w - ((w / 10000) * 10000)))), (a, .inr (12, [.int (iz (sg)), .ref b])), (b, zaI (G.2 1) N (f))] := hD
            refine lv_iinc (v := iz (i + 1)) (lv' := [(5, .int (iz (i + 1))), (4, .int (iz (w / 10000))), (6, .int (iz (w))), (3, .ref ra), (0, .ref a), (1, .ref a), (2, .int (iz (1)))]) hx hb dX11_joined_93 hl (k := 2) rfl (by rw [show Int32.ofInt (1) = iz (1) from rfl, iz_add]) (by decide) rfl (fun ls hl => ?_)
            refine lv_goto (tgt := 24) hx hb dX11_joined_96 (by decide) ?_
            refine W.widen (k := 0 + 1) (n := 0 + ((R).toNat)) (by omega) (by omega) ?_
            exact ih_24 (i + 1) (w / 10000) (zup h i (w - ((w / 10000) * 10000))) _ _ _ (by omega) (by omega) (tdig_up k2 (by omega)) (tadd_step (by omega) k3 (by omega)) (by omega) (hP.sub [1, 2, 0] rfl) (hD.sub [1, 2, 0] (by decide) rfl) hS (lv_sub hl [0, 1, 3, 4, 5, 6] rfl)
          · exact absurd h_8 (by omega)
  exact hl_24 ((R - 0 : Int).toNat + 1) 0 0 (fun _ => 0) _ _ _ (Nat.lt_succ_self _) (by omega) (fun k a b => absurd b (by omega)) (by simp [tsum]) (by omega) (hP) (hD) hS (hl)
