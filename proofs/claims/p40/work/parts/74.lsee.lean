-- THE LAW: seed over the script, isTaxed with what it leaves (laid by wip/p40/yse.py)
-- THE SCRIPT AS SURROUNDINGS
def zSC (b L : Nat) (xs : Nat → Int32) (A : Nat → Prop) (U : State) : Prop := va_X b L xs U U.heap ∧ ¬ A b
theorem zSC_b {b L : Nat} {xs : Nat → Int32} {U : State} {H : Heap} (h : va_X b L xs U H) : b < H.size := by
  obtain ⟨scr, h1, -⟩ := h
  exact (Array.getElem?_eq_some_iff.mp h1).1
theorem zSC_ok {b L : Nat} {xs : Nat → Int32} : zOK (zSC b L xs) := fun A B s U h hAB hH hW => ⟨(va_X.kept h.1 (hH b (zSC_b h.1) h.2)).moved hW.alike, fun q => h.2 (hAB b q)⟩
def rm_c_L_seedS : Room := { frames := 0, cells := 1, slots := 2, locals := 0 }
set_option maxHeartbeats 1000000 in
set_option maxRecDepth 100000 in
theorem c_L_seedS (l : Launch) (G : zG) (sb : Nat) (L9 : Nat) (xs9 : Nat → Int32) (h1 : L9 ≤ 260) : zMe l (zSC sb L9 xs9) G yL_seed wsL_seed rm_c_L_seedS [.ref sb] [] (fun A => zQr G (fun (g2 : (Int → Int)) (ra : Nat) => True) (fun (g2 : (Int → Int)) (ra : Nat) => [(ra, zaI (G.2 1) 2 (g2))]) A) 1 2 := by
  refine zMe_of (cc := cL_seed) (maxL := 3) (ret := (some (.array .int))) (by decide) rfl (Nat.le_of_ble_eq_true rfl) ?_
  intro p e s m below meth c ls A Q hQ hx hb hr hts hown hlocks hml hnm hKX hE hP hD hA hS hl
  have hK := hKX.1
  obtain ⟨H, hH⟩ : ∃ h, h = s.heap := ⟨_, rfl⟩
  obtain ⟨locs, hlo⟩ : ∃ h : List Loc, h = [] := ⟨_, rfl⟩
  have hS : va_S A s.heap H locs := by rw [hH, hlo]; exact hS
  have hP : va_P G.1 vwCl [] H := by rw [hH]; exact hP
  have hD : va_D A [] := hD
  have hl : lv_has ls 3 [(0, .ref sb)] := hl
  rw [← hH, ← hlo]
  have hX := hE.1
  have hbA := hE.2
  have hbl := zSC_b hX
  refine lv_iconst (v := iz (2)) hx hb dL_seed_0 rfl ?_
  refine zr_newaI (G := G) (n := 2) (N := 2) hx hb (hts (.arrayClass .int) (by decide +kernel)) hK hP hD hS hA (by omega) (by omega) (by omega) (by first | exact Nat.le_of_ble_eq_true rfl | (show _ ≤ (1 : Nat); omega)) (by first | exact Nat.le_of_ble_eq_true rfl | (show _ ≤ (2 : Nat); omega)) dL_seed_1 (fun ra H hP hD hS => ?_)
  have hP : va_P G.1 vwCl [(ra, zaI (G.2 1) 2 (fun _ => 0))] H := hP
  have hD : va_D A [(ra, zaI (G.2 1) 2 (fun _ => 0))] := hD
  refine lv_dup hx hb dL_seed_3 rfl ?_
  refine lv_iconst (v := iz (0)) hx hb dL_seed_4 rfl ?_
  refine lv_aload_n hx hb dL_seed_5 rfl (lv_at hl 0 rfl) ?_
  refine va_slen hx hb hX hbl hbA hS dL_seed_6 ?_
  rw [show Int32.ofNat L9 = iz ((L9 : Nat) : Int) from rfl]
  refine lv_sipush (v := iz (12345)) hx hb dL_seed_7 rfl ?_
  refine zr_iadd hx hb dL_seed_10 ?_
  refine zr_iast hx hb hK hP hD hS 0 1 rfl rfl (i := 0) (x := ((L9 : Nat) : Int) + 12345) (⟨by omega, by omega, by omega⟩) dL_seed_11 (fun H locs hP hD hS => ?_)
  have hP : va_P G.1 vwCl [(ra, zaI (G.2 1) 2 (zup (fun _ => 0) 0 (((L9 : Nat) : Int) + 12345)))] H := hP
  have hD : va_D A [(ra, zaI (G.2 1) 2 (zup (fun _ => 0) 0 (((L9 : Nat) : Int) + 12345)))] := hD
  refine lv_dup hx hb dL_seed_12 rfl ?_
  refine lv_iconst (v := iz (1)) hx hb dL_seed_13 rfl ?_
  refine zr_ldc (z := 987654321) hx hb hown (hts (.constant RL 9 (987654321)) (by decide +kernel)) rfl dL_seed_14 ?_
  refine zr_iast hx hb hK hP hD hS 0 1 rfl rfl (i := 1) (x := 987654321) (⟨by omega, by omega, by omega⟩) dL_seed_16 (fun H locs hP hD hS => ?_)
  have hP : va_P G.1 vwCl [(ra, zaI (G.2 1) 2 (zup (zup (fun _ => 0) 0 (((L9 : Nat) : Int) + 12345)) 1 987654321))] H := hP
  have hD : va_D A [(ra, zaI (G.2 1) 2 (zup (zup (fun _ => 0) 0 (((L9 : Nat) : Int) + 12345)) 1 987654321))] := hD
  refine lv_astore_n (lv' := [(1, .ref ra), (0, .ref sb)]) hx hb dL_seed_17 rfl hl (by decide) rfl (fun ls hl => ?_)
  refine lv_iconst (v := iz (0)) hx hb dL_seed_18 rfl ?_
  refine lv_istore_n (lv' := [(2, .int (iz (0))), (1, .ref ra), (0, .ref sb)]) hx hb dL_seed_19 rfl hl (by decide) rfl (fun ls hl => ?_)
  have hl_20 : ∀ (zn_20 : Nat) (k : Int) (g1 : Int → Int) (H : Heap) (locs : List Loc) (ls : Array Slot), (((L9 : Nat) : Int) - k).toNat < zn_20 → (0 ≤ k ∧ k ≤ ((L9 : Nat) : Int)) → va_P G.1 vwCl [(ra, zaI (G.2 1) 2 (g1))] H → va_D A [(ra, zaI (G.2 1) 2 (g1))] → va_S A s.heap H locs → lv_has ls 3 [(2, .int (iz (k))), (1, .ref ra), (0, .ref sb)] → W p l e rm_c_L_seedS s m ([.ref sb] : List Value).toArray below meth c H locs (0 + 1) (0 + 2) Q (F0 m 20 ls []) := by
    intro zn_20
    induction zn_20 with
    | zero => intro k g1 H locs ls hm; exact absurd hm (Nat.not_lt_zero _)
    | succ zn_20 ih_20 =>
      intro k g1 H locs ls hm_20 k1 hP hD hS hl
      refine lv_iload_n hx hb dL_seed_20 rfl (lv_at hl 0 rfl) ?_
      refine lv_aload_n hx hb dL_seed_21 rfl (lv_at hl 2 rfl) ?_
      refine va_slen hx hb hX hbl hbA hS dL_seed_22 ?_
      rw [show Int32.ofNat L9 = iz ((L9 : Nat) : Int) from rfl]
      refine zr_icmp_ge (x := k) (y := ((L9 : Nat) : Int)) (tgt := 67) hx hb (⟨by omega, by omega⟩) (⟨by omega, by omega⟩) dL_seed_23 (by decide) (fun h_2 => ?_) (fun h_2 => ?_)
      ·
        refine lv_aload_n hx hb dL_seed_67 rfl (lv_at hl 1 rfl) ?_
        rw [hQ]
        exact zr_aret (ra := ra) (Or.inr ⟨_, rfl⟩) (u := (g1)) hx hb hr hlocks hP hD hS (by first | exact Nat.le_of_ble_eq_true rfl | omega) (by first | exact Nat.le_of_ble_eq_true rfl | omega) dL_seed_68 (show True from trivial)
      ·
        refine lv_aload_n hx hb dL_seed_26 rfl (lv_at hl 1 rfl) ?_
        refine lv_iconst (v := iz (0)) hx hb dL_seed_27 rfl ?_
        refine lv_aload_n hx hb dL_seed_28 rfl (lv_at hl 1 rfl) ?_
        refine lv_iconst (v := iz (0)) hx hb dL_seed_29 rfl ?_
        refine zr_iald hx hb hK hP 0 1 rfl rfl (i := 0) (⟨by omega, by omega, by omega⟩) dL_seed_30 ?_
        refine lv_aload_n hx hb dL_seed_31 rfl (lv_at hl 2 rfl) ?_
        refine lv_iload_n hx hb dL_seed_32 rfl (lv_at hl 0 rfl) ?_
        refine va_sld hx hb hX hbl hbA hS (iz_in (a := k) (by omega) (by omega) (by omega)) dL_seed_33 ?_
        rw [iz_of (xs9 (iz (k)).toNatClampNeg)]
        generalize (xs9 (iz (k)).toNatClampNeg).toInt = xv_3
        refine zr_ixorG hx hb dL_seed_34 (fun xr_4 hxr_4 => ?_)
        refine zr_ldc (z := 16777619) hx hb hown (hts (.constant RL 10 (16777619)) (by decide +kernel)) rfl dL_seed_35 ?_
        refine zr_imul hx hb dL_seed_37 ?_
        refine lv_iload_n hx hb dL_seed_38 rfl (lv_at hl 0 rfl) ?_
        refine zr_iadd hx hb dL_seed_39 ?_
        refine zr_iast hx hb hK hP hD hS 0 1 rfl rfl (i := 0) (x := (xr_4 * 16777619) + k) (⟨by omega, by omega, by omega⟩) dL_seed_40 (fun H locs hP hD hS => ?_)
        have hP : va_P G.1 vwCl [(ra, zaI (G.2 1) 2 (zup g1 0 ((xr_4 * 16777619) + k)))] H := hP
        have hD : va_D A [(ra, zaI (G.2 1) 2 (zup g1 0 ((xr_4 * 16777619) + k)))] := hD
        refine lv_aload_n hx hb dL_seed_41 rfl (lv_at hl 1 rfl) ?_
        refine lv_iconst (v := iz (1)) hx hb dL_seed_42 rfl ?_
        refine lv_aload_n hx hb dL_seed_43 rfl (lv_at hl 1 rfl) ?_
        refine lv_iconst (v := iz (1)) hx hb dL_seed_44 rfl ?_
        refine zr_iald hx hb hK hP 0 1 rfl rfl (i := 1) (⟨by omega, by omega, by omega⟩) dL_seed_45 ?_
        refine lv_aload_n hx hb dL_seed_46 rfl (lv_at hl 2 rfl) ?_
        refine lv_iload_n hx hb dL_seed_47 rfl (lv_at hl 0 rfl) ?_
        refine va_sld hx hb hX hbl hbA hS (iz_in (a := k) (by omega) (by omega) (by omega)) dL_seed_48 ?_
        rw [iz_of (xs9 (iz (k)).toNatClampNeg)]
        generalize (xs9 (iz (k)).toNatClampNeg).toInt = xv_5
        refine zr_iadd hx hb dL_seed_49 ?_
        refine zr_ldc (z := 1103515245) hx hb hown (hts (.constant RL 11 (1103515245)) (by decide +kernel)) rfl dL_seed_50 ?_
        refine zr_imul hx hb dL_seed_52 ?_
        refine lv_aload_n hx hb dL_seed_53 rfl (lv_at hl 1 rfl) ?_
        refine lv_iconst (v := iz (0)) hx hb dL_seed_54 rfl ?_
        refine zr_iald hx hb hK hP 0 1 rfl rfl (i := 0) (⟨by omega, by omega, by omega⟩) dL_seed_55 ?_
        refine lv_bipush (v := iz (7)) hx hb dL_seed_56 rfl ?_
        refine zr_iushrG hx hb dL_seed_58 (fun sr_6 hsr_6 => ?_)
        refine zr_iadd hx hb dL_seed_59 ?_
        refine zr_iast hx hb hK hP hD hS 0 1 rfl rfl (i := 1) (x := ((((zup g1 0 ((xr_4 * 16777619) + k)) 1) + xv_5) * 1103515245) + sr_6) (⟨by omega, by omega, by omega⟩) dL_seed_60 (fun H locs hP hD hS => ?_)
        have hP : va_P G.1 vwCl [(ra, zaI (G.2 1) 2 (zup (zup g1 0 ((xr_4 * 16777619) + k)) 1 (((((zup g1 0 ((xr_4 * 16777619) + k)) 1) + xv_5) * 1103515245) + sr_6)))] H := hP
        have hD : va_D A [(ra, zaI (G.2 1) 2 (zup (zup g1 0 ((xr_4 * 16777619) + k)) 1 (((((zup g1 0 ((xr_4 * 16777619) + k)) 1) + xv_5) * 1103515245) + sr_6)))] := hD
        refine lv_iinc (v := iz (k + 1)) (lv' := [(2, .int (iz (k + 1))), (1, .ref ra), (0, .ref sb)]) hx hb dL_seed_61 hl (k := 0) rfl (by rw [show Int32.ofInt (1) = iz (1) from rfl, iz_add]) (by decide) rfl (fun ls hl => ?_)
        refine lv_goto (tgt := 20) hx hb dL_seed_64 (by decide) ?_
        exact ih_20 (k + 1) (zup (zup g1 0 ((xr_4 * 16777619) + k)) 1 (((((zup g1 0 ((xr_4 * 16777619) + k)) 1) + xv_5) * 1103515245) + sr_6)) _ _ _ (by omega) (by omega) (hP) (hD) hS (hl)
  exact hl_20 ((((L9 : Nat) : Int) - 0 : Int).toNat + 1) 0 (zup (zup (fun _ => 0) 0 (((L9 : Nat) : Int) + 12345)) 1 987654321) _ _ _ (Nat.lt_succ_self _) (by omega) (hP) (hD) hS (hl)

def rm_c_L_isTaxed2 : Room := { frames := 11, cells := 58, slots := 408, locals := 213 }
set_option maxHeartbeats 1000000 in
set_option maxRecDepth 100000 in
theorem c_L_isTaxed2 (l : Launch) (G : zG) (s1 : Nat) (s2 : Nat) (s3 : Nat) (x : Nat) (ro : Nat) (rw : Nat) (bo : Nat) (li : Nat) (sh : Nat) (tx : Nat) (lo : Nat) (nl : Nat) (fm : Nat) (pm : Nat) (f : Int → Int) (pg : Int → Int) (n : Int) (md : Int) (rr : Nat) (g : Int → Int) (hl0 : l.stackTraces = false) (hmd : 0 ≤ md ∧ md ≤ 7) (hn0 : 0 ≤ n ∧ n ≤ 8) : zMe l (zXM s1 s2 s3) G yL_isTaxed wsL_isTaxed rm_c_L_isTaxed2 [.ref x, .ref rr] [(x, .inr (10, [.ref ro, .ref rw, .ref bo, .ref li, .ref sh, .ref tx, .ref lo, .ref nl])), (tx, .inr (8, [.ref fm, .ref pm, .int (iz (n))])), (fm, zaL (G.2 0) 8 (f)), (pm, zaI (G.2 1) 8 (pg)), (ro, .inr (5, [.int (iz (md))])), (rr, zaI (G.2 1) 2 (g))] (fun A => zQz G (fun (z : Bool) (u : (Int → Int) × (Int → Int) × Int × (Int → Int)) => z = true ∧ zstp u.1 u.2.1 u.2.2.1) (fun (u : (Int → Int) × (Int → Int) × Int × (Int → Int)) => [(x, .inr (10, [.ref ro, .ref rw, .ref bo, .ref li, .ref sh, .ref tx, .ref lo, .ref nl])), (tx, .inr (8, [.ref fm, .ref pm, .int (iz (u.2.2.1))])), (fm, zaL (G.2 0) 8 (u.1)), (pm, zaI (G.2 1) 8 (u.2.1)), (ro, .inr (5, [.int (iz (md))])), (rr, zaI (G.2 1) 2 (u.2.2.2))]) A) 58 408 := by
  refine zMe_of (cc := cL_isTaxed) (maxL := 14) (ret := (some .boolean)) (by decide) rfl (Nat.le_of_ble_eq_true rfl) ?_
  intro p e s m below meth c ls A Q hQ hx hb hr hts hown hlocks hml hnm hKX hE hP hD hA hS hl
  have hK := hKX.1
  obtain ⟨H, hH⟩ : ∃ h, h = s.heap := ⟨_, rfl⟩
  obtain ⟨locs, hlo⟩ : ∃ h : List Loc, h = [] := ⟨_, rfl⟩
  have hS : va_S A s.heap H locs := by rw [hH, hlo]; exact hS
  have hP : va_P G.1 vwCl [(x, .inr (10, [.ref ro, .ref rw, .ref bo, .ref li, .ref sh, .ref tx, .ref lo, .ref nl])), (tx, .inr (8, [.ref fm, .ref pm, .int (iz (n))])), (fm, zaL (G.2 0) 8 (f)), (pm, zaI (G.2 1) 8 (pg)), (ro, .inr (5, [.int (iz (md))])), (rr, zaI (G.2 1) 2 (g))] H := by rw [hH]; exact hP
  have hD : va_D A [(x, .inr (10, [.ref ro, .ref rw, .ref bo, .ref li, .ref sh, .ref tx, .ref lo, .ref nl])), (tx, .inr (8, [.ref fm, .ref pm, .int (iz (n))])), (fm, zaL (G.2 0) 8 (f)), (pm, zaI (G.2 1) 8 (pg)), (ro, .inr (5, [.int (iz (md))])), (rr, zaI (G.2 1) 2 (g))] := hD
  have hl : lv_has ls 14 [(0, .ref x), (1, .ref rr)] := hl
  rw [← hH, ← hlo]
  refine lv_aload_n hx hb dL_isTaxed_0 rfl (lv_at hl 0 rfl) ?_
  refine zc_i (wr := [(tx, .inr (8, [.ref fm, .ref pm, .int (iz (n))])), (fm, zaL (G.2 0) 8 (f)), (pm, zaI (G.2 1) 8 (pg)), (rr, zaI (G.2 1) 2 (g))]) (va_runV (As := []) (rest := []) ⟨hx, hb, hml, hown, hts⟩ (c_X9_mode l G x ro rw bo li sh tx lo nl md  H.size) (cwV 0 hts gL_isTaxed_X9_mode rfl rfl rfl (by decide +kernel) ⟨Nat.le_of_ble_eq_true rfl, Nat.le_of_ble_eq_true rfl⟩) (zpV hKX hP hD [0, 4] rfl rfl 0 10 rfl rfl) rfl rfl hl.1 rfl (lv_room (Nat.le_of_ble_eq_true rfl)) dL_isTaxed_1 ⟨(by first | exact Nat.le_of_ble_eq_true rfl | (show _ ≤ (58 : Nat); omega)), (by first | exact Nat.le_of_ble_eq_true rfl | (show _ ≤ (408 : Nat); omega))⟩) hP hD hS hA [0, 4] [1, 2, 3, 5] rfl rfl rfl (by decide) (fun m9 u_1 H locs hm9 hP hD hS => ?_)
  have hP : va_P G.1 vwCl [(tx, .inr (8, [.ref fm, .ref pm, .int (iz (n))])), (fm, zaL (G.2 0) 8 (f)), (pm, zaI (G.2 1) 8 (pg)), (rr, zaI (G.2 1) 2 (g)), (x, .inr (10, [.ref ro, .ref rw, .ref bo, .ref li, .ref sh, .ref tx, .ref lo, .ref nl])), (ro, .inr (5, [.int (iz (md))]))] H := hP
  have hD : va_D A [(tx, .inr (8, [.ref fm, .ref pm, .int (iz (n))])), (fm, zaL (G.2 0) 8 (f)), (pm, zaI (G.2 1) 8 (pg)), (rr, zaI (G.2 1) 2 (g)), (x, .inr (10, [.ref ro, .ref rw, .ref bo, .ref li, .ref sh, .ref tx, .ref lo, .ref nl])), (ro, .inr (5, [.int (iz (md))]))] := hD
  have hm9 : m9 = md := hm9
  refine lv_istore_n (lv' := [(2, .int (iz (m9))), (0, .ref x), (1, .ref rr)]) hx hb dL_isTaxed_4 rfl hl (by decide) rfl (fun ls hl => ?_)
  refine lv_aload_n hx hb dL_isTaxed_5 rfl (lv_at hl 1 rfl) ?_
  refine zc_i (wr := [(fm, zaL (G.2 0) 8 (f)), (pm, zaI (G.2 1) 8 (pg)), (rr, zaI (G.2 1) 2 (g)), (ro, .inr (5, [.int (iz (md))]))]) (va_runV (As := []) (rest := []) ⟨hx, hb, hml, hown, hts⟩ (c_X9_clearSteps l G x ro rw bo li sh tx lo nl fm pm n  H.size) (cwV 0 hts gL_isTaxed_X9_clearSteps rfl rfl rfl (by decide +kernel) ⟨Nat.le_of_ble_eq_true rfl, Nat.le_of_ble_eq_true rfl⟩) (zpV hKX hP hD [4, 0] rfl rfl 4 10 rfl rfl) rfl rfl hl.1 rfl (lv_room (Nat.le_of_ble_eq_true rfl)) dL_isTaxed_6 ⟨(by first | exact Nat.le_of_ble_eq_true rfl | (show _ ≤ (58 : Nat); omega)), (by first | exact Nat.le_of_ble_eq_true rfl | (show _ ≤ (408 : Nat); omega))⟩) hP hD hS hA [4, 0] [1, 2, 3, 5] rfl rfl rfl (by decide) (fun z6 u_3 H locs h6 hP hD hS => ?_)
  have hP : va_P G.1 vwCl [(fm, zaL (G.2 0) 8 (f)), (pm, zaI (G.2 1) 8 (pg)), (rr, zaI (G.2 1) 2 (g)), (ro, .inr (5, [.int (iz (md))])), (x, .inr (10, [.ref ro, .ref rw, .ref bo, .ref li, .ref sh, .ref tx, .ref lo, .ref nl])), (tx, .inr (8, [.ref fm, .ref pm, .int (iz (0))]))] H := hP
  have hD : va_D A [(fm, zaL (G.2 0) 8 (f)), (pm, zaI (G.2 1) 8 (pg)), (rr, zaI (G.2 1) 2 (g)), (ro, .inr (5, [.int (iz (md))])), (x, .inr (10, [.ref ro, .ref rw, .ref bo, .ref li, .ref sh, .ref tx, .ref lo, .ref nl])), (tx, .inr (8, [.ref fm, .ref pm, .int (iz (0))]))] := hD
  have h6 : z6 = n := h6
  refine lv_istore_n (lv' := [(3, .int (iz (z6))), (2, .int (iz (m9))), (0, .ref x), (1, .ref rr)]) hx hb dL_isTaxed_9 rfl hl (by decide) rfl (fun ls hl => ?_)
  refine lv_aload_n hx hb dL_isTaxed_10 rfl (lv_at hl 3 rfl) ?_
  refine lv_bipush (v := iz (9)) hx hb dL_isTaxed_11 rfl ?_
  refine zc_i (wr := [(fm, zaL (G.2 0) 8 (f)), (pm, zaI (G.2 1) 8 (pg)), (ro, .inr (5, [.int (iz (md))])), (x, .inr (10, [.ref ro, .ref rw, .ref bo, .ref li, .ref sh, .ref tx, .ref lo, .ref nl])), (tx, .inr (8, [.ref fm, .ref pm, .int (iz (0))]))]) (va_runS (As := [.ref rr, .int (iz (9))]) (rest := []) ⟨hx, hb, hml, hown, hts⟩ (c_L_draw l G rr g 9 (by omega) H.size) (va_cwS 2 hts gL_isTaxed_L_draw rfl rfl rfl (by decide +kernel) ⟨Nat.le_of_ble_eq_true rfl, Nat.le_of_ble_eq_true rfl⟩) (zpS hKX hP hD [2] rfl rfl) rfl rfl hl.1 rfl (lv_room (Nat.le_of_ble_eq_true rfl)) dL_isTaxed_13 ⟨(by first | exact Nat.le_of_ble_eq_true rfl | (show _ ≤ (58 : Nat); omega)), (by first | exact Nat.le_of_ble_eq_true rfl | (show _ ≤ (408 : Nat); omega))⟩) hP hD hS hA [2] [0, 1, 3, 4, 5] rfl rfl rfl (by decide) (fun z_mn u_5 H locs h_mn hP hD hS => ?_)
  generalize u_5 = g_mn at hP hD h_mn
  have hP : va_P G.1 vwCl [(fm, zaL (G.2 0) 8 (f)), (pm, zaI (G.2 1) 8 (pg)), (ro, .inr (5, [.int (iz (md))])), (x, .inr (10, [.ref ro, .ref rw, .ref bo, .ref li, .ref sh, .ref tx, .ref lo, .ref nl])), (tx, .inr (8, [.ref fm, .ref pm, .int (iz (0))])), (rr, zaI (G.2 1) 2 (g_mn))] H := hP
  have hD : va_D A [(fm, zaL (G.2 0) 8 (f)), (pm, zaI (G.2 1) 8 (pg)), (ro, .inr (5, [.int (iz (md))])), (x, .inr (10, [.ref ro, .ref rw, .ref bo, .ref li, .ref sh, .ref tx, .ref lo, .ref nl])), (tx, .inr (8, [.ref fm, .ref pm, .int (iz (0))])), (rr, zaI (G.2 1) 2 (g_mn))] := hD
  have h_mn : 0 ≤ z_mn ∧ z_mn < (9 : Int) ∧ z_mn < 268435456 := h_mn
  refine lv_istore (lv' := [(4, .int (iz (z_mn))), (3, .int (iz (z6))), (2, .int (iz (m9))), (0, .ref x), (1, .ref rr)]) hx hb dL_isTaxed_16 hl (by decide) rfl (fun ls hl => ?_)
  refine lv_iload hx hb dL_isTaxed_18 (lv_at hl 0 rfl) ?_
  refine zr_newaL (G := G) (n := z_mn) (N := (z_mn).toNat) hx hb (hts (.arrayClass .long) (by decide +kernel)) hK hP hD hS hA (by omega) (by omega) (by omega) (by first | exact Nat.le_of_ble_eq_true rfl | (show _ ≤ (58 : Nat); omega)) (by first | exact Nat.le_of_ble_eq_true rfl | (show _ ≤ (408 : Nat); omega)) dL_isTaxed_20 (fun fl H hP hD hS => ?_)
  have hP : va_P G.1 vwCl [(fm, zaL (G.2 0) 8 (f)), (pm, zaI (G.2 1) 8 (pg)), (ro, .inr (5, [.int (iz (md))])), (x, .inr (10, [.ref ro, .ref rw, .ref bo, .ref li, .ref sh, .ref tx, .ref lo, .ref nl])), (tx, .inr (8, [.ref fm, .ref pm, .int (iz (0))])), (rr, zaI (G.2 1) 2 (g_mn)), (fl, zaL (G.2 0) ((z_mn).toNat) (fun _ => 0))] H := hP
  have hD : va_D A [(fm, zaL (G.2 0) 8 (f)), (pm, zaI (G.2 1) 8 (pg)), (ro, .inr (5, [.int (iz (md))])), (x, .inr (10, [.ref ro, .ref rw, .ref bo, .ref li, .ref sh, .ref tx, .ref lo, .ref nl])), (tx, .inr (8, [.ref fm, .ref pm, .int (iz (0))])), (rr, zaI (G.2 1) 2 (g_mn)), (fl, zaL (G.2 0) ((z_mn).toNat) (fun _ => 0))] := hD
  refine lv_astore (lv' := [(5, .ref fl), (4, .int (iz (z_mn))), (3, .int (iz (z6))), (2, .int (iz (m9))), (0, .ref x), (1, .ref rr)]) hx hb dL_isTaxed_22 hl (by decide) rfl (fun ls hl => ?_)
  refine lv_iload hx hb dL_isTaxed_24 (lv_at hl 1 rfl) ?_
  refine zr_newaI (G := G) (n := z_mn) (N := (z_mn).toNat) hx hb (hts (.arrayClass .int) (by decide +kernel)) hK hP hD hS hA (by omega) (by omega) (by omega) (by first | exact Nat.le_of_ble_eq_true rfl | (show _ ≤ (58 : Nat); omega)) (by first | exact Nat.le_of_ble_eq_true rfl | (show _ ≤ (408 : Nat); omega)) dL_isTaxed_26 (fun pl H hP hD hS => ?_)
  have hP : va_P G.1 vwCl [(fm, zaL (G.2 0) 8 (f)), (pm, zaI (G.2 1) 8 (pg)), (ro, .inr (5, [.int (iz (md))])), (x, .inr (10, [.ref ro, .ref rw, .ref bo, .ref li, .ref sh, .ref tx, .ref lo, .ref nl])), (tx, .inr (8, [.ref fm, .ref pm, .int (iz (0))])), (rr, zaI (G.2 1) 2 (g_mn)), (fl, zaL (G.2 0) ((z_mn).toNat) (fun _ => 0)), (pl, zaI (G.2 1) ((z_mn).toNat) (fun _ => 0))] H := hP
  have hD : va_D A [(fm, zaL (G.2 0) 8 (f)), (pm, zaI (G.2 1) 8 (pg)), (ro, .inr (5, [.int (iz (md))])), (x, .inr (10, [.ref ro, .ref rw, .ref bo, .ref li, .ref sh, .ref tx, .ref lo, .ref nl])), (tx, .inr (8, [.ref fm, .ref pm, .int (iz (0))])), (rr, zaI (G.2 1) 2 (g_mn)), (fl, zaL (G.2 0) ((z_mn).toNat) (fun _ => 0)), (pl, zaI (G.2 1) ((z_mn).toNat) (fun _ => 0))] := hD
  refine lv_astore (lv' := [(6, .ref pl), (5, .ref fl), (4, .int (iz (z_mn))), (3, .int (iz (z6))), (2, .int (iz (m9))), (0, .ref x), (1, .ref rr)]) hx hb dL_isTaxed_28 hl (by decide) rfl (fun ls hl => ?_)
  refine lv_iconst (v := iz (0)) hx hb dL_isTaxed_30 rfl ?_
  refine lv_istore (lv' := [(7, .int (iz (0))), (6, .ref pl), (5, .ref fl), (4, .int (iz (z_mn))), (3, .int (iz (z6))), (2, .int (iz (m9))), (0, .ref x), (1, .ref rr)]) hx hb dL_isTaxed_31 hl (by decide) rfl (fun ls hl => ?_)
  have hl_33 : ∀ (zn_33 : Nat) (k : Int) (g1 : Int → Int) (f : Int → Int) (gg : Int → Int) (u : Int → Int) (v : Int → Int) (H : Heap) (locs : List Loc) (ls : Array Slot), (z_mn - k).toNat < zn_33 → (0 ≤ k ∧ k ≤ z_mn) → (zstp f gg k) → (zsame u v f gg k) → (k = 0 ∨ (0 ≤ u (k - 1) ∧ u (k - 1) ≤ 1000 + 100000000 * k)) → va_P G.1 vwCl [(fm, zaL (G.2 0) 8 (f)), (pm, zaI (G.2 1) 8 (gg)), (ro, .inr (5, [.int (iz (md))])), (x, .inr (10, [.ref ro, .ref rw, .ref bo, .ref li, .ref sh, .ref tx, .ref lo, .ref nl])), (tx, .inr (8, [.ref fm, .ref pm, .int (iz (k))])), (rr, zaI (G.2 1) 2 (g1)), (fl, zaL (G.2 0) ((z_mn).toNat) (u)), (pl, zaI (G.2 1) ((z_mn).toNat) (v))] H → va_D A [(fm, zaL (G.2 0) 8 (f)), (pm, zaI (G.2 1) 8 (gg)), (ro, .inr (5, [.int (iz (md))])), (x, .inr (10, [.ref ro, .ref rw, .ref bo, .ref li, .ref sh, .ref tx, .ref lo, .ref nl])), (tx, .inr (8, [.ref fm, .ref pm, .int (iz (k))])), (rr, zaI (G.2 1) 2 (g1)), (fl, zaL (G.2 0) ((z_mn).toNat) (u)), (pl, zaI (G.2 1) ((z_mn).toNat) (v))] → va_S A s.heap H locs → lv_has ls 14 [(7, .int (iz (k))), (6, .ref pl), (5, .ref fl), (4, .int (iz (z_mn))), (3, .int (iz (z6))), (2, .int (iz (m9))), (0, .ref x), (1, .ref rr)] → W p l e rm_c_L_isTaxed2 s m ([.ref x, .ref rr] : List Value).toArray below meth c H locs (2 + 3 * (k).toNat) (16 + 18 * (k).toNat) Q (F0 m 33 ls []) := by
    intro zn_33
    induction zn_33 with
    | zero => intro k g1 f gg u v H locs ls hm; exact absurd hm (Nat.not_lt_zero _)
    | succ zn_33 ih_33 =>
      intro k g1 f gg u v H locs ls hm_33 k1 hst hsm hlast hP hD hS hl
      refine lv_iload hx hb dL_isTaxed_33 (lv_at hl 0 rfl) ?_
      refine lv_iload hx hb dL_isTaxed_35 (lv_at hl 3 rfl) ?_
      refine zr_icmp_ge (x := k) (y := z_mn) (tgt := 154) hx hb (⟨by omega, by omega⟩) (⟨by omega, by omega⟩) dL_isTaxed_37 (by decide) (fun h_9 => ?_) (fun h_9 => ?_)
      ·
        obtain rfl : z_mn = k := by omega
        refine lv_iload hx hb dL_isTaxed_154 (lv_at hl 3 rfl) ?_
        have hl_240 : ∀  (H : Heap) (locs : List Loc) (ls : Array Slot), va_P G.1 vwCl [(fm, zaL (G.2 0) 8 (f)), (pm, zaI (G.2 1) 8 (gg)), (ro, .inr (5, [.int (iz (md))])), (x, .inr (10, [.ref ro, .ref rw, .ref bo, .ref li, .ref sh, .ref tx, .ref lo, .ref nl])), (tx, .inr (8, [.ref fm, .ref pm, .int (iz (z_mn))])), (rr, zaI (G.2 1) 2 (g1)), (fl, zaL (G.2 0) ((z_mn).toNat) (u)), (pl, zaI (G.2 1) ((z_mn).toNat) (v))] H → va_D A [(fm, zaL (G.2 0) 8 (f)), (pm, zaI (G.2 1) 8 (gg)), (ro, .inr (5, [.int (iz (md))])), (x, .inr (10, [.ref ro, .ref rw, .ref bo, .ref li, .ref sh, .ref tx, .ref lo, .ref nl])), (tx, .inr (8, [.ref fm, .ref pm, .int (iz (z_mn))])), (rr, zaI (G.2 1) 2 (g1)), (fl, zaL (G.2 0) ((z_mn).toNat) (u)), (pl, zaI (G.2 1) ((z_mn).toNat) (v))] → va_S A s.heap H locs → lv_has ls 14 [(7, .int (iz (z_mn))), (6, .ref pl), (5, .ref fl), (4, .int (iz (z_mn))), (3, .int (iz (z6))), (2, .int (iz (m9))), (0, .ref x), (1, .ref rr)] → W p l e rm_c_L_isTaxed2 s m ([.ref x, .ref rr] : List Value).toArray below meth c H locs 40 300 Q (F0 m 240 ls []) := by
          intro  H locs ls  hP hD hS hl
          have hsu := zstp_same hsm hst
          refine lv_iconst (v := iz (0)) hx hb dL_isTaxed_240 rfl ?_
          refine lv_istore (lv' := [(7, .int (iz (0))), (6, .ref pl), (5, .ref fl), (4, .int (iz (z_mn))), (3, .int (iz (z6))), (2, .int (iz (m9))), (0, .ref x), (1, .ref rr)]) hx hb dL_isTaxed_241 hl (by decide) rfl (fun ls hl => ?_)
          have hl_243 : ∀ (zn_243 : Nat) (j : Int) (g6 : Int → Int) (H : Heap) (locs : List Loc) (ls : Array Slot), (6 - j).toNat < zn_243 → (0 ≤ j ∧ j ≤ 6) → va_P G.1 vwCl [(fm, zaL (G.2 0) 8 (f)), (pm, zaI (G.2 1) 8 (gg)), (ro, .inr (5, [.int (iz (md))])), (x, .inr (10, [.ref ro, .ref rw, .ref bo, .ref li, .ref sh, .ref tx, .ref lo, .ref nl])), (tx, .inr (8, [.ref fm, .ref pm, .int (iz (z_mn))])), (rr, zaI (G.2 1) 2 (g6)), (fl, zaL (G.2 0) ((z_mn).toNat) (u)), (pl, zaI (G.2 1) ((z_mn).toNat) (v))] H → va_D A [(fm, zaL (G.2 0) 8 (f)), (pm, zaI (G.2 1) 8 (gg)), (ro, .inr (5, [.int (iz (md))])), (x, .inr (10, [.ref ro, .ref rw, .ref bo, .ref li, .ref sh, .ref tx, .ref lo, .ref nl])), (tx, .inr (8, [.ref fm, .ref pm, .int (iz (z_mn))])), (rr, zaI (G.2 1) 2 (g6)), (fl, zaL (G.2 0) ((z_mn).toNat) (u)), (pl, zaI (G.2 1) ((z_mn).toNat) (v))] → va_S A s.heap H locs → lv_has ls 14 [(7, .int (iz (j))), (6, .ref pl), (5, .ref fl), (4, .int (iz (z_mn))), (3, .int (iz (z6))), (2, .int (iz (m9))), (0, .ref x), (1, .ref rr)] → W p l e rm_c_L_isTaxed2 s m ([.ref x, .ref rr] : List Value).toArray below meth c H locs (40 + 3 * (j).toNat) (300 + 18 * (j).toNat) Q (F0 m 243 ls []) := by
            intro zn_243
            induction zn_243 with
            | zero => intro j g6 H locs ls hm; exact absurd hm (Nat.not_lt_zero _)
            | succ zn_243 ih_243 =>
              intro j g6 H locs ls hm_243 k6 hP hD hS hl
              refine lv_iload hx hb dL_isTaxed_243 (lv_at hl 0 rfl) ?_
              refine lv_bipush (v := iz (6)) hx hb dL_isTaxed_245 rfl ?_
              refine zr_icmp_ge (x := j) (y := 6) (tgt := 460) hx hb (⟨by omega, by omega⟩) (⟨by omega, by omega⟩) dL_isTaxed_247 (by decide) (fun h_10 => ?_) (fun h_10 => ?_)
              ·
                refine lv_iconst (v := iz (1)) hx hb dL_isTaxed_460 rfl ?_
                rw [hQ]
                exact zr_zret (z := true) (rfl) (u := (f, gg, z_mn, g6)) hx hb hr hlocks (hP.sub [3, 4, 0, 1, 2, 5] rfl) (hD.sub [3, 4, 0, 1, 2, 5] (by decide) rfl) hS (by first | exact Nat.le_of_ble_eq_true rfl | omega) (by first | exact Nat.le_of_ble_eq_true rfl | omega) dL_isTaxed_461 (show true = true ∧ zstp f gg z_mn from ⟨rfl, hst⟩)
              ·
                refine lv_iload hx hb dL_isTaxed_250 (lv_at hl 0 rfl) ?_
                have hl_302 : ∀ (mo : Int) (g7 : Int → Int) (H : Heap) (locs : List Loc) (ls : Array Slot), (0 ≤ mo ∧ mo ≤ 1000000000000) → va_P G.1 vwCl [(fm, zaL (G.2 0) 8 (f)), (pm, zaI (G.2 1) 8 (gg)), (ro, .inr (5, [.int (iz (md))])), (x, .inr (10, [.ref ro, .ref rw, .ref bo, .ref li, .ref sh, .ref tx, .ref lo, .ref nl])), (tx, .inr (8, [.ref fm, .ref pm, .int (iz (z_mn))])), (rr, zaI (G.2 1) 2 (g7)), (fl, zaL (G.2 0) ((z_mn).toNat) (u)), (pl, zaI (G.2 1) ((z_mn).toNat) (v))] H → va_D A [(fm, zaL (G.2 0) 8 (f)), (pm, zaI (G.2 1) 8 (gg)), (ro, .inr (5, [.int (iz (md))])), (x, .inr (10, [.ref ro, .ref rw, .ref bo, .ref li, .ref sh, .ref tx, .ref lo, .ref nl])), (tx, .inr (8, [.ref fm, .ref pm, .int (iz (z_mn))])), (rr, zaI (G.2 1) 2 (g7)), (fl, zaL (G.2 0) ((z_mn).toNat) (u)), (pl, zaI (G.2 1) ((z_mn).toNat) (v))] → va_S A s.heap H locs → lv_has ls 14 [(7, .int (iz (j))), (6, .ref pl), (5, .ref fl), (4, .int (iz (z_mn))), (3, .int (iz (z6))), (2, .int (iz (m9))), (0, .ref x), (1, .ref rr)] → W p l e rm_c_L_isTaxed2 s m ([.ref x, .ref rr] : List Value).toArray below meth c H locs (40 + 3 * (j).toNat) (300 + 18 * (j).toNat) Q (F0 m 302 ls [.long (lz (mo))]) := by
                  intro mo g7 H locs ls jo hP hD hS hl
                  refine lv_lstore (lv' := [(8, .long (lz (mo))), (7, .int (iz (j))), (6, .ref pl), (5, .ref fl), (4, .int (iz (z_mn))), (3, .int (iz (z6))), (2, .int (iz (m9))), (0, .ref x), (1, .ref rr)]) hx hb dL_isTaxed_302 hl (by decide) rfl (fun ls hl => ?_)
                  refine lv_aload_n hx hb dL_isTaxed_304 rfl (lv_at hl 7 rfl) ?_
                  refine lv_bipush (v := iz (20)) hx hb dL_isTaxed_305 rfl ?_
                  refine lv_lload hx hb dL_isTaxed_307 (lv_at hl 0 rfl) ?_
                  refine lv_iconst (v := iz (0)) hx hb dL_isTaxed_309 rfl ?_
                  refine lv_iconst (v := iz (0)) hx hb dL_isTaxed_310 rfl ?_
                  refine zc_l (wr := [(rr, zaI (G.2 1) 2 (g7)), (fl, zaL (G.2 0) ((z_mn).toNat) (u)), (pl, zaI (G.2 1) ((z_mn).toNat) (v))]) (vx_runSW (As := [.ref x, .int (iz (20)), .long (lz (mo)), .int (iz (0)), .int (iz (0))]) (rest := []) ⟨hx, hb, hml, hown, hts⟩ (c_L_asks_20 l G s1 s2 s3 x ro rw bo li sh tx lo nl fm pm f gg z_mn md mo 0 0 hl0 (by omega) (hst) (by omega) (by omega) (by omega) H.size) (vx_cwSW 5 hts gL_isTaxed_L_asks rfl rfl rfl (by decide +kernel) ⟨Nat.le_of_ble_eq_true rfl, Nat.le_of_ble_eq_true rfl⟩) (zpSe zXM_ok hE hS hA hKX hP hD [3, 4, 0, 1, 2] rfl rfl) rfl rfl hl.1 rfl (lv_room (Nat.le_of_ble_eq_true rfl)) dL_isTaxed_311 ⟨(by first | exact Nat.le_of_ble_eq_true rfl | (show _ ≤ (58 : Nat); omega)), (by first | exact Nat.le_of_ble_eq_true rfl | (show _ ≤ (408 : Nat); omega))⟩) hP hD hS hA [3, 4, 0, 1, 2] [5, 6, 7] rfl rfl rfl (by decide) (fun as u_11 H locs has hP hD hS => ?_)
                  have hP : va_P G.1 vwCl [(rr, zaI (G.2 1) 2 (g7)), (fl, zaL (G.2 0) ((z_mn).toNat) (u)), (pl, zaI (G.2 1) ((z_mn).toNat) (v)), (x, .inr (10, [.ref ro, .ref rw, .ref bo, .ref li, .ref sh, .ref tx, .ref lo, .ref nl])), (tx, .inr (8, [.ref fm, .ref pm, .int (iz (z_mn))])), (fm, zaL (G.2 0) 8 (f)), (pm, zaI (G.2 1) 8 (gg)), (ro, .inr (5, [.int (iz (md))]))] H := hP
                  have hD : va_D A [(rr, zaI (G.2 1) 2 (g7)), (fl, zaL (G.2 0) ((z_mn).toNat) (u)), (pl, zaI (G.2 1) ((z_mn).toNat) (v)), (x, .inr (10, [.ref ro, .ref rw, .ref bo, .ref li, .ref sh, .ref tx, .ref lo, .ref nl])), (tx, .inr (8, [.ref fm, .ref pm, .int (iz (z_mn))])), (fm, zaL (G.2 0) 8 (f)), (pm, zaI (G.2 1) 8 (gg)), (ro, .inr (5, [.int (iz (md))]))] := hD
                  have has : ((((0 ≤ mo ∧ mo ≤ 1000000000000) ∧ (zth f gg z_mn mo % 1000 = 0 ∨ md ≠ 7) ∧ as = zrd md (zth f gg z_mn mo) 1000)) ∨ (as = -4000000000000000003 ∧ (¬ (0 ≤ mo ∧ mo ≤ 1000000000000)))) ∨ (as = -4000000000000000004 ∧ ((0 ≤ mo ∧ mo ≤ 1000000000000) ∧ md = 7 ∧ zth f gg z_mn mo % 1000 ≠ 0)) := has
                  refine lv_aload hx hb dL_isTaxed_314 (lv_at hl 3 rfl) ?_
                  refine lv_aload hx hb dL_isTaxed_316 (lv_at hl 2 rfl) ?_
                  refine lv_lload hx hb dL_isTaxed_318 (lv_at hl 0 rfl) ?_
                  refine zc_l (wr := [(rr, zaI (G.2 1) 2 (g7)), (x, .inr (10, [.ref ro, .ref rw, .ref bo, .ref li, .ref sh, .ref tx, .ref lo, .ref nl])), (tx, .inr (8, [.ref fm, .ref pm, .int (iz (z_mn))])), (fm, zaL (G.2 0) 8 (f)), (pm, zaI (G.2 1) 8 (gg)), (ro, .inr (5, [.int (iz (md))]))]) (va_runS (As := [.ref fl, .ref pl, .long (lz (mo))]) (rest := [.long (lz (as))]) ⟨hx, hb, hml, hown, hts⟩ (c_L_thousandfold l G fl pl u v z_mn mo (hsu) (by omega) H.size) (va_cwS 3 hts gL_isTaxed_L_thousandfold rfl rfl rfl (by decide +kernel) ⟨Nat.le_of_ble_eq_true rfl, Nat.le_of_ble_eq_true rfl⟩) (zpS hKX hP hD [1, 2] rfl rfl) rfl rfl hl.1 rfl (lv_room (Nat.le_of_ble_eq_true rfl)) dL_isTaxed_320 ⟨(by first | exact Nat.le_of_ble_eq_true rfl | (show _ ≤ (58 : Nat); omega)), (by first | exact Nat.le_of_ble_eq_true rfl | (show _ ≤ (408 : Nat); omega))⟩) hP hD hS hA [1, 2] [0, 3, 4, 5, 6, 7] rfl rfl rfl (by decide) (fun tf u_13 H locs htf hP hD hS => ?_)
                  have hP : va_P G.1 vwCl [(rr, zaI (G.2 1) 2 (g7)), (x, .inr (10, [.ref ro, .ref rw, .ref bo, .ref li, .ref sh, .ref tx, .ref lo, .ref nl])), (tx, .inr (8, [.ref fm, .ref pm, .int (iz (z_mn))])), (fm, zaL (G.2 0) 8 (f)), (pm, zaI (G.2 1) 8 (gg)), (ro, .inr (5, [.int (iz (md))])), (fl, zaL (G.2 0) ((z_mn).toNat) (u)), (pl, zaI (G.2 1) ((z_mn).toNat) (v))] H := hP
                  have hD : va_D A [(rr, zaI (G.2 1) 2 (g7)), (x, .inr (10, [.ref ro, .ref rw, .ref bo, .ref li, .ref sh, .ref tx, .ref lo, .ref nl])), (tx, .inr (8, [.ref fm, .ref pm, .int (iz (z_mn))])), (fm, zaL (G.2 0) 8 (f)), (pm, zaI (G.2 1) 8 (gg)), (ro, .inr (5, [.int (iz (md))])), (fl, zaL (G.2 0) ((z_mn).toNat) (u)), (pl, zaI (G.2 1) ((z_mn).toNat) (v))] := hD
                  have htf : tf = zth u v z_mn mo := htf
                  rw [zth_same hsm] at htf
                  have hb_tf := zth_b (mo := mo) hst (by omega)
                  rw [← htf] at hb_tf
                  refine zr_ldc2 (z := 1000) hx hb hown (hts (.constantLong RL 240 (1000)) (by decide +kernel)) rfl dL_isTaxed_323 ?_
                  refine lv_iload_n hx hb dL_isTaxed_326 rfl (lv_at hl 6 rfl) ?_
                  refine zc_l (wr := [(rr, zaI (G.2 1) 2 (g7)), (x, .inr (10, [.ref ro, .ref rw, .ref bo, .ref li, .ref sh, .ref tx, .ref lo, .ref nl])), (tx, .inr (8, [.ref fm, .ref pm, .int (iz (z_mn))])), (fm, zaL (G.2 0) 8 (f)), (pm, zaI (G.2 1) 8 (gg)), (ro, .inr (5, [.int (iz (md))])), (fl, zaL (G.2 0) ((z_mn).toNat) (u)), (pl, zaI (G.2 1) ((z_mn).toNat) (v))]) (va_runS (As := [.long (lz (tf)), .long (lz (1000)), .int (iz (m9))]) (rest := [.long (lz (as))]) ⟨hx, hb, hml, hown, hts⟩ (c_L_rounded l G tf 1000 m9 (by omega) (by omega) (by omega) H.size) (va_cwS 3 hts gL_isTaxed_L_rounded rfl rfl rfl (by decide +kernel) ⟨Nat.le_of_ble_eq_true rfl, Nat.le_of_ble_eq_true rfl⟩) (zpS hKX hP hD [] rfl rfl) rfl rfl hl.1 rfl (lv_room (Nat.le_of_ble_eq_true rfl)) dL_isTaxed_327 ⟨(by first | exact Nat.le_of_ble_eq_true rfl | (show _ ≤ (58 : Nat); omega)), (by first | exact Nat.le_of_ble_eq_true rfl | (show _ ≤ (408 : Nat); omega))⟩) hP hD hS hA [] [0, 1, 2, 3, 4, 5, 6, 7] rfl rfl rfl (by decide) (fun du u_15 H locs hdu hP hD hS => ?_)
                  have hP : va_P G.1 vwCl [(rr, zaI (G.2 1) 2 (g7)), (x, .inr (10, [.ref ro, .ref rw, .ref bo, .ref li, .ref sh, .ref tx, .ref lo, .ref nl])), (tx, .inr (8, [.ref fm, .ref pm, .int (iz (z_mn))])), (fm, zaL (G.2 0) 8 (f)), (pm, zaI (G.2 1) 8 (gg)), (ro, .inr (5, [.int (iz (md))])), (fl, zaL (G.2 0) ((z_mn).toNat) (u)), (pl, zaI (G.2 1) ((z_mn).toNat) (v))] H := hP
                  have hD : va_D A [(rr, zaI (G.2 1) 2 (g7)), (x, .inr (10, [.ref ro, .ref rw, .ref bo, .ref li, .ref sh, .ref tx, .ref lo, .ref nl])), (tx, .inr (8, [.ref fm, .ref pm, .int (iz (z_mn))])), (fm, zaL (G.2 0) 8 (f)), (pm, zaI (G.2 1) 8 (gg)), (ro, .inr (5, [.int (iz (md))])), (fl, zaL (G.2 0) ((z_mn).toNat) (u)), (pl, zaI (G.2 1) ((z_mn).toNat) (v))] := hD
                  have hdu : du = zrx m9 tf (1000 : Int) := hdu
                  have heq : as = du := by rw [zask0 has (by omega), hdu, hm9, htf]
                  have hasr := zrx_rng (md := m9) (v := tf) (u := 1000) (by omega) (by omega)
                  rw [← hdu] at hasr
                  refine zr_lcmp_eq (x := as) (y := du) (tgt := 336) hx hb (⟨by omega, by omega⟩) (⟨by omega, by omega⟩) dL_isTaxed_330 dL_isTaxed_331 (by decide) (fun h_17 => ?_) (fun h_17 => ?_)
                  ·
                    refine lv_lload hx hb dL_isTaxed_336 (lv_at hl 0 rfl) ?_
                    refine zr_ldc2 (z := 1000000000) hx hb hown (hts (.constantLong RL 227 (1000000000)) (by decide +kernel)) rfl dL_isTaxed_338 ?_
                    refine zr_mminL (x := mo) (y := 1000000000) hx hb (hml.trans hl.1.symm) hown (hts (.methodLink RL 208 Lib.MathLoose.min_long.x) (by decide +kernel)) (hts (.static Lib.MathLoose.min_long.x) (by decide +kernel)) (hts (.initialized "java/lang/Math") (by decide +kernel)) (hts (.code Lib.MathLoose.min_long.x Lib.MathLoose.min_long.code 4 (some .long)) (by decide +kernel)) (Nat.le_of_ble_eq_true rfl) (Nat.le_of_ble_eq_true rfl) (by first | exact Nat.le_of_ble_eq_true rfl | (show _ ≤ (58 : Nat); omega)) (by first | exact Nat.le_of_ble_eq_true rfl | (show _ ≤ (408 : Nat); omega)) (⟨by omega, by omega⟩) (⟨by omega, by omega⟩) dL_isTaxed_341 ?_
                    refine zr_namel (fun wa ewa => ?_)
                    refine lv_lstore (lv' := [(10, .long (lz (wa))), (8, .long (lz (mo))), (7, .int (iz (j))), (6, .ref pl), (5, .ref fl), (4, .int (iz (z_mn))), (3, .int (iz (z6))), (2, .int (iz (m9))), (0, .ref x), (1, .ref rr)]) hx hb dL_isTaxed_344 hl (by decide) rfl (fun ls hl => ?_)
                    refine lv_aload_n hx hb dL_isTaxed_346 rfl (lv_at hl 8 rfl) ?_
                    refine lv_lload hx hb dL_isTaxed_347 (lv_at hl 0 rfl) ?_
                    refine zct_l (wr := [(rr, zaI (G.2 1) 2 (g7)), (ro, .inr (5, [.int (iz (md))])), (fl, zaL (G.2 0) ((z_mn).toNat) (u)), (pl, zaI (G.2 1) ((z_mn).toNat) (v))]) (vx_runV (As := [.long (lz (wa))]) (rest := []) ⟨hx, hb, hml, hown, hts⟩ (c_X9_untaxed l G s1 s2 s3 x ro rw bo li sh tx lo nl fm pm f gg z_mn wa hl0 (by omega) (hst) H.size) (cwV 1 hts gL_isTaxed_X9_untaxed rfl rfl rfl (by decide +kernel) ⟨Nat.le_of_ble_eq_true rfl, Nat.le_of_ble_eq_true rfl⟩) (zpVe zXE_ok hE.1 hS hA hKX hP hD [1, 2, 3, 4] rfl rfl (va_recv hK hP (ci := 10) (q0 := 1) rfl rfl)) rfl rfl hl.1 rfl (lv_room (Nat.le_of_ble_eq_true rfl)) dL_isTaxed_349 ⟨(by first | exact Nat.le_of_ble_eq_true rfl | (show _ ≤ (58 : Nat); omega)), (by first | exact Nat.le_of_ble_eq_true rfl | (show _ ≤ (408 : Nat); omega))⟩) hP hD hS hA [1, 2, 3, 4] [0, 5, 6, 7] rfl rfl rfl (by decide) (fun E9 ce9 q9 ux_19 H locs hx9_20 hP hD hS hce9 hcv9 hcl9 => ?_) (fun its u_18 H locs hun hP hD hS => ?_)
                    ·
                      have hP : va_P G.1 vwCl [(rr, zaI (G.2 1) 2 (g7)), (ro, .inr (5, [.int (iz (md))])), (fl, zaL (G.2 0) ((z_mn).toNat) (u)), (pl, zaI (G.2 1) ((z_mn).toNat) (v)), (x, .inr (10, [.ref ro, .ref rw, .ref bo, .ref li, .ref sh, .ref tx, .ref lo, .ref nl])), (tx, .inr (8, [.ref fm, .ref pm, .int (iz (z_mn))])), (fm, zaL (G.2 0) 8 (f)), (pm, zaI (G.2 1) 8 (gg))] H := hP
                      have hD : va_D A [(rr, zaI (G.2 1) 2 (g7)), (ro, .inr (5, [.int (iz (md))])), (fl, zaL (G.2 0) ((z_mn).toNat) (u)), (pl, zaI (G.2 1) ((z_mn).toNat) (v)), (x, .inr (10, [.ref ro, .ref rw, .ref bo, .ref li, .ref sh, .ref tx, .ref lo, .ref nl])), (tx, .inr (8, [.ref fm, .ref pm, .int (iz (z_mn))])), (fm, zaL (G.2 0) 8 (f)), (pm, zaI (G.2 1) 8 (gg))] := hD
                      rcases hx9_20 with ⟨rfl, hxc⟩
                      ·
                        have hxc : ¬ (0 ≤ wa ∧ wa ≤ 1000000000) := hxc
                        exact absurd hxc (by omega)
                    have hP : va_P G.1 vwCl [(rr, zaI (G.2 1) 2 (g7)), (ro, .inr (5, [.int (iz (md))])), (fl, zaL (G.2 0) ((z_mn).toNat) (u)), (pl, zaI (G.2 1) ((z_mn).toNat) (v)), (x, .inr (10, [.ref ro, .ref rw, .ref bo, .ref li, .ref sh, .ref tx, .ref lo, .ref nl])), (tx, .inr (8, [.ref fm, .ref pm, .int (iz (z_mn))])), (fm, zaL (G.2 0) 8 (f)), (pm, zaI (G.2 1) 8 (gg))] H := hP
                    have hD : va_D A [(rr, zaI (G.2 1) 2 (g7)), (ro, .inr (5, [.int (iz (md))])), (fl, zaL (G.2 0) ((z_mn).toNat) (u)), (pl, zaI (G.2 1) ((z_mn).toNat) (v)), (x, .inr (10, [.ref ro, .ref rw, .ref bo, .ref li, .ref sh, .ref tx, .ref lo, .ref nl])), (tx, .inr (8, [.ref fm, .ref pm, .int (iz (z_mn))])), (fm, zaL (G.2 0) 8 (f)), (pm, zaI (G.2 1) 8 (gg))] := hD
                    have hun : (0 ≤ wa ∧ wa ≤ 1000000000) ∧ ((its = -1 ∧ ¬ zlv f gg z_mn (1000000000000) wa) ∨ (0 ≤ its ∧ its ≤ 1000000000000 ∧ zlv f gg z_mn (its) wa ∧ (its = 0 ∨ ¬ zlv f gg z_mn (its - 1) wa))) := hun
                    have hu1 : (its = -1 ∧ ¬ wa * 1000 ≤ 1000000000000 * 1000 - zth f gg z_mn 1000000000000) ∨ (0 ≤ its ∧ its ≤ 1000000000000 ∧ wa * 1000 ≤ its * 1000 - zth f gg z_mn its ∧ (its = 0 ∨ ¬ wa * 1000 ≤ (its - 1) * 1000 - zth f gg z_mn (its - 1))) := hun.2
                    refine lv_lstore (lv' := [(12, .long (lz (its))), (10, .long (lz (wa))), (8, .long (lz (mo))), (7, .int (iz (j))), (6, .ref pl), (5, .ref fl), (4, .int (iz (z_mn))), (3, .int (iz (z6))), (2, .int (iz (m9))), (0, .ref x), (1, .ref rr)]) hx hb dL_isTaxed_352 hl (by decide) rfl (fun ls hl => ?_)
                    refine lv_lload hx hb dL_isTaxed_354 (lv_at hl 0 rfl) ?_
                    refine zr_ldc2 (z := -1) hx hb hown (hts (.constantLong RL 191 (-1)) (by decide +kernel)) rfl dL_isTaxed_356 ?_
                    refine zr_lcmp_ne (x := its) (y := -1) (tgt := 389) hx hb (⟨by omega, by omega⟩) (⟨by omega, by omega⟩) dL_isTaxed_359 dL_isTaxed_360 (by decide) (fun h_21 => ?_) (fun h_21 => ?_)
                    ·
                      refine zr_ldc2 (z := 1000) hx hb hown (hts (.constantLong RL 240 (1000)) (by decide +kernel)) rfl dL_isTaxed_389 ?_
                      refine lv_lload hx hb dL_isTaxed_392 (lv_at hl 0 rfl) ?_
                      refine zr_lmul hx hb dL_isTaxed_394 ?_
                      refine lv_aload hx hb dL_isTaxed_395 (lv_at hl 5 rfl) ?_
                      refine lv_aload hx hb dL_isTaxed_397 (lv_at hl 4 rfl) ?_
                      refine lv_lload hx hb dL_isTaxed_399 (lv_at hl 0 rfl) ?_
                      refine zc_l (wr := [(rr, zaI (G.2 1) 2 (g7)), (ro, .inr (5, [.int (iz (md))])), (x, .inr (10, [.ref ro, .ref rw, .ref bo, .ref li, .ref sh, .ref tx, .ref lo, .ref nl])), (tx, .inr (8, [.ref fm, .ref pm, .int (iz (z_mn))])), (fm, zaL (G.2 0) 8 (f)), (pm, zaI (G.2 1) 8 (gg))]) (va_runS (As := [.ref fl, .ref pl, .long (lz (its))]) (rest := [.long (lz (1000 * its))]) ⟨hx, hb, hml, hown, hts⟩ (c_L_thousandfold l G fl pl u v z_mn its (hsu) (by omega) H.size) (va_cwS 3 hts gL_isTaxed_L_thousandfold rfl rfl rfl (by decide +kernel) ⟨Nat.le_of_ble_eq_true rfl, Nat.le_of_ble_eq_true rfl⟩) (zpS hKX hP hD [2, 3] rfl rfl) rfl rfl hl.1 rfl (lv_room (Nat.le_of_ble_eq_true rfl)) dL_isTaxed_401 ⟨(by first | exact Nat.le_of_ble_eq_true rfl | (show _ ≤ (58 : Nat); omega)), (by first | exact Nat.le_of_ble_eq_true rfl | (show _ ≤ (408 : Nat); omega))⟩) hP hD hS hA [2, 3] [0, 1, 4, 5, 6, 7] rfl rfl rfl (by decide) (fun t2 u_22 H locs ht2 hP hD hS => ?_)
                      have hP : va_P G.1 vwCl [(rr, zaI (G.2 1) 2 (g7)), (ro, .inr (5, [.int (iz (md))])), (x, .inr (10, [.ref ro, .ref rw, .ref bo, .ref li, .ref sh, .ref tx, .ref lo, .ref nl])), (tx, .inr (8, [.ref fm, .ref pm, .int (iz (z_mn))])), (fm, zaL (G.2 0) 8 (f)), (pm, zaI (G.2 1) 8 (gg)), (fl, zaL (G.2 0) ((z_mn).toNat) (u)), (pl, zaI (G.2 1) ((z_mn).toNat) (v))] H := hP
                      have hD : va_D A [(rr, zaI (G.2 1) 2 (g7)), (ro, .inr (5, [.int (iz (md))])), (x, .inr (10, [.ref ro, .ref rw, .ref bo, .ref li, .ref sh, .ref tx, .ref lo, .ref nl])), (tx, .inr (8, [.ref fm, .ref pm, .int (iz (z_mn))])), (fm, zaL (G.2 0) 8 (f)), (pm, zaI (G.2 1) 8 (gg)), (fl, zaL (G.2 0) ((z_mn).toNat) (u)), (pl, zaI (G.2 1) ((z_mn).toNat) (v))] := hD
                      have ht2 : t2 = zth u v z_mn its := ht2
                      rw [zth_same hsm] at ht2
                      have hb_t2 := zth_b (mo := its) hst (by omega)
                      rw [← ht2] at hb_t2
                      refine zr_lsub hx hb dL_isTaxed_404 ?_
                      refine zr_ldc2 (z := 1000) hx hb hown (hts (.constantLong RL 240 (1000)) (by decide +kernel)) rfl dL_isTaxed_405 ?_
                      refine lv_lload hx hb dL_isTaxed_408 (lv_at hl 1 rfl) ?_
                      refine zr_lmul hx hb dL_isTaxed_410 ?_
                      refine zr_lcmp_lt (x := (1000 * its) - t2) (y := 1000 * wa) (tgt := 452) hx hb (⟨by omega, by omega⟩) (⟨by omega, by omega⟩) dL_isTaxed_411 dL_isTaxed_412 (by decide) (fun h_24 => ?_) (fun h_24 => ?_)
                      · exact absurd h_24 (by omega)
                      ·
                        refine lv_lload hx hb dL_isTaxed_415 (lv_at hl 0 rfl) ?_
                        refine lv_lconst (v := lz (0)) hx hb dL_isTaxed_417 rfl ?_
                        refine zr_lcmp_le (x := its) (y := 0) (tgt := 454) hx hb (⟨by omega, by omega⟩) (⟨by omega, by omega⟩) dL_isTaxed_418 dL_isTaxed_419 (by decide) (fun h_25 => ?_) (fun h_25 => ?_)
                        ·
                          refine lv_iinc (v := iz (j + 1)) (lv' := [(7, .int (iz (j + 1))), (12, .long (lz (its))), (10, .long (lz (wa))), (8, .long (lz (mo))), (6, .ref pl), (5, .ref fl), (4, .int (iz (z_mn))), (3, .int (iz (z6))), (2, .int (iz (m9))), (0, .ref x), (1, .ref rr)]) hx hb dL_isTaxed_454 hl (k := 3) rfl (by rw [show Int32.ofInt (1) = iz (1) from rfl, iz_add]) (by decide) rfl (fun ls hl => ?_)
                          refine lv_goto (tgt := 243) hx hb dL_isTaxed_457 (by decide) ?_
                          refine W.widen (k := 40 + 3 * ((j + 1)).toNat) (n := 300 + 18 * ((j + 1)).toNat) (by omega) (by omega) ?_
                          exact ih_243 (j + 1) g7 _ _ _ (by omega) (by omega) (hP.sub [4, 5, 1, 2, 3, 0, 6, 7] rfl) (hD.sub [4, 5, 1, 2, 3, 0, 6, 7] (by decide) rfl) hS (lv_sub hl [0, 4, 5, 6, 7, 8, 9, 10] rfl)
                        ·
                          refine zr_ldc2 (z := 1000) hx hb hown (hts (.constantLong RL 240 (1000)) (by decide +kernel)) rfl dL_isTaxed_422 ?_
                          refine lv_lload hx hb dL_isTaxed_425 (lv_at hl 0 rfl) ?_
                          refine lv_lconst (v := lz (1)) hx hb dL_isTaxed_427 rfl ?_
                          refine zr_lsub hx hb dL_isTaxed_428 ?_
                          refine zr_lmul hx hb dL_isTaxed_429 ?_
                          refine lv_aload hx hb dL_isTaxed_430 (lv_at hl 5 rfl) ?_
                          refine lv_aload hx hb dL_isTaxed_432 (lv_at hl 4 rfl) ?_
                          refine lv_lload hx hb dL_isTaxed_434 (lv_at hl 0 rfl) ?_
                          refine lv_lconst (v := lz (1)) hx hb dL_isTaxed_436 rfl ?_
                          refine zr_lsub hx hb dL_isTaxed_437 ?_
                          refine zc_l (wr := [(rr, zaI (G.2 1) 2 (g7)), (ro, .inr (5, [.int (iz (md))])), (x, .inr (10, [.ref ro, .ref rw, .ref bo, .ref li, .ref sh, .ref tx, .ref lo, .ref nl])), (tx, .inr (8, [.ref fm, .ref pm, .int (iz (z_mn))])), (fm, zaL (G.2 0) 8 (f)), (pm, zaI (G.2 1) 8 (gg))]) (va_runS (As := [.ref fl, .ref pl, .long (lz (its - 1))]) (rest := [.long (lz (1000 * (its - 1)))]) ⟨hx, hb, hml, hown, hts⟩ (c_L_thousandfold l G fl pl u v z_mn (its - 1) (hsu) (by omega) H.size) (va_cwS 3 hts gL_isTaxed_L_thousandfold rfl rfl rfl (by decide +kernel) ⟨Nat.le_of_ble_eq_true rfl, Nat.le_of_ble_eq_true rfl⟩) (zpS hKX hP hD [6, 7] rfl rfl) rfl rfl hl.1 rfl (lv_room (Nat.le_of_ble_eq_true rfl)) dL_isTaxed_438 ⟨(by first | exact Nat.le_of_ble_eq_true rfl | (show _ ≤ (58 : Nat); omega)), (by first | exact Nat.le_of_ble_eq_true rfl | (show _ ≤ (408 : Nat); omega))⟩) hP hD hS hA [6, 7] [0, 1, 2, 3, 4, 5] rfl rfl rfl (by decide) (fun t3 u_26 H locs ht3 hP hD hS => ?_)
                          have hP : va_P G.1 vwCl [(rr, zaI (G.2 1) 2 (g7)), (ro, .inr (5, [.int (iz (md))])), (x, .inr (10, [.ref ro, .ref rw, .ref bo, .ref li, .ref sh, .ref tx, .ref lo, .ref nl])), (tx, .inr (8, [.ref fm, .ref pm, .int (iz (z_mn))])), (fm, zaL (G.2 0) 8 (f)), (pm, zaI (G.2 1) 8 (gg)), (fl, zaL (G.2 0) ((z_mn).toNat) (u)), (pl, zaI (G.2 1) ((z_mn).toNat) (v))] H := hP
                          have hD : va_D A [(rr, zaI (G.2 1) 2 (g7)), (ro, .inr (5, [.int (iz (md))])), (x, .inr (10, [.ref ro, .ref rw, .ref bo, .ref li, .ref sh, .ref tx, .ref lo, .ref nl])), (tx, .inr (8, [.ref fm, .ref pm, .int (iz (z_mn))])), (fm, zaL (G.2 0) 8 (f)), (pm, zaI (G.2 1) 8 (gg)), (fl, zaL (G.2 0) ((z_mn).toNat) (u)), (pl, zaI (G.2 1) ((z_mn).toNat) (v))] := hD
                          have ht3 : t3 = zth u v z_mn (its - 1) := ht3
                          rw [zth_same hsm] at ht3
                          have hb_t3 := zth_b (mo := its - 1) hst (by omega)
                          rw [← ht3] at hb_t3
                          refine zr_lsub hx hb dL_isTaxed_441 ?_
                          refine zr_ldc2 (z := 1000) hx hb hown (hts (.constantLong RL 240 (1000)) (by decide +kernel)) rfl dL_isTaxed_442 ?_
                          refine lv_lload hx hb dL_isTaxed_445 (lv_at hl 1 rfl) ?_
                          refine zr_lmul hx hb dL_isTaxed_447 ?_
                          refine zr_lcmp_lt (x := (1000 * (its - 1)) - t3) (y := 1000 * wa) (tgt := 454) hx hb (⟨by omega, by omega⟩) (⟨by omega, by omega⟩) dL_isTaxed_448 dL_isTaxed_449 (by decide) (fun h_28 => ?_) (fun h_28 => ?_)
                          ·
                            refine lv_iinc (v := iz (j + 1)) (lv' := [(7, .int (iz (j + 1))), (12, .long (lz (its))), (10, .long (lz (wa))), (8, .long (lz (mo))), (6, .ref pl), (5, .ref fl), (4, .int (iz (z_mn))), (3, .int (iz (z6))), (2, .int (iz (m9))), (0, .ref x), (1, .ref rr)]) hx hb dL_isTaxed_454 hl (k := 3) rfl (by rw [show Int32.ofInt (1) = iz (1) from rfl, iz_add]) (by decide) rfl (fun ls hl => ?_)
                            refine lv_goto (tgt := 243) hx hb dL_isTaxed_457 (by decide) ?_
                            refine W.widen (k := 40 + 3 * ((j + 1)).toNat) (n := 300 + 18 * ((j + 1)).toNat) (by omega) (by omega) ?_
                            exact ih_243 (j + 1) g7 _ _ _ (by omega) (by omega) (hP.sub [4, 5, 1, 2, 3, 0, 6, 7] rfl) (hD.sub [4, 5, 1, 2, 3, 0, 6, 7] (by decide) rfl) hS (lv_sub hl [0, 4, 5, 6, 7, 8, 9, 10] rfl)
                          · exact absurd h_28 (by omega)
                    ·
                      refine zr_ldc2 (z := 1000000000000000) hx hb hown (hts (.constantLong RL 251 (1000000000000000)) (by decide +kernel)) rfl dL_isTaxed_363 ?_
                      refine lv_aload hx hb dL_isTaxed_366 (lv_at hl 5 rfl) ?_
                      refine lv_aload hx hb dL_isTaxed_368 (lv_at hl 4 rfl) ?_
                      refine zr_ldc2 (z := 1000000000000) hx hb hown (hts (.constantLong RL 253 (1000000000000)) (by decide +kernel)) rfl dL_isTaxed_370 ?_
                      refine zc_l (wr := [(rr, zaI (G.2 1) 2 (g7)), (ro, .inr (5, [.int (iz (md))])), (x, .inr (10, [.ref ro, .ref rw, .ref bo, .ref li, .ref sh, .ref tx, .ref lo, .ref nl])), (tx, .inr (8, [.ref fm, .ref pm, .int (iz (z_mn))])), (fm, zaL (G.2 0) 8 (f)), (pm, zaI (G.2 1) 8 (gg))]) (va_runS (As := [.ref fl, .ref pl, .long (lz (1000000000000))]) (rest := [.long (lz (1000000000000000))]) ⟨hx, hb, hml, hown, hts⟩ (c_L_thousandfold l G fl pl u v z_mn 1000000000000 (hsu) (by omega) H.size) (va_cwS 3 hts gL_isTaxed_L_thousandfold rfl rfl rfl (by decide +kernel) ⟨Nat.le_of_ble_eq_true rfl, Nat.le_of_ble_eq_true rfl⟩) (zpS hKX hP hD [2, 3] rfl rfl) rfl rfl hl.1 rfl (lv_room (Nat.le_of_ble_eq_true rfl)) dL_isTaxed_373 ⟨(by first | exact Nat.le_of_ble_eq_true rfl | (show _ ≤ (58 : Nat); omega)), (by first | exact Nat.le_of_ble_eq_true rfl | (show _ ≤ (408 : Nat); omega))⟩) hP hD hS hA [2, 3] [0, 1, 4, 5, 6, 7] rfl rfl rfl (by decide) (fun t1 u_29 H locs ht1 hP hD hS => ?_)
                      have hP : va_P G.1 vwCl [(rr, zaI (G.2 1) 2 (g7)), (ro, .inr (5, [.int (iz (md))])), (x, .inr (10, [.ref ro, .ref rw, .ref bo, .ref li, .ref sh, .ref tx, .ref lo, .ref nl])), (tx, .inr (8, [.ref fm, .ref pm, .int (iz (z_mn))])), (fm, zaL (G.2 0) 8 (f)), (pm, zaI (G.2 1) 8 (gg)), (fl, zaL (G.2 0) ((z_mn).toNat) (u)), (pl, zaI (G.2 1) ((z_mn).toNat) (v))] H := hP
                      have hD : va_D A [(rr, zaI (G.2 1) 2 (g7)), (ro, .inr (5, [.int (iz (md))])), (x, .inr (10, [.ref ro, .ref rw, .ref bo, .ref li, .ref sh, .ref tx, .ref lo, .ref nl])), (tx, .inr (8, [.ref fm, .ref pm, .int (iz (z_mn))])), (fm, zaL (G.2 0) 8 (f)), (pm, zaI (G.2 1) 8 (gg)), (fl, zaL (G.2 0) ((z_mn).toNat) (u)), (pl, zaI (G.2 1) ((z_mn).toNat) (v))] := hD
                      have ht1 : t1 = zth u v z_mn (1000000000000 : Int) := ht1
                      rw [zth_same hsm] at ht1
                      have hb_t1 := zth_b (mo := 1000000000000) hst (by omega)
                      rw [← ht1] at hb_t1
                      refine zr_lsub hx hb dL_isTaxed_376 ?_
                      refine zr_ldc2 (z := 1000) hx hb hown (hts (.constantLong RL 240 (1000)) (by decide +kernel)) rfl dL_isTaxed_377 ?_
                      refine lv_lload hx hb dL_isTaxed_380 (lv_at hl 1 rfl) ?_
                      refine zr_lmul hx hb dL_isTaxed_382 ?_
                      refine zr_lcmp_lt (x := 1000000000000000 - t1) (y := 1000 * wa) (tgt := 454) hx hb (⟨by omega, by omega⟩) (⟨by omega, by omega⟩) dL_isTaxed_383 dL_isTaxed_384 (by decide) (fun h_31 => ?_) (fun h_31 => ?_)
                      ·
                        refine lv_iinc (v := iz (j + 1)) (lv' := [(7, .int (iz (j + 1))), (12, .long (lz (its))), (10, .long (lz (wa))), (8, .long (lz (mo))), (6, .ref pl), (5, .ref fl), (4, .int (iz (z_mn))), (3, .int (iz (z6))), (2, .int (iz (m9))), (0, .ref x), (1, .ref rr)]) hx hb dL_isTaxed_454 hl (k := 3) rfl (by rw [show Int32.ofInt (1) = iz (1) from rfl, iz_add]) (by decide) rfl (fun ls hl => ?_)
                        refine lv_goto (tgt := 243) hx hb dL_isTaxed_457 (by decide) ?_
                        refine W.widen (k := 40 + 3 * ((j + 1)).toNat) (n := 300 + 18 * ((j + 1)).toNat) (by omega) (by omega) ?_
                        exact ih_243 (j + 1) g7 _ _ _ (by omega) (by omega) (hP.sub [4, 5, 1, 2, 3, 0, 6, 7] rfl) (hD.sub [4, 5, 1, 2, 3, 0, 6, 7] (by decide) rfl) hS (lv_sub hl [0, 4, 5, 6, 7, 8, 9, 10] rfl)
                      · exact absurd h_31 (by omega)
                  · exact absurd h_17 (not_not_intro heq)
                refine zr_if_ne (x := j) (tgt := 272) hx hb (⟨by omega, by omega⟩) dL_isTaxed_252 (by decide) (fun h_32 => ?_) (fun h_32 => ?_)
                ·
                  refine lv_aload_n hx hb dL_isTaxed_272 rfl (lv_at hl 7 rfl) ?_
                  refine lv_iconst (v := iz (3)) hx hb dL_isTaxed_273 rfl ?_
                  refine zc_i (wr := [(fm, zaL (G.2 0) 8 (f)), (pm, zaI (G.2 1) 8 (gg)), (ro, .inr (5, [.int (iz (md))])), (x, .inr (10, [.ref ro, .ref rw, .ref bo, .ref li, .ref sh, .ref tx, .ref lo, .ref nl])), (tx, .inr (8, [.ref fm, .ref pm, .int (iz (z_mn))])), (fl, zaL (G.2 0) ((z_mn).toNat) (u)), (pl, zaI (G.2 1) ((z_mn).toNat) (v))]) (va_runS (As := [.ref rr, .int (iz (3))]) (rest := []) ⟨hx, hb, hml, hown, hts⟩ (c_L_draw l G rr g6 3 (by omega) H.size) (va_cwS 2 hts gL_isTaxed_L_draw rfl rfl rfl (by decide +kernel) ⟨Nat.le_of_ble_eq_true rfl, Nat.le_of_ble_eq_true rfl⟩) (zpS hKX hP hD [5] rfl rfl) rfl rfl hl.1 rfl (lv_room (Nat.le_of_ble_eq_true rfl)) dL_isTaxed_274 ⟨(by first | exact Nat.le_of_ble_eq_true rfl | (show _ ≤ (58 : Nat); omega)), (by first | exact Nat.le_of_ble_eq_true rfl | (show _ ≤ (408 : Nat); omega))⟩) hP hD hS hA [5] [0, 1, 2, 3, 4, 6, 7] rfl rfl rfl (by decide) (fun z_q8 u_33 H locs h_q8 hP hD hS => ?_)
                  generalize u_33 = g_q8 at hP hD h_q8
                  have hP : va_P G.1 vwCl [(fm, zaL (G.2 0) 8 (f)), (pm, zaI (G.2 1) 8 (gg)), (ro, .inr (5, [.int (iz (md))])), (x, .inr (10, [.ref ro, .ref rw, .ref bo, .ref li, .ref sh, .ref tx, .ref lo, .ref nl])), (tx, .inr (8, [.ref fm, .ref pm, .int (iz (z_mn))])), (fl, zaL (G.2 0) ((z_mn).toNat) (u)), (pl, zaI (G.2 1) ((z_mn).toNat) (v)), (rr, zaI (G.2 1) 2 (g_q8))] H := hP
                  have hD : va_D A [(fm, zaL (G.2 0) 8 (f)), (pm, zaI (G.2 1) 8 (gg)), (ro, .inr (5, [.int (iz (md))])), (x, .inr (10, [.ref ro, .ref rw, .ref bo, .ref li, .ref sh, .ref tx, .ref lo, .ref nl])), (tx, .inr (8, [.ref fm, .ref pm, .int (iz (z_mn))])), (fl, zaL (G.2 0) ((z_mn).toNat) (u)), (pl, zaI (G.2 1) ((z_mn).toNat) (v)), (rr, zaI (G.2 1) 2 (g_q8))] := hD
                  have h_q8 : 0 ≤ z_q8 ∧ z_q8 < (3 : Int) ∧ z_q8 < 268435456 := h_q8
                  refine zr_if_ne (x := z_q8) (tgt := 294) hx hb (⟨by omega, by omega⟩) dL_isTaxed_277 (by decide) (fun h_35 => ?_) (fun h_35 => ?_)
                  ·
                    refine lv_aload_n hx hb dL_isTaxed_294 rfl (lv_at hl 7 rfl) ?_
                    refine lv_sipush (v := iz (5000)) hx hb dL_isTaxed_295 rfl ?_
                    refine zc_i (wr := [(fm, zaL (G.2 0) 8 (f)), (pm, zaI (G.2 1) 8 (gg)), (ro, .inr (5, [.int (iz (md))])), (x, .inr (10, [.ref ro, .ref rw, .ref bo, .ref li, .ref sh, .ref tx, .ref lo, .ref nl])), (tx, .inr (8, [.ref fm, .ref pm, .int (iz (z_mn))])), (fl, zaL (G.2 0) ((z_mn).toNat) (u)), (pl, zaI (G.2 1) ((z_mn).toNat) (v))]) (va_runS (As := [.ref rr, .int (iz (5000))]) (rest := []) ⟨hx, hb, hml, hown, hts⟩ (c_L_draw l G rr g_q8 5000 (by omega) H.size) (va_cwS 2 hts gL_isTaxed_L_draw rfl rfl rfl (by decide +kernel) ⟨Nat.le_of_ble_eq_true rfl, Nat.le_of_ble_eq_true rfl⟩) (zpS hKX hP hD [7] rfl rfl) rfl rfl hl.1 rfl (lv_room (Nat.le_of_ble_eq_true rfl)) dL_isTaxed_298 ⟨(by first | exact Nat.le_of_ble_eq_true rfl | (show _ ≤ (58 : Nat); omega)), (by first | exact Nat.le_of_ble_eq_true rfl | (show _ ≤ (408 : Nat); omega))⟩) hP hD hS hA [7] [0, 1, 2, 3, 4, 5, 6] rfl rfl rfl (by decide) (fun z_q0 u_36 H locs h_q0 hP hD hS => ?_)
                    generalize u_36 = g_q0 at hP hD h_q0
                    have hP : va_P G.1 vwCl [(fm, zaL (G.2 0) 8 (f)), (pm, zaI (G.2 1) 8 (gg)), (ro, .inr (5, [.int (iz (md))])), (x, .inr (10, [.ref ro, .ref rw, .ref bo, .ref li, .ref sh, .ref tx, .ref lo, .ref nl])), (tx, .inr (8, [.ref fm, .ref pm, .int (iz (z_mn))])), (fl, zaL (G.2 0) ((z_mn).toNat) (u)), (pl, zaI (G.2 1) ((z_mn).toNat) (v)), (rr, zaI (G.2 1) 2 (g_q0))] H := hP
                    have hD : va_D A [(fm, zaL (G.2 0) 8 (f)), (pm, zaI (G.2 1) 8 (gg)), (ro, .inr (5, [.int (iz (md))])), (x, .inr (10, [.ref ro, .ref rw, .ref bo, .ref li, .ref sh, .ref tx, .ref lo, .ref nl])), (tx, .inr (8, [.ref fm, .ref pm, .int (iz (z_mn))])), (fl, zaL (G.2 0) ((z_mn).toNat) (u)), (pl, zaI (G.2 1) ((z_mn).toNat) (v)), (rr, zaI (G.2 1) 2 (g_q0))] := hD
                    have h_q0 : 0 ≤ z_q0 ∧ z_q0 < (5000 : Int) ∧ z_q0 < 268435456 := h_q0
                    refine zr_i2l hx hb (x := z_q0) (⟨by omega, by omega⟩) dL_isTaxed_301 ?_
                    refine W.widen (k := 40 + 3 * (j).toNat) (n := 300 + 18 * (j).toNat) (by omega) (by omega) ?_
                    exact hl_302 z_q0 g_q0 _ _ _ (by omega) (hP.sub [0, 1, 2, 3, 4, 7, 5, 6] rfl) (hD.sub [0, 1, 2, 3, 4, 7, 5, 6] (by decide) rfl) hS (hl)
                  ·
                    refine lv_aload_n hx hb dL_isTaxed_280 rfl (lv_at hl 7 rfl) ?_
                    refine zr_ldc (z := 1000000000) hx hb hown (hts (.constant RL 239 (1000000000)) (by decide +kernel)) rfl dL_isTaxed_281 ?_
                    refine zc_i (wr := [(fm, zaL (G.2 0) 8 (f)), (pm, zaI (G.2 1) 8 (gg)), (ro, .inr (5, [.int (iz (md))])), (x, .inr (10, [.ref ro, .ref rw, .ref bo, .ref li, .ref sh, .ref tx, .ref lo, .ref nl])), (tx, .inr (8, [.ref fm, .ref pm, .int (iz (z_mn))])), (fl, zaL (G.2 0) ((z_mn).toNat) (u)), (pl, zaI (G.2 1) ((z_mn).toNat) (v))]) (va_runS (As := [.ref rr, .int (iz (1000000000))]) (rest := []) ⟨hx, hb, hml, hown, hts⟩ (c_L_draw l G rr g_q8 1000000000 (by omega) H.size) (va_cwS 2 hts gL_isTaxed_L_draw rfl rfl rfl (by decide +kernel) ⟨Nat.le_of_ble_eq_true rfl, Nat.le_of_ble_eq_true rfl⟩) (zpS hKX hP hD [7] rfl rfl) rfl rfl hl.1 rfl (lv_room (Nat.le_of_ble_eq_true rfl)) dL_isTaxed_283 ⟨(by first | exact Nat.le_of_ble_eq_true rfl | (show _ ≤ (58 : Nat); omega)), (by first | exact Nat.le_of_ble_eq_true rfl | (show _ ≤ (408 : Nat); omega))⟩) hP hD hS hA [7] [0, 1, 2, 3, 4, 5, 6] rfl rfl rfl (by decide) (fun z_q9 u_38 H locs h_q9 hP hD hS => ?_)
                    generalize u_38 = g_q9 at hP hD h_q9
                    have hP : va_P G.1 vwCl [(fm, zaL (G.2 0) 8 (f)), (pm, zaI (G.2 1) 8 (gg)), (ro, .inr (5, [.int (iz (md))])), (x, .inr (10, [.ref ro, .ref rw, .ref bo, .ref li, .ref sh, .ref tx, .ref lo, .ref nl])), (tx, .inr (8, [.ref fm, .ref pm, .int (iz (z_mn))])), (fl, zaL (G.2 0) ((z_mn).toNat) (u)), (pl, zaI (G.2 1) ((z_mn).toNat) (v)), (rr, zaI (G.2 1) 2 (g_q9))] H := hP
                    have hD : va_D A [(fm, zaL (G.2 0) 8 (f)), (pm, zaI (G.2 1) 8 (gg)), (ro, .inr (5, [.int (iz (md))])), (x, .inr (10, [.ref ro, .ref rw, .ref bo, .ref li, .ref sh, .ref tx, .ref lo, .ref nl])), (tx, .inr (8, [.ref fm, .ref pm, .int (iz (z_mn))])), (fl, zaL (G.2 0) ((z_mn).toNat) (u)), (pl, zaI (G.2 1) ((z_mn).toNat) (v)), (rr, zaI (G.2 1) 2 (g_q9))] := hD
                    have h_q9 : 0 ≤ z_q9 ∧ z_q9 < (1000000000 : Int) ∧ z_q9 < 268435456 := h_q9
                    refine zr_i2l hx hb (x := z_q9) (⟨by omega, by omega⟩) dL_isTaxed_286 ?_
                    refine zr_ldc2 (z := 1000) hx hb hown (hts (.constantLong RL 240 (1000)) (by decide +kernel)) rfl dL_isTaxed_287 ?_
                    refine zr_lmul hx hb dL_isTaxed_290 ?_
                    refine lv_goto (tgt := 302) hx hb dL_isTaxed_291 (by decide) ?_
                    refine W.widen (k := 40 + 3 * (j).toNat) (n := 300 + 18 * (j).toNat) (by omega) (by omega) ?_
                    exact hl_302 (z_q9 * 1000) g_q9 _ _ _ (by omega) (hP.sub [0, 1, 2, 3, 4, 7, 5, 6] rfl) (hD.sub [0, 1, 2, 3, 4, 7, 5, 6] (by decide) rfl) hS (hl)
                ·
                  refine lv_iload hx hb dL_isTaxed_255 (lv_at hl 3 rfl) ?_
                  refine zr_if_le (x := z_mn) (tgt := 272) hx hb (⟨by omega, by omega⟩) dL_isTaxed_257 (by decide) (fun h_40 => ?_) (fun h_40 => ?_)
                  ·
                    refine lv_aload_n hx hb dL_isTaxed_272 rfl (lv_at hl 7 rfl) ?_
                    refine lv_iconst (v := iz (3)) hx hb dL_isTaxed_273 rfl ?_
                    refine zc_i (wr := [(fm, zaL (G.2 0) 8 (f)), (pm, zaI (G.2 1) 8 (gg)), (ro, .inr (5, [.int (iz (md))])), (x, .inr (10, [.ref ro, .ref rw, .ref bo, .ref li, .ref sh, .ref tx, .ref lo, .ref nl])), (tx, .inr (8, [.ref fm, .ref pm, .int (iz (z_mn))])), (fl, zaL (G.2 0) ((z_mn).toNat) (u)), (pl, zaI (G.2 1) ((z_mn).toNat) (v))]) (va_runS (As := [.ref rr, .int (iz (3))]) (rest := []) ⟨hx, hb, hml, hown, hts⟩ (c_L_draw l G rr g6 3 (by omega) H.size) (va_cwS 2 hts gL_isTaxed_L_draw rfl rfl rfl (by decide +kernel) ⟨Nat.le_of_ble_eq_true rfl, Nat.le_of_ble_eq_true rfl⟩) (zpS hKX hP hD [5] rfl rfl) rfl rfl hl.1 rfl (lv_room (Nat.le_of_ble_eq_true rfl)) dL_isTaxed_274 ⟨(by first | exact Nat.le_of_ble_eq_true rfl | (show _ ≤ (58 : Nat); omega)), (by first | exact Nat.le_of_ble_eq_true rfl | (show _ ≤ (408 : Nat); omega))⟩) hP hD hS hA [5] [0, 1, 2, 3, 4, 6, 7] rfl rfl rfl (by decide) (fun z_q8 u_41 H locs h_q8 hP hD hS => ?_)
                    generalize u_41 = g_q8 at hP hD h_q8
                    have hP : va_P G.1 vwCl [(fm, zaL (G.2 0) 8 (f)), (pm, zaI (G.2 1) 8 (gg)), (ro, .inr (5, [.int (iz (md))])), (x, .inr (10, [.ref ro, .ref rw, .ref bo, .ref li, .ref sh, .ref tx, .ref lo, .ref nl])), (tx, .inr (8, [.ref fm, .ref pm, .int (iz (z_mn))])), (fl, zaL (G.2 0) ((z_mn).toNat) (u)), (pl, zaI (G.2 1) ((z_mn).toNat) (v)), (rr, zaI (G.2 1) 2 (g_q8))] H := hP
                    have hD : va_D A [(fm, zaL (G.2 0) 8 (f)), (pm, zaI (G.2 1) 8 (gg)), (ro, .inr (5, [.int (iz (md))])), (x, .inr (10, [.ref ro, .ref rw, .ref bo, .ref li, .ref sh, .ref tx, .ref lo, .ref nl])), (tx, .inr (8, [.ref fm, .ref pm, .int (iz (z_mn))])), (fl, zaL (G.2 0) ((z_mn).toNat) (u)), (pl, zaI (G.2 1) ((z_mn).toNat) (v)), (rr, zaI (G.2 1) 2 (g_q8))] := hD
                    have h_q8 : 0 ≤ z_q8 ∧ z_q8 < (3 : Int) ∧ z_q8 < 268435456 := h_q8
                    refine zr_if_ne (x := z_q8) (tgt := 294) hx hb (⟨by omega, by omega⟩) dL_isTaxed_277 (by decide) (fun h_43 => ?_) (fun h_43 => ?_)
                    ·
                      refine lv_aload_n hx hb dL_isTaxed_294 rfl (lv_at hl 7 rfl) ?_
                      refine lv_sipush (v := iz (5000)) hx hb dL_isTaxed_295 rfl ?_
                      refine zc_i (wr := [(fm, zaL (G.2 0) 8 (f)), (pm, zaI (G.2 1) 8 (gg)), (ro, .inr (5, [.int (iz (md))])), (x, .inr (10, [.ref ro, .ref rw, .ref bo, .ref li, .ref sh, .ref tx, .ref lo, .ref nl])), (tx, .inr (8, [.ref fm, .ref pm, .int (iz (z_mn))])), (fl, zaL (G.2 0) ((z_mn).toNat) (u)), (pl, zaI (G.2 1) ((z_mn).toNat) (v))]) (va_runS (As := [.ref rr, .int (iz (5000))]) (rest := []) ⟨hx, hb, hml, hown, hts⟩ (c_L_draw l G rr g_q8 5000 (by omega) H.size) (va_cwS 2 hts gL_isTaxed_L_draw rfl rfl rfl (by decide +kernel) ⟨Nat.le_of_ble_eq_true rfl, Nat.le_of_ble_eq_true rfl⟩) (zpS hKX hP hD [7] rfl rfl) rfl rfl hl.1 rfl (lv_room (Nat.le_of_ble_eq_true rfl)) dL_isTaxed_298 ⟨(by first | exact Nat.le_of_ble_eq_true rfl | (show _ ≤ (58 : Nat); omega)), (by first | exact Nat.le_of_ble_eq_true rfl | (show _ ≤ (408 : Nat); omega))⟩) hP hD hS hA [7] [0, 1, 2, 3, 4, 5, 6] rfl rfl rfl (by decide) (fun z_q0 u_44 H locs h_q0 hP hD hS => ?_)
                      generalize u_44 = g_q0 at hP hD h_q0
                      have hP : va_P G.1 vwCl [(fm, zaL (G.2 0) 8 (f)), (pm, zaI (G.2 1) 8 (gg)), (ro, .inr (5, [.int (iz (md))])), (x, .inr (10, [.ref ro, .ref rw, .ref bo, .ref li, .ref sh, .ref tx, .ref lo, .ref nl])), (tx, .inr (8, [.ref fm, .ref pm, .int (iz (z_mn))])), (fl, zaL (G.2 0) ((z_mn).toNat) (u)), (pl, zaI (G.2 1) ((z_mn).toNat) (v)), (rr, zaI (G.2 1) 2 (g_q0))] H := hP
                      have hD : va_D A [(fm, zaL (G.2 0) 8 (f)), (pm, zaI (G.2 1) 8 (gg)), (ro, .inr (5, [.int (iz (md))])), (x, .inr (10, [.ref ro, .ref rw, .ref bo, .ref li, .ref sh, .ref tx, .ref lo, .ref nl])), (tx, .inr (8, [.ref fm, .ref pm, .int (iz (z_mn))])), (fl, zaL (G.2 0) ((z_mn).toNat) (u)), (pl, zaI (G.2 1) ((z_mn).toNat) (v)), (rr, zaI (G.2 1) 2 (g_q0))] := hD
                      have h_q0 : 0 ≤ z_q0 ∧ z_q0 < (5000 : Int) ∧ z_q0 < 268435456 := h_q0
                      refine zr_i2l hx hb (x := z_q0) (⟨by omega, by omega⟩) dL_isTaxed_301 ?_
                      refine W.widen (k := 40 + 3 * (j).toNat) (n := 300 + 18 * (j).toNat) (by omega) (by omega) ?_
                      exact hl_302 z_q0 g_q0 _ _ _ (by omega) (hP.sub [0, 1, 2, 3, 4, 7, 5, 6] rfl) (hD.sub [0, 1, 2, 3, 4, 7, 5, 6] (by decide) rfl) hS (hl)
                    ·
                      refine lv_aload_n hx hb dL_isTaxed_280 rfl (lv_at hl 7 rfl) ?_
                      refine zr_ldc (z := 1000000000) hx hb hown (hts (.constant RL 239 (1000000000)) (by decide +kernel)) rfl dL_isTaxed_281 ?_
                      refine zc_i (wr := [(fm, zaL (G.2 0) 8 (f)), (pm, zaI (G.2 1) 8 (gg)), (ro, .inr (5, [.int (iz (md))])), (x, .inr (10, [.ref ro, .ref rw, .ref bo, .ref li, .ref sh, .ref tx, .ref lo, .ref nl])), (tx, .inr (8, [.ref fm, .ref pm, .int (iz (z_mn))])), (fl, zaL (G.2 0) ((z_mn).toNat) (u)), (pl, zaI (G.2 1) ((z_mn).toNat) (v))]) (va_runS (As := [.ref rr, .int (iz (1000000000))]) (rest := []) ⟨hx, hb, hml, hown, hts⟩ (c_L_draw l G rr g_q8 1000000000 (by omega) H.size) (va_cwS 2 hts gL_isTaxed_L_draw rfl rfl rfl (by decide +kernel) ⟨Nat.le_of_ble_eq_true rfl, Nat.le_of_ble_eq_true rfl⟩) (zpS hKX hP hD [7] rfl rfl) rfl rfl hl.1 rfl (lv_room (Nat.le_of_ble_eq_true rfl)) dL_isTaxed_283 ⟨(by first | exact Nat.le_of_ble_eq_true rfl | (show _ ≤ (58 : Nat); omega)), (by first | exact Nat.le_of_ble_eq_true rfl | (show _ ≤ (408 : Nat); omega))⟩) hP hD hS hA [7] [0, 1, 2, 3, 4, 5, 6] rfl rfl rfl (by decide) (fun z_q9 u_46 H locs h_q9 hP hD hS => ?_)
                      generalize u_46 = g_q9 at hP hD h_q9
                      have hP : va_P G.1 vwCl [(fm, zaL (G.2 0) 8 (f)), (pm, zaI (G.2 1) 8 (gg)), (ro, .inr (5, [.int (iz (md))])), (x, .inr (10, [.ref ro, .ref rw, .ref bo, .ref li, .ref sh, .ref tx, .ref lo, .ref nl])), (tx, .inr (8, [.ref fm, .ref pm, .int (iz (z_mn))])), (fl, zaL (G.2 0) ((z_mn).toNat) (u)), (pl, zaI (G.2 1) ((z_mn).toNat) (v)), (rr, zaI (G.2 1) 2 (g_q9))] H := hP
                      have hD : va_D A [(fm, zaL (G.2 0) 8 (f)), (pm, zaI (G.2 1) 8 (gg)), (ro, .inr (5, [.int (iz (md))])), (x, .inr (10, [.ref ro, .ref rw, .ref bo, .ref li, .ref sh, .ref tx, .ref lo, .ref nl])), (tx, .inr (8, [.ref fm, .ref pm, .int (iz (z_mn))])), (fl, zaL (G.2 0) ((z_mn).toNat) (u)), (pl, zaI (G.2 1) ((z_mn).toNat) (v)), (rr, zaI (G.2 1) 2 (g_q9))] := hD
                      have h_q9 : 0 ≤ z_q9 ∧ z_q9 < (1000000000 : Int) ∧ z_q9 < 268435456 := h_q9
                      refine zr_i2l hx hb (x := z_q9) (⟨by omega, by omega⟩) dL_isTaxed_286 ?_
                      refine zr_ldc2 (z := 1000) hx hb hown (hts (.constantLong RL 240 (1000)) (by decide +kernel)) rfl dL_isTaxed_287 ?_
                      refine zr_lmul hx hb dL_isTaxed_290 ?_
                      refine lv_goto (tgt := 302) hx hb dL_isTaxed_291 (by decide) ?_
                      refine W.widen (k := 40 + 3 * (j).toNat) (n := 300 + 18 * (j).toNat) (by omega) (by omega) ?_
                      exact hl_302 (z_q9 * 1000) g_q9 _ _ _ (by omega) (hP.sub [0, 1, 2, 3, 4, 7, 5, 6] rfl) (hD.sub [0, 1, 2, 3, 4, 7, 5, 6] (by decide) rfl) hS (hl)
                  ·
                    refine lv_aload hx hb dL_isTaxed_260 (lv_at hl 2 rfl) ?_
                    refine lv_aload_n hx hb dL_isTaxed_262 rfl (lv_at hl 7 rfl) ?_
                    refine lv_iload hx hb dL_isTaxed_263 (lv_at hl 3 rfl) ?_
                    refine zc_i (wr := [(fm, zaL (G.2 0) 8 (f)), (pm, zaI (G.2 1) 8 (gg)), (ro, .inr (5, [.int (iz (md))])), (x, .inr (10, [.ref ro, .ref rw, .ref bo, .ref li, .ref sh, .ref tx, .ref lo, .ref nl])), (tx, .inr (8, [.ref fm, .ref pm, .int (iz (z_mn))])), (fl, zaL (G.2 0) ((z_mn).toNat) (u)), (pl, zaI (G.2 1) ((z_mn).toNat) (v))]) (va_runS (As := [.ref rr, .int (iz (z_mn))]) (rest := [.ref fl]) ⟨hx, hb, hml, hown, hts⟩ (c_L_draw l G rr g6 z_mn (by omega) H.size) (va_cwS 2 hts gL_isTaxed_L_draw rfl rfl rfl (by decide +kernel) ⟨Nat.le_of_ble_eq_true rfl, Nat.le_of_ble_eq_true rfl⟩) (zpS hKX hP hD [5] rfl rfl) rfl rfl hl.1 rfl (lv_room (Nat.le_of_ble_eq_true rfl)) dL_isTaxed_265 ⟨(by first | exact Nat.le_of_ble_eq_true rfl | (show _ ≤ (58 : Nat); omega)), (by first | exact Nat.le_of_ble_eq_true rfl | (show _ ≤ (408 : Nat); omega))⟩) hP hD hS hA [5] [0, 1, 2, 3, 4, 6, 7] rfl rfl rfl (by decide) (fun z_q7 u_48 H locs h_q7 hP hD hS => ?_)
                    generalize u_48 = g_q7 at hP hD h_q7
                    have hP : va_P G.1 vwCl [(fm, zaL (G.2 0) 8 (f)), (pm, zaI (G.2 1) 8 (gg)), (ro, .inr (5, [.int (iz (md))])), (x, .inr (10, [.ref ro, .ref rw, .ref bo, .ref li, .ref sh, .ref tx, .ref lo, .ref nl])), (tx, .inr (8, [.ref fm, .ref pm, .int (iz (z_mn))])), (fl, zaL (G.2 0) ((z_mn).toNat) (u)), (pl, zaI (G.2 1) ((z_mn).toNat) (v)), (rr, zaI (G.2 1) 2 (g_q7))] H := hP
                    have hD : va_D A [(fm, zaL (G.2 0) 8 (f)), (pm, zaI (G.2 1) 8 (gg)), (ro, .inr (5, [.int (iz (md))])), (x, .inr (10, [.ref ro, .ref rw, .ref bo, .ref li, .ref sh, .ref tx, .ref lo, .ref nl])), (tx, .inr (8, [.ref fm, .ref pm, .int (iz (z_mn))])), (fl, zaL (G.2 0) ((z_mn).toNat) (u)), (pl, zaI (G.2 1) ((z_mn).toNat) (v)), (rr, zaI (G.2 1) 2 (g_q7))] := hD
                    have h_q7 : 0 ≤ z_q7 ∧ z_q7 < z_mn ∧ z_q7 < 268435456 := h_q7
                    have hsu7 := hsu.2 z_q7 (by omega) (by omega)
                    refine zr_lald hx hb hK hP 5 0 rfl rfl (i := z_q7) (⟨by omega, by omega, by omega⟩) dL_isTaxed_268 ?_
                    refine lv_goto (tgt := 302) hx hb dL_isTaxed_269 (by decide) ?_
                    refine W.widen (k := 40 + 3 * (j).toNat) (n := 300 + 18 * (j).toNat) (by omega) (by omega) ?_
                    exact hl_302 (u z_q7) g_q7 _ _ _ (by omega) (hP.sub [0, 1, 2, 3, 4, 7, 5, 6] rfl) (hD.sub [0, 1, 2, 3, 4, 7, 5, 6] (by decide) rfl) hS (hl)
          refine W.widen (k := 40 + 3 * ((0 : Int)).toNat) (n := 300 + 18 * ((0 : Int)).toNat) (by omega) (by omega) ?_
          exact hl_243 ((6 - 0 : Int).toNat + 1) 0 g1 _ _ _ (Nat.lt_succ_self _) (by omega) (hP) (hD) hS (hl)
        refine zr_if_le (x := z_mn) (tgt := 240) hx hb (⟨by omega, by omega⟩) dL_isTaxed_156 (by decide) (fun h_50 => ?_) (fun h_50 => ?_)
        ·
          refine W.widen (k := 40) (n := 300) (by omega) (by omega) ?_
          exact hl_240  _ _ _  (hP) (hD) hS (hl)
        ·
          refine lv_aload_n hx hb dL_isTaxed_159 rfl (lv_at hl 6 rfl) ?_
          refine lv_bipush (v := iz (19)) hx hb dL_isTaxed_160 rfl ?_
          have hsu0 := (hsm (z_mn - 1) (by omega) (by omega)).1
          have hst0 := hst.2 (z_mn - 1) (by omega) (by omega)
          refine lv_aload hx hb dL_isTaxed_162 (lv_at hl 2 rfl) ?_
          refine lv_iload hx hb dL_isTaxed_164 (lv_at hl 3 rfl) ?_
          refine lv_iconst (v := iz (1)) hx hb dL_isTaxed_166 rfl ?_
          refine zr_isub hx hb dL_isTaxed_167 ?_
          refine zr_lald hx hb hK hP 6 0 rfl rfl (i := z_mn - 1) (⟨by omega, by omega, by omega⟩) dL_isTaxed_168 ?_
          refine lv_iconst (v := iz (5)) hx hb dL_isTaxed_169 rfl ?_
          refine lv_iconst (v := iz (0)) hx hb dL_isTaxed_170 rfl ?_
          refine zc_l (wr := [(ro, .inr (5, [.int (iz (md))])), (rr, zaI (G.2 1) 2 (g1)), (fl, zaL (G.2 0) ((z_mn).toNat) (u)), (pl, zaI (G.2 1) ((z_mn).toNat) (v))]) (vx_runSW (As := [.ref x, .int (iz (19)), .long (lz (u (z_mn - 1))), .int (iz (5)), .int (iz (0))]) (rest := []) ⟨hx, hb, hml, hown, hts⟩ (c_L_asks_19 l G s1 s2 s3 x ro rw bo li sh tx lo nl fm pm f gg z_mn (u (z_mn - 1)) 5 0 hl0 (hst) (fun q => by have q1 := q.1.1.1; rw [if_neg (by omega)] at q1; omega) (by omega) (by omega) (by omega) H.size) (vx_cwSW 5 hts gL_isTaxed_L_asks rfl rfl rfl (by decide +kernel) ⟨Nat.le_of_ble_eq_true rfl, Nat.le_of_ble_eq_true rfl⟩) (zpSe zXM_ok hE hS hA hKX hP hD [3, 4, 0, 1] rfl rfl) rfl rfl hl.1 rfl (lv_room (Nat.le_of_ble_eq_true rfl)) dL_isTaxed_171 ⟨(by first | exact Nat.le_of_ble_eq_true rfl | (show _ ≤ (58 : Nat); omega)), (by first | exact Nat.le_of_ble_eq_true rfl | (show _ ≤ (408 : Nat); omega))⟩) hP hD hS hA [3, 4, 0, 1] [2, 5, 6, 7] rfl rfl rfl (by decide) (fun a1 u_51 H locs ha1 hP hD hS => ?_)
          have hP : va_P G.1 vwCl [(ro, .inr (5, [.int (iz (md))])), (rr, zaI (G.2 1) 2 (g1)), (fl, zaL (G.2 0) ((z_mn).toNat) (u)), (pl, zaI (G.2 1) ((z_mn).toNat) (v)), (x, .inr (10, [.ref ro, .ref rw, .ref bo, .ref li, .ref sh, .ref tx, .ref lo, .ref nl])), (tx, .inr (8, [.ref fm, .ref pm, .int (iz (z_mn))])), (fm, zaL (G.2 0) 8 (f)), (pm, zaI (G.2 1) 8 (gg))] H := hP
          have hD : va_D A [(ro, .inr (5, [.int (iz (md))])), (rr, zaI (G.2 1) 2 (g1)), (fl, zaL (G.2 0) ((z_mn).toNat) (u)), (pl, zaI (G.2 1) ((z_mn).toNat) (v)), (x, .inr (10, [.ref ro, .ref rw, .ref bo, .ref li, .ref sh, .ref tx, .ref lo, .ref nl])), (tx, .inr (8, [.ref fm, .ref pm, .int (iz (z_mn))])), (fm, zaL (G.2 0) 8 (f)), (pm, zaI (G.2 1) 8 (gg))] := hD
          have ha1 : ((False) ∨ (a1 = -4000000000000000003 ∧ (¬ (((if z_mn = 0 then 0 else f (z_mn - 1) + 1) ≤ (u (z_mn - 1)) ∧ (u (z_mn - 1)) ≤ 1000000000) ∧ 0 ≤ (5 : Int) ∧ (5 : Int) ≤ 1000)))) ∨ (a1 = -4000000000000000004 ∧ ((((if z_mn = 0 then 0 else f (z_mn - 1) + 1) ≤ (u (z_mn - 1)) ∧ (u (z_mn - 1)) ≤ 1000000000) ∧ 0 ≤ (5 : Int) ∧ (5 : Int) ≤ 1000) ∧ ¬ z_mn < 8)) := ha1
          have ha1z := zref_na ha1 (fun q => by have q1 := q.1.1.1; rw [if_neg (by omega)] at q1; omega)
          refine zr_ldc2 (z := -4000000000000000003) hx hb hown (hts (.constantLong RL 127 (-4000000000000000003)) (by decide +kernel)) rfl dL_isTaxed_174 ?_
          refine zr_lcmp_ne (x := a1) (y := -4000000000000000003) (tgt := 238) hx hb (⟨by omega, by omega⟩) (⟨by omega, by omega⟩) dL_isTaxed_177 dL_isTaxed_178 (by decide) (fun h_53 => ?_) (fun h_53 => ?_)
          · exact absurd h_53 (not_not_intro ha1z)
          ·
            refine lv_aload_n hx hb dL_isTaxed_181 rfl (lv_at hl 6 rfl) ?_
            refine lv_bipush (v := iz (19)) hx hb dL_isTaxed_182 rfl ?_
            refine lv_aload hx hb dL_isTaxed_184 (lv_at hl 2 rfl) ?_
            refine lv_iload hx hb dL_isTaxed_186 (lv_at hl 3 rfl) ?_
            refine lv_iconst (v := iz (1)) hx hb dL_isTaxed_188 rfl ?_
            refine zr_isub hx hb dL_isTaxed_189 ?_
            refine zr_lald hx hb hK hP 2 0 rfl rfl (i := z_mn - 1) (⟨by omega, by omega, by omega⟩) dL_isTaxed_190 ?_
            refine lv_lconst (v := lz (1)) hx hb dL_isTaxed_191 rfl ?_
            refine zr_ladd hx hb dL_isTaxed_192 ?_
            refine lv_sipush (v := iz (1001)) hx hb dL_isTaxed_193 rfl ?_
            refine lv_iconst (v := iz (0)) hx hb dL_isTaxed_196 rfl ?_
            refine zc_l (wr := [(ro, .inr (5, [.int (iz (md))])), (rr, zaI (G.2 1) 2 (g1)), (fl, zaL (G.2 0) ((z_mn).toNat) (u)), (pl, zaI (G.2 1) ((z_mn).toNat) (v))]) (vx_runSW (As := [.ref x, .int (iz (19)), .long (lz ((u (z_mn - 1)) + 1)), .int (iz (1001)), .int (iz (0))]) (rest := []) ⟨hx, hb, hml, hown, hts⟩ (c_L_asks_19 l G s1 s2 s3 x ro rw bo li sh tx lo nl fm pm f gg z_mn ((u (z_mn - 1)) + 1) 1001 0 hl0 (hst) (fun q => by have q1 := q.1.2.2; omega) (by omega) (by omega) (by omega) H.size) (vx_cwSW 5 hts gL_isTaxed_L_asks rfl rfl rfl (by decide +kernel) ⟨Nat.le_of_ble_eq_true rfl, Nat.le_of_ble_eq_true rfl⟩) (zpSe zXM_ok hE hS hA hKX hP hD [4, 5, 6, 7] rfl rfl) rfl rfl hl.1 rfl (lv_room (Nat.le_of_ble_eq_true rfl)) dL_isTaxed_197 ⟨(by first | exact Nat.le_of_ble_eq_true rfl | (show _ ≤ (58 : Nat); omega)), (by first | exact Nat.le_of_ble_eq_true rfl | (show _ ≤ (408 : Nat); omega))⟩) hP hD hS hA [4, 5, 6, 7] [0, 1, 2, 3] rfl rfl rfl (by decide) (fun a2 u_54 H locs ha2 hP hD hS => ?_)
            have hP : va_P G.1 vwCl [(ro, .inr (5, [.int (iz (md))])), (rr, zaI (G.2 1) 2 (g1)), (fl, zaL (G.2 0) ((z_mn).toNat) (u)), (pl, zaI (G.2 1) ((z_mn).toNat) (v)), (x, .inr (10, [.ref ro, .ref rw, .ref bo, .ref li, .ref sh, .ref tx, .ref lo, .ref nl])), (tx, .inr (8, [.ref fm, .ref pm, .int (iz (z_mn))])), (fm, zaL (G.2 0) 8 (f)), (pm, zaI (G.2 1) 8 (gg))] H := hP
            have hD : va_D A [(ro, .inr (5, [.int (iz (md))])), (rr, zaI (G.2 1) 2 (g1)), (fl, zaL (G.2 0) ((z_mn).toNat) (u)), (pl, zaI (G.2 1) ((z_mn).toNat) (v)), (x, .inr (10, [.ref ro, .ref rw, .ref bo, .ref li, .ref sh, .ref tx, .ref lo, .ref nl])), (tx, .inr (8, [.ref fm, .ref pm, .int (iz (z_mn))])), (fm, zaL (G.2 0) 8 (f)), (pm, zaI (G.2 1) 8 (gg))] := hD
            have ha2 : ((False) ∨ (a2 = -4000000000000000003 ∧ (¬ (((if z_mn = 0 then 0 else f (z_mn - 1) + 1) ≤ ((u (z_mn - 1)) + 1) ∧ ((u (z_mn - 1)) + 1) ≤ 1000000000) ∧ 0 ≤ (1001 : Int) ∧ (1001 : Int) ≤ 1000)))) ∨ (a2 = -4000000000000000004 ∧ ((((if z_mn = 0 then 0 else f (z_mn - 1) + 1) ≤ ((u (z_mn - 1)) + 1) ∧ ((u (z_mn - 1)) + 1) ≤ 1000000000) ∧ 0 ≤ (1001 : Int) ∧ (1001 : Int) ≤ 1000) ∧ ¬ z_mn < 8)) := ha2
            have ha2z := zref_na ha2 (fun q => by have q1 := q.1.2.2; omega)
            refine zr_ldc2 (z := -4000000000000000003) hx hb hown (hts (.constantLong RL 127 (-4000000000000000003)) (by decide +kernel)) rfl dL_isTaxed_200 ?_
            refine zr_lcmp_ne (x := a2) (y := -4000000000000000003) (tgt := 238) hx hb (⟨by omega, by omega⟩) (⟨by omega, by omega⟩) dL_isTaxed_203 dL_isTaxed_204 (by decide) (fun h_56 => ?_) (fun h_56 => ?_)
            · exact absurd h_56 (not_not_intro ha2z)
            ·
              refine lv_iload hx hb dL_isTaxed_207 (lv_at hl 3 rfl) ?_
              refine lv_bipush (v := iz (8)) hx hb dL_isTaxed_209 rfl ?_
              refine zr_icmp_ne (x := z_mn) (y := 8) (tgt := 240) hx hb (⟨by omega, by omega⟩) (⟨by omega, by omega⟩) dL_isTaxed_211 (by decide) (fun h_57 => ?_) (fun h_57 => ?_)
              ·
                refine W.widen (k := 40) (n := 300) (by omega) (by omega) ?_
                exact hl_240  _ _ _  (hP.sub [6, 7, 0, 4, 5, 1, 2, 3] rfl) (hD.sub [6, 7, 0, 4, 5, 1, 2, 3] (by decide) rfl) hS (hl)
              ·
                refine lv_aload_n hx hb dL_isTaxed_214 rfl (lv_at hl 6 rfl) ?_
                refine lv_bipush (v := iz (19)) hx hb dL_isTaxed_215 rfl ?_
                refine lv_aload hx hb dL_isTaxed_217 (lv_at hl 2 rfl) ?_
                refine lv_iload hx hb dL_isTaxed_219 (lv_at hl 3 rfl) ?_
                refine lv_iconst (v := iz (1)) hx hb dL_isTaxed_221 rfl ?_
                refine zr_isub hx hb dL_isTaxed_222 ?_
                refine zr_lald hx hb hK hP 2 0 rfl rfl (i := z_mn - 1) (⟨by omega, by omega, by omega⟩) dL_isTaxed_223 ?_
                refine lv_lconst (v := lz (1)) hx hb dL_isTaxed_224 rfl ?_
                refine zr_ladd hx hb dL_isTaxed_225 ?_
                refine lv_iconst (v := iz (5)) hx hb dL_isTaxed_226 rfl ?_
                refine lv_iconst (v := iz (0)) hx hb dL_isTaxed_227 rfl ?_
                refine zc_l (wr := [(ro, .inr (5, [.int (iz (md))])), (rr, zaI (G.2 1) 2 (g1)), (fl, zaL (G.2 0) ((z_mn).toNat) (u)), (pl, zaI (G.2 1) ((z_mn).toNat) (v))]) (vx_runSW (As := [.ref x, .int (iz (19)), .long (lz ((u (z_mn - 1)) + 1)), .int (iz (5)), .int (iz (0))]) (rest := []) ⟨hx, hb, hml, hown, hts⟩ (c_L_asks_19 l G s1 s2 s3 x ro rw bo li sh tx lo nl fm pm f gg z_mn ((u (z_mn - 1)) + 1) 5 0 hl0 (hst) (fun q => absurd q.2 (by omega)) (by omega) (by omega) (by omega) H.size) (vx_cwSW 5 hts gL_isTaxed_L_asks rfl rfl rfl (by decide +kernel) ⟨Nat.le_of_ble_eq_true rfl, Nat.le_of_ble_eq_true rfl⟩) (zpSe zXM_ok hE hS hA hKX hP hD [4, 5, 6, 7] rfl rfl) rfl rfl hl.1 rfl (lv_room (Nat.le_of_ble_eq_true rfl)) dL_isTaxed_228 ⟨(by first | exact Nat.le_of_ble_eq_true rfl | (show _ ≤ (58 : Nat); omega)), (by first | exact Nat.le_of_ble_eq_true rfl | (show _ ≤ (408 : Nat); omega))⟩) hP hD hS hA [4, 5, 6, 7] [0, 1, 2, 3] rfl rfl rfl (by decide) (fun a3 u_58 H locs ha3 hP hD hS => ?_)
                have hP : va_P G.1 vwCl [(ro, .inr (5, [.int (iz (md))])), (rr, zaI (G.2 1) 2 (g1)), (fl, zaL (G.2 0) ((z_mn).toNat) (u)), (pl, zaI (G.2 1) ((z_mn).toNat) (v)), (x, .inr (10, [.ref ro, .ref rw, .ref bo, .ref li, .ref sh, .ref tx, .ref lo, .ref nl])), (tx, .inr (8, [.ref fm, .ref pm, .int (iz (z_mn))])), (fm, zaL (G.2 0) 8 (f)), (pm, zaI (G.2 1) 8 (gg))] H := hP
                have hD : va_D A [(ro, .inr (5, [.int (iz (md))])), (rr, zaI (G.2 1) 2 (g1)), (fl, zaL (G.2 0) ((z_mn).toNat) (u)), (pl, zaI (G.2 1) ((z_mn).toNat) (v)), (x, .inr (10, [.ref ro, .ref rw, .ref bo, .ref li, .ref sh, .ref tx, .ref lo, .ref nl])), (tx, .inr (8, [.ref fm, .ref pm, .int (iz (z_mn))])), (fm, zaL (G.2 0) 8 (f)), (pm, zaI (G.2 1) 8 (gg))] := hD
                have ha3 : ((False) ∨ (a3 = -4000000000000000003 ∧ (¬ (((if z_mn = 0 then 0 else f (z_mn - 1) + 1) ≤ ((u (z_mn - 1)) + 1) ∧ ((u (z_mn - 1)) + 1) ≤ 1000000000) ∧ 0 ≤ (5 : Int) ∧ (5 : Int) ≤ 1000)))) ∨ (a3 = -4000000000000000004 ∧ ((((if z_mn = 0 then 0 else f (z_mn - 1) + 1) ≤ ((u (z_mn - 1)) + 1) ∧ ((u (z_mn - 1)) + 1) ≤ 1000000000) ∧ 0 ≤ (5 : Int) ∧ (5 : Int) ≤ 1000) ∧ ¬ z_mn < 8)) := ha3
                have ha3z := zref_re ha3 (not_not_intro ⟨⟨by rw [if_neg (by omega)]; omega, by omega⟩, by omega, by omega⟩)
                refine zr_ldc2 (z := -4000000000000000004) hx hb hown (hts (.constantLong RL 131 (-4000000000000000004)) (by decide +kernel)) rfl dL_isTaxed_231 ?_
                refine zr_lcmp_eq (x := a3) (y := -4000000000000000004) (tgt := 240) hx hb (⟨by omega, by omega⟩) (⟨by omega, by omega⟩) dL_isTaxed_234 dL_isTaxed_235 (by decide) (fun h_60 => ?_) (fun h_60 => ?_)
                ·
                  refine W.widen (k := 40) (n := 300) (by omega) (by omega) ?_
                  exact hl_240  _ _ _  (hP.sub [6, 7, 0, 4, 5, 1, 2, 3] rfl) (hD.sub [6, 7, 0, 4, 5, 1, 2, 3] (by decide) rfl) hS (hl)
                · exact absurd h_60 (not_not_intro ha3z)
      ·
        refine lv_aload hx hb dL_isTaxed_40 (lv_at hl 2 rfl) ?_
        refine lv_iload hx hb dL_isTaxed_42 (lv_at hl 0 rfl) ?_
        refine lv_iload hx hb dL_isTaxed_44 (lv_at hl 0 rfl) ?_
        have hl_97 : ∀ (fv : Int) (g3 : Int → Int) (H : Heap) (locs : List Loc) (ls : Array Slot), ((k = 0 ∧ 0 ≤ fv ∧ fv ≤ 1000) ∨ (0 < k ∧ u (k - 1) + 1 ≤ fv ∧ fv ≤ u (k - 1) + 100000000)) → va_P G.1 vwCl [(fm, zaL (G.2 0) 8 (f)), (pm, zaI (G.2 1) 8 (gg)), (ro, .inr (5, [.int (iz (md))])), (x, .inr (10, [.ref ro, .ref rw, .ref bo, .ref li, .ref sh, .ref tx, .ref lo, .ref nl])), (tx, .inr (8, [.ref fm, .ref pm, .int (iz (k))])), (rr, zaI (G.2 1) 2 (g3)), (fl, zaL (G.2 0) ((z_mn).toNat) (u)), (pl, zaI (G.2 1) ((z_mn).toNat) (v))] H → va_D A [(fm, zaL (G.2 0) 8 (f)), (pm, zaI (G.2 1) 8 (gg)), (ro, .inr (5, [.int (iz (md))])), (x, .inr (10, [.ref ro, .ref rw, .ref bo, .ref li, .ref sh, .ref tx, .ref lo, .ref nl])), (tx, .inr (8, [.ref fm, .ref pm, .int (iz (k))])), (rr, zaI (G.2 1) 2 (g3)), (fl, zaL (G.2 0) ((z_mn).toNat) (u)), (pl, zaI (G.2 1) ((z_mn).toNat) (v))] → va_S A s.heap H locs → lv_has ls 14 [(7, .int (iz (k))), (6, .ref pl), (5, .ref fl), (4, .int (iz (z_mn))), (3, .int (iz (z6))), (2, .int (iz (m9))), (0, .ref x), (1, .ref rr)] → W p l e rm_c_L_isTaxed2 s m ([.ref x, .ref rr] : List Value).toArray below meth c H locs (2 + 3 * (k).toNat) (16 + 18 * (k).toNat) Q (F0 m 97 ls [.long (lz (fv)), .int (iz (k)), .ref fl]) := by
          intro fv g3 H locs ls jf hP hD hS hl
          have hfvr : 0 ≤ fv ∧ fv ≤ 1000 + 100000000 * (k + 1) := by rcases hlast with q | q <;> omega
          have hfvn : (if k = 0 then 0 else f (k - 1) + 1) ≤ fv := if q : k = 0 then (by rw [if_pos q]; omega) else (by rw [if_neg q]; have := (hsm (k - 1) (by omega) (by omega)).1; omega)
          refine zr_last hx hb hK hP hD hS 6 0 rfl rfl (i := k) (x := fv) (⟨by omega, by omega, by omega⟩) dL_isTaxed_97 (fun H locs hP hD hS => ?_)
          have hP : va_P G.1 vwCl [(fm, zaL (G.2 0) 8 (f)), (pm, zaI (G.2 1) 8 (gg)), (ro, .inr (5, [.int (iz (md))])), (x, .inr (10, [.ref ro, .ref rw, .ref bo, .ref li, .ref sh, .ref tx, .ref lo, .ref nl])), (tx, .inr (8, [.ref fm, .ref pm, .int (iz (k))])), (rr, zaI (G.2 1) 2 (g3)), (fl, zaL (G.2 0) ((z_mn).toNat) (zup u k fv)), (pl, zaI (G.2 1) ((z_mn).toNat) (v))] H := hP
          have hD : va_D A [(fm, zaL (G.2 0) 8 (f)), (pm, zaI (G.2 1) 8 (gg)), (ro, .inr (5, [.int (iz (md))])), (x, .inr (10, [.ref ro, .ref rw, .ref bo, .ref li, .ref sh, .ref tx, .ref lo, .ref nl])), (tx, .inr (8, [.ref fm, .ref pm, .int (iz (k))])), (rr, zaI (G.2 1) 2 (g3)), (fl, zaL (G.2 0) ((z_mn).toNat) (zup u k fv)), (pl, zaI (G.2 1) ((z_mn).toNat) (v))] := hD
          refine lv_aload hx hb dL_isTaxed_98 (lv_at hl 1 rfl) ?_
          refine lv_iload hx hb dL_isTaxed_100 (lv_at hl 0 rfl) ?_
          refine lv_aload_n hx hb dL_isTaxed_102 rfl (lv_at hl 7 rfl) ?_
          refine lv_bipush (v := iz (6)) hx hb dL_isTaxed_103 rfl ?_
          refine zc_i (wr := [(fm, zaL (G.2 0) 8 (f)), (pm, zaI (G.2 1) 8 (gg)), (ro, .inr (5, [.int (iz (md))])), (x, .inr (10, [.ref ro, .ref rw, .ref bo, .ref li, .ref sh, .ref tx, .ref lo, .ref nl])), (tx, .inr (8, [.ref fm, .ref pm, .int (iz (k))])), (fl, zaL (G.2 0) ((z_mn).toNat) (zup u k fv)), (pl, zaI (G.2 1) ((z_mn).toNat) (v))]) (va_runS (As := [.ref rr, .int (iz (6))]) (rest := [.int (iz (k)), .ref pl]) ⟨hx, hb, hml, hown, hts⟩ (c_L_draw l G rr g3 6 (by omega) H.size) (va_cwS 2 hts gL_isTaxed_L_draw rfl rfl rfl (by decide +kernel) ⟨Nat.le_of_ble_eq_true rfl, Nat.le_of_ble_eq_true rfl⟩) (zpS hKX hP hD [5] rfl rfl) rfl rfl hl.1 rfl (lv_room (Nat.le_of_ble_eq_true rfl)) dL_isTaxed_105 ⟨(by first | exact Nat.le_of_ble_eq_true rfl | (show _ ≤ (58 : Nat); omega)), (by first | exact Nat.le_of_ble_eq_true rfl | (show _ ≤ (408 : Nat); omega))⟩) hP hD hS hA [5] [0, 1, 2, 3, 4, 6, 7] rfl rfl rfl (by decide) (fun z_q5 u_61 H locs h_q5 hP hD hS => ?_)
          generalize u_61 = g_q5 at hP hD h_q5
          have hP : va_P G.1 vwCl [(fm, zaL (G.2 0) 8 (f)), (pm, zaI (G.2 1) 8 (gg)), (ro, .inr (5, [.int (iz (md))])), (x, .inr (10, [.ref ro, .ref rw, .ref bo, .ref li, .ref sh, .ref tx, .ref lo, .ref nl])), (tx, .inr (8, [.ref fm, .ref pm, .int (iz (k))])), (fl, zaL (G.2 0) ((z_mn).toNat) (zup u k fv)), (pl, zaI (G.2 1) ((z_mn).toNat) (v)), (rr, zaI (G.2 1) 2 (g_q5))] H := hP
          have hD : va_D A [(fm, zaL (G.2 0) 8 (f)), (pm, zaI (G.2 1) 8 (gg)), (ro, .inr (5, [.int (iz (md))])), (x, .inr (10, [.ref ro, .ref rw, .ref bo, .ref li, .ref sh, .ref tx, .ref lo, .ref nl])), (tx, .inr (8, [.ref fm, .ref pm, .int (iz (k))])), (fl, zaL (G.2 0) ((z_mn).toNat) (zup u k fv)), (pl, zaI (G.2 1) ((z_mn).toNat) (v)), (rr, zaI (G.2 1) 2 (g_q5))] := hD
          have h_q5 : 0 ≤ z_q5 ∧ z_q5 < (6 : Int) ∧ z_q5 < 268435456 := h_q5
          have hl_124 : ∀ (pv : Int) (g5 : Int → Int) (H : Heap) (locs : List Loc) (ls : Array Slot), (0 ≤ pv ∧ pv ≤ 1000) → va_P G.1 vwCl [(fm, zaL (G.2 0) 8 (f)), (pm, zaI (G.2 1) 8 (gg)), (ro, .inr (5, [.int (iz (md))])), (x, .inr (10, [.ref ro, .ref rw, .ref bo, .ref li, .ref sh, .ref tx, .ref lo, .ref nl])), (tx, .inr (8, [.ref fm, .ref pm, .int (iz (k))])), (fl, zaL (G.2 0) ((z_mn).toNat) (zup u k fv)), (pl, zaI (G.2 1) ((z_mn).toNat) (v)), (rr, zaI (G.2 1) 2 (g5))] H → va_D A [(fm, zaL (G.2 0) 8 (f)), (pm, zaI (G.2 1) 8 (gg)), (ro, .inr (5, [.int (iz (md))])), (x, .inr (10, [.ref ro, .ref rw, .ref bo, .ref li, .ref sh, .ref tx, .ref lo, .ref nl])), (tx, .inr (8, [.ref fm, .ref pm, .int (iz (k))])), (fl, zaL (G.2 0) ((z_mn).toNat) (zup u k fv)), (pl, zaI (G.2 1) ((z_mn).toNat) (v)), (rr, zaI (G.2 1) 2 (g5))] → va_S A s.heap H locs → lv_has ls 14 [(7, .int (iz (k))), (6, .ref pl), (5, .ref fl), (4, .int (iz (z_mn))), (3, .int (iz (z6))), (2, .int (iz (m9))), (0, .ref x), (1, .ref rr)] → W p l e rm_c_L_isTaxed2 s m ([.ref x, .ref rr] : List Value).toArray below meth c H locs (2 + 3 * (k).toNat + 0) (16 + 18 * (k).toNat + 0) Q (F0 m 124 ls [.int (iz (pv)), .int (iz (k)), .ref pl]) := by
            intro pv g5 H locs ls jp hP hD hS hl
            refine zr_iast hx hb hK hP hD hS 6 1 rfl rfl (i := k) (x := pv) (⟨by omega, by omega, by omega⟩) dL_isTaxed_124 (fun H locs hP hD hS => ?_)
            have hP : va_P G.1 vwCl [(fm, zaL (G.2 0) 8 (f)), (pm, zaI (G.2 1) 8 (gg)), (ro, .inr (5, [.int (iz (md))])), (x, .inr (10, [.ref ro, .ref rw, .ref bo, .ref li, .ref sh, .ref tx, .ref lo, .ref nl])), (tx, .inr (8, [.ref fm, .ref pm, .int (iz (k))])), (fl, zaL (G.2 0) ((z_mn).toNat) (zup u k fv)), (pl, zaI (G.2 1) ((z_mn).toNat) (zup v k pv)), (rr, zaI (G.2 1) 2 (g5))] H := hP
            have hD : va_D A [(fm, zaL (G.2 0) 8 (f)), (pm, zaI (G.2 1) 8 (gg)), (ro, .inr (5, [.int (iz (md))])), (x, .inr (10, [.ref ro, .ref rw, .ref bo, .ref li, .ref sh, .ref tx, .ref lo, .ref nl])), (tx, .inr (8, [.ref fm, .ref pm, .int (iz (k))])), (fl, zaL (G.2 0) ((z_mn).toNat) (zup u k fv)), (pl, zaI (G.2 1) ((z_mn).toNat) (zup v k pv)), (rr, zaI (G.2 1) 2 (g5))] := hD
            refine lv_aload_n hx hb dL_isTaxed_125 rfl (lv_at hl 6 rfl) ?_
            refine lv_aload hx hb dL_isTaxed_126 (lv_at hl 2 rfl) ?_
            refine lv_iload hx hb dL_isTaxed_128 (lv_at hl 0 rfl) ?_
            refine zr_lald hx hb hK hP 5 0 rfl rfl (i := k) (⟨by omega, by omega, by omega⟩) dL_isTaxed_130 ?_
            refine zr_eql (y := fv) (by rw [zup_s]) ?_
            refine lv_aload hx hb dL_isTaxed_131 (lv_at hl 1 rfl) ?_
            refine lv_iload hx hb dL_isTaxed_133 (lv_at hl 0 rfl) ?_
            refine zr_iald hx hb hK hP 6 1 rfl rfl (i := k) (⟨by omega, by omega, by omega⟩) dL_isTaxed_135 ?_
            refine zr_eqi (y := pv) (by rw [zup_s]) ?_
            refine zct_i (wr := [(ro, .inr (5, [.int (iz (md))])), (fl, zaL (G.2 0) ((z_mn).toNat) (zup u k fv)), (pl, zaI (G.2 1) ((z_mn).toNat) (zup v k pv)), (rr, zaI (G.2 1) 2 (g5))]) (vx_runV (As := [.long (lz (fv)), .int (iz (pv))]) (rest := []) ⟨hx, hb, hml, hown, hts⟩ (c_X9_step l G s1 s2 s3 x ro rw bo li sh tx lo nl fm pm f gg k fv pv hl0 (by omega) (by omega) (hst) H.size) (cwV 2 hts gL_isTaxed_X9_step rfl rfl rfl (by decide +kernel) ⟨Nat.le_of_ble_eq_true rfl, Nat.le_of_ble_eq_true rfl⟩) (zpVe zXE_ok hE.1 hS hA hKX hP hD [3, 4, 0, 1] rfl rfl (va_recv hK hP (ci := 10) (q0 := 3) rfl rfl)) rfl rfl hl.1 rfl (lv_room (Nat.le_of_ble_eq_true rfl)) dL_isTaxed_136 ⟨(by first | exact Nat.le_of_ble_eq_true rfl | (show _ ≤ (58 : Nat); omega)), (by first | exact Nat.le_of_ble_eq_true rfl | (show _ ≤ (408 : Nat); omega))⟩) hP hD hS hA [3, 4, 0, 1] [2, 5, 6, 7] rfl rfl rfl (by decide) (fun E9 ce9 q9 ux_64 H locs hx9_65 hP hD hS hce9 hcv9 hcl9 => ?_) (fun z36 u_63 H locs h36 hP hD hS => ?_)
            ·
              have hP : va_P G.1 vwCl [(ro, .inr (5, [.int (iz (md))])), (fl, zaL (G.2 0) ((z_mn).toNat) (zup u k fv)), (pl, zaI (G.2 1) ((z_mn).toNat) (zup v k pv)), (rr, zaI (G.2 1) 2 (g5)), (x, .inr (10, [.ref ro, .ref rw, .ref bo, .ref li, .ref sh, .ref tx, .ref lo, .ref nl])), (tx, .inr (8, [.ref fm, .ref pm, .int (iz (k))])), (fm, zaL (G.2 0) 8 (f)), (pm, zaI (G.2 1) 8 (gg))] H := hP
              have hD : va_D A [(ro, .inr (5, [.int (iz (md))])), (fl, zaL (G.2 0) ((z_mn).toNat) (zup u k fv)), (pl, zaI (G.2 1) ((z_mn).toNat) (zup v k pv)), (rr, zaI (G.2 1) 2 (g5)), (x, .inr (10, [.ref ro, .ref rw, .ref bo, .ref li, .ref sh, .ref tx, .ref lo, .ref nl])), (tx, .inr (8, [.ref fm, .ref pm, .int (iz (k))])), (fm, zaL (G.2 0) 8 (f)), (pm, zaI (G.2 1) 8 (gg))] := hD
              rcases hx9_65 with ⟨rfl, hxc⟩ | ⟨rfl, hxc⟩
              ·
                have hxc : ¬ (((if k = 0 then 0 else f (k - 1) + 1) ≤ fv ∧ fv ≤ 1000000000) ∧ 0 ≤ pv ∧ pv ≤ 1000) := hxc
                exact absurd hxc (by omega)
              ·
                have hxc : (((if k = 0 then 0 else f (k - 1) + 1) ≤ fv ∧ fv ≤ 1000000000) ∧ 0 ≤ pv ∧ pv ≤ 1000) ∧ ¬ k < 8 := hxc
                exact absurd hxc (by omega)
            have hP : va_P G.1 vwCl [(ro, .inr (5, [.int (iz (md))])), (fl, zaL (G.2 0) ((z_mn).toNat) (zup u k fv)), (pl, zaI (G.2 1) ((z_mn).toNat) (zup v k pv)), (rr, zaI (G.2 1) 2 (g5)), (x, .inr (10, [.ref ro, .ref rw, .ref bo, .ref li, .ref sh, .ref tx, .ref lo, .ref nl])), (tx, .inr (8, [.ref fm, .ref pm, .int (iz (k + 1))])), (fm, zaL (G.2 0) 8 (zup f k fv)), (pm, zaI (G.2 1) 8 (zup gg k pv))] H := hP
            have hD : va_D A [(ro, .inr (5, [.int (iz (md))])), (fl, zaL (G.2 0) ((z_mn).toNat) (zup u k fv)), (pl, zaI (G.2 1) ((z_mn).toNat) (zup v k pv)), (rr, zaI (G.2 1) 2 (g5)), (x, .inr (10, [.ref ro, .ref rw, .ref bo, .ref li, .ref sh, .ref tx, .ref lo, .ref nl])), (tx, .inr (8, [.ref fm, .ref pm, .int (iz (k + 1))])), (fm, zaL (G.2 0) 8 (zup f k fv)), (pm, zaI (G.2 1) 8 (zup gg k pv))] := hD
            have h36 : (((if k = 0 then 0 else f (k - 1) + 1) ≤ fv ∧ fv ≤ 1000000000) ∧ 0 ≤ pv ∧ pv ≤ 1000) ∧ k < 8 ∧ z36 = k + 1 ∧ zstp (zup f k fv) (zup gg k pv) (k + 1) := h36
            refine lv_iload hx hb dL_isTaxed_139 (lv_at hl 0 rfl) ?_
            refine lv_iconst (v := iz (1)) hx hb dL_isTaxed_141 rfl ?_
            refine zr_iadd hx hb dL_isTaxed_142 ?_
            refine zr_icmp_eq (x := z36) (y := k + 1) (tgt := 148) hx hb (⟨by omega, by omega⟩) (⟨by omega, by omega⟩) dL_isTaxed_143 (by decide) (fun h_66 => ?_) (fun h_66 => ?_)
            ·
              refine lv_iinc (v := iz (k + 1)) (lv' := [(7, .int (iz (k + 1))), (6, .ref pl), (5, .ref fl), (4, .int (iz (z_mn))), (3, .int (iz (z6))), (2, .int (iz (m9))), (0, .ref x), (1, .ref rr)]) hx hb dL_isTaxed_148 hl (k := 0) rfl (by rw [show Int32.ofInt (1) = iz (1) from rfl, iz_add]) (by decide) rfl (fun ls hl => ?_)
              refine lv_goto (tgt := 33) hx hb dL_isTaxed_151 (by decide) ?_
              refine W.widen (k := 2 + 3 * ((k + 1)).toNat) (n := 16 + 18 * ((k + 1)).toNat) (by omega) (by omega) ?_
              exact ih_33 (k + 1) g5 (zup f k fv) (zup gg k pv) (zup u k fv) (zup v k pv) _ _ _ (by omega) (by omega) (h36.2.2.2) (zsame_up hsm) (Or.inr (by rw [show k + 1 - 1 = k by omega, zup_s]; omega)) (hP.sub [6, 7, 0, 4, 5, 3, 1, 2] rfl) (hD.sub [6, 7, 0, 4, 5, 3, 1, 2] (by decide) rfl) hS (hl)
            · exact absurd h_66 (by omega)
          refine zr_if_ne (x := z_q5) (tgt := 117) hx hb (⟨by omega, by omega⟩) dL_isTaxed_108 (by decide) (fun h_67 => ?_) (fun h_67 => ?_)
          ·
            refine lv_aload_n hx hb dL_isTaxed_117 rfl (lv_at hl 7 rfl) ?_
            refine lv_sipush (v := iz (600)) hx hb dL_isTaxed_118 rfl ?_
            refine zc_i (wr := [(fm, zaL (G.2 0) 8 (f)), (pm, zaI (G.2 1) 8 (gg)), (ro, .inr (5, [.int (iz (md))])), (x, .inr (10, [.ref ro, .ref rw, .ref bo, .ref li, .ref sh, .ref tx, .ref lo, .ref nl])), (tx, .inr (8, [.ref fm, .ref pm, .int (iz (k))])), (fl, zaL (G.2 0) ((z_mn).toNat) (zup u k fv)), (pl, zaI (G.2 1) ((z_mn).toNat) (v))]) (va_runS (As := [.ref rr, .int (iz (600))]) (rest := [.int (iz (k)), .ref pl]) ⟨hx, hb, hml, hown, hts⟩ (c_L_draw l G rr g_q5 600 (by omega) H.size) (va_cwS 2 hts gL_isTaxed_L_draw rfl rfl rfl (by decide +kernel) ⟨Nat.le_of_ble_eq_true rfl, Nat.le_of_ble_eq_true rfl⟩) (zpS hKX hP hD [7] rfl rfl) rfl rfl hl.1 rfl (lv_room (Nat.le_of_ble_eq_true rfl)) dL_isTaxed_121 ⟨(by first | exact Nat.le_of_ble_eq_true rfl | (show _ ≤ (58 : Nat); omega)), (by first | exact Nat.le_of_ble_eq_true rfl | (show _ ≤ (408 : Nat); omega))⟩) hP hD hS hA [7] [0, 1, 2, 3, 4, 5, 6] rfl rfl rfl (by decide) (fun z_q6 u_68 H locs h_q6 hP hD hS => ?_)
            generalize u_68 = g_q6 at hP hD h_q6
            have hP : va_P G.1 vwCl [(fm, zaL (G.2 0) 8 (f)), (pm, zaI (G.2 1) 8 (gg)), (ro, .inr (5, [.int (iz (md))])), (x, .inr (10, [.ref ro, .ref rw, .ref bo, .ref li, .ref sh, .ref tx, .ref lo, .ref nl])), (tx, .inr (8, [.ref fm, .ref pm, .int (iz (k))])), (fl, zaL (G.2 0) ((z_mn).toNat) (zup u k fv)), (pl, zaI (G.2 1) ((z_mn).toNat) (v)), (rr, zaI (G.2 1) 2 (g_q6))] H := hP
            have hD : va_D A [(fm, zaL (G.2 0) 8 (f)), (pm, zaI (G.2 1) 8 (gg)), (ro, .inr (5, [.int (iz (md))])), (x, .inr (10, [.ref ro, .ref rw, .ref bo, .ref li, .ref sh, .ref tx, .ref lo, .ref nl])), (tx, .inr (8, [.ref fm, .ref pm, .int (iz (k))])), (fl, zaL (G.2 0) ((z_mn).toNat) (zup u k fv)), (pl, zaI (G.2 1) ((z_mn).toNat) (v)), (rr, zaI (G.2 1) 2 (g_q6))] := hD
            have h_q6 : 0 ≤ z_q6 ∧ z_q6 < (600 : Int) ∧ z_q6 < 268435456 := h_q6
            refine W.widen (k := 2 + 3 * (k).toNat + 0) (n := 16 + 18 * (k).toNat + 0) (by omega) (by omega) ?_
            exact hl_124 z_q6 g_q6 _ _ _ (by omega) (hP) (hD) hS (hl)
          ·
            refine lv_sipush (v := iz (1000)) hx hb dL_isTaxed_111 rfl ?_
            refine lv_goto (tgt := 124) hx hb dL_isTaxed_114 (by decide) ?_
            exact hl_124 1000 g_q5 _ _ _ (by omega) (hP) (hD) hS (hl)
        refine zr_if_ne (x := k) (tgt := 66) hx hb (⟨by omega, by omega⟩) dL_isTaxed_46 (by decide) (fun h_70 => ?_) (fun h_70 => ?_)
        ·
          refine lv_aload hx hb dL_isTaxed_66 (lv_at hl 2 rfl) ?_
          refine lv_iload hx hb dL_isTaxed_68 (lv_at hl 0 rfl) ?_
          refine lv_iconst (v := iz (1)) hx hb dL_isTaxed_70 rfl ?_
          refine zr_isub hx hb dL_isTaxed_71 ?_
          have hlk := hlast.resolve_left (by omega)
          refine zr_lald hx hb hK hP 6 0 rfl rfl (i := k - 1) (⟨by omega, by omega, by omega⟩) dL_isTaxed_72 ?_
          refine lv_lconst (v := lz (1)) hx hb dL_isTaxed_73 rfl ?_
          refine zr_ladd hx hb dL_isTaxed_74 ?_
          refine lv_aload_n hx hb dL_isTaxed_75 rfl (lv_at hl 7 rfl) ?_
          refine lv_aload_n hx hb dL_isTaxed_76 rfl (lv_at hl 7 rfl) ?_
          refine lv_iconst (v := iz (3)) hx hb dL_isTaxed_77 rfl ?_
          refine zc_i (wr := [(fm, zaL (G.2 0) 8 (f)), (pm, zaI (G.2 1) 8 (gg)), (ro, .inr (5, [.int (iz (md))])), (x, .inr (10, [.ref ro, .ref rw, .ref bo, .ref li, .ref sh, .ref tx, .ref lo, .ref nl])), (tx, .inr (8, [.ref fm, .ref pm, .int (iz (k))])), (fl, zaL (G.2 0) ((z_mn).toNat) (u)), (pl, zaI (G.2 1) ((z_mn).toNat) (v))]) (va_runS (As := [.ref rr, .int (iz (3))]) (rest := [.ref rr, .long (lz ((u (k - 1)) + 1)), .int (iz (k)), .ref fl]) ⟨hx, hb, hml, hown, hts⟩ (c_L_draw l G rr g1 3 (by omega) H.size) (va_cwS 2 hts gL_isTaxed_L_draw rfl rfl rfl (by decide +kernel) ⟨Nat.le_of_ble_eq_true rfl, Nat.le_of_ble_eq_true rfl⟩) (zpS hKX hP hD [5] rfl rfl) rfl rfl hl.1 rfl (lv_room (Nat.le_of_ble_eq_true rfl)) dL_isTaxed_78 ⟨(by first | exact Nat.le_of_ble_eq_true rfl | (show _ ≤ (58 : Nat); omega)), (by first | exact Nat.le_of_ble_eq_true rfl | (show _ ≤ (408 : Nat); omega))⟩) hP hD hS hA [5] [0, 1, 2, 3, 4, 6, 7] rfl rfl rfl (by decide) (fun z_q3 u_71 H locs h_q3 hP hD hS => ?_)
          generalize u_71 = g_q3 at hP hD h_q3
          have hP : va_P G.1 vwCl [(fm, zaL (G.2 0) 8 (f)), (pm, zaI (G.2 1) 8 (gg)), (ro, .inr (5, [.int (iz (md))])), (x, .inr (10, [.ref ro, .ref rw, .ref bo, .ref li, .ref sh, .ref tx, .ref lo, .ref nl])), (tx, .inr (8, [.ref fm, .ref pm, .int (iz (k))])), (fl, zaL (G.2 0) ((z_mn).toNat) (u)), (pl, zaI (G.2 1) ((z_mn).toNat) (v)), (rr, zaI (G.2 1) 2 (g_q3))] H := hP
          have hD : va_D A [(fm, zaL (G.2 0) 8 (f)), (pm, zaI (G.2 1) 8 (gg)), (ro, .inr (5, [.int (iz (md))])), (x, .inr (10, [.ref ro, .ref rw, .ref bo, .ref li, .ref sh, .ref tx, .ref lo, .ref nl])), (tx, .inr (8, [.ref fm, .ref pm, .int (iz (k))])), (fl, zaL (G.2 0) ((z_mn).toNat) (u)), (pl, zaI (G.2 1) ((z_mn).toNat) (v)), (rr, zaI (G.2 1) 2 (g_q3))] := hD
          have h_q3 : 0 ≤ z_q3 ∧ z_q3 < (3 : Int) ∧ z_q3 < 268435456 := h_q3
          have hl_92 : ∀ (mx : Int) (g4 : Int → Int) (H : Heap) (locs : List Loc) (ls : Array Slot), (1 ≤ mx ∧ mx ≤ 100000000) → va_P G.1 vwCl [(fm, zaL (G.2 0) 8 (f)), (pm, zaI (G.2 1) 8 (gg)), (ro, .inr (5, [.int (iz (md))])), (x, .inr (10, [.ref ro, .ref rw, .ref bo, .ref li, .ref sh, .ref tx, .ref lo, .ref nl])), (tx, .inr (8, [.ref fm, .ref pm, .int (iz (k))])), (fl, zaL (G.2 0) ((z_mn).toNat) (u)), (pl, zaI (G.2 1) ((z_mn).toNat) (v)), (rr, zaI (G.2 1) 2 (g4))] H → va_D A [(fm, zaL (G.2 0) 8 (f)), (pm, zaI (G.2 1) 8 (gg)), (ro, .inr (5, [.int (iz (md))])), (x, .inr (10, [.ref ro, .ref rw, .ref bo, .ref li, .ref sh, .ref tx, .ref lo, .ref nl])), (tx, .inr (8, [.ref fm, .ref pm, .int (iz (k))])), (fl, zaL (G.2 0) ((z_mn).toNat) (u)), (pl, zaI (G.2 1) ((z_mn).toNat) (v)), (rr, zaI (G.2 1) 2 (g4))] → va_S A s.heap H locs → lv_has ls 14 [(7, .int (iz (k))), (6, .ref pl), (5, .ref fl), (4, .int (iz (z_mn))), (3, .int (iz (z6))), (2, .int (iz (m9))), (0, .ref x), (1, .ref rr)] → W p l e rm_c_L_isTaxed2 s m ([.ref x, .ref rr] : List Value).toArray below meth c H locs (2 + 3 * (k).toNat + 0) (16 + 18 * (k).toNat + 0) Q (F0 m 92 ls [.int (iz (mx)), .ref rr, .long (lz ((u (k - 1)) + 1)), .int (iz (k)), .ref fl]) := by
            intro mx g4 H locs ls jm hP hD hS hl
            refine zc_i (wr := [(fm, zaL (G.2 0) 8 (f)), (pm, zaI (G.2 1) 8 (gg)), (ro, .inr (5, [.int (iz (md))])), (x, .inr (10, [.ref ro, .ref rw, .ref bo, .ref li, .ref sh, .ref tx, .ref lo, .ref nl])), (tx, .inr (8, [.ref fm, .ref pm, .int (iz (k))])), (fl, zaL (G.2 0) ((z_mn).toNat) (u)), (pl, zaI (G.2 1) ((z_mn).toNat) (v))]) (va_runS (As := [.ref rr, .int (iz (mx))]) (rest := [.long (lz ((u (k - 1)) + 1)), .int (iz (k)), .ref fl]) ⟨hx, hb, hml, hown, hts⟩ (c_L_draw l G rr g4 mx (by omega) H.size) (va_cwS 2 hts gL_isTaxed_L_draw rfl rfl rfl (by decide +kernel) ⟨Nat.le_of_ble_eq_true rfl, Nat.le_of_ble_eq_true rfl⟩) (zpS hKX hP hD [7] rfl rfl) rfl rfl hl.1 rfl (lv_room (Nat.le_of_ble_eq_true rfl)) dL_isTaxed_92 ⟨(by first | exact Nat.le_of_ble_eq_true rfl | (show _ ≤ (58 : Nat); omega)), (by first | exact Nat.le_of_ble_eq_true rfl | (show _ ≤ (408 : Nat); omega))⟩) hP hD hS hA [7] [0, 1, 2, 3, 4, 5, 6] rfl rfl rfl (by decide) (fun z_q4 u_73 H locs h_q4 hP hD hS => ?_)
            generalize u_73 = g_q4 at hP hD h_q4
            have hP : va_P G.1 vwCl [(fm, zaL (G.2 0) 8 (f)), (pm, zaI (G.2 1) 8 (gg)), (ro, .inr (5, [.int (iz (md))])), (x, .inr (10, [.ref ro, .ref rw, .ref bo, .ref li, .ref sh, .ref tx, .ref lo, .ref nl])), (tx, .inr (8, [.ref fm, .ref pm, .int (iz (k))])), (fl, zaL (G.2 0) ((z_mn).toNat) (u)), (pl, zaI (G.2 1) ((z_mn).toNat) (v)), (rr, zaI (G.2 1) 2 (g_q4))] H := hP
            have hD : va_D A [(fm, zaL (G.2 0) 8 (f)), (pm, zaI (G.2 1) 8 (gg)), (ro, .inr (5, [.int (iz (md))])), (x, .inr (10, [.ref ro, .ref rw, .ref bo, .ref li, .ref sh, .ref tx, .ref lo, .ref nl])), (tx, .inr (8, [.ref fm, .ref pm, .int (iz (k))])), (fl, zaL (G.2 0) ((z_mn).toNat) (u)), (pl, zaI (G.2 1) ((z_mn).toNat) (v)), (rr, zaI (G.2 1) 2 (g_q4))] := hD
            have h_q4 : 0 ≤ z_q4 ∧ z_q4 < mx ∧ z_q4 < 268435456 := h_q4
            refine zr_i2l hx hb (x := z_q4) (⟨by omega, by omega⟩) dL_isTaxed_95 ?_
            refine zr_ladd hx hb dL_isTaxed_96 ?_
            refine W.widen (k := 2 + 3 * (k).toNat) (n := 16 + 18 * (k).toNat) (by omega) (by omega) ?_
            exact hl_97 (((u (k - 1)) + 1) + z_q4) g_q4 _ _ _ (by omega) (hP.sub [0, 1, 2, 3, 4, 7, 5, 6] rfl) (hD.sub [0, 1, 2, 3, 4, 7, 5, 6] (by decide) rfl) hS (hl)
          refine zr_if_ne (x := z_q3) (tgt := 89) hx hb (⟨by omega, by omega⟩) dL_isTaxed_81 (by decide) (fun h_75 => ?_) (fun h_75 => ?_)
          ·
            refine lv_sipush (v := iz (1000)) hx hb dL_isTaxed_89 rfl ?_
            exact hl_92 1000 g_q3 _ _ _ (by omega) (hP) (hD) hS (hl)
          ·
            refine zr_ldc (z := 100000000) hx hb hown (hts (.constant RL 207 (100000000)) (by decide +kernel)) rfl dL_isTaxed_84 ?_
            refine lv_goto (tgt := 92) hx hb dL_isTaxed_86 (by decide) ?_
            exact hl_92 100000000 g_q3 _ _ _ (by omega) (hP) (hD) hS (hl)
        ·
          refine lv_aload_n hx hb dL_isTaxed_49 rfl (lv_at hl 7 rfl) ?_
          refine lv_iconst (v := iz (2)) hx hb dL_isTaxed_50 rfl ?_
          refine zc_i (wr := [(fm, zaL (G.2 0) 8 (f)), (pm, zaI (G.2 1) 8 (gg)), (ro, .inr (5, [.int (iz (md))])), (x, .inr (10, [.ref ro, .ref rw, .ref bo, .ref li, .ref sh, .ref tx, .ref lo, .ref nl])), (tx, .inr (8, [.ref fm, .ref pm, .int (iz (k))])), (fl, zaL (G.2 0) ((z_mn).toNat) (u)), (pl, zaI (G.2 1) ((z_mn).toNat) (v))]) (va_runS (As := [.ref rr, .int (iz (2))]) (rest := [.int (iz (k)), .ref fl]) ⟨hx, hb, hml, hown, hts⟩ (c_L_draw l G rr g1 2 (by omega) H.size) (va_cwS 2 hts gL_isTaxed_L_draw rfl rfl rfl (by decide +kernel) ⟨Nat.le_of_ble_eq_true rfl, Nat.le_of_ble_eq_true rfl⟩) (zpS hKX hP hD [5] rfl rfl) rfl rfl hl.1 rfl (lv_room (Nat.le_of_ble_eq_true rfl)) dL_isTaxed_51 ⟨(by first | exact Nat.le_of_ble_eq_true rfl | (show _ ≤ (58 : Nat); omega)), (by first | exact Nat.le_of_ble_eq_true rfl | (show _ ≤ (408 : Nat); omega))⟩) hP hD hS hA [5] [0, 1, 2, 3, 4, 6, 7] rfl rfl rfl (by decide) (fun z_q1 u_76 H locs h_q1 hP hD hS => ?_)
          generalize u_76 = g_q1 at hP hD h_q1
          have hP : va_P G.1 vwCl [(fm, zaL (G.2 0) 8 (f)), (pm, zaI (G.2 1) 8 (gg)), (ro, .inr (5, [.int (iz (md))])), (x, .inr (10, [.ref ro, .ref rw, .ref bo, .ref li, .ref sh, .ref tx, .ref lo, .ref nl])), (tx, .inr (8, [.ref fm, .ref pm, .int (iz (k))])), (fl, zaL (G.2 0) ((z_mn).toNat) (u)), (pl, zaI (G.2 1) ((z_mn).toNat) (v)), (rr, zaI (G.2 1) 2 (g_q1))] H := hP
          have hD : va_D A [(fm, zaL (G.2 0) 8 (f)), (pm, zaI (G.2 1) 8 (gg)), (ro, .inr (5, [.int (iz (md))])), (x, .inr (10, [.ref ro, .ref rw, .ref bo, .ref li, .ref sh, .ref tx, .ref lo, .ref nl])), (tx, .inr (8, [.ref fm, .ref pm, .int (iz (k))])), (fl, zaL (G.2 0) ((z_mn).toNat) (u)), (pl, zaI (G.2 1) ((z_mn).toNat) (v)), (rr, zaI (G.2 1) 2 (g_q1))] := hD
          have h_q1 : 0 ≤ z_q1 ∧ z_q1 < (2 : Int) ∧ z_q1 < 268435456 := h_q1
          refine lv_aload_n hx hb dL_isTaxed_54 rfl (lv_at hl 7 rfl) ?_
          refine lv_sipush (v := iz (1000)) hx hb dL_isTaxed_55 rfl ?_
          refine zc_i (wr := [(fm, zaL (G.2 0) 8 (f)), (pm, zaI (G.2 1) 8 (gg)), (ro, .inr (5, [.int (iz (md))])), (x, .inr (10, [.ref ro, .ref rw, .ref bo, .ref li, .ref sh, .ref tx, .ref lo, .ref nl])), (tx, .inr (8, [.ref fm, .ref pm, .int (iz (k))])), (fl, zaL (G.2 0) ((z_mn).toNat) (u)), (pl, zaI (G.2 1) ((z_mn).toNat) (v))]) (va_runS (As := [.ref rr, .int (iz (1000))]) (rest := [.int (iz (z_q1)), .int (iz (k)), .ref fl]) ⟨hx, hb, hml, hown, hts⟩ (c_L_draw l G rr g_q1 1000 (by omega) H.size) (va_cwS 2 hts gL_isTaxed_L_draw rfl rfl rfl (by decide +kernel) ⟨Nat.le_of_ble_eq_true rfl, Nat.le_of_ble_eq_true rfl⟩) (zpS hKX hP hD [7] rfl rfl) rfl rfl hl.1 rfl (lv_room (Nat.le_of_ble_eq_true rfl)) dL_isTaxed_58 ⟨(by first | exact Nat.le_of_ble_eq_true rfl | (show _ ≤ (58 : Nat); omega)), (by first | exact Nat.le_of_ble_eq_true rfl | (show _ ≤ (408 : Nat); omega))⟩) hP hD hS hA [7] [0, 1, 2, 3, 4, 5, 6] rfl rfl rfl (by decide) (fun z_q2 u_78 H locs h_q2 hP hD hS => ?_)
          generalize u_78 = g_q2 at hP hD h_q2
          have hP : va_P G.1 vwCl [(fm, zaL (G.2 0) 8 (f)), (pm, zaI (G.2 1) 8 (gg)), (ro, .inr (5, [.int (iz (md))])), (x, .inr (10, [.ref ro, .ref rw, .ref bo, .ref li, .ref sh, .ref tx, .ref lo, .ref nl])), (tx, .inr (8, [.ref fm, .ref pm, .int (iz (k))])), (fl, zaL (G.2 0) ((z_mn).toNat) (u)), (pl, zaI (G.2 1) ((z_mn).toNat) (v)), (rr, zaI (G.2 1) 2 (g_q2))] H := hP
          have hD : va_D A [(fm, zaL (G.2 0) 8 (f)), (pm, zaI (G.2 1) 8 (gg)), (ro, .inr (5, [.int (iz (md))])), (x, .inr (10, [.ref ro, .ref rw, .ref bo, .ref li, .ref sh, .ref tx, .ref lo, .ref nl])), (tx, .inr (8, [.ref fm, .ref pm, .int (iz (k))])), (fl, zaL (G.2 0) ((z_mn).toNat) (u)), (pl, zaI (G.2 1) ((z_mn).toNat) (v)), (rr, zaI (G.2 1) 2 (g_q2))] := hD
          have h_q2 : 0 ≤ z_q2 ∧ z_q2 < (1000 : Int) ∧ z_q2 < 268435456 := h_q2
          have hq12 : 0 ≤ z_q1 * z_q2 ∧ z_q1 * z_q2 ≤ 999 := by rcases (show z_q1 = 0 ∨ z_q1 = 1 by omega) with q | q <;> rw [q] <;> omega
          refine zr_imul hx hb dL_isTaxed_61 ?_
          refine zr_i2l hx hb (x := z_q1 * z_q2) (⟨by omega, by omega⟩) dL_isTaxed_62 ?_
          refine lv_goto (tgt := 97) hx hb dL_isTaxed_63 (by decide) ?_
          refine W.widen (k := 2 + 3 * (k).toNat) (n := 16 + 18 * (k).toNat) (by omega) (by omega) ?_
          exact hl_97 (z_q1 * z_q2) g_q2 _ _ _ (by omega) (hP.sub [0, 1, 2, 3, 4, 7, 5, 6] rfl) (hD.sub [0, 1, 2, 3, 4, 7, 5, 6] (by decide) rfl) hS (hl)
  refine W.widen (k := 2 + 3 * ((0 : Int)).toNat) (n := 16 + 18 * ((0 : Int)).toNat) (by omega) (by omega) ?_
  exact hl_33 ((z_mn - 0 : Int).toNat + 1) 0 g_mn f pg (fun _ => 0) (fun _ => 0) _ _ _ (Nat.lt_succ_self _) (by omega) (⟨by omega, fun i a b => absurd b (by omega)⟩) (fun i a b => absurd b (by omega)) (Or.inl rfl) (hP) (hD) hS (hl)
