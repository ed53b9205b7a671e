-- THE LAW: thousandfold (laid by wip/p40/yQ.py)
def rm_c_L_thousandfold : Room := { frames := 1, cells := 0, slots := 0, locals := 23 }
set_option maxHeartbeats 1000000 in
set_option maxRecDepth 100000 in
theorem c_L_thousandfold (l : Launch) (G : zG) (fl : Nat) (pl : Nat) (f : Int → Int) (g : Int → Int) (n : Int) (mo : Int) (hs : zstp f g n) (h1 : 0 ≤ mo ∧ mo ≤ 1000000000000) : zM l G yL_thousandfold wsL_thousandfold rm_c_L_thousandfold [.ref fl, .ref pl, .long (lz (mo))] [(fl, zaL (G.2 0) ((n).toNat) (f)), (pl, zaI (G.2 1) ((n).toNat) (g))] (fun A => zQl G (fun (z : Int) (_ : Unit) => z = zth f g n mo) (fun (_ : Unit) => [(fl, zaL (G.2 0) ((n).toNat) (f)), (pl, zaI (G.2 1) ((n).toNat) (g))]) A) 0 0 := by
  refine zM_of (cc := cL_thousandfold) (maxL := 9) (ret := (some .long)) (by decide) rfl (Nat.le_of_ble_eq_true rfl) ?_
  intro p e s m below meth c ls A Q hQ hx hb hr hts hown hlocks hml hnm hKX hP hD hA hS hl
  have hK := hKX.1
  obtain ⟨H, hH⟩ : ∃ h, h = s.heap := ⟨_, rfl⟩
  obtain ⟨locs, hlo⟩ : ∃ h : List Loc, h = [] := ⟨_, rfl⟩
  have hS : va_S A s.heap H locs := by rw [hH, hlo]; exact hS
  have hP : va_P G.1 vwCl [(fl, zaL (G.2 0) ((n).toNat) (f)), (pl, zaI (G.2 1) ((n).toNat) (g))] H := by rw [hH]; exact hP
  have hD : va_D A [(fl, zaL (G.2 0) ((n).toNat) (f)), (pl, zaI (G.2 1) ((n).toNat) (g))] := hD
  have hl : lv_has ls 9 [(0, .ref fl), (1, .ref pl), (2, .long (lz (mo)))] := hl
  rw [← hH, ← hlo]
  have hs1 := hs.1
  have hnn : ((n.toNat : Nat) : Int) = n := Int.toNat_of_nonneg hs1.1
  refine lv_lconst (v := lz (0)) hx hb dL_thousandfold_0 rfl ?_
  refine lv_lstore (lv' := [(4, .long (lz (0))), (0, .ref fl), (1, .ref pl), (2, .long (lz (mo)))]) hx hb dL_thousandfold_1 hl (by decide) rfl (fun ls hl => ?_)
  refine lv_iconst (v := iz (0)) hx hb dL_thousandfold_3 rfl ?_
  refine lv_istore (lv' := [(6, .int (iz (0))), (4, .long (lz (0))), (0, .ref fl), (1, .ref pl), (2, .long (lz (mo)))]) hx hb dL_thousandfold_4 hl (by decide) rfl (fun ls hl => ?_)
  have hl_6 : ∀ (zn_6 : Nat) (i : Int) (w : Int) (H : Heap) (locs : List Loc) (ls : Array Slot), (n - i).toNat < zn_6 → (0 ≤ i ∧ i ≤ n) → (w = zsm (zth1 f g n mo) i.toNat) → (0 ≤ w ∧ w ≤ 1000000000000000 * i) → va_P G.1 vwCl [(fl, zaL (G.2 0) ((n).toNat) (f)), (pl, zaI (G.2 1) ((n).toNat) (g))] H → va_D A [(fl, zaL (G.2 0) ((n).toNat) (f)), (pl, zaI (G.2 1) ((n).toNat) (g))] → va_S A s.heap H locs → lv_has ls 9 [(6, .int (iz (i))), (4, .long (lz (w))), (0, .ref fl), (1, .ref pl), (2, .long (lz (mo)))] → W p l e rm_c_L_thousandfold s m ([.ref fl, .ref pl, .long (lz (mo))] : List Value).toArray below meth c H locs 0 0 Q (F0 m 6 ls []) := by
    intro zn_6
    induction zn_6 with
    | zero => intro i w H locs ls hm; exact absurd hm (Nat.not_lt_zero _)
    | succ zn_6 ih_6 =>
      intro i w H locs ls hm_6 k1 k2 k3 hP hD hS hl
      refine lv_iload hx hb dL_thousandfold_6 (lv_at hl 0 rfl) ?_
      refine lv_aload_n hx hb dL_thousandfold_8 rfl (lv_at hl 2 rfl) ?_
      refine zr_alenL hx hb hK hP 0 0 rfl rfl dL_thousandfold_9 ?_
      refine zr_icmp_ge (x := i) (y := (n).toNat) (tgt := 66) hx hb (⟨by omega, by omega⟩) (⟨by omega, by omega⟩) dL_thousandfold_10 (by decide) (fun h_1 => ?_) (fun h_1 => ?_)
      ·
        refine lv_lload hx hb dL_thousandfold_66 (lv_at hl 1 rfl) ?_
        rw [hQ]
        exact zr_lret (z := w) (u := ()) hx hb hr hlocks hP hD hS (by first | exact Nat.le_of_ble_eq_true rfl | omega) (by first | exact Nat.le_of_ble_eq_true rfl | omega) dL_thousandfold_68 (show w = zth f g n mo from by unfold zth; rw [k2, show i = n by omega])
      ·
        refine lv_iload hx hb dL_thousandfold_13 (lv_at hl 0 rfl) ?_
        refine lv_iconst (v := iz (1)) hx hb dL_thousandfold_15 rfl ?_
        refine zr_iadd hx hb dL_thousandfold_16 ?_
        refine lv_aload_n hx hb dL_thousandfold_17 rfl (lv_at hl 2 rfl) ?_
        refine zr_alenL hx hb hK hP 0 0 rfl rfl dL_thousandfold_18 ?_
        have hl_36 : ∀ (en : Int) (H : Heap) (locs : List Loc) (ls : Array Slot), (en = if i + 1 < n then min mo (f (i + 1)) else mo) → va_P G.1 vwCl [(fl, zaL (G.2 0) ((n).toNat) (f)), (pl, zaI (G.2 1) ((n).toNat) (g))] H → va_D A [(fl, zaL (G.2 0) ((n).toNat) (f)), (pl, zaI (G.2 1) ((n).toNat) (g))] → va_S A s.heap H locs → lv_has ls 9 [(6, .int (iz (i))), (4, .long (lz (w))), (0, .ref fl), (1, .ref pl), (2, .long (lz (mo)))] → W p l e rm_c_L_thousandfold s m ([.ref fl, .ref pl, .long (lz (mo))] : List Value).toArray below meth c H locs 0 0 Q (F0 m 36 ls [.long (lz (en))]) := by
          intro en H locs ls jv hP hD hS hl
          have hti := zth1_b hs h1 (i := i) ⟨k1.1, by omega⟩
          have hfi := hs.2 i (by omega) (by omega)
          have hen : 0 ≤ en ∧ en ≤ 1000000000000 := by rw [jv]; split <;> (try have hfj := hs.2 (i + 1) (by omega) (by omega)) <;> omega
          refine lv_lstore (lv' := [(7, .long (lz (en))), (6, .int (iz (i))), (4, .long (lz (w))), (0, .ref fl), (1, .ref pl), (2, .long (lz (mo)))]) hx hb dL_thousandfold_36 hl (by decide) rfl (fun ls hl => ?_)
          refine lv_lload hx hb dL_thousandfold_38 (lv_at hl 2 rfl) ?_
          refine lv_lconst (v := lz (0)) hx hb dL_thousandfold_40 rfl ?_
          refine lv_lload hx hb dL_thousandfold_41 (lv_at hl 0 rfl) ?_
          refine lv_aload_n hx hb dL_thousandfold_43 rfl (lv_at hl 3 rfl) ?_
          refine lv_iload hx hb dL_thousandfold_44 (lv_at hl 1 rfl) ?_
          refine zr_lald hx hb hK hP 0 0 rfl rfl (i := i) (⟨by omega, by omega, by omega⟩) dL_thousandfold_46 ?_
          refine zr_lsub hx hb dL_thousandfold_47 ?_
          refine zr_mmaxL (x := 0) (y := en - (f i)) hx hb (hml.trans hl.1.symm) hown (hts (.methodLink RL 242 Lib.MathLoose.max_long.x) (by decide +kernel)) (hts (.static Lib.MathLoose.max_long.x) (by decide +kernel)) (hts (.initialized "java/lang/Math") (by decide +kernel)) (hts (.code Lib.MathLoose.max_long.x Lib.MathLoose.max_long.code 4 (some .long)) (by decide +kernel)) (Nat.le_of_ble_eq_true rfl) (Nat.le_of_ble_eq_true rfl) (by first | exact Nat.le_of_ble_eq_true rfl | (show _ ≤ (0 : Nat); omega)) (by first | exact Nat.le_of_ble_eq_true rfl | (show _ ≤ (0 : Nat); omega)) (⟨by omega, by omega⟩) (⟨by omega, by omega⟩) dL_thousandfold_48 ?_
          refine lv_aload_n hx hb dL_thousandfold_51 rfl (lv_at hl 4 rfl) ?_
          refine lv_iload hx hb dL_thousandfold_52 (lv_at hl 1 rfl) ?_
          refine zr_iald hx hb hK hP 1 1 rfl rfl (i := i) (⟨by omega, by omega, by omega⟩) dL_thousandfold_54 ?_
          refine zr_i2l hx hb (x := g i) (⟨by omega, by omega⟩) dL_thousandfold_55 ?_
          refine zr_lmul hx hb dL_thousandfold_56 ?_
          refine zr_ladd hx hb dL_thousandfold_57 ?_
          refine lv_lstore (lv' := [(4, .long (lz (w + ((max 0 (en - (f i))) * (g i))))), (7, .long (lz (en))), (6, .int (iz (i))), (0, .ref fl), (1, .ref pl), (2, .long (lz (mo)))]) hx hb dL_thousandfold_58 hl (by decide) rfl (fun ls hl => ?_)
          refine lv_iinc (v := iz (i + 1)) (lv' := [(6, .int (iz (i + 1))), (4, .long (lz (w + ((max 0 (en - (f i))) * (g i))))), (7, .long (lz (en))), (0, .ref fl), (1, .ref pl), (2, .long (lz (mo)))]) hx hb dL_thousandfold_60 hl (k := 2) rfl (by rw [show Int32.ofInt (1) = iz (1) from rfl, iz_add]) (by decide) rfl (fun ls hl => ?_)
          refine lv_goto (tgt := 6) hx hb dL_thousandfold_63 (by decide) ?_
          exact ih_6 (i + 1) (w + ((max 0 (en - (f i))) * (g i))) _ _ _ (by omega) (by omega) (zsm_i' k1.1 k2 (by rw [jv]; rfl)) (by rw [zth1_e jv]; omega) (hP) (hD) hS (lv_sub hl [0, 1, 3, 4, 5] rfl)
        refine zr_icmp_ge (x := i + 1) (y := (n).toNat) (tgt := 35) hx hb (⟨by omega, by omega⟩) (⟨by omega, by omega⟩) dL_thousandfold_19 (by decide) (fun h_2 => ?_) (fun h_2 => ?_)
        ·
          refine lv_lload_n hx hb dL_thousandfold_35 rfl (lv_at hl 4 rfl) ?_
          exact hl_36 mo _ _ _ (by first | (rw [if_pos (by omega)]; omega) | exact (if_neg (by omega)).symm) (hP) (hD) hS (hl)
        ·
          refine lv_aload_n hx hb dL_thousandfold_22 rfl (lv_at hl 2 rfl) ?_
          refine lv_iload hx hb dL_thousandfold_23 (lv_at hl 0 rfl) ?_
          refine lv_iconst (v := iz (1)) hx hb dL_thousandfold_25 rfl ?_
          refine zr_iadd hx hb dL_thousandfold_26 ?_
          refine zr_lald hx hb hK hP 0 0 rfl rfl (i := i + 1) (⟨by omega, by omega, by omega⟩) dL_thousandfold_27 ?_
          refine lv_lload_n hx hb dL_thousandfold_28 rfl (lv_at hl 4 rfl) ?_
          have hfj := hs.2 (i + 1) (by omega) (by omega)
          refine zr_mminL (x := f (i + 1)) (y := mo) hx hb (hml.trans hl.1.symm) hown (hts (.methodLink RL 208 Lib.MathLoose.min_long.x) (by decide +kernel)) (hts (.static Lib.MathLoose.min_long.x) (by decide +kernel)) (hts (.initialized "java/lang/Math") (by decide +kernel)) (hts (.code Lib.MathLoose.min_long.x Lib.MathLoose.min_long.code 4 (some .long)) (by decide +kernel)) (Nat.le_of_ble_eq_true rfl) (Nat.le_of_ble_eq_true rfl) (by first | exact Nat.le_of_ble_eq_true rfl | (show _ ≤ (0 : Nat); omega)) (by first | exact Nat.le_of_ble_eq_true rfl | (show _ ≤ (0 : Nat); omega)) (⟨by omega, by omega⟩) (⟨by omega, by omega⟩) dL_thousandfold_29 ?_
          refine lv_goto (tgt := 36) hx hb dL_thousandfold_32 (by decide) ?_
          exact hl_36 (min (f (i + 1)) mo) _ _ _ (by first | (rw [if_pos (by omega)]; omega) | exact (if_neg (by omega)).symm) (hP) (hD) hS (hl)
  exact hl_6 ((n - 0 : Int).toNat + 1) 0 0 _ _ _ (Nat.lt_succ_self _) (by omega) (rfl) (by omega) (hP) (hD) hS (hl)
