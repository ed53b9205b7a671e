-- THE LAW: seed, rows (laid by wip/p40/yO.py)
theorem zrok_rows {v f : Int → Int} {k : Int} (hv : zrok v) (h : k ≤ 41) (k2 : ∀ j : Int, 0 ≤ j → j ≤ 40 → f j = if j < k then v j else 0) : zrok f := fun j a b => by
  rw [k2 j a b]
  split
  · exact hv j a b
  · omega
theorem zrows_u {v f g : Int → Int} {k : Int} (k2 : ∀ j : Int, 0 ≤ j → j ≤ 40 → f j = if j < k then v j else 0) (hk : 0 ≤ k ∧ k ≤ 40) (h : g = zup f k (f k + v k)) : ∀ j : Int, 0 ≤ j → j ≤ 40 → g j = if j < k + 1 then v j else 0 := fun j a b => by
  rw [h]
  by_cases c : j = k
  · subst c
    rw [zup_s, k2 j a b, if_neg (by omega), if_pos (by omega)]; omega
  · rw [zup_n c, k2 j a b]
    split <;> split <;> omega
theorem zrows_k {v f : Int → Int} {k : Int} (k2 : ∀ j : Int, 0 ≤ j → j ≤ 40 → f j = if j < k then v j else 0) (hk : 0 ≤ k ∧ k ≤ 40) (h : v k = 0) : ∀ j : Int, 0 ≤ j → j ≤ 40 → f j = if j < k + 1 then v j else 0 := fun j a b => by
  rw [k2 j a b]
  by_cases c : j = k
  · subst c
    rw [if_neg (by omega), if_pos (by omega), h]
  · split <;> split <;> omega
def rm_c_L_seed : Room := { frames := 0, cells := 1, slots := 2, locals := 0 }
set_option maxHeartbeats 1000000 in
set_option maxRecDepth 100000 in
theorem c_L_seed (l : Launch) (G : zG) (sa : Nat) (NS : Nat) (sf : Int → Int) (h1 : NS ≤ 260) : zM l G yL_seed wsL_seed rm_c_L_seed [.ref sa] [(sa, zaI (G.2 1) NS (sf))] (fun A => zQr G (fun (g2 : (Int → Int)) (ra : Nat) => True) (fun (g2 : (Int → Int)) (ra : Nat) => [(sa, zaI (G.2 1) NS (sf)), (ra, zaI (G.2 1) 2 (g2))]) A) 1 2 := by
  refine zM_of (cc := cL_seed) (maxL := 3) (ret := (some (.array .int))) (by decide) rfl (Nat.le_of_ble_eq_true rfl) ?_
  intro p e s m below meth c ls A Q hQ hx hb hr hts hown hlocks hml hnm hKX hP hD hA hS hl
  have hK := hKX.1
  obtain ⟨H, hH⟩ : ∃ h, h = s.heap := ⟨_, rfl⟩
  obtain ⟨locs, hlo⟩ : ∃ h : List Loc, h = [] := ⟨_, rfl⟩
  have hS : va_S A s.heap H locs := by rw [hH, hlo]; exact hS
  have hP : va_P G.1 vwCl [(sa, zaI (G.2 1) NS (sf))] H := by rw [hH]; exact hP
  have hD : va_D A [(sa, zaI (G.2 1) NS (sf))] := hD
  have hl : lv_has ls 3 [(0, .ref sa)] := hl
  rw [← hH, ← hlo]
  refine lv_iconst (v := iz (2)) hx hb dL_seed_0 rfl ?_
  refine zr_newaI (G := G) (n := 2) (N := 2) hx hb (hts (.arrayClass .int) (by decide +kernel)) hK hP hD hS hA (by omega) (by omega) (by omega) (by first | exact Nat.le_of_ble_eq_true rfl | (show _ ≤ (1 : Nat); omega)) (by first | exact Nat.le_of_ble_eq_true rfl | (show _ ≤ (2 : Nat); omega)) dL_seed_1 (fun ra H hP hD hS => ?_)
  have hP : va_P G.1 vwCl [(sa, zaI (G.2 1) NS (sf)), (ra, zaI (G.2 1) 2 (fun _ => 0))] H := hP
  have hD : va_D A [(sa, zaI (G.2 1) NS (sf)), (ra, zaI (G.2 1) 2 (fun _ => 0))] := hD
  refine lv_dup hx hb dL_seed_3 rfl ?_
  refine lv_iconst (v := iz (0)) hx hb dL_seed_4 rfl ?_
  refine lv_aload_n hx hb dL_seed_5 rfl (lv_at hl 0 rfl) ?_
  refine zr_alenI hx hb hK hP 0 1 rfl rfl dL_seed_6 ?_
  refine lv_sipush (v := iz (12345)) hx hb dL_seed_7 rfl ?_
  refine zr_iadd hx hb dL_seed_10 ?_
  refine zr_iast hx hb hK hP hD hS 1 1 rfl rfl (i := 0) (x := NS + 12345) (⟨by omega, by omega, by omega⟩) dL_seed_11 (fun H locs hP hD hS => ?_)
  have hP : va_P G.1 vwCl [(sa, zaI (G.2 1) NS (sf)), (ra, zaI (G.2 1) 2 (zup (fun _ => 0) 0 (NS + 12345)))] H := hP
  have hD : va_D A [(sa, zaI (G.2 1) NS (sf)), (ra, zaI (G.2 1) 2 (zup (fun _ => 0) 0 (NS + 12345)))] := hD
  refine lv_dup hx hb dL_seed_12 rfl ?_
  refine lv_iconst (v := iz (1)) hx hb dL_seed_13 rfl ?_
  refine zr_ldc (z := 987654321) hx hb hown (hts (.constant RL 9 (987654321)) (by decide +kernel)) rfl dL_seed_14 ?_
  refine zr_iast hx hb hK hP hD hS 1 1 rfl rfl (i := 1) (x := 987654321) (⟨by omega, by omega, by omega⟩) dL_seed_16 (fun H locs hP hD hS => ?_)
  have hP : va_P G.1 vwCl [(sa, zaI (G.2 1) NS (sf)), (ra, zaI (G.2 1) 2 (zup (zup (fun _ => 0) 0 (NS + 12345)) 1 987654321))] H := hP
  have hD : va_D A [(sa, zaI (G.2 1) NS (sf)), (ra, zaI (G.2 1) 2 (zup (zup (fun _ => 0) 0 (NS + 12345)) 1 987654321))] := hD
  refine lv_astore_n (lv' := [(1, .ref ra), (0, .ref sa)]) hx hb dL_seed_17 rfl hl (by decide) rfl (fun ls hl => ?_)
  refine lv_iconst (v := iz (0)) hx hb dL_seed_18 rfl ?_
  refine lv_istore_n (lv' := [(2, .int (iz (0))), (1, .ref ra), (0, .ref sa)]) hx hb dL_seed_19 rfl hl (by decide) rfl (fun ls hl => ?_)
  have hl_20 : ∀ (zn_20 : Nat) (k : Int) (g1 : Int → Int) (H : Heap) (locs : List Loc) (ls : Array Slot), ((NS : Int) - k).toNat < zn_20 → (0 ≤ k ∧ k ≤ (NS : Int)) → va_P G.1 vwCl [(sa, zaI (G.2 1) NS (sf)), (ra, zaI (G.2 1) 2 (g1))] H → va_D A [(sa, zaI (G.2 1) NS (sf)), (ra, zaI (G.2 1) 2 (g1))] → va_S A s.heap H locs → lv_has ls 3 [(2, .int (iz (k))), (1, .ref ra), (0, .ref sa)] → W p l e rm_c_L_seed s m ([.ref sa] : List Value).toArray below meth c H locs (0 + 1) (0 + 2) Q (F0 m 20 ls []) := by
    intro zn_20
    induction zn_20 with
    | zero => intro k g1 H locs ls hm; exact absurd hm (Nat.not_lt_zero _)
    | succ zn_20 ih_20 =>
      intro k g1 H locs ls hm_20 k1 hP hD hS hl
      refine lv_iload_n hx hb dL_seed_20 rfl (lv_at hl 0 rfl) ?_
      refine lv_aload_n hx hb dL_seed_21 rfl (lv_at hl 2 rfl) ?_
      refine zr_alenI hx hb hK hP 0 1 rfl rfl dL_seed_22 ?_
      refine zr_icmp_ge (x := k) (y := NS) (tgt := 67) hx hb (⟨by omega, by omega⟩) (⟨by omega, by omega⟩) dL_seed_23 (by decide) (fun h_2 => ?_) (fun h_2 => ?_)
      ·
        refine lv_aload_n hx hb dL_seed_67 rfl (lv_at hl 1 rfl) ?_
        rw [hQ]
        exact zr_aret (ra := ra) (Or.inr ⟨_, rfl⟩) (u := (g1)) hx hb hr hlocks hP hD hS (by first | exact Nat.le_of_ble_eq_true rfl | omega) (by first | exact Nat.le_of_ble_eq_true rfl | omega) dL_seed_68 (show True from trivial)
      ·
        refine lv_aload_n hx hb dL_seed_26 rfl (lv_at hl 1 rfl) ?_
        refine lv_iconst (v := iz (0)) hx hb dL_seed_27 rfl ?_
        refine lv_aload_n hx hb dL_seed_28 rfl (lv_at hl 1 rfl) ?_
        refine lv_iconst (v := iz (0)) hx hb dL_seed_29 rfl ?_
        refine zr_iald hx hb hK hP 1 1 rfl rfl (i := 0) (⟨by omega, by omega, by omega⟩) dL_seed_30 ?_
        refine lv_aload_n hx hb dL_seed_31 rfl (lv_at hl 2 rfl) ?_
        refine lv_iload_n hx hb dL_seed_32 rfl (lv_at hl 0 rfl) ?_
        refine zr_iald hx hb hK hP 0 1 rfl rfl (i := k) (⟨by omega, by omega, by omega⟩) dL_seed_33 ?_
        refine zr_ixorG hx hb dL_seed_34 (fun xr_3 hxr_3 => ?_)
        refine zr_ldc (z := 16777619) hx hb hown (hts (.constant RL 10 (16777619)) (by decide +kernel)) rfl dL_seed_35 ?_
        refine zr_imul hx hb dL_seed_37 ?_
        refine lv_iload_n hx hb dL_seed_38 rfl (lv_at hl 0 rfl) ?_
        refine zr_iadd hx hb dL_seed_39 ?_
        refine zr_iast hx hb hK hP hD hS 1 1 rfl rfl (i := 0) (x := (xr_3 * 16777619) + k) (⟨by omega, by omega, by omega⟩) dL_seed_40 (fun H locs hP hD hS => ?_)
        have hP : va_P G.1 vwCl [(sa, zaI (G.2 1) NS (sf)), (ra, zaI (G.2 1) 2 (zup g1 0 ((xr_3 * 16777619) + k)))] H := hP
        have hD : va_D A [(sa, zaI (G.2 1) NS (sf)), (ra, zaI (G.2 1) 2 (zup g1 0 ((xr_3 * 16777619) + k)))] := hD
        refine lv_aload_n hx hb dL_seed_41 rfl (lv_at hl 1 rfl) ?_
        refine lv_iconst (v := iz (1)) hx hb dL_seed_42 rfl ?_
        refine lv_aload_n hx hb dL_seed_43 rfl (lv_at hl 1 rfl) ?_
        refine lv_iconst (v := iz (1)) hx hb dL_seed_44 rfl ?_
        refine zr_iald hx hb hK hP 1 1 rfl rfl (i := 1) (⟨by omega, by omega, by omega⟩) dL_seed_45 ?_
        refine lv_aload_n hx hb dL_seed_46 rfl (lv_at hl 2 rfl) ?_
        refine lv_iload_n hx hb dL_seed_47 rfl (lv_at hl 0 rfl) ?_
        refine zr_iald hx hb hK hP 0 1 rfl rfl (i := k) (⟨by omega, by omega, by omega⟩) dL_seed_48 ?_
        refine zr_iadd hx hb dL_seed_49 ?_
        refine zr_ldc (z := 1103515245) hx hb hown (hts (.constant RL 11 (1103515245)) (by decide +kernel)) rfl dL_seed_50 ?_
        refine zr_imul hx hb dL_seed_52 ?_
        refine lv_aload_n hx hb dL_seed_53 rfl (lv_at hl 1 rfl) ?_
        refine lv_iconst (v := iz (0)) hx hb dL_seed_54 rfl ?_
        refine zr_iald hx hb hK hP 1 1 rfl rfl (i := 0) (⟨by omega, by omega, by omega⟩) dL_seed_55 ?_
        refine lv_bipush (v := iz (7)) hx hb dL_seed_56 rfl ?_
        refine zr_iushrG hx hb dL_seed_58 (fun sr_4 hsr_4 => ?_)
        refine zr_iadd hx hb dL_seed_59 ?_
        refine zr_iast hx hb hK hP hD hS 1 1 rfl rfl (i := 1) (x := ((((zup g1 0 ((xr_3 * 16777619) + k)) 1) + (sf k)) * 1103515245) + sr_4) (⟨by omega, by omega, by omega⟩) dL_seed_60 (fun H locs hP hD hS => ?_)
        have hP : va_P G.1 vwCl [(sa, zaI (G.2 1) NS (sf)), (ra, zaI (G.2 1) 2 (zup (zup g1 0 ((xr_3 * 16777619) + k)) 1 (((((zup g1 0 ((xr_3 * 16777619) + k)) 1) + (sf k)) * 1103515245) + sr_4)))] H := hP
        have hD : va_D A [(sa, zaI (G.2 1) NS (sf)), (ra, zaI (G.2 1) 2 (zup (zup g1 0 ((xr_3 * 16777619) + k)) 1 (((((zup g1 0 ((xr_3 * 16777619) + k)) 1) + (sf k)) * 1103515245) + sr_4)))] := hD
        refine lv_iinc (v := iz (k + 1)) (lv' := [(2, .int (iz (k + 1))), (1, .ref ra), (0, .ref sa)]) hx hb dL_seed_61 hl (k := 0) rfl (by rw [show Int32.ofInt (1) = iz (1) from rfl, iz_add]) (by decide) rfl (fun ls hl => ?_)
        refine lv_goto (tgt := 20) hx hb dL_seed_64 (by decide) ?_
        exact ih_20 (k + 1) (zup (zup g1 0 ((xr_3 * 16777619) + k)) 1 (((((zup g1 0 ((xr_3 * 16777619) + k)) 1) + (sf k)) * 1103515245) + sr_4)) _ _ _ (by omega) (by omega) (hP) (hD) hS (hl)
  exact hl_20 (((NS : Int) - 0 : Int).toNat + 1) 0 (zup (zup (fun _ => 0) 0 (NS + 12345)) 1 987654321) _ _ _ (Nat.lt_succ_self _) (by omega) (hP) (hD) hS (hl)

def rm_c_L_rows : Room := { frames := 9, cells := 1804, slots := 10824, locals := 160 }
set_option maxHeartbeats 1000000 in
set_option maxRecDepth 100000 in
theorem c_L_rows (l : Launch) (G : zG) (s1 : Nat) (s2 : Nat) (s3 : Nat) (x : Nat) (ro : Nat) (rw : Nat) (bo : Nat) (li : Nat) (sh : Nat) (tx : Nat) (lo : Nat) (nl : Nat) (am : Nat) (q : Nat) (bq : Nat) (f : Int → Int) (al : Nat) (v : Int → Int) (hl0 : l.stackTraces = false) (hf : zrok f) (hv : zrok v) : zMe l (zXM s1 s2 s3) G yL_rows wsL_rows rm_c_L_rows [.ref x, .ref al] [(x, .inr (10, [.ref ro, .ref rw, .ref bo, .ref li, .ref sh, .ref tx, .ref lo, .ref nl])), (rw, .inr (6, [.ref am, .ref q, .ref bq])), (am, zaL (G.2 0) 41 (f)), (al, zaL (G.2 0) 41 (v))] (fun A => zQv G (fun (f2 : (Int → Int)) => ∀ j : Int, 0 ≤ j → j ≤ 40 → f2 j = v j) (fun (f2 : (Int → Int)) => [(x, .inr (10, [.ref ro, .ref rw, .ref bo, .ref li, .ref sh, .ref tx, .ref lo, .ref nl])), (rw, .inr (6, [.ref am, .ref q, .ref bq])), (am, zaL (G.2 0) 41 (f2)), (al, zaL (G.2 0) 41 (v))]) A) 1804 10824 := by
  refine zMe_of (cc := cL_rows) (maxL := 6) (ret := none) (by decide) rfl (Nat.le_of_ble_eq_true rfl) ?_
  intro p e s m below meth c ls A Q hQ hx hb hr hts hown hlocks hml hnm hKX hE hP hD hA hS hl
  have hK := hKX.1
  obtain ⟨H, hH⟩ : ∃ h, h = s.heap := ⟨_, rfl⟩
  obtain ⟨locs, hlo⟩ : ∃ h : List Loc, h = [] := ⟨_, rfl⟩
  have hS : va_S A s.heap H locs := by rw [hH, hlo]; exact hS
  have hP : va_P G.1 vwCl [(x, .inr (10, [.ref ro, .ref rw, .ref bo, .ref li, .ref sh, .ref tx, .ref lo, .ref nl])), (rw, .inr (6, [.ref am, .ref q, .ref bq])), (am, zaL (G.2 0) 41 (f)), (al, zaL (G.2 0) 41 (v))] H := by rw [hH]; exact hP
  have hD : va_D A [(x, .inr (10, [.ref ro, .ref rw, .ref bo, .ref li, .ref sh, .ref tx, .ref lo, .ref nl])), (rw, .inr (6, [.ref am, .ref q, .ref bq])), (am, zaL (G.2 0) 41 (f)), (al, zaL (G.2 0) 41 (v))] := hD
  have hl : lv_has ls 6 [(0, .ref x), (1, .ref al)] := hl
  rw [← hH, ← hlo]
  refine lv_aload_n hx hb dL_rows_0 rfl (lv_at hl 0 rfl) ?_
  refine zc_i (wr := [(al, zaL (G.2 0) 41 (v))]) (va_runV (As := []) (rest := []) ⟨hx, hb, hml, hown, hts⟩ (c_X9_clearRow l G x ro rw bo li sh tx lo nl am q bq f (by omega) H.size) (cwV 0 hts gL_rows_X9_clearRow rfl rfl rfl (by decide +kernel) ⟨Nat.le_of_ble_eq_true rfl, Nat.le_of_ble_eq_true rfl⟩) (zpV hKX hP hD [0, 1, 2] rfl rfl 0 10 rfl rfl) rfl rfl hl.1 rfl (lv_room (Nat.le_of_ble_eq_true rfl)) dL_rows_1 ⟨(by first | exact Nat.le_of_ble_eq_true rfl | (show _ ≤ (1804 : Nat); omega)), (by first | exact Nat.le_of_ble_eq_true rfl | (show _ ≤ (10824 : Nat); omega))⟩) hP hD hS hA [0, 1, 2] [3] rfl rfl rfl (by decide) (fun z1 u_1 H locs h1 hP hD hS => ?_)
  generalize u_1 = f1 at hP hD h1
  have hP : va_P G.1 vwCl [(al, zaL (G.2 0) 41 (v)), (x, .inr (10, [.ref ro, .ref rw, .ref bo, .ref li, .ref sh, .ref tx, .ref lo, .ref nl])), (rw, .inr (6, [.ref am, .ref q, .ref bq])), (am, zaL (G.2 0) 41 (f1))] H := hP
  have hD : va_D A [(al, zaL (G.2 0) 41 (v)), (x, .inr (10, [.ref ro, .ref rw, .ref bo, .ref li, .ref sh, .ref tx, .ref lo, .ref nl])), (rw, .inr (6, [.ref am, .ref q, .ref bq])), (am, zaL (G.2 0) 41 (f1))] := hD
  have h1 : z1 = zcnt f 41 ∧ ∀ i : Int, 0 ≤ i → i ≤ 40 → f1 i = 0 := h1
  refine lv_istore_n (lv' := [(2, .int (iz (z1))), (0, .ref x), (1, .ref al)]) hx hb dL_rows_4 rfl hl (by decide) rfl (fun ls hl => ?_)
  refine lv_lconst (v := lz (0)) hx hb dL_rows_5 rfl ?_
  refine lv_lstore_n (lv' := [(3, .long (lz (0))), (2, .int (iz (z1))), (0, .ref x), (1, .ref al)]) hx hb dL_rows_6 rfl hl (by decide) rfl (fun ls hl => ?_)
  refine lv_iconst (v := iz (0)) hx hb dL_rows_7 rfl ?_
  refine lv_istore (lv' := [(5, .int (iz (0))), (3, .long (lz (0))), (2, .int (iz (z1))), (0, .ref x), (1, .ref al)]) hx hb dL_rows_8 hl (by decide) rfl (fun ls hl => ?_)
  have hl_10 : ∀ (zn_10 : Nat) (k : Int) (f2 : Int → Int) (H : Heap) (locs : List Loc) (ls : Array Slot), (41 - k).toNat < zn_10 → (0 ≤ k ∧ k ≤ 41) → (∀ j : Int, 0 ≤ j → j ≤ 40 → f2 j = if j < k then v j else 0) → va_P G.1 vwCl [(al, zaL (G.2 0) 41 (v)), (x, .inr (10, [.ref ro, .ref rw, .ref bo, .ref li, .ref sh, .ref tx, .ref lo, .ref nl])), (rw, .inr (6, [.ref am, .ref q, .ref bq])), (am, zaL (G.2 0) 41 (f2))] H → va_D A [(al, zaL (G.2 0) 41 (v)), (x, .inr (10, [.ref ro, .ref rw, .ref bo, .ref li, .ref sh, .ref tx, .ref lo, .ref nl])), (rw, .inr (6, [.ref am, .ref q, .ref bq])), (am, zaL (G.2 0) 41 (f2))] → va_S A s.heap H locs → lv_has ls 6 [(5, .int (iz (k))), (2, .int (iz (z1))), (0, .ref x), (1, .ref al)] → W p l e rm_c_L_rows s m ([.ref x, .ref al] : List Value).toArray below meth c H locs (44 * (k).toNat) (264 * (k).toNat) Q (F0 m 10 ls []) := by
    intro zn_10
    induction zn_10 with
    | zero => intro k f2 H locs ls hm; exact absurd hm (Nat.not_lt_zero _)
    | succ zn_10 ih_10 =>
      intro k f2 H locs ls hm_10 k1 k2 hP hD hS hl
      refine lv_iload hx hb dL_rows_10 (lv_at hl 0 rfl) ?_
      refine lv_aload_n hx hb dL_rows_12 rfl (lv_at hl 3 rfl) ?_
      refine zr_alenL hx hb hK hP 0 0 rfl rfl dL_rows_13 ?_
      refine zr_icmp_ge (x := k) (y := 41) (tgt := 43) hx hb (⟨by omega, by omega⟩) (⟨by omega, by omega⟩) dL_rows_14 (by decide) (fun h_3 => ?_) (fun h_3 => ?_)
      ·
        rw [hQ]
        exact zr_vret (u := (f2)) hx hb hr hlocks (hP.sub [1, 2, 3, 0] rfl) (hD.sub [1, 2, 3, 0] (by decide) rfl) hS (by first | exact Nat.le_of_ble_eq_true rfl | omega) (by first | exact Nat.le_of_ble_eq_true rfl | omega) dL_rows_43 (show ∀ j : Int, 0 ≤ j → j ≤ 40 → f2 j = v j from fun j a b => by rw [k2 j a b, if_pos (by omega)])
      ·
        refine lv_aload_n hx hb dL_rows_17 rfl (lv_at hl 3 rfl) ?_
        refine lv_iload hx hb dL_rows_18 (lv_at hl 0 rfl) ?_
        refine zr_lald hx hb hK hP 0 0 rfl rfl (i := k) (⟨by omega, by omega, by omega⟩) dL_rows_20 ?_
        have hvk := hv k (by omega) (by omega)
        refine lv_lconst (v := lz (0)) hx hb dL_rows_21 rfl ?_
        refine zr_lcmp_eq (x := v k) (y := 0) (tgt := 37) hx hb (⟨by omega, by omega⟩) (⟨by omega, by omega⟩) dL_rows_22 dL_rows_23 (by decide) (fun h_4 => ?_) (fun h_4 => ?_)
        ·
          refine lv_iinc (v := iz (k + 1)) (lv' := [(5, .int (iz (k + 1))), (2, .int (iz (z1))), (0, .ref x), (1, .ref al)]) hx hb dL_rows_37 hl (k := 0) rfl (by rw [show Int32.ofInt (1) = iz (1) from rfl, iz_add]) (by decide) rfl (fun ls hl => ?_)
          refine lv_goto (tgt := 10) hx hb dL_rows_40 (by decide) ?_
          refine W.widen (k := 44 * ((k + 1)).toNat) (n := 264 * ((k + 1)).toNat) (by omega) (by omega) ?_
          exact ih_10 (k + 1) f2 _ _ _ (by omega) (by omega) (by first | exact zrows_u k2 (by omega) h3.2.2.2 | exact zrows_k k2 (by omega) (by omega)) (hP) (hD) hS (hl)
        ·
          refine lv_aload_n hx hb dL_rows_26 rfl (lv_at hl 2 rfl) ?_
          refine lv_iload hx hb dL_rows_27 (lv_at hl 0 rfl) ?_
          refine lv_aload_n hx hb dL_rows_29 rfl (lv_at hl 3 rfl) ?_
          refine lv_iload hx hb dL_rows_30 (lv_at hl 0 rfl) ?_
          refine zr_lald hx hb hK hP 0 0 rfl rfl (i := k) (⟨by omega, by omega, by omega⟩) dL_rows_32 ?_
          have hfk := k2 k (by omega) (by omega)
          rw [if_neg (by omega)] at hfk
          have hok : zrok f2 := zrok_rows hv (by omega) k2
          refine zct_l (wr := [(al, zaL (G.2 0) 41 (v))]) (vx_runV (As := [.int (iz (k)), .long (lz (v k))]) (rest := []) ⟨hx, hb, hml, hown, hts⟩ (c_X9_pay l G s1 s2 s3 x ro rw bo li sh tx lo nl am q bq f2 k (v k) hl0 (by omega) (by omega) (hok) H.size) (cwV 2 hts gL_rows_X9_pay rfl rfl rfl (by decide +kernel) ⟨Nat.le_of_ble_eq_true rfl, Nat.le_of_ble_eq_true rfl⟩) (zpVe zXE_ok hE.1 hS hA hKX hP hD [1, 2, 3] rfl rfl (va_recv hK hP (ci := 10) (q0 := 1) rfl rfl)) rfl rfl hl.1 rfl (lv_room (Nat.le_of_ble_eq_true rfl)) dL_rows_33 ⟨(by first | exact Nat.le_of_ble_eq_true rfl | (show _ ≤ (1804 : Nat); omega)), (by first | exact Nat.le_of_ble_eq_true rfl | (show _ ≤ (10824 : Nat); omega))⟩) hP hD hS hA [1, 2, 3] [0] rfl rfl rfl (by decide) (fun E9 ce9 q9 ux_6 H locs hx9_7 hP hD hS hce9 hcv9 hcl9 => ?_) (fun z2 u_5 H locs h3 hP hD hS => ?_)
          ·
            have hP : va_P G.1 vwCl [(al, zaL (G.2 0) 41 (v)), (x, .inr (10, [.ref ro, .ref rw, .ref bo, .ref li, .ref sh, .ref tx, .ref lo, .ref nl])), (rw, .inr (6, [.ref am, .ref q, .ref bq])), (am, zaL (G.2 0) 41 (f2))] H := hP
            have hD : va_D A [(al, zaL (G.2 0) 41 (v)), (x, .inr (10, [.ref ro, .ref rw, .ref bo, .ref li, .ref sh, .ref tx, .ref lo, .ref nl])), (rw, .inr (6, [.ref am, .ref q, .ref bq])), (am, zaL (G.2 0) 41 (f2))] := hD
            rcases hx9_7 with ⟨rfl, hxc⟩ | ⟨rfl, hxc⟩
            ·
              have hxc : ¬ (0 ≤ k ∧ k ≤ 40 ∧ -1000000000 ≤ (v k) ∧ (v k) ≤ 1000000000) := hxc
              exact absurd hxc (by omega)
            ·
              have hxc : (0 ≤ k ∧ k ≤ 40 ∧ -1000000000 ≤ (v k) ∧ (v k) ≤ 1000000000) ∧ ¬ zamt (f2 k + (v k)) := hxc
              exact absurd hxc (by unfold zamt; omega)
          generalize u_5 = f3 at hP hD h3
          have hP : va_P G.1 vwCl [(al, zaL (G.2 0) 41 (v)), (x, .inr (10, [.ref ro, .ref rw, .ref bo, .ref li, .ref sh, .ref tx, .ref lo, .ref nl])), (rw, .inr (6, [.ref am, .ref q, .ref bq])), (am, zaL (G.2 0) 41 (f3))] H := hP
          have hD : va_D A [(al, zaL (G.2 0) 41 (v)), (x, .inr (10, [.ref ro, .ref rw, .ref bo, .ref li, .ref sh, .ref tx, .ref lo, .ref nl])), (rw, .inr (6, [.ref am, .ref q, .ref bq])), (am, zaL (G.2 0) 41 (f3))] := hD
          have h3 : (0 ≤ k ∧ k ≤ 40 ∧ -1000000000 ≤ (v k) ∧ (v k) ≤ 1000000000) ∧ zamt (f2 k + (v k)) ∧ z2 = f2 k + (v k) ∧ f3 = zup f2 k (f2 k + (v k)) := h3
          refine lv_lstore_n (lv' := [(3, .long (lz (z2))), (5, .int (iz (k))), (2, .int (iz (z1))), (0, .ref x), (1, .ref al)]) hx hb dL_rows_36 rfl hl (by decide) rfl (fun ls hl => ?_)
          refine lv_iinc (v := iz (k + 1)) (lv' := [(5, .int (iz (k + 1))), (3, .long (lz (z2))), (2, .int (iz (z1))), (0, .ref x), (1, .ref al)]) hx hb dL_rows_37 hl (k := 1) rfl (by rw [show Int32.ofInt (1) = iz (1) from rfl, iz_add]) (by decide) rfl (fun ls hl => ?_)
          refine lv_goto (tgt := 10) hx hb dL_rows_40 (by decide) ?_
          refine W.widen (k := 44 * ((k + 1)).toNat) (n := 264 * ((k + 1)).toNat) (by omega) (by omega) ?_
          exact ih_10 (k + 1) f3 _ _ _ (by omega) (by omega) (by first | exact zrows_u k2 (by omega) h3.2.2.2 | exact zrows_k k2 (by omega) (by omega)) (hP) (hD) hS (lv_sub hl [0, 2, 3, 4] rfl)
  refine W.widen (k := 44 * ((0 : Int)).toNat) (n := 264 * ((0 : Int)).toNat) (by omega) (by omega) ?_
  exact hl_10 ((41 - 0 : Int).toNat + 1) 0 f1 _ _ _ (Nat.lt_succ_self _) (by omega) (fun j a b => by rw [if_neg (by omega)]; exact h1.2 j a b) (hP) (hD) hS (lv_sub hl [0, 2, 3, 4] rfl)
