-- THE HOUSE: its public methods in any state, 2 (laid by wip/p40/y9b.py)
theorem zlok.mx {f : Int → Int} {ags : Int} (h : zlok f ags) : 1 ≤ (if ags = 0 then 1000000 else f (ags - 1)) ∧ (if ags = 0 then 1000000 else f (ags - 1)) ≤ 1000000 := by
  have h1 := h.1
  split
  · omega
  · exact h.2.1 (ags - 1) (by omega) (by omega)
theorem zlok.up {f : Int → Int} {ags le : Int} (h : zlok f ags) (ha : ags < 30) (hl : 1 ≤ le ∧ le ≤ (if ags = 0 then 1000000 else f (ags - 1))) : zlok (zup f ags le) (ags + 1) := by
  have h1 := h.1
  have hm := h.mx
  refine ⟨by omega, fun i a b => ?_, fun i a b => ?_⟩
  · by_cases c : i = ags
    · subst c; rw [zup_s]; omega
    · rw [zup_n c]; exact h.2.1 i a (by omega)
  · rw [zup_n (show i ≠ ags by omega)]
    by_cases c : i + 1 = ags
    · rw [c, zup_s]
      rw [if_neg (by omega), show ags - 1 = i by omega] at hl
      exact hl.2
    · rw [zup_n c]; exact h.2.2 i a (by omega)
theorem zwts.up {f : Int → Int} {n we : Int} (h : zwts f n) (hn : n < 12) (hw : 0 ≤ we ∧ we ≤ 1000000) : zwts (zup f n we) (n + 1) := by
  have h1 := h.1
  refine ⟨by omega, fun i a b => ?_⟩
  by_cases c : i = n
  · subst c; rw [zup_s]; exact hw
  · rw [zup_n c]; exact h.2 i a (by omega)
theorem zstp.nx {f g : Int → Int} {n : Int} (h : zstp f g n) : 0 ≤ (if n = 0 then 0 else f (n - 1) + 1) ∧ (if n = 0 then 0 else f (n - 1) + 1) ≤ 1000000001 := by
  have h1 := h.1
  split
  · omega
  · have := h.2 (n - 1) (by omega) (by omega)
    omega
theorem zstp.up {f g : Int → Int} {n a b : Int} (h : zstp f g n) (hn : n < 8) (ha : 0 ≤ a ∧ a ≤ 1000000000) (hb : 0 ≤ b ∧ b ≤ 1000) : zstp (zup f n a) (zup g n b) (n + 1) := by
  have h1 := h.1
  refine ⟨by omega, fun i x y => ?_⟩
  by_cases c : i = n
  · subst c; rw [zup_s, zup_s]; exact ⟨ha, hb⟩
  · rw [zup_n c, zup_n c]; exact h.2 i x (by omega)
def rm_c_X9_live : Room := { frames := 7, cells := 2, slots := 12, locals := 110 }
theorem iw_X9_live_X2 : ∀ w ∈ wsX20, w ∈ wsX9_live := by decide +kernel
theorem iw_X9_live_X9 : ∀ w ∈ wsX90, w ∈ wsX9_live := by decide +kernel
set_option maxHeartbeats 1000000 in
set_option maxRecDepth 100000 in
theorem c_X9_live (l : Launch) (G : zG) (s1 : Nat) (s2 : Nat) (s3 : Nat) (x : Nat) (ro : Nat) (rw : Nat) (bo : Nat) (li : Nat) (sh : Nat) (tx : Nat) (lo : Nat) (nl : Nat) (lv : Nat) (q : Nat) (bq : Nat) (f : Int → Int) (ags : Int) (le : Int) (hl0 : l.stackTraces = false) (r_le : -2147483648 ≤ le ∧ le < 2147483648) (hlv : zlok f ags) : zMt l (zXE s1 s2 s3) G yX9_live wsX9_live rm_c_X9_live [.ref x, .int (iz (le))] [(x, .inr (10, [.ref ro, .ref rw, .ref bo, .ref li, .ref sh, .ref tx, .ref lo, .ref nl])), (li, .inr (3, [.ref lv, .ref q, .ref bq, .int (iz (ags))])), (lv, zaI (G.2 1) 30 (f))] (fun A => zQi G (fun (z : Int) (_ : Unit) => (1 ≤ le ∧ le ≤ (if ags = 0 then 1000000 else f (ags - 1))) ∧ ags < 30 ∧ z = ags + 1 ∧ zlok (zup f ags le) (ags + 1)) (fun (_ : Unit) => [(x, .inr (10, [.ref ro, .ref rw, .ref bo, .ref li, .ref sh, .ref tx, .ref lo, .ref nl])), (li, .inr (3, [.ref lv, .ref q, .ref bq, .int (iz (ags + 1))])), (lv, zaI (G.2 1) 30 (zup f ags le))]) A) (SX := Unit) (fun (E9 : String) (ux : Unit) => (E9 = "java/lang/IllegalArgumentException" ∧ ¬ (1 ≤ le ∧ le ≤ (if ags = 0 then 1000000 else f (ags - 1)))) ∨ (E9 = "java/lang/IllegalStateException" ∧ (1 ≤ le ∧ le ≤ (if ags = 0 then 1000000 else f (ags - 1))) ∧ ¬ ags < 30)) (fun (ux : Unit) => [(x, .inr (10, [.ref ro, .ref rw, .ref bo, .ref li, .ref sh, .ref tx, .ref lo, .ref nl])), (li, .inr (3, [.ref lv, .ref q, .ref bq, .int (iz (ags))])), (lv, zaI (G.2 1) 30 (f))]) 2 12 := by
  refine zMt_of (cc := cX9_live) (maxL := 2) (ret := (some .int)) (by decide) rfl (Nat.le_of_ble_eq_true rfl) ?_
  intro p e s m below meth c ls A Q hQ hx hb hr hts hown hlocks hml hout hKX hE hP hD hA hS hl
  have hK := hKX.1
  have iwX2 := iw_X9_live_X2
  have iwX9 := iw_X9_live_X9
  obtain ⟨H, hH⟩ : ∃ h, h = s.heap := ⟨_, rfl⟩
  obtain ⟨locs, hlo⟩ : ∃ h : List Loc, h = [] := ⟨_, rfl⟩
  have hS : va_S A s.heap H locs := by rw [hH, hlo]; exact hS
  have hP : va_P G.1 vwCl [(x, .inr (10, [.ref ro, .ref rw, .ref bo, .ref li, .ref sh, .ref tx, .ref lo, .ref nl])), (li, .inr (3, [.ref lv, .ref q, .ref bq, .int (iz (ags))])), (lv, zaI (G.2 1) 30 (f))] H := by rw [hH]; exact hP
  have hD : va_D A [(x, .inr (10, [.ref ro, .ref rw, .ref bo, .ref li, .ref sh, .ref tx, .ref lo, .ref nl])), (li, .inr (3, [.ref lv, .ref q, .ref bq, .int (iz (ags))])), (lv, zaI (G.2 1) 30 (f))] := hD
  have hl : lv_has ls 2 [(0, .ref x), (1, .int (iz (le)))] := hl
  rw [← hH, ← hlo]
  have hl1 := hlv.1
  refine lv_iload_n hx hb dX9_live_0 rfl (lv_at hl 1 rfl) ?_
  refine zr_i2l hx hb (x := le) (⟨by omega, by omega⟩) dX9_live_1 ?_
  refine lv_lconst (v := lz (1)) hx hb dX9_live_2 rfl ?_
  refine lv_aload_n hx hb dX9_live_3 rfl (lv_at hl 0 rfl) ?_
  refine va_get (D := G.1) (ci := 10) (v := .ref li) (C := RX9) (T := TX9) (N := 8) hx hb hts iwX9 hown hK hP 0 rfl rfl 3 (by decide) (hts (.fieldLink RX9 33 "AnnuityHouse" "lives" "LAnnuityHouse$Lives;") (by decide +kernel)) (fun _ h9 => h9) rfl dX9_live_4 ?_
  refine zc_i (wr := [(x, .inr (10, [.ref ro, .ref rw, .ref bo, .ref li, .ref sh, .ref tx, .ref lo, .ref nl]))]) (va_runV (As := []) (rest := [.long (lz (1)), .long (lz (le))]) ⟨hx, hb, hml, hown, hts⟩ (c_X2_mostLeftNext l G li lv q bq f ags (by omega) H.size) (cwV 0 hts gX9_live_X2_mostLeftNext rfl rfl rfl (by decide +kernel) ⟨Nat.le_of_ble_eq_true rfl, Nat.le_of_ble_eq_true rfl⟩) (zpV hKX hP hD [1, 2] rfl rfl 1 3 rfl rfl) rfl rfl hl.1 rfl (lv_room (Nat.le_of_ble_eq_true rfl)) dX9_live_7 ⟨(by first | exact Nat.le_of_ble_eq_true rfl | (show _ ≤ (2 : Nat); omega)), (by first | exact Nat.le_of_ble_eq_true rfl | (show _ ≤ (12 : Nat); omega))⟩) hP hD hS hA [1, 2] [0] rfl rfl rfl (by decide) (fun ml u_1 H locs hml9 hP hD hS => ?_)
  have hP : va_P G.1 vwCl [(x, .inr (10, [.ref ro, .ref rw, .ref bo, .ref li, .ref sh, .ref tx, .ref lo, .ref nl])), (li, .inr (3, [.ref lv, .ref q, .ref bq, .int (iz (ags))])), (lv, zaI (G.2 1) 30 (f))] H := hP
  have hD : va_D A [(x, .inr (10, [.ref ro, .ref rw, .ref bo, .ref li, .ref sh, .ref tx, .ref lo, .ref nl])), (li, .inr (3, [.ref lv, .ref q, .ref bq, .int (iz (ags))])), (lv, zaI (G.2 1) 30 (f))] := hD
  have hml9 : ml = if ags = 0 then 1000000 else f (ags - 1) := hml9
  have hmr := hlv.mx
  rw [← hml9] at hmr
  refine zr_i2l hx hb (x := ml) (⟨by omega, by omega⟩) dX9_live_10 ?_
  refine zc_z (wr := [(x, .inr (10, [.ref ro, .ref rw, .ref bo, .ref li, .ref sh, .ref tx, .ref lo, .ref nl])), (li, .inr (3, [.ref lv, .ref q, .ref bq, .int (iz (ags))])), (lv, zaI (G.2 1) 30 (f))]) (va_runS (As := [.long (lz (le)), .long (lz (1)), .long (lz (ml))]) (rest := []) ⟨hx, hb, hml, hown, hts⟩ (c_X9_isWithin l G le 1 ml (by omega) (by omega) (by omega) H.size) (va_cwS 3 hts gX9_live_X9_isWithin rfl rfl rfl (by decide +kernel) ⟨Nat.le_of_ble_eq_true rfl, Nat.le_of_ble_eq_true rfl⟩) (zpS hKX hP hD [] rfl rfl) rfl rfl hl.1 rfl (lv_room (Nat.le_of_ble_eq_true rfl)) dX9_live_11 ⟨(by first | exact Nat.le_of_ble_eq_true rfl | (show _ ≤ (2 : Nat); omega)), (by first | exact Nat.le_of_ble_eq_true rfl | (show _ ≤ (12 : Nat); omega))⟩) hP hD hS hA [] [0, 1, 2] rfl rfl rfl (by decide) (fun z_4 u_3 H locs hq_6 hP hD hS => ?_)
  have hP : va_P G.1 vwCl [(x, .inr (10, [.ref ro, .ref rw, .ref bo, .ref li, .ref sh, .ref tx, .ref lo, .ref nl])), (li, .inr (3, [.ref lv, .ref q, .ref bq, .int (iz (ags))])), (lv, zaI (G.2 1) 30 (f))] H := hP
  have hD : va_D A [(x, .inr (10, [.ref ro, .ref rw, .ref bo, .ref li, .ref sh, .ref tx, .ref lo, .ref nl])), (li, .inr (3, [.ref lv, .ref q, .ref bq, .int (iz (ags))])), (lv, zaI (G.2 1) 30 (f))] := hD
  have hq_6 : z_4 = decide ((1 : Int) ≤ le ∧ le ≤ ml) := hq_6
  refine zct_v (wr := [(x, .inr (10, [.ref ro, .ref rw, .ref bo, .ref li, .ref sh, .ref tx, .ref lo, .ref nl])), (li, .inr (3, [.ref lv, .ref q, .ref bq, .int (iz (ags))])), (lv, zaI (G.2 1) 30 (f))]) (vx_runS (As := [.int (iz (zbb z_4))]) (rest := []) ⟨hx, hb, hml, hown, hts⟩ (c_X9_demand_t l G s1 s2 s3 z_4 hl0 H.size) (va_cwS 1 hts gX9_live_X9_demand rfl rfl rfl (by decide +kernel) ⟨Nat.le_of_ble_eq_true rfl, Nat.le_of_ble_eq_true rfl⟩) (zpSe zXE_ok hE hS hA hKX hP hD [] rfl rfl) rfl rfl hl.1 rfl (lv_room (Nat.le_of_ble_eq_true rfl)) dX9_live_14 ⟨(by first | exact Nat.le_of_ble_eq_true rfl | (show _ ≤ (2 : Nat); omega)), (by first | exact Nat.le_of_ble_eq_true rfl | (show _ ≤ (12 : Nat); omega))⟩) hP hD hS hA [] [0, 1, 2] rfl rfl rfl (by decide) (fun E9 ce9 q9 ux_10 H locs hx9_11 hP hD hS hce9 hcv9 hcl9 => ?_) (fun u_9 H locs hq_8 hP hD hS => ?_)
  ·
    have hP : va_P G.1 vwCl [(x, .inr (10, [.ref ro, .ref rw, .ref bo, .ref li, .ref sh, .ref tx, .ref lo, .ref nl])), (li, .inr (3, [.ref lv, .ref q, .ref bq, .int (iz (ags))])), (lv, zaI (G.2 1) 30 (f))] H := hP
    have hD : va_D A [(x, .inr (10, [.ref ro, .ref rw, .ref bo, .ref li, .ref sh, .ref tx, .ref lo, .ref nl])), (li, .inr (3, [.ref lv, .ref q, .ref bq, .int (iz (ags))])), (lv, zaI (G.2 1) 30 (f))] := hD
    rcases hx9_11 with ⟨rfl, hxc⟩
    ·
      have hxc : z_4 = false := hxc
      have hzz_4 := of_decide_eq_false (hq_6.symm.trans hxc)
      rw [hQ]
      exact zt_out () hout hlocks hce9 hcv9 hcl9 hP hD hS (Or.inl ⟨rfl, (show ¬ (1 ≤ le ∧ le ≤ (if ags = 0 then 1000000 else f (ags - 1))) from by rw [← hml9]; omega)⟩) (by first | exact Nat.le_of_ble_eq_true rfl | omega) (by first | exact Nat.le_of_ble_eq_true rfl | omega)
  have hP : va_P G.1 vwCl [(x, .inr (10, [.ref ro, .ref rw, .ref bo, .ref li, .ref sh, .ref tx, .ref lo, .ref nl])), (li, .inr (3, [.ref lv, .ref q, .ref bq, .int (iz (ags))])), (lv, zaI (G.2 1) 30 (f))] H := hP
  have hD : va_D A [(x, .inr (10, [.ref ro, .ref rw, .ref bo, .ref li, .ref sh, .ref tx, .ref lo, .ref nl])), (li, .inr (3, [.ref lv, .ref q, .ref bq, .int (iz (ags))])), (lv, zaI (G.2 1) 30 (f))] := hD
  have hq_8 : z_4 = true := hq_8
  have hzz_4 := of_decide_eq_true (hq_6.symm.trans hq_8)
  have hl_34 : ∀ (bq9 : Bool) (H : Heap) (locs : List Loc) (ls : Array Slot), (bq9 = decide (ags < 30)) → va_P G.1 vwCl [(x, .inr (10, [.ref ro, .ref rw, .ref bo, .ref li, .ref sh, .ref tx, .ref lo, .ref nl])), (li, .inr (3, [.ref lv, .ref q, .ref bq, .int (iz (ags))])), (lv, zaI (G.2 1) 30 (f))] H → va_D A [(x, .inr (10, [.ref ro, .ref rw, .ref bo, .ref li, .ref sh, .ref tx, .ref lo, .ref nl])), (li, .inr (3, [.ref lv, .ref q, .ref bq, .int (iz (ags))])), (lv, zaI (G.2 1) 30 (f))] → va_S A s.heap H locs → lv_has ls 2 [(0, .ref x), (1, .int (iz (le)))] → W p l e rm_c_X9_live s m ([.ref x, .int (iz (le))] : List Value).toArray below meth c H locs (0 + 0 + 0 + 1) (0 + 0 + 0 + 6) Q (F0 m 34 ls [.int (iz (zbb bq9))]) := by
    intro bq9 H locs ls jq hP hD hS hl
    refine zct_v (wr := [(x, .inr (10, [.ref ro, .ref rw, .ref bo, .ref li, .ref sh, .ref tx, .ref lo, .ref nl])), (li, .inr (3, [.ref lv, .ref q, .ref bq, .int (iz (ags))])), (lv, zaI (G.2 1) 30 (f))]) (vx_runS (As := [.int (iz (zbb bq9))]) (rest := []) ⟨hx, hb, hml, hown, hts⟩ (c_X9_demandState_t l G s1 s2 s3 bq9 hl0 H.size) (va_cwS 1 hts gX9_live_X9_demandState rfl rfl rfl (by decide +kernel) ⟨Nat.le_of_ble_eq_true rfl, Nat.le_of_ble_eq_true rfl⟩) (zpSe zXE_ok hE hS hA hKX hP hD [] rfl rfl) rfl rfl hl.1 rfl (lv_room (Nat.le_of_ble_eq_true rfl)) dX9_live_34 ⟨(by first | exact Nat.le_of_ble_eq_true rfl | (show _ ≤ (2 : Nat); omega)), (by first | exact Nat.le_of_ble_eq_true rfl | (show _ ≤ (12 : Nat); omega))⟩) hP hD hS hA [] [0, 1, 2] rfl rfl rfl (by decide) (fun E9 ce9 q9 ux_14 H locs hx9_15 hP hD hS hce9 hcv9 hcl9 => ?_) (fun u_13 H locs td hP hD hS => ?_)
    ·
      have hP : va_P G.1 vwCl [(x, .inr (10, [.ref ro, .ref rw, .ref bo, .ref li, .ref sh, .ref tx, .ref lo, .ref nl])), (li, .inr (3, [.ref lv, .ref q, .ref bq, .int (iz (ags))])), (lv, zaI (G.2 1) 30 (f))] H := hP
      have hD : va_D A [(x, .inr (10, [.ref ro, .ref rw, .ref bo, .ref li, .ref sh, .ref tx, .ref lo, .ref nl])), (li, .inr (3, [.ref lv, .ref q, .ref bq, .int (iz (ags))])), (lv, zaI (G.2 1) 30 (f))] := hD
      rcases hx9_15 with ⟨rfl, hxc⟩
      ·
        have hxc : bq9 = false := hxc
        rw [hQ]
        exact zt_out () hout hlocks hce9 hcv9 hcl9 hP hD hS (Or.inr ⟨rfl, (show (1 ≤ le ∧ le ≤ (if ags = 0 then 1000000 else f (ags - 1))) ∧ ¬ ags < 30 from ⟨by rw [← hml9]; omega, of_decide_eq_false (jq.symm.trans hxc)⟩)⟩) (by first | exact Nat.le_of_ble_eq_true rfl | omega) (by first | exact Nat.le_of_ble_eq_true rfl | omega)
    have hP : va_P G.1 vwCl [(x, .inr (10, [.ref ro, .ref rw, .ref bo, .ref li, .ref sh, .ref tx, .ref lo, .ref nl])), (li, .inr (3, [.ref lv, .ref q, .ref bq, .int (iz (ags))])), (lv, zaI (G.2 1) 30 (f))] H := hP
    have hD : va_D A [(x, .inr (10, [.ref ro, .ref rw, .ref bo, .ref li, .ref sh, .ref tx, .ref lo, .ref nl])), (li, .inr (3, [.ref lv, .ref q, .ref bq, .int (iz (ags))])), (lv, zaI (G.2 1) 30 (f))] := hD
    have td : bq9 = true := td
    have ha30 : ags < 30 := of_decide_eq_true (jq.symm.trans td)
    refine lv_aload_n hx hb dX9_live_37 rfl (lv_at hl 0 rfl) ?_
    refine va_get (D := G.1) (ci := 10) (v := .ref li) (C := RX9) (T := TX9) (N := 8) hx hb hts iwX9 hown hK hP 0 rfl rfl 3 (by decide) (hts (.fieldLink RX9 33 "AnnuityHouse" "lives" "LAnnuityHouse$Lives;") (by decide +kernel)) (fun _ h9 => h9) rfl dX9_live_38 ?_
    refine lv_iload_n hx hb dX9_live_41 rfl (lv_at hl 1 rfl) ?_
    refine zc_i (wr := [(x, .inr (10, [.ref ro, .ref rw, .ref bo, .ref li, .ref sh, .ref tx, .ref lo, .ref nl]))]) (va_runV (As := [.int (iz (le))]) (rest := []) ⟨hx, hb, hml, hown, hts⟩ (c_X2_add l G li lv q bq f ags le (by omega) H.size) (cwV 1 hts gX9_live_X2_add rfl rfl rfl (by decide +kernel) ⟨Nat.le_of_ble_eq_true rfl, Nat.le_of_ble_eq_true rfl⟩) (zpV hKX hP hD [1, 2] rfl rfl 1 3 rfl rfl) rfl rfl hl.1 rfl (lv_room (Nat.le_of_ble_eq_true rfl)) dX9_live_42 ⟨(by first | exact Nat.le_of_ble_eq_true rfl | (show _ ≤ (2 : Nat); omega)), (by first | exact Nat.le_of_ble_eq_true rfl | (show _ ≤ (12 : Nat); omega))⟩) hP hD hS hA [1, 2] [0] rfl rfl rfl (by decide) (fun zz u_16 H locs hz hP hD hS => ?_)
    have hP : va_P G.1 vwCl [(x, .inr (10, [.ref ro, .ref rw, .ref bo, .ref li, .ref sh, .ref tx, .ref lo, .ref nl])), (li, .inr (3, [.ref lv, .ref q, .ref bq, .int (iz (ags + 1))])), (lv, zaI (G.2 1) 30 (zup f ags le))] H := hP
    have hD : va_D A [(x, .inr (10, [.ref ro, .ref rw, .ref bo, .ref li, .ref sh, .ref tx, .ref lo, .ref nl])), (li, .inr (3, [.ref lv, .ref q, .ref bq, .int (iz (ags + 1))])), (lv, zaI (G.2 1) 30 (zup f ags le))] := hD
    have hz : zz = ags + 1 := hz
    rw [hQ]
    exact vx_ret (zr_iret (z := zz) (u := ()) hx hb hr hlocks hP hD hS (by first | exact Nat.le_of_ble_eq_true rfl | omega) (by first | exact Nat.le_of_ble_eq_true rfl | omega) dX9_live_45 (show (1 ≤ le ∧ le ≤ (if ags = 0 then 1000000 else f (ags - 1))) ∧ ags < 30 ∧ zz = ags + 1 ∧ zlok (zup f ags le) (ags + 1) from ⟨by rw [← hml9]; omega, ha30, hz, hlv.up ha30 (by rw [← hml9]; omega)⟩))
  refine lv_aload_n hx hb dX9_live_17 rfl (lv_at hl 0 rfl) ?_
  refine va_get (D := G.1) (ci := 10) (v := .ref li) (C := RX9) (T := TX9) (N := 8) hx hb hts iwX9 hown hK hP 0 rfl rfl 3 (by decide) (hts (.fieldLink RX9 33 "AnnuityHouse" "lives" "LAnnuityHouse$Lives;") (by decide +kernel)) (fun _ h9 => h9) rfl dX9_live_18 ?_
  refine va_get (D := G.1) (ci := 3) (v := .int (iz (ags))) (C := RX2) (T := TX2) (N := 4) hx hb hts iwX2 hown hK hP 1 rfl rfl 3 (by decide) (hts (.fieldLink RX9 203 "AnnuityHouse$Lives" "ages" "I") (by decide +kernel)) (fun _ h9 => h9) rfl dX9_live_21 ?_
  refine lv_bipush (v := iz (30)) hx hb dX9_live_24 rfl ?_
  refine zr_icmp_ge (x := ags) (y := 30) (tgt := 33) hx hb (⟨by omega, by omega⟩) (⟨by omega, by omega⟩) dX9_live_26 (by decide) (fun h_18 => ?_) (fun h_18 => ?_)
  ·
    refine lv_iconst (v := iz (0)) hx hb dX9_live_33 rfl ?_
    exact hl_34 false _ _ _ (by first | exact (decide_eq_true (by omega)).symm | exact (decide_eq_false (by omega)).symm) (hP) (hD) hS (hl)
  ·
    refine lv_iconst (v := iz (1)) hx hb dX9_live_29 rfl ?_
    refine lv_goto (tgt := 34) hx hb dX9_live_30 (by decide) ?_
    exact hl_34 true _ _ _ (by first | exact (decide_eq_true (by omega)).symm | exact (decide_eq_false (by omega)).symm) (hP) (hD) hS (hl)

def rm_c_X9_demandInsured : Room := { frames := 8, cells := 3, slots := 18, locals := 130 }
theorem iw_X9_demandInsured_X2 : ∀ w ∈ wsX20, w ∈ wsX9_demandInsured := by decide +kernel
theorem iw_X9_demandInsured_X9 : ∀ w ∈ wsX90, w ∈ wsX9_demandInsured := by decide +kernel
set_option maxHeartbeats 1000000 in
set_option maxRecDepth 100000 in
theorem c_X9_demandInsured (l : Launch) (G : zG) (s1 : Nat) (s2 : Nat) (s3 : Nat) (x : Nat) (ro : Nat) (rw : Nat) (bo : Nat) (li : Nat) (sh : Nat) (tx : Nat) (lo : Nat) (nl : Nat) (lv : Nat) (q : Nat) (bq : Nat) (f : Int → Int) (ags : Int) (ag : Int) (mo : Int) (po : Int) (hl0 : l.stackTraces = false) (r_ag : -2147483648 ≤ ag ∧ ag < 2147483648) (r_mo : -9223372036854775808 ≤ mo ∧ mo < 9223372036854775808) (r_po : -2147483648 ≤ po ∧ po < 2147483648) (hlv : zlok f ags) : zMt l (zXE s1 s2 s3) G yX9_demandInsured wsX9_demandInsured rm_c_X9_demandInsured [.ref x, .int (iz (ag)), .long (lz (mo)), .int (iz (po))] [(x, .inr (10, [.ref ro, .ref rw, .ref bo, .ref li, .ref sh, .ref tx, .ref lo, .ref nl])), (li, .inr (3, [.ref lv, .ref q, .ref bq, .int (iz (ags))]))] (fun A => zQv G (fun (_ : Unit) => (0 ≤ mo ∧ mo ≤ 1000000000 ∧ 0 ≤ po ∧ po ≤ 20000) ∧ 0 ≤ ag ∧ ag < ags) (fun (_ : Unit) => [(x, .inr (10, [.ref ro, .ref rw, .ref bo, .ref li, .ref sh, .ref tx, .ref lo, .ref nl])), (li, .inr (3, [.ref lv, .ref q, .ref bq, .int (iz (ags))]))]) A) (SX := Unit) (fun (E9 : String) (ux : Unit) => (E9 = "java/lang/IllegalArgumentException" ∧ ¬ (0 ≤ mo ∧ mo ≤ 1000000000 ∧ 0 ≤ po ∧ po ≤ 20000)) ∨ (E9 = "java/util/NoSuchElementException" ∧ (0 ≤ mo ∧ mo ≤ 1000000000 ∧ 0 ≤ po ∧ po ≤ 20000) ∧ ¬ (0 ≤ ag ∧ ag < ags))) (fun (ux : Unit) => [(x, .inr (10, [.ref ro, .ref rw, .ref bo, .ref li, .ref sh, .ref tx, .ref lo, .ref nl])), (li, .inr (3, [.ref lv, .ref q, .ref bq, .int (iz (ags))]))]) 3 18 := by
  refine zMt_of (cc := cX9_demandInsured) (maxL := 5) (ret := none) (by decide) rfl (Nat.le_of_ble_eq_true rfl) ?_
  intro p e s m below meth c ls A Q hQ hx hb hr hts hown hlocks hml hout hKX hE hP hD hA hS hl
  have hK := hKX.1
  have iwX2 := iw_X9_demandInsured_X2
  have iwX9 := iw_X9_demandInsured_X9
  obtain ⟨H, hH⟩ : ∃ h, h = s.heap := ⟨_, rfl⟩
  obtain ⟨locs, hlo⟩ : ∃ h : List Loc, h = [] := ⟨_, rfl⟩
  have hS : va_S A s.heap H locs := by rw [hH, hlo]; exact hS
  have hP : va_P G.1 vwCl [(x, .inr (10, [.ref ro, .ref rw, .ref bo, .ref li, .ref sh, .ref tx, .ref lo, .ref nl])), (li, .inr (3, [.ref lv, .ref q, .ref bq, .int (iz (ags))]))] H := by rw [hH]; exact hP
  have hD : va_D A [(x, .inr (10, [.ref ro, .ref rw, .ref bo, .ref li, .ref sh, .ref tx, .ref lo, .ref nl])), (li, .inr (3, [.ref lv, .ref q, .ref bq, .int (iz (ags))]))] := hD
  have hl : lv_has ls 5 [(0, .ref x), (1, .int (iz (ag))), (2, .long (lz (mo))), (4, .int (iz (po)))] := hl
  rw [← hH, ← hlo]
  have hl1 := hlv.1
  refine lv_lload_n hx hb dX9_demandInsured_0 rfl (lv_at hl 2 rfl) ?_
  refine lv_lconst (v := lz (0)) hx hb dX9_demandInsured_1 rfl ?_
  refine zr_ldc2 (z := 1000000000) hx hb hown (hts (.constantLong RX9 91 (1000000000)) (by decide +kernel)) rfl dX9_demandInsured_2 ?_
  refine zc_z (wr := [(x, .inr (10, [.ref ro, .ref rw, .ref bo, .ref li, .ref sh, .ref tx, .ref lo, .ref nl])), (li, .inr (3, [.ref lv, .ref q, .ref bq, .int (iz (ags))]))]) (va_runS (As := [.long (lz (mo)), .long (lz (0)), .long (lz (1000000000))]) (rest := []) ⟨hx, hb, hml, hown, hts⟩ (c_X9_isWithin l G mo 0 1000000000 (by omega) (by omega) (by omega) H.size) (va_cwS 3 hts gX9_demandInsured_X9_isWithin rfl rfl rfl (by decide +kernel) ⟨Nat.le_of_ble_eq_true rfl, Nat.le_of_ble_eq_true rfl⟩) (zpS hKX hP hD [] rfl rfl) rfl rfl hl.1 rfl (lv_room (Nat.le_of_ble_eq_true rfl)) dX9_demandInsured_5 ⟨(by first | exact Nat.le_of_ble_eq_true rfl | (show _ ≤ (3 : Nat); omega)), (by first | exact Nat.le_of_ble_eq_true rfl | (show _ ≤ (18 : Nat); omega))⟩) hP hD hS hA [] [0, 1] rfl rfl rfl (by decide) (fun z_2 u_1 H locs hq_4 hP hD hS => ?_)
  have hP : va_P G.1 vwCl [(x, .inr (10, [.ref ro, .ref rw, .ref bo, .ref li, .ref sh, .ref tx, .ref lo, .ref nl])), (li, .inr (3, [.ref lv, .ref q, .ref bq, .int (iz (ags))]))] H := hP
  have hD : va_D A [(x, .inr (10, [.ref ro, .ref rw, .ref bo, .ref li, .ref sh, .ref tx, .ref lo, .ref nl])), (li, .inr (3, [.ref lv, .ref q, .ref bq, .int (iz (ags))]))] := hD
  have hq_4 : z_2 = decide ((0 : Int) ≤ mo ∧ mo ≤ (1000000000 : Int)) := hq_4
  refine zct_v (wr := [(x, .inr (10, [.ref ro, .ref rw, .ref bo, .ref li, .ref sh, .ref tx, .ref lo, .ref nl])), (li, .inr (3, [.ref lv, .ref q, .ref bq, .int (iz (ags))]))]) (vx_runS (As := [.int (iz (zbb z_2))]) (rest := []) ⟨hx, hb, hml, hown, hts⟩ (c_X9_demand_t l G s1 s2 s3 z_2 hl0 H.size) (va_cwS 1 hts gX9_demandInsured_X9_demand rfl rfl rfl (by decide +kernel) ⟨Nat.le_of_ble_eq_true rfl, Nat.le_of_ble_eq_true rfl⟩) (zpSe zXE_ok hE hS hA hKX hP hD [] rfl rfl) rfl rfl hl.1 rfl (lv_room (Nat.le_of_ble_eq_true rfl)) dX9_demandInsured_8 ⟨(by first | exact Nat.le_of_ble_eq_true rfl | (show _ ≤ (3 : Nat); omega)), (by first | exact Nat.le_of_ble_eq_true rfl | (show _ ≤ (18 : Nat); omega))⟩) hP hD hS hA [] [0, 1] rfl rfl rfl (by decide) (fun E9 ce9 q9 ux_8 H locs hx9_9 hP hD hS hce9 hcv9 hcl9 => ?_) (fun u_7 H locs hq_6 hP hD hS => ?_)
  ·
    have hP : va_P G.1 vwCl [(x, .inr (10, [.ref ro, .ref rw, .ref bo, .ref li, .ref sh, .ref tx, .ref lo, .ref nl])), (li, .inr (3, [.ref lv, .ref q, .ref bq, .int (iz (ags))]))] H := hP
    have hD : va_D A [(x, .inr (10, [.ref ro, .ref rw, .ref bo, .ref li, .ref sh, .ref tx, .ref lo, .ref nl])), (li, .inr (3, [.ref lv, .ref q, .ref bq, .int (iz (ags))]))] := hD
    rcases hx9_9 with ⟨rfl, hxc⟩
    ·
      have hxc : z_2 = false := hxc
      have hzz_2 := of_decide_eq_false (hq_4.symm.trans hxc)
      rw [hQ]
      exact zt_out () hout hlocks hce9 hcv9 hcl9 hP hD hS (Or.inl ⟨rfl, (show ¬ (0 ≤ mo ∧ mo ≤ 1000000000 ∧ 0 ≤ po ∧ po ≤ 20000) from by first | exact hxc | omega)⟩) (by first | exact Nat.le_of_ble_eq_true rfl | omega) (by first | exact Nat.le_of_ble_eq_true rfl | omega)
  have hP : va_P G.1 vwCl [(x, .inr (10, [.ref ro, .ref rw, .ref bo, .ref li, .ref sh, .ref tx, .ref lo, .ref nl])), (li, .inr (3, [.ref lv, .ref q, .ref bq, .int (iz (ags))]))] H := hP
  have hD : va_D A [(x, .inr (10, [.ref ro, .ref rw, .ref bo, .ref li, .ref sh, .ref tx, .ref lo, .ref nl])), (li, .inr (3, [.ref lv, .ref q, .ref bq, .int (iz (ags))]))] := hD
  have hq_6 : z_2 = true := hq_6
  have hzz_2 := of_decide_eq_true (hq_4.symm.trans hq_6)
  refine lv_iload hx hb dX9_demandInsured_11 (lv_at hl 3 rfl) ?_
  refine zct_v (wr := [(x, .inr (10, [.ref ro, .ref rw, .ref bo, .ref li, .ref sh, .ref tx, .ref lo, .ref nl])), (li, .inr (3, [.ref lv, .ref q, .ref bq, .int (iz (ags))]))]) (vx_runS (As := [.int (iz (po))]) (rest := []) ⟨hx, hb, hml, hown, hts⟩ (c_X9_demandRate l G s1 s2 s3 po hl0 (by omega) H.size) (va_cwS 1 hts gX9_demandInsured_X9_demandRate rfl rfl rfl (by decide +kernel) ⟨Nat.le_of_ble_eq_true rfl, Nat.le_of_ble_eq_true rfl⟩) (zpSe zXE_ok hE hS hA hKX hP hD [] rfl rfl) rfl rfl hl.1 rfl (lv_room (Nat.le_of_ble_eq_true rfl)) dX9_demandInsured_13 ⟨(by first | exact Nat.le_of_ble_eq_true rfl | (show _ ≤ (3 : Nat); omega)), (by first | exact Nat.le_of_ble_eq_true rfl | (show _ ≤ (18 : Nat); omega))⟩) hP hD hS hA [] [0, 1] rfl rfl rfl (by decide) (fun E9 ce9 q9 ux_13 H locs hx9_14 hP hD hS hce9 hcv9 hcl9 => ?_) (fun u_12 H locs hq_11 hP hD hS => ?_)
  ·
    have hP : va_P G.1 vwCl [(x, .inr (10, [.ref ro, .ref rw, .ref bo, .ref li, .ref sh, .ref tx, .ref lo, .ref nl])), (li, .inr (3, [.ref lv, .ref q, .ref bq, .int (iz (ags))]))] H := hP
    have hD : va_D A [(x, .inr (10, [.ref ro, .ref rw, .ref bo, .ref li, .ref sh, .ref tx, .ref lo, .ref nl])), (li, .inr (3, [.ref lv, .ref q, .ref bq, .int (iz (ags))]))] := hD
    rcases hx9_14 with ⟨rfl, hxc⟩
    ·
      have hxc : ¬ (0 ≤ po ∧ po ≤ 20000) := hxc
      rw [hQ]
      exact zt_out () hout hlocks hce9 hcv9 hcl9 hP hD hS (Or.inl ⟨rfl, (show ¬ (0 ≤ mo ∧ mo ≤ 1000000000 ∧ 0 ≤ po ∧ po ≤ 20000) from by first | exact hxc | omega)⟩) (by first | exact Nat.le_of_ble_eq_true rfl | omega) (by first | exact Nat.le_of_ble_eq_true rfl | omega)
  have hP : va_P G.1 vwCl [(x, .inr (10, [.ref ro, .ref rw, .ref bo, .ref li, .ref sh, .ref tx, .ref lo, .ref nl])), (li, .inr (3, [.ref lv, .ref q, .ref bq, .int (iz (ags))]))] H := hP
  have hD : va_D A [(x, .inr (10, [.ref ro, .ref rw, .ref bo, .ref li, .ref sh, .ref tx, .ref lo, .ref nl])), (li, .inr (3, [.ref lv, .ref q, .ref bq, .int (iz (ags))]))] := hD
  have hq_11 : 0 ≤ po ∧ po ≤ 20000 := hq_11
  refine lv_iload_n hx hb dX9_demandInsured_16 rfl (lv_at hl 1 rfl) ?_
  refine zr_i2l hx hb (x := ag) (⟨by omega, by omega⟩) dX9_demandInsured_17 ?_
  refine lv_lconst (v := lz (0)) hx hb dX9_demandInsured_18 rfl ?_
  refine lv_aload_n hx hb dX9_demandInsured_19 rfl (lv_at hl 0 rfl) ?_
  refine va_get (D := G.1) (ci := 10) (v := .ref li) (C := RX9) (T := TX9) (N := 8) hx hb hts iwX9 hown hK hP 0 rfl rfl 3 (by decide) (hts (.fieldLink RX9 33 "AnnuityHouse" "lives" "LAnnuityHouse$Lives;") (by decide +kernel)) (fun _ h9 => h9) rfl dX9_demandInsured_20 ?_
  refine va_get (D := G.1) (ci := 3) (v := .int (iz (ags))) (C := RX2) (T := TX2) (N := 4) hx hb hts iwX2 hown hK hP 1 rfl rfl 3 (by decide) (hts (.fieldLink RX9 203 "AnnuityHouse$Lives" "ages" "I") (by decide +kernel)) (fun _ h9 => h9) rfl dX9_demandInsured_23 ?_
  refine lv_iconst (v := iz (1)) hx hb dX9_demandInsured_26 rfl ?_
  refine zr_isub hx hb dX9_demandInsured_27 ?_
  refine zr_i2l hx hb (x := ags - 1) (⟨by omega, by omega⟩) dX9_demandInsured_28 ?_
  refine zc_z (wr := [(x, .inr (10, [.ref ro, .ref rw, .ref bo, .ref li, .ref sh, .ref tx, .ref lo, .ref nl])), (li, .inr (3, [.ref lv, .ref q, .ref bq, .int (iz (ags))]))]) (va_runS (As := [.long (lz (ag)), .long (lz (0)), .long (lz (ags - 1))]) (rest := []) ⟨hx, hb, hml, hown, hts⟩ (c_X9_isWithin l G ag 0 (ags - 1) (by omega) (by omega) (by omega) H.size) (va_cwS 3 hts gX9_demandInsured_X9_isWithin rfl rfl rfl (by decide +kernel) ⟨Nat.le_of_ble_eq_true rfl, Nat.le_of_ble_eq_true rfl⟩) (zpS hKX hP hD [] rfl rfl) rfl rfl hl.1 rfl (lv_room (Nat.le_of_ble_eq_true rfl)) dX9_demandInsured_29 ⟨(by first | exact Nat.le_of_ble_eq_true rfl | (show _ ≤ (3 : Nat); omega)), (by first | exact Nat.le_of_ble_eq_true rfl | (show _ ≤ (18 : Nat); omega))⟩) hP hD hS hA [] [0, 1] rfl rfl rfl (by decide) (fun z_16 u_15 H locs hq_18 hP hD hS => ?_)
  have hP : va_P G.1 vwCl [(x, .inr (10, [.ref ro, .ref rw, .ref bo, .ref li, .ref sh, .ref tx, .ref lo, .ref nl])), (li, .inr (3, [.ref lv, .ref q, .ref bq, .int (iz (ags))]))] H := hP
  have hD : va_D A [(x, .inr (10, [.ref ro, .ref rw, .ref bo, .ref li, .ref sh, .ref tx, .ref lo, .ref nl])), (li, .inr (3, [.ref lv, .ref q, .ref bq, .int (iz (ags))]))] := hD
  have hq_18 : z_16 = decide ((0 : Int) ≤ ag ∧ ag ≤ (ags - 1)) := hq_18
  refine zct_v (wr := [(x, .inr (10, [.ref ro, .ref rw, .ref bo, .ref li, .ref sh, .ref tx, .ref lo, .ref nl])), (li, .inr (3, [.ref lv, .ref q, .ref bq, .int (iz (ags))]))]) (vx_runS (As := [.int (iz (zbb z_16))]) (rest := []) ⟨hx, hb, hml, hown, hts⟩ (c_X9_demandElement_t l G s1 s2 s3 z_16 hl0 H.size) (va_cwS 1 hts gX9_demandInsured_X9_demandElement rfl rfl rfl (by decide +kernel) ⟨Nat.le_of_ble_eq_true rfl, Nat.le_of_ble_eq_true rfl⟩) (zpSe zXE_ok hE hS hA hKX hP hD [] rfl rfl) rfl rfl hl.1 rfl (lv_room (Nat.le_of_ble_eq_true rfl)) dX9_demandInsured_32 ⟨(by first | exact Nat.le_of_ble_eq_true rfl | (show _ ≤ (3 : Nat); omega)), (by first | exact Nat.le_of_ble_eq_true rfl | (show _ ≤ (18 : Nat); omega))⟩) hP hD hS hA [] [0, 1] rfl rfl rfl (by decide) (fun E9 ce9 q9 ux_22 H locs hx9_23 hP hD hS hce9 hcv9 hcl9 => ?_) (fun u_21 H locs hq_20 hP hD hS => ?_)
  ·
    have hP : va_P G.1 vwCl [(x, .inr (10, [.ref ro, .ref rw, .ref bo, .ref li, .ref sh, .ref tx, .ref lo, .ref nl])), (li, .inr (3, [.ref lv, .ref q, .ref bq, .int (iz (ags))]))] H := hP
    have hD : va_D A [(x, .inr (10, [.ref ro, .ref rw, .ref bo, .ref li, .ref sh, .ref tx, .ref lo, .ref nl])), (li, .inr (3, [.ref lv, .ref q, .ref bq, .int (iz (ags))]))] := hD
    rcases hx9_23 with ⟨rfl, hxc⟩
    ·
      have hxc : z_16 = false := hxc
      have hzz_16 := of_decide_eq_false (hq_18.symm.trans hxc)
      rw [hQ]
      exact zt_out () hout hlocks hce9 hcv9 hcl9 hP hD hS (Or.inr ⟨rfl, (show (0 ≤ mo ∧ mo ≤ 1000000000 ∧ 0 ≤ po ∧ po ≤ 20000) ∧ ¬ (0 ≤ ag ∧ ag < ags) from by first | exact hxc | omega)⟩) (by first | exact Nat.le_of_ble_eq_true rfl | omega) (by first | exact Nat.le_of_ble_eq_true rfl | omega)
  have hP : va_P G.1 vwCl [(x, .inr (10, [.ref ro, .ref rw, .ref bo, .ref li, .ref sh, .ref tx, .ref lo, .ref nl])), (li, .inr (3, [.ref lv, .ref q, .ref bq, .int (iz (ags))]))] H := hP
  have hD : va_D A [(x, .inr (10, [.ref ro, .ref rw, .ref bo, .ref li, .ref sh, .ref tx, .ref lo, .ref nl])), (li, .inr (3, [.ref lv, .ref q, .ref bq, .int (iz (ags))]))] := hD
  have hq_20 : z_16 = true := hq_20
  have hzz_16 := of_decide_eq_true (hq_18.symm.trans hq_20)
  rw [hQ]
  exact vx_ret (zr_vret (u := ()) hx hb hr hlocks hP hD hS (by first | exact Nat.le_of_ble_eq_true rfl | omega) (by first | exact Nat.le_of_ble_eq_true rfl | omega) dX9_demandInsured_35 (show (0 ≤ mo ∧ mo ≤ 1000000000 ∧ 0 ≤ po ∧ po ≤ 20000) ∧ 0 ≤ ag ∧ ag < ags from ⟨by omega, by omega⟩))

def rm_c_X9_lifeWorth : Room := { frames := 10, cells := 4, slots := 24, locals := 187 }
theorem iw_X9_lifeWorth_X9 : ∀ w ∈ wsX90, w ∈ wsX9_lifeWorth := by decide +kernel
set_option maxHeartbeats 1000000 in
set_option maxRecDepth 100000 in
theorem c_X9_lifeWorth (l : Launch) (G : zG) (s1 : Nat) (s2 : Nat) (s3 : Nat) (x : Nat) (ro : Nat) (rw : Nat) (bo : Nat) (li : Nat) (sh : Nat) (tx : Nat) (lo : Nat) (nl : Nat) (lv : Nat) (q : Nat) (bq : Nat) (f : Int → Int) (ags : Int) (md : Int) (sa : Nat) (sb : Nat) (sf : Int → Int) (sn : Int) (st : Int) (da : Nat) (db : Nat) (df : Int → Int) (dn : Int) (dt : Int) (wa : Nat) (wb : Nat) (wf : Int → Int) (wn : Int) (wt : Int) (u0 : Int) (d0 : Int) (p0 : Int) (ag : Int) (mo : Int) (po : Int) (hl0 : l.stackTraces = false) (r_ag : -2147483648 ≤ ag ∧ ag < 2147483648) (r_mo : -9223372036854775808 ≤ mo ∧ mo < 9223372036854775808) (r_po : -2147483648 ≤ po ∧ po < 2147483648) (hmd : 0 ≤ md ∧ md ≤ 7) (hlv : zlok f ags) : zMt l (zXE s1 s2 s3) G yX9_lifeWorth wsX9_lifeWorth rm_c_X9_lifeWorth [.ref x, .int (iz (ag)), .long (lz (mo)), .int (iz (po))] [(x, .inr (10, [.ref ro, .ref rw, .ref bo, .ref li, .ref sh, .ref tx, .ref lo, .ref nl])), (li, .inr (3, [.ref lv, .ref q, .ref bq, .int (iz (ags))])), (lv, zaI (G.2 1) 30 (f)), (q, .inr (2, [.ref sa, .ref da, .ref wa, .long (lz (u0)), .long (lz (d0)), .int (iz (p0))])), (sa, .inr (9, [.ref sb, .int (iz (sn)), .long (lz (st))])), (sb, zaL (G.2 0) 40 (sf)), (da, .inr (9, [.ref db, .int (iz (dn)), .long (lz (dt))])), (db, zaL (G.2 0) 40 (df)), (wa, .inr (9, [.ref wb, .int (iz (wn)), .long (lz (wt))])), (wb, zaL (G.2 0) 40 (wf)), (ro, .inr (5, [.int (iz (md))]))] (fun A => zQl G (fun (z : Int) (u : (Int → Int) × Int × Int × (Int → Int) × Int × Int × (Int → Int) × Int × Int × Int × Int × Int) => (0 ≤ mo ∧ mo ≤ 1000000000 ∧ 0 ≤ po ∧ po ≤ 20000) ∧ (0 ≤ ag ∧ ag < ags) ∧ (zLs f ags ag po * mo % (f ag * (100000 + po) ^ (ags - 1 - ag).toNat) = 0 ∨ md ≠ 7) ∧ z = zrd md (zLs f ags ag po * mo) (f ag * (100000 + po) ^ (ags - 1 - ag).toNat)) (fun (u : (Int → Int) × Int × Int × (Int → Int) × Int × Int × (Int → Int) × Int × Int × Int × Int × Int) => [(x, .inr (10, [.ref ro, .ref rw, .ref bo, .ref li, .ref sh, .ref tx, .ref lo, .ref nl])), (li, .inr (3, [.ref lv, .ref q, .ref bq, .int (iz (ags))])), (lv, zaI (G.2 1) 30 (f)), (q, .inr (2, [.ref sa, .ref da, .ref wa, .long (lz (u.2.2.2.2.2.2.2.2.2.1)), .long (lz (u.2.2.2.2.2.2.2.2.2.2.1)), .int (iz (u.2.2.2.2.2.2.2.2.2.2.2))])), (sa, .inr (9, [.ref sb, .int (iz (u.2.1)), .long (lz (u.2.2.1))])), (sb, zaL (G.2 0) 40 (u.1)), (da, .inr (9, [.ref db, .int (iz (u.2.2.2.2.1)), .long (lz (u.2.2.2.2.2.1))])), (db, zaL (G.2 0) 40 (u.2.2.2.1)), (wa, .inr (9, [.ref wb, .int (iz (u.2.2.2.2.2.2.2.1)), .long (lz (u.2.2.2.2.2.2.2.2.1))])), (wb, zaL (G.2 0) 40 (u.2.2.2.2.2.2.1)), (ro, .inr (5, [.int (iz (md))]))]) A) (SX := (Int → Int) × Int × Int × (Int → Int) × Int × Int × (Int → Int) × Int × Int × Int × Int × Int) (fun (E9 : String) (ux : (Int → Int) × Int × Int × (Int → Int) × Int × Int × (Int → Int) × Int × Int × Int × Int × Int) => (E9 = "java/lang/IllegalArgumentException" ∧ ¬ (0 ≤ mo ∧ mo ≤ 1000000000 ∧ 0 ≤ po ∧ po ≤ 20000)) ∨ (E9 = "java/util/NoSuchElementException" ∧ (0 ≤ mo ∧ mo ≤ 1000000000 ∧ 0 ≤ po ∧ po ≤ 20000) ∧ ¬ (0 ≤ ag ∧ ag < ags)) ∨ (E9 = "java/lang/IllegalStateException" ∧ (0 ≤ mo ∧ mo ≤ 1000000000 ∧ 0 ≤ po ∧ po ≤ 20000) ∧ (0 ≤ ag ∧ ag < ags) ∧ md = 7 ∧ zLs f ags ag po * mo % (f ag * (100000 + po) ^ (ags - 1 - ag).toNat) ≠ 0)) (fun (ux : (Int → Int) × Int × Int × (Int → Int) × Int × Int × (Int → Int) × Int × Int × Int × Int × Int) => [(x, .inr (10, [.ref ro, .ref rw, .ref bo, .ref li, .ref sh, .ref tx, .ref lo, .ref nl])), (li, .inr (3, [.ref lv, .ref q, .ref bq, .int (iz (ags))])), (lv, zaI (G.2 1) 30 (f)), (q, .inr (2, [.ref sa, .ref da, .ref wa, .long (lz (ux.2.2.2.2.2.2.2.2.2.1)), .long (lz (ux.2.2.2.2.2.2.2.2.2.2.1)), .int (iz (ux.2.2.2.2.2.2.2.2.2.2.2))])), (sa, .inr (9, [.ref sb, .int (iz (ux.2.1)), .long (lz (ux.2.2.1))])), (sb, zaL (G.2 0) 40 (ux.1)), (da, .inr (9, [.ref db, .int (iz (ux.2.2.2.2.1)), .long (lz (ux.2.2.2.2.2.1))])), (db, zaL (G.2 0) 40 (ux.2.2.2.1)), (wa, .inr (9, [.ref wb, .int (iz (ux.2.2.2.2.2.2.2.1)), .long (lz (ux.2.2.2.2.2.2.2.2.1))])), (wb, zaL (G.2 0) 40 (ux.2.2.2.2.2.2.1)), (ro, .inr (5, [.int (iz (md))]))]) 4 24 := by
  refine zMt_of (cc := cX9_lifeWorth) (maxL := 5) (ret := (some .long)) (by decide) rfl (Nat.le_of_ble_eq_true rfl) ?_
  intro p e s m below meth c ls A Q hQ hx hb hr hts hown hlocks hml hout hKX hE hP hD hA hS hl
  have hK := hKX.1
  have iwX9 := iw_X9_lifeWorth_X9
  obtain ⟨H, hH⟩ : ∃ h, h = s.heap := ⟨_, rfl⟩
  obtain ⟨locs, hlo⟩ : ∃ h : List Loc, h = [] := ⟨_, rfl⟩
  have hS : va_S A s.heap H locs := by rw [hH, hlo]; exact hS
  have hP : va_P G.1 vwCl [(x, .inr (10, [.ref ro, .ref rw, .ref bo, .ref li, .ref sh, .ref tx, .ref lo, .ref nl])), (li, .inr (3, [.ref lv, .ref q, .ref bq, .int (iz (ags))])), (lv, zaI (G.2 1) 30 (f)), (q, .inr (2, [.ref sa, .ref da, .ref wa, .long (lz (u0)), .long (lz (d0)), .int (iz (p0))])), (sa, .inr (9, [.ref sb, .int (iz (sn)), .long (lz (st))])), (sb, zaL (G.2 0) 40 (sf)), (da, .inr (9, [.ref db, .int (iz (dn)), .long (lz (dt))])), (db, zaL (G.2 0) 40 (df)), (wa, .inr (9, [.ref wb, .int (iz (wn)), .long (lz (wt))])), (wb, zaL (G.2 0) 40 (wf)), (ro, .inr (5, [.int (iz (md))]))] H := by rw [hH]; exact hP
  have hD : va_D A [(x, .inr (10, [.ref ro, .ref rw, .ref bo, .ref li, .ref sh, .ref tx, .ref lo, .ref nl])), (li, .inr (3, [.ref lv, .ref q, .ref bq, .int (iz (ags))])), (lv, zaI (G.2 1) 30 (f)), (q, .inr (2, [.ref sa, .ref da, .ref wa, .long (lz (u0)), .long (lz (d0)), .int (iz (p0))])), (sa, .inr (9, [.ref sb, .int (iz (sn)), .long (lz (st))])), (sb, zaL (G.2 0) 40 (sf)), (da, .inr (9, [.ref db, .int (iz (dn)), .long (lz (dt))])), (db, zaL (G.2 0) 40 (df)), (wa, .inr (9, [.ref wb, .int (iz (wn)), .long (lz (wt))])), (wb, zaL (G.2 0) 40 (wf)), (ro, .inr (5, [.int (iz (md))]))] := hD
  have hl : lv_has ls 5 [(0, .ref x), (1, .int (iz (ag))), (2, .long (lz (mo))), (4, .int (iz (po)))] := hl
  rw [← hH, ← hlo]
  refine lv_aload_n hx hb dX9_lifeWorth_0 rfl (lv_at hl 0 rfl) ?_
  refine lv_iload_n hx hb dX9_lifeWorth_1 rfl (lv_at hl 1 rfl) ?_
  refine lv_lload_n hx hb dX9_lifeWorth_2 rfl (lv_at hl 2 rfl) ?_
  refine lv_iload hx hb dX9_lifeWorth_3 (lv_at hl 3 rfl) ?_
  refine zct_v (wr := [(lv, zaI (G.2 1) 30 (f)), (q, .inr (2, [.ref sa, .ref da, .ref wa, .long (lz (u0)), .long (lz (d0)), .int (iz (p0))])), (sa, .inr (9, [.ref sb, .int (iz (sn)), .long (lz (st))])), (sb, zaL (G.2 0) 40 (sf)), (da, .inr (9, [.ref db, .int (iz (dn)), .long (lz (dt))])), (db, zaL (G.2 0) 40 (df)), (wa, .inr (9, [.ref wb, .int (iz (wn)), .long (lz (wt))])), (wb, zaL (G.2 0) 40 (wf)), (ro, .inr (5, [.int (iz (md))]))]) (vx_runV (As := [.int (iz (ag)), .long (lz (mo)), .int (iz (po))]) (rest := []) ⟨hx, hb, hml, hown, hts⟩ (c_X9_demandInsured l G s1 s2 s3 x ro rw bo li sh tx lo nl lv q bq f ags ag mo po hl0 (by omega) (by omega) (by omega) (hlv) H.size) (cwV 3 hts gX9_lifeWorth_X9_demandInsured rfl rfl rfl (by decide +kernel) ⟨Nat.le_of_ble_eq_true rfl, Nat.le_of_ble_eq_true rfl⟩) (zpVe zXE_ok hE hS hA hKX hP hD [0, 1] rfl rfl (va_recv hK hP (ci := 10) (q0 := 0) rfl rfl)) rfl rfl hl.1 rfl (lv_room (Nat.le_of_ble_eq_true rfl)) dX9_lifeWorth_5 ⟨(by first | exact Nat.le_of_ble_eq_true rfl | (show _ ≤ (4 : Nat); omega)), (by first | exact Nat.le_of_ble_eq_true rfl | (show _ ≤ (24 : Nat); omega))⟩) hP hD hS hA [0, 1] [2, 3, 4, 5, 6, 7, 8, 9, 10] rfl rfl rfl (by decide) (fun E9 ce9 q9 ux_3 H locs hx9_4 hP hD hS hce9 hcv9 hcl9 => ?_) (fun u_2 H locs ti hP hD hS => ?_)
  ·
    have hP : va_P G.1 vwCl [(lv, zaI (G.2 1) 30 (f)), (q, .inr (2, [.ref sa, .ref da, .ref wa, .long (lz (u0)), .long (lz (d0)), .int (iz (p0))])), (sa, .inr (9, [.ref sb, .int (iz (sn)), .long (lz (st))])), (sb, zaL (G.2 0) 40 (sf)), (da, .inr (9, [.ref db, .int (iz (dn)), .long (lz (dt))])), (db, zaL (G.2 0) 40 (df)), (wa, .inr (9, [.ref wb, .int (iz (wn)), .long (lz (wt))])), (wb, zaL (G.2 0) 40 (wf)), (ro, .inr (5, [.int (iz (md))])), (x, .inr (10, [.ref ro, .ref rw, .ref bo, .ref li, .ref sh, .ref tx, .ref lo, .ref nl])), (li, .inr (3, [.ref lv, .ref q, .ref bq, .int (iz (ags))]))] H := hP
    have hD : va_D A [(lv, zaI (G.2 1) 30 (f)), (q, .inr (2, [.ref sa, .ref da, .ref wa, .long (lz (u0)), .long (lz (d0)), .int (iz (p0))])), (sa, .inr (9, [.ref sb, .int (iz (sn)), .long (lz (st))])), (sb, zaL (G.2 0) 40 (sf)), (da, .inr (9, [.ref db, .int (iz (dn)), .long (lz (dt))])), (db, zaL (G.2 0) 40 (df)), (wa, .inr (9, [.ref wb, .int (iz (wn)), .long (lz (wt))])), (wb, zaL (G.2 0) 40 (wf)), (ro, .inr (5, [.int (iz (md))])), (x, .inr (10, [.ref ro, .ref rw, .ref bo, .ref li, .ref sh, .ref tx, .ref lo, .ref nl])), (li, .inr (3, [.ref lv, .ref q, .ref bq, .int (iz (ags))]))] := hD
    rcases hx9_4 with ⟨rfl, hxc⟩ | ⟨rfl, hxc⟩
    ·
      have hxc : ¬ (0 ≤ mo ∧ mo ≤ 1000000000 ∧ 0 ≤ po ∧ po ≤ 20000) := hxc
      rw [hQ]
      exact zt_out (sf, sn, st, df, dn, dt, wf, wn, wt, u0, d0, p0) hout hlocks hce9 hcv9 hcl9 (hP.sub [9, 10, 0, 1, 2, 3, 4, 5, 6, 7, 8] rfl) (hD.sub [9, 10, 0, 1, 2, 3, 4, 5, 6, 7, 8] (by decide) rfl) hS (Or.inl ⟨rfl, (show ¬ (0 ≤ mo ∧ mo ≤ 1000000000 ∧ 0 ≤ po ∧ po ≤ 20000) from by first | exact hxc | omega)⟩) (by first | exact Nat.le_of_ble_eq_true rfl | omega) (by first | exact Nat.le_of_ble_eq_true rfl | omega)
    ·
      have hxc : (0 ≤ mo ∧ mo ≤ 1000000000 ∧ 0 ≤ po ∧ po ≤ 20000) ∧ ¬ (0 ≤ ag ∧ ag < ags) := hxc
      rw [hQ]
      exact zt_out (sf, sn, st, df, dn, dt, wf, wn, wt, u0, d0, p0) hout hlocks hce9 hcv9 hcl9 (hP.sub [9, 10, 0, 1, 2, 3, 4, 5, 6, 7, 8] rfl) (hD.sub [9, 10, 0, 1, 2, 3, 4, 5, 6, 7, 8] (by decide) rfl) hS (Or.inr (Or.inl ⟨rfl, (show (0 ≤ mo ∧ mo ≤ 1000000000 ∧ 0 ≤ po ∧ po ≤ 20000) ∧ ¬ (0 ≤ ag ∧ ag < ags) from by first | exact hxc | omega)⟩)) (by first | exact Nat.le_of_ble_eq_true rfl | omega) (by first | exact Nat.le_of_ble_eq_true rfl | omega)
  have hP : va_P G.1 vwCl [(lv, zaI (G.2 1) 30 (f)), (q, .inr (2, [.ref sa, .ref da, .ref wa, .long (lz (u0)), .long (lz (d0)), .int (iz (p0))])), (sa, .inr (9, [.ref sb, .int (iz (sn)), .long (lz (st))])), (sb, zaL (G.2 0) 40 (sf)), (da, .inr (9, [.ref db, .int (iz (dn)), .long (lz (dt))])), (db, zaL (G.2 0) 40 (df)), (wa, .inr (9, [.ref wb, .int (iz (wn)), .long (lz (wt))])), (wb, zaL (G.2 0) 40 (wf)), (ro, .inr (5, [.int (iz (md))])), (x, .inr (10, [.ref ro, .ref rw, .ref bo, .ref li, .ref sh, .ref tx, .ref lo, .ref nl])), (li, .inr (3, [.ref lv, .ref q, .ref bq, .int (iz (ags))]))] H := hP
  have hD : va_D A [(lv, zaI (G.2 1) 30 (f)), (q, .inr (2, [.ref sa, .ref da, .ref wa, .long (lz (u0)), .long (lz (d0)), .int (iz (p0))])), (sa, .inr (9, [.ref sb, .int (iz (sn)), .long (lz (st))])), (sb, zaL (G.2 0) 40 (sf)), (da, .inr (9, [.ref db, .int (iz (dn)), .long (lz (dt))])), (db, zaL (G.2 0) 40 (df)), (wa, .inr (9, [.ref wb, .int (iz (wn)), .long (lz (wt))])), (wb, zaL (G.2 0) 40 (wf)), (ro, .inr (5, [.int (iz (md))])), (x, .inr (10, [.ref ro, .ref rw, .ref bo, .ref li, .ref sh, .ref tx, .ref lo, .ref nl])), (li, .inr (3, [.ref lv, .ref q, .ref bq, .int (iz (ags))]))] := hD
  have ti : (0 ≤ mo ∧ mo ≤ 1000000000 ∧ 0 ≤ po ∧ po ≤ 20000) ∧ 0 ≤ ag ∧ ag < ags := ti
  refine lv_aload_n hx hb dX9_lifeWorth_8 rfl (lv_at hl 0 rfl) ?_
  refine va_get (D := G.1) (ci := 10) (v := .ref li) (C := RX9) (T := TX9) (N := 8) hx hb hts iwX9 hown hK hP 9 rfl rfl 3 (by decide) (hts (.fieldLink RX9 33 "AnnuityHouse" "lives" "LAnnuityHouse$Lives;") (by decide +kernel)) (fun _ h9 => h9) rfl dX9_lifeWorth_9 ?_
  refine lv_iload_n hx hb dX9_lifeWorth_12 rfl (lv_at hl 1 rfl) ?_
  refine lv_lload_n hx hb dX9_lifeWorth_13 rfl (lv_at hl 2 rfl) ?_
  refine lv_iload hx hb dX9_lifeWorth_14 (lv_at hl 3 rfl) ?_
  refine lv_aload_n hx hb dX9_lifeWorth_16 rfl (lv_at hl 0 rfl) ?_
  refine va_get (D := G.1) (ci := 10) (v := .ref ro) (C := RX9) (T := TX9) (N := 8) hx hb hts iwX9 hown hK hP 9 rfl rfl 0 (by decide) (hts (.fieldLink RX9 10 "AnnuityHouse" "rounder" "LAnnuityHouse$Rounder;") (by decide +kernel)) (fun _ h9 => h9) rfl dX9_lifeWorth_17 ?_
  refine zct_l (wr := [(x, .inr (10, [.ref ro, .ref rw, .ref bo, .ref li, .ref sh, .ref tx, .ref lo, .ref nl]))]) (vx_runV (As := [.int (iz (ag)), .long (lz (mo)), .int (iz (po)), .ref ro]) (rest := []) ⟨hx, hb, hml, hown, hts⟩ (c_X2_worthOfLife l G s1 s2 s3 li lv q bq f ags ro md sa sb sf sn st da db df dn dt wa wb wf wn wt u0 d0 p0 ag mo po hl0 (by omega) (by omega) (by omega) (by omega) (by omega) H.size) (cwV 4 hts gX9_lifeWorth_X2_worthOfLife rfl rfl rfl (by decide +kernel) ⟨Nat.le_of_ble_eq_true rfl, Nat.le_of_ble_eq_true rfl⟩) (zpVe zXE_ok hE hS hA hKX hP hD [10, 0, 1, 2, 3, 4, 5, 6, 7, 8] rfl rfl (va_recv hK hP (ci := 3) (q0 := 10) rfl rfl)) rfl rfl hl.1 rfl (lv_room (Nat.le_of_ble_eq_true rfl)) dX9_lifeWorth_20 ⟨(by first | exact Nat.le_of_ble_eq_true rfl | (show _ ≤ (4 : Nat); omega)), (by first | exact Nat.le_of_ble_eq_true rfl | (show _ ≤ (24 : Nat); omega))⟩) hP hD hS hA [10, 0, 1, 2, 3, 4, 5, 6, 7, 8] [9] rfl rfl rfl (by decide) (fun E9 ce9 q9 ux_16 H locs hx9_17 hP hD hS hce9 hcv9 hcl9 => ?_) (fun zz u_15 H locs hz hP hD hS => ?_)
  ·
    obtain ⟨sf2_5, sn2_6, st2_7, df2_8, dn2_9, dt2_10, wf2_11, wn2_12, wt2_13, pe_14⟩ := ux_16
    have hP : va_P G.1 vwCl [(x, .inr (10, [.ref ro, .ref rw, .ref bo, .ref li, .ref sh, .ref tx, .ref lo, .ref nl])), (li, .inr (3, [.ref lv, .ref q, .ref bq, .int (iz (ags))])), (lv, zaI (G.2 1) 30 (f)), (q, .inr (2, [.ref sa, .ref da, .ref wa, .long (lz (zqu po)), .long (lz (zqd po)), .int (iz (pe_14))])), (sa, .inr (9, [.ref sb, .int (iz (sn2_6)), .long (lz (st2_7))])), (sb, zaL (G.2 0) 40 (sf2_5)), (da, .inr (9, [.ref db, .int (iz (dn2_9)), .long (lz (dt2_10))])), (db, zaL (G.2 0) 40 (df2_8)), (wa, .inr (9, [.ref wb, .int (iz (wn2_12)), .long (lz (wt2_13))])), (wb, zaL (G.2 0) 40 (wf2_11)), (ro, .inr (5, [.int (iz (md))]))] H := hP
    have hD : va_D A [(x, .inr (10, [.ref ro, .ref rw, .ref bo, .ref li, .ref sh, .ref tx, .ref lo, .ref nl])), (li, .inr (3, [.ref lv, .ref q, .ref bq, .int (iz (ags))])), (lv, zaI (G.2 1) 30 (f)), (q, .inr (2, [.ref sa, .ref da, .ref wa, .long (lz (zqu po)), .long (lz (zqd po)), .int (iz (pe_14))])), (sa, .inr (9, [.ref sb, .int (iz (sn2_6)), .long (lz (st2_7))])), (sb, zaL (G.2 0) 40 (sf2_5)), (da, .inr (9, [.ref db, .int (iz (dn2_9)), .long (lz (dt2_10))])), (db, zaL (G.2 0) 40 (df2_8)), (wa, .inr (9, [.ref wb, .int (iz (wn2_12)), .long (lz (wt2_13))])), (wb, zaL (G.2 0) 40 (wf2_11)), (ro, .inr (5, [.int (iz (md))]))] := hD
    rcases hx9_17 with ⟨rfl, hxc⟩
    ·
      have hxc : md = 7 ∧ zLs f ags ag po * mo % (f ag * (100000 + po) ^ (ags - 1 - ag).toNat) ≠ 0 := hxc
      rw [hQ]
      exact zt_out (sf2_5, sn2_6, st2_7, df2_8, dn2_9, dt2_10, wf2_11, wn2_12, wt2_13, zqu po, zqd po, pe_14) hout hlocks hce9 hcv9 hcl9 hP hD hS (Or.inr (Or.inr ⟨rfl, (show (0 ≤ mo ∧ mo ≤ 1000000000 ∧ 0 ≤ po ∧ po ≤ 20000) ∧ (0 ≤ ag ∧ ag < ags) ∧ md = 7 ∧ zLs f ags ag po * mo % (f ag * (100000 + po) ^ (ags - 1 - ag).toNat) ≠ 0 from ⟨ti.1, ti.2, hxc⟩)⟩)) (by first | exact Nat.le_of_ble_eq_true rfl | omega) (by first | exact Nat.le_of_ble_eq_true rfl | omega)
  obtain ⟨sf9, sn9, st9, df9, dn9, dt9, wf9, wn9, wt9, pq9⟩ := u_15
  have hP : va_P G.1 vwCl [(x, .inr (10, [.ref ro, .ref rw, .ref bo, .ref li, .ref sh, .ref tx, .ref lo, .ref nl])), (li, .inr (3, [.ref lv, .ref q, .ref bq, .int (iz (ags))])), (lv, zaI (G.2 1) 30 (f)), (q, .inr (2, [.ref sa, .ref da, .ref wa, .long (lz (zqu po)), .long (lz (zqd po)), .int (iz (pq9))])), (sa, .inr (9, [.ref sb, .int (iz (sn9)), .long (lz (st9))])), (sb, zaL (G.2 0) 40 (sf9)), (da, .inr (9, [.ref db, .int (iz (dn9)), .long (lz (dt9))])), (db, zaL (G.2 0) 40 (df9)), (wa, .inr (9, [.ref wb, .int (iz (wn9)), .long (lz (wt9))])), (wb, zaL (G.2 0) 40 (wf9)), (ro, .inr (5, [.int (iz (md))]))] H := hP
  have hD : va_D A [(x, .inr (10, [.ref ro, .ref rw, .ref bo, .ref li, .ref sh, .ref tx, .ref lo, .ref nl])), (li, .inr (3, [.ref lv, .ref q, .ref bq, .int (iz (ags))])), (lv, zaI (G.2 1) 30 (f)), (q, .inr (2, [.ref sa, .ref da, .ref wa, .long (lz (zqu po)), .long (lz (zqd po)), .int (iz (pq9))])), (sa, .inr (9, [.ref sb, .int (iz (sn9)), .long (lz (st9))])), (sb, zaL (G.2 0) 40 (sf9)), (da, .inr (9, [.ref db, .int (iz (dn9)), .long (lz (dt9))])), (db, zaL (G.2 0) 40 (df9)), (wa, .inr (9, [.ref wb, .int (iz (wn9)), .long (lz (wt9))])), (wb, zaL (G.2 0) 40 (wf9)), (ro, .inr (5, [.int (iz (md))]))] := hD
  have hz : (zLs f ags ag po * mo % (f ag * (100000 + po) ^ (ags - 1 - ag).toNat) = 0 ∨ md ≠ 7) ∧ zz = zrd md (zLs f ags ag po * mo) (f ag * (100000 + po) ^ (ags - 1 - ag).toNat) := hz
  rw [hQ]
  exact vx_ret (zr_lret (z := zz) (u := (sf9, sn9, st9, df9, dn9, dt9, wf9, wn9, wt9, zqu po, zqd po, pq9)) hx hb hr hlocks hP hD hS (by first | exact Nat.le_of_ble_eq_true rfl | omega) (by first | exact Nat.le_of_ble_eq_true rfl | omega) dX9_lifeWorth_23 (show (0 ≤ mo ∧ mo ≤ 1000000000 ∧ 0 ≤ po ∧ po ≤ 20000) ∧ (0 ≤ ag ∧ ag < ags) ∧ (zLs f ags ag po * mo % (f ag * (100000 + po) ^ (ags - 1 - ag).toNat) = 0 ∨ md ≠ 7) ∧ zz = zrd md (zLs f ags ag po * mo) (f ag * (100000 + po) ^ (ags - 1 - ag).toNat) from ⟨ti.1, ti.2, hz⟩))

def rm_c_X9_deathWorth : Room := { frames := 10, cells := 4, slots := 24, locals := 187 }
theorem iw_X9_deathWorth_X9 : ∀ w ∈ wsX90, w ∈ wsX9_deathWorth := by decide +kernel
set_option maxHeartbeats 1000000 in
set_option maxRecDepth 100000 in
theorem c_X9_deathWorth (l : Launch) (G : zG) (s1 : Nat) (s2 : Nat) (s3 : Nat) (x : Nat) (ro : Nat) (rw : Nat) (bo : Nat) (li : Nat) (sh : Nat) (tx : Nat) (lo : Nat) (nl : Nat) (lv : Nat) (q : Nat) (bq : Nat) (f : Int → Int) (ags : Int) (md : Int) (sa : Nat) (sb : Nat) (sf : Int → Int) (sn : Int) (st : Int) (da : Nat) (db : Nat) (df : Int → Int) (dn : Int) (dt : Int) (wa : Nat) (wb : Nat) (wf : Int → Int) (wn : Int) (wt : Int) (u0 : Int) (d0 : Int) (p0 : Int) (ag : Int) (mo : Int) (po : Int) (hl0 : l.stackTraces = false) (r_ag : -2147483648 ≤ ag ∧ ag < 2147483648) (r_mo : -9223372036854775808 ≤ mo ∧ mo < 9223372036854775808) (r_po : -2147483648 ≤ po ∧ po < 2147483648) (hmd : 0 ≤ md ∧ md ≤ 7) (hlv : zlok f ags) : zMt l (zXE s1 s2 s3) G yX9_deathWorth wsX9_deathWorth rm_c_X9_deathWorth [.ref x, .int (iz (ag)), .long (lz (mo)), .int (iz (po))] [(x, .inr (10, [.ref ro, .ref rw, .ref bo, .ref li, .ref sh, .ref tx, .ref lo, .ref nl])), (li, .inr (3, [.ref lv, .ref q, .ref bq, .int (iz (ags))])), (lv, zaI (G.2 1) 30 (f)), (q, .inr (2, [.ref sa, .ref da, .ref wa, .long (lz (u0)), .long (lz (d0)), .int (iz (p0))])), (sa, .inr (9, [.ref sb, .int (iz (sn)), .long (lz (st))])), (sb, zaL (G.2 0) 40 (sf)), (da, .inr (9, [.ref db, .int (iz (dn)), .long (lz (dt))])), (db, zaL (G.2 0) 40 (df)), (wa, .inr (9, [.ref wb, .int (iz (wn)), .long (lz (wt))])), (wb, zaL (G.2 0) 40 (wf)), (ro, .inr (5, [.int (iz (md))]))] (fun A => zQl G (fun (z : Int) (u : (Int → Int) × Int × Int × (Int → Int) × Int × Int × (Int → Int) × Int × Int × Int × Int × Int) => (0 ≤ mo ∧ mo ≤ 1000000000 ∧ 0 ≤ po ∧ po ≤ 20000) ∧ (0 ≤ ag ∧ ag < ags) ∧ (zDs f ags ag po * mo % (f ag * (100000 + po) ^ (ags - ag).toNat) = 0 ∨ md ≠ 7) ∧ z = zrd md (zDs f ags ag po * mo) (f ag * (100000 + po) ^ (ags - ag).toNat)) (fun (u : (Int → Int) × Int × Int × (Int → Int) × Int × Int × (Int → Int) × Int × Int × Int × Int × Int) => [(x, .inr (10, [.ref ro, .ref rw, .ref bo, .ref li, .ref sh, .ref tx, .ref lo, .ref nl])), (li, .inr (3, [.ref lv, .ref q, .ref bq, .int (iz (ags))])), (lv, zaI (G.2 1) 30 (f)), (q, .inr (2, [.ref sa, .ref da, .ref wa, .long (lz (u.2.2.2.2.2.2.2.2.2.1)), .long (lz (u.2.2.2.2.2.2.2.2.2.2.1)), .int (iz (u.2.2.2.2.2.2.2.2.2.2.2))])), (sa, .inr (9, [.ref sb, .int (iz (u.2.1)), .long (lz (u.2.2.1))])), (sb, zaL (G.2 0) 40 (u.1)), (da, .inr (9, [.ref db, .int (iz (u.2.2.2.2.1)), .long (lz (u.2.2.2.2.2.1))])), (db, zaL (G.2 0) 40 (u.2.2.2.1)), (wa, .inr (9, [.ref wb, .int (iz (u.2.2.2.2.2.2.2.1)), .long (lz (u.2.2.2.2.2.2.2.2.1))])), (wb, zaL (G.2 0) 40 (u.2.2.2.2.2.2.1)), (ro, .inr (5, [.int (iz (md))]))]) A) (SX := (Int → Int) × Int × Int × (Int → Int) × Int × Int × (Int → Int) × Int × Int × Int × Int × Int) (fun (E9 : String) (ux : (Int → Int) × Int × Int × (Int → Int) × Int × Int × (Int → Int) × Int × Int × Int × Int × Int) => (E9 = "java/lang/IllegalArgumentException" ∧ ¬ (0 ≤ mo ∧ mo ≤ 1000000000 ∧ 0 ≤ po ∧ po ≤ 20000)) ∨ (E9 = "java/util/NoSuchElementException" ∧ (0 ≤ mo ∧ mo ≤ 1000000000 ∧ 0 ≤ po ∧ po ≤ 20000) ∧ ¬ (0 ≤ ag ∧ ag < ags)) ∨ (E9 = "java/lang/IllegalStateException" ∧ (0 ≤ mo ∧ mo ≤ 1000000000 ∧ 0 ≤ po ∧ po ≤ 20000) ∧ (0 ≤ ag ∧ ag < ags) ∧ md = 7 ∧ zDs f ags ag po * mo % (f ag * (100000 + po) ^ (ags - ag).toNat) ≠ 0)) (fun (ux : (Int → Int) × Int × Int × (Int → Int) × Int × Int × (Int → Int) × Int × Int × Int × Int × Int) => [(x, .inr (10, [.ref ro, .ref rw, .ref bo, .ref li, .ref sh, .ref tx, .ref lo, .ref nl])), (li, .inr (3, [.ref lv, .ref q, .ref bq, .int (iz (ags))])), (lv, zaI (G.2 1) 30 (f)), (q, .inr (2, [.ref sa, .ref da, .ref wa, .long (lz (ux.2.2.2.2.2.2.2.2.2.1)), .long (lz (ux.2.2.2.2.2.2.2.2.2.2.1)), .int (iz (ux.2.2.2.2.2.2.2.2.2.2.2))])), (sa, .inr (9, [.ref sb, .int (iz (ux.2.1)), .long (lz (ux.2.2.1))])), (sb, zaL (G.2 0) 40 (ux.1)), (da, .inr (9, [.ref db, .int (iz (ux.2.2.2.2.1)), .long (lz (ux.2.2.2.2.2.1))])), (db, zaL (G.2 0) 40 (ux.2.2.2.1)), (wa, .inr (9, [.ref wb, .int (iz (ux.2.2.2.2.2.2.2.1)), .long (lz (ux.2.2.2.2.2.2.2.2.1))])), (wb, zaL (G.2 0) 40 (ux.2.2.2.2.2.2.1)), (ro, .inr (5, [.int (iz (md))]))]) 4 24 := by
  refine zMt_of (cc := cX9_deathWorth) (maxL := 5) (ret := (some .long)) (by decide) rfl (Nat.le_of_ble_eq_true rfl) ?_
  intro p e s m below meth c ls A Q hQ hx hb hr hts hown hlocks hml hout hKX hE hP hD hA hS hl
  have hK := hKX.1
  have iwX9 := iw_X9_deathWorth_X9
  obtain ⟨H, hH⟩ : ∃ h, h = s.heap := ⟨_, rfl⟩
  obtain ⟨locs, hlo⟩ : ∃ h : List Loc, h = [] := ⟨_, rfl⟩
  have hS : va_S A s.heap H locs := by rw [hH, hlo]; exact hS
  have hP : va_P G.1 vwCl [(x, .inr (10, [.ref ro, .ref rw, .ref bo, .ref li, .ref sh, .ref tx, .ref lo, .ref nl])), (li, .inr (3, [.ref lv, .ref q, .ref bq, .int (iz (ags))])), (lv, zaI (G.2 1) 30 (f)), (q, .inr (2, [.ref sa, .ref da, .ref wa, .long (lz (u0)), .long (lz (d0)), .int (iz (p0))])), (sa, .inr (9, [.ref sb, .int (iz (sn)), .long (lz (st))])), (sb, zaL (G.2 0) 40 (sf)), (da, .inr (9, [.ref db, .int (iz (dn)), .long (lz (dt))])), (db, zaL (G.2 0) 40 (df)), (wa, .inr (9, [.ref wb, .int (iz (wn)), .long (lz (wt))])), (wb, zaL (G.2 0) 40 (wf)), (ro, .inr (5, [.int (iz (md))]))] H := by rw [hH]; exact hP
  have hD : va_D A [(x, .inr (10, [.ref ro, .ref rw, .ref bo, .ref li, .ref sh, .ref tx, .ref lo, .ref nl])), (li, .inr (3, [.ref lv, .ref q, .ref bq, .int (iz (ags))])), (lv, zaI (G.2 1) 30 (f)), (q, .inr (2, [.ref sa, .ref da, .ref wa, .long (lz (u0)), .long (lz (d0)), .int (iz (p0))])), (sa, .inr (9, [.ref sb, .int (iz (sn)), .long (lz (st))])), (sb, zaL (G.2 0) 40 (sf)), (da, .inr (9, [.ref db, .int (iz (dn)), .long (lz (dt))])), (db, zaL (G.2 0) 40 (df)), (wa, .inr (9, [.ref wb, .int (iz (wn)), .long (lz (wt))])), (wb, zaL (G.2 0) 40 (wf)), (ro, .inr (5, [.int (iz (md))]))] := hD
  have hl : lv_has ls 5 [(0, .ref x), (1, .int (iz (ag))), (2, .long (lz (mo))), (4, .int (iz (po)))] := hl
  rw [← hH, ← hlo]
  refine lv_aload_n hx hb dX9_deathWorth_0 rfl (lv_at hl 0 rfl) ?_
  refine lv_iload_n hx hb dX9_deathWorth_1 rfl (lv_at hl 1 rfl) ?_
  refine lv_lload_n hx hb dX9_deathWorth_2 rfl (lv_at hl 2 rfl) ?_
  refine lv_iload hx hb dX9_deathWorth_3 (lv_at hl 3 rfl) ?_
  refine zct_v (wr := [(lv, zaI (G.2 1) 30 (f)), (q, .inr (2, [.ref sa, .ref da, .ref wa, .long (lz (u0)), .long (lz (d0)), .int (iz (p0))])), (sa, .inr (9, [.ref sb, .int (iz (sn)), .long (lz (st))])), (sb, zaL (G.2 0) 40 (sf)), (da, .inr (9, [.ref db, .int (iz (dn)), .long (lz (dt))])), (db, zaL (G.2 0) 40 (df)), (wa, .inr (9, [.ref wb, .int (iz (wn)), .long (lz (wt))])), (wb, zaL (G.2 0) 40 (wf)), (ro, .inr (5, [.int (iz (md))]))]) (vx_runV (As := [.int (iz (ag)), .long (lz (mo)), .int (iz (po))]) (rest := []) ⟨hx, hb, hml, hown, hts⟩ (c_X9_demandInsured l G s1 s2 s3 x ro rw bo li sh tx lo nl lv q bq f ags ag mo po hl0 (by omega) (by omega) (by omega) (hlv) H.size) (cwV 3 hts gX9_deathWorth_X9_demandInsured rfl rfl rfl (by decide +kernel) ⟨Nat.le_of_ble_eq_true rfl, Nat.le_of_ble_eq_true rfl⟩) (zpVe zXE_ok hE hS hA hKX hP hD [0, 1] rfl rfl (va_recv hK hP (ci := 10) (q0 := 0) rfl rfl)) rfl rfl hl.1 rfl (lv_room (Nat.le_of_ble_eq_true rfl)) dX9_deathWorth_5 ⟨(by first | exact Nat.le_of_ble_eq_true rfl | (show _ ≤ (4 : Nat); omega)), (by first | exact Nat.le_of_ble_eq_true rfl | (show _ ≤ (24 : Nat); omega))⟩) hP hD hS hA [0, 1] [2, 3, 4, 5, 6, 7, 8, 9, 10] rfl rfl rfl (by decide) (fun E9 ce9 q9 ux_3 H locs hx9_4 hP hD hS hce9 hcv9 hcl9 => ?_) (fun u_2 H locs ti hP hD hS => ?_)
  ·
    have hP : va_P G.1 vwCl [(lv, zaI (G.2 1) 30 (f)), (q, .inr (2, [.ref sa, .ref da, .ref wa, .long (lz (u0)), .long (lz (d0)), .int (iz (p0))])), (sa, .inr (9, [.ref sb, .int (iz (sn)), .long (lz (st))])), (sb, zaL (G.2 0) 40 (sf)), (da, .inr (9, [.ref db, .int (iz (dn)), .long (lz (dt))])), (db, zaL (G.2 0) 40 (df)), (wa, .inr (9, [.ref wb, .int (iz (wn)), .long (lz (wt))])), (wb, zaL (G.2 0) 40 (wf)), (ro, .inr (5, [.int (iz (md))])), (x, .inr (10, [.ref ro, .ref rw, .ref bo, .ref li, .ref sh, .ref tx, .ref lo, .ref nl])), (li, .inr (3, [.ref lv, .ref q, .ref bq, .int (iz (ags))]))] H := hP
    have hD : va_D A [(lv, zaI (G.2 1) 30 (f)), (q, .inr (2, [.ref sa, .ref da, .ref wa, .long (lz (u0)), .long (lz (d0)), .int (iz (p0))])), (sa, .inr (9, [.ref sb, .int (iz (sn)), .long (lz (st))])), (sb, zaL (G.2 0) 40 (sf)), (da, .inr (9, [.ref db, .int (iz (dn)), .long (lz (dt))])), (db, zaL (G.2 0) 40 (df)), (wa, .inr (9, [.ref wb, .int (iz (wn)), .long (lz (wt))])), (wb, zaL (G.2 0) 40 (wf)), (ro, .inr (5, [.int (iz (md))])), (x, .inr (10, [.ref ro, .ref rw, .ref bo, .ref li, .ref sh, .ref tx, .ref lo, .ref nl])), (li, .inr (3, [.ref lv, .ref q, .ref bq, .int (iz (ags))]))] := hD
    rcases hx9_4 with ⟨rfl, hxc⟩ | ⟨rfl, hxc⟩
    ·
      have hxc : ¬ (0 ≤ mo ∧ mo ≤ 1000000000 ∧ 0 ≤ po ∧ po ≤ 20000) := hxc
      rw [hQ]
      exact zt_out (sf, sn, st, df, dn, dt, wf, wn, wt, u0, d0, p0) hout hlocks hce9 hcv9 hcl9 (hP.sub [9, 10, 0, 1, 2, 3, 4, 5, 6, 7, 8] rfl) (hD.sub [9, 10, 0, 1, 2, 3, 4, 5, 6, 7, 8] (by decide) rfl) hS (Or.inl ⟨rfl, (show ¬ (0 ≤ mo ∧ mo ≤ 1000000000 ∧ 0 ≤ po ∧ po ≤ 20000) from by first | exact hxc | omega)⟩) (by first | exact Nat.le_of_ble_eq_true rfl | omega) (by first | exact Nat.le_of_ble_eq_true rfl | omega)
    ·
      have hxc : (0 ≤ mo ∧ mo ≤ 1000000000 ∧ 0 ≤ po ∧ po ≤ 20000) ∧ ¬ (0 ≤ ag ∧ ag < ags) := hxc
      rw [hQ]
      exact zt_out (sf, sn, st, df, dn, dt, wf, wn, wt, u0, d0, p0) hout hlocks hce9 hcv9 hcl9 (hP.sub [9, 10, 0, 1, 2, 3, 4, 5, 6, 7, 8] rfl) (hD.sub [9, 10, 0, 1, 2, 3, 4, 5, 6, 7, 8] (by decide) rfl) hS (Or.inr (Or.inl ⟨rfl, (show (0 ≤ mo ∧ mo ≤ 1000000000 ∧ 0 ≤ po ∧ po ≤ 20000) ∧ ¬ (0 ≤ ag ∧ ag < ags) from by first | exact hxc | omega)⟩)) (by first | exact Nat.le_of_ble_eq_true rfl | omega) (by first | exact Nat.le_of_ble_eq_true rfl | omega)
  have hP : va_P G.1 vwCl [(lv, zaI (G.2 1) 30 (f)), (q, .inr (2, [.ref sa, .ref da, .ref wa, .long (lz (u0)), .long (lz (d0)), .int (iz (p0))])), (sa, .inr (9, [.ref sb, .int (iz (sn)), .long (lz (st))])), (sb, zaL (G.2 0) 40 (sf)), (da, .inr (9, [.ref db, .int (iz (dn)), .long (lz (dt))])), (db, zaL (G.2 0) 40 (df)), (wa, .inr (9, [.ref wb, .int (iz (wn)), .long (lz (wt))])), (wb, zaL (G.2 0) 40 (wf)), (ro, .inr (5, [.int (iz (md))])), (x, .inr (10, [.ref ro, .ref rw, .ref bo, .ref li, .ref sh, .ref tx, .ref lo, .ref nl])), (li, .inr (3, [.ref lv, .ref q, .ref bq, .int (iz (ags))]))] H := hP
  have hD : va_D A [(lv, zaI (G.2 1) 30 (f)), (q, .inr (2, [.ref sa, .ref da, .ref wa, .long (lz (u0)), .long (lz (d0)), .int (iz (p0))])), (sa, .inr (9, [.ref sb, .int (iz (sn)), .long (lz (st))])), (sb, zaL (G.2 0) 40 (sf)), (da, .inr (9, [.ref db, .int (iz (dn)), .long (lz (dt))])), (db, zaL (G.2 0) 40 (df)), (wa, .inr (9, [.ref wb, .int (iz (wn)), .long (lz (wt))])), (wb, zaL (G.2 0) 40 (wf)), (ro, .inr (5, [.int (iz (md))])), (x, .inr (10, [.ref ro, .ref rw, .ref bo, .ref li, .ref sh, .ref tx, .ref lo, .ref nl])), (li, .inr (3, [.ref lv, .ref q, .ref bq, .int (iz (ags))]))] := hD
  have ti : (0 ≤ mo ∧ mo ≤ 1000000000 ∧ 0 ≤ po ∧ po ≤ 20000) ∧ 0 ≤ ag ∧ ag < ags := ti
  refine lv_aload_n hx hb dX9_deathWorth_8 rfl (lv_at hl 0 rfl) ?_
  refine va_get (D := G.1) (ci := 10) (v := .ref li) (C := RX9) (T := TX9) (N := 8) hx hb hts iwX9 hown hK hP 9 rfl rfl 3 (by decide) (hts (.fieldLink RX9 33 "AnnuityHouse" "lives" "LAnnuityHouse$Lives;") (by decide +kernel)) (fun _ h9 => h9) rfl dX9_deathWorth_9 ?_
  refine lv_iload_n hx hb dX9_deathWorth_12 rfl (lv_at hl 1 rfl) ?_
  refine lv_lload_n hx hb dX9_deathWorth_13 rfl (lv_at hl 2 rfl) ?_
  refine lv_iload hx hb dX9_deathWorth_14 (lv_at hl 3 rfl) ?_
  refine lv_aload_n hx hb dX9_deathWorth_16 rfl (lv_at hl 0 rfl) ?_
  refine va_get (D := G.1) (ci := 10) (v := .ref ro) (C := RX9) (T := TX9) (N := 8) hx hb hts iwX9 hown hK hP 9 rfl rfl 0 (by decide) (hts (.fieldLink RX9 10 "AnnuityHouse" "rounder" "LAnnuityHouse$Rounder;") (by decide +kernel)) (fun _ h9 => h9) rfl dX9_deathWorth_17 ?_
  refine zct_l (wr := [(x, .inr (10, [.ref ro, .ref rw, .ref bo, .ref li, .ref sh, .ref tx, .ref lo, .ref nl]))]) (vx_runV (As := [.int (iz (ag)), .long (lz (mo)), .int (iz (po)), .ref ro]) (rest := []) ⟨hx, hb, hml, hown, hts⟩ (c_X2_worthOfDeath l G s1 s2 s3 li lv q bq f ags ro md sa sb sf sn st da db df dn dt wa wb wf wn wt u0 d0 p0 ag mo po hl0 (by omega) (by omega) (by omega) (by omega) (by omega) H.size) (cwV 4 hts gX9_deathWorth_X2_worthOfDeath rfl rfl rfl (by decide +kernel) ⟨Nat.le_of_ble_eq_true rfl, Nat.le_of_ble_eq_true rfl⟩) (zpVe zXE_ok hE hS hA hKX hP hD [10, 0, 1, 2, 3, 4, 5, 6, 7, 8] rfl rfl (va_recv hK hP (ci := 3) (q0 := 10) rfl rfl)) rfl rfl hl.1 rfl (lv_room (Nat.le_of_ble_eq_true rfl)) dX9_deathWorth_20 ⟨(by first | exact Nat.le_of_ble_eq_true rfl | (show _ ≤ (4 : Nat); omega)), (by first | exact Nat.le_of_ble_eq_true rfl | (show _ ≤ (24 : Nat); omega))⟩) hP hD hS hA [10, 0, 1, 2, 3, 4, 5, 6, 7, 8] [9] rfl rfl rfl (by decide) (fun E9 ce9 q9 ux_16 H locs hx9_17 hP hD hS hce9 hcv9 hcl9 => ?_) (fun zz u_15 H locs hz hP hD hS => ?_)
  ·
    obtain ⟨sf2_5, sn2_6, st2_7, df2_8, dn2_9, dt2_10, wf2_11, wn2_12, wt2_13, pe_14⟩ := ux_16
    have hP : va_P G.1 vwCl [(x, .inr (10, [.ref ro, .ref rw, .ref bo, .ref li, .ref sh, .ref tx, .ref lo, .ref nl])), (li, .inr (3, [.ref lv, .ref q, .ref bq, .int (iz (ags))])), (lv, zaI (G.2 1) 30 (f)), (q, .inr (2, [.ref sa, .ref da, .ref wa, .long (lz (zqu po)), .long (lz (zqd po)), .int (iz (pe_14))])), (sa, .inr (9, [.ref sb, .int (iz (sn2_6)), .long (lz (st2_7))])), (sb, zaL (G.2 0) 40 (sf2_5)), (da, .inr (9, [.ref db, .int (iz (dn2_9)), .long (lz (dt2_10))])), (db, zaL (G.2 0) 40 (df2_8)), (wa, .inr (9, [.ref wb, .int (iz (wn2_12)), .long (lz (wt2_13))])), (wb, zaL (G.2 0) 40 (wf2_11)), (ro, .inr (5, [.int (iz (md))]))] H := hP
    have hD : va_D A [(x, .inr (10, [.ref ro, .ref rw, .ref bo, .ref li, .ref sh, .ref tx, .ref lo, .ref nl])), (li, .inr (3, [.ref lv, .ref q, .ref bq, .int (iz (ags))])), (lv, zaI (G.2 1) 30 (f)), (q, .inr (2, [.ref sa, .ref da, .ref wa, .long (lz (zqu po)), .long (lz (zqd po)), .int (iz (pe_14))])), (sa, .inr (9, [.ref sb, .int (iz (sn2_6)), .long (lz (st2_7))])), (sb, zaL (G.2 0) 40 (sf2_5)), (da, .inr (9, [.ref db, .int (iz (dn2_9)), .long (lz (dt2_10))])), (db, zaL (G.2 0) 40 (df2_8)), (wa, .inr (9, [.ref wb, .int (iz (wn2_12)), .long (lz (wt2_13))])), (wb, zaL (G.2 0) 40 (wf2_11)), (ro, .inr (5, [.int (iz (md))]))] := hD
    rcases hx9_17 with ⟨rfl, hxc⟩
    ·
      have hxc : md = 7 ∧ zDs f ags ag po * mo % (f ag * (100000 + po) ^ (ags - ag).toNat) ≠ 0 := hxc
      rw [hQ]
      exact zt_out (sf2_5, sn2_6, st2_7, df2_8, dn2_9, dt2_10, wf2_11, wn2_12, wt2_13, zqu po, zqd po, pe_14) hout hlocks hce9 hcv9 hcl9 hP hD hS (Or.inr (Or.inr ⟨rfl, (show (0 ≤ mo ∧ mo ≤ 1000000000 ∧ 0 ≤ po ∧ po ≤ 20000) ∧ (0 ≤ ag ∧ ag < ags) ∧ md = 7 ∧ zDs f ags ag po * mo % (f ag * (100000 + po) ^ (ags - ag).toNat) ≠ 0 from ⟨ti.1, ti.2, hxc⟩)⟩)) (by first | exact Nat.le_of_ble_eq_true rfl | omega) (by first | exact Nat.le_of_ble_eq_true rfl | omega)
  obtain ⟨sf9, sn9, st9, df9, dn9, dt9, wf9, wn9, wt9, pq9⟩ := u_15
  have hP : va_P G.1 vwCl [(x, .inr (10, [.ref ro, .ref rw, .ref bo, .ref li, .ref sh, .ref tx, .ref lo, .ref nl])), (li, .inr (3, [.ref lv, .ref q, .ref bq, .int (iz (ags))])), (lv, zaI (G.2 1) 30 (f)), (q, .inr (2, [.ref sa, .ref da, .ref wa, .long (lz (zqu po)), .long (lz (zqd po)), .int (iz (pq9))])), (sa, .inr (9, [.ref sb, .int (iz (sn9)), .long (lz (st9))])), (sb, zaL (G.2 0) 40 (sf9)), (da, .inr (9, [.ref db, .int (iz (dn9)), .long (lz (dt9))])), (db, zaL (G.2 0) 40 (df9)), (wa, .inr (9, [.ref wb, .int (iz (wn9)), .long (lz (wt9))])), (wb, zaL (G.2 0) 40 (wf9)), (ro, .inr (5, [.int (iz (md))]))] H := hP
  have hD : va_D A [(x, .inr (10, [.ref ro, .ref rw, .ref bo, .ref li, .ref sh, .ref tx, .ref lo, .ref nl])), (li, .inr (3, [.ref lv, .ref q, .ref bq, .int (iz (ags))])), (lv, zaI (G.2 1) 30 (f)), (q, .inr (2, [.ref sa, .ref da, .ref wa, .long (lz (zqu po)), .long (lz (zqd po)), .int (iz (pq9))])), (sa, .inr (9, [.ref sb, .int (iz (sn9)), .long (lz (st9))])), (sb, zaL (G.2 0) 40 (sf9)), (da, .inr (9, [.ref db, .int (iz (dn9)), .long (lz (dt9))])), (db, zaL (G.2 0) 40 (df9)), (wa, .inr (9, [.ref wb, .int (iz (wn9)), .long (lz (wt9))])), (wb, zaL (G.2 0) 40 (wf9)), (ro, .inr (5, [.int (iz (md))]))] := hD
  have hz : (zDs f ags ag po * mo % (f ag * (100000 + po) ^ (ags - ag).toNat) = 0 ∨ md ≠ 7) ∧ zz = zrd md (zDs f ags ag po * mo) (f ag * (100000 + po) ^ (ags - ag).toNat) := hz
  rw [hQ]
  exact vx_ret (zr_lret (z := zz) (u := (sf9, sn9, st9, df9, dn9, dt9, wf9, wn9, wt9, zqu po, zqd po, pq9)) hx hb hr hlocks hP hD hS (by first | exact Nat.le_of_ble_eq_true rfl | omega) (by first | exact Nat.le_of_ble_eq_true rfl | omega) dX9_deathWorth_23 (show (0 ≤ mo ∧ mo ≤ 1000000000 ∧ 0 ≤ po ∧ po ≤ 20000) ∧ (0 ≤ ag ∧ ag < ags) ∧ (zDs f ags ag po * mo % (f ag * (100000 + po) ^ (ags - ag).toNat) = 0 ∨ md ≠ 7) ∧ zz = zrd md (zDs f ags ag po * mo) (f ag * (100000 + po) ^ (ags - ag).toNat) from ⟨ti.1, ti.2, hz⟩))

def rm_c_X9_premium : Room := { frames := 10, cells := 4, slots := 24, locals := 187 }
theorem iw_X9_premium_X9 : ∀ w ∈ wsX90, w ∈ wsX9_premium := by decide +kernel
set_option maxHeartbeats 1000000 in
set_option maxRecDepth 100000 in
theorem c_X9_premium (l : Launch) (G : zG) (s1 : Nat) (s2 : Nat) (s3 : Nat) (x : Nat) (ro : Nat) (rw : Nat) (bo : Nat) (li : Nat) (sh : Nat) (tx : Nat) (lo : Nat) (nl : Nat) (lv : Nat) (q : Nat) (bq : Nat) (f : Int → Int) (ags : Int) (md : Int) (sa : Nat) (sb : Nat) (sf : Int → Int) (sn : Int) (st : Int) (da : Nat) (db : Nat) (df : Int → Int) (dn : Int) (dt : Int) (u0 : Int) (d0 : Int) (p0 : Int) (bsa : Nat) (bsb : Nat) (bsf : Int → Int) (bsn : Int) (bst : Int) (bda : Nat) (bdb : Nat) (bdf : Int → Int) (bdn : Int) (bdt : Int) (bu0 : Int) (bd0 : Int) (bp0 : Int) (wa : Nat) (bwa : Nat) (ag : Int) (mo : Int) (po : Int) (hl0 : l.stackTraces = false) (r_ag : -2147483648 ≤ ag ∧ ag < 2147483648) (r_mo : -9223372036854775808 ≤ mo ∧ mo < 9223372036854775808) (r_po : -2147483648 ≤ po ∧ po < 2147483648) (hmd : 0 ≤ md ∧ md ≤ 7) (hlv : zlok f ags) : zMt l (zXE s1 s2 s3) G yX9_premium wsX9_premium rm_c_X9_premium [.ref x, .int (iz (ag)), .long (lz (mo)), .int (iz (po))] [(x, .inr (10, [.ref ro, .ref rw, .ref bo, .ref li, .ref sh, .ref tx, .ref lo, .ref nl])), (li, .inr (3, [.ref lv, .ref q, .ref bq, .int (iz (ags))])), (lv, zaI (G.2 1) 30 (f)), (q, .inr (2, [.ref sa, .ref da, .ref wa, .long (lz (u0)), .long (lz (d0)), .int (iz (p0))])), (sa, .inr (9, [.ref sb, .int (iz (sn)), .long (lz (st))])), (sb, zaL (G.2 0) 40 (sf)), (da, .inr (9, [.ref db, .int (iz (dn)), .long (lz (dt))])), (db, zaL (G.2 0) 40 (df)), (bq, .inr (2, [.ref bsa, .ref bda, .ref bwa, .long (lz (bu0)), .long (lz (bd0)), .int (iz (bp0))])), (bsa, .inr (9, [.ref bsb, .int (iz (bsn)), .long (lz (bst))])), (bsb, zaL (G.2 0) 40 (bsf)), (bda, .inr (9, [.ref bdb, .int (iz (bdn)), .long (lz (bdt))])), (bdb, zaL (G.2 0) 40 (bdf)), (ro, .inr (5, [.int (iz (md))]))] (fun A => zQl G (fun (z : Int) (u : (Int → Int) × Int × Int × (Int → Int) × Int × Int × Int × Int × Int × (Int → Int) × Int × Int × (Int → Int) × Int × Int × Int × Int × Int) => (0 ≤ mo ∧ mo ≤ 1000000000 ∧ 0 ≤ po ∧ po ≤ 20000) ∧ (0 ≤ ag ∧ ag < ags) ∧ (zDs f ags ag po * mo % (zLs f ags ag po * (100000 + po)) = 0 ∨ md ≠ 7) ∧ z = zrd md (zDs f ags ag po * mo) (zLs f ags ag po * (100000 + po))) (fun (u : (Int → Int) × Int × Int × (Int → Int) × Int × Int × Int × Int × Int × (Int → Int) × Int × Int × (Int → Int) × Int × Int × Int × Int × Int) => [(x, .inr (10, [.ref ro, .ref rw, .ref bo, .ref li, .ref sh, .ref tx, .ref lo, .ref nl])), (li, .inr (3, [.ref lv, .ref q, .ref bq, .int (iz (ags))])), (lv, zaI (G.2 1) 30 (f)), (q, .inr (2, [.ref sa, .ref da, .ref wa, .long (lz (u.2.2.2.2.2.2.1)), .long (lz (u.2.2.2.2.2.2.2.1)), .int (iz (u.2.2.2.2.2.2.2.2.1))])), (sa, .inr (9, [.ref sb, .int (iz (u.2.1)), .long (lz (u.2.2.1))])), (sb, zaL (G.2 0) 40 (u.1)), (da, .inr (9, [.ref db, .int (iz (u.2.2.2.2.1)), .long (lz (u.2.2.2.2.2.1))])), (db, zaL (G.2 0) 40 (u.2.2.2.1)), (bq, .inr (2, [.ref bsa, .ref bda, .ref bwa, .long (lz (u.2.2.2.2.2.2.2.2.2.2.2.2.2.2.2.1)), .long (lz (u.2.2.2.2.2.2.2.2.2.2.2.2.2.2.2.2.1)), .int (iz (u.2.2.2.2.2.2.2.2.2.2.2.2.2.2.2.2.2))])), (bsa, .inr (9, [.ref bsb, .int (iz (u.2.2.2.2.2.2.2.2.2.2.1)), .long (lz (u.2.2.2.2.2.2.2.2.2.2.2.1))])), (bsb, zaL (G.2 0) 40 (u.2.2.2.2.2.2.2.2.2.1)), (bda, .inr (9, [.ref bdb, .int (iz (u.2.2.2.2.2.2.2.2.2.2.2.2.2.1)), .long (lz (u.2.2.2.2.2.2.2.2.2.2.2.2.2.2.1))])), (bdb, zaL (G.2 0) 40 (u.2.2.2.2.2.2.2.2.2.2.2.2.1)), (ro, .inr (5, [.int (iz (md))]))]) A) (SX := (Int → Int) × Int × Int × (Int → Int) × Int × Int × Int × Int × Int × (Int → Int) × Int × Int × (Int → Int) × Int × Int × Int × Int × Int) (fun (E9 : String) (ux : (Int → Int) × Int × Int × (Int → Int) × Int × Int × Int × Int × Int × (Int → Int) × Int × Int × (Int → Int) × Int × Int × Int × Int × Int) => (E9 = "java/lang/IllegalArgumentException" ∧ ¬ (0 ≤ mo ∧ mo ≤ 1000000000 ∧ 0 ≤ po ∧ po ≤ 20000)) ∨ (E9 = "java/util/NoSuchElementException" ∧ (0 ≤ mo ∧ mo ≤ 1000000000 ∧ 0 ≤ po ∧ po ≤ 20000) ∧ ¬ (0 ≤ ag ∧ ag < ags)) ∨ (E9 = "java/lang/IllegalStateException" ∧ (0 ≤ mo ∧ mo ≤ 1000000000 ∧ 0 ≤ po ∧ po ≤ 20000) ∧ (0 ≤ ag ∧ ag < ags) ∧ md = 7 ∧ zDs f ags ag po * mo % (zLs f ags ag po * (100000 + po)) ≠ 0)) (fun (ux : (Int → Int) × Int × Int × (Int → Int) × Int × Int × Int × Int × Int × (Int → Int) × Int × Int × (Int → Int) × Int × Int × Int × Int × Int) => [(x, .inr (10, [.ref ro, .ref rw, .ref bo, .ref li, .ref sh, .ref tx, .ref lo, .ref nl])), (li, .inr (3, [.ref lv, .ref q, .ref bq, .int (iz (ags))])), (lv, zaI (G.2 1) 30 (f)), (q, .inr (2, [.ref sa, .ref da, .ref wa, .long (lz (ux.2.2.2.2.2.2.1)), .long (lz (ux.2.2.2.2.2.2.2.1)), .int (iz (ux.2.2.2.2.2.2.2.2.1))])), (sa, .inr (9, [.ref sb, .int (iz (ux.2.1)), .long (lz (ux.2.2.1))])), (sb, zaL (G.2 0) 40 (ux.1)), (da, .inr (9, [.ref db, .int (iz (ux.2.2.2.2.1)), .long (lz (ux.2.2.2.2.2.1))])), (db, zaL (G.2 0) 40 (ux.2.2.2.1)), (bq, .inr (2, [.ref bsa, .ref bda, .ref bwa, .long (lz (ux.2.2.2.2.2.2.2.2.2.2.2.2.2.2.2.1)), .long (lz (ux.2.2.2.2.2.2.2.2.2.2.2.2.2.2.2.2.1)), .int (iz (ux.2.2.2.2.2.2.2.2.2.2.2.2.2.2.2.2.2))])), (bsa, .inr (9, [.ref bsb, .int (iz (ux.2.2.2.2.2.2.2.2.2.2.1)), .long (lz (ux.2.2.2.2.2.2.2.2.2.2.2.1))])), (bsb, zaL (G.2 0) 40 (ux.2.2.2.2.2.2.2.2.2.1)), (bda, .inr (9, [.ref bdb, .int (iz (ux.2.2.2.2.2.2.2.2.2.2.2.2.2.1)), .long (lz (ux.2.2.2.2.2.2.2.2.2.2.2.2.2.2.1))])), (bdb, zaL (G.2 0) 40 (ux.2.2.2.2.2.2.2.2.2.2.2.2.1)), (ro, .inr (5, [.int (iz (md))]))]) 4 24 := by
  refine zMt_of (cc := cX9_premium) (maxL := 5) (ret := (some .long)) (by decide) rfl (Nat.le_of_ble_eq_true rfl) ?_
  intro p e s m below meth c ls A Q hQ hx hb hr hts hown hlocks hml hout hKX hE hP hD hA hS hl
  have hK := hKX.1
  have iwX9 := iw_X9_premium_X9
  obtain ⟨H, hH⟩ : ∃ h, h = s.heap := ⟨_, rfl⟩
  obtain ⟨locs, hlo⟩ : ∃ h : List Loc, h = [] := ⟨_, rfl⟩
  have hS : va_S A s.heap H locs := by rw [hH, hlo]; exact hS
  have hP : va_P G.1 vwCl [(x, .inr (10, [.ref ro, .ref rw, .ref bo, .ref li, .ref sh, .ref tx, .ref lo, .ref nl])), (li, .inr (3, [.ref lv, .ref q, .ref bq, .int (iz (ags))])), (lv, zaI (G.2 1) 30 (f)), (q, .inr (2, [.ref sa, .ref da, .ref wa, .long (lz (u0)), .long (lz (d0)), .int (iz (p0))])), (sa, .inr (9, [.ref sb, .int (iz (sn)), .long (lz (st))])), (sb, zaL (G.2 0) 40 (sf)), (da, .inr (9, [.ref db, .int (iz (dn)), .long (lz (dt))])), (db, zaL (G.2 0) 40 (df)), (bq, .inr (2, [.ref bsa, .ref bda, .ref bwa, .long (lz (bu0)), .long (lz (bd0)), .int (iz (bp0))])), (bsa, .inr (9, [.ref bsb, .int (iz (bsn)), .long (lz (bst))])), (bsb, zaL (G.2 0) 40 (bsf)), (bda, .inr (9, [.ref bdb, .int (iz (bdn)), .long (lz (bdt))])), (bdb, zaL (G.2 0) 40 (bdf)), (ro, .inr (5, [.int (iz (md))]))] H := by rw [hH]; exact hP
  have hD : va_D A [(x, .inr (10, [.ref ro, .ref rw, .ref bo, .ref li, .ref sh, .ref tx, .ref lo, .ref nl])), (li, .inr (3, [.ref lv, .ref q, .ref bq, .int (iz (ags))])), (lv, zaI (G.2 1) 30 (f)), (q, .inr (2, [.ref sa, .ref da, .ref wa, .long (lz (u0)), .long (lz (d0)), .int (iz (p0))])), (sa, .inr (9, [.ref sb, .int (iz (sn)), .long (lz (st))])), (sb, zaL (G.2 0) 40 (sf)), (da, .inr (9, [.ref db, .int (iz (dn)), .long (lz (dt))])), (db, zaL (G.2 0) 40 (df)), (bq, .inr (2, [.ref bsa, .ref bda, .ref bwa, .long (lz (bu0)), .long (lz (bd0)), .int (iz (bp0))])), (bsa, .inr (9, [.ref bsb, .int (iz (bsn)), .long (lz (bst))])), (bsb, zaL (G.2 0) 40 (bsf)), (bda, .inr (9, [.ref bdb, .int (iz (bdn)), .long (lz (bdt))])), (bdb, zaL (G.2 0) 40 (bdf)), (ro, .inr (5, [.int (iz (md))]))] := hD
  have hl : lv_has ls 5 [(0, .ref x), (1, .int (iz (ag))), (2, .long (lz (mo))), (4, .int (iz (po)))] := hl
  rw [← hH, ← hlo]
  refine lv_aload_n hx hb dX9_premium_0 rfl (lv_at hl 0 rfl) ?_
  refine lv_iload_n hx hb dX9_premium_1 rfl (lv_at hl 1 rfl) ?_
  refine lv_lload_n hx hb dX9_premium_2 rfl (lv_at hl 2 rfl) ?_
  refine lv_iload hx hb dX9_premium_3 (lv_at hl 3 rfl) ?_
  refine zct_v (wr := [(lv, zaI (G.2 1) 30 (f)), (q, .inr (2, [.ref sa, .ref da, .ref wa, .long (lz (u0)), .long (lz (d0)), .int (iz (p0))])), (sa, .inr (9, [.ref sb, .int (iz (sn)), .long (lz (st))])), (sb, zaL (G.2 0) 40 (sf)), (da, .inr (9, [.ref db, .int (iz (dn)), .long (lz (dt))])), (db, zaL (G.2 0) 40 (df)), (bq, .inr (2, [.ref bsa, .ref bda, .ref bwa, .long (lz (bu0)), .long (lz (bd0)), .int (iz (bp0))])), (bsa, .inr (9, [.ref bsb, .int (iz (bsn)), .long (lz (bst))])), (bsb, zaL (G.2 0) 40 (bsf)), (bda, .inr (9, [.ref bdb, .int (iz (bdn)), .long (lz (bdt))])), (bdb, zaL (G.2 0) 40 (bdf)), (ro, .inr (5, [.int (iz (md))]))]) (vx_runV (As := [.int (iz (ag)), .long (lz (mo)), .int (iz (po))]) (rest := []) ⟨hx, hb, hml, hown, hts⟩ (c_X9_demandInsured l G s1 s2 s3 x ro rw bo li sh tx lo nl lv q bq f ags ag mo po hl0 (by omega) (by omega) (by omega) (hlv) H.size) (cwV 3 hts gX9_premium_X9_demandInsured rfl rfl rfl (by decide +kernel) ⟨Nat.le_of_ble_eq_true rfl, Nat.le_of_ble_eq_true rfl⟩) (zpVe zXE_ok hE hS hA hKX hP hD [0, 1] rfl rfl (va_recv hK hP (ci := 10) (q0 := 0) rfl rfl)) rfl rfl hl.1 rfl (lv_room (Nat.le_of_ble_eq_true rfl)) dX9_premium_5 ⟨(by first | exact Nat.le_of_ble_eq_true rfl | (show _ ≤ (4 : Nat); omega)), (by first | exact Nat.le_of_ble_eq_true rfl | (show _ ≤ (24 : Nat); omega))⟩) hP hD hS hA [0, 1] [2, 3, 4, 5, 6, 7, 8, 9, 10, 11, 12, 13] rfl rfl rfl (by decide) (fun E9 ce9 q9 ux_3 H locs hx9_4 hP hD hS hce9 hcv9 hcl9 => ?_) (fun u_2 H locs ti hP hD hS => ?_)
  ·
    have hP : va_P G.1 vwCl [(lv, zaI (G.2 1) 30 (f)), (q, .inr (2, [.ref sa, .ref da, .ref wa, .long (lz (u0)), .long (lz (d0)), .int (iz (p0))])), (sa, .inr (9, [.ref sb, .int (iz (sn)), .long (lz (st))])), (sb, zaL (G.2 0) 40 (sf)), (da, .inr (9, [.ref db, .int (iz (dn)), .long (lz (dt))])), (db, zaL (G.2 0) 40 (df)), (bq, .inr (2, [.ref bsa, .ref bda, .ref bwa, .long (lz (bu0)), .long (lz (bd0)), .int (iz (bp0))])), (bsa, .inr (9, [.ref bsb, .int (iz (bsn)), .long (lz (bst))])), (bsb, zaL (G.2 0) 40 (bsf)), (bda, .inr (9, [.ref bdb, .int (iz (bdn)), .long (lz (bdt))])), (bdb, zaL (G.2 0) 40 (bdf)), (ro, .inr (5, [.int (iz (md))])), (x, .inr (10, [.ref ro, .ref rw, .ref bo, .ref li, .ref sh, .ref tx, .ref lo, .ref nl])), (li, .inr (3, [.ref lv, .ref q, .ref bq, .int (iz (ags))]))] H := hP
    have hD : va_D A [(lv, zaI (G.2 1) 30 (f)), (q, .inr (2, [.ref sa, .ref da, .ref wa, .long (lz (u0)), .long (lz (d0)), .int (iz (p0))])), (sa, .inr (9, [.ref sb, .int (iz (sn)), .long (lz (st))])), (sb, zaL (G.2 0) 40 (sf)), (da, .inr (9, [.ref db, .int (iz (dn)), .long (lz (dt))])), (db, zaL (G.2 0) 40 (df)), (bq, .inr (2, [.ref bsa, .ref bda, .ref bwa, .long (lz (bu0)), .long (lz (bd0)), .int (iz (bp0))])), (bsa, .inr (9, [.ref bsb, .int (iz (bsn)), .long (lz (bst))])), (bsb, zaL (G.2 0) 40 (bsf)), (bda, .inr (9, [.ref bdb, .int (iz (bdn)), .long (lz (bdt))])), (bdb, zaL (G.2 0) 40 (bdf)), (ro, .inr (5, [.int (iz (md))])), (x, .inr (10, [.ref ro, .ref rw, .ref bo, .ref li, .ref sh, .ref tx, .ref lo, .ref nl])), (li, .inr (3, [.ref lv, .ref q, .ref bq, .int (iz (ags))]))] := hD
    rcases hx9_4 with ⟨rfl, hxc⟩ | ⟨rfl, hxc⟩
    ·
      have hxc : ¬ (0 ≤ mo ∧ mo ≤ 1000000000 ∧ 0 ≤ po ∧ po ≤ 20000) := hxc
      rw [hQ]
      exact zt_out (sf, sn, st, df, dn, dt, u0, d0, p0, bsf, bsn, bst, bdf, bdn, bdt, bu0, bd0, bp0) hout hlocks hce9 hcv9 hcl9 (hP.sub [12, 13, 0, 1, 2, 3, 4, 5, 6, 7, 8, 9, 10, 11] rfl) (hD.sub [12, 13, 0, 1, 2, 3, 4, 5, 6, 7, 8, 9, 10, 11] (by decide) rfl) hS (Or.inl ⟨rfl, (show ¬ (0 ≤ mo ∧ mo ≤ 1000000000 ∧ 0 ≤ po ∧ po ≤ 20000) from by first | exact hxc | omega)⟩) (by first | exact Nat.le_of_ble_eq_true rfl | omega) (by first | exact Nat.le_of_ble_eq_true rfl | omega)
    ·
      have hxc : (0 ≤ mo ∧ mo ≤ 1000000000 ∧ 0 ≤ po ∧ po ≤ 20000) ∧ ¬ (0 ≤ ag ∧ ag < ags) := hxc
      rw [hQ]
      exact zt_out (sf, sn, st, df, dn, dt, u0, d0, p0, bsf, bsn, bst, bdf, bdn, bdt, bu0, bd0, bp0) hout hlocks hce9 hcv9 hcl9 (hP.sub [12, 13, 0, 1, 2, 3, 4, 5, 6, 7, 8, 9, 10, 11] rfl) (hD.sub [12, 13, 0, 1, 2, 3, 4, 5, 6, 7, 8, 9, 10, 11] (by decide) rfl) hS (Or.inr (Or.inl ⟨rfl, (show (0 ≤ mo ∧ mo ≤ 1000000000 ∧ 0 ≤ po ∧ po ≤ 20000) ∧ ¬ (0 ≤ ag ∧ ag < ags) from by first | exact hxc | omega)⟩)) (by first | exact Nat.le_of_ble_eq_true rfl | omega) (by first | exact Nat.le_of_ble_eq_true rfl | omega)
  have hP : va_P G.1 vwCl [(lv, zaI (G.2 1) 30 (f)), (q, .inr (2, [.ref sa, .ref da, .ref wa, .long (lz (u0)), .long (lz (d0)), .int (iz (p0))])), (sa, .inr (9, [.ref sb, .int (iz (sn)), .long (lz (st))])), (sb, zaL (G.2 0) 40 (sf)), (da, .inr (9, [.ref db, .int (iz (dn)), .long (lz (dt))])), (db, zaL (G.2 0) 40 (df)), (bq, .inr (2, [.ref bsa, .ref bda, .ref bwa, .long (lz (bu0)), .long (lz (bd0)), .int (iz (bp0))])), (bsa, .inr (9, [.ref bsb, .int (iz (bsn)), .long (lz (bst))])), (bsb, zaL (G.2 0) 40 (bsf)), (bda, .inr (9, [.ref bdb, .int (iz (bdn)), .long (lz (bdt))])), (bdb, zaL (G.2 0) 40 (bdf)), (ro, .inr (5, [.int (iz (md))])), (x, .inr (10, [.ref ro, .ref rw, .ref bo, .ref li, .ref sh, .ref tx, .ref lo, .ref nl])), (li, .inr (3, [.ref lv, .ref q, .ref bq, .int (iz (ags))]))] H := hP
  have hD : va_D A [(lv, zaI (G.2 1) 30 (f)), (q, .inr (2, [.ref sa, .ref da, .ref wa, .long (lz (u0)), .long (lz (d0)), .int (iz (p0))])), (sa, .inr (9, [.ref sb, .int (iz (sn)), .long (lz (st))])), (sb, zaL (G.2 0) 40 (sf)), (da, .inr (9, [.ref db, .int (iz (dn)), .long (lz (dt))])), (db, zaL (G.2 0) 40 (df)), (bq, .inr (2, [.ref bsa, .ref bda, .ref bwa, .long (lz (bu0)), .long (lz (bd0)), .int (iz (bp0))])), (bsa, .inr (9, [.ref bsb, .int (iz (bsn)), .long (lz (bst))])), (bsb, zaL (G.2 0) 40 (bsf)), (bda, .inr (9, [.ref bdb, .int (iz (bdn)), .long (lz (bdt))])), (bdb, zaL (G.2 0) 40 (bdf)), (ro, .inr (5, [.int (iz (md))])), (x, .inr (10, [.ref ro, .ref rw, .ref bo, .ref li, .ref sh, .ref tx, .ref lo, .ref nl])), (li, .inr (3, [.ref lv, .ref q, .ref bq, .int (iz (ags))]))] := hD
  have ti : (0 ≤ mo ∧ mo ≤ 1000000000 ∧ 0 ≤ po ∧ po ≤ 20000) ∧ 0 ≤ ag ∧ ag < ags := ti
  refine lv_aload_n hx hb dX9_premium_8 rfl (lv_at hl 0 rfl) ?_
  refine va_get (D := G.1) (ci := 10) (v := .ref li) (C := RX9) (T := TX9) (N := 8) hx hb hts iwX9 hown hK hP 12 rfl rfl 3 (by decide) (hts (.fieldLink RX9 33 "AnnuityHouse" "lives" "LAnnuityHouse$Lives;") (by decide +kernel)) (fun _ h9 => h9) rfl dX9_premium_9 ?_
  refine lv_iload_n hx hb dX9_premium_12 rfl (lv_at hl 1 rfl) ?_
  refine lv_lload_n hx hb dX9_premium_13 rfl (lv_at hl 2 rfl) ?_
  refine lv_iload hx hb dX9_premium_14 (lv_at hl 3 rfl) ?_
  refine lv_aload_n hx hb dX9_premium_16 rfl (lv_at hl 0 rfl) ?_
  refine va_get (D := G.1) (ci := 10) (v := .ref ro) (C := RX9) (T := TX9) (N := 8) hx hb hts iwX9 hown hK hP 12 rfl rfl 0 (by decide) (hts (.fieldLink RX9 10 "AnnuityHouse" "rounder" "LAnnuityHouse$Rounder;") (by decide +kernel)) (fun _ h9 => h9) rfl dX9_premium_17 ?_
  refine zct_l (wr := [(x, .inr (10, [.ref ro, .ref rw, .ref bo, .ref li, .ref sh, .ref tx, .ref lo, .ref nl]))]) (vx_runV (As := [.int (iz (ag)), .long (lz (mo)), .int (iz (po)), .ref ro]) (rest := []) ⟨hx, hb, hml, hown, hts⟩ (c_X2_yearlyPremium l G s1 s2 s3 li lv q bq f ags sa sb sf sn st da db df dn dt u0 d0 p0 bsa bsb bsf bsn bst bda bdb bdf bdn bdt bu0 bd0 bp0 wa bwa ro md ag mo po hl0 (by omega) (by omega) (by omega) (by omega) (by omega) H.size) (cwV 4 hts gX9_premium_X2_yearlyPremium rfl rfl rfl (by decide +kernel) ⟨Nat.le_of_ble_eq_true rfl, Nat.le_of_ble_eq_true rfl⟩) (zpVe zXE_ok hE hS hA hKX hP hD [13, 0, 1, 2, 3, 4, 5, 6, 7, 8, 9, 10, 11] rfl rfl (va_recv hK hP (ci := 3) (q0 := 13) rfl rfl)) rfl rfl hl.1 rfl (lv_room (Nat.le_of_ble_eq_true rfl)) dX9_premium_20 ⟨(by first | exact Nat.le_of_ble_eq_true rfl | (show _ ≤ (4 : Nat); omega)), (by first | exact Nat.le_of_ble_eq_true rfl | (show _ ≤ (24 : Nat); omega))⟩) hP hD hS hA [13, 0, 1, 2, 3, 4, 5, 6, 7, 8, 9, 10, 11] [12] rfl rfl rfl (by decide) (fun E9 ce9 q9 ux_20 H locs hx9_21 hP hD hS hce9 hcv9 hcl9 => ?_) (fun zz u_19 H locs hz hP hD hS => ?_)
  ·
    obtain ⟨sf2_5, sn2_6, st2_7, df2_8, dn2_9, dt2_10, pe_11, bsf2_12, bsn2_13, bst2_14, bdf2_15, bdn2_16, bdt2_17, bpe_18⟩ := ux_20
    have hP : va_P G.1 vwCl [(x, .inr (10, [.ref ro, .ref rw, .ref bo, .ref li, .ref sh, .ref tx, .ref lo, .ref nl])), (li, .inr (3, [.ref lv, .ref q, .ref bq, .int (iz (ags))])), (lv, zaI (G.2 1) 30 (f)), (q, .inr (2, [.ref sa, .ref da, .ref wa, .long (lz (zqu po)), .long (lz (zqd po)), .int (iz (pe_11))])), (sa, .inr (9, [.ref sb, .int (iz (sn2_6)), .long (lz (st2_7))])), (sb, zaL (G.2 0) 40 (sf2_5)), (da, .inr (9, [.ref db, .int (iz (dn2_9)), .long (lz (dt2_10))])), (db, zaL (G.2 0) 40 (df2_8)), (bq, .inr (2, [.ref bsa, .ref bda, .ref bwa, .long (lz (zqu po)), .long (lz (zqd po)), .int (iz (bpe_18))])), (bsa, .inr (9, [.ref bsb, .int (iz (bsn2_13)), .long (lz (bst2_14))])), (bsb, zaL (G.2 0) 40 (bsf2_12)), (bda, .inr (9, [.ref bdb, .int (iz (bdn2_16)), .long (lz (bdt2_17))])), (bdb, zaL (G.2 0) 40 (bdf2_15)), (ro, .inr (5, [.int (iz (md))]))] H := hP
    have hD : va_D A [(x, .inr (10, [.ref ro, .ref rw, .ref bo, .ref li, .ref sh, .ref tx, .ref lo, .ref nl])), (li, .inr (3, [.ref lv, .ref q, .ref bq, .int (iz (ags))])), (lv, zaI (G.2 1) 30 (f)), (q, .inr (2, [.ref sa, .ref da, .ref wa, .long (lz (zqu po)), .long (lz (zqd po)), .int (iz (pe_11))])), (sa, .inr (9, [.ref sb, .int (iz (sn2_6)), .long (lz (st2_7))])), (sb, zaL (G.2 0) 40 (sf2_5)), (da, .inr (9, [.ref db, .int (iz (dn2_9)), .long (lz (dt2_10))])), (db, zaL (G.2 0) 40 (df2_8)), (bq, .inr (2, [.ref bsa, .ref bda, .ref bwa, .long (lz (zqu po)), .long (lz (zqd po)), .int (iz (bpe_18))])), (bsa, .inr (9, [.ref bsb, .int (iz (bsn2_13)), .long (lz (bst2_14))])), (bsb, zaL (G.2 0) 40 (bsf2_12)), (bda, .inr (9, [.ref bdb, .int (iz (bdn2_16)), .long (lz (bdt2_17))])), (bdb, zaL (G.2 0) 40 (bdf2_15)), (ro, .inr (5, [.int (iz (md))]))] := hD
    rcases hx9_21 with ⟨rfl, hxc⟩
    ·
      have hxc : md = 7 ∧ zDs f ags ag po * mo % (zLs f ags ag po * (100000 + po)) ≠ 0 := hxc
      rw [hQ]
      exact zt_out (sf2_5, sn2_6, st2_7, df2_8, dn2_9, dt2_10, zqu po, zqd po, pe_11, bsf2_12, bsn2_13, bst2_14, bdf2_15, bdn2_16, bdt2_17, zqu po, zqd po, bpe_18) hout hlocks hce9 hcv9 hcl9 hP hD hS (Or.inr (Or.inr ⟨rfl, (show (0 ≤ mo ∧ mo ≤ 1000000000 ∧ 0 ≤ po ∧ po ≤ 20000) ∧ (0 ≤ ag ∧ ag < ags) ∧ md = 7 ∧ zDs f ags ag po * mo % (zLs f ags ag po * (100000 + po)) ≠ 0 from ⟨ti.1, ti.2, hxc⟩)⟩)) (by first | exact Nat.le_of_ble_eq_true rfl | omega) (by first | exact Nat.le_of_ble_eq_true rfl | omega)
  obtain ⟨sf9, sn9, st9, df9, dn9, dt9, pq9, bsf9, bsn9, bst9, bdf9, bdn9, bdt9, bpq9⟩ := u_19
  have hP : va_P G.1 vwCl [(x, .inr (10, [.ref ro, .ref rw, .ref bo, .ref li, .ref sh, .ref tx, .ref lo, .ref nl])), (li, .inr (3, [.ref lv, .ref q, .ref bq, .int (iz (ags))])), (lv, zaI (G.2 1) 30 (f)), (q, .inr (2, [.ref sa, .ref da, .ref wa, .long (lz (zqu po)), .long (lz (zqd po)), .int (iz (pq9))])), (sa, .inr (9, [.ref sb, .int (iz (sn9)), .long (lz (st9))])), (sb, zaL (G.2 0) 40 (sf9)), (da, .inr (9, [.ref db, .int (iz (dn9)), .long (lz (dt9))])), (db, zaL (G.2 0) 40 (df9)), (bq, .inr (2, [.ref bsa, .ref bda, .ref bwa, .long (lz (zqu po)), .long (lz (zqd po)), .int (iz (bpq9))])), (bsa, .inr (9, [.ref bsb, .int (iz (bsn9)), .long (lz (bst9))])), (bsb, zaL (G.2 0) 40 (bsf9)), (bda, .inr (9, [.ref bdb, .int (iz (bdn9)), .long (lz (bdt9))])), (bdb, zaL (G.2 0) 40 (bdf9)), (ro, .inr (5, [.int (iz (md))]))] H := hP
  have hD : va_D A [(x, .inr (10, [.ref ro, .ref rw, .ref bo, .ref li, .ref sh, .ref tx, .ref lo, .ref nl])), (li, .inr (3, [.ref lv, .ref q, .ref bq, .int (iz (ags))])), (lv, zaI (G.2 1) 30 (f)), (q, .inr (2, [.ref sa, .ref da, .ref wa, .long (lz (zqu po)), .long (lz (zqd po)), .int (iz (pq9))])), (sa, .inr (9, [.ref sb, .int (iz (sn9)), .long (lz (st9))])), (sb, zaL (G.2 0) 40 (sf9)), (da, .inr (9, [.ref db, .int (iz (dn9)), .long (lz (dt9))])), (db, zaL (G.2 0) 40 (df9)), (bq, .inr (2, [.ref bsa, .ref bda, .ref bwa, .long (lz (zqu po)), .long (lz (zqd po)), .int (iz (bpq9))])), (bsa, .inr (9, [.ref bsb, .int (iz (bsn9)), .long (lz (bst9))])), (bsb, zaL (G.2 0) 40 (bsf9)), (bda, .inr (9, [.ref bdb, .int (iz (bdn9)), .long (lz (bdt9))])), (bdb, zaL (G.2 0) 40 (bdf9)), (ro, .inr (5, [.int (iz (md))]))] := hD
  have hz : (zDs f ags ag po * mo % (zLs f ags ag po * (100000 + po)) = 0 ∨ md ≠ 7) ∧ zz = zrd md (zDs f ags ag po * mo) (zLs f ags ag po * (100000 + po)) := hz
  rw [hQ]
  exact vx_ret (zr_lret (z := zz) (u := (sf9, sn9, st9, df9, dn9, dt9, zqu po, zqd po, pq9, bsf9, bsn9, bst9, bdf9, bdn9, bdt9, zqu po, zqd po, bpq9)) hx hb hr hlocks hP hD hS (by first | exact Nat.le_of_ble_eq_true rfl | omega) (by first | exact Nat.le_of_ble_eq_true rfl | omega) dX9_premium_23 (show (0 ≤ mo ∧ mo ≤ 1000000000 ∧ 0 ≤ po ∧ po ≤ 20000) ∧ (0 ≤ ag ∧ ag < ags) ∧ (zDs f ags ag po * mo % (zLs f ags ag po * (100000 + po)) = 0 ∨ md ≠ 7) ∧ zz = zrd md (zDs f ags ag po * mo) (zLs f ags ag po * (100000 + po)) from ⟨ti.1, ti.2, hz⟩))

def rm_c_X9_weigh : Room := { frames := 7, cells := 2, slots := 12, locals := 110 }
theorem iw_X9_weigh_X6 : ∀ w ∈ wsX60, w ∈ wsX9_weigh := by decide +kernel
theorem iw_X9_weigh_X9 : ∀ w ∈ wsX90, w ∈ wsX9_weigh := by decide +kernel
set_option maxHeartbeats 1000000 in
set_option maxRecDepth 100000 in
theorem c_X9_weigh (l : Launch) (G : zG) (s1 : Nat) (s2 : Nat) (s3 : Nat) (x : Nat) (ro : Nat) (rw : Nat) (bo : Nat) (li : Nat) (sh : Nat) (tx : Nat) (lo : Nat) (nl : Nat) (wt : Nat) (f : Int → Int) (n : Int) (we : Int) (hl0 : l.stackTraces = false) (r_we : -2147483648 ≤ we ∧ we < 2147483648) (hw : zwts f n) : zMt l (zXE s1 s2 s3) G yX9_weigh wsX9_weigh rm_c_X9_weigh [.ref x, .int (iz (we))] [(x, .inr (10, [.ref ro, .ref rw, .ref bo, .ref li, .ref sh, .ref tx, .ref lo, .ref nl])), (sh, .inr (7, [.ref wt, .int (iz (n))])), (wt, zaI (G.2 1) 12 (f))] (fun A => zQi G (fun (z : Int) (_ : Unit) => (0 ≤ we ∧ we ≤ 1000000) ∧ n < 12 ∧ z = n + 1 ∧ zwts (zup f n we) (n + 1)) (fun (_ : Unit) => [(x, .inr (10, [.ref ro, .ref rw, .ref bo, .ref li, .ref sh, .ref tx, .ref lo, .ref nl])), (sh, .inr (7, [.ref wt, .int (iz (n + 1))])), (wt, zaI (G.2 1) 12 (zup f n we))]) A) (SX := Unit) (fun (E9 : String) (ux : Unit) => (E9 = "java/lang/IllegalArgumentException" ∧ ¬ (0 ≤ we ∧ we ≤ 1000000)) ∨ (E9 = "java/lang/IllegalStateException" ∧ (0 ≤ we ∧ we ≤ 1000000) ∧ ¬ n < 12)) (fun (ux : Unit) => [(x, .inr (10, [.ref ro, .ref rw, .ref bo, .ref li, .ref sh, .ref tx, .ref lo, .ref nl])), (sh, .inr (7, [.ref wt, .int (iz (n))])), (wt, zaI (G.2 1) 12 (f))]) 2 12 := by
  refine zMt_of (cc := cX9_weigh) (maxL := 2) (ret := (some .int)) (by decide) rfl (Nat.le_of_ble_eq_true rfl) ?_
  intro p e s m below meth c ls A Q hQ hx hb hr hts hown hlocks hml hout hKX hE hP hD hA hS hl
  have hK := hKX.1
  have iwX6 := iw_X9_weigh_X6
  have iwX9 := iw_X9_weigh_X9
  obtain ⟨H, hH⟩ : ∃ h, h = s.heap := ⟨_, rfl⟩
  obtain ⟨locs, hlo⟩ : ∃ h : List Loc, h = [] := ⟨_, rfl⟩
  have hS : va_S A s.heap H locs := by rw [hH, hlo]; exact hS
  have hP : va_P G.1 vwCl [(x, .inr (10, [.ref ro, .ref rw, .ref bo, .ref li, .ref sh, .ref tx, .ref lo, .ref nl])), (sh, .inr (7, [.ref wt, .int (iz (n))])), (wt, zaI (G.2 1) 12 (f))] H := by rw [hH]; exact hP
  have hD : va_D A [(x, .inr (10, [.ref ro, .ref rw, .ref bo, .ref li, .ref sh, .ref tx, .ref lo, .ref nl])), (sh, .inr (7, [.ref wt, .int (iz (n))])), (wt, zaI (G.2 1) 12 (f))] := hD
  have hl : lv_has ls 2 [(0, .ref x), (1, .int (iz (we)))] := hl
  rw [← hH, ← hlo]
  have hw1 := hw.1
  refine lv_iload_n hx hb dX9_weigh_0 rfl (lv_at hl 1 rfl) ?_
  refine zr_i2l hx hb (x := we) (⟨by omega, by omega⟩) dX9_weigh_1 ?_
  refine lv_lconst (v := lz (0)) hx hb dX9_weigh_2 rfl ?_
  refine zr_ldc2 (z := 1000000) hx hb hown (hts (.constantLong RX9 105 (1000000)) (by decide +kernel)) rfl dX9_weigh_3 ?_
  refine zc_z (wr := [(x, .inr (10, [.ref ro, .ref rw, .ref bo, .ref li, .ref sh, .ref tx, .ref lo, .ref nl])), (sh, .inr (7, [.ref wt, .int (iz (n))])), (wt, zaI (G.2 1) 12 (f))]) (va_runS (As := [.long (lz (we)), .long (lz (0)), .long (lz (1000000))]) (rest := []) ⟨hx, hb, hml, hown, hts⟩ (c_X9_isWithin l G we 0 1000000 (by omega) (by omega) (by omega) H.size) (va_cwS 3 hts gX9_weigh_X9_isWithin rfl rfl rfl (by decide +kernel) ⟨Nat.le_of_ble_eq_true rfl, Nat.le_of_ble_eq_true rfl⟩) (zpS hKX hP hD [] rfl rfl) rfl rfl hl.1 rfl (lv_room (Nat.le_of_ble_eq_true rfl)) dX9_weigh_6 ⟨(by first | exact Nat.le_of_ble_eq_true rfl | (show _ ≤ (2 : Nat); omega)), (by first | exact Nat.le_of_ble_eq_true rfl | (show _ ≤ (12 : Nat); omega))⟩) hP hD hS hA [] [0, 1, 2] rfl rfl rfl (by decide) (fun z_2 u_1 H locs hq_4 hP hD hS => ?_)
  have hP : va_P G.1 vwCl [(x, .inr (10, [.ref ro, .ref rw, .ref bo, .ref li, .ref sh, .ref tx, .ref lo, .ref nl])), (sh, .inr (7, [.ref wt, .int (iz (n))])), (wt, zaI (G.2 1) 12 (f))] H := hP
  have hD : va_D A [(x, .inr (10, [.ref ro, .ref rw, .ref bo, .ref li, .ref sh, .ref tx, .ref lo, .ref nl])), (sh, .inr (7, [.ref wt, .int (iz (n))])), (wt, zaI (G.2 1) 12 (f))] := hD
  have hq_4 : z_2 = decide ((0 : Int) ≤ we ∧ we ≤ (1000000 : Int)) := hq_4
  refine zct_v (wr := [(x, .inr (10, [.ref ro, .ref rw, .ref bo, .ref li, .ref sh, .ref tx, .ref lo, .ref nl])), (sh, .inr (7, [.ref wt, .int (iz (n))])), (wt, zaI (G.2 1) 12 (f))]) (vx_runS (As := [.int (iz (zbb z_2))]) (rest := []) ⟨hx, hb, hml, hown, hts⟩ (c_X9_demand_t l G s1 s2 s3 z_2 hl0 H.size) (va_cwS 1 hts gX9_weigh_X9_demand rfl rfl rfl (by decide +kernel) ⟨Nat.le_of_ble_eq_true rfl, Nat.le_of_ble_eq_true rfl⟩) (zpSe zXE_ok hE hS hA hKX hP hD [] rfl rfl) rfl rfl hl.1 rfl (lv_room (Nat.le_of_ble_eq_true rfl)) dX9_weigh_9 ⟨(by first | exact Nat.le_of_ble_eq_true rfl | (show _ ≤ (2 : Nat); omega)), (by first | exact Nat.le_of_ble_eq_true rfl | (show _ ≤ (12 : Nat); omega))⟩) hP hD hS hA [] [0, 1, 2] rfl rfl rfl (by decide) (fun E9 ce9 q9 ux_8 H locs hx9_9 hP hD hS hce9 hcv9 hcl9 => ?_) (fun u_7 H locs hq_6 hP hD hS => ?_)
  ·
    have hP : va_P G.1 vwCl [(x, .inr (10, [.ref ro, .ref rw, .ref bo, .ref li, .ref sh, .ref tx, .ref lo, .ref nl])), (sh, .inr (7, [.ref wt, .int (iz (n))])), (wt, zaI (G.2 1) 12 (f))] H := hP
    have hD : va_D A [(x, .inr (10, [.ref ro, .ref rw, .ref bo, .ref li, .ref sh, .ref tx, .ref lo, .ref nl])), (sh, .inr (7, [.ref wt, .int (iz (n))])), (wt, zaI (G.2 1) 12 (f))] := hD
    rcases hx9_9 with ⟨rfl, hxc⟩
    ·
      have hxc : z_2 = false := hxc
      have hzz_2 := of_decide_eq_false (hq_4.symm.trans hxc)
      rw [hQ]
      exact zt_out () hout hlocks hce9 hcv9 hcl9 hP hD hS (Or.inl ⟨rfl, (show ¬ (0 ≤ we ∧ we ≤ 1000000) from by omega)⟩) (by first | exact Nat.le_of_ble_eq_true rfl | omega) (by first | exact Nat.le_of_ble_eq_true rfl | omega)
  have hP : va_P G.1 vwCl [(x, .inr (10, [.ref ro, .ref rw, .ref bo, .ref li, .ref sh, .ref tx, .ref lo, .ref nl])), (sh, .inr (7, [.ref wt, .int (iz (n))])), (wt, zaI (G.2 1) 12 (f))] H := hP
  have hD : va_D A [(x, .inr (10, [.ref ro, .ref rw, .ref bo, .ref li, .ref sh, .ref tx, .ref lo, .ref nl])), (sh, .inr (7, [.ref wt, .int (iz (n))])), (wt, zaI (G.2 1) 12 (f))] := hD
  have hq_6 : z_2 = true := hq_6
  have hzz_2 := of_decide_eq_true (hq_4.symm.trans hq_6)
  have hl_29 : ∀ (bq9 : Bool) (H : Heap) (locs : List Loc) (ls : Array Slot), (bq9 = decide (n < 12)) → va_P G.1 vwCl [(x, .inr (10, [.ref ro, .ref rw, .ref bo, .ref li, .ref sh, .ref tx, .ref lo, .ref nl])), (sh, .inr (7, [.ref wt, .int (iz (n))])), (wt, zaI (G.2 1) 12 (f))] H → va_D A [(x, .inr (10, [.ref ro, .ref rw, .ref bo, .ref li, .ref sh, .ref tx, .ref lo, .ref nl])), (sh, .inr (7, [.ref wt, .int (iz (n))])), (wt, zaI (G.2 1) 12 (f))] → va_S A s.heap H locs → lv_has ls 2 [(0, .ref x), (1, .int (iz (we)))] → W p l e rm_c_X9_weigh s m ([.ref x, .int (iz (we))] : List Value).toArray below meth c H locs (0 + 0 + 1) (0 + 0 + 6) Q (F0 m 29 ls [.int (iz (zbb bq9))]) := by
    intro bq9 H locs ls jq hP hD hS hl
    refine zct_v (wr := [(x, .inr (10, [.ref ro, .ref rw, .ref bo, .ref li, .ref sh, .ref tx, .ref lo, .ref nl])), (sh, .inr (7, [.ref wt, .int (iz (n))])), (wt, zaI (G.2 1) 12 (f))]) (vx_runS (As := [.int (iz (zbb bq9))]) (rest := []) ⟨hx, hb, hml, hown, hts⟩ (c_X9_demandState_t l G s1 s2 s3 bq9 hl0 H.size) (va_cwS 1 hts gX9_weigh_X9_demandState rfl rfl rfl (by decide +kernel) ⟨Nat.le_of_ble_eq_true rfl, Nat.le_of_ble_eq_true rfl⟩) (zpSe zXE_ok hE hS hA hKX hP hD [] rfl rfl) rfl rfl hl.1 rfl (lv_room (Nat.le_of_ble_eq_true rfl)) dX9_weigh_29 ⟨(by first | exact Nat.le_of_ble_eq_true rfl | (show _ ≤ (2 : Nat); omega)), (by first | exact Nat.le_of_ble_eq_true rfl | (show _ ≤ (12 : Nat); omega))⟩) hP hD hS hA [] [0, 1, 2] rfl rfl rfl (by decide) (fun E9 ce9 q9 ux_12 H locs hx9_13 hP hD hS hce9 hcv9 hcl9 => ?_) (fun u_11 H locs td hP hD hS => ?_)
    ·
      have hP : va_P G.1 vwCl [(x, .inr (10, [.ref ro, .ref rw, .ref bo, .ref li, .ref sh, .ref tx, .ref lo, .ref nl])), (sh, .inr (7, [.ref wt, .int (iz (n))])), (wt, zaI (G.2 1) 12 (f))] H := hP
      have hD : va_D A [(x, .inr (10, [.ref ro, .ref rw, .ref bo, .ref li, .ref sh, .ref tx, .ref lo, .ref nl])), (sh, .inr (7, [.ref wt, .int (iz (n))])), (wt, zaI (G.2 1) 12 (f))] := hD
      rcases hx9_13 with ⟨rfl, hxc⟩
      ·
        have hxc : bq9 = false := hxc
        rw [hQ]
        exact zt_out () hout hlocks hce9 hcv9 hcl9 hP hD hS (Or.inr ⟨rfl, (show (0 ≤ we ∧ we ≤ 1000000) ∧ ¬ n < 12 from ⟨by omega, of_decide_eq_false (jq.symm.trans hxc)⟩)⟩) (by first | exact Nat.le_of_ble_eq_true rfl | omega) (by first | exact Nat.le_of_ble_eq_true rfl | omega)
    have hP : va_P G.1 vwCl [(x, .inr (10, [.ref ro, .ref rw, .ref bo, .ref li, .ref sh, .ref tx, .ref lo, .ref nl])), (sh, .inr (7, [.ref wt, .int (iz (n))])), (wt, zaI (G.2 1) 12 (f))] H := hP
    have hD : va_D A [(x, .inr (10, [.ref ro, .ref rw, .ref bo, .ref li, .ref sh, .ref tx, .ref lo, .ref nl])), (sh, .inr (7, [.ref wt, .int (iz (n))])), (wt, zaI (G.2 1) 12 (f))] := hD
    have td : bq9 = true := td
    have hn12 : n < 12 := of_decide_eq_true (jq.symm.trans td)
    refine lv_aload_n hx hb dX9_weigh_32 rfl (lv_at hl 0 rfl) ?_
    refine va_get (D := G.1) (ci := 10) (v := .ref sh) (C := RX9) (T := TX9) (N := 8) hx hb hts iwX9 hown hK hP 0 rfl rfl 4 (by decide) (hts (.fieldLink RX9 40 "AnnuityHouse" "shares" "LAnnuityHouse$Shares;") (by decide +kernel)) (fun _ h9 => h9) rfl dX9_weigh_33 ?_
    refine lv_iload_n hx hb dX9_weigh_36 rfl (lv_at hl 1 rfl) ?_
    refine zc_i (wr := [(x, .inr (10, [.ref ro, .ref rw, .ref bo, .ref li, .ref sh, .ref tx, .ref lo, .ref nl]))]) (va_runV (As := [.int (iz (we))]) (rest := []) ⟨hx, hb, hml, hown, hts⟩ (c_X6_add l G sh wt f n we (by omega) H.size) (cwV 1 hts gX9_weigh_X6_add rfl rfl rfl (by decide +kernel) ⟨Nat.le_of_ble_eq_true rfl, Nat.le_of_ble_eq_true rfl⟩) (zpV hKX hP hD [1, 2] rfl rfl 1 7 rfl rfl) rfl rfl hl.1 rfl (lv_room (Nat.le_of_ble_eq_true rfl)) dX9_weigh_37 ⟨(by first | exact Nat.le_of_ble_eq_true rfl | (show _ ≤ (2 : Nat); omega)), (by first | exact Nat.le_of_ble_eq_true rfl | (show _ ≤ (12 : Nat); omega))⟩) hP hD hS hA [1, 2] [0] rfl rfl rfl (by decide) (fun zz u_14 H locs hz hP hD hS => ?_)
    have hP : va_P G.1 vwCl [(x, .inr (10, [.ref ro, .ref rw, .ref bo, .ref li, .ref sh, .ref tx, .ref lo, .ref nl])), (sh, .inr (7, [.ref wt, .int (iz (n + 1))])), (wt, zaI (G.2 1) 12 (zup f n we))] H := hP
    have hD : va_D A [(x, .inr (10, [.ref ro, .ref rw, .ref bo, .ref li, .ref sh, .ref tx, .ref lo, .ref nl])), (sh, .inr (7, [.ref wt, .int (iz (n + 1))])), (wt, zaI (G.2 1) 12 (zup f n we))] := hD
    have hz : zz = n + 1 := hz
    rw [hQ]
    exact vx_ret (zr_iret (z := zz) (u := ()) hx hb hr hlocks hP hD hS (by first | exact Nat.le_of_ble_eq_true rfl | omega) (by first | exact Nat.le_of_ble_eq_true rfl | omega) dX9_weigh_40 (show (0 ≤ we ∧ we ≤ 1000000) ∧ n < 12 ∧ zz = n + 1 ∧ zwts (zup f n we) (n + 1) from ⟨by omega, hn12, hz, hw.up hn12 (by omega)⟩))
  refine lv_aload_n hx hb dX9_weigh_12 rfl (lv_at hl 0 rfl) ?_
  refine va_get (D := G.1) (ci := 10) (v := .ref sh) (C := RX9) (T := TX9) (N := 8) hx hb hts iwX9 hown hK hP 0 rfl rfl 4 (by decide) (hts (.fieldLink RX9 40 "AnnuityHouse" "shares" "LAnnuityHouse$Shares;") (by decide +kernel)) (fun _ h9 => h9) rfl dX9_weigh_13 ?_
  refine va_get (D := G.1) (ci := 7) (v := .int (iz (n))) (C := RX6) (T := TX6) (N := 2) hx hb hts iwX6 hown hK hP 1 rfl rfl 1 (by decide) (hts (.fieldLink RX9 228 "AnnuityHouse$Shares" "people" "I") (by decide +kernel)) (fun _ h9 => h9) rfl dX9_weigh_16 ?_
  refine lv_bipush (v := iz (12)) hx hb dX9_weigh_19 rfl ?_
  refine zr_icmp_ge (x := n) (y := 12) (tgt := 28) hx hb (⟨by omega, by omega⟩) (⟨by omega, by omega⟩) dX9_weigh_21 (by decide) (fun h_16 => ?_) (fun h_16 => ?_)
  ·
    refine lv_iconst (v := iz (0)) hx hb dX9_weigh_28 rfl ?_
    exact hl_29 false _ _ _ (by first | exact (decide_eq_true (by omega)).symm | exact (decide_eq_false (by omega)).symm) (hP) (hD) hS (hl)
  ·
    refine lv_iconst (v := iz (1)) hx hb dX9_weigh_24 rfl ?_
    refine lv_goto (tgt := 29) hx hb dX9_weigh_25 (by decide) ?_
    exact hl_29 true _ _ _ (by first | exact (decide_eq_true (by omega)).symm | exact (decide_eq_false (by omega)).symm) (hP) (hD) hS (hl)

def rm_c_X9_part : Room := { frames := 7, cells := 3, slots := 18, locals := 110 }
theorem iw_X9_part_X6 : ∀ w ∈ wsX60, w ∈ wsX9_part := by decide +kernel
theorem iw_X9_part_X9 : ∀ w ∈ wsX90, w ∈ wsX9_part := by decide +kernel
set_option maxHeartbeats 1000000 in
set_option maxRecDepth 100000 in
theorem c_X9_part (l : Launch) (G : zG) (s1 : Nat) (s2 : Nat) (s3 : Nat) (x : Nat) (ro : Nat) (rw : Nat) (bo : Nat) (li : Nat) (sh : Nat) (tx : Nat) (lo : Nat) (nl : Nat) (wt : Nat) (f : Int → Int) (n : Int) (mo : Int) (wh : Int) (hl0 : l.stackTraces = false) (r_mo : -9223372036854775808 ≤ mo ∧ mo < 9223372036854775808) (r_wh : -2147483648 ≤ wh ∧ wh < 2147483648) (hw : zwts f n) : zMt l (zXE s1 s2 s3) G yX9_part wsX9_part rm_c_X9_part [.ref x, .long (lz (mo)), .int (iz (wh))] [(x, .inr (10, [.ref ro, .ref rw, .ref bo, .ref li, .ref sh, .ref tx, .ref lo, .ref nl])), (sh, .inr (7, [.ref wt, .int (iz (n))])), (wt, zaI (G.2 1) 12 (f))] (fun A => zQl G (fun (z : Int) (_ : Unit) => (0 ≤ mo ∧ mo ≤ 1000000000000) ∧ (0 ≤ wh ∧ wh < n) ∧ 0 < zsm f n.toNat ∧ z = zpart f n mo wh) (fun (_ : Unit) => [(x, .inr (10, [.ref ro, .ref rw, .ref bo, .ref li, .ref sh, .ref tx, .ref lo, .ref nl])), (sh, .inr (7, [.ref wt, .int (iz (n))])), (wt, zaI (G.2 1) 12 (f))]) A) (SX := Unit) (fun (E9 : String) (ux : Unit) => (E9 = "java/lang/IllegalArgumentException" ∧ ¬ (0 ≤ mo ∧ mo ≤ 1000000000000)) ∨ (E9 = "java/util/NoSuchElementException" ∧ (0 ≤ mo ∧ mo ≤ 1000000000000) ∧ (¬ (0 ≤ wh ∧ wh < n) ∨ ¬ 0 < zsm f n.toNat))) (fun (ux : Unit) => [(x, .inr (10, [.ref ro, .ref rw, .ref bo, .ref li, .ref sh, .ref tx, .ref lo, .ref nl])), (sh, .inr (7, [.ref wt, .int (iz (n))])), (wt, zaI (G.2 1) 12 (f))]) 3 18 := by
  refine zMt_of (cc := cX9_part) (maxL := 4) (ret := (some .long)) (by decide) rfl (Nat.le_of_ble_eq_true rfl) ?_
  intro p e s m below meth c ls A Q hQ hx hb hr hts hown hlocks hml hout hKX hE hP hD hA hS hl
  have hK := hKX.1
  have iwX6 := iw_X9_part_X6
  have iwX9 := iw_X9_part_X9
  obtain ⟨H, hH⟩ : ∃ h, h = s.heap := ⟨_, rfl⟩
  obtain ⟨locs, hlo⟩ : ∃ h : List Loc, h = [] := ⟨_, rfl⟩
  have hS : va_S A s.heap H locs := by rw [hH, hlo]; exact hS
  have hP : va_P G.1 vwCl [(x, .inr (10, [.ref ro, .ref rw, .ref bo, .ref li, .ref sh, .ref tx, .ref lo, .ref nl])), (sh, .inr (7, [.ref wt, .int (iz (n))])), (wt, zaI (G.2 1) 12 (f))] H := by rw [hH]; exact hP
  have hD : va_D A [(x, .inr (10, [.ref ro, .ref rw, .ref bo, .ref li, .ref sh, .ref tx, .ref lo, .ref nl])), (sh, .inr (7, [.ref wt, .int (iz (n))])), (wt, zaI (G.2 1) 12 (f))] := hD
  have hl : lv_has ls 4 [(0, .ref x), (1, .long (lz (mo))), (3, .int (iz (wh)))] := hl
  rw [← hH, ← hlo]
  have hw1 := hw.1
  have hwa := hw.all
  refine lv_lload_n hx hb dX9_part_0 rfl (lv_at hl 1 rfl) ?_
  refine lv_lconst (v := lz (0)) hx hb dX9_part_1 rfl ?_
  refine zr_ldc2 (z := 1000000000000) hx hb hown (hts (.constantLong RX9 77 (1000000000000)) (by decide +kernel)) rfl dX9_part_2 ?_
  refine zc_z (wr := [(x, .inr (10, [.ref ro, .ref rw, .ref bo, .ref li, .ref sh, .ref tx, .ref lo, .ref nl])), (sh, .inr (7, [.ref wt, .int (iz (n))])), (wt, zaI (G.2 1) 12 (f))]) (va_runS (As := [.long (lz (mo)), .long (lz (0)), .long (lz (1000000000000))]) (rest := []) ⟨hx, hb, hml, hown, hts⟩ (c_X9_isWithin l G mo 0 1000000000000 (by omega) (by omega) (by omega) H.size) (va_cwS 3 hts gX9_part_X9_isWithin rfl rfl rfl (by decide +kernel) ⟨Nat.le_of_ble_eq_true rfl, Nat.le_of_ble_eq_true rfl⟩) (zpS hKX hP hD [] rfl rfl) rfl rfl hl.1 rfl (lv_room (Nat.le_of_ble_eq_true rfl)) dX9_part_5 ⟨(by first | exact Nat.le_of_ble_eq_true rfl | (show _ ≤ (3 : Nat); omega)), (by first | exact Nat.le_of_ble_eq_true rfl | (show _ ≤ (18 : Nat); omega))⟩) hP hD hS hA [] [0, 1, 2] rfl rfl rfl (by decide) (fun z_2 u_1 H locs hq_4 hP hD hS => ?_)
  have hP : va_P G.1 vwCl [(x, .inr (10, [.ref ro, .ref rw, .ref bo, .ref li, .ref sh, .ref tx, .ref lo, .ref nl])), (sh, .inr (7, [.ref wt, .int (iz (n))])), (wt, zaI (G.2 1) 12 (f))] H := hP
  have hD : va_D A [(x, .inr (10, [.ref ro, .ref rw, .ref bo, .ref li, .ref sh, .ref tx, .ref lo, .ref nl])), (sh, .inr (7, [.ref wt, .int (iz (n))])), (wt, zaI (G.2 1) 12 (f))] := hD
  have hq_4 : z_2 = decide ((0 : Int) ≤ mo ∧ mo ≤ (1000000000000 : Int)) := hq_4
  refine zct_v (wr := [(x, .inr (10, [.ref ro, .ref rw, .ref bo, .ref li, .ref sh, .ref tx, .ref lo, .ref nl])), (sh, .inr (7, [.ref wt, .int (iz (n))])), (wt, zaI (G.2 1) 12 (f))]) (vx_runS (As := [.int (iz (zbb z_2))]) (rest := []) ⟨hx, hb, hml, hown, hts⟩ (c_X9_demand_t l G s1 s2 s3 z_2 hl0 H.size) (va_cwS 1 hts gX9_part_X9_demand rfl rfl rfl (by decide +kernel) ⟨Nat.le_of_ble_eq_true rfl, Nat.le_of_ble_eq_true rfl⟩) (zpSe zXE_ok hE hS hA hKX hP hD [] rfl rfl) rfl rfl hl.1 rfl (lv_room (Nat.le_of_ble_eq_true rfl)) dX9_part_8 ⟨(by first | exact Nat.le_of_ble_eq_true rfl | (show _ ≤ (3 : Nat); omega)), (by first | exact Nat.le_of_ble_eq_true rfl | (show _ ≤ (18 : Nat); omega))⟩) hP hD hS hA [] [0, 1, 2] rfl rfl rfl (by decide) (fun E9 ce9 q9 ux_8 H locs hx9_9 hP hD hS hce9 hcv9 hcl9 => ?_) (fun u_7 H locs hq_6 hP hD hS => ?_)
  ·
    have hP : va_P G.1 vwCl [(x, .inr (10, [.ref ro, .ref rw, .ref bo, .ref li, .ref sh, .ref tx, .ref lo, .ref nl])), (sh, .inr (7, [.ref wt, .int (iz (n))])), (wt, zaI (G.2 1) 12 (f))] H := hP
    have hD : va_D A [(x, .inr (10, [.ref ro, .ref rw, .ref bo, .ref li, .ref sh, .ref tx, .ref lo, .ref nl])), (sh, .inr (7, [.ref wt, .int (iz (n))])), (wt, zaI (G.2 1) 12 (f))] := hD
    rcases hx9_9 with ⟨rfl, hxc⟩
    ·
      have hxc : z_2 = false := hxc
      have hzz_2 := of_decide_eq_false (hq_4.symm.trans hxc)
      rw [hQ]
      exact zt_out () hout hlocks hce9 hcv9 hcl9 hP hD hS (Or.inl ⟨rfl, (show ¬ (0 ≤ mo ∧ mo ≤ 1000000000000) from by omega)⟩) (by first | exact Nat.le_of_ble_eq_true rfl | omega) (by first | exact Nat.le_of_ble_eq_true rfl | omega)
  have hP : va_P G.1 vwCl [(x, .inr (10, [.ref ro, .ref rw, .ref bo, .ref li, .ref sh, .ref tx, .ref lo, .ref nl])), (sh, .inr (7, [.ref wt, .int (iz (n))])), (wt, zaI (G.2 1) 12 (f))] H := hP
  have hD : va_D A [(x, .inr (10, [.ref ro, .ref rw, .ref bo, .ref li, .ref sh, .ref tx, .ref lo, .ref nl])), (sh, .inr (7, [.ref wt, .int (iz (n))])), (wt, zaI (G.2 1) 12 (f))] := hD
  have hq_6 : z_2 = true := hq_6
  have hzz_2 := of_decide_eq_true (hq_4.symm.trans hq_6)
  refine lv_iload_n hx hb dX9_part_11 rfl (lv_at hl 2 rfl) ?_
  refine zr_i2l hx hb (x := wh) (⟨by omega, by omega⟩) dX9_part_12 ?_
  refine lv_lconst (v := lz (0)) hx hb dX9_part_13 rfl ?_
  refine lv_aload_n hx hb dX9_part_14 rfl (lv_at hl 0 rfl) ?_
  refine va_get (D := G.1) (ci := 10) (v := .ref sh) (C := RX9) (T := TX9) (N := 8) hx hb hts iwX9 hown hK hP 0 rfl rfl 4 (by decide) (hts (.fieldLink RX9 40 "AnnuityHouse" "shares" "LAnnuityHouse$Shares;") (by decide +kernel)) (fun _ h9 => h9) rfl dX9_part_15 ?_
  refine va_get (D := G.1) (ci := 7) (v := .int (iz (n))) (C := RX6) (T := TX6) (N := 2) hx hb hts iwX6 hown hK hP 1 rfl rfl 1 (by decide) (hts (.fieldLink RX9 228 "AnnuityHouse$Shares" "people" "I") (by decide +kernel)) (fun _ h9 => h9) rfl dX9_part_18 ?_
  refine lv_iconst (v := iz (1)) hx hb dX9_part_21 rfl ?_
  refine zr_isub hx hb dX9_part_22 ?_
  refine zr_i2l hx hb (x := n - 1) (⟨by omega, by omega⟩) dX9_part_23 ?_
  refine zc_z (wr := [(x, .inr (10, [.ref ro, .ref rw, .ref bo, .ref li, .ref sh, .ref tx, .ref lo, .ref nl])), (sh, .inr (7, [.ref wt, .int (iz (n))])), (wt, zaI (G.2 1) 12 (f))]) (va_runS (As := [.long (lz (wh)), .long (lz (0)), .long (lz (n - 1))]) (rest := []) ⟨hx, hb, hml, hown, hts⟩ (c_X9_isWithin l G wh 0 (n - 1) (by omega) (by omega) (by omega) H.size) (va_cwS 3 hts gX9_part_X9_isWithin rfl rfl rfl (by decide +kernel) ⟨Nat.le_of_ble_eq_true rfl, Nat.le_of_ble_eq_true rfl⟩) (zpS hKX hP hD [] rfl rfl) rfl rfl hl.1 rfl (lv_room (Nat.le_of_ble_eq_true rfl)) dX9_part_24 ⟨(by first | exact Nat.le_of_ble_eq_true rfl | (show _ ≤ (3 : Nat); omega)), (by first | exact Nat.le_of_ble_eq_true rfl | (show _ ≤ (18 : Nat); omega))⟩) hP hD hS hA [] [0, 1, 2] rfl rfl rfl (by decide) (fun z_11 u_10 H locs hq_13 hP hD hS => ?_)
  have hP : va_P G.1 vwCl [(x, .inr (10, [.ref ro, .ref rw, .ref bo, .ref li, .ref sh, .ref tx, .ref lo, .ref nl])), (sh, .inr (7, [.ref wt, .int (iz (n))])), (wt, zaI (G.2 1) 12 (f))] H := hP
  have hD : va_D A [(x, .inr (10, [.ref ro, .ref rw, .ref bo, .ref li, .ref sh, .ref tx, .ref lo, .ref nl])), (sh, .inr (7, [.ref wt, .int (iz (n))])), (wt, zaI (G.2 1) 12 (f))] := hD
  have hq_13 : z_11 = decide ((0 : Int) ≤ wh ∧ wh ≤ (n - 1)) := hq_13
  refine zct_v (wr := [(x, .inr (10, [.ref ro, .ref rw, .ref bo, .ref li, .ref sh, .ref tx, .ref lo, .ref nl])), (sh, .inr (7, [.ref wt, .int (iz (n))])), (wt, zaI (G.2 1) 12 (f))]) (vx_runS (As := [.int (iz (zbb z_11))]) (rest := []) ⟨hx, hb, hml, hown, hts⟩ (c_X9_demandElement_t l G s1 s2 s3 z_11 hl0 H.size) (va_cwS 1 hts gX9_part_X9_demandElement rfl rfl rfl (by decide +kernel) ⟨Nat.le_of_ble_eq_true rfl, Nat.le_of_ble_eq_true rfl⟩) (zpSe zXE_ok hE hS hA hKX hP hD [] rfl rfl) rfl rfl hl.1 rfl (lv_room (Nat.le_of_ble_eq_true rfl)) dX9_part_27 ⟨(by first | exact Nat.le_of_ble_eq_true rfl | (show _ ≤ (3 : Nat); omega)), (by first | exact Nat.le_of_ble_eq_true rfl | (show _ ≤ (18 : Nat); omega))⟩) hP hD hS hA [] [0, 1, 2] rfl rfl rfl (by decide) (fun E9 ce9 q9 ux_17 H locs hx9_18 hP hD hS hce9 hcv9 hcl9 => ?_) (fun u_16 H locs hq_15 hP hD hS => ?_)
  ·
    have hP : va_P G.1 vwCl [(x, .inr (10, [.ref ro, .ref rw, .ref bo, .ref li, .ref sh, .ref tx, .ref lo, .ref nl])), (sh, .inr (7, [.ref wt, .int (iz (n))])), (wt, zaI (G.2 1) 12 (f))] H := hP
    have hD : va_D A [(x, .inr (10, [.ref ro, .ref rw, .ref bo, .ref li, .ref sh, .ref tx, .ref lo, .ref nl])), (sh, .inr (7, [.ref wt, .int (iz (n))])), (wt, zaI (G.2 1) 12 (f))] := hD
    rcases hx9_18 with ⟨rfl, hxc⟩
    ·
      have hxc : z_11 = false := hxc
      have hzz_11 := of_decide_eq_false (hq_13.symm.trans hxc)
      rw [hQ]
      exact zt_out () hout hlocks hce9 hcv9 hcl9 hP hD hS (Or.inr ⟨rfl, (show (0 ≤ mo ∧ mo ≤ 1000000000000) ∧ (¬ (0 ≤ wh ∧ wh < n) ∨ ¬ 0 < zsm f n.toNat) from ⟨by omega, Or.inl (by omega)⟩)⟩) (by first | exact Nat.le_of_ble_eq_true rfl | omega) (by first | exact Nat.le_of_ble_eq_true rfl | omega)
  have hP : va_P G.1 vwCl [(x, .inr (10, [.ref ro, .ref rw, .ref bo, .ref li, .ref sh, .ref tx, .ref lo, .ref nl])), (sh, .inr (7, [.ref wt, .int (iz (n))])), (wt, zaI (G.2 1) 12 (f))] H := hP
  have hD : va_D A [(x, .inr (10, [.ref ro, .ref rw, .ref bo, .ref li, .ref sh, .ref tx, .ref lo, .ref nl])), (sh, .inr (7, [.ref wt, .int (iz (n))])), (wt, zaI (G.2 1) 12 (f))] := hD
  have hq_15 : z_11 = true := hq_15
  have hzz_11 := of_decide_eq_true (hq_13.symm.trans hq_15)
  refine lv_aload_n hx hb dX9_part_30 rfl (lv_at hl 0 rfl) ?_
  refine va_get (D := G.1) (ci := 10) (v := .ref sh) (C := RX9) (T := TX9) (N := 8) hx hb hts iwX9 hown hK hP 0 rfl rfl 4 (by decide) (hts (.fieldLink RX9 40 "AnnuityHouse" "shares" "LAnnuityHouse$Shares;") (by decide +kernel)) (fun _ h9 => h9) rfl dX9_part_31 ?_
  refine zc_l (wr := [(x, .inr (10, [.ref ro, .ref rw, .ref bo, .ref li, .ref sh, .ref tx, .ref lo, .ref nl]))]) (va_runV (As := []) (rest := []) ⟨hx, hb, hml, hown, hts⟩ (c_X6_allWeights l G sh wt f n (by omega) H.size) (cwV 0 hts gX9_part_X6_allWeights rfl rfl rfl (by decide +kernel) ⟨Nat.le_of_ble_eq_true rfl, Nat.le_of_ble_eq_true rfl⟩) (zpV hKX hP hD [1, 2] rfl rfl 1 7 rfl rfl) rfl rfl hl.1 rfl (lv_room (Nat.le_of_ble_eq_true rfl)) dX9_part_34 ⟨(by first | exact Nat.le_of_ble_eq_true rfl | (show _ ≤ (3 : Nat); omega)), (by first | exact Nat.le_of_ble_eq_true rfl | (show _ ≤ (18 : Nat); omega))⟩) hP hD hS hA [1, 2] [0] rfl rfl rfl (by decide) (fun al9 u_19 H locs hal9 hP hD hS => ?_)
  have hP : va_P G.1 vwCl [(x, .inr (10, [.ref ro, .ref rw, .ref bo, .ref li, .ref sh, .ref tx, .ref lo, .ref nl])), (sh, .inr (7, [.ref wt, .int (iz (n))])), (wt, zaI (G.2 1) 12 (f))] H := hP
  have hD : va_D A [(x, .inr (10, [.ref ro, .ref rw, .ref bo, .ref li, .ref sh, .ref tx, .ref lo, .ref nl])), (sh, .inr (7, [.ref wt, .int (iz (n))])), (wt, zaI (G.2 1) 12 (f))] := hD
  have hal9 : al9 = zsm f n.toNat := hal9
  have hl_47 : ∀ (bq9 : Bool) (H : Heap) (locs : List Loc) (ls : Array Slot), (bq9 = decide (0 < zsm f n.toNat)) → va_P G.1 vwCl [(x, .inr (10, [.ref ro, .ref rw, .ref bo, .ref li, .ref sh, .ref tx, .ref lo, .ref nl])), (sh, .inr (7, [.ref wt, .int (iz (n))])), (wt, zaI (G.2 1) 12 (f))] H → va_D A [(x, .inr (10, [.ref ro, .ref rw, .ref bo, .ref li, .ref sh, .ref tx, .ref lo, .ref nl])), (sh, .inr (7, [.ref wt, .int (iz (n))])), (wt, zaI (G.2 1) 12 (f))] → va_S A s.heap H locs → lv_has ls 4 [(0, .ref x), (1, .long (lz (mo))), (3, .int (iz (wh)))] → W p l e rm_c_X9_part s m ([.ref x, .long (lz (mo)), .int (iz (wh))] : List Value).toArray below meth c H locs (0 + 0 + 1 + 0 + 1 + 0) (0 + 0 + 6 + 0 + 6 + 0) Q (F0 m 47 ls [.int (iz (zbb bq9))]) := by
    intro bq9 H locs ls jq hP hD hS hl
    refine zct_v (wr := [(x, .inr (10, [.ref ro, .ref rw, .ref bo, .ref li, .ref sh, .ref tx, .ref lo, .ref nl])), (sh, .inr (7, [.ref wt, .int (iz (n))])), (wt, zaI (G.2 1) 12 (f))]) (vx_runS (As := [.int (iz (zbb bq9))]) (rest := []) ⟨hx, hb, hml, hown, hts⟩ (c_X9_demandElement_t l G s1 s2 s3 bq9 hl0 H.size) (va_cwS 1 hts gX9_part_X9_demandElement rfl rfl rfl (by decide +kernel) ⟨Nat.le_of_ble_eq_true rfl, Nat.le_of_ble_eq_true rfl⟩) (zpSe zXE_ok hE hS hA hKX hP hD [] rfl rfl) rfl rfl hl.1 rfl (lv_room (Nat.le_of_ble_eq_true rfl)) dX9_part_47 ⟨(by first | exact Nat.le_of_ble_eq_true rfl | (show _ ≤ (3 : Nat); omega)), (by first | exact Nat.le_of_ble_eq_true rfl | (show _ ≤ (18 : Nat); omega))⟩) hP hD hS hA [] [0, 1, 2] rfl rfl rfl (by decide) (fun E9 ce9 q9 ux_23 H locs hx9_24 hP hD hS hce9 hcv9 hcl9 => ?_) (fun u_22 H locs td hP hD hS => ?_)
    ·
      have hP : va_P G.1 vwCl [(x, .inr (10, [.ref ro, .ref rw, .ref bo, .ref li, .ref sh, .ref tx, .ref lo, .ref nl])), (sh, .inr (7, [.ref wt, .int (iz (n))])), (wt, zaI (G.2 1) 12 (f))] H := hP
      have hD : va_D A [(x, .inr (10, [.ref ro, .ref rw, .ref bo, .ref li, .ref sh, .ref tx, .ref lo, .ref nl])), (sh, .inr (7, [.ref wt, .int (iz (n))])), (wt, zaI (G.2 1) 12 (f))] := hD
      rcases hx9_24 with ⟨rfl, hxc⟩
      ·
        have hxc : bq9 = false := hxc
        rw [hQ]
        exact zt_out () hout hlocks hce9 hcv9 hcl9 hP hD hS (Or.inr ⟨rfl, (show (0 ≤ mo ∧ mo ≤ 1000000000000) ∧ (¬ (0 ≤ wh ∧ wh < n) ∨ ¬ 0 < zsm f n.toNat) from ⟨by omega, Or.inr (of_decide_eq_false (jq.symm.trans hxc))⟩)⟩) (by first | exact Nat.le_of_ble_eq_true rfl | omega) (by first | exact Nat.le_of_ble_eq_true rfl | omega)
    have hP : va_P G.1 vwCl [(x, .inr (10, [.ref ro, .ref rw, .ref bo, .ref li, .ref sh, .ref tx, .ref lo, .ref nl])), (sh, .inr (7, [.ref wt, .int (iz (n))])), (wt, zaI (G.2 1) 12 (f))] H := hP
    have hD : va_D A [(x, .inr (10, [.ref ro, .ref rw, .ref bo, .ref li, .ref sh, .ref tx, .ref lo, .ref nl])), (sh, .inr (7, [.ref wt, .int (iz (n))])), (wt, zaI (G.2 1) 12 (f))] := hD
    have td : bq9 = true := td
    have hap : 0 < zsm f n.toNat := of_decide_eq_true (jq.symm.trans td)
    refine lv_aload_n hx hb dX9_part_50 rfl (lv_at hl 0 rfl) ?_
    refine va_get (D := G.1) (ci := 10) (v := .ref sh) (C := RX9) (T := TX9) (N := 8) hx hb hts iwX9 hown hK hP 0 rfl rfl 4 (by decide) (hts (.fieldLink RX9 40 "AnnuityHouse" "shares" "LAnnuityHouse$Shares;") (by decide +kernel)) (fun _ h9 => h9) rfl dX9_part_51 ?_
    refine lv_lload_n hx hb dX9_part_54 rfl (lv_at hl 1 rfl) ?_
    refine lv_iload_n hx hb dX9_part_55 rfl (lv_at hl 2 rfl) ?_
    refine zc_l (wr := [(x, .inr (10, [.ref ro, .ref rw, .ref bo, .ref li, .ref sh, .ref tx, .ref lo, .ref nl]))]) (va_runV (As := [.long (lz (mo)), .int (iz (wh))]) (rest := []) ⟨hx, hb, hml, hown, hts⟩ (c_X6_partOf l G sh wt f n mo wh (by omega) (by omega) (by omega) (by omega) H.size) (cwV 2 hts gX9_part_X6_partOf rfl rfl rfl (by decide +kernel) ⟨Nat.le_of_ble_eq_true rfl, Nat.le_of_ble_eq_true rfl⟩) (zpV hKX hP hD [1, 2] rfl rfl 1 7 rfl rfl) rfl rfl hl.1 rfl (lv_room (Nat.le_of_ble_eq_true rfl)) dX9_part_56 ⟨(by first | exact Nat.le_of_ble_eq_true rfl | (show _ ≤ (3 : Nat); omega)), (by first | exact Nat.le_of_ble_eq_true rfl | (show _ ≤ (18 : Nat); omega))⟩) hP hD hS hA [1, 2] [0] rfl rfl rfl (by decide) (fun zz u_25 H locs hz hP hD hS => ?_)
    have hP : va_P G.1 vwCl [(x, .inr (10, [.ref ro, .ref rw, .ref bo, .ref li, .ref sh, .ref tx, .ref lo, .ref nl])), (sh, .inr (7, [.ref wt, .int (iz (n))])), (wt, zaI (G.2 1) 12 (f))] H := hP
    have hD : va_D A [(x, .inr (10, [.ref ro, .ref rw, .ref bo, .ref li, .ref sh, .ref tx, .ref lo, .ref nl])), (sh, .inr (7, [.ref wt, .int (iz (n))])), (wt, zaI (G.2 1) 12 (f))] := hD
    have hz : zz = zpart f n mo wh := hz
    rw [hQ]
    exact vx_ret (zr_lret (z := zz) (u := ()) hx hb hr hlocks hP hD hS (by first | exact Nat.le_of_ble_eq_true rfl | omega) (by first | exact Nat.le_of_ble_eq_true rfl | omega) dX9_part_59 (show (0 ≤ mo ∧ mo ≤ 1000000000000) ∧ (0 ≤ wh ∧ wh < n) ∧ 0 < zsm f n.toNat ∧ zz = zpart f n mo wh from ⟨by omega, by omega, hap, hz⟩))
  refine lv_lconst (v := lz (0)) hx hb dX9_part_37 rfl ?_
  refine zr_lcmp_le (x := al9) (y := 0) (tgt := 46) hx hb (⟨by omega, by omega⟩) (⟨by omega, by omega⟩) dX9_part_38 dX9_part_39 (by decide) (fun h_27 => ?_) (fun h_27 => ?_)
  ·
    refine lv_iconst (v := iz (0)) hx hb dX9_part_46 rfl ?_
    exact hl_47 false _ _ _ (by rw [← hal9]; first | exact (decide_eq_true (by omega)).symm | exact (decide_eq_false (by omega)).symm) (hP) (hD) hS (hl)
  ·
    refine lv_iconst (v := iz (1)) hx hb dX9_part_42 rfl ?_
    refine lv_goto (tgt := 47) hx hb dX9_part_43 (by decide) ?_
    exact hl_47 true _ _ _ (by rw [← hal9]; first | exact (decide_eq_true (by omega)).symm | exact (decide_eq_false (by omega)).symm) (hP) (hD) hS (hl)

def rm_c_X9_step : Room := { frames := 7, cells := 3, slots := 18, locals := 110 }
theorem iw_X9_step_X7 : ∀ w ∈ wsX70, w ∈ wsX9_step := by decide +kernel
theorem iw_X9_step_X9 : ∀ w ∈ wsX90, w ∈ wsX9_step := by decide +kernel
set_option maxHeartbeats 1000000 in
set_option maxRecDepth 100000 in
theorem c_X9_step (l : Launch) (G : zG) (s1 : Nat) (s2 : Nat) (s3 : Nat) (x : Nat) (ro : Nat) (rw : Nat) (bo : Nat) (li : Nat) (sh : Nat) (tx : Nat) (lo : Nat) (nl : Nat) (fm : Nat) (pm : Nat) (f : Int → Int) (g : Int → Int) (n : Int) (fm_ : Int) (pm_ : Int) (hl0 : l.stackTraces = false) (r_fm_ : -9223372036854775808 ≤ fm_ ∧ fm_ < 9223372036854775808) (r_pm_ : -2147483648 ≤ pm_ ∧ pm_ < 2147483648) (hs : zstp f g n) : zMt l (zXE s1 s2 s3) G yX9_step wsX9_step rm_c_X9_step [.ref x, .long (lz (fm_)), .int (iz (pm_))] [(x, .inr (10, [.ref ro, .ref rw, .ref bo, .ref li, .ref sh, .ref tx, .ref lo, .ref nl])), (tx, .inr (8, [.ref fm, .ref pm, .int (iz (n))])), (fm, zaL (G.2 0) 8 (f)), (pm, zaI (G.2 1) 8 (g))] (fun A => zQi G (fun (z : Int) (_ : Unit) => (((if n = 0 then 0 else f (n - 1) + 1) ≤ fm_ ∧ fm_ ≤ 1000000000) ∧ 0 ≤ pm_ ∧ pm_ ≤ 1000) ∧ n < 8 ∧ z = n + 1 ∧ zstp (zup f n fm_) (zup g n pm_) (n + 1)) (fun (_ : Unit) => [(x, .inr (10, [.ref ro, .ref rw, .ref bo, .ref li, .ref sh, .ref tx, .ref lo, .ref nl])), (tx, .inr (8, [.ref fm, .ref pm, .int (iz (n + 1))])), (fm, zaL (G.2 0) 8 (zup f n fm_)), (pm, zaI (G.2 1) 8 (zup g n pm_))]) A) (SX := Unit) (fun (E9 : String) (ux : Unit) => (E9 = "java/lang/IllegalArgumentException" ∧ ¬ (((if n = 0 then 0 else f (n - 1) + 1) ≤ fm_ ∧ fm_ ≤ 1000000000) ∧ 0 ≤ pm_ ∧ pm_ ≤ 1000)) ∨ (E9 = "java/lang/IllegalStateException" ∧ (((if n = 0 then 0 else f (n - 1) + 1) ≤ fm_ ∧ fm_ ≤ 1000000000) ∧ 0 ≤ pm_ ∧ pm_ ≤ 1000) ∧ ¬ n < 8)) (fun (ux : Unit) => [(x, .inr (10, [.ref ro, .ref rw, .ref bo, .ref li, .ref sh, .ref tx, .ref lo, .ref nl])), (tx, .inr (8, [.ref fm, .ref pm, .int (iz (n))])), (fm, zaL (G.2 0) 8 (f)), (pm, zaI (G.2 1) 8 (g))]) 3 18 := by
  refine zMt_of (cc := cX9_step) (maxL := 4) (ret := (some .int)) (by decide) rfl (Nat.le_of_ble_eq_true rfl) ?_
  intro p e s m below meth c ls A Q hQ hx hb hr hts hown hlocks hml hout hKX hE hP hD hA hS hl
  have hK := hKX.1
  have iwX7 := iw_X9_step_X7
  have iwX9 := iw_X9_step_X9
  obtain ⟨H, hH⟩ : ∃ h, h = s.heap := ⟨_, rfl⟩
  obtain ⟨locs, hlo⟩ : ∃ h : List Loc, h = [] := ⟨_, rfl⟩
  have hS : va_S A s.heap H locs := by rw [hH, hlo]; exact hS
  have hP : va_P G.1 vwCl [(x, .inr (10, [.ref ro, .ref rw, .ref bo, .ref li, .ref sh, .ref tx, .ref lo, .ref nl])), (tx, .inr (8, [.ref fm, .ref pm, .int (iz (n))])), (fm, zaL (G.2 0) 8 (f)), (pm, zaI (G.2 1) 8 (g))] H := by rw [hH]; exact hP
  have hD : va_D A [(x, .inr (10, [.ref ro, .ref rw, .ref bo, .ref li, .ref sh, .ref tx, .ref lo, .ref nl])), (tx, .inr (8, [.ref fm, .ref pm, .int (iz (n))])), (fm, zaL (G.2 0) 8 (f)), (pm, zaI (G.2 1) 8 (g))] := hD
  have hl : lv_has ls 4 [(0, .ref x), (1, .long (lz (fm_))), (3, .int (iz (pm_)))] := hl
  rw [← hH, ← hlo]
  have hs1 := hs.1
  refine lv_lload_n hx hb dX9_step_0 rfl (lv_at hl 1 rfl) ?_
  refine lv_aload_n hx hb dX9_step_1 rfl (lv_at hl 0 rfl) ?_
  refine va_get (D := G.1) (ci := 10) (v := .ref tx) (C := RX9) (T := TX9) (N := 8) hx hb hts iwX9 hown hK hP 0 rfl rfl 5 (by decide) (hts (.fieldLink RX9 47 "AnnuityHouse" "taxes" "LAnnuityHouse$Taxes;") (by decide +kernel)) (fun _ h9 => h9) rfl dX9_step_2 ?_
  refine zc_l (wr := [(x, .inr (10, [.ref ro, .ref rw, .ref bo, .ref li, .ref sh, .ref tx, .ref lo, .ref nl]))]) (va_runV (As := []) (rest := [.long (lz (fm_))]) ⟨hx, hb, hml, hown, hts⟩ (c_X7_leastNextFrom l G tx fm pm f g n (by omega) H.size) (cwV 0 hts gX9_step_X7_leastNextFrom rfl rfl rfl (by decide +kernel) ⟨Nat.le_of_ble_eq_true rfl, Nat.le_of_ble_eq_true rfl⟩) (zpV hKX hP hD [1, 2, 3] rfl rfl 1 8 rfl rfl) rfl rfl hl.1 rfl (lv_room (Nat.le_of_ble_eq_true rfl)) dX9_step_5 ⟨(by first | exact Nat.le_of_ble_eq_true rfl | (show _ ≤ (3 : Nat); omega)), (by first | exact Nat.le_of_ble_eq_true rfl | (show _ ≤ (18 : Nat); omega))⟩) hP hD hS hA [1, 2, 3] [0] rfl rfl rfl (by decide) (fun ln u_1 H locs hln hP hD hS => ?_)
  have hP : va_P G.1 vwCl [(x, .inr (10, [.ref ro, .ref rw, .ref bo, .ref li, .ref sh, .ref tx, .ref lo, .ref nl])), (tx, .inr (8, [.ref fm, .ref pm, .int (iz (n))])), (fm, zaL (G.2 0) 8 (f)), (pm, zaI (G.2 1) 8 (g))] H := hP
  have hD : va_D A [(x, .inr (10, [.ref ro, .ref rw, .ref bo, .ref li, .ref sh, .ref tx, .ref lo, .ref nl])), (tx, .inr (8, [.ref fm, .ref pm, .int (iz (n))])), (fm, zaL (G.2 0) 8 (f)), (pm, zaI (G.2 1) 8 (g))] := hD
  have hln : ln = if n = 0 then 0 else f (n - 1) + 1 := hln
  have hlr := hs.nx
  rw [← hln] at hlr
  refine zr_ldc2 (z := 1000000000) hx hb hown (hts (.constantLong RX9 91 (1000000000)) (by decide +kernel)) rfl dX9_step_8 ?_
  refine zc_z (wr := [(x, .inr (10, [.ref ro, .ref rw, .ref bo, .ref li, .ref sh, .ref tx, .ref lo, .ref nl])), (tx, .inr (8, [.ref fm, .ref pm, .int (iz (n))])), (fm, zaL (G.2 0) 8 (f)), (pm, zaI (G.2 1) 8 (g))]) (va_runS (As := [.long (lz (fm_)), .long (lz (ln)), .long (lz (1000000000))]) (rest := []) ⟨hx, hb, hml, hown, hts⟩ (c_X9_isWithin l G fm_ ln 1000000000 (by omega) (by omega) (by omega) H.size) (va_cwS 3 hts gX9_step_X9_isWithin rfl rfl rfl (by decide +kernel) ⟨Nat.le_of_ble_eq_true rfl, Nat.le_of_ble_eq_true rfl⟩) (zpS hKX hP hD [] rfl rfl) rfl rfl hl.1 rfl (lv_room (Nat.le_of_ble_eq_true rfl)) dX9_step_11 ⟨(by first | exact Nat.le_of_ble_eq_true rfl | (show _ ≤ (3 : Nat); omega)), (by first | exact Nat.le_of_ble_eq_true rfl | (show _ ≤ (18 : Nat); omega))⟩) hP hD hS hA [] [0, 1, 2, 3] rfl rfl rfl (by decide) (fun z_4 u_3 H locs hq_6 hP hD hS => ?_)
  have hP : va_P G.1 vwCl [(x, .inr (10, [.ref ro, .ref rw, .ref bo, .ref li, .ref sh, .ref tx, .ref lo, .ref nl])), (tx, .inr (8, [.ref fm, .ref pm, .int (iz (n))])), (fm, zaL (G.2 0) 8 (f)), (pm, zaI (G.2 1) 8 (g))] H := hP
  have hD : va_D A [(x, .inr (10, [.ref ro, .ref rw, .ref bo, .ref li, .ref sh, .ref tx, .ref lo, .ref nl])), (tx, .inr (8, [.ref fm, .ref pm, .int (iz (n))])), (fm, zaL (G.2 0) 8 (f)), (pm, zaI (G.2 1) 8 (g))] := hD
  have hq_6 : z_4 = decide (ln ≤ fm_ ∧ fm_ ≤ (1000000000 : Int)) := hq_6
  refine zct_v (wr := [(x, .inr (10, [.ref ro, .ref rw, .ref bo, .ref li, .ref sh, .ref tx, .ref lo, .ref nl])), (tx, .inr (8, [.ref fm, .ref pm, .int (iz (n))])), (fm, zaL (G.2 0) 8 (f)), (pm, zaI (G.2 1) 8 (g))]) (vx_runS (As := [.int (iz (zbb z_4))]) (rest := []) ⟨hx, hb, hml, hown, hts⟩ (c_X9_demand_t l G s1 s2 s3 z_4 hl0 H.size) (va_cwS 1 hts gX9_step_X9_demand rfl rfl rfl (by decide +kernel) ⟨Nat.le_of_ble_eq_true rfl, Nat.le_of_ble_eq_true rfl⟩) (zpSe zXE_ok hE hS hA hKX hP hD [] rfl rfl) rfl rfl hl.1 rfl (lv_room (Nat.le_of_ble_eq_true rfl)) dX9_step_14 ⟨(by first | exact Nat.le_of_ble_eq_true rfl | (show _ ≤ (3 : Nat); omega)), (by first | exact Nat.le_of_ble_eq_true rfl | (show _ ≤ (18 : Nat); omega))⟩) hP hD hS hA [] [0, 1, 2, 3] rfl rfl rfl (by decide) (fun E9 ce9 q9 ux_10 H locs hx9_11 hP hD hS hce9 hcv9 hcl9 => ?_) (fun u_9 H locs hq_8 hP hD hS => ?_)
  ·
    have hP : va_P G.1 vwCl [(x, .inr (10, [.ref ro, .ref rw, .ref bo, .ref li, .ref sh, .ref tx, .ref lo, .ref nl])), (tx, .inr (8, [.ref fm, .ref pm, .int (iz (n))])), (fm, zaL (G.2 0) 8 (f)), (pm, zaI (G.2 1) 8 (g))] H := hP
    have hD : va_D A [(x, .inr (10, [.ref ro, .ref rw, .ref bo, .ref li, .ref sh, .ref tx, .ref lo, .ref nl])), (tx, .inr (8, [.ref fm, .ref pm, .int (iz (n))])), (fm, zaL (G.2 0) 8 (f)), (pm, zaI (G.2 1) 8 (g))] := hD
    rcases hx9_11 with ⟨rfl, hxc⟩
    ·
      have hxc : z_4 = false := hxc
      have hzz_4 := of_decide_eq_false (hq_6.symm.trans hxc)
      rw [hQ]
      exact zt_out () hout hlocks hce9 hcv9 hcl9 hP hD hS (Or.inl ⟨rfl, (show ¬ (((if n = 0 then 0 else f (n - 1) + 1) ≤ fm_ ∧ fm_ ≤ 1000000000) ∧ 0 ≤ pm_ ∧ pm_ ≤ 1000) from by rw [← hln]; omega)⟩) (by first | exact Nat.le_of_ble_eq_true rfl | omega) (by first | exact Nat.le_of_ble_eq_true rfl | omega)
  have hP : va_P G.1 vwCl [(x, .inr (10, [.ref ro, .ref rw, .ref bo, .ref li, .ref sh, .ref tx, .ref lo, .ref nl])), (tx, .inr (8, [.ref fm, .ref pm, .int (iz (n))])), (fm, zaL (G.2 0) 8 (f)), (pm, zaI (G.2 1) 8 (g))] H := hP
  have hD : va_D A [(x, .inr (10, [.ref ro, .ref rw, .ref bo, .ref li, .ref sh, .ref tx, .ref lo, .ref nl])), (tx, .inr (8, [.ref fm, .ref pm, .int (iz (n))])), (fm, zaL (G.2 0) 8 (f)), (pm, zaI (G.2 1) 8 (g))] := hD
  have hq_8 : z_4 = true := hq_8
  have hzz_4 := of_decide_eq_true (hq_6.symm.trans hq_8)
  refine lv_iload_n hx hb dX9_step_17 rfl (lv_at hl 2 rfl) ?_
  refine zr_i2l hx hb (x := pm_) (⟨by omega, by omega⟩) dX9_step_18 ?_
  refine lv_lconst (v := lz (0)) hx hb dX9_step_19 rfl ?_
  refine zr_ldc2 (z := 1000) hx hb hown (hts (.constantLong RX9 244 (1000)) (by decide +kernel)) rfl dX9_step_20 ?_
  refine zc_z (wr := [(x, .inr (10, [.ref ro, .ref rw, .ref bo, .ref li, .ref sh, .ref tx, .ref lo, .ref nl])), (tx, .inr (8, [.ref fm, .ref pm, .int (iz (n))])), (fm, zaL (G.2 0) 8 (f)), (pm, zaI (G.2 1) 8 (g))]) (va_runS (As := [.long (lz (pm_)), .long (lz (0)), .long (lz (1000))]) (rest := []) ⟨hx, hb, hml, hown, hts⟩ (c_X9_isWithin l G pm_ 0 1000 (by omega) (by omega) (by omega) H.size) (va_cwS 3 hts gX9_step_X9_isWithin rfl rfl rfl (by decide +kernel) ⟨Nat.le_of_ble_eq_true rfl, Nat.le_of_ble_eq_true rfl⟩) (zpS hKX hP hD [] rfl rfl) rfl rfl hl.1 rfl (lv_room (Nat.le_of_ble_eq_true rfl)) dX9_step_23 ⟨(by first | exact Nat.le_of_ble_eq_true rfl | (show _ ≤ (3 : Nat); omega)), (by first | exact Nat.le_of_ble_eq_true rfl | (show _ ≤ (18 : Nat); omega))⟩) hP hD hS hA [] [0, 1, 2, 3] rfl rfl rfl (by decide) (fun z_13 u_12 H locs hq_15 hP hD hS => ?_)
  have hP : va_P G.1 vwCl [(x, .inr (10, [.ref ro, .ref rw, .ref bo, .ref li, .ref sh, .ref tx, .ref lo, .ref nl])), (tx, .inr (8, [.ref fm, .ref pm, .int (iz (n))])), (fm, zaL (G.2 0) 8 (f)), (pm, zaI (G.2 1) 8 (g))] H := hP
  have hD : va_D A [(x, .inr (10, [.ref ro, .ref rw, .ref bo, .ref li, .ref sh, .ref tx, .ref lo, .ref nl])), (tx, .inr (8, [.ref fm, .ref pm, .int (iz (n))])), (fm, zaL (G.2 0) 8 (f)), (pm, zaI (G.2 1) 8 (g))] := hD
  have hq_15 : z_13 = decide ((0 : Int) ≤ pm_ ∧ pm_ ≤ (1000 : Int)) := hq_15
  refine zct_v (wr := [(x, .inr (10, [.ref ro, .ref rw, .ref bo, .ref li, .ref sh, .ref tx, .ref lo, .ref nl])), (tx, .inr (8, [.ref fm, .ref pm, .int (iz (n))])), (fm, zaL (G.2 0) 8 (f)), (pm, zaI (G.2 1) 8 (g))]) (vx_runS (As := [.int (iz (zbb z_13))]) (rest := []) ⟨hx, hb, hml, hown, hts⟩ (c_X9_demand_t l G s1 s2 s3 z_13 hl0 H.size) (va_cwS 1 hts gX9_step_X9_demand rfl rfl rfl (by decide +kernel) ⟨Nat.le_of_ble_eq_true rfl, Nat.le_of_ble_eq_true rfl⟩) (zpSe zXE_ok hE hS hA hKX hP hD [] rfl rfl) rfl rfl hl.1 rfl (lv_room (Nat.le_of_ble_eq_true rfl)) dX9_step_26 ⟨(by first | exact Nat.le_of_ble_eq_true rfl | (show _ ≤ (3 : Nat); omega)), (by first | exact Nat.le_of_ble_eq_true rfl | (show _ ≤ (18 : Nat); omega))⟩) hP hD hS hA [] [0, 1, 2, 3] rfl rfl rfl (by decide) (fun E9 ce9 q9 ux_19 H locs hx9_20 hP hD hS hce9 hcv9 hcl9 => ?_) (fun u_18 H locs hq_17 hP hD hS => ?_)
  ·
    have hP : va_P G.1 vwCl [(x, .inr (10, [.ref ro, .ref rw, .ref bo, .ref li, .ref sh, .ref tx, .ref lo, .ref nl])), (tx, .inr (8, [.ref fm, .ref pm, .int (iz (n))])), (fm, zaL (G.2 0) 8 (f)), (pm, zaI (G.2 1) 8 (g))] H := hP
    have hD : va_D A [(x, .inr (10, [.ref ro, .ref rw, .ref bo, .ref li, .ref sh, .ref tx, .ref lo, .ref nl])), (tx, .inr (8, [.ref fm, .ref pm, .int (iz (n))])), (fm, zaL (G.2 0) 8 (f)), (pm, zaI (G.2 1) 8 (g))] := hD
    rcases hx9_20 with ⟨rfl, hxc⟩
    ·
      have hxc : z_13 = false := hxc
      have hzz_13 := of_decide_eq_false (hq_15.symm.trans hxc)
      rw [hQ]
      exact zt_out () hout hlocks hce9 hcv9 hcl9 hP hD hS (Or.inl ⟨rfl, (show ¬ (((if n = 0 then 0 else f (n - 1) + 1) ≤ fm_ ∧ fm_ ≤ 1000000000) ∧ 0 ≤ pm_ ∧ pm_ ≤ 1000) from by rw [← hln]; omega)⟩) (by first | exact Nat.le_of_ble_eq_true rfl | omega) (by first | exact Nat.le_of_ble_eq_true rfl | omega)
  have hP : va_P G.1 vwCl [(x, .inr (10, [.ref ro, .ref rw, .ref bo, .ref li, .ref sh, .ref tx, .ref lo, .ref nl])), (tx, .inr (8, [.ref fm, .ref pm, .int (iz (n))])), (fm, zaL (G.2 0) 8 (f)), (pm, zaI (G.2 1) 8 (g))] H := hP
  have hD : va_D A [(x, .inr (10, [.ref ro, .ref rw, .ref bo, .ref li, .ref sh, .ref tx, .ref lo, .ref nl])), (tx, .inr (8, [.ref fm, .ref pm, .int (iz (n))])), (fm, zaL (G.2 0) 8 (f)), (pm, zaI (G.2 1) 8 (g))] := hD
  have hq_17 : z_13 = true := hq_17
  have hzz_13 := of_decide_eq_true (hq_15.symm.trans hq_17)
  have hl_46 : ∀ (bq9 : Bool) (H : Heap) (locs : List Loc) (ls : Array Slot), (bq9 = decide (n < 8)) → va_P G.1 vwCl [(x, .inr (10, [.ref ro, .ref rw, .ref bo, .ref li, .ref sh, .ref tx, .ref lo, .ref nl])), (tx, .inr (8, [.ref fm, .ref pm, .int (iz (n))])), (fm, zaL (G.2 0) 8 (f)), (pm, zaI (G.2 1) 8 (g))] H → va_D A [(x, .inr (10, [.ref ro, .ref rw, .ref bo, .ref li, .ref sh, .ref tx, .ref lo, .ref nl])), (tx, .inr (8, [.ref fm, .ref pm, .int (iz (n))])), (fm, zaL (G.2 0) 8 (f)), (pm, zaI (G.2 1) 8 (g))] → va_S A s.heap H locs → lv_has ls 4 [(0, .ref x), (1, .long (lz (fm_))), (3, .int (iz (pm_)))] → W p l e rm_c_X9_step s m ([.ref x, .long (lz (fm_)), .int (iz (pm_))] : List Value).toArray below meth c H locs (0 + 0 + 0 + 1 + 0 + 1) (0 + 0 + 0 + 6 + 0 + 6) Q (F0 m 46 ls [.int (iz (zbb bq9))]) := by
    intro bq9 H locs ls jq hP hD hS hl
    refine zct_v (wr := [(x, .inr (10, [.ref ro, .ref rw, .ref bo, .ref li, .ref sh, .ref tx, .ref lo, .ref nl])), (tx, .inr (8, [.ref fm, .ref pm, .int (iz (n))])), (fm, zaL (G.2 0) 8 (f)), (pm, zaI (G.2 1) 8 (g))]) (vx_runS (As := [.int (iz (zbb bq9))]) (rest := []) ⟨hx, hb, hml, hown, hts⟩ (c_X9_demandState_t l G s1 s2 s3 bq9 hl0 H.size) (va_cwS 1 hts gX9_step_X9_demandState rfl rfl rfl (by decide +kernel) ⟨Nat.le_of_ble_eq_true rfl, Nat.le_of_ble_eq_true rfl⟩) (zpSe zXE_ok hE hS hA hKX hP hD [] rfl rfl) rfl rfl hl.1 rfl (lv_room (Nat.le_of_ble_eq_true rfl)) dX9_step_46 ⟨(by first | exact Nat.le_of_ble_eq_true rfl | (show _ ≤ (3 : Nat); omega)), (by first | exact Nat.le_of_ble_eq_true rfl | (show _ ≤ (18 : Nat); omega))⟩) hP hD hS hA [] [0, 1, 2, 3] rfl rfl rfl (by decide) (fun E9 ce9 q9 ux_23 H locs hx9_24 hP hD hS hce9 hcv9 hcl9 => ?_) (fun u_22 H locs td hP hD hS => ?_)
    ·
      have hP : va_P G.1 vwCl [(x, .inr (10, [.ref ro, .ref rw, .ref bo, .ref li, .ref sh, .ref tx, .ref lo, .ref nl])), (tx, .inr (8, [.ref fm, .ref pm, .int (iz (n))])), (fm, zaL (G.2 0) 8 (f)), (pm, zaI (G.2 1) 8 (g))] H := hP
      have hD : va_D A [(x, .inr (10, [.ref ro, .ref rw, .ref bo, .ref li, .ref sh, .ref tx, .ref lo, .ref nl])), (tx, .inr (8, [.ref fm, .ref pm, .int (iz (n))])), (fm, zaL (G.2 0) 8 (f)), (pm, zaI (G.2 1) 8 (g))] := hD
      rcases hx9_24 with ⟨rfl, hxc⟩
      ·
        have hxc : bq9 = false := hxc
        rw [hQ]
        exact zt_out () hout hlocks hce9 hcv9 hcl9 hP hD hS (Or.inr ⟨rfl, (show (((if n = 0 then 0 else f (n - 1) + 1) ≤ fm_ ∧ fm_ ≤ 1000000000) ∧ 0 ≤ pm_ ∧ pm_ ≤ 1000) ∧ ¬ n < 8 from ⟨by rw [← hln]; omega, of_decide_eq_false (jq.symm.trans hxc)⟩)⟩) (by first | exact Nat.le_of_ble_eq_true rfl | omega) (by first | exact Nat.le_of_ble_eq_true rfl | omega)
    have hP : va_P G.1 vwCl [(x, .inr (10, [.ref ro, .ref rw, .ref bo, .ref li, .ref sh, .ref tx, .ref lo, .ref nl])), (tx, .inr (8, [.ref fm, .ref pm, .int (iz (n))])), (fm, zaL (G.2 0) 8 (f)), (pm, zaI (G.2 1) 8 (g))] H := hP
    have hD : va_D A [(x, .inr (10, [.ref ro, .ref rw, .ref bo, .ref li, .ref sh, .ref tx, .ref lo, .ref nl])), (tx, .inr (8, [.ref fm, .ref pm, .int (iz (n))])), (fm, zaL (G.2 0) 8 (f)), (pm, zaI (G.2 1) 8 (g))] := hD
    have td : bq9 = true := td
    have hn8 : n < 8 := of_decide_eq_true (jq.symm.trans td)
    refine lv_aload_n hx hb dX9_step_49 rfl (lv_at hl 0 rfl) ?_
    refine va_get (D := G.1) (ci := 10) (v := .ref tx) (C := RX9) (T := TX9) (N := 8) hx hb hts iwX9 hown hK hP 0 rfl rfl 5 (by decide) (hts (.fieldLink RX9 47 "AnnuityHouse" "taxes" "LAnnuityHouse$Taxes;") (by decide +kernel)) (fun _ h9 => h9) rfl dX9_step_50 ?_
    refine lv_lload_n hx hb dX9_step_53 rfl (lv_at hl 1 rfl) ?_
    refine lv_iload_n hx hb dX9_step_54 rfl (lv_at hl 2 rfl) ?_
    refine zc_i (wr := [(x, .inr (10, [.ref ro, .ref rw, .ref bo, .ref li, .ref sh, .ref tx, .ref lo, .ref nl]))]) (va_runV (As := [.long (lz (fm_)), .int (iz (pm_))]) (rest := []) ⟨hx, hb, hml, hown, hts⟩ (c_X7_add l G tx fm pm f g n fm_ pm_ (by omega) H.size) (cwV 2 hts gX9_step_X7_add rfl rfl rfl (by decide +kernel) ⟨Nat.le_of_ble_eq_true rfl, Nat.le_of_ble_eq_true rfl⟩) (zpV hKX hP hD [1, 2, 3] rfl rfl 1 8 rfl rfl) rfl rfl hl.1 rfl (lv_room (Nat.le_of_ble_eq_true rfl)) dX9_step_55 ⟨(by first | exact Nat.le_of_ble_eq_true rfl | (show _ ≤ (3 : Nat); omega)), (by first | exact Nat.le_of_ble_eq_true rfl | (show _ ≤ (18 : Nat); omega))⟩) hP hD hS hA [1, 2, 3] [0] rfl rfl rfl (by decide) (fun zz u_25 H locs hz hP hD hS => ?_)
    have hP : va_P G.1 vwCl [(x, .inr (10, [.ref ro, .ref rw, .ref bo, .ref li, .ref sh, .ref tx, .ref lo, .ref nl])), (tx, .inr (8, [.ref fm, .ref pm, .int (iz (n + 1))])), (fm, zaL (G.2 0) 8 (zup f n fm_)), (pm, zaI (G.2 1) 8 (zup g n pm_))] H := hP
    have hD : va_D A [(x, .inr (10, [.ref ro, .ref rw, .ref bo, .ref li, .ref sh, .ref tx, .ref lo, .ref nl])), (tx, .inr (8, [.ref fm, .ref pm, .int (iz (n + 1))])), (fm, zaL (G.2 0) 8 (zup f n fm_)), (pm, zaI (G.2 1) 8 (zup g n pm_))] := hD
    have hz : zz = n + 1 := hz
    rw [hQ]
    exact vx_ret (zr_iret (z := zz) (u := ()) hx hb hr hlocks hP hD hS (by first | exact Nat.le_of_ble_eq_true rfl | omega) (by first | exact Nat.le_of_ble_eq_true rfl | omega) dX9_step_58 (show (((if n = 0 then 0 else f (n - 1) + 1) ≤ fm_ ∧ fm_ ≤ 1000000000) ∧ 0 ≤ pm_ ∧ pm_ ≤ 1000) ∧ n < 8 ∧ zz = n + 1 ∧ zstp (zup f n fm_) (zup g n pm_) (n + 1) from ⟨by rw [← hln]; omega, hn8, hz, hs.up hn8 (by omega) (by omega)⟩))
  refine lv_aload_n hx hb dX9_step_29 rfl (lv_at hl 0 rfl) ?_
  refine va_get (D := G.1) (ci := 10) (v := .ref tx) (C := RX9) (T := TX9) (N := 8) hx hb hts iwX9 hown hK hP 0 rfl rfl 5 (by decide) (hts (.fieldLink RX9 47 "AnnuityHouse" "taxes" "LAnnuityHouse$Taxes;") (by decide +kernel)) (fun _ h9 => h9) rfl dX9_step_30 ?_
  refine va_get (D := G.1) (ci := 8) (v := .int (iz (n))) (C := RX7) (T := TX7) (N := 3) hx hb hts iwX7 hown hK hP 1 rfl rfl 2 (by decide) (hts (.fieldLink RX9 246 "AnnuityHouse$Taxes" "steps" "I") (by decide +kernel)) (fun _ h9 => h9) rfl dX9_step_33 ?_
  refine lv_bipush (v := iz (8)) hx hb dX9_step_36 rfl ?_
  refine zr_icmp_ge (x := n) (y := 8) (tgt := 45) hx hb (⟨by omega, by omega⟩) (⟨by omega, by omega⟩) dX9_step_38 (by decide) (fun h_27 => ?_) (fun h_27 => ?_)
  ·
    refine lv_iconst (v := iz (0)) hx hb dX9_step_45 rfl ?_
    exact hl_46 false _ _ _ (by first | exact (decide_eq_true (by omega)).symm | exact (decide_eq_false (by omega)).symm) (hP) (hD) hS (hl)
  ·
    refine lv_iconst (v := iz (1)) hx hb dX9_step_41 rfl ?_
    refine lv_goto (tgt := 46) hx hb dX9_step_42 (by decide) ?_
    exact hl_46 true _ _ _ (by first | exact (decide_eq_true (by omega)).symm | exact (decide_eq_false (by omega)).symm) (hP) (hD) hS (hl)
