-- THE REFERENCE ON A FRESH OBJECT: lives, bonds' ranges (laid by wip/walk/x12c.py)
def rm_c_X12_lifeOrDeath_o : Room := { frames := 2, cells := 0, slots := 0, locals := 45 }
theorem iw_X12_lifeOrDeath_X12 : ∀ w ∈ wsX120, w ∈ wsX12_lifeOrDeath := by decide +kernel
set_option maxHeartbeats 1000000 in
set_option maxRecDepth 100000 in
theorem c_X12_lifeOrDeath_o (l : Launch) (G : zG) (x : Nat) (am : Nat) (tb : Nat) (lv : Nat) (wt : Nat) (bg : Nat) (pm : Nat) (th : Int) (ag : Int) (mo : Int) (po : Int) (de : Bool) (h0 : -2147483648 ≤ ag ∧ ag < 2147483648) (h01 : -9223372036854775808 ≤ mo ∧ mo < 9223372036854775808) (h02 : -2147483648 ≤ po ∧ po < 2147483648) (h1 : 0 ≤ mo ∧ mo ≤ 1000000000 ∧ 0 ≤ po ∧ po ≤ 20000) : zM l G yX12_lifeOrDeath wsX12_lifeOrDeath rm_c_X12_lifeOrDeath_o [.ref x, .int (iz (ag)), .long (lz (mo)), .int (iz (po)), .int (iz (zbb de))] [(x, .inr (13, [.int (iz (th)), .int (iz (6)), .ref am, .null, .ref tb, .ref lv, .int (iz (0)), .ref wt, .int (iz (0)), .ref bg, .ref pm, .int (iz (0))]))] (fun A => zQl G (fun (z : Int) (th2 : Int) => z = 0 ∧ th2 = 2) (fun (th2 : Int) => [(x, .inr (13, [.int (iz (th2)), .int (iz (6)), .ref am, .null, .ref tb, .ref lv, .int (iz (0)), .ref wt, .int (iz (0)), .ref bg, .ref pm, .int (iz (0))]))]) A) 0 0 := by
  refine zM_of (cc := cX12_lifeOrDeath) (maxL := 9) (ret := (some .long)) (by decide) rfl (Nat.le_of_ble_eq_true rfl) ?_
  intro p e s m below meth c ls A Q hQ hx hb hr hts hown hlocks hml hnm hKX hP hD hA hS hl
  have hK := hKX.1
  have iwX12 := iw_X12_lifeOrDeath_X12
  obtain ⟨H, hH⟩ : ∃ h, h = s.heap := ⟨_, rfl⟩
  obtain ⟨locs, hlo⟩ : ∃ h : List Loc, h = [] := ⟨_, rfl⟩
  have hS : va_S A s.heap H locs := by rw [hH, hlo]; exact hS
  have hP : va_P G.1 vwCl [(x, .inr (13, [.int (iz (th)), .int (iz (6)), .ref am, .null, .ref tb, .ref lv, .int (iz (0)), .ref wt, .int (iz (0)), .ref bg, .ref pm, .int (iz (0))]))] H := by rw [hH]; exact hP
  have hD : va_D A [(x, .inr (13, [.int (iz (th)), .int (iz (6)), .ref am, .null, .ref tb, .ref lv, .int (iz (0)), .ref wt, .int (iz (0)), .ref bg, .ref pm, .int (iz (0))]))] := hD
  have hl : lv_has ls 9 [(0, .ref x), (1, .int (iz (ag))), (2, .long (lz (mo))), (4, .int (iz (po))), (5, .int (iz (zbb de)))] := hl
  rw [← hH, ← hlo]
  refine lv_lload_n hx hb dX12_lifeOrDeath_0 rfl (lv_at hl 2 rfl) ?_
  refine lv_lconst (v := lz (0)) hx hb dX12_lifeOrDeath_1 rfl ?_
  refine zr_ldc2 (z := 1000000000) hx hb hown (hts (.constantLong RX12 121 (1000000000)) (by decide +kernel)) rfl dX12_lifeOrDeath_2 ?_
  refine zc_z (wr := [(x, .inr (13, [.int (iz (th)), .int (iz (6)), .ref am, .null, .ref tb, .ref lv, .int (iz (0)), .ref wt, .int (iz (0)), .ref bg, .ref pm, .int (iz (0))]))]) (va_runS (As := [.long (lz (mo)), .long (lz (0)), .long (lz (1000000000))]) (rest := []) ⟨hx, hb, hml, hown, hts⟩ (c_X12_in l G mo 0 1000000000 (by omega) (by omega) (by omega) H.size) (va_cwS 3 hts gX12_lifeOrDeath_X12_in rfl rfl rfl (by decide +kernel) ⟨Nat.le_of_ble_eq_true rfl, Nat.le_of_ble_eq_true rfl⟩) (zpS hKX hP hD [] rfl rfl) rfl rfl hl.1 rfl (lv_room (Nat.le_of_ble_eq_true rfl)) dX12_lifeOrDeath_5 ⟨(by first | exact Nat.le_of_ble_eq_true rfl | (show _ ≤ (0 : Nat); omega)), (by first | exact Nat.le_of_ble_eq_true rfl | (show _ ≤ (0 : Nat); omega))⟩) hP hD hS hA [] [0] rfl rfl rfl (by decide) (fun y1 u_1 H locs hy1 hP hD hS => ?_)
  have hP : va_P G.1 vwCl [(x, .inr (13, [.int (iz (th)), .int (iz (6)), .ref am, .null, .ref tb, .ref lv, .int (iz (0)), .ref wt, .int (iz (0)), .ref bg, .ref pm, .int (iz (0))]))] H := hP
  have hD : va_D A [(x, .inr (13, [.int (iz (th)), .int (iz (6)), .ref am, .null, .ref tb, .ref lv, .int (iz (0)), .ref wt, .int (iz (0)), .ref bg, .ref pm, .int (iz (0))]))] := hD
  have hy1 : y1 = decide ((0 : Int) ≤ mo ∧ mo ≤ (1000000000 : Int)) := hy1
  rw [show y1 = true from hy1.trans (decide_eq_true (by omega))]
  refine zr_ifz_eq (tgt := 23) hx hb dX12_lifeOrDeath_8 (by decide) (fun h_3 => ?_) (fun h_3 => ?_)
  · exact absurd h_3 (by decide)
  ·
    refine lv_iload hx hb dX12_lifeOrDeath_11 (lv_at hl 3 rfl) ?_
    refine zc_z (wr := [(x, .inr (13, [.int (iz (th)), .int (iz (6)), .ref am, .null, .ref tb, .ref lv, .int (iz (0)), .ref wt, .int (iz (0)), .ref bg, .ref pm, .int (iz (0))]))]) (va_runS (As := [.int (iz (po))]) (rest := []) ⟨hx, hb, hml, hown, hts⟩ (c_X12_isRate l G po (by omega) H.size) (va_cwS 1 hts gX12_lifeOrDeath_X12_isRate rfl rfl rfl (by decide +kernel) ⟨Nat.le_of_ble_eq_true rfl, Nat.le_of_ble_eq_true rfl⟩) (zpS hKX hP hD [] rfl rfl) rfl rfl hl.1 rfl (lv_room (Nat.le_of_ble_eq_true rfl)) dX12_lifeOrDeath_13 ⟨(by first | exact Nat.le_of_ble_eq_true rfl | (show _ ≤ (0 : Nat); omega)), (by first | exact Nat.le_of_ble_eq_true rfl | (show _ ≤ (0 : Nat); omega))⟩) hP hD hS hA [] [0] rfl rfl rfl (by decide) (fun y2 u_4 H locs hy2 hP hD hS => ?_)
    have hP : va_P G.1 vwCl [(x, .inr (13, [.int (iz (th)), .int (iz (6)), .ref am, .null, .ref tb, .ref lv, .int (iz (0)), .ref wt, .int (iz (0)), .ref bg, .ref pm, .int (iz (0))]))] H := hP
    have hD : va_D A [(x, .inr (13, [.int (iz (th)), .int (iz (6)), .ref am, .null, .ref tb, .ref lv, .int (iz (0)), .ref wt, .int (iz (0)), .ref bg, .ref pm, .int (iz (0))]))] := hD
    have hy2 : y2 = decide (0 ≤ po ∧ po ≤ 20000) := hy2
    rw [show y2 = true from hy2.trans (decide_eq_true (by omega))]
    refine zr_ifz_eq (tgt := 23) hx hb dX12_lifeOrDeath_16 (by decide) (fun h_6 => ?_) (fun h_6 => ?_)
    · exact absurd h_6 (by decide)
    ·
      refine lv_iconst (v := iz (1)) hx hb dX12_lifeOrDeath_19 rfl ?_
      refine lv_goto (tgt := 24) hx hb dX12_lifeOrDeath_20 (by decide) ?_
      refine lv_istore (lv' := [(6, .int (iz (1))), (0, .ref x), (1, .int (iz (ag))), (2, .long (lz (mo))), (4, .int (iz (po))), (5, .int (iz (zbb de)))]) hx hb dX12_lifeOrDeath_24 hl (by decide) rfl (fun ls hl => ?_)
      refine lv_iload_n hx hb dX12_lifeOrDeath_26 rfl (lv_at hl 2 rfl) ?_
      refine zr_i2l hx hb (x := ag) (⟨by omega, by omega⟩) dX12_lifeOrDeath_27 ?_
      refine lv_lconst (v := lz (0)) hx hb dX12_lifeOrDeath_28 rfl ?_
      refine lv_aload_n hx hb dX12_lifeOrDeath_29 rfl (lv_at hl 1 rfl) ?_
      refine va_get (D := G.1) (ci := 13) (v := .int (iz (0))) (C := RX12) (T := TX12) (N := 12) hx hb hts iwX12 hown hK hP 0 rfl rfl 6 (by decide) (hts (.fieldLink RX12 254 "AnnuityHouseModel" "ages" "I") (by decide +kernel)) (fun _ h9 => h9) rfl dX12_lifeOrDeath_30 ?_
      refine lv_iconst (v := iz (1)) hx hb dX12_lifeOrDeath_33 rfl ?_
      refine zr_isub hx hb dX12_lifeOrDeath_34 ?_
      refine zr_i2l hx hb (x := 0 - 1) (⟨by decide, by decide⟩) dX12_lifeOrDeath_35 ?_
      refine zc_z (wr := [(x, .inr (13, [.int (iz (th)), .int (iz (6)), .ref am, .null, .ref tb, .ref lv, .int (iz (0)), .ref wt, .int (iz (0)), .ref bg, .ref pm, .int (iz (0))]))]) (va_runS (As := [.long (lz (ag)), .long (lz (0)), .long (lz (0 - 1))]) (rest := []) ⟨hx, hb, hml, hown, hts⟩ (c_X12_in l G ag 0 (0 - 1) (by omega) (by omega) (by omega) H.size) (va_cwS 3 hts gX12_lifeOrDeath_X12_in rfl rfl rfl (by decide +kernel) ⟨Nat.le_of_ble_eq_true rfl, Nat.le_of_ble_eq_true rfl⟩) (zpS hKX hP hD [] rfl rfl) rfl rfl hl.1 rfl (lv_room (Nat.le_of_ble_eq_true rfl)) dX12_lifeOrDeath_36 ⟨(by first | exact Nat.le_of_ble_eq_true rfl | (show _ ≤ (0 : Nat); omega)), (by first | exact Nat.le_of_ble_eq_true rfl | (show _ ≤ (0 : Nat); omega))⟩) hP hD hS hA [] [0] rfl rfl rfl (by decide) (fun y3 u_7 H locs hy3 hP hD hS => ?_)
      have hP : va_P G.1 vwCl [(x, .inr (13, [.int (iz (th)), .int (iz (6)), .ref am, .null, .ref tb, .ref lv, .int (iz (0)), .ref wt, .int (iz (0)), .ref bg, .ref pm, .int (iz (0))]))] H := hP
      have hD : va_D A [(x, .inr (13, [.int (iz (th)), .int (iz (6)), .ref am, .null, .ref tb, .ref lv, .int (iz (0)), .ref wt, .int (iz (0)), .ref bg, .ref pm, .int (iz (0))]))] := hD
      have hy3 : y3 = decide ((0 : Int) ≤ ag ∧ ag ≤ (0 - 1)) := hy3
      rw [show y3 = false from hy3.trans (decide_eq_false (by omega))]
      refine lv_istore (lv' := [(7, .int (iz (zbb false))), (6, .int (iz (1))), (0, .ref x), (1, .int (iz (ag))), (2, .long (lz (mo))), (4, .int (iz (po))), (5, .int (iz (zbb de)))]) hx hb dX12_lifeOrDeath_39 hl (by decide) rfl (fun ls hl => ?_)
      refine lv_null hx hb dX12_lifeOrDeath_41 ?_
      refine lv_astoreN (lv' := [(8, .null), (7, .int (iz (zbb false))), (6, .int (iz (1))), (0, .ref x), (1, .int (iz (ag))), (2, .long (lz (mo))), (4, .int (iz (po))), (5, .int (iz (zbb de)))]) hx hb dX12_lifeOrDeath_42 hl (by decide) rfl (fun ls hl => ?_)
      refine lv_iload hx hb dX12_lifeOrDeath_44 (lv_at hl 2 rfl) ?_
      refine zr_if_eq (x := 1) (tgt := 105) hx hb (⟨by omega, by omega⟩) dX12_lifeOrDeath_46 (by decide) (fun h_9 => ?_) (fun h_9 => ?_)
      · exact absurd h_9 (by omega)
      ·
        refine lv_iload hx hb dX12_lifeOrDeath_49 (lv_at hl 1 rfl) ?_
        refine zr_ifz_eq (tgt := 105) hx hb dX12_lifeOrDeath_51 (by decide) (fun h_10 => ?_) (fun h_10 => ?_)
        ·
          refine lv_aload_n hx hb dX12_lifeOrDeath_105 rfl (lv_at hl 3 rfl) ?_
          refine lv_iload hx hb dX12_lifeOrDeath_106 (lv_at hl 2 rfl) ?_
          refine lv_iload hx hb dX12_lifeOrDeath_108 (lv_at hl 1 rfl) ?_
          refine lv_aloadN hx hb dX12_lifeOrDeath_110 (lv_at hl 0 rfl) ?_
          refine lv_ifnullN (tgt := 119) hx hb dX12_lifeOrDeath_112 (by decide) ?_
          refine lv_iconst (v := iz (0)) hx hb dX12_lifeOrDeath_119 rfl ?_
          refine zc_z (wr := []) (va_runV (As := [.int (iz (1)), .int (iz (zbb false)), .int (iz (0))]) (rest := []) ⟨hx, hb, hml, hown, hts⟩ (c_X12_passes l G x th (.ref am) .null (.ref tb) (.ref lv) (.int (iz (0))) (.ref wt) (.int (iz (0))) (.ref bg) (.ref pm) (.int (iz (0))) 6 true false false  H.size) (cwV 3 hts gX12_lifeOrDeath_X12_passes rfl rfl rfl (by decide +kernel) ⟨Nat.le_of_ble_eq_true rfl, Nat.le_of_ble_eq_true rfl⟩) (zpV hKX hP hD [0] rfl rfl 0 13 rfl rfl) rfl rfl hl.1 rfl (lv_room (Nat.le_of_ble_eq_true rfl)) dX12_lifeOrDeath_120 ⟨(by first | exact Nat.le_of_ble_eq_true rfl | (show _ ≤ (0 : Nat); omega)), (by first | exact Nat.le_of_ble_eq_true rfl | (show _ ≤ (0 : Nat); omega))⟩) hP hD hS hA [0] [] rfl rfl rfl (by decide) (fun pz u_11 H locs hp hP hD hS => ?_)
          generalize u_11 = thp at hP hD hp
          have hP : va_P G.1 vwCl [(x, .inr (13, [.int (iz (thp)), .int (iz ((6 : Int))), .ref am, .null, .ref tb, .ref lv, .int (iz (0)), .ref wt, .int (iz (0)), .ref bg, .ref pm, .int (iz (0))]))] H := hP
          have hD : va_D A [(x, .inr (13, [.int (iz (thp)), .int (iz ((6 : Int))), .ref am, .null, .ref tb, .ref lv, .int (iz (0)), .ref wt, .int (iz (0)), .ref bg, .ref pm, .int (iz (0))]))] := hD
          have hp : pz = (true && false && false) ∧ thp = zcode true false false := hp
          rw [show pz = false from hp.1]
          have htp := hp.2
          refine zr_ifz_eq (tgt := 135) hx hb dX12_lifeOrDeath_123 (by decide) (fun h_13 => ?_) (fun h_13 => ?_)
          ·
            refine lv_lconst (v := lz (0)) hx hb dX12_lifeOrDeath_135 rfl ?_
            rw [hQ]
            exact zr_lret (z := 0) (u := (thp)) hx hb hr hlocks hP hD hS (by first | exact Nat.le_of_ble_eq_true rfl | omega) (by first | exact Nat.le_of_ble_eq_true rfl | omega) dX12_lifeOrDeath_136 (show 0 = 0 ∧ thp = 2 from ⟨rfl, htp⟩)
          · exact absurd h_13 (by decide)
        · exact absurd h_10 (by decide)

def rm_c_X12_lifeOrDeath_x : Room := { frames := 2, cells := 0, slots := 0, locals := 45 }
set_option maxHeartbeats 1000000 in
set_option maxRecDepth 100000 in
theorem c_X12_lifeOrDeath_x (l : Launch) (G : zG) (x : Nat) (am : Nat) (tb : Nat) (lv : Nat) (wt : Nat) (bg : Nat) (pm : Nat) (th : Int) (ag : Int) (mo : Int) (po : Int) (de : Bool) (h0 : -2147483648 ≤ ag ∧ ag < 2147483648) (h01 : -9223372036854775808 ≤ mo ∧ mo < 9223372036854775808) (h02 : -2147483648 ≤ po ∧ po < 2147483648) (h1 : ¬ (0 ≤ mo ∧ mo ≤ 1000000000 ∧ 0 ≤ po ∧ po ≤ 20000)) : zM l G yX12_lifeOrDeath wsX12_lifeOrDeath rm_c_X12_lifeOrDeath_x [.ref x, .int (iz (ag)), .long (lz (mo)), .int (iz (po)), .int (iz (zbb de))] [(x, .inr (13, [.int (iz (th)), .int (iz (6)), .ref am, .null, .ref tb, .ref lv, .int (iz (0)), .ref wt, .int (iz (0)), .ref bg, .ref pm, .int (iz (0))]))] (fun A => zQl G (fun (z : Int) (th2 : Int) => z = 0 ∧ th2 = 1) (fun (th2 : Int) => [(x, .inr (13, [.int (iz (th2)), .int (iz (6)), .ref am, .null, .ref tb, .ref lv, .int (iz (0)), .ref wt, .int (iz (0)), .ref bg, .ref pm, .int (iz (0))]))]) A) 0 0 := by
  refine zM_of (cc := cX12_lifeOrDeath) (maxL := 9) (ret := (some .long)) (by decide) rfl (Nat.le_of_ble_eq_true rfl) ?_
  intro p e s m below meth c ls A Q hQ hx hb hr hts hown hlocks hml hnm hKX hP hD hA hS hl
  have hK := hKX.1
  have iwX12 := iw_X12_lifeOrDeath_X12
  obtain ⟨H, hH⟩ : ∃ h, h = s.heap := ⟨_, rfl⟩
  obtain ⟨locs, hlo⟩ : ∃ h : List Loc, h = [] := ⟨_, rfl⟩
  have hS : va_S A s.heap H locs := by rw [hH, hlo]; exact hS
  have hP : va_P G.1 vwCl [(x, .inr (13, [.int (iz (th)), .int (iz (6)), .ref am, .null, .ref tb, .ref lv, .int (iz (0)), .ref wt, .int (iz (0)), .ref bg, .ref pm, .int (iz (0))]))] H := by rw [hH]; exact hP
  have hD : va_D A [(x, .inr (13, [.int (iz (th)), .int (iz (6)), .ref am, .null, .ref tb, .ref lv, .int (iz (0)), .ref wt, .int (iz (0)), .ref bg, .ref pm, .int (iz (0))]))] := hD
  have hl : lv_has ls 9 [(0, .ref x), (1, .int (iz (ag))), (2, .long (lz (mo))), (4, .int (iz (po))), (5, .int (iz (zbb de)))] := hl
  rw [← hH, ← hlo]
  refine lv_lload_n hx hb dX12_lifeOrDeath_0 rfl (lv_at hl 2 rfl) ?_
  refine lv_lconst (v := lz (0)) hx hb dX12_lifeOrDeath_1 rfl ?_
  refine zr_ldc2 (z := 1000000000) hx hb hown (hts (.constantLong RX12 121 (1000000000)) (by decide +kernel)) rfl dX12_lifeOrDeath_2 ?_
  refine zc_z (wr := [(x, .inr (13, [.int (iz (th)), .int (iz (6)), .ref am, .null, .ref tb, .ref lv, .int (iz (0)), .ref wt, .int (iz (0)), .ref bg, .ref pm, .int (iz (0))]))]) (va_runS (As := [.long (lz (mo)), .long (lz (0)), .long (lz (1000000000))]) (rest := []) ⟨hx, hb, hml, hown, hts⟩ (c_X12_in l G mo 0 1000000000 (by omega) (by omega) (by omega) H.size) (va_cwS 3 hts gX12_lifeOrDeath_X12_in rfl rfl rfl (by decide +kernel) ⟨Nat.le_of_ble_eq_true rfl, Nat.le_of_ble_eq_true rfl⟩) (zpS hKX hP hD [] rfl rfl) rfl rfl hl.1 rfl (lv_room (Nat.le_of_ble_eq_true rfl)) dX12_lifeOrDeath_5 ⟨(by first | exact Nat.le_of_ble_eq_true rfl | (show _ ≤ (0 : Nat); omega)), (by first | exact Nat.le_of_ble_eq_true rfl | (show _ ≤ (0 : Nat); omega))⟩) hP hD hS hA [] [0] rfl rfl rfl (by decide) (fun y1 u_1 H locs hy1 hP hD hS => ?_)
  have hP : va_P G.1 vwCl [(x, .inr (13, [.int (iz (th)), .int (iz (6)), .ref am, .null, .ref tb, .ref lv, .int (iz (0)), .ref wt, .int (iz (0)), .ref bg, .ref pm, .int (iz (0))]))] H := hP
  have hD : va_D A [(x, .inr (13, [.int (iz (th)), .int (iz (6)), .ref am, .null, .ref tb, .ref lv, .int (iz (0)), .ref wt, .int (iz (0)), .ref bg, .ref pm, .int (iz (0))]))] := hD
  have hy1 : y1 = decide ((0 : Int) ≤ mo ∧ mo ≤ (1000000000 : Int)) := hy1
  refine zr_ifz_eq (tgt := 23) hx hb dX12_lifeOrDeath_8 (by decide) (fun h_3 => ?_) (fun h_3 => ?_)
  ·
    have hzy1 := of_decide_eq_false (hy1.symm.trans h_3)
    refine lv_iconst (v := iz (0)) hx hb dX12_lifeOrDeath_23 rfl ?_
    refine lv_istore (lv' := [(6, .int (iz (0))), (0, .ref x), (1, .int (iz (ag))), (2, .long (lz (mo))), (4, .int (iz (po))), (5, .int (iz (zbb de)))]) hx hb dX12_lifeOrDeath_24 hl (by decide) rfl (fun ls hl => ?_)
    refine lv_iload_n hx hb dX12_lifeOrDeath_26 rfl (lv_at hl 2 rfl) ?_
    refine zr_i2l hx hb (x := ag) (⟨by omega, by omega⟩) dX12_lifeOrDeath_27 ?_
    refine lv_lconst (v := lz (0)) hx hb dX12_lifeOrDeath_28 rfl ?_
    refine lv_aload_n hx hb dX12_lifeOrDeath_29 rfl (lv_at hl 1 rfl) ?_
    refine va_get (D := G.1) (ci := 13) (v := .int (iz (0))) (C := RX12) (T := TX12) (N := 12) hx hb hts iwX12 hown hK hP 0 rfl rfl 6 (by decide) (hts (.fieldLink RX12 254 "AnnuityHouseModel" "ages" "I") (by decide +kernel)) (fun _ h9 => h9) rfl dX12_lifeOrDeath_30 ?_
    refine lv_iconst (v := iz (1)) hx hb dX12_lifeOrDeath_33 rfl ?_
    refine zr_isub hx hb dX12_lifeOrDeath_34 ?_
    refine zr_i2l hx hb (x := 0 - 1) (⟨by decide, by decide⟩) dX12_lifeOrDeath_35 ?_
    refine zc_z (wr := [(x, .inr (13, [.int (iz (th)), .int (iz (6)), .ref am, .null, .ref tb, .ref lv, .int (iz (0)), .ref wt, .int (iz (0)), .ref bg, .ref pm, .int (iz (0))]))]) (va_runS (As := [.long (lz (ag)), .long (lz (0)), .long (lz (0 - 1))]) (rest := []) ⟨hx, hb, hml, hown, hts⟩ (c_X12_in l G ag 0 (0 - 1) (by omega) (by omega) (by omega) H.size) (va_cwS 3 hts gX12_lifeOrDeath_X12_in rfl rfl rfl (by decide +kernel) ⟨Nat.le_of_ble_eq_true rfl, Nat.le_of_ble_eq_true rfl⟩) (zpS hKX hP hD [] rfl rfl) rfl rfl hl.1 rfl (lv_room (Nat.le_of_ble_eq_true rfl)) dX12_lifeOrDeath_36 ⟨(by first | exact Nat.le_of_ble_eq_true rfl | (show _ ≤ (0 : Nat); omega)), (by first | exact Nat.le_of_ble_eq_true rfl | (show _ ≤ (0 : Nat); omega))⟩) hP hD hS hA [] [0] rfl rfl rfl (by decide) (fun y3 u_4 H locs hy3 hP hD hS => ?_)
    have hP : va_P G.1 vwCl [(x, .inr (13, [.int (iz (th)), .int (iz (6)), .ref am, .null, .ref tb, .ref lv, .int (iz (0)), .ref wt, .int (iz (0)), .ref bg, .ref pm, .int (iz (0))]))] H := hP
    have hD : va_D A [(x, .inr (13, [.int (iz (th)), .int (iz (6)), .ref am, .null, .ref tb, .ref lv, .int (iz (0)), .ref wt, .int (iz (0)), .ref bg, .ref pm, .int (iz (0))]))] := hD
    have hy3 : y3 = decide ((0 : Int) ≤ ag ∧ ag ≤ (0 - 1)) := hy3
    rw [show y3 = false from hy3.trans (decide_eq_false (by omega))]
    refine lv_istore (lv' := [(7, .int (iz (zbb false))), (6, .int (iz (0))), (0, .ref x), (1, .int (iz (ag))), (2, .long (lz (mo))), (4, .int (iz (po))), (5, .int (iz (zbb de)))]) hx hb dX12_lifeOrDeath_39 hl (by decide) rfl (fun ls hl => ?_)
    refine lv_null hx hb dX12_lifeOrDeath_41 ?_
    refine lv_astoreN (lv' := [(8, .null), (7, .int (iz (zbb false))), (6, .int (iz (0))), (0, .ref x), (1, .int (iz (ag))), (2, .long (lz (mo))), (4, .int (iz (po))), (5, .int (iz (zbb de)))]) hx hb dX12_lifeOrDeath_42 hl (by decide) rfl (fun ls hl => ?_)
    refine lv_iload hx hb dX12_lifeOrDeath_44 (lv_at hl 2 rfl) ?_
    refine zr_if_eq (x := 0) (tgt := 105) hx hb (⟨by omega, by omega⟩) dX12_lifeOrDeath_46 (by decide) (fun h_6 => ?_) (fun h_6 => ?_)
    ·
      refine lv_aload_n hx hb dX12_lifeOrDeath_105 rfl (lv_at hl 3 rfl) ?_
      refine lv_iload hx hb dX12_lifeOrDeath_106 (lv_at hl 2 rfl) ?_
      refine lv_iload hx hb dX12_lifeOrDeath_108 (lv_at hl 1 rfl) ?_
      refine lv_aloadN hx hb dX12_lifeOrDeath_110 (lv_at hl 0 rfl) ?_
      refine lv_ifnullN (tgt := 119) hx hb dX12_lifeOrDeath_112 (by decide) ?_
      refine lv_iconst (v := iz (0)) hx hb dX12_lifeOrDeath_119 rfl ?_
      refine zc_z (wr := []) (va_runV (As := [.int (iz (0)), .int (iz (zbb false)), .int (iz (0))]) (rest := []) ⟨hx, hb, hml, hown, hts⟩ (c_X12_passes l G x th (.ref am) .null (.ref tb) (.ref lv) (.int (iz (0))) (.ref wt) (.int (iz (0))) (.ref bg) (.ref pm) (.int (iz (0))) 6 false false false  H.size) (cwV 3 hts gX12_lifeOrDeath_X12_passes rfl rfl rfl (by decide +kernel) ⟨Nat.le_of_ble_eq_true rfl, Nat.le_of_ble_eq_true rfl⟩) (zpV hKX hP hD [0] rfl rfl 0 13 rfl rfl) rfl rfl hl.1 rfl (lv_room (Nat.le_of_ble_eq_true rfl)) dX12_lifeOrDeath_120 ⟨(by first | exact Nat.le_of_ble_eq_true rfl | (show _ ≤ (0 : Nat); omega)), (by first | exact Nat.le_of_ble_eq_true rfl | (show _ ≤ (0 : Nat); omega))⟩) hP hD hS hA [0] [] rfl rfl rfl (by decide) (fun pz u_7 H locs hp hP hD hS => ?_)
      generalize u_7 = thp at hP hD hp
      have hP : va_P G.1 vwCl [(x, .inr (13, [.int (iz (thp)), .int (iz ((6 : Int))), .ref am, .null, .ref tb, .ref lv, .int (iz (0)), .ref wt, .int (iz (0)), .ref bg, .ref pm, .int (iz (0))]))] H := hP
      have hD : va_D A [(x, .inr (13, [.int (iz (thp)), .int (iz ((6 : Int))), .ref am, .null, .ref tb, .ref lv, .int (iz (0)), .ref wt, .int (iz (0)), .ref bg, .ref pm, .int (iz (0))]))] := hD
      have hp : pz = (false && false && false) ∧ thp = zcode false false false := hp
      rw [show pz = false from hp.1]
      have htp := hp.2
      refine zr_ifz_eq (tgt := 135) hx hb dX12_lifeOrDeath_123 (by decide) (fun h_9 => ?_) (fun h_9 => ?_)
      ·
        refine lv_lconst (v := lz (0)) hx hb dX12_lifeOrDeath_135 rfl ?_
        rw [hQ]
        exact zr_lret (z := 0) (u := (thp)) hx hb hr hlocks hP hD hS (by first | exact Nat.le_of_ble_eq_true rfl | omega) (by first | exact Nat.le_of_ble_eq_true rfl | omega) dX12_lifeOrDeath_136 (show 0 = 0 ∧ thp = 1 from ⟨rfl, htp⟩)
      · exact absurd h_9 (by decide)
    · exact absurd h_6 (by omega)
  ·
    have hzy1 := of_decide_eq_true (hy1.symm.trans h_3)
    refine lv_iload hx hb dX12_lifeOrDeath_11 (lv_at hl 3 rfl) ?_
    refine zc_z (wr := [(x, .inr (13, [.int (iz (th)), .int (iz (6)), .ref am, .null, .ref tb, .ref lv, .int (iz (0)), .ref wt, .int (iz (0)), .ref bg, .ref pm, .int (iz (0))]))]) (va_runS (As := [.int (iz (po))]) (rest := []) ⟨hx, hb, hml, hown, hts⟩ (c_X12_isRate l G po (by omega) H.size) (va_cwS 1 hts gX12_lifeOrDeath_X12_isRate rfl rfl rfl (by decide +kernel) ⟨Nat.le_of_ble_eq_true rfl, Nat.le_of_ble_eq_true rfl⟩) (zpS hKX hP hD [] rfl rfl) rfl rfl hl.1 rfl (lv_room (Nat.le_of_ble_eq_true rfl)) dX12_lifeOrDeath_13 ⟨(by first | exact Nat.le_of_ble_eq_true rfl | (show _ ≤ (0 : Nat); omega)), (by first | exact Nat.le_of_ble_eq_true rfl | (show _ ≤ (0 : Nat); omega))⟩) hP hD hS hA [] [0] rfl rfl rfl (by decide) (fun y2 u_10 H locs hy2 hP hD hS => ?_)
    have hP : va_P G.1 vwCl [(x, .inr (13, [.int (iz (th)), .int (iz (6)), .ref am, .null, .ref tb, .ref lv, .int (iz (0)), .ref wt, .int (iz (0)), .ref bg, .ref pm, .int (iz (0))]))] H := hP
    have hD : va_D A [(x, .inr (13, [.int (iz (th)), .int (iz (6)), .ref am, .null, .ref tb, .ref lv, .int (iz (0)), .ref wt, .int (iz (0)), .ref bg, .ref pm, .int (iz (0))]))] := hD
    have hy2 : y2 = decide (0 ≤ po ∧ po ≤ 20000) := hy2
    refine zr_ifz_eq (tgt := 23) hx hb dX12_lifeOrDeath_16 (by decide) (fun h_12 => ?_) (fun h_12 => ?_)
    ·
      have hzy2 := of_decide_eq_false (hy2.symm.trans h_12)
      refine lv_iconst (v := iz (0)) hx hb dX12_lifeOrDeath_23 rfl ?_
      refine lv_istore (lv' := [(6, .int (iz (0))), (0, .ref x), (1, .int (iz (ag))), (2, .long (lz (mo))), (4, .int (iz (po))), (5, .int (iz (zbb de)))]) hx hb dX12_lifeOrDeath_24 hl (by decide) rfl (fun ls hl => ?_)
      refine lv_iload_n hx hb dX12_lifeOrDeath_26 rfl (lv_at hl 2 rfl) ?_
      refine zr_i2l hx hb (x := ag) (⟨by omega, by omega⟩) dX12_lifeOrDeath_27 ?_
      refine lv_lconst (v := lz (0)) hx hb dX12_lifeOrDeath_28 rfl ?_
      refine lv_aload_n hx hb dX12_lifeOrDeath_29 rfl (lv_at hl 1 rfl) ?_
      refine va_get (D := G.1) (ci := 13) (v := .int (iz (0))) (C := RX12) (T := TX12) (N := 12) hx hb hts iwX12 hown hK hP 0 rfl rfl 6 (by decide) (hts (.fieldLink RX12 254 "AnnuityHouseModel" "ages" "I") (by decide +kernel)) (fun _ h9 => h9) rfl dX12_lifeOrDeath_30 ?_
      refine lv_iconst (v := iz (1)) hx hb dX12_lifeOrDeath_33 rfl ?_
      refine zr_isub hx hb dX12_lifeOrDeath_34 ?_
      refine zr_i2l hx hb (x := 0 - 1) (⟨by decide, by decide⟩) dX12_lifeOrDeath_35 ?_
      refine zc_z (wr := [(x, .inr (13, [.int (iz (th)), .int (iz (6)), .ref am, .null, .ref tb, .ref lv, .int (iz (0)), .ref wt, .int (iz (0)), .ref bg, .ref pm, .int (iz (0))]))]) (va_runS (As := [.long (lz (ag)), .long (lz (0)), .long (lz (0 - 1))]) (rest := []) ⟨hx, hb, hml, hown, hts⟩ (c_X12_in l G ag 0 (0 - 1) (by omega) (by omega) (by omega) H.size) (va_cwS 3 hts gX12_lifeOrDeath_X12_in rfl rfl rfl (by decide +kernel) ⟨Nat.le_of_ble_eq_true rfl, Nat.le_of_ble_eq_true rfl⟩) (zpS hKX hP hD [] rfl rfl) rfl rfl hl.1 rfl (lv_room (Nat.le_of_ble_eq_true rfl)) dX12_lifeOrDeath_36 ⟨(by first | exact Nat.le_of_ble_eq_true rfl | (show _ ≤ (0 : Nat); omega)), (by first | exact Nat.le_of_ble_eq_true rfl | (show _ ≤ (0 : Nat); omega))⟩) hP hD hS hA [] [0] rfl rfl rfl (by decide) (fun y3 u_13 H locs hy3 hP hD hS => ?_)
      have hP : va_P G.1 vwCl [(x, .inr (13, [.int (iz (th)), .int (iz (6)), .ref am, .null, .ref tb, .ref lv, .int (iz (0)), .ref wt, .int (iz (0)), .ref bg, .ref pm, .int (iz (0))]))] H := hP
      have hD : va_D A [(x, .inr (13, [.int (iz (th)), .int (iz (6)), .ref am, .null, .ref tb, .ref lv, .int (iz (0)), .ref wt, .int (iz (0)), .ref bg, .ref pm, .int (iz (0))]))] := hD
      have hy3 : y3 = decide ((0 : Int) ≤ ag ∧ ag ≤ (0 - 1)) := hy3
      rw [show y3 = false from hy3.trans (decide_eq_false (by omega))]
      refine lv_istore (lv' := [(7, .int (iz (zbb false))), (6, .int (iz (0))), (0, .ref x), (1, .int (iz (ag))), (2, .long (lz (mo))), (4, .int (iz (po))), (5, .int (iz (zbb de)))]) hx hb dX12_lifeOrDeath_39 hl (by decide) rfl (fun ls hl => ?_)
      refine lv_null hx hb dX12_lifeOrDeath_41 ?_
      refine lv_astoreN (lv' := [(8, .null), (7, .int (iz (zbb false))), (6, .int (iz (0))), (0, .ref x), (1, .int (iz (ag))), (2, .long (lz (mo))), (4, .int (iz (po))), (5, .int (iz (zbb de)))]) hx hb dX12_lifeOrDeath_42 hl (by decide) rfl (fun ls hl => ?_)
      refine lv_iload hx hb dX12_lifeOrDeath_44 (lv_at hl 2 rfl) ?_
      refine zr_if_eq (x := 0) (tgt := 105) hx hb (⟨by omega, by omega⟩) dX12_lifeOrDeath_46 (by decide) (fun h_15 => ?_) (fun h_15 => ?_)
      ·
        refine lv_aload_n hx hb dX12_lifeOrDeath_105 rfl (lv_at hl 3 rfl) ?_
        refine lv_iload hx hb dX12_lifeOrDeath_106 (lv_at hl 2 rfl) ?_
        refine lv_iload hx hb dX12_lifeOrDeath_108 (lv_at hl 1 rfl) ?_
        refine lv_aloadN hx hb dX12_lifeOrDeath_110 (lv_at hl 0 rfl) ?_
        refine lv_ifnullN (tgt := 119) hx hb dX12_lifeOrDeath_112 (by decide) ?_
        refine lv_iconst (v := iz (0)) hx hb dX12_lifeOrDeath_119 rfl ?_
        refine zc_z (wr := []) (va_runV (As := [.int (iz (0)), .int (iz (zbb false)), .int (iz (0))]) (rest := []) ⟨hx, hb, hml, hown, hts⟩ (c_X12_passes l G x th (.ref am) .null (.ref tb) (.ref lv) (.int (iz (0))) (.ref wt) (.int (iz (0))) (.ref bg) (.ref pm) (.int (iz (0))) 6 false false false  H.size) (cwV 3 hts gX12_lifeOrDeath_X12_passes rfl rfl rfl (by decide +kernel) ⟨Nat.le_of_ble_eq_true rfl, Nat.le_of_ble_eq_true rfl⟩) (zpV hKX hP hD [0] rfl rfl 0 13 rfl rfl) rfl rfl hl.1 rfl (lv_room (Nat.le_of_ble_eq_true rfl)) dX12_lifeOrDeath_120 ⟨(by first | exact Nat.le_of_ble_eq_true rfl | (show _ ≤ (0 : Nat); omega)), (by first | exact Nat.le_of_ble_eq_true rfl | (show _ ≤ (0 : Nat); omega))⟩) hP hD hS hA [0] [] rfl rfl rfl (by decide) (fun pz u_16 H locs hp hP hD hS => ?_)
        generalize u_16 = thp at hP hD hp
        have hP : va_P G.1 vwCl [(x, .inr (13, [.int (iz (thp)), .int (iz ((6 : Int))), .ref am, .null, .ref tb, .ref lv, .int (iz (0)), .ref wt, .int (iz (0)), .ref bg, .ref pm, .int (iz (0))]))] H := hP
        have hD : va_D A [(x, .inr (13, [.int (iz (thp)), .int (iz ((6 : Int))), .ref am, .null, .ref tb, .ref lv, .int (iz (0)), .ref wt, .int (iz (0)), .ref bg, .ref pm, .int (iz (0))]))] := hD
        have hp : pz = (false && false && false) ∧ thp = zcode false false false := hp
        rw [show pz = false from hp.1]
        have htp := hp.2
        refine zr_ifz_eq (tgt := 135) hx hb dX12_lifeOrDeath_123 (by decide) (fun h_18 => ?_) (fun h_18 => ?_)
        ·
          refine lv_lconst (v := lz (0)) hx hb dX12_lifeOrDeath_135 rfl ?_
          rw [hQ]
          exact zr_lret (z := 0) (u := (thp)) hx hb hr hlocks hP hD hS (by first | exact Nat.le_of_ble_eq_true rfl | omega) (by first | exact Nat.le_of_ble_eq_true rfl | omega) dX12_lifeOrDeath_136 (show 0 = 0 ∧ thp = 1 from ⟨rfl, htp⟩)
        · exact absurd h_18 (by decide)
      · exact absurd h_15 (by omega)
    ·
      have hzy2 := of_decide_eq_true (hy2.symm.trans h_12)
      exact absurd h1 (by omega)

def rm_c_X12_lifeWorth_o : Room := { frames := 3, cells := 0, slots := 0, locals := 73 }
set_option maxHeartbeats 1000000 in
set_option maxRecDepth 100000 in
theorem c_X12_lifeWorth_o (l : Launch) (G : zG) (x : Nat) (am : Nat) (tb : Nat) (lv : Nat) (wt : Nat) (bg : Nat) (pm : Nat) (th : Int) (ag : Int) (mo : Int) (po : Int) (h0 : -2147483648 ≤ ag ∧ ag < 2147483648) (h01 : -9223372036854775808 ≤ mo ∧ mo < 9223372036854775808) (h02 : -2147483648 ≤ po ∧ po < 2147483648) (h1 : 0 ≤ mo ∧ mo ≤ 1000000000 ∧ 0 ≤ po ∧ po ≤ 20000) : zM l G yX12_lifeWorth wsX12_lifeWorth rm_c_X12_lifeWorth_o [.ref x, .int (iz (ag)), .long (lz (mo)), .int (iz (po))] [(x, .inr (13, [.int (iz (th)), .int (iz (6)), .ref am, .null, .ref tb, .ref lv, .int (iz (0)), .ref wt, .int (iz (0)), .ref bg, .ref pm, .int (iz (0))]))] (fun A => zQl G (fun (z : Int) (th2 : Int) => z = 0 ∧ th2 = 2) (fun (th2 : Int) => [(x, .inr (13, [.int (iz (th2)), .int (iz (6)), .ref am, .null, .ref tb, .ref lv, .int (iz (0)), .ref wt, .int (iz (0)), .ref bg, .ref pm, .int (iz (0))]))]) A) 0 0 := by
  refine zM_of (cc := cX12_lifeWorth) (maxL := 5) (ret := (some .long)) (by decide) rfl (Nat.le_of_ble_eq_true rfl) ?_
  intro p e s m below meth c ls A Q hQ hx hb hr hts hown hlocks hml hnm hKX hP hD hA hS hl
  have hK := hKX.1
  obtain ⟨H, hH⟩ : ∃ h, h = s.heap := ⟨_, rfl⟩
  obtain ⟨locs, hlo⟩ : ∃ h : List Loc, h = [] := ⟨_, rfl⟩
  have hS : va_S A s.heap H locs := by rw [hH, hlo]; exact hS
  have hP : va_P G.1 vwCl [(x, .inr (13, [.int (iz (th)), .int (iz (6)), .ref am, .null, .ref tb, .ref lv, .int (iz (0)), .ref wt, .int (iz (0)), .ref bg, .ref pm, .int (iz (0))]))] H := by rw [hH]; exact hP
  have hD : va_D A [(x, .inr (13, [.int (iz (th)), .int (iz (6)), .ref am, .null, .ref tb, .ref lv, .int (iz (0)), .ref wt, .int (iz (0)), .ref bg, .ref pm, .int (iz (0))]))] := hD
  have hl : lv_has ls 5 [(0, .ref x), (1, .int (iz (ag))), (2, .long (lz (mo))), (4, .int (iz (po)))] := hl
  rw [← hH, ← hlo]
  refine lv_aload_n hx hb dX12_lifeWorth_0 rfl (lv_at hl 0 rfl) ?_
  refine lv_iload_n hx hb dX12_lifeWorth_1 rfl (lv_at hl 1 rfl) ?_
  refine lv_lload_n hx hb dX12_lifeWorth_2 rfl (lv_at hl 2 rfl) ?_
  refine lv_iload hx hb dX12_lifeWorth_3 (lv_at hl 3 rfl) ?_
  refine lv_iconst (v := iz (0)) hx hb dX12_lifeWorth_5 rfl ?_
  refine zc_l (wr := []) (va_runV (As := [.int (iz (ag)), .long (lz (mo)), .int (iz (po)), .int (iz (0))]) (rest := []) ⟨hx, hb, hml, hown, hts⟩ (c_X12_lifeOrDeath_o l G x am tb lv wt bg pm th ag mo po false (by omega) (by omega) (by omega) (h1) H.size) (cwV 4 hts gX12_lifeWorth_X12_lifeOrDeath rfl rfl rfl (by decide +kernel) ⟨Nat.le_of_ble_eq_true rfl, Nat.le_of_ble_eq_true rfl⟩) (zpV hKX hP hD [0] rfl rfl 0 13 rfl rfl) rfl rfl hl.1 rfl (lv_room (Nat.le_of_ble_eq_true rfl)) dX12_lifeWorth_6 ⟨(by first | exact Nat.le_of_ble_eq_true rfl | (show _ ≤ (0 : Nat); omega)), (by first | exact Nat.le_of_ble_eq_true rfl | (show _ ≤ (0 : Nat); omega))⟩) hP hD hS hA [0] [] rfl rfl rfl (by decide) (fun zz u_1 H locs hp hP hD hS => ?_)
  generalize u_1 = thp at hP hD hp
  have hP : va_P G.1 vwCl [(x, .inr (13, [.int (iz (thp)), .int (iz (6)), .ref am, .null, .ref tb, .ref lv, .int (iz (0)), .ref wt, .int (iz (0)), .ref bg, .ref pm, .int (iz (0))]))] H := hP
  have hD : va_D A [(x, .inr (13, [.int (iz (thp)), .int (iz (6)), .ref am, .null, .ref tb, .ref lv, .int (iz (0)), .ref wt, .int (iz (0)), .ref bg, .ref pm, .int (iz (0))]))] := hD
  have hp : zz = 0 ∧ thp = 2 := hp
  rw [hQ]
  exact zr_lret (z := zz) (u := (thp)) hx hb hr hlocks hP hD hS (by first | exact Nat.le_of_ble_eq_true rfl | omega) (by first | exact Nat.le_of_ble_eq_true rfl | omega) dX12_lifeWorth_9 (show zz = 0 ∧ thp = 2 from ⟨hp.1, hp.2⟩)

def rm_c_X12_lifeWorth_x : Room := { frames := 3, cells := 0, slots := 0, locals := 73 }
set_option maxHeartbeats 1000000 in
set_option maxRecDepth 100000 in
theorem c_X12_lifeWorth_x (l : Launch) (G : zG) (x : Nat) (am : Nat) (tb : Nat) (lv : Nat) (wt : Nat) (bg : Nat) (pm : Nat) (th : Int) (ag : Int) (mo : Int) (po : Int) (h0 : -2147483648 ≤ ag ∧ ag < 2147483648) (h01 : -9223372036854775808 ≤ mo ∧ mo < 9223372036854775808) (h02 : -2147483648 ≤ po ∧ po < 2147483648) (h1 : ¬ (0 ≤ mo ∧ mo ≤ 1000000000 ∧ 0 ≤ po ∧ po ≤ 20000)) : zM l G yX12_lifeWorth wsX12_lifeWorth rm_c_X12_lifeWorth_x [.ref x, .int (iz (ag)), .long (lz (mo)), .int (iz (po))] [(x, .inr (13, [.int (iz (th)), .int (iz (6)), .ref am, .null, .ref tb, .ref lv, .int (iz (0)), .ref wt, .int (iz (0)), .ref bg, .ref pm, .int (iz (0))]))] (fun A => zQl G (fun (z : Int) (th2 : Int) => z = 0 ∧ th2 = 1) (fun (th2 : Int) => [(x, .inr (13, [.int (iz (th2)), .int (iz (6)), .ref am, .null, .ref tb, .ref lv, .int (iz (0)), .ref wt, .int (iz (0)), .ref bg, .ref pm, .int (iz (0))]))]) A) 0 0 := by
  refine zM_of (cc := cX12_lifeWorth) (maxL := 5) (ret := (some .long)) (by decide) rfl (Nat.le_of_ble_eq_true rfl) ?_
  intro p e s m below meth c ls A Q hQ hx hb hr hts hown hlocks hml hnm hKX hP hD hA hS hl
  have hK := hKX.1
  obtain ⟨H, hH⟩ : ∃ h, h = s.heap := ⟨_, rfl⟩
  obtain ⟨locs, hlo⟩ : ∃ h : List Loc, h = [] := ⟨_, rfl⟩
  have hS : va_S A s.heap H locs := by rw [hH, hlo]; exact hS
  have hP : va_P G.1 vwCl [(x, .inr (13, [.int (iz (th)), .int (iz (6)), .ref am, .null, .ref tb, .ref lv, .int (iz (0)), .ref wt, .int (iz (0)), .ref bg, .ref pm, .int (iz (0))]))] H := by rw [hH]; exact hP
  have hD : va_D A [(x, .inr (13, [.int (iz (th)), .int (iz (6)), .ref am, .null, .ref tb, .ref lv, .int (iz (0)), .ref wt, .int (iz (0)), .ref bg, .ref pm, .int (iz (0))]))] := hD
  have hl : lv_has ls 5 [(0, .ref x), (1, .int (iz (ag))), (2, .long (lz (mo))), (4, .int (iz (po)))] := hl
  rw [← hH, ← hlo]
  refine lv_aload_n hx hb dX12_lifeWorth_0 rfl (lv_at hl 0 rfl) ?_
  refine lv_iload_n hx hb dX12_lifeWorth_1 rfl (lv_at hl 1 rfl) ?_
  refine lv_lload_n hx hb dX12_lifeWorth_2 rfl (lv_at hl 2 rfl) ?_
  refine lv_iload hx hb dX12_lifeWorth_3 (lv_at hl 3 rfl) ?_
  refine lv_iconst (v := iz (0)) hx hb dX12_lifeWorth_5 rfl ?_
  refine zc_l (wr := []) (va_runV (As := [.int (iz (ag)), .long (lz (mo)), .int (iz (po)), .int (iz (0))]) (rest := []) ⟨hx, hb, hml, hown, hts⟩ (c_X12_lifeOrDeath_x l G x am tb lv wt bg pm th ag mo po false (by omega) (by omega) (by omega) (h1) H.size) (cwV 4 hts gX12_lifeWorth_X12_lifeOrDeath rfl rfl rfl (by decide +kernel) ⟨Nat.le_of_ble_eq_true rfl, Nat.le_of_ble_eq_true rfl⟩) (zpV hKX hP hD [0] rfl rfl 0 13 rfl rfl) rfl rfl hl.1 rfl (lv_room (Nat.le_of_ble_eq_true rfl)) dX12_lifeWorth_6 ⟨(by first | exact Nat.le_of_ble_eq_true rfl | (show _ ≤ (0 : Nat); omega)), (by first | exact Nat.le_of_ble_eq_true rfl | (show _ ≤ (0 : Nat); omega))⟩) hP hD hS hA [0] [] rfl rfl rfl (by decide) (fun zz u_1 H locs hp hP hD hS => ?_)
  generalize u_1 = thp at hP hD hp
  have hP : va_P G.1 vwCl [(x, .inr (13, [.int (iz (thp)), .int (iz (6)), .ref am, .null, .ref tb, .ref lv, .int (iz (0)), .ref wt, .int (iz (0)), .ref bg, .ref pm, .int (iz (0))]))] H := hP
  have hD : va_D A [(x, .inr (13, [.int (iz (thp)), .int (iz (6)), .ref am, .null, .ref tb, .ref lv, .int (iz (0)), .ref wt, .int (iz (0)), .ref bg, .ref pm, .int (iz (0))]))] := hD
  have hp : zz = 0 ∧ thp = 1 := hp
  rw [hQ]
  exact zr_lret (z := zz) (u := (thp)) hx hb hr hlocks hP hD hS (by first | exact Nat.le_of_ble_eq_true rfl | omega) (by first | exact Nat.le_of_ble_eq_true rfl | omega) dX12_lifeWorth_9 (show zz = 0 ∧ thp = 1 from ⟨hp.1, hp.2⟩)

def rm_c_X12_deathWorth_o : Room := { frames := 3, cells := 0, slots := 0, locals := 73 }
set_option maxHeartbeats 1000000 in
set_option maxRecDepth 100000 in
theorem c_X12_deathWorth_o (l : Launch) (G : zG) (x : Nat) (am : Nat) (tb : Nat) (lv : Nat) (wt : Nat) (bg : Nat) (pm : Nat) (th : Int) (ag : Int) (mo : Int) (po : Int) (h0 : -2147483648 ≤ ag ∧ ag < 2147483648) (h01 : -9223372036854775808 ≤ mo ∧ mo < 9223372036854775808) (h02 : -2147483648 ≤ po ∧ po < 2147483648) (h1 : 0 ≤ mo ∧ mo ≤ 1000000000 ∧ 0 ≤ po ∧ po ≤ 20000) : zM l G yX12_deathWorth wsX12_deathWorth rm_c_X12_deathWorth_o [.ref x, .int (iz (ag)), .long (lz (mo)), .int (iz (po))] [(x, .inr (13, [.int (iz (th)), .int (iz (6)), .ref am, .null, .ref tb, .ref lv, .int (iz (0)), .ref wt, .int (iz (0)), .ref bg, .ref pm, .int (iz (0))]))] (fun A => zQl G (fun (z : Int) (th2 : Int) => z = 0 ∧ th2 = 2) (fun (th2 : Int) => [(x, .inr (13, [.int (iz (th2)), .int (iz (6)), .ref am, .null, .ref tb, .ref lv, .int (iz (0)), .ref wt, .int (iz (0)), .ref bg, .ref pm, .int (iz (0))]))]) A) 0 0 := by
  refine zM_of (cc := cX12_deathWorth) (maxL := 5) (ret := (some .long)) (by decide) rfl (Nat.le_of_ble_eq_true rfl) ?_
  intro p e s m below meth c ls A Q hQ hx hb hr hts hown hlocks hml hnm hKX hP hD hA hS hl
  have hK := hKX.1
  obtain ⟨H, hH⟩ : ∃ h, h = s.heap := ⟨_, rfl⟩
  obtain ⟨locs, hlo⟩ : ∃ h : List Loc, h = [] := ⟨_, rfl⟩
  have hS : va_S A s.heap H locs := by rw [hH, hlo]; exact hS
  have hP : va_P G.1 vwCl [(x, .inr (13, [.int (iz (th)), .int (iz (6)), .ref am, .null, .ref tb, .ref lv, .int (iz (0)), .ref wt, .int (iz (0)), .ref bg, .ref pm, .int (iz (0))]))] H := by rw [hH]; exact hP
  have hD : va_D A [(x, .inr (13, [.int (iz (th)), .int (iz (6)), .ref am, .null, .ref tb, .ref lv, .int (iz (0)), .ref wt, .int (iz (0)), .ref bg, .ref pm, .int (iz (0))]))] := hD
  have hl : lv_has ls 5 [(0, .ref x), (1, .int (iz (ag))), (2, .long (lz (mo))), (4, .int (iz (po)))] := hl
  rw [← hH, ← hlo]
  refine lv_aload_n hx hb dX12_deathWorth_0 rfl (lv_at hl 0 rfl) ?_
  refine lv_iload_n hx hb dX12_deathWorth_1 rfl (lv_at hl 1 rfl) ?_
  refine lv_lload_n hx hb dX12_deathWorth_2 rfl (lv_at hl 2 rfl) ?_
  refine lv_iload hx hb dX12_deathWorth_3 (lv_at hl 3 rfl) ?_
  refine lv_iconst (v := iz (1)) hx hb dX12_deathWorth_5 rfl ?_
  refine zc_l (wr := []) (va_runV (As := [.int (iz (ag)), .long (lz (mo)), .int (iz (po)), .int (iz (1))]) (rest := []) ⟨hx, hb, hml, hown, hts⟩ (c_X12_lifeOrDeath_o l G x am tb lv wt bg pm th ag mo po true (by omega) (by omega) (by omega) (h1) H.size) (cwV 4 hts gX12_deathWorth_X12_lifeOrDeath rfl rfl rfl (by decide +kernel) ⟨Nat.le_of_ble_eq_true rfl, Nat.le_of_ble_eq_true rfl⟩) (zpV hKX hP hD [0] rfl rfl 0 13 rfl rfl) rfl rfl hl.1 rfl (lv_room (Nat.le_of_ble_eq_true rfl)) dX12_deathWorth_6 ⟨(by first | exact Nat.le_of_ble_eq_true rfl | (show _ ≤ (0 : Nat); omega)), (by first | exact Nat.le_of_ble_eq_true rfl | (show _ ≤ (0 : Nat); omega))⟩) hP hD hS hA [0] [] rfl rfl rfl (by decide) (fun zz u_1 H locs hp hP hD hS => ?_)
  generalize u_1 = thp at hP hD hp
  have hP : va_P G.1 vwCl [(x, .inr (13, [.int (iz (thp)), .int (iz (6)), .ref am, .null, .ref tb, .ref lv, .int (iz (0)), .ref wt, .int (iz (0)), .ref bg, .ref pm, .int (iz (0))]))] H := hP
  have hD : va_D A [(x, .inr (13, [.int (iz (thp)), .int (iz (6)), .ref am, .null, .ref tb, .ref lv, .int (iz (0)), .ref wt, .int (iz (0)), .ref bg, .ref pm, .int (iz (0))]))] := hD
  have hp : zz = 0 ∧ thp = 2 := hp
  rw [hQ]
  exact zr_lret (z := zz) (u := (thp)) hx hb hr hlocks hP hD hS (by first | exact Nat.le_of_ble_eq_true rfl | omega) (by first | exact Nat.le_of_ble_eq_true rfl | omega) dX12_deathWorth_9 (show zz = 0 ∧ thp = 2 from ⟨hp.1, hp.2⟩)

def rm_c_X12_deathWorth_x : Room := { frames := 3, cells := 0, slots := 0, locals := 73 }
set_option maxHeartbeats 1000000 in
set_option maxRecDepth 100000 in
theorem c_X12_deathWorth_x (l : Launch) (G : zG) (x : Nat) (am : Nat) (tb : Nat) (lv : Nat) (wt : Nat) (bg : Nat) (pm : Nat) (th : Int) (ag : Int) (mo : Int) (po : Int) (h0 : -2147483648 ≤ ag ∧ ag < 2147483648) (h01 : -9223372036854775808 ≤ mo ∧ mo < 9223372036854775808) (h02 : -2147483648 ≤ po ∧ po < 2147483648) (h1 : ¬ (0 ≤ mo ∧ mo ≤ 1000000000 ∧ 0 ≤ po ∧ po ≤ 20000)) : zM l G yX12_deathWorth wsX12_deathWorth rm_c_X12_deathWorth_x [.ref x, .int (iz (ag)), .long (lz (mo)), .int (iz (po))] [(x, .inr (13, [.int (iz (th)), .int (iz (6)), .ref am, .null, .ref tb, .ref lv, .int (iz (0)), .ref wt, .int (iz (0)), .ref bg, .ref pm, .int (iz (0))]))] (fun A => zQl G (fun (z : Int) (th2 : Int) => z = 0 ∧ th2 = 1) (fun (th2 : Int) => [(x, .inr (13, [.int (iz (th2)), .int (iz (6)), .ref am, .null, .ref tb, .ref lv, .int (iz (0)), .ref wt, .int (iz (0)), .ref bg, .ref pm, .int (iz (0))]))]) A) 0 0 := by
  refine zM_of (cc := cX12_deathWorth) (maxL := 5) (ret := (some .long)) (by decide) rfl (Nat.le_of_ble_eq_true rfl) ?_
  intro p e s m below meth c ls A Q hQ hx hb hr hts hown hlocks hml hnm hKX hP hD hA hS hl
  have hK := hKX.1
  obtain ⟨H, hH⟩ : ∃ h, h = s.heap := ⟨_, rfl⟩
  obtain ⟨locs, hlo⟩ : ∃ h : List Loc, h = [] := ⟨_, rfl⟩
  have hS : va_S A s.heap H locs := by rw [hH, hlo]; exact hS
  have hP : va_P G.1 vwCl [(x, .inr (13, [.int (iz (th)), .int (iz (6)), .ref am, .null, .ref tb, .ref lv, .int (iz (0)), .ref wt, .int (iz (0)), .ref bg, .ref pm, .int (iz (0))]))] H := by rw [hH]; exact hP
  have hD : va_D A [(x, .inr (13, [.int (iz (th)), .int (iz (6)), .ref am, .null, .ref tb, .ref lv, .int (iz (0)), .ref wt, .int (iz (0)), .ref bg, .ref pm, .int (iz (0))]))] := hD
  have hl : lv_has ls 5 [(0, .ref x), (1, .int (iz (ag))), (2, .long (lz (mo))), (4, .int (iz (po)))] := hl
  rw [← hH, ← hlo]
  refine lv_aload_n hx hb dX12_deathWorth_0 rfl (lv_at hl 0 rfl) ?_
  refine lv_iload_n hx hb dX12_deathWorth_1 rfl (lv_at hl 1 rfl) ?_
  refine lv_lload_n hx hb dX12_deathWorth_2 rfl (lv_at hl 2 rfl) ?_
  refine lv_iload hx hb dX12_deathWorth_3 (lv_at hl 3 rfl) ?_
  refine lv_iconst (v := iz (1)) hx hb dX12_deathWorth_5 rfl ?_
  refine zc_l (wr := []) (va_runV (As := [.int (iz (ag)), .long (lz (mo)), .int (iz (po)), .int (iz (1))]) (rest := []) ⟨hx, hb, hml, hown, hts⟩ (c_X12_lifeOrDeath_x l G x am tb lv wt bg pm th ag mo po true (by omega) (by omega) (by omega) (h1) H.size) (cwV 4 hts gX12_deathWorth_X12_lifeOrDeath rfl rfl rfl (by decide +kernel) ⟨Nat.le_of_ble_eq_true rfl, Nat.le_of_ble_eq_true rfl⟩) (zpV hKX hP hD [0] rfl rfl 0 13 rfl rfl) rfl rfl hl.1 rfl (lv_room (Nat.le_of_ble_eq_true rfl)) dX12_deathWorth_6 ⟨(by first | exact Nat.le_of_ble_eq_true rfl | (show _ ≤ (0 : Nat); omega)), (by first | exact Nat.le_of_ble_eq_true rfl | (show _ ≤ (0 : Nat); omega))⟩) hP hD hS hA [0] [] rfl rfl rfl (by decide) (fun zz u_1 H locs hp hP hD hS => ?_)
  generalize u_1 = thp at hP hD hp
  have hP : va_P G.1 vwCl [(x, .inr (13, [.int (iz (thp)), .int (iz (6)), .ref am, .null, .ref tb, .ref lv, .int (iz (0)), .ref wt, .int (iz (0)), .ref bg, .ref pm, .int (iz (0))]))] H := hP
  have hD : va_D A [(x, .inr (13, [.int (iz (thp)), .int (iz (6)), .ref am, .null, .ref tb, .ref lv, .int (iz (0)), .ref wt, .int (iz (0)), .ref bg, .ref pm, .int (iz (0))]))] := hD
  have hp : zz = 0 ∧ thp = 1 := hp
  rw [hQ]
  exact zr_lret (z := zz) (u := (thp)) hx hb hr hlocks hP hD hS (by first | exact Nat.le_of_ble_eq_true rfl | omega) (by first | exact Nat.le_of_ble_eq_true rfl | omega) dX12_deathWorth_9 (show zz = 0 ∧ thp = 1 from ⟨hp.1, hp.2⟩)

def rm_c_X12_premium_o : Room := { frames := 2, cells := 0, slots := 0, locals := 45 }
theorem iw_X12_premium_X12 : ∀ w ∈ wsX120, w ∈ wsX12_premium := by decide +kernel
set_option maxHeartbeats 1000000 in
set_option maxRecDepth 100000 in
theorem c_X12_premium_o (l : Launch) (G : zG) (x : Nat) (am : Nat) (tb : Nat) (lv : Nat) (wt : Nat) (bg : Nat) (pm : Nat) (th : Int) (ag : Int) (mo : Int) (po : Int) (h0 : -2147483648 ≤ ag ∧ ag < 2147483648) (h01 : -9223372036854775808 ≤ mo ∧ mo < 9223372036854775808) (h02 : -2147483648 ≤ po ∧ po < 2147483648) (h1 : 0 ≤ mo ∧ mo ≤ 1000000000 ∧ 0 ≤ po ∧ po ≤ 20000) : zM l G yX12_premium wsX12_premium rm_c_X12_premium_o [.ref x, .int (iz (ag)), .long (lz (mo)), .int (iz (po))] [(x, .inr (13, [.int (iz (th)), .int (iz (6)), .ref am, .null, .ref tb, .ref lv, .int (iz (0)), .ref wt, .int (iz (0)), .ref bg, .ref pm, .int (iz (0))]))] (fun A => zQl G (fun (z : Int) (th2 : Int) => z = 0 ∧ th2 = 2) (fun (th2 : Int) => [(x, .inr (13, [.int (iz (th2)), .int (iz (6)), .ref am, .null, .ref tb, .ref lv, .int (iz (0)), .ref wt, .int (iz (0)), .ref bg, .ref pm, .int (iz (0))]))]) A) 0 0 := by
  refine zM_of (cc := cX12_premium) (maxL := 8) (ret := (some .long)) (by decide) rfl (Nat.le_of_ble_eq_true rfl) ?_
  intro p e s m below meth c ls A Q hQ hx hb hr hts hown hlocks hml hnm hKX hP hD hA hS hl
  have hK := hKX.1
  have iwX12 := iw_X12_premium_X12
  obtain ⟨H, hH⟩ : ∃ h, h = s.heap := ⟨_, rfl⟩
  obtain ⟨locs, hlo⟩ : ∃ h : List Loc, h = [] := ⟨_, rfl⟩
  have hS : va_S A s.heap H locs := by rw [hH, hlo]; exact hS
  have hP : va_P G.1 vwCl [(x, .inr (13, [.int (iz (th)), .int (iz (6)), .ref am, .null, .ref tb, .ref lv, .int (iz (0)), .ref wt, .int (iz (0)), .ref bg, .ref pm, .int (iz (0))]))] H := by rw [hH]; exact hP
  have hD : va_D A [(x, .inr (13, [.int (iz (th)), .int (iz (6)), .ref am, .null, .ref tb, .ref lv, .int (iz (0)), .ref wt, .int (iz (0)), .ref bg, .ref pm, .int (iz (0))]))] := hD
  have hl : lv_has ls 8 [(0, .ref x), (1, .int (iz (ag))), (2, .long (lz (mo))), (4, .int (iz (po)))] := hl
  rw [← hH, ← hlo]
  refine lv_lload_n hx hb dX12_premium_0 rfl (lv_at hl 2 rfl) ?_
  refine lv_lconst (v := lz (0)) hx hb dX12_premium_1 rfl ?_
  refine zr_ldc2 (z := 1000000000) hx hb hown (hts (.constantLong RX12 121 (1000000000)) (by decide +kernel)) rfl dX12_premium_2 ?_
  refine zc_z (wr := [(x, .inr (13, [.int (iz (th)), .int (iz (6)), .ref am, .null, .ref tb, .ref lv, .int (iz (0)), .ref wt, .int (iz (0)), .ref bg, .ref pm, .int (iz (0))]))]) (va_runS (As := [.long (lz (mo)), .long (lz (0)), .long (lz (1000000000))]) (rest := []) ⟨hx, hb, hml, hown, hts⟩ (c_X12_in l G mo 0 1000000000 (by omega) (by omega) (by omega) H.size) (va_cwS 3 hts gX12_premium_X12_in rfl rfl rfl (by decide +kernel) ⟨Nat.le_of_ble_eq_true rfl, Nat.le_of_ble_eq_true rfl⟩) (zpS hKX hP hD [] rfl rfl) rfl rfl hl.1 rfl (lv_room (Nat.le_of_ble_eq_true rfl)) dX12_premium_5 ⟨(by first | exact Nat.le_of_ble_eq_true rfl | (show _ ≤ (0 : Nat); omega)), (by first | exact Nat.le_of_ble_eq_true rfl | (show _ ≤ (0 : Nat); omega))⟩) hP hD hS hA [] [0] rfl rfl rfl (by decide) (fun y1 u_1 H locs hy1 hP hD hS => ?_)
  have hP : va_P G.1 vwCl [(x, .inr (13, [.int (iz (th)), .int (iz (6)), .ref am, .null, .ref tb, .ref lv, .int (iz (0)), .ref wt, .int (iz (0)), .ref bg, .ref pm, .int (iz (0))]))] H := hP
  have hD : va_D A [(x, .inr (13, [.int (iz (th)), .int (iz (6)), .ref am, .null, .ref tb, .ref lv, .int (iz (0)), .ref wt, .int (iz (0)), .ref bg, .ref pm, .int (iz (0))]))] := hD
  have hy1 : y1 = decide ((0 : Int) ≤ mo ∧ mo ≤ (1000000000 : Int)) := hy1
  rw [show y1 = true from hy1.trans (decide_eq_true (by omega))]
  refine zr_ifz_eq (tgt := 23) hx hb dX12_premium_8 (by decide) (fun h_3 => ?_) (fun h_3 => ?_)
  · exact absurd h_3 (by decide)
  ·
    refine lv_iload hx hb dX12_premium_11 (lv_at hl 3 rfl) ?_
    refine zc_z (wr := [(x, .inr (13, [.int (iz (th)), .int (iz (6)), .ref am, .null, .ref tb, .ref lv, .int (iz (0)), .ref wt, .int (iz (0)), .ref bg, .ref pm, .int (iz (0))]))]) (va_runS (As := [.int (iz (po))]) (rest := []) ⟨hx, hb, hml, hown, hts⟩ (c_X12_isRate l G po (by omega) H.size) (va_cwS 1 hts gX12_premium_X12_isRate rfl rfl rfl (by decide +kernel) ⟨Nat.le_of_ble_eq_true rfl, Nat.le_of_ble_eq_true rfl⟩) (zpS hKX hP hD [] rfl rfl) rfl rfl hl.1 rfl (lv_room (Nat.le_of_ble_eq_true rfl)) dX12_premium_13 ⟨(by first | exact Nat.le_of_ble_eq_true rfl | (show _ ≤ (0 : Nat); omega)), (by first | exact Nat.le_of_ble_eq_true rfl | (show _ ≤ (0 : Nat); omega))⟩) hP hD hS hA [] [0] rfl rfl rfl (by decide) (fun y2 u_4 H locs hy2 hP hD hS => ?_)
    have hP : va_P G.1 vwCl [(x, .inr (13, [.int (iz (th)), .int (iz (6)), .ref am, .null, .ref tb, .ref lv, .int (iz (0)), .ref wt, .int (iz (0)), .ref bg, .ref pm, .int (iz (0))]))] H := hP
    have hD : va_D A [(x, .inr (13, [.int (iz (th)), .int (iz (6)), .ref am, .null, .ref tb, .ref lv, .int (iz (0)), .ref wt, .int (iz (0)), .ref bg, .ref pm, .int (iz (0))]))] := hD
    have hy2 : y2 = decide (0 ≤ po ∧ po ≤ 20000) := hy2
    rw [show y2 = true from hy2.trans (decide_eq_true (by omega))]
    refine zr_ifz_eq (tgt := 23) hx hb dX12_premium_16 (by decide) (fun h_6 => ?_) (fun h_6 => ?_)
    · exact absurd h_6 (by decide)
    ·
      refine lv_iconst (v := iz (1)) hx hb dX12_premium_19 rfl ?_
      refine lv_goto (tgt := 24) hx hb dX12_premium_20 (by decide) ?_
      refine lv_istore (lv' := [(5, .int (iz (1))), (0, .ref x), (1, .int (iz (ag))), (2, .long (lz (mo))), (4, .int (iz (po)))]) hx hb dX12_premium_24 hl (by decide) rfl (fun ls hl => ?_)
      refine lv_iload_n hx hb dX12_premium_26 rfl (lv_at hl 2 rfl) ?_
      refine zr_i2l hx hb (x := ag) (⟨by omega, by omega⟩) dX12_premium_27 ?_
      refine lv_lconst (v := lz (0)) hx hb dX12_premium_28 rfl ?_
      refine lv_aload_n hx hb dX12_premium_29 rfl (lv_at hl 1 rfl) ?_
      refine va_get (D := G.1) (ci := 13) (v := .int (iz (0))) (C := RX12) (T := TX12) (N := 12) hx hb hts iwX12 hown hK hP 0 rfl rfl 6 (by decide) (hts (.fieldLink RX12 254 "AnnuityHouseModel" "ages" "I") (by decide +kernel)) (fun _ h9 => h9) rfl dX12_premium_30 ?_
      refine lv_iconst (v := iz (1)) hx hb dX12_premium_33 rfl ?_
      refine zr_isub hx hb dX12_premium_34 ?_
      refine zr_i2l hx hb (x := 0 - 1) (⟨by decide, by decide⟩) dX12_premium_35 ?_
      refine zc_z (wr := [(x, .inr (13, [.int (iz (th)), .int (iz (6)), .ref am, .null, .ref tb, .ref lv, .int (iz (0)), .ref wt, .int (iz (0)), .ref bg, .ref pm, .int (iz (0))]))]) (va_runS (As := [.long (lz (ag)), .long (lz (0)), .long (lz (0 - 1))]) (rest := []) ⟨hx, hb, hml, hown, hts⟩ (c_X12_in l G ag 0 (0 - 1) (by omega) (by omega) (by omega) H.size) (va_cwS 3 hts gX12_premium_X12_in rfl rfl rfl (by decide +kernel) ⟨Nat.le_of_ble_eq_true rfl, Nat.le_of_ble_eq_true rfl⟩) (zpS hKX hP hD [] rfl rfl) rfl rfl hl.1 rfl (lv_room (Nat.le_of_ble_eq_true rfl)) dX12_premium_36 ⟨(by first | exact Nat.le_of_ble_eq_true rfl | (show _ ≤ (0 : Nat); omega)), (by first | exact Nat.le_of_ble_eq_true rfl | (show _ ≤ (0 : Nat); omega))⟩) hP hD hS hA [] [0] rfl rfl rfl (by decide) (fun y3 u_7 H locs hy3 hP hD hS => ?_)
      have hP : va_P G.1 vwCl [(x, .inr (13, [.int (iz (th)), .int (iz (6)), .ref am, .null, .ref tb, .ref lv, .int (iz (0)), .ref wt, .int (iz (0)), .ref bg, .ref pm, .int (iz (0))]))] H := hP
      have hD : va_D A [(x, .inr (13, [.int (iz (th)), .int (iz (6)), .ref am, .null, .ref tb, .ref lv, .int (iz (0)), .ref wt, .int (iz (0)), .ref bg, .ref pm, .int (iz (0))]))] := hD
      have hy3 : y3 = decide ((0 : Int) ≤ ag ∧ ag ≤ (0 - 1)) := hy3
      rw [show y3 = false from hy3.trans (decide_eq_false (by omega))]
      refine lv_istore (lv' := [(6, .int (iz (zbb false))), (5, .int (iz (1))), (0, .ref x), (1, .int (iz (ag))), (2, .long (lz (mo))), (4, .int (iz (po)))]) hx hb dX12_premium_39 hl (by decide) rfl (fun ls hl => ?_)
      refine lv_null hx hb dX12_premium_41 ?_
      refine lv_astoreN (lv' := [(7, .null), (6, .int (iz (zbb false))), (5, .int (iz (1))), (0, .ref x), (1, .int (iz (ag))), (2, .long (lz (mo))), (4, .int (iz (po)))]) hx hb dX12_premium_42 hl (by decide) rfl (fun ls hl => ?_)
      refine lv_iload hx hb dX12_premium_44 (lv_at hl 2 rfl) ?_
      refine zr_if_eq (x := 1) (tgt := 83) hx hb (⟨by omega, by omega⟩) dX12_premium_46 (by decide) (fun h_9 => ?_) (fun h_9 => ?_)
      · exact absurd h_9 (by omega)
      ·
        refine lv_iload hx hb dX12_premium_49 (lv_at hl 1 rfl) ?_
        refine zr_ifz_eq (tgt := 83) hx hb dX12_premium_51 (by decide) (fun h_10 => ?_) (fun h_10 => ?_)
        ·
          refine lv_aload_n hx hb dX12_premium_83 rfl (lv_at hl 3 rfl) ?_
          refine lv_iload hx hb dX12_premium_84 (lv_at hl 2 rfl) ?_
          refine lv_iload hx hb dX12_premium_86 (lv_at hl 1 rfl) ?_
          refine lv_aloadN hx hb dX12_premium_88 (lv_at hl 0 rfl) ?_
          refine lv_ifnullN (tgt := 97) hx hb dX12_premium_90 (by decide) ?_
          refine lv_iconst (v := iz (0)) hx hb dX12_premium_97 rfl ?_
          refine zc_z (wr := []) (va_runV (As := [.int (iz (1)), .int (iz (zbb false)), .int (iz (0))]) (rest := []) ⟨hx, hb, hml, hown, hts⟩ (c_X12_passes l G x th (.ref am) .null (.ref tb) (.ref lv) (.int (iz (0))) (.ref wt) (.int (iz (0))) (.ref bg) (.ref pm) (.int (iz (0))) 6 true false false  H.size) (cwV 3 hts gX12_premium_X12_passes rfl rfl rfl (by decide +kernel) ⟨Nat.le_of_ble_eq_true rfl, Nat.le_of_ble_eq_true rfl⟩) (zpV hKX hP hD [0] rfl rfl 0 13 rfl rfl) rfl rfl hl.1 rfl (lv_room (Nat.le_of_ble_eq_true rfl)) dX12_premium_98 ⟨(by first | exact Nat.le_of_ble_eq_true rfl | (show _ ≤ (0 : Nat); omega)), (by first | exact Nat.le_of_ble_eq_true rfl | (show _ ≤ (0 : Nat); omega))⟩) hP hD hS hA [0] [] rfl rfl rfl (by decide) (fun pz u_11 H locs hp hP hD hS => ?_)
          generalize u_11 = thp at hP hD hp
          have hP : va_P G.1 vwCl [(x, .inr (13, [.int (iz (thp)), .int (iz ((6 : Int))), .ref am, .null, .ref tb, .ref lv, .int (iz (0)), .ref wt, .int (iz (0)), .ref bg, .ref pm, .int (iz (0))]))] H := hP
          have hD : va_D A [(x, .inr (13, [.int (iz (thp)), .int (iz ((6 : Int))), .ref am, .null, .ref tb, .ref lv, .int (iz (0)), .ref wt, .int (iz (0)), .ref bg, .ref pm, .int (iz (0))]))] := hD
          have hp : pz = (true && false && false) ∧ thp = zcode true false false := hp
          rw [show pz = false from hp.1]
          have htp := hp.2
          refine zr_ifz_eq (tgt := 113) hx hb dX12_premium_101 (by decide) (fun h_13 => ?_) (fun h_13 => ?_)
          ·
            refine lv_lconst (v := lz (0)) hx hb dX12_premium_113 rfl ?_
            rw [hQ]
            exact zr_lret (z := 0) (u := (thp)) hx hb hr hlocks hP hD hS (by first | exact Nat.le_of_ble_eq_true rfl | omega) (by first | exact Nat.le_of_ble_eq_true rfl | omega) dX12_premium_114 (show 0 = 0 ∧ thp = 2 from ⟨rfl, htp⟩)
          · exact absurd h_13 (by decide)
        · exact absurd h_10 (by decide)

def rm_c_X12_premium_x : Room := { frames := 2, cells := 0, slots := 0, locals := 45 }
set_option maxHeartbeats 1000000 in
set_option maxRecDepth 100000 in
theorem c_X12_premium_x (l : Launch) (G : zG) (x : Nat) (am : Nat) (tb : Nat) (lv : Nat) (wt : Nat) (bg : Nat) (pm : Nat) (th : Int) (ag : Int) (mo : Int) (po : Int) (h0 : -2147483648 ≤ ag ∧ ag < 2147483648) (h01 : -9223372036854775808 ≤ mo ∧ mo < 9223372036854775808) (h02 : -2147483648 ≤ po ∧ po < 2147483648) (h1 : ¬ (0 ≤ mo ∧ mo ≤ 1000000000 ∧ 0 ≤ po ∧ po ≤ 20000)) : zM l G yX12_premium wsX12_premium rm_c_X12_premium_x [.ref x, .int (iz (ag)), .long (lz (mo)), .int (iz (po))] [(x, .inr (13, [.int (iz (th)), .int (iz (6)), .ref am, .null, .ref tb, .ref lv, .int (iz (0)), .ref wt, .int (iz (0)), .ref bg, .ref pm, .int (iz (0))]))] (fun A => zQl G (fun (z : Int) (th2 : Int) => z = 0 ∧ th2 = 1) (fun (th2 : Int) => [(x, .inr (13, [.int (iz (th2)), .int (iz (6)), .ref am, .null, .ref tb, .ref lv, .int (iz (0)), .ref wt, .int (iz (0)), .ref bg, .ref pm, .int (iz (0))]))]) A) 0 0 := by
  refine zM_of (cc := cX12_premium) (maxL := 8) (ret := (some .long)) (by decide) rfl (Nat.le_of_ble_eq_true rfl) ?_
  intro p e s m below meth c ls A Q hQ hx hb hr hts hown hlocks hml hnm hKX hP hD hA hS hl
  have hK := hKX.1
  have iwX12 := iw_X12_premium_X12
  obtain ⟨H, hH⟩ : ∃ h, h = s.heap := ⟨_, rfl⟩
  obtain ⟨locs, hlo⟩ : ∃ h : List Loc, h = [] := ⟨_, rfl⟩
  have hS : va_S A s.heap H locs := by rw [hH, hlo]; exact hS
  have hP : va_P G.1 vwCl [(x, .inr (13, [.int (iz (th)), .int (iz (6)), .ref am, .null, .ref tb, .ref lv, .int (iz (0)), .ref wt, .int (iz (0)), .ref bg, .ref pm, .int (iz (0))]))] H := by rw [hH]; exact hP
  have hD : va_D A [(x, .inr (13, [.int (iz (th)), .int (iz (6)), .ref am, .null, .ref tb, .ref lv, .int (iz (0)), .ref wt, .int (iz (0)), .ref bg, .ref pm, .int (iz (0))]))] := hD
  have hl : lv_has ls 8 [(0, .ref x), (1, .int (iz (ag))), (2, .long (lz (mo))), (4, .int (iz (po)))] := hl
  rw [← hH, ← hlo]
  refine lv_lload_n hx hb dX12_premium_0 rfl (lv_at hl 2 rfl) ?_
  refine lv_lconst (v := lz (0)) hx hb dX12_premium_1 rfl ?_
  refine zr_ldc2 (z := 1000000000) hx hb hown (hts (.constantLong RX12 121 (1000000000)) (by decide +kernel)) rfl dX12_premium_2 ?_
  refine zc_z (wr := [(x, .inr (13, [.int (iz (th)), .int (iz (6)), .ref am, .null, .ref tb, .ref lv, .int (iz (0)), .ref wt, .int (iz (0)), .ref bg, .ref pm, .int (iz (0))]))]) (va_runS (As := [.long (lz (mo)), .long (lz (0)), .long (lz (1000000000))]) (rest := []) ⟨hx, hb, hml, hown, hts⟩ (c_X12_in l G mo 0 1000000000 (by omega) (by omega) (by omega) H.size) (va_cwS 3 hts gX12_premium_X12_in rfl rfl rfl (by decide +kernel) ⟨Nat.le_of_ble_eq_true rfl, Nat.le_of_ble_eq_true rfl⟩) (zpS hKX hP hD [] rfl rfl) rfl rfl hl.1 rfl (lv_room (Nat.le_of_ble_eq_true rfl)) dX12_premium_5 ⟨(by first | exact Nat.le_of_ble_eq_true rfl | (show _ ≤ (0 : Nat); omega)), (by first | exact Nat.le_of_ble_eq_true rfl | (show _ ≤ (0 : Nat); omega))⟩) hP hD hS hA [] [0] rfl rfl rfl (by decide) (fun y1 u_1 H locs hy1 hP hD hS => ?_)
  have hP : va_P G.1 vwCl [(x, .inr (13, [.int (iz (th)), .int (iz (6)), .ref am, .null, .ref tb, .ref lv, .int (iz (0)), .ref wt, .int (iz (0)), .ref bg, .ref pm, .int (iz (0))]))] H := hP
  have hD : va_D A [(x, .inr (13, [.int (iz (th)), .int (iz (6)), .ref am, .null, .ref tb, .ref lv, .int (iz (0)), .ref wt, .int (iz (0)), .ref bg, .ref pm, .int (iz (0))]))] := hD
  have hy1 : y1 = decide ((0 : Int) ≤ mo ∧ mo ≤ (1000000000 : Int)) := hy1
  refine zr_ifz_eq (tgt := 23) hx hb dX12_premium_8 (by decide) (fun h_3 => ?_) (fun h_3 => ?_)
  ·
    have hzy1 := of_decide_eq_false (hy1.symm.trans h_3)
    refine lv_iconst (v := iz (0)) hx hb dX12_premium_23 rfl ?_
    refine lv_istore (lv' := [(5, .int (iz (0))), (0, .ref x), (1, .int (iz (ag))), (2, .long (lz (mo))), (4, .int (iz (po)))]) hx hb dX12_premium_24 hl (by decide) rfl (fun ls hl => ?_)
    refine lv_iload_n hx hb dX12_premium_26 rfl (lv_at hl 2 rfl) ?_
    refine zr_i2l hx hb (x := ag) (⟨by omega, by omega⟩) dX12_premium_27 ?_
    refine lv_lconst (v := lz (0)) hx hb dX12_premium_28 rfl ?_
    refine lv_aload_n hx hb dX12_premium_29 rfl (lv_at hl 1 rfl) ?_
    refine va_get (D := G.1) (ci := 13) (v := .int (iz (0))) (C := RX12) (T := TX12) (N := 12) hx hb hts iwX12 hown hK hP 0 rfl rfl 6 (by decide) (hts (.fieldLink RX12 254 "AnnuityHouseModel" "ages" "I") (by decide +kernel)) (fun _ h9 => h9) rfl dX12_premium_30 ?_
    refine lv_iconst (v := iz (1)) hx hb dX12_premium_33 rfl ?_
    refine zr_isub hx hb dX12_premium_34 ?_
    refine zr_i2l hx hb (x := 0 - 1) (⟨by decide, by decide⟩) dX12_premium_35 ?_
    refine zc_z (wr := [(x, .inr (13, [.int (iz (th)), .int (iz (6)), .ref am, .null, .ref tb, .ref lv, .int (iz (0)), .ref wt, .int (iz (0)), .ref bg, .ref pm, .int (iz (0))]))]) (va_runS (As := [.long (lz (ag)), .long (lz (0)), .long (lz (0 - 1))]) (rest := []) ⟨hx, hb, hml, hown, hts⟩ (c_X12_in l G ag 0 (0 - 1) (by omega) (by omega) (by omega) H.size) (va_cwS 3 hts gX12_premium_X12_in rfl rfl rfl (by decide +kernel) ⟨Nat.le_of_ble_eq_true rfl, Nat.le_of_ble_eq_true rfl⟩) (zpS hKX hP hD [] rfl rfl) rfl rfl hl.1 rfl (lv_room (Nat.le_of_ble_eq_true rfl)) dX12_premium_36 ⟨(by first | exact Nat.le_of_ble_eq_true rfl | (show _ ≤ (0 : Nat); omega)), (by first | exact Nat.le_of_ble_eq_true rfl | (show _ ≤ (0 : Nat); omega))⟩) hP hD hS hA [] [0] rfl rfl rfl (by decide) (fun y3 u_4 H locs hy3 hP hD hS => ?_)
    have hP : va_P G.1 vwCl [(x, .inr (13, [.int (iz (th)), .int (iz (6)), .ref am, .null, .ref tb, .ref lv, .int (iz (0)), .ref wt, .int (iz (0)), .ref bg, .ref pm, .int (iz (0))]))] H := hP
    have hD : va_D A [(x, .inr (13, [.int (iz (th)), .int (iz (6)), .ref am, .null, .ref tb, .ref lv, .int (iz (0)), .ref wt, .int (iz (0)), .ref bg, .ref pm, .int (iz (0))]))] := hD
    have hy3 : y3 = decide ((0 : Int) ≤ ag ∧ ag ≤ (0 - 1)) := hy3
    rw [show y3 = false from hy3.trans (decide_eq_false (by omega))]
    refine lv_istore (lv' := [(6, .int (iz (zbb false))), (5, .int (iz (0))), (0, .ref x), (1, .int (iz (ag))), (2, .long (lz (mo))), (4, .int (iz (po)))]) hx hb dX12_premium_39 hl (by decide) rfl (fun ls hl => ?_)
    refine lv_null hx hb dX12_premium_41 ?_
    refine lv_astoreN (lv' := [(7, .null), (6, .int (iz (zbb false))), (5, .int (iz (0))), (0, .ref x), (1, .int (iz (ag))), (2, .long (lz (mo))), (4, .int (iz (po)))]) hx hb dX12_premium_42 hl (by decide) rfl (fun ls hl => ?_)
    refine lv_iload hx hb dX12_premium_44 (lv_at hl 2 rfl) ?_
    refine zr_if_eq (x := 0) (tgt := 83) hx hb (⟨by omega, by omega⟩) dX12_premium_46 (by decide) (fun h_6 => ?_) (fun h_6 => ?_)
    ·
      refine lv_aload_n hx hb dX12_premium_83 rfl (lv_at hl 3 rfl) ?_
      refine lv_iload hx hb dX12_premium_84 (lv_at hl 2 rfl) ?_
      refine lv_iload hx hb dX12_premium_86 (lv_at hl 1 rfl) ?_
      refine lv_aloadN hx hb dX12_premium_88 (lv_at hl 0 rfl) ?_
      refine lv_ifnullN (tgt := 97) hx hb dX12_premium_90 (by decide) ?_
      refine lv_iconst (v := iz (0)) hx hb dX12_premium_97 rfl ?_
      refine zc_z (wr := []) (va_runV (As := [.int (iz (0)), .int (iz (zbb false)), .int (iz (0))]) (rest := []) ⟨hx, hb, hml, hown, hts⟩ (c_X12_passes l G x th (.ref am) .null (.ref tb) (.ref lv) (.int (iz (0))) (.ref wt) (.int (iz (0))) (.ref bg) (.ref pm) (.int (iz (0))) 6 false false false  H.size) (cwV 3 hts gX12_premium_X12_passes rfl rfl rfl (by decide +kernel) ⟨Nat.le_of_ble_eq_true rfl, Nat.le_of_ble_eq_true rfl⟩) (zpV hKX hP hD [0] rfl rfl 0 13 rfl rfl) rfl rfl hl.1 rfl (lv_room (Nat.le_of_ble_eq_true rfl)) dX12_premium_98 ⟨(by first | exact Nat.le_of_ble_eq_true rfl | (show _ ≤ (0 : Nat); omega)), (by first | exact Nat.le_of_ble_eq_true rfl | (show _ ≤ (0 : Nat); omega))⟩) hP hD hS hA [0] [] rfl rfl rfl (by decide) (fun pz u_7 H locs hp hP hD hS => ?_)
      generalize u_7 = thp at hP hD hp
      have hP : va_P G.1 vwCl [(x, .inr (13, [.int (iz (thp)), .int (iz ((6 : Int))), .ref am, .null, .ref tb, .ref lv, .int (iz (0)), .ref wt, .int (iz (0)), .ref bg, .ref pm, .int (iz (0))]))] H := hP
      have hD : va_D A [(x, .inr (13, [.int (iz (thp)), .int (iz ((6 : Int))), .ref am, .null, .ref tb, .ref lv, .int (iz (0)), .ref wt, .int (iz (0)), .ref bg, .ref pm, .int (iz (0))]))] := hD
      have hp : pz = (false && false && false) ∧ thp = zcode false false false := hp
      rw [show pz = false from hp.1]
      have htp := hp.2
      refine zr_ifz_eq (tgt := 113) hx hb dX12_premium_101 (by decide) (fun h_9 => ?_) (fun h_9 => ?_)
      ·
        refine lv_lconst (v := lz (0)) hx hb dX12_premium_113 rfl ?_
        rw [hQ]
        exact zr_lret (z := 0) (u := (thp)) hx hb hr hlocks hP hD hS (by first | exact Nat.le_of_ble_eq_true rfl | omega) (by first | exact Nat.le_of_ble_eq_true rfl | omega) dX12_premium_114 (show 0 = 0 ∧ thp = 1 from ⟨rfl, htp⟩)
      · exact absurd h_9 (by decide)
    · exact absurd h_6 (by omega)
  ·
    have hzy1 := of_decide_eq_true (hy1.symm.trans h_3)
    refine lv_iload hx hb dX12_premium_11 (lv_at hl 3 rfl) ?_
    refine zc_z (wr := [(x, .inr (13, [.int (iz (th)), .int (iz (6)), .ref am, .null, .ref tb, .ref lv, .int (iz (0)), .ref wt, .int (iz (0)), .ref bg, .ref pm, .int (iz (0))]))]) (va_runS (As := [.int (iz (po))]) (rest := []) ⟨hx, hb, hml, hown, hts⟩ (c_X12_isRate l G po (by omega) H.size) (va_cwS 1 hts gX12_premium_X12_isRate rfl rfl rfl (by decide +kernel) ⟨Nat.le_of_ble_eq_true rfl, Nat.le_of_ble_eq_true rfl⟩) (zpS hKX hP hD [] rfl rfl) rfl rfl hl.1 rfl (lv_room (Nat.le_of_ble_eq_true rfl)) dX12_premium_13 ⟨(by first | exact Nat.le_of_ble_eq_true rfl | (show _ ≤ (0 : Nat); omega)), (by first | exact Nat.le_of_ble_eq_true rfl | (show _ ≤ (0 : Nat); omega))⟩) hP hD hS hA [] [0] rfl rfl rfl (by decide) (fun y2 u_10 H locs hy2 hP hD hS => ?_)
    have hP : va_P G.1 vwCl [(x, .inr (13, [.int (iz (th)), .int (iz (6)), .ref am, .null, .ref tb, .ref lv, .int (iz (0)), .ref wt, .int (iz (0)), .ref bg, .ref pm, .int (iz (0))]))] H := hP
    have hD : va_D A [(x, .inr (13, [.int (iz (th)), .int (iz (6)), .ref am, .null, .ref tb, .ref lv, .int (iz (0)), .ref wt, .int (iz (0)), .ref bg, .ref pm, .int (iz (0))]))] := hD
    have hy2 : y2 = decide (0 ≤ po ∧ po ≤ 20000) := hy2
    refine zr_ifz_eq (tgt := 23) hx hb dX12_premium_16 (by decide) (fun h_12 => ?_) (fun h_12 => ?_)
    ·
      have hzy2 := of_decide_eq_false (hy2.symm.trans h_12)
      refine lv_iconst (v := iz (0)) hx hb dX12_premium_23 rfl ?_
      refine lv_istore (lv' := [(5, .int (iz (0))), (0, .ref x), (1, .int (iz (ag))), (2, .long (lz (mo))), (4, .int (iz (po)))]) hx hb dX12_premium_24 hl (by decide) rfl (fun ls hl => ?_)
      refine lv_iload_n hx hb dX12_premium_26 rfl (lv_at hl 2 rfl) ?_
      refine zr_i2l hx hb (x := ag) (⟨by omega, by omega⟩) dX12_premium_27 ?_
      refine lv_lconst (v := lz (0)) hx hb dX12_premium_28 rfl ?_
      refine lv_aload_n hx hb dX12_premium_29 rfl (lv_at hl 1 rfl) ?_
      refine va_get (D := G.1) (ci := 13) (v := .int (iz (0))) (C := RX12) (T := TX12) (N := 12) hx hb hts iwX12 hown hK hP 0 rfl rfl 6 (by decide) (hts (.fieldLink RX12 254 "AnnuityHouseModel" "ages" "I") (by decide +kernel)) (fun _ h9 => h9) rfl dX12_premium_30 ?_
      refine lv_iconst (v := iz (1)) hx hb dX12_premium_33 rfl ?_
      refine zr_isub hx hb dX12_premium_34 ?_
      refine zr_i2l hx hb (x := 0 - 1) (⟨by decide, by decide⟩) dX12_premium_35 ?_
      refine zc_z (wr := [(x, .inr (13, [.int (iz (th)), .int (iz (6)), .ref am, .null, .ref tb, .ref lv, .int (iz (0)), .ref wt, .int (iz (0)), .ref bg, .ref pm, .int (iz (0))]))]) (va_runS (As := [.long (lz (ag)), .long (lz (0)), .long (lz (0 - 1))]) (rest := []) ⟨hx, hb, hml, hown, hts⟩ (c_X12_in l G ag 0 (0 - 1) (by omega) (by omega) (by omega) H.size) (va_cwS 3 hts gX12_premium_X12_in rfl rfl rfl (by decide +kernel) ⟨Nat.le_of_ble_eq_true rfl, Nat.le_of_ble_eq_true rfl⟩) (zpS hKX hP hD [] rfl rfl) rfl rfl hl.1 rfl (lv_room (Nat.le_of_ble_eq_true rfl)) dX12_premium_36 ⟨(by first | exact Nat.le_of_ble_eq_true rfl | (show _ ≤ (0 : Nat); omega)), (by first | exact Nat.le_of_ble_eq_true rfl | (show _ ≤ (0 : Nat); omega))⟩) hP hD hS hA [] [0] rfl rfl rfl (by decide) (fun y3 u_13 H locs hy3 hP hD hS => ?_)
      have hP : va_P G.1 vwCl [(x, .inr (13, [.int (iz (th)), .int (iz (6)), .ref am, .null, .ref tb, .ref lv, .int (iz (0)), .ref wt, .int (iz (0)), .ref bg, .ref pm, .int (iz (0))]))] H := hP
      have hD : va_D A [(x, .inr (13, [.int (iz (th)), .int (iz (6)), .ref am, .null, .ref tb, .ref lv, .int (iz (0)), .ref wt, .int (iz (0)), .ref bg, .ref pm, .int (iz (0))]))] := hD
      have hy3 : y3 = decide ((0 : Int) ≤ ag ∧ ag ≤ (0 - 1)) := hy3
      rw [show y3 = false from hy3.trans (decide_eq_false (by omega))]
      refine lv_istore (lv' := [(6, .int (iz (zbb false))), (5, .int (iz (0))), (0, .ref x), (1, .int (iz (ag))), (2, .long (lz (mo))), (4, .int (iz (po)))]) hx hb dX12_premium_39 hl (by decide) rfl (fun ls hl => ?_)
      refine lv_null hx hb dX12_premium_41 ?_
      refine lv_astoreN (lv' := [(7, .null), (6, .int (iz (zbb false))), (5, .int (iz (0))), (0, .ref x), (1, .int (iz (ag))), (2, .long (lz (mo))), (4, .int (iz (po)))]) hx hb dX12_premium_42 hl (by decide) rfl (fun ls hl => ?_)
      refine lv_iload hx hb dX12_premium_44 (lv_at hl 2 rfl) ?_
      refine zr_if_eq (x := 0) (tgt := 83) hx hb (⟨by omega, by omega⟩) dX12_premium_46 (by decide) (fun h_15 => ?_) (fun h_15 => ?_)
      ·
        refine lv_aload_n hx hb dX12_premium_83 rfl (lv_at hl 3 rfl) ?_
        refine lv_iload hx hb dX12_premium_84 (lv_at hl 2 rfl) ?_
        refine lv_iload hx hb dX12_premium_86 (lv_at hl 1 rfl) ?_
        refine lv_aloadN hx hb dX12_premium_88 (lv_at hl 0 rfl) ?_
        refine lv_ifnullN (tgt := 97) hx hb dX12_premium_90 (by decide) ?_
        refine lv_iconst (v := iz (0)) hx hb dX12_premium_97 rfl ?_
        refine zc_z (wr := []) (va_runV (As := [.int (iz (0)), .int (iz (zbb false)), .int (iz (0))]) (rest := []) ⟨hx, hb, hml, hown, hts⟩ (c_X12_passes l G x th (.ref am) .null (.ref tb) (.ref lv) (.int (iz (0))) (.ref wt) (.int (iz (0))) (.ref bg) (.ref pm) (.int (iz (0))) 6 false false false  H.size) (cwV 3 hts gX12_premium_X12_passes rfl rfl rfl (by decide +kernel) ⟨Nat.le_of_ble_eq_true rfl, Nat.le_of_ble_eq_true rfl⟩) (zpV hKX hP hD [0] rfl rfl 0 13 rfl rfl) rfl rfl hl.1 rfl (lv_room (Nat.le_of_ble_eq_true rfl)) dX12_premium_98 ⟨(by first | exact Nat.le_of_ble_eq_true rfl | (show _ ≤ (0 : Nat); omega)), (by first | exact Nat.le_of_ble_eq_true rfl | (show _ ≤ (0 : Nat); omega))⟩) hP hD hS hA [0] [] rfl rfl rfl (by decide) (fun pz u_16 H locs hp hP hD hS => ?_)
        generalize u_16 = thp at hP hD hp
        have hP : va_P G.1 vwCl [(x, .inr (13, [.int (iz (thp)), .int (iz ((6 : Int))), .ref am, .null, .ref tb, .ref lv, .int (iz (0)), .ref wt, .int (iz (0)), .ref bg, .ref pm, .int (iz (0))]))] H := hP
        have hD : va_D A [(x, .inr (13, [.int (iz (thp)), .int (iz ((6 : Int))), .ref am, .null, .ref tb, .ref lv, .int (iz (0)), .ref wt, .int (iz (0)), .ref bg, .ref pm, .int (iz (0))]))] := hD
        have hp : pz = (false && false && false) ∧ thp = zcode false false false := hp
        rw [show pz = false from hp.1]
        have htp := hp.2
        refine zr_ifz_eq (tgt := 113) hx hb dX12_premium_101 (by decide) (fun h_18 => ?_) (fun h_18 => ?_)
        ·
          refine lv_lconst (v := lz (0)) hx hb dX12_premium_113 rfl ?_
          rw [hQ]
          exact zr_lret (z := 0) (u := (thp)) hx hb hr hlocks hP hD hS (by first | exact Nat.le_of_ble_eq_true rfl | omega) (by first | exact Nat.le_of_ble_eq_true rfl | omega) dX12_premium_114 (show 0 = 0 ∧ thp = 1 from ⟨rfl, htp⟩)
        · exact absurd h_18 (by decide)
      · exact absurd h_15 (by omega)
    ·
      have hzy2 := of_decide_eq_true (hy2.symm.trans h_12)
      exact absurd h1 (by omega)

def rm_c_X12_reserve_o : Room := { frames := 2, cells := 0, slots := 0, locals := 45 }
theorem iw_X12_reserve_X12 : ∀ w ∈ wsX120, w ∈ wsX12_reserve := by decide +kernel
set_option maxHeartbeats 1000000 in
set_option maxRecDepth 100000 in
theorem c_X12_reserve_o (l : Launch) (G : zG) (x : Nat) (am : Nat) (tb : Nat) (lv : Nat) (wt : Nat) (bg : Nat) (pm : Nat) (th : Int) (ag : Int) (ye : Int) (mo : Int) (po : Int) (bk : Bool) (h0 : -2147483648 ≤ ag ∧ ag < 2147483648) (h01 : -9223372036854775808 ≤ mo ∧ mo < 9223372036854775808) (h02 : -2147483648 ≤ po ∧ po < 2147483648) (h03 : -2147483648 ≤ ye ∧ ye < 2147483648) (h1 : 0 ≤ ye ∧ 0 ≤ mo ∧ mo ≤ 1000000000 ∧ 0 ≤ po ∧ po ≤ 20000) : zM l G yX12_reserve wsX12_reserve rm_c_X12_reserve_o [.ref x, .int (iz (ag)), .int (iz (ye)), .long (lz (mo)), .int (iz (po)), .int (iz (zbb bk))] [(x, .inr (13, [.int (iz (th)), .int (iz (6)), .ref am, .null, .ref tb, .ref lv, .int (iz (0)), .ref wt, .int (iz (0)), .ref bg, .ref pm, .int (iz (0))]))] (fun A => zQl G (fun (z : Int) (th2 : Int) => z = 0 ∧ th2 = 2) (fun (th2 : Int) => [(x, .inr (13, [.int (iz (th2)), .int (iz (6)), .ref am, .null, .ref tb, .ref lv, .int (iz (0)), .ref wt, .int (iz (0)), .ref bg, .ref pm, .int (iz (0))]))]) A) 0 0 := by
  refine zM_of (cc := cX12_reserve) (maxL := 11) (ret := (some .long)) (by decide) rfl (Nat.le_of_ble_eq_true rfl) ?_
  intro p e s m below meth c ls A Q hQ hx hb hr hts hown hlocks hml hnm hKX hP hD hA hS hl
  have hK := hKX.1
  have iwX12 := iw_X12_reserve_X12
  obtain ⟨H, hH⟩ : ∃ h, h = s.heap := ⟨_, rfl⟩
  obtain ⟨locs, hlo⟩ : ∃ h : List Loc, h = [] := ⟨_, rfl⟩
  have hS : va_S A s.heap H locs := by rw [hH, hlo]; exact hS
  have hP : va_P G.1 vwCl [(x, .inr (13, [.int (iz (th)), .int (iz (6)), .ref am, .null, .ref tb, .ref lv, .int (iz (0)), .ref wt, .int (iz (0)), .ref bg, .ref pm, .int (iz (0))]))] H := by rw [hH]; exact hP
  have hD : va_D A [(x, .inr (13, [.int (iz (th)), .int (iz (6)), .ref am, .null, .ref tb, .ref lv, .int (iz (0)), .ref wt, .int (iz (0)), .ref bg, .ref pm, .int (iz (0))]))] := hD
  have hl : lv_has ls 11 [(0, .ref x), (1, .int (iz (ag))), (2, .int (iz (ye))), (3, .long (lz (mo))), (5, .int (iz (po))), (6, .int (iz (zbb bk)))] := hl
  rw [← hH, ← hlo]
  refine lv_iload_n hx hb dX12_reserve_0 rfl (lv_at hl 2 rfl) ?_
  refine zr_if_lt (x := ye) (tgt := 27) hx hb (⟨by omega, by omega⟩) dX12_reserve_1 (by decide) (fun h_1 => ?_) (fun h_1 => ?_)
  · exact absurd h_1 (by omega)
  ·
    refine lv_lload_n hx hb dX12_reserve_4 rfl (lv_at hl 3 rfl) ?_
    refine lv_lconst (v := lz (0)) hx hb dX12_reserve_5 rfl ?_
    refine zr_ldc2 (z := 1000000000) hx hb hown (hts (.constantLong RX12 121 (1000000000)) (by decide +kernel)) rfl dX12_reserve_6 ?_
    refine zc_z (wr := [(x, .inr (13, [.int (iz (th)), .int (iz (6)), .ref am, .null, .ref tb, .ref lv, .int (iz (0)), .ref wt, .int (iz (0)), .ref bg, .ref pm, .int (iz (0))]))]) (va_runS (As := [.long (lz (mo)), .long (lz (0)), .long (lz (1000000000))]) (rest := []) ⟨hx, hb, hml, hown, hts⟩ (c_X12_in l G mo 0 1000000000 (by omega) (by omega) (by omega) H.size) (va_cwS 3 hts gX12_reserve_X12_in rfl rfl rfl (by decide +kernel) ⟨Nat.le_of_ble_eq_true rfl, Nat.le_of_ble_eq_true rfl⟩) (zpS hKX hP hD [] rfl rfl) rfl rfl hl.1 rfl (lv_room (Nat.le_of_ble_eq_true rfl)) dX12_reserve_9 ⟨(by first | exact Nat.le_of_ble_eq_true rfl | (show _ ≤ (0 : Nat); omega)), (by first | exact Nat.le_of_ble_eq_true rfl | (show _ ≤ (0 : Nat); omega))⟩) hP hD hS hA [] [0] rfl rfl rfl (by decide) (fun y1 u_2 H locs hy1 hP hD hS => ?_)
    have hP : va_P G.1 vwCl [(x, .inr (13, [.int (iz (th)), .int (iz (6)), .ref am, .null, .ref tb, .ref lv, .int (iz (0)), .ref wt, .int (iz (0)), .ref bg, .ref pm, .int (iz (0))]))] H := hP
    have hD : va_D A [(x, .inr (13, [.int (iz (th)), .int (iz (6)), .ref am, .null, .ref tb, .ref lv, .int (iz (0)), .ref wt, .int (iz (0)), .ref bg, .ref pm, .int (iz (0))]))] := hD
    have hy1 : y1 = decide ((0 : Int) ≤ mo ∧ mo ≤ (1000000000 : Int)) := hy1
    rw [show y1 = true from hy1.trans (decide_eq_true (by omega))]
    refine zr_ifz_eq (tgt := 27) hx hb dX12_reserve_12 (by decide) (fun h_4 => ?_) (fun h_4 => ?_)
    · exact absurd h_4 (by decide)
    ·
      refine lv_iload hx hb dX12_reserve_15 (lv_at hl 4 rfl) ?_
      refine zc_z (wr := [(x, .inr (13, [.int (iz (th)), .int (iz (6)), .ref am, .null, .ref tb, .ref lv, .int (iz (0)), .ref wt, .int (iz (0)), .ref bg, .ref pm, .int (iz (0))]))]) (va_runS (As := [.int (iz (po))]) (rest := []) ⟨hx, hb, hml, hown, hts⟩ (c_X12_isRate l G po (by omega) H.size) (va_cwS 1 hts gX12_reserve_X12_isRate rfl rfl rfl (by decide +kernel) ⟨Nat.le_of_ble_eq_true rfl, Nat.le_of_ble_eq_true rfl⟩) (zpS hKX hP hD [] rfl rfl) rfl rfl hl.1 rfl (lv_room (Nat.le_of_ble_eq_true rfl)) dX12_reserve_17 ⟨(by first | exact Nat.le_of_ble_eq_true rfl | (show _ ≤ (0 : Nat); omega)), (by first | exact Nat.le_of_ble_eq_true rfl | (show _ ≤ (0 : Nat); omega))⟩) hP hD hS hA [] [0] rfl rfl rfl (by decide) (fun y2 u_5 H locs hy2 hP hD hS => ?_)
      have hP : va_P G.1 vwCl [(x, .inr (13, [.int (iz (th)), .int (iz (6)), .ref am, .null, .ref tb, .ref lv, .int (iz (0)), .ref wt, .int (iz (0)), .ref bg, .ref pm, .int (iz (0))]))] H := hP
      have hD : va_D A [(x, .inr (13, [.int (iz (th)), .int (iz (6)), .ref am, .null, .ref tb, .ref lv, .int (iz (0)), .ref wt, .int (iz (0)), .ref bg, .ref pm, .int (iz (0))]))] := hD
      have hy2 : y2 = decide (0 ≤ po ∧ po ≤ 20000) := hy2
      rw [show y2 = true from hy2.trans (decide_eq_true (by omega))]
      refine zr_ifz_eq (tgt := 27) hx hb dX12_reserve_20 (by decide) (fun h_7 => ?_) (fun h_7 => ?_)
      · exact absurd h_7 (by decide)
      ·
        refine lv_iconst (v := iz (1)) hx hb dX12_reserve_23 rfl ?_
        refine lv_goto (tgt := 28) hx hb dX12_reserve_24 (by decide) ?_
        refine lv_istore (lv' := [(7, .int (iz (1))), (0, .ref x), (1, .int (iz (ag))), (2, .int (iz (ye))), (3, .long (lz (mo))), (5, .int (iz (po))), (6, .int (iz (zbb bk)))]) hx hb dX12_reserve_28 hl (by decide) rfl (fun ls hl => ?_)
        refine lv_iload_n hx hb dX12_reserve_30 rfl (lv_at hl 2 rfl) ?_
        refine zr_i2l hx hb (x := ag) (⟨by omega, by omega⟩) dX12_reserve_31 ?_
        refine lv_lconst (v := lz (0)) hx hb dX12_reserve_32 rfl ?_
        refine lv_aload_n hx hb dX12_reserve_33 rfl (lv_at hl 1 rfl) ?_
        refine va_get (D := G.1) (ci := 13) (v := .int (iz (0))) (C := RX12) (T := TX12) (N := 12) hx hb hts iwX12 hown hK hP 0 rfl rfl 6 (by decide) (hts (.fieldLink RX12 254 "AnnuityHouseModel" "ages" "I") (by decide +kernel)) (fun _ h9 => h9) rfl dX12_reserve_34 ?_
        refine lv_iconst (v := iz (1)) hx hb dX12_reserve_37 rfl ?_
        refine zr_isub hx hb dX12_reserve_38 ?_
        refine zr_i2l hx hb (x := 0 - 1) (⟨by decide, by decide⟩) dX12_reserve_39 ?_
        refine zc_z (wr := [(x, .inr (13, [.int (iz (th)), .int (iz (6)), .ref am, .null, .ref tb, .ref lv, .int (iz (0)), .ref wt, .int (iz (0)), .ref bg, .ref pm, .int (iz (0))]))]) (va_runS (As := [.long (lz (ag)), .long (lz (0)), .long (lz (0 - 1))]) (rest := []) ⟨hx, hb, hml, hown, hts⟩ (c_X12_in l G ag 0 (0 - 1) (by omega) (by omega) (by omega) H.size) (va_cwS 3 hts gX12_reserve_X12_in rfl rfl rfl (by decide +kernel) ⟨Nat.le_of_ble_eq_true rfl, Nat.le_of_ble_eq_true rfl⟩) (zpS hKX hP hD [] rfl rfl) rfl rfl hl.1 rfl (lv_room (Nat.le_of_ble_eq_true rfl)) dX12_reserve_40 ⟨(by first | exact Nat.le_of_ble_eq_true rfl | (show _ ≤ (0 : Nat); omega)), (by first | exact Nat.le_of_ble_eq_true rfl | (show _ ≤ (0 : Nat); omega))⟩) hP hD hS hA [] [0] rfl rfl rfl (by decide) (fun y3 u_8 H locs hy3 hP hD hS => ?_)
        have hP : va_P G.1 vwCl [(x, .inr (13, [.int (iz (th)), .int (iz (6)), .ref am, .null, .ref tb, .ref lv, .int (iz (0)), .ref wt, .int (iz (0)), .ref bg, .ref pm, .int (iz (0))]))] H := hP
        have hD : va_D A [(x, .inr (13, [.int (iz (th)), .int (iz (6)), .ref am, .null, .ref tb, .ref lv, .int (iz (0)), .ref wt, .int (iz (0)), .ref bg, .ref pm, .int (iz (0))]))] := hD
        have hy3 : y3 = decide ((0 : Int) ≤ ag ∧ ag ≤ (0 - 1)) := hy3
        rw [show y3 = false from hy3.trans (decide_eq_false (by omega))]
        refine zr_ifz_eq (tgt := 60) hx hb dX12_reserve_43 (by decide) (fun h_10 => ?_) (fun h_10 => ?_)
        ·
          refine lv_iconst (v := iz (0)) hx hb dX12_reserve_60 rfl ?_
          refine lv_istore (lv' := [(8, .int (iz (0))), (7, .int (iz (1))), (0, .ref x), (1, .int (iz (ag))), (2, .int (iz (ye))), (3, .long (lz (mo))), (5, .int (iz (po))), (6, .int (iz (zbb bk)))]) hx hb dX12_reserve_61 hl (by decide) rfl (fun ls hl => ?_)
          refine lv_null hx hb dX12_reserve_63 ?_
          refine lv_astoreN (lv' := [(9, .null), (8, .int (iz (0))), (7, .int (iz (1))), (0, .ref x), (1, .int (iz (ag))), (2, .int (iz (ye))), (3, .long (lz (mo))), (5, .int (iz (po))), (6, .int (iz (zbb bk)))]) hx hb dX12_reserve_64 hl (by decide) rfl (fun ls hl => ?_)
          refine lv_iload hx hb dX12_reserve_66 (lv_at hl 2 rfl) ?_
          refine zr_if_eq (x := 1) (tgt := 109) hx hb (⟨by omega, by omega⟩) dX12_reserve_68 (by decide) (fun h_11 => ?_) (fun h_11 => ?_)
          · exact absurd h_11 (by omega)
          ·
            refine lv_iload hx hb dX12_reserve_71 (lv_at hl 1 rfl) ?_
            refine zr_if_eq (x := 0) (tgt := 109) hx hb (⟨by omega, by omega⟩) dX12_reserve_73 (by decide) (fun h_12 => ?_) (fun h_12 => ?_)
            ·
              refine lv_aload_n hx hb dX12_reserve_109 rfl (lv_at hl 3 rfl) ?_
              refine lv_iload hx hb dX12_reserve_110 (lv_at hl 2 rfl) ?_
              refine lv_iload hx hb dX12_reserve_112 (lv_at hl 1 rfl) ?_
              refine lv_aloadN hx hb dX12_reserve_114 (lv_at hl 0 rfl) ?_
              refine lv_ifnullN (tgt := 123) hx hb dX12_reserve_116 (by decide) ?_
              refine lv_iconst (v := iz (0)) hx hb dX12_reserve_123 rfl ?_
              refine zc_z (wr := []) (va_runV (As := [.int (iz (1)), .int (iz (0)), .int (iz (0))]) (rest := []) ⟨hx, hb, hml, hown, hts⟩ (c_X12_passes l G x th (.ref am) .null (.ref tb) (.ref lv) (.int (iz (0))) (.ref wt) (.int (iz (0))) (.ref bg) (.ref pm) (.int (iz (0))) 6 true false false  H.size) (cwV 3 hts gX12_reserve_X12_passes rfl rfl rfl (by decide +kernel) ⟨Nat.le_of_ble_eq_true rfl, Nat.le_of_ble_eq_true rfl⟩) (zpV hKX hP hD [0] rfl rfl 0 13 rfl rfl) rfl rfl hl.1 rfl (lv_room (Nat.le_of_ble_eq_true rfl)) dX12_reserve_124 ⟨(by first | exact Nat.le_of_ble_eq_true rfl | (show _ ≤ (0 : Nat); omega)), (by first | exact Nat.le_of_ble_eq_true rfl | (show _ ≤ (0 : Nat); omega))⟩) hP hD hS hA [0] [] rfl rfl rfl (by decide) (fun pz u_13 H locs hp hP hD hS => ?_)
              generalize u_13 = thp at hP hD hp
              have hP : va_P G.1 vwCl [(x, .inr (13, [.int (iz (thp)), .int (iz ((6 : Int))), .ref am, .null, .ref tb, .ref lv, .int (iz (0)), .ref wt, .int (iz (0)), .ref bg, .ref pm, .int (iz (0))]))] H := hP
              have hD : va_D A [(x, .inr (13, [.int (iz (thp)), .int (iz ((6 : Int))), .ref am, .null, .ref tb, .ref lv, .int (iz (0)), .ref wt, .int (iz (0)), .ref bg, .ref pm, .int (iz (0))]))] := hD
              have hp : pz = (true && false && false) ∧ thp = zcode true false false := hp
              rw [show pz = false from hp.1]
              have htp := hp.2
              refine zr_ifz_eq (tgt := 139) hx hb dX12_reserve_127 (by decide) (fun h_15 => ?_) (fun h_15 => ?_)
              ·
                refine lv_lconst (v := lz (0)) hx hb dX12_reserve_139 rfl ?_
                rw [hQ]
                exact zr_lret (z := 0) (u := (thp)) hx hb hr hlocks hP hD hS (by first | exact Nat.le_of_ble_eq_true rfl | omega) (by first | exact Nat.le_of_ble_eq_true rfl | omega) dX12_reserve_140 (show 0 = 0 ∧ thp = 2 from ⟨rfl, htp⟩)
              · exact absurd h_15 (by decide)
            · exact absurd h_12 (by omega)
        · exact absurd h_10 (by decide)

def rm_c_X12_reserve_x : Room := { frames := 2, cells := 0, slots := 0, locals := 45 }
set_option maxHeartbeats 1000000 in
set_option maxRecDepth 100000 in
theorem c_X12_reserve_x (l : Launch) (G : zG) (x : Nat) (am : Nat) (tb : Nat) (lv : Nat) (wt : Nat) (bg : Nat) (pm : Nat) (th : Int) (ag : Int) (ye : Int) (mo : Int) (po : Int) (bk : Bool) (h0 : -2147483648 ≤ ag ∧ ag < 2147483648) (h01 : -9223372036854775808 ≤ mo ∧ mo < 9223372036854775808) (h02 : -2147483648 ≤ po ∧ po < 2147483648) (h03 : -2147483648 ≤ ye ∧ ye < 2147483648) (h1 : ¬ (0 ≤ ye ∧ 0 ≤ mo ∧ mo ≤ 1000000000 ∧ 0 ≤ po ∧ po ≤ 20000)) : zM l G yX12_reserve wsX12_reserve rm_c_X12_reserve_x [.ref x, .int (iz (ag)), .int (iz (ye)), .long (lz (mo)), .int (iz (po)), .int (iz (zbb bk))] [(x, .inr (13, [.int (iz (th)), .int (iz (6)), .ref am, .null, .ref tb, .ref lv, .int (iz (0)), .ref wt, .int (iz (0)), .ref bg, .ref pm, .int (iz (0))]))] (fun A => zQl G (fun (z : Int) (th2 : Int) => z = 0 ∧ th2 = 1) (fun (th2 : Int) => [(x, .inr (13, [.int (iz (th2)), .int (iz (6)), .ref am, .null, .ref tb, .ref lv, .int (iz (0)), .ref wt, .int (iz (0)), .ref bg, .ref pm, .int (iz (0))]))]) A) 0 0 := by
  refine zM_of (cc := cX12_reserve) (maxL := 11) (ret := (some .long)) (by decide) rfl (Nat.le_of_ble_eq_true rfl) ?_
  intro p e s m below meth c ls A Q hQ hx hb hr hts hown hlocks hml hnm hKX hP hD hA hS hl
  have hK := hKX.1
  have iwX12 := iw_X12_reserve_X12
  obtain ⟨H, hH⟩ : ∃ h, h = s.heap := ⟨_, rfl⟩
  obtain ⟨locs, hlo⟩ : ∃ h : List Loc, h = [] := ⟨_, rfl⟩
  have hS : va_S A s.heap H locs := by rw [hH, hlo]; exact hS
  have hP : va_P G.1 vwCl [(x, .inr (13, [.int (iz (th)), .int (iz (6)), .ref am, .null, .ref tb, .ref lv, .int (iz (0)), .ref wt, .int (iz (0)), .ref bg, .ref pm, .int (iz (0))]))] H := by rw [hH]; exact hP
  have hD : va_D A [(x, .inr (13, [.int (iz (th)), .int (iz (6)), .ref am, .null, .ref tb, .ref lv, .int (iz (0)), .ref wt, .int (iz (0)), .ref bg, .ref pm, .int (iz (0))]))] := hD
  have hl : lv_has ls 11 [(0, .ref x), (1, .int (iz (ag))), (2, .int (iz (ye))), (3, .long (lz (mo))), (5, .int (iz (po))), (6, .int (iz (zbb bk)))] := hl
  rw [← hH, ← hlo]
  refine lv_iload_n hx hb dX12_reserve_0 rfl (lv_at hl 2 rfl) ?_
  refine zr_if_lt (x := ye) (tgt := 27) hx hb (⟨by omega, by omega⟩) dX12_reserve_1 (by decide) (fun h_1 => ?_) (fun h_1 => ?_)
  ·
    refine lv_iconst (v := iz (0)) hx hb dX12_reserve_27 rfl ?_
    refine lv_istore (lv' := [(7, .int (iz (0))), (0, .ref x), (1, .int (iz (ag))), (2, .int (iz (ye))), (3, .long (lz (mo))), (5, .int (iz (po))), (6, .int (iz (zbb bk)))]) hx hb dX12_reserve_28 hl (by decide) rfl (fun ls hl => ?_)
    refine lv_iload_n hx hb dX12_reserve_30 rfl (lv_at hl 2 rfl) ?_
    refine zr_i2l hx hb (x := ag) (⟨by omega, by omega⟩) dX12_reserve_31 ?_
    refine lv_lconst (v := lz (0)) hx hb dX12_reserve_32 rfl ?_
    refine lv_aload_n hx hb dX12_reserve_33 rfl (lv_at hl 1 rfl) ?_
    refine va_get (D := G.1) (ci := 13) (v := .int (iz (0))) (C := RX12) (T := TX12) (N := 12) hx hb hts iwX12 hown hK hP 0 rfl rfl 6 (by decide) (hts (.fieldLink RX12 254 "AnnuityHouseModel" "ages" "I") (by decide +kernel)) (fun _ h9 => h9) rfl dX12_reserve_34 ?_
    refine lv_iconst (v := iz (1)) hx hb dX12_reserve_37 rfl ?_
    refine zr_isub hx hb dX12_reserve_38 ?_
    refine zr_i2l hx hb (x := 0 - 1) (⟨by decide, by decide⟩) dX12_reserve_39 ?_
    refine zc_z (wr := [(x, .inr (13, [.int (iz (th)), .int (iz (6)), .ref am, .null, .ref tb, .ref lv, .int (iz (0)), .ref wt, .int (iz (0)), .ref bg, .ref pm, .int (iz (0))]))]) (va_runS (As := [.long (lz (ag)), .long (lz (0)), .long (lz (0 - 1))]) (rest := []) ⟨hx, hb, hml, hown, hts⟩ (c_X12_in l G ag 0 (0 - 1) (by omega) (by omega) (by omega) H.size) (va_cwS 3 hts gX12_reserve_X12_in rfl rfl rfl (by decide +kernel) ⟨Nat.le_of_ble_eq_true rfl, Nat.le_of_ble_eq_true rfl⟩) (zpS hKX hP hD [] rfl rfl) rfl rfl hl.1 rfl (lv_room (Nat.le_of_ble_eq_true rfl)) dX12_reserve_40 ⟨(by first | exact Nat.le_of_ble_eq_true rfl | (show _ ≤ (0 : Nat); omega)), (by first | exact Nat.le_of_ble_eq_true rfl | (show _ ≤ (0 : Nat); omega))⟩) hP hD hS hA [] [0] rfl rfl rfl (by decide) (fun y3 u_2 H locs hy3 hP hD hS => ?_)
    have hP : va_P G.1 vwCl [(x, .inr (13, [.int (iz (th)), .int (iz (6)), .ref am, .null, .ref tb, .ref lv, .int (iz (0)), .ref wt, .int (iz (0)), .ref bg, .ref pm, .int (iz (0))]))] H := hP
    have hD : va_D A [(x, .inr (13, [.int (iz (th)), .int (iz (6)), .ref am, .null, .ref tb, .ref lv, .int (iz (0)), .ref wt, .int (iz (0)), .ref bg, .ref pm, .int (iz (0))]))] := hD
    have hy3 : y3 = decide ((0 : Int) ≤ ag ∧ ag ≤ (0 - 1)) := hy3
    rw [show y3 = false from hy3.trans (decide_eq_false (by omega))]
    refine zr_ifz_eq (tgt := 60) hx hb dX12_reserve_43 (by decide) (fun h_4 => ?_) (fun h_4 => ?_)
    ·
      refine lv_iconst (v := iz (0)) hx hb dX12_reserve_60 rfl ?_
      refine lv_istore (lv' := [(8, .int (iz (0))), (7, .int (iz (0))), (0, .ref x), (1, .int (iz (ag))), (2, .int (iz (ye))), (3, .long (lz (mo))), (5, .int (iz (po))), (6, .int (iz (zbb bk)))]) hx hb dX12_reserve_61 hl (by decide) rfl (fun ls hl => ?_)
      refine lv_null hx hb dX12_reserve_63 ?_
      refine lv_astoreN (lv' := [(9, .null), (8, .int (iz (0))), (7, .int (iz (0))), (0, .ref x), (1, .int (iz (ag))), (2, .int (iz (ye))), (3, .long (lz (mo))), (5, .int (iz (po))), (6, .int (iz (zbb bk)))]) hx hb dX12_reserve_64 hl (by decide) rfl (fun ls hl => ?_)
      refine lv_iload hx hb dX12_reserve_66 (lv_at hl 2 rfl) ?_
      refine zr_if_eq (x := 0) (tgt := 109) hx hb (⟨by omega, by omega⟩) dX12_reserve_68 (by decide) (fun h_5 => ?_) (fun h_5 => ?_)
      ·
        refine lv_aload_n hx hb dX12_reserve_109 rfl (lv_at hl 3 rfl) ?_
        refine lv_iload hx hb dX12_reserve_110 (lv_at hl 2 rfl) ?_
        refine lv_iload hx hb dX12_reserve_112 (lv_at hl 1 rfl) ?_
        refine lv_aloadN hx hb dX12_reserve_114 (lv_at hl 0 rfl) ?_
        refine lv_ifnullN (tgt := 123) hx hb dX12_reserve_116 (by decide) ?_
        refine lv_iconst (v := iz (0)) hx hb dX12_reserve_123 rfl ?_
        refine zc_z (wr := []) (va_runV (As := [.int (iz (0)), .int (iz (0)), .int (iz (0))]) (rest := []) ⟨hx, hb, hml, hown, hts⟩ (c_X12_passes l G x th (.ref am) .null (.ref tb) (.ref lv) (.int (iz (0))) (.ref wt) (.int (iz (0))) (.ref bg) (.ref pm) (.int (iz (0))) 6 false false false  H.size) (cwV 3 hts gX12_reserve_X12_passes rfl rfl rfl (by decide +kernel) ⟨Nat.le_of_ble_eq_true rfl, Nat.le_of_ble_eq_true rfl⟩) (zpV hKX hP hD [0] rfl rfl 0 13 rfl rfl) rfl rfl hl.1 rfl (lv_room (Nat.le_of_ble_eq_true rfl)) dX12_reserve_124 ⟨(by first | exact Nat.le_of_ble_eq_true rfl | (show _ ≤ (0 : Nat); omega)), (by first | exact Nat.le_of_ble_eq_true rfl | (show _ ≤ (0 : Nat); omega))⟩) hP hD hS hA [0] [] rfl rfl rfl (by decide) (fun pz u_6 H locs hp hP hD hS => ?_)
        generalize u_6 = thp at hP hD hp
        have hP : va_P G.1 vwCl [(x, .inr (13, [.int (iz (thp)), .int (iz ((6 : Int))), .ref am, .null, .ref tb, .ref lv, .int (iz (0)), .ref wt, .int (iz (0)), .ref bg, .ref pm, .int (iz (0))]))] H := hP
        have hD : va_D A [(x, .inr (13, [.int (iz (thp)), .int (iz ((6 : Int))), .ref am, .null, .ref tb, .ref lv, .int (iz (0)), .ref wt, .int (iz (0)), .ref bg, .ref pm, .int (iz (0))]))] := hD
        have hp : pz = (false && false && false) ∧ thp = zcode false false false := hp
        rw [show pz = false from hp.1]
        have htp := hp.2
        refine zr_ifz_eq (tgt := 139) hx hb dX12_reserve_127 (by decide) (fun h_8 => ?_) (fun h_8 => ?_)
        ·
          refine lv_lconst (v := lz (0)) hx hb dX12_reserve_139 rfl ?_
          rw [hQ]
          exact zr_lret (z := 0) (u := (thp)) hx hb hr hlocks hP hD hS (by first | exact Nat.le_of_ble_eq_true rfl | omega) (by first | exact Nat.le_of_ble_eq_true rfl | omega) dX12_reserve_140 (show 0 = 0 ∧ thp = 1 from ⟨rfl, htp⟩)
        · exact absurd h_8 (by decide)
      · exact absurd h_5 (by omega)
    · exact absurd h_4 (by decide)
  ·
    refine lv_lload_n hx hb dX12_reserve_4 rfl (lv_at hl 3 rfl) ?_
    refine lv_lconst (v := lz (0)) hx hb dX12_reserve_5 rfl ?_
    refine zr_ldc2 (z := 1000000000) hx hb hown (hts (.constantLong RX12 121 (1000000000)) (by decide +kernel)) rfl dX12_reserve_6 ?_
    refine zc_z (wr := [(x, .inr (13, [.int (iz (th)), .int (iz (6)), .ref am, .null, .ref tb, .ref lv, .int (iz (0)), .ref wt, .int (iz (0)), .ref bg, .ref pm, .int (iz (0))]))]) (va_runS (As := [.long (lz (mo)), .long (lz (0)), .long (lz (1000000000))]) (rest := []) ⟨hx, hb, hml, hown, hts⟩ (c_X12_in l G mo 0 1000000000 (by omega) (by omega) (by omega) H.size) (va_cwS 3 hts gX12_reserve_X12_in rfl rfl rfl (by decide +kernel) ⟨Nat.le_of_ble_eq_true rfl, Nat.le_of_ble_eq_true rfl⟩) (zpS hKX hP hD [] rfl rfl) rfl rfl hl.1 rfl (lv_room (Nat.le_of_ble_eq_true rfl)) dX12_reserve_9 ⟨(by first | exact Nat.le_of_ble_eq_true rfl | (show _ ≤ (0 : Nat); omega)), (by first | exact Nat.le_of_ble_eq_true rfl | (show _ ≤ (0 : Nat); omega))⟩) hP hD hS hA [] [0] rfl rfl rfl (by decide) (fun y1 u_9 H locs hy1 hP hD hS => ?_)
    have hP : va_P G.1 vwCl [(x, .inr (13, [.int (iz (th)), .int (iz (6)), .ref am, .null, .ref tb, .ref lv, .int (iz (0)), .ref wt, .int (iz (0)), .ref bg, .ref pm, .int (iz (0))]))] H := hP
    have hD : va_D A [(x, .inr (13, [.int (iz (th)), .int (iz (6)), .ref am, .null, .ref tb, .ref lv, .int (iz (0)), .ref wt, .int (iz (0)), .ref bg, .ref pm, .int (iz (0))]))] := hD
    have hy1 : y1 = decide ((0 : Int) ≤ mo ∧ mo ≤ (1000000000 : Int)) := hy1
    refine zr_ifz_eq (tgt := 27) hx hb dX12_reserve_12 (by decide) (fun h_11 => ?_) (fun h_11 => ?_)
    ·
      have hzy1 := of_decide_eq_false (hy1.symm.trans h_11)
      refine lv_iconst (v := iz (0)) hx hb dX12_reserve_27 rfl ?_
      refine lv_istore (lv' := [(7, .int (iz (0))), (0, .ref x), (1, .int (iz (ag))), (2, .int (iz (ye))), (3, .long (lz (mo))), (5, .int (iz (po))), (6, .int (iz (zbb bk)))]) hx hb dX12_reserve_28 hl (by decide) rfl (fun ls hl => ?_)
      refine lv_iload_n hx hb dX12_reserve_30 rfl (lv_at hl 2 rfl) ?_
      refine zr_i2l hx hb (x := ag) (⟨by omega, by omega⟩) dX12_reserve_31 ?_
      refine lv_lconst (v := lz (0)) hx hb dX12_reserve_32 rfl ?_
      refine lv_aload_n hx hb dX12_reserve_33 rfl (lv_at hl 1 rfl) ?_
      refine va_get (D := G.1) (ci := 13) (v := .int (iz (0))) (C := RX12) (T := TX12) (N := 12) hx hb hts iwX12 hown hK hP 0 rfl rfl 6 (by decide) (hts (.fieldLink RX12 254 "AnnuityHouseModel" "ages" "I") (by decide +kernel)) (fun _ h9 => h9) rfl dX12_reserve_34 ?_
      refine lv_iconst (v := iz (1)) hx hb dX12_reserve_37 rfl ?_
      refine zr_isub hx hb dX12_reserve_38 ?_
      refine zr_i2l hx hb (x := 0 - 1) (⟨by decide, by decide⟩) dX12_reserve_39 ?_
      refine zc_z (wr := [(x, .inr (13, [.int (iz (th)), .int (iz (6)), .ref am, .null, .ref tb, .ref lv, .int (iz (0)), .ref wt, .int (iz (0)), .ref bg, .ref pm, .int (iz (0))]))]) (va_runS (As := [.long (lz (ag)), .long (lz (0)), .long (lz (0 - 1))]) (rest := []) ⟨hx, hb, hml, hown, hts⟩ (c_X12_in l G ag 0 (0 - 1) (by omega) (by omega) (by omega) H.size) (va_cwS 3 hts gX12_reserve_X12_in rfl rfl rfl (by decide +kernel) ⟨Nat.le_of_ble_eq_true rfl, Nat.le_of_ble_eq_true rfl⟩) (zpS hKX hP hD [] rfl rfl) rfl rfl hl.1 rfl (lv_room (Nat.le_of_ble_eq_true rfl)) dX12_reserve_40 ⟨(by first | exact Nat.le_of_ble_eq_true rfl | (show _ ≤ (0 : Nat); omega)), (by first | exact Nat.le_of_ble_eq_true rfl | (show _ ≤ (0 : Nat); omega))⟩) hP hD hS hA [] [0] rfl rfl rfl (by decide) (fun y3 u_12 H locs hy3 hP hD hS => ?_)
      have hP : va_P G.1 vwCl [(x, .inr (13, [.int (iz (th)), .int (iz (6)), .ref am, .null, .ref tb, .ref lv, .int (iz (0)), .ref wt, .int (iz (0)), .ref bg, .ref pm, .int (iz (0))]))] H := hP
      have hD : va_D A [(x, .inr (13, [.int (iz (th)), .int (iz (6)), .ref am, .null, .ref tb, .ref lv, .int (iz (0)), .ref wt, .int (iz (0)), .ref bg, .ref pm, .int (iz (0))]))] := hD
      have hy3 : y3 = decide ((0 : Int) ≤ ag ∧ ag ≤ (0 - 1)) := hy3
      rw [show y3 = false from hy3.trans (decide_eq_false (by omega))]
      refine zr_ifz_eq (tgt := 60) hx hb dX12_reserve_43 (by decide) (fun h_14 => ?_) (fun h_14 => ?_)
      ·
        refine lv_iconst (v := iz (0)) hx hb dX12_reserve_60 rfl ?_
        refine lv_istore (lv' := [(8, .int (iz (0))), (7, .int (iz (0))), (0, .ref x), (1, .int (iz (ag))), (2, .int (iz (ye))), (3, .long (lz (mo))), (5, .int (iz (po))), (6, .int (iz (zbb bk)))]) hx hb dX12_reserve_61 hl (by decide) rfl (fun ls hl => ?_)
        refine lv_null hx hb dX12_reserve_63 ?_
        refine lv_astoreN (lv' := [(9, .null), (8, .int (iz (0))), (7, .int (iz (0))), (0, .ref x), (1, .int (iz (ag))), (2, .int (iz (ye))), (3, .long (lz (mo))), (5, .int (iz (po))), (6, .int (iz (zbb bk)))]) hx hb dX12_reserve_64 hl (by decide) rfl (fun ls hl => ?_)
        refine lv_iload hx hb dX12_reserve_66 (lv_at hl 2 rfl) ?_
        refine zr_if_eq (x := 0) (tgt := 109) hx hb (⟨by omega, by omega⟩) dX12_reserve_68 (by decide) (fun h_15 => ?_) (fun h_15 => ?_)
        ·
          refine lv_aload_n hx hb dX12_reserve_109 rfl (lv_at hl 3 rfl) ?_
          refine lv_iload hx hb dX12_reserve_110 (lv_at hl 2 rfl) ?_
          refine lv_iload hx hb dX12_reserve_112 (lv_at hl 1 rfl) ?_
          refine lv_aloadN hx hb dX12_reserve_114 (lv_at hl 0 rfl) ?_
          refine lv_ifnullN (tgt := 123) hx hb dX12_reserve_116 (by decide) ?_
          refine lv_iconst (v := iz (0)) hx hb dX12_reserve_123 rfl ?_
          refine zc_z (wr := []) (va_runV (As := [.int (iz (0)), .int (iz (0)), .int (iz (0))]) (rest := []) ⟨hx, hb, hml, hown, hts⟩ (c_X12_passes l G x th (.ref am) .null (.ref tb) (.ref lv) (.int (iz (0))) (.ref wt) (.int (iz (0))) (.ref bg) (.ref pm) (.int (iz (0))) 6 false false false  H.size) (cwV 3 hts gX12_reserve_X12_passes rfl rfl rfl (by decide +kernel) ⟨Nat.le_of_ble_eq_true rfl, Nat.le_of_ble_eq_true rfl⟩) (zpV hKX hP hD [0] rfl rfl 0 13 rfl rfl) rfl rfl hl.1 rfl (lv_room (Nat.le_of_ble_eq_true rfl)) dX12_reserve_124 ⟨(by first | exact Nat.le_of_ble_eq_true rfl | (show _ ≤ (0 : Nat); omega)), (by first | exact Nat.le_of_ble_eq_true rfl | (show _ ≤ (0 : Nat); omega))⟩) hP hD hS hA [0] [] rfl rfl rfl (by decide) (fun pz u_16 H locs hp hP hD hS => ?_)
          generalize u_16 = thp at hP hD hp
          have hP : va_P G.1 vwCl [(x, .inr (13, [.int (iz (thp)), .int (iz ((6 : Int))), .ref am, .null, .ref tb, .ref lv, .int (iz (0)), .ref wt, .int (iz (0)), .ref bg, .ref pm, .int (iz (0))]))] H := hP
          have hD : va_D A [(x, .inr (13, [.int (iz (thp)), .int (iz ((6 : Int))), .ref am, .null, .ref tb, .ref lv, .int (iz (0)), .ref wt, .int (iz (0)), .ref bg, .ref pm, .int (iz (0))]))] := hD
          have hp : pz = (false && false && false) ∧ thp = zcode false false false := hp
          rw [show pz = false from hp.1]
          have htp := hp.2
          refine zr_ifz_eq (tgt := 139) hx hb dX12_reserve_127 (by decide) (fun h_18 => ?_) (fun h_18 => ?_)
          ·
            refine lv_lconst (v := lz (0)) hx hb dX12_reserve_139 rfl ?_
            rw [hQ]
            exact zr_lret (z := 0) (u := (thp)) hx hb hr hlocks hP hD hS (by first | exact Nat.le_of_ble_eq_true rfl | omega) (by first | exact Nat.le_of_ble_eq_true rfl | omega) dX12_reserve_140 (show 0 = 0 ∧ thp = 1 from ⟨rfl, htp⟩)
          · exact absurd h_18 (by decide)
        · exact absurd h_15 (by omega)
      · exact absurd h_14 (by decide)
    ·
      have hzy1 := of_decide_eq_true (hy1.symm.trans h_11)
      refine lv_iload hx hb dX12_reserve_15 (lv_at hl 4 rfl) ?_
      refine zc_z (wr := [(x, .inr (13, [.int (iz (th)), .int (iz (6)), .ref am, .null, .ref tb, .ref lv, .int (iz (0)), .ref wt, .int (iz (0)), .ref bg, .ref pm, .int (iz (0))]))]) (va_runS (As := [.int (iz (po))]) (rest := []) ⟨hx, hb, hml, hown, hts⟩ (c_X12_isRate l G po (by omega) H.size) (va_cwS 1 hts gX12_reserve_X12_isRate rfl rfl rfl (by decide +kernel) ⟨Nat.le_of_ble_eq_true rfl, Nat.le_of_ble_eq_true rfl⟩) (zpS hKX hP hD [] rfl rfl) rfl rfl hl.1 rfl (lv_room (Nat.le_of_ble_eq_true rfl)) dX12_reserve_17 ⟨(by first | exact Nat.le_of_ble_eq_true rfl | (show _ ≤ (0 : Nat); omega)), (by first | exact Nat.le_of_ble_eq_true rfl | (show _ ≤ (0 : Nat); omega))⟩) hP hD hS hA [] [0] rfl rfl rfl (by decide) (fun y2 u_19 H locs hy2 hP hD hS => ?_)
      have hP : va_P G.1 vwCl [(x, .inr (13, [.int (iz (th)), .int (iz (6)), .ref am, .null, .ref tb, .ref lv, .int (iz (0)), .ref wt, .int (iz (0)), .ref bg, .ref pm, .int (iz (0))]))] H := hP
      have hD : va_D A [(x, .inr (13, [.int (iz (th)), .int (iz (6)), .ref am, .null, .ref tb, .ref lv, .int (iz (0)), .ref wt, .int (iz (0)), .ref bg, .ref pm, .int (iz (0))]))] := hD
      have hy2 : y2 = decide (0 ≤ po ∧ po ≤ 20000) := hy2
      refine zr_ifz_eq (tgt := 27) hx hb dX12_reserve_20 (by decide) (fun h_21 => ?_) (fun h_21 => ?_)
      ·
        have hzy2 := of_decide_eq_false (hy2.symm.trans h_21)
        refine lv_iconst (v := iz (0)) hx hb dX12_reserve_27 rfl ?_
        refine lv_istore (lv' := [(7, .int (iz (0))), (0, .ref x), (1, .int (iz (ag))), (2, .int (iz (ye))), (3, .long (lz (mo))), (5, .int (iz (po))), (6, .int (iz (zbb bk)))]) hx hb dX12_reserve_28 hl (by decide) rfl (fun ls hl => ?_)
        refine lv_iload_n hx hb dX12_reserve_30 rfl (lv_at hl 2 rfl) ?_
        refine zr_i2l hx hb (x := ag) (⟨by omega, by omega⟩) dX12_reserve_31 ?_
        refine lv_lconst (v := lz (0)) hx hb dX12_reserve_32 rfl ?_
        refine lv_aload_n hx hb dX12_reserve_33 rfl (lv_at hl 1 rfl) ?_
        refine va_get (D := G.1) (ci := 13) (v := .int (iz (0))) (C := RX12) (T := TX12) (N := 12) hx hb hts iwX12 hown hK hP 0 rfl rfl 6 (by decide) (hts (.fieldLink RX12 254 "AnnuityHouseModel" "ages" "I") (by decide +kernel)) (fun _ h9 => h9) rfl dX12_reserve_34 ?_
        refine lv_iconst (v := iz (1)) hx hb dX12_reserve_37 rfl ?_
        refine zr_isub hx hb dX12_reserve_38 ?_
        refine zr_i2l hx hb (x := 0 - 1) (⟨by decide, by decide⟩) dX12_reserve_39 ?_
        refine zc_z (wr := [(x, .inr (13, [.int (iz (th)), .int (iz (6)), .ref am, .null, .ref tb, .ref lv, .int (iz (0)), .ref wt, .int (iz (0)), .ref bg, .ref pm, .int (iz (0))]))]) (va_runS (As := [.long (lz (ag)), .long (lz (0)), .long (lz (0 - 1))]) (rest := []) ⟨hx, hb, hml, hown, hts⟩ (c_X12_in l G ag 0 (0 - 1) (by omega) (by omega) (by omega) H.size) (va_cwS 3 hts gX12_reserve_X12_in rfl rfl rfl (by decide +kernel) ⟨Nat.le_of_ble_eq_true rfl, Nat.le_of_ble_eq_true rfl⟩) (zpS hKX hP hD [] rfl rfl) rfl rfl hl.1 rfl (lv_room (Nat.le_of_ble_eq_true rfl)) dX12_reserve_40 ⟨(by first | exact Nat.le_of_ble_eq_true rfl | (show _ ≤ (0 : Nat); omega)), (by first | exact Nat.le_of_ble_eq_true rfl | (show _ ≤ (0 : Nat); omega))⟩) hP hD hS hA [] [0] rfl rfl rfl (by decide) (fun y3 u_22 H locs hy3 hP hD hS => ?_)
        have hP : va_P G.1 vwCl [(x, .inr (13, [.int (iz (th)), .int (iz (6)), .ref am, .null, .ref tb, .ref lv, .int (iz (0)), .ref wt, .int (iz (0)), .ref bg, .ref pm, .int (iz (0))]))] H := hP
        have hD : va_D A [(x, .inr (13, [.int (iz (th)), .int (iz (6)), .ref am, .null, .ref tb, .ref lv, .int (iz (0)), .ref wt, .int (iz (0)), .ref bg, .ref pm, .int (iz (0))]))] := hD
        have hy3 : y3 = decide ((0 : Int) ≤ ag ∧ ag ≤ (0 - 1)) := hy3
        rw [show y3 = false from hy3.trans (decide_eq_false (by omega))]
        refine zr_ifz_eq (tgt := 60) hx hb dX12_reserve_43 (by decide) (fun h_24 => ?_) (fun h_24 => ?_)
        ·
          refine lv_iconst (v := iz (0)) hx hb dX12_reserve_60 rfl ?_
          refine lv_istore (lv' := [(8, .int (iz (0))), (7, .int (iz (0))), (0, .ref x), (1, .int (iz (ag))), (2, .int (iz (ye))), (3, .long (lz (mo))), (5, .int (iz (po))), (6, .int (iz (zbb bk)))]) hx hb dX12_reserve_61 hl (by decide) rfl (fun ls hl => ?_)
          refine lv_null hx hb dX12_reserve_63 ?_
          refine lv_astoreN (lv' := [(9, .null), (8, .int (iz (0))), (7, .int (iz (0))), (0, .ref x), (1, .int (iz (ag))), (2, .int (iz (ye))), (3, .long (lz (mo))), (5, .int (iz (po))), (6, .int (iz (zbb bk)))]) hx hb dX12_reserve_64 hl (by decide) rfl (fun ls hl => ?_)
          refine lv_iload hx hb dX12_reserve_66 (lv_at hl 2 rfl) ?_
          refine zr_if_eq (x := 0) (tgt := 109) hx hb (⟨by omega, by omega⟩) dX12_reserve_68 (by decide) (fun h_25 => ?_) (fun h_25 => ?_)
          ·
            refine lv_aload_n hx hb dX12_reserve_109 rfl (lv_at hl 3 rfl) ?_
            refine lv_iload hx hb dX12_reserve_110 (lv_at hl 2 rfl) ?_
            refine lv_iload hx hb dX12_reserve_112 (lv_at hl 1 rfl) ?_
            refine lv_aloadN hx hb dX12_reserve_114 (lv_at hl 0 rfl) ?_
            refine lv_ifnullN (tgt := 123) hx hb dX12_reserve_116 (by decide) ?_
            refine lv_iconst (v := iz (0)) hx hb dX12_reserve_123 rfl ?_
            refine zc_z (wr := []) (va_runV (As := [.int (iz (0)), .int (iz (0)), .int (iz (0))]) (rest := []) ⟨hx, hb, hml, hown, hts⟩ (c_X12_passes l G x th (.ref am) .null (.ref tb) (.ref lv) (.int (iz (0))) (.ref wt) (.int (iz (0))) (.ref bg) (.ref pm) (.int (iz (0))) 6 false false false  H.size) (cwV 3 hts gX12_reserve_X12_passes rfl rfl rfl (by decide +kernel) ⟨Nat.le_of_ble_eq_true rfl, Nat.le_of_ble_eq_true rfl⟩) (zpV hKX hP hD [0] rfl rfl 0 13 rfl rfl) rfl rfl hl.1 rfl (lv_room (Nat.le_of_ble_eq_true rfl)) dX12_reserve_124 ⟨(by first | exact Nat.le_of_ble_eq_true rfl | (show _ ≤ (0 : Nat); omega)), (by first | exact Nat.le_of_ble_eq_true rfl | (show _ ≤ (0 : Nat); omega))⟩) hP hD hS hA [0] [] rfl rfl rfl (by decide) (fun pz u_26 H locs hp hP hD hS => ?_)
            generalize u_26 = thp at hP hD hp
            have hP : va_P G.1 vwCl [(x, .inr (13, [.int (iz (thp)), .int (iz ((6 : Int))), .ref am, .null, .ref tb, .ref lv, .int (iz (0)), .ref wt, .int (iz (0)), .ref bg, .ref pm, .int (iz (0))]))] H := hP
            have hD : va_D A [(x, .inr (13, [.int (iz (thp)), .int (iz ((6 : Int))), .ref am, .null, .ref tb, .ref lv, .int (iz (0)), .ref wt, .int (iz (0)), .ref bg, .ref pm, .int (iz (0))]))] := hD
            have hp : pz = (false && false && false) ∧ thp = zcode false false false := hp
            rw [show pz = false from hp.1]
            have htp := hp.2
            refine zr_ifz_eq (tgt := 139) hx hb dX12_reserve_127 (by decide) (fun h_28 => ?_) (fun h_28 => ?_)
            ·
              refine lv_lconst (v := lz (0)) hx hb dX12_reserve_139 rfl ?_
              rw [hQ]
              exact zr_lret (z := 0) (u := (thp)) hx hb hr hlocks hP hD hS (by first | exact Nat.le_of_ble_eq_true rfl | omega) (by first | exact Nat.le_of_ble_eq_true rfl | omega) dX12_reserve_140 (show 0 = 0 ∧ thp = 1 from ⟨rfl, htp⟩)
            · exact absurd h_28 (by decide)
          · exact absurd h_25 (by omega)
        · exact absurd h_24 (by decide)
      ·
        have hzy2 := of_decide_eq_true (hy2.symm.trans h_21)
        exact absurd h1 (by omega)

def rm_c_X12_isBond : Room := { frames := 1, cells := 0, slots := 0, locals := 25 }
set_option maxHeartbeats 1000000 in
set_option maxRecDepth 100000 in
theorem c_X12_isBond (l : Launch) (G : zG) (cp : Int) (fa : Int) (pr : Int) (h0 : -9223372036854775808 ≤ cp ∧ cp < 9223372036854775808) (h01 : -9223372036854775808 ≤ fa ∧ fa < 9223372036854775808) (h02 : -2147483648 ≤ pr ∧ pr < 2147483648) : zM l G yX12_isBond wsX12_isBond rm_c_X12_isBond [.long (lz (cp)), .long (lz (fa)), .int (iz (pr))] [] (fun A => zQz G (fun (z : Bool) (_ : Unit) => z = decide (0 ≤ cp ∧ cp ≤ 1000000000 ∧ 0 ≤ fa ∧ fa ≤ 1000000000 ∧ 1 ≤ pr ∧ pr ≤ 40)) (fun (_ : Unit) => []) A) 0 0 := by
  refine zM_of (cc := cX12_isBond) (maxL := 5) (ret := (some .boolean)) (by decide) rfl (Nat.le_of_ble_eq_true rfl) ?_
  intro p e s m below meth c ls A Q hQ hx hb hr hts hown hlocks hml hnm hKX hP hD hA hS hl
  have hK := hKX.1
  obtain ⟨H, hH⟩ : ∃ h, h = s.heap := ⟨_, rfl⟩
  obtain ⟨locs, hlo⟩ : ∃ h : List Loc, h = [] := ⟨_, rfl⟩
  have hS : va_S A s.heap H locs := by rw [hH, hlo]; exact hS
  have hP : va_P G.1 vwCl [] H := by rw [hH]; exact hP
  have hD : va_D A [] := hD
  have hl : lv_has ls 5 [(0, .long (lz (cp))), (2, .long (lz (fa))), (4, .int (iz (pr)))] := hl
  rw [← hH, ← hlo]
  refine lv_lload_n hx hb dX12_isBond_0 rfl (lv_at hl 0 rfl) ?_
  refine lv_lconst (v := lz (0)) hx hb dX12_isBond_1 rfl ?_
  refine zr_ldc2 (z := 1000000000) hx hb hown (hts (.constantLong RX12 121 (1000000000)) (by decide +kernel)) rfl dX12_isBond_2 ?_
  refine zc_z (wr := []) (va_runS (As := [.long (lz (cp)), .long (lz (0)), .long (lz (1000000000))]) (rest := []) ⟨hx, hb, hml, hown, hts⟩ (c_X12_in l G cp 0 1000000000 (by omega) (by omega) (by omega) H.size) (va_cwS 3 hts gX12_isBond_X12_in rfl rfl rfl (by decide +kernel) ⟨Nat.le_of_ble_eq_true rfl, Nat.le_of_ble_eq_true rfl⟩) (zpS hKX hP hD [] rfl rfl) rfl rfl hl.1 rfl (lv_room (Nat.le_of_ble_eq_true rfl)) dX12_isBond_5 ⟨(by first | exact Nat.le_of_ble_eq_true rfl | (show _ ≤ (0 : Nat); omega)), (by first | exact Nat.le_of_ble_eq_true rfl | (show _ ≤ (0 : Nat); omega))⟩) hP hD hS hA [] [] rfl rfl rfl (by decide) (fun y1 u_1 H locs hy1 hP hD hS => ?_)
  have hP : va_P G.1 vwCl [] H := hP
  have hD : va_D A [] := hD
  have hy1 : y1 = decide ((0 : Int) ≤ cp ∧ cp ≤ (1000000000 : Int)) := hy1
  refine zr_ifz_eq (tgt := 39) hx hb dX12_isBond_8 (by decide) (fun h_3 => ?_) (fun h_3 => ?_)
  ·
    have hzy1 := of_decide_eq_false (hy1.symm.trans h_3)
    refine lv_iconst (v := iz (0)) hx hb dX12_isBond_39 rfl ?_
    rw [hQ]
    exact zr_zret (z := false) (rfl) (u := ()) hx hb hr hlocks hP hD hS (by first | exact Nat.le_of_ble_eq_true rfl | omega) (by first | exact Nat.le_of_ble_eq_true rfl | omega) dX12_isBond_40 (show false = decide (0 ≤ cp ∧ cp ≤ 1000000000 ∧ 0 ≤ fa ∧ fa ≤ 1000000000 ∧ 1 ≤ pr ∧ pr ≤ 40) from by first | exact (decide_eq_true (by omega)).symm | exact (decide_eq_false (by omega)).symm)
  ·
    have hzy1 := of_decide_eq_true (hy1.symm.trans h_3)
    refine lv_lload_n hx hb dX12_isBond_11 rfl (lv_at hl 1 rfl) ?_
    refine lv_lconst (v := lz (0)) hx hb dX12_isBond_12 rfl ?_
    refine zr_ldc2 (z := 1000000000) hx hb hown (hts (.constantLong RX12 121 (1000000000)) (by decide +kernel)) rfl dX12_isBond_13 ?_
    refine zc_z (wr := []) (va_runS (As := [.long (lz (fa)), .long (lz (0)), .long (lz (1000000000))]) (rest := []) ⟨hx, hb, hml, hown, hts⟩ (c_X12_in l G fa 0 1000000000 (by omega) (by omega) (by omega) H.size) (va_cwS 3 hts gX12_isBond_X12_in rfl rfl rfl (by decide +kernel) ⟨Nat.le_of_ble_eq_true rfl, Nat.le_of_ble_eq_true rfl⟩) (zpS hKX hP hD [] rfl rfl) rfl rfl hl.1 rfl (lv_room (Nat.le_of_ble_eq_true rfl)) dX12_isBond_16 ⟨(by first | exact Nat.le_of_ble_eq_true rfl | (show _ ≤ (0 : Nat); omega)), (by first | exact Nat.le_of_ble_eq_true rfl | (show _ ≤ (0 : Nat); omega))⟩) hP hD hS hA [] [] rfl rfl rfl (by decide) (fun y2 u_4 H locs hy2 hP hD hS => ?_)
    have hP : va_P G.1 vwCl [] H := hP
    have hD : va_D A [] := hD
    have hy2 : y2 = decide ((0 : Int) ≤ fa ∧ fa ≤ (1000000000 : Int)) := hy2
    refine zr_ifz_eq (tgt := 39) hx hb dX12_isBond_19 (by decide) (fun h_6 => ?_) (fun h_6 => ?_)
    ·
      have hzy2 := of_decide_eq_false (hy2.symm.trans h_6)
      refine lv_iconst (v := iz (0)) hx hb dX12_isBond_39 rfl ?_
      rw [hQ]
      exact zr_zret (z := false) (rfl) (u := ()) hx hb hr hlocks hP hD hS (by first | exact Nat.le_of_ble_eq_true rfl | omega) (by first | exact Nat.le_of_ble_eq_true rfl | omega) dX12_isBond_40 (show false = decide (0 ≤ cp ∧ cp ≤ 1000000000 ∧ 0 ≤ fa ∧ fa ≤ 1000000000 ∧ 1 ≤ pr ∧ pr ≤ 40) from by first | exact (decide_eq_true (by omega)).symm | exact (decide_eq_false (by omega)).symm)
    ·
      have hzy2 := of_decide_eq_true (hy2.symm.trans h_6)
      refine lv_iload hx hb dX12_isBond_22 (lv_at hl 2 rfl) ?_
      refine zr_i2l hx hb (x := pr) (⟨by omega, by omega⟩) dX12_isBond_24 ?_
      refine lv_lconst (v := lz (1)) hx hb dX12_isBond_25 rfl ?_
      refine zr_ldc2 (z := 40) hx hb hown (hts (.constantLong RX12 125 (40)) (by decide +kernel)) rfl dX12_isBond_26 ?_
      refine zc_z (wr := []) (va_runS (As := [.long (lz (pr)), .long (lz (1)), .long (lz (40))]) (rest := []) ⟨hx, hb, hml, hown, hts⟩ (c_X12_in l G pr 1 40 (by omega) (by omega) (by omega) H.size) (va_cwS 3 hts gX12_isBond_X12_in rfl rfl rfl (by decide +kernel) ⟨Nat.le_of_ble_eq_true rfl, Nat.le_of_ble_eq_true rfl⟩) (zpS hKX hP hD [] rfl rfl) rfl rfl hl.1 rfl (lv_room (Nat.le_of_ble_eq_true rfl)) dX12_isBond_29 ⟨(by first | exact Nat.le_of_ble_eq_true rfl | (show _ ≤ (0 : Nat); omega)), (by first | exact Nat.le_of_ble_eq_true rfl | (show _ ≤ (0 : Nat); omega))⟩) hP hD hS hA [] [] rfl rfl rfl (by decide) (fun y3 u_7 H locs hy3 hP hD hS => ?_)
      have hP : va_P G.1 vwCl [] H := hP
      have hD : va_D A [] := hD
      have hy3 : y3 = decide ((1 : Int) ≤ pr ∧ pr ≤ (40 : Int)) := hy3
      refine zr_ifz_eq (tgt := 39) hx hb dX12_isBond_32 (by decide) (fun h_9 => ?_) (fun h_9 => ?_)
      ·
        have hzy3 := of_decide_eq_false (hy3.symm.trans h_9)
        refine lv_iconst (v := iz (0)) hx hb dX12_isBond_39 rfl ?_
        rw [hQ]
        exact zr_zret (z := false) (rfl) (u := ()) hx hb hr hlocks hP hD hS (by first | exact Nat.le_of_ble_eq_true rfl | omega) (by first | exact Nat.le_of_ble_eq_true rfl | omega) dX12_isBond_40 (show false = decide (0 ≤ cp ∧ cp ≤ 1000000000 ∧ 0 ≤ fa ∧ fa ≤ 1000000000 ∧ 1 ≤ pr ∧ pr ≤ 40) from by first | exact (decide_eq_true (by omega)).symm | exact (decide_eq_false (by omega)).symm)
      ·
        have hzy3 := of_decide_eq_true (hy3.symm.trans h_9)
        refine lv_iconst (v := iz (1)) hx hb dX12_isBond_35 rfl ?_
        refine lv_goto (tgt := 40) hx hb dX12_isBond_36 (by decide) ?_
        rw [hQ]
        exact zr_zret (z := true) (rfl) (u := ()) hx hb hr hlocks hP hD hS (by first | exact Nat.le_of_ble_eq_true rfl | omega) (by first | exact Nat.le_of_ble_eq_true rfl | omega) dX12_isBond_40 (show true = decide (0 ≤ cp ∧ cp ≤ 1000000000 ∧ 0 ≤ fa ∧ fa ≤ 1000000000 ∧ 1 ≤ pr ∧ pr ≤ 40) from by first | exact (decide_eq_true (by omega)).symm | exact (decide_eq_false (by omega)).symm)

def rm_c_X12_payMany_x : Room := { frames := 2, cells := 0, slots := 0, locals := 46 }
set_option maxHeartbeats 1000000 in
set_option maxRecDepth 100000 in
theorem c_X12_payMany_x (l : Launch) (G : zG) (x : Nat) (am : Nat) (tb : Nat) (lv : Nat) (wt : Nat) (bg : Nat) (pm : Nat) (th : Int) (fr : Int) (mn : Int) (mo : Int) (se : Int) (h0 : -2147483648 ≤ fr ∧ fr < 2147483648) (h01 : -2147483648 ≤ mn ∧ mn < 2147483648) (h02 : -9223372036854775808 ≤ mo ∧ mo < 9223372036854775808) (h03 : -9223372036854775808 ≤ se ∧ se < 9223372036854775808) (h1 : ¬ (0 ≤ fr ∧ fr ≤ 40 ∧ 1 ≤ mn ∧ mn ≤ 41 ∧ -1000000000 ≤ mo ∧ mo ≤ 1000000000 ∧ -1000000 ≤ se ∧ se ≤ 1000000 ∧ fr + mn ≤ 41)) : zM l G yX12_payMany wsX12_payMany rm_c_X12_payMany_x [.ref x, .int (iz (fr)), .int (iz (mn)), .long (lz (mo)), .long (lz (se))] [(x, .inr (13, [.int (iz (th)), .int (iz (6)), .ref am, .null, .ref tb, .ref lv, .int (iz (0)), .ref wt, .int (iz (0)), .ref bg, .ref pm, .int (iz (0))])), (am, zaL (G.2 0) 41 (fun _ => 0))] (fun A => zQi G (fun (z : Int) (th2 : Int) => z = 0 ∧ th2 = 1) (fun (th2 : Int) => [(x, .inr (13, [.int (iz (th2)), .int (iz (6)), .ref am, .null, .ref tb, .ref lv, .int (iz (0)), .ref wt, .int (iz (0)), .ref bg, .ref pm, .int (iz (0))]))]) A) 0 0 := by
  refine zM_of (cc := cX12_payMany) (maxL := 10) (ret := (some .int)) (by decide) rfl (Nat.le_of_ble_eq_true rfl) ?_
  intro p e s m below meth c ls A Q hQ hx hb hr hts hown hlocks hml hnm hKX hP hD hA hS hl
  have hK := hKX.1
  obtain ⟨H, hH⟩ : ∃ h, h = s.heap := ⟨_, rfl⟩
  obtain ⟨locs, hlo⟩ : ∃ h : List Loc, h = [] := ⟨_, rfl⟩
  have hS : va_S A s.heap H locs := by rw [hH, hlo]; exact hS
  have hP : va_P G.1 vwCl [(x, .inr (13, [.int (iz (th)), .int (iz (6)), .ref am, .null, .ref tb, .ref lv, .int (iz (0)), .ref wt, .int (iz (0)), .ref bg, .ref pm, .int (iz (0))])), (am, zaL (G.2 0) 41 (fun _ => 0))] H := by rw [hH]; exact hP
  have hD : va_D A [(x, .inr (13, [.int (iz (th)), .int (iz (6)), .ref am, .null, .ref tb, .ref lv, .int (iz (0)), .ref wt, .int (iz (0)), .ref bg, .ref pm, .int (iz (0))])), (am, zaL (G.2 0) 41 (fun _ => 0))] := hD
  have hl : lv_has ls 10 [(0, .ref x), (1, .int (iz (fr))), (2, .int (iz (mn))), (3, .long (lz (mo))), (5, .long (lz (se)))] := hl
  rw [← hH, ← hlo]
  refine lv_iload_n hx hb dX12_payMany_0 rfl (lv_at hl 1 rfl) ?_
  refine zr_i2l hx hb (x := fr) (⟨by omega, by omega⟩) dX12_payMany_1 ?_
  refine lv_lconst (v := lz (0)) hx hb dX12_payMany_2 rfl ?_
  refine zr_ldc2 (z := 40) hx hb hown (hts (.constantLong RX12 125 (40)) (by decide +kernel)) rfl dX12_payMany_3 ?_
  refine zc_z (wr := [(x, .inr (13, [.int (iz (th)), .int (iz (6)), .ref am, .null, .ref tb, .ref lv, .int (iz (0)), .ref wt, .int (iz (0)), .ref bg, .ref pm, .int (iz (0))])), (am, zaL (G.2 0) 41 (fun _ => 0))]) (va_runS (As := [.long (lz (fr)), .long (lz (0)), .long (lz (40))]) (rest := []) ⟨hx, hb, hml, hown, hts⟩ (c_X12_in l G fr 0 40 (by omega) (by omega) (by omega) H.size) (va_cwS 3 hts gX12_payMany_X12_in rfl rfl rfl (by decide +kernel) ⟨Nat.le_of_ble_eq_true rfl, Nat.le_of_ble_eq_true rfl⟩) (zpS hKX hP hD [] rfl rfl) rfl rfl hl.1 rfl (lv_room (Nat.le_of_ble_eq_true rfl)) dX12_payMany_6 ⟨(by first | exact Nat.le_of_ble_eq_true rfl | (show _ ≤ (0 : Nat); omega)), (by first | exact Nat.le_of_ble_eq_true rfl | (show _ ≤ (0 : Nat); omega))⟩) hP hD hS hA [] [0, 1] rfl rfl rfl (by decide) (fun y1 u_1 H locs hy1 hP hD hS => ?_)
  have hP : va_P G.1 vwCl [(x, .inr (13, [.int (iz (th)), .int (iz (6)), .ref am, .null, .ref tb, .ref lv, .int (iz (0)), .ref wt, .int (iz (0)), .ref bg, .ref pm, .int (iz (0))])), (am, zaL (G.2 0) 41 (fun _ => 0))] H := hP
  have hD : va_D A [(x, .inr (13, [.int (iz (th)), .int (iz (6)), .ref am, .null, .ref tb, .ref lv, .int (iz (0)), .ref wt, .int (iz (0)), .ref bg, .ref pm, .int (iz (0))])), (am, zaL (G.2 0) 41 (fun _ => 0))] := hD
  have hy1 : y1 = decide ((0 : Int) ≤ fr ∧ fr ≤ (40 : Int)) := hy1
  refine zr_ifz_eq (tgt := 57) hx hb dX12_payMany_9 (by decide) (fun h_3 => ?_) (fun h_3 => ?_)
  ·
    have hzy1 := of_decide_eq_false (hy1.symm.trans h_3)
    refine lv_iconst (v := iz (0)) hx hb dX12_payMany_57 rfl ?_
    refine lv_istore (lv' := [(7, .int (iz (0))), (0, .ref x), (1, .int (iz (fr))), (2, .int (iz (mn))), (3, .long (lz (mo))), (5, .long (lz (se)))]) hx hb dX12_payMany_58 hl (by decide) rfl (fun ls hl => ?_)
    refine lv_iload hx hb dX12_payMany_60 (lv_at hl 0 rfl) ?_
    refine lv_istore (lv' := [(8, .int (iz (0))), (7, .int (iz (0))), (0, .ref x), (1, .int (iz (fr))), (2, .int (iz (mn))), (3, .long (lz (mo))), (5, .long (lz (se)))]) hx hb dX12_payMany_62 hl (by decide) rfl (fun ls hl => ?_)
    refine lv_iconst (v := iz (0)) hx hb dX12_payMany_64 rfl ?_
    refine lv_istore (lv' := [(9, .int (iz (0))), (8, .int (iz (0))), (7, .int (iz (0))), (0, .ref x), (1, .int (iz (fr))), (2, .int (iz (mn))), (3, .long (lz (mo))), (5, .long (lz (se)))]) hx hb dX12_payMany_65 hl (by decide) rfl (fun ls hl => ?_)
    refine lv_iload hx hb dX12_payMany_67 (lv_at hl 2 rfl) ?_
    refine zr_if_eq (x := 0) (tgt := 110) hx hb (⟨by omega, by omega⟩) dX12_payMany_69 (by decide) (fun h_4 => ?_) (fun h_4 => ?_)
    ·
      refine lv_aload_n hx hb dX12_payMany_110 rfl (lv_at hl 3 rfl) ?_
      refine lv_iload hx hb dX12_payMany_111 (lv_at hl 2 rfl) ?_
      refine lv_iload hx hb dX12_payMany_113 (lv_at hl 1 rfl) ?_
      refine lv_iconst (v := iz (1)) hx hb dX12_payMany_115 rfl ?_
      refine zc_z (wr := [(am, zaL (G.2 0) 41 (fun _ => 0))]) (va_runV (As := [.int (iz (0)), .int (iz (0)), .int (iz (1))]) (rest := []) ⟨hx, hb, hml, hown, hts⟩ (c_X12_passes l G x th (.ref am) .null (.ref tb) (.ref lv) (.int (iz (0))) (.ref wt) (.int (iz (0))) (.ref bg) (.ref pm) (.int (iz (0))) 6 false false true  H.size) (cwV 3 hts gX12_payMany_X12_passes rfl rfl rfl (by decide +kernel) ⟨Nat.le_of_ble_eq_true rfl, Nat.le_of_ble_eq_true rfl⟩) (zpV hKX hP hD [0] rfl rfl 0 13 rfl rfl) rfl rfl hl.1 rfl (lv_room (Nat.le_of_ble_eq_true rfl)) dX12_payMany_116 ⟨(by first | exact Nat.le_of_ble_eq_true rfl | (show _ ≤ (0 : Nat); omega)), (by first | exact Nat.le_of_ble_eq_true rfl | (show _ ≤ (0 : Nat); omega))⟩) hP hD hS hA [0] [1] rfl rfl rfl (by decide) (fun pz u_5 H locs hp hP hD hS => ?_)
      generalize u_5 = thp at hP hD hp
      have hP : va_P G.1 vwCl [(am, zaL (G.2 0) 41 (fun _ => 0)), (x, .inr (13, [.int (iz (thp)), .int (iz ((6 : Int))), .ref am, .null, .ref tb, .ref lv, .int (iz (0)), .ref wt, .int (iz (0)), .ref bg, .ref pm, .int (iz (0))]))] H := hP
      have hD : va_D A [(am, zaL (G.2 0) 41 (fun _ => 0)), (x, .inr (13, [.int (iz (thp)), .int (iz ((6 : Int))), .ref am, .null, .ref tb, .ref lv, .int (iz (0)), .ref wt, .int (iz (0)), .ref bg, .ref pm, .int (iz (0))]))] := hD
      have hp : pz = (false && false && true) ∧ thp = zcode false false true := hp
      rw [show pz = false from hp.1]
      have htp := hp.2
      refine zr_ifz_ne (tgt := 124) hx hb dX12_payMany_119 (by decide) (fun h_7 => ?_) (fun h_7 => ?_)
      · exact absurd h_7 (by decide)
      ·
        refine lv_iconst (v := iz (0)) hx hb dX12_payMany_122 rfl ?_
        rw [hQ]
        exact zr_iret (z := 0) (u := (thp)) hx hb hr hlocks (hP.sub [1] rfl) (hD.sub [1] (by decide) rfl) hS (by first | exact Nat.le_of_ble_eq_true rfl | omega) (by first | exact Nat.le_of_ble_eq_true rfl | omega) dX12_payMany_123 (show 0 = 0 ∧ thp = 1 from ⟨rfl, htp⟩)
    · exact absurd h_4 (by omega)
  ·
    have hzy1 := of_decide_eq_true (hy1.symm.trans h_3)
    refine lv_iload_n hx hb dX12_payMany_12 rfl (lv_at hl 2 rfl) ?_
    refine zr_i2l hx hb (x := mn) (⟨by omega, by omega⟩) dX12_payMany_13 ?_
    refine lv_lconst (v := lz (1)) hx hb dX12_payMany_14 rfl ?_
    refine zr_ldc2 (z := 41) hx hb hown (hts (.constantLong RX12 131 (41)) (by decide +kernel)) rfl dX12_payMany_15 ?_
    refine zc_z (wr := [(x, .inr (13, [.int (iz (th)), .int (iz (6)), .ref am, .null, .ref tb, .ref lv, .int (iz (0)), .ref wt, .int (iz (0)), .ref bg, .ref pm, .int (iz (0))])), (am, zaL (G.2 0) 41 (fun _ => 0))]) (va_runS (As := [.long (lz (mn)), .long (lz (1)), .long (lz (41))]) (rest := []) ⟨hx, hb, hml, hown, hts⟩ (c_X12_in l G mn 1 41 (by omega) (by omega) (by omega) H.size) (va_cwS 3 hts gX12_payMany_X12_in rfl rfl rfl (by decide +kernel) ⟨Nat.le_of_ble_eq_true rfl, Nat.le_of_ble_eq_true rfl⟩) (zpS hKX hP hD [] rfl rfl) rfl rfl hl.1 rfl (lv_room (Nat.le_of_ble_eq_true rfl)) dX12_payMany_18 ⟨(by first | exact Nat.le_of_ble_eq_true rfl | (show _ ≤ (0 : Nat); omega)), (by first | exact Nat.le_of_ble_eq_true rfl | (show _ ≤ (0 : Nat); omega))⟩) hP hD hS hA [] [0, 1] rfl rfl rfl (by decide) (fun y2 u_8 H locs hy2 hP hD hS => ?_)
    have hP : va_P G.1 vwCl [(x, .inr (13, [.int (iz (th)), .int (iz (6)), .ref am, .null, .ref tb, .ref lv, .int (iz (0)), .ref wt, .int (iz (0)), .ref bg, .ref pm, .int (iz (0))])), (am, zaL (G.2 0) 41 (fun _ => 0))] H := hP
    have hD : va_D A [(x, .inr (13, [.int (iz (th)), .int (iz (6)), .ref am, .null, .ref tb, .ref lv, .int (iz (0)), .ref wt, .int (iz (0)), .ref bg, .ref pm, .int (iz (0))])), (am, zaL (G.2 0) 41 (fun _ => 0))] := hD
    have hy2 : y2 = decide ((1 : Int) ≤ mn ∧ mn ≤ (41 : Int)) := hy2
    refine zr_ifz_eq (tgt := 57) hx hb dX12_payMany_21 (by decide) (fun h_10 => ?_) (fun h_10 => ?_)
    ·
      have hzy2 := of_decide_eq_false (hy2.symm.trans h_10)
      refine lv_iconst (v := iz (0)) hx hb dX12_payMany_57 rfl ?_
      refine lv_istore (lv' := [(7, .int (iz (0))), (0, .ref x), (1, .int (iz (fr))), (2, .int (iz (mn))), (3, .long (lz (mo))), (5, .long (lz (se)))]) hx hb dX12_payMany_58 hl (by decide) rfl (fun ls hl => ?_)
      refine lv_iload hx hb dX12_payMany_60 (lv_at hl 0 rfl) ?_
      refine lv_istore (lv' := [(8, .int (iz (0))), (7, .int (iz (0))), (0, .ref x), (1, .int (iz (fr))), (2, .int (iz (mn))), (3, .long (lz (mo))), (5, .long (lz (se)))]) hx hb dX12_payMany_62 hl (by decide) rfl (fun ls hl => ?_)
      refine lv_iconst (v := iz (0)) hx hb dX12_payMany_64 rfl ?_
      refine lv_istore (lv' := [(9, .int (iz (0))), (8, .int (iz (0))), (7, .int (iz (0))), (0, .ref x), (1, .int (iz (fr))), (2, .int (iz (mn))), (3, .long (lz (mo))), (5, .long (lz (se)))]) hx hb dX12_payMany_65 hl (by decide) rfl (fun ls hl => ?_)
      refine lv_iload hx hb dX12_payMany_67 (lv_at hl 2 rfl) ?_
      refine zr_if_eq (x := 0) (tgt := 110) hx hb (⟨by omega, by omega⟩) dX12_payMany_69 (by decide) (fun h_11 => ?_) (fun h_11 => ?_)
      ·
        refine lv_aload_n hx hb dX12_payMany_110 rfl (lv_at hl 3 rfl) ?_
        refine lv_iload hx hb dX12_payMany_111 (lv_at hl 2 rfl) ?_
        refine lv_iload hx hb dX12_payMany_113 (lv_at hl 1 rfl) ?_
        refine lv_iconst (v := iz (1)) hx hb dX12_payMany_115 rfl ?_
        refine zc_z (wr := [(am, zaL (G.2 0) 41 (fun _ => 0))]) (va_runV (As := [.int (iz (0)), .int (iz (0)), .int (iz (1))]) (rest := []) ⟨hx, hb, hml, hown, hts⟩ (c_X12_passes l G x th (.ref am) .null (.ref tb) (.ref lv) (.int (iz (0))) (.ref wt) (.int (iz (0))) (.ref bg) (.ref pm) (.int (iz (0))) 6 false false true  H.size) (cwV 3 hts gX12_payMany_X12_passes rfl rfl rfl (by decide +kernel) ⟨Nat.le_of_ble_eq_true rfl, Nat.le_of_ble_eq_true rfl⟩) (zpV hKX hP hD [0] rfl rfl 0 13 rfl rfl) rfl rfl hl.1 rfl (lv_room (Nat.le_of_ble_eq_true rfl)) dX12_payMany_116 ⟨(by first | exact Nat.le_of_ble_eq_true rfl | (show _ ≤ (0 : Nat); omega)), (by first | exact Nat.le_of_ble_eq_true rfl | (show _ ≤ (0 : Nat); omega))⟩) hP hD hS hA [0] [1] rfl rfl rfl (by decide) (fun pz u_12 H locs hp hP hD hS => ?_)
        generalize u_12 = thp at hP hD hp
        have hP : va_P G.1 vwCl [(am, zaL (G.2 0) 41 (fun _ => 0)), (x, .inr (13, [.int (iz (thp)), .int (iz ((6 : Int))), .ref am, .null, .ref tb, .ref lv, .int (iz (0)), .ref wt, .int (iz (0)), .ref bg, .ref pm, .int (iz (0))]))] H := hP
        have hD : va_D A [(am, zaL (G.2 0) 41 (fun _ => 0)), (x, .inr (13, [.int (iz (thp)), .int (iz ((6 : Int))), .ref am, .null, .ref tb, .ref lv, .int (iz (0)), .ref wt, .int (iz (0)), .ref bg, .ref pm, .int (iz (0))]))] := hD
        have hp : pz = (false && false && true) ∧ thp = zcode false false true := hp
        rw [show pz = false from hp.1]
        have htp := hp.2
        refine zr_ifz_ne (tgt := 124) hx hb dX12_payMany_119 (by decide) (fun h_14 => ?_) (fun h_14 => ?_)
        · exact absurd h_14 (by decide)
        ·
          refine lv_iconst (v := iz (0)) hx hb dX12_payMany_122 rfl ?_
          rw [hQ]
          exact zr_iret (z := 0) (u := (thp)) hx hb hr hlocks (hP.sub [1] rfl) (hD.sub [1] (by decide) rfl) hS (by first | exact Nat.le_of_ble_eq_true rfl | omega) (by first | exact Nat.le_of_ble_eq_true rfl | omega) dX12_payMany_123 (show 0 = 0 ∧ thp = 1 from ⟨rfl, htp⟩)
      · exact absurd h_11 (by omega)
    ·
      have hzy2 := of_decide_eq_true (hy2.symm.trans h_10)
      refine lv_lload_n hx hb dX12_payMany_24 rfl (lv_at hl 3 rfl) ?_
      refine zc_z (wr := [(x, .inr (13, [.int (iz (th)), .int (iz (6)), .ref am, .null, .ref tb, .ref lv, .int (iz (0)), .ref wt, .int (iz (0)), .ref bg, .ref pm, .int (iz (0))])), (am, zaL (G.2 0) 41 (fun _ => 0))]) (va_runS (As := [.long (lz (mo))]) (rest := []) ⟨hx, hb, hml, hown, hts⟩ (c_X12_isAmount l G mo (by omega) H.size) (va_cwS 1 hts gX12_payMany_X12_isAmount rfl rfl rfl (by decide +kernel) ⟨Nat.le_of_ble_eq_true rfl, Nat.le_of_ble_eq_true rfl⟩) (zpS hKX hP hD [] rfl rfl) rfl rfl hl.1 rfl (lv_room (Nat.le_of_ble_eq_true rfl)) dX12_payMany_25 ⟨(by first | exact Nat.le_of_ble_eq_true rfl | (show _ ≤ (0 : Nat); omega)), (by first | exact Nat.le_of_ble_eq_true rfl | (show _ ≤ (0 : Nat); omega))⟩) hP hD hS hA [] [0, 1] rfl rfl rfl (by decide) (fun y3 u_15 H locs hy3 hP hD hS => ?_)
      have hP : va_P G.1 vwCl [(x, .inr (13, [.int (iz (th)), .int (iz (6)), .ref am, .null, .ref tb, .ref lv, .int (iz (0)), .ref wt, .int (iz (0)), .ref bg, .ref pm, .int (iz (0))])), (am, zaL (G.2 0) 41 (fun _ => 0))] H := hP
      have hD : va_D A [(x, .inr (13, [.int (iz (th)), .int (iz (6)), .ref am, .null, .ref tb, .ref lv, .int (iz (0)), .ref wt, .int (iz (0)), .ref bg, .ref pm, .int (iz (0))])), (am, zaL (G.2 0) 41 (fun _ => 0))] := hD
      have hy3 : y3 = decide (-1000000000 ≤ mo ∧ mo ≤ 1000000000) := hy3
      refine zr_ifz_eq (tgt := 57) hx hb dX12_payMany_28 (by decide) (fun h_17 => ?_) (fun h_17 => ?_)
      ·
        have hzy3 := of_decide_eq_false (hy3.symm.trans h_17)
        refine lv_iconst (v := iz (0)) hx hb dX12_payMany_57 rfl ?_
        refine lv_istore (lv' := [(7, .int (iz (0))), (0, .ref x), (1, .int (iz (fr))), (2, .int (iz (mn))), (3, .long (lz (mo))), (5, .long (lz (se)))]) hx hb dX12_payMany_58 hl (by decide) rfl (fun ls hl => ?_)
        refine lv_iload hx hb dX12_payMany_60 (lv_at hl 0 rfl) ?_
        refine lv_istore (lv' := [(8, .int (iz (0))), (7, .int (iz (0))), (0, .ref x), (1, .int (iz (fr))), (2, .int (iz (mn))), (3, .long (lz (mo))), (5, .long (lz (se)))]) hx hb dX12_payMany_62 hl (by decide) rfl (fun ls hl => ?_)
        refine lv_iconst (v := iz (0)) hx hb dX12_payMany_64 rfl ?_
        refine lv_istore (lv' := [(9, .int (iz (0))), (8, .int (iz (0))), (7, .int (iz (0))), (0, .ref x), (1, .int (iz (fr))), (2, .int (iz (mn))), (3, .long (lz (mo))), (5, .long (lz (se)))]) hx hb dX12_payMany_65 hl (by decide) rfl (fun ls hl => ?_)
        refine lv_iload hx hb dX12_payMany_67 (lv_at hl 2 rfl) ?_
        refine zr_if_eq (x := 0) (tgt := 110) hx hb (⟨by omega, by omega⟩) dX12_payMany_69 (by decide) (fun h_18 => ?_) (fun h_18 => ?_)
        ·
          refine lv_aload_n hx hb dX12_payMany_110 rfl (lv_at hl 3 rfl) ?_
          refine lv_iload hx hb dX12_payMany_111 (lv_at hl 2 rfl) ?_
          refine lv_iload hx hb dX12_payMany_113 (lv_at hl 1 rfl) ?_
          refine lv_iconst (v := iz (1)) hx hb dX12_payMany_115 rfl ?_
          refine zc_z (wr := [(am, zaL (G.2 0) 41 (fun _ => 0))]) (va_runV (As := [.int (iz (0)), .int (iz (0)), .int (iz (1))]) (rest := []) ⟨hx, hb, hml, hown, hts⟩ (c_X12_passes l G x th (.ref am) .null (.ref tb) (.ref lv) (.int (iz (0))) (.ref wt) (.int (iz (0))) (.ref bg) (.ref pm) (.int (iz (0))) 6 false false true  H.size) (cwV 3 hts gX12_payMany_X12_passes rfl rfl rfl (by decide +kernel) ⟨Nat.le_of_ble_eq_true rfl, Nat.le_of_ble_eq_true rfl⟩) (zpV hKX hP hD [0] rfl rfl 0 13 rfl rfl) rfl rfl hl.1 rfl (lv_room (Nat.le_of_ble_eq_true rfl)) dX12_payMany_116 ⟨(by first | exact Nat.le_of_ble_eq_true rfl | (show _ ≤ (0 : Nat); omega)), (by first | exact Nat.le_of_ble_eq_true rfl | (show _ ≤ (0 : Nat); omega))⟩) hP hD hS hA [0] [1] rfl rfl rfl (by decide) (fun pz u_19 H locs hp hP hD hS => ?_)
          generalize u_19 = thp at hP hD hp
          have hP : va_P G.1 vwCl [(am, zaL (G.2 0) 41 (fun _ => 0)), (x, .inr (13, [.int (iz (thp)), .int (iz ((6 : Int))), .ref am, .null, .ref tb, .ref lv, .int (iz (0)), .ref wt, .int (iz (0)), .ref bg, .ref pm, .int (iz (0))]))] H := hP
          have hD : va_D A [(am, zaL (G.2 0) 41 (fun _ => 0)), (x, .inr (13, [.int (iz (thp)), .int (iz ((6 : Int))), .ref am, .null, .ref tb, .ref lv, .int (iz (0)), .ref wt, .int (iz (0)), .ref bg, .ref pm, .int (iz (0))]))] := hD
          have hp : pz = (false && false && true) ∧ thp = zcode false false true := hp
          rw [show pz = false from hp.1]
          have htp := hp.2
          refine zr_ifz_ne (tgt := 124) hx hb dX12_payMany_119 (by decide) (fun h_21 => ?_) (fun h_21 => ?_)
          · exact absurd h_21 (by decide)
          ·
            refine lv_iconst (v := iz (0)) hx hb dX12_payMany_122 rfl ?_
            rw [hQ]
            exact zr_iret (z := 0) (u := (thp)) hx hb hr hlocks (hP.sub [1] rfl) (hD.sub [1] (by decide) rfl) hS (by first | exact Nat.le_of_ble_eq_true rfl | omega) (by first | exact Nat.le_of_ble_eq_true rfl | omega) dX12_payMany_123 (show 0 = 0 ∧ thp = 1 from ⟨rfl, htp⟩)
        · exact absurd h_18 (by omega)
      ·
        have hzy3 := of_decide_eq_true (hy3.symm.trans h_17)
        refine lv_lload hx hb dX12_payMany_31 (lv_at hl 4 rfl) ?_
        refine zr_ldc2 (z := -1000000) hx hb hown (hts (.constantLong RX12 133 (-1000000)) (by decide +kernel)) rfl dX12_payMany_33 ?_
        refine zr_ldc2 (z := 1000000) hx hb hown (hts (.constantLong RX12 135 (1000000)) (by decide +kernel)) rfl dX12_payMany_36 ?_
        refine zc_z (wr := [(x, .inr (13, [.int (iz (th)), .int (iz (6)), .ref am, .null, .ref tb, .ref lv, .int (iz (0)), .ref wt, .int (iz (0)), .ref bg, .ref pm, .int (iz (0))])), (am, zaL (G.2 0) 41 (fun _ => 0))]) (va_runS (As := [.long (lz (se)), .long (lz (-1000000)), .long (lz (1000000))]) (rest := []) ⟨hx, hb, hml, hown, hts⟩ (c_X12_in l G se (-1000000) 1000000 (by omega) (by omega) (by omega) H.size) (va_cwS 3 hts gX12_payMany_X12_in rfl rfl rfl (by decide +kernel) ⟨Nat.le_of_ble_eq_true rfl, Nat.le_of_ble_eq_true rfl⟩) (zpS hKX hP hD [] rfl rfl) rfl rfl hl.1 rfl (lv_room (Nat.le_of_ble_eq_true rfl)) dX12_payMany_39 ⟨(by first | exact Nat.le_of_ble_eq_true rfl | (show _ ≤ (0 : Nat); omega)), (by first | exact Nat.le_of_ble_eq_true rfl | (show _ ≤ (0 : Nat); omega))⟩) hP hD hS hA [] [0, 1] rfl rfl rfl (by decide) (fun y4 u_22 H locs hy4 hP hD hS => ?_)
        have hP : va_P G.1 vwCl [(x, .inr (13, [.int (iz (th)), .int (iz (6)), .ref am, .null, .ref tb, .ref lv, .int (iz (0)), .ref wt, .int (iz (0)), .ref bg, .ref pm, .int (iz (0))])), (am, zaL (G.2 0) 41 (fun _ => 0))] H := hP
        have hD : va_D A [(x, .inr (13, [.int (iz (th)), .int (iz (6)), .ref am, .null, .ref tb, .ref lv, .int (iz (0)), .ref wt, .int (iz (0)), .ref bg, .ref pm, .int (iz (0))])), (am, zaL (G.2 0) 41 (fun _ => 0))] := hD
        have hy4 : y4 = decide ((-1000000 : Int) ≤ se ∧ se ≤ (1000000 : Int)) := hy4
        refine zr_ifz_eq (tgt := 57) hx hb dX12_payMany_42 (by decide) (fun h_24 => ?_) (fun h_24 => ?_)
        ·
          have hzy4 := of_decide_eq_false (hy4.symm.trans h_24)
          refine lv_iconst (v := iz (0)) hx hb dX12_payMany_57 rfl ?_
          refine lv_istore (lv' := [(7, .int (iz (0))), (0, .ref x), (1, .int (iz (fr))), (2, .int (iz (mn))), (3, .long (lz (mo))), (5, .long (lz (se)))]) hx hb dX12_payMany_58 hl (by decide) rfl (fun ls hl => ?_)
          refine lv_iload hx hb dX12_payMany_60 (lv_at hl 0 rfl) ?_
          refine lv_istore (lv' := [(8, .int (iz (0))), (7, .int (iz (0))), (0, .ref x), (1, .int (iz (fr))), (2, .int (iz (mn))), (3, .long (lz (mo))), (5, .long (lz (se)))]) hx hb dX12_payMany_62 hl (by decide) rfl (fun ls hl => ?_)
          refine lv_iconst (v := iz (0)) hx hb dX12_payMany_64 rfl ?_
          refine lv_istore (lv' := [(9, .int (iz (0))), (8, .int (iz (0))), (7, .int (iz (0))), (0, .ref x), (1, .int (iz (fr))), (2, .int (iz (mn))), (3, .long (lz (mo))), (5, .long (lz (se)))]) hx hb dX12_payMany_65 hl (by decide) rfl (fun ls hl => ?_)
          refine lv_iload hx hb dX12_payMany_67 (lv_at hl 2 rfl) ?_
          refine zr_if_eq (x := 0) (tgt := 110) hx hb (⟨by omega, by omega⟩) dX12_payMany_69 (by decide) (fun h_25 => ?_) (fun h_25 => ?_)
          ·
            refine lv_aload_n hx hb dX12_payMany_110 rfl (lv_at hl 3 rfl) ?_
            refine lv_iload hx hb dX12_payMany_111 (lv_at hl 2 rfl) ?_
            refine lv_iload hx hb dX12_payMany_113 (lv_at hl 1 rfl) ?_
            refine lv_iconst (v := iz (1)) hx hb dX12_payMany_115 rfl ?_
            refine zc_z (wr := [(am, zaL (G.2 0) 41 (fun _ => 0))]) (va_runV (As := [.int (iz (0)), .int (iz (0)), .int (iz (1))]) (rest := []) ⟨hx, hb, hml, hown, hts⟩ (c_X12_passes l G x th (.ref am) .null (.ref tb) (.ref lv) (.int (iz (0))) (.ref wt) (.int (iz (0))) (.ref bg) (.ref pm) (.int (iz (0))) 6 false false true  H.size) (cwV 3 hts gX12_payMany_X12_passes rfl rfl rfl (by decide +kernel) ⟨Nat.le_of_ble_eq_true rfl, Nat.le_of_ble_eq_true rfl⟩) (zpV hKX hP hD [0] rfl rfl 0 13 rfl rfl) rfl rfl hl.1 rfl (lv_room (Nat.le_of_ble_eq_true rfl)) dX12_payMany_116 ⟨(by first | exact Nat.le_of_ble_eq_true rfl | (show _ ≤ (0 : Nat); omega)), (by first | exact Nat.le_of_ble_eq_true rfl | (show _ ≤ (0 : Nat); omega))⟩) hP hD hS hA [0] [1] rfl rfl rfl (by decide) (fun pz u_26 H locs hp hP hD hS => ?_)
            generalize u_26 = thp at hP hD hp
            have hP : va_P G.1 vwCl [(am, zaL (G.2 0) 41 (fun _ => 0)), (x, .inr (13, [.int (iz (thp)), .int (iz ((6 : Int))), .ref am, .null, .ref tb, .ref lv, .int (iz (0)), .ref wt, .int (iz (0)), .ref bg, .ref pm, .int (iz (0))]))] H := hP
            have hD : va_D A [(am, zaL (G.2 0) 41 (fun _ => 0)), (x, .inr (13, [.int (iz (thp)), .int (iz ((6 : Int))), .ref am, .null, .ref tb, .ref lv, .int (iz (0)), .ref wt, .int (iz (0)), .ref bg, .ref pm, .int (iz (0))]))] := hD
            have hp : pz = (false && false && true) ∧ thp = zcode false false true := hp
            rw [show pz = false from hp.1]
            have htp := hp.2
            refine zr_ifz_ne (tgt := 124) hx hb dX12_payMany_119 (by decide) (fun h_28 => ?_) (fun h_28 => ?_)
            · exact absurd h_28 (by decide)
            ·
              refine lv_iconst (v := iz (0)) hx hb dX12_payMany_122 rfl ?_
              rw [hQ]
              exact zr_iret (z := 0) (u := (thp)) hx hb hr hlocks (hP.sub [1] rfl) (hD.sub [1] (by decide) rfl) hS (by first | exact Nat.le_of_ble_eq_true rfl | omega) (by first | exact Nat.le_of_ble_eq_true rfl | omega) dX12_payMany_123 (show 0 = 0 ∧ thp = 1 from ⟨rfl, htp⟩)
          · exact absurd h_25 (by omega)
        ·
          have hzy4 := of_decide_eq_true (hy4.symm.trans h_24)
          refine lv_iload_n hx hb dX12_payMany_45 rfl (lv_at hl 1 rfl) ?_
          refine lv_iload_n hx hb dX12_payMany_46 rfl (lv_at hl 2 rfl) ?_
          refine zr_iadd hx hb dX12_payMany_47 ?_
          refine lv_bipush (v := iz (41)) hx hb dX12_payMany_48 rfl ?_
          refine zr_icmp_gt (x := fr + mn) (y := 41) (tgt := 57) hx hb (⟨by omega, by omega⟩) (⟨by omega, by omega⟩) dX12_payMany_50 (by decide) (fun h_29 => ?_) (fun h_29 => ?_)
          ·
            refine lv_iconst (v := iz (0)) hx hb dX12_payMany_57 rfl ?_
            refine lv_istore (lv' := [(7, .int (iz (0))), (0, .ref x), (1, .int (iz (fr))), (2, .int (iz (mn))), (3, .long (lz (mo))), (5, .long (lz (se)))]) hx hb dX12_payMany_58 hl (by decide) rfl (fun ls hl => ?_)
            refine lv_iload hx hb dX12_payMany_60 (lv_at hl 0 rfl) ?_
            refine lv_istore (lv' := [(8, .int (iz (0))), (7, .int (iz (0))), (0, .ref x), (1, .int (iz (fr))), (2, .int (iz (mn))), (3, .long (lz (mo))), (5, .long (lz (se)))]) hx hb dX12_payMany_62 hl (by decide) rfl (fun ls hl => ?_)
            refine lv_iconst (v := iz (0)) hx hb dX12_payMany_64 rfl ?_
            refine lv_istore (lv' := [(9, .int (iz (0))), (8, .int (iz (0))), (7, .int (iz (0))), (0, .ref x), (1, .int (iz (fr))), (2, .int (iz (mn))), (3, .long (lz (mo))), (5, .long (lz (se)))]) hx hb dX12_payMany_65 hl (by decide) rfl (fun ls hl => ?_)
            refine lv_iload hx hb dX12_payMany_67 (lv_at hl 2 rfl) ?_
            refine zr_if_eq (x := 0) (tgt := 110) hx hb (⟨by omega, by omega⟩) dX12_payMany_69 (by decide) (fun h_30 => ?_) (fun h_30 => ?_)
            ·
              refine lv_aload_n hx hb dX12_payMany_110 rfl (lv_at hl 3 rfl) ?_
              refine lv_iload hx hb dX12_payMany_111 (lv_at hl 2 rfl) ?_
              refine lv_iload hx hb dX12_payMany_113 (lv_at hl 1 rfl) ?_
              refine lv_iconst (v := iz (1)) hx hb dX12_payMany_115 rfl ?_
              refine zc_z (wr := [(am, zaL (G.2 0) 41 (fun _ => 0))]) (va_runV (As := [.int (iz (0)), .int (iz (0)), .int (iz (1))]) (rest := []) ⟨hx, hb, hml, hown, hts⟩ (c_X12_passes l G x th (.ref am) .null (.ref tb) (.ref lv) (.int (iz (0))) (.ref wt) (.int (iz (0))) (.ref bg) (.ref pm) (.int (iz (0))) 6 false false true  H.size) (cwV 3 hts gX12_payMany_X12_passes rfl rfl rfl (by decide +kernel) ⟨Nat.le_of_ble_eq_true rfl, Nat.le_of_ble_eq_true rfl⟩) (zpV hKX hP hD [0] rfl rfl 0 13 rfl rfl) rfl rfl hl.1 rfl (lv_room (Nat.le_of_ble_eq_true rfl)) dX12_payMany_116 ⟨(by first | exact Nat.le_of_ble_eq_true rfl | (show _ ≤ (0 : Nat); omega)), (by first | exact Nat.le_of_ble_eq_true rfl | (show _ ≤ (0 : Nat); omega))⟩) hP hD hS hA [0] [1] rfl rfl rfl (by decide) (fun pz u_31 H locs hp hP hD hS => ?_)
              generalize u_31 = thp at hP hD hp
              have hP : va_P G.1 vwCl [(am, zaL (G.2 0) 41 (fun _ => 0)), (x, .inr (13, [.int (iz (thp)), .int (iz ((6 : Int))), .ref am, .null, .ref tb, .ref lv, .int (iz (0)), .ref wt, .int (iz (0)), .ref bg, .ref pm, .int (iz (0))]))] H := hP
              have hD : va_D A [(am, zaL (G.2 0) 41 (fun _ => 0)), (x, .inr (13, [.int (iz (thp)), .int (iz ((6 : Int))), .ref am, .null, .ref tb, .ref lv, .int (iz (0)), .ref wt, .int (iz (0)), .ref bg, .ref pm, .int (iz (0))]))] := hD
              have hp : pz = (false && false && true) ∧ thp = zcode false false true := hp
              rw [show pz = false from hp.1]
              have htp := hp.2
              refine zr_ifz_ne (tgt := 124) hx hb dX12_payMany_119 (by decide) (fun h_33 => ?_) (fun h_33 => ?_)
              · exact absurd h_33 (by decide)
              ·
                refine lv_iconst (v := iz (0)) hx hb dX12_payMany_122 rfl ?_
                rw [hQ]
                exact zr_iret (z := 0) (u := (thp)) hx hb hr hlocks (hP.sub [1] rfl) (hD.sub [1] (by decide) rfl) hS (by first | exact Nat.le_of_ble_eq_true rfl | omega) (by first | exact Nat.le_of_ble_eq_true rfl | omega) dX12_payMany_123 (show 0 = 0 ∧ thp = 1 from ⟨rfl, htp⟩)
            · exact absurd h_30 (by omega)
          ·
            exact absurd h1 (by omega)
