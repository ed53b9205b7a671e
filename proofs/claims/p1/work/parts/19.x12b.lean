-- THE REFERENCE ON A FRESH OBJECT: the simple methods (laid by wip/walk/x12b.py)
theorem tr_pw10 {d : Int} (h : 0 ≤ d ∧ d ≤ 6) : 1 ≤ (10 : Int) ^ d.toNat ∧ (10 : Int) ^ d.toNat ≤ 1000000 := by
  have a := zpow_le (b := 10) (by decide) (show d.toNat ≤ 6 by omega)
  have b : (10 : Int) ^ 6 = 1000000 := by decide +kernel
  exact ⟨zpow_pos (by decide) _, by omega⟩
theorem tr_lt100 {x : Int} (h : x ≤ 1000000) : x < 10000 ^ 100 := by
  have a := tB_le (a := 2) (b := 100) (by omega)
  have b : (10000 : Int) ^ 2 = 100000000 := by decide +kernel
  omega
theorem tr_120 {x : Int} (h : x ≤ 1000000000000) : x < 10000 ^ 120 := by
  have a := tB_le (a := 4) (b := 120) (by omega)
  have b : (10000 : Int) ^ 4 = 10000000000000000 := by decide +kernel
  omega
theorem tr_mabs {a b x y : Int} (ha : (a.natAbs : Int) ≤ x) (hb : (b.natAbs : Int) ≤ y) : (a.natAbs : Int) * (b.natAbs : Int) ≤ x * y := by
  have h1 : (a.natAbs : Int) * (b.natAbs : Int) ≤ (a.natAbs : Int) * y := Int.mul_le_mul_of_nonneg_left hb (by omega)
  have h2 : (a.natAbs : Int) * y ≤ x * y := Int.mul_le_mul_of_nonneg_right ha (by omega)
  omega
theorem tr_m128 {a b x y : Int} (ha : (a.natAbs : Int) ≤ x) (hb : (b.natAbs : Int) ≤ y) (h : x * y < 10000000000000000000) : (a.natAbs : Int) * (b.natAbs : Int) < 10000 ^ 128 := by
  have := tr_mabs ha hb
  have a := tB_le (a := 5) (b := 128) (by omega)
  have b : (10000 : Int) ^ 5 = 100000000000000000000 := by decide +kernel
  omega
theorem tr_m120 {a b x y : Int} (ha : (a.natAbs : Int) ≤ x) (hb : (b.natAbs : Int) ≤ y) (h : x * y < 10000000000000000000) : ((a * b).natAbs : Int) < 10000 ^ 120 := by
  have := tr_mabs ha hb
  have e : ((a * b).natAbs : Int) = (a.natAbs : Int) * (b.natAbs : Int) := by rw [Int.natAbs_mul]; exact Int.natCast_mul _ _
  have a := tB_le (a := 5) (b := 120) (by omega)
  have b : (10000 : Int) ^ 5 = 100000000000000000000 := by decide +kernel
  omega
theorem tr_mul10 {ov p : Int} (h : -1000000000000 ≤ ov ∧ ov ≤ 1000000000000) (hp : 1 ≤ p ∧ p ≤ 1000000) : (ov.natAbs : Int) * (p.natAbs : Int) < 10000 ^ 128 := tr_m128 (x := 1000000000000) (y := 1000000) (by omega) (by omega) (by decide)
theorem tr_mul120 {ov p : Int} (h : -1000000000000 ≤ ov ∧ ov ≤ 1000000000000) (hp : 1 ≤ p ∧ p ≤ 1000000) : ((ov * p).natAbs : Int) < 10000 ^ 120 := tr_m120 (x := 1000000000000) (y := 1000000) (by omega) (by omega) (by decide)
theorem zr_iandZ {p : Program} {l : Launch} {e : Env} {R : Room} {s : State} {m : MethodId} {args : Array Value} {below : List Frame} {meth : Method} {c : Code} {H : Heap} {locs : List Loc} {cells slots : Nat} {Q : State → Prop} {cc : ByteArray} {pc : Nat} {ls : Array Slot} {rest : List Value} (hexec : p.tables.exec = Jvm.exec) (hb : c.code = cc) {x y : Bool} (hdg : decode cc pc = .ok (.iand, 1)) (k : W p l e R s m args below meth c H locs cells slots Q (F0 m (pc + 1) ls (.int (iz (zbb (x && y))) :: rest))) : W p l e R s m args below meth c H locs cells slots Q (F0 m pc ls (.int (iz (zbb y)) :: .int (iz (zbb x)) :: rest)) := lv_iand hexec hb hdg (by rw [show iz (zbb x) &&& iz (zbb y) = iz (zbb (x && y)) from by cases x <;> cases y <;> decide]; exact k)
def rm_c_X12_thrown : Room := { frames := 0, cells := 0, slots := 0, locals := 0 }
theorem iw_X12_thrown_X12 : ∀ w ∈ wsX120, w ∈ wsX12_thrown := by decide +kernel
set_option maxHeartbeats 1000000 in
set_option maxRecDepth 100000 in
theorem c_X12_thrown (l : Launch) (G : zG) (x : Nat) (am : Nat) (tb : Nat) (lv : Nat) (wt : Nat) (bg : Nat) (pm : Nat) (th : Int)  : zM l G yX12_thrown wsX12_thrown rm_c_X12_thrown [.ref x] [(x, .inr (13, [.int (iz (th)), .int (iz (6)), .ref am, .null, .ref tb, .ref lv, .int (iz (0)), .ref wt, .int (iz (0)), .ref bg, .ref pm, .int (iz (0))]))] (fun A => zQi G (fun (z : Int) (th2 : Int) => z = th ∧ th2 = th) (fun (th2 : Int) => [(x, .inr (13, [.int (iz (th2)), .int (iz (6)), .ref am, .null, .ref tb, .ref lv, .int (iz (0)), .ref wt, .int (iz (0)), .ref bg, .ref pm, .int (iz (0))]))]) A) 0 0 := by
  refine zM_of (cc := cX12_thrown) (maxL := 1) (ret := (some .int)) (by decide) rfl (Nat.le_of_ble_eq_true rfl) ?_
  intro p e s m below meth c ls A Q hQ hx hb hr hts hown hlocks hml hnm hKX hP hD hA hS hl
  have hK := hKX.1
  have iwX12 := iw_X12_thrown_X12
  obtain ⟨H, hH⟩ : ∃ h, h = s.heap := ⟨_, rfl⟩
  obtain ⟨locs, hlo⟩ : ∃ h : List Loc, h = [] := ⟨_, rfl⟩
  have hS : va_S A s.heap H locs := by rw [hH, hlo]; exact hS
  have hP : va_P G.1 vwCl [(x, .inr (13, [.int (iz (th)), .int (iz (6)), .ref am, .null, .ref tb, .ref lv, .int (iz (0)), .ref wt, .int (iz (0)), .ref bg, .ref pm, .int (iz (0))]))] H := by rw [hH]; exact hP
  have hD : va_D A [(x, .inr (13, [.int (iz (th)), .int (iz (6)), .ref am, .null, .ref tb, .ref lv, .int (iz (0)), .ref wt, .int (iz (0)), .ref bg, .ref pm, .int (iz (0))]))] := hD
  have hl : lv_has ls 1 [(0, .ref x)] := hl
  rw [← hH, ← hlo]
  refine lv_aload_n hx hb dX12_thrown_0 rfl (lv_at hl 0 rfl) ?_
  refine va_get (D := G.1) (ci := 13) (v := .int (iz (th))) (C := RX12) (T := TX12) (N := 12) hx hb hts iwX12 hown hK hP 0 rfl rfl 0 (by decide) (hts (.fieldLink RX12 1 "AnnuityHouseModel" "thrown" "I") (by decide +kernel)) (fun _ h9 => h9) rfl dX12_thrown_1 ?_
  rw [hQ]
  exact zr_iret (z := th) (u := (th)) hx hb hr hlocks hP hD hS (by first | exact Nat.le_of_ble_eq_true rfl | omega) (by first | exact Nat.le_of_ble_eq_true rfl | omega) dX12_thrown_4 (show th = th ∧ th = th from ⟨rfl, rfl⟩)

def rm_c_X12_isAmount : Room := { frames := 1, cells := 0, slots := 0, locals := 25 }
set_option maxHeartbeats 1000000 in
set_option maxRecDepth 100000 in
theorem c_X12_isAmount (l : Launch) (G : zG) (y : Int) (h1 : -9223372036854775808 ≤ y ∧ y < 9223372036854775808) : zM l G yX12_isAmount wsX12_isAmount rm_c_X12_isAmount [.long (lz (y))] [] (fun A => zQz G (fun (z : Bool) (_ : Unit) => z = decide (-1000000000 ≤ y ∧ y ≤ 1000000000)) (fun (_ : Unit) => []) A) 0 0 := by
  refine zM_of (cc := cX12_isAmount) (maxL := 2) (ret := (some .boolean)) (by decide) rfl (Nat.le_of_ble_eq_true rfl) ?_
  intro p e s m below meth c ls A Q hQ hx hb hr hts hown hlocks hml hnm hKX hP hD hA hS hl
  have hK := hKX.1
  obtain ⟨H, hH⟩ : ∃ h, h = s.heap := ⟨_, rfl⟩
  obtain ⟨locs, hlo⟩ : ∃ h : List Loc, h = [] := ⟨_, rfl⟩
  have hS : va_S A s.heap H locs := by rw [hH, hlo]; exact hS
  have hP : va_P G.1 vwCl [] H := by rw [hH]; exact hP
  have hD : va_D A [] := hD
  have hl : lv_has ls 2 [(0, .long (lz (y)))] := hl
  rw [← hH, ← hlo]
  refine lv_lload_n hx hb dX12_isAmount_0 rfl (lv_at hl 0 rfl) ?_
  refine zr_ldc2 (z := -1000000000) hx hb hown (hts (.constantLong RX12 119 (-1000000000)) (by decide +kernel)) rfl dX12_isAmount_1 ?_
  refine zr_ldc2 (z := 1000000000) hx hb hown (hts (.constantLong RX12 121 (1000000000)) (by decide +kernel)) rfl dX12_isAmount_4 ?_
  refine zc_z (wr := []) (va_runS (As := [.long (lz (y)), .long (lz (-1000000000)), .long (lz (1000000000))]) (rest := []) ⟨hx, hb, hml, hown, hts⟩ (c_X12_in l G y (-1000000000) 1000000000 (by omega) (by omega) (by omega) H.size) (va_cwS 3 hts gX12_isAmount_X12_in rfl rfl rfl (by decide +kernel) ⟨Nat.le_of_ble_eq_true rfl, Nat.le_of_ble_eq_true rfl⟩) (zpS hKX hP hD [] rfl rfl) rfl rfl hl.1 rfl (lv_room (Nat.le_of_ble_eq_true rfl)) dX12_isAmount_7 ⟨(by first | exact Nat.le_of_ble_eq_true rfl | (show _ ≤ (0 : Nat); omega)), (by first | exact Nat.le_of_ble_eq_true rfl | (show _ ≤ (0 : Nat); omega))⟩) hP hD hS hA [] [] rfl rfl rfl (by decide) (fun y1 u_1 H locs hy1 hP hD hS => ?_)
  have hP : va_P G.1 vwCl [] H := hP
  have hD : va_D A [] := hD
  have hy1 : y1 = decide ((-1000000000 : Int) ≤ y ∧ y ≤ (1000000000 : Int)) := hy1
  rw [hQ]
  exact zr_zret (z := y1) (rfl) (u := ()) hx hb hr hlocks hP hD hS (by first | exact Nat.le_of_ble_eq_true rfl | omega) (by first | exact Nat.le_of_ble_eq_true rfl | omega) dX12_isAmount_10 (show y1 = decide (-1000000000 ≤ y ∧ y ≤ 1000000000) from hy1)

def rm_c_X12_isRate : Room := { frames := 1, cells := 0, slots := 0, locals := 25 }
set_option maxHeartbeats 1000000 in
set_option maxRecDepth 100000 in
theorem c_X12_isRate (l : Launch) (G : zG) (y : Int) (h1 : -2147483648 ≤ y ∧ y < 2147483648) : zM l G yX12_isRate wsX12_isRate rm_c_X12_isRate [.int (iz (y))] [] (fun A => zQz G (fun (z : Bool) (_ : Unit) => z = decide (0 ≤ y ∧ y ≤ 20000)) (fun (_ : Unit) => []) A) 0 0 := by
  refine zM_of (cc := cX12_isRate) (maxL := 1) (ret := (some .boolean)) (by decide) rfl (Nat.le_of_ble_eq_true rfl) ?_
  intro p e s m below meth c ls A Q hQ hx hb hr hts hown hlocks hml hnm hKX hP hD hA hS hl
  have hK := hKX.1
  obtain ⟨H, hH⟩ : ∃ h, h = s.heap := ⟨_, rfl⟩
  obtain ⟨locs, hlo⟩ : ∃ h : List Loc, h = [] := ⟨_, rfl⟩
  have hS : va_S A s.heap H locs := by rw [hH, hlo]; exact hS
  have hP : va_P G.1 vwCl [] H := by rw [hH]; exact hP
  have hD : va_D A [] := hD
  have hl : lv_has ls 1 [(0, .int (iz (y)))] := hl
  rw [← hH, ← hlo]
  refine lv_iload_n hx hb dX12_isRate_0 rfl (lv_at hl 0 rfl) ?_
  refine zr_i2l hx hb (x := y) (⟨by omega, by omega⟩) dX12_isRate_1 ?_
  refine lv_lconst (v := lz (0)) hx hb dX12_isRate_2 rfl ?_
  refine zr_ldc2 (z := 20000) hx hb hown (hts (.constantLong RX12 123 (20000)) (by decide +kernel)) rfl dX12_isRate_3 ?_
  refine zc_z (wr := []) (va_runS (As := [.long (lz (y)), .long (lz (0)), .long (lz (20000))]) (rest := []) ⟨hx, hb, hml, hown, hts⟩ (c_X12_in l G y 0 20000 (by omega) (by omega) (by omega) H.size) (va_cwS 3 hts gX12_isRate_X12_in rfl rfl rfl (by decide +kernel) ⟨Nat.le_of_ble_eq_true rfl, Nat.le_of_ble_eq_true rfl⟩) (zpS hKX hP hD [] rfl rfl) rfl rfl hl.1 rfl (lv_room (Nat.le_of_ble_eq_true rfl)) dX12_isRate_6 ⟨(by first | exact Nat.le_of_ble_eq_true rfl | (show _ ≤ (0 : Nat); omega)), (by first | exact Nat.le_of_ble_eq_true rfl | (show _ ≤ (0 : Nat); omega))⟩) hP hD hS hA [] [] rfl rfl rfl (by decide) (fun y1 u_1 H locs hy1 hP hD hS => ?_)
  have hP : va_P G.1 vwCl [] H := hP
  have hD : va_D A [] := hD
  have hy1 : y1 = decide ((0 : Int) ≤ y ∧ y ≤ (20000 : Int)) := hy1
  rw [hQ]
  exact zr_zret (z := y1) (rfl) (u := ()) hx hb hr hlocks hP hD hS (by first | exact Nat.le_of_ble_eq_true rfl | omega) (by first | exact Nat.le_of_ble_eq_true rfl | omega) dX12_isRate_9 (show y1 = decide (0 ≤ y ∧ y ≤ 20000) from hy1)

def rm_c_X12_setMode_o : Room := { frames := 1, cells := 0, slots := 0, locals := 25 }
theorem iw_X12_setMode_X12 : ∀ w ∈ wsX120, w ∈ wsX12_setMode := by decide +kernel
set_option maxHeartbeats 1000000 in
set_option maxRecDepth 100000 in
theorem c_X12_setMode_o (l : Launch) (G : zG) (x : Nat) (am : Nat) (tb : Nat) (lv : Nat) (wt : Nat) (bg : Nat) (pm : Nat) (th : Int) (md : Int) (h0 : -2147483648 ≤ md ∧ md < 2147483648) (h1 : 0 ≤ md ∧ md ≤ 7) : zM l G yX12_setMode wsX12_setMode rm_c_X12_setMode_o [.ref x, .int (iz (md))] [(x, .inr (13, [.int (iz (th)), .int (iz (6)), .ref am, .null, .ref tb, .ref lv, .int (iz (0)), .ref wt, .int (iz (0)), .ref bg, .ref pm, .int (iz (0))]))] (fun A => zQi G (fun (z : Int) (th2 : Int) => z = 6 ∧ th2 = 0) (fun (th2 : Int) => [(x, .inr (13, [.int (iz (th2)), .int (iz (md)), .ref am, .null, .ref tb, .ref lv, .int (iz (0)), .ref wt, .int (iz (0)), .ref bg, .ref pm, .int (iz (0))]))]) A) 0 0 := by
  refine zM_of (cc := cX12_setMode) (maxL := 3) (ret := (some .int)) (by decide) rfl (Nat.le_of_ble_eq_true rfl) ?_
  intro p e s m below meth c ls A Q hQ hx hb hr hts hown hlocks hml hnm hKX hP hD hA hS hl
  have hK := hKX.1
  have iwX12 := iw_X12_setMode_X12
  obtain ⟨H, hH⟩ : ∃ h, h = s.heap := ⟨_, rfl⟩
  obtain ⟨locs, hlo⟩ : ∃ h : List Loc, h = [] := ⟨_, rfl⟩
  have hS : va_S A s.heap H locs := by rw [hH, hlo]; exact hS
  have hP : va_P G.1 vwCl [(x, .inr (13, [.int (iz (th)), .int (iz (6)), .ref am, .null, .ref tb, .ref lv, .int (iz (0)), .ref wt, .int (iz (0)), .ref bg, .ref pm, .int (iz (0))]))] H := by rw [hH]; exact hP
  have hD : va_D A [(x, .inr (13, [.int (iz (th)), .int (iz (6)), .ref am, .null, .ref tb, .ref lv, .int (iz (0)), .ref wt, .int (iz (0)), .ref bg, .ref pm, .int (iz (0))]))] := hD
  have hl : lv_has ls 3 [(0, .ref x), (1, .int (iz (md)))] := hl
  rw [← hH, ← hlo]
  refine lv_aload_n hx hb dX12_setMode_0 rfl (lv_at hl 0 rfl) ?_
  refine lv_iload_n hx hb dX12_setMode_1 rfl (lv_at hl 1 rfl) ?_
  refine zr_i2l hx hb (x := md) (⟨by omega, by omega⟩) dX12_setMode_2 ?_
  refine lv_lconst (v := lz (0)) hx hb dX12_setMode_3 rfl ?_
  refine zr_ldc2 (z := 7) hx hb hown (hts (.constantLong RX12 89 (7)) (by decide +kernel)) rfl dX12_setMode_4 ?_
  refine zc_z (wr := [(x, .inr (13, [.int (iz (th)), .int (iz (6)), .ref am, .null, .ref tb, .ref lv, .int (iz (0)), .ref wt, .int (iz (0)), .ref bg, .ref pm, .int (iz (0))]))]) (va_runS (As := [.long (lz (md)), .long (lz (0)), .long (lz (7))]) (rest := [.ref x]) ⟨hx, hb, hml, hown, hts⟩ (c_X12_in l G md 0 7 (by omega) (by omega) (by omega) H.size) (va_cwS 3 hts gX12_setMode_X12_in rfl rfl rfl (by decide +kernel) ⟨Nat.le_of_ble_eq_true rfl, Nat.le_of_ble_eq_true rfl⟩) (zpS hKX hP hD [] rfl rfl) rfl rfl hl.1 rfl (lv_room (Nat.le_of_ble_eq_true rfl)) dX12_setMode_7 ⟨(by first | exact Nat.le_of_ble_eq_true rfl | (show _ ≤ (0 : Nat); omega)), (by first | exact Nat.le_of_ble_eq_true rfl | (show _ ≤ (0 : Nat); omega))⟩) hP hD hS hA [] [0] rfl rfl rfl (by decide) (fun y1 u_1 H locs hy1 hP hD hS => ?_)
  have hP : va_P G.1 vwCl [(x, .inr (13, [.int (iz (th)), .int (iz (6)), .ref am, .null, .ref tb, .ref lv, .int (iz (0)), .ref wt, .int (iz (0)), .ref bg, .ref pm, .int (iz (0))]))] H := hP
  have hD : va_D A [(x, .inr (13, [.int (iz (th)), .int (iz (6)), .ref am, .null, .ref tb, .ref lv, .int (iz (0)), .ref wt, .int (iz (0)), .ref bg, .ref pm, .int (iz (0))]))] := hD
  have hy1 : y1 = decide ((0 : Int) ≤ md ∧ md ≤ (7 : Int)) := hy1
  rw [show y1 = true from hy1.trans (decide_eq_true (by omega))]
  refine lv_iconst (v := iz (1)) hx hb dX12_setMode_10 rfl ?_
  refine lv_iconst (v := iz (1)) hx hb dX12_setMode_11 rfl ?_
  refine zc_z (wr := []) (va_runV (As := [.int (iz (zbb true)), .int (iz (1)), .int (iz (1))]) (rest := []) ⟨hx, hb, hml, hown, hts⟩ (c_X12_passes l G x th (.ref am) .null (.ref tb) (.ref lv) (.int (iz (0))) (.ref wt) (.int (iz (0))) (.ref bg) (.ref pm) (.int (iz (0))) 6 true true true  H.size) (cwV 3 hts gX12_setMode_X12_passes rfl rfl rfl (by decide +kernel) ⟨Nat.le_of_ble_eq_true rfl, Nat.le_of_ble_eq_true rfl⟩) (zpV hKX hP hD [0] rfl rfl 0 13 rfl rfl) rfl rfl hl.1 rfl (lv_room (Nat.le_of_ble_eq_true rfl)) dX12_setMode_12 ⟨(by first | exact Nat.le_of_ble_eq_true rfl | (show _ ≤ (0 : Nat); omega)), (by first | exact Nat.le_of_ble_eq_true rfl | (show _ ≤ (0 : Nat); omega))⟩) hP hD hS hA [0] [] rfl rfl rfl (by decide) (fun pz u_3 H locs hp hP hD hS => ?_)
  generalize u_3 = thp at hP hD hp
  have hP : va_P G.1 vwCl [(x, .inr (13, [.int (iz (thp)), .int (iz ((6 : Int))), .ref am, .null, .ref tb, .ref lv, .int (iz (0)), .ref wt, .int (iz (0)), .ref bg, .ref pm, .int (iz (0))]))] H := hP
  have hD : va_D A [(x, .inr (13, [.int (iz (thp)), .int (iz ((6 : Int))), .ref am, .null, .ref tb, .ref lv, .int (iz (0)), .ref wt, .int (iz (0)), .ref bg, .ref pm, .int (iz (0))]))] := hD
  have hp : pz = (true && true && true) ∧ thp = zcode true true true := hp
  rw [show pz = true from hp.1]
  have htp := hp.2
  refine zr_ifz_ne (tgt := 20) hx hb dX12_setMode_15 (by decide) (fun h_5 => ?_) (fun h_5 => ?_)
  ·
    refine lv_aload_n hx hb dX12_setMode_20 rfl (lv_at hl 0 rfl) ?_
    refine va_get (D := G.1) (ci := 13) (v := .int (iz ((6 : Int)))) (C := RX12) (T := TX12) (N := 12) hx hb hts iwX12 hown hK hP 0 rfl rfl 1 (by decide) (hts (.fieldLink RX12 29 "AnnuityHouseModel" "mode" "I") (by decide +kernel)) (fun _ h9 => h9) rfl dX12_setMode_21 ?_
    refine lv_istore_n (lv' := [(2, .int (iz ((6 : Int)))), (0, .ref x), (1, .int (iz (md)))]) hx hb dX12_setMode_24 rfl hl (by decide) rfl (fun ls hl => ?_)
    refine lv_aload_n hx hb dX12_setMode_25 rfl (lv_at hl 1 rfl) ?_
    refine lv_iload_n hx hb dX12_setMode_26 rfl (lv_at hl 2 rfl) ?_
    refine va_put (D := G.1) (ci := 13) (v := .int (iz (md))) (ty := .int) (C := RX12) (T := TX12) (N := 12) hx hb hts iwX12 tyX12 tyX12_ok nmX12 hown hK hP hD hS 0 rfl rfl 1 (by decide) (hts (.fieldLink RX12 29 "AnnuityHouseModel" "mode" "I") (by decide +kernel)) (fun _ h9 => h9) rfl (by decide +kernel) rfl rfl (Nat.le_of_ble_eq_true rfl) dX12_setMode_27 (fun H locs hP hD hS => ?_)
    have hP : va_P G.1 vwCl [(x, .inr (13, [.int (iz (thp)), .int (iz (md)), .ref am, .null, .ref tb, .ref lv, .int (iz (0)), .ref wt, .int (iz (0)), .ref bg, .ref pm, .int (iz (0))]))] H := hP
    have hD : va_D A [(x, .inr (13, [.int (iz (thp)), .int (iz (md)), .ref am, .null, .ref tb, .ref lv, .int (iz (0)), .ref wt, .int (iz (0)), .ref bg, .ref pm, .int (iz (0))]))] := hD
    refine lv_iload_n hx hb dX12_setMode_30 rfl (lv_at hl 0 rfl) ?_
    rw [hQ]
    exact zr_iret (z := (6 : Int)) (u := (thp)) hx hb hr hlocks hP hD hS (by first | exact Nat.le_of_ble_eq_true rfl | omega) (by first | exact Nat.le_of_ble_eq_true rfl | omega) dX12_setMode_31 (show 6 = 6 ∧ thp = 0 from ⟨rfl, htp⟩)
  · exact absurd h_5 (by decide)

def rm_c_X12_setMode_x : Room := { frames := 1, cells := 0, slots := 0, locals := 25 }
set_option maxHeartbeats 1000000 in
set_option maxRecDepth 100000 in
theorem c_X12_setMode_x (l : Launch) (G : zG) (x : Nat) (am : Nat) (tb : Nat) (lv : Nat) (wt : Nat) (bg : Nat) (pm : Nat) (th : Int) (md : Int) (h0 : -2147483648 ≤ md ∧ md < 2147483648) (h1 : ¬ (0 ≤ md ∧ md ≤ 7)) : zM l G yX12_setMode wsX12_setMode rm_c_X12_setMode_x [.ref x, .int (iz (md))] [(x, .inr (13, [.int (iz (th)), .int (iz (6)), .ref am, .null, .ref tb, .ref lv, .int (iz (0)), .ref wt, .int (iz (0)), .ref bg, .ref pm, .int (iz (0))]))] (fun A => zQi G (fun (z : Int) (th2 : Int) => z = 0 ∧ th2 = 1) (fun (th2 : Int) => [(x, .inr (13, [.int (iz (th2)), .int (iz (6)), .ref am, .null, .ref tb, .ref lv, .int (iz (0)), .ref wt, .int (iz (0)), .ref bg, .ref pm, .int (iz (0))]))]) A) 0 0 := by
  refine zM_of (cc := cX12_setMode) (maxL := 3) (ret := (some .int)) (by decide) rfl (Nat.le_of_ble_eq_true rfl) ?_
  intro p e s m below meth c ls A Q hQ hx hb hr hts hown hlocks hml hnm hKX hP hD hA hS hl
  have hK := hKX.1
  obtain ⟨H, hH⟩ : ∃ h, h = s.heap := ⟨_, rfl⟩
  obtain ⟨locs, hlo⟩ : ∃ h : List Loc, h = [] := ⟨_, rfl⟩
  have hS : va_S A s.heap H locs := by rw [hH, hlo]; exact hS
  have hP : va_P G.1 vwCl [(x, .inr (13, [.int (iz (th)), .int (iz (6)), .ref am, .null, .ref tb, .ref lv, .int (iz (0)), .ref wt, .int (iz (0)), .ref bg, .ref pm, .int (iz (0))]))] H := by rw [hH]; exact hP
  have hD : va_D A [(x, .inr (13, [.int (iz (th)), .int (iz (6)), .ref am, .null, .ref tb, .ref lv, .int (iz (0)), .ref wt, .int (iz (0)), .ref bg, .ref pm, .int (iz (0))]))] := hD
  have hl : lv_has ls 3 [(0, .ref x), (1, .int (iz (md)))] := hl
  rw [← hH, ← hlo]
  refine lv_aload_n hx hb dX12_setMode_0 rfl (lv_at hl 0 rfl) ?_
  refine lv_iload_n hx hb dX12_setMode_1 rfl (lv_at hl 1 rfl) ?_
  refine zr_i2l hx hb (x := md) (⟨by omega, by omega⟩) dX12_setMode_2 ?_
  refine lv_lconst (v := lz (0)) hx hb dX12_setMode_3 rfl ?_
  refine zr_ldc2 (z := 7) hx hb hown (hts (.constantLong RX12 89 (7)) (by decide +kernel)) rfl dX12_setMode_4 ?_
  refine zc_z (wr := [(x, .inr (13, [.int (iz (th)), .int (iz (6)), .ref am, .null, .ref tb, .ref lv, .int (iz (0)), .ref wt, .int (iz (0)), .ref bg, .ref pm, .int (iz (0))]))]) (va_runS (As := [.long (lz (md)), .long (lz (0)), .long (lz (7))]) (rest := [.ref x]) ⟨hx, hb, hml, hown, hts⟩ (c_X12_in l G md 0 7 (by omega) (by omega) (by omega) H.size) (va_cwS 3 hts gX12_setMode_X12_in rfl rfl rfl (by decide +kernel) ⟨Nat.le_of_ble_eq_true rfl, Nat.le_of_ble_eq_true rfl⟩) (zpS hKX hP hD [] rfl rfl) rfl rfl hl.1 rfl (lv_room (Nat.le_of_ble_eq_true rfl)) dX12_setMode_7 ⟨(by first | exact Nat.le_of_ble_eq_true rfl | (show _ ≤ (0 : Nat); omega)), (by first | exact Nat.le_of_ble_eq_true rfl | (show _ ≤ (0 : Nat); omega))⟩) hP hD hS hA [] [0] rfl rfl rfl (by decide) (fun y1 u_1 H locs hy1 hP hD hS => ?_)
  have hP : va_P G.1 vwCl [(x, .inr (13, [.int (iz (th)), .int (iz (6)), .ref am, .null, .ref tb, .ref lv, .int (iz (0)), .ref wt, .int (iz (0)), .ref bg, .ref pm, .int (iz (0))]))] H := hP
  have hD : va_D A [(x, .inr (13, [.int (iz (th)), .int (iz (6)), .ref am, .null, .ref tb, .ref lv, .int (iz (0)), .ref wt, .int (iz (0)), .ref bg, .ref pm, .int (iz (0))]))] := hD
  have hy1 : y1 = decide ((0 : Int) ≤ md ∧ md ≤ (7 : Int)) := hy1
  rw [show y1 = false from hy1.trans (decide_eq_false (by omega))]
  refine lv_iconst (v := iz (1)) hx hb dX12_setMode_10 rfl ?_
  refine lv_iconst (v := iz (1)) hx hb dX12_setMode_11 rfl ?_
  refine zc_z (wr := []) (va_runV (As := [.int (iz (zbb false)), .int (iz (1)), .int (iz (1))]) (rest := []) ⟨hx, hb, hml, hown, hts⟩ (c_X12_passes l G x th (.ref am) .null (.ref tb) (.ref lv) (.int (iz (0))) (.ref wt) (.int (iz (0))) (.ref bg) (.ref pm) (.int (iz (0))) 6 false true true  H.size) (cwV 3 hts gX12_setMode_X12_passes rfl rfl rfl (by decide +kernel) ⟨Nat.le_of_ble_eq_true rfl, Nat.le_of_ble_eq_true rfl⟩) (zpV hKX hP hD [0] rfl rfl 0 13 rfl rfl) rfl rfl hl.1 rfl (lv_room (Nat.le_of_ble_eq_true rfl)) dX12_setMode_12 ⟨(by first | exact Nat.le_of_ble_eq_true rfl | (show _ ≤ (0 : Nat); omega)), (by first | exact Nat.le_of_ble_eq_true rfl | (show _ ≤ (0 : Nat); omega))⟩) hP hD hS hA [0] [] rfl rfl rfl (by decide) (fun pz u_3 H locs hp hP hD hS => ?_)
  generalize u_3 = thp at hP hD hp
  have hP : va_P G.1 vwCl [(x, .inr (13, [.int (iz (thp)), .int (iz ((6 : Int))), .ref am, .null, .ref tb, .ref lv, .int (iz (0)), .ref wt, .int (iz (0)), .ref bg, .ref pm, .int (iz (0))]))] H := hP
  have hD : va_D A [(x, .inr (13, [.int (iz (thp)), .int (iz ((6 : Int))), .ref am, .null, .ref tb, .ref lv, .int (iz (0)), .ref wt, .int (iz (0)), .ref bg, .ref pm, .int (iz (0))]))] := hD
  have hp : pz = (false && true && true) ∧ thp = zcode false true true := hp
  rw [show pz = false from hp.1]
  have htp := hp.2
  refine zr_ifz_ne (tgt := 20) hx hb dX12_setMode_15 (by decide) (fun h_5 => ?_) (fun h_5 => ?_)
  · exact absurd h_5 (by decide)
  ·
    refine lv_iconst (v := iz (0)) hx hb dX12_setMode_18 rfl ?_
    rw [hQ]
    exact zr_iret (z := 0) (u := (thp)) hx hb hr hlocks hP hD hS (by first | exact Nat.le_of_ble_eq_true rfl | omega) (by first | exact Nat.le_of_ble_eq_true rfl | omega) dX12_setMode_19 (show 0 = 0 ∧ thp = 1 from ⟨rfl, htp⟩)

def rm_c_X12_mode : Room := { frames := 0, cells := 0, slots := 0, locals := 0 }
theorem iw_X12_mode_X12 : ∀ w ∈ wsX120, w ∈ wsX12_mode := by decide +kernel
set_option maxHeartbeats 1000000 in
set_option maxRecDepth 100000 in
theorem c_X12_mode (l : Launch) (G : zG) (x : Nat) (am : Nat) (tb : Nat) (lv : Nat) (wt : Nat) (bg : Nat) (pm : Nat) (th : Int)  : zM l G yX12_mode wsX12_mode rm_c_X12_mode [.ref x] [(x, .inr (13, [.int (iz (th)), .int (iz (6)), .ref am, .null, .ref tb, .ref lv, .int (iz (0)), .ref wt, .int (iz (0)), .ref bg, .ref pm, .int (iz (0))]))] (fun A => zQi G (fun (z : Int) (th2 : Int) => z = 6 ∧ th2 = 0) (fun (th2 : Int) => [(x, .inr (13, [.int (iz (th2)), .int (iz (6)), .ref am, .null, .ref tb, .ref lv, .int (iz (0)), .ref wt, .int (iz (0)), .ref bg, .ref pm, .int (iz (0))]))]) A) 0 0 := by
  refine zM_of (cc := cX12_mode) (maxL := 1) (ret := (some .int)) (by decide) rfl (Nat.le_of_ble_eq_true rfl) ?_
  intro p e s m below meth c ls A Q hQ hx hb hr hts hown hlocks hml hnm hKX hP hD hA hS hl
  have hK := hKX.1
  have iwX12 := iw_X12_mode_X12
  obtain ⟨H, hH⟩ : ∃ h, h = s.heap := ⟨_, rfl⟩
  obtain ⟨locs, hlo⟩ : ∃ h : List Loc, h = [] := ⟨_, rfl⟩
  have hS : va_S A s.heap H locs := by rw [hH, hlo]; exact hS
  have hP : va_P G.1 vwCl [(x, .inr (13, [.int (iz (th)), .int (iz (6)), .ref am, .null, .ref tb, .ref lv, .int (iz (0)), .ref wt, .int (iz (0)), .ref bg, .ref pm, .int (iz (0))]))] H := by rw [hH]; exact hP
  have hD : va_D A [(x, .inr (13, [.int (iz (th)), .int (iz (6)), .ref am, .null, .ref tb, .ref lv, .int (iz (0)), .ref wt, .int (iz (0)), .ref bg, .ref pm, .int (iz (0))]))] := hD
  have hl : lv_has ls 1 [(0, .ref x)] := hl
  rw [← hH, ← hlo]
  refine lv_aload_n hx hb dX12_mode_0 rfl (lv_at hl 0 rfl) ?_
  refine lv_iconst (v := iz (0)) hx hb dX12_mode_1 rfl ?_
  refine va_put (D := G.1) (ci := 13) (v := .int (iz (0))) (ty := .int) (C := RX12) (T := TX12) (N := 12) hx hb hts iwX12 tyX12 tyX12_ok nmX12 hown hK hP hD hS 0 rfl rfl 0 (by decide) (hts (.fieldLink RX12 1 "AnnuityHouseModel" "thrown" "I") (by decide +kernel)) (fun _ h9 => h9) rfl (by decide +kernel) rfl rfl (Nat.le_of_ble_eq_true rfl) dX12_mode_2 (fun H locs hP hD hS => ?_)
  have hP : va_P G.1 vwCl [(x, .inr (13, [.int (iz (0)), .int (iz (6)), .ref am, .null, .ref tb, .ref lv, .int (iz (0)), .ref wt, .int (iz (0)), .ref bg, .ref pm, .int (iz (0))]))] H := hP
  have hD : va_D A [(x, .inr (13, [.int (iz (0)), .int (iz (6)), .ref am, .null, .ref tb, .ref lv, .int (iz (0)), .ref wt, .int (iz (0)), .ref bg, .ref pm, .int (iz (0))]))] := hD
  refine lv_aload_n hx hb dX12_mode_5 rfl (lv_at hl 0 rfl) ?_
  refine va_get (D := G.1) (ci := 13) (v := .int (iz (6))) (C := RX12) (T := TX12) (N := 12) hx hb hts iwX12 hown hK hP 0 rfl rfl 1 (by decide) (hts (.fieldLink RX12 29 "AnnuityHouseModel" "mode" "I") (by decide +kernel)) (fun _ h9 => h9) rfl dX12_mode_6 ?_
  rw [hQ]
  exact zr_iret (z := 6) (u := (0)) hx hb hr hlocks hP hD hS (by first | exact Nat.le_of_ble_eq_true rfl | omega) (by first | exact Nat.le_of_ble_eq_true rfl | omega) dX12_mode_9 (show 6 = 6 ∧ 0 = 0 from ⟨rfl, rfl⟩)

def rm_c_X12_round_o : Room := { frames := 13, cells := 600, slots := 40000, locals := 526 }
set_option maxHeartbeats 1000000 in
set_option maxRecDepth 100000 in
theorem c_X12_round_o (l : Launch) (G : zG) (x : Nat) (am : Nat) (tb : Nat) (lv : Nat) (wt : Nat) (bg : Nat) (pm : Nat) (th : Int) (ov : Int) (un : Int) (dg : Int) (h0 : -9223372036854775808 ≤ ov ∧ ov < 9223372036854775808) (h01 : -9223372036854775808 ≤ un ∧ un < 9223372036854775808) (h02 : -2147483648 ≤ dg ∧ dg < 2147483648) (h1 : -1000000000000 ≤ ov ∧ ov ≤ 1000000000000 ∧ 1 ≤ un ∧ un ≤ 1000000000000 ∧ 0 ≤ dg ∧ dg ≤ 6) : zM l G yX12_round wsX12_round rm_c_X12_round_o [.ref x, .long (lz (ov)), .long (lz (un)), .int (iz (dg))] [(x, .inr (13, [.int (iz (th)), .int (iz (6)), .ref am, .null, .ref tb, .ref lv, .int (iz (0)), .ref wt, .int (iz (0)), .ref bg, .ref pm, .int (iz (0))]))] (fun A => zQl G (fun (z : Int) (th2 : Int) => z = zr6 (ov * 10 ^ dg.toNat) un ∧ th2 = 0) (fun (th2 : Int) => [(x, .inr (13, [.int (iz (th2)), .int (iz (6)), .ref am, .null, .ref tb, .ref lv, .int (iz (0)), .ref wt, .int (iz (0)), .ref bg, .ref pm, .int (iz (0))]))]) A) 600 40000 := by
  refine zM_of (cc := cX12_round) (maxL := 8) (ret := (some .long)) (by decide) rfl (Nat.le_of_ble_eq_true rfl) ?_
  intro p e s m below meth c ls A Q hQ hx hb hr hts hown hlocks hml hnm hKX hP hD hA hS hl
  have hK := hKX.1
  obtain ⟨H, hH⟩ : ∃ h, h = s.heap := ⟨_, rfl⟩
  obtain ⟨locs, hlo⟩ : ∃ h : List Loc, h = [] := ⟨_, rfl⟩
  have hS : va_S A s.heap H locs := by rw [hH, hlo]; exact hS
  have hP : va_P G.1 vwCl [(x, .inr (13, [.int (iz (th)), .int (iz (6)), .ref am, .null, .ref tb, .ref lv, .int (iz (0)), .ref wt, .int (iz (0)), .ref bg, .ref pm, .int (iz (0))]))] H := by rw [hH]; exact hP
  have hD : va_D A [(x, .inr (13, [.int (iz (th)), .int (iz (6)), .ref am, .null, .ref tb, .ref lv, .int (iz (0)), .ref wt, .int (iz (0)), .ref bg, .ref pm, .int (iz (0))]))] := hD
  have hl : lv_has ls 8 [(0, .ref x), (1, .long (lz (ov))), (3, .long (lz (un))), (5, .int (iz (dg)))] := hl
  rw [← hH, ← hlo]
  have hpw := tr_pw10 h1.2.2.2.2
  refine lv_lload_n hx hb dX12_round_0 rfl (lv_at hl 1 rfl) ?_
  refine zr_ldc2 (z := -1000000000000) hx hb hown (hts (.constantLong RX12 99 (-1000000000000)) (by decide +kernel)) rfl dX12_round_1 ?_
  refine zr_ldc2 (z := 1000000000000) hx hb hown (hts (.constantLong RX12 101 (1000000000000)) (by decide +kernel)) rfl dX12_round_4 ?_
  refine zc_z (wr := [(x, .inr (13, [.int (iz (th)), .int (iz (6)), .ref am, .null, .ref tb, .ref lv, .int (iz (0)), .ref wt, .int (iz (0)), .ref bg, .ref pm, .int (iz (0))]))]) (va_runS (As := [.long (lz (ov)), .long (lz (-1000000000000)), .long (lz (1000000000000))]) (rest := []) ⟨hx, hb, hml, hown, hts⟩ (c_X12_in l G ov (-1000000000000) 1000000000000 (by omega) (by omega) (by omega) H.size) (va_cwS 3 hts gX12_round_X12_in rfl rfl rfl (by decide +kernel) ⟨Nat.le_of_ble_eq_true rfl, Nat.le_of_ble_eq_true rfl⟩) (zpS hKX hP hD [] rfl rfl) rfl rfl hl.1 rfl (lv_room (Nat.le_of_ble_eq_true rfl)) dX12_round_7 ⟨(by first | exact Nat.le_of_ble_eq_true rfl | (show _ ≤ (600 : Nat); omega)), (by first | exact Nat.le_of_ble_eq_true rfl | (show _ ≤ (40000 : Nat); omega))⟩) hP hD hS hA [] [0] rfl rfl rfl (by decide) (fun y1 u_1 H locs hy1 hP hD hS => ?_)
  have hP : va_P G.1 vwCl [(x, .inr (13, [.int (iz (th)), .int (iz (6)), .ref am, .null, .ref tb, .ref lv, .int (iz (0)), .ref wt, .int (iz (0)), .ref bg, .ref pm, .int (iz (0))]))] H := hP
  have hD : va_D A [(x, .inr (13, [.int (iz (th)), .int (iz (6)), .ref am, .null, .ref tb, .ref lv, .int (iz (0)), .ref wt, .int (iz (0)), .ref bg, .ref pm, .int (iz (0))]))] := hD
  have hy1 : y1 = decide ((-1000000000000 : Int) ≤ ov ∧ ov ≤ (1000000000000 : Int)) := hy1
  rw [show y1 = true from hy1.trans (decide_eq_true (by omega))]
  refine zr_ifz_eq (tgt := 41) hx hb dX12_round_10 (by decide) (fun h_3 => ?_) (fun h_3 => ?_)
  · exact absurd h_3 (by decide)
  ·
    refine lv_lload_n hx hb dX12_round_13 rfl (lv_at hl 2 rfl) ?_
    refine lv_lconst (v := lz (1)) hx hb dX12_round_14 rfl ?_
    refine zr_ldc2 (z := 1000000000000) hx hb hown (hts (.constantLong RX12 101 (1000000000000)) (by decide +kernel)) rfl dX12_round_15 ?_
    refine zc_z (wr := [(x, .inr (13, [.int (iz (th)), .int (iz (6)), .ref am, .null, .ref tb, .ref lv, .int (iz (0)), .ref wt, .int (iz (0)), .ref bg, .ref pm, .int (iz (0))]))]) (va_runS (As := [.long (lz (un)), .long (lz (1)), .long (lz (1000000000000))]) (rest := []) ⟨hx, hb, hml, hown, hts⟩ (c_X12_in l G un 1 1000000000000 (by omega) (by omega) (by omega) H.size) (va_cwS 3 hts gX12_round_X12_in rfl rfl rfl (by decide +kernel) ⟨Nat.le_of_ble_eq_true rfl, Nat.le_of_ble_eq_true rfl⟩) (zpS hKX hP hD [] rfl rfl) rfl rfl hl.1 rfl (lv_room (Nat.le_of_ble_eq_true rfl)) dX12_round_18 ⟨(by first | exact Nat.le_of_ble_eq_true rfl | (show _ ≤ (600 : Nat); omega)), (by first | exact Nat.le_of_ble_eq_true rfl | (show _ ≤ (40000 : Nat); omega))⟩) hP hD hS hA [] [0] rfl rfl rfl (by decide) (fun y2 u_4 H locs hy2 hP hD hS => ?_)
    have hP : va_P G.1 vwCl [(x, .inr (13, [.int (iz (th)), .int (iz (6)), .ref am, .null, .ref tb, .ref lv, .int (iz (0)), .ref wt, .int (iz (0)), .ref bg, .ref pm, .int (iz (0))]))] H := hP
    have hD : va_D A [(x, .inr (13, [.int (iz (th)), .int (iz (6)), .ref am, .null, .ref tb, .ref lv, .int (iz (0)), .ref wt, .int (iz (0)), .ref bg, .ref pm, .int (iz (0))]))] := hD
    have hy2 : y2 = decide ((1 : Int) ≤ un ∧ un ≤ (1000000000000 : Int)) := hy2
    rw [show y2 = true from hy2.trans (decide_eq_true (by omega))]
    refine zr_ifz_eq (tgt := 41) hx hb dX12_round_21 (by decide) (fun h_6 => ?_) (fun h_6 => ?_)
    · exact absurd h_6 (by decide)
    ·
      refine lv_iload hx hb dX12_round_24 (lv_at hl 3 rfl) ?_
      refine zr_i2l hx hb (x := dg) (⟨by omega, by omega⟩) dX12_round_26 ?_
      refine lv_lconst (v := lz (0)) hx hb dX12_round_27 rfl ?_
      refine zr_ldc2 (z := 6) hx hb hown (hts (.constantLong RX12 103 (6)) (by decide +kernel)) rfl dX12_round_28 ?_
      refine zc_z (wr := [(x, .inr (13, [.int (iz (th)), .int (iz (6)), .ref am, .null, .ref tb, .ref lv, .int (iz (0)), .ref wt, .int (iz (0)), .ref bg, .ref pm, .int (iz (0))]))]) (va_runS (As := [.long (lz (dg)), .long (lz (0)), .long (lz (6))]) (rest := []) ⟨hx, hb, hml, hown, hts⟩ (c_X12_in l G dg 0 6 (by omega) (by omega) (by omega) H.size) (va_cwS 3 hts gX12_round_X12_in rfl rfl rfl (by decide +kernel) ⟨Nat.le_of_ble_eq_true rfl, Nat.le_of_ble_eq_true rfl⟩) (zpS hKX hP hD [] rfl rfl) rfl rfl hl.1 rfl (lv_room (Nat.le_of_ble_eq_true rfl)) dX12_round_31 ⟨(by first | exact Nat.le_of_ble_eq_true rfl | (show _ ≤ (600 : Nat); omega)), (by first | exact Nat.le_of_ble_eq_true rfl | (show _ ≤ (40000 : Nat); omega))⟩) hP hD hS hA [] [0] rfl rfl rfl (by decide) (fun y3 u_7 H locs hy3 hP hD hS => ?_)
      have hP : va_P G.1 vwCl [(x, .inr (13, [.int (iz (th)), .int (iz (6)), .ref am, .null, .ref tb, .ref lv, .int (iz (0)), .ref wt, .int (iz (0)), .ref bg, .ref pm, .int (iz (0))]))] H := hP
      have hD : va_D A [(x, .inr (13, [.int (iz (th)), .int (iz (6)), .ref am, .null, .ref tb, .ref lv, .int (iz (0)), .ref wt, .int (iz (0)), .ref bg, .ref pm, .int (iz (0))]))] := hD
      have hy3 : y3 = decide ((0 : Int) ≤ dg ∧ dg ≤ (6 : Int)) := hy3
      rw [show y3 = true from hy3.trans (decide_eq_true (by omega))]
      refine zr_ifz_eq (tgt := 41) hx hb dX12_round_34 (by decide) (fun h_9 => ?_) (fun h_9 => ?_)
      · exact absurd h_9 (by decide)
      ·
        refine lv_iconst (v := iz (1)) hx hb dX12_round_37 rfl ?_
        refine lv_goto (tgt := 42) hx hb dX12_round_38 (by decide) ?_
        refine lv_istore (lv' := [(6, .int (iz (1))), (0, .ref x), (1, .long (lz (ov))), (3, .long (lz (un))), (5, .int (iz (dg)))]) hx hb dX12_round_42 hl (by decide) rfl (fun ls hl => ?_)
        refine lv_iload hx hb dX12_round_44 (lv_at hl 0 rfl) ?_
        refine zr_if_eq (x := 1) (tgt := 75) hx hb (⟨by omega, by omega⟩) dX12_round_46 (by decide) (fun h_10 => ?_) (fun h_10 => ?_)
        · exact absurd h_10 (by omega)
        ·
          refine lv_aload_n hx hb dX12_round_49 rfl (lv_at hl 1 rfl) ?_
          refine lv_lload_n hx hb dX12_round_50 rfl (lv_at hl 2 rfl) ?_
          refine zc_r (wr := [(x, .inr (13, [.int (iz (th)), .int (iz (6)), .ref am, .null, .ref tb, .ref lv, .int (iz (0)), .ref wt, .int (iz (0)), .ref bg, .ref pm, .int (iz (0))]))]) (va_runS (As := [.long (lz (ov))]) (rest := [.ref x]) ⟨hx, hb, hml, hown, hts⟩ (c_X11_of l G ov (by omega) H.size) (va_cwS 1 hts gX12_round_X11_of rfl rfl rfl (by decide +kernel) ⟨Nat.le_of_ble_eq_true rfl, Nat.le_of_ble_eq_true rfl⟩) (zpS hKX hP hD [] rfl rfl) rfl rfl hl.1 rfl (lv_room (Nat.le_of_ble_eq_true rfl)) dX12_round_51 ⟨(by first | exact Nat.le_of_ble_eq_true rfl | (show _ ≤ (600 : Nat); omega)), (by first | exact Nat.le_of_ble_eq_true rfl | (show _ ≤ (40000 : Nat); omega))⟩) hP hD hS hA [] [0] rfl rfl rfl (by decide) (fun u_11 r1 H locs q1 hP hD hS => ?_)
          obtain ⟨b1, f1, N1, s1⟩ := u_11
          have hP : va_P G.1 vwCl [(x, .inr (13, [.int (iz (th)), .int (iz (6)), .ref am, .null, .ref tb, .ref lv, .int (iz (0)), .ref wt, .int (iz (0)), .ref bg, .ref pm, .int (iz (0))])), (r1, .inr (12, [.int (iz (s1)), .ref b1])), (b1, zaI (G.2 1) N1 (f1))] H := hP
          have hD : va_D A [(x, .inr (13, [.int (iz (th)), .int (iz (6)), .ref am, .null, .ref tb, .ref lv, .int (iz (0)), .ref wt, .int (iz (0)), .ref bg, .ref pm, .int (iz (0))])), (r1, .inr (12, [.int (iz (s1)), .ref b1])), (b1, zaI (G.2 1) N1 (f1))] := hD
          have q1 : tmw f1 N1 s1 ov := q1
          refine zr_ldc2 (z := 10) hx hb hown (hts (.constantLong RX12 105 (10)) (by decide +kernel)) rfl dX12_round_54 ?_
          refine lv_iload hx hb dX12_round_57 (lv_at hl 4 rfl) ?_
          refine zc_r (wr := [(x, .inr (13, [.int (iz (th)), .int (iz (6)), .ref am, .null, .ref tb, .ref lv, .int (iz (0)), .ref wt, .int (iz (0)), .ref bg, .ref pm, .int (iz (0))])), (r1, .inr (12, [.int (iz (s1)), .ref b1])), (b1, zaI (G.2 1) N1 (f1))]) (va_runS (As := [.long (lz (10)), .int (iz (dg))]) (rest := [.ref r1, .ref x]) ⟨hx, hb, hml, hown, hts⟩ (c_X12_raised l G 10 dg (by omega) (by omega) (tr_lt100 hpw.2) H.size) (va_cwS 2 hts gX12_round_X12_raised rfl rfl rfl (by decide +kernel) ⟨Nat.le_of_ble_eq_true rfl, Nat.le_of_ble_eq_true rfl⟩) (zpS hKX hP hD [] rfl rfl) rfl rfl hl.1 rfl (lv_room (Nat.le_of_ble_eq_true rfl)) dX12_round_59 ⟨(by first | exact Nat.le_of_ble_eq_true rfl | (show _ ≤ (600 : Nat); omega)), (by first | exact Nat.le_of_ble_eq_true rfl | (show _ ≤ (40000 : Nat); omega))⟩) hP hD hS hA [] [0, 1, 2] rfl rfl rfl (by decide) (fun u_13 r2 H locs q2 hP hD hS => ?_)
          obtain ⟨b2, f2, N2, s2⟩ := u_13
          have hP : va_P G.1 vwCl [(x, .inr (13, [.int (iz (th)), .int (iz (6)), .ref am, .null, .ref tb, .ref lv, .int (iz (0)), .ref wt, .int (iz (0)), .ref bg, .ref pm, .int (iz (0))])), (r1, .inr (12, [.int (iz (s1)), .ref b1])), (b1, zaI (G.2 1) N1 (f1)), (r2, .inr (12, [.int (iz (s2)), .ref b2])), (b2, zaI (G.2 1) N2 (f2))] H := hP
          have hD : va_D A [(x, .inr (13, [.int (iz (th)), .int (iz (6)), .ref am, .null, .ref tb, .ref lv, .int (iz (0)), .ref wt, .int (iz (0)), .ref bg, .ref pm, .int (iz (0))])), (r1, .inr (12, [.int (iz (s1)), .ref b1])), (b1, zaI (G.2 1) N1 (f1)), (r2, .inr (12, [.int (iz (s2)), .ref b2])), (b2, zaI (G.2 1) N2 (f2))] := hD
          have q2 : tmw f2 N2 s2 ((10 : Int) ^ dg.toNat) := q2
          refine zc_r (wr := [(x, .inr (13, [.int (iz (th)), .int (iz (6)), .ref am, .null, .ref tb, .ref lv, .int (iz (0)), .ref wt, .int (iz (0)), .ref bg, .ref pm, .int (iz (0))]))]) (va_runV (As := [.ref r2]) (rest := [.ref x]) ⟨hx, hb, hml, hown, hts⟩ (c_X11_times l G r1 b1 f1 N1 s1 r2 b2 f2 N2 s2 ov (10 ^ dg.toNat) (q1) (q2) (tr_mul10 (by omega) hpw) H.size) (cwV 1 hts gX12_round_X11_times rfl rfl rfl (by decide +kernel) ⟨Nat.le_of_ble_eq_true rfl, Nat.le_of_ble_eq_true rfl⟩) (zpV hKX hP hD [1, 2, 3, 4] rfl rfl 1 12 rfl rfl) rfl rfl hl.1 rfl (lv_room (Nat.le_of_ble_eq_true rfl)) dX12_round_62 ⟨(by first | exact Nat.le_of_ble_eq_true rfl | (show _ ≤ (600 : Nat); omega)), (by first | exact Nat.le_of_ble_eq_true rfl | (show _ ≤ (40000 : Nat); omega))⟩) hP hD hS hA [1, 2, 3, 4] [0] rfl rfl rfl (by decide) (fun u_15 r3 H locs q3 hP hD hS => ?_)
          obtain ⟨b3, f3, N3, s3⟩ := u_15
          have hP : va_P G.1 vwCl [(x, .inr (13, [.int (iz (th)), .int (iz (6)), .ref am, .null, .ref tb, .ref lv, .int (iz (0)), .ref wt, .int (iz (0)), .ref bg, .ref pm, .int (iz (0))])), (r1, .inr (12, [.int (iz (s1)), .ref b1])), (b1, zaI (G.2 1) N1 (f1)), (r2, .inr (12, [.int (iz (s2)), .ref b2])), (b2, zaI (G.2 1) N2 (f2)), (r3, .inr (12, [.int (iz (s3)), .ref b3])), (b3, zaI (G.2 1) N3 (f3))] H := hP
          have hD : va_D A [(x, .inr (13, [.int (iz (th)), .int (iz (6)), .ref am, .null, .ref tb, .ref lv, .int (iz (0)), .ref wt, .int (iz (0)), .ref bg, .ref pm, .int (iz (0))])), (r1, .inr (12, [.int (iz (s1)), .ref b1])), (b1, zaI (G.2 1) N1 (f1)), (r2, .inr (12, [.int (iz (s2)), .ref b2])), (b2, zaI (G.2 1) N2 (f2)), (r3, .inr (12, [.int (iz (s3)), .ref b3])), (b3, zaI (G.2 1) N3 (f3))] := hD
          have q3 : tmw f3 N3 s3 (ov * (10 ^ dg.toNat)) := q3
          refine lv_lload_n hx hb dX12_round_65 rfl (lv_at hl 3 rfl) ?_
          refine zc_r (wr := [(x, .inr (13, [.int (iz (th)), .int (iz (6)), .ref am, .null, .ref tb, .ref lv, .int (iz (0)), .ref wt, .int (iz (0)), .ref bg, .ref pm, .int (iz (0))])), (r1, .inr (12, [.int (iz (s1)), .ref b1])), (b1, zaI (G.2 1) N1 (f1)), (r2, .inr (12, [.int (iz (s2)), .ref b2])), (b2, zaI (G.2 1) N2 (f2)), (r3, .inr (12, [.int (iz (s3)), .ref b3])), (b3, zaI (G.2 1) N3 (f3))]) (va_runS (As := [.long (lz (un))]) (rest := [.ref r3, .ref x]) ⟨hx, hb, hml, hown, hts⟩ (c_X11_of l G un (by omega) H.size) (va_cwS 1 hts gX12_round_X11_of rfl rfl rfl (by decide +kernel) ⟨Nat.le_of_ble_eq_true rfl, Nat.le_of_ble_eq_true rfl⟩) (zpS hKX hP hD [] rfl rfl) rfl rfl hl.1 rfl (lv_room (Nat.le_of_ble_eq_true rfl)) dX12_round_66 ⟨(by first | exact Nat.le_of_ble_eq_true rfl | (show _ ≤ (600 : Nat); omega)), (by first | exact Nat.le_of_ble_eq_true rfl | (show _ ≤ (40000 : Nat); omega))⟩) hP hD hS hA [] [0, 1, 2, 3, 4, 5, 6] rfl rfl rfl (by decide) (fun u_17 r4 H locs q4 hP hD hS => ?_)
          obtain ⟨b4, f4, N4, s4⟩ := u_17
          have hP : va_P G.1 vwCl [(x, .inr (13, [.int (iz (th)), .int (iz (6)), .ref am, .null, .ref tb, .ref lv, .int (iz (0)), .ref wt, .int (iz (0)), .ref bg, .ref pm, .int (iz (0))])), (r1, .inr (12, [.int (iz (s1)), .ref b1])), (b1, zaI (G.2 1) N1 (f1)), (r2, .inr (12, [.int (iz (s2)), .ref b2])), (b2, zaI (G.2 1) N2 (f2)), (r3, .inr (12, [.int (iz (s3)), .ref b3])), (b3, zaI (G.2 1) N3 (f3)), (r4, .inr (12, [.int (iz (s4)), .ref b4])), (b4, zaI (G.2 1) N4 (f4))] H := hP
          have hD : va_D A [(x, .inr (13, [.int (iz (th)), .int (iz (6)), .ref am, .null, .ref tb, .ref lv, .int (iz (0)), .ref wt, .int (iz (0)), .ref bg, .ref pm, .int (iz (0))])), (r1, .inr (12, [.int (iz (s1)), .ref b1])), (b1, zaI (G.2 1) N1 (f1)), (r2, .inr (12, [.int (iz (s2)), .ref b2])), (b2, zaI (G.2 1) N2 (f2)), (r3, .inr (12, [.int (iz (s3)), .ref b3])), (b3, zaI (G.2 1) N3 (f3)), (r4, .inr (12, [.int (iz (s4)), .ref b4])), (b4, zaI (G.2 1) N4 (f4))] := hD
          have q4 : tmw f4 N4 s4 un := q4
          refine zc_r (wr := [(r1, .inr (12, [.int (iz (s1)), .ref b1])), (b1, zaI (G.2 1) N1 (f1)), (r2, .inr (12, [.int (iz (s2)), .ref b2])), (b2, zaI (G.2 1) N2 (f2))]) (va_runV (As := [.ref r3, .ref r4]) (rest := []) ⟨hx, hb, hml, hown, hts⟩ (c_X12_rounded l G x th (.ref am) .null (.ref tb) (.ref lv) (.int (iz (0))) (.ref wt) (.int (iz (0))) (.ref bg) (.ref pm) (.int (iz (0))) r3 b3 f3 N3 s3 r4 b4 f4 N4 s4 (ov * 10 ^ dg.toNat) un (q3) (q4) (by omega) (tr_mul120 (by omega) hpw) (tr_120 (by omega)) H.size) (cwV 2 hts gX12_round_X12_rounded rfl rfl rfl (by decide +kernel) ⟨Nat.le_of_ble_eq_true rfl, Nat.le_of_ble_eq_true rfl⟩) (zpV hKX hP hD [0, 5, 6, 7, 8] rfl rfl 0 13 rfl rfl) rfl rfl hl.1 rfl (lv_room (Nat.le_of_ble_eq_true rfl)) dX12_round_69 ⟨(by first | exact Nat.le_of_ble_eq_true rfl | (show _ ≤ (600 : Nat); omega)), (by first | exact Nat.le_of_ble_eq_true rfl | (show _ ≤ (40000 : Nat); omega))⟩) hP hD hS hA [0, 5, 6, 7, 8] [1, 2, 3, 4] rfl rfl rfl (by decide) (fun u_19 r5 H locs q5 hP hD hS => ?_)
          obtain ⟨b5, f5, N5, s5⟩ := u_19
          have hP : va_P G.1 vwCl [(r1, .inr (12, [.int (iz (s1)), .ref b1])), (b1, zaI (G.2 1) N1 (f1)), (r2, .inr (12, [.int (iz (s2)), .ref b2])), (b2, zaI (G.2 1) N2 (f2)), (x, .inr (13, [.int (iz (th)), .int (iz (6)), .ref am, .null, .ref tb, .ref lv, .int (iz (0)), .ref wt, .int (iz (0)), .ref bg, .ref pm, .int (iz (0))])), (r5, .inr (12, [.int (iz (s5)), .ref b5])), (b5, zaI (G.2 1) N5 (f5))] H := hP
          have hD : va_D A [(r1, .inr (12, [.int (iz (s1)), .ref b1])), (b1, zaI (G.2 1) N1 (f1)), (r2, .inr (12, [.int (iz (s2)), .ref b2])), (b2, zaI (G.2 1) N2 (f2)), (x, .inr (13, [.int (iz (th)), .int (iz (6)), .ref am, .null, .ref tb, .ref lv, .int (iz (0)), .ref wt, .int (iz (0)), .ref bg, .ref pm, .int (iz (0))])), (r5, .inr (12, [.int (iz (s5)), .ref b5])), (b5, zaI (G.2 1) N5 (f5))] := hD
          have q5 : tmw f5 N5 s5 (zr6 (ov * 10 ^ dg.toNat) un) := q5
          refine lv_goto (tgt := 76) hx hb dX12_round_72 (by decide) ?_
          refine lv_astore (lv' := [(7, .ref r5), (6, .int (iz (1))), (0, .ref x), (1, .long (lz (ov))), (3, .long (lz (un))), (5, .int (iz (dg)))]) hx hb dX12_round_76 hl (by decide) rfl (fun ls hl => ?_)
          refine lv_aload_n hx hb dX12_round_78 rfl (lv_at hl 2 rfl) ?_
          refine lv_iload hx hb dX12_round_79 (lv_at hl 1 rfl) ?_
          refine lv_aload hx hb dX12_round_81 (lv_at hl 0 rfl) ?_
          refine lv_ifnull hx hb dX12_round_83 ?_
          refine lv_iconst (v := iz (1)) hx hb dX12_round_86 rfl ?_
          refine lv_goto (tgt := 91) hx hb dX12_round_87 (by decide) ?_
          refine lv_iconst (v := iz (1)) hx hb dX12_round_91 rfl ?_
          refine zc_z (wr := [(r1, .inr (12, [.int (iz (s1)), .ref b1])), (b1, zaI (G.2 1) N1 (f1)), (r2, .inr (12, [.int (iz (s2)), .ref b2])), (b2, zaI (G.2 1) N2 (f2)), (r5, .inr (12, [.int (iz (s5)), .ref b5])), (b5, zaI (G.2 1) N5 (f5))]) (va_runV (As := [.int (iz (1)), .int (iz (1)), .int (iz (1))]) (rest := []) ⟨hx, hb, hml, hown, hts⟩ (c_X12_passes l G x th (.ref am) .null (.ref tb) (.ref lv) (.int (iz (0))) (.ref wt) (.int (iz (0))) (.ref bg) (.ref pm) (.int (iz (0))) 6 true true true  H.size) (cwV 3 hts gX12_round_X12_passes rfl rfl rfl (by decide +kernel) ⟨Nat.le_of_ble_eq_true rfl, Nat.le_of_ble_eq_true rfl⟩) (zpV hKX hP hD [4] rfl rfl 4 13 rfl rfl) rfl rfl hl.1 rfl (lv_room (Nat.le_of_ble_eq_true rfl)) dX12_round_92 ⟨(by first | exact Nat.le_of_ble_eq_true rfl | (show _ ≤ (600 : Nat); omega)), (by first | exact Nat.le_of_ble_eq_true rfl | (show _ ≤ (40000 : Nat); omega))⟩) hP hD hS hA [4] [0, 1, 2, 3, 5, 6] rfl rfl rfl (by decide) (fun pz u_21 H locs hp hP hD hS => ?_)
          generalize u_21 = thp at hP hD hp
          have hP : va_P G.1 vwCl [(r1, .inr (12, [.int (iz (s1)), .ref b1])), (b1, zaI (G.2 1) N1 (f1)), (r2, .inr (12, [.int (iz (s2)), .ref b2])), (b2, zaI (G.2 1) N2 (f2)), (r5, .inr (12, [.int (iz (s5)), .ref b5])), (b5, zaI (G.2 1) N5 (f5)), (x, .inr (13, [.int (iz (thp)), .int (iz ((6 : Int))), .ref am, .null, .ref tb, .ref lv, .int (iz (0)), .ref wt, .int (iz (0)), .ref bg, .ref pm, .int (iz (0))]))] H := hP
          have hD : va_D A [(r1, .inr (12, [.int (iz (s1)), .ref b1])), (b1, zaI (G.2 1) N1 (f1)), (r2, .inr (12, [.int (iz (s2)), .ref b2])), (b2, zaI (G.2 1) N2 (f2)), (r5, .inr (12, [.int (iz (s5)), .ref b5])), (b5, zaI (G.2 1) N5 (f5)), (x, .inr (13, [.int (iz (thp)), .int (iz ((6 : Int))), .ref am, .null, .ref tb, .ref lv, .int (iz (0)), .ref wt, .int (iz (0)), .ref bg, .ref pm, .int (iz (0))]))] := hD
          have hp : pz = (true && true && true) ∧ thp = zcode true true true := hp
          rw [show pz = true from hp.1]
          have htp := hp.2
          refine zr_ifz_eq (tgt := 107) hx hb dX12_round_95 (by decide) (fun h_23 => ?_) (fun h_23 => ?_)
          · exact absurd h_23 (by decide)
          ·
            refine lv_aload_n hx hb dX12_round_98 rfl (lv_at hl 2 rfl) ?_
            refine lv_aload hx hb dX12_round_99 (lv_at hl 0 rfl) ?_
            refine zc_l (wr := [(r1, .inr (12, [.int (iz (s1)), .ref b1])), (b1, zaI (G.2 1) N1 (f1)), (r2, .inr (12, [.int (iz (s2)), .ref b2])), (b2, zaI (G.2 1) N2 (f2))]) (va_runV (As := [.ref r5]) (rest := []) ⟨hx, hb, hml, hown, hts⟩ (c_X12_tells l G x thp (.ref am) .null (.ref tb) (.ref lv) (.int (iz (0))) (.ref wt) (.int (iz (0))) (.ref bg) (.ref pm) (.int (iz (0))) r5 b5 f5 N5 s5 (zr6 (ov * 10 ^ dg.toNat) un) (q5) H.size) (cwV 1 hts gX12_round_X12_tells rfl rfl rfl (by decide +kernel) ⟨Nat.le_of_ble_eq_true rfl, Nat.le_of_ble_eq_true rfl⟩) (zpV hKX hP hD [6, 4, 5] rfl rfl 6 13 rfl rfl) rfl rfl hl.1 rfl (lv_room (Nat.le_of_ble_eq_true rfl)) dX12_round_101 ⟨(by first | exact Nat.le_of_ble_eq_true rfl | (show _ ≤ (600 : Nat); omega)), (by first | exact Nat.le_of_ble_eq_true rfl | (show _ ≤ (40000 : Nat); omega))⟩) hP hD hS hA [6, 4, 5] [0, 1, 2, 3] rfl rfl rfl (by decide) (fun zz u_24 H locs hzz hP hD hS => ?_)
            have hP : va_P G.1 vwCl [(r1, .inr (12, [.int (iz (s1)), .ref b1])), (b1, zaI (G.2 1) N1 (f1)), (r2, .inr (12, [.int (iz (s2)), .ref b2])), (b2, zaI (G.2 1) N2 (f2)), (x, .inr (13, [.int (iz (thp)), .int (iz (6)), .ref am, .null, .ref tb, .ref lv, .int (iz (0)), .ref wt, .int (iz (0)), .ref bg, .ref pm, .int (iz (0))])), (r5, .inr (12, [.int (iz (s5)), .ref b5])), (b5, zaI (G.2 1) N5 (f5))] H := hP
            have hD : va_D A [(r1, .inr (12, [.int (iz (s1)), .ref b1])), (b1, zaI (G.2 1) N1 (f1)), (r2, .inr (12, [.int (iz (s2)), .ref b2])), (b2, zaI (G.2 1) N2 (f2)), (x, .inr (13, [.int (iz (thp)), .int (iz (6)), .ref am, .null, .ref tb, .ref lv, .int (iz (0)), .ref wt, .int (iz (0)), .ref bg, .ref pm, .int (iz (0))])), (r5, .inr (12, [.int (iz (s5)), .ref b5])), (b5, zaI (G.2 1) N5 (f5))] := hD
            have hzz : zz = (zr6 (ov * 10 ^ dg.toNat) un) := hzz
            refine lv_goto (tgt := 108) hx hb dX12_round_104 (by decide) ?_
            rw [hQ]
            exact zr_lret (z := zz) (u := (thp)) hx hb hr hlocks (hP.sub [4] rfl) (hD.sub [4] (by decide) rfl) hS (by first | exact Nat.le_of_ble_eq_true rfl | omega) (by first | exact Nat.le_of_ble_eq_true rfl | omega) dX12_round_108 (show zz = zr6 (ov * 10 ^ dg.toNat) un ∧ thp = 0 from ⟨hzz, htp⟩)

def rm_c_X12_round_x : Room := { frames := 1, cells := 0, slots := 0, locals := 25 }
set_option maxHeartbeats 1000000 in
set_option maxRecDepth 100000 in
theorem c_X12_round_x (l : Launch) (G : zG) (x : Nat) (am : Nat) (tb : Nat) (lv : Nat) (wt : Nat) (bg : Nat) (pm : Nat) (th : Int) (ov : Int) (un : Int) (dg : Int) (h0 : -9223372036854775808 ≤ ov ∧ ov < 9223372036854775808) (h01 : -9223372036854775808 ≤ un ∧ un < 9223372036854775808) (h02 : -2147483648 ≤ dg ∧ dg < 2147483648) (h1 : ¬ (-1000000000000 ≤ ov ∧ ov ≤ 1000000000000 ∧ 1 ≤ un ∧ un ≤ 1000000000000 ∧ 0 ≤ dg ∧ dg ≤ 6)) : zM l G yX12_round wsX12_round rm_c_X12_round_x [.ref x, .long (lz (ov)), .long (lz (un)), .int (iz (dg))] [(x, .inr (13, [.int (iz (th)), .int (iz (6)), .ref am, .null, .ref tb, .ref lv, .int (iz (0)), .ref wt, .int (iz (0)), .ref bg, .ref pm, .int (iz (0))]))] (fun A => zQl G (fun (z : Int) (th2 : Int) => z = 0 ∧ th2 = 1) (fun (th2 : Int) => [(x, .inr (13, [.int (iz (th2)), .int (iz (6)), .ref am, .null, .ref tb, .ref lv, .int (iz (0)), .ref wt, .int (iz (0)), .ref bg, .ref pm, .int (iz (0))]))]) A) 0 0 := by
  refine zM_of (cc := cX12_round) (maxL := 8) (ret := (some .long)) (by decide) rfl (Nat.le_of_ble_eq_true rfl) ?_
  intro p e s m below meth c ls A Q hQ hx hb hr hts hown hlocks hml hnm hKX hP hD hA hS hl
  have hK := hKX.1
  obtain ⟨H, hH⟩ : ∃ h, h = s.heap := ⟨_, rfl⟩
  obtain ⟨locs, hlo⟩ : ∃ h : List Loc, h = [] := ⟨_, rfl⟩
  have hS : va_S A s.heap H locs := by rw [hH, hlo]; exact hS
  have hP : va_P G.1 vwCl [(x, .inr (13, [.int (iz (th)), .int (iz (6)), .ref am, .null, .ref tb, .ref lv, .int (iz (0)), .ref wt, .int (iz (0)), .ref bg, .ref pm, .int (iz (0))]))] H := by rw [hH]; exact hP
  have hD : va_D A [(x, .inr (13, [.int (iz (th)), .int (iz (6)), .ref am, .null, .ref tb, .ref lv, .int (iz (0)), .ref wt, .int (iz (0)), .ref bg, .ref pm, .int (iz (0))]))] := hD
  have hl : lv_has ls 8 [(0, .ref x), (1, .long (lz (ov))), (3, .long (lz (un))), (5, .int (iz (dg)))] := hl
  rw [← hH, ← hlo]
  refine lv_lload_n hx hb dX12_round_0 rfl (lv_at hl 1 rfl) ?_
  refine zr_ldc2 (z := -1000000000000) hx hb hown (hts (.constantLong RX12 99 (-1000000000000)) (by decide +kernel)) rfl dX12_round_1 ?_
  refine zr_ldc2 (z := 1000000000000) hx hb hown (hts (.constantLong RX12 101 (1000000000000)) (by decide +kernel)) rfl dX12_round_4 ?_
  refine zc_z (wr := [(x, .inr (13, [.int (iz (th)), .int (iz (6)), .ref am, .null, .ref tb, .ref lv, .int (iz (0)), .ref wt, .int (iz (0)), .ref bg, .ref pm, .int (iz (0))]))]) (va_runS (As := [.long (lz (ov)), .long (lz (-1000000000000)), .long (lz (1000000000000))]) (rest := []) ⟨hx, hb, hml, hown, hts⟩ (c_X12_in l G ov (-1000000000000) 1000000000000 (by omega) (by omega) (by omega) H.size) (va_cwS 3 hts gX12_round_X12_in rfl rfl rfl (by decide +kernel) ⟨Nat.le_of_ble_eq_true rfl, Nat.le_of_ble_eq_true rfl⟩) (zpS hKX hP hD [] rfl rfl) rfl rfl hl.1 rfl (lv_room (Nat.le_of_ble_eq_true rfl)) dX12_round_7 ⟨(by first | exact Nat.le_of_ble_eq_true rfl | (show _ ≤ (0 : Nat); omega)), (by first | exact Nat.le_of_ble_eq_true rfl | (show _ ≤ (0 : Nat); omega))⟩) hP hD hS hA [] [0] rfl rfl rfl (by decide) (fun y1 u_1 H locs hy1 hP hD hS => ?_)
  have hP : va_P G.1 vwCl [(x, .inr (13, [.int (iz (th)), .int (iz (6)), .ref am, .null, .ref tb, .ref lv, .int (iz (0)), .ref wt, .int (iz (0)), .ref bg, .ref pm, .int (iz (0))]))] H := hP
  have hD : va_D A [(x, .inr (13, [.int (iz (th)), .int (iz (6)), .ref am, .null, .ref tb, .ref lv, .int (iz (0)), .ref wt, .int (iz (0)), .ref bg, .ref pm, .int (iz (0))]))] := hD
  have hy1 : y1 = decide ((-1000000000000 : Int) ≤ ov ∧ ov ≤ (1000000000000 : Int)) := hy1
  refine zr_ifz_eq (tgt := 41) hx hb dX12_round_10 (by decide) (fun h_3 => ?_) (fun h_3 => ?_)
  ·
    have hzy1 := of_decide_eq_false (hy1.symm.trans h_3)
    refine lv_iconst (v := iz (0)) hx hb dX12_round_41 rfl ?_
    refine lv_istore (lv' := [(6, .int (iz (0))), (0, .ref x), (1, .long (lz (ov))), (3, .long (lz (un))), (5, .int (iz (dg)))]) hx hb dX12_round_42 hl (by decide) rfl (fun ls hl => ?_)
    refine lv_iload hx hb dX12_round_44 (lv_at hl 0 rfl) ?_
    refine zr_if_eq (x := 0) (tgt := 75) hx hb (⟨by omega, by omega⟩) dX12_round_46 (by decide) (fun h_4 => ?_) (fun h_4 => ?_)
    ·
      refine lv_null hx hb dX12_round_75 ?_
      refine lv_astoreN (lv' := [(7, .null), (6, .int (iz (0))), (0, .ref x), (1, .long (lz (ov))), (3, .long (lz (un))), (5, .int (iz (dg)))]) hx hb dX12_round_76 hl (by decide) rfl (fun ls hl => ?_)
      refine lv_aload_n hx hb dX12_round_78 rfl (lv_at hl 2 rfl) ?_
      refine lv_iload hx hb dX12_round_79 (lv_at hl 1 rfl) ?_
      refine lv_aloadN hx hb dX12_round_81 (lv_at hl 0 rfl) ?_
      refine lv_ifnullN (tgt := 90) hx hb dX12_round_83 (by decide) ?_
      refine lv_iconst (v := iz (0)) hx hb dX12_round_90 rfl ?_
      refine lv_iconst (v := iz (1)) hx hb dX12_round_91 rfl ?_
      refine zc_z (wr := []) (va_runV (As := [.int (iz (0)), .int (iz (0)), .int (iz (1))]) (rest := []) ⟨hx, hb, hml, hown, hts⟩ (c_X12_passes l G x th (.ref am) .null (.ref tb) (.ref lv) (.int (iz (0))) (.ref wt) (.int (iz (0))) (.ref bg) (.ref pm) (.int (iz (0))) 6 false false true  H.size) (cwV 3 hts gX12_round_X12_passes rfl rfl rfl (by decide +kernel) ⟨Nat.le_of_ble_eq_true rfl, Nat.le_of_ble_eq_true rfl⟩) (zpV hKX hP hD [0] rfl rfl 0 13 rfl rfl) rfl rfl hl.1 rfl (lv_room (Nat.le_of_ble_eq_true rfl)) dX12_round_92 ⟨(by first | exact Nat.le_of_ble_eq_true rfl | (show _ ≤ (0 : Nat); omega)), (by first | exact Nat.le_of_ble_eq_true rfl | (show _ ≤ (0 : Nat); omega))⟩) hP hD hS hA [0] [] rfl rfl rfl (by decide) (fun pz u_5 H locs hp hP hD hS => ?_)
      generalize u_5 = thp at hP hD hp
      have hP : va_P G.1 vwCl [(x, .inr (13, [.int (iz (thp)), .int (iz ((6 : Int))), .ref am, .null, .ref tb, .ref lv, .int (iz (0)), .ref wt, .int (iz (0)), .ref bg, .ref pm, .int (iz (0))]))] H := hP
      have hD : va_D A [(x, .inr (13, [.int (iz (thp)), .int (iz ((6 : Int))), .ref am, .null, .ref tb, .ref lv, .int (iz (0)), .ref wt, .int (iz (0)), .ref bg, .ref pm, .int (iz (0))]))] := hD
      have hp : pz = (false && false && true) ∧ thp = zcode false false true := hp
      rw [show pz = false from hp.1]
      have htp := hp.2
      refine zr_ifz_eq (tgt := 107) hx hb dX12_round_95 (by decide) (fun h_7 => ?_) (fun h_7 => ?_)
      ·
        refine lv_lconst (v := lz (0)) hx hb dX12_round_107 rfl ?_
        rw [hQ]
        exact zr_lret (z := 0) (u := (thp)) hx hb hr hlocks hP hD hS (by first | exact Nat.le_of_ble_eq_true rfl | omega) (by first | exact Nat.le_of_ble_eq_true rfl | omega) dX12_round_108 (show 0 = 0 ∧ thp = 1 from ⟨rfl, htp⟩)
      · exact absurd h_7 (by decide)
    · exact absurd h_4 (by omega)
  ·
    have hzy1 := of_decide_eq_true (hy1.symm.trans h_3)
    refine lv_lload_n hx hb dX12_round_13 rfl (lv_at hl 2 rfl) ?_
    refine lv_lconst (v := lz (1)) hx hb dX12_round_14 rfl ?_
    refine zr_ldc2 (z := 1000000000000) hx hb hown (hts (.constantLong RX12 101 (1000000000000)) (by decide +kernel)) rfl dX12_round_15 ?_
    refine zc_z (wr := [(x, .inr (13, [.int (iz (th)), .int (iz (6)), .ref am, .null, .ref tb, .ref lv, .int (iz (0)), .ref wt, .int (iz (0)), .ref bg, .ref pm, .int (iz (0))]))]) (va_runS (As := [.long (lz (un)), .long (lz (1)), .long (lz (1000000000000))]) (rest := []) ⟨hx, hb, hml, hown, hts⟩ (c_X12_in l G un 1 1000000000000 (by omega) (by omega) (by omega) H.size) (va_cwS 3 hts gX12_round_X12_in rfl rfl rfl (by decide +kernel) ⟨Nat.le_of_ble_eq_true rfl, Nat.le_of_ble_eq_true rfl⟩) (zpS hKX hP hD [] rfl rfl) rfl rfl hl.1 rfl (lv_room (Nat.le_of_ble_eq_true rfl)) dX12_round_18 ⟨(by first | exact Nat.le_of_ble_eq_true rfl | (show _ ≤ (0 : Nat); omega)), (by first | exact Nat.le_of_ble_eq_true rfl | (show _ ≤ (0 : Nat); omega))⟩) hP hD hS hA [] [0] rfl rfl rfl (by decide) (fun y2 u_8 H locs hy2 hP hD hS => ?_)
    have hP : va_P G.1 vwCl [(x, .inr (13, [.int (iz (th)), .int (iz (6)), .ref am, .null, .ref tb, .ref lv, .int (iz (0)), .ref wt, .int (iz (0)), .ref bg, .ref pm, .int (iz (0))]))] H := hP
    have hD : va_D A [(x, .inr (13, [.int (iz (th)), .int (iz (6)), .ref am, .null, .ref tb, .ref lv, .int (iz (0)), .ref wt, .int (iz (0)), .ref bg, .ref pm, .int (iz (0))]))] := hD
    have hy2 : y2 = decide ((1 : Int) ≤ un ∧ un ≤ (1000000000000 : Int)) := hy2
    refine zr_ifz_eq (tgt := 41) hx hb dX12_round_21 (by decide) (fun h_10 => ?_) (fun h_10 => ?_)
    ·
      have hzy2 := of_decide_eq_false (hy2.symm.trans h_10)
      refine lv_iconst (v := iz (0)) hx hb dX12_round_41 rfl ?_
      refine lv_istore (lv' := [(6, .int (iz (0))), (0, .ref x), (1, .long (lz (ov))), (3, .long (lz (un))), (5, .int (iz (dg)))]) hx hb dX12_round_42 hl (by decide) rfl (fun ls hl => ?_)
      refine lv_iload hx hb dX12_round_44 (lv_at hl 0 rfl) ?_
      refine zr_if_eq (x := 0) (tgt := 75) hx hb (⟨by omega, by omega⟩) dX12_round_46 (by decide) (fun h_11 => ?_) (fun h_11 => ?_)
      ·
        refine lv_null hx hb dX12_round_75 ?_
        refine lv_astoreN (lv' := [(7, .null), (6, .int (iz (0))), (0, .ref x), (1, .long (lz (ov))), (3, .long (lz (un))), (5, .int (iz (dg)))]) hx hb dX12_round_76 hl (by decide) rfl (fun ls hl => ?_)
        refine lv_aload_n hx hb dX12_round_78 rfl (lv_at hl 2 rfl) ?_
        refine lv_iload hx hb dX12_round_79 (lv_at hl 1 rfl) ?_
        refine lv_aloadN hx hb dX12_round_81 (lv_at hl 0 rfl) ?_
        refine lv_ifnullN (tgt := 90) hx hb dX12_round_83 (by decide) ?_
        refine lv_iconst (v := iz (0)) hx hb dX12_round_90 rfl ?_
        refine lv_iconst (v := iz (1)) hx hb dX12_round_91 rfl ?_
        refine zc_z (wr := []) (va_runV (As := [.int (iz (0)), .int (iz (0)), .int (iz (1))]) (rest := []) ⟨hx, hb, hml, hown, hts⟩ (c_X12_passes l G x th (.ref am) .null (.ref tb) (.ref lv) (.int (iz (0))) (.ref wt) (.int (iz (0))) (.ref bg) (.ref pm) (.int (iz (0))) 6 false false true  H.size) (cwV 3 hts gX12_round_X12_passes rfl rfl rfl (by decide +kernel) ⟨Nat.le_of_ble_eq_true rfl, Nat.le_of_ble_eq_true rfl⟩) (zpV hKX hP hD [0] rfl rfl 0 13 rfl rfl) rfl rfl hl.1 rfl (lv_room (Nat.le_of_ble_eq_true rfl)) dX12_round_92 ⟨(by first | exact Nat.le_of_ble_eq_true rfl | (show _ ≤ (0 : Nat); omega)), (by first | exact Nat.le_of_ble_eq_true rfl | (show _ ≤ (0 : Nat); omega))⟩) hP hD hS hA [0] [] rfl rfl rfl (by decide) (fun pz u_12 H locs hp hP hD hS => ?_)
        generalize u_12 = thp at hP hD hp
        have hP : va_P G.1 vwCl [(x, .inr (13, [.int (iz (thp)), .int (iz ((6 : Int))), .ref am, .null, .ref tb, .ref lv, .int (iz (0)), .ref wt, .int (iz (0)), .ref bg, .ref pm, .int (iz (0))]))] H := hP
        have hD : va_D A [(x, .inr (13, [.int (iz (thp)), .int (iz ((6 : Int))), .ref am, .null, .ref tb, .ref lv, .int (iz (0)), .ref wt, .int (iz (0)), .ref bg, .ref pm, .int (iz (0))]))] := hD
        have hp : pz = (false && false && true) ∧ thp = zcode false false true := hp
        rw [show pz = false from hp.1]
        have htp := hp.2
        refine zr_ifz_eq (tgt := 107) hx hb dX12_round_95 (by decide) (fun h_14 => ?_) (fun h_14 => ?_)
        ·
          refine lv_lconst (v := lz (0)) hx hb dX12_round_107 rfl ?_
          rw [hQ]
          exact zr_lret (z := 0) (u := (thp)) hx hb hr hlocks hP hD hS (by first | exact Nat.le_of_ble_eq_true rfl | omega) (by first | exact Nat.le_of_ble_eq_true rfl | omega) dX12_round_108 (show 0 = 0 ∧ thp = 1 from ⟨rfl, htp⟩)
        · exact absurd h_14 (by decide)
      · exact absurd h_11 (by omega)
    ·
      have hzy2 := of_decide_eq_true (hy2.symm.trans h_10)
      refine lv_iload hx hb dX12_round_24 (lv_at hl 3 rfl) ?_
      refine zr_i2l hx hb (x := dg) (⟨by omega, by omega⟩) dX12_round_26 ?_
      refine lv_lconst (v := lz (0)) hx hb dX12_round_27 rfl ?_
      refine zr_ldc2 (z := 6) hx hb hown (hts (.constantLong RX12 103 (6)) (by decide +kernel)) rfl dX12_round_28 ?_
      refine zc_z (wr := [(x, .inr (13, [.int (iz (th)), .int (iz (6)), .ref am, .null, .ref tb, .ref lv, .int (iz (0)), .ref wt, .int (iz (0)), .ref bg, .ref pm, .int (iz (0))]))]) (va_runS (As := [.long (lz (dg)), .long (lz (0)), .long (lz (6))]) (rest := []) ⟨hx, hb, hml, hown, hts⟩ (c_X12_in l G dg 0 6 (by omega) (by omega) (by omega) H.size) (va_cwS 3 hts gX12_round_X12_in rfl rfl rfl (by decide +kernel) ⟨Nat.le_of_ble_eq_true rfl, Nat.le_of_ble_eq_true rfl⟩) (zpS hKX hP hD [] rfl rfl) rfl rfl hl.1 rfl (lv_room (Nat.le_of_ble_eq_true rfl)) dX12_round_31 ⟨(by first | exact Nat.le_of_ble_eq_true rfl | (show _ ≤ (0 : Nat); omega)), (by first | exact Nat.le_of_ble_eq_true rfl | (show _ ≤ (0 : Nat); omega))⟩) hP hD hS hA [] [0] rfl rfl rfl (by decide) (fun y3 u_15 H locs hy3 hP hD hS => ?_)
      have hP : va_P G.1 vwCl [(x, .inr (13, [.int (iz (th)), .int (iz (6)), .ref am, .null, .ref tb, .ref lv, .int (iz (0)), .ref wt, .int (iz (0)), .ref bg, .ref pm, .int (iz (0))]))] H := hP
      have hD : va_D A [(x, .inr (13, [.int (iz (th)), .int (iz (6)), .ref am, .null, .ref tb, .ref lv, .int (iz (0)), .ref wt, .int (iz (0)), .ref bg, .ref pm, .int (iz (0))]))] := hD
      have hy3 : y3 = decide ((0 : Int) ≤ dg ∧ dg ≤ (6 : Int)) := hy3
      refine zr_ifz_eq (tgt := 41) hx hb dX12_round_34 (by decide) (fun h_17 => ?_) (fun h_17 => ?_)
      ·
        have hzy3 := of_decide_eq_false (hy3.symm.trans h_17)
        refine lv_iconst (v := iz (0)) hx hb dX12_round_41 rfl ?_
        refine lv_istore (lv' := [(6, .int (iz (0))), (0, .ref x), (1, .long (lz (ov))), (3, .long (lz (un))), (5, .int (iz (dg)))]) hx hb dX12_round_42 hl (by decide) rfl (fun ls hl => ?_)
        refine lv_iload hx hb dX12_round_44 (lv_at hl 0 rfl) ?_
        refine zr_if_eq (x := 0) (tgt := 75) hx hb (⟨by omega, by omega⟩) dX12_round_46 (by decide) (fun h_18 => ?_) (fun h_18 => ?_)
        ·
          refine lv_null hx hb dX12_round_75 ?_
          refine lv_astoreN (lv' := [(7, .null), (6, .int (iz (0))), (0, .ref x), (1, .long (lz (ov))), (3, .long (lz (un))), (5, .int (iz (dg)))]) hx hb dX12_round_76 hl (by decide) rfl (fun ls hl => ?_)
          refine lv_aload_n hx hb dX12_round_78 rfl (lv_at hl 2 rfl) ?_
          refine lv_iload hx hb dX12_round_79 (lv_at hl 1 rfl) ?_
          refine lv_aloadN hx hb dX12_round_81 (lv_at hl 0 rfl) ?_
          refine lv_ifnullN (tgt := 90) hx hb dX12_round_83 (by decide) ?_
          refine lv_iconst (v := iz (0)) hx hb dX12_round_90 rfl ?_
          refine lv_iconst (v := iz (1)) hx hb dX12_round_91 rfl ?_
          refine zc_z (wr := []) (va_runV (As := [.int (iz (0)), .int (iz (0)), .int (iz (1))]) (rest := []) ⟨hx, hb, hml, hown, hts⟩ (c_X12_passes l G x th (.ref am) .null (.ref tb) (.ref lv) (.int (iz (0))) (.ref wt) (.int (iz (0))) (.ref bg) (.ref pm) (.int (iz (0))) 6 false false true  H.size) (cwV 3 hts gX12_round_X12_passes rfl rfl rfl (by decide +kernel) ⟨Nat.le_of_ble_eq_true rfl, Nat.le_of_ble_eq_true rfl⟩) (zpV hKX hP hD [0] rfl rfl 0 13 rfl rfl) rfl rfl hl.1 rfl (lv_room (Nat.le_of_ble_eq_true rfl)) dX12_round_92 ⟨(by first | exact Nat.le_of_ble_eq_true rfl | (show _ ≤ (0 : Nat); omega)), (by first | exact Nat.le_of_ble_eq_true rfl | (show _ ≤ (0 : Nat); omega))⟩) hP hD hS hA [0] [] rfl rfl rfl (by decide) (fun pz u_19 H locs hp hP hD hS => ?_)
          generalize u_19 = thp at hP hD hp
          have hP : va_P G.1 vwCl [(x, .inr (13, [.int (iz (thp)), .int (iz ((6 : Int))), .ref am, .null, .ref tb, .ref lv, .int (iz (0)), .ref wt, .int (iz (0)), .ref bg, .ref pm, .int (iz (0))]))] H := hP
          have hD : va_D A [(x, .inr (13, [.int (iz (thp)), .int (iz ((6 : Int))), .ref am, .null, .ref tb, .ref lv, .int (iz (0)), .ref wt, .int (iz (0)), .ref bg, .ref pm, .int (iz (0))]))] := hD
          have hp : pz = (false && false && true) ∧ thp = zcode false false true := hp
          rw [show pz = false from hp.1]
          have htp := hp.2
          refine zr_ifz_eq (tgt := 107) hx hb dX12_round_95 (by decide) (fun h_21 => ?_) (fun h_21 => ?_)
          ·
            refine lv_lconst (v := lz (0)) hx hb dX12_round_107 rfl ?_
            rw [hQ]
            exact zr_lret (z := 0) (u := (thp)) hx hb hr hlocks hP hD hS (by first | exact Nat.le_of_ble_eq_true rfl | omega) (by first | exact Nat.le_of_ble_eq_true rfl | omega) dX12_round_108 (show 0 = 0 ∧ thp = 1 from ⟨rfl, htp⟩)
          · exact absurd h_21 (by decide)
        · exact absurd h_18 (by omega)
      ·
        have hzy3 := of_decide_eq_true (hy3.symm.trans h_17)
        exact absurd h1 (by omega)

def rm_c_X12_pay_o : Room := { frames := 2, cells := 0, slots := 0, locals := 46 }
theorem iw_X12_pay_X12 : ∀ w ∈ wsX120, w ∈ wsX12_pay := by decide +kernel
set_option maxHeartbeats 1000000 in
set_option maxRecDepth 100000 in
theorem c_X12_pay_o (l : Launch) (G : zG) (x : Nat) (am : Nat) (tb : Nat) (lv : Nat) (wt : Nat) (bg : Nat) (pm : Nat) (th : Int) (pe : Int) (mo : Int) (h0 : -2147483648 ≤ pe ∧ pe < 2147483648) (h01 : -9223372036854775808 ≤ mo ∧ mo < 9223372036854775808) (h1 : 0 ≤ pe ∧ pe ≤ 40 ∧ -1000000000 ≤ mo ∧ mo ≤ 1000000000) : zM l G yX12_pay wsX12_pay rm_c_X12_pay_o [.ref x, .int (iz (pe)), .long (lz (mo))] [(x, .inr (13, [.int (iz (th)), .int (iz (6)), .ref am, .null, .ref tb, .ref lv, .int (iz (0)), .ref wt, .int (iz (0)), .ref bg, .ref pm, .int (iz (0))])), (am, zaL (G.2 0) 41 (fun _ => 0))] (fun A => zQl G (fun (z : Int) (th2 : Int) => z = mo ∧ th2 = 0) (fun (th2 : Int) => [(x, .inr (13, [.int (iz (th2)), .int (iz (6)), .ref am, .null, .ref tb, .ref lv, .int (iz (0)), .ref wt, .int (iz (0)), .ref bg, .ref pm, .int (iz (0))]))]) A) 0 0 := by
  refine zM_of (cc := cX12_pay) (maxL := 5) (ret := (some .long)) (by decide) rfl (Nat.le_of_ble_eq_true rfl) ?_
  intro p e s m below meth c ls A Q hQ hx hb hr hts hown hlocks hml hnm hKX hP hD hA hS hl
  have hK := hKX.1
  have iwX12 := iw_X12_pay_X12
  obtain ⟨H, hH⟩ : ∃ h, h = s.heap := ⟨_, rfl⟩
  obtain ⟨locs, hlo⟩ : ∃ h : List Loc, h = [] := ⟨_, rfl⟩
  have hS : va_S A s.heap H locs := by rw [hH, hlo]; exact hS
  have hP : va_P G.1 vwCl [(x, .inr (13, [.int (iz (th)), .int (iz (6)), .ref am, .null, .ref tb, .ref lv, .int (iz (0)), .ref wt, .int (iz (0)), .ref bg, .ref pm, .int (iz (0))])), (am, zaL (G.2 0) 41 (fun _ => 0))] H := by rw [hH]; exact hP
  have hD : va_D A [(x, .inr (13, [.int (iz (th)), .int (iz (6)), .ref am, .null, .ref tb, .ref lv, .int (iz (0)), .ref wt, .int (iz (0)), .ref bg, .ref pm, .int (iz (0))])), (am, zaL (G.2 0) 41 (fun _ => 0))] := hD
  have hl : lv_has ls 5 [(0, .ref x), (1, .int (iz (pe))), (2, .long (lz (mo)))] := hl
  rw [← hH, ← hlo]
  refine lv_iload_n hx hb dX12_pay_0 rfl (lv_at hl 1 rfl) ?_
  refine zr_i2l hx hb (x := pe) (⟨by omega, by omega⟩) dX12_pay_1 ?_
  refine lv_lconst (v := lz (0)) hx hb dX12_pay_2 rfl ?_
  refine zr_ldc2 (z := 40) hx hb hown (hts (.constantLong RX12 125 (40)) (by decide +kernel)) rfl dX12_pay_3 ?_
  refine zc_z (wr := [(x, .inr (13, [.int (iz (th)), .int (iz (6)), .ref am, .null, .ref tb, .ref lv, .int (iz (0)), .ref wt, .int (iz (0)), .ref bg, .ref pm, .int (iz (0))])), (am, zaL (G.2 0) 41 (fun _ => 0))]) (va_runS (As := [.long (lz (pe)), .long (lz (0)), .long (lz (40))]) (rest := []) ⟨hx, hb, hml, hown, hts⟩ (c_X12_in l G pe 0 40 (by omega) (by omega) (by omega) H.size) (va_cwS 3 hts gX12_pay_X12_in rfl rfl rfl (by decide +kernel) ⟨Nat.le_of_ble_eq_true rfl, Nat.le_of_ble_eq_true rfl⟩) (zpS hKX hP hD [] rfl rfl) rfl rfl hl.1 rfl (lv_room (Nat.le_of_ble_eq_true rfl)) dX12_pay_6 ⟨(by first | exact Nat.le_of_ble_eq_true rfl | (show _ ≤ (0 : Nat); omega)), (by first | exact Nat.le_of_ble_eq_true rfl | (show _ ≤ (0 : Nat); omega))⟩) hP hD hS hA [] [0, 1] rfl rfl rfl (by decide) (fun y1 u_1 H locs hy1 hP hD hS => ?_)
  have hP : va_P G.1 vwCl [(x, .inr (13, [.int (iz (th)), .int (iz (6)), .ref am, .null, .ref tb, .ref lv, .int (iz (0)), .ref wt, .int (iz (0)), .ref bg, .ref pm, .int (iz (0))])), (am, zaL (G.2 0) 41 (fun _ => 0))] H := hP
  have hD : va_D A [(x, .inr (13, [.int (iz (th)), .int (iz (6)), .ref am, .null, .ref tb, .ref lv, .int (iz (0)), .ref wt, .int (iz (0)), .ref bg, .ref pm, .int (iz (0))])), (am, zaL (G.2 0) 41 (fun _ => 0))] := hD
  have hy1 : y1 = decide ((0 : Int) ≤ pe ∧ pe ≤ (40 : Int)) := hy1
  rw [show y1 = true from hy1.trans (decide_eq_true (by omega))]
  refine zr_ifz_eq (tgt := 23) hx hb dX12_pay_9 (by decide) (fun h_3 => ?_) (fun h_3 => ?_)
  · exact absurd h_3 (by decide)
  ·
    refine lv_lload_n hx hb dX12_pay_12 rfl (lv_at hl 2 rfl) ?_
    refine zc_z (wr := [(x, .inr (13, [.int (iz (th)), .int (iz (6)), .ref am, .null, .ref tb, .ref lv, .int (iz (0)), .ref wt, .int (iz (0)), .ref bg, .ref pm, .int (iz (0))])), (am, zaL (G.2 0) 41 (fun _ => 0))]) (va_runS (As := [.long (lz (mo))]) (rest := []) ⟨hx, hb, hml, hown, hts⟩ (c_X12_isAmount l G mo (by omega) H.size) (va_cwS 1 hts gX12_pay_X12_isAmount rfl rfl rfl (by decide +kernel) ⟨Nat.le_of_ble_eq_true rfl, Nat.le_of_ble_eq_true rfl⟩) (zpS hKX hP hD [] rfl rfl) rfl rfl hl.1 rfl (lv_room (Nat.le_of_ble_eq_true rfl)) dX12_pay_13 ⟨(by first | exact Nat.le_of_ble_eq_true rfl | (show _ ≤ (0 : Nat); omega)), (by first | exact Nat.le_of_ble_eq_true rfl | (show _ ≤ (0 : Nat); omega))⟩) hP hD hS hA [] [0, 1] rfl rfl rfl (by decide) (fun y2 u_4 H locs hy2 hP hD hS => ?_)
    have hP : va_P G.1 vwCl [(x, .inr (13, [.int (iz (th)), .int (iz (6)), .ref am, .null, .ref tb, .ref lv, .int (iz (0)), .ref wt, .int (iz (0)), .ref bg, .ref pm, .int (iz (0))])), (am, zaL (G.2 0) 41 (fun _ => 0))] H := hP
    have hD : va_D A [(x, .inr (13, [.int (iz (th)), .int (iz (6)), .ref am, .null, .ref tb, .ref lv, .int (iz (0)), .ref wt, .int (iz (0)), .ref bg, .ref pm, .int (iz (0))])), (am, zaL (G.2 0) 41 (fun _ => 0))] := hD
    have hy2 : y2 = decide (-1000000000 ≤ mo ∧ mo ≤ 1000000000) := hy2
    rw [show y2 = true from hy2.trans (decide_eq_true (by omega))]
    refine zr_ifz_eq (tgt := 23) hx hb dX12_pay_16 (by decide) (fun h_6 => ?_) (fun h_6 => ?_)
    · exact absurd h_6 (by decide)
    ·
      refine lv_iconst (v := iz (1)) hx hb dX12_pay_19 rfl ?_
      refine lv_goto (tgt := 24) hx hb dX12_pay_20 (by decide) ?_
      refine lv_istore (lv' := [(4, .int (iz (1))), (0, .ref x), (1, .int (iz (pe))), (2, .long (lz (mo)))]) hx hb dX12_pay_24 hl (by decide) rfl (fun ls hl => ?_)
      refine lv_aload_n hx hb dX12_pay_26 rfl (lv_at hl 1 rfl) ?_
      refine lv_iload hx hb dX12_pay_27 (lv_at hl 0 rfl) ?_
      refine lv_iload hx hb dX12_pay_29 (lv_at hl 0 rfl) ?_
      refine zr_if_eq (x := 1) (tgt := 52) hx hb (⟨by omega, by omega⟩) dX12_pay_31 (by decide) (fun h_7 => ?_) (fun h_7 => ?_)
      · exact absurd h_7 (by omega)
      ·
        refine lv_aload_n hx hb dX12_pay_34 rfl (lv_at hl 1 rfl) ?_
        refine va_get (D := G.1) (ci := 13) (v := .ref am) (C := RX12) (T := TX12) (N := 12) hx hb hts iwX12 hown hK hP 0 rfl rfl 2 (by decide) (hts (.fieldLink RX12 65 "AnnuityHouseModel" "amounts" "[J") (by decide +kernel)) (fun _ h9 => h9) rfl dX12_pay_35 ?_
        refine lv_iload_n hx hb dX12_pay_38 rfl (lv_at hl 2 rfl) ?_
        refine zr_lald hx hb hK hP 1 0 rfl rfl (i := pe) (⟨by omega, by omega, by omega⟩) dX12_pay_39 ?_
        refine zr_eql (x := (fun _ => 0) pe) (y := 0) rfl ?_
        refine lv_lload_n hx hb dX12_pay_40 rfl (lv_at hl 3 rfl) ?_
        refine zr_ladd hx hb dX12_pay_41 ?_
        refine zc_z (wr := [(x, .inr (13, [.int (iz (th)), .int (iz (6)), .ref am, .null, .ref tb, .ref lv, .int (iz (0)), .ref wt, .int (iz (0)), .ref bg, .ref pm, .int (iz (0))])), (am, zaL (G.2 0) 41 (fun _ => 0))]) (va_runS (As := [.long (lz (0 + mo))]) (rest := [.int (iz (1)), .ref x]) ⟨hx, hb, hml, hown, hts⟩ (c_X12_isAmount l G (0 + mo) (by omega) H.size) (va_cwS 1 hts gX12_pay_X12_isAmount rfl rfl rfl (by decide +kernel) ⟨Nat.le_of_ble_eq_true rfl, Nat.le_of_ble_eq_true rfl⟩) (zpS hKX hP hD [] rfl rfl) rfl rfl hl.1 rfl (lv_room (Nat.le_of_ble_eq_true rfl)) dX12_pay_42 ⟨(by first | exact Nat.le_of_ble_eq_true rfl | (show _ ≤ (0 : Nat); omega)), (by first | exact Nat.le_of_ble_eq_true rfl | (show _ ≤ (0 : Nat); omega))⟩) hP hD hS hA [] [0, 1] rfl rfl rfl (by decide) (fun y3 u_8 H locs hy3 hP hD hS => ?_)
        have hP : va_P G.1 vwCl [(x, .inr (13, [.int (iz (th)), .int (iz (6)), .ref am, .null, .ref tb, .ref lv, .int (iz (0)), .ref wt, .int (iz (0)), .ref bg, .ref pm, .int (iz (0))])), (am, zaL (G.2 0) 41 (fun _ => 0))] H := hP
        have hD : va_D A [(x, .inr (13, [.int (iz (th)), .int (iz (6)), .ref am, .null, .ref tb, .ref lv, .int (iz (0)), .ref wt, .int (iz (0)), .ref bg, .ref pm, .int (iz (0))])), (am, zaL (G.2 0) 41 (fun _ => 0))] := hD
        have hy3 : y3 = decide (-1000000000 ≤ (0 + mo) ∧ (0 + mo) ≤ 1000000000) := hy3
        rw [show y3 = true from hy3.trans (decide_eq_true (by omega))]
        refine zr_ifz_eq (tgt := 52) hx hb dX12_pay_45 (by decide) (fun h_10 => ?_) (fun h_10 => ?_)
        · exact absurd h_10 (by decide)
        ·
          refine lv_iconst (v := iz (1)) hx hb dX12_pay_48 rfl ?_
          refine lv_goto (tgt := 53) hx hb dX12_pay_49 (by decide) ?_
          refine lv_iconst (v := iz (1)) hx hb dX12_pay_53 rfl ?_
          refine zc_z (wr := [(am, zaL (G.2 0) 41 (fun _ => 0))]) (va_runV (As := [.int (iz (1)), .int (iz (1)), .int (iz (1))]) (rest := []) ⟨hx, hb, hml, hown, hts⟩ (c_X12_passes l G x th (.ref am) .null (.ref tb) (.ref lv) (.int (iz (0))) (.ref wt) (.int (iz (0))) (.ref bg) (.ref pm) (.int (iz (0))) 6 true true true  H.size) (cwV 3 hts gX12_pay_X12_passes rfl rfl rfl (by decide +kernel) ⟨Nat.le_of_ble_eq_true rfl, Nat.le_of_ble_eq_true rfl⟩) (zpV hKX hP hD [0] rfl rfl 0 13 rfl rfl) rfl rfl hl.1 rfl (lv_room (Nat.le_of_ble_eq_true rfl)) dX12_pay_54 ⟨(by first | exact Nat.le_of_ble_eq_true rfl | (show _ ≤ (0 : Nat); omega)), (by first | exact Nat.le_of_ble_eq_true rfl | (show _ ≤ (0 : Nat); omega))⟩) hP hD hS hA [0] [1] rfl rfl rfl (by decide) (fun pz u_11 H locs hp hP hD hS => ?_)
          generalize u_11 = thp at hP hD hp
          have hP : va_P G.1 vwCl [(am, zaL (G.2 0) 41 (fun _ => 0)), (x, .inr (13, [.int (iz (thp)), .int (iz ((6 : Int))), .ref am, .null, .ref tb, .ref lv, .int (iz (0)), .ref wt, .int (iz (0)), .ref bg, .ref pm, .int (iz (0))]))] H := hP
          have hD : va_D A [(am, zaL (G.2 0) 41 (fun _ => 0)), (x, .inr (13, [.int (iz (thp)), .int (iz ((6 : Int))), .ref am, .null, .ref tb, .ref lv, .int (iz (0)), .ref wt, .int (iz (0)), .ref bg, .ref pm, .int (iz (0))]))] := hD
          have hp : pz = (true && true && true) ∧ thp = zcode true true true := hp
          rw [show pz = true from hp.1]
          have htp := hp.2
          refine zr_ifz_ne (tgt := 62) hx hb dX12_pay_57 (by decide) (fun h_13 => ?_) (fun h_13 => ?_)
          ·
            refine lv_aload_n hx hb dX12_pay_62 rfl (lv_at hl 1 rfl) ?_
            refine va_get (D := G.1) (ci := 13) (v := .ref am) (C := RX12) (T := TX12) (N := 12) hx hb hts iwX12 hown hK hP 1 rfl rfl 2 (by decide) (hts (.fieldLink RX12 65 "AnnuityHouseModel" "amounts" "[J") (by decide +kernel)) (fun _ h9 => h9) rfl dX12_pay_63 ?_
            refine lv_iload_n hx hb dX12_pay_66 rfl (lv_at hl 2 rfl) ?_
            refine lv_dup2_11 hx hb dX12_pay_67 rfl rfl ?_
            refine zr_lald hx hb hK hP 0 0 rfl rfl (i := pe) (⟨by omega, by omega, by omega⟩) dX12_pay_68 ?_
            refine zr_eql (x := (fun _ => 0) pe) (y := 0) rfl ?_
            refine lv_lload_n hx hb dX12_pay_69 rfl (lv_at hl 3 rfl) ?_
            refine zr_ladd hx hb dX12_pay_70 ?_
            refine zr_last hx hb hK hP hD hS 0 0 rfl rfl (i := pe) (x := 0 + mo) (⟨by omega, by omega, by omega⟩) dX12_pay_71 (fun H locs hP hD hS => ?_)
            have hP : va_P G.1 vwCl [(am, zaL (G.2 0) 41 (zup (fun _ => 0) pe (0 + mo))), (x, .inr (13, [.int (iz (thp)), .int (iz ((6 : Int))), .ref am, .null, .ref tb, .ref lv, .int (iz (0)), .ref wt, .int (iz (0)), .ref bg, .ref pm, .int (iz (0))]))] H := hP
            have hD : va_D A [(am, zaL (G.2 0) 41 (zup (fun _ => 0) pe (0 + mo))), (x, .inr (13, [.int (iz (thp)), .int (iz ((6 : Int))), .ref am, .null, .ref tb, .ref lv, .int (iz (0)), .ref wt, .int (iz (0)), .ref bg, .ref pm, .int (iz (0))]))] := hD
            refine lv_aload_n hx hb dX12_pay_72 rfl (lv_at hl 1 rfl) ?_
            refine va_get (D := G.1) (ci := 13) (v := .ref am) (C := RX12) (T := TX12) (N := 12) hx hb hts iwX12 hown hK hP 1 rfl rfl 2 (by decide) (hts (.fieldLink RX12 65 "AnnuityHouseModel" "amounts" "[J") (by decide +kernel)) (fun _ h9 => h9) rfl dX12_pay_73 ?_
            refine lv_iload_n hx hb dX12_pay_76 rfl (lv_at hl 2 rfl) ?_
            refine zr_lald hx hb hK hP 0 0 rfl rfl (i := pe) (⟨by omega, by omega, by omega⟩) dX12_pay_77 ?_
            rw [hQ]
            exact zr_lret (z := (zup (fun _ => 0) pe (0 + mo)) pe) (u := (thp)) hx hb hr hlocks (hP.sub [1] rfl) (hD.sub [1] (by decide) rfl) hS (by first | exact Nat.le_of_ble_eq_true rfl | omega) (by first | exact Nat.le_of_ble_eq_true rfl | omega) dX12_pay_78 (show ((zup (fun _ => 0) pe (0 + mo)) pe) = mo ∧ thp = 0 from ⟨by show zup (fun _ => 0) pe (0 + mo) pe = mo; rw [zup_s]; omega, htp⟩)
          · exact absurd h_13 (by decide)

def rm_c_X12_pay_x : Room := { frames := 2, cells := 0, slots := 0, locals := 46 }
set_option maxHeartbeats 1000000 in
set_option maxRecDepth 100000 in
theorem c_X12_pay_x (l : Launch) (G : zG) (x : Nat) (am : Nat) (tb : Nat) (lv : Nat) (wt : Nat) (bg : Nat) (pm : Nat) (th : Int) (pe : Int) (mo : Int) (h0 : -2147483648 ≤ pe ∧ pe < 2147483648) (h01 : -9223372036854775808 ≤ mo ∧ mo < 9223372036854775808) (h1 : ¬ (0 ≤ pe ∧ pe ≤ 40 ∧ -1000000000 ≤ mo ∧ mo ≤ 1000000000)) : zM l G yX12_pay wsX12_pay rm_c_X12_pay_x [.ref x, .int (iz (pe)), .long (lz (mo))] [(x, .inr (13, [.int (iz (th)), .int (iz (6)), .ref am, .null, .ref tb, .ref lv, .int (iz (0)), .ref wt, .int (iz (0)), .ref bg, .ref pm, .int (iz (0))])), (am, zaL (G.2 0) 41 (fun _ => 0))] (fun A => zQl G (fun (z : Int) (th2 : Int) => z = 0 ∧ th2 = 1) (fun (th2 : Int) => [(x, .inr (13, [.int (iz (th2)), .int (iz (6)), .ref am, .null, .ref tb, .ref lv, .int (iz (0)), .ref wt, .int (iz (0)), .ref bg, .ref pm, .int (iz (0))]))]) A) 0 0 := by
  refine zM_of (cc := cX12_pay) (maxL := 5) (ret := (some .long)) (by decide) rfl (Nat.le_of_ble_eq_true rfl) ?_
  intro p e s m below meth c ls A Q hQ hx hb hr hts hown hlocks hml hnm hKX hP hD hA hS hl
  have hK := hKX.1
  obtain ⟨H, hH⟩ : ∃ h, h = s.heap := ⟨_, rfl⟩
  obtain ⟨locs, hlo⟩ : ∃ h : List Loc, h = [] := ⟨_, rfl⟩
  have hS : va_S A s.heap H locs := by rw [hH, hlo]; exact hS
  have hP : va_P G.1 vwCl [(x, .inr (13, [.int (iz (th)), .int (iz (6)), .ref am, .null, .ref tb, .ref lv, .int (iz (0)), .ref wt, .int (iz (0)), .ref bg, .ref pm, .int (iz (0))])), (am, zaL (G.2 0) 41 (fun _ => 0))] H := by rw [hH]; exact hP
  have hD : va_D A [(x, .inr (13, [.int (iz (th)), .int (iz (6)), .ref am, .null, .ref tb, .ref lv, .int (iz (0)), .ref wt, .int (iz (0)), .ref bg, .ref pm, .int (iz (0))])), (am, zaL (G.2 0) 41 (fun _ => 0))] := hD
  have hl : lv_has ls 5 [(0, .ref x), (1, .int (iz (pe))), (2, .long (lz (mo)))] := hl
  rw [← hH, ← hlo]
  refine lv_iload_n hx hb dX12_pay_0 rfl (lv_at hl 1 rfl) ?_
  refine zr_i2l hx hb (x := pe) (⟨by omega, by omega⟩) dX12_pay_1 ?_
  refine lv_lconst (v := lz (0)) hx hb dX12_pay_2 rfl ?_
  refine zr_ldc2 (z := 40) hx hb hown (hts (.constantLong RX12 125 (40)) (by decide +kernel)) rfl dX12_pay_3 ?_
  refine zc_z (wr := [(x, .inr (13, [.int (iz (th)), .int (iz (6)), .ref am, .null, .ref tb, .ref lv, .int (iz (0)), .ref wt, .int (iz (0)), .ref bg, .ref pm, .int (iz (0))])), (am, zaL (G.2 0) 41 (fun _ => 0))]) (va_runS (As := [.long (lz (pe)), .long (lz (0)), .long (lz (40))]) (rest := []) ⟨hx, hb, hml, hown, hts⟩ (c_X12_in l G pe 0 40 (by omega) (by omega) (by omega) H.size) (va_cwS 3 hts gX12_pay_X12_in rfl rfl rfl (by decide +kernel) ⟨Nat.le_of_ble_eq_true rfl, Nat.le_of_ble_eq_true rfl⟩) (zpS hKX hP hD [] rfl rfl) rfl rfl hl.1 rfl (lv_room (Nat.le_of_ble_eq_true rfl)) dX12_pay_6 ⟨(by first | exact Nat.le_of_ble_eq_true rfl | (show _ ≤ (0 : Nat); omega)), (by first | exact Nat.le_of_ble_eq_true rfl | (show _ ≤ (0 : Nat); omega))⟩) hP hD hS hA [] [0, 1] rfl rfl rfl (by decide) (fun y1 u_1 H locs hy1 hP hD hS => ?_)
  have hP : va_P G.1 vwCl [(x, .inr (13, [.int (iz (th)), .int (iz (6)), .ref am, .null, .ref tb, .ref lv, .int (iz (0)), .ref wt, .int (iz (0)), .ref bg, .ref pm, .int (iz (0))])), (am, zaL (G.2 0) 41 (fun _ => 0))] H := hP
  have hD : va_D A [(x, .inr (13, [.int (iz (th)), .int (iz (6)), .ref am, .null, .ref tb, .ref lv, .int (iz (0)), .ref wt, .int (iz (0)), .ref bg, .ref pm, .int (iz (0))])), (am, zaL (G.2 0) 41 (fun _ => 0))] := hD
  have hy1 : y1 = decide ((0 : Int) ≤ pe ∧ pe ≤ (40 : Int)) := hy1
  refine zr_ifz_eq (tgt := 23) hx hb dX12_pay_9 (by decide) (fun h_3 => ?_) (fun h_3 => ?_)
  ·
    have hzy1 := of_decide_eq_false (hy1.symm.trans h_3)
    refine lv_iconst (v := iz (0)) hx hb dX12_pay_23 rfl ?_
    refine lv_istore (lv' := [(4, .int (iz (0))), (0, .ref x), (1, .int (iz (pe))), (2, .long (lz (mo)))]) hx hb dX12_pay_24 hl (by decide) rfl (fun ls hl => ?_)
    refine lv_aload_n hx hb dX12_pay_26 rfl (lv_at hl 1 rfl) ?_
    refine lv_iload hx hb dX12_pay_27 (lv_at hl 0 rfl) ?_
    refine lv_iload hx hb dX12_pay_29 (lv_at hl 0 rfl) ?_
    refine zr_if_eq (x := 0) (tgt := 52) hx hb (⟨by omega, by omega⟩) dX12_pay_31 (by decide) (fun h_4 => ?_) (fun h_4 => ?_)
    ·
      refine lv_iconst (v := iz (0)) hx hb dX12_pay_52 rfl ?_
      refine lv_iconst (v := iz (1)) hx hb dX12_pay_53 rfl ?_
      refine zc_z (wr := [(am, zaL (G.2 0) 41 (fun _ => 0))]) (va_runV (As := [.int (iz (0)), .int (iz (0)), .int (iz (1))]) (rest := []) ⟨hx, hb, hml, hown, hts⟩ (c_X12_passes l G x th (.ref am) .null (.ref tb) (.ref lv) (.int (iz (0))) (.ref wt) (.int (iz (0))) (.ref bg) (.ref pm) (.int (iz (0))) 6 false false true  H.size) (cwV 3 hts gX12_pay_X12_passes rfl rfl rfl (by decide +kernel) ⟨Nat.le_of_ble_eq_true rfl, Nat.le_of_ble_eq_true rfl⟩) (zpV hKX hP hD [0] rfl rfl 0 13 rfl rfl) rfl rfl hl.1 rfl (lv_room (Nat.le_of_ble_eq_true rfl)) dX12_pay_54 ⟨(by first | exact Nat.le_of_ble_eq_true rfl | (show _ ≤ (0 : Nat); omega)), (by first | exact Nat.le_of_ble_eq_true rfl | (show _ ≤ (0 : Nat); omega))⟩) hP hD hS hA [0] [1] rfl rfl rfl (by decide) (fun pz u_5 H locs hp hP hD hS => ?_)
      generalize u_5 = thp at hP hD hp
      have hP : va_P G.1 vwCl [(am, zaL (G.2 0) 41 (fun _ => 0)), (x, .inr (13, [.int (iz (thp)), .int (iz ((6 : Int))), .ref am, .null, .ref tb, .ref lv, .int (iz (0)), .ref wt, .int (iz (0)), .ref bg, .ref pm, .int (iz (0))]))] H := hP
      have hD : va_D A [(am, zaL (G.2 0) 41 (fun _ => 0)), (x, .inr (13, [.int (iz (thp)), .int (iz ((6 : Int))), .ref am, .null, .ref tb, .ref lv, .int (iz (0)), .ref wt, .int (iz (0)), .ref bg, .ref pm, .int (iz (0))]))] := hD
      have hp : pz = (false && false && true) ∧ thp = zcode false false true := hp
      rw [show pz = false from hp.1]
      have htp := hp.2
      refine zr_ifz_ne (tgt := 62) hx hb dX12_pay_57 (by decide) (fun h_7 => ?_) (fun h_7 => ?_)
      · exact absurd h_7 (by decide)
      ·
        refine lv_lconst (v := lz (0)) hx hb dX12_pay_60 rfl ?_
        rw [hQ]
        exact zr_lret (z := 0) (u := (thp)) hx hb hr hlocks (hP.sub [1] rfl) (hD.sub [1] (by decide) rfl) hS (by first | exact Nat.le_of_ble_eq_true rfl | omega) (by first | exact Nat.le_of_ble_eq_true rfl | omega) dX12_pay_61 (show 0 = 0 ∧ thp = 1 from ⟨rfl, htp⟩)
    · exact absurd h_4 (by omega)
  ·
    have hzy1 := of_decide_eq_true (hy1.symm.trans h_3)
    refine lv_lload_n hx hb dX12_pay_12 rfl (lv_at hl 2 rfl) ?_
    refine zc_z (wr := [(x, .inr (13, [.int (iz (th)), .int (iz (6)), .ref am, .null, .ref tb, .ref lv, .int (iz (0)), .ref wt, .int (iz (0)), .ref bg, .ref pm, .int (iz (0))])), (am, zaL (G.2 0) 41 (fun _ => 0))]) (va_runS (As := [.long (lz (mo))]) (rest := []) ⟨hx, hb, hml, hown, hts⟩ (c_X12_isAmount l G mo (by omega) H.size) (va_cwS 1 hts gX12_pay_X12_isAmount rfl rfl rfl (by decide +kernel) ⟨Nat.le_of_ble_eq_true rfl, Nat.le_of_ble_eq_true rfl⟩) (zpS hKX hP hD [] rfl rfl) rfl rfl hl.1 rfl (lv_room (Nat.le_of_ble_eq_true rfl)) dX12_pay_13 ⟨(by first | exact Nat.le_of_ble_eq_true rfl | (show _ ≤ (0 : Nat); omega)), (by first | exact Nat.le_of_ble_eq_true rfl | (show _ ≤ (0 : Nat); omega))⟩) hP hD hS hA [] [0, 1] rfl rfl rfl (by decide) (fun y2 u_8 H locs hy2 hP hD hS => ?_)
    have hP : va_P G.1 vwCl [(x, .inr (13, [.int (iz (th)), .int (iz (6)), .ref am, .null, .ref tb, .ref lv, .int (iz (0)), .ref wt, .int (iz (0)), .ref bg, .ref pm, .int (iz (0))])), (am, zaL (G.2 0) 41 (fun _ => 0))] H := hP
    have hD : va_D A [(x, .inr (13, [.int (iz (th)), .int (iz (6)), .ref am, .null, .ref tb, .ref lv, .int (iz (0)), .ref wt, .int (iz (0)), .ref bg, .ref pm, .int (iz (0))])), (am, zaL (G.2 0) 41 (fun _ => 0))] := hD
    have hy2 : y2 = decide (-1000000000 ≤ mo ∧ mo ≤ 1000000000) := hy2
    refine zr_ifz_eq (tgt := 23) hx hb dX12_pay_16 (by decide) (fun h_10 => ?_) (fun h_10 => ?_)
    ·
      have hzy2 := of_decide_eq_false (hy2.symm.trans h_10)
      refine lv_iconst (v := iz (0)) hx hb dX12_pay_23 rfl ?_
      refine lv_istore (lv' := [(4, .int (iz (0))), (0, .ref x), (1, .int (iz (pe))), (2, .long (lz (mo)))]) hx hb dX12_pay_24 hl (by decide) rfl (fun ls hl => ?_)
      refine lv_aload_n hx hb dX12_pay_26 rfl (lv_at hl 1 rfl) ?_
      refine lv_iload hx hb dX12_pay_27 (lv_at hl 0 rfl) ?_
      refine lv_iload hx hb dX12_pay_29 (lv_at hl 0 rfl) ?_
      refine zr_if_eq (x := 0) (tgt := 52) hx hb (⟨by omega, by omega⟩) dX12_pay_31 (by decide) (fun h_11 => ?_) (fun h_11 => ?_)
      ·
        refine lv_iconst (v := iz (0)) hx hb dX12_pay_52 rfl ?_
        refine lv_iconst (v := iz (1)) hx hb dX12_pay_53 rfl ?_
        refine zc_z (wr := [(am, zaL (G.2 0) 41 (fun _ => 0))]) (va_runV (As := [.int (iz (0)), .int (iz (0)), .int (iz (1))]) (rest := []) ⟨hx, hb, hml, hown, hts⟩ (c_X12_passes l G x th (.ref am) .null (.ref tb) (.ref lv) (.int (iz (0))) (.ref wt) (.int (iz (0))) (.ref bg) (.ref pm) (.int (iz (0))) 6 false false true  H.size) (cwV 3 hts gX12_pay_X12_passes rfl rfl rfl (by decide +kernel) ⟨Nat.le_of_ble_eq_true rfl, Nat.le_of_ble_eq_true rfl⟩) (zpV hKX hP hD [0] rfl rfl 0 13 rfl rfl) rfl rfl hl.1 rfl (lv_room (Nat.le_of_ble_eq_true rfl)) dX12_pay_54 ⟨(by first | exact Nat.le_of_ble_eq_true rfl | (show _ ≤ (0 : Nat); omega)), (by first | exact Nat.le_of_ble_eq_true rfl | (show _ ≤ (0 : Nat); omega))⟩) hP hD hS hA [0] [1] rfl rfl rfl (by decide) (fun pz u_12 H locs hp hP hD hS => ?_)
        generalize u_12 = thp at hP hD hp
        have hP : va_P G.1 vwCl [(am, zaL (G.2 0) 41 (fun _ => 0)), (x, .inr (13, [.int (iz (thp)), .int (iz ((6 : Int))), .ref am, .null, .ref tb, .ref lv, .int (iz (0)), .ref wt, .int (iz (0)), .ref bg, .ref pm, .int (iz (0))]))] H := hP
        have hD : va_D A [(am, zaL (G.2 0) 41 (fun _ => 0)), (x, .inr (13, [.int (iz (thp)), .int (iz ((6 : Int))), .ref am, .null, .ref tb, .ref lv, .int (iz (0)), .ref wt, .int (iz (0)), .ref bg, .ref pm, .int (iz (0))]))] := hD
        have hp : pz = (false && false && true) ∧ thp = zcode false false true := hp
        rw [show pz = false from hp.1]
        have htp := hp.2
        refine zr_ifz_ne (tgt := 62) hx hb dX12_pay_57 (by decide) (fun h_14 => ?_) (fun h_14 => ?_)
        · exact absurd h_14 (by decide)
        ·
          refine lv_lconst (v := lz (0)) hx hb dX12_pay_60 rfl ?_
          rw [hQ]
          exact zr_lret (z := 0) (u := (thp)) hx hb hr hlocks (hP.sub [1] rfl) (hD.sub [1] (by decide) rfl) hS (by first | exact Nat.le_of_ble_eq_true rfl | omega) (by first | exact Nat.le_of_ble_eq_true rfl | omega) dX12_pay_61 (show 0 = 0 ∧ thp = 1 from ⟨rfl, htp⟩)
      · exact absurd h_11 (by omega)
    ·
      have hzy2 := of_decide_eq_true (hy2.symm.trans h_10)
      exact absurd h1 (by omega)

def rm_c_X12_amount_o : Room := { frames := 1, cells := 0, slots := 0, locals := 25 }
theorem iw_X12_amount_X12 : ∀ w ∈ wsX120, w ∈ wsX12_amount := by decide +kernel
set_option maxHeartbeats 1000000 in
set_option maxRecDepth 100000 in
theorem c_X12_amount_o (l : Launch) (G : zG) (x : Nat) (am : Nat) (tb : Nat) (lv : Nat) (wt : Nat) (bg : Nat) (pm : Nat) (th : Int) (pe : Int) (h0 : -2147483648 ≤ pe ∧ pe < 2147483648) (h1 : 0 ≤ pe ∧ pe ≤ 40) : zM l G yX12_amount wsX12_amount rm_c_X12_amount_o [.ref x, .int (iz (pe))] [(x, .inr (13, [.int (iz (th)), .int (iz (6)), .ref am, .null, .ref tb, .ref lv, .int (iz (0)), .ref wt, .int (iz (0)), .ref bg, .ref pm, .int (iz (0))])), (am, zaL (G.2 0) 41 (fun _ => 0))] (fun A => zQl G (fun (z : Int) (th2 : Int) => z = 0 ∧ th2 = 0) (fun (th2 : Int) => [(x, .inr (13, [.int (iz (th2)), .int (iz (6)), .ref am, .null, .ref tb, .ref lv, .int (iz (0)), .ref wt, .int (iz (0)), .ref bg, .ref pm, .int (iz (0))]))]) A) 0 0 := by
  refine zM_of (cc := cX12_amount) (maxL := 2) (ret := (some .long)) (by decide) rfl (Nat.le_of_ble_eq_true rfl) ?_
  intro p e s m below meth c ls A Q hQ hx hb hr hts hown hlocks hml hnm hKX hP hD hA hS hl
  have hK := hKX.1
  have iwX12 := iw_X12_amount_X12
  obtain ⟨H, hH⟩ : ∃ h, h = s.heap := ⟨_, rfl⟩
  obtain ⟨locs, hlo⟩ : ∃ h : List Loc, h = [] := ⟨_, rfl⟩
  have hS : va_S A s.heap H locs := by rw [hH, hlo]; exact hS
  have hP : va_P G.1 vwCl [(x, .inr (13, [.int (iz (th)), .int (iz (6)), .ref am, .null, .ref tb, .ref lv, .int (iz (0)), .ref wt, .int (iz (0)), .ref bg, .ref pm, .int (iz (0))])), (am, zaL (G.2 0) 41 (fun _ => 0))] H := by rw [hH]; exact hP
  have hD : va_D A [(x, .inr (13, [.int (iz (th)), .int (iz (6)), .ref am, .null, .ref tb, .ref lv, .int (iz (0)), .ref wt, .int (iz (0)), .ref bg, .ref pm, .int (iz (0))])), (am, zaL (G.2 0) 41 (fun _ => 0))] := hD
  have hl : lv_has ls 2 [(0, .ref x), (1, .int (iz (pe)))] := hl
  rw [← hH, ← hlo]
  refine lv_aload_n hx hb dX12_amount_0 rfl (lv_at hl 0 rfl) ?_
  refine lv_iload_n hx hb dX12_amount_1 rfl (lv_at hl 1 rfl) ?_
  refine zr_i2l hx hb (x := pe) (⟨by omega, by omega⟩) dX12_amount_2 ?_
  refine lv_lconst (v := lz (0)) hx hb dX12_amount_3 rfl ?_
  refine zr_ldc2 (z := 40) hx hb hown (hts (.constantLong RX12 125 (40)) (by decide +kernel)) rfl dX12_amount_4 ?_
  refine zc_z (wr := [(x, .inr (13, [.int (iz (th)), .int (iz (6)), .ref am, .null, .ref tb, .ref lv, .int (iz (0)), .ref wt, .int (iz (0)), .ref bg, .ref pm, .int (iz (0))])), (am, zaL (G.2 0) 41 (fun _ => 0))]) (va_runS (As := [.long (lz (pe)), .long (lz (0)), .long (lz (40))]) (rest := [.ref x]) ⟨hx, hb, hml, hown, hts⟩ (c_X12_in l G pe 0 40 (by omega) (by omega) (by omega) H.size) (va_cwS 3 hts gX12_amount_X12_in rfl rfl rfl (by decide +kernel) ⟨Nat.le_of_ble_eq_true rfl, Nat.le_of_ble_eq_true rfl⟩) (zpS hKX hP hD [] rfl rfl) rfl rfl hl.1 rfl (lv_room (Nat.le_of_ble_eq_true rfl)) dX12_amount_7 ⟨(by first | exact Nat.le_of_ble_eq_true rfl | (show _ ≤ (0 : Nat); omega)), (by first | exact Nat.le_of_ble_eq_true rfl | (show _ ≤ (0 : Nat); omega))⟩) hP hD hS hA [] [0, 1] rfl rfl rfl (by decide) (fun y1 u_1 H locs hy1 hP hD hS => ?_)
  have hP : va_P G.1 vwCl [(x, .inr (13, [.int (iz (th)), .int (iz (6)), .ref am, .null, .ref tb, .ref lv, .int (iz (0)), .ref wt, .int (iz (0)), .ref bg, .ref pm, .int (iz (0))])), (am, zaL (G.2 0) 41 (fun _ => 0))] H := hP
  have hD : va_D A [(x, .inr (13, [.int (iz (th)), .int (iz (6)), .ref am, .null, .ref tb, .ref lv, .int (iz (0)), .ref wt, .int (iz (0)), .ref bg, .ref pm, .int (iz (0))])), (am, zaL (G.2 0) 41 (fun _ => 0))] := hD
  have hy1 : y1 = decide ((0 : Int) ≤ pe ∧ pe ≤ (40 : Int)) := hy1
  rw [show y1 = true from hy1.trans (decide_eq_true (by omega))]
  refine lv_iconst (v := iz (1)) hx hb dX12_amount_10 rfl ?_
  refine lv_iconst (v := iz (1)) hx hb dX12_amount_11 rfl ?_
  refine zc_z (wr := [(am, zaL (G.2 0) 41 (fun _ => 0))]) (va_runV (As := [.int (iz (zbb true)), .int (iz (1)), .int (iz (1))]) (rest := []) ⟨hx, hb, hml, hown, hts⟩ (c_X12_passes l G x th (.ref am) .null (.ref tb) (.ref lv) (.int (iz (0))) (.ref wt) (.int (iz (0))) (.ref bg) (.ref pm) (.int (iz (0))) 6 true true true  H.size) (cwV 3 hts gX12_amount_X12_passes rfl rfl rfl (by decide +kernel) ⟨Nat.le_of_ble_eq_true rfl, Nat.le_of_ble_eq_true rfl⟩) (zpV hKX hP hD [0] rfl rfl 0 13 rfl rfl) rfl rfl hl.1 rfl (lv_room (Nat.le_of_ble_eq_true rfl)) dX12_amount_12 ⟨(by first | exact Nat.le_of_ble_eq_true rfl | (show _ ≤ (0 : Nat); omega)), (by first | exact Nat.le_of_ble_eq_true rfl | (show _ ≤ (0 : Nat); omega))⟩) hP hD hS hA [0] [1] rfl rfl rfl (by decide) (fun pz u_3 H locs hp hP hD hS => ?_)
  generalize u_3 = thp at hP hD hp
  have hP : va_P G.1 vwCl [(am, zaL (G.2 0) 41 (fun _ => 0)), (x, .inr (13, [.int (iz (thp)), .int (iz ((6 : Int))), .ref am, .null, .ref tb, .ref lv, .int (iz (0)), .ref wt, .int (iz (0)), .ref bg, .ref pm, .int (iz (0))]))] H := hP
  have hD : va_D A [(am, zaL (G.2 0) 41 (fun _ => 0)), (x, .inr (13, [.int (iz (thp)), .int (iz ((6 : Int))), .ref am, .null, .ref tb, .ref lv, .int (iz (0)), .ref wt, .int (iz (0)), .ref bg, .ref pm, .int (iz (0))]))] := hD
  have hp : pz = (true && true && true) ∧ thp = zcode true true true := hp
  rw [show pz = true from hp.1]
  have htp := hp.2
  refine zr_ifz_eq (tgt := 27) hx hb dX12_amount_15 (by decide) (fun h_5 => ?_) (fun h_5 => ?_)
  · exact absurd h_5 (by decide)
  ·
    refine lv_aload_n hx hb dX12_amount_18 rfl (lv_at hl 0 rfl) ?_
    refine va_get (D := G.1) (ci := 13) (v := .ref am) (C := RX12) (T := TX12) (N := 12) hx hb hts iwX12 hown hK hP 1 rfl rfl 2 (by decide) (hts (.fieldLink RX12 65 "AnnuityHouseModel" "amounts" "[J") (by decide +kernel)) (fun _ h9 => h9) rfl dX12_amount_19 ?_
    refine lv_iload_n hx hb dX12_amount_22 rfl (lv_at hl 1 rfl) ?_
    refine zr_lald hx hb hK hP 0 0 rfl rfl (i := pe) (⟨by omega, by omega, by omega⟩) dX12_amount_23 ?_
    refine zr_eql (x := (fun _ => 0) pe) (y := 0) rfl ?_
    refine lv_goto (tgt := 28) hx hb dX12_amount_24 (by decide) ?_
    rw [hQ]
    exact zr_lret (z := 0) (u := (thp)) hx hb hr hlocks (hP.sub [1] rfl) (hD.sub [1] (by decide) rfl) hS (by first | exact Nat.le_of_ble_eq_true rfl | omega) (by first | exact Nat.le_of_ble_eq_true rfl | omega) dX12_amount_28 (show 0 = 0 ∧ thp = 0 from ⟨rfl, htp⟩)

def rm_c_X12_amount_x : Room := { frames := 1, cells := 0, slots := 0, locals := 25 }
set_option maxHeartbeats 1000000 in
set_option maxRecDepth 100000 in
theorem c_X12_amount_x (l : Launch) (G : zG) (x : Nat) (am : Nat) (tb : Nat) (lv : Nat) (wt : Nat) (bg : Nat) (pm : Nat) (th : Int) (pe : Int) (h0 : -2147483648 ≤ pe ∧ pe < 2147483648) (h1 : ¬ (0 ≤ pe ∧ pe ≤ 40)) : zM l G yX12_amount wsX12_amount rm_c_X12_amount_x [.ref x, .int (iz (pe))] [(x, .inr (13, [.int (iz (th)), .int (iz (6)), .ref am, .null, .ref tb, .ref lv, .int (iz (0)), .ref wt, .int (iz (0)), .ref bg, .ref pm, .int (iz (0))])), (am, zaL (G.2 0) 41 (fun _ => 0))] (fun A => zQl G (fun (z : Int) (th2 : Int) => z = 0 ∧ th2 = 1) (fun (th2 : Int) => [(x, .inr (13, [.int (iz (th2)), .int (iz (6)), .ref am, .null, .ref tb, .ref lv, .int (iz (0)), .ref wt, .int (iz (0)), .ref bg, .ref pm, .int (iz (0))]))]) A) 0 0 := by
  refine zM_of (cc := cX12_amount) (maxL := 2) (ret := (some .long)) (by decide) rfl (Nat.le_of_ble_eq_true rfl) ?_
  intro p e s m below meth c ls A Q hQ hx hb hr hts hown hlocks hml hnm hKX hP hD hA hS hl
  have hK := hKX.1
  obtain ⟨H, hH⟩ : ∃ h, h = s.heap := ⟨_, rfl⟩
  obtain ⟨locs, hlo⟩ : ∃ h : List Loc, h = [] := ⟨_, rfl⟩
  have hS : va_S A s.heap H locs := by rw [hH, hlo]; exact hS
  have hP : va_P G.1 vwCl [(x, .inr (13, [.int (iz (th)), .int (iz (6)), .ref am, .null, .ref tb, .ref lv, .int (iz (0)), .ref wt, .int (iz (0)), .ref bg, .ref pm, .int (iz (0))])), (am, zaL (G.2 0) 41 (fun _ => 0))] H := by rw [hH]; exact hP
  have hD : va_D A [(x, .inr (13, [.int (iz (th)), .int (iz (6)), .ref am, .null, .ref tb, .ref lv, .int (iz (0)), .ref wt, .int (iz (0)), .ref bg, .ref pm, .int (iz (0))])), (am, zaL (G.2 0) 41 (fun _ => 0))] := hD
  have hl : lv_has ls 2 [(0, .ref x), (1, .int (iz (pe)))] := hl
  rw [← hH, ← hlo]
  refine lv_aload_n hx hb dX12_amount_0 rfl (lv_at hl 0 rfl) ?_
  refine lv_iload_n hx hb dX12_amount_1 rfl (lv_at hl 1 rfl) ?_
  refine zr_i2l hx hb (x := pe) (⟨by omega, by omega⟩) dX12_amount_2 ?_
  refine lv_lconst (v := lz (0)) hx hb dX12_amount_3 rfl ?_
  refine zr_ldc2 (z := 40) hx hb hown (hts (.constantLong RX12 125 (40)) (by decide +kernel)) rfl dX12_amount_4 ?_
  refine zc_z (wr := [(x, .inr (13, [.int (iz (th)), .int (iz (6)), .ref am, .null, .ref tb, .ref lv, .int (iz (0)), .ref wt, .int (iz (0)), .ref bg, .ref pm, .int (iz (0))])), (am, zaL (G.2 0) 41 (fun _ => 0))]) (va_runS (As := [.long (lz (pe)), .long (lz (0)), .long (lz (40))]) (rest := [.ref x]) ⟨hx, hb, hml, hown, hts⟩ (c_X12_in l G pe 0 40 (by omega) (by omega) (by omega) H.size) (va_cwS 3 hts gX12_amount_X12_in rfl rfl rfl (by decide +kernel) ⟨Nat.le_of_ble_eq_true rfl, Nat.le_of_ble_eq_true rfl⟩) (zpS hKX hP hD [] rfl rfl) rfl rfl hl.1 rfl (lv_room (Nat.le_of_ble_eq_true rfl)) dX12_amount_7 ⟨(by first | exact Nat.le_of_ble_eq_true rfl | (show _ ≤ (0 : Nat); omega)), (by first | exact Nat.le_of_ble_eq_true rfl | (show _ ≤ (0 : Nat); omega))⟩) hP hD hS hA [] [0, 1] rfl rfl rfl (by decide) (fun y1 u_1 H locs hy1 hP hD hS => ?_)
  have hP : va_P G.1 vwCl [(x, .inr (13, [.int (iz (th)), .int (iz (6)), .ref am, .null, .ref tb, .ref lv, .int (iz (0)), .ref wt, .int (iz (0)), .ref bg, .ref pm, .int (iz (0))])), (am, zaL (G.2 0) 41 (fun _ => 0))] H := hP
  have hD : va_D A [(x, .inr (13, [.int (iz (th)), .int (iz (6)), .ref am, .null, .ref tb, .ref lv, .int (iz (0)), .ref wt, .int (iz (0)), .ref bg, .ref pm, .int (iz (0))])), (am, zaL (G.2 0) 41 (fun _ => 0))] := hD
  have hy1 : y1 = decide ((0 : Int) ≤ pe ∧ pe ≤ (40 : Int)) := hy1
  rw [show y1 = false from hy1.trans (decide_eq_false (by omega))]
  refine lv_iconst (v := iz (1)) hx hb dX12_amount_10 rfl ?_
  refine lv_iconst (v := iz (1)) hx hb dX12_amount_11 rfl ?_
  refine zc_z (wr := [(am, zaL (G.2 0) 41 (fun _ => 0))]) (va_runV (As := [.int (iz (zbb false)), .int (iz (1)), .int (iz (1))]) (rest := []) ⟨hx, hb, hml, hown, hts⟩ (c_X12_passes l G x th (.ref am) .null (.ref tb) (.ref lv) (.int (iz (0))) (.ref wt) (.int (iz (0))) (.ref bg) (.ref pm) (.int (iz (0))) 6 false true true  H.size) (cwV 3 hts gX12_amount_X12_passes rfl rfl rfl (by decide +kernel) ⟨Nat.le_of_ble_eq_true rfl, Nat.le_of_ble_eq_true rfl⟩) (zpV hKX hP hD [0] rfl rfl 0 13 rfl rfl) rfl rfl hl.1 rfl (lv_room (Nat.le_of_ble_eq_true rfl)) dX12_amount_12 ⟨(by first | exact Nat.le_of_ble_eq_true rfl | (show _ ≤ (0 : Nat); omega)), (by first | exact Nat.le_of_ble_eq_true rfl | (show _ ≤ (0 : Nat); omega))⟩) hP hD hS hA [0] [1] rfl rfl rfl (by decide) (fun pz u_3 H locs hp hP hD hS => ?_)
  generalize u_3 = thp at hP hD hp
  have hP : va_P G.1 vwCl [(am, zaL (G.2 0) 41 (fun _ => 0)), (x, .inr (13, [.int (iz (thp)), .int (iz ((6 : Int))), .ref am, .null, .ref tb, .ref lv, .int (iz (0)), .ref wt, .int (iz (0)), .ref bg, .ref pm, .int (iz (0))]))] H := hP
  have hD : va_D A [(am, zaL (G.2 0) 41 (fun _ => 0)), (x, .inr (13, [.int (iz (thp)), .int (iz ((6 : Int))), .ref am, .null, .ref tb, .ref lv, .int (iz (0)), .ref wt, .int (iz (0)), .ref bg, .ref pm, .int (iz (0))]))] := hD
  have hp : pz = (false && true && true) ∧ thp = zcode false true true := hp
  rw [show pz = false from hp.1]
  have htp := hp.2
  refine zr_ifz_eq (tgt := 27) hx hb dX12_amount_15 (by decide) (fun h_5 => ?_) (fun h_5 => ?_)
  ·
    refine lv_lconst (v := lz (0)) hx hb dX12_amount_27 rfl ?_
    rw [hQ]
    exact zr_lret (z := 0) (u := (thp)) hx hb hr hlocks (hP.sub [1] rfl) (hD.sub [1] (by decide) rfl) hS (by first | exact Nat.le_of_ble_eq_true rfl | omega) (by first | exact Nat.le_of_ble_eq_true rfl | omega) dX12_amount_28 (show 0 = 0 ∧ thp = 1 from ⟨rfl, htp⟩)
  · exact absurd h_5 (by decide)

def rm_c_X12_amountsThere : Room := { frames := 0, cells := 0, slots := 0, locals := 0 }
theorem iw_X12_amountsThere_X12 : ∀ w ∈ wsX120, w ∈ wsX12_amountsThere := by decide +kernel
set_option maxHeartbeats 1000000 in
set_option maxRecDepth 100000 in
theorem c_X12_amountsThere (l : Launch) (G : zG) (x : Nat) (am : Nat) (tb : Nat) (lv : Nat) (wt : Nat) (bg : Nat) (pm : Nat) (th : Int)  : zM l G yX12_amountsThere wsX12_amountsThere rm_c_X12_amountsThere [.ref x] [(x, .inr (13, [.int (iz (th)), .int (iz (6)), .ref am, .null, .ref tb, .ref lv, .int (iz (0)), .ref wt, .int (iz (0)), .ref bg, .ref pm, .int (iz (0))])), (am, zaL (G.2 0) 41 (fun _ => 0))] (fun A => zQi G (fun (z : Int) (_ : Unit) => z = 0) (fun (_ : Unit) => [(x, .inr (13, [.int (iz (th)), .int (iz (6)), .ref am, .null, .ref tb, .ref lv, .int (iz (0)), .ref wt, .int (iz (0)), .ref bg, .ref pm, .int (iz (0))])), (am, zaL (G.2 0) 41 (fun _ => 0))]) A) 0 0 := by
  refine zM_of (cc := cX12_amountsThere) (maxL := 3) (ret := (some .int)) (by decide) rfl (Nat.le_of_ble_eq_true rfl) ?_
  intro p e s m below meth c ls A Q hQ hx hb hr hts hown hlocks hml hnm hKX hP hD hA hS hl
  have hK := hKX.1
  have iwX12 := iw_X12_amountsThere_X12
  obtain ⟨H, hH⟩ : ∃ h, h = s.heap := ⟨_, rfl⟩
  obtain ⟨locs, hlo⟩ : ∃ h : List Loc, h = [] := ⟨_, rfl⟩
  have hS : va_S A s.heap H locs := by rw [hH, hlo]; exact hS
  have hP : va_P G.1 vwCl [(x, .inr (13, [.int (iz (th)), .int (iz (6)), .ref am, .null, .ref tb, .ref lv, .int (iz (0)), .ref wt, .int (iz (0)), .ref bg, .ref pm, .int (iz (0))])), (am, zaL (G.2 0) 41 (fun _ => 0))] H := by rw [hH]; exact hP
  have hD : va_D A [(x, .inr (13, [.int (iz (th)), .int (iz (6)), .ref am, .null, .ref tb, .ref lv, .int (iz (0)), .ref wt, .int (iz (0)), .ref bg, .ref pm, .int (iz (0))])), (am, zaL (G.2 0) 41 (fun _ => 0))] := hD
  have hl : lv_has ls 3 [(0, .ref x)] := hl
  rw [← hH, ← hlo]
  refine lv_iconst (v := iz (0)) hx hb dX12_amountsThere_0 rfl ?_
  refine lv_istore_n (lv' := [(1, .int (iz (0))), (0, .ref x)]) hx hb dX12_amountsThere_1 rfl hl (by decide) rfl (fun ls hl => ?_)
  refine lv_iconst (v := iz (0)) hx hb dX12_amountsThere_2 rfl ?_
  refine lv_istore_n (lv' := [(2, .int (iz (0))), (1, .int (iz (0))), (0, .ref x)]) hx hb dX12_amountsThere_3 rfl hl (by decide) rfl (fun ls hl => ?_)
  have hl_4 : ∀ (zn_4 : Nat) (i : Int) (w : Int) (H : Heap) (locs : List Loc) (ls : Array Slot), (41 - i).toNat < zn_4 → (0 ≤ i ∧ i ≤ 41) → (w = 0) → va_P G.1 vwCl [(x, .inr (13, [.int (iz (th)), .int (iz (6)), .ref am, .null, .ref tb, .ref lv, .int (iz (0)), .ref wt, .int (iz (0)), .ref bg, .ref pm, .int (iz (0))])), (am, zaL (G.2 0) 41 (fun _ => 0))] H → va_D A [(x, .inr (13, [.int (iz (th)), .int (iz (6)), .ref am, .null, .ref tb, .ref lv, .int (iz (0)), .ref wt, .int (iz (0)), .ref bg, .ref pm, .int (iz (0))])), (am, zaL (G.2 0) 41 (fun _ => 0))] → va_S A s.heap H locs → lv_has ls 3 [(2, .int (iz (i))), (1, .int (iz (w))), (0, .ref x)] → W p l e rm_c_X12_amountsThere s m ([.ref x] : List Value).toArray below meth c H locs 0 0 Q (F0 m 4 ls []) := by
    intro zn_4
    induction zn_4 with
    | zero => intro i w H locs ls hm; exact absurd hm (Nat.not_lt_zero _)
    | succ zn_4 ih_4 =>
      intro i w H locs ls hm_4 k1 k2 hP hD hS hl
      refine lv_iload_n hx hb dX12_amountsThere_4 rfl (lv_at hl 0 rfl) ?_
      refine lv_bipush (v := iz (41)) hx hb dX12_amountsThere_5 rfl ?_
      refine zr_icmp_ge (x := i) (y := 41) (tgt := 35) hx hb (⟨by omega, by omega⟩) (⟨by omega, by omega⟩) dX12_amountsThere_7 (by decide) (fun h_1 => ?_) (fun h_1 => ?_)
      ·
        refine lv_iload_n hx hb dX12_amountsThere_35 rfl (lv_at hl 1 rfl) ?_
        rw [hQ]
        exact zr_iret (z := w) (u := ()) hx hb hr hlocks hP hD hS (by first | exact Nat.le_of_ble_eq_true rfl | omega) (by first | exact Nat.le_of_ble_eq_true rfl | omega) dX12_amountsThere_36 (show w = 0 from k2)
      ·
        refine lv_iload_n hx hb dX12_amountsThere_10 rfl (lv_at hl 1 rfl) ?_
        refine lv_aload_n hx hb dX12_amountsThere_11 rfl (lv_at hl 2 rfl) ?_
        refine va_get (D := G.1) (ci := 13) (v := .ref am) (C := RX12) (T := TX12) (N := 12) hx hb hts iwX12 hown hK hP 0 rfl rfl 2 (by decide) (hts (.fieldLink RX12 65 "AnnuityHouseModel" "amounts" "[J") (by decide +kernel)) (fun _ h9 => h9) rfl dX12_amountsThere_12 ?_
        refine lv_iload_n hx hb dX12_amountsThere_15 rfl (lv_at hl 0 rfl) ?_
        refine zr_lald hx hb hK hP 1 0 rfl rfl (i := i) (⟨by omega, by omega, by omega⟩) dX12_amountsThere_16 ?_
        refine zr_eql (x := (fun _ => 0) i) (y := 0) rfl ?_
        refine lv_lconst (v := lz (0)) hx hb dX12_amountsThere_17 rfl ?_
        refine zr_lcmp_eq (x := 0) (y := 0) (tgt := 26) hx hb (⟨by omega, by omega⟩) (⟨by omega, by omega⟩) dX12_amountsThere_18 dX12_amountsThere_19 (by decide) (fun h_2 => ?_) (fun h_2 => ?_)
        ·
          refine lv_iconst (v := iz (0)) hx hb dX12_amountsThere_26 rfl ?_
          refine zr_iadd hx hb dX12_amountsThere_27 ?_
          refine lv_istore_n (lv' := [(1, .int (iz (w + 0))), (2, .int (iz (i))), (0, .ref x)]) hx hb dX12_amountsThere_28 rfl hl (by decide) rfl (fun ls hl => ?_)
          refine lv_iinc (v := iz (i + 1)) (lv' := [(2, .int (iz (i + 1))), (1, .int (iz (w + 0))), (0, .ref x)]) hx hb dX12_amountsThere_29 hl (k := 1) rfl (by rw [show Int32.ofInt (1) = iz (1) from rfl, iz_add]) (by decide) rfl (fun ls hl => ?_)
          refine lv_goto (tgt := 4) hx hb dX12_amountsThere_32 (by decide) ?_
          exact ih_4 (i + 1) (w + 0) _ _ _ (by omega) (by omega) (by omega) (hP) (hD) hS (hl)
        · exact absurd h_2 (by omega)
  exact hl_4 ((41 - 0 : Int).toNat + 1) 0 0 _ _ _ (Nat.lt_succ_self _) (by omega) (by omega) (hP) (hD) hS (hl)

def rm_c_X12_clearRow : Room := { frames := 1, cells := 0, slots := 0, locals := 22 }
theorem iw_X12_clearRow_X12 : ∀ w ∈ wsX120, w ∈ wsX12_clearRow := by decide +kernel
set_option maxHeartbeats 1000000 in
set_option maxRecDepth 100000 in
theorem c_X12_clearRow (l : Launch) (G : zG) (x : Nat) (am : Nat) (tb : Nat) (lv : Nat) (wt : Nat) (bg : Nat) (pm : Nat) (th : Int)  : zM l G yX12_clearRow wsX12_clearRow rm_c_X12_clearRow [.ref x] [(x, .inr (13, [.int (iz (th)), .int (iz (6)), .ref am, .null, .ref tb, .ref lv, .int (iz (0)), .ref wt, .int (iz (0)), .ref bg, .ref pm, .int (iz (0))])), (am, zaL (G.2 0) 41 (fun _ => 0))] (fun A => zQi G (fun (z : Int) (th2 : Int) => z = 0 ∧ th2 = 0) (fun (th2 : Int) => [(x, .inr (13, [.int (iz (th2)), .int (iz (6)), .ref am, .null, .ref tb, .ref lv, .int (iz (0)), .ref wt, .int (iz (0)), .ref bg, .ref pm, .int (iz (0))]))]) A) 0 0 := by
  refine zM_of (cc := cX12_clearRow) (maxL := 3) (ret := (some .int)) (by decide) rfl (Nat.le_of_ble_eq_true rfl) ?_
  intro p e s m below meth c ls A Q hQ hx hb hr hts hown hlocks hml hnm hKX hP hD hA hS hl
  have hK := hKX.1
  have iwX12 := iw_X12_clearRow_X12
  obtain ⟨H, hH⟩ : ∃ h, h = s.heap := ⟨_, rfl⟩
  obtain ⟨locs, hlo⟩ : ∃ h : List Loc, h = [] := ⟨_, rfl⟩
  have hS : va_S A s.heap H locs := by rw [hH, hlo]; exact hS
  have hP : va_P G.1 vwCl [(x, .inr (13, [.int (iz (th)), .int (iz (6)), .ref am, .null, .ref tb, .ref lv, .int (iz (0)), .ref wt, .int (iz (0)), .ref bg, .ref pm, .int (iz (0))])), (am, zaL (G.2 0) 41 (fun _ => 0))] H := by rw [hH]; exact hP
  have hD : va_D A [(x, .inr (13, [.int (iz (th)), .int (iz (6)), .ref am, .null, .ref tb, .ref lv, .int (iz (0)), .ref wt, .int (iz (0)), .ref bg, .ref pm, .int (iz (0))])), (am, zaL (G.2 0) 41 (fun _ => 0))] := hD
  have hl : lv_has ls 3 [(0, .ref x)] := hl
  rw [← hH, ← hlo]
  refine lv_aload_n hx hb dX12_clearRow_0 rfl (lv_at hl 0 rfl) ?_
  refine lv_iconst (v := iz (0)) hx hb dX12_clearRow_1 rfl ?_
  refine va_put (D := G.1) (ci := 13) (v := .int (iz (0))) (ty := .int) (C := RX12) (T := TX12) (N := 12) hx hb hts iwX12 tyX12 tyX12_ok nmX12 hown hK hP hD hS 0 rfl rfl 0 (by decide) (hts (.fieldLink RX12 1 "AnnuityHouseModel" "thrown" "I") (by decide +kernel)) (fun _ h9 => h9) rfl (by decide +kernel) rfl rfl (Nat.le_of_ble_eq_true rfl) dX12_clearRow_2 (fun H locs hP hD hS => ?_)
  have hP : va_P G.1 vwCl [(x, .inr (13, [.int (iz (0)), .int (iz (6)), .ref am, .null, .ref tb, .ref lv, .int (iz (0)), .ref wt, .int (iz (0)), .ref bg, .ref pm, .int (iz (0))])), (am, zaL (G.2 0) 41 (fun _ => 0))] H := hP
  have hD : va_D A [(x, .inr (13, [.int (iz (0)), .int (iz (6)), .ref am, .null, .ref tb, .ref lv, .int (iz (0)), .ref wt, .int (iz (0)), .ref bg, .ref pm, .int (iz (0))])), (am, zaL (G.2 0) 41 (fun _ => 0))] := hD
  refine lv_aload_n hx hb dX12_clearRow_5 rfl (lv_at hl 0 rfl) ?_
  refine zc_i (wr := []) (va_runV (As := []) (rest := []) ⟨hx, hb, hml, hown, hts⟩ (c_X12_amountsThere l G x am tb lv wt bg pm 0  H.size) (cwV 0 hts gX12_clearRow_X12_amountsThere rfl rfl rfl (by decide +kernel) ⟨Nat.le_of_ble_eq_true rfl, Nat.le_of_ble_eq_true rfl⟩) (zpV hKX hP hD [0, 1] rfl rfl 0 13 rfl rfl) rfl rfl hl.1 rfl (lv_room (Nat.le_of_ble_eq_true rfl)) dX12_clearRow_6 ⟨(by first | exact Nat.le_of_ble_eq_true rfl | (show _ ≤ (0 : Nat); omega)), (by first | exact Nat.le_of_ble_eq_true rfl | (show _ ≤ (0 : Nat); omega))⟩) hP hD hS hA [0, 1] [] rfl rfl rfl (by decide) (fun y1 u_1 H locs hy1 hP hD hS => ?_)
  have hP : va_P G.1 vwCl [(x, .inr (13, [.int (iz ((0 : Int))), .int (iz (6)), .ref am, .null, .ref tb, .ref lv, .int (iz (0)), .ref wt, .int (iz (0)), .ref bg, .ref pm, .int (iz (0))])), (am, zaL (G.2 0) 41 (fun _ => 0))] H := hP
  have hD : va_D A [(x, .inr (13, [.int (iz ((0 : Int))), .int (iz (6)), .ref am, .null, .ref tb, .ref lv, .int (iz (0)), .ref wt, .int (iz (0)), .ref bg, .ref pm, .int (iz (0))])), (am, zaL (G.2 0) 41 (fun _ => 0))] := hD
  have hy1 : y1 = 0 := hy1
  refine lv_istore_n (lv' := [(1, .int (iz (y1))), (0, .ref x)]) hx hb dX12_clearRow_9 rfl hl (by decide) rfl (fun ls hl => ?_)
  refine lv_iconst (v := iz (0)) hx hb dX12_clearRow_10 rfl ?_
  refine lv_istore_n (lv' := [(2, .int (iz (0))), (1, .int (iz (y1))), (0, .ref x)]) hx hb dX12_clearRow_11 rfl hl (by decide) rfl (fun ls hl => ?_)
  have hl_12 : ∀ (zn_12 : Nat) (i : Int) (f : Int → Int) (H : Heap) (locs : List Loc) (ls : Array Slot), (41 - i).toNat < zn_12 → (0 ≤ i ∧ i ≤ 41) → va_P G.1 vwCl [(x, .inr (13, [.int (iz ((0 : Int))), .int (iz (6)), .ref am, .null, .ref tb, .ref lv, .int (iz (0)), .ref wt, .int (iz (0)), .ref bg, .ref pm, .int (iz (0))])), (am, zaL (G.2 0) 41 (f))] H → va_D A [(x, .inr (13, [.int (iz ((0 : Int))), .int (iz (6)), .ref am, .null, .ref tb, .ref lv, .int (iz (0)), .ref wt, .int (iz (0)), .ref bg, .ref pm, .int (iz (0))])), (am, zaL (G.2 0) 41 (f))] → va_S A s.heap H locs → lv_has ls 3 [(2, .int (iz (i))), (1, .int (iz (y1))), (0, .ref x)] → W p l e rm_c_X12_clearRow s m ([.ref x] : List Value).toArray below meth c H locs (0 + 0) (0 + 0) Q (F0 m 12 ls []) := by
    intro zn_12
    induction zn_12 with
    | zero => intro i f H locs ls hm; exact absurd hm (Nat.not_lt_zero _)
    | succ zn_12 ih_12 =>
      intro i f H locs ls hm_12 k1 hP hD hS hl
      refine lv_iload_n hx hb dX12_clearRow_12 rfl (lv_at hl 0 rfl) ?_
      refine lv_bipush (v := iz (41)) hx hb dX12_clearRow_13 rfl ?_
      refine zr_icmp_ge (x := i) (y := 41) (tgt := 31) hx hb (⟨by omega, by omega⟩) (⟨by omega, by omega⟩) dX12_clearRow_15 (by decide) (fun h_3 => ?_) (fun h_3 => ?_)
      ·
        refine lv_iload_n hx hb dX12_clearRow_31 rfl (lv_at hl 1 rfl) ?_
        rw [hQ]
        exact zr_iret (z := y1) (u := ((0 : Int))) hx hb hr hlocks (hP.sub [0] rfl) (hD.sub [0] (by decide) rfl) hS (by first | exact Nat.le_of_ble_eq_true rfl | omega) (by first | exact Nat.le_of_ble_eq_true rfl | omega) dX12_clearRow_32 (show y1 = 0 ∧ 0 = 0 from ⟨hy1, rfl⟩)
      ·
        refine lv_aload_n hx hb dX12_clearRow_18 rfl (lv_at hl 2 rfl) ?_
        refine va_get (D := G.1) (ci := 13) (v := .ref am) (C := RX12) (T := TX12) (N := 12) hx hb hts iwX12 hown hK hP 0 rfl rfl 2 (by decide) (hts (.fieldLink RX12 65 "AnnuityHouseModel" "amounts" "[J") (by decide +kernel)) (fun _ h9 => h9) rfl dX12_clearRow_19 ?_
        refine lv_iload_n hx hb dX12_clearRow_22 rfl (lv_at hl 0 rfl) ?_
        refine lv_lconst (v := lz (0)) hx hb dX12_clearRow_23 rfl ?_
        refine zr_last hx hb hK hP hD hS 1 0 rfl rfl (i := i) (x := 0) (⟨by omega, by omega, by omega⟩) dX12_clearRow_24 (fun H locs hP hD hS => ?_)
        have hP : va_P G.1 vwCl [(x, .inr (13, [.int (iz ((0 : Int))), .int (iz (6)), .ref am, .null, .ref tb, .ref lv, .int (iz (0)), .ref wt, .int (iz (0)), .ref bg, .ref pm, .int (iz (0))])), (am, zaL (G.2 0) 41 (zup f i 0))] H := hP
        have hD : va_D A [(x, .inr (13, [.int (iz ((0 : Int))), .int (iz (6)), .ref am, .null, .ref tb, .ref lv, .int (iz (0)), .ref wt, .int (iz (0)), .ref bg, .ref pm, .int (iz (0))])), (am, zaL (G.2 0) 41 (zup f i 0))] := hD
        refine lv_iinc (v := iz (i + 1)) (lv' := [(2, .int (iz (i + 1))), (1, .int (iz (y1))), (0, .ref x)]) hx hb dX12_clearRow_25 hl (k := 0) rfl (by rw [show Int32.ofInt (1) = iz (1) from rfl, iz_add]) (by decide) rfl (fun ls hl => ?_)
        refine lv_goto (tgt := 12) hx hb dX12_clearRow_28 (by decide) ?_
        exact ih_12 (i + 1) (zup f i 0) _ _ _ (by omega) (by omega) (hP) (hD) hS (hl)
  exact hl_12 ((41 - 0 : Int).toNat + 1) 0 (fun _ => 0) _ _ _ (Nat.lt_succ_self _) (by omega) (hP) (hD) hS (hl)

def rm_c_X12_changes : Room := { frames := 0, cells := 0, slots := 0, locals := 0 }
theorem iw_X12_changes_X12 : ∀ w ∈ wsX120, w ∈ wsX12_changes := by decide +kernel
set_option maxHeartbeats 1000000 in
set_option maxRecDepth 100000 in
theorem c_X12_changes (l : Launch) (G : zG) (x : Nat) (am : Nat) (tb : Nat) (lv : Nat) (wt : Nat) (bg : Nat) (pm : Nat) (th : Int)  : zM l G yX12_changes wsX12_changes rm_c_X12_changes [.ref x] [(x, .inr (13, [.int (iz (th)), .int (iz (6)), .ref am, .null, .ref tb, .ref lv, .int (iz (0)), .ref wt, .int (iz (0)), .ref bg, .ref pm, .int (iz (0))])), (am, zaL (G.2 0) 41 (fun _ => 0))] (fun A => zQi G (fun (z : Int) (th2 : Int) => z = 0 ∧ th2 = 0) (fun (th2 : Int) => [(x, .inr (13, [.int (iz (th2)), .int (iz (6)), .ref am, .null, .ref tb, .ref lv, .int (iz (0)), .ref wt, .int (iz (0)), .ref bg, .ref pm, .int (iz (0))])), (am, zaL (G.2 0) 41 (fun _ => 0))]) A) 0 0 := by
  refine zM_of (cc := cX12_changes) (maxL := 5) (ret := (some .int)) (by decide) rfl (Nat.le_of_ble_eq_true rfl) ?_
  intro p e s m below meth c ls A Q hQ hx hb hr hts hown hlocks hml hnm hKX hP hD hA hS hl
  have hK := hKX.1
  have iwX12 := iw_X12_changes_X12
  obtain ⟨H, hH⟩ : ∃ h, h = s.heap := ⟨_, rfl⟩
  obtain ⟨locs, hlo⟩ : ∃ h : List Loc, h = [] := ⟨_, rfl⟩
  have hS : va_S A s.heap H locs := by rw [hH, hlo]; exact hS
  have hP : va_P G.1 vwCl [(x, .inr (13, [.int (iz (th)), .int (iz (6)), .ref am, .null, .ref tb, .ref lv, .int (iz (0)), .ref wt, .int (iz (0)), .ref bg, .ref pm, .int (iz (0))])), (am, zaL (G.2 0) 41 (fun _ => 0))] H := by rw [hH]; exact hP
  have hD : va_D A [(x, .inr (13, [.int (iz (th)), .int (iz (6)), .ref am, .null, .ref tb, .ref lv, .int (iz (0)), .ref wt, .int (iz (0)), .ref bg, .ref pm, .int (iz (0))])), (am, zaL (G.2 0) 41 (fun _ => 0))] := hD
  have hl : lv_has ls 5 [(0, .ref x)] := hl
  rw [← hH, ← hlo]
  refine lv_aload_n hx hb dX12_changes_0 rfl (lv_at hl 0 rfl) ?_
  refine lv_iconst (v := iz (0)) hx hb dX12_changes_1 rfl ?_
  refine va_put (D := G.1) (ci := 13) (v := .int (iz (0))) (ty := .int) (C := RX12) (T := TX12) (N := 12) hx hb hts iwX12 tyX12 tyX12_ok nmX12 hown hK hP hD hS 0 rfl rfl 0 (by decide) (hts (.fieldLink RX12 1 "AnnuityHouseModel" "thrown" "I") (by decide +kernel)) (fun _ h9 => h9) rfl (by decide +kernel) rfl rfl (Nat.le_of_ble_eq_true rfl) dX12_changes_2 (fun H locs hP hD hS => ?_)
  have hP : va_P G.1 vwCl [(x, .inr (13, [.int (iz (0)), .int (iz (6)), .ref am, .null, .ref tb, .ref lv, .int (iz (0)), .ref wt, .int (iz (0)), .ref bg, .ref pm, .int (iz (0))])), (am, zaL (G.2 0) 41 (fun _ => 0))] H := hP
  have hD : va_D A [(x, .inr (13, [.int (iz (0)), .int (iz (6)), .ref am, .null, .ref tb, .ref lv, .int (iz (0)), .ref wt, .int (iz (0)), .ref bg, .ref pm, .int (iz (0))])), (am, zaL (G.2 0) 41 (fun _ => 0))] := hD
  refine lv_iconst (v := iz (0)) hx hb dX12_changes_5 rfl ?_
  refine lv_istore_n (lv' := [(1, .int (iz (0))), (0, .ref x)]) hx hb dX12_changes_6 rfl hl (by decide) rfl (fun ls hl => ?_)
  refine lv_iconst (v := iz (0)) hx hb dX12_changes_7 rfl ?_
  refine lv_istore_n (lv' := [(2, .int (iz (0))), (1, .int (iz (0))), (0, .ref x)]) hx hb dX12_changes_8 rfl hl (by decide) rfl (fun ls hl => ?_)
  refine lv_iconst (v := iz (0)) hx hb dX12_changes_9 rfl ?_
  refine lv_istore_n (lv' := [(3, .int (iz (0))), (2, .int (iz (0))), (1, .int (iz (0))), (0, .ref x)]) hx hb dX12_changes_10 rfl hl (by decide) rfl (fun ls hl => ?_)
  have hl_11 : ∀ (zn_11 : Nat) (i : Int) (w : Int) (H : Heap) (locs : List Loc) (ls : Array Slot), (41 - i).toNat < zn_11 → (0 ≤ i ∧ i ≤ 41) → (w = 0) → va_P G.1 vwCl [(x, .inr (13, [.int (iz (0)), .int (iz (6)), .ref am, .null, .ref tb, .ref lv, .int (iz (0)), .ref wt, .int (iz (0)), .ref bg, .ref pm, .int (iz (0))])), (am, zaL (G.2 0) 41 (fun _ => 0))] H → va_D A [(x, .inr (13, [.int (iz (0)), .int (iz (6)), .ref am, .null, .ref tb, .ref lv, .int (iz (0)), .ref wt, .int (iz (0)), .ref bg, .ref pm, .int (iz (0))])), (am, zaL (G.2 0) 41 (fun _ => 0))] → va_S A s.heap H locs → lv_has ls 5 [(3, .int (iz (i))), (2, .int (iz (0))), (1, .int (iz (w))), (0, .ref x)] → W p l e rm_c_X12_changes s m ([.ref x] : List Value).toArray below meth c H locs 0 0 Q (F0 m 11 ls []) := by
    intro zn_11
    induction zn_11 with
    | zero => intro i w H locs ls hm; exact absurd hm (Nat.not_lt_zero _)
    | succ zn_11 ih_11 =>
      intro i w H locs ls hm_11 k1 k2 hP hD hS hl
      refine lv_iload_n hx hb dX12_changes_11 rfl (lv_at hl 0 rfl) ?_
      refine lv_bipush (v := iz (41)) hx hb dX12_changes_12 rfl ?_
      refine zr_icmp_ge (x := i) (y := 41) (tgt := 91) hx hb (⟨by omega, by omega⟩) (⟨by omega, by omega⟩) dX12_changes_14 (by decide) (fun h_1 => ?_) (fun h_1 => ?_)
      ·
        refine lv_iload_n hx hb dX12_changes_91 rfl (lv_at hl 2 rfl) ?_
        rw [hQ]
        exact zr_iret (z := w) (u := (0)) hx hb hr hlocks hP hD hS (by first | exact Nat.le_of_ble_eq_true rfl | omega) (by first | exact Nat.le_of_ble_eq_true rfl | omega) dX12_changes_92 (show w = 0 ∧ 0 = 0 from ⟨k2, rfl⟩)
      ·
        refine lv_aload_n hx hb dX12_changes_17 rfl (lv_at hl 3 rfl) ?_
        refine va_get (D := G.1) (ci := 13) (v := .ref am) (C := RX12) (T := TX12) (N := 12) hx hb hts iwX12 hown hK hP 0 rfl rfl 2 (by decide) (hts (.fieldLink RX12 65 "AnnuityHouseModel" "amounts" "[J") (by decide +kernel)) (fun _ h9 => h9) rfl dX12_changes_18 ?_
        refine lv_iload_n hx hb dX12_changes_21 rfl (lv_at hl 0 rfl) ?_
        refine zr_lald hx hb hK hP 1 0 rfl rfl (i := i) (⟨by omega, by omega, by omega⟩) dX12_changes_22 ?_
        refine zr_eql (x := (fun _ => 0) i) (y := 0) rfl ?_
        refine lv_lconst (v := lz (0)) hx hb dX12_changes_23 rfl ?_
        refine zr_lcmp_ge (x := 0) (y := 0) (tgt := 32) hx hb (⟨by omega, by omega⟩) (⟨by omega, by omega⟩) dX12_changes_24 dX12_changes_25 (by decide) (fun h_2 => ?_) (fun h_2 => ?_)
        ·
          refine lv_aload_n hx hb dX12_changes_32 rfl (lv_at hl 3 rfl) ?_
          refine va_get (D := G.1) (ci := 13) (v := .ref am) (C := RX12) (T := TX12) (N := 12) hx hb hts iwX12 hown hK hP 0 rfl rfl 2 (by decide) (hts (.fieldLink RX12 65 "AnnuityHouseModel" "amounts" "[J") (by decide +kernel)) (fun _ h9 => h9) rfl dX12_changes_33 ?_
          refine lv_iload_n hx hb dX12_changes_36 rfl (lv_at hl 0 rfl) ?_
          refine zr_lald hx hb hK hP 1 0 rfl rfl (i := i) (⟨by omega, by omega, by omega⟩) dX12_changes_37 ?_
          refine zr_eql (x := (fun _ => 0) i) (y := 0) rfl ?_
          refine lv_lconst (v := lz (0)) hx hb dX12_changes_38 rfl ?_
          refine zr_lcmp_le (x := 0) (y := 0) (tgt := 47) hx hb (⟨by omega, by omega⟩) (⟨by omega, by omega⟩) dX12_changes_39 dX12_changes_40 (by decide) (fun h_3 => ?_) (fun h_3 => ?_)
          ·
            refine lv_iconst (v := iz (0)) hx hb dX12_changes_47 rfl ?_
            refine lv_istore (lv' := [(4, .int (iz (0))), (3, .int (iz (i))), (2, .int (iz (0))), (1, .int (iz (w))), (0, .ref x)]) hx hb dX12_changes_48 hl (by decide) rfl (fun ls hl => ?_)
            refine lv_iload_n hx hb dX12_changes_50 rfl (lv_at hl 3 rfl) ?_
            refine lv_iload hx hb dX12_changes_51 (lv_at hl 0 rfl) ?_
            refine zr_if_eq (x := 0) (tgt := 70) hx hb (⟨by omega, by omega⟩) dX12_changes_53 (by decide) (fun h_4 => ?_) (fun h_4 => ?_)
            ·
              refine lv_iconst (v := iz (0)) hx hb dX12_changes_70 rfl ?_
              refine zr_iadd hx hb dX12_changes_71 ?_
              refine lv_istore_n (lv' := [(1, .int (iz (w + 0))), (4, .int (iz (0))), (3, .int (iz (i))), (2, .int (iz (0))), (0, .ref x)]) hx hb dX12_changes_72 rfl hl (by decide) rfl (fun ls hl => ?_)
              refine lv_iload hx hb dX12_changes_73 (lv_at hl 1 rfl) ?_
              refine zr_if_eq (x := 0) (tgt := 83) hx hb (⟨by omega, by omega⟩) dX12_changes_75 (by decide) (fun h_5 => ?_) (fun h_5 => ?_)
              ·
                refine lv_iload_n hx hb dX12_changes_83 rfl (lv_at hl 3 rfl) ?_
                refine lv_istore_n (lv' := [(2, .int (iz (0))), (1, .int (iz (w + 0))), (4, .int (iz (0))), (3, .int (iz (i))), (0, .ref x)]) hx hb dX12_changes_84 rfl hl (by decide) rfl (fun ls hl => ?_)
                refine lv_iinc (v := iz (i + 1)) (lv' := [(3, .int (iz (i + 1))), (2, .int (iz (0))), (1, .int (iz (w + 0))), (4, .int (iz (0))), (0, .ref x)]) hx hb dX12_changes_85 hl (k := 3) rfl (by rw [show Int32.ofInt (1) = iz (1) from rfl, iz_add]) (by decide) rfl (fun ls hl => ?_)
                refine lv_goto (tgt := 11) hx hb dX12_changes_88 (by decide) ?_
                exact ih_11 (i + 1) (w + 0) _ _ _ (by omega) (by omega) (by omega) (hP) (hD) hS (lv_sub hl [0, 1, 2, 4] rfl)
              · exact absurd h_5 (by omega)
            · exact absurd h_4 (by omega)
          · exact absurd h_3 (by omega)
        · exact absurd h_2 (by omega)
  exact hl_11 ((41 - 0 : Int).toNat + 1) 0 0 _ _ _ (Nat.lt_succ_self _) (by omega) (by omega) (hP) (hD) hS (hl)

def rm_c_X12_rowYield : Room := { frames := 1, cells := 0, slots := 0, locals := 24 }
set_option maxHeartbeats 1000000 in
set_option maxRecDepth 100000 in
theorem c_X12_rowYield (l : Launch) (G : zG) (x : Nat) (am : Nat) (tb : Nat) (lv : Nat) (wt : Nat) (bg : Nat) (pm : Nat) (th : Int)  : zM l G yX12_rowYield wsX12_rowYield rm_c_X12_rowYield [.ref x] [(x, .inr (13, [.int (iz (th)), .int (iz (6)), .ref am, .null, .ref tb, .ref lv, .int (iz (0)), .ref wt, .int (iz (0)), .ref bg, .ref pm, .int (iz (0))])), (am, zaL (G.2 0) 41 (fun _ => 0))] (fun A => zQi G (fun (z : Int) (th2 : Int) => z = 0 ∧ th2 = 1) (fun (th2 : Int) => [(x, .inr (13, [.int (iz (th2)), .int (iz (6)), .ref am, .null, .ref tb, .ref lv, .int (iz (0)), .ref wt, .int (iz (0)), .ref bg, .ref pm, .int (iz (0))]))]) A) 0 0 := by
  refine zM_of (cc := cX12_rowYield) (maxL := 2) (ret := (some .int)) (by decide) rfl (Nat.le_of_ble_eq_true rfl) ?_
  intro p e s m below meth c ls A Q hQ hx hb hr hts hown hlocks hml hnm hKX hP hD hA hS hl
  have hK := hKX.1
  obtain ⟨H, hH⟩ : ∃ h, h = s.heap := ⟨_, rfl⟩
  obtain ⟨locs, hlo⟩ : ∃ h : List Loc, h = [] := ⟨_, rfl⟩
  have hS : va_S A s.heap H locs := by rw [hH, hlo]; exact hS
  have hP : va_P G.1 vwCl [(x, .inr (13, [.int (iz (th)), .int (iz (6)), .ref am, .null, .ref tb, .ref lv, .int (iz (0)), .ref wt, .int (iz (0)), .ref bg, .ref pm, .int (iz (0))])), (am, zaL (G.2 0) 41 (fun _ => 0))] H := by rw [hH]; exact hP
  have hD : va_D A [(x, .inr (13, [.int (iz (th)), .int (iz (6)), .ref am, .null, .ref tb, .ref lv, .int (iz (0)), .ref wt, .int (iz (0)), .ref bg, .ref pm, .int (iz (0))])), (am, zaL (G.2 0) 41 (fun _ => 0))] := hD
  have hl : lv_has ls 2 [(0, .ref x)] := hl
  rw [← hH, ← hlo]
  refine lv_aload_n hx hb dX12_rowYield_0 rfl (lv_at hl 0 rfl) ?_
  refine zc_i (wr := []) (va_runV (As := []) (rest := []) ⟨hx, hb, hml, hown, hts⟩ (c_X12_changes l G x am tb lv wt bg pm th  H.size) (cwV 0 hts gX12_rowYield_X12_changes rfl rfl rfl (by decide +kernel) ⟨Nat.le_of_ble_eq_true rfl, Nat.le_of_ble_eq_true rfl⟩) (zpV hKX hP hD [0, 1] rfl rfl 0 13 rfl rfl) rfl rfl hl.1 rfl (lv_room (Nat.le_of_ble_eq_true rfl)) dX12_rowYield_1 ⟨(by first | exact Nat.le_of_ble_eq_true rfl | (show _ ≤ (0 : Nat); omega)), (by first | exact Nat.le_of_ble_eq_true rfl | (show _ ≤ (0 : Nat); omega))⟩) hP hD hS hA [0, 1] [] rfl rfl rfl (by decide) (fun y1 u_1 H locs hy1 hP hD hS => ?_)
  generalize u_1 = tc at hP hD hy1
  have hP : va_P G.1 vwCl [(x, .inr (13, [.int (iz (tc)), .int (iz (6)), .ref am, .null, .ref tb, .ref lv, .int (iz (0)), .ref wt, .int (iz (0)), .ref bg, .ref pm, .int (iz (0))])), (am, zaL (G.2 0) 41 (fun _ => 0))] H := hP
  have hD : va_D A [(x, .inr (13, [.int (iz (tc)), .int (iz (6)), .ref am, .null, .ref tb, .ref lv, .int (iz (0)), .ref wt, .int (iz (0)), .ref bg, .ref pm, .int (iz (0))])), (am, zaL (G.2 0) 41 (fun _ => 0))] := hD
  have hy1 : y1 = 0 ∧ tc = 0 := hy1
  refine lv_iconst (v := iz (1)) hx hb dX12_rowYield_4 rfl ?_
  refine zr_icmp_ne (x := y1) (y := 1) (tgt := 12) hx hb (⟨by omega, by omega⟩) (⟨by omega, by omega⟩) dX12_rowYield_5 (by decide) (fun h_3 => ?_) (fun h_3 => ?_)
  ·
    refine lv_iconst (v := iz (0)) hx hb dX12_rowYield_12 rfl ?_
    refine lv_istore_n (lv' := [(1, .int (iz (0))), (0, .ref x)]) hx hb dX12_rowYield_13 rfl hl (by decide) rfl (fun ls hl => ?_)
    refine lv_aload_n hx hb dX12_rowYield_14 rfl (lv_at hl 1 rfl) ?_
    refine lv_iload_n hx hb dX12_rowYield_15 rfl (lv_at hl 0 rfl) ?_
    refine lv_iconst (v := iz (1)) hx hb dX12_rowYield_16 rfl ?_
    refine lv_iconst (v := iz (1)) hx hb dX12_rowYield_17 rfl ?_
    refine zc_z (wr := [(am, zaL (G.2 0) 41 (fun _ => 0))]) (va_runV (As := [.int (iz (0)), .int (iz (1)), .int (iz (1))]) (rest := []) ⟨hx, hb, hml, hown, hts⟩ (c_X12_passes l G x tc (.ref am) .null (.ref tb) (.ref lv) (.int (iz (0))) (.ref wt) (.int (iz (0))) (.ref bg) (.ref pm) (.int (iz (0))) 6 false true true  H.size) (cwV 3 hts gX12_rowYield_X12_passes rfl rfl rfl (by decide +kernel) ⟨Nat.le_of_ble_eq_true rfl, Nat.le_of_ble_eq_true rfl⟩) (zpV hKX hP hD [0] rfl rfl 0 13 rfl rfl) rfl rfl hl.1 rfl (lv_room (Nat.le_of_ble_eq_true rfl)) dX12_rowYield_18 ⟨(by first | exact Nat.le_of_ble_eq_true rfl | (show _ ≤ (0 : Nat); omega)), (by first | exact Nat.le_of_ble_eq_true rfl | (show _ ≤ (0 : Nat); omega))⟩) hP hD hS hA [0] [1] rfl rfl rfl (by decide) (fun pz u_4 H locs hp hP hD hS => ?_)
    generalize u_4 = thp at hP hD hp
    have hP : va_P G.1 vwCl [(am, zaL (G.2 0) 41 (fun _ => 0)), (x, .inr (13, [.int (iz (thp)), .int (iz ((6 : Int))), .ref am, .null, .ref tb, .ref lv, .int (iz (0)), .ref wt, .int (iz (0)), .ref bg, .ref pm, .int (iz (0))]))] H := hP
    have hD : va_D A [(am, zaL (G.2 0) 41 (fun _ => 0)), (x, .inr (13, [.int (iz (thp)), .int (iz ((6 : Int))), .ref am, .null, .ref tb, .ref lv, .int (iz (0)), .ref wt, .int (iz (0)), .ref bg, .ref pm, .int (iz (0))]))] := hD
    have hp : pz = (false && true && true) ∧ thp = zcode false true true := hp
    rw [show pz = false from hp.1]
    have htp := hp.2
    refine zr_ifz_eq (tgt := 31) hx hb dX12_rowYield_21 (by decide) (fun h_6 => ?_) (fun h_6 => ?_)
    ·
      refine lv_iconst (v := iz (0)) hx hb dX12_rowYield_31 rfl ?_
      rw [hQ]
      exact zr_iret (z := 0) (u := (thp)) hx hb hr hlocks (hP.sub [1] rfl) (hD.sub [1] (by decide) rfl) hS (by first | exact Nat.le_of_ble_eq_true rfl | omega) (by first | exact Nat.le_of_ble_eq_true rfl | omega) dX12_rowYield_32 (show 0 = 0 ∧ thp = 1 from ⟨rfl, htp⟩)
    · exact absurd h_6 (by decide)
  · exact absurd h_3 (by omega)

def rm_c_X12_hasLoan : Room := { frames := 0, cells := 0, slots := 0, locals := 0 }
theorem iw_X12_hasLoan_X12 : ∀ w ∈ wsX120, w ∈ wsX12_hasLoan := by decide +kernel
set_option maxHeartbeats 1000000 in
set_option maxRecDepth 100000 in
theorem c_X12_hasLoan (l : Launch) (G : zG) (x : Nat) (am : Nat) (tb : Nat) (lv : Nat) (wt : Nat) (bg : Nat) (pm : Nat) (th : Int) (cd : Int)  : zM l G yX12_hasLoan wsX12_hasLoan rm_c_X12_hasLoan [.ref x, .int (iz (cd))] [(x, .inr (13, [.int (iz (th)), .int (iz (6)), .ref am, .null, .ref tb, .ref lv, .int (iz (0)), .ref wt, .int (iz (0)), .ref bg, .ref pm, .int (iz (0))]))] (fun A => zQz G (fun (z : Bool) (th2 : Int) => z = false ∧ th2 = cd) (fun (th2 : Int) => [(x, .inr (13, [.int (iz (th2)), .int (iz (6)), .ref am, .null, .ref tb, .ref lv, .int (iz (0)), .ref wt, .int (iz (0)), .ref bg, .ref pm, .int (iz (0))]))]) A) 0 0 := by
  refine zM_of (cc := cX12_hasLoan) (maxL := 2) (ret := (some .boolean)) (by decide) rfl (Nat.le_of_ble_eq_true rfl) ?_
  intro p e s m below meth c ls A Q hQ hx hb hr hts hown hlocks hml hnm hKX hP hD hA hS hl
  have hK := hKX.1
  have iwX12 := iw_X12_hasLoan_X12
  obtain ⟨H, hH⟩ : ∃ h, h = s.heap := ⟨_, rfl⟩
  obtain ⟨locs, hlo⟩ : ∃ h : List Loc, h = [] := ⟨_, rfl⟩
  have hS : va_S A s.heap H locs := by rw [hH, hlo]; exact hS
  have hP : va_P G.1 vwCl [(x, .inr (13, [.int (iz (th)), .int (iz (6)), .ref am, .null, .ref tb, .ref lv, .int (iz (0)), .ref wt, .int (iz (0)), .ref bg, .ref pm, .int (iz (0))]))] H := by rw [hH]; exact hP
  have hD : va_D A [(x, .inr (13, [.int (iz (th)), .int (iz (6)), .ref am, .null, .ref tb, .ref lv, .int (iz (0)), .ref wt, .int (iz (0)), .ref bg, .ref pm, .int (iz (0))]))] := hD
  have hl : lv_has ls 2 [(0, .ref x), (1, .int (iz (cd)))] := hl
  rw [← hH, ← hlo]
  refine lv_aload_n hx hb dX12_hasLoan_0 rfl (lv_at hl 0 rfl) ?_
  refine lv_aload_n hx hb dX12_hasLoan_1 rfl (lv_at hl 0 rfl) ?_
  refine va_get (D := G.1) (ci := 13) (v := .null) (C := RX12) (T := TX12) (N := 12) hx hb hts iwX12 hown hK hP 0 rfl rfl 3 (by decide) (hts (.fieldLink RX12 217 "AnnuityHouseModel" "loan" "LAnnuityHouseModel$Loan;") (by decide +kernel)) (fun _ h9 => h9) rfl dX12_hasLoan_2 ?_
  refine lv_ifnonnullN hx hb dX12_hasLoan_5 ?_
  refine lv_iload_n hx hb dX12_hasLoan_8 rfl (lv_at hl 1 rfl) ?_
  refine lv_goto (tgt := 13) hx hb dX12_hasLoan_9 (by decide) ?_
  refine va_put (D := G.1) (ci := 13) (v := .int (iz (cd))) (ty := .int) (C := RX12) (T := TX12) (N := 12) hx hb hts iwX12 tyX12 tyX12_ok nmX12 hown hK hP hD hS 0 rfl rfl 0 (by decide) (hts (.fieldLink RX12 1 "AnnuityHouseModel" "thrown" "I") (by decide +kernel)) (fun _ h9 => h9) rfl (by decide +kernel) rfl rfl (Nat.le_of_ble_eq_true rfl) dX12_hasLoan_13 (fun H locs hP hD hS => ?_)
  have hP : va_P G.1 vwCl [(x, .inr (13, [.int (iz (cd)), .int (iz (6)), .ref am, .null, .ref tb, .ref lv, .int (iz (0)), .ref wt, .int (iz (0)), .ref bg, .ref pm, .int (iz (0))]))] H := hP
  have hD : va_D A [(x, .inr (13, [.int (iz (cd)), .int (iz (6)), .ref am, .null, .ref tb, .ref lv, .int (iz (0)), .ref wt, .int (iz (0)), .ref bg, .ref pm, .int (iz (0))]))] := hD
  refine lv_aload_n hx hb dX12_hasLoan_16 rfl (lv_at hl 0 rfl) ?_
  refine va_get (D := G.1) (ci := 13) (v := .null) (C := RX12) (T := TX12) (N := 12) hx hb hts iwX12 hown hK hP 0 rfl rfl 3 (by decide) (hts (.fieldLink RX12 217 "AnnuityHouseModel" "loan" "LAnnuityHouseModel$Loan;") (by decide +kernel)) (fun _ h9 => h9) rfl dX12_hasLoan_17 ?_
  refine lv_ifnullN (tgt := 27) hx hb dX12_hasLoan_20 (by decide) ?_
  refine lv_iconst (v := iz (0)) hx hb dX12_hasLoan_27 rfl ?_
  rw [hQ]
  exact zr_zret (z := false) (rfl) (u := (cd)) hx hb hr hlocks hP hD hS (by first | exact Nat.le_of_ble_eq_true rfl | omega) (by first | exact Nat.le_of_ble_eq_true rfl | omega) dX12_hasLoan_28 (show false = false ∧ cd = cd from ⟨rfl, rfl⟩)

def rm_c_X12_holiday : Room := { frames := 1, cells := 0, slots := 0, locals := 21 }
set_option maxHeartbeats 1000000 in
set_option maxRecDepth 100000 in
theorem c_X12_holiday (l : Launch) (G : zG) (x : Nat) (am : Nat) (tb : Nat) (lv : Nat) (wt : Nat) (bg : Nat) (pm : Nat) (th : Int) (pe : Int)  : zM l G yX12_holiday wsX12_holiday rm_c_X12_holiday [.ref x, .int (iz (pe))] [(x, .inr (13, [.int (iz (th)), .int (iz (6)), .ref am, .null, .ref tb, .ref lv, .int (iz (0)), .ref wt, .int (iz (0)), .ref bg, .ref pm, .int (iz (0))]))] (fun A => zQz G (fun (z : Bool) (th2 : Int) => z = false ∧ th2 = 2) (fun (th2 : Int) => [(x, .inr (13, [.int (iz (th2)), .int (iz (6)), .ref am, .null, .ref tb, .ref lv, .int (iz (0)), .ref wt, .int (iz (0)), .ref bg, .ref pm, .int (iz (0))]))]) A) 0 0 := by
  refine zM_of (cc := cX12_holiday) (maxL := 2) (ret := (some .boolean)) (by decide) rfl (Nat.le_of_ble_eq_true rfl) ?_
  intro p e s m below meth c ls A Q hQ hx hb hr hts hown hlocks hml hnm hKX hP hD hA hS hl
  have hK := hKX.1
  obtain ⟨H, hH⟩ : ∃ h, h = s.heap := ⟨_, rfl⟩
  obtain ⟨locs, hlo⟩ : ∃ h : List Loc, h = [] := ⟨_, rfl⟩
  have hS : va_S A s.heap H locs := by rw [hH, hlo]; exact hS
  have hP : va_P G.1 vwCl [(x, .inr (13, [.int (iz (th)), .int (iz (6)), .ref am, .null, .ref tb, .ref lv, .int (iz (0)), .ref wt, .int (iz (0)), .ref bg, .ref pm, .int (iz (0))]))] H := by rw [hH]; exact hP
  have hD : va_D A [(x, .inr (13, [.int (iz (th)), .int (iz (6)), .ref am, .null, .ref tb, .ref lv, .int (iz (0)), .ref wt, .int (iz (0)), .ref bg, .ref pm, .int (iz (0))]))] := hD
  have hl : lv_has ls 2 [(0, .ref x), (1, .int (iz (pe)))] := hl
  rw [← hH, ← hlo]
  refine lv_aload_n hx hb dX12_holiday_0 rfl (lv_at hl 0 rfl) ?_
  refine lv_iconst (v := iz (2)) hx hb dX12_holiday_1 rfl ?_
  refine zc_z (wr := []) (va_runV (As := [.int (iz (2))]) (rest := []) ⟨hx, hb, hml, hown, hts⟩ (c_X12_hasLoan l G x am tb lv wt bg pm th 2  H.size) (cwV 1 hts gX12_holiday_X12_hasLoan rfl rfl rfl (by decide +kernel) ⟨Nat.le_of_ble_eq_true rfl, Nat.le_of_ble_eq_true rfl⟩) (zpV hKX hP hD [0] rfl rfl 0 13 rfl rfl) rfl rfl hl.1 rfl (lv_room (Nat.le_of_ble_eq_true rfl)) dX12_holiday_2 ⟨(by first | exact Nat.le_of_ble_eq_true rfl | (show _ ≤ (0 : Nat); omega)), (by first | exact Nat.le_of_ble_eq_true rfl | (show _ ≤ (0 : Nat); omega))⟩) hP hD hS hA [0] [] rfl rfl rfl (by decide) (fun hl0 u_1 H locs hh hP hD hS => ?_)
  generalize u_1 = thp at hP hD hh
  have hP : va_P G.1 vwCl [(x, .inr (13, [.int (iz (thp)), .int (iz (6)), .ref am, .null, .ref tb, .ref lv, .int (iz (0)), .ref wt, .int (iz (0)), .ref bg, .ref pm, .int (iz (0))]))] H := hP
  have hD : va_D A [(x, .inr (13, [.int (iz (thp)), .int (iz (6)), .ref am, .null, .ref tb, .ref lv, .int (iz (0)), .ref wt, .int (iz (0)), .ref bg, .ref pm, .int (iz (0))]))] := hD
  have hh : hl0 = false ∧ thp = (2 : Int) := hh
  rw [show hl0 = false from hh.1]
  have htp := hh.2
  refine zr_ifz_eq (tgt := 33) hx hb dX12_holiday_5 (by decide) (fun h_3 => ?_) (fun h_3 => ?_)
  ·
    refine lv_iconst (v := iz (0)) hx hb dX12_holiday_33 rfl ?_
    rw [hQ]
    exact zr_zret (z := false) (rfl) (u := (thp)) hx hb hr hlocks hP hD hS (by first | exact Nat.le_of_ble_eq_true rfl | omega) (by first | exact Nat.le_of_ble_eq_true rfl | omega) dX12_holiday_34 (show false = false ∧ thp = 2 from ⟨rfl, htp⟩)
  · exact absurd h_3 (by decide)

def rm_c_X12_change : Room := { frames := 1, cells := 0, slots := 0, locals := 21 }
set_option maxHeartbeats 1000000 in
set_option maxRecDepth 100000 in
theorem c_X12_change (l : Launch) (G : zG) (x : Nat) (am : Nat) (tb : Nat) (lv : Nat) (wt : Nat) (bg : Nat) (pm : Nat) (th : Int) (pe : Int) (po : Int)  : zM l G yX12_change wsX12_change rm_c_X12_change [.ref x, .int (iz (pe)), .int (iz (po))] [(x, .inr (13, [.int (iz (th)), .int (iz (6)), .ref am, .null, .ref tb, .ref lv, .int (iz (0)), .ref wt, .int (iz (0)), .ref bg, .ref pm, .int (iz (0))]))] (fun A => zQi G (fun (z : Int) (th2 : Int) => z = 0 ∧ th2 = 2) (fun (th2 : Int) => [(x, .inr (13, [.int (iz (th2)), .int (iz (6)), .ref am, .null, .ref tb, .ref lv, .int (iz (0)), .ref wt, .int (iz (0)), .ref bg, .ref pm, .int (iz (0))]))]) A) 0 0 := by
  refine zM_of (cc := cX12_change) (maxL := 4) (ret := (some .int)) (by decide) rfl (Nat.le_of_ble_eq_true rfl) ?_
  intro p e s m below meth c ls A Q hQ hx hb hr hts hown hlocks hml hnm hKX hP hD hA hS hl
  have hK := hKX.1
  obtain ⟨H, hH⟩ : ∃ h, h = s.heap := ⟨_, rfl⟩
  obtain ⟨locs, hlo⟩ : ∃ h : List Loc, h = [] := ⟨_, rfl⟩
  have hS : va_S A s.heap H locs := by rw [hH, hlo]; exact hS
  have hP : va_P G.1 vwCl [(x, .inr (13, [.int (iz (th)), .int (iz (6)), .ref am, .null, .ref tb, .ref lv, .int (iz (0)), .ref wt, .int (iz (0)), .ref bg, .ref pm, .int (iz (0))]))] H := by rw [hH]; exact hP
  have hD : va_D A [(x, .inr (13, [.int (iz (th)), .int (iz (6)), .ref am, .null, .ref tb, .ref lv, .int (iz (0)), .ref wt, .int (iz (0)), .ref bg, .ref pm, .int (iz (0))]))] := hD
  have hl : lv_has ls 4 [(0, .ref x), (1, .int (iz (pe))), (2, .int (iz (po)))] := hl
  rw [← hH, ← hlo]
  refine lv_aload_n hx hb dX12_change_0 rfl (lv_at hl 0 rfl) ?_
  refine lv_iconst (v := iz (2)) hx hb dX12_change_1 rfl ?_
  refine zc_z (wr := []) (va_runV (As := [.int (iz (2))]) (rest := []) ⟨hx, hb, hml, hown, hts⟩ (c_X12_hasLoan l G x am tb lv wt bg pm th 2  H.size) (cwV 1 hts gX12_change_X12_hasLoan rfl rfl rfl (by decide +kernel) ⟨Nat.le_of_ble_eq_true rfl, Nat.le_of_ble_eq_true rfl⟩) (zpV hKX hP hD [0] rfl rfl 0 13 rfl rfl) rfl rfl hl.1 rfl (lv_room (Nat.le_of_ble_eq_true rfl)) dX12_change_2 ⟨(by first | exact Nat.le_of_ble_eq_true rfl | (show _ ≤ (0 : Nat); omega)), (by first | exact Nat.le_of_ble_eq_true rfl | (show _ ≤ (0 : Nat); omega))⟩) hP hD hS hA [0] [] rfl rfl rfl (by decide) (fun hl0 u_1 H locs hh hP hD hS => ?_)
  generalize u_1 = thp at hP hD hh
  have hP : va_P G.1 vwCl [(x, .inr (13, [.int (iz (thp)), .int (iz (6)), .ref am, .null, .ref tb, .ref lv, .int (iz (0)), .ref wt, .int (iz (0)), .ref bg, .ref pm, .int (iz (0))]))] H := hP
  have hD : va_D A [(x, .inr (13, [.int (iz (thp)), .int (iz (6)), .ref am, .null, .ref tb, .ref lv, .int (iz (0)), .ref wt, .int (iz (0)), .ref bg, .ref pm, .int (iz (0))]))] := hD
  have hh : hl0 = false ∧ thp = (2 : Int) := hh
  rw [show hl0 = false from hh.1]
  have htp := hh.2
  refine zr_ifz_eq (tgt := 48) hx hb dX12_change_5 (by decide) (fun h_3 => ?_) (fun h_3 => ?_)
  ·
    refine lv_iconst (v := iz (0)) hx hb dX12_change_48 rfl ?_
    rw [hQ]
    exact zr_iret (z := 0) (u := (thp)) hx hb hr hlocks hP hD hS (by first | exact Nat.le_of_ble_eq_true rfl | omega) (by first | exact Nat.le_of_ble_eq_true rfl | omega) dX12_change_49 (show 0 = 0 ∧ thp = 2 from ⟨rfl, htp⟩)
  · exact absurd h_3 (by decide)

def rm_c_X12_early : Room := { frames := 1, cells := 0, slots := 0, locals := 21 }
set_option maxHeartbeats 1000000 in
set_option maxRecDepth 100000 in
theorem c_X12_early (l : Launch) (G : zG) (x : Nat) (am : Nat) (tb : Nat) (lv : Nat) (wt : Nat) (bg : Nat) (pm : Nat) (th : Int) (pe : Int) (mo : Int)  : zM l G yX12_early wsX12_early rm_c_X12_early [.ref x, .int (iz (pe)), .long (lz (mo))] [(x, .inr (13, [.int (iz (th)), .int (iz (6)), .ref am, .null, .ref tb, .ref lv, .int (iz (0)), .ref wt, .int (iz (0)), .ref bg, .ref pm, .int (iz (0))]))] (fun A => zQi G (fun (z : Int) (th2 : Int) => z = 0 ∧ th2 = 2) (fun (th2 : Int) => [(x, .inr (13, [.int (iz (th2)), .int (iz (6)), .ref am, .null, .ref tb, .ref lv, .int (iz (0)), .ref wt, .int (iz (0)), .ref bg, .ref pm, .int (iz (0))]))]) A) 0 0 := by
  refine zM_of (cc := cX12_early) (maxL := 6) (ret := (some .int)) (by decide) rfl (Nat.le_of_ble_eq_true rfl) ?_
  intro p e s m below meth c ls A Q hQ hx hb hr hts hown hlocks hml hnm hKX hP hD hA hS hl
  have hK := hKX.1
  obtain ⟨H, hH⟩ : ∃ h, h = s.heap := ⟨_, rfl⟩
  obtain ⟨locs, hlo⟩ : ∃ h : List Loc, h = [] := ⟨_, rfl⟩
  have hS : va_S A s.heap H locs := by rw [hH, hlo]; exact hS
  have hP : va_P G.1 vwCl [(x, .inr (13, [.int (iz (th)), .int (iz (6)), .ref am, .null, .ref tb, .ref lv, .int (iz (0)), .ref wt, .int (iz (0)), .ref bg, .ref pm, .int (iz (0))]))] H := by rw [hH]; exact hP
  have hD : va_D A [(x, .inr (13, [.int (iz (th)), .int (iz (6)), .ref am, .null, .ref tb, .ref lv, .int (iz (0)), .ref wt, .int (iz (0)), .ref bg, .ref pm, .int (iz (0))]))] := hD
  have hl : lv_has ls 6 [(0, .ref x), (1, .int (iz (pe))), (2, .long (lz (mo)))] := hl
  rw [← hH, ← hlo]
  refine lv_aload_n hx hb dX12_early_0 rfl (lv_at hl 0 rfl) ?_
  refine lv_iconst (v := iz (2)) hx hb dX12_early_1 rfl ?_
  refine zc_z (wr := []) (va_runV (As := [.int (iz (2))]) (rest := []) ⟨hx, hb, hml, hown, hts⟩ (c_X12_hasLoan l G x am tb lv wt bg pm th 2  H.size) (cwV 1 hts gX12_early_X12_hasLoan rfl rfl rfl (by decide +kernel) ⟨Nat.le_of_ble_eq_true rfl, Nat.le_of_ble_eq_true rfl⟩) (zpV hKX hP hD [0] rfl rfl 0 13 rfl rfl) rfl rfl hl.1 rfl (lv_room (Nat.le_of_ble_eq_true rfl)) dX12_early_2 ⟨(by first | exact Nat.le_of_ble_eq_true rfl | (show _ ≤ (0 : Nat); omega)), (by first | exact Nat.le_of_ble_eq_true rfl | (show _ ≤ (0 : Nat); omega))⟩) hP hD hS hA [0] [] rfl rfl rfl (by decide) (fun hl0 u_1 H locs hh hP hD hS => ?_)
  generalize u_1 = thp at hP hD hh
  have hP : va_P G.1 vwCl [(x, .inr (13, [.int (iz (thp)), .int (iz (6)), .ref am, .null, .ref tb, .ref lv, .int (iz (0)), .ref wt, .int (iz (0)), .ref bg, .ref pm, .int (iz (0))]))] H := hP
  have hD : va_D A [(x, .inr (13, [.int (iz (thp)), .int (iz (6)), .ref am, .null, .ref tb, .ref lv, .int (iz (0)), .ref wt, .int (iz (0)), .ref bg, .ref pm, .int (iz (0))]))] := hD
  have hh : hl0 = false ∧ thp = (2 : Int) := hh
  rw [show hl0 = false from hh.1]
  have htp := hh.2
  refine zr_ifz_eq (tgt := 50) hx hb dX12_early_5 (by decide) (fun h_3 => ?_) (fun h_3 => ?_)
  ·
    refine lv_iconst (v := iz (0)) hx hb dX12_early_50 rfl ?_
    rw [hQ]
    exact zr_iret (z := 0) (u := (thp)) hx hb hr hlocks hP hD hS (by first | exact Nat.le_of_ble_eq_true rfl | omega) (by first | exact Nat.le_of_ble_eq_true rfl | omega) dX12_early_51 (show 0 = 0 ∧ thp = 2 from ⟨rfl, htp⟩)
  · exact absurd h_3 (by decide)

def rm_c_X12_rows : Room := { frames := 1, cells := 0, slots := 0, locals := 21 }
set_option maxHeartbeats 1000000 in
set_option maxRecDepth 100000 in
theorem c_X12_rows (l : Launch) (G : zG) (x : Nat) (am : Nat) (tb : Nat) (lv : Nat) (wt : Nat) (bg : Nat) (pm : Nat) (th : Int)  : zM l G yX12_rows wsX12_rows rm_c_X12_rows [.ref x] [(x, .inr (13, [.int (iz (th)), .int (iz (6)), .ref am, .null, .ref tb, .ref lv, .int (iz (0)), .ref wt, .int (iz (0)), .ref bg, .ref pm, .int (iz (0))]))] (fun A => zQi G (fun (z : Int) (th2 : Int) => z = 0 ∧ th2 = 1) (fun (th2 : Int) => [(x, .inr (13, [.int (iz (th2)), .int (iz (6)), .ref am, .null, .ref tb, .ref lv, .int (iz (0)), .ref wt, .int (iz (0)), .ref bg, .ref pm, .int (iz (0))]))]) A) 0 0 := by
  refine zM_of (cc := cX12_rows) (maxL := 1) (ret := (some .int)) (by decide) rfl (Nat.le_of_ble_eq_true rfl) ?_
  intro p e s m below meth c ls A Q hQ hx hb hr hts hown hlocks hml hnm hKX hP hD hA hS hl
  have hK := hKX.1
  obtain ⟨H, hH⟩ : ∃ h, h = s.heap := ⟨_, rfl⟩
  obtain ⟨locs, hlo⟩ : ∃ h : List Loc, h = [] := ⟨_, rfl⟩
  have hS : va_S A s.heap H locs := by rw [hH, hlo]; exact hS
  have hP : va_P G.1 vwCl [(x, .inr (13, [.int (iz (th)), .int (iz (6)), .ref am, .null, .ref tb, .ref lv, .int (iz (0)), .ref wt, .int (iz (0)), .ref bg, .ref pm, .int (iz (0))]))] H := by rw [hH]; exact hP
  have hD : va_D A [(x, .inr (13, [.int (iz (th)), .int (iz (6)), .ref am, .null, .ref tb, .ref lv, .int (iz (0)), .ref wt, .int (iz (0)), .ref bg, .ref pm, .int (iz (0))]))] := hD
  have hl : lv_has ls 1 [(0, .ref x)] := hl
  rw [← hH, ← hlo]
  refine lv_aload_n hx hb dX12_rows_0 rfl (lv_at hl 0 rfl) ?_
  refine lv_iconst (v := iz (1)) hx hb dX12_rows_1 rfl ?_
  refine zc_z (wr := []) (va_runV (As := [.int (iz (1))]) (rest := []) ⟨hx, hb, hml, hown, hts⟩ (c_X12_hasLoan l G x am tb lv wt bg pm th 1  H.size) (cwV 1 hts gX12_rows_X12_hasLoan rfl rfl rfl (by decide +kernel) ⟨Nat.le_of_ble_eq_true rfl, Nat.le_of_ble_eq_true rfl⟩) (zpV hKX hP hD [0] rfl rfl 0 13 rfl rfl) rfl rfl hl.1 rfl (lv_room (Nat.le_of_ble_eq_true rfl)) dX12_rows_2 ⟨(by first | exact Nat.le_of_ble_eq_true rfl | (show _ ≤ (0 : Nat); omega)), (by first | exact Nat.le_of_ble_eq_true rfl | (show _ ≤ (0 : Nat); omega))⟩) hP hD hS hA [0] [] rfl rfl rfl (by decide) (fun hl0 u_1 H locs hh hP hD hS => ?_)
  generalize u_1 = thp at hP hD hh
  have hP : va_P G.1 vwCl [(x, .inr (13, [.int (iz (thp)), .int (iz (6)), .ref am, .null, .ref tb, .ref lv, .int (iz (0)), .ref wt, .int (iz (0)), .ref bg, .ref pm, .int (iz (0))]))] H := hP
  have hD : va_D A [(x, .inr (13, [.int (iz (thp)), .int (iz (6)), .ref am, .null, .ref tb, .ref lv, .int (iz (0)), .ref wt, .int (iz (0)), .ref bg, .ref pm, .int (iz (0))]))] := hD
  have hh : hl0 = false ∧ thp = (1 : Int) := hh
  rw [show hl0 = false from hh.1]
  have htp := hh.2
  refine zr_ifz_eq (tgt := 20) hx hb dX12_rows_5 (by decide) (fun h_3 => ?_) (fun h_3 => ?_)
  ·
    refine lv_iconst (v := iz (0)) hx hb dX12_rows_20 rfl ?_
    rw [hQ]
    exact zr_iret (z := 0) (u := (thp)) hx hb hr hlocks hP hD hS (by first | exact Nat.le_of_ble_eq_true rfl | omega) (by first | exact Nat.le_of_ble_eq_true rfl | omega) dX12_rows_21 (show 0 = 0 ∧ thp = 1 from ⟨rfl, htp⟩)
  · exact absurd h_3 (by decide)

def rm_c_X12_rowOf : Room := { frames := 1, cells := 0, slots := 0, locals := 21 }
set_option maxHeartbeats 1000000 in
set_option maxRecDepth 100000 in
theorem c_X12_rowOf (l : Launch) (G : zG) (x : Nat) (am : Nat) (tb : Nat) (lv : Nat) (wt : Nat) (bg : Nat) (pm : Nat) (th : Int) (pe : Int) (wh : Int)  : zM l G yX12_rowOf wsX12_rowOf rm_c_X12_rowOf [.ref x, .int (iz (pe)), .int (iz (wh))] [(x, .inr (13, [.int (iz (th)), .int (iz (6)), .ref am, .null, .ref tb, .ref lv, .int (iz (0)), .ref wt, .int (iz (0)), .ref bg, .ref pm, .int (iz (0))]))] (fun A => zQl G (fun (z : Int) (th2 : Int) => z = 0 ∧ th2 = 3) (fun (th2 : Int) => [(x, .inr (13, [.int (iz (th2)), .int (iz (6)), .ref am, .null, .ref tb, .ref lv, .int (iz (0)), .ref wt, .int (iz (0)), .ref bg, .ref pm, .int (iz (0))]))]) A) 0 0 := by
  refine zM_of (cc := cX12_rowOf) (maxL := 3) (ret := (some .long)) (by decide) rfl (Nat.le_of_ble_eq_true rfl) ?_
  intro p e s m below meth c ls A Q hQ hx hb hr hts hown hlocks hml hnm hKX hP hD hA hS hl
  have hK := hKX.1
  obtain ⟨H, hH⟩ : ∃ h, h = s.heap := ⟨_, rfl⟩
  obtain ⟨locs, hlo⟩ : ∃ h : List Loc, h = [] := ⟨_, rfl⟩
  have hS : va_S A s.heap H locs := by rw [hH, hlo]; exact hS
  have hP : va_P G.1 vwCl [(x, .inr (13, [.int (iz (th)), .int (iz (6)), .ref am, .null, .ref tb, .ref lv, .int (iz (0)), .ref wt, .int (iz (0)), .ref bg, .ref pm, .int (iz (0))]))] H := by rw [hH]; exact hP
  have hD : va_D A [(x, .inr (13, [.int (iz (th)), .int (iz (6)), .ref am, .null, .ref tb, .ref lv, .int (iz (0)), .ref wt, .int (iz (0)), .ref bg, .ref pm, .int (iz (0))]))] := hD
  have hl : lv_has ls 3 [(0, .ref x), (1, .int (iz (pe))), (2, .int (iz (wh)))] := hl
  rw [← hH, ← hlo]
  refine lv_aload_n hx hb dX12_rowOf_0 rfl (lv_at hl 0 rfl) ?_
  refine lv_iconst (v := iz (3)) hx hb dX12_rowOf_1 rfl ?_
  refine zc_z (wr := []) (va_runV (As := [.int (iz (3))]) (rest := []) ⟨hx, hb, hml, hown, hts⟩ (c_X12_hasLoan l G x am tb lv wt bg pm th 3  H.size) (cwV 1 hts gX12_rowOf_X12_hasLoan rfl rfl rfl (by decide +kernel) ⟨Nat.le_of_ble_eq_true rfl, Nat.le_of_ble_eq_true rfl⟩) (zpV hKX hP hD [0] rfl rfl 0 13 rfl rfl) rfl rfl hl.1 rfl (lv_room (Nat.le_of_ble_eq_true rfl)) dX12_rowOf_2 ⟨(by first | exact Nat.le_of_ble_eq_true rfl | (show _ ≤ (0 : Nat); omega)), (by first | exact Nat.le_of_ble_eq_true rfl | (show _ ≤ (0 : Nat); omega))⟩) hP hD hS hA [0] [] rfl rfl rfl (by decide) (fun hl0 u_1 H locs hh hP hD hS => ?_)
  generalize u_1 = thp at hP hD hh
  have hP : va_P G.1 vwCl [(x, .inr (13, [.int (iz (thp)), .int (iz (6)), .ref am, .null, .ref tb, .ref lv, .int (iz (0)), .ref wt, .int (iz (0)), .ref bg, .ref pm, .int (iz (0))]))] H := hP
  have hD : va_D A [(x, .inr (13, [.int (iz (thp)), .int (iz (6)), .ref am, .null, .ref tb, .ref lv, .int (iz (0)), .ref wt, .int (iz (0)), .ref bg, .ref pm, .int (iz (0))]))] := hD
  have hh : hl0 = false ∧ thp = (3 : Int) := hh
  rw [show hl0 = false from hh.1]
  have htp := hh.2
  refine zr_ifz_eq (tgt := 41) hx hb dX12_rowOf_5 (by decide) (fun h_3 => ?_) (fun h_3 => ?_)
  ·
    refine lv_lconst (v := lz (0)) hx hb dX12_rowOf_41 rfl ?_
    rw [hQ]
    exact zr_lret (z := 0) (u := (thp)) hx hb hr hlocks hP hD hS (by first | exact Nat.le_of_ble_eq_true rfl | omega) (by first | exact Nat.le_of_ble_eq_true rfl | omega) dX12_rowOf_42 (show 0 = 0 ∧ thp = 3 from ⟨rfl, htp⟩)
  · exact absurd h_3 (by decide)

def rm_c_X12_total : Room := { frames := 1, cells := 0, slots := 0, locals := 21 }
set_option maxHeartbeats 1000000 in
set_option maxRecDepth 100000 in
theorem c_X12_total (l : Launch) (G : zG) (x : Nat) (am : Nat) (tb : Nat) (lv : Nat) (wt : Nat) (bg : Nat) (pm : Nat) (th : Int) (wh : Int)  : zM l G yX12_total wsX12_total rm_c_X12_total [.ref x, .int (iz (wh))] [(x, .inr (13, [.int (iz (th)), .int (iz (6)), .ref am, .null, .ref tb, .ref lv, .int (iz (0)), .ref wt, .int (iz (0)), .ref bg, .ref pm, .int (iz (0))]))] (fun A => zQl G (fun (z : Int) (th2 : Int) => z = 0 ∧ th2 = 2) (fun (th2 : Int) => [(x, .inr (13, [.int (iz (th2)), .int (iz (6)), .ref am, .null, .ref tb, .ref lv, .int (iz (0)), .ref wt, .int (iz (0)), .ref bg, .ref pm, .int (iz (0))]))]) A) 0 0 := by
  refine zM_of (cc := cX12_total) (maxL := 2) (ret := (some .long)) (by decide) rfl (Nat.le_of_ble_eq_true rfl) ?_
  intro p e s m below meth c ls A Q hQ hx hb hr hts hown hlocks hml hnm hKX hP hD hA hS hl
  have hK := hKX.1
  obtain ⟨H, hH⟩ : ∃ h, h = s.heap := ⟨_, rfl⟩
  obtain ⟨locs, hlo⟩ : ∃ h : List Loc, h = [] := ⟨_, rfl⟩
  have hS : va_S A s.heap H locs := by rw [hH, hlo]; exact hS
  have hP : va_P G.1 vwCl [(x, .inr (13, [.int (iz (th)), .int (iz (6)), .ref am, .null, .ref tb, .ref lv, .int (iz (0)), .ref wt, .int (iz (0)), .ref bg, .ref pm, .int (iz (0))]))] H := by rw [hH]; exact hP
  have hD : va_D A [(x, .inr (13, [.int (iz (th)), .int (iz (6)), .ref am, .null, .ref tb, .ref lv, .int (iz (0)), .ref wt, .int (iz (0)), .ref bg, .ref pm, .int (iz (0))]))] := hD
  have hl : lv_has ls 2 [(0, .ref x), (1, .int (iz (wh)))] := hl
  rw [← hH, ← hlo]
  refine lv_aload_n hx hb dX12_total_0 rfl (lv_at hl 0 rfl) ?_
  refine lv_iconst (v := iz (2)) hx hb dX12_total_1 rfl ?_
  refine zc_z (wr := []) (va_runV (As := [.int (iz (2))]) (rest := []) ⟨hx, hb, hml, hown, hts⟩ (c_X12_hasLoan l G x am tb lv wt bg pm th 2  H.size) (cwV 1 hts gX12_total_X12_hasLoan rfl rfl rfl (by decide +kernel) ⟨Nat.le_of_ble_eq_true rfl, Nat.le_of_ble_eq_true rfl⟩) (zpV hKX hP hD [0] rfl rfl 0 13 rfl rfl) rfl rfl hl.1 rfl (lv_room (Nat.le_of_ble_eq_true rfl)) dX12_total_2 ⟨(by first | exact Nat.le_of_ble_eq_true rfl | (show _ ≤ (0 : Nat); omega)), (by first | exact Nat.le_of_ble_eq_true rfl | (show _ ≤ (0 : Nat); omega))⟩) hP hD hS hA [0] [] rfl rfl rfl (by decide) (fun hl0 u_1 H locs hh hP hD hS => ?_)
  generalize u_1 = thp at hP hD hh
  have hP : va_P G.1 vwCl [(x, .inr (13, [.int (iz (thp)), .int (iz (6)), .ref am, .null, .ref tb, .ref lv, .int (iz (0)), .ref wt, .int (iz (0)), .ref bg, .ref pm, .int (iz (0))]))] H := hP
  have hD : va_D A [(x, .inr (13, [.int (iz (thp)), .int (iz (6)), .ref am, .null, .ref tb, .ref lv, .int (iz (0)), .ref wt, .int (iz (0)), .ref bg, .ref pm, .int (iz (0))]))] := hD
  have hh : hl0 = false ∧ thp = (2 : Int) := hh
  rw [show hl0 = false from hh.1]
  have htp := hh.2
  refine zr_ifz_eq (tgt := 34) hx hb dX12_total_5 (by decide) (fun h_3 => ?_) (fun h_3 => ?_)
  ·
    refine lv_lconst (v := lz (0)) hx hb dX12_total_34 rfl ?_
    rw [hQ]
    exact zr_lret (z := 0) (u := (thp)) hx hb hr hlocks hP hD hS (by first | exact Nat.le_of_ble_eq_true rfl | omega) (by first | exact Nat.le_of_ble_eq_true rfl | omega) dX12_total_35 (show 0 = 0 ∧ thp = 2 from ⟨rfl, htp⟩)
  · exact absurd h_3 (by decide)

def rm_c_X12_accrued_o : Room := { frames := 13, cells := 100, slots := 8000, locals := 526 }
set_option maxHeartbeats 1000000 in
set_option maxRecDepth 100000 in
theorem c_X12_accrued_o (l : Launch) (G : zG) (x : Nat) (am : Nat) (tb : Nat) (lv : Nat) (wt : Nat) (bg : Nat) (pm : Nat) (th : Int) (cp : Int) (da : Int) (le : Int) (h0 : -9223372036854775808 ≤ cp ∧ cp < 9223372036854775808) (h01 : -2147483648 ≤ da ∧ da < 2147483648) (h02 : -2147483648 ≤ le ∧ le < 2147483648) (h1 : 0 ≤ cp ∧ cp ≤ 1000000000 ∧ 1 ≤ le ∧ le ≤ 366 ∧ 0 ≤ da ∧ da ≤ le) : zM l G yX12_accrued wsX12_accrued rm_c_X12_accrued_o [.ref x, .long (lz (cp)), .int (iz (da)), .int (iz (le))] [(x, .inr (13, [.int (iz (th)), .int (iz (6)), .ref am, .null, .ref tb, .ref lv, .int (iz (0)), .ref wt, .int (iz (0)), .ref bg, .ref pm, .int (iz (0))]))] (fun A => zQl G (fun (z : Int) (th2 : Int) => z = zr6 (cp * da) le ∧ th2 = 0) (fun (th2 : Int) => [(x, .inr (13, [.int (iz (th2)), .int (iz (6)), .ref am, .null, .ref tb, .ref lv, .int (iz (0)), .ref wt, .int (iz (0)), .ref bg, .ref pm, .int (iz (0))]))]) A) 100 8000 := by
  refine zM_of (cc := cX12_accrued) (maxL := 7) (ret := (some .long)) (by decide) rfl (Nat.le_of_ble_eq_true rfl) ?_
  intro p e s m below meth c ls A Q hQ hx hb hr hts hown hlocks hml hnm hKX hP hD hA hS hl
  have hK := hKX.1
  obtain ⟨H, hH⟩ : ∃ h, h = s.heap := ⟨_, rfl⟩
  obtain ⟨locs, hlo⟩ : ∃ h : List Loc, h = [] := ⟨_, rfl⟩
  have hS : va_S A s.heap H locs := by rw [hH, hlo]; exact hS
  have hP : va_P G.1 vwCl [(x, .inr (13, [.int (iz (th)), .int (iz (6)), .ref am, .null, .ref tb, .ref lv, .int (iz (0)), .ref wt, .int (iz (0)), .ref bg, .ref pm, .int (iz (0))]))] H := by rw [hH]; exact hP
  have hD : va_D A [(x, .inr (13, [.int (iz (th)), .int (iz (6)), .ref am, .null, .ref tb, .ref lv, .int (iz (0)), .ref wt, .int (iz (0)), .ref bg, .ref pm, .int (iz (0))]))] := hD
  have hl : lv_has ls 7 [(0, .ref x), (1, .long (lz (cp))), (3, .int (iz (da))), (4, .int (iz (le)))] := hl
  rw [← hH, ← hlo]
  refine lv_lload_n hx hb dX12_accrued_0 rfl (lv_at hl 1 rfl) ?_
  refine lv_lconst (v := lz (0)) hx hb dX12_accrued_1 rfl ?_
  refine zr_ldc2 (z := 1000000000) hx hb hown (hts (.constantLong RX12 121 (1000000000)) (by decide +kernel)) rfl dX12_accrued_2 ?_
  refine zc_z (wr := [(x, .inr (13, [.int (iz (th)), .int (iz (6)), .ref am, .null, .ref tb, .ref lv, .int (iz (0)), .ref wt, .int (iz (0)), .ref bg, .ref pm, .int (iz (0))]))]) (va_runS (As := [.long (lz (cp)), .long (lz (0)), .long (lz (1000000000))]) (rest := []) ⟨hx, hb, hml, hown, hts⟩ (c_X12_in l G cp 0 1000000000 (by omega) (by omega) (by omega) H.size) (va_cwS 3 hts gX12_accrued_X12_in rfl rfl rfl (by decide +kernel) ⟨Nat.le_of_ble_eq_true rfl, Nat.le_of_ble_eq_true rfl⟩) (zpS hKX hP hD [] rfl rfl) rfl rfl hl.1 rfl (lv_room (Nat.le_of_ble_eq_true rfl)) dX12_accrued_5 ⟨(by first | exact Nat.le_of_ble_eq_true rfl | (show _ ≤ (100 : Nat); omega)), (by first | exact Nat.le_of_ble_eq_true rfl | (show _ ≤ (8000 : Nat); omega))⟩) hP hD hS hA [] [0] rfl rfl rfl (by decide) (fun y1 u_1 H locs hy1 hP hD hS => ?_)
  have hP : va_P G.1 vwCl [(x, .inr (13, [.int (iz (th)), .int (iz (6)), .ref am, .null, .ref tb, .ref lv, .int (iz (0)), .ref wt, .int (iz (0)), .ref bg, .ref pm, .int (iz (0))]))] H := hP
  have hD : va_D A [(x, .inr (13, [.int (iz (th)), .int (iz (6)), .ref am, .null, .ref tb, .ref lv, .int (iz (0)), .ref wt, .int (iz (0)), .ref bg, .ref pm, .int (iz (0))]))] := hD
  have hy1 : y1 = decide ((0 : Int) ≤ cp ∧ cp ≤ (1000000000 : Int)) := hy1
  rw [show y1 = true from hy1.trans (decide_eq_true (by omega))]
  refine zr_ifz_eq (tgt := 40) hx hb dX12_accrued_8 (by decide) (fun h_3 => ?_) (fun h_3 => ?_)
  · exact absurd h_3 (by decide)
  ·
    refine lv_iload hx hb dX12_accrued_11 (lv_at hl 3 rfl) ?_
    refine zr_i2l hx hb (x := le) (⟨by omega, by omega⟩) dX12_accrued_13 ?_
    refine lv_lconst (v := lz (1)) hx hb dX12_accrued_14 rfl ?_
    refine zr_ldc2 (z := 366) hx hb hown (hts (.constantLong RX12 252 (366)) (by decide +kernel)) rfl dX12_accrued_15 ?_
    refine zc_z (wr := [(x, .inr (13, [.int (iz (th)), .int (iz (6)), .ref am, .null, .ref tb, .ref lv, .int (iz (0)), .ref wt, .int (iz (0)), .ref bg, .ref pm, .int (iz (0))]))]) (va_runS (As := [.long (lz (le)), .long (lz (1)), .long (lz (366))]) (rest := []) ⟨hx, hb, hml, hown, hts⟩ (c_X12_in l G le 1 366 (by omega) (by omega) (by omega) H.size) (va_cwS 3 hts gX12_accrued_X12_in rfl rfl rfl (by decide +kernel) ⟨Nat.le_of_ble_eq_true rfl, Nat.le_of_ble_eq_true rfl⟩) (zpS hKX hP hD [] rfl rfl) rfl rfl hl.1 rfl (lv_room (Nat.le_of_ble_eq_true rfl)) dX12_accrued_18 ⟨(by first | exact Nat.le_of_ble_eq_true rfl | (show _ ≤ (100 : Nat); omega)), (by first | exact Nat.le_of_ble_eq_true rfl | (show _ ≤ (8000 : Nat); omega))⟩) hP hD hS hA [] [0] rfl rfl rfl (by decide) (fun y2 u_4 H locs hy2 hP hD hS => ?_)
    have hP : va_P G.1 vwCl [(x, .inr (13, [.int (iz (th)), .int (iz (6)), .ref am, .null, .ref tb, .ref lv, .int (iz (0)), .ref wt, .int (iz (0)), .ref bg, .ref pm, .int (iz (0))]))] H := hP
    have hD : va_D A [(x, .inr (13, [.int (iz (th)), .int (iz (6)), .ref am, .null, .ref tb, .ref lv, .int (iz (0)), .ref wt, .int (iz (0)), .ref bg, .ref pm, .int (iz (0))]))] := hD
    have hy2 : y2 = decide ((1 : Int) ≤ le ∧ le ≤ (366 : Int)) := hy2
    rw [show y2 = true from hy2.trans (decide_eq_true (by omega))]
    refine zr_ifz_eq (tgt := 40) hx hb dX12_accrued_21 (by decide) (fun h_6 => ?_) (fun h_6 => ?_)
    · exact absurd h_6 (by decide)
    ·
      refine lv_iload_n hx hb dX12_accrued_24 rfl (lv_at hl 2 rfl) ?_
      refine zr_i2l hx hb (x := da) (⟨by omega, by omega⟩) dX12_accrued_25 ?_
      refine lv_lconst (v := lz (0)) hx hb dX12_accrued_26 rfl ?_
      refine lv_iload hx hb dX12_accrued_27 (lv_at hl 3 rfl) ?_
      refine zr_i2l hx hb (x := le) (⟨by omega, by omega⟩) dX12_accrued_29 ?_
      refine zc_z (wr := [(x, .inr (13, [.int (iz (th)), .int (iz (6)), .ref am, .null, .ref tb, .ref lv, .int (iz (0)), .ref wt, .int (iz (0)), .ref bg, .ref pm, .int (iz (0))]))]) (va_runS (As := [.long (lz (da)), .long (lz (0)), .long (lz (le))]) (rest := []) ⟨hx, hb, hml, hown, hts⟩ (c_X12_in l G da 0 le (by omega) (by omega) (by omega) H.size) (va_cwS 3 hts gX12_accrued_X12_in rfl rfl rfl (by decide +kernel) ⟨Nat.le_of_ble_eq_true rfl, Nat.le_of_ble_eq_true rfl⟩) (zpS hKX hP hD [] rfl rfl) rfl rfl hl.1 rfl (lv_room (Nat.le_of_ble_eq_true rfl)) dX12_accrued_30 ⟨(by first | exact Nat.le_of_ble_eq_true rfl | (show _ ≤ (100 : Nat); omega)), (by first | exact Nat.le_of_ble_eq_true rfl | (show _ ≤ (8000 : Nat); omega))⟩) hP hD hS hA [] [0] rfl rfl rfl (by decide) (fun y3 u_7 H locs hy3 hP hD hS => ?_)
      have hP : va_P G.1 vwCl [(x, .inr (13, [.int (iz (th)), .int (iz (6)), .ref am, .null, .ref tb, .ref lv, .int (iz (0)), .ref wt, .int (iz (0)), .ref bg, .ref pm, .int (iz (0))]))] H := hP
      have hD : va_D A [(x, .inr (13, [.int (iz (th)), .int (iz (6)), .ref am, .null, .ref tb, .ref lv, .int (iz (0)), .ref wt, .int (iz (0)), .ref bg, .ref pm, .int (iz (0))]))] := hD
      have hy3 : y3 = decide ((0 : Int) ≤ da ∧ da ≤ le) := hy3
      rw [show y3 = true from hy3.trans (decide_eq_true (by omega))]
      refine zr_ifz_eq (tgt := 40) hx hb dX12_accrued_33 (by decide) (fun h_9 => ?_) (fun h_9 => ?_)
      · exact absurd h_9 (by decide)
      ·
        refine lv_iconst (v := iz (1)) hx hb dX12_accrued_36 rfl ?_
        refine lv_goto (tgt := 41) hx hb dX12_accrued_37 (by decide) ?_
        refine lv_istore (lv' := [(5, .int (iz (1))), (0, .ref x), (1, .long (lz (cp))), (3, .int (iz (da))), (4, .int (iz (le)))]) hx hb dX12_accrued_41 hl (by decide) rfl (fun ls hl => ?_)
        refine lv_iload hx hb dX12_accrued_43 (lv_at hl 0 rfl) ?_
        refine zr_if_eq (x := 1) (tgt := 73) hx hb (⟨by omega, by omega⟩) dX12_accrued_45 (by decide) (fun h_10 => ?_) (fun h_10 => ?_)
        · exact absurd h_10 (by omega)
        ·
          refine lv_aload_n hx hb dX12_accrued_48 rfl (lv_at hl 1 rfl) ?_
          refine lv_lload_n hx hb dX12_accrued_49 rfl (lv_at hl 2 rfl) ?_
          refine zc_r (wr := [(x, .inr (13, [.int (iz (th)), .int (iz (6)), .ref am, .null, .ref tb, .ref lv, .int (iz (0)), .ref wt, .int (iz (0)), .ref bg, .ref pm, .int (iz (0))]))]) (va_runS (As := [.long (lz (cp))]) (rest := [.ref x]) ⟨hx, hb, hml, hown, hts⟩ (c_X11_of l G cp (by omega) H.size) (va_cwS 1 hts gX12_accrued_X11_of rfl rfl rfl (by decide +kernel) ⟨Nat.le_of_ble_eq_true rfl, Nat.le_of_ble_eq_true rfl⟩) (zpS hKX hP hD [] rfl rfl) rfl rfl hl.1 rfl (lv_room (Nat.le_of_ble_eq_true rfl)) dX12_accrued_50 ⟨(by first | exact Nat.le_of_ble_eq_true rfl | (show _ ≤ (100 : Nat); omega)), (by first | exact Nat.le_of_ble_eq_true rfl | (show _ ≤ (8000 : Nat); omega))⟩) hP hD hS hA [] [0] rfl rfl rfl (by decide) (fun u_11 r1 H locs q1 hP hD hS => ?_)
          obtain ⟨b1, f1, N1, s1⟩ := u_11
          have hP : va_P G.1 vwCl [(x, .inr (13, [.int (iz (th)), .int (iz (6)), .ref am, .null, .ref tb, .ref lv, .int (iz (0)), .ref wt, .int (iz (0)), .ref bg, .ref pm, .int (iz (0))])), (r1, .inr (12, [.int (iz (s1)), .ref b1])), (b1, zaI (G.2 1) N1 (f1))] H := hP
          have hD : va_D A [(x, .inr (13, [.int (iz (th)), .int (iz (6)), .ref am, .null, .ref tb, .ref lv, .int (iz (0)), .ref wt, .int (iz (0)), .ref bg, .ref pm, .int (iz (0))])), (r1, .inr (12, [.int (iz (s1)), .ref b1])), (b1, zaI (G.2 1) N1 (f1))] := hD
          have q1 : tmw f1 N1 s1 cp := q1
          refine lv_iload_n hx hb dX12_accrued_53 rfl (lv_at hl 3 rfl) ?_
          refine zr_i2l hx hb (x := da) (⟨by omega, by omega⟩) dX12_accrued_54 ?_
          refine zc_r (wr := [(x, .inr (13, [.int (iz (th)), .int (iz (6)), .ref am, .null, .ref tb, .ref lv, .int (iz (0)), .ref wt, .int (iz (0)), .ref bg, .ref pm, .int (iz (0))])), (r1, .inr (12, [.int (iz (s1)), .ref b1])), (b1, zaI (G.2 1) N1 (f1))]) (va_runS (As := [.long (lz (da))]) (rest := [.ref r1, .ref x]) ⟨hx, hb, hml, hown, hts⟩ (c_X11_of l G da (by omega) H.size) (va_cwS 1 hts gX12_accrued_X11_of rfl rfl rfl (by decide +kernel) ⟨Nat.le_of_ble_eq_true rfl, Nat.le_of_ble_eq_true rfl⟩) (zpS hKX hP hD [] rfl rfl) rfl rfl hl.1 rfl (lv_room (Nat.le_of_ble_eq_true rfl)) dX12_accrued_55 ⟨(by first | exact Nat.le_of_ble_eq_true rfl | (show _ ≤ (100 : Nat); omega)), (by first | exact Nat.le_of_ble_eq_true rfl | (show _ ≤ (8000 : Nat); omega))⟩) hP hD hS hA [] [0, 1, 2] rfl rfl rfl (by decide) (fun u_13 r2 H locs q2 hP hD hS => ?_)
          obtain ⟨b2, f2, N2, s2⟩ := u_13
          have hP : va_P G.1 vwCl [(x, .inr (13, [.int (iz (th)), .int (iz (6)), .ref am, .null, .ref tb, .ref lv, .int (iz (0)), .ref wt, .int (iz (0)), .ref bg, .ref pm, .int (iz (0))])), (r1, .inr (12, [.int (iz (s1)), .ref b1])), (b1, zaI (G.2 1) N1 (f1)), (r2, .inr (12, [.int (iz (s2)), .ref b2])), (b2, zaI (G.2 1) N2 (f2))] H := hP
          have hD : va_D A [(x, .inr (13, [.int (iz (th)), .int (iz (6)), .ref am, .null, .ref tb, .ref lv, .int (iz (0)), .ref wt, .int (iz (0)), .ref bg, .ref pm, .int (iz (0))])), (r1, .inr (12, [.int (iz (s1)), .ref b1])), (b1, zaI (G.2 1) N1 (f1)), (r2, .inr (12, [.int (iz (s2)), .ref b2])), (b2, zaI (G.2 1) N2 (f2))] := hD
          have q2 : tmw f2 N2 s2 da := q2
          refine zc_r (wr := [(x, .inr (13, [.int (iz (th)), .int (iz (6)), .ref am, .null, .ref tb, .ref lv, .int (iz (0)), .ref wt, .int (iz (0)), .ref bg, .ref pm, .int (iz (0))]))]) (va_runV (As := [.ref r2]) (rest := [.ref x]) ⟨hx, hb, hml, hown, hts⟩ (c_X11_times l G r1 b1 f1 N1 s1 r2 b2 f2 N2 s2 cp da (q1) (q2) (tr_m128 (x := 1000000000) (y := 366) (by omega) (by omega) (by decide)) H.size) (cwV 1 hts gX12_accrued_X11_times rfl rfl rfl (by decide +kernel) ⟨Nat.le_of_ble_eq_true rfl, Nat.le_of_ble_eq_true rfl⟩) (zpV hKX hP hD [1, 2, 3, 4] rfl rfl 1 12 rfl rfl) rfl rfl hl.1 rfl (lv_room (Nat.le_of_ble_eq_true rfl)) dX12_accrued_58 ⟨(by first | exact Nat.le_of_ble_eq_true rfl | (show _ ≤ (100 : Nat); omega)), (by first | exact Nat.le_of_ble_eq_true rfl | (show _ ≤ (8000 : Nat); omega))⟩) hP hD hS hA [1, 2, 3, 4] [0] rfl rfl rfl (by decide) (fun u_15 r3 H locs q3 hP hD hS => ?_)
          obtain ⟨b3, f3, N3, s3⟩ := u_15
          have hP : va_P G.1 vwCl [(x, .inr (13, [.int (iz (th)), .int (iz (6)), .ref am, .null, .ref tb, .ref lv, .int (iz (0)), .ref wt, .int (iz (0)), .ref bg, .ref pm, .int (iz (0))])), (r1, .inr (12, [.int (iz (s1)), .ref b1])), (b1, zaI (G.2 1) N1 (f1)), (r2, .inr (12, [.int (iz (s2)), .ref b2])), (b2, zaI (G.2 1) N2 (f2)), (r3, .inr (12, [.int (iz (s3)), .ref b3])), (b3, zaI (G.2 1) N3 (f3))] H := hP
          have hD : va_D A [(x, .inr (13, [.int (iz (th)), .int (iz (6)), .ref am, .null, .ref tb, .ref lv, .int (iz (0)), .ref wt, .int (iz (0)), .ref bg, .ref pm, .int (iz (0))])), (r1, .inr (12, [.int (iz (s1)), .ref b1])), (b1, zaI (G.2 1) N1 (f1)), (r2, .inr (12, [.int (iz (s2)), .ref b2])), (b2, zaI (G.2 1) N2 (f2)), (r3, .inr (12, [.int (iz (s3)), .ref b3])), (b3, zaI (G.2 1) N3 (f3))] := hD
          have q3 : tmw f3 N3 s3 (cp * da) := q3
          refine lv_iload hx hb dX12_accrued_61 (lv_at hl 4 rfl) ?_
          refine zr_i2l hx hb (x := le) (⟨by omega, by omega⟩) dX12_accrued_63 ?_
          refine zc_r (wr := [(x, .inr (13, [.int (iz (th)), .int (iz (6)), .ref am, .null, .ref tb, .ref lv, .int (iz (0)), .ref wt, .int (iz (0)), .ref bg, .ref pm, .int (iz (0))])), (r1, .inr (12, [.int (iz (s1)), .ref b1])), (b1, zaI (G.2 1) N1 (f1)), (r2, .inr (12, [.int (iz (s2)), .ref b2])), (b2, zaI (G.2 1) N2 (f2)), (r3, .inr (12, [.int (iz (s3)), .ref b3])), (b3, zaI (G.2 1) N3 (f3))]) (va_runS (As := [.long (lz (le))]) (rest := [.ref r3, .ref x]) ⟨hx, hb, hml, hown, hts⟩ (c_X11_of l G le (by omega) H.size) (va_cwS 1 hts gX12_accrued_X11_of rfl rfl rfl (by decide +kernel) ⟨Nat.le_of_ble_eq_true rfl, Nat.le_of_ble_eq_true rfl⟩) (zpS hKX hP hD [] rfl rfl) rfl rfl hl.1 rfl (lv_room (Nat.le_of_ble_eq_true rfl)) dX12_accrued_64 ⟨(by first | exact Nat.le_of_ble_eq_true rfl | (show _ ≤ (100 : Nat); omega)), (by first | exact Nat.le_of_ble_eq_true rfl | (show _ ≤ (8000 : Nat); omega))⟩) hP hD hS hA [] [0, 1, 2, 3, 4, 5, 6] rfl rfl rfl (by decide) (fun u_17 r4 H locs q4 hP hD hS => ?_)
          obtain ⟨b4, f4, N4, s4⟩ := u_17
          have hP : va_P G.1 vwCl [(x, .inr (13, [.int (iz (th)), .int (iz (6)), .ref am, .null, .ref tb, .ref lv, .int (iz (0)), .ref wt, .int (iz (0)), .ref bg, .ref pm, .int (iz (0))])), (r1, .inr (12, [.int (iz (s1)), .ref b1])), (b1, zaI (G.2 1) N1 (f1)), (r2, .inr (12, [.int (iz (s2)), .ref b2])), (b2, zaI (G.2 1) N2 (f2)), (r3, .inr (12, [.int (iz (s3)), .ref b3])), (b3, zaI (G.2 1) N3 (f3)), (r4, .inr (12, [.int (iz (s4)), .ref b4])), (b4, zaI (G.2 1) N4 (f4))] H := hP
          have hD : va_D A [(x, .inr (13, [.int (iz (th)), .int (iz (6)), .ref am, .null, .ref tb, .ref lv, .int (iz (0)), .ref wt, .int (iz (0)), .ref bg, .ref pm, .int (iz (0))])), (r1, .inr (12, [.int (iz (s1)), .ref b1])), (b1, zaI (G.2 1) N1 (f1)), (r2, .inr (12, [.int (iz (s2)), .ref b2])), (b2, zaI (G.2 1) N2 (f2)), (r3, .inr (12, [.int (iz (s3)), .ref b3])), (b3, zaI (G.2 1) N3 (f3)), (r4, .inr (12, [.int (iz (s4)), .ref b4])), (b4, zaI (G.2 1) N4 (f4))] := hD
          have q4 : tmw f4 N4 s4 le := q4
          refine zc_r (wr := [(r1, .inr (12, [.int (iz (s1)), .ref b1])), (b1, zaI (G.2 1) N1 (f1)), (r2, .inr (12, [.int (iz (s2)), .ref b2])), (b2, zaI (G.2 1) N2 (f2))]) (va_runV (As := [.ref r3, .ref r4]) (rest := []) ⟨hx, hb, hml, hown, hts⟩ (c_X12_rounded l G x th (.ref am) .null (.ref tb) (.ref lv) (.int (iz (0))) (.ref wt) (.int (iz (0))) (.ref bg) (.ref pm) (.int (iz (0))) r3 b3 f3 N3 s3 r4 b4 f4 N4 s4 (cp * da) le (q3) (q4) (by omega) (tr_m120 (x := 1000000000) (y := 366) (by omega) (by omega) (by decide)) (tr_120 (by omega)) H.size) (cwV 2 hts gX12_accrued_X12_rounded rfl rfl rfl (by decide +kernel) ⟨Nat.le_of_ble_eq_true rfl, Nat.le_of_ble_eq_true rfl⟩) (zpV hKX hP hD [0, 5, 6, 7, 8] rfl rfl 0 13 rfl rfl) rfl rfl hl.1 rfl (lv_room (Nat.le_of_ble_eq_true rfl)) dX12_accrued_67 ⟨(by first | exact Nat.le_of_ble_eq_true rfl | (show _ ≤ (100 : Nat); omega)), (by first | exact Nat.le_of_ble_eq_true rfl | (show _ ≤ (8000 : Nat); omega))⟩) hP hD hS hA [0, 5, 6, 7, 8] [1, 2, 3, 4] rfl rfl rfl (by decide) (fun u_19 r5 H locs q5 hP hD hS => ?_)
          obtain ⟨b5, f5, N5, s5⟩ := u_19
          have hP : va_P G.1 vwCl [(r1, .inr (12, [.int (iz (s1)), .ref b1])), (b1, zaI (G.2 1) N1 (f1)), (r2, .inr (12, [.int (iz (s2)), .ref b2])), (b2, zaI (G.2 1) N2 (f2)), (x, .inr (13, [.int (iz (th)), .int (iz (6)), .ref am, .null, .ref tb, .ref lv, .int (iz (0)), .ref wt, .int (iz (0)), .ref bg, .ref pm, .int (iz (0))])), (r5, .inr (12, [.int (iz (s5)), .ref b5])), (b5, zaI (G.2 1) N5 (f5))] H := hP
          have hD : va_D A [(r1, .inr (12, [.int (iz (s1)), .ref b1])), (b1, zaI (G.2 1) N1 (f1)), (r2, .inr (12, [.int (iz (s2)), .ref b2])), (b2, zaI (G.2 1) N2 (f2)), (x, .inr (13, [.int (iz (th)), .int (iz (6)), .ref am, .null, .ref tb, .ref lv, .int (iz (0)), .ref wt, .int (iz (0)), .ref bg, .ref pm, .int (iz (0))])), (r5, .inr (12, [.int (iz (s5)), .ref b5])), (b5, zaI (G.2 1) N5 (f5))] := hD
          have q5 : tmw f5 N5 s5 (zr6 (cp * da) le) := q5
          refine lv_goto (tgt := 74) hx hb dX12_accrued_70 (by decide) ?_
          refine lv_astore (lv' := [(6, .ref r5), (5, .int (iz (1))), (0, .ref x), (1, .long (lz (cp))), (3, .int (iz (da))), (4, .int (iz (le)))]) hx hb dX12_accrued_74 hl (by decide) rfl (fun ls hl => ?_)
          refine lv_aload_n hx hb dX12_accrued_76 rfl (lv_at hl 2 rfl) ?_
          refine lv_iload hx hb dX12_accrued_77 (lv_at hl 1 rfl) ?_
          refine lv_aload hx hb dX12_accrued_79 (lv_at hl 0 rfl) ?_
          refine lv_ifnull hx hb dX12_accrued_81 ?_
          refine lv_iconst (v := iz (1)) hx hb dX12_accrued_84 rfl ?_
          refine lv_goto (tgt := 89) hx hb dX12_accrued_85 (by decide) ?_
          refine lv_iconst (v := iz (1)) hx hb dX12_accrued_89 rfl ?_
          refine zc_z (wr := [(r1, .inr (12, [.int (iz (s1)), .ref b1])), (b1, zaI (G.2 1) N1 (f1)), (r2, .inr (12, [.int (iz (s2)), .ref b2])), (b2, zaI (G.2 1) N2 (f2)), (r5, .inr (12, [.int (iz (s5)), .ref b5])), (b5, zaI (G.2 1) N5 (f5))]) (va_runV (As := [.int (iz (1)), .int (iz (1)), .int (iz (1))]) (rest := []) ⟨hx, hb, hml, hown, hts⟩ (c_X12_passes l G x th (.ref am) .null (.ref tb) (.ref lv) (.int (iz (0))) (.ref wt) (.int (iz (0))) (.ref bg) (.ref pm) (.int (iz (0))) 6 true true true  H.size) (cwV 3 hts gX12_accrued_X12_passes rfl rfl rfl (by decide +kernel) ⟨Nat.le_of_ble_eq_true rfl, Nat.le_of_ble_eq_true rfl⟩) (zpV hKX hP hD [4] rfl rfl 4 13 rfl rfl) rfl rfl hl.1 rfl (lv_room (Nat.le_of_ble_eq_true rfl)) dX12_accrued_90 ⟨(by first | exact Nat.le_of_ble_eq_true rfl | (show _ ≤ (100 : Nat); omega)), (by first | exact Nat.le_of_ble_eq_true rfl | (show _ ≤ (8000 : Nat); omega))⟩) hP hD hS hA [4] [0, 1, 2, 3, 5, 6] rfl rfl rfl (by decide) (fun pz u_21 H locs hp hP hD hS => ?_)
          generalize u_21 = thp at hP hD hp
          have hP : va_P G.1 vwCl [(r1, .inr (12, [.int (iz (s1)), .ref b1])), (b1, zaI (G.2 1) N1 (f1)), (r2, .inr (12, [.int (iz (s2)), .ref b2])), (b2, zaI (G.2 1) N2 (f2)), (r5, .inr (12, [.int (iz (s5)), .ref b5])), (b5, zaI (G.2 1) N5 (f5)), (x, .inr (13, [.int (iz (thp)), .int (iz ((6 : Int))), .ref am, .null, .ref tb, .ref lv, .int (iz (0)), .ref wt, .int (iz (0)), .ref bg, .ref pm, .int (iz (0))]))] H := hP
          have hD : va_D A [(r1, .inr (12, [.int (iz (s1)), .ref b1])), (b1, zaI (G.2 1) N1 (f1)), (r2, .inr (12, [.int (iz (s2)), .ref b2])), (b2, zaI (G.2 1) N2 (f2)), (r5, .inr (12, [.int (iz (s5)), .ref b5])), (b5, zaI (G.2 1) N5 (f5)), (x, .inr (13, [.int (iz (thp)), .int (iz ((6 : Int))), .ref am, .null, .ref tb, .ref lv, .int (iz (0)), .ref wt, .int (iz (0)), .ref bg, .ref pm, .int (iz (0))]))] := hD
          have hp : pz = (true && true && true) ∧ thp = zcode true true true := hp
          rw [show pz = true from hp.1]
          have htp := hp.2
          refine zr_ifz_eq (tgt := 105) hx hb dX12_accrued_93 (by decide) (fun h_23 => ?_) (fun h_23 => ?_)
          · exact absurd h_23 (by decide)
          ·
            refine lv_aload_n hx hb dX12_accrued_96 rfl (lv_at hl 2 rfl) ?_
            refine lv_aload hx hb dX12_accrued_97 (lv_at hl 0 rfl) ?_
            refine zc_l (wr := [(r1, .inr (12, [.int (iz (s1)), .ref b1])), (b1, zaI (G.2 1) N1 (f1)), (r2, .inr (12, [.int (iz (s2)), .ref b2])), (b2, zaI (G.2 1) N2 (f2))]) (va_runV (As := [.ref r5]) (rest := []) ⟨hx, hb, hml, hown, hts⟩ (c_X12_tells l G x thp (.ref am) .null (.ref tb) (.ref lv) (.int (iz (0))) (.ref wt) (.int (iz (0))) (.ref bg) (.ref pm) (.int (iz (0))) r5 b5 f5 N5 s5 (zr6 (cp * da) le) (q5) H.size) (cwV 1 hts gX12_accrued_X12_tells rfl rfl rfl (by decide +kernel) ⟨Nat.le_of_ble_eq_true rfl, Nat.le_of_ble_eq_true rfl⟩) (zpV hKX hP hD [6, 4, 5] rfl rfl 6 13 rfl rfl) rfl rfl hl.1 rfl (lv_room (Nat.le_of_ble_eq_true rfl)) dX12_accrued_99 ⟨(by first | exact Nat.le_of_ble_eq_true rfl | (show _ ≤ (100 : Nat); omega)), (by first | exact Nat.le_of_ble_eq_true rfl | (show _ ≤ (8000 : Nat); omega))⟩) hP hD hS hA [6, 4, 5] [0, 1, 2, 3] rfl rfl rfl (by decide) (fun zz u_24 H locs hzz hP hD hS => ?_)
            have hP : va_P G.1 vwCl [(r1, .inr (12, [.int (iz (s1)), .ref b1])), (b1, zaI (G.2 1) N1 (f1)), (r2, .inr (12, [.int (iz (s2)), .ref b2])), (b2, zaI (G.2 1) N2 (f2)), (x, .inr (13, [.int (iz (thp)), .int (iz (6)), .ref am, .null, .ref tb, .ref lv, .int (iz (0)), .ref wt, .int (iz (0)), .ref bg, .ref pm, .int (iz (0))])), (r5, .inr (12, [.int (iz (s5)), .ref b5])), (b5, zaI (G.2 1) N5 (f5))] H := hP
            have hD : va_D A [(r1, .inr (12, [.int (iz (s1)), .ref b1])), (b1, zaI (G.2 1) N1 (f1)), (r2, .inr (12, [.int (iz (s2)), .ref b2])), (b2, zaI (G.2 1) N2 (f2)), (x, .inr (13, [.int (iz (thp)), .int (iz (6)), .ref am, .null, .ref tb, .ref lv, .int (iz (0)), .ref wt, .int (iz (0)), .ref bg, .ref pm, .int (iz (0))])), (r5, .inr (12, [.int (iz (s5)), .ref b5])), (b5, zaI (G.2 1) N5 (f5))] := hD
            have hzz : zz = (zr6 (cp * da) le) := hzz
            refine lv_goto (tgt := 106) hx hb dX12_accrued_102 (by decide) ?_
            rw [hQ]
            exact zr_lret (z := zz) (u := (thp)) hx hb hr hlocks (hP.sub [4] rfl) (hD.sub [4] (by decide) rfl) hS (by first | exact Nat.le_of_ble_eq_true rfl | omega) (by first | exact Nat.le_of_ble_eq_true rfl | omega) dX12_accrued_106 (show zz = zr6 (cp * da) le ∧ thp = 0 from ⟨hzz, htp⟩)

def rm_c_X12_accrued_x : Room := { frames := 1, cells := 0, slots := 0, locals := 25 }
set_option maxHeartbeats 1000000 in
set_option maxRecDepth 100000 in
theorem c_X12_accrued_x (l : Launch) (G : zG) (x : Nat) (am : Nat) (tb : Nat) (lv : Nat) (wt : Nat) (bg : Nat) (pm : Nat) (th : Int) (cp : Int) (da : Int) (le : Int) (h0 : -9223372036854775808 ≤ cp ∧ cp < 9223372036854775808) (h01 : -2147483648 ≤ da ∧ da < 2147483648) (h02 : -2147483648 ≤ le ∧ le < 2147483648) (h1 : ¬ (0 ≤ cp ∧ cp ≤ 1000000000 ∧ 1 ≤ le ∧ le ≤ 366 ∧ 0 ≤ da ∧ da ≤ le)) : zM l G yX12_accrued wsX12_accrued rm_c_X12_accrued_x [.ref x, .long (lz (cp)), .int (iz (da)), .int (iz (le))] [(x, .inr (13, [.int (iz (th)), .int (iz (6)), .ref am, .null, .ref tb, .ref lv, .int (iz (0)), .ref wt, .int (iz (0)), .ref bg, .ref pm, .int (iz (0))]))] (fun A => zQl G (fun (z : Int) (th2 : Int) => z = 0 ∧ th2 = 1) (fun (th2 : Int) => [(x, .inr (13, [.int (iz (th2)), .int (iz (6)), .ref am, .null, .ref tb, .ref lv, .int (iz (0)), .ref wt, .int (iz (0)), .ref bg, .ref pm, .int (iz (0))]))]) A) 0 0 := by
  refine zM_of (cc := cX12_accrued) (maxL := 7) (ret := (some .long)) (by decide) rfl (Nat.le_of_ble_eq_true rfl) ?_
  intro p e s m below meth c ls A Q hQ hx hb hr hts hown hlocks hml hnm hKX hP hD hA hS hl
  have hK := hKX.1
  obtain ⟨H, hH⟩ : ∃ h, h = s.heap := ⟨_, rfl⟩
  obtain ⟨locs, hlo⟩ : ∃ h : List Loc, h = [] := ⟨_, rfl⟩
  have hS : va_S A s.heap H locs := by rw [hH, hlo]; exact hS
  have hP : va_P G.1 vwCl [(x, .inr (13, [.int (iz (th)), .int (iz (6)), .ref am, .null, .ref tb, .ref lv, .int (iz (0)), .ref wt, .int (iz (0)), .ref bg, .ref pm, .int (iz (0))]))] H := by rw [hH]; exact hP
  have hD : va_D A [(x, .inr (13, [.int (iz (th)), .int (iz (6)), .ref am, .null, .ref tb, .ref lv, .int (iz (0)), .ref wt, .int (iz (0)), .ref bg, .ref pm, .int (iz (0))]))] := hD
  have hl : lv_has ls 7 [(0, .ref x), (1, .long (lz (cp))), (3, .int (iz (da))), (4, .int (iz (le)))] := hl
  rw [← hH, ← hlo]
  refine lv_lload_n hx hb dX12_accrued_0 rfl (lv_at hl 1 rfl) ?_
  refine lv_lconst (v := lz (0)) hx hb dX12_accrued_1 rfl ?_
  refine zr_ldc2 (z := 1000000000) hx hb hown (hts (.constantLong RX12 121 (1000000000)) (by decide +kernel)) rfl dX12_accrued_2 ?_
  refine zc_z (wr := [(x, .inr (13, [.int (iz (th)), .int (iz (6)), .ref am, .null, .ref tb, .ref lv, .int (iz (0)), .ref wt, .int (iz (0)), .ref bg, .ref pm, .int (iz (0))]))]) (va_runS (As := [.long (lz (cp)), .long (lz (0)), .long (lz (1000000000))]) (rest := []) ⟨hx, hb, hml, hown, hts⟩ (c_X12_in l G cp 0 1000000000 (by omega) (by omega) (by omega) H.size) (va_cwS 3 hts gX12_accrued_X12_in rfl rfl rfl (by decide +kernel) ⟨Nat.le_of_ble_eq_true rfl, Nat.le_of_ble_eq_true rfl⟩) (zpS hKX hP hD [] rfl rfl) rfl rfl hl.1 rfl (lv_room (Nat.le_of_ble_eq_true rfl)) dX12_accrued_5 ⟨(by first | exact Nat.le_of_ble_eq_true rfl | (show _ ≤ (0 : Nat); omega)), (by first | exact Nat.le_of_ble_eq_true rfl | (show _ ≤ (0 : Nat); omega))⟩) hP hD hS hA [] [0] rfl rfl rfl (by decide) (fun y1 u_1 H locs hy1 hP hD hS => ?_)
  have hP : va_P G.1 vwCl [(x, .inr (13, [.int (iz (th)), .int (iz (6)), .ref am, .null, .ref tb, .ref lv, .int (iz (0)), .ref wt, .int (iz (0)), .ref bg, .ref pm, .int (iz (0))]))] H := hP
  have hD : va_D A [(x, .inr (13, [.int (iz (th)), .int (iz (6)), .ref am, .null, .ref tb, .ref lv, .int (iz (0)), .ref wt, .int (iz (0)), .ref bg, .ref pm, .int (iz (0))]))] := hD
  have hy1 : y1 = decide ((0 : Int) ≤ cp ∧ cp ≤ (1000000000 : Int)) := hy1
  refine zr_ifz_eq (tgt := 40) hx hb dX12_accrued_8 (by decide) (fun h_3 => ?_) (fun h_3 => ?_)
  ·
    have hzy1 := of_decide_eq_false (hy1.symm.trans h_3)
    refine lv_iconst (v := iz (0)) hx hb dX12_accrued_40 rfl ?_
    refine lv_istore (lv' := [(5, .int (iz (0))), (0, .ref x), (1, .long (lz (cp))), (3, .int (iz (da))), (4, .int (iz (le)))]) hx hb dX12_accrued_41 hl (by decide) rfl (fun ls hl => ?_)
    refine lv_iload hx hb dX12_accrued_43 (lv_at hl 0 rfl) ?_
    refine zr_if_eq (x := 0) (tgt := 73) hx hb (⟨by omega, by omega⟩) dX12_accrued_45 (by decide) (fun h_4 => ?_) (fun h_4 => ?_)
    ·
      refine lv_null hx hb dX12_accrued_73 ?_
      refine lv_astoreN (lv' := [(6, .null), (5, .int (iz (0))), (0, .ref x), (1, .long (lz (cp))), (3, .int (iz (da))), (4, .int (iz (le)))]) hx hb dX12_accrued_74 hl (by decide) rfl (fun ls hl => ?_)
      refine lv_aload_n hx hb dX12_accrued_76 rfl (lv_at hl 2 rfl) ?_
      refine lv_iload hx hb dX12_accrued_77 (lv_at hl 1 rfl) ?_
      refine lv_aloadN hx hb dX12_accrued_79 (lv_at hl 0 rfl) ?_
      refine lv_ifnullN (tgt := 88) hx hb dX12_accrued_81 (by decide) ?_
      refine lv_iconst (v := iz (0)) hx hb dX12_accrued_88 rfl ?_
      refine lv_iconst (v := iz (1)) hx hb dX12_accrued_89 rfl ?_
      refine zc_z (wr := []) (va_runV (As := [.int (iz (0)), .int (iz (0)), .int (iz (1))]) (rest := []) ⟨hx, hb, hml, hown, hts⟩ (c_X12_passes l G x th (.ref am) .null (.ref tb) (.ref lv) (.int (iz (0))) (.ref wt) (.int (iz (0))) (.ref bg) (.ref pm) (.int (iz (0))) 6 false false true  H.size) (cwV 3 hts gX12_accrued_X12_passes rfl rfl rfl (by decide +kernel) ⟨Nat.le_of_ble_eq_true rfl, Nat.le_of_ble_eq_true rfl⟩) (zpV hKX hP hD [0] rfl rfl 0 13 rfl rfl) rfl rfl hl.1 rfl (lv_room (Nat.le_of_ble_eq_true rfl)) dX12_accrued_90 ⟨(by first | exact Nat.le_of_ble_eq_true rfl | (show _ ≤ (0 : Nat); omega)), (by first | exact Nat.le_of_ble_eq_true rfl | (show _ ≤ (0 : Nat); omega))⟩) hP hD hS hA [0] [] rfl rfl rfl (by decide) (fun pz u_5 H locs hp hP hD hS => ?_)
      generalize u_5 = thp at hP hD hp
      have hP : va_P G.1 vwCl [(x, .inr (13, [.int (iz (thp)), .int (iz ((6 : Int))), .ref am, .null, .ref tb, .ref lv, .int (iz (0)), .ref wt, .int (iz (0)), .ref bg, .ref pm, .int (iz (0))]))] H := hP
      have hD : va_D A [(x, .inr (13, [.int (iz (thp)), .int (iz ((6 : Int))), .ref am, .null, .ref tb, .ref lv, .int (iz (0)), .ref wt, .int (iz (0)), .ref bg, .ref pm, .int (iz (0))]))] := hD
      have hp : pz = (false && false && true) ∧ thp = zcode false false true := hp
      rw [show pz = false from hp.1]
      have htp := hp.2
      refine zr_ifz_eq (tgt := 105) hx hb dX12_accrued_93 (by decide) (fun h_7 => ?_) (fun h_7 => ?_)
      ·
        refine lv_lconst (v := lz (0)) hx hb dX12_accrued_105 rfl ?_
        rw [hQ]
        exact zr_lret (z := 0) (u := (thp)) hx hb hr hlocks hP hD hS (by first | exact Nat.le_of_ble_eq_true rfl | omega) (by first | exact Nat.le_of_ble_eq_true rfl | omega) dX12_accrued_106 (show 0 = 0 ∧ thp = 1 from ⟨rfl, htp⟩)
      · exact absurd h_7 (by decide)
    · exact absurd h_4 (by omega)
  ·
    have hzy1 := of_decide_eq_true (hy1.symm.trans h_3)
    refine lv_iload hx hb dX12_accrued_11 (lv_at hl 3 rfl) ?_
    refine zr_i2l hx hb (x := le) (⟨by omega, by omega⟩) dX12_accrued_13 ?_
    refine lv_lconst (v := lz (1)) hx hb dX12_accrued_14 rfl ?_
    refine zr_ldc2 (z := 366) hx hb hown (hts (.constantLong RX12 252 (366)) (by decide +kernel)) rfl dX12_accrued_15 ?_
    refine zc_z (wr := [(x, .inr (13, [.int (iz (th)), .int (iz (6)), .ref am, .null, .ref tb, .ref lv, .int (iz (0)), .ref wt, .int (iz (0)), .ref bg, .ref pm, .int (iz (0))]))]) (va_runS (As := [.long (lz (le)), .long (lz (1)), .long (lz (366))]) (rest := []) ⟨hx, hb, hml, hown, hts⟩ (c_X12_in l G le 1 366 (by omega) (by omega) (by omega) H.size) (va_cwS 3 hts gX12_accrued_X12_in rfl rfl rfl (by decide +kernel) ⟨Nat.le_of_ble_eq_true rfl, Nat.le_of_ble_eq_true rfl⟩) (zpS hKX hP hD [] rfl rfl) rfl rfl hl.1 rfl (lv_room (Nat.le_of_ble_eq_true rfl)) dX12_accrued_18 ⟨(by first | exact Nat.le_of_ble_eq_true rfl | (show _ ≤ (0 : Nat); omega)), (by first | exact Nat.le_of_ble_eq_true rfl | (show _ ≤ (0 : Nat); omega))⟩) hP hD hS hA [] [0] rfl rfl rfl (by decide) (fun y2 u_8 H locs hy2 hP hD hS => ?_)
    have hP : va_P G.1 vwCl [(x, .inr (13, [.int (iz (th)), .int (iz (6)), .ref am, .null, .ref tb, .ref lv, .int (iz (0)), .ref wt, .int (iz (0)), .ref bg, .ref pm, .int (iz (0))]))] H := hP
    have hD : va_D A [(x, .inr (13, [.int (iz (th)), .int (iz (6)), .ref am, .null, .ref tb, .ref lv, .int (iz (0)), .ref wt, .int (iz (0)), .ref bg, .ref pm, .int (iz (0))]))] := hD
    have hy2 : y2 = decide ((1 : Int) ≤ le ∧ le ≤ (366 : Int)) := hy2
    refine zr_ifz_eq (tgt := 40) hx hb dX12_accrued_21 (by decide) (fun h_10 => ?_) (fun h_10 => ?_)
    ·
      have hzy2 := of_decide_eq_false (hy2.symm.trans h_10)
      refine lv_iconst (v := iz (0)) hx hb dX12_accrued_40 rfl ?_
      refine lv_istore (lv' := [(5, .int (iz (0))), (0, .ref x), (1, .long (lz (cp))), (3, .int (iz (da))), (4, .int (iz (le)))]) hx hb dX12_accrued_41 hl (by decide) rfl (fun ls hl => ?_)
      refine lv_iload hx hb dX12_accrued_43 (lv_at hl 0 rfl) ?_
      refine zr_if_eq (x := 0) (tgt := 73) hx hb (⟨by omega, by omega⟩) dX12_accrued_45 (by decide) (fun h_11 => ?_) (fun h_11 => ?_)
      ·
        refine lv_null hx hb dX12_accrued_73 ?_
        refine lv_astoreN (lv' := [(6, .null), (5, .int (iz (0))), (0, .ref x), (1, .long (lz (cp))), (3, .int (iz (da))), (4, .int (iz (le)))]) hx hb dX12_accrued_74 hl (by decide) rfl (fun ls hl => ?_)
        refine lv_aload_n hx hb dX12_accrued_76 rfl (lv_at hl 2 rfl) ?_
        refine lv_iload hx hb dX12_accrued_77 (lv_at hl 1 rfl) ?_
        refine lv_aloadN hx hb dX12_accrued_79 (lv_at hl 0 rfl) ?_
        refine lv_ifnullN (tgt := 88) hx hb dX12_accrued_81 (by decide) ?_
        refine lv_iconst (v := iz (0)) hx hb dX12_accrued_88 rfl ?_
        refine lv_iconst (v := iz (1)) hx hb dX12_accrued_89 rfl ?_
        refine zc_z (wr := []) (va_runV (As := [.int (iz (0)), .int (iz (0)), .int (iz (1))]) (rest := []) ⟨hx, hb, hml, hown, hts⟩ (c_X12_passes l G x th (.ref am) .null (.ref tb) (.ref lv) (.int (iz (0))) (.ref wt) (.int (iz (0))) (.ref bg) (.ref pm) (.int (iz (0))) 6 false false true  H.size) (cwV 3 hts gX12_accrued_X12_passes rfl rfl rfl (by decide +kernel) ⟨Nat.le_of_ble_eq_true rfl, Nat.le_of_ble_eq_true rfl⟩) (zpV hKX hP hD [0] rfl rfl 0 13 rfl rfl) rfl rfl hl.1 rfl (lv_room (Nat.le_of_ble_eq_true rfl)) dX12_accrued_90 ⟨(by first | exact Nat.le_of_ble_eq_true rfl | (show _ ≤ (0 : Nat); omega)), (by first | exact Nat.le_of_ble_eq_true rfl | (show _ ≤ (0 : Nat); omega))⟩) hP hD hS hA [0] [] rfl rfl rfl (by decide) (fun pz u_12 H locs hp hP hD hS => ?_)
        generalize u_12 = thp at hP hD hp
        have hP : va_P G.1 vwCl [(x, .inr (13, [.int (iz (thp)), .int (iz ((6 : Int))), .ref am, .null, .ref tb, .ref lv, .int (iz (0)), .ref wt, .int (iz (0)), .ref bg, .ref pm, .int (iz (0))]))] H := hP
        have hD : va_D A [(x, .inr (13, [.int (iz (thp)), .int (iz ((6 : Int))), .ref am, .null, .ref tb, .ref lv, .int (iz (0)), .ref wt, .int (iz (0)), .ref bg, .ref pm, .int (iz (0))]))] := hD
        have hp : pz = (false && false && true) ∧ thp = zcode false false true := hp
        rw [show pz = false from hp.1]
        have htp := hp.2
        refine zr_ifz_eq (tgt := 105) hx hb dX12_accrued_93 (by decide) (fun h_14 => ?_) (fun h_14 => ?_)
        ·
          refine lv_lconst (v := lz (0)) hx hb dX12_accrued_105 rfl ?_
          rw [hQ]
          exact zr_lret (z := 0) (u := (thp)) hx hb hr hlocks hP hD hS (by first | exact Nat.le_of_ble_eq_true rfl | omega) (by first | exact Nat.le_of_ble_eq_true rfl | omega) dX12_accrued_106 (show 0 = 0 ∧ thp = 1 from ⟨rfl, htp⟩)
        · exact absurd h_14 (by decide)
      · exact absurd h_11 (by omega)
    ·
      have hzy2 := of_decide_eq_true (hy2.symm.trans h_10)
      refine lv_iload_n hx hb dX12_accrued_24 rfl (lv_at hl 2 rfl) ?_
      refine zr_i2l hx hb (x := da) (⟨by omega, by omega⟩) dX12_accrued_25 ?_
      refine lv_lconst (v := lz (0)) hx hb dX12_accrued_26 rfl ?_
      refine lv_iload hx hb dX12_accrued_27 (lv_at hl 3 rfl) ?_
      refine zr_i2l hx hb (x := le) (⟨by omega, by omega⟩) dX12_accrued_29 ?_
      refine zc_z (wr := [(x, .inr (13, [.int (iz (th)), .int (iz (6)), .ref am, .null, .ref tb, .ref lv, .int (iz (0)), .ref wt, .int (iz (0)), .ref bg, .ref pm, .int (iz (0))]))]) (va_runS (As := [.long (lz (da)), .long (lz (0)), .long (lz (le))]) (rest := []) ⟨hx, hb, hml, hown, hts⟩ (c_X12_in l G da 0 le (by omega) (by omega) (by omega) H.size) (va_cwS 3 hts gX12_accrued_X12_in rfl rfl rfl (by decide +kernel) ⟨Nat.le_of_ble_eq_true rfl, Nat.le_of_ble_eq_true rfl⟩) (zpS hKX hP hD [] rfl rfl) rfl rfl hl.1 rfl (lv_room (Nat.le_of_ble_eq_true rfl)) dX12_accrued_30 ⟨(by first | exact Nat.le_of_ble_eq_true rfl | (show _ ≤ (0 : Nat); omega)), (by first | exact Nat.le_of_ble_eq_true rfl | (show _ ≤ (0 : Nat); omega))⟩) hP hD hS hA [] [0] rfl rfl rfl (by decide) (fun y3 u_15 H locs hy3 hP hD hS => ?_)
      have hP : va_P G.1 vwCl [(x, .inr (13, [.int (iz (th)), .int (iz (6)), .ref am, .null, .ref tb, .ref lv, .int (iz (0)), .ref wt, .int (iz (0)), .ref bg, .ref pm, .int (iz (0))]))] H := hP
      have hD : va_D A [(x, .inr (13, [.int (iz (th)), .int (iz (6)), .ref am, .null, .ref tb, .ref lv, .int (iz (0)), .ref wt, .int (iz (0)), .ref bg, .ref pm, .int (iz (0))]))] := hD
      have hy3 : y3 = decide ((0 : Int) ≤ da ∧ da ≤ le) := hy3
      refine zr_ifz_eq (tgt := 40) hx hb dX12_accrued_33 (by decide) (fun h_17 => ?_) (fun h_17 => ?_)
      ·
        have hzy3 := of_decide_eq_false (hy3.symm.trans h_17)
        refine lv_iconst (v := iz (0)) hx hb dX12_accrued_40 rfl ?_
        refine lv_istore (lv' := [(5, .int (iz (0))), (0, .ref x), (1, .long (lz (cp))), (3, .int (iz (da))), (4, .int (iz (le)))]) hx hb dX12_accrued_41 hl (by decide) rfl (fun ls hl => ?_)
        refine lv_iload hx hb dX12_accrued_43 (lv_at hl 0 rfl) ?_
        refine zr_if_eq (x := 0) (tgt := 73) hx hb (⟨by omega, by omega⟩) dX12_accrued_45 (by decide) (fun h_18 => ?_) (fun h_18 => ?_)
        ·
          refine lv_null hx hb dX12_accrued_73 ?_
          refine lv_astoreN (lv' := [(6, .null), (5, .int (iz (0))), (0, .ref x), (1, .long (lz (cp))), (3, .int (iz (da))), (4, .int (iz (le)))]) hx hb dX12_accrued_74 hl (by decide) rfl (fun ls hl => ?_)
          refine lv_aload_n hx hb dX12_accrued_76 rfl (lv_at hl 2 rfl) ?_
          refine lv_iload hx hb dX12_accrued_77 (lv_at hl 1 rfl) ?_
          refine lv_aloadN hx hb dX12_accrued_79 (lv_at hl 0 rfl) ?_
          refine lv_ifnullN (tgt := 88) hx hb dX12_accrued_81 (by decide) ?_
          refine lv_iconst (v := iz (0)) hx hb dX12_accrued_88 rfl ?_
          refine lv_iconst (v := iz (1)) hx hb dX12_accrued_89 rfl ?_
          refine zc_z (wr := []) (va_runV (As := [.int (iz (0)), .int (iz (0)), .int (iz (1))]) (rest := []) ⟨hx, hb, hml, hown, hts⟩ (c_X12_passes l G x th (.ref am) .null (.ref tb) (.ref lv) (.int (iz (0))) (.ref wt) (.int (iz (0))) (.ref bg) (.ref pm) (.int (iz (0))) 6 false false true  H.size) (cwV 3 hts gX12_accrued_X12_passes rfl rfl rfl (by decide +kernel) ⟨Nat.le_of_ble_eq_true rfl, Nat.le_of_ble_eq_true rfl⟩) (zpV hKX hP hD [0] rfl rfl 0 13 rfl rfl) rfl rfl hl.1 rfl (lv_room (Nat.le_of_ble_eq_true rfl)) dX12_accrued_90 ⟨(by first | exact Nat.le_of_ble_eq_true rfl | (show _ ≤ (0 : Nat); omega)), (by first | exact Nat.le_of_ble_eq_true rfl | (show _ ≤ (0 : Nat); omega))⟩) hP hD hS hA [0] [] rfl rfl rfl (by decide) (fun pz u_19 H locs hp hP hD hS => ?_)
          generalize u_19 = thp at hP hD hp
          have hP : va_P G.1 vwCl [(x, .inr (13, [.int (iz (thp)), .int (iz ((6 : Int))), .ref am, .null, .ref tb, .ref lv, .int (iz (0)), .ref wt, .int (iz (0)), .ref bg, .ref pm, .int (iz (0))]))] H := hP
          have hD : va_D A [(x, .inr (13, [.int (iz (thp)), .int (iz ((6 : Int))), .ref am, .null, .ref tb, .ref lv, .int (iz (0)), .ref wt, .int (iz (0)), .ref bg, .ref pm, .int (iz (0))]))] := hD
          have hp : pz = (false && false && true) ∧ thp = zcode false false true := hp
          rw [show pz = false from hp.1]
          have htp := hp.2
          refine zr_ifz_eq (tgt := 105) hx hb dX12_accrued_93 (by decide) (fun h_21 => ?_) (fun h_21 => ?_)
          ·
            refine lv_lconst (v := lz (0)) hx hb dX12_accrued_105 rfl ?_
            rw [hQ]
            exact zr_lret (z := 0) (u := (thp)) hx hb hr hlocks hP hD hS (by first | exact Nat.le_of_ble_eq_true rfl | omega) (by first | exact Nat.le_of_ble_eq_true rfl | omega) dX12_accrued_106 (show 0 = 0 ∧ thp = 1 from ⟨rfl, htp⟩)
          · exact absurd h_21 (by decide)
        · exact absurd h_18 (by omega)
      ·
        have hzy3 := of_decide_eq_true (hy3.symm.trans h_17)
        exact absurd h1 (by omega)

def rm_c_X12_live_o : Room := { frames := 1, cells := 0, slots := 0, locals := 25 }
theorem iw_X12_live_X12 : ∀ w ∈ wsX120, w ∈ wsX12_live := by decide +kernel
set_option maxHeartbeats 1000000 in
set_option maxRecDepth 100000 in
theorem c_X12_live_o (l : Launch) (G : zG) (x : Nat) (am : Nat) (tb : Nat) (lv : Nat) (wt : Nat) (bg : Nat) (pm : Nat) (th : Int) (le : Int) (h0 : -2147483648 ≤ le ∧ le < 2147483648) (h1 : 1 ≤ le ∧ le ≤ 1000000) : zM l G yX12_live wsX12_live rm_c_X12_live_o [.ref x, .int (iz (le))] [(x, .inr (13, [.int (iz (th)), .int (iz (6)), .ref am, .null, .ref tb, .ref lv, .int (iz (0)), .ref wt, .int (iz (0)), .ref bg, .ref pm, .int (iz (0))])), (lv, zaI (G.2 1) 31 (fun _ => 0))] (fun A => zQi G (fun (z : Int) (th2 : Int) => z = 1 ∧ th2 = 0) (fun (th2 : Int) => [(x, .inr (13, [.int (iz (th2)), .int (iz (6)), .ref am, .null, .ref tb, .ref lv, .int (iz (0 + 1)), .ref wt, .int (iz (0)), .ref bg, .ref pm, .int (iz (0))]))]) A) 0 0 := by
  refine zM_of (cc := cX12_live) (maxL := 2) (ret := (some .int)) (by decide) rfl (Nat.le_of_ble_eq_true rfl) ?_
  intro p e s m below meth c ls A Q hQ hx hb hr hts hown hlocks hml hnm hKX hP hD hA hS hl
  have hK := hKX.1
  have iwX12 := iw_X12_live_X12
  obtain ⟨H, hH⟩ : ∃ h, h = s.heap := ⟨_, rfl⟩
  obtain ⟨locs, hlo⟩ : ∃ h : List Loc, h = [] := ⟨_, rfl⟩
  have hS : va_S A s.heap H locs := by rw [hH, hlo]; exact hS
  have hP : va_P G.1 vwCl [(x, .inr (13, [.int (iz (th)), .int (iz (6)), .ref am, .null, .ref tb, .ref lv, .int (iz (0)), .ref wt, .int (iz (0)), .ref bg, .ref pm, .int (iz (0))])), (lv, zaI (G.2 1) 31 (fun _ => 0))] H := by rw [hH]; exact hP
  have hD : va_D A [(x, .inr (13, [.int (iz (th)), .int (iz (6)), .ref am, .null, .ref tb, .ref lv, .int (iz (0)), .ref wt, .int (iz (0)), .ref bg, .ref pm, .int (iz (0))])), (lv, zaI (G.2 1) 31 (fun _ => 0))] := hD
  have hl : lv_has ls 2 [(0, .ref x), (1, .int (iz (le)))] := hl
  rw [← hH, ← hlo]
  refine lv_aload_n hx hb dX12_live_0 rfl (lv_at hl 0 rfl) ?_
  refine lv_iload_n hx hb dX12_live_1 rfl (lv_at hl 1 rfl) ?_
  refine zr_i2l hx hb (x := le) (⟨by omega, by omega⟩) dX12_live_2 ?_
  refine lv_lconst (v := lz (1)) hx hb dX12_live_3 rfl ?_
  refine lv_aload_n hx hb dX12_live_4 rfl (lv_at hl 0 rfl) ?_
  refine va_get (D := G.1) (ci := 13) (v := .int (iz (0))) (C := RX12) (T := TX12) (N := 12) hx hb hts iwX12 hown hK hP 0 rfl rfl 6 (by decide) (hts (.fieldLink RX12 254 "AnnuityHouseModel" "ages" "I") (by decide +kernel)) (fun _ h9 => h9) rfl dX12_live_5 ?_
  refine zr_if_ne (x := 0) (tgt := 17) hx hb (⟨by omega, by omega⟩) dX12_live_8 (by decide) (fun h_1 => ?_) (fun h_1 => ?_)
  · exact absurd h_1 (by omega)
  ·
    refine zr_ldc2 (z := 1000000) hx hb hown (hts (.constantLong RX12 135 (1000000)) (by decide +kernel)) rfl dX12_live_11 ?_
    refine lv_goto (tgt := 29) hx hb dX12_live_14 (by decide) ?_
    refine zc_z (wr := [(x, .inr (13, [.int (iz (th)), .int (iz (6)), .ref am, .null, .ref tb, .ref lv, .int (iz (0)), .ref wt, .int (iz (0)), .ref bg, .ref pm, .int (iz (0))])), (lv, zaI (G.2 1) 31 (fun _ => 0))]) (va_runS (As := [.long (lz (le)), .long (lz (1)), .long (lz (1000000))]) (rest := [.ref x]) ⟨hx, hb, hml, hown, hts⟩ (c_X12_in l G le 1 1000000 (by omega) (by omega) (by omega) H.size) (va_cwS 3 hts gX12_live_X12_in rfl rfl rfl (by decide +kernel) ⟨Nat.le_of_ble_eq_true rfl, Nat.le_of_ble_eq_true rfl⟩) (zpS hKX hP hD [] rfl rfl) rfl rfl hl.1 rfl (lv_room (Nat.le_of_ble_eq_true rfl)) dX12_live_29 ⟨(by first | exact Nat.le_of_ble_eq_true rfl | (show _ ≤ (0 : Nat); omega)), (by first | exact Nat.le_of_ble_eq_true rfl | (show _ ≤ (0 : Nat); omega))⟩) hP hD hS hA [] [0, 1] rfl rfl rfl (by decide) (fun y1 u_2 H locs hy1 hP hD hS => ?_)
    have hP : va_P G.1 vwCl [(x, .inr (13, [.int (iz (th)), .int (iz (6)), .ref am, .null, .ref tb, .ref lv, .int (iz (0)), .ref wt, .int (iz (0)), .ref bg, .ref pm, .int (iz (0))])), (lv, zaI (G.2 1) 31 (fun _ => 0))] H := hP
    have hD : va_D A [(x, .inr (13, [.int (iz (th)), .int (iz (6)), .ref am, .null, .ref tb, .ref lv, .int (iz (0)), .ref wt, .int (iz (0)), .ref bg, .ref pm, .int (iz (0))])), (lv, zaI (G.2 1) 31 (fun _ => 0))] := hD
    have hy1 : y1 = decide ((1 : Int) ≤ le ∧ le ≤ (1000000 : Int)) := hy1
    rw [show y1 = true from hy1.trans (decide_eq_true (by omega))]
    refine lv_aload_n hx hb dX12_live_32 rfl (lv_at hl 0 rfl) ?_
    refine va_get (D := G.1) (ci := 13) (v := .int (iz (0))) (C := RX12) (T := TX12) (N := 12) hx hb hts iwX12 hown hK hP 0 rfl rfl 6 (by decide) (hts (.fieldLink RX12 254 "AnnuityHouseModel" "ages" "I") (by decide +kernel)) (fun _ h9 => h9) rfl dX12_live_33 ?_
    refine lv_bipush (v := iz (30)) hx hb dX12_live_36 rfl ?_
    refine zr_icmp_ge (x := 0) (y := 30) (tgt := 45) hx hb (⟨by omega, by omega⟩) (⟨by omega, by omega⟩) dX12_live_38 (by decide) (fun h_4 => ?_) (fun h_4 => ?_)
    · exact absurd h_4 (by omega)
    ·
      refine lv_iconst (v := iz (1)) hx hb dX12_live_41 rfl ?_
      refine lv_goto (tgt := 46) hx hb dX12_live_42 (by decide) ?_
      refine lv_iconst (v := iz (1)) hx hb dX12_live_46 rfl ?_
      refine zc_z (wr := [(lv, zaI (G.2 1) 31 (fun _ => 0))]) (va_runV (As := [.int (iz (zbb true)), .int (iz (1)), .int (iz (1))]) (rest := []) ⟨hx, hb, hml, hown, hts⟩ (c_X12_passes l G x th (.ref am) .null (.ref tb) (.ref lv) (.int (iz (0))) (.ref wt) (.int (iz (0))) (.ref bg) (.ref pm) (.int (iz (0))) 6 true true true  H.size) (cwV 3 hts gX12_live_X12_passes rfl rfl rfl (by decide +kernel) ⟨Nat.le_of_ble_eq_true rfl, Nat.le_of_ble_eq_true rfl⟩) (zpV hKX hP hD [0] rfl rfl 0 13 rfl rfl) rfl rfl hl.1 rfl (lv_room (Nat.le_of_ble_eq_true rfl)) dX12_live_47 ⟨(by first | exact Nat.le_of_ble_eq_true rfl | (show _ ≤ (0 : Nat); omega)), (by first | exact Nat.le_of_ble_eq_true rfl | (show _ ≤ (0 : Nat); omega))⟩) hP hD hS hA [0] [1] rfl rfl rfl (by decide) (fun pz u_5 H locs hp hP hD hS => ?_)
      generalize u_5 = thp at hP hD hp
      have hP : va_P G.1 vwCl [(lv, zaI (G.2 1) 31 (fun _ => 0)), (x, .inr (13, [.int (iz (thp)), .int (iz ((6 : Int))), .ref am, .null, .ref tb, .ref lv, .int (iz (0)), .ref wt, .int (iz (0)), .ref bg, .ref pm, .int (iz (0))]))] H := hP
      have hD : va_D A [(lv, zaI (G.2 1) 31 (fun _ => 0)), (x, .inr (13, [.int (iz (thp)), .int (iz ((6 : Int))), .ref am, .null, .ref tb, .ref lv, .int (iz (0)), .ref wt, .int (iz (0)), .ref bg, .ref pm, .int (iz (0))]))] := hD
      have hp : pz = (true && true && true) ∧ thp = zcode true true true := hp
      rw [show pz = true from hp.1]
      have htp := hp.2
      refine zr_ifz_ne (tgt := 55) hx hb dX12_live_50 (by decide) (fun h_7 => ?_) (fun h_7 => ?_)
      ·
        refine lv_aload_n hx hb dX12_live_55 rfl (lv_at hl 0 rfl) ?_
        refine va_get (D := G.1) (ci := 13) (v := .ref lv) (C := RX12) (T := TX12) (N := 12) hx hb hts iwX12 hown hK hP 1 rfl rfl 5 (by decide) (hts (.fieldLink RX12 76 "AnnuityHouseModel" "lives" "[I") (by decide +kernel)) (fun _ h9 => h9) rfl dX12_live_56 ?_
        refine lv_aload_n hx hb dX12_live_59 rfl (lv_at hl 0 rfl) ?_
        refine va_get (D := G.1) (ci := 13) (v := .int (iz (0))) (C := RX12) (T := TX12) (N := 12) hx hb hts iwX12 hown hK hP 1 rfl rfl 6 (by decide) (hts (.fieldLink RX12 254 "AnnuityHouseModel" "ages" "I") (by decide +kernel)) (fun _ h9 => h9) rfl dX12_live_60 ?_
        refine lv_iload_n hx hb dX12_live_63 rfl (lv_at hl 1 rfl) ?_
        refine zr_iast hx hb hK hP hD hS 0 1 rfl rfl (i := 0) (x := le) (⟨by omega, by omega, by omega⟩) dX12_live_64 (fun H locs hP hD hS => ?_)
        have hP : va_P G.1 vwCl [(lv, zaI (G.2 1) 31 (zup (fun _ => 0) 0 le)), (x, .inr (13, [.int (iz (thp)), .int (iz ((6 : Int))), .ref am, .null, .ref tb, .ref lv, .int (iz (0)), .ref wt, .int (iz (0)), .ref bg, .ref pm, .int (iz (0))]))] H := hP
        have hD : va_D A [(lv, zaI (G.2 1) 31 (zup (fun _ => 0) 0 le)), (x, .inr (13, [.int (iz (thp)), .int (iz ((6 : Int))), .ref am, .null, .ref tb, .ref lv, .int (iz (0)), .ref wt, .int (iz (0)), .ref bg, .ref pm, .int (iz (0))]))] := hD
        refine lv_aload_n hx hb dX12_live_65 rfl (lv_at hl 0 rfl) ?_
        refine lv_dup hx hb dX12_live_66 rfl ?_
        refine va_get (D := G.1) (ci := 13) (v := .int (iz (0))) (C := RX12) (T := TX12) (N := 12) hx hb hts iwX12 hown hK hP 1 rfl rfl 6 (by decide) (hts (.fieldLink RX12 254 "AnnuityHouseModel" "ages" "I") (by decide +kernel)) (fun _ h9 => h9) rfl dX12_live_67 ?_
        refine lv_iconst (v := iz (1)) hx hb dX12_live_70 rfl ?_
        refine zr_iadd hx hb dX12_live_71 ?_
        refine va_put (D := G.1) (ci := 13) (v := .int (iz (0 + 1))) (ty := .int) (C := RX12) (T := TX12) (N := 12) hx hb hts iwX12 tyX12 tyX12_ok nmX12 hown hK hP hD hS 1 rfl rfl 6 (by decide) (hts (.fieldLink RX12 254 "AnnuityHouseModel" "ages" "I") (by decide +kernel)) (fun _ h9 => h9) rfl (by decide +kernel) rfl rfl (Nat.le_of_ble_eq_true rfl) dX12_live_72 (fun H locs hP hD hS => ?_)
        have hP : va_P G.1 vwCl [(lv, zaI (G.2 1) 31 (zup (fun _ => 0) 0 le)), (x, .inr (13, [.int (iz (thp)), .int (iz ((6 : Int))), .ref am, .null, .ref tb, .ref lv, .int (iz (0 + 1)), .ref wt, .int (iz (0)), .ref bg, .ref pm, .int (iz (0))]))] H := hP
        have hD : va_D A [(lv, zaI (G.2 1) 31 (zup (fun _ => 0) 0 le)), (x, .inr (13, [.int (iz (thp)), .int (iz ((6 : Int))), .ref am, .null, .ref tb, .ref lv, .int (iz (0 + 1)), .ref wt, .int (iz (0)), .ref bg, .ref pm, .int (iz (0))]))] := hD
        refine lv_aload_n hx hb dX12_live_75 rfl (lv_at hl 0 rfl) ?_
        refine va_get (D := G.1) (ci := 13) (v := .int (iz (0 + 1))) (C := RX12) (T := TX12) (N := 12) hx hb hts iwX12 hown hK hP 1 rfl rfl 6 (by decide) (hts (.fieldLink RX12 254 "AnnuityHouseModel" "ages" "I") (by decide +kernel)) (fun _ h9 => h9) rfl dX12_live_76 ?_
        rw [hQ]
        exact zr_iret (z := 0 + 1) (u := (thp)) hx hb hr hlocks (hP.sub [1] rfl) (hD.sub [1] (by decide) rfl) hS (by first | exact Nat.le_of_ble_eq_true rfl | omega) (by first | exact Nat.le_of_ble_eq_true rfl | omega) dX12_live_79 (show (0 + 1) = 1 ∧ thp = 0 from ⟨rfl, htp⟩)
      · exact absurd h_7 (by decide)

def rm_c_X12_live_x : Room := { frames := 1, cells := 0, slots := 0, locals := 25 }
set_option maxHeartbeats 1000000 in
set_option maxRecDepth 100000 in
theorem c_X12_live_x (l : Launch) (G : zG) (x : Nat) (am : Nat) (tb : Nat) (lv : Nat) (wt : Nat) (bg : Nat) (pm : Nat) (th : Int) (le : Int) (h0 : -2147483648 ≤ le ∧ le < 2147483648) (h1 : ¬ (1 ≤ le ∧ le ≤ 1000000)) : zM l G yX12_live wsX12_live rm_c_X12_live_x [.ref x, .int (iz (le))] [(x, .inr (13, [.int (iz (th)), .int (iz (6)), .ref am, .null, .ref tb, .ref lv, .int (iz (0)), .ref wt, .int (iz (0)), .ref bg, .ref pm, .int (iz (0))])), (lv, zaI (G.2 1) 31 (fun _ => 0))] (fun A => zQi G (fun (z : Int) (th2 : Int) => z = 0 ∧ th2 = 1) (fun (th2 : Int) => [(x, .inr (13, [.int (iz (th2)), .int (iz (6)), .ref am, .null, .ref tb, .ref lv, .int (iz (0)), .ref wt, .int (iz (0)), .ref bg, .ref pm, .int (iz (0))]))]) A) 0 0 := by
  refine zM_of (cc := cX12_live) (maxL := 2) (ret := (some .int)) (by decide) rfl (Nat.le_of_ble_eq_true rfl) ?_
  intro p e s m below meth c ls A Q hQ hx hb hr hts hown hlocks hml hnm hKX hP hD hA hS hl
  have hK := hKX.1
  have iwX12 := iw_X12_live_X12
  obtain ⟨H, hH⟩ : ∃ h, h = s.heap := ⟨_, rfl⟩
  obtain ⟨locs, hlo⟩ : ∃ h : List Loc, h = [] := ⟨_, rfl⟩
  have hS : va_S A s.heap H locs := by rw [hH, hlo]; exact hS
  have hP : va_P G.1 vwCl [(x, .inr (13, [.int (iz (th)), .int (iz (6)), .ref am, .null, .ref tb, .ref lv, .int (iz (0)), .ref wt, .int (iz (0)), .ref bg, .ref pm, .int (iz (0))])), (lv, zaI (G.2 1) 31 (fun _ => 0))] H := by rw [hH]; exact hP
  have hD : va_D A [(x, .inr (13, [.int (iz (th)), .int (iz (6)), .ref am, .null, .ref tb, .ref lv, .int (iz (0)), .ref wt, .int (iz (0)), .ref bg, .ref pm, .int (iz (0))])), (lv, zaI (G.2 1) 31 (fun _ => 0))] := hD
  have hl : lv_has ls 2 [(0, .ref x), (1, .int (iz (le)))] := hl
  rw [← hH, ← hlo]
  refine lv_aload_n hx hb dX12_live_0 rfl (lv_at hl 0 rfl) ?_
  refine lv_iload_n hx hb dX12_live_1 rfl (lv_at hl 1 rfl) ?_
  refine zr_i2l hx hb (x := le) (⟨by omega, by omega⟩) dX12_live_2 ?_
  refine lv_lconst (v := lz (1)) hx hb dX12_live_3 rfl ?_
  refine lv_aload_n hx hb dX12_live_4 rfl (lv_at hl 0 rfl) ?_
  refine va_get (D := G.1) (ci := 13) (v := .int (iz (0))) (C := RX12) (T := TX12) (N := 12) hx hb hts iwX12 hown hK hP 0 rfl rfl 6 (by decide) (hts (.fieldLink RX12 254 "AnnuityHouseModel" "ages" "I") (by decide +kernel)) (fun _ h9 => h9) rfl dX12_live_5 ?_
  refine zr_if_ne (x := 0) (tgt := 17) hx hb (⟨by omega, by omega⟩) dX12_live_8 (by decide) (fun h_1 => ?_) (fun h_1 => ?_)
  · exact absurd h_1 (by omega)
  ·
    refine zr_ldc2 (z := 1000000) hx hb hown (hts (.constantLong RX12 135 (1000000)) (by decide +kernel)) rfl dX12_live_11 ?_
    refine lv_goto (tgt := 29) hx hb dX12_live_14 (by decide) ?_
    refine zc_z (wr := [(x, .inr (13, [.int (iz (th)), .int (iz (6)), .ref am, .null, .ref tb, .ref lv, .int (iz (0)), .ref wt, .int (iz (0)), .ref bg, .ref pm, .int (iz (0))])), (lv, zaI (G.2 1) 31 (fun _ => 0))]) (va_runS (As := [.long (lz (le)), .long (lz (1)), .long (lz (1000000))]) (rest := [.ref x]) ⟨hx, hb, hml, hown, hts⟩ (c_X12_in l G le 1 1000000 (by omega) (by omega) (by omega) H.size) (va_cwS 3 hts gX12_live_X12_in rfl rfl rfl (by decide +kernel) ⟨Nat.le_of_ble_eq_true rfl, Nat.le_of_ble_eq_true rfl⟩) (zpS hKX hP hD [] rfl rfl) rfl rfl hl.1 rfl (lv_room (Nat.le_of_ble_eq_true rfl)) dX12_live_29 ⟨(by first | exact Nat.le_of_ble_eq_true rfl | (show _ ≤ (0 : Nat); omega)), (by first | exact Nat.le_of_ble_eq_true rfl | (show _ ≤ (0 : Nat); omega))⟩) hP hD hS hA [] [0, 1] rfl rfl rfl (by decide) (fun y1 u_2 H locs hy1 hP hD hS => ?_)
    have hP : va_P G.1 vwCl [(x, .inr (13, [.int (iz (th)), .int (iz (6)), .ref am, .null, .ref tb, .ref lv, .int (iz (0)), .ref wt, .int (iz (0)), .ref bg, .ref pm, .int (iz (0))])), (lv, zaI (G.2 1) 31 (fun _ => 0))] H := hP
    have hD : va_D A [(x, .inr (13, [.int (iz (th)), .int (iz (6)), .ref am, .null, .ref tb, .ref lv, .int (iz (0)), .ref wt, .int (iz (0)), .ref bg, .ref pm, .int (iz (0))])), (lv, zaI (G.2 1) 31 (fun _ => 0))] := hD
    have hy1 : y1 = decide ((1 : Int) ≤ le ∧ le ≤ (1000000 : Int)) := hy1
    rw [show y1 = false from hy1.trans (decide_eq_false (by omega))]
    refine lv_aload_n hx hb dX12_live_32 rfl (lv_at hl 0 rfl) ?_
    refine va_get (D := G.1) (ci := 13) (v := .int (iz (0))) (C := RX12) (T := TX12) (N := 12) hx hb hts iwX12 hown hK hP 0 rfl rfl 6 (by decide) (hts (.fieldLink RX12 254 "AnnuityHouseModel" "ages" "I") (by decide +kernel)) (fun _ h9 => h9) rfl dX12_live_33 ?_
    refine lv_bipush (v := iz (30)) hx hb dX12_live_36 rfl ?_
    refine zr_icmp_ge (x := 0) (y := 30) (tgt := 45) hx hb (⟨by omega, by omega⟩) (⟨by omega, by omega⟩) dX12_live_38 (by decide) (fun h_4 => ?_) (fun h_4 => ?_)
    · exact absurd h_4 (by omega)
    ·
      refine lv_iconst (v := iz (1)) hx hb dX12_live_41 rfl ?_
      refine lv_goto (tgt := 46) hx hb dX12_live_42 (by decide) ?_
      refine lv_iconst (v := iz (1)) hx hb dX12_live_46 rfl ?_
      refine zc_z (wr := [(lv, zaI (G.2 1) 31 (fun _ => 0))]) (va_runV (As := [.int (iz (zbb false)), .int (iz (1)), .int (iz (1))]) (rest := []) ⟨hx, hb, hml, hown, hts⟩ (c_X12_passes l G x th (.ref am) .null (.ref tb) (.ref lv) (.int (iz (0))) (.ref wt) (.int (iz (0))) (.ref bg) (.ref pm) (.int (iz (0))) 6 false true true  H.size) (cwV 3 hts gX12_live_X12_passes rfl rfl rfl (by decide +kernel) ⟨Nat.le_of_ble_eq_true rfl, Nat.le_of_ble_eq_true rfl⟩) (zpV hKX hP hD [0] rfl rfl 0 13 rfl rfl) rfl rfl hl.1 rfl (lv_room (Nat.le_of_ble_eq_true rfl)) dX12_live_47 ⟨(by first | exact Nat.le_of_ble_eq_true rfl | (show _ ≤ (0 : Nat); omega)), (by first | exact Nat.le_of_ble_eq_true rfl | (show _ ≤ (0 : Nat); omega))⟩) hP hD hS hA [0] [1] rfl rfl rfl (by decide) (fun pz u_5 H locs hp hP hD hS => ?_)
      generalize u_5 = thp at hP hD hp
      have hP : va_P G.1 vwCl [(lv, zaI (G.2 1) 31 (fun _ => 0)), (x, .inr (13, [.int (iz (thp)), .int (iz ((6 : Int))), .ref am, .null, .ref tb, .ref lv, .int (iz (0)), .ref wt, .int (iz (0)), .ref bg, .ref pm, .int (iz (0))]))] H := hP
      have hD : va_D A [(lv, zaI (G.2 1) 31 (fun _ => 0)), (x, .inr (13, [.int (iz (thp)), .int (iz ((6 : Int))), .ref am, .null, .ref tb, .ref lv, .int (iz (0)), .ref wt, .int (iz (0)), .ref bg, .ref pm, .int (iz (0))]))] := hD
      have hp : pz = (false && true && true) ∧ thp = zcode false true true := hp
      rw [show pz = false from hp.1]
      have htp := hp.2
      refine zr_ifz_ne (tgt := 55) hx hb dX12_live_50 (by decide) (fun h_7 => ?_) (fun h_7 => ?_)
      · exact absurd h_7 (by decide)
      ·
        refine lv_iconst (v := iz (0)) hx hb dX12_live_53 rfl ?_
        rw [hQ]
        exact zr_iret (z := 0) (u := (thp)) hx hb hr hlocks (hP.sub [1] rfl) (hD.sub [1] (by decide) rfl) hS (by first | exact Nat.le_of_ble_eq_true rfl | omega) (by first | exact Nat.le_of_ble_eq_true rfl | omega) dX12_live_54 (show 0 = 0 ∧ thp = 1 from ⟨rfl, htp⟩)

def rm_c_X12_clearLives : Room := { frames := 0, cells := 0, slots := 0, locals := 0 }
theorem iw_X12_clearLives_X12 : ∀ w ∈ wsX120, w ∈ wsX12_clearLives := by decide +kernel
set_option maxHeartbeats 1000000 in
set_option maxRecDepth 100000 in
theorem c_X12_clearLives (l : Launch) (G : zG) (x : Nat) (am : Nat) (tb : Nat) (lv : Nat) (wt : Nat) (bg : Nat) (pm : Nat) (th : Int)  : zM l G yX12_clearLives wsX12_clearLives rm_c_X12_clearLives [.ref x] [(x, .inr (13, [.int (iz (th)), .int (iz (6)), .ref am, .null, .ref tb, .ref lv, .int (iz (0)), .ref wt, .int (iz (0)), .ref bg, .ref pm, .int (iz (0))]))] (fun A => zQi G (fun (z : Int) (th2 : Int) => z = 0 ∧ th2 = 0) (fun (th2 : Int) => [(x, .inr (13, [.int (iz (th2)), .int (iz (6)), .ref am, .null, .ref tb, .ref lv, .int (iz (0)), .ref wt, .int (iz (0)), .ref bg, .ref pm, .int (iz (0))]))]) A) 0 0 := by
  refine zM_of (cc := cX12_clearLives) (maxL := 2) (ret := (some .int)) (by decide) rfl (Nat.le_of_ble_eq_true rfl) ?_
  intro p e s m below meth c ls A Q hQ hx hb hr hts hown hlocks hml hnm hKX hP hD hA hS hl
  have hK := hKX.1
  have iwX12 := iw_X12_clearLives_X12
  obtain ⟨H, hH⟩ : ∃ h, h = s.heap := ⟨_, rfl⟩
  obtain ⟨locs, hlo⟩ : ∃ h : List Loc, h = [] := ⟨_, rfl⟩
  have hS : va_S A s.heap H locs := by rw [hH, hlo]; exact hS
  have hP : va_P G.1 vwCl [(x, .inr (13, [.int (iz (th)), .int (iz (6)), .ref am, .null, .ref tb, .ref lv, .int (iz (0)), .ref wt, .int (iz (0)), .ref bg, .ref pm, .int (iz (0))]))] H := by rw [hH]; exact hP
  have hD : va_D A [(x, .inr (13, [.int (iz (th)), .int (iz (6)), .ref am, .null, .ref tb, .ref lv, .int (iz (0)), .ref wt, .int (iz (0)), .ref bg, .ref pm, .int (iz (0))]))] := hD
  have hl : lv_has ls 2 [(0, .ref x)] := hl
  rw [← hH, ← hlo]
  refine lv_aload_n hx hb dX12_clearLives_0 rfl (lv_at hl 0 rfl) ?_
  refine lv_iconst (v := iz (0)) hx hb dX12_clearLives_1 rfl ?_
  refine va_put (D := G.1) (ci := 13) (v := .int (iz (0))) (ty := .int) (C := RX12) (T := TX12) (N := 12) hx hb hts iwX12 tyX12 tyX12_ok nmX12 hown hK hP hD hS 0 rfl rfl 0 (by decide) (hts (.fieldLink RX12 1 "AnnuityHouseModel" "thrown" "I") (by decide +kernel)) (fun _ h9 => h9) rfl (by decide +kernel) rfl rfl (Nat.le_of_ble_eq_true rfl) dX12_clearLives_2 (fun H locs hP hD hS => ?_)
  have hP : va_P G.1 vwCl [(x, .inr (13, [.int (iz (0)), .int (iz (6)), .ref am, .null, .ref tb, .ref lv, .int (iz (0)), .ref wt, .int (iz (0)), .ref bg, .ref pm, .int (iz (0))]))] H := hP
  have hD : va_D A [(x, .inr (13, [.int (iz (0)), .int (iz (6)), .ref am, .null, .ref tb, .ref lv, .int (iz (0)), .ref wt, .int (iz (0)), .ref bg, .ref pm, .int (iz (0))]))] := hD
  refine lv_aload_n hx hb dX12_clearLives_5 rfl (lv_at hl 0 rfl) ?_
  refine va_get (D := G.1) (ci := 13) (v := .int (iz (0))) (C := RX12) (T := TX12) (N := 12) hx hb hts iwX12 hown hK hP 0 rfl rfl 6 (by decide) (hts (.fieldLink RX12 254 "AnnuityHouseModel" "ages" "I") (by decide +kernel)) (fun _ h9 => h9) rfl dX12_clearLives_6 ?_
  refine lv_istore_n (lv' := [(1, .int (iz (0))), (0, .ref x)]) hx hb dX12_clearLives_9 rfl hl (by decide) rfl (fun ls hl => ?_)
  refine lv_aload_n hx hb dX12_clearLives_10 rfl (lv_at hl 1 rfl) ?_
  refine lv_iconst (v := iz (0)) hx hb dX12_clearLives_11 rfl ?_
  refine va_put (D := G.1) (ci := 13) (v := .int (iz (0))) (ty := .int) (C := RX12) (T := TX12) (N := 12) hx hb hts iwX12 tyX12 tyX12_ok nmX12 hown hK hP hD hS 0 rfl rfl 6 (by decide) (hts (.fieldLink RX12 254 "AnnuityHouseModel" "ages" "I") (by decide +kernel)) (fun _ h9 => h9) rfl (by decide +kernel) rfl rfl (Nat.le_of_ble_eq_true rfl) dX12_clearLives_12 (fun H locs hP hD hS => ?_)
  have hP : va_P G.1 vwCl [(x, .inr (13, [.int (iz (0)), .int (iz (6)), .ref am, .null, .ref tb, .ref lv, .int (iz (0)), .ref wt, .int (iz (0)), .ref bg, .ref pm, .int (iz (0))]))] H := hP
  have hD : va_D A [(x, .inr (13, [.int (iz (0)), .int (iz (6)), .ref am, .null, .ref tb, .ref lv, .int (iz (0)), .ref wt, .int (iz (0)), .ref bg, .ref pm, .int (iz (0))]))] := hD
  refine lv_iload_n hx hb dX12_clearLives_15 rfl (lv_at hl 0 rfl) ?_
  rw [hQ]
  exact zr_iret (z := 0) (u := (0)) hx hb hr hlocks hP hD hS (by first | exact Nat.le_of_ble_eq_true rfl | omega) (by first | exact Nat.le_of_ble_eq_true rfl | omega) dX12_clearLives_16 (show 0 = 0 ∧ 0 = 0 from ⟨rfl, rfl⟩)

def rm_c_X12_weigh_o : Room := { frames := 1, cells := 0, slots := 0, locals := 25 }
theorem iw_X12_weigh_X12 : ∀ w ∈ wsX120, w ∈ wsX12_weigh := by decide +kernel
set_option maxHeartbeats 1000000 in
set_option maxRecDepth 100000 in
theorem c_X12_weigh_o (l : Launch) (G : zG) (x : Nat) (am : Nat) (tb : Nat) (lv : Nat) (wt : Nat) (bg : Nat) (pm : Nat) (th : Int) (we : Int) (h0 : -2147483648 ≤ we ∧ we < 2147483648) (h1 : 0 ≤ we ∧ we ≤ 1000000) : zM l G yX12_weigh wsX12_weigh rm_c_X12_weigh_o [.ref x, .int (iz (we))] [(x, .inr (13, [.int (iz (th)), .int (iz (6)), .ref am, .null, .ref tb, .ref lv, .int (iz (0)), .ref wt, .int (iz (0)), .ref bg, .ref pm, .int (iz (0))])), (wt, zaI (G.2 1) 12 (fun _ => 0))] (fun A => zQi G (fun (z : Int) (th2 : Int) => z = 1 ∧ th2 = 0) (fun (th2 : Int) => [(x, .inr (13, [.int (iz (th2)), .int (iz (6)), .ref am, .null, .ref tb, .ref lv, .int (iz (0)), .ref wt, .int (iz (0 + 1)), .ref bg, .ref pm, .int (iz (0))]))]) A) 0 0 := by
  refine zM_of (cc := cX12_weigh) (maxL := 2) (ret := (some .int)) (by decide) rfl (Nat.le_of_ble_eq_true rfl) ?_
  intro p e s m below meth c ls A Q hQ hx hb hr hts hown hlocks hml hnm hKX hP hD hA hS hl
  have hK := hKX.1
  have iwX12 := iw_X12_weigh_X12
  obtain ⟨H, hH⟩ : ∃ h, h = s.heap := ⟨_, rfl⟩
  obtain ⟨locs, hlo⟩ : ∃ h : List Loc, h = [] := ⟨_, rfl⟩
  have hS : va_S A s.heap H locs := by rw [hH, hlo]; exact hS
  have hP : va_P G.1 vwCl [(x, .inr (13, [.int (iz (th)), .int (iz (6)), .ref am, .null, .ref tb, .ref lv, .int (iz (0)), .ref wt, .int (iz (0)), .ref bg, .ref pm, .int (iz (0))])), (wt, zaI (G.2 1) 12 (fun _ => 0))] H := by rw [hH]; exact hP
  have hD : va_D A [(x, .inr (13, [.int (iz (th)), .int (iz (6)), .ref am, .null, .ref tb, .ref lv, .int (iz (0)), .ref wt, .int (iz (0)), .ref bg, .ref pm, .int (iz (0))])), (wt, zaI (G.2 1) 12 (fun _ => 0))] := hD
  have hl : lv_has ls 2 [(0, .ref x), (1, .int (iz (we)))] := hl
  rw [← hH, ← hlo]
  refine lv_aload_n hx hb dX12_weigh_0 rfl (lv_at hl 0 rfl) ?_
  refine lv_iload_n hx hb dX12_weigh_1 rfl (lv_at hl 1 rfl) ?_
  refine zr_i2l hx hb (x := we) (⟨by omega, by omega⟩) dX12_weigh_2 ?_
  refine lv_lconst (v := lz (0)) hx hb dX12_weigh_3 rfl ?_
  refine zr_ldc2 (z := 1000000) hx hb hown (hts (.constantLong RX12 135 (1000000)) (by decide +kernel)) rfl dX12_weigh_4 ?_
  refine zc_z (wr := [(x, .inr (13, [.int (iz (th)), .int (iz (6)), .ref am, .null, .ref tb, .ref lv, .int (iz (0)), .ref wt, .int (iz (0)), .ref bg, .ref pm, .int (iz (0))])), (wt, zaI (G.2 1) 12 (fun _ => 0))]) (va_runS (As := [.long (lz (we)), .long (lz (0)), .long (lz (1000000))]) (rest := [.ref x]) ⟨hx, hb, hml, hown, hts⟩ (c_X12_in l G we 0 1000000 (by omega) (by omega) (by omega) H.size) (va_cwS 3 hts gX12_weigh_X12_in rfl rfl rfl (by decide +kernel) ⟨Nat.le_of_ble_eq_true rfl, Nat.le_of_ble_eq_true rfl⟩) (zpS hKX hP hD [] rfl rfl) rfl rfl hl.1 rfl (lv_room (Nat.le_of_ble_eq_true rfl)) dX12_weigh_7 ⟨(by first | exact Nat.le_of_ble_eq_true rfl | (show _ ≤ (0 : Nat); omega)), (by first | exact Nat.le_of_ble_eq_true rfl | (show _ ≤ (0 : Nat); omega))⟩) hP hD hS hA [] [0, 1] rfl rfl rfl (by decide) (fun y1 u_1 H locs hy1 hP hD hS => ?_)
  have hP : va_P G.1 vwCl [(x, .inr (13, [.int (iz (th)), .int (iz (6)), .ref am, .null, .ref tb, .ref lv, .int (iz (0)), .ref wt, .int (iz (0)), .ref bg, .ref pm, .int (iz (0))])), (wt, zaI (G.2 1) 12 (fun _ => 0))] H := hP
  have hD : va_D A [(x, .inr (13, [.int (iz (th)), .int (iz (6)), .ref am, .null, .ref tb, .ref lv, .int (iz (0)), .ref wt, .int (iz (0)), .ref bg, .ref pm, .int (iz (0))])), (wt, zaI (G.2 1) 12 (fun _ => 0))] := hD
  have hy1 : y1 = decide ((0 : Int) ≤ we ∧ we ≤ (1000000 : Int)) := hy1
  rw [show y1 = true from hy1.trans (decide_eq_true (by omega))]
  refine lv_aload_n hx hb dX12_weigh_10 rfl (lv_at hl 0 rfl) ?_
  refine va_get (D := G.1) (ci := 13) (v := .int (iz (0))) (C := RX12) (T := TX12) (N := 12) hx hb hts iwX12 hown hK hP 0 rfl rfl 8 (by decide) (hts (.fieldLink RX12 277 "AnnuityHouseModel" "weightMany" "I") (by decide +kernel)) (fun _ h9 => h9) rfl dX12_weigh_11 ?_
  refine lv_bipush (v := iz (12)) hx hb dX12_weigh_14 rfl ?_
  refine zr_icmp_ge (x := 0) (y := 12) (tgt := 23) hx hb (⟨by omega, by omega⟩) (⟨by omega, by omega⟩) dX12_weigh_16 (by decide) (fun h_3 => ?_) (fun h_3 => ?_)
  · exact absurd h_3 (by omega)
  ·
    refine lv_iconst (v := iz (1)) hx hb dX12_weigh_19 rfl ?_
    refine lv_goto (tgt := 24) hx hb dX12_weigh_20 (by decide) ?_
    refine lv_iconst (v := iz (1)) hx hb dX12_weigh_24 rfl ?_
    refine zc_z (wr := [(wt, zaI (G.2 1) 12 (fun _ => 0))]) (va_runV (As := [.int (iz (zbb true)), .int (iz (1)), .int (iz (1))]) (rest := []) ⟨hx, hb, hml, hown, hts⟩ (c_X12_passes l G x th (.ref am) .null (.ref tb) (.ref lv) (.int (iz (0))) (.ref wt) (.int (iz (0))) (.ref bg) (.ref pm) (.int (iz (0))) 6 true true true  H.size) (cwV 3 hts gX12_weigh_X12_passes rfl rfl rfl (by decide +kernel) ⟨Nat.le_of_ble_eq_true rfl, Nat.le_of_ble_eq_true rfl⟩) (zpV hKX hP hD [0] rfl rfl 0 13 rfl rfl) rfl rfl hl.1 rfl (lv_room (Nat.le_of_ble_eq_true rfl)) dX12_weigh_25 ⟨(by first | exact Nat.le_of_ble_eq_true rfl | (show _ ≤ (0 : Nat); omega)), (by first | exact Nat.le_of_ble_eq_true rfl | (show _ ≤ (0 : Nat); omega))⟩) hP hD hS hA [0] [1] rfl rfl rfl (by decide) (fun pz u_4 H locs hp hP hD hS => ?_)
    generalize u_4 = thp at hP hD hp
    have hP : va_P G.1 vwCl [(wt, zaI (G.2 1) 12 (fun _ => 0)), (x, .inr (13, [.int (iz (thp)), .int (iz ((6 : Int))), .ref am, .null, .ref tb, .ref lv, .int (iz (0)), .ref wt, .int (iz (0)), .ref bg, .ref pm, .int (iz (0))]))] H := hP
    have hD : va_D A [(wt, zaI (G.2 1) 12 (fun _ => 0)), (x, .inr (13, [.int (iz (thp)), .int (iz ((6 : Int))), .ref am, .null, .ref tb, .ref lv, .int (iz (0)), .ref wt, .int (iz (0)), .ref bg, .ref pm, .int (iz (0))]))] := hD
    have hp : pz = (true && true && true) ∧ thp = zcode true true true := hp
    rw [show pz = true from hp.1]
    have htp := hp.2
    refine zr_ifz_ne (tgt := 33) hx hb dX12_weigh_28 (by decide) (fun h_6 => ?_) (fun h_6 => ?_)
    ·
      refine lv_aload_n hx hb dX12_weigh_33 rfl (lv_at hl 0 rfl) ?_
      refine va_get (D := G.1) (ci := 13) (v := .ref wt) (C := RX12) (T := TX12) (N := 12) hx hb hts iwX12 hown hK hP 1 rfl rfl 7 (by decide) (hts (.fieldLink RX12 80 "AnnuityHouseModel" "weights" "[I") (by decide +kernel)) (fun _ h9 => h9) rfl dX12_weigh_34 ?_
      refine lv_aload_n hx hb dX12_weigh_37 rfl (lv_at hl 0 rfl) ?_
      refine va_get (D := G.1) (ci := 13) (v := .int (iz (0))) (C := RX12) (T := TX12) (N := 12) hx hb hts iwX12 hown hK hP 1 rfl rfl 8 (by decide) (hts (.fieldLink RX12 277 "AnnuityHouseModel" "weightMany" "I") (by decide +kernel)) (fun _ h9 => h9) rfl dX12_weigh_38 ?_
      refine lv_iload_n hx hb dX12_weigh_41 rfl (lv_at hl 1 rfl) ?_
      refine zr_iast hx hb hK hP hD hS 0 1 rfl rfl (i := 0) (x := we) (⟨by omega, by omega, by omega⟩) dX12_weigh_42 (fun H locs hP hD hS => ?_)
      have hP : va_P G.1 vwCl [(wt, zaI (G.2 1) 12 (zup (fun _ => 0) 0 we)), (x, .inr (13, [.int (iz (thp)), .int (iz ((6 : Int))), .ref am, .null, .ref tb, .ref lv, .int (iz (0)), .ref wt, .int (iz (0)), .ref bg, .ref pm, .int (iz (0))]))] H := hP
      have hD : va_D A [(wt, zaI (G.2 1) 12 (zup (fun _ => 0) 0 we)), (x, .inr (13, [.int (iz (thp)), .int (iz ((6 : Int))), .ref am, .null, .ref tb, .ref lv, .int (iz (0)), .ref wt, .int (iz (0)), .ref bg, .ref pm, .int (iz (0))]))] := hD
      refine lv_aload_n hx hb dX12_weigh_43 rfl (lv_at hl 0 rfl) ?_
      refine lv_dup hx hb dX12_weigh_44 rfl ?_
      refine va_get (D := G.1) (ci := 13) (v := .int (iz (0))) (C := RX12) (T := TX12) (N := 12) hx hb hts iwX12 hown hK hP 1 rfl rfl 8 (by decide) (hts (.fieldLink RX12 277 "AnnuityHouseModel" "weightMany" "I") (by decide +kernel)) (fun _ h9 => h9) rfl dX12_weigh_45 ?_
      refine lv_iconst (v := iz (1)) hx hb dX12_weigh_48 rfl ?_
      refine zr_iadd hx hb dX12_weigh_49 ?_
      refine va_put (D := G.1) (ci := 13) (v := .int (iz (0 + 1))) (ty := .int) (C := RX12) (T := TX12) (N := 12) hx hb hts iwX12 tyX12 tyX12_ok nmX12 hown hK hP hD hS 1 rfl rfl 8 (by decide) (hts (.fieldLink RX12 277 "AnnuityHouseModel" "weightMany" "I") (by decide +kernel)) (fun _ h9 => h9) rfl (by decide +kernel) rfl rfl (Nat.le_of_ble_eq_true rfl) dX12_weigh_50 (fun H locs hP hD hS => ?_)
      have hP : va_P G.1 vwCl [(wt, zaI (G.2 1) 12 (zup (fun _ => 0) 0 we)), (x, .inr (13, [.int (iz (thp)), .int (iz ((6 : Int))), .ref am, .null, .ref tb, .ref lv, .int (iz (0)), .ref wt, .int (iz (0 + 1)), .ref bg, .ref pm, .int (iz (0))]))] H := hP
      have hD : va_D A [(wt, zaI (G.2 1) 12 (zup (fun _ => 0) 0 we)), (x, .inr (13, [.int (iz (thp)), .int (iz ((6 : Int))), .ref am, .null, .ref tb, .ref lv, .int (iz (0)), .ref wt, .int (iz (0 + 1)), .ref bg, .ref pm, .int (iz (0))]))] := hD
      refine lv_aload_n hx hb dX12_weigh_53 rfl (lv_at hl 0 rfl) ?_
      refine va_get (D := G.1) (ci := 13) (v := .int (iz (0 + 1))) (C := RX12) (T := TX12) (N := 12) hx hb hts iwX12 hown hK hP 1 rfl rfl 8 (by decide) (hts (.fieldLink RX12 277 "AnnuityHouseModel" "weightMany" "I") (by decide +kernel)) (fun _ h9 => h9) rfl dX12_weigh_54 ?_
      rw [hQ]
      exact zr_iret (z := 0 + 1) (u := (thp)) hx hb hr hlocks (hP.sub [1] rfl) (hD.sub [1] (by decide) rfl) hS (by first | exact Nat.le_of_ble_eq_true rfl | omega) (by first | exact Nat.le_of_ble_eq_true rfl | omega) dX12_weigh_57 (show (0 + 1) = 1 ∧ thp = 0 from ⟨rfl, htp⟩)
    · exact absurd h_6 (by decide)

def rm_c_X12_weigh_x : Room := { frames := 1, cells := 0, slots := 0, locals := 25 }
set_option maxHeartbeats 1000000 in
set_option maxRecDepth 100000 in
theorem c_X12_weigh_x (l : Launch) (G : zG) (x : Nat) (am : Nat) (tb : Nat) (lv : Nat) (wt : Nat) (bg : Nat) (pm : Nat) (th : Int) (we : Int) (h0 : -2147483648 ≤ we ∧ we < 2147483648) (h1 : ¬ (0 ≤ we ∧ we ≤ 1000000)) : zM l G yX12_weigh wsX12_weigh rm_c_X12_weigh_x [.ref x, .int (iz (we))] [(x, .inr (13, [.int (iz (th)), .int (iz (6)), .ref am, .null, .ref tb, .ref lv, .int (iz (0)), .ref wt, .int (iz (0)), .ref bg, .ref pm, .int (iz (0))])), (wt, zaI (G.2 1) 12 (fun _ => 0))] (fun A => zQi G (fun (z : Int) (th2 : Int) => z = 0 ∧ th2 = 1) (fun (th2 : Int) => [(x, .inr (13, [.int (iz (th2)), .int (iz (6)), .ref am, .null, .ref tb, .ref lv, .int (iz (0)), .ref wt, .int (iz (0)), .ref bg, .ref pm, .int (iz (0))]))]) A) 0 0 := by
  refine zM_of (cc := cX12_weigh) (maxL := 2) (ret := (some .int)) (by decide) rfl (Nat.le_of_ble_eq_true rfl) ?_
  intro p e s m below meth c ls A Q hQ hx hb hr hts hown hlocks hml hnm hKX hP hD hA hS hl
  have hK := hKX.1
  have iwX12 := iw_X12_weigh_X12
  obtain ⟨H, hH⟩ : ∃ h, h = s.heap := ⟨_, rfl⟩
  obtain ⟨locs, hlo⟩ : ∃ h : List Loc, h = [] := ⟨_, rfl⟩
  have hS : va_S A s.heap H locs := by rw [hH, hlo]; exact hS
  have hP : va_P G.1 vwCl [(x, .inr (13, [.int (iz (th)), .int (iz (6)), .ref am, .null, .ref tb, .ref lv, .int (iz (0)), .ref wt, .int (iz (0)), .ref bg, .ref pm, .int (iz (0))])), (wt, zaI (G.2 1) 12 (fun _ => 0))] H := by rw [hH]; exact hP
  have hD : va_D A [(x, .inr (13, [.int (iz (th)), .int (iz (6)), .ref am, .null, .ref tb, .ref lv, .int (iz (0)), .ref wt, .int (iz (0)), .ref bg, .ref pm, .int (iz (0))])), (wt, zaI (G.2 1) 12 (fun _ => 0))] := hD
  have hl : lv_has ls 2 [(0, .ref x), (1, .int (iz (we)))] := hl
  rw [← hH, ← hlo]
  refine lv_aload_n hx hb dX12_weigh_0 rfl (lv_at hl 0 rfl) ?_
  refine lv_iload_n hx hb dX12_weigh_1 rfl (lv_at hl 1 rfl) ?_
  refine zr_i2l hx hb (x := we) (⟨by omega, by omega⟩) dX12_weigh_2 ?_
  refine lv_lconst (v := lz (0)) hx hb dX12_weigh_3 rfl ?_
  refine zr_ldc2 (z := 1000000) hx hb hown (hts (.constantLong RX12 135 (1000000)) (by decide +kernel)) rfl dX12_weigh_4 ?_
  refine zc_z (wr := [(x, .inr (13, [.int (iz (th)), .int (iz (6)), .ref am, .null, .ref tb, .ref lv, .int (iz (0)), .ref wt, .int (iz (0)), .ref bg, .ref pm, .int (iz (0))])), (wt, zaI (G.2 1) 12 (fun _ => 0))]) (va_runS (As := [.long (lz (we)), .long (lz (0)), .long (lz (1000000))]) (rest := [.ref x]) ⟨hx, hb, hml, hown, hts⟩ (c_X12_in l G we 0 1000000 (by omega) (by omega) (by omega) H.size) (va_cwS 3 hts gX12_weigh_X12_in rfl rfl rfl (by decide +kernel) ⟨Nat.le_of_ble_eq_true rfl, Nat.le_of_ble_eq_true rfl⟩) (zpS hKX hP hD [] rfl rfl) rfl rfl hl.1 rfl (lv_room (Nat.le_of_ble_eq_true rfl)) dX12_weigh_7 ⟨(by first | exact Nat.le_of_ble_eq_true rfl | (show _ ≤ (0 : Nat); omega)), (by first | exact Nat.le_of_ble_eq_true rfl | (show _ ≤ (0 : Nat); omega))⟩) hP hD hS hA [] [0, 1] rfl rfl rfl (by decide) (fun y1 u_1 H locs hy1 hP hD hS => ?_)
  have hP : va_P G.1 vwCl [(x, .inr (13, [.int (iz (th)), .int (iz (6)), .ref am, .null, .ref tb, .ref lv, .int (iz (0)), .ref wt, .int (iz (0)), .ref bg, .ref pm, .int (iz (0))])), (wt, zaI (G.2 1) 12 (fun _ => 0))] H := hP
  have hD : va_D A [(x, .inr (13, [.int (iz (th)), .int (iz (6)), .ref am, .null, .ref tb, .ref lv, .int (iz (0)), .ref wt, .int (iz (0)), .ref bg, .ref pm, .int (iz (0))])), (wt, zaI (G.2 1) 12 (fun _ => 0))] := hD
  have hy1 : y1 = decide ((0 : Int) ≤ we ∧ we ≤ (1000000 : Int)) := hy1
  rw [show y1 = false from hy1.trans (decide_eq_false (by omega))]
  refine lv_aload_n hx hb dX12_weigh_10 rfl (lv_at hl 0 rfl) ?_
  refine va_get (D := G.1) (ci := 13) (v := .int (iz (0))) (C := RX12) (T := TX12) (N := 12) hx hb hts iwX12 hown hK hP 0 rfl rfl 8 (by decide) (hts (.fieldLink RX12 277 "AnnuityHouseModel" "weightMany" "I") (by decide +kernel)) (fun _ h9 => h9) rfl dX12_weigh_11 ?_
  refine lv_bipush (v := iz (12)) hx hb dX12_weigh_14 rfl ?_
  refine zr_icmp_ge (x := 0) (y := 12) (tgt := 23) hx hb (⟨by omega, by omega⟩) (⟨by omega, by omega⟩) dX12_weigh_16 (by decide) (fun h_3 => ?_) (fun h_3 => ?_)
  · exact absurd h_3 (by omega)
  ·
    refine lv_iconst (v := iz (1)) hx hb dX12_weigh_19 rfl ?_
    refine lv_goto (tgt := 24) hx hb dX12_weigh_20 (by decide) ?_
    refine lv_iconst (v := iz (1)) hx hb dX12_weigh_24 rfl ?_
    refine zc_z (wr := [(wt, zaI (G.2 1) 12 (fun _ => 0))]) (va_runV (As := [.int (iz (zbb false)), .int (iz (1)), .int (iz (1))]) (rest := []) ⟨hx, hb, hml, hown, hts⟩ (c_X12_passes l G x th (.ref am) .null (.ref tb) (.ref lv) (.int (iz (0))) (.ref wt) (.int (iz (0))) (.ref bg) (.ref pm) (.int (iz (0))) 6 false true true  H.size) (cwV 3 hts gX12_weigh_X12_passes rfl rfl rfl (by decide +kernel) ⟨Nat.le_of_ble_eq_true rfl, Nat.le_of_ble_eq_true rfl⟩) (zpV hKX hP hD [0] rfl rfl 0 13 rfl rfl) rfl rfl hl.1 rfl (lv_room (Nat.le_of_ble_eq_true rfl)) dX12_weigh_25 ⟨(by first | exact Nat.le_of_ble_eq_true rfl | (show _ ≤ (0 : Nat); omega)), (by first | exact Nat.le_of_ble_eq_true rfl | (show _ ≤ (0 : Nat); omega))⟩) hP hD hS hA [0] [1] rfl rfl rfl (by decide) (fun pz u_4 H locs hp hP hD hS => ?_)
    generalize u_4 = thp at hP hD hp
    have hP : va_P G.1 vwCl [(wt, zaI (G.2 1) 12 (fun _ => 0)), (x, .inr (13, [.int (iz (thp)), .int (iz ((6 : Int))), .ref am, .null, .ref tb, .ref lv, .int (iz (0)), .ref wt, .int (iz (0)), .ref bg, .ref pm, .int (iz (0))]))] H := hP
    have hD : va_D A [(wt, zaI (G.2 1) 12 (fun _ => 0)), (x, .inr (13, [.int (iz (thp)), .int (iz ((6 : Int))), .ref am, .null, .ref tb, .ref lv, .int (iz (0)), .ref wt, .int (iz (0)), .ref bg, .ref pm, .int (iz (0))]))] := hD
    have hp : pz = (false && true && true) ∧ thp = zcode false true true := hp
    rw [show pz = false from hp.1]
    have htp := hp.2
    refine zr_ifz_ne (tgt := 33) hx hb dX12_weigh_28 (by decide) (fun h_6 => ?_) (fun h_6 => ?_)
    · exact absurd h_6 (by decide)
    ·
      refine lv_iconst (v := iz (0)) hx hb dX12_weigh_31 rfl ?_
      rw [hQ]
      exact zr_iret (z := 0) (u := (thp)) hx hb hr hlocks (hP.sub [1] rfl) (hD.sub [1] (by decide) rfl) hS (by first | exact Nat.le_of_ble_eq_true rfl | omega) (by first | exact Nat.le_of_ble_eq_true rfl | omega) dX12_weigh_32 (show 0 = 0 ∧ thp = 1 from ⟨rfl, htp⟩)

def rm_c_X12_clearWeights : Room := { frames := 0, cells := 0, slots := 0, locals := 0 }
theorem iw_X12_clearWeights_X12 : ∀ w ∈ wsX120, w ∈ wsX12_clearWeights := by decide +kernel
set_option maxHeartbeats 1000000 in
set_option maxRecDepth 100000 in
theorem c_X12_clearWeights (l : Launch) (G : zG) (x : Nat) (am : Nat) (tb : Nat) (lv : Nat) (wt : Nat) (bg : Nat) (pm : Nat) (th : Int)  : zM l G yX12_clearWeights wsX12_clearWeights rm_c_X12_clearWeights [.ref x] [(x, .inr (13, [.int (iz (th)), .int (iz (6)), .ref am, .null, .ref tb, .ref lv, .int (iz (0)), .ref wt, .int (iz (0)), .ref bg, .ref pm, .int (iz (0))]))] (fun A => zQi G (fun (z : Int) (th2 : Int) => z = 0 ∧ th2 = 0) (fun (th2 : Int) => [(x, .inr (13, [.int (iz (th2)), .int (iz (6)), .ref am, .null, .ref tb, .ref lv, .int (iz (0)), .ref wt, .int (iz (0)), .ref bg, .ref pm, .int (iz (0))]))]) A) 0 0 := by
  refine zM_of (cc := cX12_clearWeights) (maxL := 2) (ret := (some .int)) (by decide) rfl (Nat.le_of_ble_eq_true rfl) ?_
  intro p e s m below meth c ls A Q hQ hx hb hr hts hown hlocks hml hnm hKX hP hD hA hS hl
  have hK := hKX.1
  have iwX12 := iw_X12_clearWeights_X12
  obtain ⟨H, hH⟩ : ∃ h, h = s.heap := ⟨_, rfl⟩
  obtain ⟨locs, hlo⟩ : ∃ h : List Loc, h = [] := ⟨_, rfl⟩
  have hS : va_S A s.heap H locs := by rw [hH, hlo]; exact hS
  have hP : va_P G.1 vwCl [(x, .inr (13, [.int (iz (th)), .int (iz (6)), .ref am, .null, .ref tb, .ref lv, .int (iz (0)), .ref wt, .int (iz (0)), .ref bg, .ref pm, .int (iz (0))]))] H := by rw [hH]; exact hP
  have hD : va_D A [(x, .inr (13, [.int (iz (th)), .int (iz (6)), .ref am, .null, .ref tb, .ref lv, .int (iz (0)), .ref wt, .int (iz (0)), .ref bg, .ref pm, .int (iz (0))]))] := hD
  have hl : lv_has ls 2 [(0, .ref x)] := hl
  rw [← hH, ← hlo]
  refine lv_aload_n hx hb dX12_clearWeights_0 rfl (lv_at hl 0 rfl) ?_
  refine lv_iconst (v := iz (0)) hx hb dX12_clearWeights_1 rfl ?_
  refine va_put (D := G.1) (ci := 13) (v := .int (iz (0))) (ty := .int) (C := RX12) (T := TX12) (N := 12) hx hb hts iwX12 tyX12 tyX12_ok nmX12 hown hK hP hD hS 0 rfl rfl 0 (by decide) (hts (.fieldLink RX12 1 "AnnuityHouseModel" "thrown" "I") (by decide +kernel)) (fun _ h9 => h9) rfl (by decide +kernel) rfl rfl (Nat.le_of_ble_eq_true rfl) dX12_clearWeights_2 (fun H locs hP hD hS => ?_)
  have hP : va_P G.1 vwCl [(x, .inr (13, [.int (iz (0)), .int (iz (6)), .ref am, .null, .ref tb, .ref lv, .int (iz (0)), .ref wt, .int (iz (0)), .ref bg, .ref pm, .int (iz (0))]))] H := hP
  have hD : va_D A [(x, .inr (13, [.int (iz (0)), .int (iz (6)), .ref am, .null, .ref tb, .ref lv, .int (iz (0)), .ref wt, .int (iz (0)), .ref bg, .ref pm, .int (iz (0))]))] := hD
  refine lv_aload_n hx hb dX12_clearWeights_5 rfl (lv_at hl 0 rfl) ?_
  refine va_get (D := G.1) (ci := 13) (v := .int (iz (0))) (C := RX12) (T := TX12) (N := 12) hx hb hts iwX12 hown hK hP 0 rfl rfl 8 (by decide) (hts (.fieldLink RX12 277 "AnnuityHouseModel" "weightMany" "I") (by decide +kernel)) (fun _ h9 => h9) rfl dX12_clearWeights_6 ?_
  refine lv_istore_n (lv' := [(1, .int (iz (0))), (0, .ref x)]) hx hb dX12_clearWeights_9 rfl hl (by decide) rfl (fun ls hl => ?_)
  refine lv_aload_n hx hb dX12_clearWeights_10 rfl (lv_at hl 1 rfl) ?_
  refine lv_iconst (v := iz (0)) hx hb dX12_clearWeights_11 rfl ?_
  refine va_put (D := G.1) (ci := 13) (v := .int (iz (0))) (ty := .int) (C := RX12) (T := TX12) (N := 12) hx hb hts iwX12 tyX12 tyX12_ok nmX12 hown hK hP hD hS 0 rfl rfl 8 (by decide) (hts (.fieldLink RX12 277 "AnnuityHouseModel" "weightMany" "I") (by decide +kernel)) (fun _ h9 => h9) rfl (by decide +kernel) rfl rfl (Nat.le_of_ble_eq_true rfl) dX12_clearWeights_12 (fun H locs hP hD hS => ?_)
  have hP : va_P G.1 vwCl [(x, .inr (13, [.int (iz (0)), .int (iz (6)), .ref am, .null, .ref tb, .ref lv, .int (iz (0)), .ref wt, .int (iz (0)), .ref bg, .ref pm, .int (iz (0))]))] H := hP
  have hD : va_D A [(x, .inr (13, [.int (iz (0)), .int (iz (6)), .ref am, .null, .ref tb, .ref lv, .int (iz (0)), .ref wt, .int (iz (0)), .ref bg, .ref pm, .int (iz (0))]))] := hD
  refine lv_iload_n hx hb dX12_clearWeights_15 rfl (lv_at hl 0 rfl) ?_
  rw [hQ]
  exact zr_iret (z := 0) (u := (0)) hx hb hr hlocks hP hD hS (by first | exact Nat.le_of_ble_eq_true rfl | omega) (by first | exact Nat.le_of_ble_eq_true rfl | omega) dX12_clearWeights_16 (show 0 = 0 ∧ 0 = 0 from ⟨rfl, rfl⟩)

def rm_c_X12_allWeights : Room := { frames := 0, cells := 0, slots := 0, locals := 0 }
theorem iw_X12_allWeights_X12 : ∀ w ∈ wsX120, w ∈ wsX12_allWeights := by decide +kernel
set_option maxHeartbeats 1000000 in
set_option maxRecDepth 100000 in
theorem c_X12_allWeights (l : Launch) (G : zG) (x : Nat) (am : Nat) (tb : Nat) (lv : Nat) (wt : Nat) (bg : Nat) (pm : Nat) (th : Int)  : zM l G yX12_allWeights wsX12_allWeights rm_c_X12_allWeights [.ref x] [(x, .inr (13, [.int (iz (th)), .int (iz (6)), .ref am, .null, .ref tb, .ref lv, .int (iz (0)), .ref wt, .int (iz (0)), .ref bg, .ref pm, .int (iz (0))]))] (fun A => zQl G (fun (z : Int) (_ : Unit) => z = 0) (fun (_ : Unit) => [(x, .inr (13, [.int (iz (th)), .int (iz (6)), .ref am, .null, .ref tb, .ref lv, .int (iz (0)), .ref wt, .int (iz (0)), .ref bg, .ref pm, .int (iz (0))]))]) A) 0 0 := by
  refine zM_of (cc := cX12_allWeights) (maxL := 4) (ret := (some .long)) (by decide) rfl (Nat.le_of_ble_eq_true rfl) ?_
  intro p e s m below meth c ls A Q hQ hx hb hr hts hown hlocks hml hnm hKX hP hD hA hS hl
  have hK := hKX.1
  have iwX12 := iw_X12_allWeights_X12
  obtain ⟨H, hH⟩ : ∃ h, h = s.heap := ⟨_, rfl⟩
  obtain ⟨locs, hlo⟩ : ∃ h : List Loc, h = [] := ⟨_, rfl⟩
  have hS : va_S A s.heap H locs := by rw [hH, hlo]; exact hS
  have hP : va_P G.1 vwCl [(x, .inr (13, [.int (iz (th)), .int (iz (6)), .ref am, .null, .ref tb, .ref lv, .int (iz (0)), .ref wt, .int (iz (0)), .ref bg, .ref pm, .int (iz (0))]))] H := by rw [hH]; exact hP
  have hD : va_D A [(x, .inr (13, [.int (iz (th)), .int (iz (6)), .ref am, .null, .ref tb, .ref lv, .int (iz (0)), .ref wt, .int (iz (0)), .ref bg, .ref pm, .int (iz (0))]))] := hD
  have hl : lv_has ls 4 [(0, .ref x)] := hl
  rw [← hH, ← hlo]
  refine lv_lconst (v := lz (0)) hx hb dX12_allWeights_0 rfl ?_
  refine lv_lstore_n (lv' := [(1, .long (lz (0))), (0, .ref x)]) hx hb dX12_allWeights_1 rfl hl (by decide) rfl (fun ls hl => ?_)
  refine lv_iconst (v := iz (0)) hx hb dX12_allWeights_2 rfl ?_
  refine lv_istore_n (lv' := [(3, .int (iz (0))), (1, .long (lz (0))), (0, .ref x)]) hx hb dX12_allWeights_3 rfl hl (by decide) rfl (fun ls hl => ?_)
  refine lv_iload_n hx hb dX12_allWeights_4 rfl (lv_at hl 0 rfl) ?_
  refine lv_aload_n hx hb dX12_allWeights_5 rfl (lv_at hl 2 rfl) ?_
  refine va_get (D := G.1) (ci := 13) (v := .int (iz (0))) (C := RX12) (T := TX12) (N := 12) hx hb hts iwX12 hown hK hP 0 rfl rfl 8 (by decide) (hts (.fieldLink RX12 277 "AnnuityHouseModel" "weightMany" "I") (by decide +kernel)) (fun _ h9 => h9) rfl dX12_allWeights_6 ?_
  refine zr_icmp_ge (x := 0) (y := 0) (tgt := 28) hx hb (⟨by omega, by omega⟩) (⟨by omega, by omega⟩) dX12_allWeights_9 (by decide) (fun h_1 => ?_) (fun h_1 => ?_)
  ·
    refine lv_lload_n hx hb dX12_allWeights_28 rfl (lv_at hl 1 rfl) ?_
    rw [hQ]
    exact zr_lret (z := 0) (u := ()) hx hb hr hlocks hP hD hS (by first | exact Nat.le_of_ble_eq_true rfl | omega) (by first | exact Nat.le_of_ble_eq_true rfl | omega) dX12_allWeights_29 (show 0 = 0 from rfl)
  · exact absurd h_1 (by omega)

def rm_c_X12_part_o : Room := { frames := 1, cells := 0, slots := 0, locals := 25 }
theorem iw_X12_part_X12 : ∀ w ∈ wsX120, w ∈ wsX12_part := by decide +kernel
set_option maxHeartbeats 1000000 in
set_option maxRecDepth 100000 in
theorem c_X12_part_o (l : Launch) (G : zG) (x : Nat) (am : Nat) (tb : Nat) (lv : Nat) (wt : Nat) (bg : Nat) (pm : Nat) (th : Int) (mo : Int) (wh : Int) (h0 : -9223372036854775808 ≤ mo ∧ mo < 9223372036854775808) (h01 : -2147483648 ≤ wh ∧ wh < 2147483648) (h1 : 0 ≤ mo ∧ mo ≤ 1000000000000) : zM l G yX12_part wsX12_part rm_c_X12_part_o [.ref x, .long (lz (mo)), .int (iz (wh))] [(x, .inr (13, [.int (iz (th)), .int (iz (6)), .ref am, .null, .ref tb, .ref lv, .int (iz (0)), .ref wt, .int (iz (0)), .ref bg, .ref pm, .int (iz (0))]))] (fun A => zQl G (fun (z : Int) (th2 : Int) => z = 0 ∧ th2 = 2) (fun (th2 : Int) => [(x, .inr (13, [.int (iz (th2)), .int (iz (6)), .ref am, .null, .ref tb, .ref lv, .int (iz (0)), .ref wt, .int (iz (0)), .ref bg, .ref pm, .int (iz (0))]))]) A) 0 0 := by
  refine zM_of (cc := cX12_part) (maxL := 5) (ret := (some .long)) (by decide) rfl (Nat.le_of_ble_eq_true rfl) ?_
  intro p e s m below meth c ls A Q hQ hx hb hr hts hown hlocks hml hnm hKX hP hD hA hS hl
  have hK := hKX.1
  have iwX12 := iw_X12_part_X12
  obtain ⟨H, hH⟩ : ∃ h, h = s.heap := ⟨_, rfl⟩
  obtain ⟨locs, hlo⟩ : ∃ h : List Loc, h = [] := ⟨_, rfl⟩
  have hS : va_S A s.heap H locs := by rw [hH, hlo]; exact hS
  have hP : va_P G.1 vwCl [(x, .inr (13, [.int (iz (th)), .int (iz (6)), .ref am, .null, .ref tb, .ref lv, .int (iz (0)), .ref wt, .int (iz (0)), .ref bg, .ref pm, .int (iz (0))]))] H := by rw [hH]; exact hP
  have hD : va_D A [(x, .inr (13, [.int (iz (th)), .int (iz (6)), .ref am, .null, .ref tb, .ref lv, .int (iz (0)), .ref wt, .int (iz (0)), .ref bg, .ref pm, .int (iz (0))]))] := hD
  have hl : lv_has ls 5 [(0, .ref x), (1, .long (lz (mo))), (3, .int (iz (wh)))] := hl
  rw [← hH, ← hlo]
  refine lv_lload_n hx hb dX12_part_0 rfl (lv_at hl 1 rfl) ?_
  refine lv_lconst (v := lz (0)) hx hb dX12_part_1 rfl ?_
  refine zr_ldc2 (z := 1000000000000) hx hb hown (hts (.constantLong RX12 101 (1000000000000)) (by decide +kernel)) rfl dX12_part_2 ?_
  refine zc_z (wr := [(x, .inr (13, [.int (iz (th)), .int (iz (6)), .ref am, .null, .ref tb, .ref lv, .int (iz (0)), .ref wt, .int (iz (0)), .ref bg, .ref pm, .int (iz (0))]))]) (va_runS (As := [.long (lz (mo)), .long (lz (0)), .long (lz (1000000000000))]) (rest := []) ⟨hx, hb, hml, hown, hts⟩ (c_X12_in l G mo 0 1000000000000 (by omega) (by omega) (by omega) H.size) (va_cwS 3 hts gX12_part_X12_in rfl rfl rfl (by decide +kernel) ⟨Nat.le_of_ble_eq_true rfl, Nat.le_of_ble_eq_true rfl⟩) (zpS hKX hP hD [] rfl rfl) rfl rfl hl.1 rfl (lv_room (Nat.le_of_ble_eq_true rfl)) dX12_part_5 ⟨(by first | exact Nat.le_of_ble_eq_true rfl | (show _ ≤ (0 : Nat); omega)), (by first | exact Nat.le_of_ble_eq_true rfl | (show _ ≤ (0 : Nat); omega))⟩) hP hD hS hA [] [0] rfl rfl rfl (by decide) (fun y1 u_1 H locs hy1 hP hD hS => ?_)
  have hP : va_P G.1 vwCl [(x, .inr (13, [.int (iz (th)), .int (iz (6)), .ref am, .null, .ref tb, .ref lv, .int (iz (0)), .ref wt, .int (iz (0)), .ref bg, .ref pm, .int (iz (0))]))] H := hP
  have hD : va_D A [(x, .inr (13, [.int (iz (th)), .int (iz (6)), .ref am, .null, .ref tb, .ref lv, .int (iz (0)), .ref wt, .int (iz (0)), .ref bg, .ref pm, .int (iz (0))]))] := hD
  have hy1 : y1 = decide ((0 : Int) ≤ mo ∧ mo ≤ (1000000000000 : Int)) := hy1
  rw [show y1 = true from hy1.trans (decide_eq_true (by omega))]
  refine lv_istore (lv' := [(4, .int (iz (zbb true))), (0, .ref x), (1, .long (lz (mo))), (3, .int (iz (wh)))]) hx hb dX12_part_8 hl (by decide) rfl (fun ls hl => ?_)
  refine lv_aload_n hx hb dX12_part_10 rfl (lv_at hl 1 rfl) ?_
  refine lv_iload hx hb dX12_part_11 (lv_at hl 0 rfl) ?_
  refine lv_iload_n hx hb dX12_part_13 rfl (lv_at hl 3 rfl) ?_
  refine zr_i2l hx hb (x := wh) (⟨by omega, by omega⟩) dX12_part_14 ?_
  refine lv_lconst (v := lz (0)) hx hb dX12_part_15 rfl ?_
  refine lv_aload_n hx hb dX12_part_16 rfl (lv_at hl 1 rfl) ?_
  refine va_get (D := G.1) (ci := 13) (v := .int (iz (0))) (C := RX12) (T := TX12) (N := 12) hx hb hts iwX12 hown hK hP 0 rfl rfl 8 (by decide) (hts (.fieldLink RX12 277 "AnnuityHouseModel" "weightMany" "I") (by decide +kernel)) (fun _ h9 => h9) rfl dX12_part_17 ?_
  refine lv_iconst (v := iz (1)) hx hb dX12_part_20 rfl ?_
  refine zr_isub hx hb dX12_part_21 ?_
  refine zr_i2l hx hb (x := 0 - 1) (⟨by decide, by decide⟩) dX12_part_22 ?_
  refine zc_z (wr := [(x, .inr (13, [.int (iz (th)), .int (iz (6)), .ref am, .null, .ref tb, .ref lv, .int (iz (0)), .ref wt, .int (iz (0)), .ref bg, .ref pm, .int (iz (0))]))]) (va_runS (As := [.long (lz (wh)), .long (lz (0)), .long (lz (0 - 1))]) (rest := [.int (iz (zbb true)), .ref x]) ⟨hx, hb, hml, hown, hts⟩ (c_X12_in l G wh 0 (0 - 1) (by omega) (by omega) (by omega) H.size) (va_cwS 3 hts gX12_part_X12_in rfl rfl rfl (by decide +kernel) ⟨Nat.le_of_ble_eq_true rfl, Nat.le_of_ble_eq_true rfl⟩) (zpS hKX hP hD [] rfl rfl) rfl rfl hl.1 rfl (lv_room (Nat.le_of_ble_eq_true rfl)) dX12_part_23 ⟨(by first | exact Nat.le_of_ble_eq_true rfl | (show _ ≤ (0 : Nat); omega)), (by first | exact Nat.le_of_ble_eq_true rfl | (show _ ≤ (0 : Nat); omega))⟩) hP hD hS hA [] [0] rfl rfl rfl (by decide) (fun y2 u_3 H locs hy2 hP hD hS => ?_)
  have hP : va_P G.1 vwCl [(x, .inr (13, [.int (iz (th)), .int (iz (6)), .ref am, .null, .ref tb, .ref lv, .int (iz (0)), .ref wt, .int (iz (0)), .ref bg, .ref pm, .int (iz (0))]))] H := hP
  have hD : va_D A [(x, .inr (13, [.int (iz (th)), .int (iz (6)), .ref am, .null, .ref tb, .ref lv, .int (iz (0)), .ref wt, .int (iz (0)), .ref bg, .ref pm, .int (iz (0))]))] := hD
  have hy2 : y2 = decide ((0 : Int) ≤ wh ∧ wh ≤ (0 - 1)) := hy2
  rw [show y2 = false from hy2.trans (decide_eq_false (by omega))]
  refine zr_ifz_eq (tgt := 42) hx hb dX12_part_26 (by decide) (fun h_5 => ?_) (fun h_5 => ?_)
  ·
    refine lv_iconst (v := iz (0)) hx hb dX12_part_42 rfl ?_
    refine lv_iconst (v := iz (1)) hx hb dX12_part_43 rfl ?_
    refine zc_z (wr := []) (va_runV (As := [.int (iz (zbb true)), .int (iz (0)), .int (iz (1))]) (rest := []) ⟨hx, hb, hml, hown, hts⟩ (c_X12_passes l G x th (.ref am) .null (.ref tb) (.ref lv) (.int (iz (0))) (.ref wt) (.int (iz (0))) (.ref bg) (.ref pm) (.int (iz (0))) 6 true false true  H.size) (cwV 3 hts gX12_part_X12_passes rfl rfl rfl (by decide +kernel) ⟨Nat.le_of_ble_eq_true rfl, Nat.le_of_ble_eq_true rfl⟩) (zpV hKX hP hD [0] rfl rfl 0 13 rfl rfl) rfl rfl hl.1 rfl (lv_room (Nat.le_of_ble_eq_true rfl)) dX12_part_44 ⟨(by first | exact Nat.le_of_ble_eq_true rfl | (show _ ≤ (0 : Nat); omega)), (by first | exact Nat.le_of_ble_eq_true rfl | (show _ ≤ (0 : Nat); omega))⟩) hP hD hS hA [0] [] rfl rfl rfl (by decide) (fun pz u_6 H locs hp hP hD hS => ?_)
    generalize u_6 = thp at hP hD hp
    have hP : va_P G.1 vwCl [(x, .inr (13, [.int (iz (thp)), .int (iz ((6 : Int))), .ref am, .null, .ref tb, .ref lv, .int (iz (0)), .ref wt, .int (iz (0)), .ref bg, .ref pm, .int (iz (0))]))] H := hP
    have hD : va_D A [(x, .inr (13, [.int (iz (thp)), .int (iz ((6 : Int))), .ref am, .null, .ref tb, .ref lv, .int (iz (0)), .ref wt, .int (iz (0)), .ref bg, .ref pm, .int (iz (0))]))] := hD
    have hp : pz = (true && false && true) ∧ thp = zcode true false true := hp
    rw [show pz = false from hp.1]
    have htp := hp.2
    refine zr_ifz_eq (tgt := 60) hx hb dX12_part_47 (by decide) (fun h_8 => ?_) (fun h_8 => ?_)
    ·
      refine lv_lconst (v := lz (0)) hx hb dX12_part_60 rfl ?_
      rw [hQ]
      exact zr_lret (z := 0) (u := (thp)) hx hb hr hlocks hP hD hS (by first | exact Nat.le_of_ble_eq_true rfl | omega) (by first | exact Nat.le_of_ble_eq_true rfl | omega) dX12_part_61 (show 0 = 0 ∧ thp = 2 from ⟨rfl, htp⟩)
    · exact absurd h_8 (by decide)
  · exact absurd h_5 (by decide)

def rm_c_X12_part_x : Room := { frames := 1, cells := 0, slots := 0, locals := 25 }
set_option maxHeartbeats 1000000 in
set_option maxRecDepth 100000 in
theorem c_X12_part_x (l : Launch) (G : zG) (x : Nat) (am : Nat) (tb : Nat) (lv : Nat) (wt : Nat) (bg : Nat) (pm : Nat) (th : Int) (mo : Int) (wh : Int) (h0 : -9223372036854775808 ≤ mo ∧ mo < 9223372036854775808) (h01 : -2147483648 ≤ wh ∧ wh < 2147483648) (h1 : ¬ (0 ≤ mo ∧ mo ≤ 1000000000000)) : zM l G yX12_part wsX12_part rm_c_X12_part_x [.ref x, .long (lz (mo)), .int (iz (wh))] [(x, .inr (13, [.int (iz (th)), .int (iz (6)), .ref am, .null, .ref tb, .ref lv, .int (iz (0)), .ref wt, .int (iz (0)), .ref bg, .ref pm, .int (iz (0))]))] (fun A => zQl G (fun (z : Int) (th2 : Int) => z = 0 ∧ th2 = 1) (fun (th2 : Int) => [(x, .inr (13, [.int (iz (th2)), .int (iz (6)), .ref am, .null, .ref tb, .ref lv, .int (iz (0)), .ref wt, .int (iz (0)), .ref bg, .ref pm, .int (iz (0))]))]) A) 0 0 := by
  refine zM_of (cc := cX12_part) (maxL := 5) (ret := (some .long)) (by decide) rfl (Nat.le_of_ble_eq_true rfl) ?_
  intro p e s m below meth c ls A Q hQ hx hb hr hts hown hlocks hml hnm hKX hP hD hA hS hl
  have hK := hKX.1
  have iwX12 := iw_X12_part_X12
  obtain ⟨H, hH⟩ : ∃ h, h = s.heap := ⟨_, rfl⟩
  obtain ⟨locs, hlo⟩ : ∃ h : List Loc, h = [] := ⟨_, rfl⟩
  have hS : va_S A s.heap H locs := by rw [hH, hlo]; exact hS
  have hP : va_P G.1 vwCl [(x, .inr (13, [.int (iz (th)), .int (iz (6)), .ref am, .null, .ref tb, .ref lv, .int (iz (0)), .ref wt, .int (iz (0)), .ref bg, .ref pm, .int (iz (0))]))] H := by rw [hH]; exact hP
  have hD : va_D A [(x, .inr (13, [.int (iz (th)), .int (iz (6)), .ref am, .null, .ref tb, .ref lv, .int (iz (0)), .ref wt, .int (iz (0)), .ref bg, .ref pm, .int (iz (0))]))] := hD
  have hl : lv_has ls 5 [(0, .ref x), (1, .long (lz (mo))), (3, .int (iz (wh)))] := hl
  rw [← hH, ← hlo]
  refine lv_lload_n hx hb dX12_part_0 rfl (lv_at hl 1 rfl) ?_
  refine lv_lconst (v := lz (0)) hx hb dX12_part_1 rfl ?_
  refine zr_ldc2 (z := 1000000000000) hx hb hown (hts (.constantLong RX12 101 (1000000000000)) (by decide +kernel)) rfl dX12_part_2 ?_
  refine zc_z (wr := [(x, .inr (13, [.int (iz (th)), .int (iz (6)), .ref am, .null, .ref tb, .ref lv, .int (iz (0)), .ref wt, .int (iz (0)), .ref bg, .ref pm, .int (iz (0))]))]) (va_runS (As := [.long (lz (mo)), .long (lz (0)), .long (lz (1000000000000))]) (rest := []) ⟨hx, hb, hml, hown, hts⟩ (c_X12_in l G mo 0 1000000000000 (by omega) (by omega) (by omega) H.size) (va_cwS 3 hts gX12_part_X12_in rfl rfl rfl (by decide +kernel) ⟨Nat.le_of_ble_eq_true rfl, Nat.le_of_ble_eq_true rfl⟩) (zpS hKX hP hD [] rfl rfl) rfl rfl hl.1 rfl (lv_room (Nat.le_of_ble_eq_true rfl)) dX12_part_5 ⟨(by first | exact Nat.le_of_ble_eq_true rfl | (show _ ≤ (0 : Nat); omega)), (by first | exact Nat.le_of_ble_eq_true rfl | (show _ ≤ (0 : Nat); omega))⟩) hP hD hS hA [] [0] rfl rfl rfl (by decide) (fun y1 u_1 H locs hy1 hP hD hS => ?_)
  have hP : va_P G.1 vwCl [(x, .inr (13, [.int (iz (th)), .int (iz (6)), .ref am, .null, .ref tb, .ref lv, .int (iz (0)), .ref wt, .int (iz (0)), .ref bg, .ref pm, .int (iz (0))]))] H := hP
  have hD : va_D A [(x, .inr (13, [.int (iz (th)), .int (iz (6)), .ref am, .null, .ref tb, .ref lv, .int (iz (0)), .ref wt, .int (iz (0)), .ref bg, .ref pm, .int (iz (0))]))] := hD
  have hy1 : y1 = decide ((0 : Int) ≤ mo ∧ mo ≤ (1000000000000 : Int)) := hy1
  rw [show y1 = false from hy1.trans (decide_eq_false (by omega))]
  refine lv_istore (lv' := [(4, .int (iz (zbb false))), (0, .ref x), (1, .long (lz (mo))), (3, .int (iz (wh)))]) hx hb dX12_part_8 hl (by decide) rfl (fun ls hl => ?_)
  refine lv_aload_n hx hb dX12_part_10 rfl (lv_at hl 1 rfl) ?_
  refine lv_iload hx hb dX12_part_11 (lv_at hl 0 rfl) ?_
  refine lv_iload_n hx hb dX12_part_13 rfl (lv_at hl 3 rfl) ?_
  refine zr_i2l hx hb (x := wh) (⟨by omega, by omega⟩) dX12_part_14 ?_
  refine lv_lconst (v := lz (0)) hx hb dX12_part_15 rfl ?_
  refine lv_aload_n hx hb dX12_part_16 rfl (lv_at hl 1 rfl) ?_
  refine va_get (D := G.1) (ci := 13) (v := .int (iz (0))) (C := RX12) (T := TX12) (N := 12) hx hb hts iwX12 hown hK hP 0 rfl rfl 8 (by decide) (hts (.fieldLink RX12 277 "AnnuityHouseModel" "weightMany" "I") (by decide +kernel)) (fun _ h9 => h9) rfl dX12_part_17 ?_
  refine lv_iconst (v := iz (1)) hx hb dX12_part_20 rfl ?_
  refine zr_isub hx hb dX12_part_21 ?_
  refine zr_i2l hx hb (x := 0 - 1) (⟨by decide, by decide⟩) dX12_part_22 ?_
  refine zc_z (wr := [(x, .inr (13, [.int (iz (th)), .int (iz (6)), .ref am, .null, .ref tb, .ref lv, .int (iz (0)), .ref wt, .int (iz (0)), .ref bg, .ref pm, .int (iz (0))]))]) (va_runS (As := [.long (lz (wh)), .long (lz (0)), .long (lz (0 - 1))]) (rest := [.int (iz (zbb false)), .ref x]) ⟨hx, hb, hml, hown, hts⟩ (c_X12_in l G wh 0 (0 - 1) (by omega) (by omega) (by omega) H.size) (va_cwS 3 hts gX12_part_X12_in rfl rfl rfl (by decide +kernel) ⟨Nat.le_of_ble_eq_true rfl, Nat.le_of_ble_eq_true rfl⟩) (zpS hKX hP hD [] rfl rfl) rfl rfl hl.1 rfl (lv_room (Nat.le_of_ble_eq_true rfl)) dX12_part_23 ⟨(by first | exact Nat.le_of_ble_eq_true rfl | (show _ ≤ (0 : Nat); omega)), (by first | exact Nat.le_of_ble_eq_true rfl | (show _ ≤ (0 : Nat); omega))⟩) hP hD hS hA [] [0] rfl rfl rfl (by decide) (fun y2 u_3 H locs hy2 hP hD hS => ?_)
  have hP : va_P G.1 vwCl [(x, .inr (13, [.int (iz (th)), .int (iz (6)), .ref am, .null, .ref tb, .ref lv, .int (iz (0)), .ref wt, .int (iz (0)), .ref bg, .ref pm, .int (iz (0))]))] H := hP
  have hD : va_D A [(x, .inr (13, [.int (iz (th)), .int (iz (6)), .ref am, .null, .ref tb, .ref lv, .int (iz (0)), .ref wt, .int (iz (0)), .ref bg, .ref pm, .int (iz (0))]))] := hD
  have hy2 : y2 = decide ((0 : Int) ≤ wh ∧ wh ≤ (0 - 1)) := hy2
  rw [show y2 = false from hy2.trans (decide_eq_false (by omega))]
  refine zr_ifz_eq (tgt := 42) hx hb dX12_part_26 (by decide) (fun h_5 => ?_) (fun h_5 => ?_)
  ·
    refine lv_iconst (v := iz (0)) hx hb dX12_part_42 rfl ?_
    refine lv_iconst (v := iz (1)) hx hb dX12_part_43 rfl ?_
    refine zc_z (wr := []) (va_runV (As := [.int (iz (zbb false)), .int (iz (0)), .int (iz (1))]) (rest := []) ⟨hx, hb, hml, hown, hts⟩ (c_X12_passes l G x th (.ref am) .null (.ref tb) (.ref lv) (.int (iz (0))) (.ref wt) (.int (iz (0))) (.ref bg) (.ref pm) (.int (iz (0))) 6 false false true  H.size) (cwV 3 hts gX12_part_X12_passes rfl rfl rfl (by decide +kernel) ⟨Nat.le_of_ble_eq_true rfl, Nat.le_of_ble_eq_true rfl⟩) (zpV hKX hP hD [0] rfl rfl 0 13 rfl rfl) rfl rfl hl.1 rfl (lv_room (Nat.le_of_ble_eq_true rfl)) dX12_part_44 ⟨(by first | exact Nat.le_of_ble_eq_true rfl | (show _ ≤ (0 : Nat); omega)), (by first | exact Nat.le_of_ble_eq_true rfl | (show _ ≤ (0 : Nat); omega))⟩) hP hD hS hA [0] [] rfl rfl rfl (by decide) (fun pz u_6 H locs hp hP hD hS => ?_)
    generalize u_6 = thp at hP hD hp
    have hP : va_P G.1 vwCl [(x, .inr (13, [.int (iz (thp)), .int (iz ((6 : Int))), .ref am, .null, .ref tb, .ref lv, .int (iz (0)), .ref wt, .int (iz (0)), .ref bg, .ref pm, .int (iz (0))]))] H := hP
    have hD : va_D A [(x, .inr (13, [.int (iz (thp)), .int (iz ((6 : Int))), .ref am, .null, .ref tb, .ref lv, .int (iz (0)), .ref wt, .int (iz (0)), .ref bg, .ref pm, .int (iz (0))]))] := hD
    have hp : pz = (false && false && true) ∧ thp = zcode false false true := hp
    rw [show pz = false from hp.1]
    have htp := hp.2
    refine zr_ifz_eq (tgt := 60) hx hb dX12_part_47 (by decide) (fun h_8 => ?_) (fun h_8 => ?_)
    ·
      refine lv_lconst (v := lz (0)) hx hb dX12_part_60 rfl ?_
      rw [hQ]
      exact zr_lret (z := 0) (u := (thp)) hx hb hr hlocks hP hD hS (by first | exact Nat.le_of_ble_eq_true rfl | omega) (by first | exact Nat.le_of_ble_eq_true rfl | omega) dX12_part_61 (show 0 = 0 ∧ thp = 1 from ⟨rfl, htp⟩)
    · exact absurd h_8 (by decide)
  · exact absurd h_5 (by decide)

def rm_c_X12_step_o : Room := { frames := 1, cells := 0, slots := 0, locals := 25 }
theorem iw_X12_step_X12 : ∀ w ∈ wsX120, w ∈ wsX12_step := by decide +kernel
set_option maxHeartbeats 1000000 in
set_option maxRecDepth 100000 in
theorem c_X12_step_o (l : Launch) (G : zG) (x : Nat) (am : Nat) (tb : Nat) (lv : Nat) (wt : Nat) (bg : Nat) (pm : Nat) (th : Int) (fr : Int) (pl : Int) (h0 : -9223372036854775808 ≤ fr ∧ fr < 9223372036854775808) (h01 : -2147483648 ≤ pl ∧ pl < 2147483648) (h1 : 0 ≤ fr ∧ fr ≤ 1000000000 ∧ 0 ≤ pl ∧ pl ≤ 1000) : zM l G yX12_step wsX12_step rm_c_X12_step_o [.ref x, .long (lz (fr)), .int (iz (pl))] [(x, .inr (13, [.int (iz (th)), .int (iz (6)), .ref am, .null, .ref tb, .ref lv, .int (iz (0)), .ref wt, .int (iz (0)), .ref bg, .ref pm, .int (iz (0))])), (bg, zaL (G.2 0) 8 (fun _ => 0)), (pm, zaI (G.2 1) 8 (fun _ => 0))] (fun A => zQi G (fun (z : Int) (th2 : Int) => z = 1 ∧ th2 = 0) (fun (th2 : Int) => [(x, .inr (13, [.int (iz (th2)), .int (iz (6)), .ref am, .null, .ref tb, .ref lv, .int (iz (0)), .ref wt, .int (iz (0)), .ref bg, .ref pm, .int (iz (0 + 1))]))]) A) 0 0 := by
  refine zM_of (cc := cX12_step) (maxL := 5) (ret := (some .int)) (by decide) rfl (Nat.le_of_ble_eq_true rfl) ?_
  intro p e s m below meth c ls A Q hQ hx hb hr hts hown hlocks hml hnm hKX hP hD hA hS hl
  have hK := hKX.1
  have iwX12 := iw_X12_step_X12
  obtain ⟨H, hH⟩ : ∃ h, h = s.heap := ⟨_, rfl⟩
  obtain ⟨locs, hlo⟩ : ∃ h : List Loc, h = [] := ⟨_, rfl⟩
  have hS : va_S A s.heap H locs := by rw [hH, hlo]; exact hS
  have hP : va_P G.1 vwCl [(x, .inr (13, [.int (iz (th)), .int (iz (6)), .ref am, .null, .ref tb, .ref lv, .int (iz (0)), .ref wt, .int (iz (0)), .ref bg, .ref pm, .int (iz (0))])), (bg, zaL (G.2 0) 8 (fun _ => 0)), (pm, zaI (G.2 1) 8 (fun _ => 0))] H := by rw [hH]; exact hP
  have hD : va_D A [(x, .inr (13, [.int (iz (th)), .int (iz (6)), .ref am, .null, .ref tb, .ref lv, .int (iz (0)), .ref wt, .int (iz (0)), .ref bg, .ref pm, .int (iz (0))])), (bg, zaL (G.2 0) 8 (fun _ => 0)), (pm, zaI (G.2 1) 8 (fun _ => 0))] := hD
  have hl : lv_has ls 5 [(0, .ref x), (1, .long (lz (fr))), (3, .int (iz (pl)))] := hl
  rw [← hH, ← hlo]
  refine lv_lload_n hx hb dX12_step_0 rfl (lv_at hl 1 rfl) ?_
  refine lv_aload_n hx hb dX12_step_1 rfl (lv_at hl 0 rfl) ?_
  refine va_get (D := G.1) (ci := 13) (v := .int (iz (0))) (C := RX12) (T := TX12) (N := 12) hx hb hts iwX12 hown hK hP 0 rfl rfl 11 (by decide) (hts (.fieldLink RX12 289 "AnnuityHouseModel" "steps" "I") (by decide +kernel)) (fun _ h9 => h9) rfl dX12_step_2 ?_
  refine zr_if_ne (x := 0) (tgt := 12) hx hb (⟨by omega, by omega⟩) dX12_step_5 (by decide) (fun h_1 => ?_) (fun h_1 => ?_)
  · exact absurd h_1 (by omega)
  ·
    refine lv_lconst (v := lz (0)) hx hb dX12_step_8 rfl ?_
    refine lv_goto (tgt := 25) hx hb dX12_step_9 (by decide) ?_
    refine zr_ldc2 (z := 1000000000) hx hb hown (hts (.constantLong RX12 121 (1000000000)) (by decide +kernel)) rfl dX12_step_25 ?_
    refine zc_z (wr := [(x, .inr (13, [.int (iz (th)), .int (iz (6)), .ref am, .null, .ref tb, .ref lv, .int (iz (0)), .ref wt, .int (iz (0)), .ref bg, .ref pm, .int (iz (0))])), (bg, zaL (G.2 0) 8 (fun _ => 0)), (pm, zaI (G.2 1) 8 (fun _ => 0))]) (va_runS (As := [.long (lz (fr)), .long (lz (0)), .long (lz (1000000000))]) (rest := []) ⟨hx, hb, hml, hown, hts⟩ (c_X12_in l G fr 0 1000000000 (by omega) (by omega) (by omega) H.size) (va_cwS 3 hts gX12_step_X12_in rfl rfl rfl (by decide +kernel) ⟨Nat.le_of_ble_eq_true rfl, Nat.le_of_ble_eq_true rfl⟩) (zpS hKX hP hD [] rfl rfl) rfl rfl hl.1 rfl (lv_room (Nat.le_of_ble_eq_true rfl)) dX12_step_28 ⟨(by first | exact Nat.le_of_ble_eq_true rfl | (show _ ≤ (0 : Nat); omega)), (by first | exact Nat.le_of_ble_eq_true rfl | (show _ ≤ (0 : Nat); omega))⟩) hP hD hS hA [] [0, 1, 2] rfl rfl rfl (by decide) (fun y1 u_2 H locs hy1 hP hD hS => ?_)
    have hP : va_P G.1 vwCl [(x, .inr (13, [.int (iz (th)), .int (iz (6)), .ref am, .null, .ref tb, .ref lv, .int (iz (0)), .ref wt, .int (iz (0)), .ref bg, .ref pm, .int (iz (0))])), (bg, zaL (G.2 0) 8 (fun _ => 0)), (pm, zaI (G.2 1) 8 (fun _ => 0))] H := hP
    have hD : va_D A [(x, .inr (13, [.int (iz (th)), .int (iz (6)), .ref am, .null, .ref tb, .ref lv, .int (iz (0)), .ref wt, .int (iz (0)), .ref bg, .ref pm, .int (iz (0))])), (bg, zaL (G.2 0) 8 (fun _ => 0)), (pm, zaI (G.2 1) 8 (fun _ => 0))] := hD
    have hy1 : y1 = decide ((0 : Int) ≤ fr ∧ fr ≤ (1000000000 : Int)) := hy1
    rw [show y1 = true from hy1.trans (decide_eq_true (by omega))]
    refine zr_ifz_eq (tgt := 50) hx hb dX12_step_31 (by decide) (fun h_4 => ?_) (fun h_4 => ?_)
    · exact absurd h_4 (by decide)
    ·
      refine lv_iload_n hx hb dX12_step_34 rfl (lv_at hl 2 rfl) ?_
      refine zr_i2l hx hb (x := pl) (⟨by omega, by omega⟩) dX12_step_35 ?_
      refine lv_lconst (v := lz (0)) hx hb dX12_step_36 rfl ?_
      refine zr_ldc2 (z := 1000) hx hb hown (hts (.constantLong RX12 292 (1000)) (by decide +kernel)) rfl dX12_step_37 ?_
      refine zc_z (wr := [(x, .inr (13, [.int (iz (th)), .int (iz (6)), .ref am, .null, .ref tb, .ref lv, .int (iz (0)), .ref wt, .int (iz (0)), .ref bg, .ref pm, .int (iz (0))])), (bg, zaL (G.2 0) 8 (fun _ => 0)), (pm, zaI (G.2 1) 8 (fun _ => 0))]) (va_runS (As := [.long (lz (pl)), .long (lz (0)), .long (lz (1000))]) (rest := []) ⟨hx, hb, hml, hown, hts⟩ (c_X12_in l G pl 0 1000 (by omega) (by omega) (by omega) H.size) (va_cwS 3 hts gX12_step_X12_in rfl rfl rfl (by decide +kernel) ⟨Nat.le_of_ble_eq_true rfl, Nat.le_of_ble_eq_true rfl⟩) (zpS hKX hP hD [] rfl rfl) rfl rfl hl.1 rfl (lv_room (Nat.le_of_ble_eq_true rfl)) dX12_step_40 ⟨(by first | exact Nat.le_of_ble_eq_true rfl | (show _ ≤ (0 : Nat); omega)), (by first | exact Nat.le_of_ble_eq_true rfl | (show _ ≤ (0 : Nat); omega))⟩) hP hD hS hA [] [0, 1, 2] rfl rfl rfl (by decide) (fun y2 u_5 H locs hy2 hP hD hS => ?_)
      have hP : va_P G.1 vwCl [(x, .inr (13, [.int (iz (th)), .int (iz (6)), .ref am, .null, .ref tb, .ref lv, .int (iz (0)), .ref wt, .int (iz (0)), .ref bg, .ref pm, .int (iz (0))])), (bg, zaL (G.2 0) 8 (fun _ => 0)), (pm, zaI (G.2 1) 8 (fun _ => 0))] H := hP
      have hD : va_D A [(x, .inr (13, [.int (iz (th)), .int (iz (6)), .ref am, .null, .ref tb, .ref lv, .int (iz (0)), .ref wt, .int (iz (0)), .ref bg, .ref pm, .int (iz (0))])), (bg, zaL (G.2 0) 8 (fun _ => 0)), (pm, zaI (G.2 1) 8 (fun _ => 0))] := hD
      have hy2 : y2 = decide ((0 : Int) ≤ pl ∧ pl ≤ (1000 : Int)) := hy2
      rw [show y2 = true from hy2.trans (decide_eq_true (by omega))]
      refine zr_ifz_eq (tgt := 50) hx hb dX12_step_43 (by decide) (fun h_7 => ?_) (fun h_7 => ?_)
      · exact absurd h_7 (by decide)
      ·
        refine lv_iconst (v := iz (1)) hx hb dX12_step_46 rfl ?_
        refine lv_goto (tgt := 51) hx hb dX12_step_47 (by decide) ?_
        refine lv_istore (lv' := [(4, .int (iz (1))), (0, .ref x), (1, .long (lz (fr))), (3, .int (iz (pl)))]) hx hb dX12_step_51 hl (by decide) rfl (fun ls hl => ?_)
        refine lv_aload_n hx hb dX12_step_53 rfl (lv_at hl 1 rfl) ?_
        refine lv_iload hx hb dX12_step_54 (lv_at hl 0 rfl) ?_
        refine lv_aload_n hx hb dX12_step_56 rfl (lv_at hl 1 rfl) ?_
        refine va_get (D := G.1) (ci := 13) (v := .int (iz (0))) (C := RX12) (T := TX12) (N := 12) hx hb hts iwX12 hown hK hP 0 rfl rfl 11 (by decide) (hts (.fieldLink RX12 289 "AnnuityHouseModel" "steps" "I") (by decide +kernel)) (fun _ h9 => h9) rfl dX12_step_57 ?_
        refine lv_bipush (v := iz (8)) hx hb dX12_step_60 rfl ?_
        refine zr_icmp_ge (x := 0) (y := 8) (tgt := 69) hx hb (⟨by omega, by omega⟩) (⟨by omega, by omega⟩) dX12_step_62 (by decide) (fun h_8 => ?_) (fun h_8 => ?_)
        · exact absurd h_8 (by omega)
        ·
          refine lv_iconst (v := iz (1)) hx hb dX12_step_65 rfl ?_
          refine lv_goto (tgt := 70) hx hb dX12_step_66 (by decide) ?_
          refine lv_iconst (v := iz (1)) hx hb dX12_step_70 rfl ?_
          refine zc_z (wr := [(bg, zaL (G.2 0) 8 (fun _ => 0)), (pm, zaI (G.2 1) 8 (fun _ => 0))]) (va_runV (As := [.int (iz (1)), .int (iz (1)), .int (iz (1))]) (rest := []) ⟨hx, hb, hml, hown, hts⟩ (c_X12_passes l G x th (.ref am) .null (.ref tb) (.ref lv) (.int (iz (0))) (.ref wt) (.int (iz (0))) (.ref bg) (.ref pm) (.int (iz (0))) 6 true true true  H.size) (cwV 3 hts gX12_step_X12_passes rfl rfl rfl (by decide +kernel) ⟨Nat.le_of_ble_eq_true rfl, Nat.le_of_ble_eq_true rfl⟩) (zpV hKX hP hD [0] rfl rfl 0 13 rfl rfl) rfl rfl hl.1 rfl (lv_room (Nat.le_of_ble_eq_true rfl)) dX12_step_71 ⟨(by first | exact Nat.le_of_ble_eq_true rfl | (show _ ≤ (0 : Nat); omega)), (by first | exact Nat.le_of_ble_eq_true rfl | (show _ ≤ (0 : Nat); omega))⟩) hP hD hS hA [0] [1, 2] rfl rfl rfl (by decide) (fun pz u_9 H locs hp hP hD hS => ?_)
          generalize u_9 = thp at hP hD hp
          have hP : va_P G.1 vwCl [(bg, zaL (G.2 0) 8 (fun _ => 0)), (pm, zaI (G.2 1) 8 (fun _ => 0)), (x, .inr (13, [.int (iz (thp)), .int (iz ((6 : Int))), .ref am, .null, .ref tb, .ref lv, .int (iz (0)), .ref wt, .int (iz (0)), .ref bg, .ref pm, .int (iz (0))]))] H := hP
          have hD : va_D A [(bg, zaL (G.2 0) 8 (fun _ => 0)), (pm, zaI (G.2 1) 8 (fun _ => 0)), (x, .inr (13, [.int (iz (thp)), .int (iz ((6 : Int))), .ref am, .null, .ref tb, .ref lv, .int (iz (0)), .ref wt, .int (iz (0)), .ref bg, .ref pm, .int (iz (0))]))] := hD
          have hp : pz = (true && true && true) ∧ thp = zcode true true true := hp
          rw [show pz = true from hp.1]
          have htp := hp.2
          refine zr_ifz_ne (tgt := 79) hx hb dX12_step_74 (by decide) (fun h_11 => ?_) (fun h_11 => ?_)
          ·
            refine lv_aload_n hx hb dX12_step_79 rfl (lv_at hl 1 rfl) ?_
            refine va_get (D := G.1) (ci := 13) (v := .ref bg) (C := RX12) (T := TX12) (N := 12) hx hb hts iwX12 hown hK hP 2 rfl rfl 9 (by decide) (hts (.fieldLink RX12 83 "AnnuityHouseModel" "begins" "[J") (by decide +kernel)) (fun _ h9 => h9) rfl dX12_step_80 ?_
            refine lv_aload_n hx hb dX12_step_83 rfl (lv_at hl 1 rfl) ?_
            refine va_get (D := G.1) (ci := 13) (v := .int (iz (0))) (C := RX12) (T := TX12) (N := 12) hx hb hts iwX12 hown hK hP 2 rfl rfl 11 (by decide) (hts (.fieldLink RX12 289 "AnnuityHouseModel" "steps" "I") (by decide +kernel)) (fun _ h9 => h9) rfl dX12_step_84 ?_
            refine lv_lload_n hx hb dX12_step_87 rfl (lv_at hl 2 rfl) ?_
            refine zr_last hx hb hK hP hD hS 0 0 rfl rfl (i := 0) (x := fr) (⟨by omega, by omega, by omega⟩) dX12_step_88 (fun H locs hP hD hS => ?_)
            have hP : va_P G.1 vwCl [(bg, zaL (G.2 0) 8 (zup (fun _ => 0) 0 fr)), (pm, zaI (G.2 1) 8 (fun _ => 0)), (x, .inr (13, [.int (iz (thp)), .int (iz ((6 : Int))), .ref am, .null, .ref tb, .ref lv, .int (iz (0)), .ref wt, .int (iz (0)), .ref bg, .ref pm, .int (iz (0))]))] H := hP
            have hD : va_D A [(bg, zaL (G.2 0) 8 (zup (fun _ => 0) 0 fr)), (pm, zaI (G.2 1) 8 (fun _ => 0)), (x, .inr (13, [.int (iz (thp)), .int (iz ((6 : Int))), .ref am, .null, .ref tb, .ref lv, .int (iz (0)), .ref wt, .int (iz (0)), .ref bg, .ref pm, .int (iz (0))]))] := hD
            refine lv_aload_n hx hb dX12_step_89 rfl (lv_at hl 1 rfl) ?_
            refine va_get (D := G.1) (ci := 13) (v := .ref pm) (C := RX12) (T := TX12) (N := 12) hx hb hts iwX12 hown hK hP 2 rfl rfl 10 (by decide) (hts (.fieldLink RX12 86 "AnnuityHouseModel" "permilles" "[I") (by decide +kernel)) (fun _ h9 => h9) rfl dX12_step_90 ?_
            refine lv_aload_n hx hb dX12_step_93 rfl (lv_at hl 1 rfl) ?_
            refine va_get (D := G.1) (ci := 13) (v := .int (iz (0))) (C := RX12) (T := TX12) (N := 12) hx hb hts iwX12 hown hK hP 2 rfl rfl 11 (by decide) (hts (.fieldLink RX12 289 "AnnuityHouseModel" "steps" "I") (by decide +kernel)) (fun _ h9 => h9) rfl dX12_step_94 ?_
            refine lv_iload_n hx hb dX12_step_97 rfl (lv_at hl 3 rfl) ?_
            refine zr_iast hx hb hK hP hD hS 1 1 rfl rfl (i := 0) (x := pl) (⟨by omega, by omega, by omega⟩) dX12_step_98 (fun H locs hP hD hS => ?_)
            have hP : va_P G.1 vwCl [(bg, zaL (G.2 0) 8 (zup (fun _ => 0) 0 fr)), (pm, zaI (G.2 1) 8 (zup (fun _ => 0) 0 pl)), (x, .inr (13, [.int (iz (thp)), .int (iz ((6 : Int))), .ref am, .null, .ref tb, .ref lv, .int (iz (0)), .ref wt, .int (iz (0)), .ref bg, .ref pm, .int (iz (0))]))] H := hP
            have hD : va_D A [(bg, zaL (G.2 0) 8 (zup (fun _ => 0) 0 fr)), (pm, zaI (G.2 1) 8 (zup (fun _ => 0) 0 pl)), (x, .inr (13, [.int (iz (thp)), .int (iz ((6 : Int))), .ref am, .null, .ref tb, .ref lv, .int (iz (0)), .ref wt, .int (iz (0)), .ref bg, .ref pm, .int (iz (0))]))] := hD
            refine lv_aload_n hx hb dX12_step_99 rfl (lv_at hl 1 rfl) ?_
            refine lv_dup hx hb dX12_step_100 rfl ?_
            refine va_get (D := G.1) (ci := 13) (v := .int (iz (0))) (C := RX12) (T := TX12) (N := 12) hx hb hts iwX12 hown hK hP 2 rfl rfl 11 (by decide) (hts (.fieldLink RX12 289 "AnnuityHouseModel" "steps" "I") (by decide +kernel)) (fun _ h9 => h9) rfl dX12_step_101 ?_
            refine lv_iconst (v := iz (1)) hx hb dX12_step_104 rfl ?_
            refine zr_iadd hx hb dX12_step_105 ?_
            refine va_put (D := G.1) (ci := 13) (v := .int (iz (0 + 1))) (ty := .int) (C := RX12) (T := TX12) (N := 12) hx hb hts iwX12 tyX12 tyX12_ok nmX12 hown hK hP hD hS 2 rfl rfl 11 (by decide) (hts (.fieldLink RX12 289 "AnnuityHouseModel" "steps" "I") (by decide +kernel)) (fun _ h9 => h9) rfl (by decide +kernel) rfl rfl (Nat.le_of_ble_eq_true rfl) dX12_step_106 (fun H locs hP hD hS => ?_)
            have hP : va_P G.1 vwCl [(bg, zaL (G.2 0) 8 (zup (fun _ => 0) 0 fr)), (pm, zaI (G.2 1) 8 (zup (fun _ => 0) 0 pl)), (x, .inr (13, [.int (iz (thp)), .int (iz ((6 : Int))), .ref am, .null, .ref tb, .ref lv, .int (iz (0)), .ref wt, .int (iz (0)), .ref bg, .ref pm, .int (iz (0 + 1))]))] H := hP
            have hD : va_D A [(bg, zaL (G.2 0) 8 (zup (fun _ => 0) 0 fr)), (pm, zaI (G.2 1) 8 (zup (fun _ => 0) 0 pl)), (x, .inr (13, [.int (iz (thp)), .int (iz ((6 : Int))), .ref am, .null, .ref tb, .ref lv, .int (iz (0)), .ref wt, .int (iz (0)), .ref bg, .ref pm, .int (iz (0 + 1))]))] := hD
            refine lv_aload_n hx hb dX12_step_109 rfl (lv_at hl 1 rfl) ?_
            refine va_get (D := G.1) (ci := 13) (v := .int (iz (0 + 1))) (C := RX12) (T := TX12) (N := 12) hx hb hts iwX12 hown hK hP 2 rfl rfl 11 (by decide) (hts (.fieldLink RX12 289 "AnnuityHouseModel" "steps" "I") (by decide +kernel)) (fun _ h9 => h9) rfl dX12_step_110 ?_
            rw [hQ]
            exact zr_iret (z := 0 + 1) (u := (thp)) hx hb hr hlocks (hP.sub [2] rfl) (hD.sub [2] (by decide) rfl) hS (by first | exact Nat.le_of_ble_eq_true rfl | omega) (by first | exact Nat.le_of_ble_eq_true rfl | omega) dX12_step_113 (show (0 + 1) = 1 ∧ thp = 0 from ⟨rfl, htp⟩)
          · exact absurd h_11 (by decide)

def rm_c_X12_step_x : Room := { frames := 1, cells := 0, slots := 0, locals := 25 }
set_option maxHeartbeats 1000000 in
set_option maxRecDepth 100000 in
theorem c_X12_step_x (l : Launch) (G : zG) (x : Nat) (am : Nat) (tb : Nat) (lv : Nat) (wt : Nat) (bg : Nat) (pm : Nat) (th : Int) (fr : Int) (pl : Int) (h0 : -9223372036854775808 ≤ fr ∧ fr < 9223372036854775808) (h01 : -2147483648 ≤ pl ∧ pl < 2147483648) (h1 : ¬ (0 ≤ fr ∧ fr ≤ 1000000000 ∧ 0 ≤ pl ∧ pl ≤ 1000)) : zM l G yX12_step wsX12_step rm_c_X12_step_x [.ref x, .long (lz (fr)), .int (iz (pl))] [(x, .inr (13, [.int (iz (th)), .int (iz (6)), .ref am, .null, .ref tb, .ref lv, .int (iz (0)), .ref wt, .int (iz (0)), .ref bg, .ref pm, .int (iz (0))])), (bg, zaL (G.2 0) 8 (fun _ => 0)), (pm, zaI (G.2 1) 8 (fun _ => 0))] (fun A => zQi G (fun (z : Int) (th2 : Int) => z = 0 ∧ th2 = 1) (fun (th2 : Int) => [(x, .inr (13, [.int (iz (th2)), .int (iz (6)), .ref am, .null, .ref tb, .ref lv, .int (iz (0)), .ref wt, .int (iz (0)), .ref bg, .ref pm, .int (iz (0))]))]) A) 0 0 := by
  refine zM_of (cc := cX12_step) (maxL := 5) (ret := (some .int)) (by decide) rfl (Nat.le_of_ble_eq_true rfl) ?_
  intro p e s m below meth c ls A Q hQ hx hb hr hts hown hlocks hml hnm hKX hP hD hA hS hl
  have hK := hKX.1
  have iwX12 := iw_X12_step_X12
  obtain ⟨H, hH⟩ : ∃ h, h = s.heap := ⟨_, rfl⟩
  obtain ⟨locs, hlo⟩ : ∃ h : List Loc, h = [] := ⟨_, rfl⟩
  have hS : va_S A s.heap H locs := by rw [hH, hlo]; exact hS
  have hP : va_P G.1 vwCl [(x, .inr (13, [.int (iz (th)), .int (iz (6)), .ref am, .null, .ref tb, .ref lv, .int (iz (0)), .ref wt, .int (iz (0)), .ref bg, .ref pm, .int (iz (0))])), (bg, zaL (G.2 0) 8 (fun _ => 0)), (pm, zaI (G.2 1) 8 (fun _ => 0))] H := by rw [hH]; exact hP
  have hD : va_D A [(x, .inr (13, [.int (iz (th)), .int (iz (6)), .ref am, .null, .ref tb, .ref lv, .int (iz (0)), .ref wt, .int (iz (0)), .ref bg, .ref pm, .int (iz (0))])), (bg, zaL (G.2 0) 8 (fun _ => 0)), (pm, zaI (G.2 1) 8 (fun _ => 0))] := hD
  have hl : lv_has ls 5 [(0, .ref x), (1, .long (lz (fr))), (3, .int (iz (pl)))] := hl
  rw [← hH, ← hlo]
  refine lv_lload_n hx hb dX12_step_0 rfl (lv_at hl 1 rfl) ?_
  refine lv_aload_n hx hb dX12_step_1 rfl (lv_at hl 0 rfl) ?_
  refine va_get (D := G.1) (ci := 13) (v := .int (iz (0))) (C := RX12) (T := TX12) (N := 12) hx hb hts iwX12 hown hK hP 0 rfl rfl 11 (by decide) (hts (.fieldLink RX12 289 "AnnuityHouseModel" "steps" "I") (by decide +kernel)) (fun _ h9 => h9) rfl dX12_step_2 ?_
  refine zr_if_ne (x := 0) (tgt := 12) hx hb (⟨by omega, by omega⟩) dX12_step_5 (by decide) (fun h_1 => ?_) (fun h_1 => ?_)
  · exact absurd h_1 (by omega)
  ·
    refine lv_lconst (v := lz (0)) hx hb dX12_step_8 rfl ?_
    refine lv_goto (tgt := 25) hx hb dX12_step_9 (by decide) ?_
    refine zr_ldc2 (z := 1000000000) hx hb hown (hts (.constantLong RX12 121 (1000000000)) (by decide +kernel)) rfl dX12_step_25 ?_
    refine zc_z (wr := [(x, .inr (13, [.int (iz (th)), .int (iz (6)), .ref am, .null, .ref tb, .ref lv, .int (iz (0)), .ref wt, .int (iz (0)), .ref bg, .ref pm, .int (iz (0))])), (bg, zaL (G.2 0) 8 (fun _ => 0)), (pm, zaI (G.2 1) 8 (fun _ => 0))]) (va_runS (As := [.long (lz (fr)), .long (lz (0)), .long (lz (1000000000))]) (rest := []) ⟨hx, hb, hml, hown, hts⟩ (c_X12_in l G fr 0 1000000000 (by omega) (by omega) (by omega) H.size) (va_cwS 3 hts gX12_step_X12_in rfl rfl rfl (by decide +kernel) ⟨Nat.le_of_ble_eq_true rfl, Nat.le_of_ble_eq_true rfl⟩) (zpS hKX hP hD [] rfl rfl) rfl rfl hl.1 rfl (lv_room (Nat.le_of_ble_eq_true rfl)) dX12_step_28 ⟨(by first | exact Nat.le_of_ble_eq_true rfl | (show _ ≤ (0 : Nat); omega)), (by first | exact Nat.le_of_ble_eq_true rfl | (show _ ≤ (0 : Nat); omega))⟩) hP hD hS hA [] [0, 1, 2] rfl rfl rfl (by decide) (fun y1 u_2 H locs hy1 hP hD hS => ?_)
    have hP : va_P G.1 vwCl [(x, .inr (13, [.int (iz (th)), .int (iz (6)), .ref am, .null, .ref tb, .ref lv, .int (iz (0)), .ref wt, .int (iz (0)), .ref bg, .ref pm, .int (iz (0))])), (bg, zaL (G.2 0) 8 (fun _ => 0)), (pm, zaI (G.2 1) 8 (fun _ => 0))] H := hP
    have hD : va_D A [(x, .inr (13, [.int (iz (th)), .int (iz (6)), .ref am, .null, .ref tb, .ref lv, .int (iz (0)), .ref wt, .int (iz (0)), .ref bg, .ref pm, .int (iz (0))])), (bg, zaL (G.2 0) 8 (fun _ => 0)), (pm, zaI (G.2 1) 8 (fun _ => 0))] := hD
    have hy1 : y1 = decide ((0 : Int) ≤ fr ∧ fr ≤ (1000000000 : Int)) := hy1
    refine zr_ifz_eq (tgt := 50) hx hb dX12_step_31 (by decide) (fun h_4 => ?_) (fun h_4 => ?_)
    ·
      have hzy1 := of_decide_eq_false (hy1.symm.trans h_4)
      refine lv_iconst (v := iz (0)) hx hb dX12_step_50 rfl ?_
      refine lv_istore (lv' := [(4, .int (iz (0))), (0, .ref x), (1, .long (lz (fr))), (3, .int (iz (pl)))]) hx hb dX12_step_51 hl (by decide) rfl (fun ls hl => ?_)
      refine lv_aload_n hx hb dX12_step_53 rfl (lv_at hl 1 rfl) ?_
      refine lv_iload hx hb dX12_step_54 (lv_at hl 0 rfl) ?_
      refine lv_aload_n hx hb dX12_step_56 rfl (lv_at hl 1 rfl) ?_
      refine va_get (D := G.1) (ci := 13) (v := .int (iz (0))) (C := RX12) (T := TX12) (N := 12) hx hb hts iwX12 hown hK hP 0 rfl rfl 11 (by decide) (hts (.fieldLink RX12 289 "AnnuityHouseModel" "steps" "I") (by decide +kernel)) (fun _ h9 => h9) rfl dX12_step_57 ?_
      refine lv_bipush (v := iz (8)) hx hb dX12_step_60 rfl ?_
      refine zr_icmp_ge (x := 0) (y := 8) (tgt := 69) hx hb (⟨by omega, by omega⟩) (⟨by omega, by omega⟩) dX12_step_62 (by decide) (fun h_5 => ?_) (fun h_5 => ?_)
      · exact absurd h_5 (by omega)
      ·
        refine lv_iconst (v := iz (1)) hx hb dX12_step_65 rfl ?_
        refine lv_goto (tgt := 70) hx hb dX12_step_66 (by decide) ?_
        refine lv_iconst (v := iz (1)) hx hb dX12_step_70 rfl ?_
        refine zc_z (wr := [(bg, zaL (G.2 0) 8 (fun _ => 0)), (pm, zaI (G.2 1) 8 (fun _ => 0))]) (va_runV (As := [.int (iz (0)), .int (iz (1)), .int (iz (1))]) (rest := []) ⟨hx, hb, hml, hown, hts⟩ (c_X12_passes l G x th (.ref am) .null (.ref tb) (.ref lv) (.int (iz (0))) (.ref wt) (.int (iz (0))) (.ref bg) (.ref pm) (.int (iz (0))) 6 false true true  H.size) (cwV 3 hts gX12_step_X12_passes rfl rfl rfl (by decide +kernel) ⟨Nat.le_of_ble_eq_true rfl, Nat.le_of_ble_eq_true rfl⟩) (zpV hKX hP hD [0] rfl rfl 0 13 rfl rfl) rfl rfl hl.1 rfl (lv_room (Nat.le_of_ble_eq_true rfl)) dX12_step_71 ⟨(by first | exact Nat.le_of_ble_eq_true rfl | (show _ ≤ (0 : Nat); omega)), (by first | exact Nat.le_of_ble_eq_true rfl | (show _ ≤ (0 : Nat); omega))⟩) hP hD hS hA [0] [1, 2] rfl rfl rfl (by decide) (fun pz u_6 H locs hp hP hD hS => ?_)
        generalize u_6 = thp at hP hD hp
        have hP : va_P G.1 vwCl [(bg, zaL (G.2 0) 8 (fun _ => 0)), (pm, zaI (G.2 1) 8 (fun _ => 0)), (x, .inr (13, [.int (iz (thp)), .int (iz ((6 : Int))), .ref am, .null, .ref tb, .ref lv, .int (iz (0)), .ref wt, .int (iz (0)), .ref bg, .ref pm, .int (iz (0))]))] H := hP
        have hD : va_D A [(bg, zaL (G.2 0) 8 (fun _ => 0)), (pm, zaI (G.2 1) 8 (fun _ => 0)), (x, .inr (13, [.int (iz (thp)), .int (iz ((6 : Int))), .ref am, .null, .ref tb, .ref lv, .int (iz (0)), .ref wt, .int (iz (0)), .ref bg, .ref pm, .int (iz (0))]))] := hD
        have hp : pz = (false && true && true) ∧ thp = zcode false true true := hp
        rw [show pz = false from hp.1]
        have htp := hp.2
        refine zr_ifz_ne (tgt := 79) hx hb dX12_step_74 (by decide) (fun h_8 => ?_) (fun h_8 => ?_)
        · exact absurd h_8 (by decide)
        ·
          refine lv_iconst (v := iz (0)) hx hb dX12_step_77 rfl ?_
          rw [hQ]
          exact zr_iret (z := 0) (u := (thp)) hx hb hr hlocks (hP.sub [2] rfl) (hD.sub [2] (by decide) rfl) hS (by first | exact Nat.le_of_ble_eq_true rfl | omega) (by first | exact Nat.le_of_ble_eq_true rfl | omega) dX12_step_78 (show 0 = 0 ∧ thp = 1 from ⟨rfl, htp⟩)
    ·
      have hzy1 := of_decide_eq_true (hy1.symm.trans h_4)
      refine lv_iload_n hx hb dX12_step_34 rfl (lv_at hl 2 rfl) ?_
      refine zr_i2l hx hb (x := pl) (⟨by omega, by omega⟩) dX12_step_35 ?_
      refine lv_lconst (v := lz (0)) hx hb dX12_step_36 rfl ?_
      refine zr_ldc2 (z := 1000) hx hb hown (hts (.constantLong RX12 292 (1000)) (by decide +kernel)) rfl dX12_step_37 ?_
      refine zc_z (wr := [(x, .inr (13, [.int (iz (th)), .int (iz (6)), .ref am, .null, .ref tb, .ref lv, .int (iz (0)), .ref wt, .int (iz (0)), .ref bg, .ref pm, .int (iz (0))])), (bg, zaL (G.2 0) 8 (fun _ => 0)), (pm, zaI (G.2 1) 8 (fun _ => 0))]) (va_runS (As := [.long (lz (pl)), .long (lz (0)), .long (lz (1000))]) (rest := []) ⟨hx, hb, hml, hown, hts⟩ (c_X12_in l G pl 0 1000 (by omega) (by omega) (by omega) H.size) (va_cwS 3 hts gX12_step_X12_in rfl rfl rfl (by decide +kernel) ⟨Nat.le_of_ble_eq_true rfl, Nat.le_of_ble_eq_true rfl⟩) (zpS hKX hP hD [] rfl rfl) rfl rfl hl.1 rfl (lv_room (Nat.le_of_ble_eq_true rfl)) dX12_step_40 ⟨(by first | exact Nat.le_of_ble_eq_true rfl | (show _ ≤ (0 : Nat); omega)), (by first | exact Nat.le_of_ble_eq_true rfl | (show _ ≤ (0 : Nat); omega))⟩) hP hD hS hA [] [0, 1, 2] rfl rfl rfl (by decide) (fun y2 u_9 H locs hy2 hP hD hS => ?_)
      have hP : va_P G.1 vwCl [(x, .inr (13, [.int (iz (th)), .int (iz (6)), .ref am, .null, .ref tb, .ref lv, .int (iz (0)), .ref wt, .int (iz (0)), .ref bg, .ref pm, .int (iz (0))])), (bg, zaL (G.2 0) 8 (fun _ => 0)), (pm, zaI (G.2 1) 8 (fun _ => 0))] H := hP
      have hD : va_D A [(x, .inr (13, [.int (iz (th)), .int (iz (6)), .ref am, .null, .ref tb, .ref lv, .int (iz (0)), .ref wt, .int (iz (0)), .ref bg, .ref pm, .int (iz (0))])), (bg, zaL (G.2 0) 8 (fun _ => 0)), (pm, zaI (G.2 1) 8 (fun _ => 0))] := hD
      have hy2 : y2 = decide ((0 : Int) ≤ pl ∧ pl ≤ (1000 : Int)) := hy2
      refine zr_ifz_eq (tgt := 50) hx hb dX12_step_43 (by decide) (fun h_11 => ?_) (fun h_11 => ?_)
      ·
        have hzy2 := of_decide_eq_false (hy2.symm.trans h_11)
        refine lv_iconst (v := iz (0)) hx hb dX12_step_50 rfl ?_
        refine lv_istore (lv' := [(4, .int (iz (0))), (0, .ref x), (1, .long (lz (fr))), (3, .int (iz (pl)))]) hx hb dX12_step_51 hl (by decide) rfl (fun ls hl => ?_)
        refine lv_aload_n hx hb dX12_step_53 rfl (lv_at hl 1 rfl) ?_
        refine lv_iload hx hb dX12_step_54 (lv_at hl 0 rfl) ?_
        refine lv_aload_n hx hb dX12_step_56 rfl (lv_at hl 1 rfl) ?_
        refine va_get (D := G.1) (ci := 13) (v := .int (iz (0))) (C := RX12) (T := TX12) (N := 12) hx hb hts iwX12 hown hK hP 0 rfl rfl 11 (by decide) (hts (.fieldLink RX12 289 "AnnuityHouseModel" "steps" "I") (by decide +kernel)) (fun _ h9 => h9) rfl dX12_step_57 ?_
        refine lv_bipush (v := iz (8)) hx hb dX12_step_60 rfl ?_
        refine zr_icmp_ge (x := 0) (y := 8) (tgt := 69) hx hb (⟨by omega, by omega⟩) (⟨by omega, by omega⟩) dX12_step_62 (by decide) (fun h_12 => ?_) (fun h_12 => ?_)
        · exact absurd h_12 (by omega)
        ·
          refine lv_iconst (v := iz (1)) hx hb dX12_step_65 rfl ?_
          refine lv_goto (tgt := 70) hx hb dX12_step_66 (by decide) ?_
          refine lv_iconst (v := iz (1)) hx hb dX12_step_70 rfl ?_
          refine zc_z (wr := [(bg, zaL (G.2 0) 8 (fun _ => 0)), (pm, zaI (G.2 1) 8 (fun _ => 0))]) (va_runV (As := [.int (iz (0)), .int (iz (1)), .int (iz (1))]) (rest := []) ⟨hx, hb, hml, hown, hts⟩ (c_X12_passes l G x th (.ref am) .null (.ref tb) (.ref lv) (.int (iz (0))) (.ref wt) (.int (iz (0))) (.ref bg) (.ref pm) (.int (iz (0))) 6 false true true  H.size) (cwV 3 hts gX12_step_X12_passes rfl rfl rfl (by decide +kernel) ⟨Nat.le_of_ble_eq_true rfl, Nat.le_of_ble_eq_true rfl⟩) (zpV hKX hP hD [0] rfl rfl 0 13 rfl rfl) rfl rfl hl.1 rfl (lv_room (Nat.le_of_ble_eq_true rfl)) dX12_step_71 ⟨(by first | exact Nat.le_of_ble_eq_true rfl | (show _ ≤ (0 : Nat); omega)), (by first | exact Nat.le_of_ble_eq_true rfl | (show _ ≤ (0 : Nat); omega))⟩) hP hD hS hA [0] [1, 2] rfl rfl rfl (by decide) (fun pz u_13 H locs hp hP hD hS => ?_)
          generalize u_13 = thp at hP hD hp
          have hP : va_P G.1 vwCl [(bg, zaL (G.2 0) 8 (fun _ => 0)), (pm, zaI (G.2 1) 8 (fun _ => 0)), (x, .inr (13, [.int (iz (thp)), .int (iz ((6 : Int))), .ref am, .null, .ref tb, .ref lv, .int (iz (0)), .ref wt, .int (iz (0)), .ref bg, .ref pm, .int (iz (0))]))] H := hP
          have hD : va_D A [(bg, zaL (G.2 0) 8 (fun _ => 0)), (pm, zaI (G.2 1) 8 (fun _ => 0)), (x, .inr (13, [.int (iz (thp)), .int (iz ((6 : Int))), .ref am, .null, .ref tb, .ref lv, .int (iz (0)), .ref wt, .int (iz (0)), .ref bg, .ref pm, .int (iz (0))]))] := hD
          have hp : pz = (false && true && true) ∧ thp = zcode false true true := hp
          rw [show pz = false from hp.1]
          have htp := hp.2
          refine zr_ifz_ne (tgt := 79) hx hb dX12_step_74 (by decide) (fun h_15 => ?_) (fun h_15 => ?_)
          · exact absurd h_15 (by decide)
          ·
            refine lv_iconst (v := iz (0)) hx hb dX12_step_77 rfl ?_
            rw [hQ]
            exact zr_iret (z := 0) (u := (thp)) hx hb hr hlocks (hP.sub [2] rfl) (hD.sub [2] (by decide) rfl) hS (by first | exact Nat.le_of_ble_eq_true rfl | omega) (by first | exact Nat.le_of_ble_eq_true rfl | omega) dX12_step_78 (show 0 = 0 ∧ thp = 1 from ⟨rfl, htp⟩)
      ·
        have hzy2 := of_decide_eq_true (hy2.symm.trans h_11)
        exact absurd h1 (by omega)

def rm_c_X12_clearSteps : Room := { frames := 0, cells := 0, slots := 0, locals := 0 }
theorem iw_X12_clearSteps_X12 : ∀ w ∈ wsX120, w ∈ wsX12_clearSteps := by decide +kernel
set_option maxHeartbeats 1000000 in
set_option maxRecDepth 100000 in
theorem c_X12_clearSteps (l : Launch) (G : zG) (x : Nat) (am : Nat) (tb : Nat) (lv : Nat) (wt : Nat) (bg : Nat) (pm : Nat) (th : Int)  : zM l G yX12_clearSteps wsX12_clearSteps rm_c_X12_clearSteps [.ref x] [(x, .inr (13, [.int (iz (th)), .int (iz (6)), .ref am, .null, .ref tb, .ref lv, .int (iz (0)), .ref wt, .int (iz (0)), .ref bg, .ref pm, .int (iz (0))]))] (fun A => zQi G (fun (z : Int) (th2 : Int) => z = 0 ∧ th2 = 0) (fun (th2 : Int) => [(x, .inr (13, [.int (iz (th2)), .int (iz (6)), .ref am, .null, .ref tb, .ref lv, .int (iz (0)), .ref wt, .int (iz (0)), .ref bg, .ref pm, .int (iz (0))]))]) A) 0 0 := by
  refine zM_of (cc := cX12_clearSteps) (maxL := 2) (ret := (some .int)) (by decide) rfl (Nat.le_of_ble_eq_true rfl) ?_
  intro p e s m below meth c ls A Q hQ hx hb hr hts hown hlocks hml hnm hKX hP hD hA hS hl
  have hK := hKX.1
  have iwX12 := iw_X12_clearSteps_X12
  obtain ⟨H, hH⟩ : ∃ h, h = s.heap := ⟨_, rfl⟩
  obtain ⟨locs, hlo⟩ : ∃ h : List Loc, h = [] := ⟨_, rfl⟩
  have hS : va_S A s.heap H locs := by rw [hH, hlo]; exact hS
  have hP : va_P G.1 vwCl [(x, .inr (13, [.int (iz (th)), .int (iz (6)), .ref am, .null, .ref tb, .ref lv, .int (iz (0)), .ref wt, .int (iz (0)), .ref bg, .ref pm, .int (iz (0))]))] H := by rw [hH]; exact hP
  have hD : va_D A [(x, .inr (13, [.int (iz (th)), .int (iz (6)), .ref am, .null, .ref tb, .ref lv, .int (iz (0)), .ref wt, .int (iz (0)), .ref bg, .ref pm, .int (iz (0))]))] := hD
  have hl : lv_has ls 2 [(0, .ref x)] := hl
  rw [← hH, ← hlo]
  refine lv_aload_n hx hb dX12_clearSteps_0 rfl (lv_at hl 0 rfl) ?_
  refine lv_iconst (v := iz (0)) hx hb dX12_clearSteps_1 rfl ?_
  refine va_put (D := G.1) (ci := 13) (v := .int (iz (0))) (ty := .int) (C := RX12) (T := TX12) (N := 12) hx hb hts iwX12 tyX12 tyX12_ok nmX12 hown hK hP hD hS 0 rfl rfl 0 (by decide) (hts (.fieldLink RX12 1 "AnnuityHouseModel" "thrown" "I") (by decide +kernel)) (fun _ h9 => h9) rfl (by decide +kernel) rfl rfl (Nat.le_of_ble_eq_true rfl) dX12_clearSteps_2 (fun H locs hP hD hS => ?_)
  have hP : va_P G.1 vwCl [(x, .inr (13, [.int (iz (0)), .int (iz (6)), .ref am, .null, .ref tb, .ref lv, .int (iz (0)), .ref wt, .int (iz (0)), .ref bg, .ref pm, .int (iz (0))]))] H := hP
  have hD : va_D A [(x, .inr (13, [.int (iz (0)), .int (iz (6)), .ref am, .null, .ref tb, .ref lv, .int (iz (0)), .ref wt, .int (iz (0)), .ref bg, .ref pm, .int (iz (0))]))] := hD
  refine lv_aload_n hx hb dX12_clearSteps_5 rfl (lv_at hl 0 rfl) ?_
  refine va_get (D := G.1) (ci := 13) (v := .int (iz (0))) (C := RX12) (T := TX12) (N := 12) hx hb hts iwX12 hown hK hP 0 rfl rfl 11 (by decide) (hts (.fieldLink RX12 289 "AnnuityHouseModel" "steps" "I") (by decide +kernel)) (fun _ h9 => h9) rfl dX12_clearSteps_6 ?_
  refine lv_istore_n (lv' := [(1, .int (iz (0))), (0, .ref x)]) hx hb dX12_clearSteps_9 rfl hl (by decide) rfl (fun ls hl => ?_)
  refine lv_aload_n hx hb dX12_clearSteps_10 rfl (lv_at hl 1 rfl) ?_
  refine lv_iconst (v := iz (0)) hx hb dX12_clearSteps_11 rfl ?_
  refine va_put (D := G.1) (ci := 13) (v := .int (iz (0))) (ty := .int) (C := RX12) (T := TX12) (N := 12) hx hb hts iwX12 tyX12 tyX12_ok nmX12 hown hK hP hD hS 0 rfl rfl 11 (by decide) (hts (.fieldLink RX12 289 "AnnuityHouseModel" "steps" "I") (by decide +kernel)) (fun _ h9 => h9) rfl (by decide +kernel) rfl rfl (Nat.le_of_ble_eq_true rfl) dX12_clearSteps_12 (fun H locs hP hD hS => ?_)
  have hP : va_P G.1 vwCl [(x, .inr (13, [.int (iz (0)), .int (iz (6)), .ref am, .null, .ref tb, .ref lv, .int (iz (0)), .ref wt, .int (iz (0)), .ref bg, .ref pm, .int (iz (0))]))] H := hP
  have hD : va_D A [(x, .inr (13, [.int (iz (0)), .int (iz (6)), .ref am, .null, .ref tb, .ref lv, .int (iz (0)), .ref wt, .int (iz (0)), .ref bg, .ref pm, .int (iz (0))]))] := hD
  refine lv_iload_n hx hb dX12_clearSteps_15 rfl (lv_at hl 0 rfl) ?_
  rw [hQ]
  exact zr_iret (z := 0) (u := (0)) hx hb hr hlocks hP hD hS (by first | exact Nat.le_of_ble_eq_true rfl | omega) (by first | exact Nat.le_of_ble_eq_true rfl | omega) dX12_clearSteps_16 (show 0 = 0 ∧ 0 = 0 from ⟨rfl, rfl⟩)

def rm_c_X12_thousandfold : Room := { frames := 0, cells := 0, slots := 0, locals := 0 }
theorem iw_X12_thousandfold_X12 : ∀ w ∈ wsX120, w ∈ wsX12_thousandfold := by decide +kernel
set_option maxHeartbeats 1000000 in
set_option maxRecDepth 100000 in
theorem c_X12_thousandfold (l : Launch) (G : zG) (x : Nat) (am : Nat) (tb : Nat) (lv : Nat) (wt : Nat) (bg : Nat) (pm : Nat) (th : Int) (mo : Int)  : zM l G yX12_thousandfold wsX12_thousandfold rm_c_X12_thousandfold [.ref x, .long (lz (mo))] [(x, .inr (13, [.int (iz (th)), .int (iz (6)), .ref am, .null, .ref tb, .ref lv, .int (iz (0)), .ref wt, .int (iz (0)), .ref bg, .ref pm, .int (iz (0))]))] (fun A => zQl G (fun (z : Int) (_ : Unit) => z = 0) (fun (_ : Unit) => [(x, .inr (13, [.int (iz (th)), .int (iz (6)), .ref am, .null, .ref tb, .ref lv, .int (iz (0)), .ref wt, .int (iz (0)), .ref bg, .ref pm, .int (iz (0))]))]) A) 0 0 := by
  refine zM_of (cc := cX12_thousandfold) (maxL := 8) (ret := (some .long)) (by decide) rfl (Nat.le_of_ble_eq_true rfl) ?_
  intro p e s m below meth c ls A Q hQ hx hb hr hts hown hlocks hml hnm hKX hP hD hA hS hl
  have hK := hKX.1
  have iwX12 := iw_X12_thousandfold_X12
  obtain ⟨H, hH⟩ : ∃ h, h = s.heap := ⟨_, rfl⟩
  obtain ⟨locs, hlo⟩ : ∃ h : List Loc, h = [] := ⟨_, rfl⟩
  have hS : va_S A s.heap H locs := by rw [hH, hlo]; exact hS
  have hP : va_P G.1 vwCl [(x, .inr (13, [.int (iz (th)), .int (iz (6)), .ref am, .null, .ref tb, .ref lv, .int (iz (0)), .ref wt, .int (iz (0)), .ref bg, .ref pm, .int (iz (0))]))] H := by rw [hH]; exact hP
  have hD : va_D A [(x, .inr (13, [.int (iz (th)), .int (iz (6)), .ref am, .null, .ref tb, .ref lv, .int (iz (0)), .ref wt, .int (iz (0)), .ref bg, .ref pm, .int (iz (0))]))] := hD
  have hl : lv_has ls 8 [(0, .ref x), (1, .long (lz (mo)))] := hl
  rw [← hH, ← hlo]
  refine lv_lconst (v := lz (0)) hx hb dX12_thousandfold_0 rfl ?_
  refine lv_lstore_n (lv' := [(3, .long (lz (0))), (0, .ref x), (1, .long (lz (mo)))]) hx hb dX12_thousandfold_1 rfl hl (by decide) rfl (fun ls hl => ?_)
  refine lv_iconst (v := iz (0)) hx hb dX12_thousandfold_2 rfl ?_
  refine lv_istore (lv' := [(5, .int (iz (0))), (3, .long (lz (0))), (0, .ref x), (1, .long (lz (mo)))]) hx hb dX12_thousandfold_3 hl (by decide) rfl (fun ls hl => ?_)
  refine lv_iload hx hb dX12_thousandfold_5 (lv_at hl 0 rfl) ?_
  refine lv_aload_n hx hb dX12_thousandfold_7 rfl (lv_at hl 2 rfl) ?_
  refine va_get (D := G.1) (ci := 13) (v := .int (iz (0))) (C := RX12) (T := TX12) (N := 12) hx hb hts iwX12 hown hK hP 0 rfl rfl 11 (by decide) (hts (.fieldLink RX12 289 "AnnuityHouseModel" "steps" "I") (by decide +kernel)) (fun _ h9 => h9) rfl dX12_thousandfold_8 ?_
  refine zr_icmp_ge (x := 0) (y := 0) (tgt := 76) hx hb (⟨by omega, by omega⟩) (⟨by omega, by omega⟩) dX12_thousandfold_11 (by decide) (fun h_1 => ?_) (fun h_1 => ?_)
  ·
    refine lv_lload_n hx hb dX12_thousandfold_76 rfl (lv_at hl 1 rfl) ?_
    rw [hQ]
    exact zr_lret (z := 0) (u := ()) hx hb hr hlocks hP hD hS (by first | exact Nat.le_of_ble_eq_true rfl | omega) (by first | exact Nat.le_of_ble_eq_true rfl | omega) dX12_thousandfold_77 (show 0 = 0 from rfl)
  · exact absurd h_1 (by omega)

def rm_c_X12_tax_o : Room := { frames := 13, cells := 100, slots := 8000, locals := 526 }
set_option maxHeartbeats 1000000 in
set_option maxRecDepth 100000 in
theorem c_X12_tax_o (l : Launch) (G : zG) (x : Nat) (am : Nat) (tb : Nat) (lv : Nat) (wt : Nat) (bg : Nat) (pm : Nat) (th : Int) (mo : Int) (h0 : -9223372036854775808 ≤ mo ∧ mo < 9223372036854775808) (h1 : 0 ≤ mo ∧ mo ≤ 1000000000000) : zM l G yX12_tax wsX12_tax rm_c_X12_tax_o [.ref x, .long (lz (mo))] [(x, .inr (13, [.int (iz (th)), .int (iz (6)), .ref am, .null, .ref tb, .ref lv, .int (iz (0)), .ref wt, .int (iz (0)), .ref bg, .ref pm, .int (iz (0))]))] (fun A => zQl G (fun (z : Int) (th2 : Int) => z = 0 ∧ th2 = 0) (fun (th2 : Int) => [(x, .inr (13, [.int (iz (th2)), .int (iz (6)), .ref am, .null, .ref tb, .ref lv, .int (iz (0)), .ref wt, .int (iz (0)), .ref bg, .ref pm, .int (iz (0))]))]) A) 100 8000 := by
  refine zM_of (cc := cX12_tax) (maxL := 5) (ret := (some .long)) (by decide) rfl (Nat.le_of_ble_eq_true rfl) ?_
  intro p e s m below meth c ls A Q hQ hx hb hr hts hown hlocks hml hnm hKX hP hD hA hS hl
  have hK := hKX.1
  obtain ⟨H, hH⟩ : ∃ h, h = s.heap := ⟨_, rfl⟩
  obtain ⟨locs, hlo⟩ : ∃ h : List Loc, h = [] := ⟨_, rfl⟩
  have hS : va_S A s.heap H locs := by rw [hH, hlo]; exact hS
  have hP : va_P G.1 vwCl [(x, .inr (13, [.int (iz (th)), .int (iz (6)), .ref am, .null, .ref tb, .ref lv, .int (iz (0)), .ref wt, .int (iz (0)), .ref bg, .ref pm, .int (iz (0))]))] H := by rw [hH]; exact hP
  have hD : va_D A [(x, .inr (13, [.int (iz (th)), .int (iz (6)), .ref am, .null, .ref tb, .ref lv, .int (iz (0)), .ref wt, .int (iz (0)), .ref bg, .ref pm, .int (iz (0))]))] := hD
  have hl : lv_has ls 5 [(0, .ref x), (1, .long (lz (mo)))] := hl
  rw [← hH, ← hlo]
  refine lv_lload_n hx hb dX12_tax_0 rfl (lv_at hl 1 rfl) ?_
  refine lv_lconst (v := lz (0)) hx hb dX12_tax_1 rfl ?_
  refine zr_ldc2 (z := 1000000000000) hx hb hown (hts (.constantLong RX12 101 (1000000000000)) (by decide +kernel)) rfl dX12_tax_2 ?_
  refine zc_z (wr := [(x, .inr (13, [.int (iz (th)), .int (iz (6)), .ref am, .null, .ref tb, .ref lv, .int (iz (0)), .ref wt, .int (iz (0)), .ref bg, .ref pm, .int (iz (0))]))]) (va_runS (As := [.long (lz (mo)), .long (lz (0)), .long (lz (1000000000000))]) (rest := []) ⟨hx, hb, hml, hown, hts⟩ (c_X12_in l G mo 0 1000000000000 (by omega) (by omega) (by omega) H.size) (va_cwS 3 hts gX12_tax_X12_in rfl rfl rfl (by decide +kernel) ⟨Nat.le_of_ble_eq_true rfl, Nat.le_of_ble_eq_true rfl⟩) (zpS hKX hP hD [] rfl rfl) rfl rfl hl.1 rfl (lv_room (Nat.le_of_ble_eq_true rfl)) dX12_tax_5 ⟨(by first | exact Nat.le_of_ble_eq_true rfl | (show _ ≤ (100 : Nat); omega)), (by first | exact Nat.le_of_ble_eq_true rfl | (show _ ≤ (8000 : Nat); omega))⟩) hP hD hS hA [] [0] rfl rfl rfl (by decide) (fun y1 u_1 H locs hy1 hP hD hS => ?_)
  have hP : va_P G.1 vwCl [(x, .inr (13, [.int (iz (th)), .int (iz (6)), .ref am, .null, .ref tb, .ref lv, .int (iz (0)), .ref wt, .int (iz (0)), .ref bg, .ref pm, .int (iz (0))]))] H := hP
  have hD : va_D A [(x, .inr (13, [.int (iz (th)), .int (iz (6)), .ref am, .null, .ref tb, .ref lv, .int (iz (0)), .ref wt, .int (iz (0)), .ref bg, .ref pm, .int (iz (0))]))] := hD
  have hy1 : y1 = decide ((0 : Int) ≤ mo ∧ mo ≤ (1000000000000 : Int)) := hy1
  rw [show y1 = true from hy1.trans (decide_eq_true (by omega))]
  refine lv_istore_n (lv' := [(3, .int (iz (zbb true))), (0, .ref x), (1, .long (lz (mo)))]) hx hb dX12_tax_8 rfl hl (by decide) rfl (fun ls hl => ?_)
  refine lv_iload_n hx hb dX12_tax_9 rfl (lv_at hl 0 rfl) ?_
  refine zr_ifz_eq (tgt := 34) hx hb dX12_tax_10 (by decide) (fun h_3 => ?_) (fun h_3 => ?_)
  · exact absurd h_3 (by decide)
  ·
    refine lv_aload_n hx hb dX12_tax_13 rfl (lv_at hl 1 rfl) ?_
    refine lv_aload_n hx hb dX12_tax_14 rfl (lv_at hl 1 rfl) ?_
    refine lv_lload_n hx hb dX12_tax_15 rfl (lv_at hl 2 rfl) ?_
    refine zc_l (wr := []) (va_runV (As := [.long (lz (mo))]) (rest := [.ref x]) ⟨hx, hb, hml, hown, hts⟩ (c_X12_thousandfold l G x am tb lv wt bg pm th mo  H.size) (cwV 1 hts gX12_tax_X12_thousandfold rfl rfl rfl (by decide +kernel) ⟨Nat.le_of_ble_eq_true rfl, Nat.le_of_ble_eq_true rfl⟩) (zpV hKX hP hD [0] rfl rfl 0 13 rfl rfl) rfl rfl hl.1 rfl (lv_room (Nat.le_of_ble_eq_true rfl)) dX12_tax_16 ⟨(by first | exact Nat.le_of_ble_eq_true rfl | (show _ ≤ (100 : Nat); omega)), (by first | exact Nat.le_of_ble_eq_true rfl | (show _ ≤ (8000 : Nat); omega))⟩) hP hD hS hA [0] [] rfl rfl rfl (by decide) (fun tf u_4 H locs htf hP hD hS => ?_)
    have hP : va_P G.1 vwCl [(x, .inr (13, [.int (iz (th)), .int (iz (6)), .ref am, .null, .ref tb, .ref lv, .int (iz (0)), .ref wt, .int (iz (0)), .ref bg, .ref pm, .int (iz (0))]))] H := hP
    have hD : va_D A [(x, .inr (13, [.int (iz (th)), .int (iz (6)), .ref am, .null, .ref tb, .ref lv, .int (iz (0)), .ref wt, .int (iz (0)), .ref bg, .ref pm, .int (iz (0))]))] := hD
    have htf : tf = 0 := htf
    refine zc_r (wr := [(x, .inr (13, [.int (iz (th)), .int (iz (6)), .ref am, .null, .ref tb, .ref lv, .int (iz (0)), .ref wt, .int (iz (0)), .ref bg, .ref pm, .int (iz (0))]))]) (va_runS (As := [.long (lz (tf))]) (rest := [.ref x]) ⟨hx, hb, hml, hown, hts⟩ (c_X11_of l G tf (by omega) H.size) (va_cwS 1 hts gX12_tax_X11_of rfl rfl rfl (by decide +kernel) ⟨Nat.le_of_ble_eq_true rfl, Nat.le_of_ble_eq_true rfl⟩) (zpS hKX hP hD [] rfl rfl) rfl rfl hl.1 rfl (lv_room (Nat.le_of_ble_eq_true rfl)) dX12_tax_19 ⟨(by first | exact Nat.le_of_ble_eq_true rfl | (show _ ≤ (100 : Nat); omega)), (by first | exact Nat.le_of_ble_eq_true rfl | (show _ ≤ (8000 : Nat); omega))⟩) hP hD hS hA [] [0] rfl rfl rfl (by decide) (fun u_6 r1 H locs q1 hP hD hS => ?_)
    obtain ⟨b1, f1, N1, s1⟩ := u_6
    have hP : va_P G.1 vwCl [(x, .inr (13, [.int (iz (th)), .int (iz (6)), .ref am, .null, .ref tb, .ref lv, .int (iz (0)), .ref wt, .int (iz (0)), .ref bg, .ref pm, .int (iz (0))])), (r1, .inr (12, [.int (iz (s1)), .ref b1])), (b1, zaI (G.2 1) N1 (f1))] H := hP
    have hD : va_D A [(x, .inr (13, [.int (iz (th)), .int (iz (6)), .ref am, .null, .ref tb, .ref lv, .int (iz (0)), .ref wt, .int (iz (0)), .ref bg, .ref pm, .int (iz (0))])), (r1, .inr (12, [.int (iz (s1)), .ref b1])), (b1, zaI (G.2 1) N1 (f1))] := hD
    have q1 : tmw f1 N1 s1 tf := q1
    refine zr_ldc2 (z := 1000) hx hb hown (hts (.constantLong RX12 292 (1000)) (by decide +kernel)) rfl dX12_tax_22 ?_
    refine zc_r (wr := [(x, .inr (13, [.int (iz (th)), .int (iz (6)), .ref am, .null, .ref tb, .ref lv, .int (iz (0)), .ref wt, .int (iz (0)), .ref bg, .ref pm, .int (iz (0))])), (r1, .inr (12, [.int (iz (s1)), .ref b1])), (b1, zaI (G.2 1) N1 (f1))]) (va_runS (As := [.long (lz (1000))]) (rest := [.ref r1, .ref x]) ⟨hx, hb, hml, hown, hts⟩ (c_X11_of l G 1000 (by omega) H.size) (va_cwS 1 hts gX12_tax_X11_of rfl rfl rfl (by decide +kernel) ⟨Nat.le_of_ble_eq_true rfl, Nat.le_of_ble_eq_true rfl⟩) (zpS hKX hP hD [] rfl rfl) rfl rfl hl.1 rfl (lv_room (Nat.le_of_ble_eq_true rfl)) dX12_tax_25 ⟨(by first | exact Nat.le_of_ble_eq_true rfl | (show _ ≤ (100 : Nat); omega)), (by first | exact Nat.le_of_ble_eq_true rfl | (show _ ≤ (8000 : Nat); omega))⟩) hP hD hS hA [] [0, 1, 2] rfl rfl rfl (by decide) (fun u_8 r2 H locs q2 hP hD hS => ?_)
    obtain ⟨b2, f2, N2, s2⟩ := u_8
    have hP : va_P G.1 vwCl [(x, .inr (13, [.int (iz (th)), .int (iz (6)), .ref am, .null, .ref tb, .ref lv, .int (iz (0)), .ref wt, .int (iz (0)), .ref bg, .ref pm, .int (iz (0))])), (r1, .inr (12, [.int (iz (s1)), .ref b1])), (b1, zaI (G.2 1) N1 (f1)), (r2, .inr (12, [.int (iz (s2)), .ref b2])), (b2, zaI (G.2 1) N2 (f2))] H := hP
    have hD : va_D A [(x, .inr (13, [.int (iz (th)), .int (iz (6)), .ref am, .null, .ref tb, .ref lv, .int (iz (0)), .ref wt, .int (iz (0)), .ref bg, .ref pm, .int (iz (0))])), (r1, .inr (12, [.int (iz (s1)), .ref b1])), (b1, zaI (G.2 1) N1 (f1)), (r2, .inr (12, [.int (iz (s2)), .ref b2])), (b2, zaI (G.2 1) N2 (f2))] := hD
    have q2 : tmw f2 N2 s2 (1000 : Int) := q2
    refine zc_r (wr := []) (va_runV (As := [.ref r1, .ref r2]) (rest := []) ⟨hx, hb, hml, hown, hts⟩ (c_X12_rounded l G x th (.ref am) .null (.ref tb) (.ref lv) (.int (iz (0))) (.ref wt) (.int (iz (0))) (.ref bg) (.ref pm) (.int (iz (0))) r1 b1 f1 N1 s1 r2 b2 f2 N2 s2 0 1000 (tpost q1 htf) (q2) (by omega) (by decide +kernel) (by decide +kernel) H.size) (cwV 2 hts gX12_tax_X12_rounded rfl rfl rfl (by decide +kernel) ⟨Nat.le_of_ble_eq_true rfl, Nat.le_of_ble_eq_true rfl⟩) (zpV hKX hP hD [0, 1, 2, 3, 4] rfl rfl 0 13 rfl rfl) rfl rfl hl.1 rfl (lv_room (Nat.le_of_ble_eq_true rfl)) dX12_tax_28 ⟨(by first | exact Nat.le_of_ble_eq_true rfl | (show _ ≤ (100 : Nat); omega)), (by first | exact Nat.le_of_ble_eq_true rfl | (show _ ≤ (8000 : Nat); omega))⟩) hP hD hS hA [0, 1, 2, 3, 4] [] rfl rfl rfl (by decide) (fun u_10 r5 H locs q5 hP hD hS => ?_)
    obtain ⟨b5, f5, N5, s5⟩ := u_10
    have hP : va_P G.1 vwCl [(x, .inr (13, [.int (iz (th)), .int (iz (6)), .ref am, .null, .ref tb, .ref lv, .int (iz (0)), .ref wt, .int (iz (0)), .ref bg, .ref pm, .int (iz (0))])), (r5, .inr (12, [.int (iz (s5)), .ref b5])), (b5, zaI (G.2 1) N5 (f5))] H := hP
    have hD : va_D A [(x, .inr (13, [.int (iz (th)), .int (iz (6)), .ref am, .null, .ref tb, .ref lv, .int (iz (0)), .ref wt, .int (iz (0)), .ref bg, .ref pm, .int (iz (0))])), (r5, .inr (12, [.int (iz (s5)), .ref b5])), (b5, zaI (G.2 1) N5 (f5))] := hD
    have q5 : tmw f5 N5 s5 (zr6 (0 : Int) (1000 : Int)) := q5
    refine lv_goto (tgt := 35) hx hb dX12_tax_31 (by decide) ?_
    refine lv_astore (lv' := [(4, .ref r5), (3, .int (iz (zbb true))), (0, .ref x), (1, .long (lz (mo)))]) hx hb dX12_tax_35 hl (by decide) rfl (fun ls hl => ?_)
    refine lv_aload_n hx hb dX12_tax_37 rfl (lv_at hl 2 rfl) ?_
    refine lv_iload_n hx hb dX12_tax_38 rfl (lv_at hl 1 rfl) ?_
    refine lv_aload hx hb dX12_tax_39 (lv_at hl 0 rfl) ?_
    refine lv_ifnull hx hb dX12_tax_41 ?_
    refine lv_iconst (v := iz (1)) hx hb dX12_tax_44 rfl ?_
    refine lv_goto (tgt := 49) hx hb dX12_tax_45 (by decide) ?_
    refine lv_iconst (v := iz (1)) hx hb dX12_tax_49 rfl ?_
    refine zc_z (wr := [(r5, .inr (12, [.int (iz (s5)), .ref b5])), (b5, zaI (G.2 1) N5 (f5))]) (va_runV (As := [.int (iz (zbb true)), .int (iz (1)), .int (iz (1))]) (rest := []) ⟨hx, hb, hml, hown, hts⟩ (c_X12_passes l G x th (.ref am) .null (.ref tb) (.ref lv) (.int (iz (0))) (.ref wt) (.int (iz (0))) (.ref bg) (.ref pm) (.int (iz (0))) 6 true true true  H.size) (cwV 3 hts gX12_tax_X12_passes rfl rfl rfl (by decide +kernel) ⟨Nat.le_of_ble_eq_true rfl, Nat.le_of_ble_eq_true rfl⟩) (zpV hKX hP hD [0] rfl rfl 0 13 rfl rfl) rfl rfl hl.1 rfl (lv_room (Nat.le_of_ble_eq_true rfl)) dX12_tax_50 ⟨(by first | exact Nat.le_of_ble_eq_true rfl | (show _ ≤ (100 : Nat); omega)), (by first | exact Nat.le_of_ble_eq_true rfl | (show _ ≤ (8000 : Nat); omega))⟩) hP hD hS hA [0] [1, 2] rfl rfl rfl (by decide) (fun pz u_12 H locs hp hP hD hS => ?_)
    generalize u_12 = thp at hP hD hp
    have hP : va_P G.1 vwCl [(r5, .inr (12, [.int (iz (s5)), .ref b5])), (b5, zaI (G.2 1) N5 (f5)), (x, .inr (13, [.int (iz (thp)), .int (iz ((6 : Int))), .ref am, .null, .ref tb, .ref lv, .int (iz (0)), .ref wt, .int (iz (0)), .ref bg, .ref pm, .int (iz (0))]))] H := hP
    have hD : va_D A [(r5, .inr (12, [.int (iz (s5)), .ref b5])), (b5, zaI (G.2 1) N5 (f5)), (x, .inr (13, [.int (iz (thp)), .int (iz ((6 : Int))), .ref am, .null, .ref tb, .ref lv, .int (iz (0)), .ref wt, .int (iz (0)), .ref bg, .ref pm, .int (iz (0))]))] := hD
    have hp : pz = (true && true && true) ∧ thp = zcode true true true := hp
    rw [show pz = true from hp.1]
    have htp := hp.2
    refine zr_ifz_eq (tgt := 65) hx hb dX12_tax_53 (by decide) (fun h_14 => ?_) (fun h_14 => ?_)
    · exact absurd h_14 (by decide)
    ·
      refine lv_aload_n hx hb dX12_tax_56 rfl (lv_at hl 2 rfl) ?_
      refine lv_aload hx hb dX12_tax_57 (lv_at hl 0 rfl) ?_
      refine zc_l (wr := []) (va_runV (As := [.ref r5]) (rest := []) ⟨hx, hb, hml, hown, hts⟩ (c_X12_tells l G x thp (.ref am) .null (.ref tb) (.ref lv) (.int (iz (0))) (.ref wt) (.int (iz (0))) (.ref bg) (.ref pm) (.int (iz (0))) r5 b5 f5 N5 s5 (zr6 0 1000) (q5) H.size) (cwV 1 hts gX12_tax_X12_tells rfl rfl rfl (by decide +kernel) ⟨Nat.le_of_ble_eq_true rfl, Nat.le_of_ble_eq_true rfl⟩) (zpV hKX hP hD [2, 0, 1] rfl rfl 2 13 rfl rfl) rfl rfl hl.1 rfl (lv_room (Nat.le_of_ble_eq_true rfl)) dX12_tax_59 ⟨(by first | exact Nat.le_of_ble_eq_true rfl | (show _ ≤ (100 : Nat); omega)), (by first | exact Nat.le_of_ble_eq_true rfl | (show _ ≤ (8000 : Nat); omega))⟩) hP hD hS hA [2, 0, 1] [] rfl rfl rfl (by decide) (fun zz u_15 H locs hzz hP hD hS => ?_)
      have hP : va_P G.1 vwCl [(x, .inr (13, [.int (iz (thp)), .int (iz (6)), .ref am, .null, .ref tb, .ref lv, .int (iz (0)), .ref wt, .int (iz (0)), .ref bg, .ref pm, .int (iz (0))])), (r5, .inr (12, [.int (iz (s5)), .ref b5])), (b5, zaI (G.2 1) N5 (f5))] H := hP
      have hD : va_D A [(x, .inr (13, [.int (iz (thp)), .int (iz (6)), .ref am, .null, .ref tb, .ref lv, .int (iz (0)), .ref wt, .int (iz (0)), .ref bg, .ref pm, .int (iz (0))])), (r5, .inr (12, [.int (iz (s5)), .ref b5])), (b5, zaI (G.2 1) N5 (f5))] := hD
      have hzz : zz = (zr6 0 1000) := hzz
      refine lv_goto (tgt := 66) hx hb dX12_tax_62 (by decide) ?_
      rw [hQ]
      exact zr_lret (z := zz) (u := (thp)) hx hb hr hlocks (hP.sub [0] rfl) (hD.sub [0] (by decide) rfl) hS (by first | exact Nat.le_of_ble_eq_true rfl | omega) (by first | exact Nat.le_of_ble_eq_true rfl | omega) dX12_tax_66 (show zz = 0 ∧ thp = 0 from ⟨hzz.trans (by decide +kernel), htp⟩)

def rm_c_X12_tax_x : Room := { frames := 1, cells := 0, slots := 0, locals := 25 }
set_option maxHeartbeats 1000000 in
set_option maxRecDepth 100000 in
theorem c_X12_tax_x (l : Launch) (G : zG) (x : Nat) (am : Nat) (tb : Nat) (lv : Nat) (wt : Nat) (bg : Nat) (pm : Nat) (th : Int) (mo : Int) (h0 : -9223372036854775808 ≤ mo ∧ mo < 9223372036854775808) (h1 : ¬ (0 ≤ mo ∧ mo ≤ 1000000000000)) : zM l G yX12_tax wsX12_tax rm_c_X12_tax_x [.ref x, .long (lz (mo))] [(x, .inr (13, [.int (iz (th)), .int (iz (6)), .ref am, .null, .ref tb, .ref lv, .int (iz (0)), .ref wt, .int (iz (0)), .ref bg, .ref pm, .int (iz (0))]))] (fun A => zQl G (fun (z : Int) (th2 : Int) => z = 0 ∧ th2 = 1) (fun (th2 : Int) => [(x, .inr (13, [.int (iz (th2)), .int (iz (6)), .ref am, .null, .ref tb, .ref lv, .int (iz (0)), .ref wt, .int (iz (0)), .ref bg, .ref pm, .int (iz (0))]))]) A) 0 0 := by
  refine zM_of (cc := cX12_tax) (maxL := 5) (ret := (some .long)) (by decide) rfl (Nat.le_of_ble_eq_true rfl) ?_
  intro p e s m below meth c ls A Q hQ hx hb hr hts hown hlocks hml hnm hKX hP hD hA hS hl
  have hK := hKX.1
  obtain ⟨H, hH⟩ : ∃ h, h = s.heap := ⟨_, rfl⟩
  obtain ⟨locs, hlo⟩ : ∃ h : List Loc, h = [] := ⟨_, rfl⟩
  have hS : va_S A s.heap H locs := by rw [hH, hlo]; exact hS
  have hP : va_P G.1 vwCl [(x, .inr (13, [.int (iz (th)), .int (iz (6)), .ref am, .null, .ref tb, .ref lv, .int (iz (0)), .ref wt, .int (iz (0)), .ref bg, .ref pm, .int (iz (0))]))] H := by rw [hH]; exact hP
  have hD : va_D A [(x, .inr (13, [.int (iz (th)), .int (iz (6)), .ref am, .null, .ref tb, .ref lv, .int (iz (0)), .ref wt, .int (iz (0)), .ref bg, .ref pm, .int (iz (0))]))] := hD
  have hl : lv_has ls 5 [(0, .ref x), (1, .long (lz (mo)))] := hl
  rw [← hH, ← hlo]
  refine lv_lload_n hx hb dX12_tax_0 rfl (lv_at hl 1 rfl) ?_
  refine lv_lconst (v := lz (0)) hx hb dX12_tax_1 rfl ?_
  refine zr_ldc2 (z := 1000000000000) hx hb hown (hts (.constantLong RX12 101 (1000000000000)) (by decide +kernel)) rfl dX12_tax_2 ?_
  refine zc_z (wr := [(x, .inr (13, [.int (iz (th)), .int (iz (6)), .ref am, .null, .ref tb, .ref lv, .int (iz (0)), .ref wt, .int (iz (0)), .ref bg, .ref pm, .int (iz (0))]))]) (va_runS (As := [.long (lz (mo)), .long (lz (0)), .long (lz (1000000000000))]) (rest := []) ⟨hx, hb, hml, hown, hts⟩ (c_X12_in l G mo 0 1000000000000 (by omega) (by omega) (by omega) H.size) (va_cwS 3 hts gX12_tax_X12_in rfl rfl rfl (by decide +kernel) ⟨Nat.le_of_ble_eq_true rfl, Nat.le_of_ble_eq_true rfl⟩) (zpS hKX hP hD [] rfl rfl) rfl rfl hl.1 rfl (lv_room (Nat.le_of_ble_eq_true rfl)) dX12_tax_5 ⟨(by first | exact Nat.le_of_ble_eq_true rfl | (show _ ≤ (0 : Nat); omega)), (by first | exact Nat.le_of_ble_eq_true rfl | (show _ ≤ (0 : Nat); omega))⟩) hP hD hS hA [] [0] rfl rfl rfl (by decide) (fun y1 u_1 H locs hy1 hP hD hS => ?_)
  have hP : va_P G.1 vwCl [(x, .inr (13, [.int (iz (th)), .int (iz (6)), .ref am, .null, .ref tb, .ref lv, .int (iz (0)), .ref wt, .int (iz (0)), .ref bg, .ref pm, .int (iz (0))]))] H := hP
  have hD : va_D A [(x, .inr (13, [.int (iz (th)), .int (iz (6)), .ref am, .null, .ref tb, .ref lv, .int (iz (0)), .ref wt, .int (iz (0)), .ref bg, .ref pm, .int (iz (0))]))] := hD
  have hy1 : y1 = decide ((0 : Int) ≤ mo ∧ mo ≤ (1000000000000 : Int)) := hy1
  rw [show y1 = false from hy1.trans (decide_eq_false (by omega))]
  refine lv_istore_n (lv' := [(3, .int (iz (zbb false))), (0, .ref x), (1, .long (lz (mo)))]) hx hb dX12_tax_8 rfl hl (by decide) rfl (fun ls hl => ?_)
  refine lv_iload_n hx hb dX12_tax_9 rfl (lv_at hl 0 rfl) ?_
  refine zr_ifz_eq (tgt := 34) hx hb dX12_tax_10 (by decide) (fun h_3 => ?_) (fun h_3 => ?_)
  ·
    refine lv_null hx hb dX12_tax_34 ?_
    refine lv_astoreN (lv' := [(4, .null), (3, .int (iz (zbb false))), (0, .ref x), (1, .long (lz (mo)))]) hx hb dX12_tax_35 hl (by decide) rfl (fun ls hl => ?_)
    refine lv_aload_n hx hb dX12_tax_37 rfl (lv_at hl 2 rfl) ?_
    refine lv_iload_n hx hb dX12_tax_38 rfl (lv_at hl 1 rfl) ?_
    refine lv_aloadN hx hb dX12_tax_39 (lv_at hl 0 rfl) ?_
    refine lv_ifnullN (tgt := 48) hx hb dX12_tax_41 (by decide) ?_
    refine lv_iconst (v := iz (0)) hx hb dX12_tax_48 rfl ?_
    refine lv_iconst (v := iz (1)) hx hb dX12_tax_49 rfl ?_
    refine zc_z (wr := []) (va_runV (As := [.int (iz (zbb false)), .int (iz (0)), .int (iz (1))]) (rest := []) ⟨hx, hb, hml, hown, hts⟩ (c_X12_passes l G x th (.ref am) .null (.ref tb) (.ref lv) (.int (iz (0))) (.ref wt) (.int (iz (0))) (.ref bg) (.ref pm) (.int (iz (0))) 6 false false true  H.size) (cwV 3 hts gX12_tax_X12_passes rfl rfl rfl (by decide +kernel) ⟨Nat.le_of_ble_eq_true rfl, Nat.le_of_ble_eq_true rfl⟩) (zpV hKX hP hD [0] rfl rfl 0 13 rfl rfl) rfl rfl hl.1 rfl (lv_room (Nat.le_of_ble_eq_true rfl)) dX12_tax_50 ⟨(by first | exact Nat.le_of_ble_eq_true rfl | (show _ ≤ (0 : Nat); omega)), (by first | exact Nat.le_of_ble_eq_true rfl | (show _ ≤ (0 : Nat); omega))⟩) hP hD hS hA [0] [] rfl rfl rfl (by decide) (fun pz u_4 H locs hp hP hD hS => ?_)
    generalize u_4 = thp at hP hD hp
    have hP : va_P G.1 vwCl [(x, .inr (13, [.int (iz (thp)), .int (iz ((6 : Int))), .ref am, .null, .ref tb, .ref lv, .int (iz (0)), .ref wt, .int (iz (0)), .ref bg, .ref pm, .int (iz (0))]))] H := hP
    have hD : va_D A [(x, .inr (13, [.int (iz (thp)), .int (iz ((6 : Int))), .ref am, .null, .ref tb, .ref lv, .int (iz (0)), .ref wt, .int (iz (0)), .ref bg, .ref pm, .int (iz (0))]))] := hD
    have hp : pz = (false && false && true) ∧ thp = zcode false false true := hp
    rw [show pz = false from hp.1]
    have htp := hp.2
    refine zr_ifz_eq (tgt := 65) hx hb dX12_tax_53 (by decide) (fun h_6 => ?_) (fun h_6 => ?_)
    ·
      refine lv_lconst (v := lz (0)) hx hb dX12_tax_65 rfl ?_
      rw [hQ]
      exact zr_lret (z := 0) (u := (thp)) hx hb hr hlocks hP hD hS (by first | exact Nat.le_of_ble_eq_true rfl | omega) (by first | exact Nat.le_of_ble_eq_true rfl | omega) dX12_tax_66 (show 0 = 0 ∧ thp = 1 from ⟨rfl, htp⟩)
    · exact absurd h_6 (by decide)
  · exact absurd h_3 (by decide)

def rm_c_X12_leaves : Room := { frames := 1, cells := 0, slots := 0, locals := 27 }
set_option maxHeartbeats 1000000 in
set_option maxRecDepth 100000 in
theorem c_X12_leaves (l : Launch) (G : zG) (x : Nat) (am : Nat) (tb : Nat) (lv : Nat) (wt : Nat) (bg : Nat) (pm : Nat) (th : Int) (mo : Int) (wa : Int) (h1 : -1 ≤ mo ∧ mo ≤ 1000000000000) (h2 : 0 ≤ wa ∧ wa ≤ 1000000000) : zM l G yX12_leaves wsX12_leaves rm_c_X12_leaves [.ref x, .long (lz (mo)), .long (lz (wa))] [(x, .inr (13, [.int (iz (th)), .int (iz (6)), .ref am, .null, .ref tb, .ref lv, .int (iz (0)), .ref wt, .int (iz (0)), .ref bg, .ref pm, .int (iz (0))]))] (fun A => zQz G (fun (z : Bool) (_ : Unit) => z = decide (wa ≤ mo)) (fun (_ : Unit) => [(x, .inr (13, [.int (iz (th)), .int (iz (6)), .ref am, .null, .ref tb, .ref lv, .int (iz (0)), .ref wt, .int (iz (0)), .ref bg, .ref pm, .int (iz (0))]))]) A) 0 0 := by
  refine zM_of (cc := cX12_leaves) (maxL := 5) (ret := (some .boolean)) (by decide) rfl (Nat.le_of_ble_eq_true rfl) ?_
  intro p e s m below meth c ls A Q hQ hx hb hr hts hown hlocks hml hnm hKX hP hD hA hS hl
  have hK := hKX.1
  obtain ⟨H, hH⟩ : ∃ h, h = s.heap := ⟨_, rfl⟩
  obtain ⟨locs, hlo⟩ : ∃ h : List Loc, h = [] := ⟨_, rfl⟩
  have hS : va_S A s.heap H locs := by rw [hH, hlo]; exact hS
  have hP : va_P G.1 vwCl [(x, .inr (13, [.int (iz (th)), .int (iz (6)), .ref am, .null, .ref tb, .ref lv, .int (iz (0)), .ref wt, .int (iz (0)), .ref bg, .ref pm, .int (iz (0))]))] H := by rw [hH]; exact hP
  have hD : va_D A [(x, .inr (13, [.int (iz (th)), .int (iz (6)), .ref am, .null, .ref tb, .ref lv, .int (iz (0)), .ref wt, .int (iz (0)), .ref bg, .ref pm, .int (iz (0))]))] := hD
  have hl : lv_has ls 5 [(0, .ref x), (1, .long (lz (mo))), (3, .long (lz (wa)))] := hl
  rw [← hH, ← hlo]
  refine zr_ldc2 (z := 1000) hx hb hown (hts (.constantLong RX12 292 (1000)) (by decide +kernel)) rfl dX12_leaves_0 ?_
  refine lv_lload_n hx hb dX12_leaves_3 rfl (lv_at hl 1 rfl) ?_
  refine zr_lmul hx hb dX12_leaves_4 ?_
  refine lv_aload_n hx hb dX12_leaves_5 rfl (lv_at hl 0 rfl) ?_
  refine lv_lload_n hx hb dX12_leaves_6 rfl (lv_at hl 1 rfl) ?_
  refine zc_l (wr := []) (va_runV (As := [.long (lz (mo))]) (rest := [.long (lz (1000 * mo))]) ⟨hx, hb, hml, hown, hts⟩ (c_X12_thousandfold l G x am tb lv wt bg pm th mo  H.size) (cwV 1 hts gX12_leaves_X12_thousandfold rfl rfl rfl (by decide +kernel) ⟨Nat.le_of_ble_eq_true rfl, Nat.le_of_ble_eq_true rfl⟩) (zpV hKX hP hD [0] rfl rfl 0 13 rfl rfl) rfl rfl hl.1 rfl (lv_room (Nat.le_of_ble_eq_true rfl)) dX12_leaves_7 ⟨(by first | exact Nat.le_of_ble_eq_true rfl | (show _ ≤ (0 : Nat); omega)), (by first | exact Nat.le_of_ble_eq_true rfl | (show _ ≤ (0 : Nat); omega))⟩) hP hD hS hA [0] [] rfl rfl rfl (by decide) (fun tf u_1 H locs htf hP hD hS => ?_)
  have hP : va_P G.1 vwCl [(x, .inr (13, [.int (iz (th)), .int (iz (6)), .ref am, .null, .ref tb, .ref lv, .int (iz (0)), .ref wt, .int (iz (0)), .ref bg, .ref pm, .int (iz (0))]))] H := hP
  have hD : va_D A [(x, .inr (13, [.int (iz (th)), .int (iz (6)), .ref am, .null, .ref tb, .ref lv, .int (iz (0)), .ref wt, .int (iz (0)), .ref bg, .ref pm, .int (iz (0))]))] := hD
  have htf : tf = 0 := htf
  refine zr_lsub hx hb dX12_leaves_10 ?_
  refine zr_ldc2 (z := 1000) hx hb hown (hts (.constantLong RX12 292 (1000)) (by decide +kernel)) rfl dX12_leaves_11 ?_
  refine lv_lload_n hx hb dX12_leaves_14 rfl (lv_at hl 2 rfl) ?_
  refine zr_lmul hx hb dX12_leaves_15 ?_
  refine zr_lcmp_lt (x := (1000 * mo) - tf) (y := 1000 * wa) (tgt := 24) hx hb (⟨by omega, by omega⟩) (⟨by omega, by omega⟩) dX12_leaves_16 dX12_leaves_17 (by decide) (fun h_3 => ?_) (fun h_3 => ?_)
  ·
    refine lv_iconst (v := iz (0)) hx hb dX12_leaves_24 rfl ?_
    rw [hQ]
    exact zr_zret (z := false) (rfl) (u := ()) hx hb hr hlocks hP hD hS (by first | exact Nat.le_of_ble_eq_true rfl | omega) (by first | exact Nat.le_of_ble_eq_true rfl | omega) dX12_leaves_25 (show false = decide (wa ≤ mo) from by first | exact (decide_eq_true (by omega)).symm | exact (decide_eq_false (by omega)).symm)
  ·
    refine lv_iconst (v := iz (1)) hx hb dX12_leaves_20 rfl ?_
    refine lv_goto (tgt := 25) hx hb dX12_leaves_21 (by decide) ?_
    rw [hQ]
    exact zr_zret (z := true) (rfl) (u := ()) hx hb hr hlocks hP hD hS (by first | exact Nat.le_of_ble_eq_true rfl | omega) (by first | exact Nat.le_of_ble_eq_true rfl | omega) dX12_leaves_25 (show true = decide (wa ≤ mo) from by first | exact (decide_eq_true (by omega)).symm | exact (decide_eq_false (by omega)).symm)

def rm_c_X12_untaxed_o : Room := { frames := 2, cells := 0, slots := 0, locals := 51 }
set_option maxHeartbeats 1000000 in
set_option maxRecDepth 100000 in
theorem c_X12_untaxed_o (l : Launch) (G : zG) (x : Nat) (am : Nat) (tb : Nat) (lv : Nat) (wt : Nat) (bg : Nat) (pm : Nat) (th : Int) (mo : Int) (h0 : -9223372036854775808 ≤ mo ∧ mo < 9223372036854775808) (h1 : 0 ≤ mo ∧ mo ≤ 1000000000) : zM l G yX12_untaxed wsX12_untaxed rm_c_X12_untaxed_o [.ref x, .long (lz (mo))] [(x, .inr (13, [.int (iz (th)), .int (iz (6)), .ref am, .null, .ref tb, .ref lv, .int (iz (0)), .ref wt, .int (iz (0)), .ref bg, .ref pm, .int (iz (0))]))] (fun A => zQl G (fun (z : Int) (th2 : Int) => z = mo ∧ th2 = 0) (fun (th2 : Int) => [(x, .inr (13, [.int (iz (th2)), .int (iz (6)), .ref am, .null, .ref tb, .ref lv, .int (iz (0)), .ref wt, .int (iz (0)), .ref bg, .ref pm, .int (iz (0))]))]) A) 0 0 := by
  refine zM_of (cc := cX12_untaxed) (maxL := 10) (ret := (some .long)) (by decide) rfl (Nat.le_of_ble_eq_true rfl) ?_
  intro p e s m below meth c ls A Q hQ hx hb hr hts hown hlocks hml hnm hKX hP hD hA hS hl
  have hK := hKX.1
  obtain ⟨H, hH⟩ : ∃ h, h = s.heap := ⟨_, rfl⟩
  obtain ⟨locs, hlo⟩ : ∃ h : List Loc, h = [] := ⟨_, rfl⟩
  have hS : va_S A s.heap H locs := by rw [hH, hlo]; exact hS
  have hP : va_P G.1 vwCl [(x, .inr (13, [.int (iz (th)), .int (iz (6)), .ref am, .null, .ref tb, .ref lv, .int (iz (0)), .ref wt, .int (iz (0)), .ref bg, .ref pm, .int (iz (0))]))] H := by rw [hH]; exact hP
  have hD : va_D A [(x, .inr (13, [.int (iz (th)), .int (iz (6)), .ref am, .null, .ref tb, .ref lv, .int (iz (0)), .ref wt, .int (iz (0)), .ref bg, .ref pm, .int (iz (0))]))] := hD
  have hl : lv_has ls 10 [(0, .ref x), (1, .long (lz (mo)))] := hl
  rw [← hH, ← hlo]
  refine lv_aload_n hx hb dX12_untaxed_0 rfl (lv_at hl 0 rfl) ?_
  refine lv_lload_n hx hb dX12_untaxed_1 rfl (lv_at hl 1 rfl) ?_
  refine lv_lconst (v := lz (0)) hx hb dX12_untaxed_2 rfl ?_
  refine zr_ldc2 (z := 1000000000) hx hb hown (hts (.constantLong RX12 121 (1000000000)) (by decide +kernel)) rfl dX12_untaxed_3 ?_
  refine zc_z (wr := [(x, .inr (13, [.int (iz (th)), .int (iz (6)), .ref am, .null, .ref tb, .ref lv, .int (iz (0)), .ref wt, .int (iz (0)), .ref bg, .ref pm, .int (iz (0))]))]) (va_runS (As := [.long (lz (mo)), .long (lz (0)), .long (lz (1000000000))]) (rest := [.ref x]) ⟨hx, hb, hml, hown, hts⟩ (c_X12_in l G mo 0 1000000000 (by omega) (by omega) (by omega) H.size) (va_cwS 3 hts gX12_untaxed_X12_in rfl rfl rfl (by decide +kernel) ⟨Nat.le_of_ble_eq_true rfl, Nat.le_of_ble_eq_true rfl⟩) (zpS hKX hP hD [] rfl rfl) rfl rfl hl.1 rfl (lv_room (Nat.le_of_ble_eq_true rfl)) dX12_untaxed_6 ⟨(by first | exact Nat.le_of_ble_eq_true rfl | (show _ ≤ (0 : Nat); omega)), (by first | exact Nat.le_of_ble_eq_true rfl | (show _ ≤ (0 : Nat); omega))⟩) hP hD hS hA [] [0] rfl rfl rfl (by decide) (fun y1 u_1 H locs hy1 hP hD hS => ?_)
  have hP : va_P G.1 vwCl [(x, .inr (13, [.int (iz (th)), .int (iz (6)), .ref am, .null, .ref tb, .ref lv, .int (iz (0)), .ref wt, .int (iz (0)), .ref bg, .ref pm, .int (iz (0))]))] H := hP
  have hD : va_D A [(x, .inr (13, [.int (iz (th)), .int (iz (6)), .ref am, .null, .ref tb, .ref lv, .int (iz (0)), .ref wt, .int (iz (0)), .ref bg, .ref pm, .int (iz (0))]))] := hD
  have hy1 : y1 = decide ((0 : Int) ≤ mo ∧ mo ≤ (1000000000 : Int)) := hy1
  rw [show y1 = true from hy1.trans (decide_eq_true (by omega))]
  refine lv_iconst (v := iz (1)) hx hb dX12_untaxed_9 rfl ?_
  refine lv_iconst (v := iz (1)) hx hb dX12_untaxed_10 rfl ?_
  refine zc_z (wr := []) (va_runV (As := [.int (iz (zbb true)), .int (iz (1)), .int (iz (1))]) (rest := []) ⟨hx, hb, hml, hown, hts⟩ (c_X12_passes l G x th (.ref am) .null (.ref tb) (.ref lv) (.int (iz (0))) (.ref wt) (.int (iz (0))) (.ref bg) (.ref pm) (.int (iz (0))) 6 true true true  H.size) (cwV 3 hts gX12_untaxed_X12_passes rfl rfl rfl (by decide +kernel) ⟨Nat.le_of_ble_eq_true rfl, Nat.le_of_ble_eq_true rfl⟩) (zpV hKX hP hD [0] rfl rfl 0 13 rfl rfl) rfl rfl hl.1 rfl (lv_room (Nat.le_of_ble_eq_true rfl)) dX12_untaxed_11 ⟨(by first | exact Nat.le_of_ble_eq_true rfl | (show _ ≤ (0 : Nat); omega)), (by first | exact Nat.le_of_ble_eq_true rfl | (show _ ≤ (0 : Nat); omega))⟩) hP hD hS hA [0] [] rfl rfl rfl (by decide) (fun pz u_3 H locs hp hP hD hS => ?_)
  generalize u_3 = thp at hP hD hp
  have hP : va_P G.1 vwCl [(x, .inr (13, [.int (iz (thp)), .int (iz ((6 : Int))), .ref am, .null, .ref tb, .ref lv, .int (iz (0)), .ref wt, .int (iz (0)), .ref bg, .ref pm, .int (iz (0))]))] H := hP
  have hD : va_D A [(x, .inr (13, [.int (iz (thp)), .int (iz ((6 : Int))), .ref am, .null, .ref tb, .ref lv, .int (iz (0)), .ref wt, .int (iz (0)), .ref bg, .ref pm, .int (iz (0))]))] := hD
  have hp : pz = (true && true && true) ∧ thp = zcode true true true := hp
  rw [show pz = true from hp.1]
  have htp := hp.2
  refine zr_ifz_ne (tgt := 19) hx hb dX12_untaxed_14 (by decide) (fun h_5 => ?_) (fun h_5 => ?_)
  ·
    refine lv_aload_n hx hb dX12_untaxed_19 rfl (lv_at hl 0 rfl) ?_
    refine zr_ldc2 (z := 1000000000000) hx hb hown (hts (.constantLong RX12 101 (1000000000000)) (by decide +kernel)) rfl dX12_untaxed_20 ?_
    refine lv_lload_n hx hb dX12_untaxed_23 rfl (lv_at hl 1 rfl) ?_
    refine zc_z (wr := []) (va_runV (As := [.long (lz (1000000000000)), .long (lz (mo))]) (rest := []) ⟨hx, hb, hml, hown, hts⟩ (c_X12_leaves l G x am tb lv wt bg pm thp 1000000000000 mo (by omega) (by omega) H.size) (cwV 2 hts gX12_untaxed_X12_leaves rfl rfl rfl (by decide +kernel) ⟨Nat.le_of_ble_eq_true rfl, Nat.le_of_ble_eq_true rfl⟩) (zpV hKX hP hD [0] rfl rfl 0 13 rfl rfl) rfl rfl hl.1 rfl (lv_room (Nat.le_of_ble_eq_true rfl)) dX12_untaxed_24 ⟨(by first | exact Nat.le_of_ble_eq_true rfl | (show _ ≤ (0 : Nat); omega)), (by first | exact Nat.le_of_ble_eq_true rfl | (show _ ≤ (0 : Nat); omega))⟩) hP hD hS hA [0] [] rfl rfl rfl (by decide) (fun y2 u_6 H locs hy2 hP hD hS => ?_)
    have hP : va_P G.1 vwCl [(x, .inr (13, [.int (iz (thp)), .int (iz (6)), .ref am, .null, .ref tb, .ref lv, .int (iz (0)), .ref wt, .int (iz (0)), .ref bg, .ref pm, .int (iz (0))]))] H := hP
    have hD : va_D A [(x, .inr (13, [.int (iz (thp)), .int (iz (6)), .ref am, .null, .ref tb, .ref lv, .int (iz (0)), .ref wt, .int (iz (0)), .ref bg, .ref pm, .int (iz (0))]))] := hD
    have hy2 : y2 = decide (mo ≤ (1000000000000 : Int)) := hy2
    rw [show y2 = true from hy2.trans (decide_eq_true (by omega))]
    refine zr_ifz_ne (tgt := 34) hx hb dX12_untaxed_27 (by decide) (fun h_8 => ?_) (fun h_8 => ?_)
    ·
      refine zr_ldc2 (z := -1) hx hb hown (hts (.constantLong RX12 283 (-1)) (by decide +kernel)) rfl dX12_untaxed_34 ?_
      refine lv_lstore_n (lv' := [(3, .long (lz (-1))), (0, .ref x), (1, .long (lz (mo)))]) hx hb dX12_untaxed_37 rfl hl (by decide) rfl (fun ls hl => ?_)
      refine zr_ldc2 (z := 1000000000000) hx hb hown (hts (.constantLong RX12 101 (1000000000000)) (by decide +kernel)) rfl dX12_untaxed_38 ?_
      refine lv_lstore (lv' := [(5, .long (lz (1000000000000))), (3, .long (lz (-1))), (0, .ref x), (1, .long (lz (mo)))]) hx hb dX12_untaxed_41 hl (by decide) rfl (fun ls hl => ?_)
      have hl_43 : ∀ (zn_43 : Nat) (lo : Int) (hi : Int) (H : Heap) (locs : List Loc) (ls : Array Slot), (hi - lo).toNat < zn_43 → (-1 ≤ lo ∧ lo < mo) → (mo ≤ hi ∧ hi ≤ 1000000000000) → va_P G.1 vwCl [(x, .inr (13, [.int (iz (thp)), .int (iz (6)), .ref am, .null, .ref tb, .ref lv, .int (iz (0)), .ref wt, .int (iz (0)), .ref bg, .ref pm, .int (iz (0))]))] H → va_D A [(x, .inr (13, [.int (iz (thp)), .int (iz (6)), .ref am, .null, .ref tb, .ref lv, .int (iz (0)), .ref wt, .int (iz (0)), .ref bg, .ref pm, .int (iz (0))]))] → va_S A s.heap H locs → lv_has ls 10 [(5, .long (lz (hi))), (3, .long (lz (lo))), (0, .ref x), (1, .long (lz (mo)))] → W p l e rm_c_X12_untaxed_o s m ([.ref x, .long (lz (mo))] : List Value).toArray below meth c H locs (0 + 0 + 0 + 0) (0 + 0 + 0 + 0) Q (F0 m 43 ls []) := by
        intro zn_43
        induction zn_43 with
        | zero => intro lo hi H locs ls hm; exact absurd hm (Nat.not_lt_zero _)
        | succ zn_43 ih_43 =>
          intro lo hi H locs ls hm_43 k1 k2 hP hD hS hl
          refine lv_lload hx hb dX12_untaxed_43 (lv_at hl 0 rfl) ?_
          refine lv_lload_n hx hb dX12_untaxed_45 rfl (lv_at hl 1 rfl) ?_
          refine zr_lsub hx hb dX12_untaxed_46 ?_
          refine lv_lconst (v := lz (1)) hx hb dX12_untaxed_47 rfl ?_
          refine zr_lcmp_le (x := hi - lo) (y := 1) (tgt := 102) hx hb (⟨by omega, by omega⟩) (⟨by omega, by omega⟩) dX12_untaxed_48 dX12_untaxed_49 (by decide) (fun h_9 => ?_) (fun h_9 => ?_)
          ·
            refine lv_lload hx hb dX12_untaxed_102 (lv_at hl 0 rfl) ?_
            rw [hQ]
            exact zr_lret (z := hi) (u := (thp)) hx hb hr hlocks hP hD hS (by first | exact Nat.le_of_ble_eq_true rfl | omega) (by first | exact Nat.le_of_ble_eq_true rfl | omega) dX12_untaxed_104 (show hi = mo ∧ thp = 0 from ⟨by omega, htp⟩)
          ·
            refine lv_lload_n hx hb dX12_untaxed_52 rfl (lv_at hl 1 rfl) ?_
            refine lv_lload hx hb dX12_untaxed_53 (lv_at hl 0 rfl) ?_
            refine lv_lload_n hx hb dX12_untaxed_55 rfl (lv_at hl 1 rfl) ?_
            refine zr_lsub hx hb dX12_untaxed_56 ?_
            refine zr_ldc2 (z := 2) hx hb hown (hts (.constantLong RX12 42 (2)) (by decide +kernel)) rfl dX12_untaxed_57 ?_
            refine zr_ldiv hx hb (x := hi - lo) (y := 2) ⟨by omega, by omega⟩ ⟨by omega, by omega⟩ (by omega) (by omega) dX12_untaxed_60 ?_
            refine zr_ladd hx hb dX12_untaxed_61 ?_
            refine zr_namel (fun mid emid => ?_)
            refine lv_lstore (lv' := [(7, .long (lz (mid))), (5, .long (lz (hi))), (3, .long (lz (lo))), (0, .ref x), (1, .long (lz (mo)))]) hx hb dX12_untaxed_62 hl (by decide) rfl (fun ls hl => ?_)
            refine lv_aload_n hx hb dX12_untaxed_64 rfl (lv_at hl 3 rfl) ?_
            refine lv_lload hx hb dX12_untaxed_65 (lv_at hl 0 rfl) ?_
            refine lv_lload_n hx hb dX12_untaxed_67 rfl (lv_at hl 4 rfl) ?_
            refine zc_z (wr := []) (va_runV (As := [.long (lz (mid)), .long (lz (mo))]) (rest := []) ⟨hx, hb, hml, hown, hts⟩ (c_X12_leaves l G x am tb lv wt bg pm thp mid mo (by omega) (by omega) H.size) (cwV 2 hts gX12_untaxed_X12_leaves rfl rfl rfl (by decide +kernel) ⟨Nat.le_of_ble_eq_true rfl, Nat.le_of_ble_eq_true rfl⟩) (zpV hKX hP hD [0] rfl rfl 0 13 rfl rfl) rfl rfl hl.1 rfl (lv_room (Nat.le_of_ble_eq_true rfl)) dX12_untaxed_68 ⟨(by first | exact Nat.le_of_ble_eq_true rfl | (show _ ≤ (0 : Nat); omega)), (by first | exact Nat.le_of_ble_eq_true rfl | (show _ ≤ (0 : Nat); omega))⟩) hP hD hS hA [0] [] rfl rfl rfl (by decide) (fun y3 u_10 H locs hy3 hP hD hS => ?_)
            have hP : va_P G.1 vwCl [(x, .inr (13, [.int (iz (thp)), .int (iz (6)), .ref am, .null, .ref tb, .ref lv, .int (iz (0)), .ref wt, .int (iz (0)), .ref bg, .ref pm, .int (iz (0))]))] H := hP
            have hD : va_D A [(x, .inr (13, [.int (iz (thp)), .int (iz (6)), .ref am, .null, .ref tb, .ref lv, .int (iz (0)), .ref wt, .int (iz (0)), .ref bg, .ref pm, .int (iz (0))]))] := hD
            have hy3 : y3 = decide (mo ≤ mid) := hy3
            refine lv_istore (lv' := [(9, .int (iz (zbb y3))), (7, .long (lz (mid))), (5, .long (lz (hi))), (3, .long (lz (lo))), (0, .ref x), (1, .long (lz (mo)))]) hx hb dX12_untaxed_71 hl (by decide) rfl (fun ls hl => ?_)
            refine lv_iload hx hb dX12_untaxed_73 (lv_at hl 0 rfl) ?_
            refine zr_ifz_eq (tgt := 83) hx hb dX12_untaxed_75 (by decide) (fun h_12 => ?_) (fun h_12 => ?_)
            ·
              have hzy3 := of_decide_eq_false (hy3.symm.trans h_12)
              refine lv_lload hx hb dX12_untaxed_83 (lv_at hl 2 rfl) ?_
              refine lv_lstore (lv' := [(5, .long (lz (hi))), (9, .int (iz (zbb y3))), (7, .long (lz (mid))), (3, .long (lz (lo))), (0, .ref x), (1, .long (lz (mo)))]) hx hb dX12_untaxed_85 hl (by decide) rfl (fun ls hl => ?_)
              refine lv_iload hx hb dX12_untaxed_87 (lv_at hl 1 rfl) ?_
              refine zr_ifz_eq (tgt := 96) hx hb dX12_untaxed_89 (by decide) (fun h_13 => ?_) (fun h_13 => ?_)
              ·
                have hzy3 := of_decide_eq_false (hy3.symm.trans h_13)
                refine lv_lload hx hb dX12_untaxed_96 (lv_at hl 2 rfl) ?_
                refine lv_lstore_n (lv' := [(3, .long (lz (mid))), (5, .long (lz (hi))), (9, .int (iz (zbb y3))), (7, .long (lz (mid))), (0, .ref x), (1, .long (lz (mo)))]) hx hb dX12_untaxed_98 rfl hl (by decide) rfl (fun ls hl => ?_)
                refine lv_goto (tgt := 43) hx hb dX12_untaxed_99 (by decide) ?_
                refine W.widen (k := 0 + 0 + 0 + 0) (n := 0 + 0 + 0 + 0) (by omega) (by omega) ?_
                exact ih_43 mid hi _ _ _ (by omega) (by omega) (by omega) (hP) (hD) hS (lv_sub hl [1, 0, 4, 5] rfl)
              ·
                have hzy3 := of_decide_eq_true (hy3.symm.trans h_13)
                refine lv_lload_n hx hb dX12_untaxed_92 rfl (lv_at hl 3 rfl) ?_
                refine lv_goto (tgt := 98) hx hb dX12_untaxed_93 (by decide) ?_
                refine lv_lstore_n (lv' := [(3, .long (lz (lo))), (5, .long (lz (hi))), (9, .int (iz (zbb y3))), (7, .long (lz (mid))), (0, .ref x), (1, .long (lz (mo)))]) hx hb dX12_untaxed_98 rfl hl (by decide) rfl (fun ls hl => ?_)
                refine lv_goto (tgt := 43) hx hb dX12_untaxed_99 (by decide) ?_
                refine W.widen (k := 0 + 0 + 0 + 0) (n := 0 + 0 + 0 + 0) (by omega) (by omega) ?_
                exact ih_43 lo hi _ _ _ (by omega) (by omega) (by omega) (hP) (hD) hS (lv_sub hl [1, 0, 4, 5] rfl)
            ·
              have hzy3 := of_decide_eq_true (hy3.symm.trans h_12)
              refine lv_lload hx hb dX12_untaxed_78 (lv_at hl 1 rfl) ?_
              refine lv_goto (tgt := 85) hx hb dX12_untaxed_80 (by decide) ?_
              refine lv_lstore (lv' := [(5, .long (lz (mid))), (9, .int (iz (zbb y3))), (7, .long (lz (mid))), (3, .long (lz (lo))), (0, .ref x), (1, .long (lz (mo)))]) hx hb dX12_untaxed_85 hl (by decide) rfl (fun ls hl => ?_)
              refine lv_iload hx hb dX12_untaxed_87 (lv_at hl 1 rfl) ?_
              refine zr_ifz_eq (tgt := 96) hx hb dX12_untaxed_89 (by decide) (fun h_14 => ?_) (fun h_14 => ?_)
              ·
                have hzy3 := of_decide_eq_false (hy3.symm.trans h_14)
                refine lv_lload hx hb dX12_untaxed_96 (lv_at hl 2 rfl) ?_
                refine lv_lstore_n (lv' := [(3, .long (lz (mid))), (5, .long (lz (mid))), (9, .int (iz (zbb y3))), (7, .long (lz (mid))), (0, .ref x), (1, .long (lz (mo)))]) hx hb dX12_untaxed_98 rfl hl (by decide) rfl (fun ls hl => ?_)
                refine lv_goto (tgt := 43) hx hb dX12_untaxed_99 (by decide) ?_
                refine W.widen (k := 0 + 0 + 0 + 0) (n := 0 + 0 + 0 + 0) (by omega) (by omega) ?_
                exact ih_43 mid mid _ _ _ (by omega) (by omega) (by omega) (hP) (hD) hS (lv_sub hl [1, 0, 4, 5] rfl)
              ·
                have hzy3 := of_decide_eq_true (hy3.symm.trans h_14)
                refine lv_lload_n hx hb dX12_untaxed_92 rfl (lv_at hl 3 rfl) ?_
                refine lv_goto (tgt := 98) hx hb dX12_untaxed_93 (by decide) ?_
                refine lv_lstore_n (lv' := [(3, .long (lz (lo))), (5, .long (lz (mid))), (9, .int (iz (zbb y3))), (7, .long (lz (mid))), (0, .ref x), (1, .long (lz (mo)))]) hx hb dX12_untaxed_98 rfl hl (by decide) rfl (fun ls hl => ?_)
                refine lv_goto (tgt := 43) hx hb dX12_untaxed_99 (by decide) ?_
                refine W.widen (k := 0 + 0 + 0 + 0) (n := 0 + 0 + 0 + 0) (by omega) (by omega) ?_
                exact ih_43 lo mid _ _ _ (by omega) (by omega) (by omega) (hP) (hD) hS (lv_sub hl [1, 0, 4, 5] rfl)
      exact hl_43 ((1000000000000 - (-1) : Int).toNat + 1) (-1) 1000000000000 _ _ _ (Nat.lt_succ_self _) (by omega) (by omega) (hP) (hD) hS (hl)
    · exact absurd h_8 (by decide)
  · exact absurd h_5 (by decide)

def rm_c_X12_untaxed_x : Room := { frames := 1, cells := 0, slots := 0, locals := 25 }
set_option maxHeartbeats 1000000 in
set_option maxRecDepth 100000 in
theorem c_X12_untaxed_x (l : Launch) (G : zG) (x : Nat) (am : Nat) (tb : Nat) (lv : Nat) (wt : Nat) (bg : Nat) (pm : Nat) (th : Int) (mo : Int) (h0 : -9223372036854775808 ≤ mo ∧ mo < 9223372036854775808) (h1 : ¬ (0 ≤ mo ∧ mo ≤ 1000000000)) : zM l G yX12_untaxed wsX12_untaxed rm_c_X12_untaxed_x [.ref x, .long (lz (mo))] [(x, .inr (13, [.int (iz (th)), .int (iz (6)), .ref am, .null, .ref tb, .ref lv, .int (iz (0)), .ref wt, .int (iz (0)), .ref bg, .ref pm, .int (iz (0))]))] (fun A => zQl G (fun (z : Int) (th2 : Int) => z = 0 ∧ th2 = 1) (fun (th2 : Int) => [(x, .inr (13, [.int (iz (th2)), .int (iz (6)), .ref am, .null, .ref tb, .ref lv, .int (iz (0)), .ref wt, .int (iz (0)), .ref bg, .ref pm, .int (iz (0))]))]) A) 0 0 := by
  refine zM_of (cc := cX12_untaxed) (maxL := 10) (ret := (some .long)) (by decide) rfl (Nat.le_of_ble_eq_true rfl) ?_
  intro p e s m below meth c ls A Q hQ hx hb hr hts hown hlocks hml hnm hKX hP hD hA hS hl
  have hK := hKX.1
  obtain ⟨H, hH⟩ : ∃ h, h = s.heap := ⟨_, rfl⟩
  obtain ⟨locs, hlo⟩ : ∃ h : List Loc, h = [] := ⟨_, rfl⟩
  have hS : va_S A s.heap H locs := by rw [hH, hlo]; exact hS
  have hP : va_P G.1 vwCl [(x, .inr (13, [.int (iz (th)), .int (iz (6)), .ref am, .null, .ref tb, .ref lv, .int (iz (0)), .ref wt, .int (iz (0)), .ref bg, .ref pm, .int (iz (0))]))] H := by rw [hH]; exact hP
  have hD : va_D A [(x, .inr (13, [.int (iz (th)), .int (iz (6)), .ref am, .null, .ref tb, .ref lv, .int (iz (0)), .ref wt, .int (iz (0)), .ref bg, .ref pm, .int (iz (0))]))] := hD
  have hl : lv_has ls 10 [(0, .ref x), (1, .long (lz (mo)))] := hl
  rw [← hH, ← hlo]
  refine lv_aload_n hx hb dX12_untaxed_0 rfl (lv_at hl 0 rfl) ?_
  refine lv_lload_n hx hb dX12_untaxed_1 rfl (lv_at hl 1 rfl) ?_
  refine lv_lconst (v := lz (0)) hx hb dX12_untaxed_2 rfl ?_
  refine zr_ldc2 (z := 1000000000) hx hb hown (hts (.constantLong RX12 121 (1000000000)) (by decide +kernel)) rfl dX12_untaxed_3 ?_
  refine zc_z (wr := [(x, .inr (13, [.int (iz (th)), .int (iz (6)), .ref am, .null, .ref tb, .ref lv, .int (iz (0)), .ref wt, .int (iz (0)), .ref bg, .ref pm, .int (iz (0))]))]) (va_runS (As := [.long (lz (mo)), .long (lz (0)), .long (lz (1000000000))]) (rest := [.ref x]) ⟨hx, hb, hml, hown, hts⟩ (c_X12_in l G mo 0 1000000000 (by omega) (by omega) (by omega) H.size) (va_cwS 3 hts gX12_untaxed_X12_in rfl rfl rfl (by decide +kernel) ⟨Nat.le_of_ble_eq_true rfl, Nat.le_of_ble_eq_true rfl⟩) (zpS hKX hP hD [] rfl rfl) rfl rfl hl.1 rfl (lv_room (Nat.le_of_ble_eq_true rfl)) dX12_untaxed_6 ⟨(by first | exact Nat.le_of_ble_eq_true rfl | (show _ ≤ (0 : Nat); omega)), (by first | exact Nat.le_of_ble_eq_true rfl | (show _ ≤ (0 : Nat); omega))⟩) hP hD hS hA [] [0] rfl rfl rfl (by decide) (fun y1 u_1 H locs hy1 hP hD hS => ?_)
  have hP : va_P G.1 vwCl [(x, .inr (13, [.int (iz (th)), .int (iz (6)), .ref am, .null, .ref tb, .ref lv, .int (iz (0)), .ref wt, .int (iz (0)), .ref bg, .ref pm, .int (iz (0))]))] H := hP
  have hD : va_D A [(x, .inr (13, [.int (iz (th)), .int (iz (6)), .ref am, .null, .ref tb, .ref lv, .int (iz (0)), .ref wt, .int (iz (0)), .ref bg, .ref pm, .int (iz (0))]))] := hD
  have hy1 : y1 = decide ((0 : Int) ≤ mo ∧ mo ≤ (1000000000 : Int)) := hy1
  rw [show y1 = false from hy1.trans (decide_eq_false (by omega))]
  refine lv_iconst (v := iz (1)) hx hb dX12_untaxed_9 rfl ?_
  refine lv_iconst (v := iz (1)) hx hb dX12_untaxed_10 rfl ?_
  refine zc_z (wr := []) (va_runV (As := [.int (iz (zbb false)), .int (iz (1)), .int (iz (1))]) (rest := []) ⟨hx, hb, hml, hown, hts⟩ (c_X12_passes l G x th (.ref am) .null (.ref tb) (.ref lv) (.int (iz (0))) (.ref wt) (.int (iz (0))) (.ref bg) (.ref pm) (.int (iz (0))) 6 false true true  H.size) (cwV 3 hts gX12_untaxed_X12_passes rfl rfl rfl (by decide +kernel) ⟨Nat.le_of_ble_eq_true rfl, Nat.le_of_ble_eq_true rfl⟩) (zpV hKX hP hD [0] rfl rfl 0 13 rfl rfl) rfl rfl hl.1 rfl (lv_room (Nat.le_of_ble_eq_true rfl)) dX12_untaxed_11 ⟨(by first | exact Nat.le_of_ble_eq_true rfl | (show _ ≤ (0 : Nat); omega)), (by first | exact Nat.le_of_ble_eq_true rfl | (show _ ≤ (0 : Nat); omega))⟩) hP hD hS hA [0] [] rfl rfl rfl (by decide) (fun pz u_3 H locs hp hP hD hS => ?_)
  generalize u_3 = thp at hP hD hp
  have hP : va_P G.1 vwCl [(x, .inr (13, [.int (iz (thp)), .int (iz ((6 : Int))), .ref am, .null, .ref tb, .ref lv, .int (iz (0)), .ref wt, .int (iz (0)), .ref bg, .ref pm, .int (iz (0))]))] H := hP
  have hD : va_D A [(x, .inr (13, [.int (iz (thp)), .int (iz ((6 : Int))), .ref am, .null, .ref tb, .ref lv, .int (iz (0)), .ref wt, .int (iz (0)), .ref bg, .ref pm, .int (iz (0))]))] := hD
  have hp : pz = (false && true && true) ∧ thp = zcode false true true := hp
  rw [show pz = false from hp.1]
  have htp := hp.2
  refine zr_ifz_ne (tgt := 19) hx hb dX12_untaxed_14 (by decide) (fun h_5 => ?_) (fun h_5 => ?_)
  · exact absurd h_5 (by decide)
  ·
    refine lv_lconst (v := lz (0)) hx hb dX12_untaxed_17 rfl ?_
    rw [hQ]
    exact zr_lret (z := 0) (u := (thp)) hx hb hr hlocks hP hD hS (by first | exact Nat.le_of_ble_eq_true rfl | omega) (by first | exact Nat.le_of_ble_eq_true rfl | omega) dX12_untaxed_18 (show 0 = 0 ∧ thp = 1 from ⟨rfl, htp⟩)

def rm_c_X12_failsOfLoan : Room := { frames := 0, cells := 0, slots := 0, locals := 0 }
theorem iw_X12_failsOfLoan_X12 : ∀ w ∈ wsX120, w ∈ wsX12_failsOfLoan := by decide +kernel
set_option maxHeartbeats 1000000 in
set_option maxRecDepth 100000 in
theorem c_X12_failsOfLoan (l : Launch) (G : zG) (x : Nat) (am : Nat) (tb : Nat) (lv : Nat) (wt : Nat) (bg : Nat) (pm : Nat) (th : Int)  : zM l G yX12_failsOfLoan wsX12_failsOfLoan rm_c_X12_failsOfLoan [.ref x] [(x, .inr (13, [.int (iz (th)), .int (iz (6)), .ref am, .null, .ref tb, .ref lv, .int (iz (0)), .ref wt, .int (iz (0)), .ref bg, .ref pm, .int (iz (0))]))] (fun A => zQi G (fun (z : Int) (_ : Unit) => z = 0) (fun (_ : Unit) => [(x, .inr (13, [.int (iz (th)), .int (iz (6)), .ref am, .null, .ref tb, .ref lv, .int (iz (0)), .ref wt, .int (iz (0)), .ref bg, .ref pm, .int (iz (0))]))]) A) 0 0 := by
  refine zM_of (cc := cX12_failsOfLoan) (maxL := 1) (ret := (some .int)) (by decide) rfl (Nat.le_of_ble_eq_true rfl) ?_
  intro p e s m below meth c ls A Q hQ hx hb hr hts hown hlocks hml hnm hKX hP hD hA hS hl
  have hK := hKX.1
  have iwX12 := iw_X12_failsOfLoan_X12
  obtain ⟨H, hH⟩ : ∃ h, h = s.heap := ⟨_, rfl⟩
  obtain ⟨locs, hlo⟩ : ∃ h : List Loc, h = [] := ⟨_, rfl⟩
  have hS : va_S A s.heap H locs := by rw [hH, hlo]; exact hS
  have hP : va_P G.1 vwCl [(x, .inr (13, [.int (iz (th)), .int (iz (6)), .ref am, .null, .ref tb, .ref lv, .int (iz (0)), .ref wt, .int (iz (0)), .ref bg, .ref pm, .int (iz (0))]))] H := by rw [hH]; exact hP
  have hD : va_D A [(x, .inr (13, [.int (iz (th)), .int (iz (6)), .ref am, .null, .ref tb, .ref lv, .int (iz (0)), .ref wt, .int (iz (0)), .ref bg, .ref pm, .int (iz (0))]))] := hD
  have hl : lv_has ls 1 [(0, .ref x)] := hl
  rw [← hH, ← hlo]
  refine lv_aload_n hx hb dX12_failsOfLoan_0 rfl (lv_at hl 0 rfl) ?_
  refine va_get (D := G.1) (ci := 13) (v := .null) (C := RX12) (T := TX12) (N := 12) hx hb hts iwX12 hown hK hP 0 rfl rfl 3 (by decide) (hts (.fieldLink RX12 217 "AnnuityHouseModel" "loan" "LAnnuityHouseModel$Loan;") (by decide +kernel)) (fun _ h9 => h9) rfl dX12_failsOfLoan_1 ?_
  refine lv_ifnonnullN hx hb dX12_failsOfLoan_4 ?_
  refine lv_iconst (v := iz (0)) hx hb dX12_failsOfLoan_7 rfl ?_
  rw [hQ]
  exact zr_iret (z := 0) (u := ()) hx hb hr hlocks hP hD hS (by first | exact Nat.le_of_ble_eq_true rfl | omega) (by first | exact Nat.le_of_ble_eq_true rfl | omega) dX12_failsOfLoan_8 (show 0 = 0 from rfl)

def rm_c_X12_failsOfParts : Room := { frames := 1, cells := 0, slots := 0, locals := 23 }
set_option maxHeartbeats 1000000 in
set_option maxRecDepth 100000 in
theorem c_X12_failsOfParts (l : Launch) (G : zG) (x : Nat) (am : Nat) (tb : Nat) (lv : Nat) (wt : Nat) (bg : Nat) (pm : Nat) (th : Int)  : zM l G yX12_failsOfParts wsX12_failsOfParts rm_c_X12_failsOfParts [.ref x] [(x, .inr (13, [.int (iz (th)), .int (iz (6)), .ref am, .null, .ref tb, .ref lv, .int (iz (0)), .ref wt, .int (iz (0)), .ref bg, .ref pm, .int (iz (0))]))] (fun A => zQi G (fun (z : Int) (_ : Unit) => z = 0) (fun (_ : Unit) => [(x, .inr (13, [.int (iz (th)), .int (iz (6)), .ref am, .null, .ref tb, .ref lv, .int (iz (0)), .ref wt, .int (iz (0)), .ref bg, .ref pm, .int (iz (0))]))]) A) 0 0 := by
  refine zM_of (cc := cX12_failsOfParts) (maxL := 5) (ret := (some .int)) (by decide) rfl (Nat.le_of_ble_eq_true rfl) ?_
  intro p e s m below meth c ls A Q hQ hx hb hr hts hown hlocks hml hnm hKX hP hD hA hS hl
  have hK := hKX.1
  obtain ⟨H, hH⟩ : ∃ h, h = s.heap := ⟨_, rfl⟩
  obtain ⟨locs, hlo⟩ : ∃ h : List Loc, h = [] := ⟨_, rfl⟩
  have hS : va_S A s.heap H locs := by rw [hH, hlo]; exact hS
  have hP : va_P G.1 vwCl [(x, .inr (13, [.int (iz (th)), .int (iz (6)), .ref am, .null, .ref tb, .ref lv, .int (iz (0)), .ref wt, .int (iz (0)), .ref bg, .ref pm, .int (iz (0))]))] H := by rw [hH]; exact hP
  have hD : va_D A [(x, .inr (13, [.int (iz (th)), .int (iz (6)), .ref am, .null, .ref tb, .ref lv, .int (iz (0)), .ref wt, .int (iz (0)), .ref bg, .ref pm, .int (iz (0))]))] := hD
  have hl : lv_has ls 5 [(0, .ref x)] := hl
  rw [← hH, ← hlo]
  refine lv_aload_n hx hb dX12_failsOfParts_0 rfl (lv_at hl 0 rfl) ?_
  refine zc_l (wr := []) (va_runV (As := []) (rest := []) ⟨hx, hb, hml, hown, hts⟩ (c_X12_allWeights l G x am tb lv wt bg pm th  H.size) (cwV 0 hts gX12_failsOfParts_X12_allWeights rfl rfl rfl (by decide +kernel) ⟨Nat.le_of_ble_eq_true rfl, Nat.le_of_ble_eq_true rfl⟩) (zpV hKX hP hD [0] rfl rfl 0 13 rfl rfl) rfl rfl hl.1 rfl (lv_room (Nat.le_of_ble_eq_true rfl)) dX12_failsOfParts_1 ⟨(by first | exact Nat.le_of_ble_eq_true rfl | (show _ ≤ (0 : Nat); omega)), (by first | exact Nat.le_of_ble_eq_true rfl | (show _ ≤ (0 : Nat); omega))⟩) hP hD hS hA [0] [] rfl rfl rfl (by decide) (fun aw u_1 H locs haw hP hD hS => ?_)
  have hP : va_P G.1 vwCl [(x, .inr (13, [.int (iz (th)), .int (iz (6)), .ref am, .null, .ref tb, .ref lv, .int (iz (0)), .ref wt, .int (iz (0)), .ref bg, .ref pm, .int (iz (0))]))] H := hP
  have hD : va_D A [(x, .inr (13, [.int (iz (th)), .int (iz (6)), .ref am, .null, .ref tb, .ref lv, .int (iz (0)), .ref wt, .int (iz (0)), .ref bg, .ref pm, .int (iz (0))]))] := hD
  have haw : aw = 0 := haw
  refine lv_lconst (v := lz (0)) hx hb dX12_failsOfParts_4 rfl ?_
  refine zr_lcmp_ne (x := aw) (y := 0) (tgt := 11) hx hb (⟨by omega, by omega⟩) (⟨by omega, by omega⟩) dX12_failsOfParts_5 dX12_failsOfParts_6 (by decide) (fun h_3 => ?_) (fun h_3 => ?_)
  · exact absurd h_3 (by omega)
  ·
    refine lv_iconst (v := iz (0)) hx hb dX12_failsOfParts_9 rfl ?_
    rw [hQ]
    exact zr_iret (z := 0) (u := ()) hx hb hr hlocks hP hD hS (by first | exact Nat.le_of_ble_eq_true rfl | omega) (by first | exact Nat.le_of_ble_eq_true rfl | omega) dX12_failsOfParts_10 (show 0 = 0 from rfl)

def rm_c_X12_failsOfLives : Room := { frames := 0, cells := 0, slots := 0, locals := 0 }
theorem iw_X12_failsOfLives_X12 : ∀ w ∈ wsX120, w ∈ wsX12_failsOfLives := by decide +kernel
set_option maxHeartbeats 1000000 in
set_option maxRecDepth 100000 in
theorem c_X12_failsOfLives (l : Launch) (G : zG) (x : Nat) (am : Nat) (tb : Nat) (lv : Nat) (wt : Nat) (bg : Nat) (pm : Nat) (th : Int) (po : Int)  : zM l G yX12_failsOfLives wsX12_failsOfLives rm_c_X12_failsOfLives [.ref x, .int (iz (po))] [(x, .inr (13, [.int (iz (th)), .int (iz (6)), .ref am, .null, .ref tb, .ref lv, .int (iz (0)), .ref wt, .int (iz (0)), .ref bg, .ref pm, .int (iz (0))]))] (fun A => zQi G (fun (z : Int) (_ : Unit) => z = 0) (fun (_ : Unit) => [(x, .inr (13, [.int (iz (th)), .int (iz (6)), .ref am, .null, .ref tb, .ref lv, .int (iz (0)), .ref wt, .int (iz (0)), .ref bg, .ref pm, .int (iz (0))]))]) A) 0 0 := by
  refine zM_of (cc := cX12_failsOfLives) (maxL := 6) (ret := (some .int)) (by decide) rfl (Nat.le_of_ble_eq_true rfl) ?_
  intro p e s m below meth c ls A Q hQ hx hb hr hts hown hlocks hml hnm hKX hP hD hA hS hl
  have hK := hKX.1
  have iwX12 := iw_X12_failsOfLives_X12
  obtain ⟨H, hH⟩ : ∃ h, h = s.heap := ⟨_, rfl⟩
  obtain ⟨locs, hlo⟩ : ∃ h : List Loc, h = [] := ⟨_, rfl⟩
  have hS : va_S A s.heap H locs := by rw [hH, hlo]; exact hS
  have hP : va_P G.1 vwCl [(x, .inr (13, [.int (iz (th)), .int (iz (6)), .ref am, .null, .ref tb, .ref lv, .int (iz (0)), .ref wt, .int (iz (0)), .ref bg, .ref pm, .int (iz (0))]))] H := by rw [hH]; exact hP
  have hD : va_D A [(x, .inr (13, [.int (iz (th)), .int (iz (6)), .ref am, .null, .ref tb, .ref lv, .int (iz (0)), .ref wt, .int (iz (0)), .ref bg, .ref pm, .int (iz (0))]))] := hD
  have hl : lv_has ls 6 [(0, .ref x), (1, .int (iz (po)))] := hl
  rw [← hH, ← hlo]
  refine lv_iconst (v := iz (0)) hx hb dX12_failsOfLives_0 rfl ?_
  refine lv_istore_n (lv' := [(2, .int (iz (0))), (0, .ref x), (1, .int (iz (po)))]) hx hb dX12_failsOfLives_1 rfl hl (by decide) rfl (fun ls hl => ?_)
  refine lv_iconst (v := iz (0)) hx hb dX12_failsOfLives_2 rfl ?_
  refine lv_istore_n (lv' := [(3, .int (iz (0))), (2, .int (iz (0))), (0, .ref x), (1, .int (iz (po)))]) hx hb dX12_failsOfLives_3 rfl hl (by decide) rfl (fun ls hl => ?_)
  refine lv_iload_n hx hb dX12_failsOfLives_4 rfl (lv_at hl 0 rfl) ?_
  refine lv_aload_n hx hb dX12_failsOfLives_5 rfl (lv_at hl 2 rfl) ?_
  refine va_get (D := G.1) (ci := 13) (v := .int (iz (0))) (C := RX12) (T := TX12) (N := 12) hx hb hts iwX12 hown hK hP 0 rfl rfl 6 (by decide) (hts (.fieldLink RX12 254 "AnnuityHouseModel" "ages" "I") (by decide +kernel)) (fun _ h9 => h9) rfl dX12_failsOfLives_6 ?_
  refine zr_icmp_ge (x := 0) (y := 0) (tgt := 74) hx hb (⟨by omega, by omega⟩) (⟨by omega, by omega⟩) dX12_failsOfLives_9 (by decide) (fun h_1 => ?_) (fun h_1 => ?_)
  ·
    refine lv_iload_n hx hb dX12_failsOfLives_74 rfl (lv_at hl 1 rfl) ?_
    rw [hQ]
    exact zr_iret (z := 0) (u := ()) hx hb hr hlocks hP hD hS (by first | exact Nat.le_of_ble_eq_true rfl | omega) (by first | exact Nat.le_of_ble_eq_true rfl | omega) dX12_failsOfLives_75 (show 0 = 0 from rfl)
  · exact absurd h_1 (by omega)

def rm_c_X12_failsOfYield : Room := { frames := 1, cells := 0, slots := 0, locals := 24 }
set_option maxHeartbeats 1000000 in
set_option maxRecDepth 100000 in
theorem c_X12_failsOfYield (l : Launch) (G : zG) (x : Nat) (am : Nat) (tb : Nat) (lv : Nat) (wt : Nat) (bg : Nat) (pm : Nat) (th : Int)  : zM l G yX12_failsOfYield wsX12_failsOfYield rm_c_X12_failsOfYield [.ref x] [(x, .inr (13, [.int (iz (th)), .int (iz (6)), .ref am, .null, .ref tb, .ref lv, .int (iz (0)), .ref wt, .int (iz (0)), .ref bg, .ref pm, .int (iz (0))])), (am, zaL (G.2 0) 41 (fun _ => 0))] (fun A => zQi G (fun (z : Int) (th2 : Int) => z = 0 ∧ th2 = 0) (fun (th2 : Int) => [(x, .inr (13, [.int (iz (th2)), .int (iz (6)), .ref am, .null, .ref tb, .ref lv, .int (iz (0)), .ref wt, .int (iz (0)), .ref bg, .ref pm, .int (iz (0))])), (am, zaL (G.2 0) 41 (fun _ => 0))]) A) 0 0 := by
  refine zM_of (cc := cX12_failsOfYield) (maxL := 2) (ret := (some .int)) (by decide) rfl (Nat.le_of_ble_eq_true rfl) ?_
  intro p e s m below meth c ls A Q hQ hx hb hr hts hown hlocks hml hnm hKX hP hD hA hS hl
  have hK := hKX.1
  obtain ⟨H, hH⟩ : ∃ h, h = s.heap := ⟨_, rfl⟩
  obtain ⟨locs, hlo⟩ : ∃ h : List Loc, h = [] := ⟨_, rfl⟩
  have hS : va_S A s.heap H locs := by rw [hH, hlo]; exact hS
  have hP : va_P G.1 vwCl [(x, .inr (13, [.int (iz (th)), .int (iz (6)), .ref am, .null, .ref tb, .ref lv, .int (iz (0)), .ref wt, .int (iz (0)), .ref bg, .ref pm, .int (iz (0))])), (am, zaL (G.2 0) 41 (fun _ => 0))] H := by rw [hH]; exact hP
  have hD : va_D A [(x, .inr (13, [.int (iz (th)), .int (iz (6)), .ref am, .null, .ref tb, .ref lv, .int (iz (0)), .ref wt, .int (iz (0)), .ref bg, .ref pm, .int (iz (0))])), (am, zaL (G.2 0) 41 (fun _ => 0))] := hD
  have hl : lv_has ls 2 [(0, .ref x)] := hl
  rw [← hH, ← hlo]
  refine lv_aload_n hx hb dX12_failsOfYield_0 rfl (lv_at hl 0 rfl) ?_
  refine zc_i (wr := []) (va_runV (As := []) (rest := []) ⟨hx, hb, hml, hown, hts⟩ (c_X12_changes l G x am tb lv wt bg pm th  H.size) (cwV 0 hts gX12_failsOfYield_X12_changes rfl rfl rfl (by decide +kernel) ⟨Nat.le_of_ble_eq_true rfl, Nat.le_of_ble_eq_true rfl⟩) (zpV hKX hP hD [0, 1] rfl rfl 0 13 rfl rfl) rfl rfl hl.1 rfl (lv_room (Nat.le_of_ble_eq_true rfl)) dX12_failsOfYield_1 ⟨(by first | exact Nat.le_of_ble_eq_true rfl | (show _ ≤ (0 : Nat); omega)), (by first | exact Nat.le_of_ble_eq_true rfl | (show _ ≤ (0 : Nat); omega))⟩) hP hD hS hA [0, 1] [] rfl rfl rfl (by decide) (fun y1 u_1 H locs hy1 hP hD hS => ?_)
  generalize u_1 = tc at hP hD hy1
  have hP : va_P G.1 vwCl [(x, .inr (13, [.int (iz (tc)), .int (iz (6)), .ref am, .null, .ref tb, .ref lv, .int (iz (0)), .ref wt, .int (iz (0)), .ref bg, .ref pm, .int (iz (0))])), (am, zaL (G.2 0) 41 (fun _ => 0))] H := hP
  have hD : va_D A [(x, .inr (13, [.int (iz (tc)), .int (iz (6)), .ref am, .null, .ref tb, .ref lv, .int (iz (0)), .ref wt, .int (iz (0)), .ref bg, .ref pm, .int (iz (0))])), (am, zaL (G.2 0) 41 (fun _ => 0))] := hD
  have hy1 : y1 = 0 ∧ tc = 0 := hy1
  refine lv_iconst (v := iz (1)) hx hb dX12_failsOfYield_4 rfl ?_
  refine zr_icmp_ne (x := y1) (y := 1) (tgt := 16) hx hb (⟨by omega, by omega⟩) (⟨by omega, by omega⟩) dX12_failsOfYield_5 (by decide) (fun h_3 => ?_) (fun h_3 => ?_)
  ·
    refine lv_iconst (v := iz (0)) hx hb dX12_failsOfYield_16 rfl ?_
    rw [hQ]
    exact zr_iret (z := 0) (u := (tc)) hx hb hr hlocks hP hD hS (by first | exact Nat.le_of_ble_eq_true rfl | omega) (by first | exact Nat.le_of_ble_eq_true rfl | omega) dX12_failsOfYield_17 (show 0 = 0 ∧ tc = 0 from ⟨rfl, hy1.2⟩)
  · exact absurd h_3 (by omega)

def rm_c_X12_errors_o : Room := { frames := 2, cells := 0, slots := 0, locals := 47 }
set_option maxHeartbeats 1000000 in
set_option maxRecDepth 100000 in
theorem c_X12_errors_o (l : Launch) (G : zG) (x : Nat) (am : Nat) (tb : Nat) (lv : Nat) (wt : Nat) (bg : Nat) (pm : Nat) (th : Int) (po : Int) (h0 : -2147483648 ≤ po ∧ po < 2147483648) (h1 : 0 ≤ po ∧ po ≤ 20000) : zM l G yX12_errors wsX12_errors rm_c_X12_errors_o [.ref x, .int (iz (po))] [(x, .inr (13, [.int (iz (th)), .int (iz (6)), .ref am, .null, .ref tb, .ref lv, .int (iz (0)), .ref wt, .int (iz (0)), .ref bg, .ref pm, .int (iz (0))])), (am, zaL (G.2 0) 41 (fun _ => 0))] (fun A => zQi G (fun (z : Int) (th2 : Int) => z = 0 ∧ th2 = 0) (fun (th2 : Int) => [(x, .inr (13, [.int (iz (th2)), .int (iz (6)), .ref am, .null, .ref tb, .ref lv, .int (iz (0)), .ref wt, .int (iz (0)), .ref bg, .ref pm, .int (iz (0))]))]) A) 0 0 := by
  refine zM_of (cc := cX12_errors) (maxL := 3) (ret := (some .int)) (by decide) rfl (Nat.le_of_ble_eq_true rfl) ?_
  intro p e s m below meth c ls A Q hQ hx hb hr hts hown hlocks hml hnm hKX hP hD hA hS hl
  have hK := hKX.1
  obtain ⟨H, hH⟩ : ∃ h, h = s.heap := ⟨_, rfl⟩
  obtain ⟨locs, hlo⟩ : ∃ h : List Loc, h = [] := ⟨_, rfl⟩
  have hS : va_S A s.heap H locs := by rw [hH, hlo]; exact hS
  have hP : va_P G.1 vwCl [(x, .inr (13, [.int (iz (th)), .int (iz (6)), .ref am, .null, .ref tb, .ref lv, .int (iz (0)), .ref wt, .int (iz (0)), .ref bg, .ref pm, .int (iz (0))])), (am, zaL (G.2 0) 41 (fun _ => 0))] H := by rw [hH]; exact hP
  have hD : va_D A [(x, .inr (13, [.int (iz (th)), .int (iz (6)), .ref am, .null, .ref tb, .ref lv, .int (iz (0)), .ref wt, .int (iz (0)), .ref bg, .ref pm, .int (iz (0))])), (am, zaL (G.2 0) 41 (fun _ => 0))] := hD
  have hl : lv_has ls 3 [(0, .ref x), (1, .int (iz (po)))] := hl
  rw [← hH, ← hlo]
  refine lv_aload_n hx hb dX12_errors_0 rfl (lv_at hl 0 rfl) ?_
  refine zc_i (wr := []) (va_runV (As := []) (rest := []) ⟨hx, hb, hml, hown, hts⟩ (c_X12_failsOfYield l G x am tb lv wt bg pm th  H.size) (cwV 0 hts gX12_errors_X12_failsOfYield rfl rfl rfl (by decide +kernel) ⟨Nat.le_of_ble_eq_true rfl, Nat.le_of_ble_eq_true rfl⟩) (zpV hKX hP hD [0, 1] rfl rfl 0 13 rfl rfl) rfl rfl hl.1 rfl (lv_room (Nat.le_of_ble_eq_true rfl)) dX12_errors_1 ⟨(by first | exact Nat.le_of_ble_eq_true rfl | (show _ ≤ (0 : Nat); omega)), (by first | exact Nat.le_of_ble_eq_true rfl | (show _ ≤ (0 : Nat); omega))⟩) hP hD hS hA [0, 1] [] rfl rfl rfl (by decide) (fun e1 u_1 H locs he1 hP hD hS => ?_)
  generalize u_1 = t1 at hP hD he1
  have hP : va_P G.1 vwCl [(x, .inr (13, [.int (iz (t1)), .int (iz (6)), .ref am, .null, .ref tb, .ref lv, .int (iz (0)), .ref wt, .int (iz (0)), .ref bg, .ref pm, .int (iz (0))])), (am, zaL (G.2 0) 41 (fun _ => 0))] H := hP
  have hD : va_D A [(x, .inr (13, [.int (iz (t1)), .int (iz (6)), .ref am, .null, .ref tb, .ref lv, .int (iz (0)), .ref wt, .int (iz (0)), .ref bg, .ref pm, .int (iz (0))])), (am, zaL (G.2 0) 41 (fun _ => 0))] := hD
  have he1 : e1 = 0 ∧ t1 = 0 := he1
  refine lv_aload_n hx hb dX12_errors_4 rfl (lv_at hl 0 rfl) ?_
  refine zc_i (wr := [(am, zaL (G.2 0) 41 (fun _ => 0))]) (va_runV (As := []) (rest := [.int (iz (e1))]) ⟨hx, hb, hml, hown, hts⟩ (c_X12_failsOfParts l G x am tb lv wt bg pm t1  H.size) (cwV 0 hts gX12_errors_X12_failsOfParts rfl rfl rfl (by decide +kernel) ⟨Nat.le_of_ble_eq_true rfl, Nat.le_of_ble_eq_true rfl⟩) (zpV hKX hP hD [0] rfl rfl 0 13 rfl rfl) rfl rfl hl.1 rfl (lv_room (Nat.le_of_ble_eq_true rfl)) dX12_errors_5 ⟨(by first | exact Nat.le_of_ble_eq_true rfl | (show _ ≤ (0 : Nat); omega)), (by first | exact Nat.le_of_ble_eq_true rfl | (show _ ≤ (0 : Nat); omega))⟩) hP hD hS hA [0] [1] rfl rfl rfl (by decide) (fun e2 u_3 H locs he2 hP hD hS => ?_)
  have hP : va_P G.1 vwCl [(am, zaL (G.2 0) 41 (fun _ => 0)), (x, .inr (13, [.int (iz (t1)), .int (iz (6)), .ref am, .null, .ref tb, .ref lv, .int (iz (0)), .ref wt, .int (iz (0)), .ref bg, .ref pm, .int (iz (0))]))] H := hP
  have hD : va_D A [(am, zaL (G.2 0) 41 (fun _ => 0)), (x, .inr (13, [.int (iz (t1)), .int (iz (6)), .ref am, .null, .ref tb, .ref lv, .int (iz (0)), .ref wt, .int (iz (0)), .ref bg, .ref pm, .int (iz (0))]))] := hD
  have he2 : e2 = 0 := he2
  refine zr_iadd hx hb dX12_errors_8 ?_
  refine lv_aload_n hx hb dX12_errors_9 rfl (lv_at hl 0 rfl) ?_
  refine zc_i (wr := [(am, zaL (G.2 0) 41 (fun _ => 0))]) (va_runV (As := []) (rest := [.int (iz (e1 + e2))]) ⟨hx, hb, hml, hown, hts⟩ (c_X12_failsOfLoan l G x am tb lv wt bg pm t1  H.size) (cwV 0 hts gX12_errors_X12_failsOfLoan rfl rfl rfl (by decide +kernel) ⟨Nat.le_of_ble_eq_true rfl, Nat.le_of_ble_eq_true rfl⟩) (zpV hKX hP hD [1] rfl rfl 1 13 rfl rfl) rfl rfl hl.1 rfl (lv_room (Nat.le_of_ble_eq_true rfl)) dX12_errors_10 ⟨(by first | exact Nat.le_of_ble_eq_true rfl | (show _ ≤ (0 : Nat); omega)), (by first | exact Nat.le_of_ble_eq_true rfl | (show _ ≤ (0 : Nat); omega))⟩) hP hD hS hA [1] [0] rfl rfl rfl (by decide) (fun e3 u_5 H locs he3 hP hD hS => ?_)
  have hP : va_P G.1 vwCl [(am, zaL (G.2 0) 41 (fun _ => 0)), (x, .inr (13, [.int (iz (t1)), .int (iz (6)), .ref am, .null, .ref tb, .ref lv, .int (iz (0)), .ref wt, .int (iz (0)), .ref bg, .ref pm, .int (iz (0))]))] H := hP
  have hD : va_D A [(am, zaL (G.2 0) 41 (fun _ => 0)), (x, .inr (13, [.int (iz (t1)), .int (iz (6)), .ref am, .null, .ref tb, .ref lv, .int (iz (0)), .ref wt, .int (iz (0)), .ref bg, .ref pm, .int (iz (0))]))] := hD
  have he3 : e3 = 0 := he3
  refine zr_iadd hx hb dX12_errors_13 ?_
  refine lv_istore_n (lv' := [(2, .int (iz ((e1 + e2) + e3))), (0, .ref x), (1, .int (iz (po)))]) hx hb dX12_errors_14 rfl hl (by decide) rfl (fun ls hl => ?_)
  refine lv_aload_n hx hb dX12_errors_15 rfl (lv_at hl 1 rfl) ?_
  refine lv_iload_n hx hb dX12_errors_16 rfl (lv_at hl 2 rfl) ?_
  refine zc_z (wr := [(am, zaL (G.2 0) 41 (fun _ => 0)), (x, .inr (13, [.int (iz (t1)), .int (iz (6)), .ref am, .null, .ref tb, .ref lv, .int (iz (0)), .ref wt, .int (iz (0)), .ref bg, .ref pm, .int (iz (0))]))]) (va_runS (As := [.int (iz (po))]) (rest := [.ref x]) ⟨hx, hb, hml, hown, hts⟩ (c_X12_isRate l G po (by omega) H.size) (va_cwS 1 hts gX12_errors_X12_isRate rfl rfl rfl (by decide +kernel) ⟨Nat.le_of_ble_eq_true rfl, Nat.le_of_ble_eq_true rfl⟩) (zpS hKX hP hD [] rfl rfl) rfl rfl hl.1 rfl (lv_room (Nat.le_of_ble_eq_true rfl)) dX12_errors_17 ⟨(by first | exact Nat.le_of_ble_eq_true rfl | (show _ ≤ (0 : Nat); omega)), (by first | exact Nat.le_of_ble_eq_true rfl | (show _ ≤ (0 : Nat); omega))⟩) hP hD hS hA [] [0, 1] rfl rfl rfl (by decide) (fun y1 u_7 H locs hy1 hP hD hS => ?_)
  have hP : va_P G.1 vwCl [(am, zaL (G.2 0) 41 (fun _ => 0)), (x, .inr (13, [.int (iz (t1)), .int (iz (6)), .ref am, .null, .ref tb, .ref lv, .int (iz (0)), .ref wt, .int (iz (0)), .ref bg, .ref pm, .int (iz (0))]))] H := hP
  have hD : va_D A [(am, zaL (G.2 0) 41 (fun _ => 0)), (x, .inr (13, [.int (iz (t1)), .int (iz (6)), .ref am, .null, .ref tb, .ref lv, .int (iz (0)), .ref wt, .int (iz (0)), .ref bg, .ref pm, .int (iz (0))]))] := hD
  have hy1 : y1 = decide (0 ≤ po ∧ po ≤ 20000) := hy1
  rw [show y1 = true from hy1.trans (decide_eq_true (by omega))]
  refine lv_iconst (v := iz (1)) hx hb dX12_errors_20 rfl ?_
  refine lv_iconst (v := iz (1)) hx hb dX12_errors_21 rfl ?_
  refine zc_z (wr := [(am, zaL (G.2 0) 41 (fun _ => 0))]) (va_runV (As := [.int (iz (zbb true)), .int (iz (1)), .int (iz (1))]) (rest := []) ⟨hx, hb, hml, hown, hts⟩ (c_X12_passes l G x t1 (.ref am) .null (.ref tb) (.ref lv) (.int (iz (0))) (.ref wt) (.int (iz (0))) (.ref bg) (.ref pm) (.int (iz (0))) 6 true true true  H.size) (cwV 3 hts gX12_errors_X12_passes rfl rfl rfl (by decide +kernel) ⟨Nat.le_of_ble_eq_true rfl, Nat.le_of_ble_eq_true rfl⟩) (zpV hKX hP hD [1] rfl rfl 1 13 rfl rfl) rfl rfl hl.1 rfl (lv_room (Nat.le_of_ble_eq_true rfl)) dX12_errors_22 ⟨(by first | exact Nat.le_of_ble_eq_true rfl | (show _ ≤ (0 : Nat); omega)), (by first | exact Nat.le_of_ble_eq_true rfl | (show _ ≤ (0 : Nat); omega))⟩) hP hD hS hA [1] [0] rfl rfl rfl (by decide) (fun pz u_9 H locs hp hP hD hS => ?_)
  generalize u_9 = thp at hP hD hp
  have hP : va_P G.1 vwCl [(am, zaL (G.2 0) 41 (fun _ => 0)), (x, .inr (13, [.int (iz (thp)), .int (iz ((6 : Int))), .ref am, .null, .ref tb, .ref lv, .int (iz (0)), .ref wt, .int (iz (0)), .ref bg, .ref pm, .int (iz (0))]))] H := hP
  have hD : va_D A [(am, zaL (G.2 0) 41 (fun _ => 0)), (x, .inr (13, [.int (iz (thp)), .int (iz ((6 : Int))), .ref am, .null, .ref tb, .ref lv, .int (iz (0)), .ref wt, .int (iz (0)), .ref bg, .ref pm, .int (iz (0))]))] := hD
  have hp : pz = (true && true && true) ∧ thp = zcode true true true := hp
  rw [show pz = true from hp.1]
  have htp := hp.2
  refine zr_ifz_ne (tgt := 30) hx hb dX12_errors_25 (by decide) (fun h_11 => ?_) (fun h_11 => ?_)
  ·
    refine lv_iload_n hx hb dX12_errors_30 rfl (lv_at hl 0 rfl) ?_
    refine lv_aload_n hx hb dX12_errors_31 rfl (lv_at hl 1 rfl) ?_
    refine lv_iload_n hx hb dX12_errors_32 rfl (lv_at hl 2 rfl) ?_
    refine zc_i (wr := [(am, zaL (G.2 0) 41 (fun _ => 0))]) (va_runV (As := [.int (iz (po))]) (rest := [.int (iz ((e1 + e2) + e3))]) ⟨hx, hb, hml, hown, hts⟩ (c_X12_failsOfLives l G x am tb lv wt bg pm thp po  H.size) (cwV 1 hts gX12_errors_X12_failsOfLives rfl rfl rfl (by decide +kernel) ⟨Nat.le_of_ble_eq_true rfl, Nat.le_of_ble_eq_true rfl⟩) (zpV hKX hP hD [1] rfl rfl 1 13 rfl rfl) rfl rfl hl.1 rfl (lv_room (Nat.le_of_ble_eq_true rfl)) dX12_errors_33 ⟨(by first | exact Nat.le_of_ble_eq_true rfl | (show _ ≤ (0 : Nat); omega)), (by first | exact Nat.le_of_ble_eq_true rfl | (show _ ≤ (0 : Nat); omega))⟩) hP hD hS hA [1] [0] rfl rfl rfl (by decide) (fun e4 u_12 H locs he4 hP hD hS => ?_)
    have hP : va_P G.1 vwCl [(am, zaL (G.2 0) 41 (fun _ => 0)), (x, .inr (13, [.int (iz (thp)), .int (iz (6)), .ref am, .null, .ref tb, .ref lv, .int (iz (0)), .ref wt, .int (iz (0)), .ref bg, .ref pm, .int (iz (0))]))] H := hP
    have hD : va_D A [(am, zaL (G.2 0) 41 (fun _ => 0)), (x, .inr (13, [.int (iz (thp)), .int (iz (6)), .ref am, .null, .ref tb, .ref lv, .int (iz (0)), .ref wt, .int (iz (0)), .ref bg, .ref pm, .int (iz (0))]))] := hD
    have he4 : e4 = 0 := he4
    refine zr_iadd hx hb dX12_errors_36 ?_
    rw [hQ]
    exact zr_iret (z := ((e1 + e2) + e3) + e4) (u := (thp)) hx hb hr hlocks (hP.sub [1] rfl) (hD.sub [1] (by decide) rfl) hS (by first | exact Nat.le_of_ble_eq_true rfl | omega) (by first | exact Nat.le_of_ble_eq_true rfl | omega) dX12_errors_37 (show (((e1 + e2) + e3) + e4) = 0 ∧ thp = 0 from ⟨by omega, htp⟩)
  · exact absurd h_11 (by decide)

def rm_c_X12_errors_x : Room := { frames := 2, cells := 0, slots := 0, locals := 47 }
set_option maxHeartbeats 1000000 in
set_option maxRecDepth 100000 in
theorem c_X12_errors_x (l : Launch) (G : zG) (x : Nat) (am : Nat) (tb : Nat) (lv : Nat) (wt : Nat) (bg : Nat) (pm : Nat) (th : Int) (po : Int) (h0 : -2147483648 ≤ po ∧ po < 2147483648) (h1 : ¬ (0 ≤ po ∧ po ≤ 20000)) : zM l G yX12_errors wsX12_errors rm_c_X12_errors_x [.ref x, .int (iz (po))] [(x, .inr (13, [.int (iz (th)), .int (iz (6)), .ref am, .null, .ref tb, .ref lv, .int (iz (0)), .ref wt, .int (iz (0)), .ref bg, .ref pm, .int (iz (0))])), (am, zaL (G.2 0) 41 (fun _ => 0))] (fun A => zQi G (fun (z : Int) (th2 : Int) => z = 0 ∧ th2 = 1) (fun (th2 : Int) => [(x, .inr (13, [.int (iz (th2)), .int (iz (6)), .ref am, .null, .ref tb, .ref lv, .int (iz (0)), .ref wt, .int (iz (0)), .ref bg, .ref pm, .int (iz (0))]))]) A) 0 0 := by
  refine zM_of (cc := cX12_errors) (maxL := 3) (ret := (some .int)) (by decide) rfl (Nat.le_of_ble_eq_true rfl) ?_
  intro p e s m below meth c ls A Q hQ hx hb hr hts hown hlocks hml hnm hKX hP hD hA hS hl
  have hK := hKX.1
  obtain ⟨H, hH⟩ : ∃ h, h = s.heap := ⟨_, rfl⟩
  obtain ⟨locs, hlo⟩ : ∃ h : List Loc, h = [] := ⟨_, rfl⟩
  have hS : va_S A s.heap H locs := by rw [hH, hlo]; exact hS
  have hP : va_P G.1 vwCl [(x, .inr (13, [.int (iz (th)), .int (iz (6)), .ref am, .null, .ref tb, .ref lv, .int (iz (0)), .ref wt, .int (iz (0)), .ref bg, .ref pm, .int (iz (0))])), (am, zaL (G.2 0) 41 (fun _ => 0))] H := by rw [hH]; exact hP
  have hD : va_D A [(x, .inr (13, [.int (iz (th)), .int (iz (6)), .ref am, .null, .ref tb, .ref lv, .int (iz (0)), .ref wt, .int (iz (0)), .ref bg, .ref pm, .int (iz (0))])), (am, zaL (G.2 0) 41 (fun _ => 0))] := hD
  have hl : lv_has ls 3 [(0, .ref x), (1, .int (iz (po)))] := hl
  rw [← hH, ← hlo]
  refine lv_aload_n hx hb dX12_errors_0 rfl (lv_at hl 0 rfl) ?_
  refine zc_i (wr := []) (va_runV (As := []) (rest := []) ⟨hx, hb, hml, hown, hts⟩ (c_X12_failsOfYield l G x am tb lv wt bg pm th  H.size) (cwV 0 hts gX12_errors_X12_failsOfYield rfl rfl rfl (by decide +kernel) ⟨Nat.le_of_ble_eq_true rfl, Nat.le_of_ble_eq_true rfl⟩) (zpV hKX hP hD [0, 1] rfl rfl 0 13 rfl rfl) rfl rfl hl.1 rfl (lv_room (Nat.le_of_ble_eq_true rfl)) dX12_errors_1 ⟨(by first | exact Nat.le_of_ble_eq_true rfl | (show _ ≤ (0 : Nat); omega)), (by first | exact Nat.le_of_ble_eq_true rfl | (show _ ≤ (0 : Nat); omega))⟩) hP hD hS hA [0, 1] [] rfl rfl rfl (by decide) (fun e1 u_1 H locs he1 hP hD hS => ?_)
  generalize u_1 = t1 at hP hD he1
  have hP : va_P G.1 vwCl [(x, .inr (13, [.int (iz (t1)), .int (iz (6)), .ref am, .null, .ref tb, .ref lv, .int (iz (0)), .ref wt, .int (iz (0)), .ref bg, .ref pm, .int (iz (0))])), (am, zaL (G.2 0) 41 (fun _ => 0))] H := hP
  have hD : va_D A [(x, .inr (13, [.int (iz (t1)), .int (iz (6)), .ref am, .null, .ref tb, .ref lv, .int (iz (0)), .ref wt, .int (iz (0)), .ref bg, .ref pm, .int (iz (0))])), (am, zaL (G.2 0) 41 (fun _ => 0))] := hD
  have he1 : e1 = 0 ∧ t1 = 0 := he1
  refine lv_aload_n hx hb dX12_errors_4 rfl (lv_at hl 0 rfl) ?_
  refine zc_i (wr := [(am, zaL (G.2 0) 41 (fun _ => 0))]) (va_runV (As := []) (rest := [.int (iz (e1))]) ⟨hx, hb, hml, hown, hts⟩ (c_X12_failsOfParts l G x am tb lv wt bg pm t1  H.size) (cwV 0 hts gX12_errors_X12_failsOfParts rfl rfl rfl (by decide +kernel) ⟨Nat.le_of_ble_eq_true rfl, Nat.le_of_ble_eq_true rfl⟩) (zpV hKX hP hD [0] rfl rfl 0 13 rfl rfl) rfl rfl hl.1 rfl (lv_room (Nat.le_of_ble_eq_true rfl)) dX12_errors_5 ⟨(by first | exact Nat.le_of_ble_eq_true rfl | (show _ ≤ (0 : Nat); omega)), (by first | exact Nat.le_of_ble_eq_true rfl | (show _ ≤ (0 : Nat); omega))⟩) hP hD hS hA [0] [1] rfl rfl rfl (by decide) (fun e2 u_3 H locs he2 hP hD hS => ?_)
  have hP : va_P G.1 vwCl [(am, zaL (G.2 0) 41 (fun _ => 0)), (x, .inr (13, [.int (iz (t1)), .int (iz (6)), .ref am, .null, .ref tb, .ref lv, .int (iz (0)), .ref wt, .int (iz (0)), .ref bg, .ref pm, .int (iz (0))]))] H := hP
  have hD : va_D A [(am, zaL (G.2 0) 41 (fun _ => 0)), (x, .inr (13, [.int (iz (t1)), .int (iz (6)), .ref am, .null, .ref tb, .ref lv, .int (iz (0)), .ref wt, .int (iz (0)), .ref bg, .ref pm, .int (iz (0))]))] := hD
  have he2 : e2 = 0 := he2
  refine zr_iadd hx hb dX12_errors_8 ?_
  refine lv_aload_n hx hb dX12_errors_9 rfl (lv_at hl 0 rfl) ?_
  refine zc_i (wr := [(am, zaL (G.2 0) 41 (fun _ => 0))]) (va_runV (As := []) (rest := [.int (iz (e1 + e2))]) ⟨hx, hb, hml, hown, hts⟩ (c_X12_failsOfLoan l G x am tb lv wt bg pm t1  H.size) (cwV 0 hts gX12_errors_X12_failsOfLoan rfl rfl rfl (by decide +kernel) ⟨Nat.le_of_ble_eq_true rfl, Nat.le_of_ble_eq_true rfl⟩) (zpV hKX hP hD [1] rfl rfl 1 13 rfl rfl) rfl rfl hl.1 rfl (lv_room (Nat.le_of_ble_eq_true rfl)) dX12_errors_10 ⟨(by first | exact Nat.le_of_ble_eq_true rfl | (show _ ≤ (0 : Nat); omega)), (by first | exact Nat.le_of_ble_eq_true rfl | (show _ ≤ (0 : Nat); omega))⟩) hP hD hS hA [1] [0] rfl rfl rfl (by decide) (fun e3 u_5 H locs he3 hP hD hS => ?_)
  have hP : va_P G.1 vwCl [(am, zaL (G.2 0) 41 (fun _ => 0)), (x, .inr (13, [.int (iz (t1)), .int (iz (6)), .ref am, .null, .ref tb, .ref lv, .int (iz (0)), .ref wt, .int (iz (0)), .ref bg, .ref pm, .int (iz (0))]))] H := hP
  have hD : va_D A [(am, zaL (G.2 0) 41 (fun _ => 0)), (x, .inr (13, [.int (iz (t1)), .int (iz (6)), .ref am, .null, .ref tb, .ref lv, .int (iz (0)), .ref wt, .int (iz (0)), .ref bg, .ref pm, .int (iz (0))]))] := hD
  have he3 : e3 = 0 := he3
  refine zr_iadd hx hb dX12_errors_13 ?_
  refine lv_istore_n (lv' := [(2, .int (iz ((e1 + e2) + e3))), (0, .ref x), (1, .int (iz (po)))]) hx hb dX12_errors_14 rfl hl (by decide) rfl (fun ls hl => ?_)
  refine lv_aload_n hx hb dX12_errors_15 rfl (lv_at hl 1 rfl) ?_
  refine lv_iload_n hx hb dX12_errors_16 rfl (lv_at hl 2 rfl) ?_
  refine zc_z (wr := [(am, zaL (G.2 0) 41 (fun _ => 0)), (x, .inr (13, [.int (iz (t1)), .int (iz (6)), .ref am, .null, .ref tb, .ref lv, .int (iz (0)), .ref wt, .int (iz (0)), .ref bg, .ref pm, .int (iz (0))]))]) (va_runS (As := [.int (iz (po))]) (rest := [.ref x]) ⟨hx, hb, hml, hown, hts⟩ (c_X12_isRate l G po (by omega) H.size) (va_cwS 1 hts gX12_errors_X12_isRate rfl rfl rfl (by decide +kernel) ⟨Nat.le_of_ble_eq_true rfl, Nat.le_of_ble_eq_true rfl⟩) (zpS hKX hP hD [] rfl rfl) rfl rfl hl.1 rfl (lv_room (Nat.le_of_ble_eq_true rfl)) dX12_errors_17 ⟨(by first | exact Nat.le_of_ble_eq_true rfl | (show _ ≤ (0 : Nat); omega)), (by first | exact Nat.le_of_ble_eq_true rfl | (show _ ≤ (0 : Nat); omega))⟩) hP hD hS hA [] [0, 1] rfl rfl rfl (by decide) (fun y1 u_7 H locs hy1 hP hD hS => ?_)
  have hP : va_P G.1 vwCl [(am, zaL (G.2 0) 41 (fun _ => 0)), (x, .inr (13, [.int (iz (t1)), .int (iz (6)), .ref am, .null, .ref tb, .ref lv, .int (iz (0)), .ref wt, .int (iz (0)), .ref bg, .ref pm, .int (iz (0))]))] H := hP
  have hD : va_D A [(am, zaL (G.2 0) 41 (fun _ => 0)), (x, .inr (13, [.int (iz (t1)), .int (iz (6)), .ref am, .null, .ref tb, .ref lv, .int (iz (0)), .ref wt, .int (iz (0)), .ref bg, .ref pm, .int (iz (0))]))] := hD
  have hy1 : y1 = decide (0 ≤ po ∧ po ≤ 20000) := hy1
  rw [show y1 = false from hy1.trans (decide_eq_false (by omega))]
  refine lv_iconst (v := iz (1)) hx hb dX12_errors_20 rfl ?_
  refine lv_iconst (v := iz (1)) hx hb dX12_errors_21 rfl ?_
  refine zc_z (wr := [(am, zaL (G.2 0) 41 (fun _ => 0))]) (va_runV (As := [.int (iz (zbb false)), .int (iz (1)), .int (iz (1))]) (rest := []) ⟨hx, hb, hml, hown, hts⟩ (c_X12_passes l G x t1 (.ref am) .null (.ref tb) (.ref lv) (.int (iz (0))) (.ref wt) (.int (iz (0))) (.ref bg) (.ref pm) (.int (iz (0))) 6 false true true  H.size) (cwV 3 hts gX12_errors_X12_passes rfl rfl rfl (by decide +kernel) ⟨Nat.le_of_ble_eq_true rfl, Nat.le_of_ble_eq_true rfl⟩) (zpV hKX hP hD [1] rfl rfl 1 13 rfl rfl) rfl rfl hl.1 rfl (lv_room (Nat.le_of_ble_eq_true rfl)) dX12_errors_22 ⟨(by first | exact Nat.le_of_ble_eq_true rfl | (show _ ≤ (0 : Nat); omega)), (by first | exact Nat.le_of_ble_eq_true rfl | (show _ ≤ (0 : Nat); omega))⟩) hP hD hS hA [1] [0] rfl rfl rfl (by decide) (fun pz u_9 H locs hp hP hD hS => ?_)
  generalize u_9 = thp at hP hD hp
  have hP : va_P G.1 vwCl [(am, zaL (G.2 0) 41 (fun _ => 0)), (x, .inr (13, [.int (iz (thp)), .int (iz ((6 : Int))), .ref am, .null, .ref tb, .ref lv, .int (iz (0)), .ref wt, .int (iz (0)), .ref bg, .ref pm, .int (iz (0))]))] H := hP
  have hD : va_D A [(am, zaL (G.2 0) 41 (fun _ => 0)), (x, .inr (13, [.int (iz (thp)), .int (iz ((6 : Int))), .ref am, .null, .ref tb, .ref lv, .int (iz (0)), .ref wt, .int (iz (0)), .ref bg, .ref pm, .int (iz (0))]))] := hD
  have hp : pz = (false && true && true) ∧ thp = zcode false true true := hp
  rw [show pz = false from hp.1]
  have htp := hp.2
  refine zr_ifz_ne (tgt := 30) hx hb dX12_errors_25 (by decide) (fun h_11 => ?_) (fun h_11 => ?_)
  · exact absurd h_11 (by decide)
  ·
    refine lv_iconst (v := iz (0)) hx hb dX12_errors_28 rfl ?_
    rw [hQ]
    exact zr_iret (z := 0) (u := (thp)) hx hb hr hlocks (hP.sub [1] rfl) (hD.sub [1] (by decide) rfl) hS (by first | exact Nat.le_of_ble_eq_true rfl | omega) (by first | exact Nat.le_of_ble_eq_true rfl | omega) dX12_errors_29 (show 0 = 0 ∧ thp = 1 from ⟨rfl, htp⟩)
