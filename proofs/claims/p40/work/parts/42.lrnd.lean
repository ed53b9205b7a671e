-- THE LAW: signs, isRounded (laid by wip/p40/yN.py)
-- ROWS FOR SIGNS; what asks answers against what is due
theorem zask0 {md z v u : Int} {C : Prop} (h : ((C ∧ (v % u = 0 ∨ md ≠ 7) ∧ z = zrd md v u) ∨ (z = -4000000000000000003 ∧ ¬ C)) ∨ (z = -4000000000000000004 ∧ C ∧ md = 7 ∧ v % u ≠ 0)) (hc : C) : z = zrx md v u := by
  unfold zrx
  rcases h with (⟨_, h, e⟩ | ⟨_, h⟩) | ⟨e, _, h⟩
  · rw [if_neg (by intro q; rcases h with h | h; exact q.2 h; exact h q.1)]; exact e
  · exact absurd hc h
  · rw [if_pos h]; exact e
section ZLN
variable {p : Program} {l : Launch} {e : Env} {R : Room} {s : State} {m : MethodId} {args : Array Value} {below : List Frame} {meth : Method} {c : Code} {H : Heap} {locs : List Loc} {cells slots : Nat} {Q : State → Prop}
variable {cc : ByteArray} {pc : Nat} {ls : Array Slot} {rest : List Value}
theorem zshr63 (x : Int64) : (x >>> ((iz 63).toInt64 &&& 63)).toInt = if x.toInt < 0 then -1 else 0 := by
  have e : ((iz 63).toInt64 &&& 63) = 63 := by decide +kernel
  rw [e]
  have h : (x >>> 63).toInt = x.toInt >>> 63 := by
    show (x >>> 63).toBitVec.toInt = _
    rw [Int64.toBitVec_shiftRight]
    show (BitVec.sshiftRight' x.toBitVec _).toInt = _
    have e2 : ((63 : Int64).toBitVec.smod 64) = 63#64 := by decide +kernel
    rw [e2]
    show (x.toBitVec.sshiftRight (63#64).toNat).toInt = _
    rw [BitVec.toInt_sshiftRight]; rfl
  rw [h, Int.shiftRight_eq_div_pow]
  have a := x.le_toInt
  have b := x.toInt_lt
  have q : ((2 ^ 63 : Nat) : Int) = 9223372036854775808 := by decide +kernel
  rw [q]
  split <;> omega
theorem zushr63 (x : Int64) : ((x.toUInt64 >>> ((iz 63).toInt64.toUInt64 &&& Int64.toUInt64 63)).toInt64).toInt = if x.toInt < 0 then 1 else 0 := by
  have e : ((iz 63).toInt64.toUInt64 &&& Int64.toUInt64 63) = 63 := by decide +kernel
  rw [e]
  have hn : (x.toUInt64 >>> 63).toNat = x.toUInt64.toNat / 9223372036854775808 := by
    rw [UInt64.toNat_shiftRight]
    show x.toUInt64.toNat >>> (63 % 64) = _
    rw [Nat.shiftRight_eq_div_pow]
  have hlt : x.toUInt64.toNat < 18446744073709551616 := x.toUInt64.toNat_lt
  have h2 : (x.toUInt64 >>> 63).toBitVec.toInt = ((x.toUInt64 >>> 63).toBitVec.toNat : Int) := BitVec.toInt_eq_toNat_of_lt (by show 2 * (x.toUInt64 >>> 63).toNat < _; rw [hn]; omega)
  show (x.toUInt64 >>> 63).toBitVec.toInt = _
  rw [h2]
  show ((x.toUInt64 >>> 63).toNat : Int) = _
  rw [hn]
  have hx : x.toInt = x.toBitVec.toInt := rfl
  rw [hx, BitVec.toInt_eq_toNat_cond]
  show ((x.toBitVec.toNat / 9223372036854775808 : Nat) : Int) = _
  have hlt2 : x.toBitVec.toNat < 18446744073709551616 := hlt
  split <;> split <;> omega
theorem zr_lshr63 (hexec : p.tables.exec = Jvm.exec) (hb : c.code = cc) {x : Int} (hx : zl x) (hdg : decode cc pc = .ok (.lshr, 1)) (k : ∀ r : Int, r = (if x < 0 then -1 else 0) → W p l e R s m args below meth c H locs cells slots Q (F0 m (pc + 1) ls (.long (lz r) :: rest))) : W p l e R s m args below meth c H locs cells slots Q (F0 m pc ls (.int (iz 63) :: .long (lz x) :: rest)) := by
  refine lv_lshr (v := _) hexec hb hdg rfl ?_
  have h := zshr63 (lz x)
  generalize (lz x) >>> ((iz 63).toInt64 &&& 63) = v at h ⊢
  rw [lz_toInt hx] at h
  rw [lz_of v]
  exact k _ h
theorem zr_lushr63 (hexec : p.tables.exec = Jvm.exec) (hb : c.code = cc) {x : Int} (hx : zl x) (hdg : decode cc pc = .ok (.lushr, 1)) (k : ∀ r : Int, r = (if x < 0 then 1 else 0) → W p l e R s m args below meth c H locs cells slots Q (F0 m (pc + 1) ls (.long (lz r) :: rest))) : W p l e R s m args below meth c H locs cells slots Q (F0 m pc ls (.int (iz 63) :: .long (lz x) :: rest)) := by
  refine lv_lushr (v := _) hexec hb hdg rfl ?_
  have h := zushr63 (lz x)
  generalize ((lz x).toUInt64 >>> ((iz 63).toInt64.toUInt64 &&& Int64.toUInt64 63)).toInt64 = v at h ⊢
  rw [lz_toInt hx] at h
  rw [lz_of v]
  exact k _ h
theorem zr_lorB (hexec : p.tables.exec = Jvm.exec) (hb : c.code = cc) {x y : Int} (hx : (x = -1 ∧ y = 0) ∨ (x = 0 ∧ (y = 0 ∨ y = 1))) (hdg : decode cc pc = .ok (.lor, 1)) (k : W p l e R s m args below meth c H locs cells slots Q (F0 m (pc + 1) ls (.long (lz (x + y)) :: rest))) : W p l e R s m args below meth c H locs cells slots Q (F0 m pc ls (.long (lz y) :: .long (lz x) :: rest)) := by
  refine lv_lor hexec hb hdg ?_
  have h : lz x ||| lz y = lz (x + y) := by
    rcases hx with ⟨rfl, rfl⟩ | ⟨rfl, rfl | rfl⟩ <;> decide +kernel
  rw [h]; exact k
end ZLN
theorem zrx_rng {md v u : Int} (hv : -4611686018427387904 < v ∧ v < 4611686018427387904) (hu : 1 ≤ u) : -9000000000000000000 ≤ zrx md v u ∧ zrx md v u ≤ 9000000000000000000 := by
  have h := zfd_rng (v := v) (u := u) (B := 4611686018427387904) hu (by omega)
  unfold zrx zrd
  split
  · omega
  · repeat' split
    all_goals omega
def rm_c_J13_signum : Room := { frames := 0, cells := 0, slots := 0, locals := 0 }
set_option maxHeartbeats 1000000 in
set_option maxRecDepth 100000 in
theorem c_J13_signum (l : Launch) (G : zG) (x : Int) (h1 : -9223372036854775808 < x ∧ x < 9223372036854775808) : zM l G yJ13_signum_95d88 wsJ13_signum_95d88 rm_c_J13_signum [.long (lz (x))] [] (fun A => zQi G (fun (z : Int) (_ : Unit) => (x < 0 ∧ z = -1) ∨ (x = 0 ∧ z = 0) ∨ (0 < x ∧ z = 1)) (fun (_ : Unit) => []) A) 0 0 := by
  refine zM_ofF (cc := cJ13_signum_95d88) (maxL := 2) (ret := (some .int)) (by decide +kernel) rfl (Nat.le_of_ble_eq_true rfl) ?_
  intro p e s m below meth c ls A Q hQ hx hb hr hts hown hlocks hml hnm hKX hP hD hA hS hl
  have hK := hKX.1
  obtain ⟨H, hH⟩ : ∃ h, h = s.heap := ⟨_, rfl⟩
  obtain ⟨locs, hlo⟩ : ∃ h : List Loc, h = [] := ⟨_, rfl⟩
  have hS : va_S A s.heap H locs := by rw [hH, hlo]; exact hS
  have hP : va_P G.1 vwCl [] H := by rw [hH]; exact hP
  have hD : va_D A [] := hD
  have hl : lv_has ls 2 [(0, .long (lz (x)))] := hl
  rw [← hH, ← hlo]
  refine lv_lload_n hx hb dJ13_signum_95d88_0 rfl (lv_at hl 0 rfl) ?_
  refine lv_bipush (v := iz (63)) hx hb dJ13_signum_95d88_1 rfl ?_
  refine zr_lshr63 hx hb (x := x) (⟨by omega, by omega⟩) dJ13_signum_95d88_3 (fun sr_1 hsr_1 => ?_)
  refine lv_lload_n hx hb dJ13_signum_95d88_4 rfl (lv_at hl 0 rfl) ?_
  refine zr_lneg hx hb dJ13_signum_95d88_5 ?_
  refine lv_bipush (v := iz (63)) hx hb dJ13_signum_95d88_6 rfl ?_
  refine zr_lushr63 hx hb (x := -(x)) (⟨by omega, by omega⟩) dJ13_signum_95d88_8 (fun sr_2 hsr_2 => ?_)
  refine zr_lorB hx hb (x := sr_1) (y := sr_2) (by omega) dJ13_signum_95d88_9 ?_
  refine zr_l2i hx hb dJ13_signum_95d88_10 ?_
  rw [hQ]
  exact zr_iret (z := sr_1 + sr_2) (u := ()) hx hb hr hlocks hP hD hS (by first | exact Nat.le_of_ble_eq_true rfl | omega) (by first | exact Nat.le_of_ble_eq_true rfl | omega) dJ13_signum_95d88_11 (show (x < 0 ∧ (sr_1 + sr_2) = -1) ∨ (x = 0 ∧ (sr_1 + sr_2) = 0) ∨ (0 < x ∧ (sr_1 + sr_2) = 1) from by split at hsr_1 <;> split at hsr_2 <;> omega)

def rm_c_J9_absL : Room := { frames := 0, cells := 0, slots := 0, locals := 0 }
set_option maxHeartbeats 1000000 in
set_option maxRecDepth 100000 in
theorem c_J9_absL (l : Launch) (G : zG) (x : Int) (h1 : -9223372036854775808 < x ∧ x < 9223372036854775808) : zM l G yJ9_abs_067f4 wsJ9_abs_067f4 rm_c_J9_absL [.long (lz (x))] [] (fun A => zQl G (fun (z : Int) (_ : Unit) => (0 ≤ x ∧ z = x) ∨ (x < 0 ∧ z = -x)) (fun (_ : Unit) => []) A) 0 0 := by
  refine zM_ofF (cc := cJ9_abs_067f4) (maxL := 2) (ret := (some .long)) (by decide +kernel) rfl (Nat.le_of_ble_eq_true rfl) ?_
  intro p e s m below meth c ls A Q hQ hx hb hr hts hown hlocks hml hnm hKX hP hD hA hS hl
  have hK := hKX.1
  obtain ⟨H, hH⟩ : ∃ h, h = s.heap := ⟨_, rfl⟩
  obtain ⟨locs, hlo⟩ : ∃ h : List Loc, h = [] := ⟨_, rfl⟩
  have hS : va_S A s.heap H locs := by rw [hH, hlo]; exact hS
  have hP : va_P G.1 vwCl [] H := by rw [hH]; exact hP
  have hD : va_D A [] := hD
  have hl : lv_has ls 2 [(0, .long (lz (x)))] := hl
  rw [← hH, ← hlo]
  refine lv_lload_n hx hb dJ9_abs_067f4_0 rfl (lv_at hl 0 rfl) ?_
  refine lv_lconst (v := lz (0)) hx hb dJ9_abs_067f4_1 rfl ?_
  refine zr_lcmp_ge (x := x) (y := 0) (tgt := 11) hx hb (⟨by omega, by omega⟩) (⟨by omega, by omega⟩) dJ9_abs_067f4_2 dJ9_abs_067f4_3 (by decide) (fun h_1 => ?_) (fun h_1 => ?_)
  ·
    refine lv_lload_n hx hb dJ9_abs_067f4_11 rfl (lv_at hl 0 rfl) ?_
    rw [hQ]
    exact zr_lret (z := x) (u := ()) hx hb hr hlocks hP hD hS (by first | exact Nat.le_of_ble_eq_true rfl | omega) (by first | exact Nat.le_of_ble_eq_true rfl | omega) dJ9_abs_067f4_12 (show (0 ≤ x ∧ x = x) ∨ (x < 0 ∧ x = -x) from by omega)
  ·
    refine lv_lload_n hx hb dJ9_abs_067f4_6 rfl (lv_at hl 0 rfl) ?_
    refine zr_lneg hx hb dJ9_abs_067f4_7 ?_
    refine lv_goto (tgt := 12) hx hb dJ9_abs_067f4_8 (by decide) ?_
    rw [hQ]
    exact zr_lret (z := -(x)) (u := ()) hx hb hr hlocks hP hD hS (by first | exact Nat.le_of_ble_eq_true rfl | omega) (by first | exact Nat.le_of_ble_eq_true rfl | omega) dJ9_abs_067f4_12 (show (0 ≤ x ∧ (-(x)) = x) ∨ (x < 0 ∧ (-(x)) = -x) from by omega)

def rm_c_J9_maxI : Room := { frames := 0, cells := 0, slots := 0, locals := 0 }
set_option maxHeartbeats 1000000 in
set_option maxRecDepth 100000 in
theorem c_J9_maxI (l : Launch) (G : zG) (x : Int) (y : Int) (h1 : -2147483648 ≤ x ∧ x < 2147483648) (h2 : -2147483648 ≤ y ∧ y < 2147483648) : zM l G yJ9_max_7cf53 wsJ9_max_7cf53 rm_c_J9_maxI [.int (iz (x)), .int (iz (y))] [] (fun A => zQi G (fun (z : Int) (_ : Unit) => (y ≤ x ∧ z = x) ∨ (x < y ∧ z = y)) (fun (_ : Unit) => []) A) 0 0 := by
  refine zM_ofF (cc := cJ9_max_7cf53) (maxL := 2) (ret := (some .int)) (by decide +kernel) rfl (Nat.le_of_ble_eq_true rfl) ?_
  intro p e s m below meth c ls A Q hQ hx hb hr hts hown hlocks hml hnm hKX hP hD hA hS hl
  have hK := hKX.1
  obtain ⟨H, hH⟩ : ∃ h, h = s.heap := ⟨_, rfl⟩
  obtain ⟨locs, hlo⟩ : ∃ h : List Loc, h = [] := ⟨_, rfl⟩
  have hS : va_S A s.heap H locs := by rw [hH, hlo]; exact hS
  have hP : va_P G.1 vwCl [] H := by rw [hH]; exact hP
  have hD : va_D A [] := hD
  have hl : lv_has ls 2 [(0, .int (iz (x))), (1, .int (iz (y)))] := hl
  rw [← hH, ← hlo]
  refine lv_iload_n hx hb dJ9_max_7cf53_0 rfl (lv_at hl 0 rfl) ?_
  refine lv_iload_n hx hb dJ9_max_7cf53_1 rfl (lv_at hl 1 rfl) ?_
  refine zr_icmp_lt (x := x) (y := y) (tgt := 9) hx hb (⟨by omega, by omega⟩) (⟨by omega, by omega⟩) dJ9_max_7cf53_2 (by decide) (fun h_1 => ?_) (fun h_1 => ?_)
  ·
    refine lv_iload_n hx hb dJ9_max_7cf53_9 rfl (lv_at hl 1 rfl) ?_
    rw [hQ]
    exact zr_iret (z := y) (u := ()) hx hb hr hlocks hP hD hS (by first | exact Nat.le_of_ble_eq_true rfl | omega) (by first | exact Nat.le_of_ble_eq_true rfl | omega) dJ9_max_7cf53_10 (show (y ≤ x ∧ y = x) ∨ (x < y ∧ y = y) from by omega)
  ·
    refine lv_iload_n hx hb dJ9_max_7cf53_5 rfl (lv_at hl 0 rfl) ?_
    refine lv_goto (tgt := 10) hx hb dJ9_max_7cf53_6 (by decide) ?_
    rw [hQ]
    exact zr_iret (z := x) (u := ()) hx hb hr hlocks hP hD hS (by first | exact Nat.le_of_ble_eq_true rfl | omega) (by first | exact Nat.le_of_ble_eq_true rfl | omega) dJ9_max_7cf53_10 (show (y ≤ x ∧ x = x) ∨ (x < y ∧ x = y) from by omega)

def rm_c_J9_maxL : Room := { frames := 0, cells := 0, slots := 0, locals := 0 }
set_option maxHeartbeats 1000000 in
set_option maxRecDepth 100000 in
theorem c_J9_maxL (l : Launch) (G : zG) (x : Int) (y : Int) (h1 : -9223372036854775808 ≤ x ∧ x < 9223372036854775808) (h2 : -9223372036854775808 ≤ y ∧ y < 9223372036854775808) : zM l G yJ9_max_f86c9 wsJ9_max_f86c9 rm_c_J9_maxL [.long (lz (x)), .long (lz (y))] [] (fun A => zQl G (fun (z : Int) (_ : Unit) => (y ≤ x ∧ z = x) ∨ (x < y ∧ z = y)) (fun (_ : Unit) => []) A) 0 0 := by
  refine zM_ofF (cc := cJ9_max_f86c9) (maxL := 4) (ret := (some .long)) (by decide +kernel) rfl (Nat.le_of_ble_eq_true rfl) ?_
  intro p e s m below meth c ls A Q hQ hx hb hr hts hown hlocks hml hnm hKX hP hD hA hS hl
  have hK := hKX.1
  obtain ⟨H, hH⟩ : ∃ h, h = s.heap := ⟨_, rfl⟩
  obtain ⟨locs, hlo⟩ : ∃ h : List Loc, h = [] := ⟨_, rfl⟩
  have hS : va_S A s.heap H locs := by rw [hH, hlo]; exact hS
  have hP : va_P G.1 vwCl [] H := by rw [hH]; exact hP
  have hD : va_D A [] := hD
  have hl : lv_has ls 4 [(0, .long (lz (x))), (2, .long (lz (y)))] := hl
  rw [← hH, ← hlo]
  refine lv_lload_n hx hb dJ9_max_f86c9_0 rfl (lv_at hl 0 rfl) ?_
  refine lv_lload_n hx hb dJ9_max_f86c9_1 rfl (lv_at hl 1 rfl) ?_
  refine zr_lcmp_lt (x := x) (y := y) (tgt := 10) hx hb (⟨by omega, by omega⟩) (⟨by omega, by omega⟩) dJ9_max_f86c9_2 dJ9_max_f86c9_3 (by decide) (fun h_1 => ?_) (fun h_1 => ?_)
  ·
    refine lv_lload_n hx hb dJ9_max_f86c9_10 rfl (lv_at hl 1 rfl) ?_
    rw [hQ]
    exact zr_lret (z := y) (u := ()) hx hb hr hlocks hP hD hS (by first | exact Nat.le_of_ble_eq_true rfl | omega) (by first | exact Nat.le_of_ble_eq_true rfl | omega) dJ9_max_f86c9_11 (show (y ≤ x ∧ y = x) ∨ (x < y ∧ y = y) from by omega)
  ·
    refine lv_lload_n hx hb dJ9_max_f86c9_6 rfl (lv_at hl 0 rfl) ?_
    refine lv_goto (tgt := 11) hx hb dJ9_max_f86c9_7 (by decide) ?_
    rw [hQ]
    exact zr_lret (z := x) (u := ()) hx hb hr hlocks hP hD hS (by first | exact Nat.le_of_ble_eq_true rfl | omega) (by first | exact Nat.le_of_ble_eq_true rfl | omega) dJ9_max_f86c9_11 (show (y ≤ x ∧ x = x) ∨ (x < y ∧ x = y) from by omega)

def rm_c_J9_minI : Room := { frames := 0, cells := 0, slots := 0, locals := 0 }
set_option maxHeartbeats 1000000 in
set_option maxRecDepth 100000 in
theorem c_J9_minI (l : Launch) (G : zG) (x : Int) (y : Int) (h1 : -2147483648 ≤ x ∧ x < 2147483648) (h2 : -2147483648 ≤ y ∧ y < 2147483648) : zM l G yJ9_min_7cf53 wsJ9_min_7cf53 rm_c_J9_minI [.int (iz (x)), .int (iz (y))] [] (fun A => zQi G (fun (z : Int) (_ : Unit) => (x ≤ y ∧ z = x) ∨ (y < x ∧ z = y)) (fun (_ : Unit) => []) A) 0 0 := by
  refine zM_ofF (cc := cJ9_min_7cf53) (maxL := 2) (ret := (some .int)) (by decide +kernel) rfl (Nat.le_of_ble_eq_true rfl) ?_
  intro p e s m below meth c ls A Q hQ hx hb hr hts hown hlocks hml hnm hKX hP hD hA hS hl
  have hK := hKX.1
  obtain ⟨H, hH⟩ : ∃ h, h = s.heap := ⟨_, rfl⟩
  obtain ⟨locs, hlo⟩ : ∃ h : List Loc, h = [] := ⟨_, rfl⟩
  have hS : va_S A s.heap H locs := by rw [hH, hlo]; exact hS
  have hP : va_P G.1 vwCl [] H := by rw [hH]; exact hP
  have hD : va_D A [] := hD
  have hl : lv_has ls 2 [(0, .int (iz (x))), (1, .int (iz (y)))] := hl
  rw [← hH, ← hlo]
  refine lv_iload_n hx hb dJ9_min_7cf53_0 rfl (lv_at hl 0 rfl) ?_
  refine lv_iload_n hx hb dJ9_min_7cf53_1 rfl (lv_at hl 1 rfl) ?_
  refine zr_icmp_gt (x := x) (y := y) (tgt := 9) hx hb (⟨by omega, by omega⟩) (⟨by omega, by omega⟩) dJ9_min_7cf53_2 (by decide) (fun h_1 => ?_) (fun h_1 => ?_)
  ·
    refine lv_iload_n hx hb dJ9_min_7cf53_9 rfl (lv_at hl 1 rfl) ?_
    rw [hQ]
    exact zr_iret (z := y) (u := ()) hx hb hr hlocks hP hD hS (by first | exact Nat.le_of_ble_eq_true rfl | omega) (by first | exact Nat.le_of_ble_eq_true rfl | omega) dJ9_min_7cf53_10 (show (x ≤ y ∧ y = x) ∨ (y < x ∧ y = y) from by omega)
  ·
    refine lv_iload_n hx hb dJ9_min_7cf53_5 rfl (lv_at hl 0 rfl) ?_
    refine lv_goto (tgt := 10) hx hb dJ9_min_7cf53_6 (by decide) ?_
    rw [hQ]
    exact zr_iret (z := x) (u := ()) hx hb hr hlocks hP hD hS (by first | exact Nat.le_of_ble_eq_true rfl | omega) (by first | exact Nat.le_of_ble_eq_true rfl | omega) dJ9_min_7cf53_10 (show (x ≤ y ∧ x = x) ∨ (y < x ∧ x = y) from by omega)

def rm_c_J9_minL : Room := { frames := 0, cells := 0, slots := 0, locals := 0 }
set_option maxHeartbeats 1000000 in
set_option maxRecDepth 100000 in
theorem c_J9_minL (l : Launch) (G : zG) (x : Int) (y : Int) (h1 : -9223372036854775808 ≤ x ∧ x < 9223372036854775808) (h2 : -9223372036854775808 ≤ y ∧ y < 9223372036854775808) : zM l G yJ9_min_f86c9 wsJ9_min_f86c9 rm_c_J9_minL [.long (lz (x)), .long (lz (y))] [] (fun A => zQl G (fun (z : Int) (_ : Unit) => (x ≤ y ∧ z = x) ∨ (y < x ∧ z = y)) (fun (_ : Unit) => []) A) 0 0 := by
  refine zM_ofF (cc := cJ9_min_f86c9) (maxL := 4) (ret := (some .long)) (by decide +kernel) rfl (Nat.le_of_ble_eq_true rfl) ?_
  intro p e s m below meth c ls A Q hQ hx hb hr hts hown hlocks hml hnm hKX hP hD hA hS hl
  have hK := hKX.1
  obtain ⟨H, hH⟩ : ∃ h, h = s.heap := ⟨_, rfl⟩
  obtain ⟨locs, hlo⟩ : ∃ h : List Loc, h = [] := ⟨_, rfl⟩
  have hS : va_S A s.heap H locs := by rw [hH, hlo]; exact hS
  have hP : va_P G.1 vwCl [] H := by rw [hH]; exact hP
  have hD : va_D A [] := hD
  have hl : lv_has ls 4 [(0, .long (lz (x))), (2, .long (lz (y)))] := hl
  rw [← hH, ← hlo]
  refine lv_lload_n hx hb dJ9_min_f86c9_0 rfl (lv_at hl 0 rfl) ?_
  refine lv_lload_n hx hb dJ9_min_f86c9_1 rfl (lv_at hl 1 rfl) ?_
  refine zr_lcmp_gt (x := x) (y := y) (tgt := 10) hx hb (⟨by omega, by omega⟩) (⟨by omega, by omega⟩) dJ9_min_f86c9_2 dJ9_min_f86c9_3 (by decide) (fun h_1 => ?_) (fun h_1 => ?_)
  ·
    refine lv_lload_n hx hb dJ9_min_f86c9_10 rfl (lv_at hl 1 rfl) ?_
    rw [hQ]
    exact zr_lret (z := y) (u := ()) hx hb hr hlocks hP hD hS (by first | exact Nat.le_of_ble_eq_true rfl | omega) (by first | exact Nat.le_of_ble_eq_true rfl | omega) dJ9_min_f86c9_11 (show (x ≤ y ∧ y = x) ∨ (y < x ∧ y = y) from by omega)
  ·
    refine lv_lload_n hx hb dJ9_min_f86c9_6 rfl (lv_at hl 0 rfl) ?_
    refine lv_goto (tgt := 11) hx hb dJ9_min_f86c9_7 (by decide) ?_
    rw [hQ]
    exact zr_lret (z := x) (u := ()) hx hb hr hlocks hP hD hS (by first | exact Nat.le_of_ble_eq_true rfl | omega) (by first | exact Nat.le_of_ble_eq_true rfl | omega) dJ9_min_f86c9_11 (show (x ≤ y ∧ x = x) ∨ (y < x ∧ x = y) from by omega)

def rm_c_L_isRounded : Room := { frames := 11, cells := 52, slots := 312, locals := 219 }
set_option maxHeartbeats 1000000 in
set_option maxRecDepth 100000 in
theorem c_L_isRounded (l : Launch) (G : zG) (s1 : Nat) (s2 : Nat) (s3 : Nat) (x : Nat) (ro : Nat) (rw : Nat) (bo : Nat) (li : Nat) (sh : Nat) (tx : Nat) (lo : Nat) (nl : Nat) (md : Int) (rr : Nat) (g : Int → Int) (hl0 : l.stackTraces = false) (hmd : 0 ≤ md ∧ md ≤ 7) : zMe l (zXM s1 s2 s3) G yL_isRounded wsL_isRounded rm_c_L_isRounded [.ref x, .ref rr] [(x, .inr (10, [.ref ro, .ref rw, .ref bo, .ref li, .ref sh, .ref tx, .ref lo, .ref nl])), (ro, .inr (5, [.int (iz (md))])), (rr, zaI (G.2 1) 2 (g))] (fun A => zQz G (fun (z : Bool) (g2 : (Int → Int)) => z = true) (fun (g2 : (Int → Int)) => [(x, .inr (10, [.ref ro, .ref rw, .ref bo, .ref li, .ref sh, .ref tx, .ref lo, .ref nl])), (ro, .inr (5, [.int (iz (md))])), (rr, zaI (G.2 1) 2 (g2))]) A) 52 312 := by
  refine zMe_of (cc := cL_isRounded) (maxL := 12) (ret := (some .boolean)) (by decide) rfl (Nat.le_of_ble_eq_true rfl) ?_
  intro p e s m below meth c ls A Q hQ hx hb hr hts hown hlocks hml hnm hKX hE hP hD hA hS hl
  have hK := hKX.1
  obtain ⟨H, hH⟩ : ∃ h, h = s.heap := ⟨_, rfl⟩
  obtain ⟨locs, hlo⟩ : ∃ h : List Loc, h = [] := ⟨_, rfl⟩
  have hS : va_S A s.heap H locs := by rw [hH, hlo]; exact hS
  have hP : va_P G.1 vwCl [(x, .inr (10, [.ref ro, .ref rw, .ref bo, .ref li, .ref sh, .ref tx, .ref lo, .ref nl])), (ro, .inr (5, [.int (iz (md))])), (rr, zaI (G.2 1) 2 (g))] H := by rw [hH]; exact hP
  have hD : va_D A [(x, .inr (10, [.ref ro, .ref rw, .ref bo, .ref li, .ref sh, .ref tx, .ref lo, .ref nl])), (ro, .inr (5, [.int (iz (md))])), (rr, zaI (G.2 1) 2 (g))] := hD
  have hl : lv_has ls 12 [(0, .ref x), (1, .ref rr)] := hl
  rw [← hH, ← hlo]
  refine lv_aload_n hx hb dL_isRounded_0 rfl (lv_at hl 0 rfl) ?_
  refine zc_i (wr := [(rr, zaI (G.2 1) 2 (g))]) (va_runV (As := []) (rest := []) ⟨hx, hb, hml, hown, hts⟩ (c_X9_mode l G x ro rw bo li sh tx lo nl md  H.size) (cwV 0 hts gL_isRounded_X9_mode rfl rfl rfl (by decide +kernel) ⟨Nat.le_of_ble_eq_true rfl, Nat.le_of_ble_eq_true rfl⟩) (zpV hKX hP hD [0, 1] rfl rfl 0 10 rfl rfl) rfl rfl hl.1 rfl (lv_room (Nat.le_of_ble_eq_true rfl)) dL_isRounded_1 ⟨(by first | exact Nat.le_of_ble_eq_true rfl | (show _ ≤ (52 : Nat); omega)), (by first | exact Nat.le_of_ble_eq_true rfl | (show _ ≤ (312 : Nat); omega))⟩) hP hD hS hA [0, 1] [2] rfl rfl rfl (by decide) (fun m9 u_1 H locs hm9 hP hD hS => ?_)
  have hP : va_P G.1 vwCl [(rr, zaI (G.2 1) 2 (g)), (x, .inr (10, [.ref ro, .ref rw, .ref bo, .ref li, .ref sh, .ref tx, .ref lo, .ref nl])), (ro, .inr (5, [.int (iz (md))]))] H := hP
  have hD : va_D A [(rr, zaI (G.2 1) 2 (g)), (x, .inr (10, [.ref ro, .ref rw, .ref bo, .ref li, .ref sh, .ref tx, .ref lo, .ref nl])), (ro, .inr (5, [.int (iz (md))]))] := hD
  have hm9 : m9 = md := hm9
  refine lv_istore_n (lv' := [(2, .int (iz (m9))), (0, .ref x), (1, .ref rr)]) hx hb dL_isRounded_4 rfl hl (by decide) rfl (fun ls hl => ?_)
  refine lv_iconst (v := iz (0)) hx hb dL_isRounded_5 rfl ?_
  refine lv_istore_n (lv' := [(3, .int (iz (0))), (2, .int (iz (m9))), (0, .ref x), (1, .ref rr)]) hx hb dL_isRounded_6 rfl hl (by decide) rfl (fun ls hl => ?_)
  have hl_7 : ∀ (zn_7 : Nat) (k : Int) (g1 : Int → Int) (H : Heap) (locs : List Loc) (ls : Array Slot), (12 - k).toNat < zn_7 → (0 ≤ k ∧ k ≤ 12) → va_P G.1 vwCl [(rr, zaI (G.2 1) 2 (g1)), (x, .inr (10, [.ref ro, .ref rw, .ref bo, .ref li, .ref sh, .ref tx, .ref lo, .ref nl])), (ro, .inr (5, [.int (iz (md))]))] H → va_D A [(rr, zaI (G.2 1) 2 (g1)), (x, .inr (10, [.ref ro, .ref rw, .ref bo, .ref li, .ref sh, .ref tx, .ref lo, .ref nl])), (ro, .inr (5, [.int (iz (md))]))] → va_S A s.heap H locs → lv_has ls 12 [(3, .int (iz (k))), (2, .int (iz (m9))), (0, .ref x), (1, .ref rr)] → W p l e rm_c_L_isRounded s m ([.ref x, .ref rr] : List Value).toArray below meth c H locs (4 * (k).toNat) (24 * (k).toNat) Q (F0 m 7 ls []) := by
    intro zn_7
    induction zn_7 with
    | zero => intro k g1 H locs ls hm; exact absurd hm (Nat.not_lt_zero _)
    | succ zn_7 ih_7 =>
      intro k g1 H locs ls hm_7 k1 hP hD hS hl
      refine lv_iload_n hx hb dL_isRounded_7 rfl (lv_at hl 0 rfl) ?_
      refine lv_bipush (v := iz (12)) hx hb dL_isRounded_8 rfl ?_
      refine zr_icmp_ge (x := k) (y := 12) (tgt := 156) hx hb (⟨by omega, by omega⟩) (⟨by omega, by omega⟩) dL_isRounded_10 (by decide) (fun h_3 => ?_) (fun h_3 => ?_)
      ·
        refine lv_iconst (v := iz (1)) hx hb dL_isRounded_156 rfl ?_
        refine lv_aload_n hx hb dL_isRounded_157 rfl (lv_at hl 3 rfl) ?_
        refine lv_sipush (v := iz (366)) hx hb dL_isRounded_158 rfl ?_
        refine zc_i (wr := [(x, .inr (10, [.ref ro, .ref rw, .ref bo, .ref li, .ref sh, .ref tx, .ref lo, .ref nl])), (ro, .inr (5, [.int (iz (md))]))]) (va_runS (As := [.ref rr, .int (iz (366))]) (rest := [.int (iz (1))]) ⟨hx, hb, hml, hown, hts⟩ (c_L_draw l G rr g1 366 (by omega) H.size) (va_cwS 2 hts gL_isRounded_L_draw rfl rfl rfl (by decide +kernel) ⟨Nat.le_of_ble_eq_true rfl, Nat.le_of_ble_eq_true rfl⟩) (zpS hKX hP hD [0] rfl rfl) rfl rfl hl.1 rfl (lv_room (Nat.le_of_ble_eq_true rfl)) dL_isRounded_161 ⟨(by first | exact Nat.le_of_ble_eq_true rfl | (show _ ≤ (52 : Nat); omega)), (by first | exact Nat.le_of_ble_eq_true rfl | (show _ ≤ (312 : Nat); omega))⟩) hP hD hS hA [0] [1, 2] rfl rfl rfl (by decide) (fun z_le u_4 H locs h_le hP hD hS => ?_)
        generalize u_4 = g_le at hP hD h_le
        have hP : va_P G.1 vwCl [(x, .inr (10, [.ref ro, .ref rw, .ref bo, .ref li, .ref sh, .ref tx, .ref lo, .ref nl])), (ro, .inr (5, [.int (iz (md))])), (rr, zaI (G.2 1) 2 (g_le))] H := hP
        have hD : va_D A [(x, .inr (10, [.ref ro, .ref rw, .ref bo, .ref li, .ref sh, .ref tx, .ref lo, .ref nl])), (ro, .inr (5, [.int (iz (md))])), (rr, zaI (G.2 1) 2 (g_le))] := hD
        have h_le : 0 ≤ z_le ∧ z_le < (366 : Int) ∧ z_le < 268435456 := h_le
        refine zr_iadd hx hb dL_isRounded_164 ?_
        refine lv_istore_n (lv' := [(3, .int (iz (1 + z_le))), (2, .int (iz (m9))), (0, .ref x), (1, .ref rr)]) hx hb dL_isRounded_165 rfl hl (by decide) rfl (fun ls hl => ?_)
        refine lv_aload_n hx hb dL_isRounded_166 rfl (lv_at hl 3 rfl) ?_
        refine lv_iload_n hx hb dL_isRounded_167 rfl (lv_at hl 0 rfl) ?_
        refine lv_iconst (v := iz (1)) hx hb dL_isRounded_168 rfl ?_
        refine zr_iadd hx hb dL_isRounded_169 ?_
        refine zc_i (wr := [(x, .inr (10, [.ref ro, .ref rw, .ref bo, .ref li, .ref sh, .ref tx, .ref lo, .ref nl])), (ro, .inr (5, [.int (iz (md))]))]) (va_runS (As := [.ref rr, .int (iz ((1 + z_le) + 1))]) (rest := []) ⟨hx, hb, hml, hown, hts⟩ (c_L_draw l G rr g_le ((1 + z_le) + 1) (by omega) H.size) (va_cwS 2 hts gL_isRounded_L_draw rfl rfl rfl (by decide +kernel) ⟨Nat.le_of_ble_eq_true rfl, Nat.le_of_ble_eq_true rfl⟩) (zpS hKX hP hD [2] rfl rfl) rfl rfl hl.1 rfl (lv_room (Nat.le_of_ble_eq_true rfl)) dL_isRounded_170 ⟨(by first | exact Nat.le_of_ble_eq_true rfl | (show _ ≤ (52 : Nat); omega)), (by first | exact Nat.le_of_ble_eq_true rfl | (show _ ≤ (312 : Nat); omega))⟩) hP hD hS hA [2] [0, 1] rfl rfl rfl (by decide) (fun z_da u_6 H locs h_da hP hD hS => ?_)
        generalize u_6 = g_da at hP hD h_da
        have hP : va_P G.1 vwCl [(x, .inr (10, [.ref ro, .ref rw, .ref bo, .ref li, .ref sh, .ref tx, .ref lo, .ref nl])), (ro, .inr (5, [.int (iz (md))])), (rr, zaI (G.2 1) 2 (g_da))] H := hP
        have hD : va_D A [(x, .inr (10, [.ref ro, .ref rw, .ref bo, .ref li, .ref sh, .ref tx, .ref lo, .ref nl])), (ro, .inr (5, [.int (iz (md))])), (rr, zaI (G.2 1) 2 (g_da))] := hD
        have h_da : 0 ≤ z_da ∧ z_da < ((1 + z_le) + 1) ∧ z_da < 268435456 := h_da
        refine lv_istore (lv' := [(4, .int (iz (z_da))), (3, .int (iz (1 + z_le))), (2, .int (iz (m9))), (0, .ref x), (1, .ref rr)]) hx hb dL_isRounded_173 hl (by decide) rfl (fun ls hl => ?_)
        refine lv_aload_n hx hb dL_isRounded_175 rfl (lv_at hl 4 rfl) ?_
        refine zr_ldc (z := 1000000001) hx hb hown (hts (.constant RL 165 (1000000001)) (by decide +kernel)) rfl dL_isRounded_176 ?_
        refine zc_i (wr := [(x, .inr (10, [.ref ro, .ref rw, .ref bo, .ref li, .ref sh, .ref tx, .ref lo, .ref nl])), (ro, .inr (5, [.int (iz (md))]))]) (va_runS (As := [.ref rr, .int (iz (1000000001))]) (rest := []) ⟨hx, hb, hml, hown, hts⟩ (c_L_draw l G rr g_da 1000000001 (by omega) H.size) (va_cwS 2 hts gL_isRounded_L_draw rfl rfl rfl (by decide +kernel) ⟨Nat.le_of_ble_eq_true rfl, Nat.le_of_ble_eq_true rfl⟩) (zpS hKX hP hD [2] rfl rfl) rfl rfl hl.1 rfl (lv_room (Nat.le_of_ble_eq_true rfl)) dL_isRounded_178 ⟨(by first | exact Nat.le_of_ble_eq_true rfl | (show _ ≤ (52 : Nat); omega)), (by first | exact Nat.le_of_ble_eq_true rfl | (show _ ≤ (312 : Nat); omega))⟩) hP hD hS hA [2] [0, 1] rfl rfl rfl (by decide) (fun z_cp u_8 H locs h_cp hP hD hS => ?_)
        generalize u_8 = g_cp at hP hD h_cp
        have hP : va_P G.1 vwCl [(x, .inr (10, [.ref ro, .ref rw, .ref bo, .ref li, .ref sh, .ref tx, .ref lo, .ref nl])), (ro, .inr (5, [.int (iz (md))])), (rr, zaI (G.2 1) 2 (g_cp))] H := hP
        have hD : va_D A [(x, .inr (10, [.ref ro, .ref rw, .ref bo, .ref li, .ref sh, .ref tx, .ref lo, .ref nl])), (ro, .inr (5, [.int (iz (md))])), (rr, zaI (G.2 1) 2 (g_cp))] := hD
        have h_cp : 0 ≤ z_cp ∧ z_cp < (1000000001 : Int) ∧ z_cp < 268435456 := h_cp
        refine zr_i2l hx hb (x := z_cp) (⟨by omega, by omega⟩) dL_isRounded_181 ?_
        refine lv_lstore (lv' := [(5, .long (lz (z_cp))), (4, .int (iz (z_da))), (3, .int (iz (1 + z_le))), (2, .int (iz (m9))), (0, .ref x), (1, .ref rr)]) hx hb dL_isRounded_182 hl (by decide) rfl (fun ls hl => ?_)
        refine lv_aload_n hx hb dL_isRounded_184 rfl (lv_at hl 4 rfl) ?_
        refine lv_bipush (v := iz (12)) hx hb dL_isRounded_185 rfl ?_
        refine lv_lload hx hb dL_isRounded_187 (lv_at hl 0 rfl) ?_
        refine lv_iload hx hb dL_isRounded_189 (lv_at hl 1 rfl) ?_
        refine lv_iload_n hx hb dL_isRounded_191 rfl (lv_at hl 2 rfl) ?_
        refine zc_l (wr := [(rr, zaI (G.2 1) 2 (g_cp))]) (vx_runSW (As := [.ref x, .int (iz (12)), .long (lz (z_cp)), .int (iz (z_da)), .int (iz (1 + z_le))]) (rest := []) ⟨hx, hb, hml, hown, hts⟩ (c_L_asks_12 l G s1 s2 s3 x ro rw bo li sh tx lo nl md z_cp z_da (1 + z_le) hl0 (by omega) (by omega) (by omega) (by omega) H.size) (vx_cwSW 5 hts gL_isRounded_L_asks rfl rfl rfl (by decide +kernel) ⟨Nat.le_of_ble_eq_true rfl, Nat.le_of_ble_eq_true rfl⟩) (zpSe zXM_ok hE hS hA hKX hP hD [0, 1] rfl rfl) rfl rfl hl.1 rfl (lv_room (Nat.le_of_ble_eq_true rfl)) dL_isRounded_192 ⟨(by first | exact Nat.le_of_ble_eq_true rfl | (show _ ≤ (52 : Nat); omega)), (by first | exact Nat.le_of_ble_eq_true rfl | (show _ ≤ (312 : Nat); omega))⟩) hP hD hS hA [0, 1] [2] rfl rfl rfl (by decide) (fun as2 u_10 H locs has2 hP hD hS => ?_)
        have hP : va_P G.1 vwCl [(rr, zaI (G.2 1) 2 (g_cp)), (x, .inr (10, [.ref ro, .ref rw, .ref bo, .ref li, .ref sh, .ref tx, .ref lo, .ref nl])), (ro, .inr (5, [.int (iz (md))]))] H := hP
        have hD : va_D A [(rr, zaI (G.2 1) 2 (g_cp)), (x, .inr (10, [.ref ro, .ref rw, .ref bo, .ref li, .ref sh, .ref tx, .ref lo, .ref nl])), (ro, .inr (5, [.int (iz (md))]))] := hD
        have has2 : ((((0 ≤ z_cp ∧ z_cp ≤ 1000000000 ∧ 1 ≤ (1 + z_le) ∧ (1 + z_le) ≤ 366 ∧ 0 ≤ z_da ∧ z_da ≤ (1 + z_le)) ∧ (z_cp * z_da % (1 + z_le) = 0 ∨ md ≠ 7) ∧ as2 = zrd md (z_cp * z_da) (1 + z_le))) ∨ (as2 = -4000000000000000003 ∧ (¬ (0 ≤ z_cp ∧ z_cp ≤ 1000000000 ∧ 1 ≤ (1 + z_le) ∧ (1 + z_le) ≤ 366 ∧ 0 ≤ z_da ∧ z_da ≤ (1 + z_le))))) ∨ (as2 = -4000000000000000004 ∧ ((0 ≤ z_cp ∧ z_cp ≤ 1000000000 ∧ 1 ≤ (1 + z_le) ∧ (1 + z_le) ≤ 366 ∧ 0 ≤ z_da ∧ z_da ≤ (1 + z_le)) ∧ md = 7 ∧ z_cp * z_da % (1 + z_le) ≠ 0)) := has2
        have hcd := zcd_rng (x := z_cp) (y := z_da) (by omega) (by omega)
        refine lv_lload hx hb dL_isRounded_195 (lv_at hl 0 rfl) ?_
        refine lv_iload hx hb dL_isRounded_197 (lv_at hl 1 rfl) ?_
        refine zr_i2l hx hb (x := z_da) (⟨by omega, by omega⟩) dL_isRounded_199 ?_
        refine zr_lmul hx hb dL_isRounded_200 ?_
        refine lv_iload_n hx hb dL_isRounded_201 rfl (lv_at hl 2 rfl) ?_
        refine zr_i2l hx hb (x := 1 + z_le) (⟨by omega, by omega⟩) dL_isRounded_202 ?_
        refine lv_iload_n hx hb dL_isRounded_203 rfl (lv_at hl 3 rfl) ?_
        refine zc_l (wr := [(rr, zaI (G.2 1) 2 (g_cp)), (x, .inr (10, [.ref ro, .ref rw, .ref bo, .ref li, .ref sh, .ref tx, .ref lo, .ref nl])), (ro, .inr (5, [.int (iz (md))]))]) (va_runS (As := [.long (lz (z_cp * z_da)), .long (lz (1 + z_le)), .int (iz (m9))]) (rest := [.long (lz (as2))]) ⟨hx, hb, hml, hown, hts⟩ (c_L_rounded l G (z_cp * z_da) (1 + z_le) m9 (by omega) (by omega) (by omega) H.size) (va_cwS 3 hts gL_isRounded_L_rounded rfl rfl rfl (by decide +kernel) ⟨Nat.le_of_ble_eq_true rfl, Nat.le_of_ble_eq_true rfl⟩) (zpS hKX hP hD [] rfl rfl) rfl rfl hl.1 rfl (lv_room (Nat.le_of_ble_eq_true rfl)) dL_isRounded_204 ⟨(by first | exact Nat.le_of_ble_eq_true rfl | (show _ ≤ (52 : Nat); omega)), (by first | exact Nat.le_of_ble_eq_true rfl | (show _ ≤ (312 : Nat); omega))⟩) hP hD hS hA [] [0, 1, 2] rfl rfl rfl (by decide) (fun du2 u_12 H locs hdu2 hP hD hS => ?_)
        have hP : va_P G.1 vwCl [(rr, zaI (G.2 1) 2 (g_cp)), (x, .inr (10, [.ref ro, .ref rw, .ref bo, .ref li, .ref sh, .ref tx, .ref lo, .ref nl])), (ro, .inr (5, [.int (iz (md))]))] H := hP
        have hD : va_D A [(rr, zaI (G.2 1) 2 (g_cp)), (x, .inr (10, [.ref ro, .ref rw, .ref bo, .ref li, .ref sh, .ref tx, .ref lo, .ref nl])), (ro, .inr (5, [.int (iz (md))]))] := hD
        have hdu2 : du2 = zrx m9 (z_cp * z_da) (1 + z_le) := hdu2
        have heq2 : as2 = du2 := by rw [zask0 has2 (by omega), hdu2, hm9]
        have hasr := zrx_rng (md := m9) (v := z_cp * z_da) (u := 1 + z_le) (by omega) (by omega)
        rw [← hdu2] at hasr
        refine zr_lcmp_ne (x := as2) (y := du2) (tgt := 215) hx hb (⟨by omega, by omega⟩) (⟨by omega, by omega⟩) dL_isRounded_207 dL_isRounded_208 (by decide) (fun h_14 => ?_) (fun h_14 => ?_)
        · exact absurd h_14 (not_not_intro heq2)
        ·
          refine lv_iconst (v := iz (1)) hx hb dL_isRounded_211 rfl ?_
          refine lv_goto (tgt := 216) hx hb dL_isRounded_212 (by decide) ?_
          rw [hQ]
          exact zr_zret (z := true) (rfl) (u := (g_cp)) hx hb hr hlocks (hP.sub [1, 2, 0] rfl) (hD.sub [1, 2, 0] (by decide) rfl) hS (by first | exact Nat.le_of_ble_eq_true rfl | omega) (by first | exact Nat.le_of_ble_eq_true rfl | omega) dL_isRounded_216 (show true = true from rfl)
      ·
        refine lv_aload_n hx hb dL_isRounded_13 rfl (lv_at hl 3 rfl) ?_
        refine lv_bipush (v := iz (7)) hx hb dL_isRounded_14 rfl ?_
        refine zc_i (wr := [(x, .inr (10, [.ref ro, .ref rw, .ref bo, .ref li, .ref sh, .ref tx, .ref lo, .ref nl])), (ro, .inr (5, [.int (iz (md))]))]) (va_runS (As := [.ref rr, .int (iz (7))]) (rest := []) ⟨hx, hb, hml, hown, hts⟩ (c_L_draw l G rr g1 7 (by omega) H.size) (va_cwS 2 hts gL_isRounded_L_draw rfl rfl rfl (by decide +kernel) ⟨Nat.le_of_ble_eq_true rfl, Nat.le_of_ble_eq_true rfl⟩) (zpS hKX hP hD [0] rfl rfl) rfl rfl hl.1 rfl (lv_room (Nat.le_of_ble_eq_true rfl)) dL_isRounded_16 ⟨(by first | exact Nat.le_of_ble_eq_true rfl | (show _ ≤ (52 : Nat); omega)), (by first | exact Nat.le_of_ble_eq_true rfl | (show _ ≤ (312 : Nat); omega))⟩) hP hD hS hA [0] [1, 2] rfl rfl rfl (by decide) (fun z_dg u_15 H locs h_dg hP hD hS => ?_)
        generalize u_15 = g_dg at hP hD h_dg
        have hP : va_P G.1 vwCl [(x, .inr (10, [.ref ro, .ref rw, .ref bo, .ref li, .ref sh, .ref tx, .ref lo, .ref nl])), (ro, .inr (5, [.int (iz (md))])), (rr, zaI (G.2 1) 2 (g_dg))] H := hP
        have hD : va_D A [(x, .inr (10, [.ref ro, .ref rw, .ref bo, .ref li, .ref sh, .ref tx, .ref lo, .ref nl])), (ro, .inr (5, [.int (iz (md))])), (rr, zaI (G.2 1) 2 (g_dg))] := hD
        have h_dg : 0 ≤ z_dg ∧ z_dg < (7 : Int) ∧ z_dg < 268435456 := h_dg
        refine lv_istore (lv' := [(4, .int (iz (z_dg))), (3, .int (iz (k))), (2, .int (iz (m9))), (0, .ref x), (1, .ref rr)]) hx hb dL_isRounded_19 hl (by decide) rfl (fun ls hl => ?_)
        refine lv_lconst (v := lz (1)) hx hb dL_isRounded_21 rfl ?_
        refine lv_lstore (lv' := [(5, .long (lz (1))), (4, .int (iz (z_dg))), (3, .int (iz (k))), (2, .int (iz (m9))), (0, .ref x), (1, .ref rr)]) hx hb dL_isRounded_22 hl (by decide) rfl (fun ls hl => ?_)
        refine lv_iconst (v := iz (0)) hx hb dL_isRounded_24 rfl ?_
        refine lv_istore (lv' := [(7, .int (iz (0))), (5, .long (lz (1))), (4, .int (iz (z_dg))), (3, .int (iz (k))), (2, .int (iz (m9))), (0, .ref x), (1, .ref rr)]) hx hb dL_isRounded_25 hl (by decide) rfl (fun ls hl => ?_)
        have hl_27 : ∀ (zn_27 : Nat) (i : Int) (pw : Int) (H : Heap) (locs : List Loc) (ls : Array Slot), (z_dg - i).toNat < zn_27 → (0 ≤ i ∧ i ≤ z_dg) → (pw = 10 ^ i.toNat) → va_P G.1 vwCl [(x, .inr (10, [.ref ro, .ref rw, .ref bo, .ref li, .ref sh, .ref tx, .ref lo, .ref nl])), (ro, .inr (5, [.int (iz (md))])), (rr, zaI (G.2 1) 2 (g_dg))] H → va_D A [(x, .inr (10, [.ref ro, .ref rw, .ref bo, .ref li, .ref sh, .ref tx, .ref lo, .ref nl])), (ro, .inr (5, [.int (iz (md))])), (rr, zaI (G.2 1) 2 (g_dg))] → va_S A s.heap H locs → lv_has ls 12 [(7, .int (iz (i))), (5, .long (lz (pw))), (4, .int (iz (z_dg))), (3, .int (iz (k))), (2, .int (iz (m9))), (0, .ref x), (1, .ref rr)] → W p l e rm_c_L_isRounded s m ([.ref x, .ref rr] : List Value).toArray below meth c H locs (4 * (k).toNat + 0) (24 * (k).toNat + 0) Q (F0 m 27 ls []) := by
          intro zn_27
          induction zn_27 with
          | zero => intro i pw H locs ls hm; exact absurd hm (Nat.not_lt_zero _)
          | succ zn_27 ih_27 =>
            intro i pw H locs ls hm_27 j1 j2 hP hD hS hl
            refine lv_iload hx hb dL_isRounded_27 (lv_at hl 0 rfl) ?_
            refine lv_iload hx hb dL_isRounded_29 (lv_at hl 2 rfl) ?_
            refine zr_icmp_ge (x := i) (y := z_dg) (tgt := 48) hx hb (⟨by omega, by omega⟩) (⟨by omega, by omega⟩) dL_isRounded_31 (by decide) (fun h_17 => ?_) (fun h_17 => ?_)
            ·
              refine lv_aload_n hx hb dL_isRounded_48 rfl (lv_at hl 6 rfl) ?_
              refine lv_iconst (v := iz (3)) hx hb dL_isRounded_49 rfl ?_
              refine zc_i (wr := [(x, .inr (10, [.ref ro, .ref rw, .ref bo, .ref li, .ref sh, .ref tx, .ref lo, .ref nl])), (ro, .inr (5, [.int (iz (md))]))]) (va_runS (As := [.ref rr, .int (iz (3))]) (rest := []) ⟨hx, hb, hml, hown, hts⟩ (c_L_draw l G rr g_dg 3 (by omega) H.size) (va_cwS 2 hts gL_isRounded_L_draw rfl rfl rfl (by decide +kernel) ⟨Nat.le_of_ble_eq_true rfl, Nat.le_of_ble_eq_true rfl⟩) (zpS hKX hP hD [2] rfl rfl) rfl rfl hl.1 rfl (lv_room (Nat.le_of_ble_eq_true rfl)) dL_isRounded_50 ⟨(by first | exact Nat.le_of_ble_eq_true rfl | (show _ ≤ (52 : Nat); omega)), (by first | exact Nat.le_of_ble_eq_true rfl | (show _ ≤ (312 : Nat); omega))⟩) hP hD hS hA [2] [0, 1] rfl rfl rfl (by decide) (fun z_c1 u_18 H locs h_c1 hP hD hS => ?_)
              generalize u_18 = g_c1 at hP hD h_c1
              have hP : va_P G.1 vwCl [(x, .inr (10, [.ref ro, .ref rw, .ref bo, .ref li, .ref sh, .ref tx, .ref lo, .ref nl])), (ro, .inr (5, [.int (iz (md))])), (rr, zaI (G.2 1) 2 (g_c1))] H := hP
              have hD : va_D A [(x, .inr (10, [.ref ro, .ref rw, .ref bo, .ref li, .ref sh, .ref tx, .ref lo, .ref nl])), (ro, .inr (5, [.int (iz (md))])), (rr, zaI (G.2 1) 2 (g_c1))] := hD
              have h_c1 : 0 ≤ z_c1 ∧ z_c1 < (3 : Int) ∧ z_c1 < 268435456 := h_c1
              have hl_75 : ∀ (un : Int) (g3 : Int → Int) (H : Heap) (locs : List Loc) (ls : Array Slot), (1 ≤ un ∧ un ≤ 1000000) → va_P G.1 vwCl [(x, .inr (10, [.ref ro, .ref rw, .ref bo, .ref li, .ref sh, .ref tx, .ref lo, .ref nl])), (ro, .inr (5, [.int (iz (md))])), (rr, zaI (G.2 1) 2 (g3))] H → va_D A [(x, .inr (10, [.ref ro, .ref rw, .ref bo, .ref li, .ref sh, .ref tx, .ref lo, .ref nl])), (ro, .inr (5, [.int (iz (md))])), (rr, zaI (G.2 1) 2 (g3))] → va_S A s.heap H locs → lv_has ls 12 [(7, .int (iz (i))), (5, .long (lz (pw))), (4, .int (iz (z_dg))), (3, .int (iz (k))), (2, .int (iz (m9))), (0, .ref x), (1, .ref rr)] → W p l e rm_c_L_isRounded s m ([.ref x, .ref rr] : List Value).toArray below meth c H locs (4 * (k).toNat + 0 + 0) (24 * (k).toNat + 0 + 0) Q (F0 m 75 ls [.int (iz (un))]) := by
                intro un g3 H locs ls u1 hP hD hS hl
                refine lv_istore (lv' := [(7, .int (iz (un))), (5, .long (lz (pw))), (4, .int (iz (z_dg))), (3, .int (iz (k))), (2, .int (iz (m9))), (0, .ref x), (1, .ref rr)]) hx hb dL_isRounded_75 hl (by decide) rfl (fun ls hl => ?_)
                refine lv_aload_n hx hb dL_isRounded_77 rfl (lv_at hl 6 rfl) ?_
                refine lv_iconst (v := iz (3)) hx hb dL_isRounded_78 rfl ?_
                refine zc_i (wr := [(x, .inr (10, [.ref ro, .ref rw, .ref bo, .ref li, .ref sh, .ref tx, .ref lo, .ref nl])), (ro, .inr (5, [.int (iz (md))]))]) (va_runS (As := [.ref rr, .int (iz (3))]) (rest := []) ⟨hx, hb, hml, hown, hts⟩ (c_L_draw l G rr g3 3 (by omega) H.size) (va_cwS 2 hts gL_isRounded_L_draw rfl rfl rfl (by decide +kernel) ⟨Nat.le_of_ble_eq_true rfl, Nat.le_of_ble_eq_true rfl⟩) (zpS hKX hP hD [2] rfl rfl) rfl rfl hl.1 rfl (lv_room (Nat.le_of_ble_eq_true rfl)) dL_isRounded_79 ⟨(by first | exact Nat.le_of_ble_eq_true rfl | (show _ ≤ (52 : Nat); omega)), (by first | exact Nat.le_of_ble_eq_true rfl | (show _ ≤ (312 : Nat); omega))⟩) hP hD hS hA [2] [0, 1] rfl rfl rfl (by decide) (fun z_c2 u_20 H locs h_c2 hP hD hS => ?_)
                generalize u_20 = g_c2 at hP hD h_c2
                have hP : va_P G.1 vwCl [(x, .inr (10, [.ref ro, .ref rw, .ref bo, .ref li, .ref sh, .ref tx, .ref lo, .ref nl])), (ro, .inr (5, [.int (iz (md))])), (rr, zaI (G.2 1) 2 (g_c2))] H := hP
                have hD : va_D A [(x, .inr (10, [.ref ro, .ref rw, .ref bo, .ref li, .ref sh, .ref tx, .ref lo, .ref nl])), (ro, .inr (5, [.int (iz (md))])), (rr, zaI (G.2 1) 2 (g_c2))] := hD
                have h_c2 : 0 ≤ z_c2 ∧ z_c2 < (3 : Int) ∧ z_c2 < 268435456 := h_c2
                have hl_115 : ∀ (ov : Int) (g4 : Int → Int) (H : Heap) (locs : List Loc) (ls : Array Slot), (-500000000000 ≤ ov ∧ ov ≤ 500000000000) → va_P G.1 vwCl [(x, .inr (10, [.ref ro, .ref rw, .ref bo, .ref li, .ref sh, .ref tx, .ref lo, .ref nl])), (ro, .inr (5, [.int (iz (md))])), (rr, zaI (G.2 1) 2 (g4))] H → va_D A [(x, .inr (10, [.ref ro, .ref rw, .ref bo, .ref li, .ref sh, .ref tx, .ref lo, .ref nl])), (ro, .inr (5, [.int (iz (md))])), (rr, zaI (G.2 1) 2 (g4))] → va_S A s.heap H locs → lv_has ls 12 [(7, .int (iz (un))), (5, .long (lz (pw))), (4, .int (iz (z_dg))), (3, .int (iz (k))), (2, .int (iz (m9))), (0, .ref x), (1, .ref rr)] → W p l e rm_c_L_isRounded s m ([.ref x, .ref rr] : List Value).toArray below meth c H locs (4 * (k).toNat + 0 + 0 + 0) (24 * (k).toNat + 0 + 0 + 0) Q (F0 m 115 ls [.long (lz (ov))]) := by
                  intro ov g4 H locs ls o1 hP hD hS hl
                  refine lv_lstore (lv' := [(8, .long (lz (ov))), (7, .int (iz (un))), (5, .long (lz (pw))), (4, .int (iz (z_dg))), (3, .int (iz (k))), (2, .int (iz (m9))), (0, .ref x), (1, .ref rr)]) hx hb dL_isRounded_115 hl (by decide) rfl (fun ls hl => ?_)
                  refine lv_lload hx hb dL_isRounded_117 (lv_at hl 0 rfl) ?_
                  refine lv_lload hx hb dL_isRounded_119 (lv_at hl 2 rfl) ?_
                  refine zr_lmul hx hb dL_isRounded_121 ?_
                  refine lv_iload hx hb dL_isRounded_122 (lv_at hl 1 rfl) ?_
                  refine zr_i2l hx hb (x := un) (⟨by omega, by omega⟩) dL_isRounded_124 ?_
                  refine lv_iload_n hx hb dL_isRounded_125 rfl (lv_at hl 5 rfl) ?_
                  have hpw : pw = 10 ^ z_dg.toNat := by rw [j2, show i = z_dg by omega]
                  have hrr := zrd_rng (ov := ov) (k := z_dg) (by omega) (by omega) (by omega)
                  rw [← hpw] at hrr
                  refine zc_l (wr := [(x, .inr (10, [.ref ro, .ref rw, .ref bo, .ref li, .ref sh, .ref tx, .ref lo, .ref nl])), (ro, .inr (5, [.int (iz (md))])), (rr, zaI (G.2 1) 2 (g4))]) (va_runS (As := [.long (lz (ov * pw)), .long (lz (un)), .int (iz (m9))]) (rest := []) ⟨hx, hb, hml, hown, hts⟩ (c_L_rounded l G (ov * pw) un m9 (by omega) (by omega) (by omega) H.size) (va_cwS 3 hts gL_isRounded_L_rounded rfl rfl rfl (by decide +kernel) ⟨Nat.le_of_ble_eq_true rfl, Nat.le_of_ble_eq_true rfl⟩) (zpS hKX hP hD [] rfl rfl) rfl rfl hl.1 rfl (lv_room (Nat.le_of_ble_eq_true rfl)) dL_isRounded_126 ⟨(by first | exact Nat.le_of_ble_eq_true rfl | (show _ ≤ (52 : Nat); omega)), (by first | exact Nat.le_of_ble_eq_true rfl | (show _ ≤ (312 : Nat); omega))⟩) hP hD hS hA [] [0, 1, 2] rfl rfl rfl (by decide) (fun du u_22 H locs hdu hP hD hS => ?_)
                  have hP : va_P G.1 vwCl [(x, .inr (10, [.ref ro, .ref rw, .ref bo, .ref li, .ref sh, .ref tx, .ref lo, .ref nl])), (ro, .inr (5, [.int (iz (md))])), (rr, zaI (G.2 1) 2 (g4))] H := hP
                  have hD : va_D A [(x, .inr (10, [.ref ro, .ref rw, .ref bo, .ref li, .ref sh, .ref tx, .ref lo, .ref nl])), (ro, .inr (5, [.int (iz (md))])), (rr, zaI (G.2 1) 2 (g4))] := hD
                  have hdu : du = zrx m9 (ov * pw) un := hdu
                  refine lv_lstore (lv' := [(10, .long (lz (du))), (8, .long (lz (ov))), (7, .int (iz (un))), (5, .long (lz (pw))), (4, .int (iz (z_dg))), (3, .int (iz (k))), (2, .int (iz (m9))), (0, .ref x), (1, .ref rr)]) hx hb dL_isRounded_129 hl (by decide) rfl (fun ls hl => ?_)
                  refine lv_aload_n hx hb dL_isRounded_131 rfl (lv_at hl 7 rfl) ?_
                  refine lv_iconst (v := iz (0)) hx hb dL_isRounded_132 rfl ?_
                  refine lv_lload hx hb dL_isRounded_133 (lv_at hl 1 rfl) ?_
                  refine lv_iload hx hb dL_isRounded_135 (lv_at hl 2 rfl) ?_
                  refine lv_iload hx hb dL_isRounded_137 (lv_at hl 4 rfl) ?_
                  refine zc_l (wr := [(rr, zaI (G.2 1) 2 (g4))]) (vx_runSW (As := [.ref x, .int (iz (0)), .long (lz (ov)), .int (iz (un)), .int (iz (z_dg))]) (rest := []) ⟨hx, hb, hml, hown, hts⟩ (c_L_asks_0 l G s1 s2 s3 x ro rw bo li sh tx lo nl md ov un z_dg hl0 (by omega) (by omega) (by omega) (by omega) H.size) (vx_cwSW 5 hts gL_isRounded_L_asks rfl rfl rfl (by decide +kernel) ⟨Nat.le_of_ble_eq_true rfl, Nat.le_of_ble_eq_true rfl⟩) (zpSe zXM_ok hE hS hA hKX hP hD [0, 1] rfl rfl) rfl rfl hl.1 rfl (lv_room (Nat.le_of_ble_eq_true rfl)) dL_isRounded_139 ⟨(by first | exact Nat.le_of_ble_eq_true rfl | (show _ ≤ (52 : Nat); omega)), (by first | exact Nat.le_of_ble_eq_true rfl | (show _ ≤ (312 : Nat); omega))⟩) hP hD hS hA [0, 1] [2] rfl rfl rfl (by decide) (fun as u_24 H locs has hP hD hS => ?_)
                  have hP : va_P G.1 vwCl [(rr, zaI (G.2 1) 2 (g4)), (x, .inr (10, [.ref ro, .ref rw, .ref bo, .ref li, .ref sh, .ref tx, .ref lo, .ref nl])), (ro, .inr (5, [.int (iz (md))]))] H := hP
                  have hD : va_D A [(rr, zaI (G.2 1) 2 (g4)), (x, .inr (10, [.ref ro, .ref rw, .ref bo, .ref li, .ref sh, .ref tx, .ref lo, .ref nl])), (ro, .inr (5, [.int (iz (md))]))] := hD
                  have has : ((((-1000000000000 ≤ ov ∧ ov ≤ 1000000000000 ∧ 1 ≤ un ∧ un ≤ 1000000000000 ∧ 0 ≤ z_dg ∧ z_dg ≤ 6) ∧ (ov * 10 ^ z_dg.toNat % un = 0 ∨ md ≠ 7) ∧ as = zrd md (ov * 10 ^ z_dg.toNat) un)) ∨ (as = -4000000000000000003 ∧ (¬ (-1000000000000 ≤ ov ∧ ov ≤ 1000000000000 ∧ 1 ≤ un ∧ un ≤ 1000000000000 ∧ 0 ≤ z_dg ∧ z_dg ≤ 6)))) ∨ (as = -4000000000000000004 ∧ ((-1000000000000 ≤ ov ∧ ov ≤ 1000000000000 ∧ 1 ≤ un ∧ un ≤ 1000000000000 ∧ 0 ≤ z_dg ∧ z_dg ≤ 6) ∧ md = 7 ∧ ov * 10 ^ z_dg.toNat % un ≠ 0)) := has
                  have heq : as = du := by rw [zask0 has (by omega), hdu, hpw, hm9]
                  have hasr := zrx_rng (md := m9) (v := ov * pw) (u := un) (by omega) (by omega)
                  rw [← hdu] at hasr
                  refine lv_lload hx hb dL_isRounded_142 (lv_at hl 0 rfl) ?_
                  refine zr_lcmp_eq (x := as) (y := du) (tgt := 150) hx hb (⟨by omega, by omega⟩) (⟨by omega, by omega⟩) dL_isRounded_144 dL_isRounded_145 (by decide) (fun h_26 => ?_) (fun h_26 => ?_)
                  ·
                    refine lv_iinc (v := iz (k + 1)) (lv' := [(3, .int (iz (k + 1))), (10, .long (lz (du))), (8, .long (lz (ov))), (7, .int (iz (un))), (5, .long (lz (pw))), (4, .int (iz (z_dg))), (2, .int (iz (m9))), (0, .ref x), (1, .ref rr)]) hx hb dL_isRounded_150 hl (k := 5) rfl (by rw [show Int32.ofInt (1) = iz (1) from rfl, iz_add]) (by decide) rfl (fun ls hl => ?_)
                    refine lv_goto (tgt := 7) hx hb dL_isRounded_153 (by decide) ?_
                    refine W.widen (k := 4 * ((k + 1)).toNat) (n := 24 * ((k + 1)).toNat) (by omega) (by omega) ?_
                    exact ih_7 (k + 1) g4 _ _ _ (by omega) (by omega) (hP) (hD) hS (lv_sub hl [0, 6, 7, 8] rfl)
                  · exact absurd h_26 (not_not_intro heq)
                refine zr_if_ne (x := z_c2) (tgt := 103) hx hb (⟨by omega, by omega⟩) dL_isRounded_82 (by decide) (fun h_27 => ?_) (fun h_27 => ?_)
                ·
                  refine lv_aload_n hx hb dL_isRounded_103 rfl (lv_at hl 6 rfl) ?_
                  refine lv_sipush (v := iz (401)) hx hb dL_isRounded_104 rfl ?_
                  refine zc_i (wr := [(x, .inr (10, [.ref ro, .ref rw, .ref bo, .ref li, .ref sh, .ref tx, .ref lo, .ref nl])), (ro, .inr (5, [.int (iz (md))]))]) (va_runS (As := [.ref rr, .int (iz (401))]) (rest := []) ⟨hx, hb, hml, hown, hts⟩ (c_L_draw l G rr g_c2 401 (by omega) H.size) (va_cwS 2 hts gL_isRounded_L_draw rfl rfl rfl (by decide +kernel) ⟨Nat.le_of_ble_eq_true rfl, Nat.le_of_ble_eq_true rfl⟩) (zpS hKX hP hD [2] rfl rfl) rfl rfl hl.1 rfl (lv_room (Nat.le_of_ble_eq_true rfl)) dL_isRounded_107 ⟨(by first | exact Nat.le_of_ble_eq_true rfl | (show _ ≤ (52 : Nat); omega)), (by first | exact Nat.le_of_ble_eq_true rfl | (show _ ≤ (312 : Nat); omega))⟩) hP hD hS hA [2] [0, 1] rfl rfl rfl (by decide) (fun z_o2 u_28 H locs h_o2 hP hD hS => ?_)
                  generalize u_28 = g_o2 at hP hD h_o2
                  have hP : va_P G.1 vwCl [(x, .inr (10, [.ref ro, .ref rw, .ref bo, .ref li, .ref sh, .ref tx, .ref lo, .ref nl])), (ro, .inr (5, [.int (iz (md))])), (rr, zaI (G.2 1) 2 (g_o2))] H := hP
                  have hD : va_D A [(x, .inr (10, [.ref ro, .ref rw, .ref bo, .ref li, .ref sh, .ref tx, .ref lo, .ref nl])), (ro, .inr (5, [.int (iz (md))])), (rr, zaI (G.2 1) 2 (g_o2))] := hD
                  have h_o2 : 0 ≤ z_o2 ∧ z_o2 < (401 : Int) ∧ z_o2 < 268435456 := h_o2
                  refine lv_sipush (v := iz (200)) hx hb dL_isRounded_110 rfl ?_
                  refine zr_isub hx hb dL_isRounded_113 ?_
                  refine zr_i2l hx hb (x := z_o2 - 200) (⟨by omega, by omega⟩) dL_isRounded_114 ?_
                  refine W.widen (k := 4 * (k).toNat + 0 + 0 + 0) (n := 24 * (k).toNat + 0 + 0 + 0) (by omega) (by omega) ?_
                  exact hl_115 (z_o2 - 200) g_o2 _ _ _ (by omega) (hP) (hD) hS (hl)
                ·
                  refine lv_aload_n hx hb dL_isRounded_85 rfl (lv_at hl 6 rfl) ?_
                  refine zr_ldc (z := 2000000000) hx hb hown (hts (.constant RL 153 (2000000000)) (by decide +kernel)) rfl dL_isRounded_86 ?_
                  refine zc_i (wr := [(x, .inr (10, [.ref ro, .ref rw, .ref bo, .ref li, .ref sh, .ref tx, .ref lo, .ref nl])), (ro, .inr (5, [.int (iz (md))]))]) (va_runS (As := [.ref rr, .int (iz (2000000000))]) (rest := []) ⟨hx, hb, hml, hown, hts⟩ (c_L_draw l G rr g_c2 2000000000 (by omega) H.size) (va_cwS 2 hts gL_isRounded_L_draw rfl rfl rfl (by decide +kernel) ⟨Nat.le_of_ble_eq_true rfl, Nat.le_of_ble_eq_true rfl⟩) (zpS hKX hP hD [2] rfl rfl) rfl rfl hl.1 rfl (lv_room (Nat.le_of_ble_eq_true rfl)) dL_isRounded_88 ⟨(by first | exact Nat.le_of_ble_eq_true rfl | (show _ ≤ (52 : Nat); omega)), (by first | exact Nat.le_of_ble_eq_true rfl | (show _ ≤ (312 : Nat); omega))⟩) hP hD hS hA [2] [0, 1] rfl rfl rfl (by decide) (fun z_o1 u_30 H locs h_o1 hP hD hS => ?_)
                  generalize u_30 = g_o1 at hP hD h_o1
                  have hP : va_P G.1 vwCl [(x, .inr (10, [.ref ro, .ref rw, .ref bo, .ref li, .ref sh, .ref tx, .ref lo, .ref nl])), (ro, .inr (5, [.int (iz (md))])), (rr, zaI (G.2 1) 2 (g_o1))] H := hP
                  have hD : va_D A [(x, .inr (10, [.ref ro, .ref rw, .ref bo, .ref li, .ref sh, .ref tx, .ref lo, .ref nl])), (ro, .inr (5, [.int (iz (md))])), (rr, zaI (G.2 1) 2 (g_o1))] := hD
                  have h_o1 : 0 ≤ z_o1 ∧ z_o1 < (2000000000 : Int) ∧ z_o1 < 268435456 := h_o1
                  refine zr_i2l hx hb (x := z_o1) (⟨by omega, by omega⟩) dL_isRounded_91 ?_
                  refine zr_ldc2 (z := 500) hx hb hown (hts (.constantLong RL 154 (500)) (by decide +kernel)) rfl dL_isRounded_92 ?_
                  refine zr_lmul hx hb dL_isRounded_95 ?_
                  refine zr_ldc2 (z := 500000000000) hx hb hown (hts (.constantLong RL 156 (500000000000)) (by decide +kernel)) rfl dL_isRounded_96 ?_
                  refine zr_lsub hx hb dL_isRounded_99 ?_
                  refine lv_goto (tgt := 115) hx hb dL_isRounded_100 (by decide) ?_
                  refine W.widen (k := 4 * (k).toNat + 0 + 0 + 0) (n := 24 * (k).toNat + 0 + 0 + 0) (by omega) (by omega) ?_
                  exact hl_115 ((z_o1 * 500) - 500000000000) g_o1 _ _ _ (by omega) (hP) (hD) hS (hl)
              refine zr_if_ne (x := z_c1) (tgt := 67) hx hb (⟨by omega, by omega⟩) dL_isRounded_53 (by decide) (fun h_32 => ?_) (fun h_32 => ?_)
              ·
                refine lv_iconst (v := iz (1)) hx hb dL_isRounded_67 rfl ?_
                refine lv_aload_n hx hb dL_isRounded_68 rfl (lv_at hl 6 rfl) ?_
                refine lv_bipush (v := iz (16)) hx hb dL_isRounded_69 rfl ?_
                refine zc_i (wr := [(x, .inr (10, [.ref ro, .ref rw, .ref bo, .ref li, .ref sh, .ref tx, .ref lo, .ref nl])), (ro, .inr (5, [.int (iz (md))]))]) (va_runS (As := [.ref rr, .int (iz (16))]) (rest := [.int (iz (1))]) ⟨hx, hb, hml, hown, hts⟩ (c_L_draw l G rr g_c1 16 (by omega) H.size) (va_cwS 2 hts gL_isRounded_L_draw rfl rfl rfl (by decide +kernel) ⟨Nat.le_of_ble_eq_true rfl, Nat.le_of_ble_eq_true rfl⟩) (zpS hKX hP hD [2] rfl rfl) rfl rfl hl.1 rfl (lv_room (Nat.le_of_ble_eq_true rfl)) dL_isRounded_71 ⟨(by first | exact Nat.le_of_ble_eq_true rfl | (show _ ≤ (52 : Nat); omega)), (by first | exact Nat.le_of_ble_eq_true rfl | (show _ ≤ (312 : Nat); omega))⟩) hP hD hS hA [2] [0, 1] rfl rfl rfl (by decide) (fun z_u2 u_33 H locs h_u2 hP hD hS => ?_)
                generalize u_33 = g_u2 at hP hD h_u2
                have hP : va_P G.1 vwCl [(x, .inr (10, [.ref ro, .ref rw, .ref bo, .ref li, .ref sh, .ref tx, .ref lo, .ref nl])), (ro, .inr (5, [.int (iz (md))])), (rr, zaI (G.2 1) 2 (g_u2))] H := hP
                have hD : va_D A [(x, .inr (10, [.ref ro, .ref rw, .ref bo, .ref li, .ref sh, .ref tx, .ref lo, .ref nl])), (ro, .inr (5, [.int (iz (md))])), (rr, zaI (G.2 1) 2 (g_u2))] := hD
                have h_u2 : 0 ≤ z_u2 ∧ z_u2 < (16 : Int) ∧ z_u2 < 268435456 := h_u2
                refine zr_iadd hx hb dL_isRounded_74 ?_
                refine W.widen (k := 4 * (k).toNat + 0 + 0) (n := 24 * (k).toNat + 0 + 0) (by omega) (by omega) ?_
                exact hl_75 (1 + z_u2) g_u2 _ _ _ (by omega) (hP) (hD) hS (hl)
              ·
                refine lv_iconst (v := iz (1)) hx hb dL_isRounded_56 rfl ?_
                refine lv_aload_n hx hb dL_isRounded_57 rfl (lv_at hl 6 rfl) ?_
                refine zr_ldc (z := 1000000) hx hb hown (hts (.constant RL 152 (1000000)) (by decide +kernel)) rfl dL_isRounded_58 ?_
                refine zc_i (wr := [(x, .inr (10, [.ref ro, .ref rw, .ref bo, .ref li, .ref sh, .ref tx, .ref lo, .ref nl])), (ro, .inr (5, [.int (iz (md))]))]) (va_runS (As := [.ref rr, .int (iz (1000000))]) (rest := [.int (iz (1))]) ⟨hx, hb, hml, hown, hts⟩ (c_L_draw l G rr g_c1 1000000 (by omega) H.size) (va_cwS 2 hts gL_isRounded_L_draw rfl rfl rfl (by decide +kernel) ⟨Nat.le_of_ble_eq_true rfl, Nat.le_of_ble_eq_true rfl⟩) (zpS hKX hP hD [2] rfl rfl) rfl rfl hl.1 rfl (lv_room (Nat.le_of_ble_eq_true rfl)) dL_isRounded_60 ⟨(by first | exact Nat.le_of_ble_eq_true rfl | (show _ ≤ (52 : Nat); omega)), (by first | exact Nat.le_of_ble_eq_true rfl | (show _ ≤ (312 : Nat); omega))⟩) hP hD hS hA [2] [0, 1] rfl rfl rfl (by decide) (fun z_u1 u_35 H locs h_u1 hP hD hS => ?_)
                generalize u_35 = g_u1 at hP hD h_u1
                have hP : va_P G.1 vwCl [(x, .inr (10, [.ref ro, .ref rw, .ref bo, .ref li, .ref sh, .ref tx, .ref lo, .ref nl])), (ro, .inr (5, [.int (iz (md))])), (rr, zaI (G.2 1) 2 (g_u1))] H := hP
                have hD : va_D A [(x, .inr (10, [.ref ro, .ref rw, .ref bo, .ref li, .ref sh, .ref tx, .ref lo, .ref nl])), (ro, .inr (5, [.int (iz (md))])), (rr, zaI (G.2 1) 2 (g_u1))] := hD
                have h_u1 : 0 ≤ z_u1 ∧ z_u1 < (1000000 : Int) ∧ z_u1 < 268435456 := h_u1
                refine zr_iadd hx hb dL_isRounded_63 ?_
                refine lv_goto (tgt := 75) hx hb dL_isRounded_64 (by decide) ?_
                refine W.widen (k := 4 * (k).toNat + 0 + 0) (n := 24 * (k).toNat + 0 + 0) (by omega) (by omega) ?_
                exact hl_75 (1 + z_u1) g_u1 _ _ _ (by omega) (hP) (hD) hS (hl)
            ·
              refine lv_lload hx hb dL_isRounded_34 (lv_at hl 1 rfl) ?_
              refine zr_ldc2 (z := 10) hx hb hown (hts (.constantLong RL 150 (10)) (by decide +kernel)) rfl dL_isRounded_36 ?_
              refine zr_lmul hx hb dL_isRounded_39 ?_
              refine lv_lstore (lv' := [(5, .long (lz (pw * 10))), (7, .int (iz (i))), (4, .int (iz (z_dg))), (3, .int (iz (k))), (2, .int (iz (m9))), (0, .ref x), (1, .ref rr)]) hx hb dL_isRounded_40 hl (by decide) rfl (fun ls hl => ?_)
              refine lv_iinc (v := iz (i + 1)) (lv' := [(7, .int (iz (i + 1))), (5, .long (lz (pw * 10))), (4, .int (iz (z_dg))), (3, .int (iz (k))), (2, .int (iz (m9))), (0, .ref x), (1, .ref rr)]) hx hb dL_isRounded_42 hl (k := 1) rfl (by rw [show Int32.ofInt (1) = iz (1) from rfl, iz_add]) (by decide) rfl (fun ls hl => ?_)
              refine lv_goto (tgt := 27) hx hb dL_isRounded_45 (by decide) ?_
              exact ih_27 (i + 1) (pw * 10) _ _ _ (by omega) (by omega) (by rw [j2, zpow_s (by omega)]) (hP) (hD) hS (hl)
        exact hl_27 ((z_dg - 0 : Int).toNat + 1) 0 1 _ _ _ (Nat.lt_succ_self _) (by omega) (by rfl) (hP) (hD) hS (hl)
  refine W.widen (k := 4 * ((0 : Int)).toNat) (n := 24 * ((0 : Int)).toNat) (by omega) (by omega) ?_
  exact hl_7 ((12 - 0 : Int).toNat + 1) 0 g _ _ _ (Nat.lt_succ_self _) (by omega) (hP) (hD) hS (hl)
