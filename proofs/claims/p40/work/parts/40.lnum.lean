-- THE LAW'S OWN NUMBERS (laid by wip/p40/yM.py)
-- ROWS OF THE LAW'S OWN NUMBERS: bits whose value doesn't matter, a draw below 2^28
theorem zushr4 (x : Int32) : 0 ≤ ((x.toUInt32 >>> ((iz 4).toUInt32 &&& Int32.toUInt32 31)).toInt32).toInt ∧ ((x.toUInt32 >>> ((iz 4).toUInt32 &&& Int32.toUInt32 31)).toInt32).toInt < 268435456 := by
  have e : ((iz 4).toUInt32 &&& Int32.toUInt32 31) = 4 := by decide +kernel
  rw [e]
  generalize x.toUInt32 = u
  have hlt : u.toNat < 4294967296 := u.toNat_lt
  have h : (u >>> 4).toBitVec.toNat = u.toNat / 16 := by
    show (u >>> 4).toNat = _
    rw [UInt32.toNat_shiftRight]
    show u.toNat >>> (4 % 32) = _
    rw [Nat.shiftRight_eq_div_pow]
  have h2 : (u >>> 4).toBitVec.toInt = ((u >>> 4).toBitVec.toNat : Int) := BitVec.toInt_eq_toNat_of_lt (by rw [h]; omega)
  show 0 ≤ (u >>> 4).toBitVec.toInt ∧ (u >>> 4).toBitVec.toInt < 268435456
  rw [h2, h]
  omega
theorem lxor_sgn (a b : Int64) (hb : 0 ≤ b.toInt) : 0 ≤ (a ^^^ b).toInt ↔ 0 ≤ a.toInt := by
  have e1 : (a ^^^ b).toBitVec.msb = (a.toBitVec.msb ^^ b.toBitVec.msb) := by rw [Int64.toBitVec_xor, BitVec.msb_xor]
  rw [BitVec.msb_eq_toInt, BitVec.msb_eq_toInt, BitVec.msb_eq_toInt] at e1
  have e2 : decide (b.toBitVec.toInt < 0) = false := decide_eq_false (by have h : 0 ≤ b.toBitVec.toInt := hb; omega)
  rw [e2, Bool.xor_false] at e1
  have e3 : ((a ^^^ b).toBitVec.toInt < 0) ↔ (a.toBitVec.toInt < 0) := by
    constructor
    · intro h; exact of_decide_eq_true (e1.symm.trans (decide_eq_true h))
    · intro h; exact of_decide_eq_true (e1.trans (decide_eq_true h))
  show 0 ≤ (a ^^^ b).toBitVec.toInt ↔ 0 ≤ a.toBitVec.toInt
  omega
section ZLR
variable {p : Program} {l : Launch} {e : Env} {R : Room} {s : State} {m : MethodId} {args : Array Value} {below : List Frame} {meth : Method} {c : Code} {H : Heap} {locs : List Loc} {cells slots : Nat} {Q : State → Prop}
variable {cc : ByteArray} {pc : Nat} {ls : Array Slot} {rest : List Value}
theorem zr_ixorG (hexec : p.tables.exec = Jvm.exec) (hb : c.code = cc) {x y : Int} (hdg : decode cc pc = .ok (.ixor, 1)) (k : ∀ r : Int, zi r → W p l e R s m args below meth c H locs cells slots Q (F0 m (pc + 1) ls (.int (iz r) :: rest))) : W p l e R s m args below meth c H locs cells slots Q (F0 m pc ls (.int (iz y) :: .int (iz x) :: rest)) :=
  lv_ixor hexec hb hdg (by rw [iz_of (iz x ^^^ iz y)]; exact k _ (iz_rng _))
theorem zr_iushrG (hexec : p.tables.exec = Jvm.exec) (hb : c.code = cc) {x y : Int} (hdg : decode cc pc = .ok (.iushr, 1)) (k : ∀ r : Int, zi r → W p l e R s m args below meth c H locs cells slots Q (F0 m (pc + 1) ls (.int (iz r) :: rest))) : W p l e R s m args below meth c H locs cells slots Q (F0 m pc ls (.int (iz y) :: .int (iz x) :: rest)) :=
  lv_iushr (v := ((iz x).toUInt32 >>> ((iz y).toUInt32 &&& Int32.toUInt32 31)).toInt32) hexec hb hdg rfl (by rw [iz_of ((iz x).toUInt32 >>> ((iz y).toUInt32 &&& Int32.toUInt32 31)).toInt32]; exact k _ (iz_rng _))
theorem zr_iushr4 (hexec : p.tables.exec = Jvm.exec) (hb : c.code = cc) {x : Int} (hdg : decode cc pc = .ok (.iushr, 1)) (k : ∀ r : Int, 0 ≤ r ∧ r < 268435456 → W p l e R s m args below meth c H locs cells slots Q (F0 m (pc + 1) ls (.int (iz r) :: rest))) : W p l e R s m args below meth c H locs cells slots Q (F0 m pc ls (.int (iz 4) :: .int (iz x) :: rest)) := by
  refine lv_iushr (v := _) hexec hb hdg rfl ?_
  have h := zushr4 (iz x)
  generalize ((iz x).toUInt32 >>> ((iz 4).toUInt32 &&& Int32.toUInt32 31)).toInt32 = v at h ⊢
  rw [iz_of v]
  exact k _ h
theorem zr_lxorS (hexec : p.tables.exec = Jvm.exec) (hb : c.code = cc) {x y : Int} (hx : zl x) (hy : 0 ≤ y ∧ y < 9223372036854775808) (hdg : decode cc pc = .ok (.lxor, 1)) (k : ∀ r : Int, zl r → (0 ≤ r ↔ 0 ≤ x) → W p l e R s m args below meth c H locs cells slots Q (F0 m (pc + 1) ls (.long (lz r) :: rest))) : W p l e R s m args below meth c H locs cells slots Q (F0 m pc ls (.long (lz y) :: .long (lz x) :: rest)) := by
  refine lv_lxor hexec hb hdg ?_
  have h := lxor_sgn (lz x) (lz y) (by rw [lz_toInt ⟨by omega, hy.2⟩]; exact hy.1)
  rw [lz_toInt hx] at h
  rw [lz_of (lz x ^^^ lz y)]
  exact k _ (lz_rng _) h
end ZLR
theorem tfd_pos {x y : Int} (hx : 0 ≤ x) : x.tdiv y = x / y := Int.tdiv_eq_ediv_of_nonneg hx
/-- what the law rounds to, EXACT being refused -/
def zrx (md v u : Int) : Int := if md = 7 ∧ v % u ≠ 0 then -4000000000000000004 else zrd md v u
theorem zrx_e {md v u : Int} (h : v % u = 0) : zrx md v u = v / u := by
  unfold zrx zrd
  rw [if_neg (fun q => q.2 h), if_pos h]
theorem tfd_neg {x y : Int} (hx : x < 0) (hy : 1 ≤ y) : (x.tdiv y * y = x → x.tdiv y = x / y) ∧ (x.tdiv y * y ≠ x → x.tdiv y - 1 = x / y) ∧ x ≤ x.tdiv y * y ∧ x.tdiv y * y < x + y := by
  have e := Int.tdiv_eq_ediv (a := x) (b := y)
  have m := Int.mul_ediv_add_emod x y
  have m0 := Int.emod_nonneg x (show y ≠ 0 by omega)
  have m1 := Int.emod_lt_of_pos x (show 0 < y by omega)
  by_cases c : y ∣ x
  · rw [if_pos (Or.inr c)] at e
    have e2 : x.tdiv y = x / y := by omega
    have z := Int.emod_eq_zero_of_dvd c
    have e3 : x / y * y = y * (x / y) := Int.mul_comm _ _
    rw [e2]
    exact ⟨fun _ => rfl, fun h => absurd (by omega) h, by omega, by omega⟩
  · rw [if_neg (by intro h; rcases h with h | h; omega; exact c h), Int.sign_eq_one_of_pos (by omega)] at e
    have z : x % y ≠ 0 := fun h => c (Int.dvd_of_emod_eq_zero h)
    have e3 : (x / y + 1) * y = y * (x / y) + y := by rw [Int.add_mul, Int.one_mul, Int.mul_comm]
    rw [e]
    exact ⟨fun h => absurd h (by omega), fun _ => by omega, by omega, by omega⟩
theorem zmod_le (x : Int) {y : Int} (hx : 0 ≤ x) (hy : 0 < y) : x % y ≤ x := by
  have h := Int.mul_ediv_add_emod x y
  have q := Int.ediv_nonneg hx (show 0 ≤ y by omega)
  have := Int.mul_nonneg (show 0 ≤ y by omega) q
  omega
theorem zcmp3 {z x y : Int} (h : z = if x < y then -1 else if x = y then 0 else 1) : (z = -1 ∧ x < y) ∨ (z = 0 ∧ x = y) ∨ (z = 1 ∧ y < x) := by
  by_cases c : x < y
  · rw [if_pos c] at h; exact Or.inl ⟨h, c⟩
  · rw [if_neg c] at h
    by_cases d : x = y
    · rw [if_pos d] at h; exact Or.inr (Or.inl ⟨h, d⟩)
    · rw [if_neg d] at h; exact Or.inr (Or.inr ⟨h, by omega⟩)
theorem ztm2 (d : Int) : (d.tmod 2 = 0 ↔ d % 2 = 0) ∧ -1 ≤ d.tmod 2 ∧ d.tmod 2 ≤ 1 := by
  rcases Int.lt_or_le d 0 with c | c
  · obtain ⟨e, rfl⟩ : ∃ e, d = -e := ⟨-d, by omega⟩
    rw [Int.neg_tmod, Int.tmod_eq_emod_of_nonneg (by omega)]; omega
  · rw [Int.tmod_eq_emod_of_nonneg c]; omega
theorem zfd_rng {v u B : Int} (h : 1 ≤ u) (hv : -B ≤ v ∧ v ≤ B) : -B ≤ v / u ∧ v / u ≤ B := by
  have e := Int.mul_le_mul_of_nonneg_left h (show 0 ≤ B by omega)
  rw [Int.mul_one] at e
  refine ⟨(Int.le_ediv_iff_mul_le (by omega)).mpr (by rw [Int.neg_mul]; omega), ?_⟩
  have q : v / u < B + 1 := (Int.ediv_lt_iff_lt_mul (by omega)).mpr (by rw [Int.add_mul]; omega)
  omega
def rm_c_J13_compare : Room := { frames := 0, cells := 0, slots := 0, locals := 0 }
set_option maxHeartbeats 1000000 in
set_option maxRecDepth 100000 in
theorem c_J13_compare (l : Launch) (G : zG) (x : Int) (y : Int) (h1 : -9223372036854775808 ≤ x ∧ x < 9223372036854775808) (h2 : -9223372036854775808 ≤ y ∧ y < 9223372036854775808) : zM l G yJ13_compare_74951 wsJ13_compare_74951 rm_c_J13_compare [.long (lz (x)), .long (lz (y))] [] (fun A => zQi G (fun (z : Int) (_ : Unit) => z = if x < y then -1 else if x = y then 0 else 1) (fun (_ : Unit) => []) A) 0 0 := by
  refine zM_ofF (cc := cJ13_compare_74951) (maxL := 4) (ret := (some .int)) (by decide +kernel) rfl (Nat.le_of_ble_eq_true rfl) ?_
  intro p e s m below meth c ls A Q hQ hx hb hr hts hown hlocks hml hnm hKX hP hD hA hS hl
  have hK := hKX.1
  obtain ⟨H, hH⟩ : ∃ h, h = s.heap := ⟨_, rfl⟩
  obtain ⟨locs, hlo⟩ : ∃ h : List Loc, h = [] := ⟨_, rfl⟩
  have hS : va_S A s.heap H locs := by rw [hH, hlo]; exact hS
  have hP : va_P G.1 vwCl [] H := by rw [hH]; exact hP
  have hD : va_D A [] := hD
  have hl : lv_has ls 4 [(0, .long (lz (x))), (2, .long (lz (y)))] := hl
  rw [← hH, ← hlo]
  refine lv_lload_n hx hb dJ13_compare_74951_0 rfl (lv_at hl 0 rfl) ?_
  refine lv_lload_n hx hb dJ13_compare_74951_1 rfl (lv_at hl 1 rfl) ?_
  refine zr_lcmp_ge (x := x) (y := y) (tgt := 10) hx hb (⟨by omega, by omega⟩) (⟨by omega, by omega⟩) dJ13_compare_74951_2 dJ13_compare_74951_3 (by decide) (fun h_1 => ?_) (fun h_1 => ?_)
  ·
    refine lv_lload_n hx hb dJ13_compare_74951_10 rfl (lv_at hl 0 rfl) ?_
    refine lv_lload_n hx hb dJ13_compare_74951_11 rfl (lv_at hl 1 rfl) ?_
    refine zr_lcmp_ne (x := x) (y := y) (tgt := 20) hx hb (⟨by omega, by omega⟩) (⟨by omega, by omega⟩) dJ13_compare_74951_12 dJ13_compare_74951_13 (by decide) (fun h_2 => ?_) (fun h_2 => ?_)
    ·
      refine lv_iconst (v := iz (1)) hx hb dJ13_compare_74951_20 rfl ?_
      rw [hQ]
      exact zr_iret (z := 1) (u := ()) hx hb hr hlocks hP hD hS (by first | exact Nat.le_of_ble_eq_true rfl | omega) (by first | exact Nat.le_of_ble_eq_true rfl | omega) dJ13_compare_74951_21 (show 1 = if x < y then -1 else if x = y then 0 else 1 from by first | exact (if_pos (by omega)).symm | exact ((if_neg (by omega)).trans (if_pos (by omega))).symm | exact ((if_neg (by omega)).trans (if_neg (by omega))).symm)
    ·
      refine lv_iconst (v := iz (0)) hx hb dJ13_compare_74951_16 rfl ?_
      refine lv_goto (tgt := 21) hx hb dJ13_compare_74951_17 (by decide) ?_
      rw [hQ]
      exact zr_iret (z := 0) (u := ()) hx hb hr hlocks hP hD hS (by first | exact Nat.le_of_ble_eq_true rfl | omega) (by first | exact Nat.le_of_ble_eq_true rfl | omega) dJ13_compare_74951_21 (show 0 = if x < y then -1 else if x = y then 0 else 1 from by first | exact (if_pos (by omega)).symm | exact ((if_neg (by omega)).trans (if_pos (by omega))).symm | exact ((if_neg (by omega)).trans (if_neg (by omega))).symm)
  ·
    refine lv_iconst (v := iz (-1)) hx hb dJ13_compare_74951_6 rfl ?_
    refine lv_goto (tgt := 21) hx hb dJ13_compare_74951_7 (by decide) ?_
    rw [hQ]
    exact zr_iret (z := -1) (u := ()) hx hb hr hlocks hP hD hS (by first | exact Nat.le_of_ble_eq_true rfl | omega) (by first | exact Nat.le_of_ble_eq_true rfl | omega) dJ13_compare_74951_21 (show (-1) = if x < y then -1 else if x = y then 0 else 1 from by first | exact (if_pos (by omega)).symm | exact ((if_neg (by omega)).trans (if_pos (by omega))).symm | exact ((if_neg (by omega)).trans (if_neg (by omega))).symm)

def rm_c_J9_floorDivL : Room := { frames := 0, cells := 0, slots := 0, locals := 0 }
set_option maxHeartbeats 1000000 in
set_option maxRecDepth 100000 in
theorem c_J9_floorDivL (l : Launch) (G : zG) (x : Int) (y : Int) (h1 : -4611686018427387904 < x ∧ x < 4611686018427387904) (h2 : 1 ≤ y ∧ y < 4611686018427387904) : zM l G yJ9_floorDiv_f86c9 wsJ9_floorDiv_f86c9 rm_c_J9_floorDivL [.long (lz (x)), .long (lz (y))] [] (fun A => zQl G (fun (z : Int) (_ : Unit) => z = x / y) (fun (_ : Unit) => []) A) 0 0 := by
  refine zM_ofF (cc := cJ9_floorDiv_f86c9) (maxL := 6) (ret := (some .long)) (by decide +kernel) rfl (Nat.le_of_ble_eq_true rfl) ?_
  intro p e s m below meth c ls A Q hQ hx hb hr hts hown hlocks hml hnm hKX hP hD hA hS hl
  have hK := hKX.1
  obtain ⟨H, hH⟩ : ∃ h, h = s.heap := ⟨_, rfl⟩
  obtain ⟨locs, hlo⟩ : ∃ h : List Loc, h = [] := ⟨_, rfl⟩
  have hS : va_S A s.heap H locs := by rw [hH, hlo]; exact hS
  have hP : va_P G.1 vwCl [] H := by rw [hH]; exact hP
  have hD : va_D A [] := hD
  have hl : lv_has ls 6 [(0, .long (lz (x))), (2, .long (lz (y)))] := hl
  rw [← hH, ← hlo]
  refine lv_lload_n hx hb dJ9_floorDiv_f86c9_0 rfl (lv_at hl 0 rfl) ?_
  refine lv_lload_n hx hb dJ9_floorDiv_f86c9_1 rfl (lv_at hl 1 rfl) ?_
  refine zr_ldivT hx hb (x := x) (y := y) ⟨by omega, by omega⟩ ⟨by omega, by omega⟩ (by omega) dJ9_floorDiv_f86c9_2 ?_
  refine zr_namel (fun q eq => ?_)
  refine lv_lstore (lv' := [(4, .long (lz (q))), (0, .long (lz (x))), (2, .long (lz (y)))]) hx hb dJ9_floorDiv_f86c9_3 hl (by decide) rfl (fun ls hl => ?_)
  refine lv_lload_n hx hb dJ9_floorDiv_f86c9_5 rfl (lv_at hl 1 rfl) ?_
  refine lv_lload_n hx hb dJ9_floorDiv_f86c9_6 rfl (lv_at hl 2 rfl) ?_
  refine zr_lxorS hx hb (x := x) (y := y) (⟨by omega, by omega⟩) (⟨by omega, by omega⟩) dJ9_floorDiv_f86c9_7 (fun xr_1 hxr_1 hsxr_1 => ?_)
  refine zr_namel (fun xr exr => ?_)
  refine lv_lconst (v := lz (0)) hx hb dJ9_floorDiv_f86c9_8 rfl ?_
  refine zr_lcmp_ge (x := xr) (y := 0) (tgt := 27) hx hb (⟨by omega, by omega⟩) (⟨by omega, by omega⟩) dJ9_floorDiv_f86c9_9 dJ9_floorDiv_f86c9_10 (by decide) (fun h_2 => ?_) (fun h_2 => ?_)
  ·
    have hx0 : 0 ≤ x := by have := hsxr_1; omega
    refine lv_lload hx hb dJ9_floorDiv_f86c9_27 (lv_at hl 0 rfl) ?_
    rw [hQ]
    exact zr_lret (z := q) (u := ()) hx hb hr hlocks hP hD hS (by first | exact Nat.le_of_ble_eq_true rfl | omega) (by first | exact Nat.le_of_ble_eq_true rfl | omega) dJ9_floorDiv_f86c9_29 (show q = x / y from by first | exact (eq.trans (tfd_pos hx0)) | exact hn.1 (by omega))
  ·
    have hx0 : x < 0 := by have := hsxr_1; omega
    have hn := tfd_neg hx0 h2.1
    rw [← eq] at hn
    refine lv_lload hx hb dJ9_floorDiv_f86c9_13 (lv_at hl 0 rfl) ?_
    refine lv_lload_n hx hb dJ9_floorDiv_f86c9_15 rfl (lv_at hl 2 rfl) ?_
    refine zr_lmul hx hb dJ9_floorDiv_f86c9_16 ?_
    refine lv_lload_n hx hb dJ9_floorDiv_f86c9_17 rfl (lv_at hl 1 rfl) ?_
    refine zr_lcmp_eq (x := q * y) (y := x) (tgt := 27) hx hb (⟨by omega, by omega⟩) (⟨by omega, by omega⟩) dJ9_floorDiv_f86c9_18 dJ9_floorDiv_f86c9_19 (by decide) (fun h_3 => ?_) (fun h_3 => ?_)
    ·
      refine lv_lload hx hb dJ9_floorDiv_f86c9_27 (lv_at hl 0 rfl) ?_
      rw [hQ]
      exact zr_lret (z := q) (u := ()) hx hb hr hlocks hP hD hS (by first | exact Nat.le_of_ble_eq_true rfl | omega) (by first | exact Nat.le_of_ble_eq_true rfl | omega) dJ9_floorDiv_f86c9_29 (show q = x / y from by first | exact (eq.trans (tfd_pos hx0)) | exact hn.1 (by omega))
    ·
      refine lv_lload hx hb dJ9_floorDiv_f86c9_22 (lv_at hl 0 rfl) ?_
      refine lv_lconst (v := lz (1)) hx hb dJ9_floorDiv_f86c9_24 rfl ?_
      refine zr_lsub hx hb dJ9_floorDiv_f86c9_25 ?_
      rw [hQ]
      exact zr_lret (z := q - 1) (u := ()) hx hb hr hlocks hP hD hS (by first | exact Nat.le_of_ble_eq_true rfl | omega) (by first | exact Nat.le_of_ble_eq_true rfl | omega) dJ9_floorDiv_f86c9_26 (show (q - 1) = x / y from hn.2.1 (by omega))

def rm_c_L_draw : Room := { frames := 0, cells := 0, slots := 0, locals := 0 }
set_option maxHeartbeats 1000000 in
set_option maxRecDepth 100000 in
theorem c_L_draw (l : Launch) (G : zG) (rr : Nat) (g : Int → Int) (mn : Int) (h1 : 1 ≤ mn ∧ mn < 2147483648) : zM l G yL_draw wsL_draw rm_c_L_draw [.ref rr, .int (iz (mn))] [(rr, zaI (G.2 1) 2 (g))] (fun A => zQi G (fun (z : Int) (g2 : (Int → Int)) => 0 ≤ z ∧ z < mn ∧ z < 268435456) (fun (g2 : (Int → Int)) => [(rr, zaI (G.2 1) 2 (g2))]) A) 0 0 := by
  refine zM_of (cc := cL_draw) (maxL := 2) (ret := (some .int)) (by decide) rfl (Nat.le_of_ble_eq_true rfl) ?_
  intro p e s m below meth c ls A Q hQ hx hb hr hts hown hlocks hml hnm hKX hP hD hA hS hl
  have hK := hKX.1
  obtain ⟨H, hH⟩ : ∃ h, h = s.heap := ⟨_, rfl⟩
  obtain ⟨locs, hlo⟩ : ∃ h : List Loc, h = [] := ⟨_, rfl⟩
  have hS : va_S A s.heap H locs := by rw [hH, hlo]; exact hS
  have hP : va_P G.1 vwCl [(rr, zaI (G.2 1) 2 (g))] H := by rw [hH]; exact hP
  have hD : va_D A [(rr, zaI (G.2 1) 2 (g))] := hD
  have hl : lv_has ls 2 [(0, .ref rr), (1, .int (iz (mn)))] := hl
  rw [← hH, ← hlo]
  refine lv_aload_n hx hb dL_draw_0 rfl (lv_at hl 0 rfl) ?_
  refine lv_iconst (v := iz (0)) hx hb dL_draw_1 rfl ?_
  refine lv_aload_n hx hb dL_draw_2 rfl (lv_at hl 0 rfl) ?_
  refine lv_iconst (v := iz (0)) hx hb dL_draw_3 rfl ?_
  refine zr_iald hx hb hK hP 0 1 rfl rfl (i := 0) (⟨by omega, by omega, by omega⟩) dL_draw_4 ?_
  refine zr_ldc (z := 1103515245) hx hb hown (hts (.constant RL 11 (1103515245)) (by decide +kernel)) rfl dL_draw_5 ?_
  refine zr_imul hx hb dL_draw_7 ?_
  refine lv_sipush (v := iz (12345)) hx hb dL_draw_8 rfl ?_
  refine zr_iadd hx hb dL_draw_11 ?_
  refine zr_iast hx hb hK hP hD hS 0 1 rfl rfl (i := 0) (x := ((g 0) * 1103515245) + 12345) (⟨by omega, by omega, by omega⟩) dL_draw_12 (fun H locs hP hD hS => ?_)
  have hP : va_P G.1 vwCl [(rr, zaI (G.2 1) 2 (zup g 0 (((g 0) * 1103515245) + 12345)))] H := hP
  have hD : va_D A [(rr, zaI (G.2 1) 2 (zup g 0 (((g 0) * 1103515245) + 12345)))] := hD
  refine lv_aload_n hx hb dL_draw_13 rfl (lv_at hl 0 rfl) ?_
  refine lv_iconst (v := iz (1)) hx hb dL_draw_14 rfl ?_
  refine lv_aload_n hx hb dL_draw_15 rfl (lv_at hl 0 rfl) ?_
  refine lv_iconst (v := iz (1)) hx hb dL_draw_16 rfl ?_
  refine zr_iald hx hb hK hP 0 1 rfl rfl (i := 1) (⟨by omega, by omega, by omega⟩) dL_draw_17 ?_
  refine lv_aload_n hx hb dL_draw_18 rfl (lv_at hl 0 rfl) ?_
  refine lv_iconst (v := iz (0)) hx hb dL_draw_19 rfl ?_
  refine zr_iald hx hb hK hP 0 1 rfl rfl (i := 0) (⟨by omega, by omega, by omega⟩) dL_draw_20 ?_
  refine lv_bipush (v := iz (9)) hx hb dL_draw_21 rfl ?_
  refine zr_iushrG hx hb dL_draw_23 (fun sr_1 hsr_1 => ?_)
  refine zr_ixorG hx hb dL_draw_24 (fun xr_2 hxr_2 => ?_)
  refine zr_ldc (z := 69069) hx hb hown (hts (.constant RL 12 (69069)) (by decide +kernel)) rfl dL_draw_25 ?_
  refine zr_imul hx hb dL_draw_27 ?_
  refine lv_iconst (v := iz (1)) hx hb dL_draw_28 rfl ?_
  refine zr_iadd hx hb dL_draw_29 ?_
  refine zr_iast hx hb hK hP hD hS 0 1 rfl rfl (i := 1) (x := (xr_2 * 69069) + 1) (⟨by omega, by omega, by omega⟩) dL_draw_30 (fun H locs hP hD hS => ?_)
  have hP : va_P G.1 vwCl [(rr, zaI (G.2 1) 2 (zup (zup g 0 (((g 0) * 1103515245) + 12345)) 1 ((xr_2 * 69069) + 1)))] H := hP
  have hD : va_D A [(rr, zaI (G.2 1) 2 (zup (zup g 0 (((g 0) * 1103515245) + 12345)) 1 ((xr_2 * 69069) + 1)))] := hD
  refine lv_aload_n hx hb dL_draw_31 rfl (lv_at hl 0 rfl) ?_
  refine lv_iconst (v := iz (1)) hx hb dL_draw_32 rfl ?_
  refine zr_iald hx hb hK hP 0 1 rfl rfl (i := 1) (⟨by omega, by omega, by omega⟩) dL_draw_33 ?_
  refine lv_aload_n hx hb dL_draw_34 rfl (lv_at hl 0 rfl) ?_
  refine lv_iconst (v := iz (1)) hx hb dL_draw_35 rfl ?_
  refine zr_iald hx hb hK hP 0 1 rfl rfl (i := 1) (⟨by omega, by omega, by omega⟩) dL_draw_36 ?_
  refine lv_bipush (v := iz (16)) hx hb dL_draw_37 rfl ?_
  refine zr_iushrG hx hb dL_draw_39 (fun sr_3 hsr_3 => ?_)
  refine zr_ixorG hx hb dL_draw_40 (fun xr_4 hxr_4 => ?_)
  refine lv_iconst (v := iz (4)) hx hb dL_draw_41 rfl ?_
  refine zr_iushr4 hx hb dL_draw_42 (fun sr_5 hsr_5 => ?_)
  refine lv_iload_n hx hb dL_draw_43 rfl (lv_at hl 1 rfl) ?_
  refine zr_irem hx hb (x := sr_5) (y := mn) ⟨by omega, by omega⟩ ⟨by omega, by omega⟩ (by omega) (by omega) dL_draw_44 ?_
  refine zr_namei (fun dz edz => ?_)
  rw [hQ]
  exact zr_iret (z := dz) (u := (zup (zup g 0 (((g 0) * 1103515245) + 12345)) 1 ((xr_2 * 69069) + 1))) hx hb hr hlocks hP hD hS (by first | exact Nat.le_of_ble_eq_true rfl | omega) (by first | exact Nat.le_of_ble_eq_true rfl | omega) dL_draw_45 (show 0 ≤ dz ∧ dz < mn ∧ dz < 268435456 from by have q1 := Int.emod_nonneg sr_5 (show mn ≠ 0 by omega); have q2 := Int.emod_lt_of_pos sr_5 (show 0 < mn by omega); have q3 := zmod_le sr_5 (show 0 ≤ sr_5 by omega) (show 0 < mn by omega); omega)

def rm_c_L_rate : Room := { frames := 1, cells := 0, slots := 0, locals := 21 }
set_option maxHeartbeats 1000000 in
set_option maxRecDepth 100000 in
theorem c_L_rate (l : Launch) (G : zG) (rr : Nat) (g : Int → Int)  : zM l G yL_rate wsL_rate rm_c_L_rate [.ref rr] [(rr, zaI (G.2 1) 2 (g))] (fun A => zQi G (fun (z : Int) (g2 : (Int → Int)) => 0 ≤ z ∧ z ≤ 20000) (fun (g2 : (Int → Int)) => [(rr, zaI (G.2 1) 2 (g2))]) A) 0 0 := by
  refine zM_of (cc := cL_rate) (maxL := 1) (ret := (some .int)) (by decide) rfl (Nat.le_of_ble_eq_true rfl) ?_
  intro p e s m below meth c ls A Q hQ hx hb hr hts hown hlocks hml hnm hKX hP hD hA hS hl
  have hK := hKX.1
  obtain ⟨H, hH⟩ : ∃ h, h = s.heap := ⟨_, rfl⟩
  obtain ⟨locs, hlo⟩ : ∃ h : List Loc, h = [] := ⟨_, rfl⟩
  have hS : va_S A s.heap H locs := by rw [hH, hlo]; exact hS
  have hP : va_P G.1 vwCl [(rr, zaI (G.2 1) 2 (g))] H := by rw [hH]; exact hP
  have hD : va_D A [(rr, zaI (G.2 1) 2 (g))] := hD
  have hl : lv_has ls 1 [(0, .ref rr)] := hl
  rw [← hH, ← hlo]
  refine lv_aload_n hx hb dL_rate_0 rfl (lv_at hl 0 rfl) ?_
  refine lv_iconst (v := iz (4)) hx hb dL_rate_1 rfl ?_
  refine zc_i (wr := []) (va_runS (As := [.ref rr, .int (iz (4))]) (rest := []) ⟨hx, hb, hml, hown, hts⟩ (c_L_draw l G rr g 4 (by omega) H.size) (va_cwS 2 hts gL_rate_L_draw rfl rfl rfl (by decide +kernel) ⟨Nat.le_of_ble_eq_true rfl, Nat.le_of_ble_eq_true rfl⟩) (zpS hKX hP hD [0] rfl rfl) rfl rfl hl.1 rfl (lv_room (Nat.le_of_ble_eq_true rfl)) dL_rate_2 ⟨(by first | exact Nat.le_of_ble_eq_true rfl | (show _ ≤ (0 : Nat); omega)), (by first | exact Nat.le_of_ble_eq_true rfl | (show _ ≤ (0 : Nat); omega))⟩) hP hD hS hA [0] [] rfl rfl rfl (by decide) (fun z_a u_1 H locs h_a hP hD hS => ?_)
  generalize u_1 = g_a at hP hD h_a
  have hP : va_P G.1 vwCl [(rr, zaI (G.2 1) 2 (g_a))] H := hP
  have hD : va_D A [(rr, zaI (G.2 1) 2 (g_a))] := hD
  have h_a : 0 ≤ z_a ∧ z_a < (4 : Int) ∧ z_a < 268435456 := h_a
  refine zr_if_ne (x := z_a) (tgt := 12) hx hb (⟨by omega, by omega⟩) dL_rate_5 (by decide) (fun h_3 => ?_) (fun h_3 => ?_)
  ·
    refine lv_aload_n hx hb dL_rate_12 rfl (lv_at hl 0 rfl) ?_
    refine lv_iconst (v := iz (3)) hx hb dL_rate_13 rfl ?_
    refine zc_i (wr := []) (va_runS (As := [.ref rr, .int (iz (3))]) (rest := []) ⟨hx, hb, hml, hown, hts⟩ (c_L_draw l G rr g_a 3 (by omega) H.size) (va_cwS 2 hts gL_rate_L_draw rfl rfl rfl (by decide +kernel) ⟨Nat.le_of_ble_eq_true rfl, Nat.le_of_ble_eq_true rfl⟩) (zpS hKX hP hD [0] rfl rfl) rfl rfl hl.1 rfl (lv_room (Nat.le_of_ble_eq_true rfl)) dL_rate_14 ⟨(by first | exact Nat.le_of_ble_eq_true rfl | (show _ ≤ (0 : Nat); omega)), (by first | exact Nat.le_of_ble_eq_true rfl | (show _ ≤ (0 : Nat); omega))⟩) hP hD hS hA [0] [] rfl rfl rfl (by decide) (fun z_b u_4 H locs h_b hP hD hS => ?_)
    generalize u_4 = g_b at hP hD h_b
    have hP : va_P G.1 vwCl [(rr, zaI (G.2 1) 2 (g_b))] H := hP
    have hD : va_D A [(rr, zaI (G.2 1) 2 (g_b))] := hD
    have h_b : 0 ≤ z_b ∧ z_b < (3 : Int) ∧ z_b < 268435456 := h_b
    refine zr_if_ne (x := z_b) (tgt := 33) hx hb (⟨by omega, by omega⟩) dL_rate_17 (by decide) (fun h_6 => ?_) (fun h_6 => ?_)
    ·
      refine lv_aload_n hx hb dL_rate_33 rfl (lv_at hl 0 rfl) ?_
      refine lv_sipush (v := iz (20001)) hx hb dL_rate_34 rfl ?_
      refine zc_i (wr := []) (va_runS (As := [.ref rr, .int (iz (20001))]) (rest := []) ⟨hx, hb, hml, hown, hts⟩ (c_L_draw l G rr g_b 20001 (by omega) H.size) (va_cwS 2 hts gL_rate_L_draw rfl rfl rfl (by decide +kernel) ⟨Nat.le_of_ble_eq_true rfl, Nat.le_of_ble_eq_true rfl⟩) (zpS hKX hP hD [0] rfl rfl) rfl rfl hl.1 rfl (lv_room (Nat.le_of_ble_eq_true rfl)) dL_rate_37 ⟨(by first | exact Nat.le_of_ble_eq_true rfl | (show _ ≤ (0 : Nat); omega)), (by first | exact Nat.le_of_ble_eq_true rfl | (show _ ≤ (0 : Nat); omega))⟩) hP hD hS hA [0] [] rfl rfl rfl (by decide) (fun z_d u_7 H locs h_d hP hD hS => ?_)
      generalize u_7 = g_d at hP hD h_d
      have hP : va_P G.1 vwCl [(rr, zaI (G.2 1) 2 (g_d))] H := hP
      have hD : va_D A [(rr, zaI (G.2 1) 2 (g_d))] := hD
      have h_d : 0 ≤ z_d ∧ z_d < (20001 : Int) ∧ z_d < 268435456 := h_d
      rw [hQ]
      exact zr_iret (z := z_d) (u := (g_d)) hx hb hr hlocks hP hD hS (by first | exact Nat.le_of_ble_eq_true rfl | omega) (by first | exact Nat.le_of_ble_eq_true rfl | omega) dL_rate_40 (show 0 ≤ z_d ∧ z_d ≤ 20000 from by omega)
    ·
      refine lv_sipush (v := iz (1000)) hx hb dL_rate_20 rfl ?_
      refine lv_aload_n hx hb dL_rate_23 rfl (lv_at hl 0 rfl) ?_
      refine lv_bipush (v := iz (21)) hx hb dL_rate_24 rfl ?_
      refine zc_i (wr := []) (va_runS (As := [.ref rr, .int (iz (21))]) (rest := [.int (iz (1000))]) ⟨hx, hb, hml, hown, hts⟩ (c_L_draw l G rr g_b 21 (by omega) H.size) (va_cwS 2 hts gL_rate_L_draw rfl rfl rfl (by decide +kernel) ⟨Nat.le_of_ble_eq_true rfl, Nat.le_of_ble_eq_true rfl⟩) (zpS hKX hP hD [0] rfl rfl) rfl rfl hl.1 rfl (lv_room (Nat.le_of_ble_eq_true rfl)) dL_rate_26 ⟨(by first | exact Nat.le_of_ble_eq_true rfl | (show _ ≤ (0 : Nat); omega)), (by first | exact Nat.le_of_ble_eq_true rfl | (show _ ≤ (0 : Nat); omega))⟩) hP hD hS hA [0] [] rfl rfl rfl (by decide) (fun z_c u_9 H locs h_c hP hD hS => ?_)
      generalize u_9 = g_c at hP hD h_c
      have hP : va_P G.1 vwCl [(rr, zaI (G.2 1) 2 (g_c))] H := hP
      have hD : va_D A [(rr, zaI (G.2 1) 2 (g_c))] := hD
      have h_c : 0 ≤ z_c ∧ z_c < (21 : Int) ∧ z_c < 268435456 := h_c
      refine zr_imul hx hb dL_rate_29 ?_
      refine lv_goto (tgt := 40) hx hb dL_rate_30 (by decide) ?_
      rw [hQ]
      exact zr_iret (z := 1000 * z_c) (u := (g_c)) hx hb hr hlocks hP hD hS (by first | exact Nat.le_of_ble_eq_true rfl | omega) (by first | exact Nat.le_of_ble_eq_true rfl | omega) dL_rate_40 (show 0 ≤ (1000 * z_c) ∧ (1000 * z_c) ≤ 20000 from by omega)
  ·
    refine lv_iconst (v := iz (0)) hx hb dL_rate_8 rfl ?_
    refine lv_goto (tgt := 40) hx hb dL_rate_9 (by decide) ?_
    rw [hQ]
    exact zr_iret (z := 0) (u := (g_a)) hx hb hr hlocks hP hD hS (by first | exact Nat.le_of_ble_eq_true rfl | omega) (by first | exact Nat.le_of_ble_eq_true rfl | omega) dL_rate_40 (show 0 ≤ 0 ∧ 0 ≤ 20000 from by omega)

def rm_c_L_rounded : Room := { frames := 1, cells := 0, slots := 0, locals := 25 }
set_option maxHeartbeats 1000000 in
set_option maxRecDepth 100000 in
theorem c_L_rounded (l : Launch) (G : zG) (ov : Int) (un : Int) (md : Int) (hmd : 0 ≤ md ∧ md ≤ 7) (h1 : -4611686018427387904 < ov ∧ ov < 4611686018427387904) (h2 : 1 ≤ un ∧ un < 4611686018427387904) : zM l G yL_rounded wsL_rounded rm_c_L_rounded [.long (lz (ov)), .long (lz (un)), .int (iz (md))] [] (fun A => zQl G (fun (z : Int) (_ : Unit) => z = zrx md ov un) (fun (_ : Unit) => []) A) 0 0 := by
  refine zM_of (cc := cL_rounded) (maxL := 12) (ret := (some .long)) (by decide) rfl (Nat.le_of_ble_eq_true rfl) ?_
  intro p e s m below meth c ls A Q hQ hx hb hr hts hown hlocks hml hnm hKX hP hD hA hS hl
  have hK := hKX.1
  obtain ⟨H, hH⟩ : ∃ h, h = s.heap := ⟨_, rfl⟩
  obtain ⟨locs, hlo⟩ : ∃ h : List Loc, h = [] := ⟨_, rfl⟩
  have hS : va_S A s.heap H locs := by rw [hH, hlo]; exact hS
  have hP : va_P G.1 vwCl [] H := by rw [hH]; exact hP
  have hD : va_D A [] := hD
  have hl : lv_has ls 12 [(0, .long (lz (ov))), (2, .long (lz (un))), (4, .int (iz (md)))] := hl
  rw [← hH, ← hlo]
  refine lv_lload_n hx hb dL_rounded_0 rfl (lv_at hl 0 rfl) ?_
  refine lv_lload_n hx hb dL_rounded_1 rfl (lv_at hl 1 rfl) ?_
  refine zc_l (wr := []) (va_runS (As := [.long (lz (ov)), .long (lz (un))]) (rest := []) ⟨hx, hb, hml, hown, hts⟩ (c_J9_floorDivL l G ov un (by omega) (by omega) H.size) (va_cwS 2 hts gL_rounded_J9_floorDiv_f86c9 rfl rfl rfl (by decide +kernel) ⟨Nat.le_of_ble_eq_true rfl, Nat.le_of_ble_eq_true rfl⟩) (zpS hKX hP hD [] rfl rfl) rfl rfl hl.1 rfl (lv_room (Nat.le_of_ble_eq_true rfl)) dL_rounded_2 ⟨(by first | exact Nat.le_of_ble_eq_true rfl | (show _ ≤ (0 : Nat); omega)), (by first | exact Nat.le_of_ble_eq_true rfl | (show _ ≤ (0 : Nat); omega))⟩) hP hD hS hA [] [] rfl rfl rfl (by decide) (fun dn u_1 H locs hdn hP hD hS => ?_)
  have hP : va_P G.1 vwCl [] H := hP
  have hD : va_D A [] := hD
  have hdn : dn = ov / un := hdn
  have hdr := zfd_rng (v := ov) (u := un) (B := 4611686018427387904) (by omega) ⟨by omega, by omega⟩
  rw [← hdn] at hdr
  refine lv_lstore (lv' := [(5, .long (lz (dn))), (0, .long (lz (ov))), (2, .long (lz (un))), (4, .int (iz (md)))]) hx hb dL_rounded_5 hl (by decide) rfl (fun ls hl => ?_)
  refine lv_lload_n hx hb dL_rounded_7 rfl (lv_at hl 1 rfl) ?_
  refine lv_lload hx hb dL_rounded_8 (lv_at hl 0 rfl) ?_
  refine lv_lload_n hx hb dL_rounded_10 rfl (lv_at hl 2 rfl) ?_
  refine zr_lmul hx hb dL_rounded_11 ?_
  refine zr_lsub hx hb dL_rounded_12 ?_
  refine zr_namel (fun rs ers => ?_)
  have hrs : rs = ov % un := by have := zdm ov (show 0 < un by omega); rw [ers, hdn, Int.mul_comm]; omega
  have hrb := zdm ov (show 0 < un by omega)
  refine lv_lstore (lv' := [(7, .long (lz (rs))), (5, .long (lz (dn))), (0, .long (lz (ov))), (2, .long (lz (un))), (4, .int (iz (md)))]) hx hb dL_rounded_13 hl (by decide) rfl (fun ls hl => ?_)
  refine lv_lload hx hb dL_rounded_15 (lv_at hl 0 rfl) ?_
  refine lv_lconst (v := lz (0)) hx hb dL_rounded_17 rfl ?_
  refine zr_lcmp_ne (x := rs) (y := 0) (tgt := 25) hx hb (⟨by omega, by omega⟩) (⟨by omega, by omega⟩) dL_rounded_18 dL_rounded_19 (by decide) (fun h_3 => ?_) (fun h_3 => ?_)
  ·
    have hr0 : ¬ rs = 0 := h_3
    refine lv_lload hx hb dL_rounded_25 (lv_at hl 0 rfl) ?_
    refine lv_lload_n hx hb dL_rounded_27 rfl (lv_at hl 3 rfl) ?_
    refine lv_lload hx hb dL_rounded_28 (lv_at hl 0 rfl) ?_
    refine zr_lsub hx hb dL_rounded_30 ?_
    refine zc_i (wr := []) (va_runS (As := [.long (lz (rs)), .long (lz (un - rs))]) (rest := []) ⟨hx, hb, hml, hown, hts⟩ (c_J13_compare l G rs (un - rs) (by omega) (by omega) H.size) (va_cwS 2 hts gL_rounded_J13_compare_74951 rfl rfl rfl (by decide +kernel) ⟨Nat.le_of_ble_eq_true rfl, Nat.le_of_ble_eq_true rfl⟩) (zpS hKX hP hD [] rfl rfl) rfl rfl hl.1 rfl (lv_room (Nat.le_of_ble_eq_true rfl)) dL_rounded_31 ⟨(by first | exact Nat.le_of_ble_eq_true rfl | (show _ ≤ (0 : Nat); omega)), (by first | exact Nat.le_of_ble_eq_true rfl | (show _ ≤ (0 : Nat); omega))⟩) hP hD hS hA [] [] rfl rfl rfl (by decide) (fun hf u_4 H locs hhf hP hD hS => ?_)
    have hP : va_P G.1 vwCl [] H := hP
    have hD : va_D A [] := hD
    have hhf : hf = if rs < (un - rs) then -1 else if rs = (un - rs) then 0 else 1 := hhf
    have hf3 := zcmp3 hhf
    refine zr_i2l hx hb (x := hf) (⟨by omega, by omega⟩) dL_rounded_34 ?_
    refine lv_lstore (lv' := [(9, .long (lz (hf))), (7, .long (lz (rs))), (5, .long (lz (dn))), (0, .long (lz (ov))), (2, .long (lz (un))), (4, .int (iz (md)))]) hx hb dL_rounded_35 hl (by decide) rfl (fun ls hl => ?_)
    have hl_48 : ∀ (bl : Bool) (H : Heap) (locs : List Loc) (ls : Array Slot), (bl = decide (ov < 0)) → va_P G.1 vwCl [] H → va_D A [] → va_S A s.heap H locs → lv_has ls 12 [(9, .long (lz (hf))), (7, .long (lz (rs))), (5, .long (lz (dn))), (0, .long (lz (ov))), (2, .long (lz (un))), (4, .int (iz (md)))] → W p l e rm_c_L_rounded s m ([.long (lz (ov)), .long (lz (un)), .int (iz (md))] : List Value).toArray below meth c H locs (0 + 0 + 0) (0 + 0 + 0) Q (F0 m 48 ls [.int (iz (zbb bl))]) := by
      intro bl H locs ls jb hP hD hS hl
      refine lv_istore (lv' := [(11, .int (iz (zbb bl))), (9, .long (lz (hf))), (7, .long (lz (rs))), (5, .long (lz (dn))), (0, .long (lz (ov))), (2, .long (lz (un))), (4, .int (iz (md)))]) hx hb dL_rounded_48 hl (by decide) rfl (fun ls hl => ?_)
      refine lv_iload hx hb dL_rounded_50 (lv_at hl 6 rfl) ?_
      have hsi_52 := iz_toInt (z := md) (⟨by omega, by omega⟩)
      by_cases hsw_52_0 : md = 0
      ·
        refine lv_tableIn (tgt := 96) hx hb dL_rounded_52 (by omega) (by omega) (off := 44) (by rw [hsi_52, hsw_52_0]; rfl) (by decide) ?_
        refine lv_iload hx hb dL_rounded_96 (lv_at hl 0 rfl) ?_
        refine zr_ifz_eq (tgt := 106) hx hb dL_rounded_98 (by decide) (fun h_6 => ?_) (fun h_6 => ?_)
        ·
          have hzbl := of_decide_eq_false (jb.symm.trans h_6)
          refine lv_lload hx hb dL_rounded_106 (lv_at hl 3 rfl) ?_
          refine lv_lconst (v := lz (1)) hx hb dL_rounded_108 rfl ?_
          refine zr_ladd hx hb dL_rounded_109 ?_
          rw [hQ]
          exact zr_lret (z := dn + 1) (u := ()) hx hb hr hlocks hP hD hS (by first | exact Nat.le_of_ble_eq_true rfl | omega) (by first | exact Nat.le_of_ble_eq_true rfl | omega) dL_rounded_110 (show (dn + 1) = zrx md ov un from by first | (rw [hdn]; exact (zrx_e (by omega)).symm) | (unfold zrx; rw [if_pos ⟨by omega, by rw [← hrs]; exact hr0⟩]) | (unfold zrx; rw [if_neg (by omega)]; unfold zrd; rw [← hrs, ← hdn, if_neg hr0]; first | exact (if_pos (by omega)).symm | exact (if_neg (by omega)).symm))
        ·
          have hzbl := of_decide_eq_true (jb.symm.trans h_6)
          refine lv_lload hx hb dL_rounded_101 (lv_at hl 3 rfl) ?_
          refine lv_goto (tgt := 110) hx hb dL_rounded_103 (by decide) ?_
          rw [hQ]
          exact zr_lret (z := dn) (u := ()) hx hb hr hlocks hP hD hS (by first | exact Nat.le_of_ble_eq_true rfl | omega) (by first | exact Nat.le_of_ble_eq_true rfl | omega) dL_rounded_110 (show dn = zrx md ov un from by first | (rw [hdn]; exact (zrx_e (by omega)).symm) | (unfold zrx; rw [if_pos ⟨by omega, by rw [← hrs]; exact hr0⟩]) | (unfold zrx; rw [if_neg (by omega)]; unfold zrd; rw [← hrs, ← hdn, if_neg hr0]; first | exact (if_pos (by omega)).symm | exact (if_neg (by omega)).symm))
      by_cases hsw_52_1 : md = 1
      ·
        refine lv_tableIn (tgt := 111) hx hb dL_rounded_52 (by omega) (by omega) (off := 59) (by rw [hsi_52, hsw_52_1]; rfl) (by decide) ?_
        refine lv_iload hx hb dL_rounded_111 (lv_at hl 0 rfl) ?_
        refine zr_ifz_eq (tgt := 123) hx hb dL_rounded_113 (by decide) (fun h_7 => ?_) (fun h_7 => ?_)
        ·
          have hzbl := of_decide_eq_false (jb.symm.trans h_7)
          refine lv_lload hx hb dL_rounded_123 (lv_at hl 3 rfl) ?_
          rw [hQ]
          exact zr_lret (z := dn) (u := ()) hx hb hr hlocks hP hD hS (by first | exact Nat.le_of_ble_eq_true rfl | omega) (by first | exact Nat.le_of_ble_eq_true rfl | omega) dL_rounded_125 (show dn = zrx md ov un from by first | (rw [hdn]; exact (zrx_e (by omega)).symm) | (unfold zrx; rw [if_pos ⟨by omega, by rw [← hrs]; exact hr0⟩]) | (unfold zrx; rw [if_neg (by omega)]; unfold zrd; rw [← hrs, ← hdn, if_neg hr0]; first | exact (if_pos (by omega)).symm | exact (if_neg (by omega)).symm))
        ·
          have hzbl := of_decide_eq_true (jb.symm.trans h_7)
          refine lv_lload hx hb dL_rounded_116 (lv_at hl 3 rfl) ?_
          refine lv_lconst (v := lz (1)) hx hb dL_rounded_118 rfl ?_
          refine zr_ladd hx hb dL_rounded_119 ?_
          refine lv_goto (tgt := 125) hx hb dL_rounded_120 (by decide) ?_
          rw [hQ]
          exact zr_lret (z := dn + 1) (u := ()) hx hb hr hlocks hP hD hS (by first | exact Nat.le_of_ble_eq_true rfl | omega) (by first | exact Nat.le_of_ble_eq_true rfl | omega) dL_rounded_125 (show (dn + 1) = zrx md ov un from by first | (rw [hdn]; exact (zrx_e (by omega)).symm) | (unfold zrx; rw [if_pos ⟨by omega, by rw [← hrs]; exact hr0⟩]) | (unfold zrx; rw [if_neg (by omega)]; unfold zrd; rw [← hrs, ← hdn, if_neg hr0]; first | exact (if_pos (by omega)).symm | exact (if_neg (by omega)).symm))
      by_cases hsw_52_2 : md = 2
      ·
        refine lv_tableIn (tgt := 126) hx hb dL_rounded_52 (by omega) (by omega) (off := 74) (by rw [hsi_52, hsw_52_2]; rfl) (by decide) ?_
        refine lv_lload hx hb dL_rounded_126 (lv_at hl 3 rfl) ?_
        refine lv_lconst (v := lz (1)) hx hb dL_rounded_128 rfl ?_
        refine zr_ladd hx hb dL_rounded_129 ?_
        rw [hQ]
        exact zr_lret (z := dn + 1) (u := ()) hx hb hr hlocks hP hD hS (by first | exact Nat.le_of_ble_eq_true rfl | omega) (by first | exact Nat.le_of_ble_eq_true rfl | omega) dL_rounded_130 (show (dn + 1) = zrx md ov un from by first | (rw [hdn]; exact (zrx_e (by omega)).symm) | (unfold zrx; rw [if_pos ⟨by omega, by rw [← hrs]; exact hr0⟩]) | (unfold zrx; rw [if_neg (by omega)]; unfold zrd; rw [← hrs, ← hdn, if_neg hr0]; first | exact (if_pos (by omega)).symm | exact (if_neg (by omega)).symm))
      by_cases hsw_52_3 : md = 3
      ·
        refine lv_tableIn (tgt := 131) hx hb dL_rounded_52 (by omega) (by omega) (off := 79) (by rw [hsi_52, hsw_52_3]; rfl) (by decide) ?_
        refine lv_lload hx hb dL_rounded_131 (lv_at hl 3 rfl) ?_
        rw [hQ]
        exact zr_lret (z := dn) (u := ()) hx hb hr hlocks hP hD hS (by first | exact Nat.le_of_ble_eq_true rfl | omega) (by first | exact Nat.le_of_ble_eq_true rfl | omega) dL_rounded_133 (show dn = zrx md ov un from by first | (rw [hdn]; exact (zrx_e (by omega)).symm) | (unfold zrx; rw [if_pos ⟨by omega, by rw [← hrs]; exact hr0⟩]) | (unfold zrx; rw [if_neg (by omega)]; unfold zrd; rw [← hrs, ← hdn, if_neg hr0]; first | exact (if_pos (by omega)).symm | exact (if_neg (by omega)).symm))
      by_cases hsw_52_4 : md = 4
      ·
        refine lv_tableIn (tgt := 134) hx hb dL_rounded_52 (by omega) (by omega) (off := 82) (by rw [hsi_52, hsw_52_4]; rfl) (by decide) ?_
        refine lv_lload hx hb dL_rounded_134 (lv_at hl 1 rfl) ?_
        refine lv_lconst (v := lz (0)) hx hb dL_rounded_136 rfl ?_
        refine zr_lcmp_gt (x := hf) (y := 0) (tgt := 153) hx hb (⟨by omega, by omega⟩) (⟨by omega, by omega⟩) dL_rounded_137 dL_rounded_138 (by decide) (fun h_8 => ?_) (fun h_8 => ?_)
        ·
          refine lv_lload hx hb dL_rounded_153 (lv_at hl 3 rfl) ?_
          refine lv_lconst (v := lz (1)) hx hb dL_rounded_155 rfl ?_
          refine zr_ladd hx hb dL_rounded_156 ?_
          refine lv_goto (tgt := 162) hx hb dL_rounded_157 (by decide) ?_
          rw [hQ]
          exact zr_lret (z := dn + 1) (u := ()) hx hb hr hlocks hP hD hS (by first | exact Nat.le_of_ble_eq_true rfl | omega) (by first | exact Nat.le_of_ble_eq_true rfl | omega) dL_rounded_162 (show (dn + 1) = zrx md ov un from by first | (rw [hdn]; exact (zrx_e (by omega)).symm) | (unfold zrx; rw [if_pos ⟨by omega, by rw [← hrs]; exact hr0⟩]) | (unfold zrx; rw [if_neg (by omega)]; unfold zrd; rw [← hrs, ← hdn, if_neg hr0]; first | exact (if_pos (by omega)).symm | exact (if_neg (by omega)).symm))
        ·
          refine lv_lload hx hb dL_rounded_141 (lv_at hl 1 rfl) ?_
          refine lv_lconst (v := lz (0)) hx hb dL_rounded_143 rfl ?_
          refine zr_lcmp_ne (x := hf) (y := 0) (tgt := 160) hx hb (⟨by omega, by omega⟩) (⟨by omega, by omega⟩) dL_rounded_144 dL_rounded_145 (by decide) (fun h_9 => ?_) (fun h_9 => ?_)
          ·
            refine lv_lload hx hb dL_rounded_160 (lv_at hl 3 rfl) ?_
            rw [hQ]
            exact zr_lret (z := dn) (u := ()) hx hb hr hlocks hP hD hS (by first | exact Nat.le_of_ble_eq_true rfl | omega) (by first | exact Nat.le_of_ble_eq_true rfl | omega) dL_rounded_162 (show dn = zrx md ov un from by first | (rw [hdn]; exact (zrx_e (by omega)).symm) | (unfold zrx; rw [if_pos ⟨by omega, by rw [← hrs]; exact hr0⟩]) | (unfold zrx; rw [if_neg (by omega)]; unfold zrd; rw [← hrs, ← hdn, if_neg hr0]; first | exact (if_pos (by omega)).symm | exact (if_neg (by omega)).symm))
          ·
            refine lv_iload hx hb dL_rounded_148 (lv_at hl 0 rfl) ?_
            refine zr_ifz_ne (tgt := 160) hx hb dL_rounded_150 (by decide) (fun h_10 => ?_) (fun h_10 => ?_)
            ·
              have hzbl := of_decide_eq_true (jb.symm.trans h_10)
              refine lv_lload hx hb dL_rounded_160 (lv_at hl 3 rfl) ?_
              rw [hQ]
              exact zr_lret (z := dn) (u := ()) hx hb hr hlocks hP hD hS (by first | exact Nat.le_of_ble_eq_true rfl | omega) (by first | exact Nat.le_of_ble_eq_true rfl | omega) dL_rounded_162 (show dn = zrx md ov un from by first | (rw [hdn]; exact (zrx_e (by omega)).symm) | (unfold zrx; rw [if_pos ⟨by omega, by rw [← hrs]; exact hr0⟩]) | (unfold zrx; rw [if_neg (by omega)]; unfold zrd; rw [← hrs, ← hdn, if_neg hr0]; first | exact (if_pos (by omega)).symm | exact (if_neg (by omega)).symm))
            ·
              have hzbl := of_decide_eq_false (jb.symm.trans h_10)
              refine lv_lload hx hb dL_rounded_153 (lv_at hl 3 rfl) ?_
              refine lv_lconst (v := lz (1)) hx hb dL_rounded_155 rfl ?_
              refine zr_ladd hx hb dL_rounded_156 ?_
              refine lv_goto (tgt := 162) hx hb dL_rounded_157 (by decide) ?_
              rw [hQ]
              exact zr_lret (z := dn + 1) (u := ()) hx hb hr hlocks hP hD hS (by first | exact Nat.le_of_ble_eq_true rfl | omega) (by first | exact Nat.le_of_ble_eq_true rfl | omega) dL_rounded_162 (show (dn + 1) = zrx md ov un from by first | (rw [hdn]; exact (zrx_e (by omega)).symm) | (unfold zrx; rw [if_pos ⟨by omega, by rw [← hrs]; exact hr0⟩]) | (unfold zrx; rw [if_neg (by omega)]; unfold zrd; rw [← hrs, ← hdn, if_neg hr0]; first | exact (if_pos (by omega)).symm | exact (if_neg (by omega)).symm))
      by_cases hsw_52_5 : md = 5
      ·
        refine lv_tableIn (tgt := 163) hx hb dL_rounded_52 (by omega) (by omega) (off := 111) (by rw [hsi_52, hsw_52_5]; rfl) (by decide) ?_
        refine lv_lload hx hb dL_rounded_163 (lv_at hl 1 rfl) ?_
        refine lv_lconst (v := lz (0)) hx hb dL_rounded_165 rfl ?_
        refine zr_lcmp_gt (x := hf) (y := 0) (tgt := 182) hx hb (⟨by omega, by omega⟩) (⟨by omega, by omega⟩) dL_rounded_166 dL_rounded_167 (by decide) (fun h_11 => ?_) (fun h_11 => ?_)
        ·
          refine lv_lload hx hb dL_rounded_182 (lv_at hl 3 rfl) ?_
          refine lv_lconst (v := lz (1)) hx hb dL_rounded_184 rfl ?_
          refine zr_ladd hx hb dL_rounded_185 ?_
          refine lv_goto (tgt := 191) hx hb dL_rounded_186 (by decide) ?_
          rw [hQ]
          exact zr_lret (z := dn + 1) (u := ()) hx hb hr hlocks hP hD hS (by first | exact Nat.le_of_ble_eq_true rfl | omega) (by first | exact Nat.le_of_ble_eq_true rfl | omega) dL_rounded_191 (show (dn + 1) = zrx md ov un from by first | (rw [hdn]; exact (zrx_e (by omega)).symm) | (unfold zrx; rw [if_pos ⟨by omega, by rw [← hrs]; exact hr0⟩]) | (unfold zrx; rw [if_neg (by omega)]; unfold zrd; rw [← hrs, ← hdn, if_neg hr0]; first | exact (if_pos (by omega)).symm | exact (if_neg (by omega)).symm))
        ·
          refine lv_lload hx hb dL_rounded_170 (lv_at hl 1 rfl) ?_
          refine lv_lconst (v := lz (0)) hx hb dL_rounded_172 rfl ?_
          refine zr_lcmp_ne (x := hf) (y := 0) (tgt := 189) hx hb (⟨by omega, by omega⟩) (⟨by omega, by omega⟩) dL_rounded_173 dL_rounded_174 (by decide) (fun h_12 => ?_) (fun h_12 => ?_)
          ·
            refine lv_lload hx hb dL_rounded_189 (lv_at hl 3 rfl) ?_
            rw [hQ]
            exact zr_lret (z := dn) (u := ()) hx hb hr hlocks hP hD hS (by first | exact Nat.le_of_ble_eq_true rfl | omega) (by first | exact Nat.le_of_ble_eq_true rfl | omega) dL_rounded_191 (show dn = zrx md ov un from by first | (rw [hdn]; exact (zrx_e (by omega)).symm) | (unfold zrx; rw [if_pos ⟨by omega, by rw [← hrs]; exact hr0⟩]) | (unfold zrx; rw [if_neg (by omega)]; unfold zrd; rw [← hrs, ← hdn, if_neg hr0]; first | exact (if_pos (by omega)).symm | exact (if_neg (by omega)).symm))
          ·
            refine lv_iload hx hb dL_rounded_177 (lv_at hl 0 rfl) ?_
            refine zr_ifz_eq (tgt := 189) hx hb dL_rounded_179 (by decide) (fun h_13 => ?_) (fun h_13 => ?_)
            ·
              have hzbl := of_decide_eq_false (jb.symm.trans h_13)
              refine lv_lload hx hb dL_rounded_189 (lv_at hl 3 rfl) ?_
              rw [hQ]
              exact zr_lret (z := dn) (u := ()) hx hb hr hlocks hP hD hS (by first | exact Nat.le_of_ble_eq_true rfl | omega) (by first | exact Nat.le_of_ble_eq_true rfl | omega) dL_rounded_191 (show dn = zrx md ov un from by first | (rw [hdn]; exact (zrx_e (by omega)).symm) | (unfold zrx; rw [if_pos ⟨by omega, by rw [← hrs]; exact hr0⟩]) | (unfold zrx; rw [if_neg (by omega)]; unfold zrd; rw [← hrs, ← hdn, if_neg hr0]; first | exact (if_pos (by omega)).symm | exact (if_neg (by omega)).symm))
            ·
              have hzbl := of_decide_eq_true (jb.symm.trans h_13)
              refine lv_lload hx hb dL_rounded_182 (lv_at hl 3 rfl) ?_
              refine lv_lconst (v := lz (1)) hx hb dL_rounded_184 rfl ?_
              refine zr_ladd hx hb dL_rounded_185 ?_
              refine lv_goto (tgt := 191) hx hb dL_rounded_186 (by decide) ?_
              rw [hQ]
              exact zr_lret (z := dn + 1) (u := ()) hx hb hr hlocks hP hD hS (by first | exact Nat.le_of_ble_eq_true rfl | omega) (by first | exact Nat.le_of_ble_eq_true rfl | omega) dL_rounded_191 (show (dn + 1) = zrx md ov un from by first | (rw [hdn]; exact (zrx_e (by omega)).symm) | (unfold zrx; rw [if_pos ⟨by omega, by rw [← hrs]; exact hr0⟩]) | (unfold zrx; rw [if_neg (by omega)]; unfold zrd; rw [← hrs, ← hdn, if_neg hr0]; first | exact (if_pos (by omega)).symm | exact (if_neg (by omega)).symm))
      by_cases hsw_52_6 : md = 6
      ·
        refine lv_tableIn (tgt := 192) hx hb dL_rounded_52 (by omega) (by omega) (off := 140) (by rw [hsi_52, hsw_52_6]; rfl) (by decide) ?_
        refine lv_lload hx hb dL_rounded_192 (lv_at hl 1 rfl) ?_
        refine lv_lconst (v := lz (0)) hx hb dL_rounded_194 rfl ?_
        refine zr_lcmp_gt (x := hf) (y := 0) (tgt := 217) hx hb (⟨by omega, by omega⟩) (⟨by omega, by omega⟩) dL_rounded_195 dL_rounded_196 (by decide) (fun h_14 => ?_) (fun h_14 => ?_)
        ·
          refine lv_lload hx hb dL_rounded_217 (lv_at hl 3 rfl) ?_
          refine lv_lconst (v := lz (1)) hx hb dL_rounded_219 rfl ?_
          refine zr_ladd hx hb dL_rounded_220 ?_
          refine lv_goto (tgt := 226) hx hb dL_rounded_221 (by decide) ?_
          rw [hQ]
          exact zr_lret (z := dn + 1) (u := ()) hx hb hr hlocks hP hD hS (by first | exact Nat.le_of_ble_eq_true rfl | omega) (by first | exact Nat.le_of_ble_eq_true rfl | omega) dL_rounded_226 (show (dn + 1) = zrx md ov un from by first | (rw [hdn]; exact (zrx_e (by omega)).symm) | (unfold zrx; rw [if_pos ⟨by omega, by rw [← hrs]; exact hr0⟩]) | (unfold zrx; rw [if_neg (by omega)]; unfold zrd; rw [← hrs, ← hdn, if_neg hr0]; first | exact (if_pos (by omega)).symm | exact (if_neg (by omega)).symm))
        ·
          refine lv_lload hx hb dL_rounded_199 (lv_at hl 1 rfl) ?_
          refine lv_lconst (v := lz (0)) hx hb dL_rounded_201 rfl ?_
          refine zr_lcmp_ne (x := hf) (y := 0) (tgt := 224) hx hb (⟨by omega, by omega⟩) (⟨by omega, by omega⟩) dL_rounded_202 dL_rounded_203 (by decide) (fun h_15 => ?_) (fun h_15 => ?_)
          ·
            refine lv_lload hx hb dL_rounded_224 (lv_at hl 3 rfl) ?_
            rw [hQ]
            exact zr_lret (z := dn) (u := ()) hx hb hr hlocks hP hD hS (by first | exact Nat.le_of_ble_eq_true rfl | omega) (by first | exact Nat.le_of_ble_eq_true rfl | omega) dL_rounded_226 (show dn = zrx md ov un from by first | (rw [hdn]; exact (zrx_e (by omega)).symm) | (unfold zrx; rw [if_pos ⟨by omega, by rw [← hrs]; exact hr0⟩]) | (unfold zrx; rw [if_neg (by omega)]; unfold zrd; rw [← hrs, ← hdn, if_neg hr0]; first | exact (if_pos (by omega)).symm | exact (if_neg (by omega)).symm))
          ·
            refine lv_lload hx hb dL_rounded_206 (lv_at hl 3 rfl) ?_
            refine zr_ldc2 (z := 2) hx hb hown (hts (.constantLong RL 145 (2)) (by decide +kernel)) rfl dL_rounded_208 ?_
            refine zr_lremT hx hb (x := dn) (y := 2) ⟨by omega, by omega⟩ ⟨by omega, by omega⟩ (by omega) dL_rounded_211 ?_
            refine zr_namel (fun tm etm => ?_)
            have htm := ztm2 dn
            rw [← etm] at htm
            refine lv_lconst (v := lz (0)) hx hb dL_rounded_212 rfl ?_
            refine zr_lcmp_eq (x := tm) (y := 0) (tgt := 224) hx hb (⟨by omega, by omega⟩) (⟨by omega, by omega⟩) dL_rounded_213 dL_rounded_214 (by decide) (fun h_16 => ?_) (fun h_16 => ?_)
            ·
              refine lv_lload hx hb dL_rounded_224 (lv_at hl 3 rfl) ?_
              rw [hQ]
              exact zr_lret (z := dn) (u := ()) hx hb hr hlocks hP hD hS (by first | exact Nat.le_of_ble_eq_true rfl | omega) (by first | exact Nat.le_of_ble_eq_true rfl | omega) dL_rounded_226 (show dn = zrx md ov un from by first | (rw [hdn]; exact (zrx_e (by omega)).symm) | (unfold zrx; rw [if_pos ⟨by omega, by rw [← hrs]; exact hr0⟩]) | (unfold zrx; rw [if_neg (by omega)]; unfold zrd; rw [← hrs, ← hdn, if_neg hr0]; first | exact (if_pos (by omega)).symm | exact (if_neg (by omega)).symm))
            ·
              refine lv_lload hx hb dL_rounded_217 (lv_at hl 3 rfl) ?_
              refine lv_lconst (v := lz (1)) hx hb dL_rounded_219 rfl ?_
              refine zr_ladd hx hb dL_rounded_220 ?_
              refine lv_goto (tgt := 226) hx hb dL_rounded_221 (by decide) ?_
              rw [hQ]
              exact zr_lret (z := dn + 1) (u := ()) hx hb hr hlocks hP hD hS (by first | exact Nat.le_of_ble_eq_true rfl | omega) (by first | exact Nat.le_of_ble_eq_true rfl | omega) dL_rounded_226 (show (dn + 1) = zrx md ov un from by first | (rw [hdn]; exact (zrx_e (by omega)).symm) | (unfold zrx; rw [if_pos ⟨by omega, by rw [← hrs]; exact hr0⟩]) | (unfold zrx; rw [if_neg (by omega)]; unfold zrd; rw [← hrs, ← hdn, if_neg hr0]; first | exact (if_pos (by omega)).symm | exact (if_neg (by omega)).symm))
      refine lv_tableOut (tgt := 227) hx hb dL_rounded_52 (by omega) (by decide) ?_
      refine zr_ldc2 (z := -4000000000000000004) hx hb hown (hts (.constantLong RL 131 (-4000000000000000004)) (by decide +kernel)) rfl dL_rounded_227 ?_
      rw [hQ]
      exact zr_lret (z := -4000000000000000004) (u := ()) hx hb hr hlocks hP hD hS (by first | exact Nat.le_of_ble_eq_true rfl | omega) (by first | exact Nat.le_of_ble_eq_true rfl | omega) dL_rounded_230 (show (-4000000000000000004) = zrx md ov un from by first | (rw [hdn]; exact (zrx_e (by omega)).symm) | (unfold zrx; rw [if_pos ⟨by omega, by rw [← hrs]; exact hr0⟩]) | (unfold zrx; rw [if_neg (by omega)]; unfold zrd; rw [← hrs, ← hdn, if_neg hr0]; first | exact (if_pos (by omega)).symm | exact (if_neg (by omega)).symm))
    refine lv_lload_n hx hb dL_rounded_37 rfl (lv_at hl 3 rfl) ?_
    refine lv_lconst (v := lz (0)) hx hb dL_rounded_38 rfl ?_
    refine zr_lcmp_ge (x := ov) (y := 0) (tgt := 47) hx hb (⟨by omega, by omega⟩) (⟨by omega, by omega⟩) dL_rounded_39 dL_rounded_40 (by decide) (fun h_17 => ?_) (fun h_17 => ?_)
    ·
      refine lv_iconst (v := iz (0)) hx hb dL_rounded_47 rfl ?_
      exact hl_48 false _ _ _ (by first | exact (decide_eq_true (by omega)).symm | exact (decide_eq_false (by omega)).symm) (hP) (hD) hS (hl)
    ·
      refine lv_iconst (v := iz (1)) hx hb dL_rounded_43 rfl ?_
      refine lv_goto (tgt := 48) hx hb dL_rounded_44 (by decide) ?_
      exact hl_48 true _ _ _ (by first | exact (decide_eq_true (by omega)).symm | exact (decide_eq_false (by omega)).symm) (hP) (hD) hS (hl)
  ·
    have hr00 : rs = 0 := by omega
    refine lv_lload hx hb dL_rounded_22 (lv_at hl 1 rfl) ?_
    rw [hQ]
    exact zr_lret (z := dn) (u := ()) hx hb hr hlocks hP hD hS (by first | exact Nat.le_of_ble_eq_true rfl | omega) (by first | exact Nat.le_of_ble_eq_true rfl | omega) dL_rounded_24 (show dn = zrx md ov un from by first | (rw [hdn]; exact (zrx_e (by omega)).symm) | (unfold zrx; rw [if_pos ⟨by omega, by rw [← hrs]; exact hr0⟩]) | (unfold zrx; rw [if_neg (by omega)]; unfold zrd; rw [← hrs, ← hdn, if_neg hr0]; first | exact (if_pos (by omega)).symm | exact (if_neg (by omega)).symm))
