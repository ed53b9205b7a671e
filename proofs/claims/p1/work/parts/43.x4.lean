-- THE CLASS: Rounder, demands that hold (laid by wip/walk/x4.py)
theorem zkd_0 {r u : Int} (h0 : 0 ≤ r) (h : r ≤ 0) : r = 0 := by omega
/-- what a rounded fraction comes to, by half even, its size in parts -/
def zha (w k : Int) : Int := if 2 < k ∨ (k = 2 ∧ w % 2 = 1) then 1 else 0
theorem zha_0 (w : Int) : zha w 0 = 0 := if_neg (by omega)
theorem zha_t {z : Bool} {w k : Int} (h : z = decide (2 < k ∨ (k = 2 ∧ w % 2 = 1))) (hz : z = true) : zha w k = 1 := if_pos (of_decide_eq_true (h.symm.trans hz))
theorem zha_f {z : Bool} {w k : Int} (h : z = decide (2 < k ∨ (k = 2 ∧ w % 2 = 1))) (hz : z = false) : zha w k = 0 := if_neg (of_decide_eq_false (h.symm.trans hz))
/-- the kind of a rest: none, less than half, half, more -/
theorem zr6_k {t u k : Int} (hu : 0 < u) (hk : (k = 0 ∧ (t.natAbs : Int) % u = 0) ∨ (k = 1 ∧ 2 * ((t.natAbs : Int) % u) < u) ∨ (k = 2 ∧ 2 * ((t.natAbs : Int) % u) = u) ∨ (k = 3 ∧ u < 2 * ((t.natAbs : Int) % u))) : zr6 t u = if t < 0 then -((t.natAbs : Int) / u + zha ((t.natAbs : Int) / u) k) else (t.natAbs : Int) / u + zha ((t.natAbs : Int) / u) k := by
  have e : zhe t u = (t.natAbs : Int) / u + zha ((t.natAbs : Int) / u) k := by
    unfold zhe zha
    generalize (t.natAbs : Int) / u = w
    generalize (t.natAbs : Int) % u = r at hk
    congr 1
    by_cases c : u < 2 * r ∨ (2 * r = u ∧ w % 2 = 1)
    · rw [if_pos c, if_pos (by omega)]
    · rw [if_neg c, if_neg (by omega)]
  unfold zr6
  rw [e]
/-- the kind, out of the two comparisons -/
theorem zkind {k r u : Int} {b1 b2 : Bool} (h1 : b1 = decide (u - r ≤ r)) (h2 : b2 = decide (r ≤ u - r)) (hk : k = if b1 then if b2 then 2 else 3 else 1) : (k = 1 ∧ 2 * r < u) ∨ (k = 2 ∧ 2 * r = u) ∨ (k = 3 ∧ u < 2 * r) := by
  cases b1 <;> cases b2 <;> simp at h1 h2 hk <;> omega
theorem zsg0 {v : Int} (h : 0 ≤ v) : 0 ≤ v.sign := by
  rcases Int.lt_or_eq_of_le h with c | c
  · rw [Int.sign_eq_one_of_pos c]; decide
  · rw [← c]; decide
theorem zsgr (v : Int) : -1 ≤ v.sign ∧ v.sign ≤ 1 := by
  rcases Int.lt_trichotomy v 0 with c | c | c
  · rw [Int.sign_eq_neg_one_of_neg c]; decide
  · rw [c]; decide
  · rw [Int.sign_eq_one_of_pos c]; decide
theorem zsg_pos {v s : Int} (h : s = v.sign) (hp : 0 < s) : 0 < v := Int.sign_pos_iff.mp (h ▸ hp)
theorem zsg_le {v s : Int} (h : s = v.sign) (hp : s ≤ 0) : v ≤ 0 := by
  rcases Int.lt_or_le 0 v with c | c
  · have := Int.sign_eq_one_of_pos c; omega
  · exact c
theorem zr6_kp {t u k : Int} (ht : 0 ≤ t) (hu : 0 < u) (hk : (k = 0 ∧ t % u = 0) ∨ (k = 1 ∧ 2 * (t % u) < u) ∨ (k = 2 ∧ 2 * (t % u) = u) ∨ (k = 3 ∧ u < 2 * (t % u))) : zr6 t u = t / u + zha (t / u) k := by
  have e : (t.natAbs : Int) = t := by omega
  have h := zr6_k (t := t) hu (k := k) (by rw [e]; exact hk)
  rw [if_neg (by omega), e] at h
  exact h
theorem zkind_w {r u sc k : Int} {b1 b2 : Bool} (hs : 1 ≤ sc) (h1 : b1 = decide (u * sc * 1073741824 ^ (0 : Int).toNat ≤ r * sc * 2)) (h2 : b2 = decide (r * sc * 2 * 1073741824 ^ (0 : Int).toNat ≤ u * sc)) (hk : k = if b1 then if b2 then 2 else 3 else 1) : (k = 1 ∧ 2 * r < u) ∨ (k = 2 ∧ 2 * r = u) ∨ (k = 3 ∧ u < 2 * r) := by
  have e0 : (1073741824 : Int) ^ (0 : Int).toNat = 1 := rfl
  rw [e0, Int.mul_one] at h1 h2
  have e1 : r * sc * 2 = 2 * r * sc := by rw [Int.mul_comm (r * sc) 2, Int.mul_assoc]
  rw [e1] at h1 h2
  have i1 : u * sc ≤ 2 * r * sc ↔ u ≤ 2 * r := ⟨fun h => Int.le_of_mul_le_mul_right h (by omega), fun h => Int.mul_le_mul_of_nonneg_right h (by omega)⟩
  have i2 : 2 * r * sc ≤ u * sc ↔ 2 * r ≤ u := ⟨fun h => Int.le_of_mul_le_mul_right h (by omega), fun h => Int.mul_le_mul_of_nonneg_right h (by omega)⟩
  have a1 : b1 = decide (u ≤ 2 * r) := h1.trans (decide_eq_decide.mpr i1)
  have a2 : b2 = decide (2 * r ≤ u) := h2.trans (decide_eq_decide.mpr i2)
  cases b1 <;> cases b2 <;> simp at a1 a2 hk <;> omega
theorem zrest0 {r sc : Int} (hs : 1 ≤ sc) (h0 : 0 ≤ r) (h : r * sc ≤ 0) : r = 0 := by
  rcases Int.lt_or_eq_of_le h0 with c | c
  · have := Int.mul_pos c (show 0 < sc by omega); omega
  · exact c.symm
theorem zB2 {v v2 : Int} (h0 : 0 ≤ v) (h2 : 0 < v2) (h : v < v2 * 1073741824 ^ 2) : 0 ≤ v / v2 ∧ v / v2 < 1152921504606846976 := by
  have e : (1073741824 : Int) ^ 2 = 1152921504606846976 := by decide +kernel
  rw [e, Int.mul_comm] at h
  exact ⟨Int.ediv_nonneg h0 (by omega), Int.ediv_lt_of_lt_mul h2 h⟩
def rm_c_X9_demand_o : Room := { frames := 0, cells := 0, slots := 0, locals := 0 }
set_option maxHeartbeats 1000000 in
set_option maxRecDepth 100000 in
theorem c_X9_demand_o (l : Launch) (G : zG)   : zM l G yX9_demand wsX9_demand rm_c_X9_demand_o [.int (iz (zbb true))] [] (fun A => zQv G (fun (_ : Unit) => True) (fun (_ : Unit) => []) A) 0 0 := by
  refine zM_of (cc := cX9_demand) (maxL := 1) (ret := none) (by decide) rfl (Nat.le_of_ble_eq_true rfl) ?_
  intro p e s m below meth c ls A Q hQ hx hb hr hts hown hlocks hml hnm hKX hP hD hA hS hl
  have hK := hKX.1
  obtain ⟨H, hH⟩ : ∃ h, h = s.heap := ⟨_, rfl⟩
  obtain ⟨locs, hlo⟩ : ∃ h : List Loc, h = [] := ⟨_, rfl⟩
  have hS : va_S A s.heap H locs := by rw [hH, hlo]; exact hS
  have hP : va_P G.1 vwCl [] H := by rw [hH]; exact hP
  have hD : va_D A [] := hD
  have hl : lv_has ls 1 [(0, .int (iz (zbb true)))] := hl
  rw [← hH, ← hlo]
  refine lv_iload_n hx hb dX9_demand_0 rfl (lv_at hl 0 rfl) ?_
  refine zr_ifz_ne (tgt := 15) hx hb dX9_demand_1 (by decide) (fun h_1 => ?_) (fun h_1 => ?_)
  ·
    rw [hQ]
    exact zr_vret (u := ()) hx hb hr hlocks hP hD hS (by first | exact Nat.le_of_ble_eq_true rfl | omega) (by first | exact Nat.le_of_ble_eq_true rfl | omega) dX9_demand_15 (show True from trivial)
  · exact absurd h_1 (by decide)

def rm_c_X9_demandState_o : Room := { frames := 0, cells := 0, slots := 0, locals := 0 }
set_option maxHeartbeats 1000000 in
set_option maxRecDepth 100000 in
theorem c_X9_demandState_o (l : Launch) (G : zG)   : zM l G yX9_demandState wsX9_demandState rm_c_X9_demandState_o [.int (iz (zbb true))] [] (fun A => zQv G (fun (_ : Unit) => True) (fun (_ : Unit) => []) A) 0 0 := by
  refine zM_of (cc := cX9_demandState) (maxL := 1) (ret := none) (by decide) rfl (Nat.le_of_ble_eq_true rfl) ?_
  intro p e s m below meth c ls A Q hQ hx hb hr hts hown hlocks hml hnm hKX hP hD hA hS hl
  have hK := hKX.1
  obtain ⟨H, hH⟩ : ∃ h, h = s.heap := ⟨_, rfl⟩
  obtain ⟨locs, hlo⟩ : ∃ h : List Loc, h = [] := ⟨_, rfl⟩
  have hS : va_S A s.heap H locs := by rw [hH, hlo]; exact hS
  have hP : va_P G.1 vwCl [] H := by rw [hH]; exact hP
  have hD : va_D A [] := hD
  have hl : lv_has ls 1 [(0, .int (iz (zbb true)))] := hl
  rw [← hH, ← hlo]
  refine lv_iload_n hx hb dX9_demandState_0 rfl (lv_at hl 0 rfl) ?_
  refine zr_ifz_ne (tgt := 15) hx hb dX9_demandState_1 (by decide) (fun h_1 => ?_) (fun h_1 => ?_)
  ·
    rw [hQ]
    exact zr_vret (u := ()) hx hb hr hlocks hP hD hS (by first | exact Nat.le_of_ble_eq_true rfl | omega) (by first | exact Nat.le_of_ble_eq_true rfl | omega) dX9_demandState_15 (show True from trivial)
  · exact absurd h_1 (by decide)

def rm_c_X9_demandElement_o : Room := { frames := 0, cells := 0, slots := 0, locals := 0 }
set_option maxHeartbeats 1000000 in
set_option maxRecDepth 100000 in
theorem c_X9_demandElement_o (l : Launch) (G : zG)   : zM l G yX9_demandElement wsX9_demandElement rm_c_X9_demandElement_o [.int (iz (zbb true))] [] (fun A => zQv G (fun (_ : Unit) => True) (fun (_ : Unit) => []) A) 0 0 := by
  refine zM_of (cc := cX9_demandElement) (maxL := 1) (ret := none) (by decide) rfl (Nat.le_of_ble_eq_true rfl) ?_
  intro p e s m below meth c ls A Q hQ hx hb hr hts hown hlocks hml hnm hKX hP hD hA hS hl
  have hK := hKX.1
  obtain ⟨H, hH⟩ : ∃ h, h = s.heap := ⟨_, rfl⟩
  obtain ⟨locs, hlo⟩ : ∃ h : List Loc, h = [] := ⟨_, rfl⟩
  have hS : va_S A s.heap H locs := by rw [hH, hlo]; exact hS
  have hP : va_P G.1 vwCl [] H := by rw [hH]; exact hP
  have hD : va_D A [] := hD
  have hl : lv_has ls 1 [(0, .int (iz (zbb true)))] := hl
  rw [← hH, ← hlo]
  refine lv_iload_n hx hb dX9_demandElement_0 rfl (lv_at hl 0 rfl) ?_
  refine zr_ifz_ne (tgt := 15) hx hb dX9_demandElement_1 (by decide) (fun h_1 => ?_) (fun h_1 => ?_)
  ·
    rw [hQ]
    exact zr_vret (u := ()) hx hb hr hlocks hP hD hS (by first | exact Nat.le_of_ble_eq_true rfl | omega) (by first | exact Nat.le_of_ble_eq_true rfl | omega) dX9_demandElement_15 (show True from trivial)
  · exact absurd h_1 (by decide)

def rm_c_X9_isWithin : Room := { frames := 0, cells := 0, slots := 0, locals := 0 }
set_option maxHeartbeats 1000000 in
set_option maxRecDepth 100000 in
theorem c_X9_isWithin (l : Launch) (G : zG) (y : Int) (lo : Int) (hi : Int) (h1 : -9223372036854775808 ≤ y ∧ y < 9223372036854775808) (h2 : -9223372036854775808 ≤ lo ∧ lo < 9223372036854775808) (h3 : -9223372036854775808 ≤ hi ∧ hi < 9223372036854775808) : zM l G yX9_isWithin wsX9_isWithin rm_c_X9_isWithin [.long (lz (y)), .long (lz (lo)), .long (lz (hi))] [] (fun A => zQz G (fun (z : Bool) (_ : Unit) => z = decide (lo ≤ y ∧ y ≤ hi)) (fun (_ : Unit) => []) A) 0 0 := by
  refine zM_of (cc := cX9_isWithin) (maxL := 6) (ret := (some .boolean)) (by decide) rfl (Nat.le_of_ble_eq_true rfl) ?_
  intro p e s m below meth c ls A Q hQ hx hb hr hts hown hlocks hml hnm hKX hP hD hA hS hl
  have hK := hKX.1
  obtain ⟨H, hH⟩ : ∃ h, h = s.heap := ⟨_, rfl⟩
  obtain ⟨locs, hlo⟩ : ∃ h : List Loc, h = [] := ⟨_, rfl⟩
  have hS : va_S A s.heap H locs := by rw [hH, hlo]; exact hS
  have hP : va_P G.1 vwCl [] H := by rw [hH]; exact hP
  have hD : va_D A [] := hD
  have hl : lv_has ls 6 [(0, .long (lz (y))), (2, .long (lz (lo))), (4, .long (lz (hi)))] := hl
  rw [← hH, ← hlo]
  refine lv_lload_n hx hb dX9_isWithin_0 rfl (lv_at hl 1 rfl) ?_
  refine lv_lload_n hx hb dX9_isWithin_1 rfl (lv_at hl 0 rfl) ?_
  refine zr_lcmp_gt (x := lo) (y := y) (tgt := 17) hx hb (h2) (h1) dX9_isWithin_2 dX9_isWithin_3 (by decide) (fun h_1 => ?_) (fun h_1 => ?_)
  ·
    refine lv_iconst (v := iz (0)) hx hb dX9_isWithin_17 rfl ?_
    rw [hQ]
    exact zr_zret (z := false) (rfl) (u := ()) hx hb hr hlocks hP hD hS (by first | exact Nat.le_of_ble_eq_true rfl | omega) (by first | exact Nat.le_of_ble_eq_true rfl | omega) dX9_isWithin_18 (show false = decide (lo ≤ y ∧ y ≤ hi) from by first | exact (decide_eq_true (by omega)).symm | exact (decide_eq_false (by omega)).symm)
  ·
    refine lv_lload_n hx hb dX9_isWithin_6 rfl (lv_at hl 0 rfl) ?_
    refine lv_lload hx hb dX9_isWithin_7 (lv_at hl 2 rfl) ?_
    refine zr_lcmp_gt (x := y) (y := hi) (tgt := 17) hx hb (h1) (h3) dX9_isWithin_9 dX9_isWithin_10 (by decide) (fun h_2 => ?_) (fun h_2 => ?_)
    ·
      refine lv_iconst (v := iz (0)) hx hb dX9_isWithin_17 rfl ?_
      rw [hQ]
      exact zr_zret (z := false) (rfl) (u := ()) hx hb hr hlocks hP hD hS (by first | exact Nat.le_of_ble_eq_true rfl | omega) (by first | exact Nat.le_of_ble_eq_true rfl | omega) dX9_isWithin_18 (show false = decide (lo ≤ y ∧ y ≤ hi) from by first | exact (decide_eq_true (by omega)).symm | exact (decide_eq_false (by omega)).symm)
    ·
      refine lv_iconst (v := iz (1)) hx hb dX9_isWithin_13 rfl ?_
      refine lv_goto (tgt := 18) hx hb dX9_isWithin_14 (by decide) ?_
      rw [hQ]
      exact zr_zret (z := true) (rfl) (u := ()) hx hb hr hlocks hP hD hS (by first | exact Nat.le_of_ble_eq_true rfl | omega) (by first | exact Nat.le_of_ble_eq_true rfl | omega) dX9_isWithin_18 (show true = decide (lo ≤ y ∧ y ≤ hi) from by first | exact (decide_eq_true (by omega)).symm | exact (decide_eq_false (by omega)).symm)

def rm_c_X4_init : Room := { frames := 1, cells := 0, slots := 0, locals := 12 }
theorem iw_X4_init_X4 : ∀ w ∈ wsX40, w ∈ wsX4_init := by decide +kernel
set_option maxHeartbeats 1000000 in
set_option maxRecDepth 100000 in
theorem c_X4_init (l : Launch) (G : zG) (r : Nat)  : zM l G yX4_init wsX4_init rm_c_X4_init [.ref r] [(r, .inr (5, [.int (iz (0))]))] (fun A => zQv G (fun (_ : Unit) => True) (fun (_ : Unit) => [(r, .inr (5, [.int (iz (6))]))]) A) 0 0 := by
  refine zM_of (cc := cX4_init) (maxL := 1) (ret := none) (by decide) rfl (Nat.le_of_ble_eq_true rfl) ?_
  intro p e s m below meth c ls A Q hQ hx hb hr hts hown hlocks hml hnm hKX hP hD hA hS hl
  have hK := hKX.1
  have iwX4 := iw_X4_init_X4
  obtain ⟨H, hH⟩ : ∃ h, h = s.heap := ⟨_, rfl⟩
  obtain ⟨locs, hlo⟩ : ∃ h : List Loc, h = [] := ⟨_, rfl⟩
  have hS : va_S A s.heap H locs := by rw [hH, hlo]; exact hS
  have hP : va_P G.1 vwCl [(r, .inr (5, [.int (iz (0))]))] H := by rw [hH]; exact hP
  have hD : va_D A [(r, .inr (5, [.int (iz (0))]))] := hD
  have hl : lv_has ls 1 [(0, .ref r)] := hl
  rw [← hH, ← hlo]
  refine lv_aload_n hx hb dX4_init_0 rfl (lv_at hl 0 rfl) ?_
  refine W.objInit hx hb hown (hts (.methodLink RX4 3 objectInit) (by decide +kernel)) (hts (.instanceMethod objectInit) (by decide +kernel)) (hts (.code objectInit ⟨#[0xb1]⟩ 1 none) (by decide +kernel)) rfl (by rw [hml]; exact hl.1) rfl dX4_init_1 (Nat.le_of_ble_eq_true rfl) (Nat.le_of_ble_eq_true rfl) ?_
  refine lv_aload_n hx hb dX4_init_4 rfl (lv_at hl 0 rfl) ?_
  refine lv_bipush (v := iz (6)) hx hb dX4_init_5 rfl ?_
  refine va_put (D := G.1) (ci := 5) (v := .int (iz (6))) (ty := .int) (C := RX4) (T := TX4) (N := 1) hx hb hts iwX4 tyX4 tyX4_ok nmX4 hown hK hP hD hS 0 rfl rfl 0 (by decide) (hts (.fieldLink RX4 9 "AnnuityHouse$Rounder" "mode" "I") (by decide +kernel)) (fun _ h9 => h9) rfl (by decide +kernel) rfl rfl (Nat.le_of_ble_eq_true rfl) dX4_init_7 (fun H locs hP hD hS => ?_)
  have hP : va_P G.1 vwCl [(r, .inr (5, [.int (iz (6))]))] H := hP
  have hD : va_D A [(r, .inr (5, [.int (iz (6))]))] := hD
  rw [hQ]
  exact zr_vret (u := ()) hx hb hr hlocks hP hD hS (by first | exact Nat.le_of_ble_eq_true rfl | omega) (by first | exact Nat.le_of_ble_eq_true rfl | omega) dX4_init_10 (show True from trivial)

def rm_c_X4_kindOf : Room := { frames := 0, cells := 0, slots := 0, locals := 0 }
set_option maxHeartbeats 1000000 in
set_option maxRecDepth 100000 in
theorem c_X4_kindOf (l : Launch) (G : zG) (b1 : Bool) (b2 : Bool)  : zM l G yX4_kindOf wsX4_kindOf rm_c_X4_kindOf [.int (iz (zbb b1)), .int (iz (zbb b2))] [] (fun A => zQi G (fun (z : Int) (_ : Unit) => z = if b1 then if b2 then 2 else 3 else 1) (fun (_ : Unit) => []) A) 0 0 := by
  refine zM_of (cc := cX4_kindOf) (maxL := 2) (ret := (some .int)) (by decide) rfl (Nat.le_of_ble_eq_true rfl) ?_
  intro p e s m below meth c ls A Q hQ hx hb hr hts hown hlocks hml hnm hKX hP hD hA hS hl
  have hK := hKX.1
  obtain ⟨H, hH⟩ : ∃ h, h = s.heap := ⟨_, rfl⟩
  obtain ⟨locs, hlo⟩ : ∃ h : List Loc, h = [] := ⟨_, rfl⟩
  have hS : va_S A s.heap H locs := by rw [hH, hlo]; exact hS
  have hP : va_P G.1 vwCl [] H := by rw [hH]; exact hP
  have hD : va_D A [] := hD
  have hl : lv_has ls 2 [(0, .int (iz (zbb b1))), (1, .int (iz (zbb b2)))] := hl
  rw [← hH, ← hlo]
  refine lv_iload_n hx hb dX4_kindOf_0 rfl (lv_at hl 0 rfl) ?_
  refine zr_ifz_ne (tgt := 6) hx hb dX4_kindOf_1 (by decide) (fun h_1 => ?_) (fun h_1 => ?_)
  ·
    refine lv_iload_n hx hb dX4_kindOf_6 rfl (lv_at hl 1 rfl) ?_
    refine zr_ifz_eq (tgt := 14) hx hb dX4_kindOf_7 (by decide) (fun h_2 => ?_) (fun h_2 => ?_)
    ·
      refine lv_iconst (v := iz (3)) hx hb dX4_kindOf_14 rfl ?_
      rw [hQ]
      exact zr_iret (z := 3) (u := ()) hx hb hr hlocks hP hD hS (by first | exact Nat.le_of_ble_eq_true rfl | omega) (by first | exact Nat.le_of_ble_eq_true rfl | omega) dX4_kindOf_15 (show 3 = if b1 then if b2 then 2 else 3 else 1 from by subst_vars; rfl)
    ·
      refine lv_iconst (v := iz (2)) hx hb dX4_kindOf_10 rfl ?_
      refine lv_goto (tgt := 15) hx hb dX4_kindOf_11 (by decide) ?_
      rw [hQ]
      exact zr_iret (z := 2) (u := ()) hx hb hr hlocks hP hD hS (by first | exact Nat.le_of_ble_eq_true rfl | omega) (by first | exact Nat.le_of_ble_eq_true rfl | omega) dX4_kindOf_15 (show 2 = if b1 then if b2 then 2 else 3 else 1 from by subst_vars; rfl)
  ·
    refine lv_iconst (v := iz (1)) hx hb dX4_kindOf_4 rfl ?_
    rw [hQ]
    exact zr_iret (z := 1) (u := ()) hx hb hr hlocks hP hD hS (by first | exact Nat.le_of_ble_eq_true rfl | omega) (by first | exact Nat.le_of_ble_eq_true rfl | omega) dX4_kindOf_5 (show 1 = if b1 then if b2 then 2 else 3 else 1 from by subst_vars; rfl)

def rm_c_X4_isAway : Room := { frames := 0, cells := 0, slots := 0, locals := 0 }
theorem iw_X4_isAway_X4 : ∀ w ∈ wsX40, w ∈ wsX4_isAway := by decide +kernel
set_option maxHeartbeats 1000000 in
set_option maxRecDepth 100000 in
theorem c_X4_isAway (l : Launch) (G : zG) (r : Nat) (b : Bool) (w : Int) (k : Int) (h1 : 0 ≤ w ∧ w < 4611686018427387904) (h2 : 0 ≤ k ∧ k ≤ 3) : zM l G yX4_isAway wsX4_isAway rm_c_X4_isAway [.ref r, .int (iz (zbb b)), .long (lz (w)), .int (iz (k))] [(r, .inr (5, [.int (iz (6))]))] (fun A => zQz G (fun (z : Bool) (_ : Unit) => z = decide (2 < k ∨ (k = 2 ∧ w % 2 = 1))) (fun (_ : Unit) => [(r, .inr (5, [.int (iz (6))]))]) A) 0 0 := by
  refine zM_of (cc := cX4_isAway) (maxL := 5) (ret := (some .boolean)) (by decide) rfl (Nat.le_of_ble_eq_true rfl) ?_
  intro p e s m below meth c ls A Q hQ hx hb hr hts hown hlocks hml hnm hKX hP hD hA hS hl
  have hK := hKX.1
  have iwX4 := iw_X4_isAway_X4
  obtain ⟨H, hH⟩ : ∃ h, h = s.heap := ⟨_, rfl⟩
  obtain ⟨locs, hlo⟩ : ∃ h : List Loc, h = [] := ⟨_, rfl⟩
  have hS : va_S A s.heap H locs := by rw [hH, hlo]; exact hS
  have hP : va_P G.1 vwCl [(r, .inr (5, [.int (iz (6))]))] H := by rw [hH]; exact hP
  have hD : va_D A [(r, .inr (5, [.int (iz (6))]))] := hD
  have hl : lv_has ls 5 [(0, .ref r), (1, .int (iz (zbb b))), (2, .long (lz (w))), (4, .int (iz (k)))] := hl
  rw [← hH, ← hlo]
  refine lv_aload_n hx hb dX4_isAway_0 rfl (lv_at hl 0 rfl) ?_
  refine va_get (D := G.1) (ci := 5) (v := .int (iz (6))) (C := RX4) (T := TX4) (N := 1) hx hb hts iwX4 hown hK hP 0 rfl rfl 0 (by decide) (hts (.fieldLink RX4 9 "AnnuityHouse$Rounder" "mode" "I") (by decide +kernel)) (fun _ h9 => h9) rfl dX4_isAway_1 ?_
  refine lv_tableOut (tgt := 84) hx hb dX4_isAway_4 (by decide +kernel) (by decide) ?_
  refine lv_iload hx hb dX4_isAway_84 (lv_at hl 3 rfl) ?_
  refine lv_iconst (v := iz (2)) hx hb dX4_isAway_86 rfl ?_
  refine zr_icmp_gt (x := k) (y := 2) (tgt := 106) hx hb (⟨by omega, by omega⟩) (⟨by omega, by omega⟩) dX4_isAway_87 (by decide) (fun h_1 => ?_) (fun h_1 => ?_)
  ·
    refine lv_iconst (v := iz (1)) hx hb dX4_isAway_106 rfl ?_
    refine lv_goto (tgt := 111) hx hb dX4_isAway_107 (by decide) ?_
    rw [hQ]
    exact zr_zret (z := true) (rfl) (u := ()) hx hb hr hlocks hP hD hS (by first | exact Nat.le_of_ble_eq_true rfl | omega) (by first | exact Nat.le_of_ble_eq_true rfl | omega) dX4_isAway_111 (show true = decide (2 < k ∨ (k = 2 ∧ w % 2 = 1)) from by first | exact (decide_eq_true (by omega)).symm | exact (decide_eq_false (by omega)).symm)
  ·
    refine lv_iload hx hb dX4_isAway_90 (lv_at hl 3 rfl) ?_
    refine lv_iconst (v := iz (2)) hx hb dX4_isAway_92 rfl ?_
    refine zr_icmp_ne (x := k) (y := 2) (tgt := 110) hx hb (⟨by omega, by omega⟩) (⟨by omega, by omega⟩) dX4_isAway_93 (by decide) (fun h_2 => ?_) (fun h_2 => ?_)
    ·
      refine lv_iconst (v := iz (0)) hx hb dX4_isAway_110 rfl ?_
      rw [hQ]
      exact zr_zret (z := false) (rfl) (u := ()) hx hb hr hlocks hP hD hS (by first | exact Nat.le_of_ble_eq_true rfl | omega) (by first | exact Nat.le_of_ble_eq_true rfl | omega) dX4_isAway_111 (show false = decide (2 < k ∨ (k = 2 ∧ w % 2 = 1)) from by first | exact (decide_eq_true (by omega)).symm | exact (decide_eq_false (by omega)).symm)
    ·
      refine lv_lload_n hx hb dX4_isAway_96 rfl (lv_at hl 2 rfl) ?_
      refine zr_ldc2 (z := 2) hx hb hown (hts (.constantLong RX4 45 (2)) (by decide +kernel)) rfl dX4_isAway_97 ?_
      refine zr_lrem hx hb (x := w) (y := 2) ⟨by omega, by omega⟩ ⟨by omega, by omega⟩ (by omega) (by omega) dX4_isAway_100 ?_
      refine lv_lconst (v := lz (0)) hx hb dX4_isAway_101 rfl ?_
      refine zr_lcmp_eq (x := w % 2) (y := 0) (tgt := 110) hx hb (⟨by omega, by omega⟩) (⟨by omega, by omega⟩) dX4_isAway_102 dX4_isAway_103 (by decide) (fun h_3 => ?_) (fun h_3 => ?_)
      ·
        refine lv_iconst (v := iz (0)) hx hb dX4_isAway_110 rfl ?_
        rw [hQ]
        exact zr_zret (z := false) (rfl) (u := ()) hx hb hr hlocks hP hD hS (by first | exact Nat.le_of_ble_eq_true rfl | omega) (by first | exact Nat.le_of_ble_eq_true rfl | omega) dX4_isAway_111 (show false = decide (2 < k ∨ (k = 2 ∧ w % 2 = 1)) from by first | exact (decide_eq_true (by omega)).symm | exact (decide_eq_false (by omega)).symm)
      ·
        refine lv_iconst (v := iz (1)) hx hb dX4_isAway_106 rfl ?_
        refine lv_goto (tgt := 111) hx hb dX4_isAway_107 (by decide) ?_
        rw [hQ]
        exact zr_zret (z := true) (rfl) (u := ()) hx hb hr hlocks hP hD hS (by first | exact Nat.le_of_ble_eq_true rfl | omega) (by first | exact Nat.le_of_ble_eq_true rfl | omega) dX4_isAway_111 (show true = decide (2 < k ∨ (k = 2 ∧ w % 2 = 1)) from by first | exact (decide_eq_true (by omega)).symm | exact (decide_eq_false (by omega)).symm)

def rm_c_X4_rounded : Room := { frames := 1, cells := 0, slots := 0, locals := 24 }
theorem iw_X4_rounded_X4 : ∀ w ∈ wsX40, w ∈ wsX4_rounded := by decide +kernel
set_option maxHeartbeats 1000000 in
set_option maxRecDepth 100000 in
theorem c_X4_rounded (l : Launch) (G : zG) (r : Nat) (b : Bool) (w : Int) (k : Int) (h1 : 0 ≤ w ∧ w < 4611686018427387904) (h2 : 0 ≤ k ∧ k ≤ 3) : zM l G yX4_rounded wsX4_rounded rm_c_X4_rounded [.ref r, .int (iz (zbb b)), .long (lz (w)), .int (iz (k))] [(r, .inr (5, [.int (iz (6))]))] (fun A => zQl G (fun (z : Int) (_ : Unit) => z = if b then -(w + zha w k) else w + zha w k) (fun (_ : Unit) => [(r, .inr (5, [.int (iz (6))]))]) A) 0 0 := by
  refine zM_of (cc := cX4_rounded) (maxL := 7) (ret := (some .long)) (by decide) rfl (Nat.le_of_ble_eq_true rfl) ?_
  intro p e s m below meth c ls A Q hQ hx hb hr hts hown hlocks hml hnm hKX hP hD hA hS hl
  have hK := hKX.1
  have iwX4 := iw_X4_rounded_X4
  obtain ⟨H, hH⟩ : ∃ h, h = s.heap := ⟨_, rfl⟩
  obtain ⟨locs, hlo⟩ : ∃ h : List Loc, h = [] := ⟨_, rfl⟩
  have hS : va_S A s.heap H locs := by rw [hH, hlo]; exact hS
  have hP : va_P G.1 vwCl [(r, .inr (5, [.int (iz (6))]))] H := by rw [hH]; exact hP
  have hD : va_D A [(r, .inr (5, [.int (iz (6))]))] := hD
  have hl : lv_has ls 7 [(0, .ref r), (1, .int (iz (zbb b))), (2, .long (lz (w))), (4, .int (iz (k)))] := hl
  rw [← hH, ← hlo]
  refine lv_lload_n hx hb dX4_rounded_0 rfl (lv_at hl 2 rfl) ?_
  refine lv_lstore (lv' := [(5, .long (lz (w))), (0, .ref r), (1, .int (iz (zbb b))), (2, .long (lz (w))), (4, .int (iz (k)))]) hx hb dX4_rounded_1 hl (by decide) rfl (fun ls hl => ?_)
  refine lv_iload hx hb dX4_rounded_3 (lv_at hl 4 rfl) ?_
  refine zr_if_eq (x := k) (tgt := 46) hx hb (⟨by omega, by omega⟩) dX4_rounded_5 (by decide) (fun h_1 => ?_) (fun h_1 => ?_)
  ·
    have hh : zha w k = 0 := by rw [show k = 0 by omega]; exact zha_0 w
    refine lv_iload_n hx hb dX4_rounded_46 rfl (lv_at hl 2 rfl) ?_
    refine zr_ifz_eq (tgt := 56) hx hb dX4_rounded_47 (by decide) (fun h_2 => ?_) (fun h_2 => ?_)
    ·
      have hb0 := h_2
      refine lv_lload hx hb dX4_rounded_56 (lv_at hl 0 rfl) ?_
      rw [hQ]
      exact zr_lret (z := w) (u := ()) hx hb hr hlocks hP hD hS (by first | exact Nat.le_of_ble_eq_true rfl | omega) (by first | exact Nat.le_of_ble_eq_true rfl | omega) dX4_rounded_58 (show w = if b then -(w + zha w k) else w + zha w k from by first | (rw [if_pos hb1, hh]; try omega) | (rw [if_neg (by rw [hb0]; decide), hh]; try omega))
    ·
      have hb1 := h_2
      refine lv_lload hx hb dX4_rounded_50 (lv_at hl 0 rfl) ?_
      refine zr_lneg hx hb dX4_rounded_52 ?_
      refine lv_goto (tgt := 58) hx hb dX4_rounded_53 (by decide) ?_
      rw [hQ]
      exact zr_lret (z := -(w)) (u := ()) hx hb hr hlocks hP hD hS (by first | exact Nat.le_of_ble_eq_true rfl | omega) (by first | exact Nat.le_of_ble_eq_true rfl | omega) dX4_rounded_58 (show (-(w)) = if b then -(w + zha w k) else w + zha w k from by first | (rw [if_pos hb1, hh]; try omega) | (rw [if_neg (by rw [hb0]; decide), hh]; try omega))
  ·
    refine lv_aload_n hx hb dX4_rounded_8 rfl (lv_at hl 1 rfl) ?_
    refine va_get (D := G.1) (ci := 5) (v := .int (iz (6))) (C := RX4) (T := TX4) (N := 1) hx hb hts iwX4 hown hK hP 0 rfl rfl 0 (by decide) (hts (.fieldLink RX4 9 "AnnuityHouse$Rounder" "mode" "I") (by decide +kernel)) (fun _ h9 => h9) rfl dX4_rounded_9 ?_
    refine lv_bipush (v := iz (7)) hx hb dX4_rounded_12 rfl ?_
    refine zr_icmp_eq (x := 6) (y := 7) (tgt := 21) hx hb (⟨by omega, by omega⟩) (⟨by omega, by omega⟩) dX4_rounded_14 (by decide) (fun h_3 => ?_) (fun h_3 => ?_)
    · exact absurd h_3 (by omega)
    ·
      refine lv_iconst (v := iz (1)) hx hb dX4_rounded_17 rfl ?_
      refine lv_goto (tgt := 22) hx hb dX4_rounded_18 (by decide) ?_
      refine zc_v (wr := [(r, .inr (5, [.int (iz (6))]))]) (va_runSN (As := [.int (iz (1))]) (rest := []) ⟨hx, hb, hml, hown, hts⟩ (c_X9_demandState_o l G   H.size) ⟨va_cnB 1 hts gX4_rounded_X9_demandState_n51 rfl rfl rfl (hKX.2.2.2 (.methodLinkNest "AnnuityHouse$Rounder" 51 ⟨"AnnuityHouse", "demandState", "(Z)V"⟩ "AnnuityHouse") (by decide +kernel)) (hts (.initialized RX9) (by decide +kernel)) (by decide +kernel) ⟨Nat.le_of_ble_eq_true rfl, Nat.le_of_ble_eq_true rfl⟩, hts (.static yX9_demandState) (by decide +kernel), trivial⟩ (zpS hKX hP hD [] rfl rfl) rfl rfl hl.1 rfl (lv_room (Nat.le_of_ble_eq_true rfl)) dX4_rounded_22 ⟨(by first | exact Nat.le_of_ble_eq_true rfl | (show _ ≤ (0 : Nat); omega)), (by first | exact Nat.le_of_ble_eq_true rfl | (show _ ≤ (0 : Nat); omega))⟩) hP hD hS hA [] [0] rfl rfl rfl (by decide) (fun u_4 H locs td hP hD hS => ?_)
      have hP : va_P G.1 vwCl [(r, .inr (5, [.int (iz (6))]))] H := hP
      have hD : va_D A [(r, .inr (5, [.int (iz (6))]))] := hD
      refine lv_lload hx hb dX4_rounded_25 (lv_at hl 0 rfl) ?_
      refine lv_aload_n hx hb dX4_rounded_27 rfl (lv_at hl 1 rfl) ?_
      refine lv_iload_n hx hb dX4_rounded_28 rfl (lv_at hl 2 rfl) ?_
      refine lv_lload_n hx hb dX4_rounded_29 rfl (lv_at hl 3 rfl) ?_
      refine lv_iload hx hb dX4_rounded_30 (lv_at hl 4 rfl) ?_
      refine zc_z (wr := []) (va_runV (As := [.int (iz (zbb b)), .long (lz (w)), .int (iz (k))]) (rest := [.long (lz (w))]) ⟨hx, hb, hml, hown, hts⟩ (c_X4_isAway l G r b w k (by omega) (by omega) H.size) (cwV 3 hts gX4_rounded_X4_isAway rfl rfl rfl (by decide +kernel) ⟨Nat.le_of_ble_eq_true rfl, Nat.le_of_ble_eq_true rfl⟩) (zpV hKX hP hD [0] rfl rfl 0 5 rfl rfl) rfl rfl hl.1 rfl (lv_room (Nat.le_of_ble_eq_true rfl)) dX4_rounded_32 ⟨(by first | exact Nat.le_of_ble_eq_true rfl | (show _ ≤ (0 : Nat); omega)), (by first | exact Nat.le_of_ble_eq_true rfl | (show _ ≤ (0 : Nat); omega))⟩) hP hD hS hA [0] [] rfl rfl rfl (by decide) (fun aw u_7 H locs haw hP hD hS => ?_)
      have hP : va_P G.1 vwCl [(r, .inr (5, [.int (iz (6))]))] H := hP
      have hD : va_D A [(r, .inr (5, [.int (iz (6))]))] := hD
      have haw : aw = decide (2 < k ∨ (k = 2 ∧ w % 2 = 1)) := haw
      refine zr_ifz_eq (tgt := 42) hx hb dX4_rounded_35 (by decide) (fun h_9 => ?_) (fun h_9 => ?_)
      ·
        have hzaw := of_decide_eq_false (haw.symm.trans h_9)
        have hh := zha_f haw h_9
        refine lv_lconst (v := lz (0)) hx hb dX4_rounded_42 rfl ?_
        refine zr_ladd hx hb dX4_rounded_43 ?_
        refine lv_lstore (lv' := [(5, .long (lz (w + 0))), (0, .ref r), (1, .int (iz (zbb b))), (2, .long (lz (w))), (4, .int (iz (k)))]) hx hb dX4_rounded_44 hl (by decide) rfl (fun ls hl => ?_)
        refine lv_iload_n hx hb dX4_rounded_46 rfl (lv_at hl 2 rfl) ?_
        refine zr_ifz_eq (tgt := 56) hx hb dX4_rounded_47 (by decide) (fun h_10 => ?_) (fun h_10 => ?_)
        ·
          have hb0 := h_10
          refine lv_lload hx hb dX4_rounded_56 (lv_at hl 0 rfl) ?_
          rw [hQ]
          exact zr_lret (z := w + 0) (u := ()) hx hb hr hlocks hP hD hS (by first | exact Nat.le_of_ble_eq_true rfl | omega) (by first | exact Nat.le_of_ble_eq_true rfl | omega) dX4_rounded_58 (show (w + 0) = if b then -(w + zha w k) else w + zha w k from by first | (rw [if_pos hb1, hh]; try omega) | (rw [if_neg (by rw [hb0]; decide), hh]; try omega))
        ·
          have hb1 := h_10
          refine lv_lload hx hb dX4_rounded_50 (lv_at hl 0 rfl) ?_
          refine zr_lneg hx hb dX4_rounded_52 ?_
          refine lv_goto (tgt := 58) hx hb dX4_rounded_53 (by decide) ?_
          rw [hQ]
          exact zr_lret (z := -(w + 0)) (u := ()) hx hb hr hlocks hP hD hS (by first | exact Nat.le_of_ble_eq_true rfl | omega) (by first | exact Nat.le_of_ble_eq_true rfl | omega) dX4_rounded_58 (show (-(w + 0)) = if b then -(w + zha w k) else w + zha w k from by first | (rw [if_pos hb1, hh]; try omega) | (rw [if_neg (by rw [hb0]; decide), hh]; try omega))
      ·
        have hzaw := of_decide_eq_true (haw.symm.trans h_9)
        have hh := zha_t haw h_9
        refine lv_lconst (v := lz (1)) hx hb dX4_rounded_38 rfl ?_
        refine lv_goto (tgt := 43) hx hb dX4_rounded_39 (by decide) ?_
        refine zr_ladd hx hb dX4_rounded_43 ?_
        refine lv_lstore (lv' := [(5, .long (lz (w + 1))), (0, .ref r), (1, .int (iz (zbb b))), (2, .long (lz (w))), (4, .int (iz (k)))]) hx hb dX4_rounded_44 hl (by decide) rfl (fun ls hl => ?_)
        refine lv_iload_n hx hb dX4_rounded_46 rfl (lv_at hl 2 rfl) ?_
        refine zr_ifz_eq (tgt := 56) hx hb dX4_rounded_47 (by decide) (fun h_11 => ?_) (fun h_11 => ?_)
        ·
          have hb0 := h_11
          refine lv_lload hx hb dX4_rounded_56 (lv_at hl 0 rfl) ?_
          rw [hQ]
          exact zr_lret (z := w + 1) (u := ()) hx hb hr hlocks hP hD hS (by first | exact Nat.le_of_ble_eq_true rfl | omega) (by first | exact Nat.le_of_ble_eq_true rfl | omega) dX4_rounded_58 (show (w + 1) = if b then -(w + zha w k) else w + zha w k from by first | (rw [if_pos hb1, hh]; try omega) | (rw [if_neg (by rw [hb0]; decide), hh]; try omega))
        ·
          have hb1 := h_11
          refine lv_lload hx hb dX4_rounded_50 (lv_at hl 0 rfl) ?_
          refine zr_lneg hx hb dX4_rounded_52 ?_
          refine lv_goto (tgt := 58) hx hb dX4_rounded_53 (by decide) ?_
          rw [hQ]
          exact zr_lret (z := -(w + 1)) (u := ()) hx hb hr hlocks hP hD hS (by first | exact Nat.le_of_ble_eq_true rfl | omega) (by first | exact Nat.le_of_ble_eq_true rfl | omega) dX4_rounded_58 (show (-(w + 1)) = if b then -(w + zha w k) else w + zha w k from by first | (rw [if_pos hb1, hh]; try omega) | (rw [if_neg (by rw [hb0]; decide), hh]; try omega))

def rm_c_X4_ratio : Room := { frames := 2, cells := 0, slots := 0, locals := 50 }
set_option maxHeartbeats 1000000 in
set_option maxRecDepth 100000 in
theorem c_X4_ratio (l : Launch) (G : zG) (r : Nat) (ov : Int) (un : Int) (h1 : -1000000000000000000 ≤ ov ∧ ov ≤ 1000000000000000000) (h2 : 1 ≤ un ∧ un ≤ 1000000000000000000) : zM l G yX4_ratio wsX4_ratio rm_c_X4_ratio [.ref r, .long (lz (ov)), .long (lz (un))] [(r, .inr (5, [.int (iz (6))]))] (fun A => zQl G (fun (z : Int) (_ : Unit) => z = zr6 ov un) (fun (_ : Unit) => [(r, .inr (5, [.int (iz (6))]))]) A) 0 0 := by
  refine zM_of (cc := cX4_ratio) (maxL := 10) (ret := (some .long)) (by decide) rfl (Nat.le_of_ble_eq_true rfl) ?_
  intro p e s m below meth c ls A Q hQ hx hb hr hts hown hlocks hml hnm hKX hP hD hA hS hl
  have hK := hKX.1
  obtain ⟨H, hH⟩ : ∃ h, h = s.heap := ⟨_, rfl⟩
  obtain ⟨locs, hlo⟩ : ∃ h : List Loc, h = [] := ⟨_, rfl⟩
  have hS : va_S A s.heap H locs := by rw [hH, hlo]; exact hS
  have hP : va_P G.1 vwCl [(r, .inr (5, [.int (iz (6))]))] H := by rw [hH]; exact hP
  have hD : va_D A [(r, .inr (5, [.int (iz (6))]))] := hD
  have hl : lv_has ls 10 [(0, .ref r), (1, .long (lz (ov))), (3, .long (lz (un)))] := hl
  rw [← hH, ← hlo]
  refine lv_lload_n hx hb dX4_ratio_0 rfl (lv_at hl 2 rfl) ?_
  refine lv_lconst (v := lz (0)) hx hb dX4_ratio_1 rfl ?_
  refine zr_lcmp_gt (x := un) (y := 0) (tgt := 8) hx hb (⟨by omega, by omega⟩) (⟨by omega, by omega⟩) dX4_ratio_2 dX4_ratio_3 (by decide) (fun h_1 => ?_) (fun h_1 => ?_)
  ·
    refine lv_lload_n hx hb dX4_ratio_8 rfl (lv_at hl 1 rfl) ?_
    refine zr_mabsL (x := ov) hx hb (hml.trans hl.1.symm) hown (hts (.methodLink RX4 15 Lib.MathLoose.abs_long.x) (by decide +kernel)) (hts (.static Lib.MathLoose.abs_long.x) (by decide +kernel)) (hts (.initialized "java/lang/Math") (by decide +kernel)) (hts (.code Lib.MathLoose.abs_long.x Lib.MathLoose.abs_long.code 2 (some .long)) (by decide +kernel)) (Nat.le_of_ble_eq_true rfl) (Nat.le_of_ble_eq_true rfl) (by first | exact Nat.le_of_ble_eq_true rfl | (show _ ≤ (0 : Nat); omega)) (by first | exact Nat.le_of_ble_eq_true rfl | (show _ ≤ (0 : Nat); omega)) (⟨by omega, by omega⟩) dX4_ratio_9 ?_
    refine zr_namel (fun sz esz => ?_)
    have hsz : 0 ≤ sz ∧ sz ≤ 1000000000000000000 := by omega
    refine lv_lstore (lv' := [(5, .long (lz (sz))), (0, .ref r), (1, .long (lz (ov))), (3, .long (lz (un)))]) hx hb dX4_ratio_12 hl (by decide) rfl (fun ls hl => ?_)
    refine lv_lload hx hb dX4_ratio_14 (lv_at hl 0 rfl) ?_
    refine lv_lload_n hx hb dX4_ratio_16 rfl (lv_at hl 3 rfl) ?_
    refine zr_lrem hx hb (x := sz) (y := un) ⟨by omega, by omega⟩ ⟨by omega, by omega⟩ (by omega) (by omega) dX4_ratio_17 ?_
    refine zr_namel (fun rs ers => ?_)
    have hrs : 0 ≤ rs ∧ rs < un := by rw [ers]; exact ⟨Int.emod_nonneg _ (by omega), Int.emod_lt_of_pos _ (by omega)⟩
    refine lv_lstore (lv' := [(7, .long (lz (rs))), (5, .long (lz (sz))), (0, .ref r), (1, .long (lz (ov))), (3, .long (lz (un)))]) hx hb dX4_ratio_18 hl (by decide) rfl (fun ls hl => ?_)
    refine lv_iconst (v := iz (0)) hx hb dX4_ratio_20 rfl ?_
    refine lv_istore (lv' := [(9, .int (iz (0))), (7, .long (lz (rs))), (5, .long (lz (sz))), (0, .ref r), (1, .long (lz (ov))), (3, .long (lz (un)))]) hx hb dX4_ratio_21 hl (by decide) rfl (fun ls hl => ?_)
    have hl_65 : ∀ (kd : Int) (H : Heap) (locs : List Loc) (ls : Array Slot), ((kd = 0 ∧ rs = 0) ∨ (kd = 1 ∧ 2 * rs < un) ∨ (kd = 2 ∧ 2 * rs = un) ∨ (kd = 3 ∧ un < 2 * rs)) → va_P G.1 vwCl [(r, .inr (5, [.int (iz (6))]))] H → va_D A [(r, .inr (5, [.int (iz (6))]))] → va_S A s.heap H locs → lv_has ls 10 [(9, .int (iz (kd))), (7, .long (lz (rs))), (5, .long (lz (sz))), (0, .ref r), (1, .long (lz (ov))), (3, .long (lz (un)))] → W p l e rm_c_X4_ratio s m ([.ref r, .long (lz (ov)), .long (lz (un))] : List Value).toArray below meth c H locs 0 0 Q (F0 m 65 ls []) := by
      intro kd H locs ls j1 hP hD hS hl
      refine lv_aload_n hx hb dX4_ratio_65 rfl (lv_at hl 3 rfl) ?_
      have j2 : (kd = 0 ∧ ((ov.natAbs : Int) % un) = 0) ∨ (kd = 1 ∧ 2 * ((ov.natAbs : Int) % un) < un) ∨ (kd = 2 ∧ 2 * ((ov.natAbs : Int) % un) = un) ∨ (kd = 3 ∧ un < 2 * ((ov.natAbs : Int) % un)) := by rw [← esz, ← ers]; exact j1
      refine lv_lload_n hx hb dX4_ratio_66 rfl (lv_at hl 4 rfl) ?_
      refine lv_lconst (v := lz (0)) hx hb dX4_ratio_67 rfl ?_
      refine zr_lcmp_ge (x := ov) (y := 0) (tgt := 76) hx hb (⟨by omega, by omega⟩) (⟨by omega, by omega⟩) dX4_ratio_68 dX4_ratio_69 (by decide) (fun h_2 => ?_) (fun h_2 => ?_)
      ·
        refine lv_iconst (v := iz (0)) hx hb dX4_ratio_76 rfl ?_
        refine lv_lload hx hb dX4_ratio_77 (lv_at hl 2 rfl) ?_
        refine lv_lload_n hx hb dX4_ratio_79 rfl (lv_at hl 5 rfl) ?_
        refine zr_ldiv hx hb (x := sz) (y := un) ⟨by omega, by omega⟩ ⟨by omega, by omega⟩ (by omega) (by omega) dX4_ratio_80 ?_
        refine zr_namel (fun w ew => ?_)
        have hw : 0 ≤ w ∧ w ≤ sz := by rw [ew]; exact ⟨Int.ediv_nonneg (by omega) (by omega), Int.ediv_le_self _ (by omega)⟩
        refine lv_iload hx hb dX4_ratio_81 (lv_at hl 0 rfl) ?_
        refine zc_l (wr := []) (va_runV (As := [.int (iz (0)), .long (lz (w)), .int (iz (kd))]) (rest := []) ⟨hx, hb, hml, hown, hts⟩ (c_X4_rounded l G r false w kd (by omega) (by omega) H.size) (cwV 3 hts gX4_ratio_X4_rounded rfl rfl rfl (by decide +kernel) ⟨Nat.le_of_ble_eq_true rfl, Nat.le_of_ble_eq_true rfl⟩) (zpV hKX hP hD [0] rfl rfl 0 5 rfl rfl) rfl rfl hl.1 rfl (lv_room (Nat.le_of_ble_eq_true rfl)) dX4_ratio_83 ⟨(by first | exact Nat.le_of_ble_eq_true rfl | (show _ ≤ (0 : Nat); omega)), (by first | exact Nat.le_of_ble_eq_true rfl | (show _ ≤ (0 : Nat); omega))⟩) hP hD hS hA [0] [] rfl rfl rfl (by decide) (fun zz u_3 H locs hz hP hD hS => ?_)
        have hP : va_P G.1 vwCl [(r, .inr (5, [.int (iz (6))]))] H := hP
        have hD : va_D A [(r, .inr (5, [.int (iz (6))]))] := hD
        have hz : zz = if false then -(w + zha w kd) else w + zha w kd := hz
        rw [hQ]
        exact zr_lret (z := zz) (u := ()) hx hb hr hlocks hP hD hS (by first | exact Nat.le_of_ble_eq_true rfl | omega) (by first | exact Nat.le_of_ble_eq_true rfl | omega) dX4_ratio_86 (show zz = zr6 ov un from by first | exact hz.trans ((if_pos rfl).trans (by rw [ew, esz]; exact ((zr6_k (by omega) j2).trans (if_pos (by omega))).symm)) | exact hz.trans ((if_neg (by decide)).trans (by rw [ew, esz]; exact ((zr6_k (by omega) j2).trans (if_neg (by omega))).symm)))
      ·
        refine lv_iconst (v := iz (1)) hx hb dX4_ratio_72 rfl ?_
        refine lv_goto (tgt := 77) hx hb dX4_ratio_73 (by decide) ?_
        refine lv_lload hx hb dX4_ratio_77 (lv_at hl 2 rfl) ?_
        refine lv_lload_n hx hb dX4_ratio_79 rfl (lv_at hl 5 rfl) ?_
        refine zr_ldiv hx hb (x := sz) (y := un) ⟨by omega, by omega⟩ ⟨by omega, by omega⟩ (by omega) (by omega) dX4_ratio_80 ?_
        refine zr_namel (fun w ew => ?_)
        have hw : 0 ≤ w ∧ w ≤ sz := by rw [ew]; exact ⟨Int.ediv_nonneg (by omega) (by omega), Int.ediv_le_self _ (by omega)⟩
        refine lv_iload hx hb dX4_ratio_81 (lv_at hl 0 rfl) ?_
        refine zc_l (wr := []) (va_runV (As := [.int (iz (1)), .long (lz (w)), .int (iz (kd))]) (rest := []) ⟨hx, hb, hml, hown, hts⟩ (c_X4_rounded l G r true w kd (by omega) (by omega) H.size) (cwV 3 hts gX4_ratio_X4_rounded rfl rfl rfl (by decide +kernel) ⟨Nat.le_of_ble_eq_true rfl, Nat.le_of_ble_eq_true rfl⟩) (zpV hKX hP hD [0] rfl rfl 0 5 rfl rfl) rfl rfl hl.1 rfl (lv_room (Nat.le_of_ble_eq_true rfl)) dX4_ratio_83 ⟨(by first | exact Nat.le_of_ble_eq_true rfl | (show _ ≤ (0 : Nat); omega)), (by first | exact Nat.le_of_ble_eq_true rfl | (show _ ≤ (0 : Nat); omega))⟩) hP hD hS hA [0] [] rfl rfl rfl (by decide) (fun zz u_5 H locs hz hP hD hS => ?_)
        have hP : va_P G.1 vwCl [(r, .inr (5, [.int (iz (6))]))] H := hP
        have hD : va_D A [(r, .inr (5, [.int (iz (6))]))] := hD
        have hz : zz = if true then -(w + zha w kd) else w + zha w kd := hz
        rw [hQ]
        exact zr_lret (z := zz) (u := ()) hx hb hr hlocks hP hD hS (by first | exact Nat.le_of_ble_eq_true rfl | omega) (by first | exact Nat.le_of_ble_eq_true rfl | omega) dX4_ratio_86 (show zz = zr6 ov un from by first | exact hz.trans ((if_pos rfl).trans (by rw [ew, esz]; exact ((zr6_k (by omega) j2).trans (if_pos (by omega))).symm)) | exact hz.trans ((if_neg (by decide)).trans (by rw [ew, esz]; exact ((zr6_k (by omega) j2).trans (if_neg (by omega))).symm)))
    refine lv_lload hx hb dX4_ratio_23 (lv_at hl 1 rfl) ?_
    refine lv_lconst (v := lz (0)) hx hb dX4_ratio_25 rfl ?_
    refine zr_lcmp_le (x := rs) (y := 0) (tgt := 65) hx hb (⟨by omega, by omega⟩) (⟨by omega, by omega⟩) dX4_ratio_26 dX4_ratio_27 (by decide) (fun h_7 => ?_) (fun h_7 => ?_)
    ·
      exact hl_65 0 _ _ _ (by omega) (hP) (hD) hS (hl)
    ·
      refine lv_lload hx hb dX4_ratio_30 (lv_at hl 1 rfl) ?_
      refine lv_lload_n hx hb dX4_ratio_32 rfl (lv_at hl 5 rfl) ?_
      refine lv_lload hx hb dX4_ratio_33 (lv_at hl 1 rfl) ?_
      refine zr_lsub hx hb dX4_ratio_35 ?_
      refine zr_lcmp_lt (x := rs) (y := un - rs) (tgt := 44) hx hb (⟨by omega, by omega⟩) (⟨by omega, by omega⟩) dX4_ratio_36 dX4_ratio_37 (by decide) (fun h_8 => ?_) (fun h_8 => ?_)
      ·
        refine lv_iconst (v := iz (0)) hx hb dX4_ratio_44 rfl ?_
        refine lv_lload hx hb dX4_ratio_45 (lv_at hl 1 rfl) ?_
        refine lv_lload_n hx hb dX4_ratio_47 rfl (lv_at hl 5 rfl) ?_
        refine lv_lload hx hb dX4_ratio_48 (lv_at hl 1 rfl) ?_
        refine zr_lsub hx hb dX4_ratio_50 ?_
        refine zr_lcmp_gt (x := rs) (y := un - rs) (tgt := 59) hx hb (⟨by omega, by omega⟩) (⟨by omega, by omega⟩) dX4_ratio_51 dX4_ratio_52 (by decide) (fun h_9 => ?_) (fun h_9 => ?_)
        ·
          refine lv_iconst (v := iz (0)) hx hb dX4_ratio_59 rfl ?_
          refine zc_i (wr := [(r, .inr (5, [.int (iz (6))]))]) (va_runS (As := [.int (iz (0)), .int (iz (0))]) (rest := []) ⟨hx, hb, hml, hown, hts⟩ (c_X4_kindOf l G false false  H.size) (va_cwS 2 hts gX4_ratio_X4_kindOf rfl rfl rfl (by decide +kernel) ⟨Nat.le_of_ble_eq_true rfl, Nat.le_of_ble_eq_true rfl⟩) (zpS hKX hP hD [] rfl rfl) rfl rfl hl.1 rfl (lv_room (Nat.le_of_ble_eq_true rfl)) dX4_ratio_60 ⟨(by first | exact Nat.le_of_ble_eq_true rfl | (show _ ≤ (0 : Nat); omega)), (by first | exact Nat.le_of_ble_eq_true rfl | (show _ ≤ (0 : Nat); omega))⟩) hP hD hS hA [] [0] rfl rfl rfl (by decide) (fun ko u_10 H locs hko hP hD hS => ?_)
          have hP : va_P G.1 vwCl [(r, .inr (5, [.int (iz (6))]))] H := hP
          have hD : va_D A [(r, .inr (5, [.int (iz (6))]))] := hD
          have hko : ko = if false then if false then 2 else 3 else 1 := hko
          simp at hko
          refine lv_istore (lv' := [(9, .int (iz (ko))), (7, .long (lz (rs))), (5, .long (lz (sz))), (0, .ref r), (1, .long (lz (ov))), (3, .long (lz (un)))]) hx hb dX4_ratio_63 hl (by decide) rfl (fun ls hl => ?_)
          refine W.widen (k := 0) (n := 0) (by omega) (by omega) ?_
          exact hl_65 ko _ _ _ (by omega) (hP) (hD) hS (hl)
        ·
          refine lv_iconst (v := iz (1)) hx hb dX4_ratio_55 rfl ?_
          refine lv_goto (tgt := 60) hx hb dX4_ratio_56 (by decide) ?_
          refine zc_i (wr := [(r, .inr (5, [.int (iz (6))]))]) (va_runS (As := [.int (iz (0)), .int (iz (1))]) (rest := []) ⟨hx, hb, hml, hown, hts⟩ (c_X4_kindOf l G false true  H.size) (va_cwS 2 hts gX4_ratio_X4_kindOf rfl rfl rfl (by decide +kernel) ⟨Nat.le_of_ble_eq_true rfl, Nat.le_of_ble_eq_true rfl⟩) (zpS hKX hP hD [] rfl rfl) rfl rfl hl.1 rfl (lv_room (Nat.le_of_ble_eq_true rfl)) dX4_ratio_60 ⟨(by first | exact Nat.le_of_ble_eq_true rfl | (show _ ≤ (0 : Nat); omega)), (by first | exact Nat.le_of_ble_eq_true rfl | (show _ ≤ (0 : Nat); omega))⟩) hP hD hS hA [] [0] rfl rfl rfl (by decide) (fun ko u_12 H locs hko hP hD hS => ?_)
          have hP : va_P G.1 vwCl [(r, .inr (5, [.int (iz (6))]))] H := hP
          have hD : va_D A [(r, .inr (5, [.int (iz (6))]))] := hD
          have hko : ko = if false then if true then 2 else 3 else 1 := hko
          simp at hko
          refine lv_istore (lv' := [(9, .int (iz (ko))), (7, .long (lz (rs))), (5, .long (lz (sz))), (0, .ref r), (1, .long (lz (ov))), (3, .long (lz (un)))]) hx hb dX4_ratio_63 hl (by decide) rfl (fun ls hl => ?_)
          refine W.widen (k := 0) (n := 0) (by omega) (by omega) ?_
          exact hl_65 ko _ _ _ (by omega) (hP) (hD) hS (hl)
      ·
        refine lv_iconst (v := iz (1)) hx hb dX4_ratio_40 rfl ?_
        refine lv_goto (tgt := 45) hx hb dX4_ratio_41 (by decide) ?_
        refine lv_lload hx hb dX4_ratio_45 (lv_at hl 1 rfl) ?_
        refine lv_lload_n hx hb dX4_ratio_47 rfl (lv_at hl 5 rfl) ?_
        refine lv_lload hx hb dX4_ratio_48 (lv_at hl 1 rfl) ?_
        refine zr_lsub hx hb dX4_ratio_50 ?_
        refine zr_lcmp_gt (x := rs) (y := un - rs) (tgt := 59) hx hb (⟨by omega, by omega⟩) (⟨by omega, by omega⟩) dX4_ratio_51 dX4_ratio_52 (by decide) (fun h_14 => ?_) (fun h_14 => ?_)
        ·
          refine lv_iconst (v := iz (0)) hx hb dX4_ratio_59 rfl ?_
          refine zc_i (wr := [(r, .inr (5, [.int (iz (6))]))]) (va_runS (As := [.int (iz (1)), .int (iz (0))]) (rest := []) ⟨hx, hb, hml, hown, hts⟩ (c_X4_kindOf l G true false  H.size) (va_cwS 2 hts gX4_ratio_X4_kindOf rfl rfl rfl (by decide +kernel) ⟨Nat.le_of_ble_eq_true rfl, Nat.le_of_ble_eq_true rfl⟩) (zpS hKX hP hD [] rfl rfl) rfl rfl hl.1 rfl (lv_room (Nat.le_of_ble_eq_true rfl)) dX4_ratio_60 ⟨(by first | exact Nat.le_of_ble_eq_true rfl | (show _ ≤ (0 : Nat); omega)), (by first | exact Nat.le_of_ble_eq_true rfl | (show _ ≤ (0 : Nat); omega))⟩) hP hD hS hA [] [0] rfl rfl rfl (by decide) (fun ko u_15 H locs hko hP hD hS => ?_)
          have hP : va_P G.1 vwCl [(r, .inr (5, [.int (iz (6))]))] H := hP
          have hD : va_D A [(r, .inr (5, [.int (iz (6))]))] := hD
          have hko : ko = if true then if false then 2 else 3 else 1 := hko
          simp at hko
          refine lv_istore (lv' := [(9, .int (iz (ko))), (7, .long (lz (rs))), (5, .long (lz (sz))), (0, .ref r), (1, .long (lz (ov))), (3, .long (lz (un)))]) hx hb dX4_ratio_63 hl (by decide) rfl (fun ls hl => ?_)
          refine W.widen (k := 0) (n := 0) (by omega) (by omega) ?_
          exact hl_65 ko _ _ _ (by omega) (hP) (hD) hS (hl)
        ·
          refine lv_iconst (v := iz (1)) hx hb dX4_ratio_55 rfl ?_
          refine lv_goto (tgt := 60) hx hb dX4_ratio_56 (by decide) ?_
          refine zc_i (wr := [(r, .inr (5, [.int (iz (6))]))]) (va_runS (As := [.int (iz (1)), .int (iz (1))]) (rest := []) ⟨hx, hb, hml, hown, hts⟩ (c_X4_kindOf l G true true  H.size) (va_cwS 2 hts gX4_ratio_X4_kindOf rfl rfl rfl (by decide +kernel) ⟨Nat.le_of_ble_eq_true rfl, Nat.le_of_ble_eq_true rfl⟩) (zpS hKX hP hD [] rfl rfl) rfl rfl hl.1 rfl (lv_room (Nat.le_of_ble_eq_true rfl)) dX4_ratio_60 ⟨(by first | exact Nat.le_of_ble_eq_true rfl | (show _ ≤ (0 : Nat); omega)), (by first | exact Nat.le_of_ble_eq_true rfl | (show _ ≤ (0 : Nat); omega))⟩) hP hD hS hA [] [0] rfl rfl rfl (by decide) (fun ko u_17 H locs hko hP hD hS => ?_)
          have hP : va_P G.1 vwCl [(r, .inr (5, [.int (iz (6))]))] H := hP
          have hD : va_D A [(r, .inr (5, [.int (iz (6))]))] := hD
          have hko : ko = if true then if true then 2 else 3 else 1 := hko
          simp at hko
          refine lv_istore (lv' := [(9, .int (iz (ko))), (7, .long (lz (rs))), (5, .long (lz (sz))), (0, .ref r), (1, .long (lz (ov))), (3, .long (lz (un)))]) hx hb dX4_ratio_63 hl (by decide) rfl (fun ls hl => ?_)
          refine W.widen (k := 0) (n := 0) (by omega) (by omega) ?_
          exact hl_65 ko _ _ _ (by omega) (hP) (hD) hS (hl)
  · exact absurd h_1 (by omega)

def rm_c_X4_ratio_ : Room := { frames := 3, cells := 0, slots := 0, locals := 92 }
set_option maxHeartbeats 1000000 in
set_option maxRecDepth 100000 in
theorem c_X4_ratio_ (l : Launch) (G : zG) (r : Nat) (oa : Nat) (ob : Nat) (of : Int → Int) (on : Int) (ot : Int) (ua : Nat) (ub : Nat) (uf : Int → Int) (un : Int) (ut : Int) (v : Int) (v2 : Int) (h1 : zwv of on ot v) (h2 : zwv uf un ut v2) (h3 : 0 ≤ v) (h4 : 0 < v2) (h5 : v < 1073741824 ^ 35) (h6 : v2 < 1073741824 ^ 35) (h7 : v < v2 * 1073741824 ^ 2) : zM l G yX4_ratio_ wsX4_ratio_ rm_c_X4_ratio_ [.ref r, .ref oa, .ref ua] [(r, .inr (5, [.int (iz (6))])), (oa, .inr (9, [.ref ob, .int (iz (on)), .long (lz (ot))])), (ob, zaL (G.2 0) 40 (of)), (ua, .inr (9, [.ref ub, .int (iz (un)), .long (lz (ut))])), (ub, zaL (G.2 0) 40 (uf))] (fun A => zQl G (fun (z : Int) (u : (Int → Int) × Int × Int × (Int → Int) × Int × Int) => z = zr6 v v2) (fun (u : (Int → Int) × Int × Int × (Int → Int) × Int × Int) => [(r, .inr (5, [.int (iz (6))])), (oa, .inr (9, [.ref ob, .int (iz (u.2.1)), .long (lz (u.2.2.1))])), (ob, zaL (G.2 0) 40 (u.1)), (ua, .inr (9, [.ref ub, .int (iz (u.2.2.2.2.1)), .long (lz (u.2.2.2.2.2))])), (ub, zaL (G.2 0) 40 (u.2.2.2.1))]) A) 0 0 := by
  refine zM_of (cc := cX4_ratio_) (maxL := 7) (ret := (some .long)) (by decide) rfl (Nat.le_of_ble_eq_true rfl) ?_
  intro p e s m below meth c ls A Q hQ hx hb hr hts hown hlocks hml hnm hKX hP hD hA hS hl
  have hK := hKX.1
  obtain ⟨H, hH⟩ : ∃ h, h = s.heap := ⟨_, rfl⟩
  obtain ⟨locs, hlo⟩ : ∃ h : List Loc, h = [] := ⟨_, rfl⟩
  have hS : va_S A s.heap H locs := by rw [hH, hlo]; exact hS
  have hP : va_P G.1 vwCl [(r, .inr (5, [.int (iz (6))])), (oa, .inr (9, [.ref ob, .int (iz (on)), .long (lz (ot))])), (ob, zaL (G.2 0) 40 (of)), (ua, .inr (9, [.ref ub, .int (iz (un)), .long (lz (ut))])), (ub, zaL (G.2 0) 40 (uf))] H := by rw [hH]; exact hP
  have hD : va_D A [(r, .inr (5, [.int (iz (6))])), (oa, .inr (9, [.ref ob, .int (iz (on)), .long (lz (ot))])), (ob, zaL (G.2 0) 40 (of)), (ua, .inr (9, [.ref ub, .int (iz (un)), .long (lz (ut))])), (ub, zaL (G.2 0) 40 (uf))] := hD
  have hl : lv_has ls 7 [(0, .ref r), (1, .ref oa), (2, .ref ua)] := hl
  rw [← hH, ← hlo]
  have hr0 := Int.emod_nonneg v (show v2 ≠ 0 by omega)
  have hr1 := Int.emod_lt_of_pos v h4
  have hw2 := zB2 h3 h4 h7
  have b35 : (1073741824 : Int) ^ 35 * 1073741824 * 2 < 1073741824 ^ 37 := by decide +kernel
  have b36 : (1073741824 : Int) ^ 35 * 1073741824 < 1073741824 ^ 37 := by decide +kernel
  refine lv_aload_n hx hb dX4_ratio__0 rfl (lv_at hl 1 rfl) ?_
  refine zc_i (wr := [(r, .inr (5, [.int (iz (6))])), (ua, .inr (9, [.ref ub, .int (iz (un)), .long (lz (ut))])), (ub, zaL (G.2 0) 40 (uf))]) (va_runV (As := []) (rest := []) ⟨hx, hb, hml, hown, hts⟩ (c_X8_sign l G oa ob of on ot v (h1) H.size) (cwV 0 hts gX4_ratio__X8_sign rfl rfl rfl (by decide +kernel) ⟨Nat.le_of_ble_eq_true rfl, Nat.le_of_ble_eq_true rfl⟩) (zpV hKX hP hD [1, 2] rfl rfl 1 9 rfl rfl) rfl rfl hl.1 rfl (lv_room (Nat.le_of_ble_eq_true rfl)) dX4_ratio__1 ⟨(by first | exact Nat.le_of_ble_eq_true rfl | (show _ ≤ (0 : Nat); omega)), (by first | exact Nat.le_of_ble_eq_true rfl | (show _ ≤ (0 : Nat); omega))⟩) hP hD hS hA [1, 2] [0, 3, 4] rfl rfl rfl (by decide) (fun sg u_1 H locs hsg hP hD hS => ?_)
  have hP : va_P G.1 vwCl [(r, .inr (5, [.int (iz (6))])), (ua, .inr (9, [.ref ub, .int (iz (un)), .long (lz (ut))])), (ub, zaL (G.2 0) 40 (uf)), (oa, .inr (9, [.ref ob, .int (iz (on)), .long (lz (ot))])), (ob, zaL (G.2 0) 40 (of))] H := hP
  have hD : va_D A [(r, .inr (5, [.int (iz (6))])), (ua, .inr (9, [.ref ub, .int (iz (un)), .long (lz (ut))])), (ub, zaL (G.2 0) 40 (uf)), (oa, .inr (9, [.ref ob, .int (iz (on)), .long (lz (ot))])), (ob, zaL (G.2 0) 40 (of))] := hD
  have hsg : sg = v.sign := hsg
  have hs0 : 0 ≤ sg ∧ sg ≤ 1 := by rw [hsg]; exact ⟨zsg0 h3, (zsgr v).2⟩
  refine zr_if_ge (x := sg) (tgt := 11) hx hb (⟨by omega, by omega⟩) dX4_ratio__4 (by decide) (fun h_3 => ?_) (fun h_3 => ?_)
  ·
    refine lv_iconst (v := iz (0)) hx hb dX4_ratio__11 rfl ?_
    refine lv_istore_n (lv' := [(3, .int (iz (0))), (0, .ref r), (1, .ref oa), (2, .ref ua)]) hx hb dX4_ratio__12 rfl hl (by decide) rfl (fun ls hl => ?_)
    refine lv_iload_n hx hb dX4_ratio__13 rfl (lv_at hl 0 rfl) ?_
    refine zr_if_eq (x := 0) (tgt := 24) hx hb (⟨by omega, by omega⟩) dX4_ratio__14 (by decide) (fun h_4 => ?_) (fun h_4 => ?_)
    ·
      refine lv_aload_n hx hb dX4_ratio__24 rfl (lv_at hl 2 rfl) ?_
      refine lv_aload_n hx hb dX4_ratio__25 rfl (lv_at hl 3 rfl) ?_
      refine zc_l (wr := [(r, .inr (5, [.int (iz (6))]))]) (va_runV (As := [.ref ua]) (rest := []) ⟨hx, hb, hml, hown, hts⟩ (c_X8_divide l G oa ob of on ot ua ub uf un ut v v2 (by omega) (by omega) (by omega) (by omega) (by omega) (by omega) (by omega) H.size) (cwV 1 hts gX4_ratio__X8_divide rfl rfl rfl (by decide +kernel) ⟨Nat.le_of_ble_eq_true rfl, Nat.le_of_ble_eq_true rfl⟩) (zpV hKX hP hD [3, 4, 1, 2] rfl rfl 3 9 rfl rfl) rfl rfl hl.1 rfl (lv_room (Nat.le_of_ble_eq_true rfl)) dX4_ratio__26 ⟨(by first | exact Nat.le_of_ble_eq_true rfl | (show _ ≤ (0 : Nat); omega)), (by first | exact Nat.le_of_ble_eq_true rfl | (show _ ≤ (0 : Nat); omega))⟩) hP hD hS hA [3, 4, 1, 2] [0] rfl rfl rfl (by decide) (fun wq u_5 H locs hdv hP hD hS => ?_)
      obtain ⟨of1, on1, ot1, uf1, un1, ut1, sc⟩ := u_5
      have hP : va_P G.1 vwCl [(r, .inr (5, [.int (iz (6))])), (oa, .inr (9, [.ref ob, .int (iz (on1)), .long (lz (ot1))])), (ob, zaL (G.2 0) 40 (of1)), (ua, .inr (9, [.ref ub, .int (iz (un1)), .long (lz (ut1))])), (ub, zaL (G.2 0) 40 (uf1))] H := hP
      have hD : va_D A [(r, .inr (5, [.int (iz (6))])), (oa, .inr (9, [.ref ob, .int (iz (on1)), .long (lz (ot1))])), (ob, zaL (G.2 0) 40 (of1)), (ua, .inr (9, [.ref ub, .int (iz (un1)), .long (lz (ut1))])), (ub, zaL (G.2 0) 40 (uf1))] := hD
      have hdv : wq = v / v2 ∧ zwv of1 on1 ot1 (v % v2 * sc) ∧ zwv uf1 un1 ut1 (v2 * sc) ∧ 1 ≤ sc ∧ sc < 1073741824 := hdv
      have hsc := hdv.2.2.2
      have ho := hdv.2.1
      have hu := hdv.2.2.1
      have hz0 := hdv.1
      have hp0 : 0 ≤ v % v2 * sc := Int.mul_nonneg hr0 (by omega)
      have hp1 : v % v2 * sc ≤ v2 * sc := Int.mul_le_mul_of_nonneg_right (by omega) (by omega)
      have hp2 : v2 * sc ≤ v2 * 1073741824 := Int.mul_le_mul_of_nonneg_left (by omega) (by omega)
      have hp3 : 0 < v2 * sc := Int.mul_pos h4 (by omega)
      have ho37 := zwv_small ho (k := 37) (by omega) (by omega)
      have hu37 := zwv_small hu (k := 37) (by omega) (by omega)
      refine lv_lstore (lv' := [(4, .long (lz (wq))), (3, .int (iz (0))), (0, .ref r), (1, .ref oa), (2, .ref ua)]) hx hb dX4_ratio__29 hl (by decide) rfl (fun ls hl => ?_)
      refine lv_iconst (v := iz (0)) hx hb dX4_ratio__31 rfl ?_
      refine lv_istore (lv' := [(6, .int (iz (0))), (4, .long (lz (wq))), (3, .int (iz (0))), (0, .ref r), (1, .ref oa), (2, .ref ua)]) hx hb dX4_ratio__32 hl (by decide) rfl (fun ls hl => ?_)
      refine lv_aload_n hx hb dX4_ratio__34 rfl (lv_at hl 4 rfl) ?_
      refine zc_i (wr := [(r, .inr (5, [.int (iz (6))])), (ua, .inr (9, [.ref ub, .int (iz (un1)), .long (lz (ut1))])), (ub, zaL (G.2 0) 40 (uf1))]) (va_runV (As := []) (rest := []) ⟨hx, hb, hml, hown, hts⟩ (c_X8_sign l G oa ob of1 on1 ot1 (v % v2 * sc) (ho) H.size) (cwV 0 hts gX4_ratio__X8_sign rfl rfl rfl (by decide +kernel) ⟨Nat.le_of_ble_eq_true rfl, Nat.le_of_ble_eq_true rfl⟩) (zpV hKX hP hD [1, 2] rfl rfl 1 9 rfl rfl) rfl rfl hl.1 rfl (lv_room (Nat.le_of_ble_eq_true rfl)) dX4_ratio__35 ⟨(by first | exact Nat.le_of_ble_eq_true rfl | (show _ ≤ (0 : Nat); omega)), (by first | exact Nat.le_of_ble_eq_true rfl | (show _ ≤ (0 : Nat); omega))⟩) hP hD hS hA [1, 2] [0, 3, 4] rfl rfl rfl (by decide) (fun s2 u_7 H locs hs2 hP hD hS => ?_)
      have hP : va_P G.1 vwCl [(r, .inr (5, [.int (iz (6))])), (ua, .inr (9, [.ref ub, .int (iz (un1)), .long (lz (ut1))])), (ub, zaL (G.2 0) 40 (uf1)), (oa, .inr (9, [.ref ob, .int (iz (on1)), .long (lz (ot1))])), (ob, zaL (G.2 0) 40 (of1))] H := hP
      have hD : va_D A [(r, .inr (5, [.int (iz (6))])), (ua, .inr (9, [.ref ub, .int (iz (un1)), .long (lz (ut1))])), (ub, zaL (G.2 0) 40 (uf1)), (oa, .inr (9, [.ref ob, .int (iz (on1)), .long (lz (ot1))])), (ob, zaL (G.2 0) 40 (of1))] := hD
      have hs2 : s2 = (v % v2 * sc).sign := hs2
      have hs3 : -1 ≤ s2 ∧ s2 ≤ 1 := by rw [hs2]; exact zsgr _
      have hl_65 : ∀ (kd : Int) (g : Int → Int) (m0 : Int) (u0 : Int) (H : Heap) (locs : List Loc) (ls : Array Slot), ((kd = 0 ∧ v % v2 = 0) ∨ (kd = 1 ∧ 2 * (v % v2) < v2) ∨ (kd = 2 ∧ 2 * (v % v2) = v2) ∨ (kd = 3 ∧ v2 < 2 * (v % v2))) → va_P G.1 vwCl [(r, .inr (5, [.int (iz (6))])), (ua, .inr (9, [.ref ub, .int (iz (un1)), .long (lz (ut1))])), (ub, zaL (G.2 0) 40 (uf1)), (oa, .inr (9, [.ref ob, .int (iz (m0)), .long (lz (u0))])), (ob, zaL (G.2 0) 40 (g))] H → va_D A [(r, .inr (5, [.int (iz (6))])), (ua, .inr (9, [.ref ub, .int (iz (un1)), .long (lz (ut1))])), (ub, zaL (G.2 0) 40 (uf1)), (oa, .inr (9, [.ref ob, .int (iz (m0)), .long (lz (u0))])), (ob, zaL (G.2 0) 40 (g))] → va_S A s.heap H locs → lv_has ls 7 [(6, .int (iz (kd))), (4, .long (lz (wq))), (3, .int (iz (0))), (0, .ref r), (1, .ref oa), (2, .ref ua)] → W p l e rm_c_X4_ratio_ s m ([.ref r, .ref oa, .ref ua] : List Value).toArray below meth c H locs (0 + 0 + 0 + 0) (0 + 0 + 0 + 0) Q (F0 m 65 ls []) := by
        intro kd g m0 u0 H locs ls j1 hP hD hS hl
        refine lv_aload_n hx hb dX4_ratio__65 rfl (lv_at hl 3 rfl) ?_
        refine lv_iload_n hx hb dX4_ratio__66 rfl (lv_at hl 2 rfl) ?_
        refine lv_lload hx hb dX4_ratio__67 (lv_at hl 1 rfl) ?_
        refine lv_iload hx hb dX4_ratio__69 (lv_at hl 0 rfl) ?_
        refine zc_l (wr := [(ua, .inr (9, [.ref ub, .int (iz (un1)), .long (lz (ut1))])), (ub, zaL (G.2 0) 40 (uf1)), (oa, .inr (9, [.ref ob, .int (iz (m0)), .long (lz (u0))])), (ob, zaL (G.2 0) 40 (g))]) (va_runV (As := [.int (iz (0)), .long (lz (wq)), .int (iz (kd))]) (rest := []) ⟨hx, hb, hml, hown, hts⟩ (c_X4_rounded l G r false wq kd (by omega) (by omega) H.size) (cwV 3 hts gX4_ratio__X4_rounded rfl rfl rfl (by decide +kernel) ⟨Nat.le_of_ble_eq_true rfl, Nat.le_of_ble_eq_true rfl⟩) (zpV hKX hP hD [0] rfl rfl 0 5 rfl rfl) rfl rfl hl.1 rfl (lv_room (Nat.le_of_ble_eq_true rfl)) dX4_ratio__71 ⟨(by first | exact Nat.le_of_ble_eq_true rfl | (show _ ≤ (0 : Nat); omega)), (by first | exact Nat.le_of_ble_eq_true rfl | (show _ ≤ (0 : Nat); omega))⟩) hP hD hS hA [0] [1, 2, 3, 4] rfl rfl rfl (by decide) (fun zz u_9 H locs hz hP hD hS => ?_)
        have hP : va_P G.1 vwCl [(ua, .inr (9, [.ref ub, .int (iz (un1)), .long (lz (ut1))])), (ub, zaL (G.2 0) 40 (uf1)), (oa, .inr (9, [.ref ob, .int (iz (m0)), .long (lz (u0))])), (ob, zaL (G.2 0) 40 (g)), (r, .inr (5, [.int (iz (6))]))] H := hP
        have hD : va_D A [(ua, .inr (9, [.ref ub, .int (iz (un1)), .long (lz (ut1))])), (ub, zaL (G.2 0) 40 (uf1)), (oa, .inr (9, [.ref ob, .int (iz (m0)), .long (lz (u0))])), (ob, zaL (G.2 0) 40 (g)), (r, .inr (5, [.int (iz (6))]))] := hD
        have hz : zz = if false then -(wq + zha wq kd) else wq + zha wq kd := hz
        rw [hQ]
        exact zr_lret (z := zz) (u := (g, m0, u0, uf1, un1, ut1)) hx hb hr hlocks (hP.sub [4, 2, 3, 0, 1] rfl) (hD.sub [4, 2, 3, 0, 1] (by decide) rfl) hS (by first | exact Nat.le_of_ble_eq_true rfl | omega) (by first | exact Nat.le_of_ble_eq_true rfl | omega) dX4_ratio__74 (show zz = zr6 v v2 from by rw [hz, hz0, zr6_kp h3 h4 j1]; rfl)
      refine zr_if_le (x := s2) (tgt := 65) hx hb (⟨by omega, by omega⟩) dX4_ratio__38 (by decide) (fun h_11 => ?_) (fun h_11 => ?_)
      ·
        exact hl_65 0 of1 on1 ot1 _ _ _ (by first | exact Or.inl ⟨rfl, zrest0 hsc.1 hr0 (zsg_le hs2 (by omega))⟩ | exact Or.inr hkw) (hP) (hD) hS (hl)
      ·
        refine lv_aload_n hx hb dX4_ratio__41 rfl (lv_at hl 4 rfl) ?_
        refine zr_ldc2 (z := 2) hx hb hown (hts (.constantLong RX4 45 (2)) (by decide +kernel)) rfl dX4_ratio__42 ?_
        refine zc_v (wr := [(r, .inr (5, [.int (iz (6))])), (ua, .inr (9, [.ref ub, .int (iz (un1)), .long (lz (ut1))])), (ub, zaL (G.2 0) 40 (uf1))]) (va_runV (As := [.long (lz (2))]) (rest := []) ⟨hx, hb, hml, hown, hts⟩ (c_X8_times l G oa ob of1 on1 ot1 (v % v2 * sc) 2 (ho) (by omega) (by omega) H.size) (cwV 1 hts gX4_ratio__X8_times rfl rfl rfl (by decide +kernel) ⟨Nat.le_of_ble_eq_true rfl, Nat.le_of_ble_eq_true rfl⟩) (zpV hKX hP hD [3, 4] rfl rfl 3 9 rfl rfl) rfl rfl hl.1 rfl (lv_room (Nat.le_of_ble_eq_true rfl)) dX4_ratio__45 ⟨(by first | exact Nat.le_of_ble_eq_true rfl | (show _ ≤ (0 : Nat); omega)), (by first | exact Nat.le_of_ble_eq_true rfl | (show _ ≤ (0 : Nat); omega))⟩) hP hD hS hA [3, 4] [0, 1, 2] rfl rfl rfl (by decide) (fun u_12 H locs hx2 hP hD hS => ?_)
        obtain ⟨of2, on2, ot2⟩ := u_12
        have hP : va_P G.1 vwCl [(r, .inr (5, [.int (iz (6))])), (ua, .inr (9, [.ref ub, .int (iz (un1)), .long (lz (ut1))])), (ub, zaL (G.2 0) 40 (uf1)), (oa, .inr (9, [.ref ob, .int (iz (on2)), .long (lz (ot2))])), (ob, zaL (G.2 0) 40 (of2))] H := hP
        have hD : va_D A [(r, .inr (5, [.int (iz (6))])), (ua, .inr (9, [.ref ub, .int (iz (un1)), .long (lz (ut1))])), (ub, zaL (G.2 0) 40 (uf1)), (oa, .inr (9, [.ref ob, .int (iz (on2)), .long (lz (ot2))])), (ob, zaL (G.2 0) 40 (of2))] := hD
        have hx2 : zwv of2 on2 ot2 ((v % v2 * sc) * (2 : Int)) := hx2
        have ho38 := zwv_small hx2 (k := 37) (by omega) (by omega)
        refine lv_aload_n hx hb dX4_ratio__48 rfl (lv_at hl 4 rfl) ?_
        refine lv_aload_n hx hb dX4_ratio__49 rfl (lv_at hl 5 rfl) ?_
        refine lv_iconst (v := iz (0)) hx hb dX4_ratio__50 rfl ?_
        refine zc_z (wr := [(r, .inr (5, [.int (iz (6))]))]) (va_runV (As := [.ref ua, .int (iz (0))]) (rest := []) ⟨hx, hb, hml, hown, hts⟩ (c_X8_isAtLeast l G oa ob of2 on2 ot2 ua ub uf1 un1 ut1 (v % v2 * sc * 2) (v2 * sc) 0 (hx2) (hu) (by omega) (by omega) (by omega) (by omega) H.size) (cwV 2 hts gX4_ratio__X8_isAtLeast rfl rfl rfl (by decide +kernel) ⟨Nat.le_of_ble_eq_true rfl, Nat.le_of_ble_eq_true rfl⟩) (zpV hKX hP hD [3, 4, 1, 2] rfl rfl 3 9 rfl rfl) rfl rfl hl.1 rfl (lv_room (Nat.le_of_ble_eq_true rfl)) dX4_ratio__51 ⟨(by first | exact Nat.le_of_ble_eq_true rfl | (show _ ≤ (0 : Nat); omega)), (by first | exact Nat.le_of_ble_eq_true rfl | (show _ ≤ (0 : Nat); omega))⟩) hP hD hS hA [3, 4, 1, 2] [0] rfl rfl rfl (by decide) (fun al1 u_15 H locs hal1 hP hD hS => ?_)
        have hP : va_P G.1 vwCl [(r, .inr (5, [.int (iz (6))])), (oa, .inr (9, [.ref ob, .int (iz (on2)), .long (lz (ot2))])), (ob, zaL (G.2 0) 40 (of2)), (ua, .inr (9, [.ref ub, .int (iz (un1)), .long (lz (ut1))])), (ub, zaL (G.2 0) 40 (uf1))] H := hP
        have hD : va_D A [(r, .inr (5, [.int (iz (6))])), (oa, .inr (9, [.ref ob, .int (iz (on2)), .long (lz (ot2))])), (ob, zaL (G.2 0) 40 (of2)), (ua, .inr (9, [.ref ub, .int (iz (un1)), .long (lz (ut1))])), (ub, zaL (G.2 0) 40 (uf1))] := hD
        have hal1 : al1 = decide ((v2 * sc) * 1073741824 ^ (0 : Int).toNat ≤ (v % v2 * sc * 2)) := hal1
        refine lv_aload_n hx hb dX4_ratio__54 rfl (lv_at hl 5 rfl) ?_
        refine lv_aload_n hx hb dX4_ratio__55 rfl (lv_at hl 4 rfl) ?_
        refine lv_iconst (v := iz (0)) hx hb dX4_ratio__56 rfl ?_
        refine zc_z (wr := [(r, .inr (5, [.int (iz (6))]))]) (va_runV (As := [.ref oa, .int (iz (0))]) (rest := [.int (iz (zbb al1))]) ⟨hx, hb, hml, hown, hts⟩ (c_X8_isAtLeast l G ua ub uf1 un1 ut1 oa ob of2 on2 ot2 (v2 * sc) (v % v2 * sc * 2) 0 (hu) (hx2) (by omega) (by omega) (by omega) (by omega) H.size) (cwV 2 hts gX4_ratio__X8_isAtLeast rfl rfl rfl (by decide +kernel) ⟨Nat.le_of_ble_eq_true rfl, Nat.le_of_ble_eq_true rfl⟩) (zpV hKX hP hD [3, 4, 1, 2] rfl rfl 3 9 rfl rfl) rfl rfl hl.1 rfl (lv_room (Nat.le_of_ble_eq_true rfl)) dX4_ratio__57 ⟨(by first | exact Nat.le_of_ble_eq_true rfl | (show _ ≤ (0 : Nat); omega)), (by first | exact Nat.le_of_ble_eq_true rfl | (show _ ≤ (0 : Nat); omega))⟩) hP hD hS hA [3, 4, 1, 2] [0] rfl rfl rfl (by decide) (fun al2 u_17 H locs hal2 hP hD hS => ?_)
        have hP : va_P G.1 vwCl [(r, .inr (5, [.int (iz (6))])), (ua, .inr (9, [.ref ub, .int (iz (un1)), .long (lz (ut1))])), (ub, zaL (G.2 0) 40 (uf1)), (oa, .inr (9, [.ref ob, .int (iz (on2)), .long (lz (ot2))])), (ob, zaL (G.2 0) 40 (of2))] H := hP
        have hD : va_D A [(r, .inr (5, [.int (iz (6))])), (ua, .inr (9, [.ref ub, .int (iz (un1)), .long (lz (ut1))])), (ub, zaL (G.2 0) 40 (uf1)), (oa, .inr (9, [.ref ob, .int (iz (on2)), .long (lz (ot2))])), (ob, zaL (G.2 0) 40 (of2))] := hD
        have hal2 : al2 = decide ((v % v2 * sc * 2) * 1073741824 ^ (0 : Int).toNat ≤ (v2 * sc)) := hal2
        refine zc_i (wr := [(r, .inr (5, [.int (iz (6))])), (ua, .inr (9, [.ref ub, .int (iz (un1)), .long (lz (ut1))])), (ub, zaL (G.2 0) 40 (uf1)), (oa, .inr (9, [.ref ob, .int (iz (on2)), .long (lz (ot2))])), (ob, zaL (G.2 0) 40 (of2))]) (va_runS (As := [.int (iz (zbb al1)), .int (iz (zbb al2))]) (rest := []) ⟨hx, hb, hml, hown, hts⟩ (c_X4_kindOf l G al1 al2  H.size) (va_cwS 2 hts gX4_ratio__X4_kindOf rfl rfl rfl (by decide +kernel) ⟨Nat.le_of_ble_eq_true rfl, Nat.le_of_ble_eq_true rfl⟩) (zpS hKX hP hD [] rfl rfl) rfl rfl hl.1 rfl (lv_room (Nat.le_of_ble_eq_true rfl)) dX4_ratio__60 ⟨(by first | exact Nat.le_of_ble_eq_true rfl | (show _ ≤ (0 : Nat); omega)), (by first | exact Nat.le_of_ble_eq_true rfl | (show _ ≤ (0 : Nat); omega))⟩) hP hD hS hA [] [0, 1, 2, 3, 4] rfl rfl rfl (by decide) (fun ko u_19 H locs hko hP hD hS => ?_)
        have hP : va_P G.1 vwCl [(r, .inr (5, [.int (iz (6))])), (ua, .inr (9, [.ref ub, .int (iz (un1)), .long (lz (ut1))])), (ub, zaL (G.2 0) 40 (uf1)), (oa, .inr (9, [.ref ob, .int (iz (on2)), .long (lz (ot2))])), (ob, zaL (G.2 0) 40 (of2))] H := hP
        have hD : va_D A [(r, .inr (5, [.int (iz (6))])), (ua, .inr (9, [.ref ub, .int (iz (un1)), .long (lz (ut1))])), (ub, zaL (G.2 0) 40 (uf1)), (oa, .inr (9, [.ref ob, .int (iz (on2)), .long (lz (ot2))])), (ob, zaL (G.2 0) 40 (of2))] := hD
        have hko : ko = if al1 then if al2 then 2 else 3 else 1 := hko
        have hkw := zkind_w hsc.1 hal1 hal2 hko
        refine lv_istore (lv' := [(6, .int (iz (ko))), (4, .long (lz (wq))), (3, .int (iz (0))), (0, .ref r), (1, .ref oa), (2, .ref ua)]) hx hb dX4_ratio__63 hl (by decide) rfl (fun ls hl => ?_)
        refine W.widen (k := 0 + 0 + 0 + 0) (n := 0 + 0 + 0 + 0) (by omega) (by omega) ?_
        exact hl_65 ko of2 on2 ot2 _ _ _ (by first | exact Or.inl ⟨rfl, zrest0 hsc.1 hr0 (zsg_le hs2 (by omega))⟩ | exact Or.inr hkw) (hP) (hD) hS (hl)
    · exact absurd h_4 (by omega)
  · exact absurd h_3 (by omega)
