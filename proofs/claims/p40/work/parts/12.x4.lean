-- THE CLASS: Rounder by any way, demands (laid by wip/p40/y4.py)
theorem zsgr (v : Int) : -1 ≤ v.sign ∧ v.sign ≤ 1 := by
  rcases Int.lt_trichotomy v 0 with c | c | c
  · rw [Int.sign_eq_neg_one_of_neg c]; decide
  · rw [c]; decide
  · rw [Int.sign_eq_one_of_pos c]; decide
theorem zsg_pos {v s : Int} (h : s = v.sign) (hp : 0 < s) : 0 < v := Int.sign_pos_iff.mp (h ▸ hp)
theorem zsg_le {v s : Int} (h : s = v.sign) (hp : s ≤ 0) : v ≤ 0 := by
  rcases Int.lt_or_le 0 v with c | c
  · have := Int.sign_eq_one_of_pos c; omega
  · exact c
theorem zkind_w {r u sc k : Int} {b1 b2 : Bool} (hs : 1 ≤ sc) (h1 : b1 = decide (u * sc * 1073741824 ^ (0 : Int).toNat ≤ r * sc * 2)) (h2 : b2 = decide (r * sc * 2 * 1073741824 ^ (0 : Int).toNat ≤ u * sc)) (hk : k = if b1 then if b2 then 2 else 3 else 1) : (k = 1 ∧ 2 * r < u) ∨ (k = 2 ∧ 2 * r = u) ∨ (k = 3 ∧ u < 2 * r) := by
  have e0 : (1073741824 : Int) ^ (0 : Int).toNat = 1 := rfl
  rw [e0, Int.mul_one] at h1 h2
  have e1 : r * sc * 2 = 2 * r * sc := by rw [Int.mul_comm (r * sc) 2, Int.mul_assoc]
  rw [e1] at h1 h2
  have i1 : u * sc ≤ 2 * r * sc ↔ u ≤ 2 * r := ⟨fun h => Int.le_of_mul_le_mul_right h (by omega), fun h => Int.mul_le_mul_of_nonneg_right h (by omega)⟩
  have i2 : 2 * r * sc ≤ u * sc ↔ 2 * r ≤ u := ⟨fun h => Int.le_of_mul_le_mul_right h (by omega), fun h => Int.mul_le_mul_of_nonneg_right h (by omega)⟩
  have a1 : b1 = decide (u ≤ 2 * r) := h1.trans (decide_eq_decide.mpr i1)
  have a2 : b2 = decide (2 * r ≤ u) := h2.trans (decide_eq_decide.mpr i2)
  cases b1 <;> cases b2 <;> simp at a1 a2 hk <;> omega
theorem zrest0 {r sc : Int} (hs : 1 ≤ sc) (h0 : 0 ≤ r) (h : r * sc ≤ 0) : r = 0 := by
  rcases Int.lt_or_eq_of_le h0 with c | c
  · have := Int.mul_pos c (show 0 < sc by omega); omega
  · exact c.symm
theorem zB2 {v v2 : Int} (h0 : 0 ≤ v) (h2 : 0 < v2) (h : v < v2 * 1073741824 ^ 2) : 0 ≤ v / v2 ∧ v / v2 < 1152921504606846976 := by
  have e : (1073741824 : Int) ^ 2 = 1152921504606846976 := by decide +kernel
  rw [e, Int.mul_comm] at h
  exact ⟨Int.ediv_nonneg h0 (by omega), Int.ediv_lt_of_lt_mul h2 h⟩
theorem zsg_neg {v s : Int} (h : s = v.sign) (hp : s < 0) : v < 0 := Int.sign_neg_iff.mp (h ▸ hp)
theorem zsg_le0 {v s : Int} (h : s = v.sign) : 0 ≤ s → 0 ≤ v := fun hp => by
  rcases Int.lt_or_le v 0 with c | c
  · have := Int.sign_eq_neg_one_of_neg c; omega
  · exact c
theorem zrestp {r sc : Int} (hs : 1 ≤ sc) (h0 : 0 ≤ r) (h : 0 < r * sc) : 0 < r := by
  rcases Int.lt_or_eq_of_le h0 with c | c
  · exact c
  · rw [← c, Int.zero_mul] at h; omega
def rm_c_X9_demand_t : Room := { frames := 6, cells := 1, slots := 6, locals := 90 }
set_option maxHeartbeats 1000000 in
set_option maxRecDepth 100000 in
theorem c_X9_demand_t (l : Launch) (G : zG) (s1 s2 s3 : Nat) (b : Bool) (hl0 : l.stackTraces = false) : zMt l (zXE s1 s2 s3) G yX9_demand wsX9_demand rm_c_X9_demand_t [.int (iz (zbb b))] [] (fun A => zQv G (fun (_ : Unit) => b = true) (fun (_ : Unit) => []) A) (SX := Unit) (fun (E9 : String) (ux : Unit) => (E9 = "java/lang/IllegalArgumentException" ∧ b = false)) (fun (ux : Unit) => []) 1 6 := by
  refine zMt_of (cc := cX9_demand) (maxL := 1) (ret := none) (by decide) rfl (Nat.le_of_ble_eq_true rfl) ?_
  intro p e s m below meth c ls A Q hQ hx hb hr hts hown hlocks hml hout hKX hE hP hD hA hS hl
  have hl : lv_has ls 1 [(0, .int (iz (zbb b)))] := hl
  refine lv_iload_n hx hb dX9_demand_0 rfl (lv_at hl 0 rfl) ?_
  refine zr_ifz_ne (tgt := 15) hx hb dX9_demand_1 (by decide) (fun h => ?_) (fun h => ?_)
  · rw [hQ]
    exact vx_ret (zr_vret (u := ()) hx hb hr hlocks hP hD hS (Nat.le_of_ble_eq_true rfl) (Nat.le_of_ble_eq_true rfl) dX9_demand_15 h)
  rw [hQ]
  exact vx_throwSW (own := RX9) (cls := "java/lang/IllegalArgumentException") (text := "a parameter is out of range") (names := ["java/lang/RuntimeException", "java/lang/Exception"]) (ik := 281) (is := 283) (ic := 285) (sa := s1) hx hb hl0 hown (by decide +kernel) (by decide +kernel)
    (hts (.classLink RX9 281 "java/lang/IllegalArgumentException") (by decide +kernel)) (hts (.initialized "java/lang/IllegalArgumentException") (by decide +kernel)) hE.2.1
    (vx_hat (fun w hw => hts w (List.mem_cons_of_mem _ (List.mem_append_right _ hw))) (B := [.castable "java/lang/IllegalArgumentException" "java/lang/IllegalArgumentException", .declares ⟨"java/lang/RuntimeException", "<init>", "(Ljava/lang/String;)V"⟩, .declares ⟨"java/lang/Exception", "<init>", "(Ljava/lang/String;)V"⟩, .declares ⟨"java/lang/Throwable", "<init>", "(Ljava/lang/String;)V"⟩] ) (by decide +kernel) (vx_c (va_Nw.use rfl (hKX.2.2.2 (.castable "java/lang/IllegalArgumentException" "java/lang/IllegalArgumentException") (by decide +kernel))) (vx_c (va_Nw.use rfl hE.2.2.2.2.1) (vx_c (va_Nw.use rfl hE.2.2.2.2.2.1) (vx_c (va_Nw.use rfl hE.2.2.2.2.2.2) vx_n)))))
    (by decide +kernel) hE.1.1 hE.1.2 hS (hl.1.trans hml.symm) dX9_demand_4 dX9_demand_7 dX9_demand_8 dX9_demand_11 dX9_demand_14 (fun x hx => (hout x hx).elim)
    (Nat.le_of_ble_eq_true rfl) (Nat.le_of_ble_eq_true rfl) (Nat.le_of_ble_eq_true rfl) (Nat.le_of_ble_eq_true rfl) hlocks
    (fun t _ h1 h2 => ⟨(), trivial, ⟨⟨rfl, h⟩, (fun k q h9 => by simp at h9), zD_nil⟩, h1, fun q hq _ => h2 q hq⟩) (fun z hz => nomatch hz) (Nat.le_of_ble_eq_true rfl) (Nat.le_of_ble_eq_true rfl)

def rm_c_X9_demandState_t : Room := { frames := 6, cells := 1, slots := 6, locals := 90 }
set_option maxHeartbeats 1000000 in
set_option maxRecDepth 100000 in
theorem c_X9_demandState_t (l : Launch) (G : zG) (s1 s2 s3 : Nat) (b : Bool) (hl0 : l.stackTraces = false) : zMt l (zXE s1 s2 s3) G yX9_demandState wsX9_demandState rm_c_X9_demandState_t [.int (iz (zbb b))] [] (fun A => zQv G (fun (_ : Unit) => b = true) (fun (_ : Unit) => []) A) (SX := Unit) (fun (E9 : String) (ux : Unit) => (E9 = "java/lang/IllegalStateException" ∧ b = false)) (fun (ux : Unit) => []) 1 6 := by
  refine zMt_of (cc := cX9_demandState) (maxL := 1) (ret := none) (by decide) rfl (Nat.le_of_ble_eq_true rfl) ?_
  intro p e s m below meth c ls A Q hQ hx hb hr hts hown hlocks hml hout hKX hE hP hD hA hS hl
  have hl : lv_has ls 1 [(0, .int (iz (zbb b)))] := hl
  refine lv_iload_n hx hb dX9_demandState_0 rfl (lv_at hl 0 rfl) ?_
  refine zr_ifz_ne (tgt := 15) hx hb dX9_demandState_1 (by decide) (fun h => ?_) (fun h => ?_)
  · rw [hQ]
    exact vx_ret (zr_vret (u := ()) hx hb hr hlocks hP hD hS (Nat.le_of_ble_eq_true rfl) (Nat.le_of_ble_eq_true rfl) dX9_demandState_15 h)
  rw [hQ]
  exact vx_throwSW (own := RX9) (cls := "java/lang/IllegalStateException") (text := "not in this state") (names := ["java/lang/RuntimeException", "java/lang/Exception"]) (ik := 288) (is := 290) (ic := 292) (sa := s2) hx hb hl0 hown (by decide +kernel) (by decide +kernel)
    (hts (.classLink RX9 288 "java/lang/IllegalStateException") (by decide +kernel)) (hts (.initialized "java/lang/IllegalStateException") (by decide +kernel)) hE.2.2.1
    (vx_hat (fun w hw => hts w (List.mem_cons_of_mem _ (List.mem_append_right _ hw))) (B := [.castable "java/lang/IllegalStateException" "java/lang/IllegalStateException", .declares ⟨"java/lang/RuntimeException", "<init>", "(Ljava/lang/String;)V"⟩, .declares ⟨"java/lang/Exception", "<init>", "(Ljava/lang/String;)V"⟩, .declares ⟨"java/lang/Throwable", "<init>", "(Ljava/lang/String;)V"⟩] ) (by decide +kernel) (vx_c (va_Nw.use rfl (hKX.2.2.2 (.castable "java/lang/IllegalStateException" "java/lang/IllegalStateException") (by decide +kernel))) (vx_c (va_Nw.use rfl hE.2.2.2.2.1) (vx_c (va_Nw.use rfl hE.2.2.2.2.2.1) (vx_c (va_Nw.use rfl hE.2.2.2.2.2.2) vx_n)))))
    (by decide +kernel) hE.1.1 hE.1.2 hS (hl.1.trans hml.symm) dX9_demandState_4 dX9_demandState_7 dX9_demandState_8 dX9_demandState_11 dX9_demandState_14 (fun x hx => (hout x hx).elim)
    (Nat.le_of_ble_eq_true rfl) (Nat.le_of_ble_eq_true rfl) (Nat.le_of_ble_eq_true rfl) (Nat.le_of_ble_eq_true rfl) hlocks
    (fun t _ h1 h2 => ⟨(), trivial, ⟨⟨rfl, h⟩, (fun k q h9 => by simp at h9), zD_nil⟩, h1, fun q hq _ => h2 q hq⟩) (fun z hz => nomatch hz) (Nat.le_of_ble_eq_true rfl) (Nat.le_of_ble_eq_true rfl)

def rm_c_X9_demandElement_t : Room := { frames := 6, cells := 1, slots := 6, locals := 90 }
set_option maxHeartbeats 1000000 in
set_option maxRecDepth 100000 in
theorem c_X9_demandElement_t (l : Launch) (G : zG) (s1 s2 s3 : Nat) (b : Bool) (hl0 : l.stackTraces = false) : zMt l (zXE s1 s2 s3) G yX9_demandElement wsX9_demandElement rm_c_X9_demandElement_t [.int (iz (zbb b))] [] (fun A => zQv G (fun (_ : Unit) => b = true) (fun (_ : Unit) => []) A) (SX := Unit) (fun (E9 : String) (ux : Unit) => (E9 = "java/util/NoSuchElementException" ∧ b = false)) (fun (ux : Unit) => []) 1 6 := by
  refine zMt_of (cc := cX9_demandElement) (maxL := 1) (ret := none) (by decide) rfl (Nat.le_of_ble_eq_true rfl) ?_
  intro p e s m below meth c ls A Q hQ hx hb hr hts hown hlocks hml hout hKX hE hP hD hA hS hl
  have hl : lv_has ls 1 [(0, .int (iz (zbb b)))] := hl
  refine lv_iload_n hx hb dX9_demandElement_0 rfl (lv_at hl 0 rfl) ?_
  refine zr_ifz_ne (tgt := 15) hx hb dX9_demandElement_1 (by decide) (fun h => ?_) (fun h => ?_)
  · rw [hQ]
    exact vx_ret (zr_vret (u := ()) hx hb hr hlocks hP hD hS (Nat.le_of_ble_eq_true rfl) (Nat.le_of_ble_eq_true rfl) dX9_demandElement_15 h)
  rw [hQ]
  exact zx_throwSWX (ix := 13) (rx := zrx13) (own := RX9) (cls := "java/util/NoSuchElementException") (text := "there is no such one") (names := ["java/lang/RuntimeException", "java/lang/Exception"]) (ik := 293) (is := 295) (ic := 297) (sa := s3) hx hb hl0 (by decide +kernel) (by decide +kernel) (by decide +kernel) (by decide +kernel) hown (by decide +kernel) (by decide +kernel)
    (hts (.classLink RX9 293 "java/util/NoSuchElementException") (by decide +kernel)) (hts (.initialized "java/util/NoSuchElementException") (by decide +kernel)) hE.2.2.2.1
    (vx_hat (fun w hw => hts w (List.mem_cons_of_mem _ (List.mem_append_right _ hw))) (B := [.castable "java/util/NoSuchElementException" "java/util/NoSuchElementException", .declares ⟨"java/lang/RuntimeException", "<init>", "(Ljava/lang/String;)V"⟩, .declares ⟨"java/lang/Exception", "<init>", "(Ljava/lang/String;)V"⟩, .declares ⟨"java/lang/Throwable", "<init>", "(Ljava/lang/String;)V"⟩] ) (by decide +kernel) (vx_c (va_Nw.use rfl (hKX.2.2.2 (.castable "java/util/NoSuchElementException" "java/util/NoSuchElementException") (by decide +kernel))) (vx_c (va_Nw.use rfl hE.2.2.2.2.1) (vx_c (va_Nw.use rfl hE.2.2.2.2.2.1) (vx_c (va_Nw.use rfl hE.2.2.2.2.2.2) vx_n)))))
    (by decide +kernel) hE.1.1 hE.1.2 hS (hl.1.trans hml.symm) dX9_demandElement_4 dX9_demandElement_7 dX9_demandElement_8 dX9_demandElement_11 dX9_demandElement_14 (fun x hx => (hout x hx).elim)
    (Nat.le_of_ble_eq_true rfl) (Nat.le_of_ble_eq_true rfl) (Nat.le_of_ble_eq_true rfl) (Nat.le_of_ble_eq_true rfl) hlocks
    (fun t _ h1 h2 => ⟨(), trivial, ⟨⟨rfl, h⟩, (fun k q h9 => by simp at h9), zD_nil⟩, h1, fun q hq _ => h2 q hq⟩) (fun z hz => nomatch hz) (Nat.le_of_ble_eq_true rfl) (Nat.le_of_ble_eq_true rfl)

def rm_c_X9_isWithin : Room := { frames := 0, cells := 0, slots := 0, locals := 0 }
set_option maxHeartbeats 1000000 in
set_option maxRecDepth 100000 in
theorem c_X9_isWithin (l : Launch) (G : zG) (y : Int) (lo : Int) (hi : Int) (h1 : -9223372036854775808 ≤ y ∧ y < 9223372036854775808) (h2 : -9223372036854775808 ≤ lo ∧ lo < 9223372036854775808) (h3 : -9223372036854775808 ≤ hi ∧ hi < 9223372036854775808) : zM l G yX9_isWithin wsX9_isWithin rm_c_X9_isWithin [.long (lz (y)), .long (lz (lo)), .long (lz (hi))] [] (fun A => zQz G (fun (z : Bool) (_ : Unit) => z = decide (lo ≤ y ∧ y ≤ hi)) (fun (_ : Unit) => []) A) 0 0 := by
  refine zM_of (cc := cX9_isWithin) (maxL := 6) (ret := (some .boolean)) (by decide) rfl (Nat.le_of_ble_eq_true rfl) ?_
  intro p e s m below meth c ls A Q hQ hx hb hr hts hown hlocks hml hnm hKX hP hD hA hS hl
  have hK := hKX.1
  obtain ⟨H, hH⟩ : ∃ h, h = s.heap := ⟨_, rfl⟩
  obtain ⟨locs, hlo⟩ : ∃ h : List Loc, h = [] := ⟨_, rfl⟩
  have hS : va_S A s.heap H locs := by rw [hH, hlo]; exact hS
  have hP : va_P G.1 vwCl [] H := by rw [hH]; exact hP
  have hD : va_D A [] := hD
  have hl : lv_has ls 6 [(0, .long (lz (y))), (2, .long (lz (lo))), (4, .long (lz (hi)))] := hl
  rw [← hH, ← hlo]
  refine lv_lload_n hx hb dX9_isWithin_0 rfl (lv_at hl 1 rfl) ?_
  refine lv_lload_n hx hb dX9_isWithin_1 rfl (lv_at hl 0 rfl) ?_
  refine zr_lcmp_gt (x := lo) (y := y) (tgt := 17) hx hb (h2) (h1) dX9_isWithin_2 dX9_isWithin_3 (by decide) (fun h_1 => ?_) (fun h_1 => ?_)
  ·
    refine lv_iconst (v := iz (0)) hx hb dX9_isWithin_17 rfl ?_
    rw [hQ]
    exact zr_zret (z := false) (rfl) (u := ()) hx hb hr hlocks hP hD hS (by first | exact Nat.le_of_ble_eq_true rfl | omega) (by first | exact Nat.le_of_ble_eq_true rfl | omega) dX9_isWithin_18 (show false = decide (lo ≤ y ∧ y ≤ hi) from by first | exact (decide_eq_true (by omega)).symm | exact (decide_eq_false (by omega)).symm)
  ·
    refine lv_lload_n hx hb dX9_isWithin_6 rfl (lv_at hl 0 rfl) ?_
    refine lv_lload hx hb dX9_isWithin_7 (lv_at hl 2 rfl) ?_
    refine zr_lcmp_gt (x := y) (y := hi) (tgt := 17) hx hb (h1) (h3) dX9_isWithin_9 dX9_isWithin_10 (by decide) (fun h_2 => ?_) (fun h_2 => ?_)
    ·
      refine lv_iconst (v := iz (0)) hx hb dX9_isWithin_17 rfl ?_
      rw [hQ]
      exact zr_zret (z := false) (rfl) (u := ()) hx hb hr hlocks hP hD hS (by first | exact Nat.le_of_ble_eq_true rfl | omega) (by first | exact Nat.le_of_ble_eq_true rfl | omega) dX9_isWithin_18 (show false = decide (lo ≤ y ∧ y ≤ hi) from by first | exact (decide_eq_true (by omega)).symm | exact (decide_eq_false (by omega)).symm)
    ·
      refine lv_iconst (v := iz (1)) hx hb dX9_isWithin_13 rfl ?_
      refine lv_goto (tgt := 18) hx hb dX9_isWithin_14 (by decide) ?_
      rw [hQ]
      exact zr_zret (z := true) (rfl) (u := ()) hx hb hr hlocks hP hD hS (by first | exact Nat.le_of_ble_eq_true rfl | omega) (by first | exact Nat.le_of_ble_eq_true rfl | omega) dX9_isWithin_18 (show true = decide (lo ≤ y ∧ y ≤ hi) from by first | exact (decide_eq_true (by omega)).symm | exact (decide_eq_false (by omega)).symm)

def rm_c_X4_init : Room := { frames := 1, cells := 0, slots := 0, locals := 12 }
theorem iw_X4_init_X4 : ∀ w ∈ wsX40, w ∈ wsX4_init := by decide +kernel
set_option maxHeartbeats 1000000 in
set_option maxRecDepth 100000 in
theorem c_X4_init (l : Launch) (G : zG) (r : Nat)  : zM l G yX4_init wsX4_init rm_c_X4_init [.ref r] [(r, .inr (5, [.int (iz (0))]))] (fun A => zQv G (fun (_ : Unit) => True) (fun (_ : Unit) => [(r, .inr (5, [.int (iz (6))]))]) A) 0 0 := by
  refine zM_of (cc := cX4_init) (maxL := 1) (ret := none) (by decide) rfl (Nat.le_of_ble_eq_true rfl) ?_
  intro p e s m below meth c ls A Q hQ hx hb hr hts hown hlocks hml hnm hKX hP hD hA hS hl
  have hK := hKX.1
  have iwX4 := iw_X4_init_X4
  obtain ⟨H, hH⟩ : ∃ h, h = s.heap := ⟨_, rfl⟩
  obtain ⟨locs, hlo⟩ : ∃ h : List Loc, h = [] := ⟨_, rfl⟩
  have hS : va_S A s.heap H locs := by rw [hH, hlo]; exact hS
  have hP : va_P G.1 vwCl [(r, .inr (5, [.int (iz (0))]))] H := by rw [hH]; exact hP
  have hD : va_D A [(r, .inr (5, [.int (iz (0))]))] := hD
  have hl : lv_has ls 1 [(0, .ref r)] := hl
  rw [← hH, ← hlo]
  refine lv_aload_n hx hb dX4_init_0 rfl (lv_at hl 0 rfl) ?_
  refine W.objInit hx hb hown (hts (.methodLink RX4 3 objectInit) (by decide +kernel)) (hts (.instanceMethod objectInit) (by decide +kernel)) (hts (.code objectInit ⟨#[0xb1]⟩ 1 none) (by decide +kernel)) rfl (by rw [hml]; exact hl.1) rfl dX4_init_1 (Nat.le_of_ble_eq_true rfl) (Nat.le_of_ble_eq_true rfl) ?_
  refine lv_aload_n hx hb dX4_init_4 rfl (lv_at hl 0 rfl) ?_
  refine lv_bipush (v := iz (6)) hx hb dX4_init_5 rfl ?_
  refine va_put (D := G.1) (ci := 5) (v := .int (iz (6))) (ty := .int) (C := RX4) (T := TX4) (N := 1) hx hb hts iwX4 tyX4 tyX4_ok nmX4 hown hK hP hD hS 0 rfl rfl 0 (by decide) (hts (.fieldLink RX4 9 "AnnuityHouse$Rounder" "mode" "I") (by decide +kernel)) (fun _ h9 => h9) rfl (by decide +kernel) rfl rfl (Nat.le_of_ble_eq_true rfl) dX4_init_7 (fun H locs hP hD hS => ?_)
  have hP : va_P G.1 vwCl [(r, .inr (5, [.int (iz (6))]))] H := hP
  have hD : va_D A [(r, .inr (5, [.int (iz (6))]))] := hD
  rw [hQ]
  exact zr_vret (u := ()) hx hb hr hlocks hP hD hS (by first | exact Nat.le_of_ble_eq_true rfl | omega) (by first | exact Nat.le_of_ble_eq_true rfl | omega) dX4_init_10 (show True from trivial)

def rm_c_X4_kindOf : Room := { frames := 0, cells := 0, slots := 0, locals := 0 }
set_option maxHeartbeats 1000000 in
set_option maxRecDepth 100000 in
theorem c_X4_kindOf (l : Launch) (G : zG) (b1 : Bool) (b2 : Bool)  : zM l G yX4_kindOf wsX4_kindOf rm_c_X4_kindOf [.int (iz (zbb b1)), .int (iz (zbb b2))] [] (fun A => zQi G (fun (z : Int) (_ : Unit) => z = if b1 then if b2 then 2 else 3 else 1) (fun (_ : Unit) => []) A) 0 0 := by
  refine zM_of (cc := cX4_kindOf) (maxL := 2) (ret := (some .int)) (by decide) rfl (Nat.le_of_ble_eq_true rfl) ?_
  intro p e s m below meth c ls A Q hQ hx hb hr hts hown hlocks hml hnm hKX hP hD hA hS hl
  have hK := hKX.1
  obtain ⟨H, hH⟩ : ∃ h, h = s.heap := ⟨_, rfl⟩
  obtain ⟨locs, hlo⟩ : ∃ h : List Loc, h = [] := ⟨_, rfl⟩
  have hS : va_S A s.heap H locs := by rw [hH, hlo]; exact hS
  have hP : va_P G.1 vwCl [] H := by rw [hH]; exact hP
  have hD : va_D A [] := hD
  have hl : lv_has ls 2 [(0, .int (iz (zbb b1))), (1, .int (iz (zbb b2)))] := hl
  rw [← hH, ← hlo]
  refine lv_iload_n hx hb dX4_kindOf_0 rfl (lv_at hl 0 rfl) ?_
  refine zr_ifz_ne (tgt := 6) hx hb dX4_kindOf_1 (by decide) (fun h_1 => ?_) (fun h_1 => ?_)
  ·
    refine lv_iload_n hx hb dX4_kindOf_6 rfl (lv_at hl 1 rfl) ?_
    refine zr_ifz_eq (tgt := 14) hx hb dX4_kindOf_7 (by decide) (fun h_2 => ?_) (fun h_2 => ?_)
    ·
      refine lv_iconst (v := iz (3)) hx hb dX4_kindOf_14 rfl ?_
      rw [hQ]
      exact zr_iret (z := 3) (u := ()) hx hb hr hlocks hP hD hS (by first | exact Nat.le_of_ble_eq_true rfl | omega) (by first | exact Nat.le_of_ble_eq_true rfl | omega) dX4_kindOf_15 (show 3 = if b1 then if b2 then 2 else 3 else 1 from by subst_vars; rfl)
    ·
      refine lv_iconst (v := iz (2)) hx hb dX4_kindOf_10 rfl ?_
      refine lv_goto (tgt := 15) hx hb dX4_kindOf_11 (by decide) ?_
      rw [hQ]
      exact zr_iret (z := 2) (u := ()) hx hb hr hlocks hP hD hS (by first | exact Nat.le_of_ble_eq_true rfl | omega) (by first | exact Nat.le_of_ble_eq_true rfl | omega) dX4_kindOf_15 (show 2 = if b1 then if b2 then 2 else 3 else 1 from by subst_vars; rfl)
  ·
    refine lv_iconst (v := iz (1)) hx hb dX4_kindOf_4 rfl ?_
    rw [hQ]
    exact zr_iret (z := 1) (u := ()) hx hb hr hlocks hP hD hS (by first | exact Nat.le_of_ble_eq_true rfl | omega) (by first | exact Nat.le_of_ble_eq_true rfl | omega) dX4_kindOf_5 (show 1 = if b1 then if b2 then 2 else 3 else 1 from by subst_vars; rfl)

def rm_c_X4_isAway : Room := { frames := 0, cells := 0, slots := 0, locals := 0 }
theorem iw_X4_isAway_X4 : ∀ w ∈ wsX40, w ∈ wsX4_isAway := by decide +kernel
set_option maxHeartbeats 1000000 in
set_option maxRecDepth 100000 in
theorem c_X4_isAway (l : Launch) (G : zG) (r : Nat) (md : Int) (b : Bool) (w : Int) (k : Int) (hmd : 0 ≤ md ∧ md ≤ 7) (h1 : 0 ≤ w ∧ w < 4611686018427387904) (h2 : 0 ≤ k ∧ k ≤ 3) : zM l G yX4_isAway wsX4_isAway rm_c_X4_isAway [.ref r, .int (iz (zbb b)), .long (lz (w)), .int (iz (k))] [(r, .inr (5, [.int (iz (md))]))] (fun A => zQz G (fun (z : Bool) (_ : Unit) => z = decide (zaw md b w k)) (fun (_ : Unit) => [(r, .inr (5, [.int (iz (md))]))]) A) 0 0 := by
  refine zM_of (cc := cX4_isAway) (maxL := 5) (ret := (some .boolean)) (by decide) rfl (Nat.le_of_ble_eq_true rfl) ?_
  intro p e s m below meth c ls A Q hQ hx hb hr hts hown hlocks hml hnm hKX hP hD hA hS hl
  have hK := hKX.1
  have iwX4 := iw_X4_isAway_X4
  obtain ⟨H, hH⟩ : ∃ h, h = s.heap := ⟨_, rfl⟩
  obtain ⟨locs, hlo⟩ : ∃ h : List Loc, h = [] := ⟨_, rfl⟩
  have hS : va_S A s.heap H locs := by rw [hH, hlo]; exact hS
  have hP : va_P G.1 vwCl [(r, .inr (5, [.int (iz (md))]))] H := by rw [hH]; exact hP
  have hD : va_D A [(r, .inr (5, [.int (iz (md))]))] := hD
  have hl : lv_has ls 5 [(0, .ref r), (1, .int (iz (zbb b))), (2, .long (lz (w))), (4, .int (iz (k)))] := hl
  rw [← hH, ← hlo]
  refine lv_aload_n hx hb dX4_isAway_0 rfl (lv_at hl 0 rfl) ?_
  refine va_get (D := G.1) (ci := 5) (v := .int (iz (md))) (C := RX4) (T := TX4) (N := 1) hx hb hts iwX4 hown hK hP 0 rfl rfl 0 (by decide) (hts (.fieldLink RX4 9 "AnnuityHouse$Rounder" "mode" "I") (by decide +kernel)) (fun _ h9 => h9) rfl dX4_isAway_1 ?_
  have hsi_4 := iz_toInt (z := md) (⟨by omega, by omega⟩)
  by_cases hsw_4_0 : md = 0
  ·
    refine lv_tableIn (tgt := 44) hx hb dX4_isAway_4 (by omega) (by omega) (off := 40) (by rw [hsi_4, hsw_4_0]; rfl) (by decide) ?_
    refine lv_iconst (v := iz (1)) hx hb dX4_isAway_44 rfl ?_
    rw [hQ]
    exact zr_zret (z := true) (rfl) (u := ()) hx hb hr hlocks hP hD hS (by first | exact Nat.le_of_ble_eq_true rfl | omega) (by first | exact Nat.le_of_ble_eq_true rfl | omega) dX4_isAway_45 (show true = decide (zaw md b w k) from (decide_eq_true (Or.inl hsw_4_0)).symm)
  by_cases hsw_4_1 : md = 1
  ·
    refine lv_tableIn (tgt := 46) hx hb dX4_isAway_4 (by omega) (by omega) (off := 42) (by rw [hsi_4, hsw_4_1]; rfl) (by decide) ?_
    refine lv_iconst (v := iz (0)) hx hb dX4_isAway_46 rfl ?_
    rw [hQ]
    exact zr_zret (z := false) (rfl) (u := ()) hx hb hr hlocks hP hD hS (by first | exact Nat.le_of_ble_eq_true rfl | omega) (by first | exact Nat.le_of_ble_eq_true rfl | omega) dX4_isAway_47 (show false = decide (zaw md b w k) from (decide_eq_false (by subst hsw_4_1; simp [zaw])).symm)
  by_cases hsw_4_2 : md = 2
  ·
    refine lv_tableIn (tgt := 48) hx hb dX4_isAway_4 (by omega) (by omega) (off := 44) (by rw [hsi_4, hsw_4_2]; rfl) (by decide) ?_
    refine lv_iload_n hx hb dX4_isAway_48 rfl (lv_at hl 1 rfl) ?_
    refine zr_ifz_ne (tgt := 56) hx hb dX4_isAway_49 (by decide) (fun h_1 => ?_) (fun h_1 => ?_)
    ·
      have hbx : b = true := h_1
      refine lv_iconst (v := iz (0)) hx hb dX4_isAway_56 rfl ?_
      rw [hQ]
      exact zr_zret (z := false) (rfl) (u := ()) hx hb hr hlocks hP hD hS (by first | exact Nat.le_of_ble_eq_true rfl | omega) (by first | exact Nat.le_of_ble_eq_true rfl | omega) dX4_isAway_57 (show false = decide (zaw md b w k) from by subst hsw_4_2; rw [hbx]; first | exact (decide_eq_true (by simp [zaw])).symm | exact (decide_eq_false (by simp [zaw])).symm)
    ·
      have hbx : b = false := h_1
      refine lv_iconst (v := iz (1)) hx hb dX4_isAway_52 rfl ?_
      refine lv_goto (tgt := 57) hx hb dX4_isAway_53 (by decide) ?_
      rw [hQ]
      exact zr_zret (z := true) (rfl) (u := ()) hx hb hr hlocks hP hD hS (by first | exact Nat.le_of_ble_eq_true rfl | omega) (by first | exact Nat.le_of_ble_eq_true rfl | omega) dX4_isAway_57 (show true = decide (zaw md b w k) from by subst hsw_4_2; rw [hbx]; first | exact (decide_eq_true (by simp [zaw])).symm | exact (decide_eq_false (by simp [zaw])).symm)
  by_cases hsw_4_3 : md = 3
  ·
    refine lv_tableIn (tgt := 58) hx hb dX4_isAway_4 (by omega) (by omega) (off := 54) (by rw [hsi_4, hsw_4_3]; rfl) (by decide) ?_
    refine lv_iload_n hx hb dX4_isAway_58 rfl (lv_at hl 1 rfl) ?_
    rw [hQ]
    exact zr_zret (z := b) (rfl) (u := ()) hx hb hr hlocks hP hD hS (by first | exact Nat.le_of_ble_eq_true rfl | omega) (by first | exact Nat.le_of_ble_eq_true rfl | omega) dX4_isAway_59 (show b = decide (zaw md b w k) from by subst hsw_4_3; cases b <;> simp [zaw])
  by_cases hsw_4_4 : md = 4
  ·
    refine lv_tableIn (tgt := 60) hx hb dX4_isAway_4 (by omega) (by omega) (off := 56) (by rw [hsi_4, hsw_4_4]; rfl) (by decide) ?_
    refine lv_iload hx hb dX4_isAway_60 (lv_at hl 3 rfl) ?_
    refine lv_iconst (v := iz (2)) hx hb dX4_isAway_62 rfl ?_
    refine zr_icmp_lt (x := k) (y := 2) (tgt := 70) hx hb (⟨by omega, by omega⟩) (⟨by omega, by omega⟩) dX4_isAway_63 (by decide) (fun h_2 => ?_) (fun h_2 => ?_)
    ·
      refine lv_iconst (v := iz (0)) hx hb dX4_isAway_70 rfl ?_
      rw [hQ]
      exact zr_zret (z := false) (rfl) (u := ()) hx hb hr hlocks hP hD hS (by first | exact Nat.le_of_ble_eq_true rfl | omega) (by first | exact Nat.le_of_ble_eq_true rfl | omega) dX4_isAway_71 (show false = decide (zaw md b w k) from by subst hsw_4_4; first | exact (decide_eq_true (by simp [zaw]; omega)).symm | exact (decide_eq_false (by simp [zaw]; omega)).symm)
    ·
      refine lv_iconst (v := iz (1)) hx hb dX4_isAway_66 rfl ?_
      refine lv_goto (tgt := 71) hx hb dX4_isAway_67 (by decide) ?_
      rw [hQ]
      exact zr_zret (z := true) (rfl) (u := ()) hx hb hr hlocks hP hD hS (by first | exact Nat.le_of_ble_eq_true rfl | omega) (by first | exact Nat.le_of_ble_eq_true rfl | omega) dX4_isAway_71 (show true = decide (zaw md b w k) from by subst hsw_4_4; first | exact (decide_eq_true (by simp [zaw]; omega)).symm | exact (decide_eq_false (by simp [zaw]; omega)).symm)
  by_cases hsw_4_5 : md = 5
  ·
    refine lv_tableIn (tgt := 72) hx hb dX4_isAway_4 (by omega) (by omega) (off := 68) (by rw [hsi_4, hsw_4_5]; rfl) (by decide) ?_
    refine lv_iload hx hb dX4_isAway_72 (lv_at hl 3 rfl) ?_
    refine lv_iconst (v := iz (2)) hx hb dX4_isAway_74 rfl ?_
    refine zr_icmp_le (x := k) (y := 2) (tgt := 82) hx hb (⟨by omega, by omega⟩) (⟨by omega, by omega⟩) dX4_isAway_75 (by decide) (fun h_3 => ?_) (fun h_3 => ?_)
    ·
      refine lv_iconst (v := iz (0)) hx hb dX4_isAway_82 rfl ?_
      rw [hQ]
      exact zr_zret (z := false) (rfl) (u := ()) hx hb hr hlocks hP hD hS (by first | exact Nat.le_of_ble_eq_true rfl | omega) (by first | exact Nat.le_of_ble_eq_true rfl | omega) dX4_isAway_83 (show false = decide (zaw md b w k) from by subst hsw_4_5; first | exact (decide_eq_true (by simp [zaw]; omega)).symm | exact (decide_eq_false (by simp [zaw]; omega)).symm)
    ·
      refine lv_iconst (v := iz (1)) hx hb dX4_isAway_78 rfl ?_
      refine lv_goto (tgt := 83) hx hb dX4_isAway_79 (by decide) ?_
      rw [hQ]
      exact zr_zret (z := true) (rfl) (u := ()) hx hb hr hlocks hP hD hS (by first | exact Nat.le_of_ble_eq_true rfl | omega) (by first | exact Nat.le_of_ble_eq_true rfl | omega) dX4_isAway_83 (show true = decide (zaw md b w k) from by subst hsw_4_5; first | exact (decide_eq_true (by simp [zaw]; omega)).symm | exact (decide_eq_false (by simp [zaw]; omega)).symm)
  refine lv_tableOut (tgt := 84) hx hb dX4_isAway_4 (by omega) (by decide) ?_
  refine lv_iload hx hb dX4_isAway_84 (lv_at hl 3 rfl) ?_
  refine lv_iconst (v := iz (2)) hx hb dX4_isAway_86 rfl ?_
  refine zr_icmp_gt (x := k) (y := 2) (tgt := 106) hx hb (⟨by omega, by omega⟩) (⟨by omega, by omega⟩) dX4_isAway_87 (by decide) (fun h_4 => ?_) (fun h_4 => ?_)
  ·
    refine lv_iconst (v := iz (1)) hx hb dX4_isAway_106 rfl ?_
    refine lv_goto (tgt := 111) hx hb dX4_isAway_107 (by decide) ?_
    rw [hQ]
    exact zr_zret (z := true) (rfl) (u := ()) hx hb hr hlocks hP hD hS (by first | exact Nat.le_of_ble_eq_true rfl | omega) (by first | exact Nat.le_of_ble_eq_true rfl | omega) dX4_isAway_111 (show true = decide (zaw md b w k) from by first | exact (decide_eq_true (show zaw md b w k from by unfold zaw; omega)).symm | exact (decide_eq_false (show ¬ zaw md b w k from by unfold zaw; omega)).symm)
  ·
    refine lv_iload hx hb dX4_isAway_90 (lv_at hl 3 rfl) ?_
    refine lv_iconst (v := iz (2)) hx hb dX4_isAway_92 rfl ?_
    refine zr_icmp_ne (x := k) (y := 2) (tgt := 110) hx hb (⟨by omega, by omega⟩) (⟨by omega, by omega⟩) dX4_isAway_93 (by decide) (fun h_5 => ?_) (fun h_5 => ?_)
    ·
      refine lv_iconst (v := iz (0)) hx hb dX4_isAway_110 rfl ?_
      rw [hQ]
      exact zr_zret (z := false) (rfl) (u := ()) hx hb hr hlocks hP hD hS (by first | exact Nat.le_of_ble_eq_true rfl | omega) (by first | exact Nat.le_of_ble_eq_true rfl | omega) dX4_isAway_111 (show false = decide (zaw md b w k) from by first | exact (decide_eq_true (show zaw md b w k from by unfold zaw; omega)).symm | exact (decide_eq_false (show ¬ zaw md b w k from by unfold zaw; omega)).symm)
    ·
      refine lv_lload_n hx hb dX4_isAway_96 rfl (lv_at hl 2 rfl) ?_
      refine zr_ldc2 (z := 2) hx hb hown (hts (.constantLong RX4 45 (2)) (by decide +kernel)) rfl dX4_isAway_97 ?_
      refine zr_lrem hx hb (x := w) (y := 2) ⟨by omega, by omega⟩ ⟨by omega, by omega⟩ (by omega) (by omega) dX4_isAway_100 ?_
      refine lv_lconst (v := lz (0)) hx hb dX4_isAway_101 rfl ?_
      refine zr_lcmp_eq (x := w % 2) (y := 0) (tgt := 110) hx hb (⟨by omega, by omega⟩) (⟨by omega, by omega⟩) dX4_isAway_102 dX4_isAway_103 (by decide) (fun h_6 => ?_) (fun h_6 => ?_)
      ·
        refine lv_iconst (v := iz (0)) hx hb dX4_isAway_110 rfl ?_
        rw [hQ]
        exact zr_zret (z := false) (rfl) (u := ()) hx hb hr hlocks hP hD hS (by first | exact Nat.le_of_ble_eq_true rfl | omega) (by first | exact Nat.le_of_ble_eq_true rfl | omega) dX4_isAway_111 (show false = decide (zaw md b w k) from by first | exact (decide_eq_true (show zaw md b w k from by unfold zaw; omega)).symm | exact (decide_eq_false (show ¬ zaw md b w k from by unfold zaw; omega)).symm)
      ·
        refine lv_iconst (v := iz (1)) hx hb dX4_isAway_106 rfl ?_
        refine lv_goto (tgt := 111) hx hb dX4_isAway_107 (by decide) ?_
        rw [hQ]
        exact zr_zret (z := true) (rfl) (u := ()) hx hb hr hlocks hP hD hS (by first | exact Nat.le_of_ble_eq_true rfl | omega) (by first | exact Nat.le_of_ble_eq_true rfl | omega) dX4_isAway_111 (show true = decide (zaw md b w k) from by first | exact (decide_eq_true (show zaw md b w k from by unfold zaw; omega)).symm | exact (decide_eq_false (show ¬ zaw md b w k from by unfold zaw; omega)).symm)

def rm_c_X4_rounded : Room := { frames := 7, cells := 1, slots := 6, locals := 110 }
theorem iw_X4_rounded_X4 : ∀ w ∈ wsX40, w ∈ wsX4_rounded := by decide +kernel
set_option maxHeartbeats 1000000 in
set_option maxRecDepth 100000 in
theorem c_X4_rounded (l : Launch) (G : zG) (s1 : Nat) (s2 : Nat) (s3 : Nat) (r : Nat) (md : Int) (b : Bool) (w : Int) (k : Int) (hl0 : l.stackTraces = false) (hmd : 0 ≤ md ∧ md ≤ 7) (h1 : 0 ≤ w ∧ w < 4611686018427387904) (h2 : 0 ≤ k ∧ k ≤ 3) : zMt l (zXE s1 s2 s3) G yX4_rounded wsX4_rounded rm_c_X4_rounded [.ref r, .int (iz (zbb b)), .long (lz (w)), .int (iz (k))] [(r, .inr (5, [.int (iz (md))]))] (fun A => zQl G (fun (z : Int) (_ : Unit) => (k = 0 ∨ md ≠ 7) ∧ z = if b = true then -(w + if k ≠ 0 ∧ zaw md b w k then 1 else 0) else w + if k ≠ 0 ∧ zaw md b w k then 1 else 0) (fun (_ : Unit) => [(r, .inr (5, [.int (iz (md))]))]) A) (SX := Unit) (fun (E9 : String) (ux : Unit) => (E9 = "java/lang/IllegalStateException" ∧ k ≠ 0 ∧ md = 7)) (fun (ux : Unit) => [(r, .inr (5, [.int (iz (md))]))]) 1 6 := by
  refine zMt_of (cc := cX4_rounded) (maxL := 7) (ret := (some .long)) (by decide) rfl (Nat.le_of_ble_eq_true rfl) ?_
  intro p e s m below meth c ls A Q hQ hx hb hr hts hown hlocks hml hout hKX hE hP hD hA hS hl
  have hK := hKX.1
  have iwX4 := iw_X4_rounded_X4
  obtain ⟨H, hH⟩ : ∃ h, h = s.heap := ⟨_, rfl⟩
  obtain ⟨locs, hlo⟩ : ∃ h : List Loc, h = [] := ⟨_, rfl⟩
  have hS : va_S A s.heap H locs := by rw [hH, hlo]; exact hS
  have hP : va_P G.1 vwCl [(r, .inr (5, [.int (iz (md))]))] H := by rw [hH]; exact hP
  have hD : va_D A [(r, .inr (5, [.int (iz (md))]))] := hD
  have hl : lv_has ls 7 [(0, .ref r), (1, .int (iz (zbb b))), (2, .long (lz (w))), (4, .int (iz (k)))] := hl
  rw [← hH, ← hlo]
  refine lv_lload_n hx hb dX4_rounded_0 rfl (lv_at hl 2 rfl) ?_
  refine lv_lstore (lv' := [(5, .long (lz (w))), (0, .ref r), (1, .int (iz (zbb b))), (2, .long (lz (w))), (4, .int (iz (k)))]) hx hb dX4_rounded_1 hl (by decide) rfl (fun ls hl => ?_)
  have hl_22 : ∀ (bq : Bool) (H : Heap) (locs : List Loc) (ls : Array Slot), (k ≠ 0) → (bq = decide (md ≠ 7)) → va_P G.1 vwCl [(r, .inr (5, [.int (iz (md))]))] H → va_D A [(r, .inr (5, [.int (iz (md))]))] → va_S A s.heap H locs → lv_has ls 7 [(5, .long (lz (w))), (0, .ref r), (1, .int (iz (zbb b))), (2, .long (lz (w))), (4, .int (iz (k)))] → W p l e rm_c_X4_rounded s m ([.ref r, .int (iz (zbb b)), .long (lz (w)), .int (iz (k))] : List Value).toArray below meth c H locs 0 0 Q (F0 m 22 ls [.int (iz (zbb bq))]) := by
    intro bq H locs ls jk jq hP hD hS hl
    refine zct_v (wr := [(r, .inr (5, [.int (iz (md))]))]) (vx_runSN (As := [.int (iz (zbb bq))]) (rest := []) ⟨hx, hb, hml, hown, hts⟩ (c_X9_demandState_t l G s1 s2 s3 bq hl0 H.size) ⟨va_cnB 1 hts gX4_rounded_X9_demandState_n51 rfl rfl rfl (hKX.2.2.2 (.methodLinkNest "AnnuityHouse$Rounder" 51 ⟨"AnnuityHouse", "demandState", "(Z)V"⟩ "AnnuityHouse") (by decide +kernel)) (hts (.initialized RX9) (by decide +kernel)) (by decide +kernel) ⟨Nat.le_of_ble_eq_true rfl, Nat.le_of_ble_eq_true rfl⟩, hts (.static yX9_demandState) (by decide +kernel), trivial⟩ (zpSe zXE_ok hE hS hA hKX hP hD [] rfl rfl) rfl rfl hl.1 rfl (lv_room (Nat.le_of_ble_eq_true rfl)) dX4_rounded_22 ⟨(by first | exact Nat.le_of_ble_eq_true rfl | (show _ ≤ (1 : Nat); omega)), (by first | exact Nat.le_of_ble_eq_true rfl | (show _ ≤ (6 : Nat); omega))⟩) hP hD hS hA [] [0] rfl rfl rfl (by decide) (fun E9 ce9 q9 ux_3 H locs hx9_4 hP hD hS hce9 hcv9 hcl9 => ?_) (fun u_2 H locs td hP hD hS => ?_)
    ·
      have hP : va_P G.1 vwCl [(r, .inr (5, [.int (iz (md))]))] H := hP
      have hD : va_D A [(r, .inr (5, [.int (iz (md))]))] := hD
      rcases hx9_4 with ⟨rfl, hxc⟩
      ·
        have hxc : bq = false := hxc
        rw [hQ]
        exact zt_out () hout hlocks hce9 hcv9 hcl9 hP hD hS ⟨rfl, (show k ≠ 0 ∧ md = 7 from ⟨by omega, by have := of_decide_eq_false (jq.symm.trans hxc); omega⟩)⟩ (by first | exact Nat.le_of_ble_eq_true rfl | omega) (by first | exact Nat.le_of_ble_eq_true rfl | omega)
    have hP : va_P G.1 vwCl [(r, .inr (5, [.int (iz (md))]))] H := hP
    have hD : va_D A [(r, .inr (5, [.int (iz (md))]))] := hD
    have td : bq = true := td
    refine lv_lload hx hb dX4_rounded_25 (lv_at hl 0 rfl) ?_
    refine lv_aload_n hx hb dX4_rounded_27 rfl (lv_at hl 1 rfl) ?_
    refine lv_iload_n hx hb dX4_rounded_28 rfl (lv_at hl 2 rfl) ?_
    refine lv_lload_n hx hb dX4_rounded_29 rfl (lv_at hl 3 rfl) ?_
    refine lv_iload hx hb dX4_rounded_30 (lv_at hl 4 rfl) ?_
    refine zc_z (wr := []) (va_runV (As := [.int (iz (zbb b)), .long (lz (w)), .int (iz (k))]) (rest := [.long (lz (w))]) ⟨hx, hb, hml, hown, hts⟩ (c_X4_isAway l G r md b w k (by omega) (by omega) (by omega) H.size) (cwV 3 hts gX4_rounded_X4_isAway rfl rfl rfl (by decide +kernel) ⟨Nat.le_of_ble_eq_true rfl, Nat.le_of_ble_eq_true rfl⟩) (zpV hKX hP hD [0] rfl rfl 0 5 rfl rfl) rfl rfl hl.1 rfl (lv_room (Nat.le_of_ble_eq_true rfl)) dX4_rounded_32 ⟨(by first | exact Nat.le_of_ble_eq_true rfl | (show _ ≤ (1 : Nat); omega)), (by first | exact Nat.le_of_ble_eq_true rfl | (show _ ≤ (6 : Nat); omega))⟩) hP hD hS hA [0] [] rfl rfl rfl (by decide) (fun aw u_5 H locs haw hP hD hS => ?_)
    have hP : va_P G.1 vwCl [(r, .inr (5, [.int (iz (md))]))] H := hP
    have hD : va_D A [(r, .inr (5, [.int (iz (md))]))] := hD
    have haw : aw = decide (zaw md b w k) := haw
    refine zr_ifz_eq (tgt := 42) hx hb dX4_rounded_35 (by decide) (fun h_7 => ?_) (fun h_7 => ?_)
    ·
      have hzaw := of_decide_eq_false (haw.symm.trans h_7)
      have hh : (if k ≠ 0 ∧ zaw md b w k then (1 : Int) else 0) = 0 := if_neg (fun q => of_decide_eq_false (haw.symm.trans h_7) q.2)
      have hok : k = 0 ∨ md ≠ 7 := Or.inr (of_decide_eq_true (jq.symm.trans td))
      refine lv_lconst (v := lz (0)) hx hb dX4_rounded_42 rfl ?_
      refine zr_ladd hx hb dX4_rounded_43 ?_
      refine lv_lstore (lv' := [(5, .long (lz (w + 0))), (0, .ref r), (1, .int (iz (zbb b))), (2, .long (lz (w))), (4, .int (iz (k)))]) hx hb dX4_rounded_44 hl (by decide) rfl (fun ls hl => ?_)
      refine lv_iload_n hx hb dX4_rounded_46 rfl (lv_at hl 2 rfl) ?_
      refine zr_ifz_eq (tgt := 56) hx hb dX4_rounded_47 (by decide) (fun h_8 => ?_) (fun h_8 => ?_)
      ·
        have hb0 := h_8
        refine lv_lload hx hb dX4_rounded_56 (lv_at hl 0 rfl) ?_
        rw [hQ]
        exact vx_ret (zr_lret (z := w + 0) (u := ()) hx hb hr hlocks hP hD hS (by first | exact Nat.le_of_ble_eq_true rfl | omega) (by first | exact Nat.le_of_ble_eq_true rfl | omega) dX4_rounded_58 (show (k = 0 ∨ md ≠ 7) ∧ (w + 0) = if b = true then -(w + if k ≠ 0 ∧ zaw md b w k then 1 else 0) else w + if k ≠ 0 ∧ zaw md b w k then 1 else 0 from ⟨hok, by first | (rw [if_pos hb1, hh]; try omega) | (rw [if_neg (by rw [hb0]; decide), hh]; try omega)⟩))
      ·
        have hb1 := h_8
        refine lv_lload hx hb dX4_rounded_50 (lv_at hl 0 rfl) ?_
        refine zr_lneg hx hb dX4_rounded_52 ?_
        refine lv_goto (tgt := 58) hx hb dX4_rounded_53 (by decide) ?_
        rw [hQ]
        exact vx_ret (zr_lret (z := -(w + 0)) (u := ()) hx hb hr hlocks hP hD hS (by first | exact Nat.le_of_ble_eq_true rfl | omega) (by first | exact Nat.le_of_ble_eq_true rfl | omega) dX4_rounded_58 (show (k = 0 ∨ md ≠ 7) ∧ (-(w + 0)) = if b = true then -(w + if k ≠ 0 ∧ zaw md b w k then 1 else 0) else w + if k ≠ 0 ∧ zaw md b w k then 1 else 0 from ⟨hok, by first | (rw [if_pos hb1, hh]; try omega) | (rw [if_neg (by rw [hb0]; decide), hh]; try omega)⟩))
    ·
      have hzaw := of_decide_eq_true (haw.symm.trans h_7)
      have hh : (if k ≠ 0 ∧ zaw md b w k then (1 : Int) else 0) = 1 := if_pos ⟨by omega, of_decide_eq_true (haw.symm.trans h_7)⟩
      have hok : k = 0 ∨ md ≠ 7 := Or.inr (of_decide_eq_true (jq.symm.trans td))
      refine lv_lconst (v := lz (1)) hx hb dX4_rounded_38 rfl ?_
      refine lv_goto (tgt := 43) hx hb dX4_rounded_39 (by decide) ?_
      refine zr_ladd hx hb dX4_rounded_43 ?_
      refine lv_lstore (lv' := [(5, .long (lz (w + 1))), (0, .ref r), (1, .int (iz (zbb b))), (2, .long (lz (w))), (4, .int (iz (k)))]) hx hb dX4_rounded_44 hl (by decide) rfl (fun ls hl => ?_)
      refine lv_iload_n hx hb dX4_rounded_46 rfl (lv_at hl 2 rfl) ?_
      refine zr_ifz_eq (tgt := 56) hx hb dX4_rounded_47 (by decide) (fun h_9 => ?_) (fun h_9 => ?_)
      ·
        have hb0 := h_9
        refine lv_lload hx hb dX4_rounded_56 (lv_at hl 0 rfl) ?_
        rw [hQ]
        exact vx_ret (zr_lret (z := w + 1) (u := ()) hx hb hr hlocks hP hD hS (by first | exact Nat.le_of_ble_eq_true rfl | omega) (by first | exact Nat.le_of_ble_eq_true rfl | omega) dX4_rounded_58 (show (k = 0 ∨ md ≠ 7) ∧ (w + 1) = if b = true then -(w + if k ≠ 0 ∧ zaw md b w k then 1 else 0) else w + if k ≠ 0 ∧ zaw md b w k then 1 else 0 from ⟨hok, by first | (rw [if_pos hb1, hh]; try omega) | (rw [if_neg (by rw [hb0]; decide), hh]; try omega)⟩))
      ·
        have hb1 := h_9
        refine lv_lload hx hb dX4_rounded_50 (lv_at hl 0 rfl) ?_
        refine zr_lneg hx hb dX4_rounded_52 ?_
        refine lv_goto (tgt := 58) hx hb dX4_rounded_53 (by decide) ?_
        rw [hQ]
        exact vx_ret (zr_lret (z := -(w + 1)) (u := ()) hx hb hr hlocks hP hD hS (by first | exact Nat.le_of_ble_eq_true rfl | omega) (by first | exact Nat.le_of_ble_eq_true rfl | omega) dX4_rounded_58 (show (k = 0 ∨ md ≠ 7) ∧ (-(w + 1)) = if b = true then -(w + if k ≠ 0 ∧ zaw md b w k then 1 else 0) else w + if k ≠ 0 ∧ zaw md b w k then 1 else 0 from ⟨hok, by first | (rw [if_pos hb1, hh]; try omega) | (rw [if_neg (by rw [hb0]; decide), hh]; try omega)⟩))
  refine lv_iload hx hb dX4_rounded_3 (lv_at hl 4 rfl) ?_
  refine zr_if_eq (x := k) (tgt := 46) hx hb (⟨by omega, by omega⟩) dX4_rounded_5 (by decide) (fun h_10 => ?_) (fun h_10 => ?_)
  ·
    have hh : (if k ≠ 0 ∧ zaw md b w k then (1 : Int) else 0) = 0 := if_neg (by omega)
    have hok : k = 0 ∨ md ≠ 7 := Or.inl (by omega)
    refine lv_iload_n hx hb dX4_rounded_46 rfl (lv_at hl 2 rfl) ?_
    refine zr_ifz_eq (tgt := 56) hx hb dX4_rounded_47 (by decide) (fun h_11 => ?_) (fun h_11 => ?_)
    ·
      have hb0 := h_11
      refine lv_lload hx hb dX4_rounded_56 (lv_at hl 0 rfl) ?_
      rw [hQ]
      exact vx_ret (zr_lret (z := w) (u := ()) hx hb hr hlocks hP hD hS (by first | exact Nat.le_of_ble_eq_true rfl | omega) (by first | exact Nat.le_of_ble_eq_true rfl | omega) dX4_rounded_58 (show (k = 0 ∨ md ≠ 7) ∧ w = if b = true then -(w + if k ≠ 0 ∧ zaw md b w k then 1 else 0) else w + if k ≠ 0 ∧ zaw md b w k then 1 else 0 from ⟨hok, by first | (rw [if_pos hb1, hh]; try omega) | (rw [if_neg (by rw [hb0]; decide), hh]; try omega)⟩))
    ·
      have hb1 := h_11
      refine lv_lload hx hb dX4_rounded_50 (lv_at hl 0 rfl) ?_
      refine zr_lneg hx hb dX4_rounded_52 ?_
      refine lv_goto (tgt := 58) hx hb dX4_rounded_53 (by decide) ?_
      rw [hQ]
      exact vx_ret (zr_lret (z := -(w)) (u := ()) hx hb hr hlocks hP hD hS (by first | exact Nat.le_of_ble_eq_true rfl | omega) (by first | exact Nat.le_of_ble_eq_true rfl | omega) dX4_rounded_58 (show (k = 0 ∨ md ≠ 7) ∧ (-(w)) = if b = true then -(w + if k ≠ 0 ∧ zaw md b w k then 1 else 0) else w + if k ≠ 0 ∧ zaw md b w k then 1 else 0 from ⟨hok, by first | (rw [if_pos hb1, hh]; try omega) | (rw [if_neg (by rw [hb0]; decide), hh]; try omega)⟩))
  ·
    refine lv_aload_n hx hb dX4_rounded_8 rfl (lv_at hl 1 rfl) ?_
    refine va_get (D := G.1) (ci := 5) (v := .int (iz (md))) (C := RX4) (T := TX4) (N := 1) hx hb hts iwX4 hown hK hP 0 rfl rfl 0 (by decide) (hts (.fieldLink RX4 9 "AnnuityHouse$Rounder" "mode" "I") (by decide +kernel)) (fun _ h9 => h9) rfl dX4_rounded_9 ?_
    refine lv_bipush (v := iz (7)) hx hb dX4_rounded_12 rfl ?_
    refine zr_icmp_eq (x := md) (y := 7) (tgt := 21) hx hb (⟨by omega, by omega⟩) (⟨by omega, by omega⟩) dX4_rounded_14 (by decide) (fun h_12 => ?_) (fun h_12 => ?_)
    ·
      refine lv_iconst (v := iz (0)) hx hb dX4_rounded_21 rfl ?_
      exact hl_22 false _ _ _ (by omega) (by first | exact (decide_eq_true (by omega)).symm | exact (decide_eq_false (by omega)).symm) (hP) (hD) hS (hl)
    ·
      refine lv_iconst (v := iz (1)) hx hb dX4_rounded_17 rfl ?_
      refine lv_goto (tgt := 22) hx hb dX4_rounded_18 (by decide) ?_
      exact hl_22 true _ _ _ (by omega) (by first | exact (decide_eq_true (by omega)).symm | exact (decide_eq_false (by omega)).symm) (hP) (hD) hS (hl)

def rm_c_X4_ratio : Room := { frames := 8, cells := 1, slots := 6, locals := 136 }
set_option maxHeartbeats 1000000 in
set_option maxRecDepth 100000 in
theorem c_X4_ratio (l : Launch) (G : zG) (s1 : Nat) (s2 : Nat) (s3 : Nat) (r : Nat) (md : Int) (ov : Int) (un : Int) (hl0 : l.stackTraces = false) (hmd : 0 ≤ md ∧ md ≤ 7) (h1 : -4611686018427387904 < ov ∧ ov < 4611686018427387904) (h2 : 1 ≤ un ∧ un ≤ 4000000000000000000) : zMt l (zXE s1 s2 s3) G yX4_ratio wsX4_ratio rm_c_X4_ratio [.ref r, .long (lz (ov)), .long (lz (un))] [(r, .inr (5, [.int (iz (md))]))] (fun A => zQl G (fun (z : Int) (_ : Unit) => ((ov.natAbs : Int) % un = 0 ∨ md ≠ 7) ∧ z = zrd md ov un) (fun (_ : Unit) => [(r, .inr (5, [.int (iz (md))]))]) A) (SX := Unit) (fun (E9 : String) (ux : Unit) => (E9 = "java/lang/IllegalStateException" ∧ md = 7 ∧ (ov.natAbs : Int) % un ≠ 0)) (fun (ux : Unit) => [(r, .inr (5, [.int (iz (md))]))]) 1 6 := by
  refine zMt_of (cc := cX4_ratio) (maxL := 10) (ret := (some .long)) (by decide) rfl (Nat.le_of_ble_eq_true rfl) ?_
  intro p e s m below meth c ls A Q hQ hx hb hr hts hown hlocks hml hout hKX hE hP hD hA hS hl
  have hK := hKX.1
  obtain ⟨H, hH⟩ : ∃ h, h = s.heap := ⟨_, rfl⟩
  obtain ⟨locs, hlo⟩ : ∃ h : List Loc, h = [] := ⟨_, rfl⟩
  have hS : va_S A s.heap H locs := by rw [hH, hlo]; exact hS
  have hP : va_P G.1 vwCl [(r, .inr (5, [.int (iz (md))]))] H := by rw [hH]; exact hP
  have hD : va_D A [(r, .inr (5, [.int (iz (md))]))] := hD
  have hl : lv_has ls 10 [(0, .ref r), (1, .long (lz (ov))), (3, .long (lz (un)))] := hl
  rw [← hH, ← hlo]
  refine lv_lload_n hx hb dX4_ratio_0 rfl (lv_at hl 2 rfl) ?_
  refine lv_lconst (v := lz (0)) hx hb dX4_ratio_1 rfl ?_
  refine zr_lcmp_gt (x := un) (y := 0) (tgt := 8) hx hb (⟨by omega, by omega⟩) (⟨by omega, by omega⟩) dX4_ratio_2 dX4_ratio_3 (by decide) (fun h_1 => ?_) (fun h_1 => ?_)
  ·
    refine lv_lload_n hx hb dX4_ratio_8 rfl (lv_at hl 1 rfl) ?_
    refine zr_mabsL (x := ov) hx hb (hml.trans hl.1.symm) hown (hts (.methodLink RX4 15 Lib.MathLoose.abs_long.x) (by decide +kernel)) (hts (.static Lib.MathLoose.abs_long.x) (by decide +kernel)) (hts (.initialized "java/lang/Math") (by decide +kernel)) (hts (.code Lib.MathLoose.abs_long.x Lib.MathLoose.abs_long.code 2 (some .long)) (by decide +kernel)) (Nat.le_of_ble_eq_true rfl) (Nat.le_of_ble_eq_true rfl) (by first | exact Nat.le_of_ble_eq_true rfl | (show _ ≤ (1 : Nat); omega)) (by first | exact Nat.le_of_ble_eq_true rfl | (show _ ≤ (6 : Nat); omega)) (⟨by omega, by omega⟩) dX4_ratio_9 ?_
    refine zr_namel (fun sz esz => ?_)
    have hsz : 0 ≤ sz ∧ sz ≤ 4611686018427387903 ∧ sz = (ov.natAbs : Int) := by omega
    refine lv_lstore (lv' := [(5, .long (lz (sz))), (0, .ref r), (1, .long (lz (ov))), (3, .long (lz (un)))]) hx hb dX4_ratio_12 hl (by decide) rfl (fun ls hl => ?_)
    refine lv_lload hx hb dX4_ratio_14 (lv_at hl 0 rfl) ?_
    refine lv_lload_n hx hb dX4_ratio_16 rfl (lv_at hl 3 rfl) ?_
    refine zr_lrem hx hb (x := sz) (y := un) ⟨by omega, by omega⟩ ⟨by omega, by omega⟩ (by omega) (by omega) dX4_ratio_17 ?_
    refine zr_namel (fun rs ers => ?_)
    have hrs : 0 ≤ rs ∧ rs < un := by rw [ers]; exact ⟨Int.emod_nonneg _ (by omega), Int.emod_lt_of_pos _ (by omega)⟩
    refine lv_lstore (lv' := [(7, .long (lz (rs))), (5, .long (lz (sz))), (0, .ref r), (1, .long (lz (ov))), (3, .long (lz (un)))]) hx hb dX4_ratio_18 hl (by decide) rfl (fun ls hl => ?_)
    refine lv_iconst (v := iz (0)) hx hb dX4_ratio_20 rfl ?_
    refine lv_istore (lv' := [(9, .int (iz (0))), (7, .long (lz (rs))), (5, .long (lz (sz))), (0, .ref r), (1, .long (lz (ov))), (3, .long (lz (un)))]) hx hb dX4_ratio_21 hl (by decide) rfl (fun ls hl => ?_)
    have hl_65 : ∀ (kd : Int) (H : Heap) (locs : List Loc) (ls : Array Slot), (zkn rs un kd) → va_P G.1 vwCl [(r, .inr (5, [.int (iz (md))]))] H → va_D A [(r, .inr (5, [.int (iz (md))]))] → va_S A s.heap H locs → lv_has ls 10 [(9, .int (iz (kd))), (7, .long (lz (rs))), (5, .long (lz (sz))), (0, .ref r), (1, .long (lz (ov))), (3, .long (lz (un)))] → W p l e rm_c_X4_ratio s m ([.ref r, .long (lz (ov)), .long (lz (un))] : List Value).toArray below meth c H locs 0 0 Q (F0 m 65 ls []) := by
      intro kd H locs ls j1 hP hD hS hl
      have hl_77 : ∀ (bl : Bool) (H : Heap) (locs : List Loc) (ls : Array Slot), (bl = decide (ov < 0)) → va_P G.1 vwCl [(r, .inr (5, [.int (iz (md))]))] H → va_D A [(r, .inr (5, [.int (iz (md))]))] → va_S A s.heap H locs → lv_has ls 10 [(9, .int (iz (kd))), (7, .long (lz (rs))), (5, .long (lz (sz))), (0, .ref r), (1, .long (lz (ov))), (3, .long (lz (un)))] → W p l e rm_c_X4_ratio s m ([.ref r, .long (lz (ov)), .long (lz (un))] : List Value).toArray below meth c H locs 0 0 Q (F0 m 77 ls [.int (iz (zbb bl)), .ref r]) := by
        intro bl H locs ls jb hP hD hS hl
        refine lv_lload hx hb dX4_ratio_77 (lv_at hl 2 rfl) ?_
        refine lv_lload_n hx hb dX4_ratio_79 rfl (lv_at hl 5 rfl) ?_
        refine zr_ldiv hx hb (x := sz) (y := un) ⟨by omega, by omega⟩ ⟨by omega, by omega⟩ (by omega) (by omega) dX4_ratio_80 ?_
        refine zr_namel (fun w ew => ?_)
        have hw : 0 ≤ w ∧ w ≤ sz := by rw [ew]; exact ⟨Int.ediv_nonneg (by omega) (by omega), Int.ediv_le_self _ (by omega)⟩
        refine lv_iload hx hb dX4_ratio_81 (lv_at hl 0 rfl) ?_
        have hkr := zkn_r j1
        have j2 : zkn ((ov.natAbs : Int) % un) un kd := by rw [← hsz.2.2, ← ers]; exact j1
        refine zct_l (wr := []) (vx_runV (As := [.int (iz (zbb bl)), .long (lz (w)), .int (iz (kd))]) (rest := []) ⟨hx, hb, hml, hown, hts⟩ (c_X4_rounded l G s1 s2 s3 r md bl w kd hl0 (by omega) (by omega) (by omega) H.size) (cwV 3 hts gX4_ratio_X4_rounded rfl rfl rfl (by decide +kernel) ⟨Nat.le_of_ble_eq_true rfl, Nat.le_of_ble_eq_true rfl⟩) (zpVe zXE_ok hE hS hA hKX hP hD [0] rfl rfl (va_recv hK hP (ci := 5) (q0 := 0) rfl rfl)) rfl rfl hl.1 rfl (lv_room (Nat.le_of_ble_eq_true rfl)) dX4_ratio_83 ⟨(by first | exact Nat.le_of_ble_eq_true rfl | (show _ ≤ (1 : Nat); omega)), (by first | exact Nat.le_of_ble_eq_true rfl | (show _ ≤ (6 : Nat); omega))⟩) hP hD hS hA [0] [] rfl rfl rfl (by decide) (fun E9 ce9 q9 ux_3 H locs hx9_4 hP hD hS hce9 hcv9 hcl9 => ?_) (fun zz u_2 H locs hz hP hD hS => ?_)
        ·
          have hP : va_P G.1 vwCl [(r, .inr (5, [.int (iz (md))]))] H := hP
          have hD : va_D A [(r, .inr (5, [.int (iz (md))]))] := hD
          rcases hx9_4 with ⟨rfl, hxc⟩
          ·
            have hxc : kd ≠ 0 ∧ md = 7 := hxc
            rw [hQ]
            exact zt_out () hout hlocks hce9 hcv9 hcl9 hP hD hS ⟨rfl, (show md = 7 ∧ (ov.natAbs : Int) % un ≠ 0 from ⟨hxc.2, fun q => hxc.1 ((zkn_z j2).mpr q)⟩)⟩ (by first | exact Nat.le_of_ble_eq_true rfl | omega) (by first | exact Nat.le_of_ble_eq_true rfl | omega)
        have hP : va_P G.1 vwCl [(r, .inr (5, [.int (iz (md))]))] H := hP
        have hD : va_D A [(r, .inr (5, [.int (iz (md))]))] := hD
        have hz : (kd = 0 ∨ md ≠ 7) ∧ zz = if bl = true then -(w + if kd ≠ 0 ∧ zaw md bl w kd then 1 else 0) else w + if kd ≠ 0 ∧ zaw md bl w kd then 1 else 0 := hz
        rw [hQ]
        exact vx_ret (zr_lret (z := zz) (u := ()) hx hb hr hlocks hP hD hS (by first | exact Nat.le_of_ble_eq_true rfl | omega) (by first | exact Nat.le_of_ble_eq_true rfl | omega) dX4_ratio_86 (show ((ov.natAbs : Int) % un = 0 ∨ md ≠ 7) ∧ zz = zrd md ov un from ⟨(hz.1.elim (fun q => Or.inl ((zkn_z j2).mp q)) Or.inr), hz.2.trans (zrd_cls (by omega) hmd jb (by rw [ew, hsz.2.2]) j2 rfl)⟩))
      refine lv_aload_n hx hb dX4_ratio_65 rfl (lv_at hl 3 rfl) ?_
      refine lv_lload_n hx hb dX4_ratio_66 rfl (lv_at hl 4 rfl) ?_
      refine lv_lconst (v := lz (0)) hx hb dX4_ratio_67 rfl ?_
      refine zr_lcmp_ge (x := ov) (y := 0) (tgt := 76) hx hb (⟨by omega, by omega⟩) (⟨by omega, by omega⟩) dX4_ratio_68 dX4_ratio_69 (by decide) (fun h_5 => ?_) (fun h_5 => ?_)
      ·
        refine lv_iconst (v := iz (0)) hx hb dX4_ratio_76 rfl ?_
        exact hl_77 false _ _ _ (by first | exact (decide_eq_true (by omega)).symm | exact (decide_eq_false (by omega)).symm) (hP) (hD) hS (hl)
      ·
        refine lv_iconst (v := iz (1)) hx hb dX4_ratio_72 rfl ?_
        refine lv_goto (tgt := 77) hx hb dX4_ratio_73 (by decide) ?_
        exact hl_77 true _ _ _ (by first | exact (decide_eq_true (by omega)).symm | exact (decide_eq_false (by omega)).symm) (hP) (hD) hS (hl)
    refine lv_lload hx hb dX4_ratio_23 (lv_at hl 1 rfl) ?_
    refine lv_lconst (v := lz (0)) hx hb dX4_ratio_25 rfl ?_
    refine zr_lcmp_le (x := rs) (y := 0) (tgt := 65) hx hb (⟨by omega, by omega⟩) (⟨by omega, by omega⟩) dX4_ratio_26 dX4_ratio_27 (by decide) (fun h_6 => ?_) (fun h_6 => ?_)
    ·
      exact hl_65 0 _ _ _ (by unfold zkn; omega) (hP) (hD) hS (hl)
    ·
      refine lv_lload hx hb dX4_ratio_30 (lv_at hl 1 rfl) ?_
      refine lv_lload_n hx hb dX4_ratio_32 rfl (lv_at hl 5 rfl) ?_
      refine lv_lload hx hb dX4_ratio_33 (lv_at hl 1 rfl) ?_
      refine zr_lsub hx hb dX4_ratio_35 ?_
      refine zr_lcmp_lt (x := rs) (y := un - rs) (tgt := 44) hx hb (⟨by omega, by omega⟩) (⟨by omega, by omega⟩) dX4_ratio_36 dX4_ratio_37 (by decide) (fun h_7 => ?_) (fun h_7 => ?_)
      ·
        refine lv_iconst (v := iz (0)) hx hb dX4_ratio_44 rfl ?_
        refine lv_lload hx hb dX4_ratio_45 (lv_at hl 1 rfl) ?_
        refine lv_lload_n hx hb dX4_ratio_47 rfl (lv_at hl 5 rfl) ?_
        refine lv_lload hx hb dX4_ratio_48 (lv_at hl 1 rfl) ?_
        refine zr_lsub hx hb dX4_ratio_50 ?_
        refine zr_lcmp_gt (x := rs) (y := un - rs) (tgt := 59) hx hb (⟨by omega, by omega⟩) (⟨by omega, by omega⟩) dX4_ratio_51 dX4_ratio_52 (by decide) (fun h_8 => ?_) (fun h_8 => ?_)
        ·
          refine lv_iconst (v := iz (0)) hx hb dX4_ratio_59 rfl ?_
          refine zc_i (wr := [(r, .inr (5, [.int (iz (md))]))]) (va_runS (As := [.int (iz (0)), .int (iz (0))]) (rest := []) ⟨hx, hb, hml, hown, hts⟩ (c_X4_kindOf l G false false  H.size) (va_cwS 2 hts gX4_ratio_X4_kindOf rfl rfl rfl (by decide +kernel) ⟨Nat.le_of_ble_eq_true rfl, Nat.le_of_ble_eq_true rfl⟩) (zpS hKX hP hD [] rfl rfl) rfl rfl hl.1 rfl (lv_room (Nat.le_of_ble_eq_true rfl)) dX4_ratio_60 ⟨(by first | exact Nat.le_of_ble_eq_true rfl | (show _ ≤ (1 : Nat); omega)), (by first | exact Nat.le_of_ble_eq_true rfl | (show _ ≤ (6 : Nat); omega))⟩) hP hD hS hA [] [0] rfl rfl rfl (by decide) (fun ko u_9 H locs hko hP hD hS => ?_)
          have hP : va_P G.1 vwCl [(r, .inr (5, [.int (iz (md))]))] H := hP
          have hD : va_D A [(r, .inr (5, [.int (iz (md))]))] := hD
          have hko : ko = if false then if false then 2 else 3 else 1 := hko
          simp at hko
          refine lv_istore (lv' := [(9, .int (iz (ko))), (7, .long (lz (rs))), (5, .long (lz (sz))), (0, .ref r), (1, .long (lz (ov))), (3, .long (lz (un)))]) hx hb dX4_ratio_63 hl (by decide) rfl (fun ls hl => ?_)
          refine W.widen (k := 0) (n := 0) (by omega) (by omega) ?_
          exact hl_65 ko _ _ _ (by unfold zkn; omega) (hP) (hD) hS (hl)
        ·
          refine lv_iconst (v := iz (1)) hx hb dX4_ratio_55 rfl ?_
          refine lv_goto (tgt := 60) hx hb dX4_ratio_56 (by decide) ?_
          refine zc_i (wr := [(r, .inr (5, [.int (iz (md))]))]) (va_runS (As := [.int (iz (0)), .int (iz (1))]) (rest := []) ⟨hx, hb, hml, hown, hts⟩ (c_X4_kindOf l G false true  H.size) (va_cwS 2 hts gX4_ratio_X4_kindOf rfl rfl rfl (by decide +kernel) ⟨Nat.le_of_ble_eq_true rfl, Nat.le_of_ble_eq_true rfl⟩) (zpS hKX hP hD [] rfl rfl) rfl rfl hl.1 rfl (lv_room (Nat.le_of_ble_eq_true rfl)) dX4_ratio_60 ⟨(by first | exact Nat.le_of_ble_eq_true rfl | (show _ ≤ (1 : Nat); omega)), (by first | exact Nat.le_of_ble_eq_true rfl | (show _ ≤ (6 : Nat); omega))⟩) hP hD hS hA [] [0] rfl rfl rfl (by decide) (fun ko u_11 H locs hko hP hD hS => ?_)
          have hP : va_P G.1 vwCl [(r, .inr (5, [.int (iz (md))]))] H := hP
          have hD : va_D A [(r, .inr (5, [.int (iz (md))]))] := hD
          have hko : ko = if false then if true then 2 else 3 else 1 := hko
          simp at hko
          refine lv_istore (lv' := [(9, .int (iz (ko))), (7, .long (lz (rs))), (5, .long (lz (sz))), (0, .ref r), (1, .long (lz (ov))), (3, .long (lz (un)))]) hx hb dX4_ratio_63 hl (by decide) rfl (fun ls hl => ?_)
          refine W.widen (k := 0) (n := 0) (by omega) (by omega) ?_
          exact hl_65 ko _ _ _ (by unfold zkn; omega) (hP) (hD) hS (hl)
      ·
        refine lv_iconst (v := iz (1)) hx hb dX4_ratio_40 rfl ?_
        refine lv_goto (tgt := 45) hx hb dX4_ratio_41 (by decide) ?_
        refine lv_lload hx hb dX4_ratio_45 (lv_at hl 1 rfl) ?_
        refine lv_lload_n hx hb dX4_ratio_47 rfl (lv_at hl 5 rfl) ?_
        refine lv_lload hx hb dX4_ratio_48 (lv_at hl 1 rfl) ?_
        refine zr_lsub hx hb dX4_ratio_50 ?_
        refine zr_lcmp_gt (x := rs) (y := un - rs) (tgt := 59) hx hb (⟨by omega, by omega⟩) (⟨by omega, by omega⟩) dX4_ratio_51 dX4_ratio_52 (by decide) (fun h_13 => ?_) (fun h_13 => ?_)
        ·
          refine lv_iconst (v := iz (0)) hx hb dX4_ratio_59 rfl ?_
          refine zc_i (wr := [(r, .inr (5, [.int (iz (md))]))]) (va_runS (As := [.int (iz (1)), .int (iz (0))]) (rest := []) ⟨hx, hb, hml, hown, hts⟩ (c_X4_kindOf l G true false  H.size) (va_cwS 2 hts gX4_ratio_X4_kindOf rfl rfl rfl (by decide +kernel) ⟨Nat.le_of_ble_eq_true rfl, Nat.le_of_ble_eq_true rfl⟩) (zpS hKX hP hD [] rfl rfl) rfl rfl hl.1 rfl (lv_room (Nat.le_of_ble_eq_true rfl)) dX4_ratio_60 ⟨(by first | exact Nat.le_of_ble_eq_true rfl | (show _ ≤ (1 : Nat); omega)), (by first | exact Nat.le_of_ble_eq_true rfl | (show _ ≤ (6 : Nat); omega))⟩) hP hD hS hA [] [0] rfl rfl rfl (by decide) (fun ko u_14 H locs hko hP hD hS => ?_)
          have hP : va_P G.1 vwCl [(r, .inr (5, [.int (iz (md))]))] H := hP
          have hD : va_D A [(r, .inr (5, [.int (iz (md))]))] := hD
          have hko : ko = if true then if false then 2 else 3 else 1 := hko
          simp at hko
          refine lv_istore (lv' := [(9, .int (iz (ko))), (7, .long (lz (rs))), (5, .long (lz (sz))), (0, .ref r), (1, .long (lz (ov))), (3, .long (lz (un)))]) hx hb dX4_ratio_63 hl (by decide) rfl (fun ls hl => ?_)
          refine W.widen (k := 0) (n := 0) (by omega) (by omega) ?_
          exact hl_65 ko _ _ _ (by unfold zkn; omega) (hP) (hD) hS (hl)
        ·
          refine lv_iconst (v := iz (1)) hx hb dX4_ratio_55 rfl ?_
          refine lv_goto (tgt := 60) hx hb dX4_ratio_56 (by decide) ?_
          refine zc_i (wr := [(r, .inr (5, [.int (iz (md))]))]) (va_runS (As := [.int (iz (1)), .int (iz (1))]) (rest := []) ⟨hx, hb, hml, hown, hts⟩ (c_X4_kindOf l G true true  H.size) (va_cwS 2 hts gX4_ratio_X4_kindOf rfl rfl rfl (by decide +kernel) ⟨Nat.le_of_ble_eq_true rfl, Nat.le_of_ble_eq_true rfl⟩) (zpS hKX hP hD [] rfl rfl) rfl rfl hl.1 rfl (lv_room (Nat.le_of_ble_eq_true rfl)) dX4_ratio_60 ⟨(by first | exact Nat.le_of_ble_eq_true rfl | (show _ ≤ (1 : Nat); omega)), (by first | exact Nat.le_of_ble_eq_true rfl | (show _ ≤ (6 : Nat); omega))⟩) hP hD hS hA [] [0] rfl rfl rfl (by decide) (fun ko u_16 H locs hko hP hD hS => ?_)
          have hP : va_P G.1 vwCl [(r, .inr (5, [.int (iz (md))]))] H := hP
          have hD : va_D A [(r, .inr (5, [.int (iz (md))]))] := hD
          have hko : ko = if true then if true then 2 else 3 else 1 := hko
          simp at hko
          refine lv_istore (lv' := [(9, .int (iz (ko))), (7, .long (lz (rs))), (5, .long (lz (sz))), (0, .ref r), (1, .long (lz (ov))), (3, .long (lz (un)))]) hx hb dX4_ratio_63 hl (by decide) rfl (fun ls hl => ?_)
          refine W.widen (k := 0) (n := 0) (by omega) (by omega) ?_
          exact hl_65 ko _ _ _ (by unfold zkn; omega) (hP) (hD) hS (hl)
  · exact absurd h_1 (by omega)

def rm_c_X4_ratio_ : Room := { frames := 8, cells := 1, slots := 6, locals := 136 }
set_option maxHeartbeats 1000000 in
set_option maxRecDepth 100000 in
theorem c_X4_ratio_ (l : Launch) (G : zG) (s1 : Nat) (s2 : Nat) (s3 : Nat) (r : Nat) (md : Int) (oa : Nat) (ob : Nat) (of : Int → Int) (on : Int) (ot : Int) (ua : Nat) (ub : Nat) (uf : Int → Int) (un : Int) (ut : Int) (v : Int) (v2 : Int) (hl0 : l.stackTraces = false) (hmd : 0 ≤ md ∧ md ≤ 7) (h1 : zwv of on ot v) (h2 : zwv uf un ut v2) (h4 : 0 < v2) (h5 : (v.natAbs : Int) < 1073741824 ^ 35) (h6 : v2 < 1073741824 ^ 35) (h7 : (v.natAbs : Int) < v2 * 1073741824 ^ 2) : zMt l (zXE s1 s2 s3) G yX4_ratio_ wsX4_ratio_ rm_c_X4_ratio_ [.ref r, .ref oa, .ref ua] [(r, .inr (5, [.int (iz (md))])), (oa, .inr (9, [.ref ob, .int (iz (on)), .long (lz (ot))])), (ob, zaL (G.2 0) 40 (of)), (ua, .inr (9, [.ref ub, .int (iz (un)), .long (lz (ut))])), (ub, zaL (G.2 0) 40 (uf))] (fun A => zQl G (fun (z : Int) (u : (Int → Int) × Int × Int × (Int → Int) × Int × Int) => ((v.natAbs : Int) % v2 = 0 ∨ md ≠ 7) ∧ z = zrd md v v2) (fun (u : (Int → Int) × Int × Int × (Int → Int) × Int × Int) => [(r, .inr (5, [.int (iz (md))])), (oa, .inr (9, [.ref ob, .int (iz (u.2.1)), .long (lz (u.2.2.1))])), (ob, zaL (G.2 0) 40 (u.1)), (ua, .inr (9, [.ref ub, .int (iz (u.2.2.2.2.1)), .long (lz (u.2.2.2.2.2))])), (ub, zaL (G.2 0) 40 (u.2.2.2.1))]) A) (SX := (Int → Int) × Int × Int × (Int → Int) × Int × Int) (fun (E9 : String) (ux : (Int → Int) × Int × Int × (Int → Int) × Int × Int) => (E9 = "java/lang/IllegalStateException" ∧ md = 7 ∧ (v.natAbs : Int) % v2 ≠ 0)) (fun (ux : (Int → Int) × Int × Int × (Int → Int) × Int × Int) => [(r, .inr (5, [.int (iz (md))])), (oa, .inr (9, [.ref ob, .int (iz (ux.2.1)), .long (lz (ux.2.2.1))])), (ob, zaL (G.2 0) 40 (ux.1)), (ua, .inr (9, [.ref ub, .int (iz (ux.2.2.2.2.1)), .long (lz (ux.2.2.2.2.2))])), (ub, zaL (G.2 0) 40 (ux.2.2.2.1))]) 1 6 := by
  refine zMt_of (cc := cX4_ratio_) (maxL := 7) (ret := (some .long)) (by decide) rfl (Nat.le_of_ble_eq_true rfl) ?_
  intro p e s m below meth c ls A Q hQ hx hb hr hts hown hlocks hml hout hKX hE hP hD hA hS hl
  have hK := hKX.1
  obtain ⟨H, hH⟩ : ∃ h, h = s.heap := ⟨_, rfl⟩
  obtain ⟨locs, hlo⟩ : ∃ h : List Loc, h = [] := ⟨_, rfl⟩
  have hS : va_S A s.heap H locs := by rw [hH, hlo]; exact hS
  have hP : va_P G.1 vwCl [(r, .inr (5, [.int (iz (md))])), (oa, .inr (9, [.ref ob, .int (iz (on)), .long (lz (ot))])), (ob, zaL (G.2 0) 40 (of)), (ua, .inr (9, [.ref ub, .int (iz (un)), .long (lz (ut))])), (ub, zaL (G.2 0) 40 (uf))] H := by rw [hH]; exact hP
  have hD : va_D A [(r, .inr (5, [.int (iz (md))])), (oa, .inr (9, [.ref ob, .int (iz (on)), .long (lz (ot))])), (ob, zaL (G.2 0) 40 (of)), (ua, .inr (9, [.ref ub, .int (iz (un)), .long (lz (ut))])), (ub, zaL (G.2 0) 40 (uf))] := hD
  have hl : lv_has ls 7 [(0, .ref r), (1, .ref oa), (2, .ref ua)] := hl
  rw [← hH, ← hlo]
  have hV0 : 0 ≤ (v.natAbs : Int) := by omega
  have hr0 := Int.emod_nonneg (v.natAbs : Int) (show v2 ≠ 0 by omega)
  have hr1 := Int.emod_lt_of_pos (v.natAbs : Int) h4
  have hw2 := zB2 hV0 h4 h7
  have b35 : (1073741824 : Int) ^ 35 * 1073741824 * 2 < 1073741824 ^ 37 := by decide +kernel
  have b36 : (1073741824 : Int) ^ 35 * 1073741824 < 1073741824 ^ 37 := by decide +kernel
  have b37 : (1073741824 : Int) ^ 35 < 1073741824 ^ 37 := by decide +kernel
  have bp35 := zB_pos 35
  have hn1 := zwv_small h1 (k := 37) (by omega) (by omega)
  have hl_24 : ∀ (bl : Bool) (g0 : Int → Int) (m1 : Int) (u1 : Int) (H : Heap) (locs : List Loc) (ls : Array Slot), (zwv g0 m1 u1 (v.natAbs : Int)) → (bl = decide (v < 0)) → va_P G.1 vwCl [(r, .inr (5, [.int (iz (md))])), (oa, .inr (9, [.ref ob, .int (iz (m1)), .long (lz (u1))])), (ob, zaL (G.2 0) 40 (g0)), (ua, .inr (9, [.ref ub, .int (iz (un)), .long (lz (ut))])), (ub, zaL (G.2 0) 40 (uf))] H → va_D A [(r, .inr (5, [.int (iz (md))])), (oa, .inr (9, [.ref ob, .int (iz (m1)), .long (lz (u1))])), (ob, zaL (G.2 0) 40 (g0)), (ua, .inr (9, [.ref ub, .int (iz (un)), .long (lz (ut))])), (ub, zaL (G.2 0) 40 (uf))] → va_S A s.heap H locs → lv_has ls 7 [(3, .int (iz (zbb bl))), (0, .ref r), (1, .ref oa), (2, .ref ua)] → W p l e rm_c_X4_ratio_ s m ([.ref r, .ref oa, .ref ua] : List Value).toArray below meth c H locs 0 0 Q (F0 m 24 ls []) := by
    intro bl g0 m1 u1 H locs ls jv jb hP hD hS hl
    refine lv_aload_n hx hb dX4_ratio__24 rfl (lv_at hl 2 rfl) ?_
    refine lv_aload_n hx hb dX4_ratio__25 rfl (lv_at hl 3 rfl) ?_
    refine zc_l (wr := [(r, .inr (5, [.int (iz (md))]))]) (va_runV (As := [.ref ua]) (rest := []) ⟨hx, hb, hml, hown, hts⟩ (c_X8_divide l G oa ob g0 m1 u1 ua ub uf un ut (v.natAbs : Int) v2 (jv) (h2) (by omega) (by omega) (by omega) (by omega) (by omega) H.size) (cwV 1 hts gX4_ratio__X8_divide rfl rfl rfl (by decide +kernel) ⟨Nat.le_of_ble_eq_true rfl, Nat.le_of_ble_eq_true rfl⟩) (zpV hKX hP hD [1, 2, 3, 4] rfl rfl 1 9 rfl rfl) rfl rfl hl.1 rfl (lv_room (Nat.le_of_ble_eq_true rfl)) dX4_ratio__26 ⟨(by first | exact Nat.le_of_ble_eq_true rfl | (show _ ≤ (1 : Nat); omega)), (by first | exact Nat.le_of_ble_eq_true rfl | (show _ ≤ (6 : Nat); omega))⟩) hP hD hS hA [1, 2, 3, 4] [0] rfl rfl rfl (by decide) (fun wq u_1 H locs hdv hP hD hS => ?_)
    obtain ⟨of1, on1, ot1, uf1, un1, ut1, sc⟩ := u_1
    have hP : va_P G.1 vwCl [(r, .inr (5, [.int (iz (md))])), (oa, .inr (9, [.ref ob, .int (iz (on1)), .long (lz (ot1))])), (ob, zaL (G.2 0) 40 (of1)), (ua, .inr (9, [.ref ub, .int (iz (un1)), .long (lz (ut1))])), (ub, zaL (G.2 0) 40 (uf1))] H := hP
    have hD : va_D A [(r, .inr (5, [.int (iz (md))])), (oa, .inr (9, [.ref ob, .int (iz (on1)), .long (lz (ot1))])), (ob, zaL (G.2 0) 40 (of1)), (ua, .inr (9, [.ref ub, .int (iz (un1)), .long (lz (ut1))])), (ub, zaL (G.2 0) 40 (uf1))] := hD
    have hdv : wq = (v.natAbs : Int) / v2 ∧ zwv of1 on1 ot1 ((v.natAbs : Int) % v2 * sc) ∧ zwv uf1 un1 ut1 (v2 * sc) ∧ 1 ≤ sc ∧ sc < 1073741824 := hdv
    have hsc := hdv.2.2.2
    have ho := hdv.2.1
    have hu := hdv.2.2.1
    have hz0 := hdv.1
    have hp0 : 0 ≤ (v.natAbs : Int) % v2 * sc := Int.mul_nonneg hr0 (by omega)
    have hp1 : (v.natAbs : Int) % v2 * sc ≤ v2 * sc := Int.mul_le_mul_of_nonneg_right (by omega) (by omega)
    have hp2 : v2 * sc ≤ v2 * 1073741824 := Int.mul_le_mul_of_nonneg_left (by omega) (by omega)
    have hp3 : 0 < v2 * sc := Int.mul_pos h4 (by omega)
    have ho37 := zwv_small ho (k := 37) (by omega) (by omega)
    have hu37 := zwv_small hu (k := 37) (by omega) (by omega)
    refine lv_lstore (lv' := [(4, .long (lz (wq))), (3, .int (iz (zbb bl))), (0, .ref r), (1, .ref oa), (2, .ref ua)]) hx hb dX4_ratio__29 hl (by decide) rfl (fun ls hl => ?_)
    refine lv_iconst (v := iz (0)) hx hb dX4_ratio__31 rfl ?_
    refine lv_istore (lv' := [(6, .int (iz (0))), (4, .long (lz (wq))), (3, .int (iz (zbb bl))), (0, .ref r), (1, .ref oa), (2, .ref ua)]) hx hb dX4_ratio__32 hl (by decide) rfl (fun ls hl => ?_)
    have hl_65 : ∀ (kd : Int) (g : Int → Int) (m0 : Int) (u0 : Int) (H : Heap) (locs : List Loc) (ls : Array Slot), (zkn ((v.natAbs : Int) % v2) v2 kd) → va_P G.1 vwCl [(r, .inr (5, [.int (iz (md))])), (oa, .inr (9, [.ref ob, .int (iz (m0)), .long (lz (u0))])), (ob, zaL (G.2 0) 40 (g)), (ua, .inr (9, [.ref ub, .int (iz (un1)), .long (lz (ut1))])), (ub, zaL (G.2 0) 40 (uf1))] H → va_D A [(r, .inr (5, [.int (iz (md))])), (oa, .inr (9, [.ref ob, .int (iz (m0)), .long (lz (u0))])), (ob, zaL (G.2 0) 40 (g)), (ua, .inr (9, [.ref ub, .int (iz (un1)), .long (lz (ut1))])), (ub, zaL (G.2 0) 40 (uf1))] → va_S A s.heap H locs → lv_has ls 7 [(6, .int (iz (kd))), (4, .long (lz (wq))), (3, .int (iz (zbb bl))), (0, .ref r), (1, .ref oa), (2, .ref ua)] → W p l e rm_c_X4_ratio_ s m ([.ref r, .ref oa, .ref ua] : List Value).toArray below meth c H locs (0 + 0) (0 + 0) Q (F0 m 65 ls []) := by
      intro kd g m0 u0 H locs ls j1 hP hD hS hl
      refine lv_aload_n hx hb dX4_ratio__65 rfl (lv_at hl 3 rfl) ?_
      refine lv_iload_n hx hb dX4_ratio__66 rfl (lv_at hl 2 rfl) ?_
      refine lv_lload hx hb dX4_ratio__67 (lv_at hl 1 rfl) ?_
      refine lv_iload hx hb dX4_ratio__69 (lv_at hl 0 rfl) ?_
      have hkr := zkn_r j1
      refine zct_l (wr := [(oa, .inr (9, [.ref ob, .int (iz (m0)), .long (lz (u0))])), (ob, zaL (G.2 0) 40 (g)), (ua, .inr (9, [.ref ub, .int (iz (un1)), .long (lz (ut1))])), (ub, zaL (G.2 0) 40 (uf1))]) (vx_runV (As := [.int (iz (zbb bl)), .long (lz (wq)), .int (iz (kd))]) (rest := []) ⟨hx, hb, hml, hown, hts⟩ (c_X4_rounded l G s1 s2 s3 r md bl wq kd hl0 (by omega) (by omega) (by omega) H.size) (cwV 3 hts gX4_ratio__X4_rounded rfl rfl rfl (by decide +kernel) ⟨Nat.le_of_ble_eq_true rfl, Nat.le_of_ble_eq_true rfl⟩) (zpVe zXE_ok hE hS hA hKX hP hD [0] rfl rfl (va_recv hK hP (ci := 5) (q0 := 0) rfl rfl)) rfl rfl hl.1 rfl (lv_room (Nat.le_of_ble_eq_true rfl)) dX4_ratio__71 ⟨(by first | exact Nat.le_of_ble_eq_true rfl | (show _ ≤ (1 : Nat); omega)), (by first | exact Nat.le_of_ble_eq_true rfl | (show _ ≤ (6 : Nat); omega))⟩) hP hD hS hA [0] [1, 2, 3, 4] rfl rfl rfl (by decide) (fun E9 ce9 q9 ux_4 H locs hx9_5 hP hD hS hce9 hcv9 hcl9 => ?_) (fun zz u_3 H locs hz hP hD hS => ?_)
      ·
        have hP : va_P G.1 vwCl [(oa, .inr (9, [.ref ob, .int (iz (m0)), .long (lz (u0))])), (ob, zaL (G.2 0) 40 (g)), (ua, .inr (9, [.ref ub, .int (iz (un1)), .long (lz (ut1))])), (ub, zaL (G.2 0) 40 (uf1)), (r, .inr (5, [.int (iz (md))]))] H := hP
        have hD : va_D A [(oa, .inr (9, [.ref ob, .int (iz (m0)), .long (lz (u0))])), (ob, zaL (G.2 0) 40 (g)), (ua, .inr (9, [.ref ub, .int (iz (un1)), .long (lz (ut1))])), (ub, zaL (G.2 0) 40 (uf1)), (r, .inr (5, [.int (iz (md))]))] := hD
        rcases hx9_5 with ⟨rfl, hxc⟩
        ·
          have hxc : kd ≠ 0 ∧ md = 7 := hxc
          rw [hQ]
          exact zt_out (g, m0, u0, uf1, un1, ut1) hout hlocks hce9 hcv9 hcl9 (hP.sub [4, 0, 1, 2, 3] rfl) (hD.sub [4, 0, 1, 2, 3] (by decide) rfl) hS ⟨rfl, (show md = 7 ∧ (v.natAbs : Int) % v2 ≠ 0 from ⟨hxc.2, fun q => hxc.1 ((zkn_z j1).mpr q)⟩)⟩ (by first | exact Nat.le_of_ble_eq_true rfl | omega) (by first | exact Nat.le_of_ble_eq_true rfl | omega)
      have hP : va_P G.1 vwCl [(oa, .inr (9, [.ref ob, .int (iz (m0)), .long (lz (u0))])), (ob, zaL (G.2 0) 40 (g)), (ua, .inr (9, [.ref ub, .int (iz (un1)), .long (lz (ut1))])), (ub, zaL (G.2 0) 40 (uf1)), (r, .inr (5, [.int (iz (md))]))] H := hP
      have hD : va_D A [(oa, .inr (9, [.ref ob, .int (iz (m0)), .long (lz (u0))])), (ob, zaL (G.2 0) 40 (g)), (ua, .inr (9, [.ref ub, .int (iz (un1)), .long (lz (ut1))])), (ub, zaL (G.2 0) 40 (uf1)), (r, .inr (5, [.int (iz (md))]))] := hD
      have hz : (kd = 0 ∨ md ≠ 7) ∧ zz = if bl = true then -(wq + if kd ≠ 0 ∧ zaw md bl wq kd then 1 else 0) else wq + if kd ≠ 0 ∧ zaw md bl wq kd then 1 else 0 := hz
      rw [hQ]
      exact vx_ret (zr_lret (z := zz) (u := (g, m0, u0, uf1, un1, ut1)) hx hb hr hlocks (hP.sub [4, 0, 1, 2, 3] rfl) (hD.sub [4, 0, 1, 2, 3] (by decide) rfl) hS (by first | exact Nat.le_of_ble_eq_true rfl | omega) (by first | exact Nat.le_of_ble_eq_true rfl | omega) dX4_ratio__74 (show ((v.natAbs : Int) % v2 = 0 ∨ md ≠ 7) ∧ zz = zrd md v v2 from ⟨(hz.1.elim (fun q => Or.inl ((zkn_z j1).mp q)) Or.inr), hz.2.trans (zrd_cls h4 hmd jb hz0 j1 rfl)⟩))
    refine lv_aload_n hx hb dX4_ratio__34 rfl (lv_at hl 4 rfl) ?_
    refine zc_i (wr := [(r, .inr (5, [.int (iz (md))])), (ua, .inr (9, [.ref ub, .int (iz (un1)), .long (lz (ut1))])), (ub, zaL (G.2 0) 40 (uf1))]) (va_runV (As := []) (rest := []) ⟨hx, hb, hml, hown, hts⟩ (c_X8_sign l G oa ob of1 on1 ot1 ((v.natAbs : Int) % v2 * sc) (ho) H.size) (cwV 0 hts gX4_ratio__X8_sign rfl rfl rfl (by decide +kernel) ⟨Nat.le_of_ble_eq_true rfl, Nat.le_of_ble_eq_true rfl⟩) (zpV hKX hP hD [1, 2] rfl rfl 1 9 rfl rfl) rfl rfl hl.1 rfl (lv_room (Nat.le_of_ble_eq_true rfl)) dX4_ratio__35 ⟨(by first | exact Nat.le_of_ble_eq_true rfl | (show _ ≤ (1 : Nat); omega)), (by first | exact Nat.le_of_ble_eq_true rfl | (show _ ≤ (6 : Nat); omega))⟩) hP hD hS hA [1, 2] [0, 3, 4] rfl rfl rfl (by decide) (fun s2 u_6 H locs hs2 hP hD hS => ?_)
    have hP : va_P G.1 vwCl [(r, .inr (5, [.int (iz (md))])), (ua, .inr (9, [.ref ub, .int (iz (un1)), .long (lz (ut1))])), (ub, zaL (G.2 0) 40 (uf1)), (oa, .inr (9, [.ref ob, .int (iz (on1)), .long (lz (ot1))])), (ob, zaL (G.2 0) 40 (of1))] H := hP
    have hD : va_D A [(r, .inr (5, [.int (iz (md))])), (ua, .inr (9, [.ref ub, .int (iz (un1)), .long (lz (ut1))])), (ub, zaL (G.2 0) 40 (uf1)), (oa, .inr (9, [.ref ob, .int (iz (on1)), .long (lz (ot1))])), (ob, zaL (G.2 0) 40 (of1))] := hD
    have hs2 : s2 = ((v.natAbs : Int) % v2 * sc).sign := hs2
    have hs3 : -1 ≤ s2 ∧ s2 ≤ 1 := by rw [hs2]; exact zsgr _
    refine zr_if_le (x := s2) (tgt := 65) hx hb (⟨by omega, by omega⟩) dX4_ratio__38 (by decide) (fun h_8 => ?_) (fun h_8 => ?_)
    ·
      refine W.widen (k := 0 + 0) (n := 0 + 0) (by omega) (by omega) ?_
      exact hl_65 0 of1 on1 ot1 _ _ _ (by first | exact Or.inl ⟨rfl, zrest0 hsc.1 hr0 (zsg_le hs2 (by omega))⟩ | exact zkn_k hkw hrp) (hP.sub [0, 3, 4, 1, 2] rfl) (hD.sub [0, 3, 4, 1, 2] (by decide) rfl) hS (hl)
    ·
      refine lv_aload_n hx hb dX4_ratio__41 rfl (lv_at hl 4 rfl) ?_
      refine zr_ldc2 (z := 2) hx hb hown (hts (.constantLong RX4 45 (2)) (by decide +kernel)) rfl dX4_ratio__42 ?_
      refine zc_v (wr := [(r, .inr (5, [.int (iz (md))])), (ua, .inr (9, [.ref ub, .int (iz (un1)), .long (lz (ut1))])), (ub, zaL (G.2 0) 40 (uf1))]) (va_runV (As := [.long (lz (2))]) (rest := []) ⟨hx, hb, hml, hown, hts⟩ (c_X8_times l G oa ob of1 on1 ot1 ((v.natAbs : Int) % v2 * sc) 2 (ho) (by omega) (by omega) H.size) (cwV 1 hts gX4_ratio__X8_times rfl rfl rfl (by decide +kernel) ⟨Nat.le_of_ble_eq_true rfl, Nat.le_of_ble_eq_true rfl⟩) (zpV hKX hP hD [3, 4] rfl rfl 3 9 rfl rfl) rfl rfl hl.1 rfl (lv_room (Nat.le_of_ble_eq_true rfl)) dX4_ratio__45 ⟨(by first | exact Nat.le_of_ble_eq_true rfl | (show _ ≤ (1 : Nat); omega)), (by first | exact Nat.le_of_ble_eq_true rfl | (show _ ≤ (6 : Nat); omega))⟩) hP hD hS hA [3, 4] [0, 1, 2] rfl rfl rfl (by decide) (fun u_9 H locs hx2 hP hD hS => ?_)
      obtain ⟨of2, on2, ot2⟩ := u_9
      have hP : va_P G.1 vwCl [(r, .inr (5, [.int (iz (md))])), (ua, .inr (9, [.ref ub, .int (iz (un1)), .long (lz (ut1))])), (ub, zaL (G.2 0) 40 (uf1)), (oa, .inr (9, [.ref ob, .int (iz (on2)), .long (lz (ot2))])), (ob, zaL (G.2 0) 40 (of2))] H := hP
      have hD : va_D A [(r, .inr (5, [.int (iz (md))])), (ua, .inr (9, [.ref ub, .int (iz (un1)), .long (lz (ut1))])), (ub, zaL (G.2 0) 40 (uf1)), (oa, .inr (9, [.ref ob, .int (iz (on2)), .long (lz (ot2))])), (ob, zaL (G.2 0) 40 (of2))] := hD
      have hx2 : zwv of2 on2 ot2 (((v.natAbs : Int) % v2 * sc) * (2 : Int)) := hx2
      have ho38 := zwv_small hx2 (k := 37) (by omega) (by omega)
      refine lv_aload_n hx hb dX4_ratio__48 rfl (lv_at hl 4 rfl) ?_
      refine lv_aload_n hx hb dX4_ratio__49 rfl (lv_at hl 5 rfl) ?_
      refine lv_iconst (v := iz (0)) hx hb dX4_ratio__50 rfl ?_
      refine zc_z (wr := [(r, .inr (5, [.int (iz (md))]))]) (va_runV (As := [.ref ua, .int (iz (0))]) (rest := []) ⟨hx, hb, hml, hown, hts⟩ (c_X8_isAtLeast l G oa ob of2 on2 ot2 ua ub uf1 un1 ut1 ((v.natAbs : Int) % v2 * sc * 2) (v2 * sc) 0 (hx2) (hu) (by omega) (by omega) (by omega) (by omega) H.size) (cwV 2 hts gX4_ratio__X8_isAtLeast rfl rfl rfl (by decide +kernel) ⟨Nat.le_of_ble_eq_true rfl, Nat.le_of_ble_eq_true rfl⟩) (zpV hKX hP hD [3, 4, 1, 2] rfl rfl 3 9 rfl rfl) rfl rfl hl.1 rfl (lv_room (Nat.le_of_ble_eq_true rfl)) dX4_ratio__51 ⟨(by first | exact Nat.le_of_ble_eq_true rfl | (show _ ≤ (1 : Nat); omega)), (by first | exact Nat.le_of_ble_eq_true rfl | (show _ ≤ (6 : Nat); omega))⟩) hP hD hS hA [3, 4, 1, 2] [0] rfl rfl rfl (by decide) (fun al1 u_12 H locs hal1 hP hD hS => ?_)
      have hP : va_P G.1 vwCl [(r, .inr (5, [.int (iz (md))])), (oa, .inr (9, [.ref ob, .int (iz (on2)), .long (lz (ot2))])), (ob, zaL (G.2 0) 40 (of2)), (ua, .inr (9, [.ref ub, .int (iz (un1)), .long (lz (ut1))])), (ub, zaL (G.2 0) 40 (uf1))] H := hP
      have hD : va_D A [(r, .inr (5, [.int (iz (md))])), (oa, .inr (9, [.ref ob, .int (iz (on2)), .long (lz (ot2))])), (ob, zaL (G.2 0) 40 (of2)), (ua, .inr (9, [.ref ub, .int (iz (un1)), .long (lz (ut1))])), (ub, zaL (G.2 0) 40 (uf1))] := hD
      have hal1 : al1 = decide ((v2 * sc) * 1073741824 ^ (0 : Int).toNat ≤ ((v.natAbs : Int) % v2 * sc * 2)) := hal1
      refine lv_aload_n hx hb dX4_ratio__54 rfl (lv_at hl 5 rfl) ?_
      refine lv_aload_n hx hb dX4_ratio__55 rfl (lv_at hl 4 rfl) ?_
      refine lv_iconst (v := iz (0)) hx hb dX4_ratio__56 rfl ?_
      refine zc_z (wr := [(r, .inr (5, [.int (iz (md))]))]) (va_runV (As := [.ref oa, .int (iz (0))]) (rest := [.int (iz (zbb al1))]) ⟨hx, hb, hml, hown, hts⟩ (c_X8_isAtLeast l G ua ub uf1 un1 ut1 oa ob of2 on2 ot2 (v2 * sc) ((v.natAbs : Int) % v2 * sc * 2) 0 (hu) (hx2) (by omega) (by omega) (by omega) (by omega) H.size) (cwV 2 hts gX4_ratio__X8_isAtLeast rfl rfl rfl (by decide +kernel) ⟨Nat.le_of_ble_eq_true rfl, Nat.le_of_ble_eq_true rfl⟩) (zpV hKX hP hD [3, 4, 1, 2] rfl rfl 3 9 rfl rfl) rfl rfl hl.1 rfl (lv_room (Nat.le_of_ble_eq_true rfl)) dX4_ratio__57 ⟨(by first | exact Nat.le_of_ble_eq_true rfl | (show _ ≤ (1 : Nat); omega)), (by first | exact Nat.le_of_ble_eq_true rfl | (show _ ≤ (6 : Nat); omega))⟩) hP hD hS hA [3, 4, 1, 2] [0] rfl rfl rfl (by decide) (fun al2 u_14 H locs hal2 hP hD hS => ?_)
      have hP : va_P G.1 vwCl [(r, .inr (5, [.int (iz (md))])), (ua, .inr (9, [.ref ub, .int (iz (un1)), .long (lz (ut1))])), (ub, zaL (G.2 0) 40 (uf1)), (oa, .inr (9, [.ref ob, .int (iz (on2)), .long (lz (ot2))])), (ob, zaL (G.2 0) 40 (of2))] H := hP
      have hD : va_D A [(r, .inr (5, [.int (iz (md))])), (ua, .inr (9, [.ref ub, .int (iz (un1)), .long (lz (ut1))])), (ub, zaL (G.2 0) 40 (uf1)), (oa, .inr (9, [.ref ob, .int (iz (on2)), .long (lz (ot2))])), (ob, zaL (G.2 0) 40 (of2))] := hD
      have hal2 : al2 = decide (((v.natAbs : Int) % v2 * sc * 2) * 1073741824 ^ (0 : Int).toNat ≤ (v2 * sc)) := hal2
      refine zc_i (wr := [(r, .inr (5, [.int (iz (md))])), (ua, .inr (9, [.ref ub, .int (iz (un1)), .long (lz (ut1))])), (ub, zaL (G.2 0) 40 (uf1)), (oa, .inr (9, [.ref ob, .int (iz (on2)), .long (lz (ot2))])), (ob, zaL (G.2 0) 40 (of2))]) (va_runS (As := [.int (iz (zbb al1)), .int (iz (zbb al2))]) (rest := []) ⟨hx, hb, hml, hown, hts⟩ (c_X4_kindOf l G al1 al2  H.size) (va_cwS 2 hts gX4_ratio__X4_kindOf rfl rfl rfl (by decide +kernel) ⟨Nat.le_of_ble_eq_true rfl, Nat.le_of_ble_eq_true rfl⟩) (zpS hKX hP hD [] rfl rfl) rfl rfl hl.1 rfl (lv_room (Nat.le_of_ble_eq_true rfl)) dX4_ratio__60 ⟨(by first | exact Nat.le_of_ble_eq_true rfl | (show _ ≤ (1 : Nat); omega)), (by first | exact Nat.le_of_ble_eq_true rfl | (show _ ≤ (6 : Nat); omega))⟩) hP hD hS hA [] [0, 1, 2, 3, 4] rfl rfl rfl (by decide) (fun ko u_16 H locs hko hP hD hS => ?_)
      have hP : va_P G.1 vwCl [(r, .inr (5, [.int (iz (md))])), (ua, .inr (9, [.ref ub, .int (iz (un1)), .long (lz (ut1))])), (ub, zaL (G.2 0) 40 (uf1)), (oa, .inr (9, [.ref ob, .int (iz (on2)), .long (lz (ot2))])), (ob, zaL (G.2 0) 40 (of2))] H := hP
      have hD : va_D A [(r, .inr (5, [.int (iz (md))])), (ua, .inr (9, [.ref ub, .int (iz (un1)), .long (lz (ut1))])), (ub, zaL (G.2 0) 40 (uf1)), (oa, .inr (9, [.ref ob, .int (iz (on2)), .long (lz (ot2))])), (ob, zaL (G.2 0) 40 (of2))] := hD
      have hko : ko = if al1 then if al2 then 2 else 3 else 1 := hko
      have hkw := zkind_w hsc.1 hal1 hal2 hko
      have hrp := zrestp hsc.1 hr0 (zsg_pos hs2 (by omega))
      refine lv_istore (lv' := [(6, .int (iz (ko))), (4, .long (lz (wq))), (3, .int (iz (zbb bl))), (0, .ref r), (1, .ref oa), (2, .ref ua)]) hx hb dX4_ratio__63 hl (by decide) rfl (fun ls hl => ?_)
      refine W.widen (k := 0 + 0) (n := 0 + 0) (by omega) (by omega) ?_
      exact hl_65 ko of2 on2 ot2 _ _ _ (by first | exact Or.inl ⟨rfl, zrest0 hsc.1 hr0 (zsg_le hs2 (by omega))⟩ | exact zkn_k hkw hrp) (hP.sub [0, 3, 4, 1, 2] rfl) (hD.sub [0, 3, 4, 1, 2] (by decide) rfl) hS (hl)
  refine lv_aload_n hx hb dX4_ratio__0 rfl (lv_at hl 1 rfl) ?_
  refine zc_i (wr := [(r, .inr (5, [.int (iz (md))])), (ua, .inr (9, [.ref ub, .int (iz (un)), .long (lz (ut))])), (ub, zaL (G.2 0) 40 (uf))]) (va_runV (As := []) (rest := []) ⟨hx, hb, hml, hown, hts⟩ (c_X8_sign l G oa ob of on ot v (h1) H.size) (cwV 0 hts gX4_ratio__X8_sign rfl rfl rfl (by decide +kernel) ⟨Nat.le_of_ble_eq_true rfl, Nat.le_of_ble_eq_true rfl⟩) (zpV hKX hP hD [1, 2] rfl rfl 1 9 rfl rfl) rfl rfl hl.1 rfl (lv_room (Nat.le_of_ble_eq_true rfl)) dX4_ratio__1 ⟨(by first | exact Nat.le_of_ble_eq_true rfl | (show _ ≤ (1 : Nat); omega)), (by first | exact Nat.le_of_ble_eq_true rfl | (show _ ≤ (6 : Nat); omega))⟩) hP hD hS hA [1, 2] [0, 3, 4] rfl rfl rfl (by decide) (fun sg u_18 H locs hsg hP hD hS => ?_)
  have hP : va_P G.1 vwCl [(r, .inr (5, [.int (iz (md))])), (ua, .inr (9, [.ref ub, .int (iz (un)), .long (lz (ut))])), (ub, zaL (G.2 0) 40 (uf)), (oa, .inr (9, [.ref ob, .int (iz (on)), .long (lz (ot))])), (ob, zaL (G.2 0) 40 (of))] H := hP
  have hD : va_D A [(r, .inr (5, [.int (iz (md))])), (ua, .inr (9, [.ref ub, .int (iz (un)), .long (lz (ut))])), (ub, zaL (G.2 0) 40 (uf)), (oa, .inr (9, [.ref ob, .int (iz (on)), .long (lz (ot))])), (ob, zaL (G.2 0) 40 (of))] := hD
  have hsg : sg = v.sign := hsg
  have hs0 := zsgr v
  rw [← hsg] at hs0
  refine zr_if_ge (x := sg) (tgt := 11) hx hb (⟨by omega, by omega⟩) dX4_ratio__4 (by decide) (fun h_20 => ?_) (fun h_20 => ?_)
  ·
    have hv0 : 0 ≤ v := zsg_le0 hsg (by omega)
    refine lv_iconst (v := iz (0)) hx hb dX4_ratio__11 rfl ?_
    refine lv_istore_n (lv' := [(3, .int (iz (0))), (0, .ref r), (1, .ref oa), (2, .ref ua)]) hx hb dX4_ratio__12 rfl hl (by decide) rfl (fun ls hl => ?_)
    refine lv_iload_n hx hb dX4_ratio__13 rfl (lv_at hl 0 rfl) ?_
    refine zr_if_eq (x := 0) (tgt := 24) hx hb (⟨by omega, by omega⟩) dX4_ratio__14 (by decide) (fun h_21 => ?_) (fun h_21 => ?_)
    ·
      refine W.widen (k := 0) (n := 0) (by omega) (by omega) ?_
      exact hl_24 false of on ot _ _ _ (by first | (rw [show (v.natAbs : Int) = v * -1 by omega]; exact hm1) | (rw [show (v.natAbs : Int) = v by omega]; exact h1)) (by first | exact (decide_eq_true (by omega)).symm | exact (decide_eq_false (by omega)).symm) (hP.sub [0, 3, 4, 1, 2] rfl) (hD.sub [0, 3, 4, 1, 2] (by decide) rfl) hS (hl)
    · exact absurd h_21 (by omega)
  ·
    have hv0 : v < 0 := zsg_neg hsg (by omega)
    refine lv_iconst (v := iz (1)) hx hb dX4_ratio__7 rfl ?_
    refine lv_goto (tgt := 12) hx hb dX4_ratio__8 (by decide) ?_
    refine lv_istore_n (lv' := [(3, .int (iz (1))), (0, .ref r), (1, .ref oa), (2, .ref ua)]) hx hb dX4_ratio__12 rfl hl (by decide) rfl (fun ls hl => ?_)
    refine lv_iload_n hx hb dX4_ratio__13 rfl (lv_at hl 0 rfl) ?_
    refine zr_if_eq (x := 1) (tgt := 24) hx hb (⟨by omega, by omega⟩) dX4_ratio__14 (by decide) (fun h_22 => ?_) (fun h_22 => ?_)
    · exact absurd h_22 (by omega)
    ·
      refine lv_aload_n hx hb dX4_ratio__17 rfl (lv_at hl 2 rfl) ?_
      refine zr_ldc2 (z := -1) hx hb hown (hts (.constantLong RX4 35 (-1)) (by decide +kernel)) rfl dX4_ratio__18 ?_
      refine zc_v (wr := [(r, .inr (5, [.int (iz (md))])), (ua, .inr (9, [.ref ub, .int (iz (un)), .long (lz (ut))])), (ub, zaL (G.2 0) 40 (uf))]) (va_runV (As := [.long (lz (-1))]) (rest := []) ⟨hx, hb, hml, hown, hts⟩ (c_X8_times l G oa ob of on ot v (-1) (h1) (by omega) (by omega) H.size) (cwV 1 hts gX4_ratio__X8_times rfl rfl rfl (by decide +kernel) ⟨Nat.le_of_ble_eq_true rfl, Nat.le_of_ble_eq_true rfl⟩) (zpV hKX hP hD [3, 4] rfl rfl 3 9 rfl rfl) rfl rfl hl.1 rfl (lv_room (Nat.le_of_ble_eq_true rfl)) dX4_ratio__21 ⟨(by first | exact Nat.le_of_ble_eq_true rfl | (show _ ≤ (1 : Nat); omega)), (by first | exact Nat.le_of_ble_eq_true rfl | (show _ ≤ (6 : Nat); omega))⟩) hP hD hS hA [3, 4] [0, 1, 2] rfl rfl rfl (by decide) (fun u_23 H locs hm1 hP hD hS => ?_)
      obtain ⟨of0, on0, ot0⟩ := u_23
      have hP : va_P G.1 vwCl [(r, .inr (5, [.int (iz (md))])), (ua, .inr (9, [.ref ub, .int (iz (un)), .long (lz (ut))])), (ub, zaL (G.2 0) 40 (uf)), (oa, .inr (9, [.ref ob, .int (iz (on0)), .long (lz (ot0))])), (ob, zaL (G.2 0) 40 (of0))] H := hP
      have hD : va_D A [(r, .inr (5, [.int (iz (md))])), (ua, .inr (9, [.ref ub, .int (iz (un)), .long (lz (ut))])), (ub, zaL (G.2 0) 40 (uf)), (oa, .inr (9, [.ref ob, .int (iz (on0)), .long (lz (ot0))])), (ob, zaL (G.2 0) 40 (of0))] := hD
      have hm1 : zwv of0 on0 ot0 (v * (-1 : Int)) := hm1
      refine W.widen (k := 0) (n := 0) (by omega) (by omega) ?_
      exact hl_24 true of0 on0 ot0 _ _ _ (by first | (rw [show (v.natAbs : Int) = v * -1 by omega]; exact hm1) | (rw [show (v.natAbs : Int) = v by omega]; exact h1)) (by first | exact (decide_eq_true (by omega)).symm | exact (decide_eq_false (by omega)).symm) (hP.sub [0, 3, 4, 1, 2] rfl) (hD.sub [0, 3, 4, 1, 2] (by decide) rfl) hS (hl)
