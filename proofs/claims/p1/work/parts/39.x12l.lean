-- ArrayList's growth (laid by wip/walk/x12l.py)
def rm_c_newLength : Room := { frames := 1, cells := 0, slots := 0, locals := 21 }
set_option maxHeartbeats 1000000 in
set_option maxRecDepth 100000 in
theorem c_newLength (l : Launch) (G : zG) (o : Int) (i : Int) (j : Int) (h1 : 0 ≤ o ∧ o ≤ 100000 ∧ 1 ≤ i ∧ i ≤ 100000 ∧ 0 ≤ j ∧ j ≤ 100000) : zM l G yJ8_newLength_cabcc wsJ8_newLength_cabcc rm_c_newLength [.int (iz (o)), .int (iz (i)), .int (iz (j))] [] (fun A => zQi G (fun (z : Int) (_ : Unit) => z = o + max i j) (fun (_ : Unit) => []) A) 0 0 := by
  refine zM_ofF (cc := cJ8_newLength_cabcc) (maxL := 4) (ret := (some .int)) (by decide +kernel) rfl (Nat.le_of_ble_eq_true rfl) ?_
  intro p e s m below meth c ls A Q hQ hx hb hr hts hown hlocks hml hnm hKX hP hD hA hS hl
  have hK := hKX.1
  obtain ⟨H, hH⟩ : ∃ h, h = s.heap := ⟨_, rfl⟩
  obtain ⟨locs, hlo⟩ : ∃ h : List Loc, h = [] := ⟨_, rfl⟩
  have hS : va_S A s.heap H locs := by rw [hH, hlo]; exact hS
  have hP : va_P G.1 vwCl [] H := by rw [hH]; exact hP
  have hD : va_D A [] := hD
  have hl : lv_has ls 4 [(0, .int (iz (o))), (1, .int (iz (i))), (2, .int (iz (j)))] := hl
  rw [← hH, ← hlo]
  refine lv_iload_n hx hb dJ8_newLength_cabcc_0 rfl (lv_at hl 0 rfl) ?_
  refine lv_iload_n hx hb dJ8_newLength_cabcc_1 rfl (lv_at hl 1 rfl) ?_
  refine lv_iload_n hx hb dJ8_newLength_cabcc_2 rfl (lv_at hl 2 rfl) ?_
  refine zr_mmax (x := i) (y := j) hx hb (hml.trans hl.1.symm) hown (hts (.methodLink RJ8 194 Lib.Math.max.name) (by decide +kernel)) (hts (.static Lib.Math.max.name) (by decide +kernel)) (hts (.initialized "java/lang/Math") (by decide +kernel)) (hts (.code Lib.Math.max.name Lib.Math.max.code 2 (some .int)) (by decide +kernel)) (Nat.le_of_ble_eq_true rfl) (Nat.le_of_ble_eq_true rfl) (by first | exact Nat.le_of_ble_eq_true rfl | (show _ ≤ (0 : Nat); omega)) (by first | exact Nat.le_of_ble_eq_true rfl | (show _ ≤ (0 : Nat); omega)) (⟨by omega, by omega⟩) (⟨by omega, by omega⟩) dJ8_newLength_cabcc_3 ?_
  refine zr_iadd hx hb dJ8_newLength_cabcc_6 ?_
  refine lv_istore_n (lv' := [(3, .int (iz (o + (max i j)))), (0, .int (iz (o))), (1, .int (iz (i))), (2, .int (iz (j)))]) hx hb dJ8_newLength_cabcc_7 rfl hl (by decide) rfl (fun ls hl => ?_)
  refine lv_iconst (v := iz (0)) hx hb dJ8_newLength_cabcc_8 rfl ?_
  refine lv_iload_n hx hb dJ8_newLength_cabcc_9 rfl (lv_at hl 0 rfl) ?_
  refine zr_icmp_ge (x := 0) (y := o + (max i j)) (tgt := 21) hx hb (⟨by omega, by omega⟩) (⟨by omega, by omega⟩) dJ8_newLength_cabcc_10 (by decide) (fun h_1 => ?_) (fun h_1 => ?_)
  · exact absurd h_1 (by omega)
  ·
    refine lv_iload_n hx hb dJ8_newLength_cabcc_13 rfl (lv_at hl 0 rfl) ?_
    refine zr_ldc (z := 2147483639) hx hb hown (hts (.constant RJ8 200 (2147483639)) (by decide +kernel)) rfl dJ8_newLength_cabcc_14 ?_
    refine zr_icmp_gt (x := o + (max i j)) (y := 2147483639) (tgt := 21) hx hb (⟨by omega, by omega⟩) (⟨by omega, by omega⟩) dJ8_newLength_cabcc_16 (by decide) (fun h_2 => ?_) (fun h_2 => ?_)
    · exact absurd h_2 (by omega)
    ·
      refine lv_iload_n hx hb dJ8_newLength_cabcc_19 rfl (lv_at hl 0 rfl) ?_
      rw [hQ]
      exact zr_iret (z := o + (max i j)) (u := ()) hx hb hr hlocks hP hD hS (by first | exact Nat.le_of_ble_eq_true rfl | omega) (by first | exact Nat.le_of_ble_eq_true rfl | omega) dJ8_newLength_cabcc_20 (show (o + (max i j)) = o + max i j from rfl)
