-- THE CLASS: demands that fail, and what stands on them (laid by wip/walk/x9x.py)
def rm_c_X9_demand_x : Room := { frames := 6, cells := 1, slots := 6, locals := 90 }
set_option maxHeartbeats 1000000 in
set_option maxRecDepth 100000 in
theorem c_X9_demand_x (l : Launch) (G : zG) (s1 s2 s3 : Nat) (hl0 : l.stackTraces = false) : zMx l (zXE s1 s2 s3) G yX9_demand wsX9_demand rm_c_X9_demand_x [.int (iz (zbb false))] [] "java/lang/IllegalArgumentException" 1 6 := by
  refine zMx_of (cc := cX9_demand) (maxL := 1) (ret := none) (by decide) rfl (Nat.le_of_ble_eq_true rfl) ?_
  intro p e s m below meth c ls A Q hQ hx hb hr hts hown hlocks hml hout hKX hE hP hD hA hS hl
  have hl : lv_has ls 1 [(0, .int (iz (zbb false)))] := hl
  refine lv_iload_n hx hb dX9_demand_0 rfl (lv_at hl 0 rfl) ?_
  refine zr_ifz_ne (tgt := 15) hx hb dX9_demand_1 (by decide) (fun h => ?_) (fun h => ?_)
  · exact absurd h (by decide)
  rw [hQ]
  exact vx_throwSW (own := RX9) (cls := "java/lang/IllegalArgumentException") (text := "a parameter is out of range") (names := ["java/lang/RuntimeException", "java/lang/Exception"]) (ik := 281) (is := 283) (ic := 285) (sa := s1) hx hb hl0 hown (by decide +kernel) (by decide +kernel)
    (hts (.classLink RX9 281 "java/lang/IllegalArgumentException") (by decide +kernel)) (hts (.initialized "java/lang/IllegalArgumentException") (by decide +kernel)) hE.2.1
    (vx_hat (fun w hw => hts w (List.mem_cons_of_mem _ (List.mem_append_right _ hw))) (B := [.castable "java/lang/IllegalArgumentException" "java/lang/IllegalArgumentException", .declares ⟨"java/lang/RuntimeException", "<init>", "(Ljava/lang/String;)V"⟩, .declares ⟨"java/lang/Exception", "<init>", "(Ljava/lang/String;)V"⟩, .declares ⟨"java/lang/Throwable", "<init>", "(Ljava/lang/String;)V"⟩] ) (by decide +kernel) (vx_c (va_Nw.use rfl (hKX.2.2.2 (.castable "java/lang/IllegalArgumentException" "java/lang/IllegalArgumentException") (by decide +kernel))) (vx_c (va_Nw.use rfl hE.2.2.2.2.1) (vx_c (va_Nw.use rfl hE.2.2.2.2.2.1) (vx_c (va_Nw.use rfl hE.2.2.2.2.2.2) vx_n)))))
    (by decide +kernel) hE.1.1 hE.1.2 hS (hl.1.trans hml.symm) dX9_demand_4 dX9_demand_7 dX9_demand_8 dX9_demand_11 dX9_demand_14 (fun x hx => (hout x hx).elim)
    (Nat.le_of_ble_eq_true rfl) (Nat.le_of_ble_eq_true rfl) (Nat.le_of_ble_eq_true rfl) (Nat.le_of_ble_eq_true rfl) hlocks
    (fun t _ h1 h2 => ⟨(), trivial, rfl, h1, fun q hq _ => h2 q hq⟩) (fun z hz => nomatch hz) (Nat.le_of_ble_eq_true rfl) (Nat.le_of_ble_eq_true rfl)

def rm_c_X9_demandState_x : Room := { frames := 6, cells := 1, slots := 6, locals := 90 }
set_option maxHeartbeats 1000000 in
set_option maxRecDepth 100000 in
theorem c_X9_demandState_x (l : Launch) (G : zG) (s1 s2 s3 : Nat) (hl0 : l.stackTraces = false) : zMx l (zXE s1 s2 s3) G yX9_demandState wsX9_demandState rm_c_X9_demandState_x [.int (iz (zbb false))] [] "java/lang/IllegalStateException" 1 6 := by
  refine zMx_of (cc := cX9_demandState) (maxL := 1) (ret := none) (by decide) rfl (Nat.le_of_ble_eq_true rfl) ?_
  intro p e s m below meth c ls A Q hQ hx hb hr hts hown hlocks hml hout hKX hE hP hD hA hS hl
  have hl : lv_has ls 1 [(0, .int (iz (zbb false)))] := hl
  refine lv_iload_n hx hb dX9_demandState_0 rfl (lv_at hl 0 rfl) ?_
  refine zr_ifz_ne (tgt := 15) hx hb dX9_demandState_1 (by decide) (fun h => ?_) (fun h => ?_)
  · exact absurd h (by decide)
  rw [hQ]
  exact vx_throwSW (own := RX9) (cls := "java/lang/IllegalStateException") (text := "not in this state") (names := ["java/lang/RuntimeException", "java/lang/Exception"]) (ik := 288) (is := 290) (ic := 292) (sa := s2) hx hb hl0 hown (by decide +kernel) (by decide +kernel)
    (hts (.classLink RX9 288 "java/lang/IllegalStateException") (by decide +kernel)) (hts (.initialized "java/lang/IllegalStateException") (by decide +kernel)) hE.2.2.1
    (vx_hat (fun w hw => hts w (List.mem_cons_of_mem _ (List.mem_append_right _ hw))) (B := [.castable "java/lang/IllegalStateException" "java/lang/IllegalStateException", .declares ⟨"java/lang/RuntimeException", "<init>", "(Ljava/lang/String;)V"⟩, .declares ⟨"java/lang/Exception", "<init>", "(Ljava/lang/String;)V"⟩, .declares ⟨"java/lang/Throwable", "<init>", "(Ljava/lang/String;)V"⟩] ) (by decide +kernel) (vx_c (va_Nw.use rfl (hKX.2.2.2 (.castable "java/lang/IllegalStateException" "java/lang/IllegalStateException") (by decide +kernel))) (vx_c (va_Nw.use rfl hE.2.2.2.2.1) (vx_c (va_Nw.use rfl hE.2.2.2.2.2.1) (vx_c (va_Nw.use rfl hE.2.2.2.2.2.2) vx_n)))))
    (by decide +kernel) hE.1.1 hE.1.2 hS (hl.1.trans hml.symm) dX9_demandState_4 dX9_demandState_7 dX9_demandState_8 dX9_demandState_11 dX9_demandState_14 (fun x hx => (hout x hx).elim)
    (Nat.le_of_ble_eq_true rfl) (Nat.le_of_ble_eq_true rfl) (Nat.le_of_ble_eq_true rfl) (Nat.le_of_ble_eq_true rfl) hlocks
    (fun t _ h1 h2 => ⟨(), trivial, rfl, h1, fun q hq _ => h2 q hq⟩) (fun z hz => nomatch hz) (Nat.le_of_ble_eq_true rfl) (Nat.le_of_ble_eq_true rfl)

def rm_c_X9_demandElement_x : Room := { frames := 6, cells := 1, slots := 6, locals := 90 }
set_option maxHeartbeats 1000000 in
set_option maxRecDepth 100000 in
theorem c_X9_demandElement_x (l : Launch) (G : zG) (s1 s2 s3 : Nat) (hl0 : l.stackTraces = false) : zMx l (zXE s1 s2 s3) G yX9_demandElement wsX9_demandElement rm_c_X9_demandElement_x [.int (iz (zbb false))] [] "java/util/NoSuchElementException" 1 6 := by
  refine zMx_of (cc := cX9_demandElement) (maxL := 1) (ret := none) (by decide) rfl (Nat.le_of_ble_eq_true rfl) ?_
  intro p e s m below meth c ls A Q hQ hx hb hr hts hown hlocks hml hout hKX hE hP hD hA hS hl
  have hl : lv_has ls 1 [(0, .int (iz (zbb false)))] := hl
  refine lv_iload_n hx hb dX9_demandElement_0 rfl (lv_at hl 0 rfl) ?_
  refine zr_ifz_ne (tgt := 15) hx hb dX9_demandElement_1 (by decide) (fun h => ?_) (fun h => ?_)
  · exact absurd h (by decide)
  rw [hQ]
  exact zx_throwSWX (ix := 13) (rx := zrx13) (own := RX9) (cls := "java/util/NoSuchElementException") (text := "there is no such one") (names := ["java/lang/RuntimeException", "java/lang/Exception"]) (ik := 293) (is := 295) (ic := 297) (sa := s3) hx hb hl0 (by decide +kernel) (by decide +kernel) (by decide +kernel) (by decide +kernel) hown (by decide +kernel) (by decide +kernel)
    (hts (.classLink RX9 293 "java/util/NoSuchElementException") (by decide +kernel)) (hts (.initialized "java/util/NoSuchElementException") (by decide +kernel)) hE.2.2.2.1
    (vx_hat (fun w hw => hts w (List.mem_cons_of_mem _ (List.mem_append_right _ hw))) (B := [.castable "java/util/NoSuchElementException" "java/util/NoSuchElementException", .declares ⟨"java/lang/RuntimeException", "<init>", "(Ljava/lang/String;)V"⟩, .declares ⟨"java/lang/Exception", "<init>", "(Ljava/lang/String;)V"⟩, .declares ⟨"java/lang/Throwable", "<init>", "(Ljava/lang/String;)V"⟩] ) (by decide +kernel) (vx_c (va_Nw.use rfl (hKX.2.2.2 (.castable "java/util/NoSuchElementException" "java/util/NoSuchElementException") (by decide +kernel))) (vx_c (va_Nw.use rfl hE.2.2.2.2.1) (vx_c (va_Nw.use rfl hE.2.2.2.2.2.1) (vx_c (va_Nw.use rfl hE.2.2.2.2.2.2) vx_n)))))
    (by decide +kernel) hE.1.1 hE.1.2 hS (hl.1.trans hml.symm) dX9_demandElement_4 dX9_demandElement_7 dX9_demandElement_8 dX9_demandElement_11 dX9_demandElement_14 (fun x hx => (hout x hx).elim)
    (Nat.le_of_ble_eq_true rfl) (Nat.le_of_ble_eq_true rfl) (Nat.le_of_ble_eq_true rfl) (Nat.le_of_ble_eq_true rfl) hlocks
    (fun t _ h1 h2 => ⟨(), trivial, rfl, h1, fun q hq _ => h2 q hq⟩) (fun z hz => nomatch hz) (Nat.le_of_ble_eq_true rfl) (Nat.le_of_ble_eq_true rfl)

def rm_c_X9_demandRate_o : Room := { frames := 1, cells := 0, slots := 0, locals := 25 }
set_option maxHeartbeats 1000000 in
set_option maxRecDepth 100000 in
theorem c_X9_demandRate_o (l : Launch) (G : zG) (po : Int) (h0 : -2147483648 ≤ po ∧ po < 2147483648) (h1 : 0 ≤ po ∧ po ≤ 20000) : zM l G yX9_demandRate wsX9_demandRate rm_c_X9_demandRate_o [.int (iz (po))] [] (fun A => zQv G (fun (_ : Unit) => True) (fun (_ : Unit) => []) A) 0 0 := by
  refine zM_of (cc := cX9_demandRate) (maxL := 1) (ret := none) (by decide) rfl (Nat.le_of_ble_eq_true rfl) ?_
  intro p e s m below meth c ls A Q hQ hx hb hr hts hown hlocks hml hnm hKX hP hD hA hS hl
  have hK := hKX.1
  obtain ⟨H, hH⟩ : ∃ h, h = s.heap := ⟨_, rfl⟩
  obtain ⟨locs, hlo⟩ : ∃ h : List Loc, h = [] := ⟨_, rfl⟩
  have hS : va_S A s.heap H locs := by rw [hH, hlo]; exact hS
  have hP : va_P G.1 vwCl [] H := by rw [hH]; exact hP
  have hD : va_D A [] := hD
  have hl : lv_has ls 1 [(0, .int (iz (po)))] := hl
  rw [← hH, ← hlo]
  refine lv_iload_n hx hb dX9_demandRate_0 rfl (lv_at hl 0 rfl) ?_
  refine zr_i2l hx hb (x := po) (⟨by omega, by omega⟩) dX9_demandRate_1 ?_
  refine lv_lconst (v := lz (0)) hx hb dX9_demandRate_2 rfl ?_
  refine zr_ldc2 (z := 20000) hx hb hown (hts (.constantLong RX9 279 (20000)) (by decide +kernel)) rfl dX9_demandRate_3 ?_
  refine zc_z (wr := []) (va_runS (As := [.long (lz (po)), .long (lz (0)), .long (lz (20000))]) (rest := []) ⟨hx, hb, hml, hown, hts⟩ (c_X9_isWithin l G po 0 20000 (by omega) (by omega) (by omega) H.size) (va_cwS 3 hts gX9_demandRate_X9_isWithin rfl rfl rfl (by decide +kernel) ⟨Nat.le_of_ble_eq_true rfl, Nat.le_of_ble_eq_true rfl⟩) (zpS hKX hP hD [] rfl rfl) rfl rfl hl.1 rfl (lv_room (Nat.le_of_ble_eq_true rfl)) dX9_demandRate_6 ⟨(by first | exact Nat.le_of_ble_eq_true rfl | (show _ ≤ (0 : Nat); omega)), (by first | exact Nat.le_of_ble_eq_true rfl | (show _ ≤ (0 : Nat); omega))⟩) hP hD hS hA [] [] rfl rfl rfl (by decide) (fun y1 u_1 H locs hy1 hP hD hS => ?_)
  have hP : va_P G.1 vwCl [] H := hP
  have hD : va_D A [] := hD
  have hy1 : y1 = decide ((0 : Int) ≤ po ∧ po ≤ (20000 : Int)) := hy1
  rw [show y1 = true from hy1.trans (decide_eq_true (by omega))]
  refine zc_v (wr := []) (va_runS (As := [.int (iz (zbb true))]) (rest := []) ⟨hx, hb, hml, hown, hts⟩ (c_X9_demand_o l G   H.size) (va_cwS 1 hts gX9_demandRate_X9_demand rfl rfl rfl (by decide +kernel) ⟨Nat.le_of_ble_eq_true rfl, Nat.le_of_ble_eq_true rfl⟩) (zpS hKX hP hD [] rfl rfl) rfl rfl hl.1 rfl (lv_room (Nat.le_of_ble_eq_true rfl)) dX9_demandRate_9 ⟨(by first | exact Nat.le_of_ble_eq_true rfl | (show _ ≤ (0 : Nat); omega)), (by first | exact Nat.le_of_ble_eq_true rfl | (show _ ≤ (0 : Nat); omega))⟩) hP hD hS hA [] [] rfl rfl rfl (by decide) (fun u_3 H locs hq_6 hP hD hS => ?_)
  have hP : va_P G.1 vwCl [] H := hP
  have hD : va_D A [] := hD
  rw [hQ]
  exact zr_vret (u := ()) hx hb hr hlocks hP hD hS (by first | exact Nat.le_of_ble_eq_true rfl | omega) (by first | exact Nat.le_of_ble_eq_true rfl | omega) dX9_demandRate_12 (show True from trivial)

def rm_c_X9_demandRate_x : Room := { frames := 7, cells := 1, slots := 6, locals := 110 }
set_option maxHeartbeats 1000000 in
set_option maxRecDepth 100000 in
theorem c_X9_demandRate_x (l : Launch) (G : zG) (s1 : Nat) (s2 : Nat) (s3 : Nat) (po : Int) (hl0 : l.stackTraces = false) (h0 : -2147483648 ≤ po ∧ po < 2147483648) (h1 : ¬ (0 ≤ po ∧ po ≤ 20000)) : zMx l (zXE s1 s2 s3) G yX9_demandRate wsX9_demandRate rm_c_X9_demandRate_x [.int (iz (po))] [] "java/lang/IllegalArgumentException" 1 6 := by
  refine zMx_of (cc := cX9_demandRate) (maxL := 1) (ret := none) (by decide) rfl (Nat.le_of_ble_eq_true rfl) ?_
  intro p e s m below meth c ls A Q hQ hx hb hr hts hown hlocks hml hout hKX hE hP hD hA hS hl
  have hK := hKX.1
  obtain ⟨H, hH⟩ : ∃ h, h = s.heap := ⟨_, rfl⟩
  obtain ⟨locs, hlo⟩ : ∃ h : List Loc, h = [] := ⟨_, rfl⟩
  have hS : va_S A s.heap H locs := by rw [hH, hlo]; exact hS
  have hP : va_P G.1 vwCl [] H := by rw [hH]; exact hP
  have hD : va_D A [] := hD
  have hl : lv_has ls 1 [(0, .int (iz (po)))] := hl
  rw [← hH, ← hlo]
  refine lv_iload_n hx hb dX9_demandRate_0 rfl (lv_at hl 0 rfl) ?_
  refine zr_i2l hx hb (x := po) (⟨by omega, by omega⟩) dX9_demandRate_1 ?_
  refine lv_lconst (v := lz (0)) hx hb dX9_demandRate_2 rfl ?_
  refine zr_ldc2 (z := 20000) hx hb hown (hts (.constantLong RX9 279 (20000)) (by decide +kernel)) rfl dX9_demandRate_3 ?_
  refine zc_z (wr := []) (va_runS (As := [.long (lz (po)), .long (lz (0)), .long (lz (20000))]) (rest := []) ⟨hx, hb, hml, hown, hts⟩ (c_X9_isWithin l G po 0 20000 (by omega) (by omega) (by omega) H.size) (va_cwS 3 hts gX9_demandRate_X9_isWithin rfl rfl rfl (by decide +kernel) ⟨Nat.le_of_ble_eq_true rfl, Nat.le_of_ble_eq_true rfl⟩) (zpS hKX hP hD [] rfl rfl) rfl rfl hl.1 rfl (lv_room (Nat.le_of_ble_eq_true rfl)) dX9_demandRate_6 ⟨(by first | exact Nat.le_of_ble_eq_true rfl | (show _ ≤ (1 : Nat); omega)), (by first | exact Nat.le_of_ble_eq_true rfl | (show _ ≤ (6 : Nat); omega))⟩) hP hD hS hA [] [] rfl rfl rfl (by decide) (fun y1 u_1 H locs hy1 hP hD hS => ?_)
  have hP : va_P G.1 vwCl [] H := hP
  have hD : va_D A [] := hD
  have hy1 : y1 = decide ((0 : Int) ≤ po ∧ po ≤ (20000 : Int)) := hy1
  rw [show y1 = false from hy1.trans (decide_eq_false (by omega))]
  rw [hQ]
  exact zx_thr (X := "java/lang/IllegalArgumentException") (vx_runS (As := [.int (iz (zbb false))]) (rest := []) ⟨hx, hb, hml, hown, hts⟩ (c_X9_demand_x l G s1 s2 s3 hl0 H.size) (va_cwS 1 hts gX9_demandRate_X9_demand rfl rfl rfl (by decide +kernel) ⟨Nat.le_of_ble_eq_true rfl, Nat.le_of_ble_eq_true rfl⟩) (zpSe zXE_ok hE hS hA hKX hP hD [] rfl rfl) rfl rfl hl.1 rfl (lv_room (Nat.le_of_ble_eq_true rfl)) dX9_demandRate_9 ⟨(by first | exact Nat.le_of_ble_eq_true rfl | (show _ ≤ (1 : Nat); omega)), (by first | exact Nat.le_of_ble_eq_true rfl | (show _ ≤ (6 : Nat); omega))⟩) hS (va_free (wc := []) hD hS hA [] rfl) hout hlocks (by first | exact Nat.le_of_ble_eq_true rfl | omega) (by first | exact Nat.le_of_ble_eq_true rfl | omega)

def rm_c_X9_demandBond_o : Room := { frames := 1, cells := 0, slots := 0, locals := 25 }
set_option maxHeartbeats 1000000 in
set_option maxRecDepth 100000 in
theorem c_X9_demandBond_o (l : Launch) (G : zG) (cp : Int) (fa : Int) (pr : Int) (h0 : -9223372036854775808 ≤ cp ∧ cp < 9223372036854775808) (h01 : -9223372036854775808 ≤ fa ∧ fa < 9223372036854775808) (h02 : -2147483648 ≤ pr ∧ pr < 2147483648) (h1 : 0 ≤ cp ∧ cp ≤ 1000000000 ∧ 0 ≤ fa ∧ fa ≤ 1000000000 ∧ 1 ≤ pr ∧ pr ≤ 40) : zM l G yX9_demandBond wsX9_demandBond rm_c_X9_demandBond_o [.long (lz (cp)), .long (lz (fa)), .int (iz (pr))] [] (fun A => zQv G (fun (_ : Unit) => True) (fun (_ : Unit) => []) A) 0 0 := by
  refine zM_of (cc := cX9_demandBond) (maxL := 5) (ret := none) (by decide) rfl (Nat.le_of_ble_eq_true rfl) ?_
  intro p e s m below meth c ls A Q hQ hx hb hr hts hown hlocks hml hnm hKX hP hD hA hS hl
  have hK := hKX.1
  obtain ⟨H, hH⟩ : ∃ h, h = s.heap := ⟨_, rfl⟩
  obtain ⟨locs, hlo⟩ : ∃ h : List Loc, h = [] := ⟨_, rfl⟩
  have hS : va_S A s.heap H locs := by rw [hH, hlo]; exact hS
  have hP : va_P G.1 vwCl [] H := by rw [hH]; exact hP
  have hD : va_D A [] := hD
  have hl : lv_has ls 5 [(0, .long (lz (cp))), (2, .long (lz (fa))), (4, .int (iz (pr)))] := hl
  rw [← hH, ← hlo]
  refine lv_lload_n hx hb dX9_demandBond_0 rfl (lv_at hl 0 rfl) ?_
  refine lv_lconst (v := lz (0)) hx hb dX9_demandBond_1 rfl ?_
  refine zr_ldc2 (z := 1000000000) hx hb hown (hts (.constantLong RX9 91 (1000000000)) (by decide +kernel)) rfl dX9_demandBond_2 ?_
  refine zc_z (wr := []) (va_runS (As := [.long (lz (cp)), .long (lz (0)), .long (lz (1000000000))]) (rest := []) ⟨hx, hb, hml, hown, hts⟩ (c_X9_isWithin l G cp 0 1000000000 (by omega) (by omega) (by omega) H.size) (va_cwS 3 hts gX9_demandBond_X9_isWithin rfl rfl rfl (by decide +kernel) ⟨Nat.le_of_ble_eq_true rfl, Nat.le_of_ble_eq_true rfl⟩) (zpS hKX hP hD [] rfl rfl) rfl rfl hl.1 rfl (lv_room (Nat.le_of_ble_eq_true rfl)) dX9_demandBond_5 ⟨(by first | exact Nat.le_of_ble_eq_true rfl | (show _ ≤ (0 : Nat); omega)), (by first | exact Nat.le_of_ble_eq_true rfl | (show _ ≤ (0 : Nat); omega))⟩) hP hD hS hA [] [] rfl rfl rfl (by decide) (fun y1 u_1 H locs hy1 hP hD hS => ?_)
  have hP : va_P G.1 vwCl [] H := hP
  have hD : va_D A [] := hD
  have hy1 : y1 = decide ((0 : Int) ≤ cp ∧ cp ≤ (1000000000 : Int)) := hy1
  rw [show y1 = true from hy1.trans (decide_eq_true (by omega))]
  refine zc_v (wr := []) (va_runS (As := [.int (iz (zbb true))]) (rest := []) ⟨hx, hb, hml, hown, hts⟩ (c_X9_demand_o l G   H.size) (va_cwS 1 hts gX9_demandBond_X9_demand rfl rfl rfl (by decide +kernel) ⟨Nat.le_of_ble_eq_true rfl, Nat.le_of_ble_eq_true rfl⟩) (zpS hKX hP hD [] rfl rfl) rfl rfl hl.1 rfl (lv_room (Nat.le_of_ble_eq_true rfl)) dX9_demandBond_8 ⟨(by first | exact Nat.le_of_ble_eq_true rfl | (show _ ≤ (0 : Nat); omega)), (by first | exact Nat.le_of_ble_eq_true rfl | (show _ ≤ (0 : Nat); omega))⟩) hP hD hS hA [] [] rfl rfl rfl (by decide) (fun u_3 H locs hq_6 hP hD hS => ?_)
  have hP : va_P G.1 vwCl [] H := hP
  have hD : va_D A [] := hD
  refine lv_lload_n hx hb dX9_demandBond_11 rfl (lv_at hl 1 rfl) ?_
  refine lv_lconst (v := lz (0)) hx hb dX9_demandBond_12 rfl ?_
  refine zr_ldc2 (z := 1000000000) hx hb hown (hts (.constantLong RX9 91 (1000000000)) (by decide +kernel)) rfl dX9_demandBond_13 ?_
  refine zc_z (wr := []) (va_runS (As := [.long (lz (fa)), .long (lz (0)), .long (lz (1000000000))]) (rest := []) ⟨hx, hb, hml, hown, hts⟩ (c_X9_isWithin l G fa 0 1000000000 (by omega) (by omega) (by omega) H.size) (va_cwS 3 hts gX9_demandBond_X9_isWithin rfl rfl rfl (by decide +kernel) ⟨Nat.le_of_ble_eq_true rfl, Nat.le_of_ble_eq_true rfl⟩) (zpS hKX hP hD [] rfl rfl) rfl rfl hl.1 rfl (lv_room (Nat.le_of_ble_eq_true rfl)) dX9_demandBond_16 ⟨(by first | exact Nat.le_of_ble_eq_true rfl | (show _ ≤ (0 : Nat); omega)), (by first | exact Nat.le_of_ble_eq_true rfl | (show _ ≤ (0 : Nat); omega))⟩) hP hD hS hA [] [] rfl rfl rfl (by decide) (fun y2 u_7 H locs hy2 hP hD hS => ?_)
  have hP : va_P G.1 vwCl [] H := hP
  have hD : va_D A [] := hD
  have hy2 : y2 = decide ((0 : Int) ≤ fa ∧ fa ≤ (1000000000 : Int)) := hy2
  rw [show y2 = true from hy2.trans (decide_eq_true (by omega))]
  refine zc_v (wr := []) (va_runS (As := [.int (iz (zbb true))]) (rest := []) ⟨hx, hb, hml, hown, hts⟩ (c_X9_demand_o l G   H.size) (va_cwS 1 hts gX9_demandBond_X9_demand rfl rfl rfl (by decide +kernel) ⟨Nat.le_of_ble_eq_true rfl, Nat.le_of_ble_eq_true rfl⟩) (zpS hKX hP hD [] rfl rfl) rfl rfl hl.1 rfl (lv_room (Nat.le_of_ble_eq_true rfl)) dX9_demandBond_19 ⟨(by first | exact Nat.le_of_ble_eq_true rfl | (show _ ≤ (0 : Nat); omega)), (by first | exact Nat.le_of_ble_eq_true rfl | (show _ ≤ (0 : Nat); omega))⟩) hP hD hS hA [] [] rfl rfl rfl (by decide) (fun u_9 H locs hq_12 hP hD hS => ?_)
  have hP : va_P G.1 vwCl [] H := hP
  have hD : va_D A [] := hD
  refine lv_iload hx hb dX9_demandBond_22 (lv_at hl 2 rfl) ?_
  refine zr_i2l hx hb (x := pr) (⟨by omega, by omega⟩) dX9_demandBond_24 ?_
  refine lv_lconst (v := lz (1)) hx hb dX9_demandBond_25 rfl ?_
  refine zr_ldc2 (z := 40) hx hb hown (hts (.constantLong RX9 87 (40)) (by decide +kernel)) rfl dX9_demandBond_26 ?_
  refine zc_z (wr := []) (va_runS (As := [.long (lz (pr)), .long (lz (1)), .long (lz (40))]) (rest := []) ⟨hx, hb, hml, hown, hts⟩ (c_X9_isWithin l G pr 1 40 (by omega) (by omega) (by omega) H.size) (va_cwS 3 hts gX9_demandBond_X9_isWithin rfl rfl rfl (by decide +kernel) ⟨Nat.le_of_ble_eq_true rfl, Nat.le_of_ble_eq_true rfl⟩) (zpS hKX hP hD [] rfl rfl) rfl rfl hl.1 rfl (lv_room (Nat.le_of_ble_eq_true rfl)) dX9_demandBond_29 ⟨(by first | exact Nat.le_of_ble_eq_true rfl | (show _ ≤ (0 : Nat); omega)), (by first | exact Nat.le_of_ble_eq_true rfl | (show _ ≤ (0 : Nat); omega))⟩) hP hD hS hA [] [] rfl rfl rfl (by decide) (fun y3 u_13 H locs hy3 hP hD hS => ?_)
  have hP : va_P G.1 vwCl [] H := hP
  have hD : va_D A [] := hD
  have hy3 : y3 = decide ((1 : Int) ≤ pr ∧ pr ≤ (40 : Int)) := hy3
  rw [show y3 = true from hy3.trans (decide_eq_true (by omega))]
  refine zc_v (wr := []) (va_runS (As := [.int (iz (zbb true))]) (rest := []) ⟨hx, hb, hml, hown, hts⟩ (c_X9_demand_o l G   H.size) (va_cwS 1 hts gX9_demandBond_X9_demand rfl rfl rfl (by decide +kernel) ⟨Nat.le_of_ble_eq_true rfl, Nat.le_of_ble_eq_true rfl⟩) (zpS hKX hP hD [] rfl rfl) rfl rfl hl.1 rfl (lv_room (Nat.le_of_ble_eq_true rfl)) dX9_demandBond_32 ⟨(by first | exact Nat.le_of_ble_eq_true rfl | (show _ ≤ (0 : Nat); omega)), (by first | exact Nat.le_of_ble_eq_true rfl | (show _ ≤ (0 : Nat); omega))⟩) hP hD hS hA [] [] rfl rfl rfl (by decide) (fun u_15 H locs hq_18 hP hD hS => ?_)
  have hP : va_P G.1 vwCl [] H := hP
  have hD : va_D A [] := hD
  rw [hQ]
  exact zr_vret (u := ()) hx hb hr hlocks hP hD hS (by first | exact Nat.le_of_ble_eq_true rfl | omega) (by first | exact Nat.le_of_ble_eq_true rfl | omega) dX9_demandBond_35 (show True from trivial)

def rm_c_X9_demandBond_x : Room := { frames := 7, cells := 1, slots := 6, locals := 110 }
set_option maxHeartbeats 1000000 in
set_option maxRecDepth 100000 in
theorem c_X9_demandBond_x (l : Launch) (G : zG) (s1 : Nat) (s2 : Nat) (s3 : Nat) (cp : Int) (fa : Int) (pr : Int) (hl0 : l.stackTraces = false) (h0 : -9223372036854775808 ≤ cp ∧ cp < 9223372036854775808) (h01 : -9223372036854775808 ≤ fa ∧ fa < 9223372036854775808) (h02 : -2147483648 ≤ pr ∧ pr < 2147483648) (h1 : ¬ (0 ≤ cp ∧ cp ≤ 1000000000 ∧ 0 ≤ fa ∧ fa ≤ 1000000000 ∧ 1 ≤ pr ∧ pr ≤ 40)) : zMx l (zXE s1 s2 s3) G yX9_demandBond wsX9_demandBond rm_c_X9_demandBond_x [.long (lz (cp)), .long (lz (fa)), .int (iz (pr))] [] "java/lang/IllegalArgumentException" 1 6 := by
  refine zMx_of (cc := cX9_demandBond) (maxL := 5) (ret := none) (by decide) rfl (Nat.le_of_ble_eq_true rfl) ?_
  intro p e s m below meth c ls A Q hQ hx hb hr hts hown hlocks hml hout hKX hE hP hD hA hS hl
  have hK := hKX.1
  obtain ⟨H, hH⟩ : ∃ h, h = s.heap := ⟨_, rfl⟩
  obtain ⟨locs, hlo⟩ : ∃ h : List Loc, h = [] := ⟨_, rfl⟩
  have hS : va_S A s.heap H locs := by rw [hH, hlo]; exact hS
  have hP : va_P G.1 vwCl [] H := by rw [hH]; exact hP
  have hD : va_D A [] := hD
  have hl : lv_has ls 5 [(0, .long (lz (cp))), (2, .long (lz (fa))), (4, .int (iz (pr)))] := hl
  rw [← hH, ← hlo]
  refine lv_lload_n hx hb dX9_demandBond_0 rfl (lv_at hl 0 rfl) ?_
  refine lv_lconst (v := lz (0)) hx hb dX9_demandBond_1 rfl ?_
  refine zr_ldc2 (z := 1000000000) hx hb hown (hts (.constantLong RX9 91 (1000000000)) (by decide +kernel)) rfl dX9_demandBond_2 ?_
  refine zc_z (wr := []) (va_runS (As := [.long (lz (cp)), .long (lz (0)), .long (lz (1000000000))]) (rest := []) ⟨hx, hb, hml, hown, hts⟩ (c_X9_isWithin l G cp 0 1000000000 (by omega) (by omega) (by omega) H.size) (va_cwS 3 hts gX9_demandBond_X9_isWithin rfl rfl rfl (by decide +kernel) ⟨Nat.le_of_ble_eq_true rfl, Nat.le_of_ble_eq_true rfl⟩) (zpS hKX hP hD [] rfl rfl) rfl rfl hl.1 rfl (lv_room (Nat.le_of_ble_eq_true rfl)) dX9_demandBond_5 ⟨(by first | exact Nat.le_of_ble_eq_true rfl | (show _ ≤ (1 : Nat); omega)), (by first | exact Nat.le_of_ble_eq_true rfl | (show _ ≤ (6 : Nat); omega))⟩) hP hD hS hA [] [] rfl rfl rfl (by decide) (fun y1 u_1 H locs hy1 hP hD hS => ?_)
  have hP : va_P G.1 vwCl [] H := hP
  have hD : va_D A [] := hD
  have hy1 : y1 = decide ((0 : Int) ≤ cp ∧ cp ≤ (1000000000 : Int)) := hy1
  rcases Bool.eq_false_or_eq_true y1 with hbt_y1 | hbt_y1
  ·
    rw [hbt_y1]
    have hzy1 := of_decide_eq_true (hy1.symm.trans hbt_y1)
    refine zc_v (wr := []) (va_runS (As := [.int (iz (zbb true))]) (rest := []) ⟨hx, hb, hml, hown, hts⟩ (c_X9_demand_o l G   H.size) (va_cwS 1 hts gX9_demandBond_X9_demand rfl rfl rfl (by decide +kernel) ⟨Nat.le_of_ble_eq_true rfl, Nat.le_of_ble_eq_true rfl⟩) (zpS hKX hP hD [] rfl rfl) rfl rfl hl.1 rfl (lv_room (Nat.le_of_ble_eq_true rfl)) dX9_demandBond_8 ⟨(by first | exact Nat.le_of_ble_eq_true rfl | (show _ ≤ (1 : Nat); omega)), (by first | exact Nat.le_of_ble_eq_true rfl | (show _ ≤ (6 : Nat); omega))⟩) hP hD hS hA [] [] rfl rfl rfl (by decide) (fun u_3 H locs hq_6 hP hD hS => ?_)
    have hP : va_P G.1 vwCl [] H := hP
    have hD : va_D A [] := hD
    refine lv_lload_n hx hb dX9_demandBond_11 rfl (lv_at hl 1 rfl) ?_
    refine lv_lconst (v := lz (0)) hx hb dX9_demandBond_12 rfl ?_
    refine zr_ldc2 (z := 1000000000) hx hb hown (hts (.constantLong RX9 91 (1000000000)) (by decide +kernel)) rfl dX9_demandBond_13 ?_
    refine zc_z (wr := []) (va_runS (As := [.long (lz (fa)), .long (lz (0)), .long (lz (1000000000))]) (rest := []) ⟨hx, hb, hml, hown, hts⟩ (c_X9_isWithin l G fa 0 1000000000 (by omega) (by omega) (by omega) H.size) (va_cwS 3 hts gX9_demandBond_X9_isWithin rfl rfl rfl (by decide +kernel) ⟨Nat.le_of_ble_eq_true rfl, Nat.le_of_ble_eq_true rfl⟩) (zpS hKX hP hD [] rfl rfl) rfl rfl hl.1 rfl (lv_room (Nat.le_of_ble_eq_true rfl)) dX9_demandBond_16 ⟨(by first | exact Nat.le_of_ble_eq_true rfl | (show _ ≤ (1 : Nat); omega)), (by first | exact Nat.le_of_ble_eq_true rfl | (show _ ≤ (6 : Nat); omega))⟩) hP hD hS hA [] [] rfl rfl rfl (by decide) (fun y2 u_7 H locs hy2 hP hD hS => ?_)
    have hP : va_P G.1 vwCl [] H := hP
    have hD : va_D A [] := hD
    have hy2 : y2 = decide ((0 : Int) ≤ fa ∧ fa ≤ (1000000000 : Int)) := hy2
    rcases Bool.eq_false_or_eq_true y2 with hbt_y2 | hbt_y2
    ·
      rw [hbt_y2]
      have hzy2 := of_decide_eq_true (hy2.symm.trans hbt_y2)
      refine zc_v (wr := []) (va_runS (As := [.int (iz (zbb true))]) (rest := []) ⟨hx, hb, hml, hown, hts⟩ (c_X9_demand_o l G   H.size) (va_cwS 1 hts gX9_demandBond_X9_demand rfl rfl rfl (by decide +kernel) ⟨Nat.le_of_ble_eq_true rfl, Nat.le_of_ble_eq_true rfl⟩) (zpS hKX hP hD [] rfl rfl) rfl rfl hl.1 rfl (lv_room (Nat.le_of_ble_eq_true rfl)) dX9_demandBond_19 ⟨(by first | exact Nat.le_of_ble_eq_true rfl | (show _ ≤ (1 : Nat); omega)), (by first | exact Nat.le_of_ble_eq_true rfl | (show _ ≤ (6 : Nat); omega))⟩) hP hD hS hA [] [] rfl rfl rfl (by decide) (fun u_9 H locs hq_12 hP hD hS => ?_)
      have hP : va_P G.1 vwCl [] H := hP
      have hD : va_D A [] := hD
      refine lv_iload hx hb dX9_demandBond_22 (lv_at hl 2 rfl) ?_
      refine zr_i2l hx hb (x := pr) (⟨by omega, by omega⟩) dX9_demandBond_24 ?_
      refine lv_lconst (v := lz (1)) hx hb dX9_demandBond_25 rfl ?_
      refine zr_ldc2 (z := 40) hx hb hown (hts (.constantLong RX9 87 (40)) (by decide +kernel)) rfl dX9_demandBond_26 ?_
      refine zc_z (wr := []) (va_runS (As := [.long (lz (pr)), .long (lz (1)), .long (lz (40))]) (rest := []) ⟨hx, hb, hml, hown, hts⟩ (c_X9_isWithin l G pr 1 40 (by omega) (by omega) (by omega) H.size) (va_cwS 3 hts gX9_demandBond_X9_isWithin rfl rfl rfl (by decide +kernel) ⟨Nat.le_of_ble_eq_true rfl, Nat.le_of_ble_eq_true rfl⟩) (zpS hKX hP hD [] rfl rfl) rfl rfl hl.1 rfl (lv_room (Nat.le_of_ble_eq_true rfl)) dX9_demandBond_29 ⟨(by first | exact Nat.le_of_ble_eq_true rfl | (show _ ≤ (1 : Nat); omega)), (by first | exact Nat.le_of_ble_eq_true rfl | (show _ ≤ (6 : Nat); omega))⟩) hP hD hS hA [] [] rfl rfl rfl (by decide) (fun y3 u_13 H locs hy3 hP hD hS => ?_)
      have hP : va_P G.1 vwCl [] H := hP
      have hD : va_D A [] := hD
      have hy3 : y3 = decide ((1 : Int) ≤ pr ∧ pr ≤ (40 : Int)) := hy3
      rcases Bool.eq_false_or_eq_true y3 with hbt_y3 | hbt_y3
      ·
        rw [hbt_y3]
        have hzy3 := of_decide_eq_true (hy3.symm.trans hbt_y3)
        refine zc_v (wr := []) (va_runS (As := [.int (iz (zbb true))]) (rest := []) ⟨hx, hb, hml, hown, hts⟩ (c_X9_demand_o l G   H.size) (va_cwS 1 hts gX9_demandBond_X9_demand rfl rfl rfl (by decide +kernel) ⟨Nat.le_of_ble_eq_true rfl, Nat.le_of_ble_eq_true rfl⟩) (zpS hKX hP hD [] rfl rfl) rfl rfl hl.1 rfl (lv_room (Nat.le_of_ble_eq_true rfl)) dX9_demandBond_32 ⟨(by first | exact Nat.le_of_ble_eq_true rfl | (show _ ≤ (1 : Nat); omega)), (by first | exact Nat.le_of_ble_eq_true rfl | (show _ ≤ (6 : Nat); omega))⟩) hP hD hS hA [] [] rfl rfl rfl (by decide) (fun u_15 H locs hq_18 hP hD hS => ?_)
        have hP : va_P G.1 vwCl [] H := hP
        have hD : va_D A [] := hD
        exact absurd h1 (by omega)
      ·
        rw [hbt_y3]
        have hzy3 := of_decide_eq_false (hy3.symm.trans hbt_y3)
        rw [hQ]
        exact zx_thr (X := "java/lang/IllegalArgumentException") (vx_runS (As := [.int (iz (zbb false))]) (rest := []) ⟨hx, hb, hml, hown, hts⟩ (c_X9_demand_x l G s1 s2 s3 hl0 H.size) (va_cwS 1 hts gX9_demandBond_X9_demand rfl rfl rfl (by decide +kernel) ⟨Nat.le_of_ble_eq_true rfl, Nat.le_of_ble_eq_true rfl⟩) (zpSe zXE_ok hE hS hA hKX hP hD [] rfl rfl) rfl rfl hl.1 rfl (lv_room (Nat.le_of_ble_eq_true rfl)) dX9_demandBond_32 ⟨(by first | exact Nat.le_of_ble_eq_true rfl | (show _ ≤ (1 : Nat); omega)), (by first | exact Nat.le_of_ble_eq_true rfl | (show _ ≤ (6 : Nat); omega))⟩) hS (va_free (wc := []) hD hS hA [] rfl) hout hlocks (by first | exact Nat.le_of_ble_eq_true rfl | omega) (by first | exact Nat.le_of_ble_eq_true rfl | omega)
    ·
      rw [hbt_y2]
      have hzy2 := of_decide_eq_false (hy2.symm.trans hbt_y2)
      rw [hQ]
      exact zx_thr (X := "java/lang/IllegalArgumentException") (vx_runS (As := [.int (iz (zbb false))]) (rest := []) ⟨hx, hb, hml, hown, hts⟩ (c_X9_demand_x l G s1 s2 s3 hl0 H.size) (va_cwS 1 hts gX9_demandBond_X9_demand rfl rfl rfl (by decide +kernel) ⟨Nat.le_of_ble_eq_true rfl, Nat.le_of_ble_eq_true rfl⟩) (zpSe zXE_ok hE hS hA hKX hP hD [] rfl rfl) rfl rfl hl.1 rfl (lv_room (Nat.le_of_ble_eq_true rfl)) dX9_demandBond_19 ⟨(by first | exact Nat.le_of_ble_eq_true rfl | (show _ ≤ (1 : Nat); omega)), (by first | exact Nat.le_of_ble_eq_true rfl | (show _ ≤ (6 : Nat); omega))⟩) hS (va_free (wc := []) hD hS hA [] rfl) hout hlocks (by first | exact Nat.le_of_ble_eq_true rfl | omega) (by first | exact Nat.le_of_ble_eq_true rfl | omega)
  ·
    rw [hbt_y1]
    have hzy1 := of_decide_eq_false (hy1.symm.trans hbt_y1)
    rw [hQ]
    exact zx_thr (X := "java/lang/IllegalArgumentException") (vx_runS (As := [.int (iz (zbb false))]) (rest := []) ⟨hx, hb, hml, hown, hts⟩ (c_X9_demand_x l G s1 s2 s3 hl0 H.size) (va_cwS 1 hts gX9_demandBond_X9_demand rfl rfl rfl (by decide +kernel) ⟨Nat.le_of_ble_eq_true rfl, Nat.le_of_ble_eq_true rfl⟩) (zpSe zXE_ok hE hS hA hKX hP hD [] rfl rfl) rfl rfl hl.1 rfl (lv_room (Nat.le_of_ble_eq_true rfl)) dX9_demandBond_8 ⟨(by first | exact Nat.le_of_ble_eq_true rfl | (show _ ≤ (1 : Nat); omega)), (by first | exact Nat.le_of_ble_eq_true rfl | (show _ ≤ (6 : Nat); omega))⟩) hS (va_free (wc := []) hD hS hA [] rfl) hout hlocks (by first | exact Nat.le_of_ble_eq_true rfl | omega) (by first | exact Nat.le_of_ble_eq_true rfl | omega)

def rm_c_X9_demandLoan_x : Room := { frames := 7, cells := 1, slots := 6, locals := 110 }
theorem iw_X9_demandLoan_X3 : ∀ w ∈ wsX30, w ∈ wsX9_demandLoan := by decide +kernel
theorem iw_X9_demandLoan_X9 : ∀ w ∈ wsX90, w ∈ wsX9_demandLoan := by decide +kernel
set_option maxHeartbeats 1000000 in
set_option maxRecDepth 100000 in
theorem c_X9_demandLoan_x (l : Launch) (G : zG) (s1 : Nat) (s2 : Nat) (s3 : Nat) (x : Nat) (ro : Nat) (rw : Nat) (bo : Nat) (li : Nat) (sh : Nat) (tx : Nat) (lo : Nat) (nl : Nat) (lw0 : Value) (lw1 : Value) (lw2 : Value) (lw3 : Value) (lw4 : Value) (lw5 : Value) (rws : Int) (hl0 : l.stackTraces = false) : zMx l (zXE s1 s2 s3) G yX9_demandLoan wsX9_demandLoan rm_c_X9_demandLoan_x [.ref x] [(x, .inr (10, [.ref ro, .ref rw, .ref bo, .ref li, .ref sh, .ref tx, .ref lo, .ref nl])), (lo, .inr (4, [lw0, lw1, lw2, lw3, lw4, lw5, .int (iz (0)), .int (iz (rws))]))] "java/lang/IllegalStateException" 1 6 := by
  refine zMx_of (cc := cX9_demandLoan) (maxL := 1) (ret := none) (by decide) rfl (Nat.le_of_ble_eq_true rfl) ?_
  intro p e s m below meth c ls A Q hQ hx hb hr hts hown hlocks hml hout hKX hE hP hD hA hS hl
  have hK := hKX.1
  have iwX3 := iw_X9_demandLoan_X3
  have iwX9 := iw_X9_demandLoan_X9
  obtain ⟨H, hH⟩ : ∃ h, h = s.heap := ⟨_, rfl⟩
  obtain ⟨locs, hlo⟩ : ∃ h : List Loc, h = [] := ⟨_, rfl⟩
  have hS : va_S A s.heap H locs := by rw [hH, hlo]; exact hS
  have hP : va_P G.1 vwCl [(x, .inr (10, [.ref ro, .ref rw, .ref bo, .ref li, .ref sh, .ref tx, .ref lo, .ref nl])), (lo, .inr (4, [lw0, lw1, lw2, lw3, lw4, lw5, .int (iz (0)), .int (iz (rws))]))] H := by rw [hH]; exact hP
  have hD : va_D A [(x, .inr (10, [.ref ro, .ref rw, .ref bo, .ref li, .ref sh, .ref tx, .ref lo, .ref nl])), (lo, .inr (4, [lw0, lw1, lw2, lw3, lw4, lw5, .int (iz (0)), .int (iz (rws))]))] := hD
  have hl : lv_has ls 1 [(0, .ref x)] := hl
  rw [← hH, ← hlo]
  refine lv_aload_n hx hb dX9_demandLoan_0 rfl (lv_at hl 0 rfl) ?_
  refine va_get (D := G.1) (ci := 10) (v := .ref lo) (C := RX9) (T := TX9) (N := 8) hx hb hts iwX9 hown hK hP 0 rfl rfl 6 (by decide) (hts (.fieldLink RX9 54 "AnnuityHouse" "loan" "LAnnuityHouse$Loan;") (by decide +kernel)) (fun _ h9 => h9) rfl dX9_demandLoan_1 ?_
  refine va_get (D := G.1) (ci := 4) (v := .int (iz (0))) (C := RX3) (T := TX3) (N := 8) hx hb hts iwX3 hown hK hP 1 rfl rfl 6 (by decide) (hts (.fieldLink RX9 155 "AnnuityHouse$Loan" "periods" "I") (by decide +kernel)) (fun _ h9 => h9) rfl dX9_demandLoan_4 ?_
  refine zr_if_le (x := 0) (tgt := 14) hx hb (⟨by omega, by omega⟩) dX9_demandLoan_7 (by decide) (fun h_1 => ?_) (fun h_1 => ?_)
  ·
    refine lv_iconst (v := iz (0)) hx hb dX9_demandLoan_14 rfl ?_
    rw [hQ]
    exact zx_thr (X := "java/lang/IllegalStateException") (vx_runS (As := [.int (iz (0))]) (rest := []) ⟨hx, hb, hml, hown, hts⟩ (c_X9_demandState_x l G s1 s2 s3 hl0 H.size) (va_cwS 1 hts gX9_demandLoan_X9_demandState rfl rfl rfl (by decide +kernel) ⟨Nat.le_of_ble_eq_true rfl, Nat.le_of_ble_eq_true rfl⟩) (zpSe zXE_ok hE hS hA hKX hP hD [] rfl rfl) rfl rfl hl.1 rfl (lv_room (Nat.le_of_ble_eq_true rfl)) dX9_demandLoan_15 ⟨(by first | exact Nat.le_of_ble_eq_true rfl | (show _ ≤ (1 : Nat); omega)), (by first | exact Nat.le_of_ble_eq_true rfl | (show _ ≤ (6 : Nat); omega))⟩) hS (va_free (wc := []) hD hS hA [] rfl) hout hlocks (by first | exact Nat.le_of_ble_eq_true rfl | omega) (by first | exact Nat.le_of_ble_eq_true rfl | omega)
  · exact absurd h_1 (by omega)

def rm_c_X9_holiday : Room := { frames := 8, cells := 1, slots := 6, locals := 130 }
set_option maxHeartbeats 1000000 in
set_option maxRecDepth 100000 in
theorem c_X9_holiday (l : Launch) (G : zG) (s1 : Nat) (s2 : Nat) (s3 : Nat) (x : Nat) (ro : Nat) (rw : Nat) (bo : Nat) (li : Nat) (sh : Nat) (tx : Nat) (lo : Nat) (nl : Nat) (lw0 : Value) (lw1 : Value) (lw2 : Value) (lw3 : Value) (lw4 : Value) (lw5 : Value) (rws : Int) (a1 : Int) (hl0 : l.stackTraces = false) : zMx l (zXE s1 s2 s3) G yX9_holiday wsX9_holiday rm_c_X9_holiday [.ref x, .int (iz (a1))] [(x, .inr (10, [.ref ro, .ref rw, .ref bo, .ref li, .ref sh, .ref tx, .ref lo, .ref nl])), (lo, .inr (4, [lw0, lw1, lw2, lw3, lw4, lw5, .int (iz (0)), .int (iz (rws))]))] "java/lang/IllegalStateException" 1 6 := by
  refine zMx_of (cc := cX9_holiday) (maxL := 3) (ret := (some .boolean)) (by decide) rfl (Nat.le_of_ble_eq_true rfl) ?_
  intro p e s m below meth c ls A Q hQ hx hb hr hts hown hlocks hml hout hKX hE hP hD hA hS hl
  have hK := hKX.1
  obtain ⟨H, hH⟩ : ∃ h, h = s.heap := ⟨_, rfl⟩
  obtain ⟨locs, hlo⟩ : ∃ h : List Loc, h = [] := ⟨_, rfl⟩
  have hS : va_S A s.heap H locs := by rw [hH, hlo]; exact hS
  have hP : va_P G.1 vwCl [(x, .inr (10, [.ref ro, .ref rw, .ref bo, .ref li, .ref sh, .ref tx, .ref lo, .ref nl])), (lo, .inr (4, [lw0, lw1, lw2, lw3, lw4, lw5, .int (iz (0)), .int (iz (rws))]))] H := by rw [hH]; exact hP
  have hD : va_D A [(x, .inr (10, [.ref ro, .ref rw, .ref bo, .ref li, .ref sh, .ref tx, .ref lo, .ref nl])), (lo, .inr (4, [lw0, lw1, lw2, lw3, lw4, lw5, .int (iz (0)), .int (iz (rws))]))] := hD
  have hl : lv_has ls 3 [(0, .ref x), (1, .int (iz (a1)))] := hl
  rw [← hH, ← hlo]
  refine lv_aload_n hx hb dX9_holiday_0 rfl (lv_at hl 0 rfl) ?_
  rw [hQ]
  exact zx_thr (X := "java/lang/IllegalStateException") (vx_runV (As := []) (rest := []) ⟨hx, hb, hml, hown, hts⟩ (c_X9_demandLoan_x l G s1 s2 s3 x ro rw bo li sh tx lo nl lw0 lw1 lw2 lw3 lw4 lw5 rws hl0 H.size) (cwV 0 hts gX9_holiday_X9_demandLoan rfl rfl rfl (by decide +kernel) ⟨Nat.le_of_ble_eq_true rfl, Nat.le_of_ble_eq_true rfl⟩) (zpVe zXE_ok hE hS hA hKX hP hD [0, 1] rfl rfl (va_recv hK hP (ci := 10) (q0 := 0) rfl rfl)) rfl rfl hl.1 rfl (lv_room (Nat.le_of_ble_eq_true rfl)) dX9_holiday_1 ⟨(by first | exact Nat.le_of_ble_eq_true rfl | (show _ ≤ (1 : Nat); omega)), (by first | exact Nat.le_of_ble_eq_true rfl | (show _ ≤ (6 : Nat); omega))⟩) hS (va_free (wc := [(x, .inr (10, [.ref ro, .ref rw, .ref bo, .ref li, .ref sh, .ref tx, .ref lo, .ref nl])), (lo, .inr (4, [lw0, lw1, lw2, lw3, lw4, lw5, .int (iz (0)), .int (iz (rws))]))]) hD hS hA [0, 1] rfl) hout hlocks (by first | exact Nat.le_of_ble_eq_true rfl | omega) (by first | exact Nat.le_of_ble_eq_true rfl | omega)

def rm_c_X9_change : Room := { frames := 8, cells := 1, slots := 6, locals := 130 }
set_option maxHeartbeats 1000000 in
set_option maxRecDepth 100000 in
theorem c_X9_change (l : Launch) (G : zG) (s1 : Nat) (s2 : Nat) (s3 : Nat) (x : Nat) (ro : Nat) (rw : Nat) (bo : Nat) (li : Nat) (sh : Nat) (tx : Nat) (lo : Nat) (nl : Nat) (lw0 : Value) (lw1 : Value) (lw2 : Value) (lw3 : Value) (lw4 : Value) (lw5 : Value) (rws : Int) (a1 : Int) (a2 : Int) (hl0 : l.stackTraces = false) : zMx l (zXE s1 s2 s3) G yX9_change wsX9_change rm_c_X9_change [.ref x, .int (iz (a1)), .int (iz (a2))] [(x, .inr (10, [.ref ro, .ref rw, .ref bo, .ref li, .ref sh, .ref tx, .ref lo, .ref nl])), (lo, .inr (4, [lw0, lw1, lw2, lw3, lw4, lw5, .int (iz (0)), .int (iz (rws))]))] "java/lang/IllegalStateException" 1 6 := by
  refine zMx_of (cc := cX9_change) (maxL := 3) (ret := (some .int)) (by decide) rfl (Nat.le_of_ble_eq_true rfl) ?_
  intro p e s m below meth c ls A Q hQ hx hb hr hts hown hlocks hml hout hKX hE hP hD hA hS hl
  have hK := hKX.1
  obtain ⟨H, hH⟩ : ∃ h, h = s.heap := ⟨_, rfl⟩
  obtain ⟨locs, hlo⟩ : ∃ h : List Loc, h = [] := ⟨_, rfl⟩
  have hS : va_S A s.heap H locs := by rw [hH, hlo]; exact hS
  have hP : va_P G.1 vwCl [(x, .inr (10, [.ref ro, .ref rw, .ref bo, .ref li, .ref sh, .ref tx, .ref lo, .ref nl])), (lo, .inr (4, [lw0, lw1, lw2, lw3, lw4, lw5, .int (iz (0)), .int (iz (rws))]))] H := by rw [hH]; exact hP
  have hD : va_D A [(x, .inr (10, [.ref ro, .ref rw, .ref bo, .ref li, .ref sh, .ref tx, .ref lo, .ref nl])), (lo, .inr (4, [lw0, lw1, lw2, lw3, lw4, lw5, .int (iz (0)), .int (iz (rws))]))] := hD
  have hl : lv_has ls 3 [(0, .ref x), (1, .int (iz (a1))), (2, .int (iz (a2)))] := hl
  rw [← hH, ← hlo]
  refine lv_aload_n hx hb dX9_change_0 rfl (lv_at hl 0 rfl) ?_
  rw [hQ]
  exact zx_thr (X := "java/lang/IllegalStateException") (vx_runV (As := []) (rest := []) ⟨hx, hb, hml, hown, hts⟩ (c_X9_demandLoan_x l G s1 s2 s3 x ro rw bo li sh tx lo nl lw0 lw1 lw2 lw3 lw4 lw5 rws hl0 H.size) (cwV 0 hts gX9_change_X9_demandLoan rfl rfl rfl (by decide +kernel) ⟨Nat.le_of_ble_eq_true rfl, Nat.le_of_ble_eq_true rfl⟩) (zpVe zXE_ok hE hS hA hKX hP hD [0, 1] rfl rfl (va_recv hK hP (ci := 10) (q0 := 0) rfl rfl)) rfl rfl hl.1 rfl (lv_room (Nat.le_of_ble_eq_true rfl)) dX9_change_1 ⟨(by first | exact Nat.le_of_ble_eq_true rfl | (show _ ≤ (1 : Nat); omega)), (by first | exact Nat.le_of_ble_eq_true rfl | (show _ ≤ (6 : Nat); omega))⟩) hS (va_free (wc := [(x, .inr (10, [.ref ro, .ref rw, .ref bo, .ref li, .ref sh, .ref tx, .ref lo, .ref nl])), (lo, .inr (4, [lw0, lw1, lw2, lw3, lw4, lw5, .int (iz (0)), .int (iz (rws))]))]) hD hS hA [0, 1] rfl) hout hlocks (by first | exact Nat.le_of_ble_eq_true rfl | omega) (by first | exact Nat.le_of_ble_eq_true rfl | omega)

def rm_c_X9_early : Room := { frames := 8, cells := 1, slots := 6, locals := 130 }
set_option maxHeartbeats 1000000 in
set_option maxRecDepth 100000 in
theorem c_X9_early (l : Launch) (G : zG) (s1 : Nat) (s2 : Nat) (s3 : Nat) (x : Nat) (ro : Nat) (rw : Nat) (bo : Nat) (li : Nat) (sh : Nat) (tx : Nat) (lo : Nat) (nl : Nat) (lw0 : Value) (lw1 : Value) (lw2 : Value) (lw3 : Value) (lw4 : Value) (lw5 : Value) (rws : Int) (a1 : Int) (a2 : Int) (hl0 : l.stackTraces = false) : zMx l (zXE s1 s2 s3) G yX9_early wsX9_early rm_c_X9_early [.ref x, .int (iz (a1)), .long (lz (a2))] [(x, .inr (10, [.ref ro, .ref rw, .ref bo, .ref li, .ref sh, .ref tx, .ref lo, .ref nl])), (lo, .inr (4, [lw0, lw1, lw2, lw3, lw4, lw5, .int (iz (0)), .int (iz (rws))]))] "java/lang/IllegalStateException" 1 6 := by
  refine zMx_of (cc := cX9_early) (maxL := 4) (ret := (some .int)) (by decide) rfl (Nat.le_of_ble_eq_true rfl) ?_
  intro p e s m below meth c ls A Q hQ hx hb hr hts hown hlocks hml hout hKX hE hP hD hA hS hl
  have hK := hKX.1
  obtain ⟨H, hH⟩ : ∃ h, h = s.heap := ⟨_, rfl⟩
  obtain ⟨locs, hlo⟩ : ∃ h : List Loc, h = [] := ⟨_, rfl⟩
  have hS : va_S A s.heap H locs := by rw [hH, hlo]; exact hS
  have hP : va_P G.1 vwCl [(x, .inr (10, [.ref ro, .ref rw, .ref bo, .ref li, .ref sh, .ref tx, .ref lo, .ref nl])), (lo, .inr (4, [lw0, lw1, lw2, lw3, lw4, lw5, .int (iz (0)), .int (iz (rws))]))] H := by rw [hH]; exact hP
  have hD : va_D A [(x, .inr (10, [.ref ro, .ref rw, .ref bo, .ref li, .ref sh, .ref tx, .ref lo, .ref nl])), (lo, .inr (4, [lw0, lw1, lw2, lw3, lw4, lw5, .int (iz (0)), .int (iz (rws))]))] := hD
  have hl : lv_has ls 4 [(0, .ref x), (1, .int (iz (a1))), (2, .long (lz (a2)))] := hl
  rw [← hH, ← hlo]
  refine lv_aload_n hx hb dX9_early_0 rfl (lv_at hl 0 rfl) ?_
  rw [hQ]
  exact zx_thr (X := "java/lang/IllegalStateException") (vx_runV (As := []) (rest := []) ⟨hx, hb, hml, hown, hts⟩ (c_X9_demandLoan_x l G s1 s2 s3 x ro rw bo li sh tx lo nl lw0 lw1 lw2 lw3 lw4 lw5 rws hl0 H.size) (cwV 0 hts gX9_early_X9_demandLoan rfl rfl rfl (by decide +kernel) ⟨Nat.le_of_ble_eq_true rfl, Nat.le_of_ble_eq_true rfl⟩) (zpVe zXE_ok hE hS hA hKX hP hD [0, 1] rfl rfl (va_recv hK hP (ci := 10) (q0 := 0) rfl rfl)) rfl rfl hl.1 rfl (lv_room (Nat.le_of_ble_eq_true rfl)) dX9_early_1 ⟨(by first | exact Nat.le_of_ble_eq_true rfl | (show _ ≤ (1 : Nat); omega)), (by first | exact Nat.le_of_ble_eq_true rfl | (show _ ≤ (6 : Nat); omega))⟩) hS (va_free (wc := [(x, .inr (10, [.ref ro, .ref rw, .ref bo, .ref li, .ref sh, .ref tx, .ref lo, .ref nl])), (lo, .inr (4, [lw0, lw1, lw2, lw3, lw4, lw5, .int (iz (0)), .int (iz (rws))]))]) hD hS hA [0, 1] rfl) hout hlocks (by first | exact Nat.le_of_ble_eq_true rfl | omega) (by first | exact Nat.le_of_ble_eq_true rfl | omega)

def rm_c_X9_rows : Room := { frames := 8, cells := 1, slots := 6, locals := 130 }
set_option maxHeartbeats 1000000 in
set_option maxRecDepth 100000 in
theorem c_X9_rows (l : Launch) (G : zG) (s1 : Nat) (s2 : Nat) (s3 : Nat) (x : Nat) (ro : Nat) (rw : Nat) (bo : Nat) (li : Nat) (sh : Nat) (tx : Nat) (lo : Nat) (nl : Nat) (lw0 : Value) (lw1 : Value) (lw2 : Value) (lw3 : Value) (lw4 : Value) (lw5 : Value) (rws : Int) (hl0 : l.stackTraces = false) : zMx l (zXE s1 s2 s3) G yX9_rows wsX9_rows rm_c_X9_rows [.ref x] [(x, .inr (10, [.ref ro, .ref rw, .ref bo, .ref li, .ref sh, .ref tx, .ref lo, .ref nl])), (lo, .inr (4, [lw0, lw1, lw2, lw3, lw4, lw5, .int (iz (0)), .int (iz (rws))]))] "java/lang/IllegalStateException" 1 6 := by
  refine zMx_of (cc := cX9_rows) (maxL := 1) (ret := (some .int)) (by decide) rfl (Nat.le_of_ble_eq_true rfl) ?_
  intro p e s m below meth c ls A Q hQ hx hb hr hts hown hlocks hml hout hKX hE hP hD hA hS hl
  have hK := hKX.1
  obtain ⟨H, hH⟩ : ∃ h, h = s.heap := ⟨_, rfl⟩
  obtain ⟨locs, hlo⟩ : ∃ h : List Loc, h = [] := ⟨_, rfl⟩
  have hS : va_S A s.heap H locs := by rw [hH, hlo]; exact hS
  have hP : va_P G.1 vwCl [(x, .inr (10, [.ref ro, .ref rw, .ref bo, .ref li, .ref sh, .ref tx, .ref lo, .ref nl])), (lo, .inr (4, [lw0, lw1, lw2, lw3, lw4, lw5, .int (iz (0)), .int (iz (rws))]))] H := by rw [hH]; exact hP
  have hD : va_D A [(x, .inr (10, [.ref ro, .ref rw, .ref bo, .ref li, .ref sh, .ref tx, .ref lo, .ref nl])), (lo, .inr (4, [lw0, lw1, lw2, lw3, lw4, lw5, .int (iz (0)), .int (iz (rws))]))] := hD
  have hl : lv_has ls 1 [(0, .ref x)] := hl
  rw [← hH, ← hlo]
  refine lv_aload_n hx hb dX9_rows_0 rfl (lv_at hl 0 rfl) ?_
  rw [hQ]
  exact zx_thr (X := "java/lang/IllegalStateException") (vx_runV (As := []) (rest := []) ⟨hx, hb, hml, hown, hts⟩ (c_X9_demandLoan_x l G s1 s2 s3 x ro rw bo li sh tx lo nl lw0 lw1 lw2 lw3 lw4 lw5 rws hl0 H.size) (cwV 0 hts gX9_rows_X9_demandLoan rfl rfl rfl (by decide +kernel) ⟨Nat.le_of_ble_eq_true rfl, Nat.le_of_ble_eq_true rfl⟩) (zpVe zXE_ok hE hS hA hKX hP hD [0, 1] rfl rfl (va_recv hK hP (ci := 10) (q0 := 0) rfl rfl)) rfl rfl hl.1 rfl (lv_room (Nat.le_of_ble_eq_true rfl)) dX9_rows_1 ⟨(by first | exact Nat.le_of_ble_eq_true rfl | (show _ ≤ (1 : Nat); omega)), (by first | exact Nat.le_of_ble_eq_true rfl | (show _ ≤ (6 : Nat); omega))⟩) hS (va_free (wc := [(x, .inr (10, [.ref ro, .ref rw, .ref bo, .ref li, .ref sh, .ref tx, .ref lo, .ref nl])), (lo, .inr (4, [lw0, lw1, lw2, lw3, lw4, lw5, .int (iz (0)), .int (iz (rws))]))]) hD hS hA [0, 1] rfl) hout hlocks (by first | exact Nat.le_of_ble_eq_true rfl | omega) (by first | exact Nat.le_of_ble_eq_true rfl | omega)

def rm_c_X9_rowOf : Room := { frames := 8, cells := 1, slots := 6, locals := 130 }
set_option maxHeartbeats 1000000 in
set_option maxRecDepth 100000 in
theorem c_X9_rowOf (l : Launch) (G : zG) (s1 : Nat) (s2 : Nat) (s3 : Nat) (x : Nat) (ro : Nat) (rw : Nat) (bo : Nat) (li : Nat) (sh : Nat) (tx : Nat) (lo : Nat) (nl : Nat) (lw0 : Value) (lw1 : Value) (lw2 : Value) (lw3 : Value) (lw4 : Value) (lw5 : Value) (rws : Int) (a1 : Int) (a2 : Int) (hl0 : l.stackTraces = false) : zMx l (zXE s1 s2 s3) G yX9_rowOf wsX9_rowOf rm_c_X9_rowOf [.ref x, .int (iz (a1)), .int (iz (a2))] [(x, .inr (10, [.ref ro, .ref rw, .ref bo, .ref li, .ref sh, .ref tx, .ref lo, .ref nl])), (lo, .inr (4, [lw0, lw1, lw2, lw3, lw4, lw5, .int (iz (0)), .int (iz (rws))]))] "java/lang/IllegalStateException" 1 6 := by
  refine zMx_of (cc := cX9_rowOf) (maxL := 3) (ret := (some .long)) (by decide) rfl (Nat.le_of_ble_eq_true rfl) ?_
  intro p e s m below meth c ls A Q hQ hx hb hr hts hown hlocks hml hout hKX hE hP hD hA hS hl
  have hK := hKX.1
  obtain ⟨H, hH⟩ : ∃ h, h = s.heap := ⟨_, rfl⟩
  obtain ⟨locs, hlo⟩ : ∃ h : List Loc, h = [] := ⟨_, rfl⟩
  have hS : va_S A s.heap H locs := by rw [hH, hlo]; exact hS
  have hP : va_P G.1 vwCl [(x, .inr (10, [.ref ro, .ref rw, .ref bo, .ref li, .ref sh, .ref tx, .ref lo, .ref nl])), (lo, .inr (4, [lw0, lw1, lw2, lw3, lw4, lw5, .int (iz (0)), .int (iz (rws))]))] H := by rw [hH]; exact hP
  have hD : va_D A [(x, .inr (10, [.ref ro, .ref rw, .ref bo, .ref li, .ref sh, .ref tx, .ref lo, .ref nl])), (lo, .inr (4, [lw0, lw1, lw2, lw3, lw4, lw5, .int (iz (0)), .int (iz (rws))]))] := hD
  have hl : lv_has ls 3 [(0, .ref x), (1, .int (iz (a1))), (2, .int (iz (a2)))] := hl
  rw [← hH, ← hlo]
  refine lv_aload_n hx hb dX9_rowOf_0 rfl (lv_at hl 0 rfl) ?_
  rw [hQ]
  exact zx_thr (X := "java/lang/IllegalStateException") (vx_runV (As := []) (rest := []) ⟨hx, hb, hml, hown, hts⟩ (c_X9_demandLoan_x l G s1 s2 s3 x ro rw bo li sh tx lo nl lw0 lw1 lw2 lw3 lw4 lw5 rws hl0 H.size) (cwV 0 hts gX9_rowOf_X9_demandLoan rfl rfl rfl (by decide +kernel) ⟨Nat.le_of_ble_eq_true rfl, Nat.le_of_ble_eq_true rfl⟩) (zpVe zXE_ok hE hS hA hKX hP hD [0, 1] rfl rfl (va_recv hK hP (ci := 10) (q0 := 0) rfl rfl)) rfl rfl hl.1 rfl (lv_room (Nat.le_of_ble_eq_true rfl)) dX9_rowOf_1 ⟨(by first | exact Nat.le_of_ble_eq_true rfl | (show _ ≤ (1 : Nat); omega)), (by first | exact Nat.le_of_ble_eq_true rfl | (show _ ≤ (6 : Nat); omega))⟩) hS (va_free (wc := [(x, .inr (10, [.ref ro, .ref rw, .ref bo, .ref li, .ref sh, .ref tx, .ref lo, .ref nl])), (lo, .inr (4, [lw0, lw1, lw2, lw3, lw4, lw5, .int (iz (0)), .int (iz (rws))]))]) hD hS hA [0, 1] rfl) hout hlocks (by first | exact Nat.le_of_ble_eq_true rfl | omega) (by first | exact Nat.le_of_ble_eq_true rfl | omega)

def rm_c_X9_total : Room := { frames := 8, cells := 1, slots := 6, locals := 130 }
set_option maxHeartbeats 1000000 in
set_option maxRecDepth 100000 in
theorem c_X9_total (l : Launch) (G : zG) (s1 : Nat) (s2 : Nat) (s3 : Nat) (x : Nat) (ro : Nat) (rw : Nat) (bo : Nat) (li : Nat) (sh : Nat) (tx : Nat) (lo : Nat) (nl : Nat) (lw0 : Value) (lw1 : Value) (lw2 : Value) (lw3 : Value) (lw4 : Value) (lw5 : Value) (rws : Int) (a1 : Int) (hl0 : l.stackTraces = false) : zMx l (zXE s1 s2 s3) G yX9_total wsX9_total rm_c_X9_total [.ref x, .int (iz (a1))] [(x, .inr (10, [.ref ro, .ref rw, .ref bo, .ref li, .ref sh, .ref tx, .ref lo, .ref nl])), (lo, .inr (4, [lw0, lw1, lw2, lw3, lw4, lw5, .int (iz (0)), .int (iz (rws))]))] "java/lang/IllegalStateException" 1 6 := by
  refine zMx_of (cc := cX9_total) (maxL := 2) (ret := (some .long)) (by decide) rfl (Nat.le_of_ble_eq_true rfl) ?_
  intro p e s m below meth c ls A Q hQ hx hb hr hts hown hlocks hml hout hKX hE hP hD hA hS hl
  have hK := hKX.1
  obtain ⟨H, hH⟩ : ∃ h, h = s.heap := ⟨_, rfl⟩
  obtain ⟨locs, hlo⟩ : ∃ h : List Loc, h = [] := ⟨_, rfl⟩
  have hS : va_S A s.heap H locs := by rw [hH, hlo]; exact hS
  have hP : va_P G.1 vwCl [(x, .inr (10, [.ref ro, .ref rw, .ref bo, .ref li, .ref sh, .ref tx, .ref lo, .ref nl])), (lo, .inr (4, [lw0, lw1, lw2, lw3, lw4, lw5, .int (iz (0)), .int (iz (rws))]))] H := by rw [hH]; exact hP
  have hD : va_D A [(x, .inr (10, [.ref ro, .ref rw, .ref bo, .ref li, .ref sh, .ref tx, .ref lo, .ref nl])), (lo, .inr (4, [lw0, lw1, lw2, lw3, lw4, lw5, .int (iz (0)), .int (iz (rws))]))] := hD
  have hl : lv_has ls 2 [(0, .ref x), (1, .int (iz (a1)))] := hl
  rw [← hH, ← hlo]
  refine lv_aload_n hx hb dX9_total_0 rfl (lv_at hl 0 rfl) ?_
  rw [hQ]
  exact zx_thr (X := "java/lang/IllegalStateException") (vx_runV (As := []) (rest := []) ⟨hx, hb, hml, hown, hts⟩ (c_X9_demandLoan_x l G s1 s2 s3 x ro rw bo li sh tx lo nl lw0 lw1 lw2 lw3 lw4 lw5 rws hl0 H.size) (cwV 0 hts gX9_total_X9_demandLoan rfl rfl rfl (by decide +kernel) ⟨Nat.le_of_ble_eq_true rfl, Nat.le_of_ble_eq_true rfl⟩) (zpVe zXE_ok hE hS hA hKX hP hD [0, 1] rfl rfl (va_recv hK hP (ci := 10) (q0 := 0) rfl rfl)) rfl rfl hl.1 rfl (lv_room (Nat.le_of_ble_eq_true rfl)) dX9_total_1 ⟨(by first | exact Nat.le_of_ble_eq_true rfl | (show _ ≤ (1 : Nat); omega)), (by first | exact Nat.le_of_ble_eq_true rfl | (show _ ≤ (6 : Nat); omega))⟩) hS (va_free (wc := [(x, .inr (10, [.ref ro, .ref rw, .ref bo, .ref li, .ref sh, .ref tx, .ref lo, .ref nl])), (lo, .inr (4, [lw0, lw1, lw2, lw3, lw4, lw5, .int (iz (0)), .int (iz (rws))]))]) hD hS hA [0, 1] rfl) hout hlocks (by first | exact Nat.le_of_ble_eq_true rfl | omega) (by first | exact Nat.le_of_ble_eq_true rfl | omega)

def rm_c_X9_demandInsured_x1 : Room := { frames := 8, cells := 1, slots := 6, locals := 130 }
set_option maxHeartbeats 1000000 in
set_option maxRecDepth 100000 in
theorem c_X9_demandInsured_x1 (l : Launch) (G : zG) (s1 : Nat) (s2 : Nat) (s3 : Nat) (x : Nat) (ro : Nat) (rw : Nat) (bo : Nat) (li : Nat) (sh : Nat) (tx : Nat) (lo : Nat) (nl : Nat) (lx0 : Value) (lx1 : Value) (lx2 : Value) (ag : Int) (mo : Int) (po : Int) (hl0 : l.stackTraces = false) (h0 : -2147483648 ≤ ag ∧ ag < 2147483648) (h01 : -9223372036854775808 ≤ mo ∧ mo < 9223372036854775808) (h02 : -2147483648 ≤ po ∧ po < 2147483648) (h1 : ¬ (0 ≤ mo ∧ mo ≤ 1000000000 ∧ 0 ≤ po ∧ po ≤ 20000)) : zMx l (zXE s1 s2 s3) G yX9_demandInsured wsX9_demandInsured rm_c_X9_demandInsured_x1 [.ref x, .int (iz (ag)), .long (lz (mo)), .int (iz (po))] [(x, .inr (10, [.ref ro, .ref rw, .ref bo, .ref li, .ref sh, .ref tx, .ref lo, .ref nl])), (li, .inr (3, [lx0, lx1, lx2, .int (iz (0))]))] "java/lang/IllegalArgumentException" 1 6 := by
  refine zMx_of (cc := cX9_demandInsured) (maxL := 5) (ret := none) (by decide) rfl (Nat.le_of_ble_eq_true rfl) ?_
  intro p e s m below meth c ls A Q hQ hx hb hr hts hown hlocks hml hout hKX hE hP hD hA hS hl
  have hK := hKX.1
  obtain ⟨H, hH⟩ : ∃ h, h = s.heap := ⟨_, rfl⟩
  obtain ⟨locs, hlo⟩ : ∃ h : List Loc, h = [] := ⟨_, rfl⟩
  have hS : va_S A s.heap H locs := by rw [hH, hlo]; exact hS
  have hP : va_P G.1 vwCl [(x, .inr (10, [.ref ro, .ref rw, .ref bo, .ref li, .ref sh, .ref tx, .ref lo, .ref nl])), (li, .inr (3, [lx0, lx1, lx2, .int (iz (0))]))] H := by rw [hH]; exact hP
  have hD : va_D A [(x, .inr (10, [.ref ro, .ref rw, .ref bo, .ref li, .ref sh, .ref tx, .ref lo, .ref nl])), (li, .inr (3, [lx0, lx1, lx2, .int (iz (0))]))] := hD
  have hl : lv_has ls 5 [(0, .ref x), (1, .int (iz (ag))), (2, .long (lz (mo))), (4, .int (iz (po)))] := hl
  rw [← hH, ← hlo]
  refine lv_lload_n hx hb dX9_demandInsured_0 rfl (lv_at hl 2 rfl) ?_
  refine lv_lconst (v := lz (0)) hx hb dX9_demandInsured_1 rfl ?_
  refine zr_ldc2 (z := 1000000000) hx hb hown (hts (.constantLong RX9 91 (1000000000)) (by decide +kernel)) rfl dX9_demandInsured_2 ?_
  refine zc_z (wr := [(x, .inr (10, [.ref ro, .ref rw, .ref bo, .ref li, .ref sh, .ref tx, .ref lo, .ref nl])), (li, .inr (3, [lx0, lx1, lx2, .int (iz (0))]))]) (va_runS (As := [.long (lz (mo)), .long (lz (0)), .long (lz (1000000000))]) (rest := []) ⟨hx, hb, hml, hown, hts⟩ (c_X9_isWithin l G mo 0 1000000000 (by omega) (by omega) (by omega) H.size) (va_cwS 3 hts gX9_demandInsured_X9_isWithin rfl rfl rfl (by decide +kernel) ⟨Nat.le_of_ble_eq_true rfl, Nat.le_of_ble_eq_true rfl⟩) (zpS hKX hP hD [] rfl rfl) rfl rfl hl.1 rfl (lv_room (Nat.le_of_ble_eq_true rfl)) dX9_demandInsured_5 ⟨(by first | exact Nat.le_of_ble_eq_true rfl | (show _ ≤ (1 : Nat); omega)), (by first | exact Nat.le_of_ble_eq_true rfl | (show _ ≤ (6 : Nat); omega))⟩) hP hD hS hA [] [0, 1] rfl rfl rfl (by decide) (fun y1 u_1 H locs hy1 hP hD hS => ?_)
  have hP : va_P G.1 vwCl [(x, .inr (10, [.ref ro, .ref rw, .ref bo, .ref li, .ref sh, .ref tx, .ref lo, .ref nl])), (li, .inr (3, [lx0, lx1, lx2, .int (iz (0))]))] H := hP
  have hD : va_D A [(x, .inr (10, [.ref ro, .ref rw, .ref bo, .ref li, .ref sh, .ref tx, .ref lo, .ref nl])), (li, .inr (3, [lx0, lx1, lx2, .int (iz (0))]))] := hD
  have hy1 : y1 = decide ((0 : Int) ≤ mo ∧ mo ≤ (1000000000 : Int)) := hy1
  rcases Bool.eq_false_or_eq_true y1 with hbt_y1 | hbt_y1
  ·
    rw [hbt_y1]
    have hzy1 := of_decide_eq_true (hy1.symm.trans hbt_y1)
    refine zc_v (wr := [(x, .inr (10, [.ref ro, .ref rw, .ref bo, .ref li, .ref sh, .ref tx, .ref lo, .ref nl])), (li, .inr (3, [lx0, lx1, lx2, .int (iz (0))]))]) (va_runS (As := [.int (iz (zbb true))]) (rest := []) ⟨hx, hb, hml, hown, hts⟩ (c_X9_demand_o l G   H.size) (va_cwS 1 hts gX9_demandInsured_X9_demand rfl rfl rfl (by decide +kernel) ⟨Nat.le_of_ble_eq_true rfl, Nat.le_of_ble_eq_true rfl⟩) (zpS hKX hP hD [] rfl rfl) rfl rfl hl.1 rfl (lv_room (Nat.le_of_ble_eq_true rfl)) dX9_demandInsured_8 ⟨(by first | exact Nat.le_of_ble_eq_true rfl | (show _ ≤ (1 : Nat); omega)), (by first | exact Nat.le_of_ble_eq_true rfl | (show _ ≤ (6 : Nat); omega))⟩) hP hD hS hA [] [0, 1] rfl rfl rfl (by decide) (fun u_3 H locs hq_6 hP hD hS => ?_)
    have hP : va_P G.1 vwCl [(x, .inr (10, [.ref ro, .ref rw, .ref bo, .ref li, .ref sh, .ref tx, .ref lo, .ref nl])), (li, .inr (3, [lx0, lx1, lx2, .int (iz (0))]))] H := hP
    have hD : va_D A [(x, .inr (10, [.ref ro, .ref rw, .ref bo, .ref li, .ref sh, .ref tx, .ref lo, .ref nl])), (li, .inr (3, [lx0, lx1, lx2, .int (iz (0))]))] := hD
    refine lv_iload hx hb dX9_demandInsured_11 (lv_at hl 3 rfl) ?_
    rw [hQ]
    exact zx_thr (X := "java/lang/IllegalArgumentException") (vx_runS (As := [.int (iz (po))]) (rest := []) ⟨hx, hb, hml, hown, hts⟩ (c_X9_demandRate_x l G s1 s2 s3 po hl0 (by omega) (by omega) H.size) (va_cwS 1 hts gX9_demandInsured_X9_demandRate rfl rfl rfl (by decide +kernel) ⟨Nat.le_of_ble_eq_true rfl, Nat.le_of_ble_eq_true rfl⟩) (zpSe zXE_ok hE hS hA hKX hP hD [] rfl rfl) rfl rfl hl.1 rfl (lv_room (Nat.le_of_ble_eq_true rfl)) dX9_demandInsured_13 ⟨(by first | exact Nat.le_of_ble_eq_true rfl | (show _ ≤ (1 : Nat); omega)), (by first | exact Nat.le_of_ble_eq_true rfl | (show _ ≤ (6 : Nat); omega))⟩) hS (va_free (wc := []) hD hS hA [] rfl) hout hlocks (by first | exact Nat.le_of_ble_eq_true rfl | omega) (by first | exact Nat.le_of_ble_eq_true rfl | omega)
  ·
    rw [hbt_y1]
    have hzy1 := of_decide_eq_false (hy1.symm.trans hbt_y1)
    rw [hQ]
    exact zx_thr (X := "java/lang/IllegalArgumentException") (vx_runS (As := [.int (iz (zbb false))]) (rest := []) ⟨hx, hb, hml, hown, hts⟩ (c_X9_demand_x l G s1 s2 s3 hl0 H.size) (va_cwS 1 hts gX9_demandInsured_X9_demand rfl rfl rfl (by decide +kernel) ⟨Nat.le_of_ble_eq_true rfl, Nat.le_of_ble_eq_true rfl⟩) (zpSe zXE_ok hE hS hA hKX hP hD [] rfl rfl) rfl rfl hl.1 rfl (lv_room (Nat.le_of_ble_eq_true rfl)) dX9_demandInsured_8 ⟨(by first | exact Nat.le_of_ble_eq_true rfl | (show _ ≤ (1 : Nat); omega)), (by first | exact Nat.le_of_ble_eq_true rfl | (show _ ≤ (6 : Nat); omega))⟩) hS (va_free (wc := []) hD hS hA [] rfl) hout hlocks (by first | exact Nat.le_of_ble_eq_true rfl | omega) (by first | exact Nat.le_of_ble_eq_true rfl | omega)

def rm_c_X9_demandInsured_x2 : Room := { frames := 7, cells := 1, slots := 6, locals := 110 }
theorem iw_X9_demandInsured_X2 : ∀ w ∈ wsX20, w ∈ wsX9_demandInsured := by decide +kernel
theorem iw_X9_demandInsured_X9 : ∀ w ∈ wsX90, w ∈ wsX9_demandInsured := by decide +kernel
set_option maxHeartbeats 1000000 in
set_option maxRecDepth 100000 in
theorem c_X9_demandInsured_x2 (l : Launch) (G : zG) (s1 : Nat) (s2 : Nat) (s3 : Nat) (x : Nat) (ro : Nat) (rw : Nat) (bo : Nat) (li : Nat) (sh : Nat) (tx : Nat) (lo : Nat) (nl : Nat) (lx0 : Value) (lx1 : Value) (lx2 : Value) (ag : Int) (mo : Int) (po : Int) (hl0 : l.stackTraces = false) (h0 : -2147483648 ≤ ag ∧ ag < 2147483648) (h01 : -9223372036854775808 ≤ mo ∧ mo < 9223372036854775808) (h02 : -2147483648 ≤ po ∧ po < 2147483648) (h1 : 0 ≤ mo ∧ mo ≤ 1000000000 ∧ 0 ≤ po ∧ po ≤ 20000) : zMx l (zXE s1 s2 s3) G yX9_demandInsured wsX9_demandInsured rm_c_X9_demandInsured_x2 [.ref x, .int (iz (ag)), .long (lz (mo)), .int (iz (po))] [(x, .inr (10, [.ref ro, .ref rw, .ref bo, .ref li, .ref sh, .ref tx, .ref lo, .ref nl])), (li, .inr (3, [lx0, lx1, lx2, .int (iz (0))]))] "java/util/NoSuchElementException" 1 6 := by
  refine zMx_of (cc := cX9_demandInsured) (maxL := 5) (ret := none) (by decide) rfl (Nat.le_of_ble_eq_true rfl) ?_
  intro p e s m below meth c ls A Q hQ hx hb hr hts hown hlocks hml hout hKX hE hP hD hA hS hl
  have hK := hKX.1
  have iwX2 := iw_X9_demandInsured_X2
  have iwX9 := iw_X9_demandInsured_X9
  obtain ⟨H, hH⟩ : ∃ h, h = s.heap := ⟨_, rfl⟩
  obtain ⟨locs, hlo⟩ : ∃ h : List Loc, h = [] := ⟨_, rfl⟩
  have hS : va_S A s.heap H locs := by rw [hH, hlo]; exact hS
  have hP : va_P G.1 vwCl [(x, .inr (10, [.ref ro, .ref rw, .ref bo, .ref li, .ref sh, .ref tx, .ref lo, .ref nl])), (li, .inr (3, [lx0, lx1, lx2, .int (iz (0))]))] H := by rw [hH]; exact hP
  have hD : va_D A [(x, .inr (10, [.ref ro, .ref rw, .ref bo, .ref li, .ref sh, .ref tx, .ref lo, .ref nl])), (li, .inr (3, [lx0, lx1, lx2, .int (iz (0))]))] := hD
  have hl : lv_has ls 5 [(0, .ref x), (1, .int (iz (ag))), (2, .long (lz (mo))), (4, .int (iz (po)))] := hl
  rw [← hH, ← hlo]
  refine lv_lload_n hx hb dX9_demandInsured_0 rfl (lv_at hl 2 rfl) ?_
  refine lv_lconst (v := lz (0)) hx hb dX9_demandInsured_1 rfl ?_
  refine zr_ldc2 (z := 1000000000) hx hb hown (hts (.constantLong RX9 91 (1000000000)) (by decide +kernel)) rfl dX9_demandInsured_2 ?_
  refine zc_z (wr := [(x, .inr (10, [.ref ro, .ref rw, .ref bo, .ref li, .ref sh, .ref tx, .ref lo, .ref nl])), (li, .inr (3, [lx0, lx1, lx2, .int (iz (0))]))]) (va_runS (As := [.long (lz (mo)), .long (lz (0)), .long (lz (1000000000))]) (rest := []) ⟨hx, hb, hml, hown, hts⟩ (c_X9_isWithin l G mo 0 1000000000 (by omega) (by omega) (by omega) H.size) (va_cwS 3 hts gX9_demandInsured_X9_isWithin rfl rfl rfl (by decide +kernel) ⟨Nat.le_of_ble_eq_true rfl, Nat.le_of_ble_eq_true rfl⟩) (zpS hKX hP hD [] rfl rfl) rfl rfl hl.1 rfl (lv_room (Nat.le_of_ble_eq_true rfl)) dX9_demandInsured_5 ⟨(by first | exact Nat.le_of_ble_eq_true rfl | (show _ ≤ (1 : Nat); omega)), (by first | exact Nat.le_of_ble_eq_true rfl | (show _ ≤ (6 : Nat); omega))⟩) hP hD hS hA [] [0, 1] rfl rfl rfl (by decide) (fun y1 u_1 H locs hy1 hP hD hS => ?_)
  have hP : va_P G.1 vwCl [(x, .inr (10, [.ref ro, .ref rw, .ref bo, .ref li, .ref sh, .ref tx, .ref lo, .ref nl])), (li, .inr (3, [lx0, lx1, lx2, .int (iz (0))]))] H := hP
  have hD : va_D A [(x, .inr (10, [.ref ro, .ref rw, .ref bo, .ref li, .ref sh, .ref tx, .ref lo, .ref nl])), (li, .inr (3, [lx0, lx1, lx2, .int (iz (0))]))] := hD
  have hy1 : y1 = decide ((0 : Int) ≤ mo ∧ mo ≤ (1000000000 : Int)) := hy1
  rw [show y1 = true from hy1.trans (decide_eq_true (by omega))]
  refine zc_v (wr := [(x, .inr (10, [.ref ro, .ref rw, .ref bo, .ref li, .ref sh, .ref tx, .ref lo, .ref nl])), (li, .inr (3, [lx0, lx1, lx2, .int (iz (0))]))]) (va_runS (As := [.int (iz (zbb true))]) (rest := []) ⟨hx, hb, hml, hown, hts⟩ (c_X9_demand_o l G   H.size) (va_cwS 1 hts gX9_demandInsured_X9_demand rfl rfl rfl (by decide +kernel) ⟨Nat.le_of_ble_eq_true rfl, Nat.le_of_ble_eq_true rfl⟩) (zpS hKX hP hD [] rfl rfl) rfl rfl hl.1 rfl (lv_room (Nat.le_of_ble_eq_true rfl)) dX9_demandInsured_8 ⟨(by first | exact Nat.le_of_ble_eq_true rfl | (show _ ≤ (1 : Nat); omega)), (by first | exact Nat.le_of_ble_eq_true rfl | (show _ ≤ (6 : Nat); omega))⟩) hP hD hS hA [] [0, 1] rfl rfl rfl (by decide) (fun u_3 H locs hq_6 hP hD hS => ?_)
  have hP : va_P G.1 vwCl [(x, .inr (10, [.ref ro, .ref rw, .ref bo, .ref li, .ref sh, .ref tx, .ref lo, .ref nl])), (li, .inr (3, [lx0, lx1, lx2, .int (iz (0))]))] H := hP
  have hD : va_D A [(x, .inr (10, [.ref ro, .ref rw, .ref bo, .ref li, .ref sh, .ref tx, .ref lo, .ref nl])), (li, .inr (3, [lx0, lx1, lx2, .int (iz (0))]))] := hD
  refine lv_iload hx hb dX9_demandInsured_11 (lv_at hl 3 rfl) ?_
  refine zc_v (wr := [(x, .inr (10, [.ref ro, .ref rw, .ref bo, .ref li, .ref sh, .ref tx, .ref lo, .ref nl])), (li, .inr (3, [lx0, lx1, lx2, .int (iz (0))]))]) (va_runS (As := [.int (iz (po))]) (rest := []) ⟨hx, hb, hml, hown, hts⟩ (c_X9_demandRate_o l G po (by omega) (by omega) H.size) (va_cwS 1 hts gX9_demandInsured_X9_demandRate rfl rfl rfl (by decide +kernel) ⟨Nat.le_of_ble_eq_true rfl, Nat.le_of_ble_eq_true rfl⟩) (zpS hKX hP hD [] rfl rfl) rfl rfl hl.1 rfl (lv_room (Nat.le_of_ble_eq_true rfl)) dX9_demandInsured_13 ⟨(by first | exact Nat.le_of_ble_eq_true rfl | (show _ ≤ (1 : Nat); omega)), (by first | exact Nat.le_of_ble_eq_true rfl | (show _ ≤ (6 : Nat); omega))⟩) hP hD hS hA [] [0, 1] rfl rfl rfl (by decide) (fun u_7 H locs hq_10 hP hD hS => ?_)
  have hP : va_P G.1 vwCl [(x, .inr (10, [.ref ro, .ref rw, .ref bo, .ref li, .ref sh, .ref tx, .ref lo, .ref nl])), (li, .inr (3, [lx0, lx1, lx2, .int (iz (0))]))] H := hP
  have hD : va_D A [(x, .inr (10, [.ref ro, .ref rw, .ref bo, .ref li, .ref sh, .ref tx, .ref lo, .ref nl])), (li, .inr (3, [lx0, lx1, lx2, .int (iz (0))]))] := hD
  refine lv_iload_n hx hb dX9_demandInsured_16 rfl (lv_at hl 1 rfl) ?_
  refine zr_i2l hx hb (x := ag) (⟨by omega, by omega⟩) dX9_demandInsured_17 ?_
  refine lv_lconst (v := lz (0)) hx hb dX9_demandInsured_18 rfl ?_
  refine lv_aload_n hx hb dX9_demandInsured_19 rfl (lv_at hl 0 rfl) ?_
  refine va_get (D := G.1) (ci := 10) (v := .ref li) (C := RX9) (T := TX9) (N := 8) hx hb hts iwX9 hown hK hP 0 rfl rfl 3 (by decide) (hts (.fieldLink RX9 33 "AnnuityHouse" "lives" "LAnnuityHouse$Lives;") (by decide +kernel)) (fun _ h9 => h9) rfl dX9_demandInsured_20 ?_
  refine va_get (D := G.1) (ci := 3) (v := .int (iz (0))) (C := RX2) (T := TX2) (N := 4) hx hb hts iwX2 hown hK hP 1 rfl rfl 3 (by decide) (hts (.fieldLink RX9 203 "AnnuityHouse$Lives" "ages" "I") (by decide +kernel)) (fun _ h9 => h9) rfl dX9_demandInsured_23 ?_
  refine lv_iconst (v := iz (1)) hx hb dX9_demandInsured_26 rfl ?_
  refine zr_isub hx hb dX9_demandInsured_27 ?_
  refine zr_i2l hx hb (x := 0 - 1) (⟨by decide, by decide⟩) dX9_demandInsured_28 ?_
  refine zc_z (wr := [(x, .inr (10, [.ref ro, .ref rw, .ref bo, .ref li, .ref sh, .ref tx, .ref lo, .ref nl])), (li, .inr (3, [lx0, lx1, lx2, .int (iz (0))]))]) (va_runS (As := [.long (lz (ag)), .long (lz (0)), .long (lz (0 - 1))]) (rest := []) ⟨hx, hb, hml, hown, hts⟩ (c_X9_isWithin l G ag 0 (0 - 1) (by omega) (by omega) (by omega) H.size) (va_cwS 3 hts gX9_demandInsured_X9_isWithin rfl rfl rfl (by decide +kernel) ⟨Nat.le_of_ble_eq_true rfl, Nat.le_of_ble_eq_true rfl⟩) (zpS hKX hP hD [] rfl rfl) rfl rfl hl.1 rfl (lv_room (Nat.le_of_ble_eq_true rfl)) dX9_demandInsured_29 ⟨(by first | exact Nat.le_of_ble_eq_true rfl | (show _ ≤ (1 : Nat); omega)), (by first | exact Nat.le_of_ble_eq_true rfl | (show _ ≤ (6 : Nat); omega))⟩) hP hD hS hA [] [0, 1] rfl rfl rfl (by decide) (fun y2 u_11 H locs hy2 hP hD hS => ?_)
  have hP : va_P G.1 vwCl [(x, .inr (10, [.ref ro, .ref rw, .ref bo, .ref li, .ref sh, .ref tx, .ref lo, .ref nl])), (li, .inr (3, [lx0, lx1, lx2, .int (iz (0))]))] H := hP
  have hD : va_D A [(x, .inr (10, [.ref ro, .ref rw, .ref bo, .ref li, .ref sh, .ref tx, .ref lo, .ref nl])), (li, .inr (3, [lx0, lx1, lx2, .int (iz (0))]))] := hD
  have hy2 : y2 = decide ((0 : Int) ≤ ag ∧ ag ≤ (0 - 1)) := hy2
  rw [show y2 = false from hy2.trans (decide_eq_false (by omega))]
  rw [hQ]
  exact zx_thr (X := "java/util/NoSuchElementException") (vx_runS (As := [.int (iz (zbb false))]) (rest := []) ⟨hx, hb, hml, hown, hts⟩ (c_X9_demandElement_x l G s1 s2 s3 hl0 H.size) (va_cwS 1 hts gX9_demandInsured_X9_demandElement rfl rfl rfl (by decide +kernel) ⟨Nat.le_of_ble_eq_true rfl, Nat.le_of_ble_eq_true rfl⟩) (zpSe zXE_ok hE hS hA hKX hP hD [] rfl rfl) rfl rfl hl.1 rfl (lv_room (Nat.le_of_ble_eq_true rfl)) dX9_demandInsured_32 ⟨(by first | exact Nat.le_of_ble_eq_true rfl | (show _ ≤ (1 : Nat); omega)), (by first | exact Nat.le_of_ble_eq_true rfl | (show _ ≤ (6 : Nat); omega))⟩) hS (va_free (wc := []) hD hS hA [] rfl) hout hlocks (by first | exact Nat.le_of_ble_eq_true rfl | omega) (by first | exact Nat.le_of_ble_eq_true rfl | omega)

def rm_c_X9_lifeWorth_x1 : Room := { frames := 9, cells := 1, slots := 6, locals := 154 }
set_option maxHeartbeats 1000000 in
set_option maxRecDepth 100000 in
theorem c_X9_lifeWorth_x1 (l : Launch) (G : zG) (s1 : Nat) (s2 : Nat) (s3 : Nat) (x : Nat) (ro : Nat) (rw : Nat) (bo : Nat) (li : Nat) (sh : Nat) (tx : Nat) (lo : Nat) (nl : Nat) (lx0 : Value) (lx1 : Value) (lx2 : Value) (ag : Int) (mo : Int) (po : Int) (hl0 : l.stackTraces = false) (h0 : -2147483648 ≤ ag ∧ ag < 2147483648) (h01 : -9223372036854775808 ≤ mo ∧ mo < 9223372036854775808) (h02 : -2147483648 ≤ po ∧ po < 2147483648) (h1 : ¬ (0 ≤ mo ∧ mo ≤ 1000000000 ∧ 0 ≤ po ∧ po ≤ 20000)) : zMx l (zXE s1 s2 s3) G yX9_lifeWorth wsX9_lifeWorth rm_c_X9_lifeWorth_x1 [.ref x, .int (iz (ag)), .long (lz (mo)), .int (iz (po))] [(x, .inr (10, [.ref ro, .ref rw, .ref bo, .ref li, .ref sh, .ref tx, .ref lo, .ref nl])), (li, .inr (3, [lx0, lx1, lx2, .int (iz (0))]))] "java/lang/IllegalArgumentException" 1 6 := by
  refine zMx_of (cc := cX9_lifeWorth) (maxL := 5) (ret := (some .long)) (by decide) rfl (Nat.le_of_ble_eq_true rfl) ?_
  intro p e s m below meth c ls A Q hQ hx hb hr hts hown hlocks hml hout hKX hE hP hD hA hS hl
  have hK := hKX.1
  obtain ⟨H, hH⟩ : ∃ h, h = s.heap := ⟨_, rfl⟩
  obtain ⟨locs, hlo⟩ : ∃ h : List Loc, h = [] := ⟨_, rfl⟩
  have hS : va_S A s.heap H locs := by rw [hH, hlo]; exact hS
  have hP : va_P G.1 vwCl [(x, .inr (10, [.ref ro, .ref rw, .ref bo, .ref li, .ref sh, .ref tx, .ref lo, .ref nl])), (li, .inr (3, [lx0, lx1, lx2, .int (iz (0))]))] H := by rw [hH]; exact hP
  have hD : va_D A [(x, .inr (10, [.ref ro, .ref rw, .ref bo, .ref li, .ref sh, .ref tx, .ref lo, .ref nl])), (li, .inr (3, [lx0, lx1, lx2, .int (iz (0))]))] := hD
  have hl : lv_has ls 5 [(0, .ref x), (1, .int (iz (ag))), (2, .long (lz (mo))), (4, .int (iz (po)))] := hl
  rw [← hH, ← hlo]
  refine lv_aload_n hx hb dX9_lifeWorth_0 rfl (lv_at hl 0 rfl) ?_
  refine lv_iload_n hx hb dX9_lifeWorth_1 rfl (lv_at hl 1 rfl) ?_
  refine lv_lload_n hx hb dX9_lifeWorth_2 rfl (lv_at hl 2 rfl) ?_
  refine lv_iload hx hb dX9_lifeWorth_3 (lv_at hl 3 rfl) ?_
  rw [hQ]
  exact zx_thr (X := "java/lang/IllegalArgumentException") (vx_runV (As := [.int (iz (ag)), .long (lz (mo)), .int (iz (po))]) (rest := []) ⟨hx, hb, hml, hown, hts⟩ (c_X9_demandInsured_x1 l G s1 s2 s3 x ro rw bo li sh tx lo nl lx0 lx1 lx2 ag mo po hl0 (by omega) (by omega) (by omega) (by omega) H.size) (cwV 3 hts gX9_lifeWorth_X9_demandInsured rfl rfl rfl (by decide +kernel) ⟨Nat.le_of_ble_eq_true rfl, Nat.le_of_ble_eq_true rfl⟩) (zpVe zXE_ok hE hS hA hKX hP hD [0, 1] rfl rfl (va_recv hK hP (ci := 10) (q0 := 0) rfl rfl)) rfl rfl hl.1 rfl (lv_room (Nat.le_of_ble_eq_true rfl)) dX9_lifeWorth_5 ⟨(by first | exact Nat.le_of_ble_eq_true rfl | (show _ ≤ (1 : Nat); omega)), (by first | exact Nat.le_of_ble_eq_true rfl | (show _ ≤ (6 : Nat); omega))⟩) hS (va_free (wc := [(x, .inr (10, [.ref ro, .ref rw, .ref bo, .ref li, .ref sh, .ref tx, .ref lo, .ref nl])), (li, .inr (3, [lx0, lx1, lx2, .int (iz (0))]))]) hD hS hA [0, 1] rfl) hout hlocks (by first | exact Nat.le_of_ble_eq_true rfl | omega) (by first | exact Nat.le_of_ble_eq_true rfl | omega)

def rm_c_X9_lifeWorth_x2 : Room := { frames := 8, cells := 1, slots := 6, locals := 134 }
set_option maxHeartbeats 1000000 in
set_option maxRecDepth 100000 in
theorem c_X9_lifeWorth_x2 (l : Launch) (G : zG) (s1 : Nat) (s2 : Nat) (s3 : Nat) (x : Nat) (ro : Nat) (rw : Nat) (bo : Nat) (li : Nat) (sh : Nat) (tx : Nat) (lo : Nat) (nl : Nat) (lx0 : Value) (lx1 : Value) (lx2 : Value) (ag : Int) (mo : Int) (po : Int) (hl0 : l.stackTraces = false) (h0 : -2147483648 ≤ ag ∧ ag < 2147483648) (h01 : -9223372036854775808 ≤ mo ∧ mo < 9223372036854775808) (h02 : -2147483648 ≤ po ∧ po < 2147483648) (h1 : 0 ≤ mo ∧ mo ≤ 1000000000 ∧ 0 ≤ po ∧ po ≤ 20000) : zMx l (zXE s1 s2 s3) G yX9_lifeWorth wsX9_lifeWorth rm_c_X9_lifeWorth_x2 [.ref x, .int (iz (ag)), .long (lz (mo)), .int (iz (po))] [(x, .inr (10, [.ref ro, .ref rw, .ref bo, .ref li, .ref sh, .ref tx, .ref lo, .ref nl])), (li, .inr (3, [lx0, lx1, lx2, .int (iz (0))]))] "java/util/NoSuchElementException" 1 6 := by
  refine zMx_of (cc := cX9_lifeWorth) (maxL := 5) (ret := (some .long)) (by decide) rfl (Nat.le_of_ble_eq_true rfl) ?_
  intro p e s m below meth c ls A Q hQ hx hb hr hts hown hlocks hml hout hKX hE hP hD hA hS hl
  have hK := hKX.1
  obtain ⟨H, hH⟩ : ∃ h, h = s.heap := ⟨_, rfl⟩
  obtain ⟨locs, hlo⟩ : ∃ h : List Loc, h = [] := ⟨_, rfl⟩
  have hS : va_S A s.heap H locs := by rw [hH, hlo]; exact hS
  have hP : va_P G.1 vwCl [(x, .inr (10, [.ref ro, .ref rw, .ref bo, .ref li, .ref sh, .ref tx, .ref lo, .ref nl])), (li, .inr (3, [lx0, lx1, lx2, .int (iz (0))]))] H := by rw [hH]; exact hP
  have hD : va_D A [(x, .inr (10, [.ref ro, .ref rw, .ref bo, .ref li, .ref sh, .ref tx, .ref lo, .ref nl])), (li, .inr (3, [lx0, lx1, lx2, .int (iz (0))]))] := hD
  have hl : lv_has ls 5 [(0, .ref x), (1, .int (iz (ag))), (2, .long (lz (mo))), (4, .int (iz (po)))] := hl
  rw [← hH, ← hlo]
  refine lv_aload_n hx hb dX9_lifeWorth_0 rfl (lv_at hl 0 rfl) ?_
  refine lv_iload_n hx hb dX9_lifeWorth_1 rfl (lv_at hl 1 rfl) ?_
  refine lv_lload_n hx hb dX9_lifeWorth_2 rfl (lv_at hl 2 rfl) ?_
  refine lv_iload hx hb dX9_lifeWorth_3 (lv_at hl 3 rfl) ?_
  rw [hQ]
  exact zx_thr (X := "java/util/NoSuchElementException") (vx_runV (As := [.int (iz (ag)), .long (lz (mo)), .int (iz (po))]) (rest := []) ⟨hx, hb, hml, hown, hts⟩ (c_X9_demandInsured_x2 l G s1 s2 s3 x ro rw bo li sh tx lo nl lx0 lx1 lx2 ag mo po hl0 (by omega) (by omega) (by omega) (by omega) H.size) (cwV 3 hts gX9_lifeWorth_X9_demandInsured rfl rfl rfl (by decide +kernel) ⟨Nat.le_of_ble_eq_true rfl, Nat.le_of_ble_eq_true rfl⟩) (zpVe zXE_ok hE hS hA hKX hP hD [0, 1] rfl rfl (va_recv hK hP (ci := 10) (q0 := 0) rfl rfl)) rfl rfl hl.1 rfl (lv_room (Nat.le_of_ble_eq_true rfl)) dX9_lifeWorth_5 ⟨(by first | exact Nat.le_of_ble_eq_true rfl | (show _ ≤ (1 : Nat); omega)), (by first | exact Nat.le_of_ble_eq_true rfl | (show _ ≤ (6 : Nat); omega))⟩) hS (va_free (wc := [(x, .inr (10, [.ref ro, .ref rw, .ref bo, .ref li, .ref sh, .ref tx, .ref lo, .ref nl])), (li, .inr (3, [lx0, lx1, lx2, .int (iz (0))]))]) hD hS hA [0, 1] rfl) hout hlocks (by first | exact Nat.le_of_ble_eq_true rfl | omega) (by first | exact Nat.le_of_ble_eq_true rfl | omega)

def rm_c_X9_deathWorth_x1 : Room := { frames := 9, cells := 1, slots := 6, locals := 154 }
set_option maxHeartbeats 1000000 in
set_option maxRecDepth 100000 in
theorem c_X9_deathWorth_x1 (l : Launch) (G : zG) (s1 : Nat) (s2 : Nat) (s3 : Nat) (x : Nat) (ro : Nat) (rw : Nat) (bo : Nat) (li : Nat) (sh : Nat) (tx : Nat) (lo : Nat) (nl : Nat) (lx0 : Value) (lx1 : Value) (lx2 : Value) (ag : Int) (mo : Int) (po : Int) (hl0 : l.stackTraces = false) (h0 : -2147483648 ≤ ag ∧ ag < 2147483648) (h01 : -9223372036854775808 ≤ mo ∧ mo < 9223372036854775808) (h02 : -2147483648 ≤ po ∧ po < 2147483648) (h1 : ¬ (0 ≤ mo ∧ mo ≤ 1000000000 ∧ 0 ≤ po ∧ po ≤ 20000)) : zMx l (zXE s1 s2 s3) G yX9_deathWorth wsX9_deathWorth rm_c_X9_deathWorth_x1 [.ref x, .int (iz (ag)), .long (lz (mo)), .int (iz (po))] [(x, .inr (10, [.ref ro, .ref rw, .ref bo, .ref li, .ref sh, .ref tx, .ref lo, .ref nl])), (li, .inr (3, [lx0, lx1, lx2, .int (iz (0))]))] "java/lang/IllegalArgumentException" 1 6 := by
  refine zMx_of (cc := cX9_deathWorth) (maxL := 5) (ret := (some .long)) (by decide) rfl (Nat.le_of_ble_eq_true rfl) ?_
  intro p e s m below meth c ls A Q hQ hx hb hr hts hown hlocks hml hout hKX hE hP hD hA hS hl
  have hK := hKX.1
  obtain ⟨H, hH⟩ : ∃ h, h = s.heap := ⟨_, rfl⟩
  obtain ⟨locs, hlo⟩ : ∃ h : List Loc, h = [] := ⟨_, rfl⟩
  have hS : va_S A s.heap H locs := by rw [hH, hlo]; exact hS
  have hP : va_P G.1 vwCl [(x, .inr (10, [.ref ro, .ref rw, .ref bo, .ref li, .ref sh, .ref tx, .ref lo, .ref nl])), (li, .inr (3, [lx0, lx1, lx2, .int (iz (0))]))] H := by rw [hH]; exact hP
  have hD : va_D A [(x, .inr (10, [.ref ro, .ref rw, .ref bo, .ref li, .ref sh, .ref tx, .ref lo, .ref nl])), (li, .inr (3, [lx0, lx1, lx2, .int (iz (0))]))] := hD
  have hl : lv_has ls 5 [(0, .ref x), (1, .int (iz (ag))), (2, .long (lz (mo))), (4, .int (iz (po)))] := hl
  rw [← hH, ← hlo]
  refine lv_aload_n hx hb dX9_deathWorth_0 rfl (lv_at hl 0 rfl) ?_
  refine lv_iload_n hx hb dX9_deathWorth_1 rfl (lv_at hl 1 rfl) ?_
  refine lv_lload_n hx hb dX9_deathWorth_2 rfl (lv_at hl 2 rfl) ?_
  refine lv_iload hx hb dX9_deathWorth_3 (lv_at hl 3 rfl) ?_
  rw [hQ]
  exact zx_thr (X := "java/lang/IllegalArgumentException") (vx_runV (As := [.int (iz (ag)), .long (lz (mo)), .int (iz (po))]) (rest := []) ⟨hx, hb, hml, hown, hts⟩ (c_X9_demandInsured_x1 l G s1 s2 s3 x ro rw bo li sh tx lo nl lx0 lx1 lx2 ag mo po hl0 (by omega) (by omega) (by omega) (by omega) H.size) (cwV 3 hts gX9_deathWorth_X9_demandInsured rfl rfl rfl (by decide +kernel) ⟨Nat.le_of_ble_eq_true rfl, Nat.le_of_ble_eq_true rfl⟩) (zpVe zXE_ok hE hS hA hKX hP hD [0, 1] rfl rfl (va_recv hK hP (ci := 10) (q0 := 0) rfl rfl)) rfl rfl hl.1 rfl (lv_room (Nat.le_of_ble_eq_true rfl)) dX9_deathWorth_5 ⟨(by first | exact Nat.le_of_ble_eq_true rfl | (show _ ≤ (1 : Nat); omega)), (by first | exact Nat.le_of_ble_eq_true rfl | (show _ ≤ (6 : Nat); omega))⟩) hS (va_free (wc := [(x, .inr (10, [.ref ro, .ref rw, .ref bo, .ref li, .ref sh, .ref tx, .ref lo, .ref nl])), (li, .inr (3, [lx0, lx1, lx2, .int (iz (0))]))]) hD hS hA [0, 1] rfl) hout hlocks (by first | exact Nat.le_of_ble_eq_true rfl | omega) (by first | exact Nat.le_of_ble_eq_true rfl | omega)

def rm_c_X9_deathWorth_x2 : Room := { frames := 8, cells := 1, slots := 6, locals := 134 }
set_option maxHeartbeats 1000000 in
set_option maxRecDepth 100000 in
theorem c_X9_deathWorth_x2 (l : Launch) (G : zG) (s1 : Nat) (s2 : Nat) (s3 : Nat) (x : Nat) (ro : Nat) (rw : Nat) (bo : Nat) (li : Nat) (sh : Nat) (tx : Nat) (lo : Nat) (nl : Nat) (lx0 : Value) (lx1 : Value) (lx2 : Value) (ag : Int) (mo : Int) (po : Int) (hl0 : l.stackTraces = false) (h0 : -2147483648 ≤ ag ∧ ag < 2147483648) (h01 : -9223372036854775808 ≤ mo ∧ mo < 9223372036854775808) (h02 : -2147483648 ≤ po ∧ po < 2147483648) (h1 : 0 ≤ mo ∧ mo ≤ 1000000000 ∧ 0 ≤ po ∧ po ≤ 20000) : zMx l (zXE s1 s2 s3) G yX9_deathWorth wsX9_deathWorth rm_c_X9_deathWorth_x2 [.ref x, .int (iz (ag)), .long (lz (mo)), .int (iz (po))] [(x, .inr (10, [.ref ro, .ref rw, .ref bo, .ref li, .ref sh, .ref tx, .ref lo, .ref nl])), (li, .inr (3, [lx0, lx1, lx2, .int (iz (0))]))] "java/util/NoSuchElementException" 1 6 := by
  refine zMx_of (cc := cX9_deathWorth) (maxL := 5) (ret := (some .long)) (by decide) rfl (Nat.le_of_ble_eq_true rfl) ?_
  intro p e s m below meth c ls A Q hQ hx hb hr hts hown hlocks hml hout hKX hE hP hD hA hS hl
  have hK := hKX.1
  obtain ⟨H, hH⟩ : ∃ h, h = s.heap := ⟨_, rfl⟩
  obtain ⟨locs, hlo⟩ : ∃ h : List Loc, h = [] := ⟨_, rfl⟩
  have hS : va_S A s.heap H locs := by rw [hH, hlo]; exact hS
  have hP : va_P G.1 vwCl [(x, .inr (10, [.ref ro, .ref rw, .ref bo, .ref li, .ref sh, .ref tx, .ref lo, .ref nl])), (li, .inr (3, [lx0, lx1, lx2, .int (iz (0))]))] H := by rw [hH]; exact hP
  have hD : va_D A [(x, .inr (10, [.ref ro, .ref rw, .ref bo, .ref li, .ref sh, .ref tx, .ref lo, .ref nl])), (li, .inr (3, [lx0, lx1, lx2, .int (iz (0))]))] := hD
  have hl : lv_has ls 5 [(0, .ref x), (1, .int (iz (ag))), (2, .long (lz (mo))), (4, .int (iz (po)))] := hl
  rw [← hH, ← hlo]
  refine lv_aload_n hx hb dX9_deathWorth_0 rfl (lv_at hl 0 rfl) ?_
  refine lv_iload_n hx hb dX9_deathWorth_1 rfl (lv_at hl 1 rfl) ?_
  refine lv_lload_n hx hb dX9_deathWorth_2 rfl (lv_at hl 2 rfl) ?_
  refine lv_iload hx hb dX9_deathWorth_3 (lv_at hl 3 rfl) ?_
  rw [hQ]
  exact zx_thr (X := "java/util/NoSuchElementException") (vx_runV (As := [.int (iz (ag)), .long (lz (mo)), .int (iz (po))]) (rest := []) ⟨hx, hb, hml, hown, hts⟩ (c_X9_demandInsured_x2 l G s1 s2 s3 x ro rw bo li sh tx lo nl lx0 lx1 lx2 ag mo po hl0 (by omega) (by omega) (by omega) (by omega) H.size) (cwV 3 hts gX9_deathWorth_X9_demandInsured rfl rfl rfl (by decide +kernel) ⟨Nat.le_of_ble_eq_true rfl, Nat.le_of_ble_eq_true rfl⟩) (zpVe zXE_ok hE hS hA hKX hP hD [0, 1] rfl rfl (va_recv hK hP (ci := 10) (q0 := 0) rfl rfl)) rfl rfl hl.1 rfl (lv_room (Nat.le_of_ble_eq_true rfl)) dX9_deathWorth_5 ⟨(by first | exact Nat.le_of_ble_eq_true rfl | (show _ ≤ (1 : Nat); omega)), (by first | exact Nat.le_of_ble_eq_true rfl | (show _ ≤ (6 : Nat); omega))⟩) hS (va_free (wc := [(x, .inr (10, [.ref ro, .ref rw, .ref bo, .ref li, .ref sh, .ref tx, .ref lo, .ref nl])), (li, .inr (3, [lx0, lx1, lx2, .int (iz (0))]))]) hD hS hA [0, 1] rfl) hout hlocks (by first | exact Nat.le_of_ble_eq_true rfl | omega) (by first | exact Nat.le_of_ble_eq_true rfl | omega)

def rm_c_X9_premium_x1 : Room := { frames := 9, cells := 1, slots := 6, locals := 154 }
set_option maxHeartbeats 1000000 in
set_option maxRecDepth 100000 in
theorem c_X9_premium_x1 (l : Launch) (G : zG) (s1 : Nat) (s2 : Nat) (s3 : Nat) (x : Nat) (ro : Nat) (rw : Nat) (bo : Nat) (li : Nat) (sh : Nat) (tx : Nat) (lo : Nat) (nl : Nat) (lx0 : Value) (lx1 : Value) (lx2 : Value) (ag : Int) (mo : Int) (po : Int) (hl0 : l.stackTraces = false) (h0 : -2147483648 ≤ ag ∧ ag < 2147483648) (h01 : -9223372036854775808 ≤ mo ∧ mo < 9223372036854775808) (h02 : -2147483648 ≤ po ∧ po < 2147483648) (h1 : ¬ (0 ≤ mo ∧ mo ≤ 1000000000 ∧ 0 ≤ po ∧ po ≤ 20000)) : zMx l (zXE s1 s2 s3) G yX9_premium wsX9_premium rm_c_X9_premium_x1 [.ref x, .int (iz (ag)), .long (lz (mo)), .int (iz (po))] [(x, .inr (10, [.ref ro, .ref rw, .ref bo, .ref li, .ref sh, .ref tx, .ref lo, .ref nl])), (li, .inr (3, [lx0, lx1, lx2, .int (iz (0))]))] "java/lang/IllegalArgumentException" 1 6 := by
  refine zMx_of (cc := cX9_premium) (maxL := 5) (ret := (some .long)) (by decide) rfl (Nat.le_of_ble_eq_true rfl) ?_
  intro p e s m below meth c ls A Q hQ hx hb hr hts hown hlocks hml hout hKX hE hP hD hA hS hl
  have hK := hKX.1
  obtain ⟨H, hH⟩ : ∃ h, h = s.heap := ⟨_, rfl⟩
  obtain ⟨locs, hlo⟩ : ∃ h : List Loc, h = [] := ⟨_, rfl⟩
  have hS : va_S A s.heap H locs := by rw [hH, hlo]; exact hS
  have hP : va_P G.1 vwCl [(x, .inr (10, [.ref ro, .ref rw, .ref bo, .ref li, .ref sh, .ref tx, .ref lo, .ref nl])), (li, .inr (3, [lx0, lx1, lx2, .int (iz (0))]))] H := by rw [hH]; exact hP
  have hD : va_D A [(x, .inr (10, [.ref ro, .ref rw, .ref bo, .ref li, .ref sh, .ref tx, .ref lo, .ref nl])), (li, .inr (3, [lx0, lx1, lx2, .int (iz (0))]))] := hD
  have hl : lv_has ls 5 [(0, .ref x), (1, .int (iz (ag))), (2, .long (lz (mo))), (4, .int (iz (po)))] := hl
  rw [← hH, ← hlo]
  refine lv_aload_n hx hb dX9_premium_0 rfl (lv_at hl 0 rfl) ?_
  refine lv_iload_n hx hb dX9_premium_1 rfl (lv_at hl 1 rfl) ?_
  refine lv_lload_n hx hb dX9_premium_2 rfl (lv_at hl 2 rfl) ?_
  refine lv_iload hx hb dX9_premium_3 (lv_at hl 3 rfl) ?_
  rw [hQ]
  exact zx_thr (X := "java/lang/IllegalArgumentException") (vx_runV (As := [.int (iz (ag)), .long (lz (mo)), .int (iz (po))]) (rest := []) ⟨hx, hb, hml, hown, hts⟩ (c_X9_demandInsured_x1 l G s1 s2 s3 x ro rw bo li sh tx lo nl lx0 lx1 lx2 ag mo po hl0 (by omega) (by omega) (by omega) (by omega) H.size) (cwV 3 hts gX9_premium_X9_demandInsured rfl rfl rfl (by decide +kernel) ⟨Nat.le_of_ble_eq_true rfl, Nat.le_of_ble_eq_true rfl⟩) (zpVe zXE_ok hE hS hA hKX hP hD [0, 1] rfl rfl (va_recv hK hP (ci := 10) (q0 := 0) rfl rfl)) rfl rfl hl.1 rfl (lv_room (Nat.le_of_ble_eq_true rfl)) dX9_premium_5 ⟨(by first | exact Nat.le_of_ble_eq_true rfl | (show _ ≤ (1 : Nat); omega)), (by first | exact Nat.le_of_ble_eq_true rfl | (show _ ≤ (6 : Nat); omega))⟩) hS (va_free (wc := [(x, .inr (10, [.ref ro, .ref rw, .ref bo, .ref li, .ref sh, .ref tx, .ref lo, .ref nl])), (li, .inr (3, [lx0, lx1, lx2, .int (iz (0))]))]) hD hS hA [0, 1] rfl) hout hlocks (by first | exact Nat.le_of_ble_eq_true rfl | omega) (by first | exact Nat.le_of_ble_eq_true rfl | omega)

def rm_c_X9_premium_x2 : Room := { frames := 8, cells := 1, slots := 6, locals := 134 }
set_option maxHeartbeats 1000000 in
set_option maxRecDepth 100000 in
theorem c_X9_premium_x2 (l : Launch) (G : zG) (s1 : Nat) (s2 : Nat) (s3 : Nat) (x : Nat) (ro : Nat) (rw : Nat) (bo : Nat) (li : Nat) (sh : Nat) (tx : Nat) (lo : Nat) (nl : Nat) (lx0 : Value) (lx1 : Value) (lx2 : Value) (ag : Int) (mo : Int) (po : Int) (hl0 : l.stackTraces = false) (h0 : -2147483648 ≤ ag ∧ ag < 2147483648) (h01 : -9223372036854775808 ≤ mo ∧ mo < 9223372036854775808) (h02 : -2147483648 ≤ po ∧ po < 2147483648) (h1 : 0 ≤ mo ∧ mo ≤ 1000000000 ∧ 0 ≤ po ∧ po ≤ 20000) : zMx l (zXE s1 s2 s3) G yX9_premium wsX9_premium rm_c_X9_premium_x2 [.ref x, .int (iz (ag)), .long (lz (mo)), .int (iz (po))] [(x, .inr (10, [.ref ro, .ref rw, .ref bo, .ref li, .ref sh, .ref tx, .ref lo, .ref nl])), (li, .inr (3, [lx0, lx1, lx2, .int (iz (0))]))] "java/util/NoSuchElementException" 1 6 := by
  refine zMx_of (cc := cX9_premium) (maxL := 5) (ret := (some .long)) (by decide) rfl (Nat.le_of_ble_eq_true rfl) ?_
  intro p e s m below meth c ls A Q hQ hx hb hr hts hown hlocks hml hout hKX hE hP hD hA hS hl
  have hK := hKX.1
  obtain ⟨H, hH⟩ : ∃ h, h = s.heap := ⟨_, rfl⟩
  obtain ⟨locs, hlo⟩ : ∃ h : List Loc, h = [] := ⟨_, rfl⟩
  have hS : va_S A s.heap H locs := by rw [hH, hlo]; exact hS
  have hP : va_P G.1 vwCl [(x, .inr (10, [.ref ro, .ref rw, .ref bo, .ref li, .ref sh, .ref tx, .ref lo, .ref nl])), (li, .inr (3, [lx0, lx1, lx2, .int (iz (0))]))] H := by rw [hH]; exact hP
  have hD : va_D A [(x, .inr (10, [.ref ro, .ref rw, .ref bo, .ref li, .ref sh, .ref tx, .ref lo, .ref nl])), (li, .inr (3, [lx0, lx1, lx2, .int (iz (0))]))] := hD
  have hl : lv_has ls 5 [(0, .ref x), (1, .int (iz (ag))), (2, .long (lz (mo))), (4, .int (iz (po)))] := hl
  rw [← hH, ← hlo]
  refine lv_aload_n hx hb dX9_premium_0 rfl (lv_at hl 0 rfl) ?_
  refine lv_iload_n hx hb dX9_premium_1 rfl (lv_at hl 1 rfl) ?_
  refine lv_lload_n hx hb dX9_premium_2 rfl (lv_at hl 2 rfl) ?_
  refine lv_iload hx hb dX9_premium_3 (lv_at hl 3 rfl) ?_
  rw [hQ]
  exact zx_thr (X := "java/util/NoSuchElementException") (vx_runV (As := [.int (iz (ag)), .long (lz (mo)), .int (iz (po))]) (rest := []) ⟨hx, hb, hml, hown, hts⟩ (c_X9_demandInsured_x2 l G s1 s2 s3 x ro rw bo li sh tx lo nl lx0 lx1 lx2 ag mo po hl0 (by omega) (by omega) (by omega) (by omega) H.size) (cwV 3 hts gX9_premium_X9_demandInsured rfl rfl rfl (by decide +kernel) ⟨Nat.le_of_ble_eq_true rfl, Nat.le_of_ble_eq_true rfl⟩) (zpVe zXE_ok hE hS hA hKX hP hD [0, 1] rfl rfl (va_recv hK hP (ci := 10) (q0 := 0) rfl rfl)) rfl rfl hl.1 rfl (lv_room (Nat.le_of_ble_eq_true rfl)) dX9_premium_5 ⟨(by first | exact Nat.le_of_ble_eq_true rfl | (show _ ≤ (1 : Nat); omega)), (by first | exact Nat.le_of_ble_eq_true rfl | (show _ ≤ (6 : Nat); omega))⟩) hS (va_free (wc := [(x, .inr (10, [.ref ro, .ref rw, .ref bo, .ref li, .ref sh, .ref tx, .ref lo, .ref nl])), (li, .inr (3, [lx0, lx1, lx2, .int (iz (0))]))]) hD hS hA [0, 1] rfl) hout hlocks (by first | exact Nat.le_of_ble_eq_true rfl | omega) (by first | exact Nat.le_of_ble_eq_true rfl | omega)

def rm_c_X9_reserve_x1 : Room := { frames := 9, cells := 1, slots := 6, locals := 154 }
set_option maxHeartbeats 1000000 in
set_option maxRecDepth 100000 in
theorem c_X9_reserve_x1 (l : Launch) (G : zG) (s1 : Nat) (s2 : Nat) (s3 : Nat) (x : Nat) (ro : Nat) (rw : Nat) (bo : Nat) (li : Nat) (sh : Nat) (tx : Nat) (lo : Nat) (nl : Nat) (lx0 : Value) (lx1 : Value) (lx2 : Value) (ag : Int) (ye : Int) (mo : Int) (po : Int) (ib : Bool) (hl0 : l.stackTraces = false) (h0 : -2147483648 ≤ ag ∧ ag < 2147483648) (h00 : -2147483648 ≤ ye ∧ ye < 2147483648) (h01 : -9223372036854775808 ≤ mo ∧ mo < 9223372036854775808) (h02 : -2147483648 ≤ po ∧ po < 2147483648) (h1 : ¬ (0 ≤ ye ∧ 0 ≤ mo ∧ mo ≤ 1000000000 ∧ 0 ≤ po ∧ po ≤ 20000)) : zMx l (zXE s1 s2 s3) G yX9_reserve wsX9_reserve rm_c_X9_reserve_x1 [.ref x, .int (iz (ag)), .int (iz (ye)), .long (lz (mo)), .int (iz (po)), .int (iz (zbb ib))] [(x, .inr (10, [.ref ro, .ref rw, .ref bo, .ref li, .ref sh, .ref tx, .ref lo, .ref nl])), (li, .inr (3, [lx0, lx1, lx2, .int (iz (0))]))] "java/lang/IllegalArgumentException" 1 6 := by
  refine zMx_of (cc := cX9_reserve) (maxL := 7) (ret := (some .long)) (by decide) rfl (Nat.le_of_ble_eq_true rfl) ?_
  intro p e s m below meth c ls A Q hQ hx hb hr hts hown hlocks hml hout hKX hE hP hD hA hS hl
  have hK := hKX.1
  obtain ⟨H, hH⟩ : ∃ h, h = s.heap := ⟨_, rfl⟩
  obtain ⟨locs, hlo⟩ : ∃ h : List Loc, h = [] := ⟨_, rfl⟩
  have hS : va_S A s.heap H locs := by rw [hH, hlo]; exact hS
  have hP : va_P G.1 vwCl [(x, .inr (10, [.ref ro, .ref rw, .ref bo, .ref li, .ref sh, .ref tx, .ref lo, .ref nl])), (li, .inr (3, [lx0, lx1, lx2, .int (iz (0))]))] H := by rw [hH]; exact hP
  have hD : va_D A [(x, .inr (10, [.ref ro, .ref rw, .ref bo, .ref li, .ref sh, .ref tx, .ref lo, .ref nl])), (li, .inr (3, [lx0, lx1, lx2, .int (iz (0))]))] := hD
  have hl : lv_has ls 7 [(0, .ref x), (1, .int (iz (ag))), (2, .int (iz (ye))), (3, .long (lz (mo))), (5, .int (iz (po))), (6, .int (iz (zbb ib)))] := hl
  rw [← hH, ← hlo]
  refine lv_iload_n hx hb dX9_reserve_0 rfl (lv_at hl 2 rfl) ?_
  refine zr_if_lt (x := ye) (tgt := 8) hx hb (⟨by omega, by omega⟩) dX9_reserve_1 (by decide) (fun h_1 => ?_) (fun h_1 => ?_)
  ·
    refine lv_iconst (v := iz (0)) hx hb dX9_reserve_8 rfl ?_
    rw [hQ]
    exact zx_thr (X := "java/lang/IllegalArgumentException") (vx_runS (As := [.int (iz (0))]) (rest := []) ⟨hx, hb, hml, hown, hts⟩ (c_X9_demand_x l G s1 s2 s3 hl0 H.size) (va_cwS 1 hts gX9_reserve_X9_demand rfl rfl rfl (by decide +kernel) ⟨Nat.le_of_ble_eq_true rfl, Nat.le_of_ble_eq_true rfl⟩) (zpSe zXE_ok hE hS hA hKX hP hD [] rfl rfl) rfl rfl hl.1 rfl (lv_room (Nat.le_of_ble_eq_true rfl)) dX9_reserve_9 ⟨(by first | exact Nat.le_of_ble_eq_true rfl | (show _ ≤ (1 : Nat); omega)), (by first | exact Nat.le_of_ble_eq_true rfl | (show _ ≤ (6 : Nat); omega))⟩) hS (va_free (wc := []) hD hS hA [] rfl) hout hlocks (by first | exact Nat.le_of_ble_eq_true rfl | omega) (by first | exact Nat.le_of_ble_eq_true rfl | omega)
  ·
    refine lv_iconst (v := iz (1)) hx hb dX9_reserve_4 rfl ?_
    refine lv_goto (tgt := 9) hx hb dX9_reserve_5 (by decide) ?_
    refine zc_v (wr := [(x, .inr (10, [.ref ro, .ref rw, .ref bo, .ref li, .ref sh, .ref tx, .ref lo, .ref nl])), (li, .inr (3, [lx0, lx1, lx2, .int (iz (0))]))]) (va_runS (As := [.int (iz (1))]) (rest := []) ⟨hx, hb, hml, hown, hts⟩ (c_X9_demand_o l G   H.size) (va_cwS 1 hts gX9_reserve_X9_demand rfl rfl rfl (by decide +kernel) ⟨Nat.le_of_ble_eq_true rfl, Nat.le_of_ble_eq_true rfl⟩) (zpS hKX hP hD [] rfl rfl) rfl rfl hl.1 rfl (lv_room (Nat.le_of_ble_eq_true rfl)) dX9_reserve_9 ⟨(by first | exact Nat.le_of_ble_eq_true rfl | (show _ ≤ (1 : Nat); omega)), (by first | exact Nat.le_of_ble_eq_true rfl | (show _ ≤ (6 : Nat); omega))⟩) hP hD hS hA [] [0, 1] rfl rfl rfl (by decide) (fun u_2 H locs hq_5 hP hD hS => ?_)
    have hP : va_P G.1 vwCl [(x, .inr (10, [.ref ro, .ref rw, .ref bo, .ref li, .ref sh, .ref tx, .ref lo, .ref nl])), (li, .inr (3, [lx0, lx1, lx2, .int (iz (0))]))] H := hP
    have hD : va_D A [(x, .inr (10, [.ref ro, .ref rw, .ref bo, .ref li, .ref sh, .ref tx, .ref lo, .ref nl])), (li, .inr (3, [lx0, lx1, lx2, .int (iz (0))]))] := hD
    refine lv_aload_n hx hb dX9_reserve_12 rfl (lv_at hl 0 rfl) ?_
    refine lv_iload_n hx hb dX9_reserve_13 rfl (lv_at hl 1 rfl) ?_
    refine lv_lload_n hx hb dX9_reserve_14 rfl (lv_at hl 3 rfl) ?_
    refine lv_iload hx hb dX9_reserve_15 (lv_at hl 4 rfl) ?_
    rw [hQ]
    exact zx_thr (X := "java/lang/IllegalArgumentException") (vx_runV (As := [.int (iz (ag)), .long (lz (mo)), .int (iz (po))]) (rest := []) ⟨hx, hb, hml, hown, hts⟩ (c_X9_demandInsured_x1 l G s1 s2 s3 x ro rw bo li sh tx lo nl lx0 lx1 lx2 ag mo po hl0 (by omega) (by omega) (by omega) (by omega) H.size) (cwV 3 hts gX9_reserve_X9_demandInsured rfl rfl rfl (by decide +kernel) ⟨Nat.le_of_ble_eq_true rfl, Nat.le_of_ble_eq_true rfl⟩) (zpVe zXE_ok hE hS hA hKX hP hD [0, 1] rfl rfl (va_recv hK hP (ci := 10) (q0 := 0) rfl rfl)) rfl rfl hl.1 rfl (lv_room (Nat.le_of_ble_eq_true rfl)) dX9_reserve_17 ⟨(by first | exact Nat.le_of_ble_eq_true rfl | (show _ ≤ (1 : Nat); omega)), (by first | exact Nat.le_of_ble_eq_true rfl | (show _ ≤ (6 : Nat); omega))⟩) hS (va_free (wc := [(x, .inr (10, [.ref ro, .ref rw, .ref bo, .ref li, .ref sh, .ref tx, .ref lo, .ref nl])), (li, .inr (3, [lx0, lx1, lx2, .int (iz (0))]))]) hD hS hA [0, 1] rfl) hout hlocks (by first | exact Nat.le_of_ble_eq_true rfl | omega) (by first | exact Nat.le_of_ble_eq_true rfl | omega)

def rm_c_X9_reserve_x2 : Room := { frames := 8, cells := 1, slots := 6, locals := 134 }
set_option maxHeartbeats 1000000 in
set_option maxRecDepth 100000 in
theorem c_X9_reserve_x2 (l : Launch) (G : zG) (s1 : Nat) (s2 : Nat) (s3 : Nat) (x : Nat) (ro : Nat) (rw : Nat) (bo : Nat) (li : Nat) (sh : Nat) (tx : Nat) (lo : Nat) (nl : Nat) (lx0 : Value) (lx1 : Value) (lx2 : Value) (ag : Int) (ye : Int) (mo : Int) (po : Int) (ib : Bool) (hl0 : l.stackTraces = false) (h0 : -2147483648 ≤ ag ∧ ag < 2147483648) (h00 : -2147483648 ≤ ye ∧ ye < 2147483648) (h01 : -9223372036854775808 ≤ mo ∧ mo < 9223372036854775808) (h02 : -2147483648 ≤ po ∧ po < 2147483648) (h1 : 0 ≤ ye ∧ 0 ≤ mo ∧ mo ≤ 1000000000 ∧ 0 ≤ po ∧ po ≤ 20000) : zMx l (zXE s1 s2 s3) G yX9_reserve wsX9_reserve rm_c_X9_reserve_x2 [.ref x, .int (iz (ag)), .int (iz (ye)), .long (lz (mo)), .int (iz (po)), .int (iz (zbb ib))] [(x, .inr (10, [.ref ro, .ref rw, .ref bo, .ref li, .ref sh, .ref tx, .ref lo, .ref nl])), (li, .inr (3, [lx0, lx1, lx2, .int (iz (0))]))] "java/util/NoSuchElementException" 1 6 := by
  refine zMx_of (cc := cX9_reserve) (maxL := 7) (ret := (some .long)) (by decide) rfl (Nat.le_of_ble_eq_true rfl) ?_
  intro p e s m below meth c ls A Q hQ hx hb hr hts hown hlocks hml hout hKX hE hP hD hA hS hl
  have hK := hKX.1
  obtain ⟨H, hH⟩ : ∃ h, h = s.heap := ⟨_, rfl⟩
  obtain ⟨locs, hlo⟩ : ∃ h : List Loc, h = [] := ⟨_, rfl⟩
  have hS : va_S A s.heap H locs := by rw [hH, hlo]; exact hS
  have hP : va_P G.1 vwCl [(x, .inr (10, [.ref ro, .ref rw, .ref bo, .ref li, .ref sh, .ref tx, .ref lo, .ref nl])), (li, .inr (3, [lx0, lx1, lx2, .int (iz (0))]))] H := by rw [hH]; exact hP
  have hD : va_D A [(x, .inr (10, [.ref ro, .ref rw, .ref bo, .ref li, .ref sh, .ref tx, .ref lo, .ref nl])), (li, .inr (3, [lx0, lx1, lx2, .int (iz (0))]))] := hD
  have hl : lv_has ls 7 [(0, .ref x), (1, .int (iz (ag))), (2, .int (iz (ye))), (3, .long (lz (mo))), (5, .int (iz (po))), (6, .int (iz (zbb ib)))] := hl
  rw [← hH, ← hlo]
  refine lv_iload_n hx hb dX9_reserve_0 rfl (lv_at hl 2 rfl) ?_
  refine zr_if_lt (x := ye) (tgt := 8) hx hb (⟨by omega, by omega⟩) dX9_reserve_1 (by decide) (fun h_1 => ?_) (fun h_1 => ?_)
  · exact absurd h_1 (by omega)
  ·
    refine lv_iconst (v := iz (1)) hx hb dX9_reserve_4 rfl ?_
    refine lv_goto (tgt := 9) hx hb dX9_reserve_5 (by decide) ?_
    refine zc_v (wr := [(x, .inr (10, [.ref ro, .ref rw, .ref bo, .ref li, .ref sh, .ref tx, .ref lo, .ref nl])), (li, .inr (3, [lx0, lx1, lx2, .int (iz (0))]))]) (va_runS (As := [.int (iz (1))]) (rest := []) ⟨hx, hb, hml, hown, hts⟩ (c_X9_demand_o l G   H.size) (va_cwS 1 hts gX9_reserve_X9_demand rfl rfl rfl (by decide +kernel) ⟨Nat.le_of_ble_eq_true rfl, Nat.le_of_ble_eq_true rfl⟩) (zpS hKX hP hD [] rfl rfl) rfl rfl hl.1 rfl (lv_room (Nat.le_of_ble_eq_true rfl)) dX9_reserve_9 ⟨(by first | exact Nat.le_of_ble_eq_true rfl | (show _ ≤ (1 : Nat); omega)), (by first | exact Nat.le_of_ble_eq_true rfl | (show _ ≤ (6 : Nat); omega))⟩) hP hD hS hA [] [0, 1] rfl rfl rfl (by decide) (fun u_2 H locs hq_5 hP hD hS => ?_)
    have hP : va_P G.1 vwCl [(x, .inr (10, [.ref ro, .ref rw, .ref bo, .ref li, .ref sh, .ref tx, .ref lo, .ref nl])), (li, .inr (3, [lx0, lx1, lx2, .int (iz (0))]))] H := hP
    have hD : va_D A [(x, .inr (10, [.ref ro, .ref rw, .ref bo, .ref li, .ref sh, .ref tx, .ref lo, .ref nl])), (li, .inr (3, [lx0, lx1, lx2, .int (iz (0))]))] := hD
    refine lv_aload_n hx hb dX9_reserve_12 rfl (lv_at hl 0 rfl) ?_
    refine lv_iload_n hx hb dX9_reserve_13 rfl (lv_at hl 1 rfl) ?_
    refine lv_lload_n hx hb dX9_reserve_14 rfl (lv_at hl 3 rfl) ?_
    refine lv_iload hx hb dX9_reserve_15 (lv_at hl 4 rfl) ?_
    rw [hQ]
    exact zx_thr (X := "java/util/NoSuchElementException") (vx_runV (As := [.int (iz (ag)), .long (lz (mo)), .int (iz (po))]) (rest := []) ⟨hx, hb, hml, hown, hts⟩ (c_X9_demandInsured_x2 l G s1 s2 s3 x ro rw bo li sh tx lo nl lx0 lx1 lx2 ag mo po hl0 (by omega) (by omega) (by omega) (by omega) H.size) (cwV 3 hts gX9_reserve_X9_demandInsured rfl rfl rfl (by decide +kernel) ⟨Nat.le_of_ble_eq_true rfl, Nat.le_of_ble_eq_true rfl⟩) (zpVe zXE_ok hE hS hA hKX hP hD [0, 1] rfl rfl (va_recv hK hP (ci := 10) (q0 := 0) rfl rfl)) rfl rfl hl.1 rfl (lv_room (Nat.le_of_ble_eq_true rfl)) dX9_reserve_17 ⟨(by first | exact Nat.le_of_ble_eq_true rfl | (show _ ≤ (1 : Nat); omega)), (by first | exact Nat.le_of_ble_eq_true rfl | (show _ ≤ (6 : Nat); omega))⟩) hS (va_free (wc := [(x, .inr (10, [.ref ro, .ref rw, .ref bo, .ref li, .ref sh, .ref tx, .ref lo, .ref nl])), (li, .inr (3, [lx0, lx1, lx2, .int (iz (0))]))]) hD hS hA [0, 1] rfl) hout hlocks (by first | exact Nat.le_of_ble_eq_true rfl | omega) (by first | exact Nat.le_of_ble_eq_true rfl | omega)
