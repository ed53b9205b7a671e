-- THE LAW'S WRAPPERS (laid by wip/walk/xL.py)
def rm_c_L_holiday : Room := { frames := 9, cells := 1, slots := 6, locals := 152 }
set_option maxHeartbeats 1000000 in
set_option maxRecDepth 100000 in
theorem c_L_holiday (l : Launch) (G : zG) (s1 : Nat) (s2 : Nat) (s3 : Nat) (x : Nat) (ro : Nat) (rw : Nat) (bo : Nat) (li : Nat) (sh : Nat) (tx : Nat) (lo : Nat) (nl : Nat) (lw0 : Value) (lw1 : Value) (lw2 : Value) (lw3 : Value) (lw4 : Value) (lw5 : Value) (rws : Int) (a1 : Int) (ou : Nat) (fo : Int → Int) (hl0 : l.stackTraces = false) : zMe l (zXL s1 s2 s3) G yL_holiday wsL_holiday rm_c_L_holiday [.ref x, .int (iz (a1)), .ref ou] [(x, .inr (10, [.ref ro, .ref rw, .ref bo, .ref li, .ref sh, .ref tx, .ref lo, .ref nl])), (lo, .inr (4, [lw0, lw1, lw2, lw3, lw4, lw5, .int (iz (0)), .int (iz (rws))])), (ou, zaL (G.2 0) 1 (fo))] (fun A => zQi G (fun (z : Int) (_ : Unit) => z = 2) (fun (_ : Unit) => [(ou, zaL (G.2 0) 1 (fo))]) A) 1 6 := by
  refine zMeW_of (cc := cL_holiday) (maxL := 4) (ret := (some .int)) (by decide) rfl (Nat.le_of_ble_eq_true rfl) ?_
  intro p e s m below meth c ls A Q hQ hx hb hr hts hown hlocks hml hnm htab hKX hE hP hD hA hS hl
  have hK := hKX.1
  obtain ⟨H, hH⟩ : ∃ h, h = s.heap := ⟨_, rfl⟩
  obtain ⟨locs, hlo⟩ : ∃ h : List Loc, h = [] := ⟨_, rfl⟩
  have hS : va_S A s.heap H locs := by rw [hH, hlo]; exact hS
  have hP : va_P G.1 vwCl [(x, .inr (10, [.ref ro, .ref rw, .ref bo, .ref li, .ref sh, .ref tx, .ref lo, .ref nl])), (lo, .inr (4, [lw0, lw1, lw2, lw3, lw4, lw5, .int (iz (0)), .int (iz (rws))])), (ou, zaL (G.2 0) 1 (fo))] H := by rw [hH]; exact hP
  have hD : va_D A [(x, .inr (10, [.ref ro, .ref rw, .ref bo, .ref li, .ref sh, .ref tx, .ref lo, .ref nl])), (lo, .inr (4, [lw0, lw1, lw2, lw3, lw4, lw5, .int (iz (0)), .int (iz (rws))])), (ou, zaL (G.2 0) 1 (fo))] := hD
  have hl : lv_has ls 4 [(0, .ref x), (1, .int (iz (a1))), (2, .ref ou)] := hl
  rw [← hH, ← hlo]
  refine lv_aload_n hx hb dL_holiday_0 rfl (lv_at hl 2 rfl) ?_
  refine lv_iconst (v := iz (0)) hx hb dL_holiday_1 rfl ?_
  refine lv_aload_n hx hb dL_holiday_2 rfl (lv_at hl 0 rfl) ?_
  refine lv_iload_n hx hb dL_holiday_3 rfl (lv_at hl 1 rfl) ?_
  refine zx_call (X := "java/lang/IllegalStateException") (AX := va_A [(x, .inr (10, [.ref ro, .ref rw, .ref bo, .ref li, .ref sh, .ref tx, .ref lo, .ref nl])), (lo, .inr (4, [lw0, lw1, lw2, lw3, lw4, lw5, .int (iz (0)), .int (iz (rws))]))] H.size) (fun _ _ _ h => h) (vx_runV (As := [.int (iz (a1))]) (rest := [.int (iz (0)), .ref ou]) ⟨hx, hb, hml, hown, hts⟩ (c_X9_holiday l G s1 s2 s3 x ro rw bo li sh tx lo nl lw0 lw1 lw2 lw3 lw4 lw5 rws a1 hl0 H.size) (cwV 1 hts gL_holiday_X9_holiday rfl rfl rfl (by decide +kernel) ⟨Nat.le_of_ble_eq_true rfl, Nat.le_of_ble_eq_true rfl⟩) (zpVe zXE_ok hE.1 hS hA hKX hP hD [0, 1] rfl rfl (va_recv hK hP (ci := 10) (q0 := 0) rfl rfl)) rfl rfl hl.1 rfl (lv_room (Nat.le_of_ble_eq_true rfl)) dL_holiday_4 ⟨(by first | exact Nat.le_of_ble_eq_true rfl | (show _ ≤ (1 : Nat); omega)), (by first | exact Nat.le_of_ble_eq_true rfl | (show _ ≤ (6 : Nat); omega))⟩) hS (va_free (wc := [(x, .inr (10, [.ref ro, .ref rw, .ref bo, .ref li, .ref sh, .ref tx, .ref lo, .ref nl])), (lo, .inr (4, [lw0, lw1, lw2, lw3, lw4, lw5, .int (iz (0)), .int (iz (rws))]))]) hD hS hA [0, 1] rfl) (fun aq_ _ ah_ => (va_free (wc := [(x, .inr (10, [.ref ro, .ref rw, .ref bo, .ref li, .ref sh, .ref tx, .ref lo, .ref nl])), (lo, .inr (4, [lw0, lw1, lw2, lw3, lw4, lw5, .int (iz (0)), .int (iz (rws))]))]) hD hS hA [0, 1] rfl) aq_ ah_) (fun ce q9 H1 locs1 hsz9 hk9 hS1 hce hcv hcl => ?_)
  obtain ⟨hP1, hD1⟩ := va_join (wr := [(ou, zaL (G.2 0) 1 (fo))]) (w1 := []) hP hD [0, 1] [2] rfl rfl rfl (by decide) hk9 (va_free (wc := [(x, .inr (10, [.ref ro, .ref rw, .ref bo, .ref li, .ref sh, .ref tx, .ref lo, .ref nl])), (lo, .inr (4, [lw0, lw1, lw2, lw3, lw4, lw5, .int (iz (0)), .int (iz (rws))]))]) hD hS hA [0, 1] rfl) (fun k q h => by cases h) zD_nil
  refine vx_catch hown [(⟨0, 16, 19, 13⟩ : ExceptionTableEntry)] (⟨0, 16, 22, 19⟩ : ExceptionTableEntry) [] (htab.trans rfl) (List.forall_mem_cons.mpr ⟨Or.inr ⟨by decide, "java/lang/IllegalArgumentException", hts (.classLink RL 13 "java/lang/IllegalArgumentException") (by decide +kernel), hE.2.1⟩, (fun _ h => nomatch h)⟩) (by decide) (by decide) (hts (.classLink RL 19 "java/lang/IllegalStateException") (by decide +kernel)) (va_Nw.use rfl (hKX.2.2.2 (.castable "java/lang/IllegalStateException" "java/lang/IllegalStateException") (by decide +kernel))) hce hcv hcl ?_
  have hP : va_P G.1 vwCl [(ou, zaL (G.2 0) 1 (fo))] H1 := (List.append_nil [(ou, zaL (G.2 0) 1 (fo))]) ▸ hP1
  have hD : va_D A [(ou, zaL (G.2 0) 1 (fo))] := (List.append_nil [(ou, zaL (G.2 0) 1 (fo))]) ▸ hD1
  have hS := hS1
  show W p l e rm_c_L_holiday s m ([.ref x, .int (iz (a1)), .ref ou] : List Value).toArray below meth c H1 locs1 (0 + 1) (0 + 6) Q (F0 m 22 ls [.ref q9])
  refine lv_astore_n (lv' := [(3, .ref q9), (0, .ref x), (1, .int (iz (a1))), (2, .ref ou)]) hx hb dL_holiday_22 rfl hl (by decide) rfl (fun ls hl => ?_)
  refine lv_iconst (v := iz (2)) hx hb dL_holiday_23 rfl ?_
  rw [hQ]
  exact zr_iret (z := 2) (u := ()) hx hb hr hlocks hP hD hS (by first | exact Nat.le_of_ble_eq_true rfl | omega) (by first | exact Nat.le_of_ble_eq_true rfl | omega) dL_holiday_24 (show 2 = 2 from rfl)

def rm_c_L_change : Room := { frames := 9, cells := 1, slots := 6, locals := 152 }
set_option maxHeartbeats 1000000 in
set_option maxRecDepth 100000 in
theorem c_L_change (l : Launch) (G : zG) (s1 : Nat) (s2 : Nat) (s3 : Nat) (x : Nat) (ro : Nat) (rw : Nat) (bo : Nat) (li : Nat) (sh : Nat) (tx : Nat) (lo : Nat) (nl : Nat) (lw0 : Value) (lw1 : Value) (lw2 : Value) (lw3 : Value) (lw4 : Value) (lw5 : Value) (rws : Int) (a1 : Int) (a2 : Int) (ou : Nat) (fo : Int → Int) (hl0 : l.stackTraces = false) : zMe l (zXL s1 s2 s3) G yL_change wsL_change rm_c_L_change [.ref x, .int (iz (a1)), .int (iz (a2)), .ref ou] [(x, .inr (10, [.ref ro, .ref rw, .ref bo, .ref li, .ref sh, .ref tx, .ref lo, .ref nl])), (lo, .inr (4, [lw0, lw1, lw2, lw3, lw4, lw5, .int (iz (0)), .int (iz (rws))])), (ou, zaL (G.2 0) 1 (fo))] (fun A => zQi G (fun (z : Int) (_ : Unit) => z = 2) (fun (_ : Unit) => [(ou, zaL (G.2 0) 1 (fo))]) A) 1 6 := by
  refine zMeW_of (cc := cL_change) (maxL := 5) (ret := (some .int)) (by decide) rfl (Nat.le_of_ble_eq_true rfl) ?_
  intro p e s m below meth c ls A Q hQ hx hb hr hts hown hlocks hml hnm htab hKX hE hP hD hA hS hl
  have hK := hKX.1
  obtain ⟨H, hH⟩ : ∃ h, h = s.heap := ⟨_, rfl⟩
  obtain ⟨locs, hlo⟩ : ∃ h : List Loc, h = [] := ⟨_, rfl⟩
  have hS : va_S A s.heap H locs := by rw [hH, hlo]; exact hS
  have hP : va_P G.1 vwCl [(x, .inr (10, [.ref ro, .ref rw, .ref bo, .ref li, .ref sh, .ref tx, .ref lo, .ref nl])), (lo, .inr (4, [lw0, lw1, lw2, lw3, lw4, lw5, .int (iz (0)), .int (iz (rws))])), (ou, zaL (G.2 0) 1 (fo))] H := by rw [hH]; exact hP
  have hD : va_D A [(x, .inr (10, [.ref ro, .ref rw, .ref bo, .ref li, .ref sh, .ref tx, .ref lo, .ref nl])), (lo, .inr (4, [lw0, lw1, lw2, lw3, lw4, lw5, .int (iz (0)), .int (iz (rws))])), (ou, zaL (G.2 0) 1 (fo))] := hD
  have hl : lv_has ls 5 [(0, .ref x), (1, .int (iz (a1))), (2, .int (iz (a2))), (3, .ref ou)] := hl
  rw [← hH, ← hlo]
  refine lv_aload_n hx hb dL_change_0 rfl (lv_at hl 3 rfl) ?_
  refine lv_iconst (v := iz (0)) hx hb dL_change_1 rfl ?_
  refine lv_aload_n hx hb dL_change_2 rfl (lv_at hl 0 rfl) ?_
  refine lv_iload_n hx hb dL_change_3 rfl (lv_at hl 1 rfl) ?_
  refine lv_iload_n hx hb dL_change_4 rfl (lv_at hl 2 rfl) ?_
  refine zx_call (X := "java/lang/IllegalStateException") (AX := va_A [(x, .inr (10, [.ref ro, .ref rw, .ref bo, .ref li, .ref sh, .ref tx, .ref lo, .ref nl])), (lo, .inr (4, [lw0, lw1, lw2, lw3, lw4, lw5, .int (iz (0)), .int (iz (rws))]))] H.size) (fun _ _ _ h => h) (vx_runV (As := [.int (iz (a1)), .int (iz (a2))]) (rest := [.int (iz (0)), .ref ou]) ⟨hx, hb, hml, hown, hts⟩ (c_X9_change l G s1 s2 s3 x ro rw bo li sh tx lo nl lw0 lw1 lw2 lw3 lw4 lw5 rws a1 a2 hl0 H.size) (cwV 2 hts gL_change_X9_change rfl rfl rfl (by decide +kernel) ⟨Nat.le_of_ble_eq_true rfl, Nat.le_of_ble_eq_true rfl⟩) (zpVe zXE_ok hE.1 hS hA hKX hP hD [0, 1] rfl rfl (va_recv hK hP (ci := 10) (q0 := 0) rfl rfl)) rfl rfl hl.1 rfl (lv_room (Nat.le_of_ble_eq_true rfl)) dL_change_5 ⟨(by first | exact Nat.le_of_ble_eq_true rfl | (show _ ≤ (1 : Nat); omega)), (by first | exact Nat.le_of_ble_eq_true rfl | (show _ ≤ (6 : Nat); omega))⟩) hS (va_free (wc := [(x, .inr (10, [.ref ro, .ref rw, .ref bo, .ref li, .ref sh, .ref tx, .ref lo, .ref nl])), (lo, .inr (4, [lw0, lw1, lw2, lw3, lw4, lw5, .int (iz (0)), .int (iz (rws))]))]) hD hS hA [0, 1] rfl) (fun aq_ _ ah_ => (va_free (wc := [(x, .inr (10, [.ref ro, .ref rw, .ref bo, .ref li, .ref sh, .ref tx, .ref lo, .ref nl])), (lo, .inr (4, [lw0, lw1, lw2, lw3, lw4, lw5, .int (iz (0)), .int (iz (rws))]))]) hD hS hA [0, 1] rfl) aq_ ah_) (fun ce q9 H1 locs1 hsz9 hk9 hS1 hce hcv hcl => ?_)
  obtain ⟨hP1, hD1⟩ := va_join (wr := [(ou, zaL (G.2 0) 1 (fo))]) (w1 := []) hP hD [0, 1] [2] rfl rfl rfl (by decide) hk9 (va_free (wc := [(x, .inr (10, [.ref ro, .ref rw, .ref bo, .ref li, .ref sh, .ref tx, .ref lo, .ref nl])), (lo, .inr (4, [lw0, lw1, lw2, lw3, lw4, lw5, .int (iz (0)), .int (iz (rws))]))]) hD hS hA [0, 1] rfl) (fun k q h => by cases h) zD_nil
  refine vx_catch hown [(⟨0, 10, 13, 13⟩ : ExceptionTableEntry)] (⟨0, 10, 17, 19⟩ : ExceptionTableEntry) [] (htab.trans rfl) (List.forall_mem_cons.mpr ⟨Or.inr ⟨by decide, "java/lang/IllegalArgumentException", hts (.classLink RL 13 "java/lang/IllegalArgumentException") (by decide +kernel), hE.2.1⟩, (fun _ h => nomatch h)⟩) (by decide) (by decide) (hts (.classLink RL 19 "java/lang/IllegalStateException") (by decide +kernel)) (va_Nw.use rfl (hKX.2.2.2 (.castable "java/lang/IllegalStateException" "java/lang/IllegalStateException") (by decide +kernel))) hce hcv hcl ?_
  have hP : va_P G.1 vwCl [(ou, zaL (G.2 0) 1 (fo))] H1 := (List.append_nil [(ou, zaL (G.2 0) 1 (fo))]) ▸ hP1
  have hD : va_D A [(ou, zaL (G.2 0) 1 (fo))] := (List.append_nil [(ou, zaL (G.2 0) 1 (fo))]) ▸ hD1
  have hS := hS1
  show W p l e rm_c_L_change s m ([.ref x, .int (iz (a1)), .int (iz (a2)), .ref ou] : List Value).toArray below meth c H1 locs1 (0 + 1) (0 + 6) Q (F0 m 17 ls [.ref q9])
  refine lv_astore (lv' := [(4, .ref q9), (0, .ref x), (1, .int (iz (a1))), (2, .int (iz (a2))), (3, .ref ou)]) hx hb dL_change_17 hl (by decide) rfl (fun ls hl => ?_)
  refine lv_iconst (v := iz (2)) hx hb dL_change_19 rfl ?_
  rw [hQ]
  exact zr_iret (z := 2) (u := ()) hx hb hr hlocks hP hD hS (by first | exact Nat.le_of_ble_eq_true rfl | omega) (by first | exact Nat.le_of_ble_eq_true rfl | omega) dL_change_20 (show 2 = 2 from rfl)

def rm_c_L_early : Room := { frames := 9, cells := 1, slots := 6, locals := 153 }
set_option maxHeartbeats 1000000 in
set_option maxRecDepth 100000 in
theorem c_L_early (l : Launch) (G : zG) (s1 : Nat) (s2 : Nat) (s3 : Nat) (x : Nat) (ro : Nat) (rw : Nat) (bo : Nat) (li : Nat) (sh : Nat) (tx : Nat) (lo : Nat) (nl : Nat) (lw0 : Value) (lw1 : Value) (lw2 : Value) (lw3 : Value) (lw4 : Value) (lw5 : Value) (rws : Int) (a1 : Int) (a2 : Int) (ou : Nat) (fo : Int → Int) (hl0 : l.stackTraces = false) : zMe l (zXL s1 s2 s3) G yL_early wsL_early rm_c_L_early [.ref x, .int (iz (a1)), .long (lz (a2)), .ref ou] [(x, .inr (10, [.ref ro, .ref rw, .ref bo, .ref li, .ref sh, .ref tx, .ref lo, .ref nl])), (lo, .inr (4, [lw0, lw1, lw2, lw3, lw4, lw5, .int (iz (0)), .int (iz (rws))])), (ou, zaL (G.2 0) 1 (fo))] (fun A => zQi G (fun (z : Int) (_ : Unit) => z = 2) (fun (_ : Unit) => [(ou, zaL (G.2 0) 1 (fo))]) A) 1 6 := by
  refine zMeW_of (cc := cL_early) (maxL := 6) (ret := (some .int)) (by decide) rfl (Nat.le_of_ble_eq_true rfl) ?_
  intro p e s m below meth c ls A Q hQ hx hb hr hts hown hlocks hml hnm htab hKX hE hP hD hA hS hl
  have hK := hKX.1
  obtain ⟨H, hH⟩ : ∃ h, h = s.heap := ⟨_, rfl⟩
  obtain ⟨locs, hlo⟩ : ∃ h : List Loc, h = [] := ⟨_, rfl⟩
  have hS : va_S A s.heap H locs := by rw [hH, hlo]; exact hS
  have hP : va_P G.1 vwCl [(x, .inr (10, [.ref ro, .ref rw, .ref bo, .ref li, .ref sh, .ref tx, .ref lo, .ref nl])), (lo, .inr (4, [lw0, lw1, lw2, lw3, lw4, lw5, .int (iz (0)), .int (iz (rws))])), (ou, zaL (G.2 0) 1 (fo))] H := by rw [hH]; exact hP
  have hD : va_D A [(x, .inr (10, [.ref ro, .ref rw, .ref bo, .ref li, .ref sh, .ref tx, .ref lo, .ref nl])), (lo, .inr (4, [lw0, lw1, lw2, lw3, lw4, lw5, .int (iz (0)), .int (iz (rws))])), (ou, zaL (G.2 0) 1 (fo))] := hD
  have hl : lv_has ls 6 [(0, .ref x), (1, .int (iz (a1))), (2, .long (lz (a2))), (4, .ref ou)] := hl
  rw [← hH, ← hlo]
  refine lv_aload hx hb dL_early_0 (lv_at hl 3 rfl) ?_
  refine lv_iconst (v := iz (0)) hx hb dL_early_2 rfl ?_
  refine lv_aload_n hx hb dL_early_3 rfl (lv_at hl 0 rfl) ?_
  refine lv_iload_n hx hb dL_early_4 rfl (lv_at hl 1 rfl) ?_
  refine lv_lload_n hx hb dL_early_5 rfl (lv_at hl 2 rfl) ?_
  refine zx_call (X := "java/lang/IllegalStateException") (AX := va_A [(x, .inr (10, [.ref ro, .ref rw, .ref bo, .ref li, .ref sh, .ref tx, .ref lo, .ref nl])), (lo, .inr (4, [lw0, lw1, lw2, lw3, lw4, lw5, .int (iz (0)), .int (iz (rws))]))] H.size) (fun _ _ _ h => h) (vx_runV (As := [.int (iz (a1)), .long (lz (a2))]) (rest := [.int (iz (0)), .ref ou]) ⟨hx, hb, hml, hown, hts⟩ (c_X9_early l G s1 s2 s3 x ro rw bo li sh tx lo nl lw0 lw1 lw2 lw3 lw4 lw5 rws a1 a2 hl0 H.size) (cwV 2 hts gL_early_X9_early rfl rfl rfl (by decide +kernel) ⟨Nat.le_of_ble_eq_true rfl, Nat.le_of_ble_eq_true rfl⟩) (zpVe zXE_ok hE.1 hS hA hKX hP hD [0, 1] rfl rfl (va_recv hK hP (ci := 10) (q0 := 0) rfl rfl)) rfl rfl hl.1 rfl (lv_room (Nat.le_of_ble_eq_true rfl)) dL_early_6 ⟨(by first | exact Nat.le_of_ble_eq_true rfl | (show _ ≤ (1 : Nat); omega)), (by first | exact Nat.le_of_ble_eq_true rfl | (show _ ≤ (6 : Nat); omega))⟩) hS (va_free (wc := [(x, .inr (10, [.ref ro, .ref rw, .ref bo, .ref li, .ref sh, .ref tx, .ref lo, .ref nl])), (lo, .inr (4, [lw0, lw1, lw2, lw3, lw4, lw5, .int (iz (0)), .int (iz (rws))]))]) hD hS hA [0, 1] rfl) (fun aq_ _ ah_ => (va_free (wc := [(x, .inr (10, [.ref ro, .ref rw, .ref bo, .ref li, .ref sh, .ref tx, .ref lo, .ref nl])), (lo, .inr (4, [lw0, lw1, lw2, lw3, lw4, lw5, .int (iz (0)), .int (iz (rws))]))]) hD hS hA [0, 1] rfl) aq_ ah_) (fun ce q9 H1 locs1 hsz9 hk9 hS1 hce hcv hcl => ?_)
  obtain ⟨hP1, hD1⟩ := va_join (wr := [(ou, zaL (G.2 0) 1 (fo))]) (w1 := []) hP hD [0, 1] [2] rfl rfl rfl (by decide) hk9 (va_free (wc := [(x, .inr (10, [.ref ro, .ref rw, .ref bo, .ref li, .ref sh, .ref tx, .ref lo, .ref nl])), (lo, .inr (4, [lw0, lw1, lw2, lw3, lw4, lw5, .int (iz (0)), .int (iz (rws))]))]) hD hS hA [0, 1] rfl) (fun k q h => by cases h) zD_nil
  refine vx_catch hown [(⟨0, 11, 14, 13⟩ : ExceptionTableEntry)] (⟨0, 11, 18, 19⟩ : ExceptionTableEntry) [] (htab.trans rfl) (List.forall_mem_cons.mpr ⟨Or.inr ⟨by decide, "java/lang/IllegalArgumentException", hts (.classLink RL 13 "java/lang/IllegalArgumentException") (by decide +kernel), hE.2.1⟩, (fun _ h => nomatch h)⟩) (by decide) (by decide) (hts (.classLink RL 19 "java/lang/IllegalStateException") (by decide +kernel)) (va_Nw.use rfl (hKX.2.2.2 (.castable "java/lang/IllegalStateException" "java/lang/IllegalStateException") (by decide +kernel))) hce hcv hcl ?_
  have hP : va_P G.1 vwCl [(ou, zaL (G.2 0) 1 (fo))] H1 := (List.append_nil [(ou, zaL (G.2 0) 1 (fo))]) ▸ hP1
  have hD : va_D A [(ou, zaL (G.2 0) 1 (fo))] := (List.append_nil [(ou, zaL (G.2 0) 1 (fo))]) ▸ hD1
  have hS := hS1
  show W p l e rm_c_L_early s m ([.ref x, .int (iz (a1)), .long (lz (a2)), .ref ou] : List Value).toArray below meth c H1 locs1 (0 + 1) (0 + 6) Q (F0 m 18 ls [.ref q9])
  refine lv_astore (lv' := [(5, .ref q9), (0, .ref x), (1, .int (iz (a1))), (2, .long (lz (a2))), (4, .ref ou)]) hx hb dL_early_18 hl (by decide) rfl (fun ls hl => ?_)
  refine lv_iconst (v := iz (2)) hx hb dL_early_20 rfl ?_
  rw [hQ]
  exact zr_iret (z := 2) (u := ()) hx hb hr hlocks hP hD hS (by first | exact Nat.le_of_ble_eq_true rfl | omega) (by first | exact Nat.le_of_ble_eq_true rfl | omega) dL_early_21 (show 2 = 2 from rfl)

def rm_c_L_rows : Room := { frames := 9, cells := 1, slots := 6, locals := 150 }
set_option maxHeartbeats 1000000 in
set_option maxRecDepth 100000 in
theorem c_L_rows (l : Launch) (G : zG) (s1 : Nat) (s2 : Nat) (s3 : Nat) (x : Nat) (ro : Nat) (rw : Nat) (bo : Nat) (li : Nat) (sh : Nat) (tx : Nat) (lo : Nat) (nl : Nat) (lw0 : Value) (lw1 : Value) (lw2 : Value) (lw3 : Value) (lw4 : Value) (lw5 : Value) (rws : Int) (ou : Nat) (fo : Int → Int) (hl0 : l.stackTraces = false) : zMe l (zXL s1 s2 s3) G yL_rows wsL_rows rm_c_L_rows [.ref x, .ref ou] [(x, .inr (10, [.ref ro, .ref rw, .ref bo, .ref li, .ref sh, .ref tx, .ref lo, .ref nl])), (lo, .inr (4, [lw0, lw1, lw2, lw3, lw4, lw5, .int (iz (0)), .int (iz (rws))])), (ou, zaL (G.2 0) 1 (fo))] (fun A => zQi G (fun (z : Int) (_ : Unit) => z = 1) (fun (_ : Unit) => [(ou, zaL (G.2 0) 1 (fo))]) A) 1 6 := by
  refine zMeW_of (cc := cL_rows) (maxL := 3) (ret := (some .int)) (by decide) rfl (Nat.le_of_ble_eq_true rfl) ?_
  intro p e s m below meth c ls A Q hQ hx hb hr hts hown hlocks hml hnm htab hKX hE hP hD hA hS hl
  have hK := hKX.1
  obtain ⟨H, hH⟩ : ∃ h, h = s.heap := ⟨_, rfl⟩
  obtain ⟨locs, hlo⟩ : ∃ h : List Loc, h = [] := ⟨_, rfl⟩
  have hS : va_S A s.heap H locs := by rw [hH, hlo]; exact hS
  have hP : va_P G.1 vwCl [(x, .inr (10, [.ref ro, .ref rw, .ref bo, .ref li, .ref sh, .ref tx, .ref lo, .ref nl])), (lo, .inr (4, [lw0, lw1, lw2, lw3, lw4, lw5, .int (iz (0)), .int (iz (rws))])), (ou, zaL (G.2 0) 1 (fo))] H := by rw [hH]; exact hP
  have hD : va_D A [(x, .inr (10, [.ref ro, .ref rw, .ref bo, .ref li, .ref sh, .ref tx, .ref lo, .ref nl])), (lo, .inr (4, [lw0, lw1, lw2, lw3, lw4, lw5, .int (iz (0)), .int (iz (rws))])), (ou, zaL (G.2 0) 1 (fo))] := hD
  have hl : lv_has ls 3 [(0, .ref x), (1, .ref ou)] := hl
  rw [← hH, ← hlo]
  refine lv_aload_n hx hb dL_rows_0 rfl (lv_at hl 1 rfl) ?_
  refine lv_iconst (v := iz (0)) hx hb dL_rows_1 rfl ?_
  refine lv_aload_n hx hb dL_rows_2 rfl (lv_at hl 0 rfl) ?_
  refine zx_call (X := "java/lang/IllegalStateException") (AX := va_A [(x, .inr (10, [.ref ro, .ref rw, .ref bo, .ref li, .ref sh, .ref tx, .ref lo, .ref nl])), (lo, .inr (4, [lw0, lw1, lw2, lw3, lw4, lw5, .int (iz (0)), .int (iz (rws))]))] H.size) (fun _ _ _ h => h) (vx_runV (As := []) (rest := [.int (iz (0)), .ref ou]) ⟨hx, hb, hml, hown, hts⟩ (c_X9_rows l G s1 s2 s3 x ro rw bo li sh tx lo nl lw0 lw1 lw2 lw3 lw4 lw5 rws hl0 H.size) (cwV 0 hts gL_rows_X9_rows rfl rfl rfl (by decide +kernel) ⟨Nat.le_of_ble_eq_true rfl, Nat.le_of_ble_eq_true rfl⟩) (zpVe zXE_ok hE.1 hS hA hKX hP hD [0, 1] rfl rfl (va_recv hK hP (ci := 10) (q0 := 0) rfl rfl)) rfl rfl hl.1 rfl (lv_room (Nat.le_of_ble_eq_true rfl)) dL_rows_3 ⟨(by first | exact Nat.le_of_ble_eq_true rfl | (show _ ≤ (1 : Nat); omega)), (by first | exact Nat.le_of_ble_eq_true rfl | (show _ ≤ (6 : Nat); omega))⟩) hS (va_free (wc := [(x, .inr (10, [.ref ro, .ref rw, .ref bo, .ref li, .ref sh, .ref tx, .ref lo, .ref nl])), (lo, .inr (4, [lw0, lw1, lw2, lw3, lw4, lw5, .int (iz (0)), .int (iz (rws))]))]) hD hS hA [0, 1] rfl) (fun aq_ _ ah_ => (va_free (wc := [(x, .inr (10, [.ref ro, .ref rw, .ref bo, .ref li, .ref sh, .ref tx, .ref lo, .ref nl])), (lo, .inr (4, [lw0, lw1, lw2, lw3, lw4, lw5, .int (iz (0)), .int (iz (rws))]))]) hD hS hA [0, 1] rfl) aq_ ah_) (fun ce q9 H1 locs1 hsz9 hk9 hS1 hce hcv hcl => ?_)
  obtain ⟨hP1, hD1⟩ := va_join (wr := [(ou, zaL (G.2 0) 1 (fo))]) (w1 := []) hP hD [0, 1] [2] rfl rfl rfl (by decide) hk9 (va_free (wc := [(x, .inr (10, [.ref ro, .ref rw, .ref bo, .ref li, .ref sh, .ref tx, .ref lo, .ref nl])), (lo, .inr (4, [lw0, lw1, lw2, lw3, lw4, lw5, .int (iz (0)), .int (iz (rws))]))]) hD hS hA [0, 1] rfl) (fun k q h => by cases h) zD_nil
  refine vx_catch hown [] (⟨0, 8, 11, 19⟩ : ExceptionTableEntry) [] (htab.trans rfl) (fun _ h => nomatch h) (by decide) (by decide) (hts (.classLink RL 19 "java/lang/IllegalStateException") (by decide +kernel)) (va_Nw.use rfl (hKX.2.2.2 (.castable "java/lang/IllegalStateException" "java/lang/IllegalStateException") (by decide +kernel))) hce hcv hcl ?_
  have hP : va_P G.1 vwCl [(ou, zaL (G.2 0) 1 (fo))] H1 := (List.append_nil [(ou, zaL (G.2 0) 1 (fo))]) ▸ hP1
  have hD : va_D A [(ou, zaL (G.2 0) 1 (fo))] := (List.append_nil [(ou, zaL (G.2 0) 1 (fo))]) ▸ hD1
  have hS := hS1
  show W p l e rm_c_L_rows s m ([.ref x, .ref ou] : List Value).toArray below meth c H1 locs1 (0 + 1) (0 + 6) Q (F0 m 11 ls [.ref q9])
  refine lv_astore_n (lv' := [(2, .ref q9), (0, .ref x), (1, .ref ou)]) hx hb dL_rows_11 rfl hl (by decide) rfl (fun ls hl => ?_)
  refine lv_iconst (v := iz (1)) hx hb dL_rows_12 rfl ?_
  rw [hQ]
  exact zr_iret (z := 1) (u := ()) hx hb hr hlocks hP hD hS (by first | exact Nat.le_of_ble_eq_true rfl | omega) (by first | exact Nat.le_of_ble_eq_true rfl | omega) dL_rows_13 (show 1 = 1 from rfl)

def rm_c_L_rowOf : Room := { frames := 9, cells := 1, slots := 6, locals := 152 }
set_option maxHeartbeats 1000000 in
set_option maxRecDepth 100000 in
theorem c_L_rowOf (l : Launch) (G : zG) (s1 : Nat) (s2 : Nat) (s3 : Nat) (x : Nat) (ro : Nat) (rw : Nat) (bo : Nat) (li : Nat) (sh : Nat) (tx : Nat) (lo : Nat) (nl : Nat) (lw0 : Value) (lw1 : Value) (lw2 : Value) (lw3 : Value) (lw4 : Value) (lw5 : Value) (rws : Int) (a1 : Int) (a2 : Int) (ou : Nat) (fo : Int → Int) (hl0 : l.stackTraces = false) : zMe l (zXL s1 s2 s3) G yL_rowOf wsL_rowOf rm_c_L_rowOf [.ref x, .int (iz (a1)), .int (iz (a2)), .ref ou] [(x, .inr (10, [.ref ro, .ref rw, .ref bo, .ref li, .ref sh, .ref tx, .ref lo, .ref nl])), (lo, .inr (4, [lw0, lw1, lw2, lw3, lw4, lw5, .int (iz (0)), .int (iz (rws))])), (ou, zaL (G.2 0) 1 (fo))] (fun A => zQi G (fun (z : Int) (_ : Unit) => z = 3) (fun (_ : Unit) => [(ou, zaL (G.2 0) 1 (fo))]) A) 1 6 := by
  refine zMeW_of (cc := cL_rowOf) (maxL := 5) (ret := (some .int)) (by decide) rfl (Nat.le_of_ble_eq_true rfl) ?_
  intro p e s m below meth c ls A Q hQ hx hb hr hts hown hlocks hml hnm htab hKX hE hP hD hA hS hl
  have hK := hKX.1
  obtain ⟨H, hH⟩ : ∃ h, h = s.heap := ⟨_, rfl⟩
  obtain ⟨locs, hlo⟩ : ∃ h : List Loc, h = [] := ⟨_, rfl⟩
  have hS : va_S A s.heap H locs := by rw [hH, hlo]; exact hS
  have hP : va_P G.1 vwCl [(x, .inr (10, [.ref ro, .ref rw, .ref bo, .ref li, .ref sh, .ref tx, .ref lo, .ref nl])), (lo, .inr (4, [lw0, lw1, lw2, lw3, lw4, lw5, .int (iz (0)), .int (iz (rws))])), (ou, zaL (G.2 0) 1 (fo))] H := by rw [hH]; exact hP
  have hD : va_D A [(x, .inr (10, [.ref ro, .ref rw, .ref bo, .ref li, .ref sh, .ref tx, .ref lo, .ref nl])), (lo, .inr (4, [lw0, lw1, lw2, lw3, lw4, lw5, .int (iz (0)), .int (iz (rws))])), (ou, zaL (G.2 0) 1 (fo))] := hD
  have hl : lv_has ls 5 [(0, .ref x), (1, .int (iz (a1))), (2, .int (iz (a2))), (3, .ref ou)] := hl
  rw [← hH, ← hlo]
  refine lv_aload_n hx hb dL_rowOf_0 rfl (lv_at hl 3 rfl) ?_
  refine lv_iconst (v := iz (0)) hx hb dL_rowOf_1 rfl ?_
  refine lv_aload_n hx hb dL_rowOf_2 rfl (lv_at hl 0 rfl) ?_
  refine lv_iload_n hx hb dL_rowOf_3 rfl (lv_at hl 1 rfl) ?_
  refine lv_iload_n hx hb dL_rowOf_4 rfl (lv_at hl 2 rfl) ?_
  refine zx_call (X := "java/lang/IllegalStateException") (AX := va_A [(x, .inr (10, [.ref ro, .ref rw, .ref bo, .ref li, .ref sh, .ref tx, .ref lo, .ref nl])), (lo, .inr (4, [lw0, lw1, lw2, lw3, lw4, lw5, .int (iz (0)), .int (iz (rws))]))] H.size) (fun _ _ _ h => h) (vx_runV (As := [.int (iz (a1)), .int (iz (a2))]) (rest := [.int (iz (0)), .ref ou]) ⟨hx, hb, hml, hown, hts⟩ (c_X9_rowOf l G s1 s2 s3 x ro rw bo li sh tx lo nl lw0 lw1 lw2 lw3 lw4 lw5 rws a1 a2 hl0 H.size) (cwV 2 hts gL_rowOf_X9_rowOf rfl rfl rfl (by decide +kernel) ⟨Nat.le_of_ble_eq_true rfl, Nat.le_of_ble_eq_true rfl⟩) (zpVe zXE_ok hE.1 hS hA hKX hP hD [0, 1] rfl rfl (va_recv hK hP (ci := 10) (q0 := 0) rfl rfl)) rfl rfl hl.1 rfl (lv_room (Nat.le_of_ble_eq_true rfl)) dL_rowOf_5 ⟨(by first | exact Nat.le_of_ble_eq_true rfl | (show _ ≤ (1 : Nat); omega)), (by first | exact Nat.le_of_ble_eq_true rfl | (show _ ≤ (6 : Nat); omega))⟩) hS (va_free (wc := [(x, .inr (10, [.ref ro, .ref rw, .ref bo, .ref li, .ref sh, .ref tx, .ref lo, .ref nl])), (lo, .inr (4, [lw0, lw1, lw2, lw3, lw4, lw5, .int (iz (0)), .int (iz (rws))]))]) hD hS hA [0, 1] rfl) (fun aq_ _ ah_ => (va_free (wc := [(x, .inr (10, [.ref ro, .ref rw, .ref bo, .ref li, .ref sh, .ref tx, .ref lo, .ref nl])), (lo, .inr (4, [lw0, lw1, lw2, lw3, lw4, lw5, .int (iz (0)), .int (iz (rws))]))]) hD hS hA [0, 1] rfl) aq_ ah_) (fun ce q9 H1 locs1 hsz9 hk9 hS1 hce hcv hcl => ?_)
  obtain ⟨hP1, hD1⟩ := va_join (wr := [(ou, zaL (G.2 0) 1 (fo))]) (w1 := []) hP hD [0, 1] [2] rfl rfl rfl (by decide) hk9 (va_free (wc := [(x, .inr (10, [.ref ro, .ref rw, .ref bo, .ref li, .ref sh, .ref tx, .ref lo, .ref nl])), (lo, .inr (4, [lw0, lw1, lw2, lw3, lw4, lw5, .int (iz (0)), .int (iz (rws))]))]) hD hS hA [0, 1] rfl) (fun k q h => by cases h) zD_nil
  refine vx_catch hown [(⟨0, 9, 12, 13⟩ : ExceptionTableEntry), (⟨0, 9, 16, 66⟩ : ExceptionTableEntry)] (⟨0, 9, 20, 19⟩ : ExceptionTableEntry) [] (htab.trans rfl) (List.forall_mem_cons.mpr ⟨Or.inr ⟨by decide, "java/lang/IllegalArgumentException", hts (.classLink RL 13 "java/lang/IllegalArgumentException") (by decide +kernel), hE.2.1⟩, (List.forall_mem_cons.mpr ⟨Or.inr ⟨by decide, "java/util/NoSuchElementException", hts (.classLink RL 66 "java/util/NoSuchElementException") (by decide +kernel), hE.2.2.1⟩, (fun _ h => nomatch h)⟩)⟩) (by decide) (by decide) (hts (.classLink RL 19 "java/lang/IllegalStateException") (by decide +kernel)) (va_Nw.use rfl (hKX.2.2.2 (.castable "java/lang/IllegalStateException" "java/lang/IllegalStateException") (by decide +kernel))) hce hcv hcl ?_
  have hP : va_P G.1 vwCl [(ou, zaL (G.2 0) 1 (fo))] H1 := (List.append_nil [(ou, zaL (G.2 0) 1 (fo))]) ▸ hP1
  have hD : va_D A [(ou, zaL (G.2 0) 1 (fo))] := (List.append_nil [(ou, zaL (G.2 0) 1 (fo))]) ▸ hD1
  have hS := hS1
  show W p l e rm_c_L_rowOf s m ([.ref x, .int (iz (a1)), .int (iz (a2)), .ref ou] : List Value).toArray below meth c H1 locs1 (0 + 1) (0 + 6) Q (F0 m 20 ls [.ref q9])
  refine lv_astore (lv' := [(4, .ref q9), (0, .ref x), (1, .int (iz (a1))), (2, .int (iz (a2))), (3, .ref ou)]) hx hb dL_rowOf_20 hl (by decide) rfl (fun ls hl => ?_)
  refine lv_iconst (v := iz (3)) hx hb dL_rowOf_22 rfl ?_
  rw [hQ]
  exact zr_iret (z := 3) (u := ()) hx hb hr hlocks hP hD hS (by first | exact Nat.le_of_ble_eq_true rfl | omega) (by first | exact Nat.le_of_ble_eq_true rfl | omega) dL_rowOf_23 (show 3 = 3 from rfl)

def rm_c_L_total : Room := { frames := 9, cells := 1, slots := 6, locals := 151 }
set_option maxHeartbeats 1000000 in
set_option maxRecDepth 100000 in
theorem c_L_total (l : Launch) (G : zG) (s1 : Nat) (s2 : Nat) (s3 : Nat) (x : Nat) (ro : Nat) (rw : Nat) (bo : Nat) (li : Nat) (sh : Nat) (tx : Nat) (lo : Nat) (nl : Nat) (lw0 : Value) (lw1 : Value) (lw2 : Value) (lw3 : Value) (lw4 : Value) (lw5 : Value) (rws : Int) (a1 : Int) (ou : Nat) (fo : Int → Int) (hl0 : l.stackTraces = false) : zMe l (zXL s1 s2 s3) G yL_total wsL_total rm_c_L_total [.ref x, .int (iz (a1)), .ref ou] [(x, .inr (10, [.ref ro, .ref rw, .ref bo, .ref li, .ref sh, .ref tx, .ref lo, .ref nl])), (lo, .inr (4, [lw0, lw1, lw2, lw3, lw4, lw5, .int (iz (0)), .int (iz (rws))])), (ou, zaL (G.2 0) 1 (fo))] (fun A => zQi G (fun (z : Int) (_ : Unit) => z = 2) (fun (_ : Unit) => [(ou, zaL (G.2 0) 1 (fo))]) A) 1 6 := by
  refine zMeW_of (cc := cL_total) (maxL := 4) (ret := (some .int)) (by decide) rfl (Nat.le_of_ble_eq_true rfl) ?_
  intro p e s m below meth c ls A Q hQ hx hb hr hts hown hlocks hml hnm htab hKX hE hP hD hA hS hl
  have hK := hKX.1
  obtain ⟨H, hH⟩ : ∃ h, h = s.heap := ⟨_, rfl⟩
  obtain ⟨locs, hlo⟩ : ∃ h : List Loc, h = [] := ⟨_, rfl⟩
  have hS : va_S A s.heap H locs := by rw [hH, hlo]; exact hS
  have hP : va_P G.1 vwCl [(x, .inr (10, [.ref ro, .ref rw, .ref bo, .ref li, .ref sh, .ref tx, .ref lo, .ref nl])), (lo, .inr (4, [lw0, lw1, lw2, lw3, lw4, lw5, .int (iz (0)), .int (iz (rws))])), (ou, zaL (G.2 0) 1 (fo))] H := by rw [hH]; exact hP
  have hD : va_D A [(x, .inr (10, [.ref ro, .ref rw, .ref bo, .ref li, .ref sh, .ref tx, .ref lo, .ref nl])), (lo, .inr (4, [lw0, lw1, lw2, lw3, lw4, lw5, .int (iz (0)), .int (iz (rws))])), (ou, zaL (G.2 0) 1 (fo))] := hD
  have hl : lv_has ls 4 [(0, .ref x), (1, .int (iz (a1))), (2, .ref ou)] := hl
  rw [← hH, ← hlo]
  refine lv_aload_n hx hb dL_total_0 rfl (lv_at hl 2 rfl) ?_
  refine lv_iconst (v := iz (0)) hx hb dL_total_1 rfl ?_
  refine lv_aload_n hx hb dL_total_2 rfl (lv_at hl 0 rfl) ?_
  refine lv_iload_n hx hb dL_total_3 rfl (lv_at hl 1 rfl) ?_
  refine zx_call (X := "java/lang/IllegalStateException") (AX := va_A [(x, .inr (10, [.ref ro, .ref rw, .ref bo, .ref li, .ref sh, .ref tx, .ref lo, .ref nl])), (lo, .inr (4, [lw0, lw1, lw2, lw3, lw4, lw5, .int (iz (0)), .int (iz (rws))]))] H.size) (fun _ _ _ h => h) (vx_runV (As := [.int (iz (a1))]) (rest := [.int (iz (0)), .ref ou]) ⟨hx, hb, hml, hown, hts⟩ (c_X9_total l G s1 s2 s3 x ro rw bo li sh tx lo nl lw0 lw1 lw2 lw3 lw4 lw5 rws a1 hl0 H.size) (cwV 1 hts gL_total_X9_total rfl rfl rfl (by decide +kernel) ⟨Nat.le_of_ble_eq_true rfl, Nat.le_of_ble_eq_true rfl⟩) (zpVe zXE_ok hE.1 hS hA hKX hP hD [0, 1] rfl rfl (va_recv hK hP (ci := 10) (q0 := 0) rfl rfl)) rfl rfl hl.1 rfl (lv_room (Nat.le_of_ble_eq_true rfl)) dL_total_4 ⟨(by first | exact Nat.le_of_ble_eq_true rfl | (show _ ≤ (1 : Nat); omega)), (by first | exact Nat.le_of_ble_eq_true rfl | (show _ ≤ (6 : Nat); omega))⟩) hS (va_free (wc := [(x, .inr (10, [.ref ro, .ref rw, .ref bo, .ref li, .ref sh, .ref tx, .ref lo, .ref nl])), (lo, .inr (4, [lw0, lw1, lw2, lw3, lw4, lw5, .int (iz (0)), .int (iz (rws))]))]) hD hS hA [0, 1] rfl) (fun aq_ _ ah_ => (va_free (wc := [(x, .inr (10, [.ref ro, .ref rw, .ref bo, .ref li, .ref sh, .ref tx, .ref lo, .ref nl])), (lo, .inr (4, [lw0, lw1, lw2, lw3, lw4, lw5, .int (iz (0)), .int (iz (rws))]))]) hD hS hA [0, 1] rfl) aq_ ah_) (fun ce q9 H1 locs1 hsz9 hk9 hS1 hce hcv hcl => ?_)
  obtain ⟨hP1, hD1⟩ := va_join (wr := [(ou, zaL (G.2 0) 1 (fo))]) (w1 := []) hP hD [0, 1] [2] rfl rfl rfl (by decide) hk9 (va_free (wc := [(x, .inr (10, [.ref ro, .ref rw, .ref bo, .ref li, .ref sh, .ref tx, .ref lo, .ref nl])), (lo, .inr (4, [lw0, lw1, lw2, lw3, lw4, lw5, .int (iz (0)), .int (iz (rws))]))]) hD hS hA [0, 1] rfl) (fun k q h => by cases h) zD_nil
  refine vx_catch hown [(⟨0, 8, 11, 13⟩ : ExceptionTableEntry)] (⟨0, 8, 14, 19⟩ : ExceptionTableEntry) [] (htab.trans rfl) (List.forall_mem_cons.mpr ⟨Or.inr ⟨by decide, "java/lang/IllegalArgumentException", hts (.classLink RL 13 "java/lang/IllegalArgumentException") (by decide +kernel), hE.2.1⟩, (fun _ h => nomatch h)⟩) (by decide) (by decide) (hts (.classLink RL 19 "java/lang/IllegalStateException") (by decide +kernel)) (va_Nw.use rfl (hKX.2.2.2 (.castable "java/lang/IllegalStateException" "java/lang/IllegalStateException") (by decide +kernel))) hce hcv hcl ?_
  have hP : va_P G.1 vwCl [(ou, zaL (G.2 0) 1 (fo))] H1 := (List.append_nil [(ou, zaL (G.2 0) 1 (fo))]) ▸ hP1
  have hD : va_D A [(ou, zaL (G.2 0) 1 (fo))] := (List.append_nil [(ou, zaL (G.2 0) 1 (fo))]) ▸ hD1
  have hS := hS1
  show W p l e rm_c_L_total s m ([.ref x, .int (iz (a1)), .ref ou] : List Value).toArray below meth c H1 locs1 (0 + 1) (0 + 6) Q (F0 m 14 ls [.ref q9])
  refine lv_astore_n (lv' := [(3, .ref q9), (0, .ref x), (1, .int (iz (a1))), (2, .ref ou)]) hx hb dL_total_14 rfl hl (by decide) rfl (fun ls hl => ?_)
  refine lv_iconst (v := iz (2)) hx hb dL_total_15 rfl ?_
  rw [hQ]
  exact zr_iret (z := 2) (u := ()) hx hb hr hlocks hP hD hS (by first | exact Nat.le_of_ble_eq_true rfl | omega) (by first | exact Nat.le_of_ble_eq_true rfl | omega) dL_total_16 (show 2 = 2 from rfl)

def rm_c_L_lifeWorth_x1 : Room := { frames := 10, cells := 1, slots := 6, locals := 178 }
set_option maxHeartbeats 1000000 in
set_option maxRecDepth 100000 in
theorem c_L_lifeWorth_x1 (l : Launch) (G : zG) (s1 : Nat) (s2 : Nat) (s3 : Nat) (x : Nat) (ro : Nat) (rw : Nat) (bo : Nat) (li : Nat) (sh : Nat) (tx : Nat) (lo : Nat) (nl : Nat) (lx0 : Value) (lx1 : Value) (lx2 : Value) (ag : Int) (mo : Int) (po : Int) (ou : Nat) (fo : Int → Int) (hl0 : l.stackTraces = false) (h0 : -2147483648 ≤ ag ∧ ag < 2147483648) (h01 : -9223372036854775808 ≤ mo ∧ mo < 9223372036854775808) (h02 : -2147483648 ≤ po ∧ po < 2147483648) (h1 : ¬ (0 ≤ mo ∧ mo ≤ 1000000000 ∧ 0 ≤ po ∧ po ≤ 20000)) : zMe l (zXL s1 s2 s3) G yL_lifeWorth wsL_lifeWorth rm_c_L_lifeWorth_x1 [.ref x, .int (iz (ag)), .long (lz (mo)), .int (iz (po)), .ref ou] [(x, .inr (10, [.ref ro, .ref rw, .ref bo, .ref li, .ref sh, .ref tx, .ref lo, .ref nl])), (li, .inr (3, [lx0, lx1, lx2, .int (iz (0))])), (ou, zaL (G.2 0) 1 (fo))] (fun A => zQi G (fun (z : Int) (_ : Unit) => z = 1) (fun (_ : Unit) => [(ou, zaL (G.2 0) 1 (fo))]) A) 1 6 := by
  refine zMeW_of (cc := cL_lifeWorth) (maxL := 7) (ret := (some .int)) (by decide) rfl (Nat.le_of_ble_eq_true rfl) ?_
  intro p e s m below meth c ls A Q hQ hx hb hr hts hown hlocks hml hnm htab hKX hE hP hD hA hS hl
  have hK := hKX.1
  obtain ⟨H, hH⟩ : ∃ h, h = s.heap := ⟨_, rfl⟩
  obtain ⟨locs, hlo⟩ : ∃ h : List Loc, h = [] := ⟨_, rfl⟩
  have hS : va_S A s.heap H locs := by rw [hH, hlo]; exact hS
  have hP : va_P G.1 vwCl [(x, .inr (10, [.ref ro, .ref rw, .ref bo, .ref li, .ref sh, .ref tx, .ref lo, .ref nl])), (li, .inr (3, [lx0, lx1, lx2, .int (iz (0))])), (ou, zaL (G.2 0) 1 (fo))] H := by rw [hH]; exact hP
  have hD : va_D A [(x, .inr (10, [.ref ro, .ref rw, .ref bo, .ref li, .ref sh, .ref tx, .ref lo, .ref nl])), (li, .inr (3, [lx0, lx1, lx2, .int (iz (0))])), (ou, zaL (G.2 0) 1 (fo))] := hD
  have hl : lv_has ls 7 [(0, .ref x), (1, .int (iz (ag))), (2, .long (lz (mo))), (4, .int (iz (po))), (5, .ref ou)] := hl
  rw [← hH, ← hlo]
  refine lv_aload hx hb dL_lifeWorth_0 (lv_at hl 4 rfl) ?_
  refine lv_iconst (v := iz (0)) hx hb dL_lifeWorth_2 rfl ?_
  refine lv_aload_n hx hb dL_lifeWorth_3 rfl (lv_at hl 0 rfl) ?_
  refine lv_iload_n hx hb dL_lifeWorth_4 rfl (lv_at hl 1 rfl) ?_
  refine lv_lload_n hx hb dL_lifeWorth_5 rfl (lv_at hl 2 rfl) ?_
  refine lv_iload hx hb dL_lifeWorth_6 (lv_at hl 3 rfl) ?_
  refine zx_call (X := "java/lang/IllegalArgumentException") (AX := va_A [(x, .inr (10, [.ref ro, .ref rw, .ref bo, .ref li, .ref sh, .ref tx, .ref lo, .ref nl])), (li, .inr (3, [lx0, lx1, lx2, .int (iz (0))]))] H.size) (fun _ _ _ h => h) (vx_runV (As := [.int (iz (ag)), .long (lz (mo)), .int (iz (po))]) (rest := [.int (iz (0)), .ref ou]) ⟨hx, hb, hml, hown, hts⟩ (c_X9_lifeWorth_x1 l G s1 s2 s3 x ro rw bo li sh tx lo nl lx0 lx1 lx2 ag mo po hl0 (h0) (h01) (h02) (h1) H.size) (cwV 3 hts gL_lifeWorth_X9_lifeWorth rfl rfl rfl (by decide +kernel) ⟨Nat.le_of_ble_eq_true rfl, Nat.le_of_ble_eq_true rfl⟩) (zpVe zXE_ok hE.1 hS hA hKX hP hD [0, 1] rfl rfl (va_recv hK hP (ci := 10) (q0 := 0) rfl rfl)) rfl rfl hl.1 rfl (lv_room (Nat.le_of_ble_eq_true rfl)) dL_lifeWorth_8 ⟨(by first | exact Nat.le_of_ble_eq_true rfl | (show _ ≤ (1 : Nat); omega)), (by first | exact Nat.le_of_ble_eq_true rfl | (show _ ≤ (6 : Nat); omega))⟩) hS (va_free (wc := [(x, .inr (10, [.ref ro, .ref rw, .ref bo, .ref li, .ref sh, .ref tx, .ref lo, .ref nl])), (li, .inr (3, [lx0, lx1, lx2, .int (iz (0))]))]) hD hS hA [0, 1] rfl) (fun aq_ _ ah_ => (va_free (wc := [(x, .inr (10, [.ref ro, .ref rw, .ref bo, .ref li, .ref sh, .ref tx, .ref lo, .ref nl])), (li, .inr (3, [lx0, lx1, lx2, .int (iz (0))]))]) hD hS hA [0, 1] rfl) aq_ ah_) (fun ce q9 H1 locs1 hsz9 hk9 hS1 hce hcv hcl => ?_)
  obtain ⟨hP1, hD1⟩ := va_join (wr := [(ou, zaL (G.2 0) 1 (fo))]) (w1 := []) hP hD [0, 1] [2] rfl rfl rfl (by decide) hk9 (va_free (wc := [(x, .inr (10, [.ref ro, .ref rw, .ref bo, .ref li, .ref sh, .ref tx, .ref lo, .ref nl])), (li, .inr (3, [lx0, lx1, lx2, .int (iz (0))]))]) hD hS hA [0, 1] rfl) (fun k q h => by cases h) zD_nil
  refine vx_catch hown [] (⟨0, 12, 15, 13⟩ : ExceptionTableEntry) [(⟨0, 12, 19, 66⟩ : ExceptionTableEntry), (⟨0, 12, 23, 19⟩ : ExceptionTableEntry)] (htab.trans rfl) (fun _ h => nomatch h) (by decide) (by decide) (hts (.classLink RL 13 "java/lang/IllegalArgumentException") (by decide +kernel)) (va_Nw.use rfl (hKX.2.2.2 (.castable "java/lang/IllegalArgumentException" "java/lang/IllegalArgumentException") (by decide +kernel))) hce hcv hcl ?_
  have hP : va_P G.1 vwCl [(ou, zaL (G.2 0) 1 (fo))] H1 := (List.append_nil [(ou, zaL (G.2 0) 1 (fo))]) ▸ hP1
  have hD : va_D A [(ou, zaL (G.2 0) 1 (fo))] := (List.append_nil [(ou, zaL (G.2 0) 1 (fo))]) ▸ hD1
  have hS := hS1
  show W p l e rm_c_L_lifeWorth_x1 s m ([.ref x, .int (iz (ag)), .long (lz (mo)), .int (iz (po)), .ref ou] : List Value).toArray below meth c H1 locs1 (0 + 1) (0 + 6) Q (F0 m 15 ls [.ref q9])
  refine lv_astore (lv' := [(6, .ref q9), (0, .ref x), (1, .int (iz (ag))), (2, .long (lz (mo))), (4, .int (iz (po))), (5, .ref ou)]) hx hb dL_lifeWorth_15 hl (by decide) rfl (fun ls hl => ?_)
  refine lv_iconst (v := iz (1)) hx hb dL_lifeWorth_17 rfl ?_
  rw [hQ]
  exact zr_iret (z := 1) (u := ()) hx hb hr hlocks hP hD hS (by first | exact Nat.le_of_ble_eq_true rfl | omega) (by first | exact Nat.le_of_ble_eq_true rfl | omega) dL_lifeWorth_18 (show 1 = 1 from rfl)

def rm_c_L_lifeWorth_x2 : Room := { frames := 9, cells := 1, slots := 6, locals := 158 }
set_option maxHeartbeats 1000000 in
set_option maxRecDepth 100000 in
theorem c_L_lifeWorth_x2 (l : Launch) (G : zG) (s1 : Nat) (s2 : Nat) (s3 : Nat) (x : Nat) (ro : Nat) (rw : Nat) (bo : Nat) (li : Nat) (sh : Nat) (tx : Nat) (lo : Nat) (nl : Nat) (lx0 : Value) (lx1 : Value) (lx2 : Value) (ag : Int) (mo : Int) (po : Int) (ou : Nat) (fo : Int → Int) (hl0 : l.stackTraces = false) (h0 : -2147483648 ≤ ag ∧ ag < 2147483648) (h01 : -9223372036854775808 ≤ mo ∧ mo < 9223372036854775808) (h02 : -2147483648 ≤ po ∧ po < 2147483648) (h1 : 0 ≤ mo ∧ mo ≤ 1000000000 ∧ 0 ≤ po ∧ po ≤ 20000) : zMe l (zXL s1 s2 s3) G yL_lifeWorth wsL_lifeWorth rm_c_L_lifeWorth_x2 [.ref x, .int (iz (ag)), .long (lz (mo)), .int (iz (po)), .ref ou] [(x, .inr (10, [.ref ro, .ref rw, .ref bo, .ref li, .ref sh, .ref tx, .ref lo, .ref nl])), (li, .inr (3, [lx0, lx1, lx2, .int (iz (0))])), (ou, zaL (G.2 0) 1 (fo))] (fun A => zQi G (fun (z : Int) (_ : Unit) => z = 2) (fun (_ : Unit) => [(ou, zaL (G.2 0) 1 (fo))]) A) 1 6 := by
  refine zMeW_of (cc := cL_lifeWorth) (maxL := 7) (ret := (some .int)) (by decide) rfl (Nat.le_of_ble_eq_true rfl) ?_
  intro p e s m below meth c ls A Q hQ hx hb hr hts hown hlocks hml hnm htab hKX hE hP hD hA hS hl
  have hK := hKX.1
  obtain ⟨H, hH⟩ : ∃ h, h = s.heap := ⟨_, rfl⟩
  obtain ⟨locs, hlo⟩ : ∃ h : List Loc, h = [] := ⟨_, rfl⟩
  have hS : va_S A s.heap H locs := by rw [hH, hlo]; exact hS
  have hP : va_P G.1 vwCl [(x, .inr (10, [.ref ro, .ref rw, .ref bo, .ref li, .ref sh, .ref tx, .ref lo, .ref nl])), (li, .inr (3, [lx0, lx1, lx2, .int (iz (0))])), (ou, zaL (G.2 0) 1 (fo))] H := by rw [hH]; exact hP
  have hD : va_D A [(x, .inr (10, [.ref ro, .ref rw, .ref bo, .ref li, .ref sh, .ref tx, .ref lo, .ref nl])), (li, .inr (3, [lx0, lx1, lx2, .int (iz (0))])), (ou, zaL (G.2 0) 1 (fo))] := hD
  have hl : lv_has ls 7 [(0, .ref x), (1, .int (iz (ag))), (2, .long (lz (mo))), (4, .int (iz (po))), (5, .ref ou)] := hl
  rw [← hH, ← hlo]
  refine lv_aload hx hb dL_lifeWorth_0 (lv_at hl 4 rfl) ?_
  refine lv_iconst (v := iz (0)) hx hb dL_lifeWorth_2 rfl ?_
  refine lv_aload_n hx hb dL_lifeWorth_3 rfl (lv_at hl 0 rfl) ?_
  refine lv_iload_n hx hb dL_lifeWorth_4 rfl (lv_at hl 1 rfl) ?_
  refine lv_lload_n hx hb dL_lifeWorth_5 rfl (lv_at hl 2 rfl) ?_
  refine lv_iload hx hb dL_lifeWorth_6 (lv_at hl 3 rfl) ?_
  refine zx_call (X := "java/util/NoSuchElementException") (AX := va_A [(x, .inr (10, [.ref ro, .ref rw, .ref bo, .ref li, .ref sh, .ref tx, .ref lo, .ref nl])), (li, .inr (3, [lx0, lx1, lx2, .int (iz (0))]))] H.size) (fun _ _ _ h => h) (vx_runV (As := [.int (iz (ag)), .long (lz (mo)), .int (iz (po))]) (rest := [.int (iz (0)), .ref ou]) ⟨hx, hb, hml, hown, hts⟩ (c_X9_lifeWorth_x2 l G s1 s2 s3 x ro rw bo li sh tx lo nl lx0 lx1 lx2 ag mo po hl0 (h0) (h01) (h02) (h1) H.size) (cwV 3 hts gL_lifeWorth_X9_lifeWorth rfl rfl rfl (by decide +kernel) ⟨Nat.le_of_ble_eq_true rfl, Nat.le_of_ble_eq_true rfl⟩) (zpVe zXE_ok hE.1 hS hA hKX hP hD [0, 1] rfl rfl (va_recv hK hP (ci := 10) (q0 := 0) rfl rfl)) rfl rfl hl.1 rfl (lv_room (Nat.le_of_ble_eq_true rfl)) dL_lifeWorth_8 ⟨(by first | exact Nat.le_of_ble_eq_true rfl | (show _ ≤ (1 : Nat); omega)), (by first | exact Nat.le_of_ble_eq_true rfl | (show _ ≤ (6 : Nat); omega))⟩) hS (va_free (wc := [(x, .inr (10, [.ref ro, .ref rw, .ref bo, .ref li, .ref sh, .ref tx, .ref lo, .ref nl])), (li, .inr (3, [lx0, lx1, lx2, .int (iz (0))]))]) hD hS hA [0, 1] rfl) (fun aq_ _ ah_ => (va_free (wc := [(x, .inr (10, [.ref ro, .ref rw, .ref bo, .ref li, .ref sh, .ref tx, .ref lo, .ref nl])), (li, .inr (3, [lx0, lx1, lx2, .int (iz (0))]))]) hD hS hA [0, 1] rfl) aq_ ah_) (fun ce q9 H1 locs1 hsz9 hk9 hS1 hce hcv hcl => ?_)
  obtain ⟨hP1, hD1⟩ := va_join (wr := [(ou, zaL (G.2 0) 1 (fo))]) (w1 := []) hP hD [0, 1] [2] rfl rfl rfl (by decide) hk9 (va_free (wc := [(x, .inr (10, [.ref ro, .ref rw, .ref bo, .ref li, .ref sh, .ref tx, .ref lo, .ref nl])), (li, .inr (3, [lx0, lx1, lx2, .int (iz (0))]))]) hD hS hA [0, 1] rfl) (fun k q h => by cases h) zD_nil
  refine vx_catch hown [(⟨0, 12, 15, 13⟩ : ExceptionTableEntry)] (⟨0, 12, 19, 66⟩ : ExceptionTableEntry) [(⟨0, 12, 23, 19⟩ : ExceptionTableEntry)] (htab.trans rfl) (List.forall_mem_cons.mpr ⟨Or.inr ⟨by decide, "java/lang/IllegalArgumentException", hts (.classLink RL 13 "java/lang/IllegalArgumentException") (by decide +kernel), hE.2.2.2⟩, (fun _ h => nomatch h)⟩) (by decide) (by decide) (hts (.classLink RL 66 "java/util/NoSuchElementException") (by decide +kernel)) (va_Nw.use rfl (hKX.2.2.2 (.castable "java/util/NoSuchElementException" "java/util/NoSuchElementException") (by decide +kernel))) hce hcv hcl ?_
  have hP : va_P G.1 vwCl [(ou, zaL (G.2 0) 1 (fo))] H1 := (List.append_nil [(ou, zaL (G.2 0) 1 (fo))]) ▸ hP1
  have hD : va_D A [(ou, zaL (G.2 0) 1 (fo))] := (List.append_nil [(ou, zaL (G.2 0) 1 (fo))]) ▸ hD1
  have hS := hS1
  show W p l e rm_c_L_lifeWorth_x2 s m ([.ref x, .int (iz (ag)), .long (lz (mo)), .int (iz (po)), .ref ou] : List Value).toArray below meth c H1 locs1 (0 + 1) (0 + 6) Q (F0 m 19 ls [.ref q9])
  refine lv_astore (lv' := [(6, .ref q9), (0, .ref x), (1, .int (iz (ag))), (2, .long (lz (mo))), (4, .int (iz (po))), (5, .ref ou)]) hx hb dL_lifeWorth_19 hl (by decide) rfl (fun ls hl => ?_)
  refine lv_iconst (v := iz (2)) hx hb dL_lifeWorth_21 rfl ?_
  rw [hQ]
  exact zr_iret (z := 2) (u := ()) hx hb hr hlocks hP hD hS (by first | exact Nat.le_of_ble_eq_true rfl | omega) (by first | exact Nat.le_of_ble_eq_true rfl | omega) dL_lifeWorth_22 (show 2 = 2 from rfl)

def rm_c_L_deathWorth_x1 : Room := { frames := 10, cells := 1, slots := 6, locals := 178 }
set_option maxHeartbeats 1000000 in
set_option maxRecDepth 100000 in
theorem c_L_deathWorth_x1 (l : Launch) (G : zG) (s1 : Nat) (s2 : Nat) (s3 : Nat) (x : Nat) (ro : Nat) (rw : Nat) (bo : Nat) (li : Nat) (sh : Nat) (tx : Nat) (lo : Nat) (nl : Nat) (lx0 : Value) (lx1 : Value) (lx2 : Value) (ag : Int) (mo : Int) (po : Int) (ou : Nat) (fo : Int → Int) (hl0 : l.stackTraces = false) (h0 : -2147483648 ≤ ag ∧ ag < 2147483648) (h01 : -9223372036854775808 ≤ mo ∧ mo < 9223372036854775808) (h02 : -2147483648 ≤ po ∧ po < 2147483648) (h1 : ¬ (0 ≤ mo ∧ mo ≤ 1000000000 ∧ 0 ≤ po ∧ po ≤ 20000)) : zMe l (zXL s1 s2 s3) G yL_deathWorth wsL_deathWorth rm_c_L_deathWorth_x1 [.ref x, .int (iz (ag)), .long (lz (mo)), .int (iz (po)), .ref ou] [(x, .inr (10, [.ref ro, .ref rw, .ref bo, .ref li, .ref sh, .ref tx, .ref lo, .ref nl])), (li, .inr (3, [lx0, lx1, lx2, .int (iz (0))])), (ou, zaL (G.2 0) 1 (fo))] (fun A => zQi G (fun (z : Int) (_ : Unit) => z = 1) (fun (_ : Unit) => [(ou, zaL (G.2 0) 1 (fo))]) A) 1 6 := by
  refine zMeW_of (cc := cL_deathWorth) (maxL := 7) (ret := (some .int)) (by decide) rfl (Nat.le_of_ble_eq_true rfl) ?_
  intro p e s m below meth c ls A Q hQ hx hb hr hts hown hlocks hml hnm htab hKX hE hP hD hA hS hl
  have hK := hKX.1
  obtain ⟨H, hH⟩ : ∃ h, h = s.heap := ⟨_, rfl⟩
  obtain ⟨locs, hlo⟩ : ∃ h : List Loc, h = [] := ⟨_, rfl⟩
  have hS : va_S A s.heap H locs := by rw [hH, hlo]; exact hS
  have hP : va_P G.1 vwCl [(x, .inr (10, [.ref ro, .ref rw, .ref bo, .ref li, .ref sh, .ref tx, .ref lo, .ref nl])), (li, .inr (3, [lx0, lx1, lx2, .int (iz (0))])), (ou, zaL (G.2 0) 1 (fo))] H := by rw [hH]; exact hP
  have hD : va_D A [(x, .inr (10, [.ref ro, .ref rw, .ref bo, .ref li, .ref sh, .ref tx, .ref lo, .ref nl])), (li, .inr (3, [lx0, lx1, lx2, .int (iz (0))])), (ou, zaL (G.2 0) 1 (fo))] := hD
  have hl : lv_has ls 7 [(0, .ref x), (1, .int (iz (ag))), (2, .long (lz (mo))), (4, .int (iz (po))), (5, .ref ou)] := hl
  rw [← hH, ← hlo]
  refine lv_aload hx hb dL_deathWorth_0 (lv_at hl 4 rfl) ?_
  refine lv_iconst (v := iz (0)) hx hb dL_deathWorth_2 rfl ?_
  refine lv_aload_n hx hb dL_deathWorth_3 rfl (lv_at hl 0 rfl) ?_
  refine lv_iload_n hx hb dL_deathWorth_4 rfl (lv_at hl 1 rfl) ?_
  refine lv_lload_n hx hb dL_deathWorth_5 rfl (lv_at hl 2 rfl) ?_
  refine lv_iload hx hb dL_deathWorth_6 (lv_at hl 3 rfl) ?_
  refine zx_call (X := "java/lang/IllegalArgumentException") (AX := va_A [(x, .inr (10, [.ref ro, .ref rw, .ref bo, .ref li, .ref sh, .ref tx, .ref lo, .ref nl])), (li, .inr (3, [lx0, lx1, lx2, .int (iz (0))]))] H.size) (fun _ _ _ h => h) (vx_runV (As := [.int (iz (ag)), .long (lz (mo)), .int (iz (po))]) (rest := [.int (iz (0)), .ref ou]) ⟨hx, hb, hml, hown, hts⟩ (c_X9_deathWorth_x1 l G s1 s2 s3 x ro rw bo li sh tx lo nl lx0 lx1 lx2 ag mo po hl0 (h0) (h01) (h02) (h1) H.size) (cwV 3 hts gL_deathWorth_X9_deathWorth rfl rfl rfl (by decide +kernel) ⟨Nat.le_of_ble_eq_true rfl, Nat.le_of_ble_eq_true rfl⟩) (zpVe zXE_ok hE.1 hS hA hKX hP hD [0, 1] rfl rfl (va_recv hK hP (ci := 10) (q0 := 0) rfl rfl)) rfl rfl hl.1 rfl (lv_room (Nat.le_of_ble_eq_true rfl)) dL_deathWorth_8 ⟨(by first | exact Nat.le_of_ble_eq_true rfl | (show _ ≤ (1 : Nat); omega)), (by first | exact Nat.le_of_ble_eq_true rfl | (show _ ≤ (6 : Nat); omega))⟩) hS (va_free (wc := [(x, .inr (10, [.ref ro, .ref rw, .ref bo, .ref li, .ref sh, .ref tx, .ref lo, .ref nl])), (li, .inr (3, [lx0, lx1, lx2, .int (iz (0))]))]) hD hS hA [0, 1] rfl) (fun aq_ _ ah_ => (va_free (wc := [(x, .inr (10, [.ref ro, .ref rw, .ref bo, .ref li, .ref sh, .ref tx, .ref lo, .ref nl])), (li, .inr (3, [lx0, lx1, lx2, .int (iz (0))]))]) hD hS hA [0, 1] rfl) aq_ ah_) (fun ce q9 H1 locs1 hsz9 hk9 hS1 hce hcv hcl => ?_)
  obtain ⟨hP1, hD1⟩ := va_join (wr := [(ou, zaL (G.2 0) 1 (fo))]) (w1 := []) hP hD [0, 1] [2] rfl rfl rfl (by decide) hk9 (va_free (wc := [(x, .inr (10, [.ref ro, .ref rw, .ref bo, .ref li, .ref sh, .ref tx, .ref lo, .ref nl])), (li, .inr (3, [lx0, lx1, lx2, .int (iz (0))]))]) hD hS hA [0, 1] rfl) (fun k q h => by cases h) zD_nil
  refine vx_catch hown [] (⟨0, 12, 15, 13⟩ : ExceptionTableEntry) [(⟨0, 12, 19, 66⟩ : ExceptionTableEntry), (⟨0, 12, 23, 19⟩ : ExceptionTableEntry)] (htab.trans rfl) (fun _ h => nomatch h) (by decide) (by decide) (hts (.classLink RL 13 "java/lang/IllegalArgumentException") (by decide +kernel)) (va_Nw.use rfl (hKX.2.2.2 (.castable "java/lang/IllegalArgumentException" "java/lang/IllegalArgumentException") (by decide +kernel))) hce hcv hcl ?_
  have hP : va_P G.1 vwCl [(ou, zaL (G.2 0) 1 (fo))] H1 := (List.append_nil [(ou, zaL (G.2 0) 1 (fo))]) ▸ hP1
  have hD : va_D A [(ou, zaL (G.2 0) 1 (fo))] := (List.append_nil [(ou, zaL (G.2 0) 1 (fo))]) ▸ hD1
  have hS := hS1
  show W p l e rm_c_L_deathWorth_x1 s m ([.ref x, .int (iz (ag)), .long (lz (mo)), .int (iz (po)), .ref ou] : List Value).toArray below meth c H1 locs1 (0 + 1) (0 + 6) Q (F0 m 15 ls [.ref q9])
  refine lv_astore (lv' := [(6, .ref q9), (0, .ref x), (1, .int (iz (ag))), (2, .long (lz (mo))), (4, .int (iz (po))), (5, .ref ou)]) hx hb dL_deathWorth_15 hl (by decide) rfl (fun ls hl => ?_)
  refine lv_iconst (v := iz (1)) hx hb dL_deathWorth_17 rfl ?_
  rw [hQ]
  exact zr_iret (z := 1) (u := ()) hx hb hr hlocks hP hD hS (by first | exact Nat.le_of_ble_eq_true rfl | omega) (by first | exact Nat.le_of_ble_eq_true rfl | omega) dL_deathWorth_18 (show 1 = 1 from rfl)

def rm_c_L_deathWorth_x2 : Room := { frames := 9, cells := 1, slots := 6, locals := 158 }
set_option maxHeartbeats 1000000 in
set_option maxRecDepth 100000 in
theorem c_L_deathWorth_x2 (l : Launch) (G : zG) (s1 : Nat) (s2 : Nat) (s3 : Nat) (x : Nat) (ro : Nat) (rw : Nat) (bo : Nat) (li : Nat) (sh : Nat) (tx : Nat) (lo : Nat) (nl : Nat) (lx0 : Value) (lx1 : Value) (lx2 : Value) (ag : Int) (mo : Int) (po : Int) (ou : Nat) (fo : Int → Int) (hl0 : l.stackTraces = false) (h0 : -2147483648 ≤ ag ∧ ag < 2147483648) (h01 : -9223372036854775808 ≤ mo ∧ mo < 9223372036854775808) (h02 : -2147483648 ≤ po ∧ po < 2147483648) (h1 : 0 ≤ mo ∧ mo ≤ 1000000000 ∧ 0 ≤ po ∧ po ≤ 20000) : zMe l (zXL s1 s2 s3) G yL_deathWorth wsL_deathWorth rm_c_L_deathWorth_x2 [.ref x, .int (iz (ag)), .long (lz (mo)), .int (iz (po)), .ref ou] [(x, .inr (10, [.ref ro, .ref rw, .ref bo, .ref li, .ref sh, .ref tx, .ref lo, .ref nl])), (li, .inr (3, [lx0, lx1, lx2, .int (iz (0))])), (ou, zaL (G.2 0) 1 (fo))] (fun A => zQi G (fun (z : Int) (_ : Unit) => z = 2) (fun (_ : Unit) => [(ou, zaL (G.2 0) 1 (fo))]) A) 1 6 := by
  refine zMeW_of (cc := cL_deathWorth) (maxL := 7) (ret := (some .int)) (by decide) rfl (Nat.le_of_ble_eq_true rfl) ?_
  intro p e s m below meth c ls A Q hQ hx hb hr hts hown hlocks hml hnm htab hKX hE hP hD hA hS hl
  have hK := hKX.1
  obtain ⟨H, hH⟩ : ∃ h, h = s.heap := ⟨_, rfl⟩
  obtain ⟨locs, hlo⟩ : ∃ h : List Loc, h = [] := ⟨_, rfl⟩
  have hS : va_S A s.heap H locs := by rw [hH, hlo]; exact hS
  have hP : va_P G.1 vwCl [(x, .inr (10, [.ref ro, .ref rw, .ref bo, .ref li, .ref sh, .ref tx, .ref lo, .ref nl])), (li, .inr (3, [lx0, lx1, lx2, .int (iz (0))])), (ou, zaL (G.2 0) 1 (fo))] H := by rw [hH]; exact hP
  have hD : va_D A [(x, .inr (10, [.ref ro, .ref rw, .ref bo, .ref li, .ref sh, .ref tx, .ref lo, .ref nl])), (li, .inr (3, [lx0, lx1, lx2, .int (iz (0))])), (ou, zaL (G.2 0) 1 (fo))] := hD
  have hl : lv_has ls 7 [(0, .ref x), (1, .int (iz (ag))), (2, .long (lz (mo))), (4, .int (iz (po))), (5, .ref ou)] := hl
  rw [← hH, ← hlo]
  refine lv_aload hx hb dL_deathWorth_0 (lv_at hl 4 rfl) ?_
  refine lv_iconst (v := iz (0)) hx hb dL_deathWorth_2 rfl ?_
  refine lv_aload_n hx hb dL_deathWorth_3 rfl (lv_at hl 0 rfl) ?_
  refine lv_iload_n hx hb dL_deathWorth_4 rfl (lv_at hl 1 rfl) ?_
  refine lv_lload_n hx hb dL_deathWorth_5 rfl (lv_at hl 2 rfl) ?_
  refine lv_iload hx hb dL_deathWorth_6 (lv_at hl 3 rfl) ?_
  refine zx_call (X := "java/util/NoSuchElementException") (AX := va_A [(x, .inr (10, [.ref ro, .ref rw, .ref bo, .ref li, .ref sh, .ref tx, .ref lo, .ref nl])), (li, .inr (3, [lx0, lx1, lx2, .int (iz (0))]))] H.size) (fun _ _ _ h => h) (vx_runV (As := [.int (iz (ag)), .long (lz (mo)), .int (iz (po))]) (rest := [.int (iz (0)), .ref ou]) ⟨hx, hb, hml, hown, hts⟩ (c_X9_deathWorth_x2 l G s1 s2 s3 x ro rw bo li sh tx lo nl lx0 lx1 lx2 ag mo po hl0 (h0) (h01) (h02) (h1) H.size) (cwV 3 hts gL_deathWorth_X9_deathWorth rfl rfl rfl (by decide +kernel) ⟨Nat.le_of_ble_eq_true rfl, Nat.le_of_ble_eq_true rfl⟩) (zpVe zXE_ok hE.1 hS hA hKX hP hD [0, 1] rfl rfl (va_recv hK hP (ci := 10) (q0 := 0) rfl rfl)) rfl rfl hl.1 rfl (lv_room (Nat.le_of_ble_eq_true rfl)) dL_deathWorth_8 ⟨(by first | exact Nat.le_of_ble_eq_true rfl | (show _ ≤ (1 : Nat); omega)), (by first | exact Nat.le_of_ble_eq_true rfl | (show _ ≤ (6 : Nat); omega))⟩) hS (va_free (wc := [(x, .inr (10, [.ref ro, .ref rw, .ref bo, .ref li, .ref sh, .ref tx, .ref lo, .ref nl])), (li, .inr (3, [lx0, lx1, lx2, .int (iz (0))]))]) hD hS hA [0, 1] rfl) (fun aq_ _ ah_ => (va_free (wc := [(x, .inr (10, [.ref ro, .ref rw, .ref bo, .ref li, .ref sh, .ref tx, .ref lo, .ref nl])), (li, .inr (3, [lx0, lx1, lx2, .int (iz (0))]))]) hD hS hA [0, 1] rfl) aq_ ah_) (fun ce q9 H1 locs1 hsz9 hk9 hS1 hce hcv hcl => ?_)
  obtain ⟨hP1, hD1⟩ := va_join (wr := [(ou, zaL (G.2 0) 1 (fo))]) (w1 := []) hP hD [0, 1] [2] rfl rfl rfl (by decide) hk9 (va_free (wc := [(x, .inr (10, [.ref ro, .ref rw, .ref bo, .ref li, .ref sh, .ref tx, .ref lo, .ref nl])), (li, .inr (3, [lx0, lx1, lx2, .int (iz (0))]))]) hD hS hA [0, 1] rfl) (fun k q h => by cases h) zD_nil
  refine vx_catch hown [(⟨0, 12, 15, 13⟩ : ExceptionTableEntry)] (⟨0, 12, 19, 66⟩ : ExceptionTableEntry) [(⟨0, 12, 23, 19⟩ : ExceptionTableEntry)] (htab.trans rfl) (List.forall_mem_cons.mpr ⟨Or.inr ⟨by decide, "java/lang/IllegalArgumentException", hts (.classLink RL 13 "java/lang/IllegalArgumentException") (by decide +kernel), hE.2.2.2⟩, (fun _ h => nomatch h)⟩) (by decide) (by decide) (hts (.classLink RL 66 "java/util/NoSuchElementException") (by decide +kernel)) (va_Nw.use rfl (hKX.2.2.2 (.castable "java/util/NoSuchElementException" "java/util/NoSuchElementException") (by decide +kernel))) hce hcv hcl ?_
  have hP : va_P G.1 vwCl [(ou, zaL (G.2 0) 1 (fo))] H1 := (List.append_nil [(ou, zaL (G.2 0) 1 (fo))]) ▸ hP1
  have hD : va_D A [(ou, zaL (G.2 0) 1 (fo))] := (List.append_nil [(ou, zaL (G.2 0) 1 (fo))]) ▸ hD1
  have hS := hS1
  show W p l e rm_c_L_deathWorth_x2 s m ([.ref x, .int (iz (ag)), .long (lz (mo)), .int (iz (po)), .ref ou] : List Value).toArray below meth c H1 locs1 (0 + 1) (0 + 6) Q (F0 m 19 ls [.ref q9])
  refine lv_astore (lv' := [(6, .ref q9), (0, .ref x), (1, .int (iz (ag))), (2, .long (lz (mo))), (4, .int (iz (po))), (5, .ref ou)]) hx hb dL_deathWorth_19 hl (by decide) rfl (fun ls hl => ?_)
  refine lv_iconst (v := iz (2)) hx hb dL_deathWorth_21 rfl ?_
  rw [hQ]
  exact zr_iret (z := 2) (u := ()) hx hb hr hlocks hP hD hS (by first | exact Nat.le_of_ble_eq_true rfl | omega) (by first | exact Nat.le_of_ble_eq_true rfl | omega) dL_deathWorth_22 (show 2 = 2 from rfl)

def rm_c_L_premium_x1 : Room := { frames := 10, cells := 1, slots := 6, locals := 178 }
set_option maxHeartbeats 1000000 in
set_option maxRecDepth 100000 in
theorem c_L_premium_x1 (l : Launch) (G : zG) (s1 : Nat) (s2 : Nat) (s3 : Nat) (x : Nat) (ro : Nat) (rw : Nat) (bo : Nat) (li : Nat) (sh : Nat) (tx : Nat) (lo : Nat) (nl : Nat) (lx0 : Value) (lx1 : Value) (lx2 : Value) (ag : Int) (mo : Int) (po : Int) (ou : Nat) (fo : Int → Int) (hl0 : l.stackTraces = false) (h0 : -2147483648 ≤ ag ∧ ag < 2147483648) (h01 : -9223372036854775808 ≤ mo ∧ mo < 9223372036854775808) (h02 : -2147483648 ≤ po ∧ po < 2147483648) (h1 : ¬ (0 ≤ mo ∧ mo ≤ 1000000000 ∧ 0 ≤ po ∧ po ≤ 20000)) : zMe l (zXL s1 s2 s3) G yL_premium wsL_premium rm_c_L_premium_x1 [.ref x, .int (iz (ag)), .long (lz (mo)), .int (iz (po)), .ref ou] [(x, .inr (10, [.ref ro, .ref rw, .ref bo, .ref li, .ref sh, .ref tx, .ref lo, .ref nl])), (li, .inr (3, [lx0, lx1, lx2, .int (iz (0))])), (ou, zaL (G.2 0) 1 (fo))] (fun A => zQi G (fun (z : Int) (_ : Unit) => z = 1) (fun (_ : Unit) => [(ou, zaL (G.2 0) 1 (fo))]) A) 1 6 := by
  refine zMeW_of (cc := cL_premium) (maxL := 7) (ret := (some .int)) (by decide) rfl (Nat.le_of_ble_eq_true rfl) ?_
  intro p e s m below meth c ls A Q hQ hx hb hr hts hown hlocks hml hnm htab hKX hE hP hD hA hS hl
  have hK := hKX.1
  obtain ⟨H, hH⟩ : ∃ h, h = s.heap := ⟨_, rfl⟩
  obtain ⟨locs, hlo⟩ : ∃ h : List Loc, h = [] := ⟨_, rfl⟩
  have hS : va_S A s.heap H locs := by rw [hH, hlo]; exact hS
  have hP : va_P G.1 vwCl [(x, .inr (10, [.ref ro, .ref rw, .ref bo, .ref li, .ref sh, .ref tx, .ref lo, .ref nl])), (li, .inr (3, [lx0, lx1, lx2, .int (iz (0))])), (ou, zaL (G.2 0) 1 (fo))] H := by rw [hH]; exact hP
  have hD : va_D A [(x, .inr (10, [.ref ro, .ref rw, .ref bo, .ref li, .ref sh, .ref tx, .ref lo, .ref nl])), (li, .inr (3, [lx0, lx1, lx2, .int (iz (0))])), (ou, zaL (G.2 0) 1 (fo))] := hD
  have hl : lv_has ls 7 [(0, .ref x), (1, .int (iz (ag))), (2, .long (lz (mo))), (4, .int (iz (po))), (5, .ref ou)] := hl
  rw [← hH, ← hlo]
  refine lv_aload hx hb dL_premium_0 (lv_at hl 4 rfl) ?_
  refine lv_iconst (v := iz (0)) hx hb dL_premium_2 rfl ?_
  refine lv_aload_n hx hb dL_premium_3 rfl (lv_at hl 0 rfl) ?_
  refine lv_iload_n hx hb dL_premium_4 rfl (lv_at hl 1 rfl) ?_
  refine lv_lload_n hx hb dL_premium_5 rfl (lv_at hl 2 rfl) ?_
  refine lv_iload hx hb dL_premium_6 (lv_at hl 3 rfl) ?_
  refine zx_call (X := "java/lang/IllegalArgumentException") (AX := va_A [(x, .inr (10, [.ref ro, .ref rw, .ref bo, .ref li, .ref sh, .ref tx, .ref lo, .ref nl])), (li, .inr (3, [lx0, lx1, lx2, .int (iz (0))]))] H.size) (fun _ _ _ h => h) (vx_runV (As := [.int (iz (ag)), .long (lz (mo)), .int (iz (po))]) (rest := [.int (iz (0)), .ref ou]) ⟨hx, hb, hml, hown, hts⟩ (c_X9_premium_x1 l G s1 s2 s3 x ro rw bo li sh tx lo nl lx0 lx1 lx2 ag mo po hl0 (h0) (h01) (h02) (h1) H.size) (cwV 3 hts gL_premium_X9_premium rfl rfl rfl (by decide +kernel) ⟨Nat.le_of_ble_eq_true rfl, Nat.le_of_ble_eq_true rfl⟩) (zpVe zXE_ok hE.1 hS hA hKX hP hD [0, 1] rfl rfl (va_recv hK hP (ci := 10) (q0 := 0) rfl rfl)) rfl rfl hl.1 rfl (lv_room (Nat.le_of_ble_eq_true rfl)) dL_premium_8 ⟨(by first | exact Nat.le_of_ble_eq_true rfl | (show _ ≤ (1 : Nat); omega)), (by first | exact Nat.le_of_ble_eq_true rfl | (show _ ≤ (6 : Nat); omega))⟩) hS (va_free (wc := [(x, .inr (10, [.ref ro, .ref rw, .ref bo, .ref li, .ref sh, .ref tx, .ref lo, .ref nl])), (li, .inr (3, [lx0, lx1, lx2, .int (iz (0))]))]) hD hS hA [0, 1] rfl) (fun aq_ _ ah_ => (va_free (wc := [(x, .inr (10, [.ref ro, .ref rw, .ref bo, .ref li, .ref sh, .ref tx, .ref lo, .ref nl])), (li, .inr (3, [lx0, lx1, lx2, .int (iz (0))]))]) hD hS hA [0, 1] rfl) aq_ ah_) (fun ce q9 H1 locs1 hsz9 hk9 hS1 hce hcv hcl => ?_)
  obtain ⟨hP1, hD1⟩ := va_join (wr := [(ou, zaL (G.2 0) 1 (fo))]) (w1 := []) hP hD [0, 1] [2] rfl rfl rfl (by decide) hk9 (va_free (wc := [(x, .inr (10, [.ref ro, .ref rw, .ref bo, .ref li, .ref sh, .ref tx, .ref lo, .ref nl])), (li, .inr (3, [lx0, lx1, lx2, .int (iz (0))]))]) hD hS hA [0, 1] rfl) (fun k q h => by cases h) zD_nil
  refine vx_catch hown [] (⟨0, 12, 15, 13⟩ : ExceptionTableEntry) [(⟨0, 12, 19, 66⟩ : ExceptionTableEntry), (⟨0, 12, 23, 19⟩ : ExceptionTableEntry)] (htab.trans rfl) (fun _ h => nomatch h) (by decide) (by decide) (hts (.classLink RL 13 "java/lang/IllegalArgumentException") (by decide +kernel)) (va_Nw.use rfl (hKX.2.2.2 (.castable "java/lang/IllegalArgumentException" "java/lang/IllegalArgumentException") (by decide +kernel))) hce hcv hcl ?_
  have hP : va_P G.1 vwCl [(ou, zaL (G.2 0) 1 (fo))] H1 := (List.append_nil [(ou, zaL (G.2 0) 1 (fo))]) ▸ hP1
  have hD : va_D A [(ou, zaL (G.2 0) 1 (fo))] := (List.append_nil [(ou, zaL (G.2 0) 1 (fo))]) ▸ hD1
  have hS := hS1
  show W p l e rm_c_L_premium_x1 s m ([.ref x, .int (iz (ag)), .long (lz (mo)), .int (iz (po)), .ref ou] : List Value).toArray below meth c H1 locs1 (0 + 1) (0 + 6) Q (F0 m 15 ls [.ref q9])
  refine lv_astore (lv' := [(6, .ref q9), (0, .ref x), (1, .int (iz (ag))), (2, .long (lz (mo))), (4, .int (iz (po))), (5, .ref ou)]) hx hb dL_premium_15 hl (by decide) rfl (fun ls hl => ?_)
  refine lv_iconst (v := iz (1)) hx hb dL_premium_17 rfl ?_
  rw [hQ]
  exact zr_iret (z := 1) (u := ()) hx hb hr hlocks hP hD hS (by first | exact Nat.le_of_ble_eq_true rfl | omega) (by first | exact Nat.le_of_ble_eq_true rfl | omega) dL_premium_18 (show 1 = 1 from rfl)

def rm_c_L_premium_x2 : Room := { frames := 9, cells := 1, slots := 6, locals := 158 }
set_option maxHeartbeats 1000000 in
set_option maxRecDepth 100000 in
theorem c_L_premium_x2 (l : Launch) (G : zG) (s1 : Nat) (s2 : Nat) (s3 : Nat) (x : Nat) (ro : Nat) (rw : Nat) (bo : Nat) (li : Nat) (sh : Nat) (tx : Nat) (lo : Nat) (nl : Nat) (lx0 : Value) (lx1 : Value) (lx2 : Value) (ag : Int) (mo : Int) (po : Int) (ou : Nat) (fo : Int → Int) (hl0 : l.stackTraces = false) (h0 : -2147483648 ≤ ag ∧ ag < 2147483648) (h01 : -9223372036854775808 ≤ mo ∧ mo < 9223372036854775808) (h02 : -2147483648 ≤ po ∧ po < 2147483648) (h1 : 0 ≤ mo ∧ mo ≤ 1000000000 ∧ 0 ≤ po ∧ po ≤ 20000) : zMe l (zXL s1 s2 s3) G yL_premium wsL_premium rm_c_L_premium_x2 [.ref x, .int (iz (ag)), .long (lz (mo)), .int (iz (po)), .ref ou] [(x, .inr (10, [.ref ro, .ref rw, .ref bo, .ref li, .ref sh, .ref tx, .ref lo, .ref nl])), (li, .inr (3, [lx0, lx1, lx2, .int (iz (0))])), (ou, zaL (G.2 0) 1 (fo))] (fun A => zQi G (fun (z : Int) (_ : Unit) => z = 2) (fun (_ : Unit) => [(ou, zaL (G.2 0) 1 (fo))]) A) 1 6 := by
  refine zMeW_of (cc := cL_premium) (maxL := 7) (ret := (some .int)) (by decide) rfl (Nat.le_of_ble_eq_true rfl) ?_
  intro p e s m below meth c ls A Q hQ hx hb hr hts hown hlocks hml hnm htab hKX hE hP hD hA hS hl
  have hK := hKX.1
  obtain ⟨H, hH⟩ : ∃ h, h = s.heap := ⟨_, rfl⟩
  obtain ⟨locs, hlo⟩ : ∃ h : List Loc, h = [] := ⟨_, rfl⟩
  have hS : va_S A s.heap H locs := by rw [hH, hlo]; exact hS
  have hP : va_P G.1 vwCl [(x, .inr (10, [.ref ro, .ref rw, .ref bo, .ref li, .ref sh, .ref tx, .ref lo, .ref nl])), (li, .inr (3, [lx0, lx1, lx2, .int (iz (0))])), (ou, zaL (G.2 0) 1 (fo))] H := by rw [hH]; exact hP
  have hD : va_D A [(x, .inr (10, [.ref ro, .ref rw, .ref bo, .ref li, .ref sh, .ref tx, .ref lo, .ref nl])), (li, .inr (3, [lx0, lx1, lx2, .int (iz (0))])), (ou, zaL (G.2 0) 1 (fo))] := hD
  have hl : lv_has ls 7 [(0, .ref x), (1, .int (iz (ag))), (2, .long (lz (mo))), (4, .int (iz (po))), (5, .ref ou)] := hl
  rw [← hH, ← hlo]
  refine lv_aload hx hb dL_premium_0 (lv_at hl 4 rfl) ?_
  refine lv_iconst (v := iz (0)) hx hb dL_premium_2 rfl ?_
  refine lv_aload_n hx hb dL_premium_3 rfl (lv_at hl 0 rfl) ?_
  refine lv_iload_n hx hb dL_premium_4 rfl (lv_at hl 1 rfl) ?_
  refine lv_lload_n hx hb dL_premium_5 rfl (lv_at hl 2 rfl) ?_
  refine lv_iload hx hb dL_premium_6 (lv_at hl 3 rfl) ?_
  refine zx_call (X := "java/util/NoSuchElementException") (AX := va_A [(x, .inr (10, [.ref ro, .ref rw, .ref bo, .ref li, .ref sh, .ref tx, .ref lo, .ref nl])), (li, .inr (3, [lx0, lx1, lx2, .int (iz (0))]))] H.size) (fun _ _ _ h => h) (vx_runV (As := [.int (iz (ag)), .long (lz (mo)), .int (iz (po))]) (rest := [.int (iz (0)), .ref ou]) ⟨hx, hb, hml, hown, hts⟩ (c_X9_premium_x2 l G s1 s2 s3 x ro rw bo li sh tx lo nl lx0 lx1 lx2 ag mo po hl0 (h0) (h01) (h02) (h1) H.size) (cwV 3 hts gL_premium_X9_premium rfl rfl rfl (by decide +kernel) ⟨Nat.le_of_ble_eq_true rfl, Nat.le_of_ble_eq_true rfl⟩) (zpVe zXE_ok hE.1 hS hA hKX hP hD [0, 1] rfl rfl (va_recv hK hP (ci := 10) (q0 := 0) rfl rfl)) rfl rfl hl.1 rfl (lv_room (Nat.le_of_ble_eq_true rfl)) dL_premium_8 ⟨(by first | exact Nat.le_of_ble_eq_true rfl | (show _ ≤ (1 : Nat); omega)), (by first | exact Nat.le_of_ble_eq_true rfl | (show _ ≤ (6 : Nat); omega))⟩) hS (va_free (wc := [(x, .inr (10, [.ref ro, .ref rw, .ref bo, .ref li, .ref sh, .ref tx, .ref lo, .ref nl])), (li, .inr (3, [lx0, lx1, lx2, .int (iz (0))]))]) hD hS hA [0, 1] rfl) (fun aq_ _ ah_ => (va_free (wc := [(x, .inr (10, [.ref ro, .ref rw, .ref bo, .ref li, .ref sh, .ref tx, .ref lo, .ref nl])), (li, .inr (3, [lx0, lx1, lx2, .int (iz (0))]))]) hD hS hA [0, 1] rfl) aq_ ah_) (fun ce q9 H1 locs1 hsz9 hk9 hS1 hce hcv hcl => ?_)
  obtain ⟨hP1, hD1⟩ := va_join (wr := [(ou, zaL (G.2 0) 1 (fo))]) (w1 := []) hP hD [0, 1] [2] rfl rfl rfl (by decide) hk9 (va_free (wc := [(x, .inr (10, [.ref ro, .ref rw, .ref bo, .ref li, .ref sh, .ref tx, .ref lo, .ref nl])), (li, .inr (3, [lx0, lx1, lx2, .int (iz (0))]))]) hD hS hA [0, 1] rfl) (fun k q h => by cases h) zD_nil
  refine vx_catch hown [(⟨0, 12, 15, 13⟩ : ExceptionTableEntry)] (⟨0, 12, 19, 66⟩ : ExceptionTableEntry) [(⟨0, 12, 23, 19⟩ : ExceptionTableEntry)] (htab.trans rfl) (List.forall_mem_cons.mpr ⟨Or.inr ⟨by decide, "java/lang/IllegalArgumentException", hts (.classLink RL 13 "java/lang/IllegalArgumentException") (by decide +kernel), hE.2.2.2⟩, (fun _ h => nomatch h)⟩) (by decide) (by decide) (hts (.classLink RL 66 "java/util/NoSuchElementException") (by decide +kernel)) (va_Nw.use rfl (hKX.2.2.2 (.castable "java/util/NoSuchElementException" "java/util/NoSuchElementException") (by decide +kernel))) hce hcv hcl ?_
  have hP : va_P G.1 vwCl [(ou, zaL (G.2 0) 1 (fo))] H1 := (List.append_nil [(ou, zaL (G.2 0) 1 (fo))]) ▸ hP1
  have hD : va_D A [(ou, zaL (G.2 0) 1 (fo))] := (List.append_nil [(ou, zaL (G.2 0) 1 (fo))]) ▸ hD1
  have hS := hS1
  show W p l e rm_c_L_premium_x2 s m ([.ref x, .int (iz (ag)), .long (lz (mo)), .int (iz (po)), .ref ou] : List Value).toArray below meth c H1 locs1 (0 + 1) (0 + 6) Q (F0 m 19 ls [.ref q9])
  refine lv_astore (lv' := [(6, .ref q9), (0, .ref x), (1, .int (iz (ag))), (2, .long (lz (mo))), (4, .int (iz (po))), (5, .ref ou)]) hx hb dL_premium_19 hl (by decide) rfl (fun ls hl => ?_)
  refine lv_iconst (v := iz (2)) hx hb dL_premium_21 rfl ?_
  rw [hQ]
  exact zr_iret (z := 2) (u := ()) hx hb hr hlocks hP hD hS (by first | exact Nat.le_of_ble_eq_true rfl | omega) (by first | exact Nat.le_of_ble_eq_true rfl | omega) dL_premium_22 (show 2 = 2 from rfl)

def rm_c_L_reserve_x1 : Room := { frames := 10, cells := 1, slots := 6, locals := 180 }
set_option maxHeartbeats 1000000 in
set_option maxRecDepth 100000 in
theorem c_L_reserve_x1 (l : Launch) (G : zG) (s1 : Nat) (s2 : Nat) (s3 : Nat) (x : Nat) (ro : Nat) (rw : Nat) (bo : Nat) (li : Nat) (sh : Nat) (tx : Nat) (lo : Nat) (nl : Nat) (lx0 : Value) (lx1 : Value) (lx2 : Value) (ag : Int) (ye : Int) (mo : Int) (po : Int) (ib : Bool) (ou : Nat) (fo : Int → Int) (hl0 : l.stackTraces = false) (h0 : -2147483648 ≤ ag ∧ ag < 2147483648) (h00 : -2147483648 ≤ ye ∧ ye < 2147483648) (h01 : -9223372036854775808 ≤ mo ∧ mo < 9223372036854775808) (h02 : -2147483648 ≤ po ∧ po < 2147483648) (h1 : ¬ (0 ≤ ye ∧ 0 ≤ mo ∧ mo ≤ 1000000000 ∧ 0 ≤ po ∧ po ≤ 20000)) : zMe l (zXL s1 s2 s3) G yL_reserve wsL_reserve rm_c_L_reserve_x1 [.ref x, .int (iz (ag)), .int (iz (ye)), .long (lz (mo)), .int (iz (po)), .int (iz (zbb ib)), .ref ou] [(x, .inr (10, [.ref ro, .ref rw, .ref bo, .ref li, .ref sh, .ref tx, .ref lo, .ref nl])), (li, .inr (3, [lx0, lx1, lx2, .int (iz (0))])), (ou, zaL (G.2 0) 1 (fo))] (fun A => zQi G (fun (z : Int) (_ : Unit) => z = 1) (fun (_ : Unit) => [(ou, zaL (G.2 0) 1 (fo))]) A) 1 6 := by
  refine zMeW_of (cc := cL_reserve) (maxL := 9) (ret := (some .int)) (by decide) rfl (Nat.le_of_ble_eq_true rfl) ?_
  intro p e s m below meth c ls A Q hQ hx hb hr hts hown hlocks hml hnm htab hKX hE hP hD hA hS hl
  have hK := hKX.1
  obtain ⟨H, hH⟩ : ∃ h, h = s.heap := ⟨_, rfl⟩
  obtain ⟨locs, hlo⟩ : ∃ h : List Loc, h = [] := ⟨_, rfl⟩
  have hS : va_S A s.heap H locs := by rw [hH, hlo]; exact hS
  have hP : va_P G.1 vwCl [(x, .inr (10, [.ref ro, .ref rw, .ref bo, .ref li, .ref sh, .ref tx, .ref lo, .ref nl])), (li, .inr (3, [lx0, lx1, lx2, .int (iz (0))])), (ou, zaL (G.2 0) 1 (fo))] H := by rw [hH]; exact hP
  have hD : va_D A [(x, .inr (10, [.ref ro, .ref rw, .ref bo, .ref li, .ref sh, .ref tx, .ref lo, .ref nl])), (li, .inr (3, [lx0, lx1, lx2, .int (iz (0))])), (ou, zaL (G.2 0) 1 (fo))] := hD
  have hl : lv_has ls 9 [(0, .ref x), (1, .int (iz (ag))), (2, .int (iz (ye))), (3, .long (lz (mo))), (5, .int (iz (po))), (6, .int (iz (zbb ib))), (7, .ref ou)] := hl
  rw [← hH, ← hlo]
  refine lv_aload hx hb dL_reserve_0 (lv_at hl 6 rfl) ?_
  refine lv_iconst (v := iz (0)) hx hb dL_reserve_2 rfl ?_
  refine lv_aload_n hx hb dL_reserve_3 rfl (lv_at hl 0 rfl) ?_
  refine lv_iload_n hx hb dL_reserve_4 rfl (lv_at hl 1 rfl) ?_
  refine lv_iload_n hx hb dL_reserve_5 rfl (lv_at hl 2 rfl) ?_
  refine lv_lload_n hx hb dL_reserve_6 rfl (lv_at hl 3 rfl) ?_
  refine lv_iload hx hb dL_reserve_7 (lv_at hl 4 rfl) ?_
  refine lv_iload hx hb dL_reserve_9 (lv_at hl 5 rfl) ?_
  refine zx_call (X := "java/lang/IllegalArgumentException") (AX := va_A [(x, .inr (10, [.ref ro, .ref rw, .ref bo, .ref li, .ref sh, .ref tx, .ref lo, .ref nl])), (li, .inr (3, [lx0, lx1, lx2, .int (iz (0))]))] H.size) (fun _ _ _ h => h) (vx_runV (As := [.int (iz (ag)), .int (iz (ye)), .long (lz (mo)), .int (iz (po)), .int (iz (zbb ib))]) (rest := [.int (iz (0)), .ref ou]) ⟨hx, hb, hml, hown, hts⟩ (c_X9_reserve_x1 l G s1 s2 s3 x ro rw bo li sh tx lo nl lx0 lx1 lx2 ag ye mo po ib hl0 (h0) (h00) (h01) (h02) (h1) H.size) (cwV 5 hts gL_reserve_X9_reserve rfl rfl rfl (by decide +kernel) ⟨Nat.le_of_ble_eq_true rfl, Nat.le_of_ble_eq_true rfl⟩) (zpVe zXE_ok hE.1 hS hA hKX hP hD [0, 1] rfl rfl (va_recv hK hP (ci := 10) (q0 := 0) rfl rfl)) rfl rfl hl.1 rfl (lv_room (Nat.le_of_ble_eq_true rfl)) dL_reserve_11 ⟨(by first | exact Nat.le_of_ble_eq_true rfl | (show _ ≤ (1 : Nat); omega)), (by first | exact Nat.le_of_ble_eq_true rfl | (show _ ≤ (6 : Nat); omega))⟩) hS (va_free (wc := [(x, .inr (10, [.ref ro, .ref rw, .ref bo, .ref li, .ref sh, .ref tx, .ref lo, .ref nl])), (li, .inr (3, [lx0, lx1, lx2, .int (iz (0))]))]) hD hS hA [0, 1] rfl) (fun aq_ _ ah_ => (va_free (wc := [(x, .inr (10, [.ref ro, .ref rw, .ref bo, .ref li, .ref sh, .ref tx, .ref lo, .ref nl])), (li, .inr (3, [lx0, lx1, lx2, .int (iz (0))]))]) hD hS hA [0, 1] rfl) aq_ ah_) (fun ce q9 H1 locs1 hsz9 hk9 hS1 hce hcv hcl => ?_)
  obtain ⟨hP1, hD1⟩ := va_join (wr := [(ou, zaL (G.2 0) 1 (fo))]) (w1 := []) hP hD [0, 1] [2] rfl rfl rfl (by decide) hk9 (va_free (wc := [(x, .inr (10, [.ref ro, .ref rw, .ref bo, .ref li, .ref sh, .ref tx, .ref lo, .ref nl])), (li, .inr (3, [lx0, lx1, lx2, .int (iz (0))]))]) hD hS hA [0, 1] rfl) (fun k q h => by cases h) zD_nil
  refine vx_catch hown [] (⟨0, 15, 18, 13⟩ : ExceptionTableEntry) [(⟨0, 15, 22, 66⟩ : ExceptionTableEntry), (⟨0, 15, 26, 19⟩ : ExceptionTableEntry)] (htab.trans rfl) (fun _ h => nomatch h) (by decide) (by decide) (hts (.classLink RL 13 "java/lang/IllegalArgumentException") (by decide +kernel)) (va_Nw.use rfl (hKX.2.2.2 (.castable "java/lang/IllegalArgumentException" "java/lang/IllegalArgumentException") (by decide +kernel))) hce hcv hcl ?_
  have hP : va_P G.1 vwCl [(ou, zaL (G.2 0) 1 (fo))] H1 := (List.append_nil [(ou, zaL (G.2 0) 1 (fo))]) ▸ hP1
  have hD : va_D A [(ou, zaL (G.2 0) 1 (fo))] := (List.append_nil [(ou, zaL (G.2 0) 1 (fo))]) ▸ hD1
  have hS := hS1
  show W p l e rm_c_L_reserve_x1 s m ([.ref x, .int (iz (ag)), .int (iz (ye)), .long (lz (mo)), .int (iz (po)), .int (iz (zbb ib)), .ref ou] : List Value).toArray below meth c H1 locs1 (0 + 1) (0 + 6) Q (F0 m 18 ls [.ref q9])
  refine lv_astore (lv' := [(8, .ref q9), (0, .ref x), (1, .int (iz (ag))), (2, .int (iz (ye))), (3, .long (lz (mo))), (5, .int (iz (po))), (6, .int (iz (zbb ib))), (7, .ref ou)]) hx hb dL_reserve_18 hl (by decide) rfl (fun ls hl => ?_)
  refine lv_iconst (v := iz (1)) hx hb dL_reserve_20 rfl ?_
  rw [hQ]
  exact zr_iret (z := 1) (u := ()) hx hb hr hlocks hP hD hS (by first | exact Nat.le_of_ble_eq_true rfl | omega) (by first | exact Nat.le_of_ble_eq_true rfl | omega) dL_reserve_21 (show 1 = 1 from rfl)

def rm_c_L_reserve_x2 : Room := { frames := 9, cells := 1, slots := 6, locals := 160 }
set_option maxHeartbeats 1000000 in
set_option maxRecDepth 100000 in
theorem c_L_reserve_x2 (l : Launch) (G : zG) (s1 : Nat) (s2 : Nat) (s3 : Nat) (x : Nat) (ro : Nat) (rw : Nat) (bo : Nat) (li : Nat) (sh : Nat) (tx : Nat) (lo : Nat) (nl : Nat) (lx0 : Value) (lx1 : Value) (lx2 : Value) (ag : Int) (ye : Int) (mo : Int) (po : Int) (ib : Bool) (ou : Nat) (fo : Int → Int) (hl0 : l.stackTraces = false) (h0 : -2147483648 ≤ ag ∧ ag < 2147483648) (h00 : -2147483648 ≤ ye ∧ ye < 2147483648) (h01 : -9223372036854775808 ≤ mo ∧ mo < 9223372036854775808) (h02 : -2147483648 ≤ po ∧ po < 2147483648) (h1 : 0 ≤ ye ∧ 0 ≤ mo ∧ mo ≤ 1000000000 ∧ 0 ≤ po ∧ po ≤ 20000) : zMe l (zXL s1 s2 s3) G yL_reserve wsL_reserve rm_c_L_reserve_x2 [.ref x, .int (iz (ag)), .int (iz (ye)), .long (lz (mo)), .int (iz (po)), .int (iz (zbb ib)), .ref ou] [(x, .inr (10, [.ref ro, .ref rw, .ref bo, .ref li, .ref sh, .ref tx, .ref lo, .ref nl])), (li, .inr (3, [lx0, lx1, lx2, .int (iz (0))])), (ou, zaL (G.2 0) 1 (fo))] (fun A => zQi G (fun (z : Int) (_ : Unit) => z = 2) (fun (_ : Unit) => [(ou, zaL (G.2 0) 1 (fo))]) A) 1 6 := by
  refine zMeW_of (cc := cL_reserve) (maxL := 9) (ret := (some .int)) (by decide) rfl (Nat.le_of_ble_eq_true rfl) ?_
  intro p e s m below meth c ls A Q hQ hx hb hr hts hown hlocks hml hnm htab hKX hE hP hD hA hS hl
  have hK := hKX.1
  obtain ⟨H, hH⟩ : ∃ h, h = s.heap := ⟨_, rfl⟩
  obtain ⟨locs, hlo⟩ : ∃ h : List Loc, h = [] := ⟨_, rfl⟩
  have hS : va_S A s.heap H locs := by rw [hH, hlo]; exact hS
  have hP : va_P G.1 vwCl [(x, .inr (10, [.ref ro, .ref rw, .ref bo, .ref li, .ref sh, .ref tx, .ref lo, .ref nl])), (li, .inr (3, [lx0, lx1, lx2, .int (iz (0))])), (ou, zaL (G.2 0) 1 (fo))] H := by rw [hH]; exact hP
  have hD : va_D A [(x, .inr (10, [.ref ro, .ref rw, .ref bo, .ref li, .ref sh, .ref tx, .ref lo, .ref nl])), (li, .inr (3, [lx0, lx1, lx2, .int (iz (0))])), (ou, zaL (G.2 0) 1 (fo))] := hD
  have hl : lv_has ls 9 [(0, .ref x), (1, .int (iz (ag))), (2, .int (iz (ye))), (3, .long (lz (mo))), (5, .int (iz (po))), (6, .int (iz (zbb ib))), (7, .ref ou)] := hl
  rw [← hH, ← hlo]
  refine lv_aload hx hb dL_reserve_0 (lv_at hl 6 rfl) ?_
  refine lv_iconst (v := iz (0)) hx hb dL_reserve_2 rfl ?_
  refine lv_aload_n hx hb dL_reserve_3 rfl (lv_at hl 0 rfl) ?_
  refine lv_iload_n hx hb dL_reserve_4 rfl (lv_at hl 1 rfl) ?_
  refine lv_iload_n hx hb dL_reserve_5 rfl (lv_at hl 2 rfl) ?_
  refine lv_lload_n hx hb dL_reserve_6 rfl (lv_at hl 3 rfl) ?_
  refine lv_iload hx hb dL_reserve_7 (lv_at hl 4 rfl) ?_
  refine lv_iload hx hb dL_reserve_9 (lv_at hl 5 rfl) ?_
  refine zx_call (X := "java/util/NoSuchElementException") (AX := va_A [(x, .inr (10, [.ref ro, .ref rw, .ref bo, .ref li, .ref sh, .ref tx, .ref lo, .ref nl])), (li, .inr (3, [lx0, lx1, lx2, .int (iz (0))]))] H.size) (fun _ _ _ h => h) (vx_runV (As := [.int (iz (ag)), .int (iz (ye)), .long (lz (mo)), .int (iz (po)), .int (iz (zbb ib))]) (rest := [.int (iz (0)), .ref ou]) ⟨hx, hb, hml, hown, hts⟩ (c_X9_reserve_x2 l G s1 s2 s3 x ro rw bo li sh tx lo nl lx0 lx1 lx2 ag ye mo po ib hl0 (h0) (h00) (h01) (h02) (h1) H.size) (cwV 5 hts gL_reserve_X9_reserve rfl rfl rfl (by decide +kernel) ⟨Nat.le_of_ble_eq_true rfl, Nat.le_of_ble_eq_true rfl⟩) (zpVe zXE_ok hE.1 hS hA hKX hP hD [0, 1] rfl rfl (va_recv hK hP (ci := 10) (q0 := 0) rfl rfl)) rfl rfl hl.1 rfl (lv_room (Nat.le_of_ble_eq_true rfl)) dL_reserve_11 ⟨(by first | exact Nat.le_of_ble_eq_true rfl | (show _ ≤ (1 : Nat); omega)), (by first | exact Nat.le_of_ble_eq_true rfl | (show _ ≤ (6 : Nat); omega))⟩) hS (va_free (wc := [(x, .inr (10, [.ref ro, .ref rw, .ref bo, .ref li, .ref sh, .ref tx, .ref lo, .ref nl])), (li, .inr (3, [lx0, lx1, lx2, .int (iz (0))]))]) hD hS hA [0, 1] rfl) (fun aq_ _ ah_ => (va_free (wc := [(x, .inr (10, [.ref ro, .ref rw, .ref bo, .ref li, .ref sh, .ref tx, .ref lo, .ref nl])), (li, .inr (3, [lx0, lx1, lx2, .int (iz (0))]))]) hD hS hA [0, 1] rfl) aq_ ah_) (fun ce q9 H1 locs1 hsz9 hk9 hS1 hce hcv hcl => ?_)
  obtain ⟨hP1, hD1⟩ := va_join (wr := [(ou, zaL (G.2 0) 1 (fo))]) (w1 := []) hP hD [0, 1] [2] rfl rfl rfl (by decide) hk9 (va_free (wc := [(x, .inr (10, [.ref ro, .ref rw, .ref bo, .ref li, .ref sh, .ref tx, .ref lo, .ref nl])), (li, .inr (3, [lx0, lx1, lx2, .int (iz (0))]))]) hD hS hA [0, 1] rfl) (fun k q h => by cases h) zD_nil
  refine vx_catch hown [(⟨0, 15, 18, 13⟩ : ExceptionTableEntry)] (⟨0, 15, 22, 66⟩ : ExceptionTableEntry) [(⟨0, 15, 26, 19⟩ : ExceptionTableEntry)] (htab.trans rfl) (List.forall_mem_cons.mpr ⟨Or.inr ⟨by decide, "java/lang/IllegalArgumentException", hts (.classLink RL 13 "java/lang/IllegalArgumentException") (by decide +kernel), hE.2.2.2⟩, (fun _ h => nomatch h)⟩) (by decide) (by decide) (hts (.classLink RL 66 "java/util/NoSuchElementException") (by decide +kernel)) (va_Nw.use rfl (hKX.2.2.2 (.castable "java/util/NoSuchElementException" "java/util/NoSuchElementException") (by decide +kernel))) hce hcv hcl ?_
  have hP : va_P G.1 vwCl [(ou, zaL (G.2 0) 1 (fo))] H1 := (List.append_nil [(ou, zaL (G.2 0) 1 (fo))]) ▸ hP1
  have hD : va_D A [(ou, zaL (G.2 0) 1 (fo))] := (List.append_nil [(ou, zaL (G.2 0) 1 (fo))]) ▸ hD1
  have hS := hS1
  show W p l e rm_c_L_reserve_x2 s m ([.ref x, .int (iz (ag)), .int (iz (ye)), .long (lz (mo)), .int (iz (po)), .int (iz (zbb ib)), .ref ou] : List Value).toArray below meth c H1 locs1 (0 + 1) (0 + 6) Q (F0 m 22 ls [.ref q9])
  refine lv_astore (lv' := [(8, .ref q9), (0, .ref x), (1, .int (iz (ag))), (2, .int (iz (ye))), (3, .long (lz (mo))), (5, .int (iz (po))), (6, .int (iz (zbb ib))), (7, .ref ou)]) hx hb dL_reserve_22 hl (by decide) rfl (fun ls hl => ?_)
  refine lv_iconst (v := iz (2)) hx hb dL_reserve_24 rfl ?_
  rw [hQ]
  exact zr_iret (z := 2) (u := ()) hx hb hr hlocks hP hD hS (by first | exact Nat.le_of_ble_eq_true rfl | omega) (by first | exact Nat.le_of_ble_eq_true rfl | omega) dL_reserve_25 (show 2 = 2 from rfl)

def rm_c_L_setMode_o : Room := { frames := 2, cells := 0, slots := 0, locals := 47 }
set_option maxHeartbeats 1000000 in
set_option maxRecDepth 100000 in
theorem c_L_setMode_o (l : Launch) (G : zG) (x : Nat) (ro : Nat) (rw : Nat) (bo : Nat) (li : Nat) (sh : Nat) (tx : Nat) (lo : Nat) (nl : Nat) (md : Int) (ou : Nat) (fo : Int → Int) (h0 : -2147483648 ≤ md ∧ md < 2147483648) (h1 : 0 ≤ md ∧ md ≤ 7) : zM l G yL_setMode wsL_setMode rm_c_L_setMode_o [.ref x, .int (iz (md)), .ref ou] [(x, .inr (10, [.ref ro, .ref rw, .ref bo, .ref li, .ref sh, .ref tx, .ref lo, .ref nl])), (ro, .inr (5, [.int (iz (6))])), (ou, zaL (G.2 0) 1 (fo))] (fun A => zQi G (fun (z : Int) (f2 : (Int → Int)) => z = 0 ∧ (f2 0) = 6) (fun (f2 : (Int → Int)) => [(ou, zaL (G.2 0) 1 (f2))]) A) 0 0 := by
  refine zMW_of (cc := cL_setMode) (maxL := 4) (ret := (some .int)) (by decide) rfl (Nat.le_of_ble_eq_true rfl) ?_
  intro p e s m below meth c ls A Q hQ hx hb hr hts hown hlocks hml hnm hKX hP hD hA hS hl
  have hK := hKX.1
  obtain ⟨H, hH⟩ : ∃ h, h = s.heap := ⟨_, rfl⟩
  obtain ⟨locs, hlo⟩ : ∃ h : List Loc, h = [] := ⟨_, rfl⟩
  have hS : va_S A s.heap H locs := by rw [hH, hlo]; exact hS
  have hP : va_P G.1 vwCl [(x, .inr (10, [.ref ro, .ref rw, .ref bo, .ref li, .ref sh, .ref tx, .ref lo, .ref nl])), (ro, .inr (5, [.int (iz (6))])), (ou, zaL (G.2 0) 1 (fo))] H := by rw [hH]; exact hP
  have hD : va_D A [(x, .inr (10, [.ref ro, .ref rw, .ref bo, .ref li, .ref sh, .ref tx, .ref lo, .ref nl])), (ro, .inr (5, [.int (iz (6))])), (ou, zaL (G.2 0) 1 (fo))] := hD
  have hl : lv_has ls 4 [(0, .ref x), (1, .int (iz (md))), (2, .ref ou)] := hl
  rw [← hH, ← hlo]
  refine lv_aload_n hx hb dL_setMode_0 rfl (lv_at hl 2 rfl) ?_
  refine lv_iconst (v := iz (0)) hx hb dL_setMode_1 rfl ?_
  refine lv_aload_n hx hb dL_setMode_2 rfl (lv_at hl 0 rfl) ?_
  refine lv_iload_n hx hb dL_setMode_3 rfl (lv_at hl 1 rfl) ?_
  refine zc_i (wr := [(ou, zaL (G.2 0) 1 (fo))]) (va_runV (As := [.int (iz (md))]) (rest := [.int (iz (0)), .ref ou]) ⟨hx, hb, hml, hown, hts⟩ (c_X9_setMode_o l G x ro rw bo li sh tx lo nl md (h0) (h1) H.size) (cwV 1 hts gL_setMode_X9_setMode rfl rfl rfl (by decide +kernel) ⟨Nat.le_of_ble_eq_true rfl, Nat.le_of_ble_eq_true rfl⟩) (zpV hKX hP hD [0, 1] rfl rfl 0 10 rfl rfl) rfl rfl hl.1 rfl (lv_room (Nat.le_of_ble_eq_true rfl)) dL_setMode_4 ⟨(by first | exact Nat.le_of_ble_eq_true rfl | (show _ ≤ (0 : Nat); omega)), (by first | exact Nat.le_of_ble_eq_true rfl | (show _ ≤ (0 : Nat); omega))⟩) hP hD hS hA [0, 1] [2] rfl rfl rfl (by decide) (fun zz u_1 H locs hz hP hD hS => ?_)
  have hP : va_P G.1 vwCl [(ou, zaL (G.2 0) 1 (fo)), (x, .inr (10, [.ref ro, .ref rw, .ref bo, .ref li, .ref sh, .ref tx, .ref lo, .ref nl])), (ro, .inr (5, [.int (iz (md))]))] H := hP
  have hD : va_D A [(ou, zaL (G.2 0) 1 (fo)), (x, .inr (10, [.ref ro, .ref rw, .ref bo, .ref li, .ref sh, .ref tx, .ref lo, .ref nl])), (ro, .inr (5, [.int (iz (md))]))] := hD
  have hz : zz = 6 := hz
  refine zr_i2l hx hb (x := zz) (⟨by omega, by omega⟩) dL_setMode_7 ?_
  refine zr_last hx hb hK hP hD hS 0 0 rfl rfl (i := 0) (x := zz) (⟨by omega, by omega, by omega⟩) dL_setMode_8 (fun H locs hP hD hS => ?_)
  have hP : va_P G.1 vwCl [(ou, zaL (G.2 0) 1 (zup fo 0 zz)), (x, .inr (10, [.ref ro, .ref rw, .ref bo, .ref li, .ref sh, .ref tx, .ref lo, .ref nl])), (ro, .inr (5, [.int (iz (md))]))] H := hP
  have hD : va_D A [(ou, zaL (G.2 0) 1 (zup fo 0 zz)), (x, .inr (10, [.ref ro, .ref rw, .ref bo, .ref li, .ref sh, .ref tx, .ref lo, .ref nl])), (ro, .inr (5, [.int (iz (md))]))] := hD
  refine lv_goto (tgt := 15) hx hb dL_setMode_9 (by decide) ?_
  refine lv_iconst (v := iz (0)) hx hb dL_setMode_15 rfl ?_
  rw [hQ]
  exact zr_iret (z := 0) (u := (zup fo 0 zz)) hx hb hr hlocks (hP.sub [0] rfl) (hD.sub [0] (by decide) rfl) hS (by first | exact Nat.le_of_ble_eq_true rfl | omega) (by first | exact Nat.le_of_ble_eq_true rfl | omega) dL_setMode_16 (show 0 = 0 ∧ ((zup fo 0 zz) 0) = 6 from ⟨rfl, by rw [zup_s]; exact hz⟩)

def rm_c_L_setMode_x : Room := { frames := 8, cells := 1, slots := 6, locals := 132 }
set_option maxHeartbeats 1000000 in
set_option maxRecDepth 100000 in
theorem c_L_setMode_x (l : Launch) (G : zG) (s1 : Nat) (s2 : Nat) (s3 : Nat) (x : Nat) (ro : Nat) (rw : Nat) (bo : Nat) (li : Nat) (sh : Nat) (tx : Nat) (lo : Nat) (nl : Nat) (md : Int) (ou : Nat) (fo : Int → Int) (hl0 : l.stackTraces = false) (h0 : -2147483648 ≤ md ∧ md < 2147483648) (h1 : ¬ (0 ≤ md ∧ md ≤ 7)) : zMe l (zXL s1 s2 s3) G yL_setMode wsL_setMode rm_c_L_setMode_x [.ref x, .int (iz (md)), .ref ou] [(x, .inr (10, [.ref ro, .ref rw, .ref bo, .ref li, .ref sh, .ref tx, .ref lo, .ref nl])), (ou, zaL (G.2 0) 1 (fo))] (fun A => zQi G (fun (z : Int) (_ : Unit) => z = 1) (fun (_ : Unit) => [(ou, zaL (G.2 0) 1 (fo))]) A) 1 6 := by
  refine zMeW_of (cc := cL_setMode) (maxL := 4) (ret := (some .int)) (by decide) rfl (Nat.le_of_ble_eq_true rfl) ?_
  intro p e s m below meth c ls A Q hQ hx hb hr hts hown hlocks hml hnm htab hKX hE hP hD hA hS hl
  have hK := hKX.1
  obtain ⟨H, hH⟩ : ∃ h, h = s.heap := ⟨_, rfl⟩
  obtain ⟨locs, hlo⟩ : ∃ h : List Loc, h = [] := ⟨_, rfl⟩
  have hS : va_S A s.heap H locs := by rw [hH, hlo]; exact hS
  have hP : va_P G.1 vwCl [(x, .inr (10, [.ref ro, .ref rw, .ref bo, .ref li, .ref sh, .ref tx, .ref lo, .ref nl])), (ou, zaL (G.2 0) 1 (fo))] H := by rw [hH]; exact hP
  have hD : va_D A [(x, .inr (10, [.ref ro, .ref rw, .ref bo, .ref li, .ref sh, .ref tx, .ref lo, .ref nl])), (ou, zaL (G.2 0) 1 (fo))] := hD
  have hl : lv_has ls 4 [(0, .ref x), (1, .int (iz (md))), (2, .ref ou)] := hl
  rw [← hH, ← hlo]
  refine lv_aload_n hx hb dL_setMode_0 rfl (lv_at hl 2 rfl) ?_
  refine lv_iconst (v := iz (0)) hx hb dL_setMode_1 rfl ?_
  refine lv_aload_n hx hb dL_setMode_2 rfl (lv_at hl 0 rfl) ?_
  refine lv_iload_n hx hb dL_setMode_3 rfl (lv_at hl 1 rfl) ?_
  refine zx_call (X := "java/lang/IllegalArgumentException") (AX := va_A [(x, .inr (10, [.ref ro, .ref rw, .ref bo, .ref li, .ref sh, .ref tx, .ref lo, .ref nl]))] H.size) (fun _ _ _ h => h) (vx_runV (As := [.int (iz (md))]) (rest := [.int (iz (0)), .ref ou]) ⟨hx, hb, hml, hown, hts⟩ (c_X9_setMode_x l G s1 s2 s3 x ro rw bo li sh tx lo nl md hl0 (h0) (h1) H.size) (cwV 1 hts gL_setMode_X9_setMode rfl rfl rfl (by decide +kernel) ⟨Nat.le_of_ble_eq_true rfl, Nat.le_of_ble_eq_true rfl⟩) (zpVe zXE_ok hE.1 hS hA hKX hP hD [0] rfl rfl (va_recv hK hP (ci := 10) (q0 := 0) rfl rfl)) rfl rfl hl.1 rfl (lv_room (Nat.le_of_ble_eq_true rfl)) dL_setMode_4 ⟨(by first | exact Nat.le_of_ble_eq_true rfl | (show _ ≤ (1 : Nat); omega)), (by first | exact Nat.le_of_ble_eq_true rfl | (show _ ≤ (6 : Nat); omega))⟩) hS (va_free (wc := [(x, .inr (10, [.ref ro, .ref rw, .ref bo, .ref li, .ref sh, .ref tx, .ref lo, .ref nl]))]) hD hS hA [0] rfl) (fun aq_ _ ah_ => (va_free (wc := [(x, .inr (10, [.ref ro, .ref rw, .ref bo, .ref li, .ref sh, .ref tx, .ref lo, .ref nl]))]) hD hS hA [0] rfl) aq_ ah_) (fun ce q9 H1 locs1 hsz9 hk9 hS1 hce hcv hcl => ?_)
  obtain ⟨hP1, hD1⟩ := va_join (wr := [(ou, zaL (G.2 0) 1 (fo))]) (w1 := []) hP hD [0] [1] rfl rfl rfl (by decide) hk9 (va_free (wc := [(x, .inr (10, [.ref ro, .ref rw, .ref bo, .ref li, .ref sh, .ref tx, .ref lo, .ref nl]))]) hD hS hA [0] rfl) (fun k q h => by cases h) zD_nil
  refine vx_catch hown [] (⟨0, 9, 12, 13⟩ : ExceptionTableEntry) [] (htab.trans rfl) (fun _ h => nomatch h) (by decide) (by decide) (hts (.classLink RL 13 "java/lang/IllegalArgumentException") (by decide +kernel)) (va_Nw.use rfl (hKX.2.2.2 (.castable "java/lang/IllegalArgumentException" "java/lang/IllegalArgumentException") (by decide +kernel))) hce hcv hcl ?_
  have hP : va_P G.1 vwCl [(ou, zaL (G.2 0) 1 (fo))] H1 := (List.append_nil [(ou, zaL (G.2 0) 1 (fo))]) ▸ hP1
  have hD : va_D A [(ou, zaL (G.2 0) 1 (fo))] := (List.append_nil [(ou, zaL (G.2 0) 1 (fo))]) ▸ hD1
  have hS := hS1
  show W p l e rm_c_L_setMode_x s m ([.ref x, .int (iz (md)), .ref ou] : List Value).toArray below meth c H1 locs1 (0 + 1) (0 + 6) Q (F0 m 12 ls [.ref q9])
  refine lv_astore_n (lv' := [(3, .ref q9), (0, .ref x), (1, .int (iz (md))), (2, .ref ou)]) hx hb dL_setMode_12 rfl hl (by decide) rfl (fun ls hl => ?_)
  refine lv_iconst (v := iz (1)) hx hb dL_setMode_13 rfl ?_
  rw [hQ]
  exact zr_iret (z := 1) (u := ()) hx hb hr hlocks hP hD hS (by first | exact Nat.le_of_ble_eq_true rfl | omega) (by first | exact Nat.le_of_ble_eq_true rfl | omega) dL_setMode_14 (show 1 = 1 from rfl)

def rm_c_L_round_o : Room := { frames := 4, cells := 0, slots := 0, locals := 107 }
set_option maxHeartbeats 1000000 in
set_option maxRecDepth 100000 in
theorem c_L_round_o (l : Launch) (G : zG) (x : Nat) (ro : Nat) (rw : Nat) (bo : Nat) (li : Nat) (sh : Nat) (tx : Nat) (lo : Nat) (nl : Nat) (ov : Int) (un : Int) (dg : Int) (ou : Nat) (fo : Int → Int) (h0 : -9223372036854775808 ≤ ov ∧ ov < 9223372036854775808) (h01 : -9223372036854775808 ≤ un ∧ un < 9223372036854775808) (h02 : -2147483648 ≤ dg ∧ dg < 2147483648) (h1 : -1000000000000 ≤ ov ∧ ov ≤ 1000000000000 ∧ 1 ≤ un ∧ un ≤ 1000000000000 ∧ 0 ≤ dg ∧ dg ≤ 6) : zM l G yL_round wsL_round rm_c_L_round_o [.ref x, .long (lz (ov)), .long (lz (un)), .int (iz (dg)), .ref ou] [(x, .inr (10, [.ref ro, .ref rw, .ref bo, .ref li, .ref sh, .ref tx, .ref lo, .ref nl])), (ro, .inr (5, [.int (iz (6))])), (ou, zaL (G.2 0) 1 (fo))] (fun A => zQi G (fun (z : Int) (f2 : (Int → Int)) => z = 0 ∧ (f2 0) = zr6 (ov * 10 ^ dg.toNat) un) (fun (f2 : (Int → Int)) => [(ou, zaL (G.2 0) 1 (f2))]) A) 0 0 := by
  refine zMW_of (cc := cL_round) (maxL := 8) (ret := (some .int)) (by decide) rfl (Nat.le_of_ble_eq_true rfl) ?_
  intro p e s m below meth c ls A Q hQ hx hb hr hts hown hlocks hml hnm hKX hP hD hA hS hl
  have hK := hKX.1
  obtain ⟨H, hH⟩ : ∃ h, h = s.heap := ⟨_, rfl⟩
  obtain ⟨locs, hlo⟩ : ∃ h : List Loc, h = [] := ⟨_, rfl⟩
  have hS : va_S A s.heap H locs := by rw [hH, hlo]; exact hS
  have hP : va_P G.1 vwCl [(x, .inr (10, [.ref ro, .ref rw, .ref bo, .ref li, .ref sh, .ref tx, .ref lo, .ref nl])), (ro, .inr (5, [.int (iz (6))])), (ou, zaL (G.2 0) 1 (fo))] H := by rw [hH]; exact hP
  have hD : va_D A [(x, .inr (10, [.ref ro, .ref rw, .ref bo, .ref li, .ref sh, .ref tx, .ref lo, .ref nl])), (ro, .inr (5, [.int (iz (6))])), (ou, zaL (G.2 0) 1 (fo))] := hD
  have hl : lv_has ls 8 [(0, .ref x), (1, .long (lz (ov))), (3, .long (lz (un))), (5, .int (iz (dg))), (6, .ref ou)] := hl
  rw [← hH, ← hlo]
  refine lv_aload hx hb dL_round_0 (lv_at hl 4 rfl) ?_
  refine lv_iconst (v := iz (0)) hx hb dL_round_2 rfl ?_
  refine lv_aload_n hx hb dL_round_3 rfl (lv_at hl 0 rfl) ?_
  refine lv_lload_n hx hb dL_round_4 rfl (lv_at hl 1 rfl) ?_
  refine lv_lload_n hx hb dL_round_5 rfl (lv_at hl 2 rfl) ?_
  refine lv_iload hx hb dL_round_6 (lv_at hl 3 rfl) ?_
  refine zc_l (wr := [(ou, zaL (G.2 0) 1 (fo))]) (va_runV (As := [.long (lz (ov)), .long (lz (un)), .int (iz (dg))]) (rest := [.int (iz (0)), .ref ou]) ⟨hx, hb, hml, hown, hts⟩ (c_X9_round_o l G x ro rw bo li sh tx lo nl ov un dg (h0) (h01) (h02) (h1) H.size) (cwV 3 hts gL_round_X9_round rfl rfl rfl (by decide +kernel) ⟨Nat.le_of_ble_eq_true rfl, Nat.le_of_ble_eq_true rfl⟩) (zpV hKX hP hD [0, 1] rfl rfl 0 10 rfl rfl) rfl rfl hl.1 rfl (lv_room (Nat.le_of_ble_eq_true rfl)) dL_round_8 ⟨(by first | exact Nat.le_of_ble_eq_true rfl | (show _ ≤ (0 : Nat); omega)), (by first | exact Nat.le_of_ble_eq_true rfl | (show _ ≤ (0 : Nat); omega))⟩) hP hD hS hA [0, 1] [2] rfl rfl rfl (by decide) (fun zz u_1 H locs hz hP hD hS => ?_)
  have hP : va_P G.1 vwCl [(ou, zaL (G.2 0) 1 (fo)), (x, .inr (10, [.ref ro, .ref rw, .ref bo, .ref li, .ref sh, .ref tx, .ref lo, .ref nl])), (ro, .inr (5, [.int (iz (6))]))] H := hP
  have hD : va_D A [(ou, zaL (G.2 0) 1 (fo)), (x, .inr (10, [.ref ro, .ref rw, .ref bo, .ref li, .ref sh, .ref tx, .ref lo, .ref nl])), (ro, .inr (5, [.int (iz (6))]))] := hD
  have hz : zz = zr6 (ov * 10 ^ dg.toNat) un := hz
  refine zr_last hx hb hK hP hD hS 0 0 rfl rfl (i := 0) (x := zz) (⟨by omega, by omega, by omega⟩) dL_round_11 (fun H locs hP hD hS => ?_)
  have hP : va_P G.1 vwCl [(ou, zaL (G.2 0) 1 (zup fo 0 zz)), (x, .inr (10, [.ref ro, .ref rw, .ref bo, .ref li, .ref sh, .ref tx, .ref lo, .ref nl])), (ro, .inr (5, [.int (iz (6))]))] H := hP
  have hD : va_D A [(ou, zaL (G.2 0) 1 (zup fo 0 zz)), (x, .inr (10, [.ref ro, .ref rw, .ref bo, .ref li, .ref sh, .ref tx, .ref lo, .ref nl])), (ro, .inr (5, [.int (iz (6))]))] := hD
  refine lv_goto (tgt := 23) hx hb dL_round_12 (by decide) ?_
  refine lv_iconst (v := iz (0)) hx hb dL_round_23 rfl ?_
  rw [hQ]
  exact zr_iret (z := 0) (u := (zup fo 0 zz)) hx hb hr hlocks (hP.sub [0] rfl) (hD.sub [0] (by decide) rfl) hS (by first | exact Nat.le_of_ble_eq_true rfl | omega) (by first | exact Nat.le_of_ble_eq_true rfl | omega) dL_round_24 (show 0 = 0 ∧ ((zup fo 0 zz) 0) = zr6 (ov * 10 ^ dg.toNat) un from ⟨rfl, by rw [zup_s]; exact hz⟩)

def rm_c_L_round_x : Room := { frames := 8, cells := 1, slots := 6, locals := 138 }
set_option maxHeartbeats 1000000 in
set_option maxRecDepth 100000 in
theorem c_L_round_x (l : Launch) (G : zG) (s1 : Nat) (s2 : Nat) (s3 : Nat) (x : Nat) (ro : Nat) (rw : Nat) (bo : Nat) (li : Nat) (sh : Nat) (tx : Nat) (lo : Nat) (nl : Nat) (ov : Int) (un : Int) (dg : Int) (ou : Nat) (fo : Int → Int) (hl0 : l.stackTraces = false) (h0 : -9223372036854775808 ≤ ov ∧ ov < 9223372036854775808) (h01 : -9223372036854775808 ≤ un ∧ un < 9223372036854775808) (h02 : -2147483648 ≤ dg ∧ dg < 2147483648) (h1 : ¬ (-1000000000000 ≤ ov ∧ ov ≤ 1000000000000 ∧ 1 ≤ un ∧ un ≤ 1000000000000 ∧ 0 ≤ dg ∧ dg ≤ 6)) : zMe l (zXL s1 s2 s3) G yL_round wsL_round rm_c_L_round_x [.ref x, .long (lz (ov)), .long (lz (un)), .int (iz (dg)), .ref ou] [(x, .inr (10, [.ref ro, .ref rw, .ref bo, .ref li, .ref sh, .ref tx, .ref lo, .ref nl])), (ou, zaL (G.2 0) 1 (fo))] (fun A => zQi G (fun (z : Int) (_ : Unit) => z = 1) (fun (_ : Unit) => [(ou, zaL (G.2 0) 1 (fo))]) A) 1 6 := by
  refine zMeW_of (cc := cL_round) (maxL := 8) (ret := (some .int)) (by decide) rfl (Nat.le_of_ble_eq_true rfl) ?_
  intro p e s m below meth c ls A Q hQ hx hb hr hts hown hlocks hml hnm htab hKX hE hP hD hA hS hl
  have hK := hKX.1
  obtain ⟨H, hH⟩ : ∃ h, h = s.heap := ⟨_, rfl⟩
  obtain ⟨locs, hlo⟩ : ∃ h : List Loc, h = [] := ⟨_, rfl⟩
  have hS : va_S A s.heap H locs := by rw [hH, hlo]; exact hS
  have hP : va_P G.1 vwCl [(x, .inr (10, [.ref ro, .ref rw, .ref bo, .ref li, .ref sh, .ref tx, .ref lo, .ref nl])), (ou, zaL (G.2 0) 1 (fo))] H := by rw [hH]; exact hP
  have hD : va_D A [(x, .inr (10, [.ref ro, .ref rw, .ref bo, .ref li, .ref sh, .ref tx, .ref lo, .ref nl])), (ou, zaL (G.2 0) 1 (fo))] := hD
  have hl : lv_has ls 8 [(0, .ref x), (1, .long (lz (ov))), (3, .long (lz (un))), (5, .int (iz (dg))), (6, .ref ou)] := hl
  rw [← hH, ← hlo]
  refine lv_aload hx hb dL_round_0 (lv_at hl 4 rfl) ?_
  refine lv_iconst (v := iz (0)) hx hb dL_round_2 rfl ?_
  refine lv_aload_n hx hb dL_round_3 rfl (lv_at hl 0 rfl) ?_
  refine lv_lload_n hx hb dL_round_4 rfl (lv_at hl 1 rfl) ?_
  refine lv_lload_n hx hb dL_round_5 rfl (lv_at hl 2 rfl) ?_
  refine lv_iload hx hb dL_round_6 (lv_at hl 3 rfl) ?_
  refine zx_call (X := "java/lang/IllegalArgumentException") (AX := va_A [(x, .inr (10, [.ref ro, .ref rw, .ref bo, .ref li, .ref sh, .ref tx, .ref lo, .ref nl]))] H.size) (fun _ _ _ h => h) (vx_runV (As := [.long (lz (ov)), .long (lz (un)), .int (iz (dg))]) (rest := [.int (iz (0)), .ref ou]) ⟨hx, hb, hml, hown, hts⟩ (c_X9_round_x l G s1 s2 s3 x ro rw bo li sh tx lo nl ov un dg hl0 (h0) (h01) (h02) (h1) H.size) (cwV 3 hts gL_round_X9_round rfl rfl rfl (by decide +kernel) ⟨Nat.le_of_ble_eq_true rfl, Nat.le_of_ble_eq_true rfl⟩) (zpVe zXE_ok hE.1 hS hA hKX hP hD [0] rfl rfl (va_recv hK hP (ci := 10) (q0 := 0) rfl rfl)) rfl rfl hl.1 rfl (lv_room (Nat.le_of_ble_eq_true rfl)) dL_round_8 ⟨(by first | exact Nat.le_of_ble_eq_true rfl | (show _ ≤ (1 : Nat); omega)), (by first | exact Nat.le_of_ble_eq_true rfl | (show _ ≤ (6 : Nat); omega))⟩) hS (va_free (wc := [(x, .inr (10, [.ref ro, .ref rw, .ref bo, .ref li, .ref sh, .ref tx, .ref lo, .ref nl]))]) hD hS hA [0] rfl) (fun aq_ _ ah_ => (va_free (wc := [(x, .inr (10, [.ref ro, .ref rw, .ref bo, .ref li, .ref sh, .ref tx, .ref lo, .ref nl]))]) hD hS hA [0] rfl) aq_ ah_) (fun ce q9 H1 locs1 hsz9 hk9 hS1 hce hcv hcl => ?_)
  obtain ⟨hP1, hD1⟩ := va_join (wr := [(ou, zaL (G.2 0) 1 (fo))]) (w1 := []) hP hD [0] [1] rfl rfl rfl (by decide) hk9 (va_free (wc := [(x, .inr (10, [.ref ro, .ref rw, .ref bo, .ref li, .ref sh, .ref tx, .ref lo, .ref nl]))]) hD hS hA [0] rfl) (fun k q h => by cases h) zD_nil
  refine vx_catch hown [] (⟨0, 12, 15, 13⟩ : ExceptionTableEntry) [(⟨0, 12, 19, 19⟩ : ExceptionTableEntry)] (htab.trans rfl) (fun _ h => nomatch h) (by decide) (by decide) (hts (.classLink RL 13 "java/lang/IllegalArgumentException") (by decide +kernel)) (va_Nw.use rfl (hKX.2.2.2 (.castable "java/lang/IllegalArgumentException" "java/lang/IllegalArgumentException") (by decide +kernel))) hce hcv hcl ?_
  have hP : va_P G.1 vwCl [(ou, zaL (G.2 0) 1 (fo))] H1 := (List.append_nil [(ou, zaL (G.2 0) 1 (fo))]) ▸ hP1
  have hD : va_D A [(ou, zaL (G.2 0) 1 (fo))] := (List.append_nil [(ou, zaL (G.2 0) 1 (fo))]) ▸ hD1
  have hS := hS1
  show W p l e rm_c_L_round_x s m ([.ref x, .long (lz (ov)), .long (lz (un)), .int (iz (dg)), .ref ou] : List Value).toArray below meth c H1 locs1 (0 + 1) (0 + 6) Q (F0 m 15 ls [.ref q9])
  refine lv_astore (lv' := [(7, .ref q9), (0, .ref x), (1, .long (lz (ov))), (3, .long (lz (un))), (5, .int (iz (dg))), (6, .ref ou)]) hx hb dL_round_15 hl (by decide) rfl (fun ls hl => ?_)
  refine lv_iconst (v := iz (1)) hx hb dL_round_17 rfl ?_
  rw [hQ]
  exact zr_iret (z := 1) (u := ()) hx hb hr hlocks hP hD hS (by first | exact Nat.le_of_ble_eq_true rfl | omega) (by first | exact Nat.le_of_ble_eq_true rfl | omega) dL_round_18 (show 1 = 1 from rfl)

def rm_c_L_pay_o : Room := { frames := 3, cells := 0, slots := 0, locals := 75 }
set_option maxHeartbeats 1000000 in
set_option maxRecDepth 100000 in
theorem c_L_pay_o (l : Launch) (G : zG) (x : Nat) (ro : Nat) (rw : Nat) (bo : Nat) (li : Nat) (sh : Nat) (tx : Nat) (lo : Nat) (nl : Nat) (am : Nat) (q : Nat) (bq : Nat) (pe : Int) (mo : Int) (ou : Nat) (fo : Int → Int) (h0 : -2147483648 ≤ pe ∧ pe < 2147483648) (h01 : -9223372036854775808 ≤ mo ∧ mo < 9223372036854775808) (h1 : 0 ≤ pe ∧ pe ≤ 40 ∧ -1000000000 ≤ mo ∧ mo ≤ 1000000000) : zM l G yL_pay wsL_pay rm_c_L_pay_o [.ref x, .int (iz (pe)), .long (lz (mo)), .ref ou] [(x, .inr (10, [.ref ro, .ref rw, .ref bo, .ref li, .ref sh, .ref tx, .ref lo, .ref nl])), (rw, .inr (6, [.ref am, .ref q, .ref bq])), (am, zaL (G.2 0) 41 (fun _ => 0)), (ou, zaL (G.2 0) 1 (fo))] (fun A => zQi G (fun (z : Int) (f2 : (Int → Int)) => z = 0 ∧ (f2 0) = mo) (fun (f2 : (Int → Int)) => [(ou, zaL (G.2 0) 1 (f2))]) A) 0 0 := by
  refine zMW_of (cc := cL_pay) (maxL := 6) (ret := (some .int)) (by decide) rfl (Nat.le_of_ble_eq_true rfl) ?_
  intro p e s m below meth c ls A Q hQ hx hb hr hts hown hlocks hml hnm hKX hP hD hA hS hl
  have hK := hKX.1
  obtain ⟨H, hH⟩ : ∃ h, h = s.heap := ⟨_, rfl⟩
  obtain ⟨locs, hlo⟩ : ∃ h : List Loc, h = [] := ⟨_, rfl⟩
  have hS : va_S A s.heap H locs := by rw [hH, hlo]; exact hS
  have hP : va_P G.1 vwCl [(x, .inr (10, [.ref ro, .ref rw, .ref bo, .ref li, .ref sh, .ref tx, .ref lo, .ref nl])), (rw, .inr (6, [.ref am, .ref q, .ref bq])), (am, zaL (G.2 0) 41 (fun _ => 0)), (ou, zaL (G.2 0) 1 (fo))] H := by rw [hH]; exact hP
  have hD : va_D A [(x, .inr (10, [.ref ro, .ref rw, .ref bo, .ref li, .ref sh, .ref tx, .ref lo, .ref nl])), (rw, .inr (6, [.ref am, .ref q, .ref bq])), (am, zaL (G.2 0) 41 (fun _ => 0)), (ou, zaL (G.2 0) 1 (fo))] := hD
  have hl : lv_has ls 6 [(0, .ref x), (1, .int (iz (pe))), (2, .long (lz (mo))), (4, .ref ou)] := hl
  rw [← hH, ← hlo]
  refine lv_aload hx hb dL_pay_0 (lv_at hl 3 rfl) ?_
  refine lv_iconst (v := iz (0)) hx hb dL_pay_2 rfl ?_
  refine lv_aload_n hx hb dL_pay_3 rfl (lv_at hl 0 rfl) ?_
  refine lv_iload_n hx hb dL_pay_4 rfl (lv_at hl 1 rfl) ?_
  refine lv_lload_n hx hb dL_pay_5 rfl (lv_at hl 2 rfl) ?_
  refine zc_l (wr := [(ou, zaL (G.2 0) 1 (fo))]) (va_runV (As := [.int (iz (pe)), .long (lz (mo))]) (rest := [.int (iz (0)), .ref ou]) ⟨hx, hb, hml, hown, hts⟩ (c_X9_pay_o l G x ro rw bo li sh tx lo nl am q bq pe mo (h0) (h01) (h1) H.size) (cwV 2 hts gL_pay_X9_pay rfl rfl rfl (by decide +kernel) ⟨Nat.le_of_ble_eq_true rfl, Nat.le_of_ble_eq_true rfl⟩) (zpV hKX hP hD [0, 1, 2] rfl rfl 0 10 rfl rfl) rfl rfl hl.1 rfl (lv_room (Nat.le_of_ble_eq_true rfl)) dL_pay_6 ⟨(by first | exact Nat.le_of_ble_eq_true rfl | (show _ ≤ (0 : Nat); omega)), (by first | exact Nat.le_of_ble_eq_true rfl | (show _ ≤ (0 : Nat); omega))⟩) hP hD hS hA [0, 1, 2] [3] rfl rfl rfl (by decide) (fun zz u_1 H locs hz hP hD hS => ?_)
  generalize u_1 = u0_ at hP hD hz
  have hP : va_P G.1 vwCl [(ou, zaL (G.2 0) 1 (fo)), (x, .inr (10, [.ref ro, .ref rw, .ref bo, .ref li, .ref sh, .ref tx, .ref lo, .ref nl])), (rw, .inr (6, [.ref am, .ref q, .ref bq])), (am, zaL (G.2 0) 41 (u0_))] H := hP
  have hD : va_D A [(ou, zaL (G.2 0) 1 (fo)), (x, .inr (10, [.ref ro, .ref rw, .ref bo, .ref li, .ref sh, .ref tx, .ref lo, .ref nl])), (rw, .inr (6, [.ref am, .ref q, .ref bq])), (am, zaL (G.2 0) 41 (u0_))] := hD
  have hz : zz = mo := hz
  refine zr_last hx hb hK hP hD hS 0 0 rfl rfl (i := 0) (x := zz) (⟨by omega, by omega, by omega⟩) dL_pay_9 (fun H locs hP hD hS => ?_)
  have hP : va_P G.1 vwCl [(ou, zaL (G.2 0) 1 (zup fo 0 zz)), (x, .inr (10, [.ref ro, .ref rw, .ref bo, .ref li, .ref sh, .ref tx, .ref lo, .ref nl])), (rw, .inr (6, [.ref am, .ref q, .ref bq])), (am, zaL (G.2 0) 41 (u0_))] H := hP
  have hD : va_D A [(ou, zaL (G.2 0) 1 (zup fo 0 zz)), (x, .inr (10, [.ref ro, .ref rw, .ref bo, .ref li, .ref sh, .ref tx, .ref lo, .ref nl])), (rw, .inr (6, [.ref am, .ref q, .ref bq])), (am, zaL (G.2 0) 41 (u0_))] := hD
  refine lv_goto (tgt := 21) hx hb dL_pay_10 (by decide) ?_
  refine lv_iconst (v := iz (0)) hx hb dL_pay_21 rfl ?_
  rw [hQ]
  exact zr_iret (z := 0) (u := (zup fo 0 zz)) hx hb hr hlocks (hP.sub [0] rfl) (hD.sub [0] (by decide) rfl) hS (by first | exact Nat.le_of_ble_eq_true rfl | omega) (by first | exact Nat.le_of_ble_eq_true rfl | omega) dL_pay_22 (show 0 = 0 ∧ ((zup fo 0 zz) 0) = mo from ⟨rfl, by rw [zup_s]; exact hz⟩)

def rm_c_L_pay_x : Room := { frames := 8, cells := 1, slots := 6, locals := 133 }
set_option maxHeartbeats 1000000 in
set_option maxRecDepth 100000 in
theorem c_L_pay_x (l : Launch) (G : zG) (s1 : Nat) (s2 : Nat) (s3 : Nat) (x : Nat) (ro : Nat) (rw : Nat) (bo : Nat) (li : Nat) (sh : Nat) (tx : Nat) (lo : Nat) (nl : Nat) (pe : Int) (mo : Int) (ou : Nat) (fo : Int → Int) (hl0 : l.stackTraces = false) (h0 : -2147483648 ≤ pe ∧ pe < 2147483648) (h01 : -9223372036854775808 ≤ mo ∧ mo < 9223372036854775808) (h1 : ¬ (0 ≤ pe ∧ pe ≤ 40 ∧ -1000000000 ≤ mo ∧ mo ≤ 1000000000)) : zMe l (zXL s1 s2 s3) G yL_pay wsL_pay rm_c_L_pay_x [.ref x, .int (iz (pe)), .long (lz (mo)), .ref ou] [(x, .inr (10, [.ref ro, .ref rw, .ref bo, .ref li, .ref sh, .ref tx, .ref lo, .ref nl])), (ou, zaL (G.2 0) 1 (fo))] (fun A => zQi G (fun (z : Int) (_ : Unit) => z = 1) (fun (_ : Unit) => [(ou, zaL (G.2 0) 1 (fo))]) A) 1 6 := by
  refine zMeW_of (cc := cL_pay) (maxL := 6) (ret := (some .int)) (by decide) rfl (Nat.le_of_ble_eq_true rfl) ?_
  intro p e s m below meth c ls A Q hQ hx hb hr hts hown hlocks hml hnm htab hKX hE hP hD hA hS hl
  have hK := hKX.1
  obtain ⟨H, hH⟩ : ∃ h, h = s.heap := ⟨_, rfl⟩
  obtain ⟨locs, hlo⟩ : ∃ h : List Loc, h = [] := ⟨_, rfl⟩
  have hS : va_S A s.heap H locs := by rw [hH, hlo]; exact hS
  have hP : va_P G.1 vwCl [(x, .inr (10, [.ref ro, .ref rw, .ref bo, .ref li, .ref sh, .ref tx, .ref lo, .ref nl])), (ou, zaL (G.2 0) 1 (fo))] H := by rw [hH]; exact hP
  have hD : va_D A [(x, .inr (10, [.ref ro, .ref rw, .ref bo, .ref li, .ref sh, .ref tx, .ref lo, .ref nl])), (ou, zaL (G.2 0) 1 (fo))] := hD
  have hl : lv_has ls 6 [(0, .ref x), (1, .int (iz (pe))), (2, .long (lz (mo))), (4, .ref ou)] := hl
  rw [← hH, ← hlo]
  refine lv_aload hx hb dL_pay_0 (lv_at hl 3 rfl) ?_
  refine lv_iconst (v := iz (0)) hx hb dL_pay_2 rfl ?_
  refine lv_aload_n hx hb dL_pay_3 rfl (lv_at hl 0 rfl) ?_
  refine lv_iload_n hx hb dL_pay_4 rfl (lv_at hl 1 rfl) ?_
  refine lv_lload_n hx hb dL_pay_5 rfl (lv_at hl 2 rfl) ?_
  refine zx_call (X := "java/lang/IllegalArgumentException") (AX := va_A [(x, .inr (10, [.ref ro, .ref rw, .ref bo, .ref li, .ref sh, .ref tx, .ref lo, .ref nl]))] H.size) (fun _ _ _ h => h) (vx_runV (As := [.int (iz (pe)), .long (lz (mo))]) (rest := [.int (iz (0)), .ref ou]) ⟨hx, hb, hml, hown, hts⟩ (c_X9_pay_x l G s1 s2 s3 x ro rw bo li sh tx lo nl pe mo hl0 (h0) (h01) (h1) H.size) (cwV 2 hts gL_pay_X9_pay rfl rfl rfl (by decide +kernel) ⟨Nat.le_of_ble_eq_true rfl, Nat.le_of_ble_eq_true rfl⟩) (zpVe zXE_ok hE.1 hS hA hKX hP hD [0] rfl rfl (va_recv hK hP (ci := 10) (q0 := 0) rfl rfl)) rfl rfl hl.1 rfl (lv_room (Nat.le_of_ble_eq_true rfl)) dL_pay_6 ⟨(by first | exact Nat.le_of_ble_eq_true rfl | (show _ ≤ (1 : Nat); omega)), (by first | exact Nat.le_of_ble_eq_true rfl | (show _ ≤ (6 : Nat); omega))⟩) hS (va_free (wc := [(x, .inr (10, [.ref ro, .ref rw, .ref bo, .ref li, .ref sh, .ref tx, .ref lo, .ref nl]))]) hD hS hA [0] rfl) (fun aq_ _ ah_ => (va_free (wc := [(x, .inr (10, [.ref ro, .ref rw, .ref bo, .ref li, .ref sh, .ref tx, .ref lo, .ref nl]))]) hD hS hA [0] rfl) aq_ ah_) (fun ce q9 H1 locs1 hsz9 hk9 hS1 hce hcv hcl => ?_)
  obtain ⟨hP1, hD1⟩ := va_join (wr := [(ou, zaL (G.2 0) 1 (fo))]) (w1 := []) hP hD [0] [1] rfl rfl rfl (by decide) hk9 (va_free (wc := [(x, .inr (10, [.ref ro, .ref rw, .ref bo, .ref li, .ref sh, .ref tx, .ref lo, .ref nl]))]) hD hS hA [0] rfl) (fun k q h => by cases h) zD_nil
  refine vx_catch hown [] (⟨0, 10, 13, 13⟩ : ExceptionTableEntry) [(⟨0, 10, 17, 19⟩ : ExceptionTableEntry)] (htab.trans rfl) (fun _ h => nomatch h) (by decide) (by decide) (hts (.classLink RL 13 "java/lang/IllegalArgumentException") (by decide +kernel)) (va_Nw.use rfl (hKX.2.2.2 (.castable "java/lang/IllegalArgumentException" "java/lang/IllegalArgumentException") (by decide +kernel))) hce hcv hcl ?_
  have hP : va_P G.1 vwCl [(ou, zaL (G.2 0) 1 (fo))] H1 := (List.append_nil [(ou, zaL (G.2 0) 1 (fo))]) ▸ hP1
  have hD : va_D A [(ou, zaL (G.2 0) 1 (fo))] := (List.append_nil [(ou, zaL (G.2 0) 1 (fo))]) ▸ hD1
  have hS := hS1
  show W p l e rm_c_L_pay_x s m ([.ref x, .int (iz (pe)), .long (lz (mo)), .ref ou] : List Value).toArray below meth c H1 locs1 (0 + 1) (0 + 6) Q (F0 m 13 ls [.ref q9])
  refine lv_astore (lv' := [(5, .ref q9), (0, .ref x), (1, .int (iz (pe))), (2, .long (lz (mo))), (4, .ref ou)]) hx hb dL_pay_13 hl (by decide) rfl (fun ls hl => ?_)
  refine lv_iconst (v := iz (1)) hx hb dL_pay_15 rfl ?_
  rw [hQ]
  exact zr_iret (z := 1) (u := ()) hx hb hr hlocks hP hD hS (by first | exact Nat.le_of_ble_eq_true rfl | omega) (by first | exact Nat.le_of_ble_eq_true rfl | omega) dL_pay_16 (show 1 = 1 from rfl)

def rm_c_L_payMany_o : Room := { frames := 3, cells := 0, slots := 0, locals := 78 }
set_option maxHeartbeats 1000000 in
set_option maxRecDepth 100000 in
theorem c_L_payMany_o (l : Launch) (G : zG) (x : Nat) (ro : Nat) (rw : Nat) (bo : Nat) (li : Nat) (sh : Nat) (tx : Nat) (lo : Nat) (nl : Nat) (am : Nat) (q : Nat) (bq : Nat) (fr : Int) (mn : Int) (mo : Int) (se : Int) (ou : Nat) (fo : Int → Int) (h0 : -2147483648 ≤ fr ∧ fr < 2147483648) (h01 : -2147483648 ≤ mn ∧ mn < 2147483648) (h02 : -9223372036854775808 ≤ mo ∧ mo < 9223372036854775808) (h03 : -9223372036854775808 ≤ se ∧ se < 9223372036854775808) (h1 : 0 ≤ fr ∧ fr ≤ 40 ∧ 1 ≤ mn ∧ mn ≤ 41 ∧ -1000000000 ≤ mo ∧ mo ≤ 1000000000 ∧ -1000000 ≤ se ∧ se ≤ 1000000 ∧ fr + mn ≤ 41) (h2 : ∀ j : Int, 0 ≤ j → j < mn → zamt (mo + j * se)) : zM l G yL_payMany wsL_payMany rm_c_L_payMany_o [.ref x, .int (iz (fr)), .int (iz (mn)), .long (lz (mo)), .long (lz (se)), .ref ou] [(x, .inr (10, [.ref ro, .ref rw, .ref bo, .ref li, .ref sh, .ref tx, .ref lo, .ref nl])), (rw, .inr (6, [.ref am, .ref q, .ref bq])), (am, zaL (G.2 0) 41 (fun _ => 0)), (ou, zaL (G.2 0) 1 (fo))] (fun A => zQi G (fun (z : Int) (f2 : (Int → Int)) => z = 0 ∧ (f2 0) = zcnt (zpmf fr mn mo se) 41) (fun (f2 : (Int → Int)) => [(ou, zaL (G.2 0) 1 (f2))]) A) 0 0 := by
  refine zMW_of (cc := cL_payMany) (maxL := 9) (ret := (some .int)) (by decide) rfl (Nat.le_of_ble_eq_true rfl) ?_
  intro p e s m below meth c ls A Q hQ hx hb hr hts hown hlocks hml hnm hKX hP hD hA hS hl
  have hK := hKX.1
  obtain ⟨H, hH⟩ : ∃ h, h = s.heap := ⟨_, rfl⟩
  obtain ⟨locs, hlo⟩ : ∃ h : List Loc, h = [] := ⟨_, rfl⟩
  have hS : va_S A s.heap H locs := by rw [hH, hlo]; exact hS
  have hP : va_P G.1 vwCl [(x, .inr (10, [.ref ro, .ref rw, .ref bo, .ref li, .ref sh, .ref tx, .ref lo, .ref nl])), (rw, .inr (6, [.ref am, .ref q, .ref bq])), (am, zaL (G.2 0) 41 (fun _ => 0)), (ou, zaL (G.2 0) 1 (fo))] H := by rw [hH]; exact hP
  have hD : va_D A [(x, .inr (10, [.ref ro, .ref rw, .ref bo, .ref li, .ref sh, .ref tx, .ref lo, .ref nl])), (rw, .inr (6, [.ref am, .ref q, .ref bq])), (am, zaL (G.2 0) 41 (fun _ => 0)), (ou, zaL (G.2 0) 1 (fo))] := hD
  have hl : lv_has ls 9 [(0, .ref x), (1, .int (iz (fr))), (2, .int (iz (mn))), (3, .long (lz (mo))), (5, .long (lz (se))), (7, .ref ou)] := hl
  rw [← hH, ← hlo]
  refine lv_aload hx hb dL_payMany_0 (lv_at hl 5 rfl) ?_
  refine lv_iconst (v := iz (0)) hx hb dL_payMany_2 rfl ?_
  refine lv_aload_n hx hb dL_payMany_3 rfl (lv_at hl 0 rfl) ?_
  refine lv_iload_n hx hb dL_payMany_4 rfl (lv_at hl 1 rfl) ?_
  refine lv_iload_n hx hb dL_payMany_5 rfl (lv_at hl 2 rfl) ?_
  refine lv_lload_n hx hb dL_payMany_6 rfl (lv_at hl 3 rfl) ?_
  refine lv_lload hx hb dL_payMany_7 (lv_at hl 4 rfl) ?_
  refine zc_i (wr := [(ou, zaL (G.2 0) 1 (fo))]) (va_runV (As := [.int (iz (fr)), .int (iz (mn)), .long (lz (mo)), .long (lz (se))]) (rest := [.int (iz (0)), .ref ou]) ⟨hx, hb, hml, hown, hts⟩ (c_X9_payMany_o l G x ro rw bo li sh tx lo nl am q bq fr mn mo se (h0) (h01) (h02) (h03) (h1) (h2) H.size) (cwV 4 hts gL_payMany_X9_payMany rfl rfl rfl (by decide +kernel) ⟨Nat.le_of_ble_eq_true rfl, Nat.le_of_ble_eq_true rfl⟩) (zpV hKX hP hD [0, 1, 2] rfl rfl 0 10 rfl rfl) rfl rfl hl.1 rfl (lv_room (Nat.le_of_ble_eq_true rfl)) dL_payMany_9 ⟨(by first | exact Nat.le_of_ble_eq_true rfl | (show _ ≤ (0 : Nat); omega)), (by first | exact Nat.le_of_ble_eq_true rfl | (show _ ≤ (0 : Nat); omega))⟩) hP hD hS hA [0, 1, 2] [3] rfl rfl rfl (by decide) (fun zz u_1 H locs hz hP hD hS => ?_)
  generalize u_1 = u0_ at hP hD hz
  have hP : va_P G.1 vwCl [(ou, zaL (G.2 0) 1 (fo)), (x, .inr (10, [.ref ro, .ref rw, .ref bo, .ref li, .ref sh, .ref tx, .ref lo, .ref nl])), (rw, .inr (6, [.ref am, .ref q, .ref bq])), (am, zaL (G.2 0) 41 (u0_))] H := hP
  have hD : va_D A [(ou, zaL (G.2 0) 1 (fo)), (x, .inr (10, [.ref ro, .ref rw, .ref bo, .ref li, .ref sh, .ref tx, .ref lo, .ref nl])), (rw, .inr (6, [.ref am, .ref q, .ref bq])), (am, zaL (G.2 0) 41 (u0_))] := hD
  have hz : zz = zcnt (zpmf fr mn mo se) 41 := hz
  have hrz := zcnt_rng (zpmf fr mn mo se) 41
  refine zr_i2l hx hb (x := zz) (⟨by omega, by omega⟩) dL_payMany_12 ?_
  refine zr_last hx hb hK hP hD hS 0 0 rfl rfl (i := 0) (x := zz) (⟨by omega, by omega, by omega⟩) dL_payMany_13 (fun H locs hP hD hS => ?_)
  have hP : va_P G.1 vwCl [(ou, zaL (G.2 0) 1 (zup fo 0 zz)), (x, .inr (10, [.ref ro, .ref rw, .ref bo, .ref li, .ref sh, .ref tx, .ref lo, .ref nl])), (rw, .inr (6, [.ref am, .ref q, .ref bq])), (am, zaL (G.2 0) 41 (u0_))] H := hP
  have hD : va_D A [(ou, zaL (G.2 0) 1 (zup fo 0 zz)), (x, .inr (10, [.ref ro, .ref rw, .ref bo, .ref li, .ref sh, .ref tx, .ref lo, .ref nl])), (rw, .inr (6, [.ref am, .ref q, .ref bq])), (am, zaL (G.2 0) 41 (u0_))] := hD
  refine lv_goto (tgt := 25) hx hb dL_payMany_14 (by decide) ?_
  refine lv_iconst (v := iz (0)) hx hb dL_payMany_25 rfl ?_
  rw [hQ]
  exact zr_iret (z := 0) (u := (zup fo 0 zz)) hx hb hr hlocks (hP.sub [0] rfl) (hD.sub [0] (by decide) rfl) hS (by first | exact Nat.le_of_ble_eq_true rfl | omega) (by first | exact Nat.le_of_ble_eq_true rfl | omega) dL_payMany_26 (show 0 = 0 ∧ ((zup fo 0 zz) 0) = zcnt (zpmf fr mn mo se) 41 from ⟨rfl, by rw [zup_s]; exact hz⟩)

def rm_c_L_payMany_n : Room := { frames := 9, cells := 1, slots := 6, locals := 163 }
set_option maxHeartbeats 1000000 in
set_option maxRecDepth 100000 in
theorem c_L_payMany_n (l : Launch) (G : zG) (s1 : Nat) (s2 : Nat) (s3 : Nat) (x : Nat) (ro : Nat) (rw : Nat) (bo : Nat) (li : Nat) (sh : Nat) (tx : Nat) (lo : Nat) (nl : Nat) (am : Nat) (q : Nat) (bq : Nat) (fr : Int) (mn : Int) (mo : Int) (se : Int) (ou : Nat) (fo : Int → Int) (hl0 : l.stackTraces = false) (h0 : -2147483648 ≤ fr ∧ fr < 2147483648) (h01 : -2147483648 ≤ mn ∧ mn < 2147483648) (h02 : -9223372036854775808 ≤ mo ∧ mo < 9223372036854775808) (h03 : -9223372036854775808 ≤ se ∧ se < 9223372036854775808) (h1 : 0 ≤ fr ∧ fr ≤ 40 ∧ 1 ≤ mn ∧ mn ≤ 41 ∧ -1000000000 ≤ mo ∧ mo ≤ 1000000000 ∧ -1000000 ≤ se ∧ se ≤ 1000000 ∧ fr + mn ≤ 41) (h2 : ¬ (∀ j : Int, 0 ≤ j → j < mn → zamt (mo + j * se))) : zMe l (zXL s1 s2 s3) G yL_payMany wsL_payMany rm_c_L_payMany_n [.ref x, .int (iz (fr)), .int (iz (mn)), .long (lz (mo)), .long (lz (se)), .ref ou] [(x, .inr (10, [.ref ro, .ref rw, .ref bo, .ref li, .ref sh, .ref tx, .ref lo, .ref nl])), (rw, .inr (6, [.ref am, .ref q, .ref bq])), (am, zaL (G.2 0) 41 (fun _ => 0)), (ou, zaL (G.2 0) 1 (fo))] (fun A => zQi G (fun (z : Int) (_ : Unit) => z = 2) (fun (_ : Unit) => [(ou, zaL (G.2 0) 1 (fo))]) A) 1 6 := by
  refine zMeW_of (cc := cL_payMany) (maxL := 9) (ret := (some .int)) (by decide) rfl (Nat.le_of_ble_eq_true rfl) ?_
  intro p e s m below meth c ls A Q hQ hx hb hr hts hown hlocks hml hnm htab hKX hE hP hD hA hS hl
  have hK := hKX.1
  obtain ⟨H, hH⟩ : ∃ h, h = s.heap := ⟨_, rfl⟩
  obtain ⟨locs, hlo⟩ : ∃ h : List Loc, h = [] := ⟨_, rfl⟩
  have hS : va_S A s.heap H locs := by rw [hH, hlo]; exact hS
  have hP : va_P G.1 vwCl [(x, .inr (10, [.ref ro, .ref rw, .ref bo, .ref li, .ref sh, .ref tx, .ref lo, .ref nl])), (rw, .inr (6, [.ref am, .ref q, .ref bq])), (am, zaL (G.2 0) 41 (fun _ => 0)), (ou, zaL (G.2 0) 1 (fo))] H := by rw [hH]; exact hP
  have hD : va_D A [(x, .inr (10, [.ref ro, .ref rw, .ref bo, .ref li, .ref sh, .ref tx, .ref lo, .ref nl])), (rw, .inr (6, [.ref am, .ref q, .ref bq])), (am, zaL (G.2 0) 41 (fun _ => 0)), (ou, zaL (G.2 0) 1 (fo))] := hD
  have hl : lv_has ls 9 [(0, .ref x), (1, .int (iz (fr))), (2, .int (iz (mn))), (3, .long (lz (mo))), (5, .long (lz (se))), (7, .ref ou)] := hl
  rw [← hH, ← hlo]
  refine lv_aload hx hb dL_payMany_0 (lv_at hl 5 rfl) ?_
  refine lv_iconst (v := iz (0)) hx hb dL_payMany_2 rfl ?_
  refine lv_aload_n hx hb dL_payMany_3 rfl (lv_at hl 0 rfl) ?_
  refine lv_iload_n hx hb dL_payMany_4 rfl (lv_at hl 1 rfl) ?_
  refine lv_iload_n hx hb dL_payMany_5 rfl (lv_at hl 2 rfl) ?_
  refine lv_lload_n hx hb dL_payMany_6 rfl (lv_at hl 3 rfl) ?_
  refine lv_lload hx hb dL_payMany_7 (lv_at hl 4 rfl) ?_
  refine zx_call (X := "java/lang/IllegalStateException") (AX := va_A [(x, .inr (10, [.ref ro, .ref rw, .ref bo, .ref li, .ref sh, .ref tx, .ref lo, .ref nl])), (rw, .inr (6, [.ref am, .ref q, .ref bq])), (am, zaL (G.2 0) 41 (fun _ => 0))] H.size) (fun _ _ _ h => h) (vx_runV (As := [.int (iz (fr)), .int (iz (mn)), .long (lz (mo)), .long (lz (se))]) (rest := [.int (iz (0)), .ref ou]) ⟨hx, hb, hml, hown, hts⟩ (c_X9_payMany_n l G s1 s2 s3 x ro rw bo li sh tx lo nl am q bq fr mn mo se hl0 (h0) (h01) (h02) (h03) (h1) (h2) H.size) (cwV 4 hts gL_payMany_X9_payMany rfl rfl rfl (by decide +kernel) ⟨Nat.le_of_ble_eq_true rfl, Nat.le_of_ble_eq_true rfl⟩) (zpVe zXE_ok hE.1 hS hA hKX hP hD [0, 1, 2] rfl rfl (va_recv hK hP (ci := 10) (q0 := 0) rfl rfl)) rfl rfl hl.1 rfl (lv_room (Nat.le_of_ble_eq_true rfl)) dL_payMany_9 ⟨(by first | exact Nat.le_of_ble_eq_true rfl | (show _ ≤ (1 : Nat); omega)), (by first | exact Nat.le_of_ble_eq_true rfl | (show _ ≤ (6 : Nat); omega))⟩) hS (va_free (wc := [(x, .inr (10, [.ref ro, .ref rw, .ref bo, .ref li, .ref sh, .ref tx, .ref lo, .ref nl])), (rw, .inr (6, [.ref am, .ref q, .ref bq])), (am, zaL (G.2 0) 41 (fun _ => 0))]) hD hS hA [0, 1, 2] rfl) (fun aq_ _ ah_ => (va_free (wc := [(x, .inr (10, [.ref ro, .ref rw, .ref bo, .ref li, .ref sh, .ref tx, .ref lo, .ref nl])), (rw, .inr (6, [.ref am, .ref q, .ref bq])), (am, zaL (G.2 0) 41 (fun _ => 0))]) hD hS hA [0, 1, 2] rfl) aq_ ah_) (fun ce q9 H1 locs1 hsz9 hk9 hS1 hce hcv hcl => ?_)
  obtain ⟨hP1, hD1⟩ := va_join (wr := [(ou, zaL (G.2 0) 1 (fo))]) (w1 := []) hP hD [0, 1, 2] [3] rfl rfl rfl (by decide) hk9 (va_free (wc := [(x, .inr (10, [.ref ro, .ref rw, .ref bo, .ref li, .ref sh, .ref tx, .ref lo, .ref nl])), (rw, .inr (6, [.ref am, .ref q, .ref bq])), (am, zaL (G.2 0) 41 (fun _ => 0))]) hD hS hA [0, 1, 2] rfl) (fun k q h => by cases h) zD_nil
  refine vx_catch hown [(⟨0, 14, 17, 13⟩ : ExceptionTableEntry)] (⟨0, 14, 21, 19⟩ : ExceptionTableEntry) [] (htab.trans rfl) (List.forall_mem_cons.mpr ⟨Or.inr ⟨by decide, "java/lang/IllegalArgumentException", hts (.classLink RL 13 "java/lang/IllegalArgumentException") (by decide +kernel), hE.2.1⟩, (fun _ h => nomatch h)⟩) (by decide) (by decide) (hts (.classLink RL 19 "java/lang/IllegalStateException") (by decide +kernel)) (va_Nw.use rfl (hKX.2.2.2 (.castable "java/lang/IllegalStateException" "java/lang/IllegalStateException") (by decide +kernel))) hce hcv hcl ?_
  have hP : va_P G.1 vwCl [(ou, zaL (G.2 0) 1 (fo))] H1 := (List.append_nil [(ou, zaL (G.2 0) 1 (fo))]) ▸ hP1
  have hD : va_D A [(ou, zaL (G.2 0) 1 (fo))] := (List.append_nil [(ou, zaL (G.2 0) 1 (fo))]) ▸ hD1
  have hS := hS1
  show W p l e rm_c_L_payMany_n s m ([.ref x, .int (iz (fr)), .int (iz (mn)), .long (lz (mo)), .long (lz (se)), .ref ou] : List Value).toArray below meth c H1 locs1 (0 + 1) (0 + 6) Q (F0 m 21 ls [.ref q9])
  refine lv_astore (lv' := [(8, .ref q9), (0, .ref x), (1, .int (iz (fr))), (2, .int (iz (mn))), (3, .long (lz (mo))), (5, .long (lz (se))), (7, .ref ou)]) hx hb dL_payMany_21 hl (by decide) rfl (fun ls hl => ?_)
  refine lv_iconst (v := iz (2)) hx hb dL_payMany_23 rfl ?_
  rw [hQ]
  exact zr_iret (z := 2) (u := ()) hx hb hr hlocks hP hD hS (by first | exact Nat.le_of_ble_eq_true rfl | omega) (by first | exact Nat.le_of_ble_eq_true rfl | omega) dL_payMany_24 (show 2 = 2 from rfl)

def rm_c_L_payMany_x : Room := { frames := 8, cells := 1, slots := 6, locals := 136 }
set_option maxHeartbeats 1000000 in
set_option maxRecDepth 100000 in
theorem c_L_payMany_x (l : Launch) (G : zG) (s1 : Nat) (s2 : Nat) (s3 : Nat) (x : Nat) (ro : Nat) (rw : Nat) (bo : Nat) (li : Nat) (sh : Nat) (tx : Nat) (lo : Nat) (nl : Nat) (fr : Int) (mn : Int) (mo : Int) (se : Int) (ou : Nat) (fo : Int → Int) (hl0 : l.stackTraces = false) (h0 : -2147483648 ≤ fr ∧ fr < 2147483648) (h01 : -2147483648 ≤ mn ∧ mn < 2147483648) (h02 : -9223372036854775808 ≤ mo ∧ mo < 9223372036854775808) (h03 : -9223372036854775808 ≤ se ∧ se < 9223372036854775808) (h1 : ¬ (0 ≤ fr ∧ fr ≤ 40 ∧ 1 ≤ mn ∧ mn ≤ 41 ∧ -1000000000 ≤ mo ∧ mo ≤ 1000000000 ∧ -1000000 ≤ se ∧ se ≤ 1000000 ∧ fr + mn ≤ 41)) : zMe l (zXL s1 s2 s3) G yL_payMany wsL_payMany rm_c_L_payMany_x [.ref x, .int (iz (fr)), .int (iz (mn)), .long (lz (mo)), .long (lz (se)), .ref ou] [(x, .inr (10, [.ref ro, .ref rw, .ref bo, .ref li, .ref sh, .ref tx, .ref lo, .ref nl])), (ou, zaL (G.2 0) 1 (fo))] (fun A => zQi G (fun (z : Int) (_ : Unit) => z = 1) (fun (_ : Unit) => [(ou, zaL (G.2 0) 1 (fo))]) A) 1 6 := by
  refine zMeW_of (cc := cL_payMany) (maxL := 9) (ret := (some .int)) (by decide) rfl (Nat.le_of_ble_eq_true rfl) ?_
  intro p e s m below meth c ls A Q hQ hx hb hr hts hown hlocks hml hnm htab hKX hE hP hD hA hS hl
  have hK := hKX.1
  obtain ⟨H, hH⟩ : ∃ h, h = s.heap := ⟨_, rfl⟩
  obtain ⟨locs, hlo⟩ : ∃ h : List Loc, h = [] := ⟨_, rfl⟩
  have hS : va_S A s.heap H locs := by rw [hH, hlo]; exact hS
  have hP : va_P G.1 vwCl [(x, .inr (10, [.ref ro, .ref rw, .ref bo, .ref li, .ref sh, .ref tx, .ref lo, .ref nl])), (ou, zaL (G.2 0) 1 (fo))] H := by rw [hH]; exact hP
  have hD : va_D A [(x, .inr (10, [.ref ro, .ref rw, .ref bo, .ref li, .ref sh, .ref tx, .ref lo, .ref nl])), (ou, zaL (G.2 0) 1 (fo))] := hD
  have hl : lv_has ls 9 [(0, .ref x), (1, .int (iz (fr))), (2, .int (iz (mn))), (3, .long (lz (mo))), (5, .long (lz (se))), (7, .ref ou)] := hl
  rw [← hH, ← hlo]
  refine lv_aload hx hb dL_payMany_0 (lv_at hl 5 rfl) ?_
  refine lv_iconst (v := iz (0)) hx hb dL_payMany_2 rfl ?_
  refine lv_aload_n hx hb dL_payMany_3 rfl (lv_at hl 0 rfl) ?_
  refine lv_iload_n hx hb dL_payMany_4 rfl (lv_at hl 1 rfl) ?_
  refine lv_iload_n hx hb dL_payMany_5 rfl (lv_at hl 2 rfl) ?_
  refine lv_lload_n hx hb dL_payMany_6 rfl (lv_at hl 3 rfl) ?_
  refine lv_lload hx hb dL_payMany_7 (lv_at hl 4 rfl) ?_
  refine zx_call (X := "java/lang/IllegalArgumentException") (AX := va_A [(x, .inr (10, [.ref ro, .ref rw, .ref bo, .ref li, .ref sh, .ref tx, .ref lo, .ref nl]))] H.size) (fun _ _ _ h => h) (vx_runV (As := [.int (iz (fr)), .int (iz (mn)), .long (lz (mo)), .long (lz (se))]) (rest := [.int (iz (0)), .ref ou]) ⟨hx, hb, hml, hown, hts⟩ (c_X9_payMany_x l G s1 s2 s3 x ro rw bo li sh tx lo nl fr mn mo se hl0 (h0) (h01) (h02) (h03) (h1) H.size) (cwV 4 hts gL_payMany_X9_payMany rfl rfl rfl (by decide +kernel) ⟨Nat.le_of_ble_eq_true rfl, Nat.le_of_ble_eq_true rfl⟩) (zpVe zXE_ok hE.1 hS hA hKX hP hD [0] rfl rfl (va_recv hK hP (ci := 10) (q0 := 0) rfl rfl)) rfl rfl hl.1 rfl (lv_room (Nat.le_of_ble_eq_true rfl)) dL_payMany_9 ⟨(by first | exact Nat.le_of_ble_eq_true rfl | (show _ ≤ (1 : Nat); omega)), (by first | exact Nat.le_of_ble_eq_true rfl | (show _ ≤ (6 : Nat); omega))⟩) hS (va_free (wc := [(x, .inr (10, [.ref ro, .ref rw, .ref bo, .ref li, .ref sh, .ref tx, .ref lo, .ref nl]))]) hD hS hA [0] rfl) (fun aq_ _ ah_ => (va_free (wc := [(x, .inr (10, [.ref ro, .ref rw, .ref bo, .ref li, .ref sh, .ref tx, .ref lo, .ref nl]))]) hD hS hA [0] rfl) aq_ ah_) (fun ce q9 H1 locs1 hsz9 hk9 hS1 hce hcv hcl => ?_)
  obtain ⟨hP1, hD1⟩ := va_join (wr := [(ou, zaL (G.2 0) 1 (fo))]) (w1 := []) hP hD [0] [1] rfl rfl rfl (by decide) hk9 (va_free (wc := [(x, .inr (10, [.ref ro, .ref rw, .ref bo, .ref li, .ref sh, .ref tx, .ref lo, .ref nl]))]) hD hS hA [0] rfl) (fun k q h => by cases h) zD_nil
  refine vx_catch hown [] (⟨0, 14, 17, 13⟩ : ExceptionTableEntry) [(⟨0, 14, 21, 19⟩ : ExceptionTableEntry)] (htab.trans rfl) (fun _ h => nomatch h) (by decide) (by decide) (hts (.classLink RL 13 "java/lang/IllegalArgumentException") (by decide +kernel)) (va_Nw.use rfl (hKX.2.2.2 (.castable "java/lang/IllegalArgumentException" "java/lang/IllegalArgumentException") (by decide +kernel))) hce hcv hcl ?_
  have hP : va_P G.1 vwCl [(ou, zaL (G.2 0) 1 (fo))] H1 := (List.append_nil [(ou, zaL (G.2 0) 1 (fo))]) ▸ hP1
  have hD : va_D A [(ou, zaL (G.2 0) 1 (fo))] := (List.append_nil [(ou, zaL (G.2 0) 1 (fo))]) ▸ hD1
  have hS := hS1
  show W p l e rm_c_L_payMany_x s m ([.ref x, .int (iz (fr)), .int (iz (mn)), .long (lz (mo)), .long (lz (se)), .ref ou] : List Value).toArray below meth c H1 locs1 (0 + 1) (0 + 6) Q (F0 m 17 ls [.ref q9])
  refine lv_astore (lv' := [(8, .ref q9), (0, .ref x), (1, .int (iz (fr))), (2, .int (iz (mn))), (3, .long (lz (mo))), (5, .long (lz (se))), (7, .ref ou)]) hx hb dL_payMany_17 hl (by decide) rfl (fun ls hl => ?_)
  refine lv_iconst (v := iz (1)) hx hb dL_payMany_19 rfl ?_
  rw [hQ]
  exact zr_iret (z := 1) (u := ()) hx hb hr hlocks hP hD hS (by first | exact Nat.le_of_ble_eq_true rfl | omega) (by first | exact Nat.le_of_ble_eq_true rfl | omega) dL_payMany_20 (show 1 = 1 from rfl)

def rm_c_L_amount_o : Room := { frames := 2, cells := 0, slots := 0, locals := 46 }
set_option maxHeartbeats 1000000 in
set_option maxRecDepth 100000 in
theorem c_L_amount_o (l : Launch) (G : zG) (x : Nat) (ro : Nat) (rw : Nat) (bo : Nat) (li : Nat) (sh : Nat) (tx : Nat) (lo : Nat) (nl : Nat) (am : Nat) (q : Nat) (bq : Nat) (pe : Int) (ou : Nat) (fo : Int → Int) (h0 : -2147483648 ≤ pe ∧ pe < 2147483648) (h1 : 0 ≤ pe ∧ pe ≤ 40) : zM l G yL_amount wsL_amount rm_c_L_amount_o [.ref x, .int (iz (pe)), .ref ou] [(x, .inr (10, [.ref ro, .ref rw, .ref bo, .ref li, .ref sh, .ref tx, .ref lo, .ref nl])), (rw, .inr (6, [.ref am, .ref q, .ref bq])), (am, zaL (G.2 0) 41 (fun _ => 0)), (ou, zaL (G.2 0) 1 (fo))] (fun A => zQi G (fun (z : Int) (f2 : (Int → Int)) => z = 0 ∧ (f2 0) = 0) (fun (f2 : (Int → Int)) => [(ou, zaL (G.2 0) 1 (f2))]) A) 0 0 := by
  refine zMW_of (cc := cL_amount) (maxL := 4) (ret := (some .int)) (by decide) rfl (Nat.le_of_ble_eq_true rfl) ?_
  intro p e s m below meth c ls A Q hQ hx hb hr hts hown hlocks hml hnm hKX hP hD hA hS hl
  have hK := hKX.1
  obtain ⟨H, hH⟩ : ∃ h, h = s.heap := ⟨_, rfl⟩
  obtain ⟨locs, hlo⟩ : ∃ h : List Loc, h = [] := ⟨_, rfl⟩
  have hS : va_S A s.heap H locs := by rw [hH, hlo]; exact hS
  have hP : va_P G.1 vwCl [(x, .inr (10, [.ref ro, .ref rw, .ref bo, .ref li, .ref sh, .ref tx, .ref lo, .ref nl])), (rw, .inr (6, [.ref am, .ref q, .ref bq])), (am, zaL (G.2 0) 41 (fun _ => 0)), (ou, zaL (G.2 0) 1 (fo))] H := by rw [hH]; exact hP
  have hD : va_D A [(x, .inr (10, [.ref ro, .ref rw, .ref bo, .ref li, .ref sh, .ref tx, .ref lo, .ref nl])), (rw, .inr (6, [.ref am, .ref q, .ref bq])), (am, zaL (G.2 0) 41 (fun _ => 0)), (ou, zaL (G.2 0) 1 (fo))] := hD
  have hl : lv_has ls 4 [(0, .ref x), (1, .int (iz (pe))), (2, .ref ou)] := hl
  rw [← hH, ← hlo]
  refine lv_aload_n hx hb dL_amount_0 rfl (lv_at hl 2 rfl) ?_
  refine lv_iconst (v := iz (0)) hx hb dL_amount_1 rfl ?_
  refine lv_aload_n hx hb dL_amount_2 rfl (lv_at hl 0 rfl) ?_
  refine lv_iload_n hx hb dL_amount_3 rfl (lv_at hl 1 rfl) ?_
  refine zc_l (wr := [(ou, zaL (G.2 0) 1 (fo))]) (va_runV (As := [.int (iz (pe))]) (rest := [.int (iz (0)), .ref ou]) ⟨hx, hb, hml, hown, hts⟩ (c_X9_amount_o l G x ro rw bo li sh tx lo nl am q bq pe (h0) (h1) H.size) (cwV 1 hts gL_amount_X9_amount rfl rfl rfl (by decide +kernel) ⟨Nat.le_of_ble_eq_true rfl, Nat.le_of_ble_eq_true rfl⟩) (zpV hKX hP hD [0, 1, 2] rfl rfl 0 10 rfl rfl) rfl rfl hl.1 rfl (lv_room (Nat.le_of_ble_eq_true rfl)) dL_amount_4 ⟨(by first | exact Nat.le_of_ble_eq_true rfl | (show _ ≤ (0 : Nat); omega)), (by first | exact Nat.le_of_ble_eq_true rfl | (show _ ≤ (0 : Nat); omega))⟩) hP hD hS hA [0, 1, 2] [3] rfl rfl rfl (by decide) (fun zz u_1 H locs hz hP hD hS => ?_)
  have hP : va_P G.1 vwCl [(ou, zaL (G.2 0) 1 (fo)), (x, .inr (10, [.ref ro, .ref rw, .ref bo, .ref li, .ref sh, .ref tx, .ref lo, .ref nl])), (rw, .inr (6, [.ref am, .ref q, .ref bq])), (am, zaL (G.2 0) 41 (fun _ => 0))] H := hP
  have hD : va_D A [(ou, zaL (G.2 0) 1 (fo)), (x, .inr (10, [.ref ro, .ref rw, .ref bo, .ref li, .ref sh, .ref tx, .ref lo, .ref nl])), (rw, .inr (6, [.ref am, .ref q, .ref bq])), (am, zaL (G.2 0) 41 (fun _ => 0))] := hD
  have hz : zz = 0 := hz
  refine zr_last hx hb hK hP hD hS 0 0 rfl rfl (i := 0) (x := zz) (⟨by omega, by omega, by omega⟩) dL_amount_7 (fun H locs hP hD hS => ?_)
  have hP : va_P G.1 vwCl [(ou, zaL (G.2 0) 1 (zup fo 0 zz)), (x, .inr (10, [.ref ro, .ref rw, .ref bo, .ref li, .ref sh, .ref tx, .ref lo, .ref nl])), (rw, .inr (6, [.ref am, .ref q, .ref bq])), (am, zaL (G.2 0) 41 (fun _ => 0))] H := hP
  have hD : va_D A [(ou, zaL (G.2 0) 1 (zup fo 0 zz)), (x, .inr (10, [.ref ro, .ref rw, .ref bo, .ref li, .ref sh, .ref tx, .ref lo, .ref nl])), (rw, .inr (6, [.ref am, .ref q, .ref bq])), (am, zaL (G.2 0) 41 (fun _ => 0))] := hD
  refine lv_goto (tgt := 14) hx hb dL_amount_8 (by decide) ?_
  refine lv_iconst (v := iz (0)) hx hb dL_amount_14 rfl ?_
  rw [hQ]
  exact zr_iret (z := 0) (u := (zup fo 0 zz)) hx hb hr hlocks (hP.sub [0] rfl) (hD.sub [0] (by decide) rfl) hS (by first | exact Nat.le_of_ble_eq_true rfl | omega) (by first | exact Nat.le_of_ble_eq_true rfl | omega) dL_amount_15 (show 0 = 0 ∧ ((zup fo 0 zz) 0) = 0 from ⟨rfl, by rw [zup_s]; exact hz⟩)

def rm_c_L_amount_x : Room := { frames := 8, cells := 1, slots := 6, locals := 131 }
set_option maxHeartbeats 1000000 in
set_option maxRecDepth 100000 in
theorem c_L_amount_x (l : Launch) (G : zG) (s1 : Nat) (s2 : Nat) (s3 : Nat) (x : Nat) (ro : Nat) (rw : Nat) (bo : Nat) (li : Nat) (sh : Nat) (tx : Nat) (lo : Nat) (nl : Nat) (pe : Int) (ou : Nat) (fo : Int → Int) (hl0 : l.stackTraces = false) (h0 : -2147483648 ≤ pe ∧ pe < 2147483648) (h1 : ¬ (0 ≤ pe ∧ pe ≤ 40)) : zMe l (zXL s1 s2 s3) G yL_amount wsL_amount rm_c_L_amount_x [.ref x, .int (iz (pe)), .ref ou] [(x, .inr (10, [.ref ro, .ref rw, .ref bo, .ref li, .ref sh, .ref tx, .ref lo, .ref nl])), (ou, zaL (G.2 0) 1 (fo))] (fun A => zQi G (fun (z : Int) (_ : Unit) => z = 1) (fun (_ : Unit) => [(ou, zaL (G.2 0) 1 (fo))]) A) 1 6 := by
  refine zMeW_of (cc := cL_amount) (maxL := 4) (ret := (some .int)) (by decide) rfl (Nat.le_of_ble_eq_true rfl) ?_
  intro p e s m below meth c ls A Q hQ hx hb hr hts hown hlocks hml hnm htab hKX hE hP hD hA hS hl
  have hK := hKX.1
  obtain ⟨H, hH⟩ : ∃ h, h = s.heap := ⟨_, rfl⟩
  obtain ⟨locs, hlo⟩ : ∃ h : List Loc, h = [] := ⟨_, rfl⟩
  have hS : va_S A s.heap H locs := by rw [hH, hlo]; exact hS
  have hP : va_P G.1 vwCl [(x, .inr (10, [.ref ro, .ref rw, .ref bo, .ref li, .ref sh, .ref tx, .ref lo, .ref nl])), (ou, zaL (G.2 0) 1 (fo))] H := by rw [hH]; exact hP
  have hD : va_D A [(x, .inr (10, [.ref ro, .ref rw, .ref bo, .ref li, .ref sh, .ref tx, .ref lo, .ref nl])), (ou, zaL (G.2 0) 1 (fo))] := hD
  have hl : lv_has ls 4 [(0, .ref x), (1, .int (iz (pe))), (2, .ref ou)] := hl
  rw [← hH, ← hlo]
  refine lv_aload_n hx hb dL_amount_0 rfl (lv_at hl 2 rfl) ?_
  refine lv_iconst (v := iz (0)) hx hb dL_amount_1 rfl ?_
  refine lv_aload_n hx hb dL_amount_2 rfl (lv_at hl 0 rfl) ?_
  refine lv_iload_n hx hb dL_amount_3 rfl (lv_at hl 1 rfl) ?_
  refine zx_call (X := "java/lang/IllegalArgumentException") (AX := va_A [(x, .inr (10, [.ref ro, .ref rw, .ref bo, .ref li, .ref sh, .ref tx, .ref lo, .ref nl]))] H.size) (fun _ _ _ h => h) (vx_runV (As := [.int (iz (pe))]) (rest := [.int (iz (0)), .ref ou]) ⟨hx, hb, hml, hown, hts⟩ (c_X9_amount_x l G s1 s2 s3 x ro rw bo li sh tx lo nl pe hl0 (h0) (h1) H.size) (cwV 1 hts gL_amount_X9_amount rfl rfl rfl (by decide +kernel) ⟨Nat.le_of_ble_eq_true rfl, Nat.le_of_ble_eq_true rfl⟩) (zpVe zXE_ok hE.1 hS hA hKX hP hD [0] rfl rfl (va_recv hK hP (ci := 10) (q0 := 0) rfl rfl)) rfl rfl hl.1 rfl (lv_room (Nat.le_of_ble_eq_true rfl)) dL_amount_4 ⟨(by first | exact Nat.le_of_ble_eq_true rfl | (show _ ≤ (1 : Nat); omega)), (by first | exact Nat.le_of_ble_eq_true rfl | (show _ ≤ (6 : Nat); omega))⟩) hS (va_free (wc := [(x, .inr (10, [.ref ro, .ref rw, .ref bo, .ref li, .ref sh, .ref tx, .ref lo, .ref nl]))]) hD hS hA [0] rfl) (fun aq_ _ ah_ => (va_free (wc := [(x, .inr (10, [.ref ro, .ref rw, .ref bo, .ref li, .ref sh, .ref tx, .ref lo, .ref nl]))]) hD hS hA [0] rfl) aq_ ah_) (fun ce q9 H1 locs1 hsz9 hk9 hS1 hce hcv hcl => ?_)
  obtain ⟨hP1, hD1⟩ := va_join (wr := [(ou, zaL (G.2 0) 1 (fo))]) (w1 := []) hP hD [0] [1] rfl rfl rfl (by decide) hk9 (va_free (wc := [(x, .inr (10, [.ref ro, .ref rw, .ref bo, .ref li, .ref sh, .ref tx, .ref lo, .ref nl]))]) hD hS hA [0] rfl) (fun k q h => by cases h) zD_nil
  refine vx_catch hown [] (⟨0, 8, 11, 13⟩ : ExceptionTableEntry) [] (htab.trans rfl) (fun _ h => nomatch h) (by decide) (by decide) (hts (.classLink RL 13 "java/lang/IllegalArgumentException") (by decide +kernel)) (va_Nw.use rfl (hKX.2.2.2 (.castable "java/lang/IllegalArgumentException" "java/lang/IllegalArgumentException") (by decide +kernel))) hce hcv hcl ?_
  have hP : va_P G.1 vwCl [(ou, zaL (G.2 0) 1 (fo))] H1 := (List.append_nil [(ou, zaL (G.2 0) 1 (fo))]) ▸ hP1
  have hD : va_D A [(ou, zaL (G.2 0) 1 (fo))] := (List.append_nil [(ou, zaL (G.2 0) 1 (fo))]) ▸ hD1
  have hS := hS1
  show W p l e rm_c_L_amount_x s m ([.ref x, .int (iz (pe)), .ref ou] : List Value).toArray below meth c H1 locs1 (0 + 1) (0 + 6) Q (F0 m 11 ls [.ref q9])
  refine lv_astore_n (lv' := [(3, .ref q9), (0, .ref x), (1, .int (iz (pe))), (2, .ref ou)]) hx hb dL_amount_11 rfl hl (by decide) rfl (fun ls hl => ?_)
  refine lv_iconst (v := iz (1)) hx hb dL_amount_12 rfl ?_
  rw [hQ]
  exact zr_iret (z := 1) (u := ()) hx hb hr hlocks hP hD hS (by first | exact Nat.le_of_ble_eq_true rfl | omega) (by first | exact Nat.le_of_ble_eq_true rfl | omega) dL_amount_13 (show 1 = 1 from rfl)

def rm_c_L_worth_o : Room := { frames := 7, cells := 0, slots := 0, locals := 169 }
set_option maxHeartbeats 1000000 in
set_option maxRecDepth 100000 in
theorem c_L_worth_o (l : Launch) (G : zG) (x : Nat) (ro : Nat) (rw : Nat) (bo : Nat) (li : Nat) (sh : Nat) (tx : Nat) (lo : Nat) (nl : Nat) (am : Nat) (q : Nat) (bq : Nat) (sa : Nat) (sb : Nat) (da : Nat) (db : Nat) (wa : Nat) (wb : Nat) (pe : Int) (po : Int) (ou : Nat) (fo : Int → Int) (h0 : -2147483648 ≤ pe ∧ pe < 2147483648) (h01 : -2147483648 ≤ po ∧ po < 2147483648) (h1 : 0 ≤ pe ∧ pe ≤ 40 ∧ 0 ≤ po ∧ po ≤ 20000) : zM l G yL_worth wsL_worth rm_c_L_worth_o [.ref x, .int (iz (pe)), .int (iz (po)), .ref ou] [(x, .inr (10, [.ref ro, .ref rw, .ref bo, .ref li, .ref sh, .ref tx, .ref lo, .ref nl])), (rw, .inr (6, [.ref am, .ref q, .ref bq])), (am, zaL (G.2 0) 41 (fun _ => 0)), (q, .inr (2, [.ref sa, .ref da, .ref wa, .long (lz (1)), .long (lz (1)), .int (iz (0))])), (sa, .inr (9, [.ref sb, .int (iz (0)), .long (lz (0))])), (sb, zaL (G.2 0) 40 (fun _ => 0)), (da, .inr (9, [.ref db, .int (iz (0)), .long (lz (0))])), (db, zaL (G.2 0) 40 (fun _ => 0)), (wa, .inr (9, [.ref wb, .int (iz (0)), .long (lz (0))])), (wb, zaL (G.2 0) 40 (fun _ => 0)), (ro, .inr (5, [.int (iz (6))])), (ou, zaL (G.2 0) 1 (fo))] (fun A => zQi G (fun (z : Int) (f2 : (Int → Int)) => z = 0 ∧ (f2 0) = 0) (fun (f2 : (Int → Int)) => [(ou, zaL (G.2 0) 1 (f2))]) A) 0 0 := by
  refine zMW_of (cc := cL_worth) (maxL := 5) (ret := (some .int)) (by decide) rfl (Nat.le_of_ble_eq_true rfl) ?_
  intro p e s m below meth c ls A Q hQ hx hb hr hts hown hlocks hml hnm hKX hP hD hA hS hl
  have hK := hKX.1
  obtain ⟨H, hH⟩ : ∃ h, h = s.heap := ⟨_, rfl⟩
  obtain ⟨locs, hlo⟩ : ∃ h : List Loc, h = [] := ⟨_, rfl⟩
  have hS : va_S A s.heap H locs := by rw [hH, hlo]; exact hS
  have hP : va_P G.1 vwCl [(x, .inr (10, [.ref ro, .ref rw, .ref bo, .ref li, .ref sh, .ref tx, .ref lo, .ref nl])), (rw, .inr (6, [.ref am, .ref q, .ref bq])), (am, zaL (G.2 0) 41 (fun _ => 0)), (q, .inr (2, [.ref sa, .ref da, .ref wa, .long (lz (1)), .long (lz (1)), .int (iz (0))])), (sa, .inr (9, [.ref sb, .int (iz (0)), .long (lz (0))])), (sb, zaL (G.2 0) 40 (fun _ => 0)), (da, .inr (9, [.ref db, .int (iz (0)), .long (lz (0))])), (db, zaL (G.2 0) 40 (fun _ => 0)), (wa, .inr (9, [.ref wb, .int (iz (0)), .long (lz (0))])), (wb, zaL (G.2 0) 40 (fun _ => 0)), (ro, .inr (5, [.int (iz (6))])), (ou, zaL (G.2 0) 1 (fo))] H := by rw [hH]; exact hP
  have hD : va_D A [(x, .inr (10, [.ref ro, .ref rw, .ref bo, .ref li, .ref sh, .ref tx, .ref lo, .ref nl])), (rw, .inr (6, [.ref am, .ref q, .ref bq])), (am, zaL (G.2 0) 41 (fun _ => 0)), (q, .inr (2, [.ref sa, .ref da, .ref wa, .long (lz (1)), .long (lz (1)), .int (iz (0))])), (sa, .inr (9, [.ref sb, .int (iz (0)), .long (lz (0))])), (sb, zaL (G.2 0) 40 (fun _ => 0)), (da, .inr (9, [.ref db, .int (iz (0)), .long (lz (0))])), (db, zaL (G.2 0) 40 (fun _ => 0)), (wa, .inr (9, [.ref wb, .int (iz (0)), .long (lz (0))])), (wb, zaL (G.2 0) 40 (fun _ => 0)), (ro, .inr (5, [.int (iz (6))])), (ou, zaL (G.2 0) 1 (fo))] := hD
  have hl : lv_has ls 5 [(0, .ref x), (1, .int (iz (pe))), (2, .int (iz (po))), (3, .ref ou)] := hl
  rw [← hH, ← hlo]
  refine lv_aload_n hx hb dL_worth_0 rfl (lv_at hl 3 rfl) ?_
  refine lv_iconst (v := iz (0)) hx hb dL_worth_1 rfl ?_
  refine lv_aload_n hx hb dL_worth_2 rfl (lv_at hl 0 rfl) ?_
  refine lv_iload_n hx hb dL_worth_3 rfl (lv_at hl 1 rfl) ?_
  refine lv_iload_n hx hb dL_worth_4 rfl (lv_at hl 2 rfl) ?_
  refine zc_l (wr := [(ou, zaL (G.2 0) 1 (fo))]) (va_runV (As := [.int (iz (pe)), .int (iz (po))]) (rest := [.int (iz (0)), .ref ou]) ⟨hx, hb, hml, hown, hts⟩ (c_X9_worth_o l G x ro rw bo li sh tx lo nl am q bq sa sb da db wa wb pe po (h0) (h01) (h1) H.size) (cwV 2 hts gL_worth_X9_worth rfl rfl rfl (by decide +kernel) ⟨Nat.le_of_ble_eq_true rfl, Nat.le_of_ble_eq_true rfl⟩) (zpV hKX hP hD [0, 1, 2, 3, 4, 5, 6, 7, 8, 9, 10] rfl rfl 0 10 rfl rfl) rfl rfl hl.1 rfl (lv_room (Nat.le_of_ble_eq_true rfl)) dL_worth_5 ⟨(by first | exact Nat.le_of_ble_eq_true rfl | (show _ ≤ (0 : Nat); omega)), (by first | exact Nat.le_of_ble_eq_true rfl | (show _ ≤ (0 : Nat); omega))⟩) hP hD hS hA [0, 1, 2, 3, 4, 5, 6, 7, 8, 9, 10] [11] rfl rfl rfl (by decide) (fun zz u_1 H locs hz hP hD hS => ?_)
  obtain ⟨u0_, u1_, u2_, u3_, u4_, u5_, u6_, u7_, u8_, u9_, u10_, u11_⟩ := u_1
  have hP : va_P G.1 vwCl [(ou, zaL (G.2 0) 1 (fo)), (x, .inr (10, [.ref ro, .ref rw, .ref bo, .ref li, .ref sh, .ref tx, .ref lo, .ref nl])), (rw, .inr (6, [.ref am, .ref q, .ref bq])), (am, zaL (G.2 0) 41 (fun _ => 0)), (q, .inr (2, [.ref sa, .ref da, .ref wa, .long (lz (u9_)), .long (lz (u10_)), .int (iz (u11_))])), (sa, .inr (9, [.ref sb, .int (iz (u1_)), .long (lz (u2_))])), (sb, zaL (G.2 0) 40 (u0_)), (da, .inr (9, [.ref db, .int (iz (u4_)), .long (lz (u5_))])), (db, zaL (G.2 0) 40 (u3_)), (wa, .inr (9, [.ref wb, .int (iz (u7_)), .long (lz (u8_))])), (wb, zaL (G.2 0) 40 (u6_)), (ro, .inr (5, [.int (iz (6))]))] H := hP
  have hD : va_D A [(ou, zaL (G.2 0) 1 (fo)), (x, .inr (10, [.ref ro, .ref rw, .ref bo, .ref li, .ref sh, .ref tx, .ref lo, .ref nl])), (rw, .inr (6, [.ref am, .ref q, .ref bq])), (am, zaL (G.2 0) 41 (fun _ => 0)), (q, .inr (2, [.ref sa, .ref da, .ref wa, .long (lz (u9_)), .long (lz (u10_)), .int (iz (u11_))])), (sa, .inr (9, [.ref sb, .int (iz (u1_)), .long (lz (u2_))])), (sb, zaL (G.2 0) 40 (u0_)), (da, .inr (9, [.ref db, .int (iz (u4_)), .long (lz (u5_))])), (db, zaL (G.2 0) 40 (u3_)), (wa, .inr (9, [.ref wb, .int (iz (u7_)), .long (lz (u8_))])), (wb, zaL (G.2 0) 40 (u6_)), (ro, .inr (5, [.int (iz (6))]))] := hD
  have hz : zz = 0 := hz
  refine zr_last hx hb hK hP hD hS 0 0 rfl rfl (i := 0) (x := zz) (⟨by omega, by omega, by omega⟩) dL_worth_8 (fun H locs hP hD hS => ?_)
  have hP : va_P G.1 vwCl [(ou, zaL (G.2 0) 1 (zup fo 0 zz)), (x, .inr (10, [.ref ro, .ref rw, .ref bo, .ref li, .ref sh, .ref tx, .ref lo, .ref nl])), (rw, .inr (6, [.ref am, .ref q, .ref bq])), (am, zaL (G.2 0) 41 (fun _ => 0)), (q, .inr (2, [.ref sa, .ref da, .ref wa, .long (lz (u9_)), .long (lz (u10_)), .int (iz (u11_))])), (sa, .inr (9, [.ref sb, .int (iz (u1_)), .long (lz (u2_))])), (sb, zaL (G.2 0) 40 (u0_)), (da, .inr (9, [.ref db, .int (iz (u4_)), .long (lz (u5_))])), (db, zaL (G.2 0) 40 (u3_)), (wa, .inr (9, [.ref wb, .int (iz (u7_)), .long (lz (u8_))])), (wb, zaL (G.2 0) 40 (u6_)), (ro, .inr (5, [.int (iz (6))]))] H := hP
  have hD : va_D A [(ou, zaL (G.2 0) 1 (zup fo 0 zz)), (x, .inr (10, [.ref ro, .ref rw, .ref bo, .ref li, .ref sh, .ref tx, .ref lo, .ref nl])), (rw, .inr (6, [.ref am, .ref q, .ref bq])), (am, zaL (G.2 0) 41 (fun _ => 0)), (q, .inr (2, [.ref sa, .ref da, .ref wa, .long (lz (u9_)), .long (lz (u10_)), .int (iz (u11_))])), (sa, .inr (9, [.ref sb, .int (iz (u1_)), .long (lz (u2_))])), (sb, zaL (G.2 0) 40 (u0_)), (da, .inr (9, [.ref db, .int (iz (u4_)), .long (lz (u5_))])), (db, zaL (G.2 0) 40 (u3_)), (wa, .inr (9, [.ref wb, .int (iz (u7_)), .long (lz (u8_))])), (wb, zaL (G.2 0) 40 (u6_)), (ro, .inr (5, [.int (iz (6))]))] := hD
  refine lv_goto (tgt := 20) hx hb dL_worth_9 (by decide) ?_
  refine lv_iconst (v := iz (0)) hx hb dL_worth_20 rfl ?_
  rw [hQ]
  exact zr_iret (z := 0) (u := (zup fo 0 zz)) hx hb hr hlocks (hP.sub [0] rfl) (hD.sub [0] (by decide) rfl) hS (by first | exact Nat.le_of_ble_eq_true rfl | omega) (by first | exact Nat.le_of_ble_eq_true rfl | omega) dL_worth_21 (show 0 = 0 ∧ ((zup fo 0 zz) 0) = 0 from ⟨rfl, by rw [zup_s]; exact hz⟩)

def rm_c_L_worth_x : Room := { frames := 9, cells := 1, slots := 6, locals := 152 }
set_option maxHeartbeats 1000000 in
set_option maxRecDepth 100000 in
theorem c_L_worth_x (l : Launch) (G : zG) (s1 : Nat) (s2 : Nat) (s3 : Nat) (x : Nat) (ro : Nat) (rw : Nat) (bo : Nat) (li : Nat) (sh : Nat) (tx : Nat) (lo : Nat) (nl : Nat) (pe : Int) (po : Int) (ou : Nat) (fo : Int → Int) (hl0 : l.stackTraces = false) (h0 : -2147483648 ≤ pe ∧ pe < 2147483648) (h01 : -2147483648 ≤ po ∧ po < 2147483648) (h1 : ¬ (0 ≤ pe ∧ pe ≤ 40 ∧ 0 ≤ po ∧ po ≤ 20000)) : zMe l (zXL s1 s2 s3) G yL_worth wsL_worth rm_c_L_worth_x [.ref x, .int (iz (pe)), .int (iz (po)), .ref ou] [(x, .inr (10, [.ref ro, .ref rw, .ref bo, .ref li, .ref sh, .ref tx, .ref lo, .ref nl])), (ou, zaL (G.2 0) 1 (fo))] (fun A => zQi G (fun (z : Int) (_ : Unit) => z = 1) (fun (_ : Unit) => [(ou, zaL (G.2 0) 1 (fo))]) A) 1 6 := by
  refine zMeW_of (cc := cL_worth) (maxL := 5) (ret := (some .int)) (by decide) rfl (Nat.le_of_ble_eq_true rfl) ?_
  intro p e s m below meth c ls A Q hQ hx hb hr hts hown hlocks hml hnm htab hKX hE hP hD hA hS hl
  have hK := hKX.1
  obtain ⟨H, hH⟩ : ∃ h, h = s.heap := ⟨_, rfl⟩
  obtain ⟨locs, hlo⟩ : ∃ h : List Loc, h = [] := ⟨_, rfl⟩
  have hS : va_S A s.heap H locs := by rw [hH, hlo]; exact hS
  have hP : va_P G.1 vwCl [(x, .inr (10, [.ref ro, .ref rw, .ref bo, .ref li, .ref sh, .ref tx, .ref lo, .ref nl])), (ou, zaL (G.2 0) 1 (fo))] H := by rw [hH]; exact hP
  have hD : va_D A [(x, .inr (10, [.ref ro, .ref rw, .ref bo, .ref li, .ref sh, .ref tx, .ref lo, .ref nl])), (ou, zaL (G.2 0) 1 (fo))] := hD
  have hl : lv_has ls 5 [(0, .ref x), (1, .int (iz (pe))), (2, .int (iz (po))), (3, .ref ou)] := hl
  rw [← hH, ← hlo]
  refine lv_aload_n hx hb dL_worth_0 rfl (lv_at hl 3 rfl) ?_
  refine lv_iconst (v := iz (0)) hx hb dL_worth_1 rfl ?_
  refine lv_aload_n hx hb dL_worth_2 rfl (lv_at hl 0 rfl) ?_
  refine lv_iload_n hx hb dL_worth_3 rfl (lv_at hl 1 rfl) ?_
  refine lv_iload_n hx hb dL_worth_4 rfl (lv_at hl 2 rfl) ?_
  refine zx_call (X := "java/lang/IllegalArgumentException") (AX := va_A [(x, .inr (10, [.ref ro, .ref rw, .ref bo, .ref li, .ref sh, .ref tx, .ref lo, .ref nl]))] H.size) (fun _ _ _ h => h) (vx_runV (As := [.int (iz (pe)), .int (iz (po))]) (rest := [.int (iz (0)), .ref ou]) ⟨hx, hb, hml, hown, hts⟩ (c_X9_worth_x l G s1 s2 s3 x ro rw bo li sh tx lo nl pe po hl0 (h0) (h01) (h1) H.size) (cwV 2 hts gL_worth_X9_worth rfl rfl rfl (by decide +kernel) ⟨Nat.le_of_ble_eq_true rfl, Nat.le_of_ble_eq_true rfl⟩) (zpVe zXE_ok hE.1 hS hA hKX hP hD [0] rfl rfl (va_recv hK hP (ci := 10) (q0 := 0) rfl rfl)) rfl rfl hl.1 rfl (lv_room (Nat.le_of_ble_eq_true rfl)) dL_worth_5 ⟨(by first | exact Nat.le_of_ble_eq_true rfl | (show _ ≤ (1 : Nat); omega)), (by first | exact Nat.le_of_ble_eq_true rfl | (show _ ≤ (6 : Nat); omega))⟩) hS (va_free (wc := [(x, .inr (10, [.ref ro, .ref rw, .ref bo, .ref li, .ref sh, .ref tx, .ref lo, .ref nl]))]) hD hS hA [0] rfl) (fun aq_ _ ah_ => (va_free (wc := [(x, .inr (10, [.ref ro, .ref rw, .ref bo, .ref li, .ref sh, .ref tx, .ref lo, .ref nl]))]) hD hS hA [0] rfl) aq_ ah_) (fun ce q9 H1 locs1 hsz9 hk9 hS1 hce hcv hcl => ?_)
  obtain ⟨hP1, hD1⟩ := va_join (wr := [(ou, zaL (G.2 0) 1 (fo))]) (w1 := []) hP hD [0] [1] rfl rfl rfl (by decide) hk9 (va_free (wc := [(x, .inr (10, [.ref ro, .ref rw, .ref bo, .ref li, .ref sh, .ref tx, .ref lo, .ref nl]))]) hD hS hA [0] rfl) (fun k q h => by cases h) zD_nil
  refine vx_catch hown [] (⟨0, 9, 12, 13⟩ : ExceptionTableEntry) [(⟨0, 9, 16, 19⟩ : ExceptionTableEntry)] (htab.trans rfl) (fun _ h => nomatch h) (by decide) (by decide) (hts (.classLink RL 13 "java/lang/IllegalArgumentException") (by decide +kernel)) (va_Nw.use rfl (hKX.2.2.2 (.castable "java/lang/IllegalArgumentException" "java/lang/IllegalArgumentException") (by decide +kernel))) hce hcv hcl ?_
  have hP : va_P G.1 vwCl [(ou, zaL (G.2 0) 1 (fo))] H1 := (List.append_nil [(ou, zaL (G.2 0) 1 (fo))]) ▸ hP1
  have hD : va_D A [(ou, zaL (G.2 0) 1 (fo))] := (List.append_nil [(ou, zaL (G.2 0) 1 (fo))]) ▸ hD1
  have hS := hS1
  show W p l e rm_c_L_worth_x s m ([.ref x, .int (iz (pe)), .int (iz (po)), .ref ou] : List Value).toArray below meth c H1 locs1 (0 + 1) (0 + 6) Q (F0 m 12 ls [.ref q9])
  refine lv_astore (lv' := [(4, .ref q9), (0, .ref x), (1, .int (iz (pe))), (2, .int (iz (po))), (3, .ref ou)]) hx hb dL_worth_12 hl (by decide) rfl (fun ls hl => ?_)
  refine lv_iconst (v := iz (1)) hx hb dL_worth_14 rfl ?_
  rw [hQ]
  exact zr_iret (z := 1) (u := ()) hx hb hr hlocks hP hD hS (by first | exact Nat.le_of_ble_eq_true rfl | omega) (by first | exact Nat.le_of_ble_eq_true rfl | omega) dL_worth_15 (show 1 = 1 from rfl)

def rm_c_L_signAt_o : Room := { frames := 7, cells := 0, slots := 0, locals := 164 }
set_option maxHeartbeats 1000000 in
set_option maxRecDepth 100000 in
theorem c_L_signAt_o (l : Launch) (G : zG) (x : Nat) (ro : Nat) (rw : Nat) (bo : Nat) (li : Nat) (sh : Nat) (tx : Nat) (lo : Nat) (nl : Nat) (am : Nat) (q : Nat) (bq : Nat) (wa : Nat) (sa : Nat) (sb : Nat) (da : Nat) (db : Nat) (po : Int) (ou : Nat) (fo : Int → Int) (h0 : -2147483648 ≤ po ∧ po < 2147483648) (h1 : 0 ≤ po ∧ po ≤ 20000) : zM l G yL_signAt wsL_signAt rm_c_L_signAt_o [.ref x, .int (iz (po)), .ref ou] [(x, .inr (10, [.ref ro, .ref rw, .ref bo, .ref li, .ref sh, .ref tx, .ref lo, .ref nl])), (rw, .inr (6, [.ref am, .ref q, .ref bq])), (am, zaL (G.2 0) 41 (fun _ => 0)), (q, .inr (2, [.ref sa, .ref da, .ref wa, .long (lz (1)), .long (lz (1)), .int (iz (0))])), (sa, .inr (9, [.ref sb, .int (iz (0)), .long (lz (0))])), (sb, zaL (G.2 0) 40 (fun _ => 0)), (da, .inr (9, [.ref db, .int (iz (0)), .long (lz (0))])), (db, zaL (G.2 0) 40 (fun _ => 0)), (ou, zaL (G.2 0) 1 (fo))] (fun A => zQi G (fun (z : Int) (f2 : (Int → Int)) => z = 0 ∧ (f2 0) = 0) (fun (f2 : (Int → Int)) => [(ou, zaL (G.2 0) 1 (f2))]) A) 0 0 := by
  refine zMW_of (cc := cL_signAt) (maxL := 4) (ret := (some .int)) (by decide) rfl (Nat.le_of_ble_eq_true rfl) ?_
  intro p e s m below meth c ls A Q hQ hx hb hr hts hown hlocks hml hnm hKX hP hD hA hS hl
  have hK := hKX.1
  obtain ⟨H, hH⟩ : ∃ h, h = s.heap := ⟨_, rfl⟩
  obtain ⟨locs, hlo⟩ : ∃ h : List Loc, h = [] := ⟨_, rfl⟩
  have hS : va_S A s.heap H locs := by rw [hH, hlo]; exact hS
  have hP : va_P G.1 vwCl [(x, .inr (10, [.ref ro, .ref rw, .ref bo, .ref li, .ref sh, .ref tx, .ref lo, .ref nl])), (rw, .inr (6, [.ref am, .ref q, .ref bq])), (am, zaL (G.2 0) 41 (fun _ => 0)), (q, .inr (2, [.ref sa, .ref da, .ref wa, .long (lz (1)), .long (lz (1)), .int (iz (0))])), (sa, .inr (9, [.ref sb, .int (iz (0)), .long (lz (0))])), (sb, zaL (G.2 0) 40 (fun _ => 0)), (da, .inr (9, [.ref db, .int (iz (0)), .long (lz (0))])), (db, zaL (G.2 0) 40 (fun _ => 0)), (ou, zaL (G.2 0) 1 (fo))] H := by rw [hH]; exact hP
  have hD : va_D A [(x, .inr (10, [.ref ro, .ref rw, .ref bo, .ref li, .ref sh, .ref tx, .ref lo, .ref nl])), (rw, .inr (6, [.ref am, .ref q, .ref bq])), (am, zaL (G.2 0) 41 (fun _ => 0)), (q, .inr (2, [.ref sa, .ref da, .ref wa, .long (lz (1)), .long (lz (1)), .int (iz (0))])), (sa, .inr (9, [.ref sb, .int (iz (0)), .long (lz (0))])), (sb, zaL (G.2 0) 40 (fun _ => 0)), (da, .inr (9, [.ref db, .int (iz (0)), .long (lz (0))])), (db, zaL (G.2 0) 40 (fun _ => 0)), (ou, zaL (G.2 0) 1 (fo))] := hD
  have hl : lv_has ls 4 [(0, .ref x), (1, .int (iz (po))), (2, .ref ou)] := hl
  rw [← hH, ← hlo]
  refine lv_aload_n hx hb dL_signAt_0 rfl (lv_at hl 2 rfl) ?_
  refine lv_iconst (v := iz (0)) hx hb dL_signAt_1 rfl ?_
  refine lv_aload_n hx hb dL_signAt_2 rfl (lv_at hl 0 rfl) ?_
  refine lv_iload_n hx hb dL_signAt_3 rfl (lv_at hl 1 rfl) ?_
  refine zc_i (wr := [(ou, zaL (G.2 0) 1 (fo))]) (va_runV (As := [.int (iz (po))]) (rest := [.int (iz (0)), .ref ou]) ⟨hx, hb, hml, hown, hts⟩ (c_X9_signAt_o l G x ro rw bo li sh tx lo nl am q bq wa sa sb da db po (h0) (h1) H.size) (cwV 1 hts gL_signAt_X9_signAt rfl rfl rfl (by decide +kernel) ⟨Nat.le_of_ble_eq_true rfl, Nat.le_of_ble_eq_true rfl⟩) (zpV hKX hP hD [0, 1, 2, 3, 4, 5, 6, 7] rfl rfl 0 10 rfl rfl) rfl rfl hl.1 rfl (lv_room (Nat.le_of_ble_eq_true rfl)) dL_signAt_4 ⟨(by first | exact Nat.le_of_ble_eq_true rfl | (show _ ≤ (0 : Nat); omega)), (by first | exact Nat.le_of_ble_eq_true rfl | (show _ ≤ (0 : Nat); omega))⟩) hP hD hS hA [0, 1, 2, 3, 4, 5, 6, 7] [8] rfl rfl rfl (by decide) (fun zz u_1 H locs hz hP hD hS => ?_)
  obtain ⟨u0_, u1_, u2_, u3_, u4_, u5_, u6_, u7_, u8_⟩ := u_1
  have hP : va_P G.1 vwCl [(ou, zaL (G.2 0) 1 (fo)), (x, .inr (10, [.ref ro, .ref rw, .ref bo, .ref li, .ref sh, .ref tx, .ref lo, .ref nl])), (rw, .inr (6, [.ref am, .ref q, .ref bq])), (am, zaL (G.2 0) 41 (fun _ => 0)), (q, .inr (2, [.ref sa, .ref da, .ref wa, .long (lz (u6_)), .long (lz (u7_)), .int (iz (u8_))])), (sa, .inr (9, [.ref sb, .int (iz (u1_)), .long (lz (u2_))])), (sb, zaL (G.2 0) 40 (u0_)), (da, .inr (9, [.ref db, .int (iz (u4_)), .long (lz (u5_))])), (db, zaL (G.2 0) 40 (u3_))] H := hP
  have hD : va_D A [(ou, zaL (G.2 0) 1 (fo)), (x, .inr (10, [.ref ro, .ref rw, .ref bo, .ref li, .ref sh, .ref tx, .ref lo, .ref nl])), (rw, .inr (6, [.ref am, .ref q, .ref bq])), (am, zaL (G.2 0) 41 (fun _ => 0)), (q, .inr (2, [.ref sa, .ref da, .ref wa, .long (lz (u6_)), .long (lz (u7_)), .int (iz (u8_))])), (sa, .inr (9, [.ref sb, .int (iz (u1_)), .long (lz (u2_))])), (sb, zaL (G.2 0) 40 (u0_)), (da, .inr (9, [.ref db, .int (iz (u4_)), .long (lz (u5_))])), (db, zaL (G.2 0) 40 (u3_))] := hD
  have hz : zz = 0 := hz
  refine zr_i2l hx hb (x := zz) (⟨by omega, by omega⟩) dL_signAt_7 ?_
  refine zr_last hx hb hK hP hD hS 0 0 rfl rfl (i := 0) (x := zz) (⟨by omega, by omega, by omega⟩) dL_signAt_8 (fun H locs hP hD hS => ?_)
  have hP : va_P G.1 vwCl [(ou, zaL (G.2 0) 1 (zup fo 0 zz)), (x, .inr (10, [.ref ro, .ref rw, .ref bo, .ref li, .ref sh, .ref tx, .ref lo, .ref nl])), (rw, .inr (6, [.ref am, .ref q, .ref bq])), (am, zaL (G.2 0) 41 (fun _ => 0)), (q, .inr (2, [.ref sa, .ref da, .ref wa, .long (lz (u6_)), .long (lz (u7_)), .int (iz (u8_))])), (sa, .inr (9, [.ref sb, .int (iz (u1_)), .long (lz (u2_))])), (sb, zaL (G.2 0) 40 (u0_)), (da, .inr (9, [.ref db, .int (iz (u4_)), .long (lz (u5_))])), (db, zaL (G.2 0) 40 (u3_))] H := hP
  have hD : va_D A [(ou, zaL (G.2 0) 1 (zup fo 0 zz)), (x, .inr (10, [.ref ro, .ref rw, .ref bo, .ref li, .ref sh, .ref tx, .ref lo, .ref nl])), (rw, .inr (6, [.ref am, .ref q, .ref bq])), (am, zaL (G.2 0) 41 (fun _ => 0)), (q, .inr (2, [.ref sa, .ref da, .ref wa, .long (lz (u6_)), .long (lz (u7_)), .int (iz (u8_))])), (sa, .inr (9, [.ref sb, .int (iz (u1_)), .long (lz (u2_))])), (sb, zaL (G.2 0) 40 (u0_)), (da, .inr (9, [.ref db, .int (iz (u4_)), .long (lz (u5_))])), (db, zaL (G.2 0) 40 (u3_))] := hD
  refine lv_goto (tgt := 15) hx hb dL_signAt_9 (by decide) ?_
  refine lv_iconst (v := iz (0)) hx hb dL_signAt_15 rfl ?_
  rw [hQ]
  exact zr_iret (z := 0) (u := (zup fo 0 zz)) hx hb hr hlocks (hP.sub [0] rfl) (hD.sub [0] (by decide) rfl) hS (by first | exact Nat.le_of_ble_eq_true rfl | omega) (by first | exact Nat.le_of_ble_eq_true rfl | omega) dL_signAt_16 (show 0 = 0 ∧ ((zup fo 0 zz) 0) = 0 from ⟨rfl, by rw [zup_s]; exact hz⟩)

def rm_c_L_signAt_x : Room := { frames := 9, cells := 1, slots := 6, locals := 151 }
set_option maxHeartbeats 1000000 in
set_option maxRecDepth 100000 in
theorem c_L_signAt_x (l : Launch) (G : zG) (s1 : Nat) (s2 : Nat) (s3 : Nat) (x : Nat) (ro : Nat) (rw : Nat) (bo : Nat) (li : Nat) (sh : Nat) (tx : Nat) (lo : Nat) (nl : Nat) (po : Int) (ou : Nat) (fo : Int → Int) (hl0 : l.stackTraces = false) (h0 : -2147483648 ≤ po ∧ po < 2147483648) (h1 : ¬ (0 ≤ po ∧ po ≤ 20000)) : zMe l (zXL s1 s2 s3) G yL_signAt wsL_signAt rm_c_L_signAt_x [.ref x, .int (iz (po)), .ref ou] [(x, .inr (10, [.ref ro, .ref rw, .ref bo, .ref li, .ref sh, .ref tx, .ref lo, .ref nl])), (ou, zaL (G.2 0) 1 (fo))] (fun A => zQi G (fun (z : Int) (_ : Unit) => z = 1) (fun (_ : Unit) => [(ou, zaL (G.2 0) 1 (fo))]) A) 1 6 := by
  refine zMeW_of (cc := cL_signAt) (maxL := 4) (ret := (some .int)) (by decide) rfl (Nat.le_of_ble_eq_true rfl) ?_
  intro p e s m below meth c ls A Q hQ hx hb hr hts hown hlocks hml hnm htab hKX hE hP hD hA hS hl
  have hK := hKX.1
  obtain ⟨H, hH⟩ : ∃ h, h = s.heap := ⟨_, rfl⟩
  obtain ⟨locs, hlo⟩ : ∃ h : List Loc, h = [] := ⟨_, rfl⟩
  have hS : va_S A s.heap H locs := by rw [hH, hlo]; exact hS
  have hP : va_P G.1 vwCl [(x, .inr (10, [.ref ro, .ref rw, .ref bo, .ref li, .ref sh, .ref tx, .ref lo, .ref nl])), (ou, zaL (G.2 0) 1 (fo))] H := by rw [hH]; exact hP
  have hD : va_D A [(x, .inr (10, [.ref ro, .ref rw, .ref bo, .ref li, .ref sh, .ref tx, .ref lo, .ref nl])), (ou, zaL (G.2 0) 1 (fo))] := hD
  have hl : lv_has ls 4 [(0, .ref x), (1, .int (iz (po))), (2, .ref ou)] := hl
  rw [← hH, ← hlo]
  refine lv_aload_n hx hb dL_signAt_0 rfl (lv_at hl 2 rfl) ?_
  refine lv_iconst (v := iz (0)) hx hb dL_signAt_1 rfl ?_
  refine lv_aload_n hx hb dL_signAt_2 rfl (lv_at hl 0 rfl) ?_
  refine lv_iload_n hx hb dL_signAt_3 rfl (lv_at hl 1 rfl) ?_
  refine zx_call (X := "java/lang/IllegalArgumentException") (AX := va_A [(x, .inr (10, [.ref ro, .ref rw, .ref bo, .ref li, .ref sh, .ref tx, .ref lo, .ref nl]))] H.size) (fun _ _ _ h => h) (vx_runV (As := [.int (iz (po))]) (rest := [.int (iz (0)), .ref ou]) ⟨hx, hb, hml, hown, hts⟩ (c_X9_signAt_x l G s1 s2 s3 x ro rw bo li sh tx lo nl po hl0 (h0) (h1) H.size) (cwV 1 hts gL_signAt_X9_signAt rfl rfl rfl (by decide +kernel) ⟨Nat.le_of_ble_eq_true rfl, Nat.le_of_ble_eq_true rfl⟩) (zpVe zXE_ok hE.1 hS hA hKX hP hD [0] rfl rfl (va_recv hK hP (ci := 10) (q0 := 0) rfl rfl)) rfl rfl hl.1 rfl (lv_room (Nat.le_of_ble_eq_true rfl)) dL_signAt_4 ⟨(by first | exact Nat.le_of_ble_eq_true rfl | (show _ ≤ (1 : Nat); omega)), (by first | exact Nat.le_of_ble_eq_true rfl | (show _ ≤ (6 : Nat); omega))⟩) hS (va_free (wc := [(x, .inr (10, [.ref ro, .ref rw, .ref bo, .ref li, .ref sh, .ref tx, .ref lo, .ref nl]))]) hD hS hA [0] rfl) (fun aq_ _ ah_ => (va_free (wc := [(x, .inr (10, [.ref ro, .ref rw, .ref bo, .ref li, .ref sh, .ref tx, .ref lo, .ref nl]))]) hD hS hA [0] rfl) aq_ ah_) (fun ce q9 H1 locs1 hsz9 hk9 hS1 hce hcv hcl => ?_)
  obtain ⟨hP1, hD1⟩ := va_join (wr := [(ou, zaL (G.2 0) 1 (fo))]) (w1 := []) hP hD [0] [1] rfl rfl rfl (by decide) hk9 (va_free (wc := [(x, .inr (10, [.ref ro, .ref rw, .ref bo, .ref li, .ref sh, .ref tx, .ref lo, .ref nl]))]) hD hS hA [0] rfl) (fun k q h => by cases h) zD_nil
  refine vx_catch hown [] (⟨0, 9, 12, 13⟩ : ExceptionTableEntry) [] (htab.trans rfl) (fun _ h => nomatch h) (by decide) (by decide) (hts (.classLink RL 13 "java/lang/IllegalArgumentException") (by decide +kernel)) (va_Nw.use rfl (hKX.2.2.2 (.castable "java/lang/IllegalArgumentException" "java/lang/IllegalArgumentException") (by decide +kernel))) hce hcv hcl ?_
  have hP : va_P G.1 vwCl [(ou, zaL (G.2 0) 1 (fo))] H1 := (List.append_nil [(ou, zaL (G.2 0) 1 (fo))]) ▸ hP1
  have hD : va_D A [(ou, zaL (G.2 0) 1 (fo))] := (List.append_nil [(ou, zaL (G.2 0) 1 (fo))]) ▸ hD1
  have hS := hS1
  show W p l e rm_c_L_signAt_x s m ([.ref x, .int (iz (po)), .ref ou] : List Value).toArray below meth c H1 locs1 (0 + 1) (0 + 6) Q (F0 m 12 ls [.ref q9])
  refine lv_astore_n (lv' := [(3, .ref q9), (0, .ref x), (1, .int (iz (po))), (2, .ref ou)]) hx hb dL_signAt_12 rfl hl (by decide) rfl (fun ls hl => ?_)
  refine lv_iconst (v := iz (1)) hx hb dL_signAt_13 rfl ?_
  rw [hQ]
  exact zr_iret (z := 1) (u := ()) hx hb hr hlocks hP hD hS (by first | exact Nat.le_of_ble_eq_true rfl | omega) (by first | exact Nat.le_of_ble_eq_true rfl | omega) dL_signAt_14 (show 1 = 1 from rfl)

def rm_c_L_rowYield : Room := { frames := 8, cells := 1, slots := 6, locals := 130 }
set_option maxHeartbeats 1000000 in
set_option maxRecDepth 100000 in
theorem c_L_rowYield (l : Launch) (G : zG) (s1 : Nat) (s2 : Nat) (s3 : Nat) (x : Nat) (ro : Nat) (rw : Nat) (bo : Nat) (li : Nat) (sh : Nat) (tx : Nat) (lo : Nat) (nl : Nat) (am : Nat) (q : Nat) (bq : Nat) (ou : Nat) (fo : Int → Int) (hl0 : l.stackTraces = false) : zMe l (zXL s1 s2 s3) G yL_rowYield wsL_rowYield rm_c_L_rowYield [.ref x, .ref ou] [(x, .inr (10, [.ref ro, .ref rw, .ref bo, .ref li, .ref sh, .ref tx, .ref lo, .ref nl])), (rw, .inr (6, [.ref am, .ref q, .ref bq])), (am, zaL (G.2 0) 41 (fun _ => 0)), (ou, zaL (G.2 0) 1 (fo))] (fun A => zQi G (fun (z : Int) (_ : Unit) => z = 1) (fun (_ : Unit) => [(ou, zaL (G.2 0) 1 (fo))]) A) 1 6 := by
  refine zMeW_of (cc := cL_rowYield) (maxL := 3) (ret := (some .int)) (by decide) rfl (Nat.le_of_ble_eq_true rfl) ?_
  intro p e s m below meth c ls A Q hQ hx hb hr hts hown hlocks hml hnm htab hKX hE hP hD hA hS hl
  have hK := hKX.1
  obtain ⟨H, hH⟩ : ∃ h, h = s.heap := ⟨_, rfl⟩
  obtain ⟨locs, hlo⟩ : ∃ h : List Loc, h = [] := ⟨_, rfl⟩
  have hS : va_S A s.heap H locs := by rw [hH, hlo]; exact hS
  have hP : va_P G.1 vwCl [(x, .inr (10, [.ref ro, .ref rw, .ref bo, .ref li, .ref sh, .ref tx, .ref lo, .ref nl])), (rw, .inr (6, [.ref am, .ref q, .ref bq])), (am, zaL (G.2 0) 41 (fun _ => 0)), (ou, zaL (G.2 0) 1 (fo))] H := by rw [hH]; exact hP
  have hD : va_D A [(x, .inr (10, [.ref ro, .ref rw, .ref bo, .ref li, .ref sh, .ref tx, .ref lo, .ref nl])), (rw, .inr (6, [.ref am, .ref q, .ref bq])), (am, zaL (G.2 0) 41 (fun _ => 0)), (ou, zaL (G.2 0) 1 (fo))] := hD
  have hl : lv_has ls 3 [(0, .ref x), (1, .ref ou)] := hl
  rw [← hH, ← hlo]
  refine lv_aload_n hx hb dL_rowYield_0 rfl (lv_at hl 1 rfl) ?_
  refine lv_iconst (v := iz (0)) hx hb dL_rowYield_1 rfl ?_
  refine lv_aload_n hx hb dL_rowYield_2 rfl (lv_at hl 0 rfl) ?_
  refine zx_call (X := "java/lang/IllegalStateException") (AX := va_A [(x, .inr (10, [.ref ro, .ref rw, .ref bo, .ref li, .ref sh, .ref tx, .ref lo, .ref nl])), (rw, .inr (6, [.ref am, .ref q, .ref bq])), (am, zaL (G.2 0) 41 (fun _ => 0))] H.size) (fun _ _ _ h => h) (vx_runV (As := []) (rest := [.int (iz (0)), .ref ou]) ⟨hx, hb, hml, hown, hts⟩ (c_X9_rowYield l G s1 s2 s3 x ro rw bo li sh tx lo nl am q bq hl0 H.size) (cwV 0 hts gL_rowYield_X9_rowYield rfl rfl rfl (by decide +kernel) ⟨Nat.le_of_ble_eq_true rfl, Nat.le_of_ble_eq_true rfl⟩) (zpVe zXE_ok hE.1 hS hA hKX hP hD [0, 1, 2] rfl rfl (va_recv hK hP (ci := 10) (q0 := 0) rfl rfl)) rfl rfl hl.1 rfl (lv_room (Nat.le_of_ble_eq_true rfl)) dL_rowYield_3 ⟨(by first | exact Nat.le_of_ble_eq_true rfl | (show _ ≤ (1 : Nat); omega)), (by first | exact Nat.le_of_ble_eq_true rfl | (show _ ≤ (6 : Nat); omega))⟩) hS (va_free (wc := [(x, .inr (10, [.ref ro, .ref rw, .ref bo, .ref li, .ref sh, .ref tx, .ref lo, .ref nl])), (rw, .inr (6, [.ref am, .ref q, .ref bq])), (am, zaL (G.2 0) 41 (fun _ => 0))]) hD hS hA [0, 1, 2] rfl) (fun aq_ _ ah_ => (va_free (wc := [(x, .inr (10, [.ref ro, .ref rw, .ref bo, .ref li, .ref sh, .ref tx, .ref lo, .ref nl])), (rw, .inr (6, [.ref am, .ref q, .ref bq])), (am, zaL (G.2 0) 41 (fun _ => 0))]) hD hS hA [0, 1, 2] rfl) aq_ ah_) (fun ce q9 H1 locs1 hsz9 hk9 hS1 hce hcv hcl => ?_)
  obtain ⟨hP1, hD1⟩ := va_join (wr := [(ou, zaL (G.2 0) 1 (fo))]) (w1 := []) hP hD [0, 1, 2] [3] rfl rfl rfl (by decide) hk9 (va_free (wc := [(x, .inr (10, [.ref ro, .ref rw, .ref bo, .ref li, .ref sh, .ref tx, .ref lo, .ref nl])), (rw, .inr (6, [.ref am, .ref q, .ref bq])), (am, zaL (G.2 0) 41 (fun _ => 0))]) hD hS hA [0, 1, 2] rfl) (fun k q h => by cases h) zD_nil
  refine vx_catch hown [] (⟨0, 8, 11, 19⟩ : ExceptionTableEntry) [] (htab.trans rfl) (fun _ h => nomatch h) (by decide) (by decide) (hts (.classLink RL 19 "java/lang/IllegalStateException") (by decide +kernel)) (va_Nw.use rfl (hKX.2.2.2 (.castable "java/lang/IllegalStateException" "java/lang/IllegalStateException") (by decide +kernel))) hce hcv hcl ?_
  have hP : va_P G.1 vwCl [(ou, zaL (G.2 0) 1 (fo))] H1 := (List.append_nil [(ou, zaL (G.2 0) 1 (fo))]) ▸ hP1
  have hD : va_D A [(ou, zaL (G.2 0) 1 (fo))] := (List.append_nil [(ou, zaL (G.2 0) 1 (fo))]) ▸ hD1
  have hS := hS1
  show W p l e rm_c_L_rowYield s m ([.ref x, .ref ou] : List Value).toArray below meth c H1 locs1 (0 + 1) (0 + 6) Q (F0 m 11 ls [.ref q9])
  refine lv_astore_n (lv' := [(2, .ref q9), (0, .ref x), (1, .ref ou)]) hx hb dL_rowYield_11 rfl hl (by decide) rfl (fun ls hl => ?_)
  refine lv_iconst (v := iz (1)) hx hb dL_rowYield_12 rfl ?_
  rw [hQ]
  exact zr_iret (z := 1) (u := ()) hx hb hr hlocks hP hD hS (by first | exact Nat.le_of_ble_eq_true rfl | omega) (by first | exact Nat.le_of_ble_eq_true rfl | omega) dL_rowYield_13 (show 1 = 1 from rfl)

def rm_c_L_lend_o : Room := { frames := 7, cells := 0, slots := 0, locals := 199 }
set_option maxHeartbeats 1000000 in
set_option maxRecDepth 100000 in
theorem c_L_lend_o (l : Launch) (G : zG) (x : Nat) (ro : Nat) (rw : Nat) (bo : Nat) (li : Nat) (sh : Nat) (tx : Nat) (lo : Nat) (nl : Nat) (nr : Nat) (ne : Nat) (nh : Nat) (tb : Nat) (q : Nat) (tr : Nat → Nat) (sa : Nat) (sb : Nat) (da : Nat) (db : Nat) (wa : Nat) (wb : Nat) (mo : Int) (po : Int) (pn : Int) (ou : Nat) (fo : Int → Int) (h0 : -9223372036854775808 ≤ mo ∧ mo < 9223372036854775808) (h01 : -2147483648 ≤ po ∧ po < 2147483648) (h02 : -2147483648 ≤ pn ∧ pn < 2147483648) (h1 : 1 ≤ mo ∧ mo ≤ 1000000000 ∧ 0 ≤ po ∧ po ≤ 20000 ∧ 1 ≤ pn ∧ pn ≤ 60) : zM l G yL_lend wsL_lend rm_c_L_lend_o [.ref x, .long (lz (mo)), .int (iz (po)), .int (iz (pn)), .ref ou] [(x, .inr (10, [.ref ro, .ref rw, .ref bo, .ref li, .ref sh, .ref tx, .ref lo, .ref nl])), (nl, .inr (4, [.ref nr, .ref ne, .ref nh, .ref tb, .ref q, .long (lz (0)), .int (iz (0)), .int (iz (0))])), (nr, zaI (G.2 1) 61 (fun _ => 0)), (ne, zaL (G.2 0) 61 (fun _ => 0)), (nh, zaZ (G.2 2) 61 (fun _ => 0)), (tb, zaR (G.2 3) 7 (ztb tr)), ((tr 0), zaL (G.2 0) 61 (fun _ => 0)), ((tr 1), zaL (G.2 0) 61 (fun _ => 0)), ((tr 2), zaL (G.2 0) 61 (fun _ => 0)), ((tr 3), zaL (G.2 0) 61 (fun _ => 0)), ((tr 4), zaL (G.2 0) 61 (fun _ => 0)), ((tr 5), zaL (G.2 0) 61 (fun _ => 0)), ((tr 6), zaL (G.2 0) 61 (fun _ => 0)), (q, .inr (2, [.ref sa, .ref da, .ref wa, .long (lz (1)), .long (lz (1)), .int (iz (0))])), (sa, .inr (9, [.ref sb, .int (iz (0)), .long (lz (0))])), (sb, zaL (G.2 0) 40 (fun _ => 0)), (da, .inr (9, [.ref db, .int (iz (0)), .long (lz (0))])), (db, zaL (G.2 0) 40 (fun _ => 0)), (wa, .inr (9, [.ref wb, .int (iz (0)), .long (lz (0))])), (wb, zaL (G.2 0) 40 (fun _ => 0)), (ro, .inr (5, [.int (iz (6))])), (ou, zaL (G.2 0) 1 (fo))] (fun A => zQi G (fun (z : Int) (f2 : (Int → Int)) => z = 0 ∧ (f2 0) = zinst mo po pn) (fun (f2 : (Int → Int)) => [(ou, zaL (G.2 0) 1 (f2))]) A) 0 0 := by
  refine zMW_of (cc := cL_lend) (maxL := 7) (ret := (some .int)) (by decide) rfl (Nat.le_of_ble_eq_true rfl) ?_
  intro p e s m below meth c ls A Q hQ hx hb hr hts hown hlocks hml hnm hKX hP hD hA hS hl
  have hK := hKX.1
  obtain ⟨H, hH⟩ : ∃ h, h = s.heap := ⟨_, rfl⟩
  obtain ⟨locs, hlo⟩ : ∃ h : List Loc, h = [] := ⟨_, rfl⟩
  have hS : va_S A s.heap H locs := by rw [hH, hlo]; exact hS
  have hP : va_P G.1 vwCl [(x, .inr (10, [.ref ro, .ref rw, .ref bo, .ref li, .ref sh, .ref tx, .ref lo, .ref nl])), (nl, .inr (4, [.ref nr, .ref ne, .ref nh, .ref tb, .ref q, .long (lz (0)), .int (iz (0)), .int (iz (0))])), (nr, zaI (G.2 1) 61 (fun _ => 0)), (ne, zaL (G.2 0) 61 (fun _ => 0)), (nh, zaZ (G.2 2) 61 (fun _ => 0)), (tb, zaR (G.2 3) 7 (ztb tr)), ((tr 0), zaL (G.2 0) 61 (fun _ => 0)), ((tr 1), zaL (G.2 0) 61 (fun _ => 0)), ((tr 2), zaL (G.2 0) 61 (fun _ => 0)), ((tr 3), zaL (G.2 0) 61 (fun _ => 0)), ((tr 4), zaL (G.2 0) 61 (fun _ => 0)), ((tr 5), zaL (G.2 0) 61 (fun _ => 0)), ((tr 6), zaL (G.2 0) 61 (fun _ => 0)), (q, .inr (2, [.ref sa, .ref da, .ref wa, .long (lz (1)), .long (lz (1)), .int (iz (0))])), (sa, .inr (9, [.ref sb, .int (iz (0)), .long (lz (0))])), (sb, zaL (G.2 0) 40 (fun _ => 0)), (da, .inr (9, [.ref db, .int (iz (0)), .long (lz (0))])), (db, zaL (G.2 0) 40 (fun _ => 0)), (wa, .inr (9, [.ref wb, .int (iz (0)), .long (lz (0))])), (wb, zaL (G.2 0) 40 (fun _ => 0)), (ro, .inr (5, [.int (iz (6))])), (ou, zaL (G.2 0) 1 (fo))] H := by rw [hH]; exact hP
  have hD : va_D A [(x, .inr (10, [.ref ro, .ref rw, .ref bo, .ref li, .ref sh, .ref tx, .ref lo, .ref nl])), (nl, .inr (4, [.ref nr, .ref ne, .ref nh, .ref tb, .ref q, .long (lz (0)), .int (iz (0)), .int (iz (0))])), (nr, zaI (G.2 1) 61 (fun _ => 0)), (ne, zaL (G.2 0) 61 (fun _ => 0)), (nh, zaZ (G.2 2) 61 (fun _ => 0)), (tb, zaR (G.2 3) 7 (ztb tr)), ((tr 0), zaL (G.2 0) 61 (fun _ => 0)), ((tr 1), zaL (G.2 0) 61 (fun _ => 0)), ((tr 2), zaL (G.2 0) 61 (fun _ => 0)), ((tr 3), zaL (G.2 0) 61 (fun _ => 0)), ((tr 4), zaL (G.2 0) 61 (fun _ => 0)), ((tr 5), zaL (G.2 0) 61 (fun _ => 0)), ((tr 6), zaL (G.2 0) 61 (fun _ => 0)), (q, .inr (2, [.ref sa, .ref da, .ref wa, .long (lz (1)), .long (lz (1)), .int (iz (0))])), (sa, .inr (9, [.ref sb, .int (iz (0)), .long (lz (0))])), (sb, zaL (G.2 0) 40 (fun _ => 0)), (da, .inr (9, [.ref db, .int (iz (0)), .long (lz (0))])), (db, zaL (G.2 0) 40 (fun _ => 0)), (wa, .inr (9, [.ref wb, .int (iz (0)), .long (lz (0))])), (wb, zaL (G.2 0) 40 (fun _ => 0)), (ro, .inr (5, [.int (iz (6))])), (ou, zaL (G.2 0) 1 (fo))] := hD
  have hl : lv_has ls 7 [(0, .ref x), (1, .long (lz (mo))), (3, .int (iz (po))), (4, .int (iz (pn))), (5, .ref ou)] := hl
  rw [← hH, ← hlo]
  refine lv_aload hx hb dL_lend_0 (lv_at hl 4 rfl) ?_
  refine lv_iconst (v := iz (0)) hx hb dL_lend_2 rfl ?_
  refine lv_aload_n hx hb dL_lend_3 rfl (lv_at hl 0 rfl) ?_
  refine lv_lload_n hx hb dL_lend_4 rfl (lv_at hl 1 rfl) ?_
  refine lv_iload_n hx hb dL_lend_5 rfl (lv_at hl 2 rfl) ?_
  refine lv_iload hx hb dL_lend_6 (lv_at hl 3 rfl) ?_
  refine zc_l (wr := [(ou, zaL (G.2 0) 1 (fo))]) (va_runV (As := [.long (lz (mo)), .int (iz (po)), .int (iz (pn))]) (rest := [.int (iz (0)), .ref ou]) ⟨hx, hb, hml, hown, hts⟩ (c_X9_lend_o l G x ro rw bo li sh tx lo nl nr ne nh tb q tr sa sb da db wa wb mo po pn (h0) (h01) (h02) (h1) H.size) (cwV 3 hts gL_lend_X9_lend rfl rfl rfl (by decide +kernel) ⟨Nat.le_of_ble_eq_true rfl, Nat.le_of_ble_eq_true rfl⟩) (zpV hKX hP hD [0, 1, 2, 3, 4, 5, 6, 7, 8, 9, 10, 11, 12, 13, 14, 15, 16, 17, 18, 19, 20] rfl rfl 0 10 rfl rfl) rfl rfl hl.1 rfl (lv_room (Nat.le_of_ble_eq_true rfl)) dL_lend_8 ⟨(by first | exact Nat.le_of_ble_eq_true rfl | (show _ ≤ (0 : Nat); omega)), (by first | exact Nat.le_of_ble_eq_true rfl | (show _ ≤ (0 : Nat); omega))⟩) hP hD hS hA [0, 1, 2, 3, 4, 5, 6, 7, 8, 9, 10, 11, 12, 13, 14, 15, 16, 17, 18, 19, 20] [21] rfl rfl rfl (by decide) (fun zz u_1 H locs hz hP hD hS => ?_)
  obtain ⟨u0_, u1_, u2_, u3_, u4_, u5_, u6_, u7_, u8_, u9_, u10_, u11_, u12_, u13_, u14_, u15_, u16_, u17_, u18_, u19_, u20_, u21_, u22_⟩ := u_1
  have hP : va_P G.1 vwCl [(ou, zaL (G.2 0) 1 (fo)), (x, .inr (10, [.ref ro, .ref rw, .ref bo, .ref li, .ref sh, .ref tx, .ref nl, .ref lo])), (nl, .inr (4, [.ref nr, .ref ne, .ref nh, .ref tb, .ref q, .long (lz (mo)), .int (iz (pn)), .int (iz (u10_))])), (nr, zaI (G.2 1) 61 (u0_)), (ne, zaL (G.2 0) 61 (u1_)), (nh, zaZ (G.2 2) 61 (u2_)), (tb, zaR (G.2 3) 7 (ztb tr)), ((tr 0), zaL (G.2 0) 61 (u3_)), ((tr 1), zaL (G.2 0) 61 (u4_)), ((tr 2), zaL (G.2 0) 61 (u5_)), ((tr 3), zaL (G.2 0) 61 (u6_)), ((tr 4), zaL (G.2 0) 61 (u7_)), ((tr 5), zaL (G.2 0) 61 (u8_)), ((tr 6), zaL (G.2 0) 61 (u9_)), (q, .inr (2, [.ref sa, .ref da, .ref wa, .long (lz (u20_)), .long (lz (u21_)), .int (iz (u22_))])), (sa, .inr (9, [.ref sb, .int (iz (u12_)), .long (lz (u13_))])), (sb, zaL (G.2 0) 40 (u11_)), (da, .inr (9, [.ref db, .int (iz (u15_)), .long (lz (u16_))])), (db, zaL (G.2 0) 40 (u14_)), (wa, .inr (9, [.ref wb, .int (iz (u18_)), .long (lz (u19_))])), (wb, zaL (G.2 0) 40 (u17_)), (ro, .inr (5, [.int (iz (6))]))] H := hP
  have hD : va_D A [(ou, zaL (G.2 0) 1 (fo)), (x, .inr (10, [.ref ro, .ref rw, .ref bo, .ref li, .ref sh, .ref tx, .ref nl, .ref lo])), (nl, .inr (4, [.ref nr, .ref ne, .ref nh, .ref tb, .ref q, .long (lz (mo)), .int (iz (pn)), .int (iz (u10_))])), (nr, zaI (G.2 1) 61 (u0_)), (ne, zaL (G.2 0) 61 (u1_)), (nh, zaZ (G.2 2) 61 (u2_)), (tb, zaR (G.2 3) 7 (ztb tr)), ((tr 0), zaL (G.2 0) 61 (u3_)), ((tr 1), zaL (G.2 0) 61 (u4_)), ((tr 2), zaL (G.2 0) 61 (u5_)), ((tr 3), zaL (G.2 0) 61 (u6_)), ((tr 4), zaL (G.2 0) 61 (u7_)), ((tr 5), zaL (G.2 0) 61 (u8_)), ((tr 6), zaL (G.2 0) 61 (u9_)), (q, .inr (2, [.ref sa, .ref da, .ref wa, .long (lz (u20_)), .long (lz (u21_)), .int (iz (u22_))])), (sa, .inr (9, [.ref sb, .int (iz (u12_)), .long (lz (u13_))])), (sb, zaL (G.2 0) 40 (u11_)), (da, .inr (9, [.ref db, .int (iz (u15_)), .long (lz (u16_))])), (db, zaL (G.2 0) 40 (u14_)), (wa, .inr (9, [.ref wb, .int (iz (u18_)), .long (lz (u19_))])), (wb, zaL (G.2 0) 40 (u17_)), (ro, .inr (5, [.int (iz (6))]))] := hD
  have hz : zz = zinst mo po pn := hz
  refine zr_last hx hb hK hP hD hS 0 0 rfl rfl (i := 0) (x := zz) (⟨by omega, by omega, by omega⟩) dL_lend_11 (fun H locs hP hD hS => ?_)
  have hP : va_P G.1 vwCl [(ou, zaL (G.2 0) 1 (zup fo 0 zz)), (x, .inr (10, [.ref ro, .ref rw, .ref bo, .ref li, .ref sh, .ref tx, .ref nl, .ref lo])), (nl, .inr (4, [.ref nr, .ref ne, .ref nh, .ref tb, .ref q, .long (lz (mo)), .int (iz (pn)), .int (iz (u10_))])), (nr, zaI (G.2 1) 61 (u0_)), (ne, zaL (G.2 0) 61 (u1_)), (nh, zaZ (G.2 2) 61 (u2_)), (tb, zaR (G.2 3) 7 (ztb tr)), ((tr 0), zaL (G.2 0) 61 (u3_)), ((tr 1), zaL (G.2 0) 61 (u4_)), ((tr 2), zaL (G.2 0) 61 (u5_)), ((tr 3), zaL (G.2 0) 61 (u6_)), ((tr 4), zaL (G.2 0) 61 (u7_)), ((tr 5), zaL (G.2 0) 61 (u8_)), ((tr 6), zaL (G.2 0) 61 (u9_)), (q, .inr (2, [.ref sa, .ref da, .ref wa, .long (lz (u20_)), .long (lz (u21_)), .int (iz (u22_))])), (sa, .inr (9, [.ref sb, .int (iz (u12_)), .long (lz (u13_))])), (sb, zaL (G.2 0) 40 (u11_)), (da, .inr (9, [.ref db, .int (iz (u15_)), .long (lz (u16_))])), (db, zaL (G.2 0) 40 (u14_)), (wa, .inr (9, [.ref wb, .int (iz (u18_)), .long (lz (u19_))])), (wb, zaL (G.2 0) 40 (u17_)), (ro, .inr (5, [.int (iz (6))]))] H := hP
  have hD : va_D A [(ou, zaL (G.2 0) 1 (zup fo 0 zz)), (x, .inr (10, [.ref ro, .ref rw, .ref bo, .ref li, .ref sh, .ref tx, .ref nl, .ref lo])), (nl, .inr (4, [.ref nr, .ref ne, .ref nh, .ref tb, .ref q, .long (lz (mo)), .int (iz (pn)), .int (iz (u10_))])), (nr, zaI (G.2 1) 61 (u0_)), (ne, zaL (G.2 0) 61 (u1_)), (nh, zaZ (G.2 2) 61 (u2_)), (tb, zaR (G.2 3) 7 (ztb tr)), ((tr 0), zaL (G.2 0) 61 (u3_)), ((tr 1), zaL (G.2 0) 61 (u4_)), ((tr 2), zaL (G.2 0) 61 (u5_)), ((tr 3), zaL (G.2 0) 61 (u6_)), ((tr 4), zaL (G.2 0) 61 (u7_)), ((tr 5), zaL (G.2 0) 61 (u8_)), ((tr 6), zaL (G.2 0) 61 (u9_)), (q, .inr (2, [.ref sa, .ref da, .ref wa, .long (lz (u20_)), .long (lz (u21_)), .int (iz (u22_))])), (sa, .inr (9, [.ref sb, .int (iz (u12_)), .long (lz (u13_))])), (sb, zaL (G.2 0) 40 (u11_)), (da, .inr (9, [.ref db, .int (iz (u15_)), .long (lz (u16_))])), (db, zaL (G.2 0) 40 (u14_)), (wa, .inr (9, [.ref wb, .int (iz (u18_)), .long (lz (u19_))])), (wb, zaL (G.2 0) 40 (u17_)), (ro, .inr (5, [.int (iz (6))]))] := hD
  refine lv_goto (tgt := 23) hx hb dL_lend_12 (by decide) ?_
  refine lv_iconst (v := iz (0)) hx hb dL_lend_23 rfl ?_
  rw [hQ]
  exact zr_iret (z := 0) (u := (zup fo 0 zz)) hx hb hr hlocks (hP.sub [0] rfl) (hD.sub [0] (by decide) rfl) hS (by first | exact Nat.le_of_ble_eq_true rfl | omega) (by first | exact Nat.le_of_ble_eq_true rfl | omega) dL_lend_24 (show 0 = 0 ∧ ((zup fo 0 zz) 0) = zinst mo po pn from ⟨rfl, by rw [zup_s]; exact hz⟩)

def rm_c_L_lend_x : Room := { frames := 9, cells := 1, slots := 6, locals := 154 }
set_option maxHeartbeats 1000000 in
set_option maxRecDepth 100000 in
theorem c_L_lend_x (l : Launch) (G : zG) (s1 : Nat) (s2 : Nat) (s3 : Nat) (x : Nat) (ro : Nat) (rw : Nat) (bo : Nat) (li : Nat) (sh : Nat) (tx : Nat) (lo : Nat) (nl : Nat) (mo : Int) (po : Int) (pn : Int) (ou : Nat) (fo : Int → Int) (hl0 : l.stackTraces = false) (h0 : -9223372036854775808 ≤ mo ∧ mo < 9223372036854775808) (h01 : -2147483648 ≤ po ∧ po < 2147483648) (h02 : -2147483648 ≤ pn ∧ pn < 2147483648) (h1 : ¬ (1 ≤ mo ∧ mo ≤ 1000000000 ∧ 0 ≤ po ∧ po ≤ 20000 ∧ 1 ≤ pn ∧ pn ≤ 60)) : zMe l (zXL s1 s2 s3) G yL_lend wsL_lend rm_c_L_lend_x [.ref x, .long (lz (mo)), .int (iz (po)), .int (iz (pn)), .ref ou] [(x, .inr (10, [.ref ro, .ref rw, .ref bo, .ref li, .ref sh, .ref tx, .ref lo, .ref nl])), (ou, zaL (G.2 0) 1 (fo))] (fun A => zQi G (fun (z : Int) (_ : Unit) => z = 1) (fun (_ : Unit) => [(ou, zaL (G.2 0) 1 (fo))]) A) 1 6 := by
  refine zMeW_of (cc := cL_lend) (maxL := 7) (ret := (some .int)) (by decide) rfl (Nat.le_of_ble_eq_true rfl) ?_
  intro p e s m below meth c ls A Q hQ hx hb hr hts hown hlocks hml hnm htab hKX hE hP hD hA hS hl
  have hK := hKX.1
  obtain ⟨H, hH⟩ : ∃ h, h = s.heap := ⟨_, rfl⟩
  obtain ⟨locs, hlo⟩ : ∃ h : List Loc, h = [] := ⟨_, rfl⟩
  have hS : va_S A s.heap H locs := by rw [hH, hlo]; exact hS
  have hP : va_P G.1 vwCl [(x, .inr (10, [.ref ro, .ref rw, .ref bo, .ref li, .ref sh, .ref tx, .ref lo, .ref nl])), (ou, zaL (G.2 0) 1 (fo))] H := by rw [hH]; exact hP
  have hD : va_D A [(x, .inr (10, [.ref ro, .ref rw, .ref bo, .ref li, .ref sh, .ref tx, .ref lo, .ref nl])), (ou, zaL (G.2 0) 1 (fo))] := hD
  have hl : lv_has ls 7 [(0, .ref x), (1, .long (lz (mo))), (3, .int (iz (po))), (4, .int (iz (pn))), (5, .ref ou)] := hl
  rw [← hH, ← hlo]
  refine lv_aload hx hb dL_lend_0 (lv_at hl 4 rfl) ?_
  refine lv_iconst (v := iz (0)) hx hb dL_lend_2 rfl ?_
  refine lv_aload_n hx hb dL_lend_3 rfl (lv_at hl 0 rfl) ?_
  refine lv_lload_n hx hb dL_lend_4 rfl (lv_at hl 1 rfl) ?_
  refine lv_iload_n hx hb dL_lend_5 rfl (lv_at hl 2 rfl) ?_
  refine lv_iload hx hb dL_lend_6 (lv_at hl 3 rfl) ?_
  refine zx_call (X := "java/lang/IllegalArgumentException") (AX := va_A [(x, .inr (10, [.ref ro, .ref rw, .ref bo, .ref li, .ref sh, .ref tx, .ref lo, .ref nl]))] H.size) (fun _ _ _ h => h) (vx_runV (As := [.long (lz (mo)), .int (iz (po)), .int (iz (pn))]) (rest := [.int (iz (0)), .ref ou]) ⟨hx, hb, hml, hown, hts⟩ (c_X9_lend_x l G s1 s2 s3 x ro rw bo li sh tx lo nl mo po pn hl0 (h0) (h01) (h02) (h1) H.size) (cwV 3 hts gL_lend_X9_lend rfl rfl rfl (by decide +kernel) ⟨Nat.le_of_ble_eq_true rfl, Nat.le_of_ble_eq_true rfl⟩) (zpVe zXE_ok hE.1 hS hA hKX hP hD [0] rfl rfl (va_recv hK hP (ci := 10) (q0 := 0) rfl rfl)) rfl rfl hl.1 rfl (lv_room (Nat.le_of_ble_eq_true rfl)) dL_lend_8 ⟨(by first | exact Nat.le_of_ble_eq_true rfl | (show _ ≤ (1 : Nat); omega)), (by first | exact Nat.le_of_ble_eq_true rfl | (show _ ≤ (6 : Nat); omega))⟩) hS (va_free (wc := [(x, .inr (10, [.ref ro, .ref rw, .ref bo, .ref li, .ref sh, .ref tx, .ref lo, .ref nl]))]) hD hS hA [0] rfl) (fun aq_ _ ah_ => (va_free (wc := [(x, .inr (10, [.ref ro, .ref rw, .ref bo, .ref li, .ref sh, .ref tx, .ref lo, .ref nl]))]) hD hS hA [0] rfl) aq_ ah_) (fun ce q9 H1 locs1 hsz9 hk9 hS1 hce hcv hcl => ?_)
  obtain ⟨hP1, hD1⟩ := va_join (wr := [(ou, zaL (G.2 0) 1 (fo))]) (w1 := []) hP hD [0] [1] rfl rfl rfl (by decide) hk9 (va_free (wc := [(x, .inr (10, [.ref ro, .ref rw, .ref bo, .ref li, .ref sh, .ref tx, .ref lo, .ref nl]))]) hD hS hA [0] rfl) (fun k q h => by cases h) zD_nil
  refine vx_catch hown [] (⟨0, 12, 15, 13⟩ : ExceptionTableEntry) [(⟨0, 12, 19, 19⟩ : ExceptionTableEntry)] (htab.trans rfl) (fun _ h => nomatch h) (by decide) (by decide) (hts (.classLink RL 13 "java/lang/IllegalArgumentException") (by decide +kernel)) (va_Nw.use rfl (hKX.2.2.2 (.castable "java/lang/IllegalArgumentException" "java/lang/IllegalArgumentException") (by decide +kernel))) hce hcv hcl ?_
  have hP : va_P G.1 vwCl [(ou, zaL (G.2 0) 1 (fo))] H1 := (List.append_nil [(ou, zaL (G.2 0) 1 (fo))]) ▸ hP1
  have hD : va_D A [(ou, zaL (G.2 0) 1 (fo))] := (List.append_nil [(ou, zaL (G.2 0) 1 (fo))]) ▸ hD1
  have hS := hS1
  show W p l e rm_c_L_lend_x s m ([.ref x, .long (lz (mo)), .int (iz (po)), .int (iz (pn)), .ref ou] : List Value).toArray below meth c H1 locs1 (0 + 1) (0 + 6) Q (F0 m 15 ls [.ref q9])
  refine lv_astore (lv' := [(6, .ref q9), (0, .ref x), (1, .long (lz (mo))), (3, .int (iz (po))), (4, .int (iz (pn))), (5, .ref ou)]) hx hb dL_lend_15 hl (by decide) rfl (fun ls hl => ?_)
  refine lv_iconst (v := iz (1)) hx hb dL_lend_17 rfl ?_
  rw [hQ]
  exact zr_iret (z := 1) (u := ()) hx hb hr hlocks hP hD hS (by first | exact Nat.le_of_ble_eq_true rfl | omega) (by first | exact Nat.le_of_ble_eq_true rfl | omega) dL_lend_18 (show 1 = 1 from rfl)

def rm_c_L_price_o : Room := { frames := 7, cells := 0, slots := 0, locals := 179 }
set_option maxHeartbeats 1000000 in
set_option maxRecDepth 100000 in
theorem c_L_price_o (l : Launch) (G : zG) (x : Nat) (ro : Nat) (rw : Nat) (bo : Nat) (li : Nat) (sh : Nat) (tx : Nat) (lo : Nat) (nl : Nat) (q : Nat) (sa : Nat) (sb : Nat) (da : Nat) (db : Nat) (wa : Nat) (wb : Nat) (cp : Int) (fa : Int) (pr : Int) (po : Int) (ou : Nat) (fo : Int → Int) (h0 : -9223372036854775808 ≤ cp ∧ cp < 9223372036854775808) (h01 : -9223372036854775808 ≤ fa ∧ fa < 9223372036854775808) (h02 : -2147483648 ≤ pr ∧ pr < 2147483648) (h03 : -2147483648 ≤ po ∧ po < 2147483648) (h1 : 0 ≤ cp ∧ cp ≤ 1000000000 ∧ 0 ≤ fa ∧ fa ≤ 1000000000 ∧ 1 ≤ pr ∧ pr ≤ 40 ∧ 0 ≤ po ∧ po ≤ 20000) : zM l G yL_price wsL_price rm_c_L_price_o [.ref x, .long (lz (cp)), .long (lz (fa)), .int (iz (pr)), .int (iz (po)), .ref ou] [(x, .inr (10, [.ref ro, .ref rw, .ref bo, .ref li, .ref sh, .ref tx, .ref lo, .ref nl])), (bo, .inr (1, [.ref q])), (q, .inr (2, [.ref sa, .ref da, .ref wa, .long (lz (1)), .long (lz (1)), .int (iz (0))])), (sa, .inr (9, [.ref sb, .int (iz (0)), .long (lz (0))])), (sb, zaL (G.2 0) 40 (fun _ => 0)), (da, .inr (9, [.ref db, .int (iz (0)), .long (lz (0))])), (db, zaL (G.2 0) 40 (fun _ => 0)), (wa, .inr (9, [.ref wb, .int (iz (0)), .long (lz (0))])), (wb, zaL (G.2 0) 40 (fun _ => 0)), (ro, .inr (5, [.int (iz (6))])), (ou, zaL (G.2 0) 1 (fo))] (fun A => zQi G (fun (z : Int) (f2 : (Int → Int)) => z = 0 ∧ (f2 0) = zr6 (zbt cp fa pr po) ((100000 + po) ^ pr.toNat)) (fun (f2 : (Int → Int)) => [(ou, zaL (G.2 0) 1 (f2))]) A) 0 0 := by
  refine zMW_of (cc := cL_price) (maxL := 9) (ret := (some .int)) (by decide) rfl (Nat.le_of_ble_eq_true rfl) ?_
  intro p e s m below meth c ls A Q hQ hx hb hr hts hown hlocks hml hnm hKX hP hD hA hS hl
  have hK := hKX.1
  obtain ⟨H, hH⟩ : ∃ h, h = s.heap := ⟨_, rfl⟩
  obtain ⟨locs, hlo⟩ : ∃ h : List Loc, h = [] := ⟨_, rfl⟩
  have hS : va_S A s.heap H locs := by rw [hH, hlo]; exact hS
  have hP : va_P G.1 vwCl [(x, .inr (10, [.ref ro, .ref rw, .ref bo, .ref li, .ref sh, .ref tx, .ref lo, .ref nl])), (bo, .inr (1, [.ref q])), (q, .inr (2, [.ref sa, .ref da, .ref wa, .long (lz (1)), .long (lz (1)), .int (iz (0))])), (sa, .inr (9, [.ref sb, .int (iz (0)), .long (lz (0))])), (sb, zaL (G.2 0) 40 (fun _ => 0)), (da, .inr (9, [.ref db, .int (iz (0)), .long (lz (0))])), (db, zaL (G.2 0) 40 (fun _ => 0)), (wa, .inr (9, [.ref wb, .int (iz (0)), .long (lz (0))])), (wb, zaL (G.2 0) 40 (fun _ => 0)), (ro, .inr (5, [.int (iz (6))])), (ou, zaL (G.2 0) 1 (fo))] H := by rw [hH]; exact hP
  have hD : va_D A [(x, .inr (10, [.ref ro, .ref rw, .ref bo, .ref li, .ref sh, .ref tx, .ref lo, .ref nl])), (bo, .inr (1, [.ref q])), (q, .inr (2, [.ref sa, .ref da, .ref wa, .long (lz (1)), .long (lz (1)), .int (iz (0))])), (sa, .inr (9, [.ref sb, .int (iz (0)), .long (lz (0))])), (sb, zaL (G.2 0) 40 (fun _ => 0)), (da, .inr (9, [.ref db, .int (iz (0)), .long (lz (0))])), (db, zaL (G.2 0) 40 (fun _ => 0)), (wa, .inr (9, [.ref wb, .int (iz (0)), .long (lz (0))])), (wb, zaL (G.2 0) 40 (fun _ => 0)), (ro, .inr (5, [.int (iz (6))])), (ou, zaL (G.2 0) 1 (fo))] := hD
  have hl : lv_has ls 9 [(0, .ref x), (1, .long (lz (cp))), (3, .long (lz (fa))), (5, .int (iz (pr))), (6, .int (iz (po))), (7, .ref ou)] := hl
  rw [← hH, ← hlo]
  refine lv_aload hx hb dL_price_0 (lv_at hl 5 rfl) ?_
  refine lv_iconst (v := iz (0)) hx hb dL_price_2 rfl ?_
  refine lv_aload_n hx hb dL_price_3 rfl (lv_at hl 0 rfl) ?_
  refine lv_lload_n hx hb dL_price_4 rfl (lv_at hl 1 rfl) ?_
  refine lv_lload_n hx hb dL_price_5 rfl (lv_at hl 2 rfl) ?_
  refine lv_iload hx hb dL_price_6 (lv_at hl 3 rfl) ?_
  refine lv_iload hx hb dL_price_8 (lv_at hl 4 rfl) ?_
  refine zc_l (wr := [(ou, zaL (G.2 0) 1 (fo))]) (va_runV (As := [.long (lz (cp)), .long (lz (fa)), .int (iz (pr)), .int (iz (po))]) (rest := [.int (iz (0)), .ref ou]) ⟨hx, hb, hml, hown, hts⟩ (c_X9_price_o l G x ro rw bo li sh tx lo nl q sa sb da db wa wb cp fa pr po (h0) (h01) (h02) (h03) (h1) H.size) (cwV 4 hts gL_price_X9_price rfl rfl rfl (by decide +kernel) ⟨Nat.le_of_ble_eq_true rfl, Nat.le_of_ble_eq_true rfl⟩) (zpV hKX hP hD [0, 1, 2, 3, 4, 5, 6, 7, 8, 9] rfl rfl 0 10 rfl rfl) rfl rfl hl.1 rfl (lv_room (Nat.le_of_ble_eq_true rfl)) dL_price_10 ⟨(by first | exact Nat.le_of_ble_eq_true rfl | (show _ ≤ (0 : Nat); omega)), (by first | exact Nat.le_of_ble_eq_true rfl | (show _ ≤ (0 : Nat); omega))⟩) hP hD hS hA [0, 1, 2, 3, 4, 5, 6, 7, 8, 9] [10] rfl rfl rfl (by decide) (fun zz u_1 H locs hz hP hD hS => ?_)
  obtain ⟨u0_, u1_, u2_, u3_, u4_, u5_, u6_, u7_, u8_, u9_, u10_, u11_⟩ := u_1
  have hP : va_P G.1 vwCl [(ou, zaL (G.2 0) 1 (fo)), (x, .inr (10, [.ref ro, .ref rw, .ref bo, .ref li, .ref sh, .ref tx, .ref lo, .ref nl])), (bo, .inr (1, [.ref q])), (q, .inr (2, [.ref sa, .ref da, .ref wa, .long (lz (u9_)), .long (lz (u10_)), .int (iz (u11_))])), (sa, .inr (9, [.ref sb, .int (iz (u1_)), .long (lz (u2_))])), (sb, zaL (G.2 0) 40 (u0_)), (da, .inr (9, [.ref db, .int (iz (u4_)), .long (lz (u5_))])), (db, zaL (G.2 0) 40 (u3_)), (wa, .inr (9, [.ref wb, .int (iz (u7_)), .long (lz (u8_))])), (wb, zaL (G.2 0) 40 (u6_)), (ro, .inr (5, [.int (iz (6))]))] H := hP
  have hD : va_D A [(ou, zaL (G.2 0) 1 (fo)), (x, .inr (10, [.ref ro, .ref rw, .ref bo, .ref li, .ref sh, .ref tx, .ref lo, .ref nl])), (bo, .inr (1, [.ref q])), (q, .inr (2, [.ref sa, .ref da, .ref wa, .long (lz (u9_)), .long (lz (u10_)), .int (iz (u11_))])), (sa, .inr (9, [.ref sb, .int (iz (u1_)), .long (lz (u2_))])), (sb, zaL (G.2 0) 40 (u0_)), (da, .inr (9, [.ref db, .int (iz (u4_)), .long (lz (u5_))])), (db, zaL (G.2 0) 40 (u3_)), (wa, .inr (9, [.ref wb, .int (iz (u7_)), .long (lz (u8_))])), (wb, zaL (G.2 0) 40 (u6_)), (ro, .inr (5, [.int (iz (6))]))] := hD
  have hz : zz = zr6 (zbt cp fa pr po) ((100000 + po) ^ pr.toNat) := hz
  refine zr_last hx hb hK hP hD hS 0 0 rfl rfl (i := 0) (x := zz) (⟨by omega, by omega, by omega⟩) dL_price_13 (fun H locs hP hD hS => ?_)
  have hP : va_P G.1 vwCl [(ou, zaL (G.2 0) 1 (zup fo 0 zz)), (x, .inr (10, [.ref ro, .ref rw, .ref bo, .ref li, .ref sh, .ref tx, .ref lo, .ref nl])), (bo, .inr (1, [.ref q])), (q, .inr (2, [.ref sa, .ref da, .ref wa, .long (lz (u9_)), .long (lz (u10_)), .int (iz (u11_))])), (sa, .inr (9, [.ref sb, .int (iz (u1_)), .long (lz (u2_))])), (sb, zaL (G.2 0) 40 (u0_)), (da, .inr (9, [.ref db, .int (iz (u4_)), .long (lz (u5_))])), (db, zaL (G.2 0) 40 (u3_)), (wa, .inr (9, [.ref wb, .int (iz (u7_)), .long (lz (u8_))])), (wb, zaL (G.2 0) 40 (u6_)), (ro, .inr (5, [.int (iz (6))]))] H := hP
  have hD : va_D A [(ou, zaL (G.2 0) 1 (zup fo 0 zz)), (x, .inr (10, [.ref ro, .ref rw, .ref bo, .ref li, .ref sh, .ref tx, .ref lo, .ref nl])), (bo, .inr (1, [.ref q])), (q, .inr (2, [.ref sa, .ref da, .ref wa, .long (lz (u9_)), .long (lz (u10_)), .int (iz (u11_))])), (sa, .inr (9, [.ref sb, .int (iz (u1_)), .long (lz (u2_))])), (sb, zaL (G.2 0) 40 (u0_)), (da, .inr (9, [.ref db, .int (iz (u4_)), .long (lz (u5_))])), (db, zaL (G.2 0) 40 (u3_)), (wa, .inr (9, [.ref wb, .int (iz (u7_)), .long (lz (u8_))])), (wb, zaL (G.2 0) 40 (u6_)), (ro, .inr (5, [.int (iz (6))]))] := hD
  refine lv_goto (tgt := 25) hx hb dL_price_14 (by decide) ?_
  refine lv_iconst (v := iz (0)) hx hb dL_price_25 rfl ?_
  rw [hQ]
  exact zr_iret (z := 0) (u := (zup fo 0 zz)) hx hb hr hlocks (hP.sub [0] rfl) (hD.sub [0] (by decide) rfl) hS (by first | exact Nat.le_of_ble_eq_true rfl | omega) (by first | exact Nat.le_of_ble_eq_true rfl | omega) dL_price_26 (show 0 = 0 ∧ ((zup fo 0 zz) 0) = zr6 (zbt cp fa pr po) ((100000 + po) ^ pr.toNat) from ⟨rfl, by rw [zup_s]; exact hz⟩)

def rm_c_L_price_x : Room := { frames := 9, cells := 1, slots := 6, locals := 160 }
set_option maxHeartbeats 1000000 in
set_option maxRecDepth 100000 in
theorem c_L_price_x (l : Launch) (G : zG) (s1 : Nat) (s2 : Nat) (s3 : Nat) (x : Nat) (ro : Nat) (rw : Nat) (bo : Nat) (li : Nat) (sh : Nat) (tx : Nat) (lo : Nat) (nl : Nat) (cp : Int) (fa : Int) (pr : Int) (po : Int) (ou : Nat) (fo : Int → Int) (hl0 : l.stackTraces = false) (h0 : -9223372036854775808 ≤ cp ∧ cp < 9223372036854775808) (h01 : -9223372036854775808 ≤ fa ∧ fa < 9223372036854775808) (h02 : -2147483648 ≤ pr ∧ pr < 2147483648) (h03 : -2147483648 ≤ po ∧ po < 2147483648) (h1 : ¬ (0 ≤ cp ∧ cp ≤ 1000000000 ∧ 0 ≤ fa ∧ fa ≤ 1000000000 ∧ 1 ≤ pr ∧ pr ≤ 40 ∧ 0 ≤ po ∧ po ≤ 20000)) : zMe l (zXL s1 s2 s3) G yL_price wsL_price rm_c_L_price_x [.ref x, .long (lz (cp)), .long (lz (fa)), .int (iz (pr)), .int (iz (po)), .ref ou] [(x, .inr (10, [.ref ro, .ref rw, .ref bo, .ref li, .ref sh, .ref tx, .ref lo, .ref nl])), (ou, zaL (G.2 0) 1 (fo))] (fun A => zQi G (fun (z : Int) (_ : Unit) => z = 1) (fun (_ : Unit) => [(ou, zaL (G.2 0) 1 (fo))]) A) 1 6 := by
  refine zMeW_of (cc := cL_price) (maxL := 9) (ret := (some .int)) (by decide) rfl (Nat.le_of_ble_eq_true rfl) ?_
  intro p e s m below meth c ls A Q hQ hx hb hr hts hown hlocks hml hnm htab hKX hE hP hD hA hS hl
  have hK := hKX.1
  obtain ⟨H, hH⟩ : ∃ h, h = s.heap := ⟨_, rfl⟩
  obtain ⟨locs, hlo⟩ : ∃ h : List Loc, h = [] := ⟨_, rfl⟩
  have hS : va_S A s.heap H locs := by rw [hH, hlo]; exact hS
  have hP : va_P G.1 vwCl [(x, .inr (10, [.ref ro, .ref rw, .ref bo, .ref li, .ref sh, .ref tx, .ref lo, .ref nl])), (ou, zaL (G.2 0) 1 (fo))] H := by rw [hH]; exact hP
  have hD : va_D A [(x, .inr (10, [.ref ro, .ref rw, .ref bo, .ref li, .ref sh, .ref tx, .ref lo, .ref nl])), (ou, zaL (G.2 0) 1 (fo))] := hD
  have hl : lv_has ls 9 [(0, .ref x), (1, .long (lz (cp))), (3, .long (lz (fa))), (5, .int (iz (pr))), (6, .int (iz (po))), (7, .ref ou)] := hl
  rw [← hH, ← hlo]
  refine lv_aload hx hb dL_price_0 (lv_at hl 5 rfl) ?_
  refine lv_iconst (v := iz (0)) hx hb dL_price_2 rfl ?_
  refine lv_aload_n hx hb dL_price_3 rfl (lv_at hl 0 rfl) ?_
  refine lv_lload_n hx hb dL_price_4 rfl (lv_at hl 1 rfl) ?_
  refine lv_lload_n hx hb dL_price_5 rfl (lv_at hl 2 rfl) ?_
  refine lv_iload hx hb dL_price_6 (lv_at hl 3 rfl) ?_
  refine lv_iload hx hb dL_price_8 (lv_at hl 4 rfl) ?_
  refine zx_call (X := "java/lang/IllegalArgumentException") (AX := va_A [(x, .inr (10, [.ref ro, .ref rw, .ref bo, .ref li, .ref sh, .ref tx, .ref lo, .ref nl]))] H.size) (fun _ _ _ h => h) (vx_runV (As := [.long (lz (cp)), .long (lz (fa)), .int (iz (pr)), .int (iz (po))]) (rest := [.int (iz (0)), .ref ou]) ⟨hx, hb, hml, hown, hts⟩ (c_X9_price_x l G s1 s2 s3 x ro rw bo li sh tx lo nl cp fa pr po hl0 (h0) (h01) (h02) (h03) (h1) H.size) (cwV 4 hts gL_price_X9_price rfl rfl rfl (by decide +kernel) ⟨Nat.le_of_ble_eq_true rfl, Nat.le_of_ble_eq_true rfl⟩) (zpVe zXE_ok hE.1 hS hA hKX hP hD [0] rfl rfl (va_recv hK hP (ci := 10) (q0 := 0) rfl rfl)) rfl rfl hl.1 rfl (lv_room (Nat.le_of_ble_eq_true rfl)) dL_price_10 ⟨(by first | exact Nat.le_of_ble_eq_true rfl | (show _ ≤ (1 : Nat); omega)), (by first | exact Nat.le_of_ble_eq_true rfl | (show _ ≤ (6 : Nat); omega))⟩) hS (va_free (wc := [(x, .inr (10, [.ref ro, .ref rw, .ref bo, .ref li, .ref sh, .ref tx, .ref lo, .ref nl]))]) hD hS hA [0] rfl) (fun aq_ _ ah_ => (va_free (wc := [(x, .inr (10, [.ref ro, .ref rw, .ref bo, .ref li, .ref sh, .ref tx, .ref lo, .ref nl]))]) hD hS hA [0] rfl) aq_ ah_) (fun ce q9 H1 locs1 hsz9 hk9 hS1 hce hcv hcl => ?_)
  obtain ⟨hP1, hD1⟩ := va_join (wr := [(ou, zaL (G.2 0) 1 (fo))]) (w1 := []) hP hD [0] [1] rfl rfl rfl (by decide) hk9 (va_free (wc := [(x, .inr (10, [.ref ro, .ref rw, .ref bo, .ref li, .ref sh, .ref tx, .ref lo, .ref nl]))]) hD hS hA [0] rfl) (fun k q h => by cases h) zD_nil
  refine vx_catch hown [] (⟨0, 14, 17, 13⟩ : ExceptionTableEntry) [(⟨0, 14, 21, 19⟩ : ExceptionTableEntry)] (htab.trans rfl) (fun _ h => nomatch h) (by decide) (by decide) (hts (.classLink RL 13 "java/lang/IllegalArgumentException") (by decide +kernel)) (va_Nw.use rfl (hKX.2.2.2 (.castable "java/lang/IllegalArgumentException" "java/lang/IllegalArgumentException") (by decide +kernel))) hce hcv hcl ?_
  have hP : va_P G.1 vwCl [(ou, zaL (G.2 0) 1 (fo))] H1 := (List.append_nil [(ou, zaL (G.2 0) 1 (fo))]) ▸ hP1
  have hD : va_D A [(ou, zaL (G.2 0) 1 (fo))] := (List.append_nil [(ou, zaL (G.2 0) 1 (fo))]) ▸ hD1
  have hS := hS1
  show W p l e rm_c_L_price_x s m ([.ref x, .long (lz (cp)), .long (lz (fa)), .int (iz (pr)), .int (iz (po)), .ref ou] : List Value).toArray below meth c H1 locs1 (0 + 1) (0 + 6) Q (F0 m 17 ls [.ref q9])
  refine lv_astore (lv' := [(8, .ref q9), (0, .ref x), (1, .long (lz (cp))), (3, .long (lz (fa))), (5, .int (iz (pr))), (6, .int (iz (po))), (7, .ref ou)]) hx hb dL_price_17 hl (by decide) rfl (fun ls hl => ?_)
  refine lv_iconst (v := iz (1)) hx hb dL_price_19 rfl ?_
  rw [hQ]
  exact zr_iret (z := 1) (u := ()) hx hb hr hlocks hP hD hS (by first | exact Nat.le_of_ble_eq_true rfl | omega) (by first | exact Nat.le_of_ble_eq_true rfl | omega) dL_price_20 (show 1 = 1 from rfl)

def rm_c_L_bondYield_o : Room := { frames := 8, cells := 0, slots := 0, locals := 212 }
set_option maxHeartbeats 1000000 in
set_option maxRecDepth 100000 in
theorem c_L_bondYield_o (l : Launch) (G : zG) (x : Nat) (ro : Nat) (rw : Nat) (bo : Nat) (li : Nat) (sh : Nat) (tx : Nat) (lo : Nat) (nl : Nat) (q : Nat) (sa : Nat) (sb : Nat) (da : Nat) (db : Nat) (wa : Nat) (wb : Nat) (cp : Int) (fa : Int) (pr : Int) (mo : Int) (ou : Nat) (fo : Int → Int) (h0 : -9223372036854775808 ≤ cp ∧ cp < 9223372036854775808) (h01 : -9223372036854775808 ≤ fa ∧ fa < 9223372036854775808) (h02 : -2147483648 ≤ pr ∧ pr < 2147483648) (h03 : -9223372036854775808 ≤ mo ∧ mo < 9223372036854775808) (h1 : 0 ≤ cp ∧ cp ≤ 1000000000 ∧ 0 ≤ fa ∧ fa ≤ 1000000000 ∧ 1 ≤ pr ∧ pr ≤ 40 ∧ 0 ≤ mo ∧ mo ≤ 1000000000000) : zM l G yL_bondYield wsL_bondYield rm_c_L_bondYield_o [.ref x, .long (lz (cp)), .long (lz (fa)), .int (iz (pr)), .long (lz (mo)), .ref ou] [(x, .inr (10, [.ref ro, .ref rw, .ref bo, .ref li, .ref sh, .ref tx, .ref lo, .ref nl])), (bo, .inr (1, [.ref q])), (q, .inr (2, [.ref sa, .ref da, .ref wa, .long (lz (1)), .long (lz (1)), .int (iz (0))])), (sa, .inr (9, [.ref sb, .int (iz (0)), .long (lz (0))])), (sb, zaL (G.2 0) 40 (fun _ => 0)), (da, .inr (9, [.ref db, .int (iz (0)), .long (lz (0))])), (db, zaL (G.2 0) 40 (fun _ => 0)), (wa, .inr (9, [.ref wb, .int (iz (0)), .long (lz (0))])), (wb, zaL (G.2 0) 40 (fun _ => 0)), (ou, zaL (G.2 0) 1 (fo))] (fun A => zQi G (fun (z : Int) (f2 : (Int → Int)) => z = 0 ∧ (((f2 0) = -1 ∧ ¬ zcheap cp fa pr mo (20000)) ∨ (0 ≤ (f2 0) ∧ (f2 0) ≤ 20000 ∧ zcheap cp fa pr mo ((f2 0)) ∧ ∀ p : Int, 0 ≤ p → p < (f2 0) → ¬ zcheap cp fa pr mo (p)))) (fun (f2 : (Int → Int)) => [(ou, zaL (G.2 0) 1 (f2))]) A) 0 0 := by
  refine zMW_of (cc := cL_bondYield) (maxL := 10) (ret := (some .int)) (by decide) rfl (Nat.le_of_ble_eq_true rfl) ?_
  intro p e s m below meth c ls A Q hQ hx hb hr hts hown hlocks hml hnm hKX hP hD hA hS hl
  have hK := hKX.1
  obtain ⟨H, hH⟩ : ∃ h, h = s.heap := ⟨_, rfl⟩
  obtain ⟨locs, hlo⟩ : ∃ h : List Loc, h = [] := ⟨_, rfl⟩
  have hS : va_S A s.heap H locs := by rw [hH, hlo]; exact hS
  have hP : va_P G.1 vwCl [(x, .inr (10, [.ref ro, .ref rw, .ref bo, .ref li, .ref sh, .ref tx, .ref lo, .ref nl])), (bo, .inr (1, [.ref q])), (q, .inr (2, [.ref sa, .ref da, .ref wa, .long (lz (1)), .long (lz (1)), .int (iz (0))])), (sa, .inr (9, [.ref sb, .int (iz (0)), .long (lz (0))])), (sb, zaL (G.2 0) 40 (fun _ => 0)), (da, .inr (9, [.ref db, .int (iz (0)), .long (lz (0))])), (db, zaL (G.2 0) 40 (fun _ => 0)), (wa, .inr (9, [.ref wb, .int (iz (0)), .long (lz (0))])), (wb, zaL (G.2 0) 40 (fun _ => 0)), (ou, zaL (G.2 0) 1 (fo))] H := by rw [hH]; exact hP
  have hD : va_D A [(x, .inr (10, [.ref ro, .ref rw, .ref bo, .ref li, .ref sh, .ref tx, .ref lo, .ref nl])), (bo, .inr (1, [.ref q])), (q, .inr (2, [.ref sa, .ref da, .ref wa, .long (lz (1)), .long (lz (1)), .int (iz (0))])), (sa, .inr (9, [.ref sb, .int (iz (0)), .long (lz (0))])), (sb, zaL (G.2 0) 40 (fun _ => 0)), (da, .inr (9, [.ref db, .int (iz (0)), .long (lz (0))])), (db, zaL (G.2 0) 40 (fun _ => 0)), (wa, .inr (9, [.ref wb, .int (iz (0)), .long (lz (0))])), (wb, zaL (G.2 0) 40 (fun _ => 0)), (ou, zaL (G.2 0) 1 (fo))] := hD
  have hl : lv_has ls 10 [(0, .ref x), (1, .long (lz (cp))), (3, .long (lz (fa))), (5, .int (iz (pr))), (6, .long (lz (mo))), (8, .ref ou)] := hl
  rw [← hH, ← hlo]
  refine lv_aload hx hb dL_bondYield_0 (lv_at hl 5 rfl) ?_
  refine lv_iconst (v := iz (0)) hx hb dL_bondYield_2 rfl ?_
  refine lv_aload_n hx hb dL_bondYield_3 rfl (lv_at hl 0 rfl) ?_
  refine lv_lload_n hx hb dL_bondYield_4 rfl (lv_at hl 1 rfl) ?_
  refine lv_lload_n hx hb dL_bondYield_5 rfl (lv_at hl 2 rfl) ?_
  refine lv_iload hx hb dL_bondYield_6 (lv_at hl 3 rfl) ?_
  refine lv_lload hx hb dL_bondYield_8 (lv_at hl 4 rfl) ?_
  refine zc_i (wr := [(ou, zaL (G.2 0) 1 (fo))]) (va_runV (As := [.long (lz (cp)), .long (lz (fa)), .int (iz (pr)), .long (lz (mo))]) (rest := [.int (iz (0)), .ref ou]) ⟨hx, hb, hml, hown, hts⟩ (c_X9_bondYield_o l G x ro rw bo li sh tx lo nl q sa sb da db wa wb cp fa pr mo (h0) (h01) (h02) (h03) (h1) H.size) (cwV 4 hts gL_bondYield_X9_bondYield rfl rfl rfl (by decide +kernel) ⟨Nat.le_of_ble_eq_true rfl, Nat.le_of_ble_eq_true rfl⟩) (zpV hKX hP hD [0, 1, 2, 3, 4, 5, 6, 7, 8] rfl rfl 0 10 rfl rfl) rfl rfl hl.1 rfl (lv_room (Nat.le_of_ble_eq_true rfl)) dL_bondYield_10 ⟨(by first | exact Nat.le_of_ble_eq_true rfl | (show _ ≤ (0 : Nat); omega)), (by first | exact Nat.le_of_ble_eq_true rfl | (show _ ≤ (0 : Nat); omega))⟩) hP hD hS hA [0, 1, 2, 3, 4, 5, 6, 7, 8] [9] rfl rfl rfl (by decide) (fun zz u_1 H locs hz hP hD hS => ?_)
  obtain ⟨u0_, u1_, u2_, u3_, u4_, u5_, u6_, u7_, u8_, u9_, u10_, u11_⟩ := u_1
  have hP : va_P G.1 vwCl [(ou, zaL (G.2 0) 1 (fo)), (x, .inr (10, [.ref ro, .ref rw, .ref bo, .ref li, .ref sh, .ref tx, .ref lo, .ref nl])), (bo, .inr (1, [.ref q])), (q, .inr (2, [.ref sa, .ref da, .ref wa, .long (lz (u9_)), .long (lz (u10_)), .int (iz (u11_))])), (sa, .inr (9, [.ref sb, .int (iz (u1_)), .long (lz (u2_))])), (sb, zaL (G.2 0) 40 (u0_)), (da, .inr (9, [.ref db, .int (iz (u4_)), .long (lz (u5_))])), (db, zaL (G.2 0) 40 (u3_)), (wa, .inr (9, [.ref wb, .int (iz (u7_)), .long (lz (u8_))])), (wb, zaL (G.2 0) 40 (u6_))] H := hP
  have hD : va_D A [(ou, zaL (G.2 0) 1 (fo)), (x, .inr (10, [.ref ro, .ref rw, .ref bo, .ref li, .ref sh, .ref tx, .ref lo, .ref nl])), (bo, .inr (1, [.ref q])), (q, .inr (2, [.ref sa, .ref da, .ref wa, .long (lz (u9_)), .long (lz (u10_)), .int (iz (u11_))])), (sa, .inr (9, [.ref sb, .int (iz (u1_)), .long (lz (u2_))])), (sb, zaL (G.2 0) 40 (u0_)), (da, .inr (9, [.ref db, .int (iz (u4_)), .long (lz (u5_))])), (db, zaL (G.2 0) 40 (u3_)), (wa, .inr (9, [.ref wb, .int (iz (u7_)), .long (lz (u8_))])), (wb, zaL (G.2 0) 40 (u6_))] := hD
  have hz : ((zz = -1 ∧ ¬ zcheap cp fa pr mo (20000)) ∨ (0 ≤ zz ∧ zz ≤ 20000 ∧ zcheap cp fa pr mo (zz) ∧ ∀ p : Int, 0 ≤ p → p < zz → ¬ zcheap cp fa pr mo (p))) := hz
  refine zr_i2l hx hb (x := zz) (⟨by omega, by omega⟩) dL_bondYield_13 ?_
  refine zr_last hx hb hK hP hD hS 0 0 rfl rfl (i := 0) (x := zz) (⟨by omega, by omega, by omega⟩) dL_bondYield_14 (fun H locs hP hD hS => ?_)
  have hP : va_P G.1 vwCl [(ou, zaL (G.2 0) 1 (zup fo 0 zz)), (x, .inr (10, [.ref ro, .ref rw, .ref bo, .ref li, .ref sh, .ref tx, .ref lo, .ref nl])), (bo, .inr (1, [.ref q])), (q, .inr (2, [.ref sa, .ref da, .ref wa, .long (lz (u9_)), .long (lz (u10_)), .int (iz (u11_))])), (sa, .inr (9, [.ref sb, .int (iz (u1_)), .long (lz (u2_))])), (sb, zaL (G.2 0) 40 (u0_)), (da, .inr (9, [.ref db, .int (iz (u4_)), .long (lz (u5_))])), (db, zaL (G.2 0) 40 (u3_)), (wa, .inr (9, [.ref wb, .int (iz (u7_)), .long (lz (u8_))])), (wb, zaL (G.2 0) 40 (u6_))] H := hP
  have hD : va_D A [(ou, zaL (G.2 0) 1 (zup fo 0 zz)), (x, .inr (10, [.ref ro, .ref rw, .ref bo, .ref li, .ref sh, .ref tx, .ref lo, .ref nl])), (bo, .inr (1, [.ref q])), (q, .inr (2, [.ref sa, .ref da, .ref wa, .long (lz (u9_)), .long (lz (u10_)), .int (iz (u11_))])), (sa, .inr (9, [.ref sb, .int (iz (u1_)), .long (lz (u2_))])), (sb, zaL (G.2 0) 40 (u0_)), (da, .inr (9, [.ref db, .int (iz (u4_)), .long (lz (u5_))])), (db, zaL (G.2 0) 40 (u3_)), (wa, .inr (9, [.ref wb, .int (iz (u7_)), .long (lz (u8_))])), (wb, zaL (G.2 0) 40 (u6_))] := hD
  refine lv_goto (tgt := 22) hx hb dL_bondYield_15 (by decide) ?_
  refine lv_iconst (v := iz (0)) hx hb dL_bondYield_22 rfl ?_
  rw [hQ]
  exact zr_iret (z := 0) (u := (zup fo 0 zz)) hx hb hr hlocks (hP.sub [0] rfl) (hD.sub [0] (by decide) rfl) hS (by first | exact Nat.le_of_ble_eq_true rfl | omega) (by first | exact Nat.le_of_ble_eq_true rfl | omega) dL_bondYield_23 (show 0 = 0 ∧ ((((zup fo 0 zz) 0) = -1 ∧ ¬ zcheap cp fa pr mo (20000)) ∨ (0 ≤ ((zup fo 0 zz) 0) ∧ ((zup fo 0 zz) 0) ≤ 20000 ∧ zcheap cp fa pr mo (((zup fo 0 zz) 0)) ∧ ∀ p : Int, 0 ≤ p → p < ((zup fo 0 zz) 0) → ¬ zcheap cp fa pr mo (p))) from ⟨rfl, by rw [zup_s]; exact hz⟩)

def rm_c_L_bondYield_x : Room := { frames := 9, cells := 1, slots := 6, locals := 161 }
set_option maxHeartbeats 1000000 in
set_option maxRecDepth 100000 in
theorem c_L_bondYield_x (l : Launch) (G : zG) (s1 : Nat) (s2 : Nat) (s3 : Nat) (x : Nat) (ro : Nat) (rw : Nat) (bo : Nat) (li : Nat) (sh : Nat) (tx : Nat) (lo : Nat) (nl : Nat) (cp : Int) (fa : Int) (pr : Int) (mo : Int) (ou : Nat) (fo : Int → Int) (hl0 : l.stackTraces = false) (h0 : -9223372036854775808 ≤ cp ∧ cp < 9223372036854775808) (h01 : -9223372036854775808 ≤ fa ∧ fa < 9223372036854775808) (h02 : -2147483648 ≤ pr ∧ pr < 2147483648) (h03 : -9223372036854775808 ≤ mo ∧ mo < 9223372036854775808) (h1 : ¬ (0 ≤ cp ∧ cp ≤ 1000000000 ∧ 0 ≤ fa ∧ fa ≤ 1000000000 ∧ 1 ≤ pr ∧ pr ≤ 40 ∧ 0 ≤ mo ∧ mo ≤ 1000000000000)) : zMe l (zXL s1 s2 s3) G yL_bondYield wsL_bondYield rm_c_L_bondYield_x [.ref x, .long (lz (cp)), .long (lz (fa)), .int (iz (pr)), .long (lz (mo)), .ref ou] [(x, .inr (10, [.ref ro, .ref rw, .ref bo, .ref li, .ref sh, .ref tx, .ref lo, .ref nl])), (ou, zaL (G.2 0) 1 (fo))] (fun A => zQi G (fun (z : Int) (_ : Unit) => z = 1) (fun (_ : Unit) => [(ou, zaL (G.2 0) 1 (fo))]) A) 1 6 := by
  refine zMeW_of (cc := cL_bondYield) (maxL := 10) (ret := (some .int)) (by decide) rfl (Nat.le_of_ble_eq_true rfl) ?_
  intro p e s m below meth c ls A Q hQ hx hb hr hts hown hlocks hml hnm htab hKX hE hP hD hA hS hl
  have hK := hKX.1
  obtain ⟨H, hH⟩ : ∃ h, h = s.heap := ⟨_, rfl⟩
  obtain ⟨locs, hlo⟩ : ∃ h : List Loc, h = [] := ⟨_, rfl⟩
  have hS : va_S A s.heap H locs := by rw [hH, hlo]; exact hS
  have hP : va_P G.1 vwCl [(x, .inr (10, [.ref ro, .ref rw, .ref bo, .ref li, .ref sh, .ref tx, .ref lo, .ref nl])), (ou, zaL (G.2 0) 1 (fo))] H := by rw [hH]; exact hP
  have hD : va_D A [(x, .inr (10, [.ref ro, .ref rw, .ref bo, .ref li, .ref sh, .ref tx, .ref lo, .ref nl])), (ou, zaL (G.2 0) 1 (fo))] := hD
  have hl : lv_has ls 10 [(0, .ref x), (1, .long (lz (cp))), (3, .long (lz (fa))), (5, .int (iz (pr))), (6, .long (lz (mo))), (8, .ref ou)] := hl
  rw [← hH, ← hlo]
  refine lv_aload hx hb dL_bondYield_0 (lv_at hl 5 rfl) ?_
  refine lv_iconst (v := iz (0)) hx hb dL_bondYield_2 rfl ?_
  refine lv_aload_n hx hb dL_bondYield_3 rfl (lv_at hl 0 rfl) ?_
  refine lv_lload_n hx hb dL_bondYield_4 rfl (lv_at hl 1 rfl) ?_
  refine lv_lload_n hx hb dL_bondYield_5 rfl (lv_at hl 2 rfl) ?_
  refine lv_iload hx hb dL_bondYield_6 (lv_at hl 3 rfl) ?_
  refine lv_lload hx hb dL_bondYield_8 (lv_at hl 4 rfl) ?_
  refine zx_call (X := "java/lang/IllegalArgumentException") (AX := va_A [(x, .inr (10, [.ref ro, .ref rw, .ref bo, .ref li, .ref sh, .ref tx, .ref lo, .ref nl]))] H.size) (fun _ _ _ h => h) (vx_runV (As := [.long (lz (cp)), .long (lz (fa)), .int (iz (pr)), .long (lz (mo))]) (rest := [.int (iz (0)), .ref ou]) ⟨hx, hb, hml, hown, hts⟩ (c_X9_bondYield_x l G s1 s2 s3 x ro rw bo li sh tx lo nl cp fa pr mo hl0 (h0) (h01) (h02) (h03) (h1) H.size) (cwV 4 hts gL_bondYield_X9_bondYield rfl rfl rfl (by decide +kernel) ⟨Nat.le_of_ble_eq_true rfl, Nat.le_of_ble_eq_true rfl⟩) (zpVe zXE_ok hE.1 hS hA hKX hP hD [0] rfl rfl (va_recv hK hP (ci := 10) (q0 := 0) rfl rfl)) rfl rfl hl.1 rfl (lv_room (Nat.le_of_ble_eq_true rfl)) dL_bondYield_10 ⟨(by first | exact Nat.le_of_ble_eq_true rfl | (show _ ≤ (1 : Nat); omega)), (by first | exact Nat.le_of_ble_eq_true rfl | (show _ ≤ (6 : Nat); omega))⟩) hS (va_free (wc := [(x, .inr (10, [.ref ro, .ref rw, .ref bo, .ref li, .ref sh, .ref tx, .ref lo, .ref nl]))]) hD hS hA [0] rfl) (fun aq_ _ ah_ => (va_free (wc := [(x, .inr (10, [.ref ro, .ref rw, .ref bo, .ref li, .ref sh, .ref tx, .ref lo, .ref nl]))]) hD hS hA [0] rfl) aq_ ah_) (fun ce q9 H1 locs1 hsz9 hk9 hS1 hce hcv hcl => ?_)
  obtain ⟨hP1, hD1⟩ := va_join (wr := [(ou, zaL (G.2 0) 1 (fo))]) (w1 := []) hP hD [0] [1] rfl rfl rfl (by decide) hk9 (va_free (wc := [(x, .inr (10, [.ref ro, .ref rw, .ref bo, .ref li, .ref sh, .ref tx, .ref lo, .ref nl]))]) hD hS hA [0] rfl) (fun k q h => by cases h) zD_nil
  refine vx_catch hown [] (⟨0, 15, 18, 13⟩ : ExceptionTableEntry) [] (htab.trans rfl) (fun _ h => nomatch h) (by decide) (by decide) (hts (.classLink RL 13 "java/lang/IllegalArgumentException") (by decide +kernel)) (va_Nw.use rfl (hKX.2.2.2 (.castable "java/lang/IllegalArgumentException" "java/lang/IllegalArgumentException") (by decide +kernel))) hce hcv hcl ?_
  have hP : va_P G.1 vwCl [(ou, zaL (G.2 0) 1 (fo))] H1 := (List.append_nil [(ou, zaL (G.2 0) 1 (fo))]) ▸ hP1
  have hD : va_D A [(ou, zaL (G.2 0) 1 (fo))] := (List.append_nil [(ou, zaL (G.2 0) 1 (fo))]) ▸ hD1
  have hS := hS1
  show W p l e rm_c_L_bondYield_x s m ([.ref x, .long (lz (cp)), .long (lz (fa)), .int (iz (pr)), .long (lz (mo)), .ref ou] : List Value).toArray below meth c H1 locs1 (0 + 1) (0 + 6) Q (F0 m 18 ls [.ref q9])
  refine lv_astore (lv' := [(9, .ref q9), (0, .ref x), (1, .long (lz (cp))), (3, .long (lz (fa))), (5, .int (iz (pr))), (6, .long (lz (mo))), (8, .ref ou)]) hx hb dL_bondYield_18 hl (by decide) rfl (fun ls hl => ?_)
  refine lv_iconst (v := iz (1)) hx hb dL_bondYield_20 rfl ?_
  rw [hQ]
  exact zr_iret (z := 1) (u := ()) hx hb hr hlocks hP hD hS (by first | exact Nat.le_of_ble_eq_true rfl | omega) (by first | exact Nat.le_of_ble_eq_true rfl | omega) dL_bondYield_21 (show 1 = 1 from rfl)

def rm_c_L_accrued_o : Room := { frames := 4, cells := 0, slots := 0, locals := 103 }
set_option maxHeartbeats 1000000 in
set_option maxRecDepth 100000 in
theorem c_L_accrued_o (l : Launch) (G : zG) (x : Nat) (ro : Nat) (rw : Nat) (bo : Nat) (li : Nat) (sh : Nat) (tx : Nat) (lo : Nat) (nl : Nat) (cp : Int) (da : Int) (le : Int) (ou : Nat) (fo : Int → Int) (h0 : -9223372036854775808 ≤ cp ∧ cp < 9223372036854775808) (h01 : -2147483648 ≤ da ∧ da < 2147483648) (h02 : -2147483648 ≤ le ∧ le < 2147483648) (h1 : 0 ≤ cp ∧ cp ≤ 1000000000 ∧ 1 ≤ le ∧ le ≤ 366 ∧ 0 ≤ da ∧ da ≤ le) : zM l G yL_accrued wsL_accrued rm_c_L_accrued_o [.ref x, .long (lz (cp)), .int (iz (da)), .int (iz (le)), .ref ou] [(x, .inr (10, [.ref ro, .ref rw, .ref bo, .ref li, .ref sh, .ref tx, .ref lo, .ref nl])), (ro, .inr (5, [.int (iz (6))])), (ou, zaL (G.2 0) 1 (fo))] (fun A => zQi G (fun (z : Int) (f2 : (Int → Int)) => z = 0 ∧ (f2 0) = zr6 (cp * da) le) (fun (f2 : (Int → Int)) => [(ou, zaL (G.2 0) 1 (f2))]) A) 0 0 := by
  refine zMW_of (cc := cL_accrued) (maxL := 7) (ret := (some .int)) (by decide) rfl (Nat.le_of_ble_eq_true rfl) ?_
  intro p e s m below meth c ls A Q hQ hx hb hr hts hown hlocks hml hnm hKX hP hD hA hS hl
  have hK := hKX.1
  obtain ⟨H, hH⟩ : ∃ h, h = s.heap := ⟨_, rfl⟩
  obtain ⟨locs, hlo⟩ : ∃ h : List Loc, h = [] := ⟨_, rfl⟩
  have hS : va_S A s.heap H locs := by rw [hH, hlo]; exact hS
  have hP : va_P G.1 vwCl [(x, .inr (10, [.ref ro, .ref rw, .ref bo, .ref li, .ref sh, .ref tx, .ref lo, .ref nl])), (ro, .inr (5, [.int (iz (6))])), (ou, zaL (G.2 0) 1 (fo))] H := by rw [hH]; exact hP
  have hD : va_D A [(x, .inr (10, [.ref ro, .ref rw, .ref bo, .ref li, .ref sh, .ref tx, .ref lo, .ref nl])), (ro, .inr (5, [.int (iz (6))])), (ou, zaL (G.2 0) 1 (fo))] := hD
  have hl : lv_has ls 7 [(0, .ref x), (1, .long (lz (cp))), (3, .int (iz (da))), (4, .int (iz (le))), (5, .ref ou)] := hl
  rw [← hH, ← hlo]
  refine lv_aload hx hb dL_accrued_0 (lv_at hl 4 rfl) ?_
  refine lv_iconst (v := iz (0)) hx hb dL_accrued_2 rfl ?_
  refine lv_aload_n hx hb dL_accrued_3 rfl (lv_at hl 0 rfl) ?_
  refine lv_lload_n hx hb dL_accrued_4 rfl (lv_at hl 1 rfl) ?_
  refine lv_iload_n hx hb dL_accrued_5 rfl (lv_at hl 2 rfl) ?_
  refine lv_iload hx hb dL_accrued_6 (lv_at hl 3 rfl) ?_
  refine zc_l (wr := [(ou, zaL (G.2 0) 1 (fo))]) (va_runV (As := [.long (lz (cp)), .int (iz (da)), .int (iz (le))]) (rest := [.int (iz (0)), .ref ou]) ⟨hx, hb, hml, hown, hts⟩ (c_X9_accrued_o l G x ro rw bo li sh tx lo nl cp da le (h0) (h01) (h02) (h1) H.size) (cwV 3 hts gL_accrued_X9_accrued rfl rfl rfl (by decide +kernel) ⟨Nat.le_of_ble_eq_true rfl, Nat.le_of_ble_eq_true rfl⟩) (zpV hKX hP hD [0, 1] rfl rfl 0 10 rfl rfl) rfl rfl hl.1 rfl (lv_room (Nat.le_of_ble_eq_true rfl)) dL_accrued_8 ⟨(by first | exact Nat.le_of_ble_eq_true rfl | (show _ ≤ (0 : Nat); omega)), (by first | exact Nat.le_of_ble_eq_true rfl | (show _ ≤ (0 : Nat); omega))⟩) hP hD hS hA [0, 1] [2] rfl rfl rfl (by decide) (fun zz u_1 H locs hz hP hD hS => ?_)
  have hP : va_P G.1 vwCl [(ou, zaL (G.2 0) 1 (fo)), (x, .inr (10, [.ref ro, .ref rw, .ref bo, .ref li, .ref sh, .ref tx, .ref lo, .ref nl])), (ro, .inr (5, [.int (iz (6))]))] H := hP
  have hD : va_D A [(ou, zaL (G.2 0) 1 (fo)), (x, .inr (10, [.ref ro, .ref rw, .ref bo, .ref li, .ref sh, .ref tx, .ref lo, .ref nl])), (ro, .inr (5, [.int (iz (6))]))] := hD
  have hz : zz = zr6 (cp * da) le := hz
  refine zr_last hx hb hK hP hD hS 0 0 rfl rfl (i := 0) (x := zz) (⟨by omega, by omega, by omega⟩) dL_accrued_11 (fun H locs hP hD hS => ?_)
  have hP : va_P G.1 vwCl [(ou, zaL (G.2 0) 1 (zup fo 0 zz)), (x, .inr (10, [.ref ro, .ref rw, .ref bo, .ref li, .ref sh, .ref tx, .ref lo, .ref nl])), (ro, .inr (5, [.int (iz (6))]))] H := hP
  have hD : va_D A [(ou, zaL (G.2 0) 1 (zup fo 0 zz)), (x, .inr (10, [.ref ro, .ref rw, .ref bo, .ref li, .ref sh, .ref tx, .ref lo, .ref nl])), (ro, .inr (5, [.int (iz (6))]))] := hD
  refine lv_goto (tgt := 23) hx hb dL_accrued_12 (by decide) ?_
  refine lv_iconst (v := iz (0)) hx hb dL_accrued_23 rfl ?_
  rw [hQ]
  exact zr_iret (z := 0) (u := (zup fo 0 zz)) hx hb hr hlocks (hP.sub [0] rfl) (hD.sub [0] (by decide) rfl) hS (by first | exact Nat.le_of_ble_eq_true rfl | omega) (by first | exact Nat.le_of_ble_eq_true rfl | omega) dL_accrued_24 (show 0 = 0 ∧ ((zup fo 0 zz) 0) = zr6 (cp * da) le from ⟨rfl, by rw [zup_s]; exact hz⟩)

def rm_c_L_accrued_x : Room := { frames := 8, cells := 1, slots := 6, locals := 134 }
set_option maxHeartbeats 1000000 in
set_option maxRecDepth 100000 in
theorem c_L_accrued_x (l : Launch) (G : zG) (s1 : Nat) (s2 : Nat) (s3 : Nat) (x : Nat) (ro : Nat) (rw : Nat) (bo : Nat) (li : Nat) (sh : Nat) (tx : Nat) (lo : Nat) (nl : Nat) (cp : Int) (da : Int) (le : Int) (ou : Nat) (fo : Int → Int) (hl0 : l.stackTraces = false) (h0 : -9223372036854775808 ≤ cp ∧ cp < 9223372036854775808) (h01 : -2147483648 ≤ da ∧ da < 2147483648) (h02 : -2147483648 ≤ le ∧ le < 2147483648) (h1 : ¬ (0 ≤ cp ∧ cp ≤ 1000000000 ∧ 1 ≤ le ∧ le ≤ 366 ∧ 0 ≤ da ∧ da ≤ le)) : zMe l (zXL s1 s2 s3) G yL_accrued wsL_accrued rm_c_L_accrued_x [.ref x, .long (lz (cp)), .int (iz (da)), .int (iz (le)), .ref ou] [(x, .inr (10, [.ref ro, .ref rw, .ref bo, .ref li, .ref sh, .ref tx, .ref lo, .ref nl])), (ou, zaL (G.2 0) 1 (fo))] (fun A => zQi G (fun (z : Int) (_ : Unit) => z = 1) (fun (_ : Unit) => [(ou, zaL (G.2 0) 1 (fo))]) A) 1 6 := by
  refine zMeW_of (cc := cL_accrued) (maxL := 7) (ret := (some .int)) (by decide) rfl (Nat.le_of_ble_eq_true rfl) ?_
  intro p e s m below meth c ls A Q hQ hx hb hr hts hown hlocks hml hnm htab hKX hE hP hD hA hS hl
  have hK := hKX.1
  obtain ⟨H, hH⟩ : ∃ h, h = s.heap := ⟨_, rfl⟩
  obtain ⟨locs, hlo⟩ : ∃ h : List Loc, h = [] := ⟨_, rfl⟩
  have hS : va_S A s.heap H locs := by rw [hH, hlo]; exact hS
  have hP : va_P G.1 vwCl [(x, .inr (10, [.ref ro, .ref rw, .ref bo, .ref li, .ref sh, .ref tx, .ref lo, .ref nl])), (ou, zaL (G.2 0) 1 (fo))] H := by rw [hH]; exact hP
  have hD : va_D A [(x, .inr (10, [.ref ro, .ref rw, .ref bo, .ref li, .ref sh, .ref tx, .ref lo, .ref nl])), (ou, zaL (G.2 0) 1 (fo))] := hD
  have hl : lv_has ls 7 [(0, .ref x), (1, .long (lz (cp))), (3, .int (iz (da))), (4, .int (iz (le))), (5, .ref ou)] := hl
  rw [← hH, ← hlo]
  refine lv_aload hx hb dL_accrued_0 (lv_at hl 4 rfl) ?_
  refine lv_iconst (v := iz (0)) hx hb dL_accrued_2 rfl ?_
  refine lv_aload_n hx hb dL_accrued_3 rfl (lv_at hl 0 rfl) ?_
  refine lv_lload_n hx hb dL_accrued_4 rfl (lv_at hl 1 rfl) ?_
  refine lv_iload_n hx hb dL_accrued_5 rfl (lv_at hl 2 rfl) ?_
  refine lv_iload hx hb dL_accrued_6 (lv_at hl 3 rfl) ?_
  refine zx_call (X := "java/lang/IllegalArgumentException") (AX := va_A [(x, .inr (10, [.ref ro, .ref rw, .ref bo, .ref li, .ref sh, .ref tx, .ref lo, .ref nl]))] H.size) (fun _ _ _ h => h) (vx_runV (As := [.long (lz (cp)), .int (iz (da)), .int (iz (le))]) (rest := [.int (iz (0)), .ref ou]) ⟨hx, hb, hml, hown, hts⟩ (c_X9_accrued_x l G s1 s2 s3 x ro rw bo li sh tx lo nl cp da le hl0 (h0) (h01) (h02) (h1) H.size) (cwV 3 hts gL_accrued_X9_accrued rfl rfl rfl (by decide +kernel) ⟨Nat.le_of_ble_eq_true rfl, Nat.le_of_ble_eq_true rfl⟩) (zpVe zXE_ok hE.1 hS hA hKX hP hD [0] rfl rfl (va_recv hK hP (ci := 10) (q0 := 0) rfl rfl)) rfl rfl hl.1 rfl (lv_room (Nat.le_of_ble_eq_true rfl)) dL_accrued_8 ⟨(by first | exact Nat.le_of_ble_eq_true rfl | (show _ ≤ (1 : Nat); omega)), (by first | exact Nat.le_of_ble_eq_true rfl | (show _ ≤ (6 : Nat); omega))⟩) hS (va_free (wc := [(x, .inr (10, [.ref ro, .ref rw, .ref bo, .ref li, .ref sh, .ref tx, .ref lo, .ref nl]))]) hD hS hA [0] rfl) (fun aq_ _ ah_ => (va_free (wc := [(x, .inr (10, [.ref ro, .ref rw, .ref bo, .ref li, .ref sh, .ref tx, .ref lo, .ref nl]))]) hD hS hA [0] rfl) aq_ ah_) (fun ce q9 H1 locs1 hsz9 hk9 hS1 hce hcv hcl => ?_)
  obtain ⟨hP1, hD1⟩ := va_join (wr := [(ou, zaL (G.2 0) 1 (fo))]) (w1 := []) hP hD [0] [1] rfl rfl rfl (by decide) hk9 (va_free (wc := [(x, .inr (10, [.ref ro, .ref rw, .ref bo, .ref li, .ref sh, .ref tx, .ref lo, .ref nl]))]) hD hS hA [0] rfl) (fun k q h => by cases h) zD_nil
  refine vx_catch hown [] (⟨0, 12, 15, 13⟩ : ExceptionTableEntry) [(⟨0, 12, 19, 19⟩ : ExceptionTableEntry)] (htab.trans rfl) (fun _ h => nomatch h) (by decide) (by decide) (hts (.classLink RL 13 "java/lang/IllegalArgumentException") (by decide +kernel)) (va_Nw.use rfl (hKX.2.2.2 (.castable "java/lang/IllegalArgumentException" "java/lang/IllegalArgumentException") (by decide +kernel))) hce hcv hcl ?_
  have hP : va_P G.1 vwCl [(ou, zaL (G.2 0) 1 (fo))] H1 := (List.append_nil [(ou, zaL (G.2 0) 1 (fo))]) ▸ hP1
  have hD : va_D A [(ou, zaL (G.2 0) 1 (fo))] := (List.append_nil [(ou, zaL (G.2 0) 1 (fo))]) ▸ hD1
  have hS := hS1
  show W p l e rm_c_L_accrued_x s m ([.ref x, .long (lz (cp)), .int (iz (da)), .int (iz (le)), .ref ou] : List Value).toArray below meth c H1 locs1 (0 + 1) (0 + 6) Q (F0 m 15 ls [.ref q9])
  refine lv_astore (lv' := [(6, .ref q9), (0, .ref x), (1, .long (lz (cp))), (3, .int (iz (da))), (4, .int (iz (le))), (5, .ref ou)]) hx hb dL_accrued_15 hl (by decide) rfl (fun ls hl => ?_)
  refine lv_iconst (v := iz (1)) hx hb dL_accrued_17 rfl ?_
  rw [hQ]
  exact zr_iret (z := 1) (u := ()) hx hb hr hlocks hP hD hS (by first | exact Nat.le_of_ble_eq_true rfl | omega) (by first | exact Nat.le_of_ble_eq_true rfl | omega) dL_accrued_18 (show 1 = 1 from rfl)

def rm_c_L_live_o : Room := { frames := 2, cells := 0, slots := 0, locals := 46 }
set_option maxHeartbeats 1000000 in
set_option maxRecDepth 100000 in
theorem c_L_live_o (l : Launch) (G : zG) (x : Nat) (ro : Nat) (rw : Nat) (bo : Nat) (li : Nat) (sh : Nat) (tx : Nat) (lo : Nat) (nl : Nat) (lv : Nat) (q : Nat) (bq : Nat) (le : Int) (ou : Nat) (fo : Int → Int) (h0 : -2147483648 ≤ le ∧ le < 2147483648) (h1 : 1 ≤ le ∧ le ≤ 1000000) : zM l G yL_live wsL_live rm_c_L_live_o [.ref x, .int (iz (le)), .ref ou] [(x, .inr (10, [.ref ro, .ref rw, .ref bo, .ref li, .ref sh, .ref tx, .ref lo, .ref nl])), (li, .inr (3, [.ref lv, .ref q, .ref bq, .int (iz (0))])), (lv, zaI (G.2 1) 30 (fun _ => 0)), (ou, zaL (G.2 0) 1 (fo))] (fun A => zQi G (fun (z : Int) (f2 : (Int → Int)) => z = 0 ∧ (f2 0) = 1) (fun (f2 : (Int → Int)) => [(ou, zaL (G.2 0) 1 (f2))]) A) 0 0 := by
  refine zMW_of (cc := cL_live) (maxL := 4) (ret := (some .int)) (by decide) rfl (Nat.le_of_ble_eq_true rfl) ?_
  intro p e s m below meth c ls A Q hQ hx hb hr hts hown hlocks hml hnm hKX hP hD hA hS hl
  have hK := hKX.1
  obtain ⟨H, hH⟩ : ∃ h, h = s.heap := ⟨_, rfl⟩
  obtain ⟨locs, hlo⟩ : ∃ h : List Loc, h = [] := ⟨_, rfl⟩
  have hS : va_S A s.heap H locs := by rw [hH, hlo]; exact hS
  have hP : va_P G.1 vwCl [(x, .inr (10, [.ref ro, .ref rw, .ref bo, .ref li, .ref sh, .ref tx, .ref lo, .ref nl])), (li, .inr (3, [.ref lv, .ref q, .ref bq, .int (iz (0))])), (lv, zaI (G.2 1) 30 (fun _ => 0)), (ou, zaL (G.2 0) 1 (fo))] H := by rw [hH]; exact hP
  have hD : va_D A [(x, .inr (10, [.ref ro, .ref rw, .ref bo, .ref li, .ref sh, .ref tx, .ref lo, .ref nl])), (li, .inr (3, [.ref lv, .ref q, .ref bq, .int (iz (0))])), (lv, zaI (G.2 1) 30 (fun _ => 0)), (ou, zaL (G.2 0) 1 (fo))] := hD
  have hl : lv_has ls 4 [(0, .ref x), (1, .int (iz (le))), (2, .ref ou)] := hl
  rw [← hH, ← hlo]
  refine lv_aload_n hx hb dL_live_0 rfl (lv_at hl 2 rfl) ?_
  refine lv_iconst (v := iz (0)) hx hb dL_live_1 rfl ?_
  refine lv_aload_n hx hb dL_live_2 rfl (lv_at hl 0 rfl) ?_
  refine lv_iload_n hx hb dL_live_3 rfl (lv_at hl 1 rfl) ?_
  refine zc_i (wr := [(ou, zaL (G.2 0) 1 (fo))]) (va_runV (As := [.int (iz (le))]) (rest := [.int (iz (0)), .ref ou]) ⟨hx, hb, hml, hown, hts⟩ (c_X9_live_o l G x ro rw bo li sh tx lo nl lv q bq le (h0) (h1) H.size) (cwV 1 hts gL_live_X9_live rfl rfl rfl (by decide +kernel) ⟨Nat.le_of_ble_eq_true rfl, Nat.le_of_ble_eq_true rfl⟩) (zpV hKX hP hD [0, 1, 2] rfl rfl 0 10 rfl rfl) rfl rfl hl.1 rfl (lv_room (Nat.le_of_ble_eq_true rfl)) dL_live_4 ⟨(by first | exact Nat.le_of_ble_eq_true rfl | (show _ ≤ (0 : Nat); omega)), (by first | exact Nat.le_of_ble_eq_true rfl | (show _ ≤ (0 : Nat); omega))⟩) hP hD hS hA [0, 1, 2] [3] rfl rfl rfl (by decide) (fun zz u_1 H locs hz hP hD hS => ?_)
  generalize u_1 = u0_ at hP hD hz
  have hP : va_P G.1 vwCl [(ou, zaL (G.2 0) 1 (fo)), (x, .inr (10, [.ref ro, .ref rw, .ref bo, .ref li, .ref sh, .ref tx, .ref lo, .ref nl])), (li, .inr (3, [.ref lv, .ref q, .ref bq, .int (iz (0 + 1))])), (lv, zaI (G.2 1) 30 (u0_))] H := hP
  have hD : va_D A [(ou, zaL (G.2 0) 1 (fo)), (x, .inr (10, [.ref ro, .ref rw, .ref bo, .ref li, .ref sh, .ref tx, .ref lo, .ref nl])), (li, .inr (3, [.ref lv, .ref q, .ref bq, .int (iz (0 + 1))])), (lv, zaI (G.2 1) 30 (u0_))] := hD
  have hz : zz = 1 := hz
  refine zr_i2l hx hb (x := zz) (⟨by omega, by omega⟩) dL_live_7 ?_
  refine zr_last hx hb hK hP hD hS 0 0 rfl rfl (i := 0) (x := zz) (⟨by omega, by omega, by omega⟩) dL_live_8 (fun H locs hP hD hS => ?_)
  have hP : va_P G.1 vwCl [(ou, zaL (G.2 0) 1 (zup fo 0 zz)), (x, .inr (10, [.ref ro, .ref rw, .ref bo, .ref li, .ref sh, .ref tx, .ref lo, .ref nl])), (li, .inr (3, [.ref lv, .ref q, .ref bq, .int (iz (0 + 1))])), (lv, zaI (G.2 1) 30 (u0_))] H := hP
  have hD : va_D A [(ou, zaL (G.2 0) 1 (zup fo 0 zz)), (x, .inr (10, [.ref ro, .ref rw, .ref bo, .ref li, .ref sh, .ref tx, .ref lo, .ref nl])), (li, .inr (3, [.ref lv, .ref q, .ref bq, .int (iz (0 + 1))])), (lv, zaI (G.2 1) 30 (u0_))] := hD
  refine lv_goto (tgt := 18) hx hb dL_live_9 (by decide) ?_
  refine lv_iconst (v := iz (0)) hx hb dL_live_18 rfl ?_
  rw [hQ]
  exact zr_iret (z := 0) (u := (zup fo 0 zz)) hx hb hr hlocks (hP.sub [0] rfl) (hD.sub [0] (by decide) rfl) hS (by first | exact Nat.le_of_ble_eq_true rfl | omega) (by first | exact Nat.le_of_ble_eq_true rfl | omega) dL_live_19 (show 0 = 0 ∧ ((zup fo 0 zz) 0) = 1 from ⟨rfl, by rw [zup_s]; exact hz⟩)

def rm_c_L_live_x : Room := { frames := 8, cells := 1, slots := 6, locals := 131 }
set_option maxHeartbeats 1000000 in
set_option maxRecDepth 100000 in
theorem c_L_live_x (l : Launch) (G : zG) (s1 : Nat) (s2 : Nat) (s3 : Nat) (x : Nat) (ro : Nat) (rw : Nat) (bo : Nat) (li : Nat) (sh : Nat) (tx : Nat) (lo : Nat) (nl : Nat) (lv : Nat) (q : Nat) (bq : Nat) (le : Int) (ou : Nat) (fo : Int → Int) (hl0 : l.stackTraces = false) (h0 : -2147483648 ≤ le ∧ le < 2147483648) (h1 : ¬ (1 ≤ le ∧ le ≤ 1000000)) : zMe l (zXL s1 s2 s3) G yL_live wsL_live rm_c_L_live_x [.ref x, .int (iz (le)), .ref ou] [(x, .inr (10, [.ref ro, .ref rw, .ref bo, .ref li, .ref sh, .ref tx, .ref lo, .ref nl])), (li, .inr (3, [.ref lv, .ref q, .ref bq, .int (iz (0))])), (ou, zaL (G.2 0) 1 (fo))] (fun A => zQi G (fun (z : Int) (_ : Unit) => z = 1) (fun (_ : Unit) => [(ou, zaL (G.2 0) 1 (fo))]) A) 1 6 := by
  refine zMeW_of (cc := cL_live) (maxL := 4) (ret := (some .int)) (by decide) rfl (Nat.le_of_ble_eq_true rfl) ?_
  intro p e s m below meth c ls A Q hQ hx hb hr hts hown hlocks hml hnm htab hKX hE hP hD hA hS hl
  have hK := hKX.1
  obtain ⟨H, hH⟩ : ∃ h, h = s.heap := ⟨_, rfl⟩
  obtain ⟨locs, hlo⟩ : ∃ h : List Loc, h = [] := ⟨_, rfl⟩
  have hS : va_S A s.heap H locs := by rw [hH, hlo]; exact hS
  have hP : va_P G.1 vwCl [(x, .inr (10, [.ref ro, .ref rw, .ref bo, .ref li, .ref sh, .ref tx, .ref lo, .ref nl])), (li, .inr (3, [.ref lv, .ref q, .ref bq, .int (iz (0))])), (ou, zaL (G.2 0) 1 (fo))] H := by rw [hH]; exact hP
  have hD : va_D A [(x, .inr (10, [.ref ro, .ref rw, .ref bo, .ref li, .ref sh, .ref tx, .ref lo, .ref nl])), (li, .inr (3, [.ref lv, .ref q, .ref bq, .int (iz (0))])), (ou, zaL (G.2 0) 1 (fo))] := hD
  have hl : lv_has ls 4 [(0, .ref x), (1, .int (iz (le))), (2, .ref ou)] := hl
  rw [← hH, ← hlo]
  refine lv_aload_n hx hb dL_live_0 rfl (lv_at hl 2 rfl) ?_
  refine lv_iconst (v := iz (0)) hx hb dL_live_1 rfl ?_
  refine lv_aload_n hx hb dL_live_2 rfl (lv_at hl 0 rfl) ?_
  refine lv_iload_n hx hb dL_live_3 rfl (lv_at hl 1 rfl) ?_
  refine zx_call (X := "java/lang/IllegalArgumentException") (AX := va_A [(x, .inr (10, [.ref ro, .ref rw, .ref bo, .ref li, .ref sh, .ref tx, .ref lo, .ref nl])), (li, .inr (3, [.ref lv, .ref q, .ref bq, .int (iz (0))]))] H.size) (fun _ _ _ h => h) (vx_runV (As := [.int (iz (le))]) (rest := [.int (iz (0)), .ref ou]) ⟨hx, hb, hml, hown, hts⟩ (c_X9_live_x l G s1 s2 s3 x ro rw bo li sh tx lo nl lv q bq le hl0 (h0) (h1) H.size) (cwV 1 hts gL_live_X9_live rfl rfl rfl (by decide +kernel) ⟨Nat.le_of_ble_eq_true rfl, Nat.le_of_ble_eq_true rfl⟩) (zpVe zXE_ok hE.1 hS hA hKX hP hD [0, 1] rfl rfl (va_recv hK hP (ci := 10) (q0 := 0) rfl rfl)) rfl rfl hl.1 rfl (lv_room (Nat.le_of_ble_eq_true rfl)) dL_live_4 ⟨(by first | exact Nat.le_of_ble_eq_true rfl | (show _ ≤ (1 : Nat); omega)), (by first | exact Nat.le_of_ble_eq_true rfl | (show _ ≤ (6 : Nat); omega))⟩) hS (va_free (wc := [(x, .inr (10, [.ref ro, .ref rw, .ref bo, .ref li, .ref sh, .ref tx, .ref lo, .ref nl])), (li, .inr (3, [.ref lv, .ref q, .ref bq, .int (iz (0))]))]) hD hS hA [0, 1] rfl) (fun aq_ _ ah_ => (va_free (wc := [(x, .inr (10, [.ref ro, .ref rw, .ref bo, .ref li, .ref sh, .ref tx, .ref lo, .ref nl])), (li, .inr (3, [.ref lv, .ref q, .ref bq, .int (iz (0))]))]) hD hS hA [0, 1] rfl) aq_ ah_) (fun ce q9 H1 locs1 hsz9 hk9 hS1 hce hcv hcl => ?_)
  obtain ⟨hP1, hD1⟩ := va_join (wr := [(ou, zaL (G.2 0) 1 (fo))]) (w1 := []) hP hD [0, 1] [2] rfl rfl rfl (by decide) hk9 (va_free (wc := [(x, .inr (10, [.ref ro, .ref rw, .ref bo, .ref li, .ref sh, .ref tx, .ref lo, .ref nl])), (li, .inr (3, [.ref lv, .ref q, .ref bq, .int (iz (0))]))]) hD hS hA [0, 1] rfl) (fun k q h => by cases h) zD_nil
  refine vx_catch hown [] (⟨0, 9, 12, 13⟩ : ExceptionTableEntry) [(⟨0, 9, 15, 19⟩ : ExceptionTableEntry)] (htab.trans rfl) (fun _ h => nomatch h) (by decide) (by decide) (hts (.classLink RL 13 "java/lang/IllegalArgumentException") (by decide +kernel)) (va_Nw.use rfl (hKX.2.2.2 (.castable "java/lang/IllegalArgumentException" "java/lang/IllegalArgumentException") (by decide +kernel))) hce hcv hcl ?_
  have hP : va_P G.1 vwCl [(ou, zaL (G.2 0) 1 (fo))] H1 := (List.append_nil [(ou, zaL (G.2 0) 1 (fo))]) ▸ hP1
  have hD : va_D A [(ou, zaL (G.2 0) 1 (fo))] := (List.append_nil [(ou, zaL (G.2 0) 1 (fo))]) ▸ hD1
  have hS := hS1
  show W p l e rm_c_L_live_x s m ([.ref x, .int (iz (le)), .ref ou] : List Value).toArray below meth c H1 locs1 (0 + 1) (0 + 6) Q (F0 m 12 ls [.ref q9])
  refine lv_astore_n (lv' := [(3, .ref q9), (0, .ref x), (1, .int (iz (le))), (2, .ref ou)]) hx hb dL_live_12 rfl hl (by decide) rfl (fun ls hl => ?_)
  refine lv_iconst (v := iz (1)) hx hb dL_live_13 rfl ?_
  rw [hQ]
  exact zr_iret (z := 1) (u := ()) hx hb hr hlocks hP hD hS (by first | exact Nat.le_of_ble_eq_true rfl | omega) (by first | exact Nat.le_of_ble_eq_true rfl | omega) dL_live_14 (show 1 = 1 from rfl)

def rm_c_L_weigh_o : Room := { frames := 2, cells := 0, slots := 0, locals := 46 }
set_option maxHeartbeats 1000000 in
set_option maxRecDepth 100000 in
theorem c_L_weigh_o (l : Launch) (G : zG) (x : Nat) (ro : Nat) (rw : Nat) (bo : Nat) (li : Nat) (sh : Nat) (tx : Nat) (lo : Nat) (nl : Nat) (wt : Nat) (we : Int) (ou : Nat) (fo : Int → Int) (h0 : -2147483648 ≤ we ∧ we < 2147483648) (h1 : 0 ≤ we ∧ we ≤ 1000000) : zM l G yL_weigh wsL_weigh rm_c_L_weigh_o [.ref x, .int (iz (we)), .ref ou] [(x, .inr (10, [.ref ro, .ref rw, .ref bo, .ref li, .ref sh, .ref tx, .ref lo, .ref nl])), (sh, .inr (7, [.ref wt, .int (iz (0))])), (wt, zaI (G.2 1) 12 (fun _ => 0)), (ou, zaL (G.2 0) 1 (fo))] (fun A => zQi G (fun (z : Int) (f2 : (Int → Int)) => z = 0 ∧ (f2 0) = 1) (fun (f2 : (Int → Int)) => [(ou, zaL (G.2 0) 1 (f2))]) A) 0 0 := by
  refine zMW_of (cc := cL_weigh) (maxL := 4) (ret := (some .int)) (by decide) rfl (Nat.le_of_ble_eq_true rfl) ?_
  intro p e s m below meth c ls A Q hQ hx hb hr hts hown hlocks hml hnm hKX hP hD hA hS hl
  have hK := hKX.1
  obtain ⟨H, hH⟩ : ∃ h, h = s.heap := ⟨_, rfl⟩
  obtain ⟨locs, hlo⟩ : ∃ h : List Loc, h = [] := ⟨_, rfl⟩
  have hS : va_S A s.heap H locs := by rw [hH, hlo]; exact hS
  have hP : va_P G.1 vwCl [(x, .inr (10, [.ref ro, .ref rw, .ref bo, .ref li, .ref sh, .ref tx, .ref lo, .ref nl])), (sh, .inr (7, [.ref wt, .int (iz (0))])), (wt, zaI (G.2 1) 12 (fun _ => 0)), (ou, zaL (G.2 0) 1 (fo))] H := by rw [hH]; exact hP
  have hD : va_D A [(x, .inr (10, [.ref ro, .ref rw, .ref bo, .ref li, .ref sh, .ref tx, .ref lo, .ref nl])), (sh, .inr (7, [.ref wt, .int (iz (0))])), (wt, zaI (G.2 1) 12 (fun _ => 0)), (ou, zaL (G.2 0) 1 (fo))] := hD
  have hl : lv_has ls 4 [(0, .ref x), (1, .int (iz (we))), (2, .ref ou)] := hl
  rw [← hH, ← hlo]
  refine lv_aload_n hx hb dL_weigh_0 rfl (lv_at hl 2 rfl) ?_
  refine lv_iconst (v := iz (0)) hx hb dL_weigh_1 rfl ?_
  refine lv_aload_n hx hb dL_weigh_2 rfl (lv_at hl 0 rfl) ?_
  refine lv_iload_n hx hb dL_weigh_3 rfl (lv_at hl 1 rfl) ?_
  refine zc_i (wr := [(ou, zaL (G.2 0) 1 (fo))]) (va_runV (As := [.int (iz (we))]) (rest := [.int (iz (0)), .ref ou]) ⟨hx, hb, hml, hown, hts⟩ (c_X9_weigh_o l G x ro rw bo li sh tx lo nl wt we (h0) (h1) H.size) (cwV 1 hts gL_weigh_X9_weigh rfl rfl rfl (by decide +kernel) ⟨Nat.le_of_ble_eq_true rfl, Nat.le_of_ble_eq_true rfl⟩) (zpV hKX hP hD [0, 1, 2] rfl rfl 0 10 rfl rfl) rfl rfl hl.1 rfl (lv_room (Nat.le_of_ble_eq_true rfl)) dL_weigh_4 ⟨(by first | exact Nat.le_of_ble_eq_true rfl | (show _ ≤ (0 : Nat); omega)), (by first | exact Nat.le_of_ble_eq_true rfl | (show _ ≤ (0 : Nat); omega))⟩) hP hD hS hA [0, 1, 2] [3] rfl rfl rfl (by decide) (fun zz u_1 H locs hz hP hD hS => ?_)
  generalize u_1 = u0_ at hP hD hz
  have hP : va_P G.1 vwCl [(ou, zaL (G.2 0) 1 (fo)), (x, .inr (10, [.ref ro, .ref rw, .ref bo, .ref li, .ref sh, .ref tx, .ref lo, .ref nl])), (sh, .inr (7, [.ref wt, .int (iz (0 + 1))])), (wt, zaI (G.2 1) 12 (u0_))] H := hP
  have hD : va_D A [(ou, zaL (G.2 0) 1 (fo)), (x, .inr (10, [.ref ro, .ref rw, .ref bo, .ref li, .ref sh, .ref tx, .ref lo, .ref nl])), (sh, .inr (7, [.ref wt, .int (iz (0 + 1))])), (wt, zaI (G.2 1) 12 (u0_))] := hD
  have hz : zz = 1 := hz
  refine zr_i2l hx hb (x := zz) (⟨by omega, by omega⟩) dL_weigh_7 ?_
  refine zr_last hx hb hK hP hD hS 0 0 rfl rfl (i := 0) (x := zz) (⟨by omega, by omega, by omega⟩) dL_weigh_8 (fun H locs hP hD hS => ?_)
  have hP : va_P G.1 vwCl [(ou, zaL (G.2 0) 1 (zup fo 0 zz)), (x, .inr (10, [.ref ro, .ref rw, .ref bo, .ref li, .ref sh, .ref tx, .ref lo, .ref nl])), (sh, .inr (7, [.ref wt, .int (iz (0 + 1))])), (wt, zaI (G.2 1) 12 (u0_))] H := hP
  have hD : va_D A [(ou, zaL (G.2 0) 1 (zup fo 0 zz)), (x, .inr (10, [.ref ro, .ref rw, .ref bo, .ref li, .ref sh, .ref tx, .ref lo, .ref nl])), (sh, .inr (7, [.ref wt, .int (iz (0 + 1))])), (wt, zaI (G.2 1) 12 (u0_))] := hD
  refine lv_goto (tgt := 18) hx hb dL_weigh_9 (by decide) ?_
  refine lv_iconst (v := iz (0)) hx hb dL_weigh_18 rfl ?_
  rw [hQ]
  exact zr_iret (z := 0) (u := (zup fo 0 zz)) hx hb hr hlocks (hP.sub [0] rfl) (hD.sub [0] (by decide) rfl) hS (by first | exact Nat.le_of_ble_eq_true rfl | omega) (by first | exact Nat.le_of_ble_eq_true rfl | omega) dL_weigh_19 (show 0 = 0 ∧ ((zup fo 0 zz) 0) = 1 from ⟨rfl, by rw [zup_s]; exact hz⟩)

def rm_c_L_weigh_x : Room := { frames := 8, cells := 1, slots := 6, locals := 131 }
set_option maxHeartbeats 1000000 in
set_option maxRecDepth 100000 in
theorem c_L_weigh_x (l : Launch) (G : zG) (s1 : Nat) (s2 : Nat) (s3 : Nat) (x : Nat) (ro : Nat) (rw : Nat) (bo : Nat) (li : Nat) (sh : Nat) (tx : Nat) (lo : Nat) (nl : Nat) (we : Int) (ou : Nat) (fo : Int → Int) (hl0 : l.stackTraces = false) (h0 : -2147483648 ≤ we ∧ we < 2147483648) (h1 : ¬ (0 ≤ we ∧ we ≤ 1000000)) : zMe l (zXL s1 s2 s3) G yL_weigh wsL_weigh rm_c_L_weigh_x [.ref x, .int (iz (we)), .ref ou] [(x, .inr (10, [.ref ro, .ref rw, .ref bo, .ref li, .ref sh, .ref tx, .ref lo, .ref nl])), (ou, zaL (G.2 0) 1 (fo))] (fun A => zQi G (fun (z : Int) (_ : Unit) => z = 1) (fun (_ : Unit) => [(ou, zaL (G.2 0) 1 (fo))]) A) 1 6 := by
  refine zMeW_of (cc := cL_weigh) (maxL := 4) (ret := (some .int)) (by decide) rfl (Nat.le_of_ble_eq_true rfl) ?_
  intro p e s m below meth c ls A Q hQ hx hb hr hts hown hlocks hml hnm htab hKX hE hP hD hA hS hl
  have hK := hKX.1
  obtain ⟨H, hH⟩ : ∃ h, h = s.heap := ⟨_, rfl⟩
  obtain ⟨locs, hlo⟩ : ∃ h : List Loc, h = [] := ⟨_, rfl⟩
  have hS : va_S A s.heap H locs := by rw [hH, hlo]; exact hS
  have hP : va_P G.1 vwCl [(x, .inr (10, [.ref ro, .ref rw, .ref bo, .ref li, .ref sh, .ref tx, .ref lo, .ref nl])), (ou, zaL (G.2 0) 1 (fo))] H := by rw [hH]; exact hP
  have hD : va_D A [(x, .inr (10, [.ref ro, .ref rw, .ref bo, .ref li, .ref sh, .ref tx, .ref lo, .ref nl])), (ou, zaL (G.2 0) 1 (fo))] := hD
  have hl : lv_has ls 4 [(0, .ref x), (1, .int (iz (we))), (2, .ref ou)] := hl
  rw [← hH, ← hlo]
  refine lv_aload_n hx hb dL_weigh_0 rfl (lv_at hl 2 rfl) ?_
  refine lv_iconst (v := iz (0)) hx hb dL_weigh_1 rfl ?_
  refine lv_aload_n hx hb dL_weigh_2 rfl (lv_at hl 0 rfl) ?_
  refine lv_iload_n hx hb dL_weigh_3 rfl (lv_at hl 1 rfl) ?_
  refine zx_call (X := "java/lang/IllegalArgumentException") (AX := va_A [(x, .inr (10, [.ref ro, .ref rw, .ref bo, .ref li, .ref sh, .ref tx, .ref lo, .ref nl]))] H.size) (fun _ _ _ h => h) (vx_runV (As := [.int (iz (we))]) (rest := [.int (iz (0)), .ref ou]) ⟨hx, hb, hml, hown, hts⟩ (c_X9_weigh_x l G s1 s2 s3 x ro rw bo li sh tx lo nl we hl0 (h0) (h1) H.size) (cwV 1 hts gL_weigh_X9_weigh rfl rfl rfl (by decide +kernel) ⟨Nat.le_of_ble_eq_true rfl, Nat.le_of_ble_eq_true rfl⟩) (zpVe zXE_ok hE.1 hS hA hKX hP hD [0] rfl rfl (va_recv hK hP (ci := 10) (q0 := 0) rfl rfl)) rfl rfl hl.1 rfl (lv_room (Nat.le_of_ble_eq_true rfl)) dL_weigh_4 ⟨(by first | exact Nat.le_of_ble_eq_true rfl | (show _ ≤ (1 : Nat); omega)), (by first | exact Nat.le_of_ble_eq_true rfl | (show _ ≤ (6 : Nat); omega))⟩) hS (va_free (wc := [(x, .inr (10, [.ref ro, .ref rw, .ref bo, .ref li, .ref sh, .ref tx, .ref lo, .ref nl]))]) hD hS hA [0] rfl) (fun aq_ _ ah_ => (va_free (wc := [(x, .inr (10, [.ref ro, .ref rw, .ref bo, .ref li, .ref sh, .ref tx, .ref lo, .ref nl]))]) hD hS hA [0] rfl) aq_ ah_) (fun ce q9 H1 locs1 hsz9 hk9 hS1 hce hcv hcl => ?_)
  obtain ⟨hP1, hD1⟩ := va_join (wr := [(ou, zaL (G.2 0) 1 (fo))]) (w1 := []) hP hD [0] [1] rfl rfl rfl (by decide) hk9 (va_free (wc := [(x, .inr (10, [.ref ro, .ref rw, .ref bo, .ref li, .ref sh, .ref tx, .ref lo, .ref nl]))]) hD hS hA [0] rfl) (fun k q h => by cases h) zD_nil
  refine vx_catch hown [] (⟨0, 9, 12, 13⟩ : ExceptionTableEntry) [(⟨0, 9, 15, 19⟩ : ExceptionTableEntry)] (htab.trans rfl) (fun _ h => nomatch h) (by decide) (by decide) (hts (.classLink RL 13 "java/lang/IllegalArgumentException") (by decide +kernel)) (va_Nw.use rfl (hKX.2.2.2 (.castable "java/lang/IllegalArgumentException" "java/lang/IllegalArgumentException") (by decide +kernel))) hce hcv hcl ?_
  have hP : va_P G.1 vwCl [(ou, zaL (G.2 0) 1 (fo))] H1 := (List.append_nil [(ou, zaL (G.2 0) 1 (fo))]) ▸ hP1
  have hD : va_D A [(ou, zaL (G.2 0) 1 (fo))] := (List.append_nil [(ou, zaL (G.2 0) 1 (fo))]) ▸ hD1
  have hS := hS1
  show W p l e rm_c_L_weigh_x s m ([.ref x, .int (iz (we)), .ref ou] : List Value).toArray below meth c H1 locs1 (0 + 1) (0 + 6) Q (F0 m 12 ls [.ref q9])
  refine lv_astore_n (lv' := [(3, .ref q9), (0, .ref x), (1, .int (iz (we))), (2, .ref ou)]) hx hb dL_weigh_12 rfl hl (by decide) rfl (fun ls hl => ?_)
  refine lv_iconst (v := iz (1)) hx hb dL_weigh_13 rfl ?_
  rw [hQ]
  exact zr_iret (z := 1) (u := ()) hx hb hr hlocks hP hD hS (by first | exact Nat.le_of_ble_eq_true rfl | omega) (by first | exact Nat.le_of_ble_eq_true rfl | omega) dL_weigh_14 (show 1 = 1 from rfl)

def rm_c_L_part_o : Room := { frames := 8, cells := 1, slots := 6, locals := 133 }
set_option maxHeartbeats 1000000 in
set_option maxRecDepth 100000 in
theorem c_L_part_o (l : Launch) (G : zG) (s1 : Nat) (s2 : Nat) (s3 : Nat) (x : Nat) (ro : Nat) (rw : Nat) (bo : Nat) (li : Nat) (sh : Nat) (tx : Nat) (lo : Nat) (nl : Nat) (wt : Nat) (mo : Int) (wh : Int) (ou : Nat) (fo : Int → Int) (hl0 : l.stackTraces = false) (h0 : -9223372036854775808 ≤ mo ∧ mo < 9223372036854775808) (h01 : -2147483648 ≤ wh ∧ wh < 2147483648) (h1 : 0 ≤ mo ∧ mo ≤ 1000000000000) : zMe l (zXL s1 s2 s3) G yL_part wsL_part rm_c_L_part_o [.ref x, .long (lz (mo)), .int (iz (wh)), .ref ou] [(x, .inr (10, [.ref ro, .ref rw, .ref bo, .ref li, .ref sh, .ref tx, .ref lo, .ref nl])), (sh, .inr (7, [.ref wt, .int (iz (0))])), (ou, zaL (G.2 0) 1 (fo))] (fun A => zQi G (fun (z : Int) (_ : Unit) => z = 2) (fun (_ : Unit) => [(ou, zaL (G.2 0) 1 (fo))]) A) 1 6 := by
  refine zMeW_of (cc := cL_part) (maxL := 6) (ret := (some .int)) (by decide) rfl (Nat.le_of_ble_eq_true rfl) ?_
  intro p e s m below meth c ls A Q hQ hx hb hr hts hown hlocks hml hnm htab hKX hE hP hD hA hS hl
  have hK := hKX.1
  obtain ⟨H, hH⟩ : ∃ h, h = s.heap := ⟨_, rfl⟩
  obtain ⟨locs, hlo⟩ : ∃ h : List Loc, h = [] := ⟨_, rfl⟩
  have hS : va_S A s.heap H locs := by rw [hH, hlo]; exact hS
  have hP : va_P G.1 vwCl [(x, .inr (10, [.ref ro, .ref rw, .ref bo, .ref li, .ref sh, .ref tx, .ref lo, .ref nl])), (sh, .inr (7, [.ref wt, .int (iz (0))])), (ou, zaL (G.2 0) 1 (fo))] H := by rw [hH]; exact hP
  have hD : va_D A [(x, .inr (10, [.ref ro, .ref rw, .ref bo, .ref li, .ref sh, .ref tx, .ref lo, .ref nl])), (sh, .inr (7, [.ref wt, .int (iz (0))])), (ou, zaL (G.2 0) 1 (fo))] := hD
  have hl : lv_has ls 6 [(0, .ref x), (1, .long (lz (mo))), (3, .int (iz (wh))), (4, .ref ou)] := hl
  rw [← hH, ← hlo]
  refine lv_aload hx hb dL_part_0 (lv_at hl 3 rfl) ?_
  refine lv_iconst (v := iz (0)) hx hb dL_part_2 rfl ?_
  refine lv_aload_n hx hb dL_part_3 rfl (lv_at hl 0 rfl) ?_
  refine lv_lload_n hx hb dL_part_4 rfl (lv_at hl 1 rfl) ?_
  refine lv_iload_n hx hb dL_part_5 rfl (lv_at hl 2 rfl) ?_
  refine zx_call (X := "java/util/NoSuchElementException") (AX := va_A [(x, .inr (10, [.ref ro, .ref rw, .ref bo, .ref li, .ref sh, .ref tx, .ref lo, .ref nl])), (sh, .inr (7, [.ref wt, .int (iz (0))]))] H.size) (fun _ _ _ h => h) (vx_runV (As := [.long (lz (mo)), .int (iz (wh))]) (rest := [.int (iz (0)), .ref ou]) ⟨hx, hb, hml, hown, hts⟩ (c_X9_part_o l G s1 s2 s3 x ro rw bo li sh tx lo nl wt mo wh hl0 (h0) (h01) (h1) H.size) (cwV 2 hts gL_part_X9_part rfl rfl rfl (by decide +kernel) ⟨Nat.le_of_ble_eq_true rfl, Nat.le_of_ble_eq_true rfl⟩) (zpVe zXE_ok hE.1 hS hA hKX hP hD [0, 1] rfl rfl (va_recv hK hP (ci := 10) (q0 := 0) rfl rfl)) rfl rfl hl.1 rfl (lv_room (Nat.le_of_ble_eq_true rfl)) dL_part_6 ⟨(by first | exact Nat.le_of_ble_eq_true rfl | (show _ ≤ (1 : Nat); omega)), (by first | exact Nat.le_of_ble_eq_true rfl | (show _ ≤ (6 : Nat); omega))⟩) hS (va_free (wc := [(x, .inr (10, [.ref ro, .ref rw, .ref bo, .ref li, .ref sh, .ref tx, .ref lo, .ref nl])), (sh, .inr (7, [.ref wt, .int (iz (0))]))]) hD hS hA [0, 1] rfl) (fun aq_ _ ah_ => (va_free (wc := [(x, .inr (10, [.ref ro, .ref rw, .ref bo, .ref li, .ref sh, .ref tx, .ref lo, .ref nl])), (sh, .inr (7, [.ref wt, .int (iz (0))]))]) hD hS hA [0, 1] rfl) aq_ ah_) (fun ce q9 H1 locs1 hsz9 hk9 hS1 hce hcv hcl => ?_)
  obtain ⟨hP1, hD1⟩ := va_join (wr := [(ou, zaL (G.2 0) 1 (fo))]) (w1 := []) hP hD [0, 1] [2] rfl rfl rfl (by decide) hk9 (va_free (wc := [(x, .inr (10, [.ref ro, .ref rw, .ref bo, .ref li, .ref sh, .ref tx, .ref lo, .ref nl])), (sh, .inr (7, [.ref wt, .int (iz (0))]))]) hD hS hA [0, 1] rfl) (fun k q h => by cases h) zD_nil
  refine vx_catch hown [(⟨0, 10, 13, 13⟩ : ExceptionTableEntry)] (⟨0, 10, 17, 66⟩ : ExceptionTableEntry) [] (htab.trans rfl) (List.forall_mem_cons.mpr ⟨Or.inr ⟨by decide, "java/lang/IllegalArgumentException", hts (.classLink RL 13 "java/lang/IllegalArgumentException") (by decide +kernel), hE.2.2.2⟩, (fun _ h => nomatch h)⟩) (by decide) (by decide) (hts (.classLink RL 66 "java/util/NoSuchElementException") (by decide +kernel)) (va_Nw.use rfl (hKX.2.2.2 (.castable "java/util/NoSuchElementException" "java/util/NoSuchElementException") (by decide +kernel))) hce hcv hcl ?_
  have hP : va_P G.1 vwCl [(ou, zaL (G.2 0) 1 (fo))] H1 := (List.append_nil [(ou, zaL (G.2 0) 1 (fo))]) ▸ hP1
  have hD : va_D A [(ou, zaL (G.2 0) 1 (fo))] := (List.append_nil [(ou, zaL (G.2 0) 1 (fo))]) ▸ hD1
  have hS := hS1
  show W p l e rm_c_L_part_o s m ([.ref x, .long (lz (mo)), .int (iz (wh)), .ref ou] : List Value).toArray below meth c H1 locs1 (0 + 1) (0 + 6) Q (F0 m 17 ls [.ref q9])
  refine lv_astore (lv' := [(5, .ref q9), (0, .ref x), (1, .long (lz (mo))), (3, .int (iz (wh))), (4, .ref ou)]) hx hb dL_part_17 hl (by decide) rfl (fun ls hl => ?_)
  refine lv_iconst (v := iz (2)) hx hb dL_part_19 rfl ?_
  rw [hQ]
  exact zr_iret (z := 2) (u := ()) hx hb hr hlocks hP hD hS (by first | exact Nat.le_of_ble_eq_true rfl | omega) (by first | exact Nat.le_of_ble_eq_true rfl | omega) dL_part_20 (show 2 = 2 from rfl)

def rm_c_L_part_x : Room := { frames := 8, cells := 1, slots := 6, locals := 133 }
set_option maxHeartbeats 1000000 in
set_option maxRecDepth 100000 in
theorem c_L_part_x (l : Launch) (G : zG) (s1 : Nat) (s2 : Nat) (s3 : Nat) (x : Nat) (ro : Nat) (rw : Nat) (bo : Nat) (li : Nat) (sh : Nat) (tx : Nat) (lo : Nat) (nl : Nat) (mo : Int) (wh : Int) (ou : Nat) (fo : Int → Int) (hl0 : l.stackTraces = false) (h0 : -9223372036854775808 ≤ mo ∧ mo < 9223372036854775808) (h01 : -2147483648 ≤ wh ∧ wh < 2147483648) (h1 : ¬ (0 ≤ mo ∧ mo ≤ 1000000000000)) : zMe l (zXL s1 s2 s3) G yL_part wsL_part rm_c_L_part_x [.ref x, .long (lz (mo)), .int (iz (wh)), .ref ou] [(x, .inr (10, [.ref ro, .ref rw, .ref bo, .ref li, .ref sh, .ref tx, .ref lo, .ref nl])), (ou, zaL (G.2 0) 1 (fo))] (fun A => zQi G (fun (z : Int) (_ : Unit) => z = 1) (fun (_ : Unit) => [(ou, zaL (G.2 0) 1 (fo))]) A) 1 6 := by
  refine zMeW_of (cc := cL_part) (maxL := 6) (ret := (some .int)) (by decide) rfl (Nat.le_of_ble_eq_true rfl) ?_
  intro p e s m below meth c ls A Q hQ hx hb hr hts hown hlocks hml hnm htab hKX hE hP hD hA hS hl
  have hK := hKX.1
  obtain ⟨H, hH⟩ : ∃ h, h = s.heap := ⟨_, rfl⟩
  obtain ⟨locs, hlo⟩ : ∃ h : List Loc, h = [] := ⟨_, rfl⟩
  have hS : va_S A s.heap H locs := by rw [hH, hlo]; exact hS
  have hP : va_P G.1 vwCl [(x, .inr (10, [.ref ro, .ref rw, .ref bo, .ref li, .ref sh, .ref tx, .ref lo, .ref nl])), (ou, zaL (G.2 0) 1 (fo))] H := by rw [hH]; exact hP
  have hD : va_D A [(x, .inr (10, [.ref ro, .ref rw, .ref bo, .ref li, .ref sh, .ref tx, .ref lo, .ref nl])), (ou, zaL (G.2 0) 1 (fo))] := hD
  have hl : lv_has ls 6 [(0, .ref x), (1, .long (lz (mo))), (3, .int (iz (wh))), (4, .ref ou)] := hl
  rw [← hH, ← hlo]
  refine lv_aload hx hb dL_part_0 (lv_at hl 3 rfl) ?_
  refine lv_iconst (v := iz (0)) hx hb dL_part_2 rfl ?_
  refine lv_aload_n hx hb dL_part_3 rfl (lv_at hl 0 rfl) ?_
  refine lv_lload_n hx hb dL_part_4 rfl (lv_at hl 1 rfl) ?_
  refine lv_iload_n hx hb dL_part_5 rfl (lv_at hl 2 rfl) ?_
  refine zx_call (X := "java/lang/IllegalArgumentException") (AX := va_A [(x, .inr (10, [.ref ro, .ref rw, .ref bo, .ref li, .ref sh, .ref tx, .ref lo, .ref nl]))] H.size) (fun _ _ _ h => h) (vx_runV (As := [.long (lz (mo)), .int (iz (wh))]) (rest := [.int (iz (0)), .ref ou]) ⟨hx, hb, hml, hown, hts⟩ (c_X9_part_x l G s1 s2 s3 x ro rw bo li sh tx lo nl mo wh hl0 (h0) (h01) (h1) H.size) (cwV 2 hts gL_part_X9_part rfl rfl rfl (by decide +kernel) ⟨Nat.le_of_ble_eq_true rfl, Nat.le_of_ble_eq_true rfl⟩) (zpVe zXE_ok hE.1 hS hA hKX hP hD [0] rfl rfl (va_recv hK hP (ci := 10) (q0 := 0) rfl rfl)) rfl rfl hl.1 rfl (lv_room (Nat.le_of_ble_eq_true rfl)) dL_part_6 ⟨(by first | exact Nat.le_of_ble_eq_true rfl | (show _ ≤ (1 : Nat); omega)), (by first | exact Nat.le_of_ble_eq_true rfl | (show _ ≤ (6 : Nat); omega))⟩) hS (va_free (wc := [(x, .inr (10, [.ref ro, .ref rw, .ref bo, .ref li, .ref sh, .ref tx, .ref lo, .ref nl]))]) hD hS hA [0] rfl) (fun aq_ _ ah_ => (va_free (wc := [(x, .inr (10, [.ref ro, .ref rw, .ref bo, .ref li, .ref sh, .ref tx, .ref lo, .ref nl]))]) hD hS hA [0] rfl) aq_ ah_) (fun ce q9 H1 locs1 hsz9 hk9 hS1 hce hcv hcl => ?_)
  obtain ⟨hP1, hD1⟩ := va_join (wr := [(ou, zaL (G.2 0) 1 (fo))]) (w1 := []) hP hD [0] [1] rfl rfl rfl (by decide) hk9 (va_free (wc := [(x, .inr (10, [.ref ro, .ref rw, .ref bo, .ref li, .ref sh, .ref tx, .ref lo, .ref nl]))]) hD hS hA [0] rfl) (fun k q h => by cases h) zD_nil
  refine vx_catch hown [] (⟨0, 10, 13, 13⟩ : ExceptionTableEntry) [(⟨0, 10, 17, 66⟩ : ExceptionTableEntry)] (htab.trans rfl) (fun _ h => nomatch h) (by decide) (by decide) (hts (.classLink RL 13 "java/lang/IllegalArgumentException") (by decide +kernel)) (va_Nw.use rfl (hKX.2.2.2 (.castable "java/lang/IllegalArgumentException" "java/lang/IllegalArgumentException") (by decide +kernel))) hce hcv hcl ?_
  have hP : va_P G.1 vwCl [(ou, zaL (G.2 0) 1 (fo))] H1 := (List.append_nil [(ou, zaL (G.2 0) 1 (fo))]) ▸ hP1
  have hD : va_D A [(ou, zaL (G.2 0) 1 (fo))] := (List.append_nil [(ou, zaL (G.2 0) 1 (fo))]) ▸ hD1
  have hS := hS1
  show W p l e rm_c_L_part_x s m ([.ref x, .long (lz (mo)), .int (iz (wh)), .ref ou] : List Value).toArray below meth c H1 locs1 (0 + 1) (0 + 6) Q (F0 m 13 ls [.ref q9])
  refine lv_astore (lv' := [(5, .ref q9), (0, .ref x), (1, .long (lz (mo))), (3, .int (iz (wh))), (4, .ref ou)]) hx hb dL_part_13 hl (by decide) rfl (fun ls hl => ?_)
  refine lv_iconst (v := iz (1)) hx hb dL_part_15 rfl ?_
  rw [hQ]
  exact zr_iret (z := 1) (u := ()) hx hb hr hlocks hP hD hS (by first | exact Nat.le_of_ble_eq_true rfl | omega) (by first | exact Nat.le_of_ble_eq_true rfl | omega) dL_part_16 (show 1 = 1 from rfl)

def rm_c_L_step_o : Room := { frames := 2, cells := 0, slots := 0, locals := 48 }
set_option maxHeartbeats 1000000 in
set_option maxRecDepth 100000 in
theorem c_L_step_o (l : Launch) (G : zG) (x : Nat) (ro : Nat) (rw : Nat) (bo : Nat) (li : Nat) (sh : Nat) (tx : Nat) (lo : Nat) (nl : Nat) (fm : Nat) (pm : Nat) (fr : Int) (pl : Int) (ou : Nat) (fo : Int → Int) (h0 : -9223372036854775808 ≤ fr ∧ fr < 9223372036854775808) (h01 : -2147483648 ≤ pl ∧ pl < 2147483648) (h1 : 0 ≤ fr ∧ fr ≤ 1000000000 ∧ 0 ≤ pl ∧ pl ≤ 1000) : zM l G yL_step wsL_step rm_c_L_step_o [.ref x, .long (lz (fr)), .int (iz (pl)), .ref ou] [(x, .inr (10, [.ref ro, .ref rw, .ref bo, .ref li, .ref sh, .ref tx, .ref lo, .ref nl])), (tx, .inr (8, [.ref fm, .ref pm, .int (iz (0))])), (fm, zaL (G.2 0) 8 (fun _ => 0)), (pm, zaI (G.2 1) 8 (fun _ => 0)), (ou, zaL (G.2 0) 1 (fo))] (fun A => zQi G (fun (z : Int) (f2 : (Int → Int)) => z = 0 ∧ (f2 0) = 1) (fun (f2 : (Int → Int)) => [(ou, zaL (G.2 0) 1 (f2))]) A) 0 0 := by
  refine zMW_of (cc := cL_step) (maxL := 6) (ret := (some .int)) (by decide) rfl (Nat.le_of_ble_eq_true rfl) ?_
  intro p e s m below meth c ls A Q hQ hx hb hr hts hown hlocks hml hnm hKX hP hD hA hS hl
  have hK := hKX.1
  obtain ⟨H, hH⟩ : ∃ h, h = s.heap := ⟨_, rfl⟩
  obtain ⟨locs, hlo⟩ : ∃ h : List Loc, h = [] := ⟨_, rfl⟩
  have hS : va_S A s.heap H locs := by rw [hH, hlo]; exact hS
  have hP : va_P G.1 vwCl [(x, .inr (10, [.ref ro, .ref rw, .ref bo, .ref li, .ref sh, .ref tx, .ref lo, .ref nl])), (tx, .inr (8, [.ref fm, .ref pm, .int (iz (0))])), (fm, zaL (G.2 0) 8 (fun _ => 0)), (pm, zaI (G.2 1) 8 (fun _ => 0)), (ou, zaL (G.2 0) 1 (fo))] H := by rw [hH]; exact hP
  have hD : va_D A [(x, .inr (10, [.ref ro, .ref rw, .ref bo, .ref li, .ref sh, .ref tx, .ref lo, .ref nl])), (tx, .inr (8, [.ref fm, .ref pm, .int (iz (0))])), (fm, zaL (G.2 0) 8 (fun _ => 0)), (pm, zaI (G.2 1) 8 (fun _ => 0)), (ou, zaL (G.2 0) 1 (fo))] := hD
  have hl : lv_has ls 6 [(0, .ref x), (1, .long (lz (fr))), (3, .int (iz (pl))), (4, .ref ou)] := hl
  rw [← hH, ← hlo]
  refine lv_aload hx hb dL_step_0 (lv_at hl 3 rfl) ?_
  refine lv_iconst (v := iz (0)) hx hb dL_step_2 rfl ?_
  refine lv_aload_n hx hb dL_step_3 rfl (lv_at hl 0 rfl) ?_
  refine lv_lload_n hx hb dL_step_4 rfl (lv_at hl 1 rfl) ?_
  refine lv_iload_n hx hb dL_step_5 rfl (lv_at hl 2 rfl) ?_
  refine zc_i (wr := [(ou, zaL (G.2 0) 1 (fo))]) (va_runV (As := [.long (lz (fr)), .int (iz (pl))]) (rest := [.int (iz (0)), .ref ou]) ⟨hx, hb, hml, hown, hts⟩ (c_X9_step_o l G x ro rw bo li sh tx lo nl fm pm fr pl (h0) (h01) (h1) H.size) (cwV 2 hts gL_step_X9_step rfl rfl rfl (by decide +kernel) ⟨Nat.le_of_ble_eq_true rfl, Nat.le_of_ble_eq_true rfl⟩) (zpV hKX hP hD [0, 1, 2, 3] rfl rfl 0 10 rfl rfl) rfl rfl hl.1 rfl (lv_room (Nat.le_of_ble_eq_true rfl)) dL_step_6 ⟨(by first | exact Nat.le_of_ble_eq_true rfl | (show _ ≤ (0 : Nat); omega)), (by first | exact Nat.le_of_ble_eq_true rfl | (show _ ≤ (0 : Nat); omega))⟩) hP hD hS hA [0, 1, 2, 3] [4] rfl rfl rfl (by decide) (fun zz u_1 H locs hz hP hD hS => ?_)
  obtain ⟨u0_, u1_⟩ := u_1
  have hP : va_P G.1 vwCl [(ou, zaL (G.2 0) 1 (fo)), (x, .inr (10, [.ref ro, .ref rw, .ref bo, .ref li, .ref sh, .ref tx, .ref lo, .ref nl])), (tx, .inr (8, [.ref fm, .ref pm, .int (iz (0 + 1))])), (fm, zaL (G.2 0) 8 (u0_)), (pm, zaI (G.2 1) 8 (u1_))] H := hP
  have hD : va_D A [(ou, zaL (G.2 0) 1 (fo)), (x, .inr (10, [.ref ro, .ref rw, .ref bo, .ref li, .ref sh, .ref tx, .ref lo, .ref nl])), (tx, .inr (8, [.ref fm, .ref pm, .int (iz (0 + 1))])), (fm, zaL (G.2 0) 8 (u0_)), (pm, zaI (G.2 1) 8 (u1_))] := hD
  have hz : zz = 1 := hz
  refine zr_i2l hx hb (x := zz) (⟨by omega, by omega⟩) dL_step_9 ?_
  refine zr_last hx hb hK hP hD hS 0 0 rfl rfl (i := 0) (x := zz) (⟨by omega, by omega, by omega⟩) dL_step_10 (fun H locs hP hD hS => ?_)
  have hP : va_P G.1 vwCl [(ou, zaL (G.2 0) 1 (zup fo 0 zz)), (x, .inr (10, [.ref ro, .ref rw, .ref bo, .ref li, .ref sh, .ref tx, .ref lo, .ref nl])), (tx, .inr (8, [.ref fm, .ref pm, .int (iz (0 + 1))])), (fm, zaL (G.2 0) 8 (u0_)), (pm, zaI (G.2 1) 8 (u1_))] H := hP
  have hD : va_D A [(ou, zaL (G.2 0) 1 (zup fo 0 zz)), (x, .inr (10, [.ref ro, .ref rw, .ref bo, .ref li, .ref sh, .ref tx, .ref lo, .ref nl])), (tx, .inr (8, [.ref fm, .ref pm, .int (iz (0 + 1))])), (fm, zaL (G.2 0) 8 (u0_)), (pm, zaI (G.2 1) 8 (u1_))] := hD
  refine lv_goto (tgt := 22) hx hb dL_step_11 (by decide) ?_
  refine lv_iconst (v := iz (0)) hx hb dL_step_22 rfl ?_
  rw [hQ]
  exact zr_iret (z := 0) (u := (zup fo 0 zz)) hx hb hr hlocks (hP.sub [0] rfl) (hD.sub [0] (by decide) rfl) hS (by first | exact Nat.le_of_ble_eq_true rfl | omega) (by first | exact Nat.le_of_ble_eq_true rfl | omega) dL_step_23 (show 0 = 0 ∧ ((zup fo 0 zz) 0) = 1 from ⟨rfl, by rw [zup_s]; exact hz⟩)

def rm_c_L_step_x : Room := { frames := 8, cells := 1, slots := 6, locals := 133 }
set_option maxHeartbeats 1000000 in
set_option maxRecDepth 100000 in
theorem c_L_step_x (l : Launch) (G : zG) (s1 : Nat) (s2 : Nat) (s3 : Nat) (x : Nat) (ro : Nat) (rw : Nat) (bo : Nat) (li : Nat) (sh : Nat) (tx : Nat) (lo : Nat) (nl : Nat) (fm : Nat) (pm : Nat) (fr : Int) (pl : Int) (ou : Nat) (fo : Int → Int) (hl0 : l.stackTraces = false) (h0 : -9223372036854775808 ≤ fr ∧ fr < 9223372036854775808) (h01 : -2147483648 ≤ pl ∧ pl < 2147483648) (h1 : ¬ (0 ≤ fr ∧ fr ≤ 1000000000 ∧ 0 ≤ pl ∧ pl ≤ 1000)) : zMe l (zXL s1 s2 s3) G yL_step wsL_step rm_c_L_step_x [.ref x, .long (lz (fr)), .int (iz (pl)), .ref ou] [(x, .inr (10, [.ref ro, .ref rw, .ref bo, .ref li, .ref sh, .ref tx, .ref lo, .ref nl])), (tx, .inr (8, [.ref fm, .ref pm, .int (iz (0))])), (ou, zaL (G.2 0) 1 (fo))] (fun A => zQi G (fun (z : Int) (_ : Unit) => z = 1) (fun (_ : Unit) => [(ou, zaL (G.2 0) 1 (fo))]) A) 1 6 := by
  refine zMeW_of (cc := cL_step) (maxL := 6) (ret := (some .int)) (by decide) rfl (Nat.le_of_ble_eq_true rfl) ?_
  intro p e s m below meth c ls A Q hQ hx hb hr hts hown hlocks hml hnm htab hKX hE hP hD hA hS hl
  have hK := hKX.1
  obtain ⟨H, hH⟩ : ∃ h, h = s.heap := ⟨_, rfl⟩
  obtain ⟨locs, hlo⟩ : ∃ h : List Loc, h = [] := ⟨_, rfl⟩
  have hS : va_S A s.heap H locs := by rw [hH, hlo]; exact hS
  have hP : va_P G.1 vwCl [(x, .inr (10, [.ref ro, .ref rw, .ref bo, .ref li, .ref sh, .ref tx, .ref lo, .ref nl])), (tx, .inr (8, [.ref fm, .ref pm, .int (iz (0))])), (ou, zaL (G.2 0) 1 (fo))] H := by rw [hH]; exact hP
  have hD : va_D A [(x, .inr (10, [.ref ro, .ref rw, .ref bo, .ref li, .ref sh, .ref tx, .ref lo, .ref nl])), (tx, .inr (8, [.ref fm, .ref pm, .int (iz (0))])), (ou, zaL (G.2 0) 1 (fo))] := hD
  have hl : lv_has ls 6 [(0, .ref x), (1, .long (lz (fr))), (3, .int (iz (pl))), (4, .ref ou)] := hl
  rw [← hH, ← hlo]
  refine lv_aload hx hb dL_step_0 (lv_at hl 3 rfl) ?_
  refine lv_iconst (v := iz (0)) hx hb dL_step_2 rfl ?_
  refine lv_aload_n hx hb dL_step_3 rfl (lv_at hl 0 rfl) ?_
  refine lv_lload_n hx hb dL_step_4 rfl (lv_at hl 1 rfl) ?_
  refine lv_iload_n hx hb dL_step_5 rfl (lv_at hl 2 rfl) ?_
  refine zx_call (X := "java/lang/IllegalArgumentException") (AX := va_A [(x, .inr (10, [.ref ro, .ref rw, .ref bo, .ref li, .ref sh, .ref tx, .ref lo, .ref nl])), (tx, .inr (8, [.ref fm, .ref pm, .int (iz (0))]))] H.size) (fun _ _ _ h => h) (vx_runV (As := [.long (lz (fr)), .int (iz (pl))]) (rest := [.int (iz (0)), .ref ou]) ⟨hx, hb, hml, hown, hts⟩ (c_X9_step_x l G s1 s2 s3 x ro rw bo li sh tx lo nl fm pm fr pl hl0 (h0) (h01) (h1) H.size) (cwV 2 hts gL_step_X9_step rfl rfl rfl (by decide +kernel) ⟨Nat.le_of_ble_eq_true rfl, Nat.le_of_ble_eq_true rfl⟩) (zpVe zXE_ok hE.1 hS hA hKX hP hD [0, 1] rfl rfl (va_recv hK hP (ci := 10) (q0 := 0) rfl rfl)) rfl rfl hl.1 rfl (lv_room (Nat.le_of_ble_eq_true rfl)) dL_step_6 ⟨(by first | exact Nat.le_of_ble_eq_true rfl | (show _ ≤ (1 : Nat); omega)), (by first | exact Nat.le_of_ble_eq_true rfl | (show _ ≤ (6 : Nat); omega))⟩) hS (va_free (wc := [(x, .inr (10, [.ref ro, .ref rw, .ref bo, .ref li, .ref sh, .ref tx, .ref lo, .ref nl])), (tx, .inr (8, [.ref fm, .ref pm, .int (iz (0))]))]) hD hS hA [0, 1] rfl) (fun aq_ _ ah_ => (va_free (wc := [(x, .inr (10, [.ref ro, .ref rw, .ref bo, .ref li, .ref sh, .ref tx, .ref lo, .ref nl])), (tx, .inr (8, [.ref fm, .ref pm, .int (iz (0))]))]) hD hS hA [0, 1] rfl) aq_ ah_) (fun ce q9 H1 locs1 hsz9 hk9 hS1 hce hcv hcl => ?_)
  obtain ⟨hP1, hD1⟩ := va_join (wr := [(ou, zaL (G.2 0) 1 (fo))]) (w1 := []) hP hD [0, 1] [2] rfl rfl rfl (by decide) hk9 (va_free (wc := [(x, .inr (10, [.ref ro, .ref rw, .ref bo, .ref li, .ref sh, .ref tx, .ref lo, .ref nl])), (tx, .inr (8, [.ref fm, .ref pm, .int (iz (0))]))]) hD hS hA [0, 1] rfl) (fun k q h => by cases h) zD_nil
  refine vx_catch hown [] (⟨0, 11, 14, 13⟩ : ExceptionTableEntry) [(⟨0, 11, 18, 19⟩ : ExceptionTableEntry)] (htab.trans rfl) (fun _ h => nomatch h) (by decide) (by decide) (hts (.classLink RL 13 "java/lang/IllegalArgumentException") (by decide +kernel)) (va_Nw.use rfl (hKX.2.2.2 (.castable "java/lang/IllegalArgumentException" "java/lang/IllegalArgumentException") (by decide +kernel))) hce hcv hcl ?_
  have hP : va_P G.1 vwCl [(ou, zaL (G.2 0) 1 (fo))] H1 := (List.append_nil [(ou, zaL (G.2 0) 1 (fo))]) ▸ hP1
  have hD : va_D A [(ou, zaL (G.2 0) 1 (fo))] := (List.append_nil [(ou, zaL (G.2 0) 1 (fo))]) ▸ hD1
  have hS := hS1
  show W p l e rm_c_L_step_x s m ([.ref x, .long (lz (fr)), .int (iz (pl)), .ref ou] : List Value).toArray below meth c H1 locs1 (0 + 1) (0 + 6) Q (F0 m 14 ls [.ref q9])
  refine lv_astore (lv' := [(5, .ref q9), (0, .ref x), (1, .long (lz (fr))), (3, .int (iz (pl))), (4, .ref ou)]) hx hb dL_step_14 hl (by decide) rfl (fun ls hl => ?_)
  refine lv_iconst (v := iz (1)) hx hb dL_step_16 rfl ?_
  rw [hQ]
  exact zr_iret (z := 1) (u := ()) hx hb hr hlocks hP hD hS (by first | exact Nat.le_of_ble_eq_true rfl | omega) (by first | exact Nat.le_of_ble_eq_true rfl | omega) dL_step_17 (show 1 = 1 from rfl)

def rm_c_L_tax_o : Room := { frames := 4, cells := 0, slots := 0, locals := 101 }
set_option maxHeartbeats 1000000 in
set_option maxRecDepth 100000 in
theorem c_L_tax_o (l : Launch) (G : zG) (x : Nat) (ro : Nat) (rw : Nat) (bo : Nat) (li : Nat) (sh : Nat) (tx : Nat) (lo : Nat) (nl : Nat) (fm : Nat) (pm : Nat) (mo : Int) (ou : Nat) (fo : Int → Int) (h0 : -9223372036854775808 ≤ mo ∧ mo < 9223372036854775808) (h1 : 0 ≤ mo ∧ mo ≤ 1000000000000) : zM l G yL_tax wsL_tax rm_c_L_tax_o [.ref x, .long (lz (mo)), .ref ou] [(x, .inr (10, [.ref ro, .ref rw, .ref bo, .ref li, .ref sh, .ref tx, .ref lo, .ref nl])), (tx, .inr (8, [.ref fm, .ref pm, .int (iz (0))])), (ro, .inr (5, [.int (iz (6))])), (ou, zaL (G.2 0) 1 (fo))] (fun A => zQi G (fun (z : Int) (f2 : (Int → Int)) => z = 0 ∧ (f2 0) = 0) (fun (f2 : (Int → Int)) => [(ou, zaL (G.2 0) 1 (f2))]) A) 0 0 := by
  refine zMW_of (cc := cL_tax) (maxL := 5) (ret := (some .int)) (by decide) rfl (Nat.le_of_ble_eq_true rfl) ?_
  intro p e s m below meth c ls A Q hQ hx hb hr hts hown hlocks hml hnm hKX hP hD hA hS hl
  have hK := hKX.1
  obtain ⟨H, hH⟩ : ∃ h, h = s.heap := ⟨_, rfl⟩
  obtain ⟨locs, hlo⟩ : ∃ h : List Loc, h = [] := ⟨_, rfl⟩
  have hS : va_S A s.heap H locs := by rw [hH, hlo]; exact hS
  have hP : va_P G.1 vwCl [(x, .inr (10, [.ref ro, .ref rw, .ref bo, .ref li, .ref sh, .ref tx, .ref lo, .ref nl])), (tx, .inr (8, [.ref fm, .ref pm, .int (iz (0))])), (ro, .inr (5, [.int (iz (6))])), (ou, zaL (G.2 0) 1 (fo))] H := by rw [hH]; exact hP
  have hD : va_D A [(x, .inr (10, [.ref ro, .ref rw, .ref bo, .ref li, .ref sh, .ref tx, .ref lo, .ref nl])), (tx, .inr (8, [.ref fm, .ref pm, .int (iz (0))])), (ro, .inr (5, [.int (iz (6))])), (ou, zaL (G.2 0) 1 (fo))] := hD
  have hl : lv_has ls 5 [(0, .ref x), (1, .long (lz (mo))), (3, .ref ou)] := hl
  rw [← hH, ← hlo]
  refine lv_aload_n hx hb dL_tax_0 rfl (lv_at hl 2 rfl) ?_
  refine lv_iconst (v := iz (0)) hx hb dL_tax_1 rfl ?_
  refine lv_aload_n hx hb dL_tax_2 rfl (lv_at hl 0 rfl) ?_
  refine lv_lload_n hx hb dL_tax_3 rfl (lv_at hl 1 rfl) ?_
  refine zc_l (wr := [(ou, zaL (G.2 0) 1 (fo))]) (va_runV (As := [.long (lz (mo))]) (rest := [.int (iz (0)), .ref ou]) ⟨hx, hb, hml, hown, hts⟩ (c_X9_tax_o l G x ro rw bo li sh tx lo nl fm pm mo (h0) (h1) H.size) (cwV 1 hts gL_tax_X9_tax rfl rfl rfl (by decide +kernel) ⟨Nat.le_of_ble_eq_true rfl, Nat.le_of_ble_eq_true rfl⟩) (zpV hKX hP hD [0, 1, 2] rfl rfl 0 10 rfl rfl) rfl rfl hl.1 rfl (lv_room (Nat.le_of_ble_eq_true rfl)) dL_tax_4 ⟨(by first | exact Nat.le_of_ble_eq_true rfl | (show _ ≤ (0 : Nat); omega)), (by first | exact Nat.le_of_ble_eq_true rfl | (show _ ≤ (0 : Nat); omega))⟩) hP hD hS hA [0, 1, 2] [3] rfl rfl rfl (by decide) (fun zz u_1 H locs hz hP hD hS => ?_)
  have hP : va_P G.1 vwCl [(ou, zaL (G.2 0) 1 (fo)), (x, .inr (10, [.ref ro, .ref rw, .ref bo, .ref li, .ref sh, .ref tx, .ref lo, .ref nl])), (tx, .inr (8, [.ref fm, .ref pm, .int (iz (0))])), (ro, .inr (5, [.int (iz (6))]))] H := hP
  have hD : va_D A [(ou, zaL (G.2 0) 1 (fo)), (x, .inr (10, [.ref ro, .ref rw, .ref bo, .ref li, .ref sh, .ref tx, .ref lo, .ref nl])), (tx, .inr (8, [.ref fm, .ref pm, .int (iz (0))])), (ro, .inr (5, [.int (iz (6))]))] := hD
  have hz : zz = 0 := hz
  refine zr_last hx hb hK hP hD hS 0 0 rfl rfl (i := 0) (x := zz) (⟨by omega, by omega, by omega⟩) dL_tax_7 (fun H locs hP hD hS => ?_)
  have hP : va_P G.1 vwCl [(ou, zaL (G.2 0) 1 (zup fo 0 zz)), (x, .inr (10, [.ref ro, .ref rw, .ref bo, .ref li, .ref sh, .ref tx, .ref lo, .ref nl])), (tx, .inr (8, [.ref fm, .ref pm, .int (iz (0))])), (ro, .inr (5, [.int (iz (6))]))] H := hP
  have hD : va_D A [(ou, zaL (G.2 0) 1 (zup fo 0 zz)), (x, .inr (10, [.ref ro, .ref rw, .ref bo, .ref li, .ref sh, .ref tx, .ref lo, .ref nl])), (tx, .inr (8, [.ref fm, .ref pm, .int (iz (0))])), (ro, .inr (5, [.int (iz (6))]))] := hD
  refine lv_goto (tgt := 19) hx hb dL_tax_8 (by decide) ?_
  refine lv_iconst (v := iz (0)) hx hb dL_tax_19 rfl ?_
  rw [hQ]
  exact zr_iret (z := 0) (u := (zup fo 0 zz)) hx hb hr hlocks (hP.sub [0] rfl) (hD.sub [0] (by decide) rfl) hS (by first | exact Nat.le_of_ble_eq_true rfl | omega) (by first | exact Nat.le_of_ble_eq_true rfl | omega) dL_tax_20 (show 0 = 0 ∧ ((zup fo 0 zz) 0) = 0 from ⟨rfl, by rw [zup_s]; exact hz⟩)

def rm_c_L_tax_x : Room := { frames := 8, cells := 1, slots := 6, locals := 132 }
set_option maxHeartbeats 1000000 in
set_option maxRecDepth 100000 in
theorem c_L_tax_x (l : Launch) (G : zG) (s1 : Nat) (s2 : Nat) (s3 : Nat) (x : Nat) (ro : Nat) (rw : Nat) (bo : Nat) (li : Nat) (sh : Nat) (tx : Nat) (lo : Nat) (nl : Nat) (mo : Int) (ou : Nat) (fo : Int → Int) (hl0 : l.stackTraces = false) (h0 : -9223372036854775808 ≤ mo ∧ mo < 9223372036854775808) (h1 : ¬ (0 ≤ mo ∧ mo ≤ 1000000000000)) : zMe l (zXL s1 s2 s3) G yL_tax wsL_tax rm_c_L_tax_x [.ref x, .long (lz (mo)), .ref ou] [(x, .inr (10, [.ref ro, .ref rw, .ref bo, .ref li, .ref sh, .ref tx, .ref lo, .ref nl])), (ou, zaL (G.2 0) 1 (fo))] (fun A => zQi G (fun (z : Int) (_ : Unit) => z = 1) (fun (_ : Unit) => [(ou, zaL (G.2 0) 1 (fo))]) A) 1 6 := by
  refine zMeW_of (cc := cL_tax) (maxL := 5) (ret := (some .int)) (by decide) rfl (Nat.le_of_ble_eq_true rfl) ?_
  intro p e s m below meth c ls A Q hQ hx hb hr hts hown hlocks hml hnm htab hKX hE hP hD hA hS hl
  have hK := hKX.1
  obtain ⟨H, hH⟩ : ∃ h, h = s.heap := ⟨_, rfl⟩
  obtain ⟨locs, hlo⟩ : ∃ h : List Loc, h = [] := ⟨_, rfl⟩
  have hS : va_S A s.heap H locs := by rw [hH, hlo]; exact hS
  have hP : va_P G.1 vwCl [(x, .inr (10, [.ref ro, .ref rw, .ref bo, .ref li, .ref sh, .ref tx, .ref lo, .ref nl])), (ou, zaL (G.2 0) 1 (fo))] H := by rw [hH]; exact hP
  have hD : va_D A [(x, .inr (10, [.ref ro, .ref rw, .ref bo, .ref li, .ref sh, .ref tx, .ref lo, .ref nl])), (ou, zaL (G.2 0) 1 (fo))] := hD
  have hl : lv_has ls 5 [(0, .ref x), (1, .long (lz (mo))), (3, .ref ou)] := hl
  rw [← hH, ← hlo]
  refine lv_aload_n hx hb dL_tax_0 rfl (lv_at hl 2 rfl) ?_
  refine lv_iconst (v := iz (0)) hx hb dL_tax_1 rfl ?_
  refine lv_aload_n hx hb dL_tax_2 rfl (lv_at hl 0 rfl) ?_
  refine lv_lload_n hx hb dL_tax_3 rfl (lv_at hl 1 rfl) ?_
  refine zx_call (X := "java/lang/IllegalArgumentException") (AX := va_A [(x, .inr (10, [.ref ro, .ref rw, .ref bo, .ref li, .ref sh, .ref tx, .ref lo, .ref nl]))] H.size) (fun _ _ _ h => h) (vx_runV (As := [.long (lz (mo))]) (rest := [.int (iz (0)), .ref ou]) ⟨hx, hb, hml, hown, hts⟩ (c_X9_tax_x l G s1 s2 s3 x ro rw bo li sh tx lo nl mo hl0 (h0) (h1) H.size) (cwV 1 hts gL_tax_X9_tax rfl rfl rfl (by decide +kernel) ⟨Nat.le_of_ble_eq_true rfl, Nat.le_of_ble_eq_true rfl⟩) (zpVe zXE_ok hE.1 hS hA hKX hP hD [0] rfl rfl (va_recv hK hP (ci := 10) (q0 := 0) rfl rfl)) rfl rfl hl.1 rfl (lv_room (Nat.le_of_ble_eq_true rfl)) dL_tax_4 ⟨(by first | exact Nat.le_of_ble_eq_true rfl | (show _ ≤ (1 : Nat); omega)), (by first | exact Nat.le_of_ble_eq_true rfl | (show _ ≤ (6 : Nat); omega))⟩) hS (va_free (wc := [(x, .inr (10, [.ref ro, .ref rw, .ref bo, .ref li, .ref sh, .ref tx, .ref lo, .ref nl]))]) hD hS hA [0] rfl) (fun aq_ _ ah_ => (va_free (wc := [(x, .inr (10, [.ref ro, .ref rw, .ref bo, .ref li, .ref sh, .ref tx, .ref lo, .ref nl]))]) hD hS hA [0] rfl) aq_ ah_) (fun ce q9 H1 locs1 hsz9 hk9 hS1 hce hcv hcl => ?_)
  obtain ⟨hP1, hD1⟩ := va_join (wr := [(ou, zaL (G.2 0) 1 (fo))]) (w1 := []) hP hD [0] [1] rfl rfl rfl (by decide) hk9 (va_free (wc := [(x, .inr (10, [.ref ro, .ref rw, .ref bo, .ref li, .ref sh, .ref tx, .ref lo, .ref nl]))]) hD hS hA [0] rfl) (fun k q h => by cases h) zD_nil
  refine vx_catch hown [] (⟨0, 8, 11, 13⟩ : ExceptionTableEntry) [(⟨0, 8, 15, 19⟩ : ExceptionTableEntry)] (htab.trans rfl) (fun _ h => nomatch h) (by decide) (by decide) (hts (.classLink RL 13 "java/lang/IllegalArgumentException") (by decide +kernel)) (va_Nw.use rfl (hKX.2.2.2 (.castable "java/lang/IllegalArgumentException" "java/lang/IllegalArgumentException") (by decide +kernel))) hce hcv hcl ?_
  have hP : va_P G.1 vwCl [(ou, zaL (G.2 0) 1 (fo))] H1 := (List.append_nil [(ou, zaL (G.2 0) 1 (fo))]) ▸ hP1
  have hD : va_D A [(ou, zaL (G.2 0) 1 (fo))] := (List.append_nil [(ou, zaL (G.2 0) 1 (fo))]) ▸ hD1
  have hS := hS1
  show W p l e rm_c_L_tax_x s m ([.ref x, .long (lz (mo)), .ref ou] : List Value).toArray below meth c H1 locs1 (0 + 1) (0 + 6) Q (F0 m 11 ls [.ref q9])
  refine lv_astore (lv' := [(4, .ref q9), (0, .ref x), (1, .long (lz (mo))), (3, .ref ou)]) hx hb dL_tax_11 hl (by decide) rfl (fun ls hl => ?_)
  refine lv_iconst (v := iz (1)) hx hb dL_tax_13 rfl ?_
  rw [hQ]
  exact zr_iret (z := 1) (u := ()) hx hb hr hlocks hP hD hS (by first | exact Nat.le_of_ble_eq_true rfl | omega) (by first | exact Nat.le_of_ble_eq_true rfl | omega) dL_tax_14 (show 1 = 1 from rfl)

def rm_c_L_untaxed_o : Room := { frames := 4, cells := 0, slots := 0, locals := 102 }
set_option maxHeartbeats 1000000 in
set_option maxRecDepth 100000 in
theorem c_L_untaxed_o (l : Launch) (G : zG) (x : Nat) (ro : Nat) (rw : Nat) (bo : Nat) (li : Nat) (sh : Nat) (tx : Nat) (lo : Nat) (nl : Nat) (fm : Nat) (pm : Nat) (mo : Int) (ou : Nat) (fo : Int → Int) (h0 : -9223372036854775808 ≤ mo ∧ mo < 9223372036854775808) (h1 : 0 ≤ mo ∧ mo ≤ 1000000000) : zM l G yL_untaxed wsL_untaxed rm_c_L_untaxed_o [.ref x, .long (lz (mo)), .ref ou] [(x, .inr (10, [.ref ro, .ref rw, .ref bo, .ref li, .ref sh, .ref tx, .ref lo, .ref nl])), (tx, .inr (8, [.ref fm, .ref pm, .int (iz (0))])), (ou, zaL (G.2 0) 1 (fo))] (fun A => zQi G (fun (z : Int) (f2 : (Int → Int)) => z = 0 ∧ (f2 0) = mo) (fun (f2 : (Int → Int)) => [(ou, zaL (G.2 0) 1 (f2))]) A) 0 0 := by
  refine zMW_of (cc := cL_untaxed) (maxL := 5) (ret := (some .int)) (by decide) rfl (Nat.le_of_ble_eq_true rfl) ?_
  intro p e s m below meth c ls A Q hQ hx hb hr hts hown hlocks hml hnm hKX hP hD hA hS hl
  have hK := hKX.1
  obtain ⟨H, hH⟩ : ∃ h, h = s.heap := ⟨_, rfl⟩
  obtain ⟨locs, hlo⟩ : ∃ h : List Loc, h = [] := ⟨_, rfl⟩
  have hS : va_S A s.heap H locs := by rw [hH, hlo]; exact hS
  have hP : va_P G.1 vwCl [(x, .inr (10, [.ref ro, .ref rw, .ref bo, .ref li, .ref sh, .ref tx, .ref lo, .ref nl])), (tx, .inr (8, [.ref fm, .ref pm, .int (iz (0))])), (ou, zaL (G.2 0) 1 (fo))] H := by rw [hH]; exact hP
  have hD : va_D A [(x, .inr (10, [.ref ro, .ref rw, .ref bo, .ref li, .ref sh, .ref tx, .ref lo, .ref nl])), (tx, .inr (8, [.ref fm, .ref pm, .int (iz (0))])), (ou, zaL (G.2 0) 1 (fo))] := hD
  have hl : lv_has ls 5 [(0, .ref x), (1, .long (lz (mo))), (3, .ref ou)] := hl
  rw [← hH, ← hlo]
  refine lv_aload_n hx hb dL_untaxed_0 rfl (lv_at hl 2 rfl) ?_
  refine lv_iconst (v := iz (0)) hx hb dL_untaxed_1 rfl ?_
  refine lv_aload_n hx hb dL_untaxed_2 rfl (lv_at hl 0 rfl) ?_
  refine lv_lload_n hx hb dL_untaxed_3 rfl (lv_at hl 1 rfl) ?_
  refine zc_l (wr := [(ou, zaL (G.2 0) 1 (fo))]) (va_runV (As := [.long (lz (mo))]) (rest := [.int (iz (0)), .ref ou]) ⟨hx, hb, hml, hown, hts⟩ (c_X9_untaxed_o l G x ro rw bo li sh tx lo nl fm pm mo (h0) (h1) H.size) (cwV 1 hts gL_untaxed_X9_untaxed rfl rfl rfl (by decide +kernel) ⟨Nat.le_of_ble_eq_true rfl, Nat.le_of_ble_eq_true rfl⟩) (zpV hKX hP hD [0, 1] rfl rfl 0 10 rfl rfl) rfl rfl hl.1 rfl (lv_room (Nat.le_of_ble_eq_true rfl)) dL_untaxed_4 ⟨(by first | exact Nat.le_of_ble_eq_true rfl | (show _ ≤ (0 : Nat); omega)), (by first | exact Nat.le_of_ble_eq_true rfl | (show _ ≤ (0 : Nat); omega))⟩) hP hD hS hA [0, 1] [2] rfl rfl rfl (by decide) (fun zz u_1 H locs hz hP hD hS => ?_)
  have hP : va_P G.1 vwCl [(ou, zaL (G.2 0) 1 (fo)), (x, .inr (10, [.ref ro, .ref rw, .ref bo, .ref li, .ref sh, .ref tx, .ref lo, .ref nl])), (tx, .inr (8, [.ref fm, .ref pm, .int (iz (0))]))] H := hP
  have hD : va_D A [(ou, zaL (G.2 0) 1 (fo)), (x, .inr (10, [.ref ro, .ref rw, .ref bo, .ref li, .ref sh, .ref tx, .ref lo, .ref nl])), (tx, .inr (8, [.ref fm, .ref pm, .int (iz (0))]))] := hD
  have hz : zz = mo := hz
  refine zr_last hx hb hK hP hD hS 0 0 rfl rfl (i := 0) (x := zz) (⟨by omega, by omega, by omega⟩) dL_untaxed_7 (fun H locs hP hD hS => ?_)
  have hP : va_P G.1 vwCl [(ou, zaL (G.2 0) 1 (zup fo 0 zz)), (x, .inr (10, [.ref ro, .ref rw, .ref bo, .ref li, .ref sh, .ref tx, .ref lo, .ref nl])), (tx, .inr (8, [.ref fm, .ref pm, .int (iz (0))]))] H := hP
  have hD : va_D A [(ou, zaL (G.2 0) 1 (zup fo 0 zz)), (x, .inr (10, [.ref ro, .ref rw, .ref bo, .ref li, .ref sh, .ref tx, .ref lo, .ref nl])), (tx, .inr (8, [.ref fm, .ref pm, .int (iz (0))]))] := hD
  refine lv_goto (tgt := 15) hx hb dL_untaxed_8 (by decide) ?_
  refine lv_iconst (v := iz (0)) hx hb dL_untaxed_15 rfl ?_
  rw [hQ]
  exact zr_iret (z := 0) (u := (zup fo 0 zz)) hx hb hr hlocks (hP.sub [0] rfl) (hD.sub [0] (by decide) rfl) hS (by first | exact Nat.le_of_ble_eq_true rfl | omega) (by first | exact Nat.le_of_ble_eq_true rfl | omega) dL_untaxed_16 (show 0 = 0 ∧ ((zup fo 0 zz) 0) = mo from ⟨rfl, by rw [zup_s]; exact hz⟩)

def rm_c_L_untaxed_x : Room := { frames := 8, cells := 1, slots := 6, locals := 132 }
set_option maxHeartbeats 1000000 in
set_option maxRecDepth 100000 in
theorem c_L_untaxed_x (l : Launch) (G : zG) (s1 : Nat) (s2 : Nat) (s3 : Nat) (x : Nat) (ro : Nat) (rw : Nat) (bo : Nat) (li : Nat) (sh : Nat) (tx : Nat) (lo : Nat) (nl : Nat) (mo : Int) (ou : Nat) (fo : Int → Int) (hl0 : l.stackTraces = false) (h0 : -9223372036854775808 ≤ mo ∧ mo < 9223372036854775808) (h1 : ¬ (0 ≤ mo ∧ mo ≤ 1000000000)) : zMe l (zXL s1 s2 s3) G yL_untaxed wsL_untaxed rm_c_L_untaxed_x [.ref x, .long (lz (mo)), .ref ou] [(x, .inr (10, [.ref ro, .ref rw, .ref bo, .ref li, .ref sh, .ref tx, .ref lo, .ref nl])), (ou, zaL (G.2 0) 1 (fo))] (fun A => zQi G (fun (z : Int) (_ : Unit) => z = 1) (fun (_ : Unit) => [(ou, zaL (G.2 0) 1 (fo))]) A) 1 6 := by
  refine zMeW_of (cc := cL_untaxed) (maxL := 5) (ret := (some .int)) (by decide) rfl (Nat.le_of_ble_eq_true rfl) ?_
  intro p e s m below meth c ls A Q hQ hx hb hr hts hown hlocks hml hnm htab hKX hE hP hD hA hS hl
  have hK := hKX.1
  obtain ⟨H, hH⟩ : ∃ h, h = s.heap := ⟨_, rfl⟩
  obtain ⟨locs, hlo⟩ : ∃ h : List Loc, h = [] := ⟨_, rfl⟩
  have hS : va_S A s.heap H locs := by rw [hH, hlo]; exact hS
  have hP : va_P G.1 vwCl [(x, .inr (10, [.ref ro, .ref rw, .ref bo, .ref li, .ref sh, .ref tx, .ref lo, .ref nl])), (ou, zaL (G.2 0) 1 (fo))] H := by rw [hH]; exact hP
  have hD : va_D A [(x, .inr (10, [.ref ro, .ref rw, .ref bo, .ref li, .ref sh, .ref tx, .ref lo, .ref nl])), (ou, zaL (G.2 0) 1 (fo))] := hD
  have hl : lv_has ls 5 [(0, .ref x), (1, .long (lz (mo))), (3, .ref ou)] := hl
  rw [← hH, ← hlo]
  refine lv_aload_n hx hb dL_untaxed_0 rfl (lv_at hl 2 rfl) ?_
  refine lv_iconst (v := iz (0)) hx hb dL_untaxed_1 rfl ?_
  refine lv_aload_n hx hb dL_untaxed_2 rfl (lv_at hl 0 rfl) ?_
  refine lv_lload_n hx hb dL_untaxed_3 rfl (lv_at hl 1 rfl) ?_
  refine zx_call (X := "java/lang/IllegalArgumentException") (AX := va_A [(x, .inr (10, [.ref ro, .ref rw, .ref bo, .ref li, .ref sh, .ref tx, .ref lo, .ref nl]))] H.size) (fun _ _ _ h => h) (vx_runV (As := [.long (lz (mo))]) (rest := [.int (iz (0)), .ref ou]) ⟨hx, hb, hml, hown, hts⟩ (c_X9_untaxed_x l G s1 s2 s3 x ro rw bo li sh tx lo nl mo hl0 (h0) (h1) H.size) (cwV 1 hts gL_untaxed_X9_untaxed rfl rfl rfl (by decide +kernel) ⟨Nat.le_of_ble_eq_true rfl, Nat.le_of_ble_eq_true rfl⟩) (zpVe zXE_ok hE.1 hS hA hKX hP hD [0] rfl rfl (va_recv hK hP (ci := 10) (q0 := 0) rfl rfl)) rfl rfl hl.1 rfl (lv_room (Nat.le_of_ble_eq_true rfl)) dL_untaxed_4 ⟨(by first | exact Nat.le_of_ble_eq_true rfl | (show _ ≤ (1 : Nat); omega)), (by first | exact Nat.le_of_ble_eq_true rfl | (show _ ≤ (6 : Nat); omega))⟩) hS (va_free (wc := [(x, .inr (10, [.ref ro, .ref rw, .ref bo, .ref li, .ref sh, .ref tx, .ref lo, .ref nl]))]) hD hS hA [0] rfl) (fun aq_ _ ah_ => (va_free (wc := [(x, .inr (10, [.ref ro, .ref rw, .ref bo, .ref li, .ref sh, .ref tx, .ref lo, .ref nl]))]) hD hS hA [0] rfl) aq_ ah_) (fun ce q9 H1 locs1 hsz9 hk9 hS1 hce hcv hcl => ?_)
  obtain ⟨hP1, hD1⟩ := va_join (wr := [(ou, zaL (G.2 0) 1 (fo))]) (w1 := []) hP hD [0] [1] rfl rfl rfl (by decide) hk9 (va_free (wc := [(x, .inr (10, [.ref ro, .ref rw, .ref bo, .ref li, .ref sh, .ref tx, .ref lo, .ref nl]))]) hD hS hA [0] rfl) (fun k q h => by cases h) zD_nil
  refine vx_catch hown [] (⟨0, 8, 11, 13⟩ : ExceptionTableEntry) [] (htab.trans rfl) (fun _ h => nomatch h) (by decide) (by decide) (hts (.classLink RL 13 "java/lang/IllegalArgumentException") (by decide +kernel)) (va_Nw.use rfl (hKX.2.2.2 (.castable "java/lang/IllegalArgumentException" "java/lang/IllegalArgumentException") (by decide +kernel))) hce hcv hcl ?_
  have hP : va_P G.1 vwCl [(ou, zaL (G.2 0) 1 (fo))] H1 := (List.append_nil [(ou, zaL (G.2 0) 1 (fo))]) ▸ hP1
  have hD : va_D A [(ou, zaL (G.2 0) 1 (fo))] := (List.append_nil [(ou, zaL (G.2 0) 1 (fo))]) ▸ hD1
  have hS := hS1
  show W p l e rm_c_L_untaxed_x s m ([.ref x, .long (lz (mo)), .ref ou] : List Value).toArray below meth c H1 locs1 (0 + 1) (0 + 6) Q (F0 m 11 ls [.ref q9])
  refine lv_astore (lv' := [(4, .ref q9), (0, .ref x), (1, .long (lz (mo))), (3, .ref ou)]) hx hb dL_untaxed_11 hl (by decide) rfl (fun ls hl => ?_)
  refine lv_iconst (v := iz (1)) hx hb dL_untaxed_13 rfl ?_
  rw [hQ]
  exact zr_iret (z := 1) (u := ()) hx hb hr hlocks hP hD hS (by first | exact Nat.le_of_ble_eq_true rfl | omega) (by first | exact Nat.le_of_ble_eq_true rfl | omega) dL_untaxed_14 (show 1 = 1 from rfl)

def rm_c_L_errors_o : Room := { frames := 7, cells := 0, slots := 0, locals := 166 }
set_option maxHeartbeats 1000000 in
set_option maxRecDepth 100000 in
theorem c_L_errors_o (l : Launch) (G : zG) (x : Nat) (ro : Nat) (rw : Nat) (bo : Nat) (li : Nat) (sh : Nat) (tx : Nat) (lo : Nat) (nl : Nat) (am : Nat) (q : Nat) (bq : Nat) (wa : Nat) (bwa : Nat) (sa : Nat) (sb : Nat) (da : Nat) (db : Nat) (bsa : Nat) (bsb : Nat) (bda : Nat) (bdb : Nat) (nr : Nat) (ne : Nat) (nh : Nat) (tb : Nat) (lq : Nat) (lv : Nat) (lf : Nat) (lg : Nat) (wt : Nat) (po : Int) (ou : Nat) (fo : Int → Int) (h0 : -2147483648 ≤ po ∧ po < 2147483648) (h1 : 0 ≤ po ∧ po ≤ 20000) : zM l G yL_errors wsL_errors rm_c_L_errors_o [.ref x, .int (iz (po)), .ref ou] [(x, .inr (10, [.ref ro, .ref rw, .ref bo, .ref li, .ref sh, .ref tx, .ref lo, .ref nl])), (rw, .inr (6, [.ref am, .ref q, .ref bq])), (am, zaL (G.2 0) 41 (fun _ => 0)), (q, .inr (2, [.ref sa, .ref da, .ref wa, .long (lz (1)), .long (lz (1)), .int (iz (0))])), (sa, .inr (9, [.ref sb, .int (iz (0)), .long (lz (0))])), (sb, zaL (G.2 0) 40 (fun _ => 0)), (da, .inr (9, [.ref db, .int (iz (0)), .long (lz (0))])), (db, zaL (G.2 0) 40 (fun _ => 0)), (bq, .inr (2, [.ref bsa, .ref bda, .ref bwa, .long (lz (1)), .long (lz (1)), .int (iz (0))])), (bsa, .inr (9, [.ref bsb, .int (iz (0)), .long (lz (0))])), (bsb, zaL (G.2 0) 40 (fun _ => 0)), (bda, .inr (9, [.ref bdb, .int (iz (0)), .long (lz (0))])), (bdb, zaL (G.2 0) 40 (fun _ => 0)), (lo, .inr (4, [.ref nr, .ref ne, .ref nh, .ref tb, .ref lq, .long (lz (0)), .int (iz (0)), .int (iz (0))])), (li, .inr (3, [.ref lv, .ref lf, .ref lg, .int (iz (0))])), (sh, .inr (7, [.ref wt, .int (iz (0))])), (ou, zaL (G.2 0) 1 (fo))] (fun A => zQi G (fun (z : Int) (f2 : (Int → Int)) => z = 0 ∧ (f2 0) = 0) (fun (f2 : (Int → Int)) => [(ou, zaL (G.2 0) 1 (f2))]) A) 0 0 := by
  refine zMW_of (cc := cL_errors) (maxL := 4) (ret := (some .int)) (by decide) rfl (Nat.le_of_ble_eq_true rfl) ?_
  intro p e s m below meth c ls A Q hQ hx hb hr hts hown hlocks hml hnm hKX hP hD hA hS hl
  have hK := hKX.1
  obtain ⟨H, hH⟩ : ∃ h, h = s.heap := ⟨_, rfl⟩
  obtain ⟨locs, hlo⟩ : ∃ h : List Loc, h = [] := ⟨_, rfl⟩
  have hS : va_S A s.heap H locs := by rw [hH, hlo]; exact hS
  have hP : va_P G.1 vwCl [(x, .inr (10, [.ref ro, .ref rw, .ref bo, .ref li, .ref sh, .ref tx, .ref lo, .ref nl])), (rw, .inr (6, [.ref am, .ref q, .ref bq])), (am, zaL (G.2 0) 41 (fun _ => 0)), (q, .inr (2, [.ref sa, .ref da, .ref wa, .long (lz (1)), .long (lz (1)), .int (iz (0))])), (sa, .inr (9, [.ref sb, .int (iz (0)), .long (lz (0))])), (sb, zaL (G.2 0) 40 (fun _ => 0)), (da, .inr (9, [.ref db, .int (iz (0)), .long (lz (0))])), (db, zaL (G.2 0) 40 (fun _ => 0)), (bq, .inr (2, [.ref bsa, .ref bda, .ref bwa, .long (lz (1)), .long (lz (1)), .int (iz (0))])), (bsa, .inr (9, [.ref bsb, .int (iz (0)), .long (lz (0))])), (bsb, zaL (G.2 0) 40 (fun _ => 0)), (bda, .inr (9, [.ref bdb, .int (iz (0)), .long (lz (0))])), (bdb, zaL (G.2 0) 40 (fun _ => 0)), (lo, .inr (4, [.ref nr, .ref ne, .ref nh, .ref tb, .ref lq, .long (lz (0)), .int (iz (0)), .int (iz (0))])), (li, .inr (3, [.ref lv, .ref lf, .ref lg, .int (iz (0))])), (sh, .inr (7, [.ref wt, .int (iz (0))])), (ou, zaL (G.2 0) 1 (fo))] H := by rw [hH]; exact hP
  have hD : va_D A [(x, .inr (10, [.ref ro, .ref rw, .ref bo, .ref li, .ref sh, .ref tx, .ref lo, .ref nl])), (rw, .inr (6, [.ref am, .ref q, .ref bq])), (am, zaL (G.2 0) 41 (fun _ => 0)), (q, .inr (2, [.ref sa, .ref da, .ref wa, .long (lz (1)), .long (lz (1)), .int (iz (0))])), (sa, .inr (9, [.ref sb, .int (iz (0)), .long (lz (0))])), (sb, zaL (G.2 0) 40 (fun _ => 0)), (da, .inr (9, [.ref db, .int (iz (0)), .long (lz (0))])), (db, zaL (G.2 0) 40 (fun _ => 0)), (bq, .inr (2, [.ref bsa, .ref bda, .ref bwa, .long (lz (1)), .long (lz (1)), .int (iz (0))])), (bsa, .inr (9, [.ref bsb, .int (iz (0)), .long (lz (0))])), (bsb, zaL (G.2 0) 40 (fun _ => 0)), (bda, .inr (9, [.ref bdb, .int (iz (0)), .long (lz (0))])), (bdb, zaL (G.2 0) 40 (fun _ => 0)), (lo, .inr (4, [.ref nr, .ref ne, .ref nh, .ref tb, .ref lq, .long (lz (0)), .int (iz (0)), .int (iz (0))])), (li, .inr (3, [.ref lv, .ref lf, .ref lg, .int (iz (0))])), (sh, .inr (7, [.ref wt, .int (iz (0))])), (ou, zaL (G.2 0) 1 (fo))] := hD
  have hl : lv_has ls 4 [(0, .ref x), (1, .int (iz (po))), (2, .ref ou)] := hl
  rw [← hH, ← hlo]
  refine lv_aload_n hx hb dL_errors_0 rfl (lv_at hl 2 rfl) ?_
  refine lv_iconst (v := iz (0)) hx hb dL_errors_1 rfl ?_
  refine lv_aload_n hx hb dL_errors_2 rfl (lv_at hl 0 rfl) ?_
  refine lv_iload_n hx hb dL_errors_3 rfl (lv_at hl 1 rfl) ?_
  refine zc_i (wr := [(ou, zaL (G.2 0) 1 (fo))]) (va_runV (As := [.int (iz (po))]) (rest := [.int (iz (0)), .ref ou]) ⟨hx, hb, hml, hown, hts⟩ (c_X9_errors_o l G x ro rw bo li sh tx lo nl am q bq wa bwa sa sb da db bsa bsb bda bdb nr ne nh tb lq lv lf lg wt po (h0) (h1) H.size) (cwV 1 hts gL_errors_X9_errors rfl rfl rfl (by decide +kernel) ⟨Nat.le_of_ble_eq_true rfl, Nat.le_of_ble_eq_true rfl⟩) (zpV hKX hP hD [0, 1, 2, 3, 4, 5, 6, 7, 8, 9, 10, 11, 12, 13, 14, 15] rfl rfl 0 10 rfl rfl) rfl rfl hl.1 rfl (lv_room (Nat.le_of_ble_eq_true rfl)) dL_errors_4 ⟨(by first | exact Nat.le_of_ble_eq_true rfl | (show _ ≤ (0 : Nat); omega)), (by first | exact Nat.le_of_ble_eq_true rfl | (show _ ≤ (0 : Nat); omega))⟩) hP hD hS hA [0, 1, 2, 3, 4, 5, 6, 7, 8, 9, 10, 11, 12, 13, 14, 15] [16] rfl rfl rfl (by decide) (fun zz u_1 H locs hz hP hD hS => ?_)
  obtain ⟨u0_, u1_, u2_, u3_, u4_, u5_, u6_, u7_, u8_, u9_, u10_, u11_, u12_, u13_, u14_, u15_, u16_, u17_⟩ := u_1
  have hP : va_P G.1 vwCl [(ou, zaL (G.2 0) 1 (fo)), (x, .inr (10, [.ref ro, .ref rw, .ref bo, .ref li, .ref sh, .ref tx, .ref lo, .ref nl])), (rw, .inr (6, [.ref am, .ref q, .ref bq])), (am, zaL (G.2 0) 41 (fun _ => 0)), (q, .inr (2, [.ref sa, .ref da, .ref wa, .long (lz (u6_)), .long (lz (u7_)), .int (iz (u8_))])), (sa, .inr (9, [.ref sb, .int (iz (u1_)), .long (lz (u2_))])), (sb, zaL (G.2 0) 40 (u0_)), (da, .inr (9, [.ref db, .int (iz (u4_)), .long (lz (u5_))])), (db, zaL (G.2 0) 40 (u3_)), (bq, .inr (2, [.ref bsa, .ref bda, .ref bwa, .long (lz (u15_)), .long (lz (u16_)), .int (iz (u17_))])), (bsa, .inr (9, [.ref bsb, .int (iz (u10_)), .long (lz (u11_))])), (bsb, zaL (G.2 0) 40 (u9_)), (bda, .inr (9, [.ref bdb, .int (iz (u13_)), .long (lz (u14_))])), (bdb, zaL (G.2 0) 40 (u12_)), (lo, .inr (4, [.ref nr, .ref ne, .ref nh, .ref tb, .ref lq, .long (lz (0)), .int (iz (0)), .int (iz (0))])), (li, .inr (3, [.ref lv, .ref lf, .ref lg, .int (iz (0))])), (sh, .inr (7, [.ref wt, .int (iz (0))]))] H := hP
  have hD : va_D A [(ou, zaL (G.2 0) 1 (fo)), (x, .inr (10, [.ref ro, .ref rw, .ref bo, .ref li, .ref sh, .ref tx, .ref lo, .ref nl])), (rw, .inr (6, [.ref am, .ref q, .ref bq])), (am, zaL (G.2 0) 41 (fun _ => 0)), (q, .inr (2, [.ref sa, .ref da, .ref wa, .long (lz (u6_)), .long (lz (u7_)), .int (iz (u8_))])), (sa, .inr (9, [.ref sb, .int (iz (u1_)), .long (lz (u2_))])), (sb, zaL (G.2 0) 40 (u0_)), (da, .inr (9, [.ref db, .int (iz (u4_)), .long (lz (u5_))])), (db, zaL (G.2 0) 40 (u3_)), (bq, .inr (2, [.ref bsa, .ref bda, .ref bwa, .long (lz (u15_)), .long (lz (u16_)), .int (iz (u17_))])), (bsa, .inr (9, [.ref bsb, .int (iz (u10_)), .long (lz (u11_))])), (bsb, zaL (G.2 0) 40 (u9_)), (bda, .inr (9, [.ref bdb, .int (iz (u13_)), .long (lz (u14_))])), (bdb, zaL (G.2 0) 40 (u12_)), (lo, .inr (4, [.ref nr, .ref ne, .ref nh, .ref tb, .ref lq, .long (lz (0)), .int (iz (0)), .int (iz (0))])), (li, .inr (3, [.ref lv, .ref lf, .ref lg, .int (iz (0))])), (sh, .inr (7, [.ref wt, .int (iz (0))]))] := hD
  have hz : zz = 0 := hz
  refine zr_i2l hx hb (x := zz) (⟨by omega, by omega⟩) dL_errors_7 ?_
  refine zr_last hx hb hK hP hD hS 0 0 rfl rfl (i := 0) (x := zz) (⟨by omega, by omega, by omega⟩) dL_errors_8 (fun H locs hP hD hS => ?_)
  have hP : va_P G.1 vwCl [(ou, zaL (G.2 0) 1 (zup fo 0 zz)), (x, .inr (10, [.ref ro, .ref rw, .ref bo, .ref li, .ref sh, .ref tx, .ref lo, .ref nl])), (rw, .inr (6, [.ref am, .ref q, .ref bq])), (am, zaL (G.2 0) 41 (fun _ => 0)), (q, .inr (2, [.ref sa, .ref da, .ref wa, .long (lz (u6_)), .long (lz (u7_)), .int (iz (u8_))])), (sa, .inr (9, [.ref sb, .int (iz (u1_)), .long (lz (u2_))])), (sb, zaL (G.2 0) 40 (u0_)), (da, .inr (9, [.ref db, .int (iz (u4_)), .long (lz (u5_))])), (db, zaL (G.2 0) 40 (u3_)), (bq, .inr (2, [.ref bsa, .ref bda, .ref bwa, .long (lz (u15_)), .long (lz (u16_)), .int (iz (u17_))])), (bsa, .inr (9, [.ref bsb, .int (iz (u10_)), .long (lz (u11_))])), (bsb, zaL (G.2 0) 40 (u9_)), (bda, .inr (9, [.ref bdb, .int (iz (u13_)), .long (lz (u14_))])), (bdb, zaL (G.2 0) 40 (u12_)), (lo, .inr (4, [.ref nr, .ref ne, .ref nh, .ref tb, .ref lq, .long (lz (0)), .int (iz (0)), .int (iz (0))])), (li, .inr (3, [.ref lv, .ref lf, .ref lg, .int (iz (0))])), (sh, .inr (7, [.ref wt, .int (iz (0))]))] H := hP
  have hD : va_D A [(ou, zaL (G.2 0) 1 (zup fo 0 zz)), (x, .inr (10, [.ref ro, .ref rw, .ref bo, .ref li, .ref sh, .ref tx, .ref lo, .ref nl])), (rw, .inr (6, [.ref am, .ref q, .ref bq])), (am, zaL (G.2 0) 41 (fun _ => 0)), (q, .inr (2, [.ref sa, .ref da, .ref wa, .long (lz (u6_)), .long (lz (u7_)), .int (iz (u8_))])), (sa, .inr (9, [.ref sb, .int (iz (u1_)), .long (lz (u2_))])), (sb, zaL (G.2 0) 40 (u0_)), (da, .inr (9, [.ref db, .int (iz (u4_)), .long (lz (u5_))])), (db, zaL (G.2 0) 40 (u3_)), (bq, .inr (2, [.ref bsa, .ref bda, .ref bwa, .long (lz (u15_)), .long (lz (u16_)), .int (iz (u17_))])), (bsa, .inr (9, [.ref bsb, .int (iz (u10_)), .long (lz (u11_))])), (bsb, zaL (G.2 0) 40 (u9_)), (bda, .inr (9, [.ref bdb, .int (iz (u13_)), .long (lz (u14_))])), (bdb, zaL (G.2 0) 40 (u12_)), (lo, .inr (4, [.ref nr, .ref ne, .ref nh, .ref tb, .ref lq, .long (lz (0)), .int (iz (0)), .int (iz (0))])), (li, .inr (3, [.ref lv, .ref lf, .ref lg, .int (iz (0))])), (sh, .inr (7, [.ref wt, .int (iz (0))]))] := hD
  refine lv_goto (tgt := 15) hx hb dL_errors_9 (by decide) ?_
  refine lv_iconst (v := iz (0)) hx hb dL_errors_15 rfl ?_
  rw [hQ]
  exact zr_iret (z := 0) (u := (zup fo 0 zz)) hx hb hr hlocks (hP.sub [0] rfl) (hD.sub [0] (by decide) rfl) hS (by first | exact Nat.le_of_ble_eq_true rfl | omega) (by first | exact Nat.le_of_ble_eq_true rfl | omega) dL_errors_16 (show 0 = 0 ∧ ((zup fo 0 zz) 0) = 0 from ⟨rfl, by rw [zup_s]; exact hz⟩)

def rm_c_L_errors_x : Room := { frames := 9, cells := 1, slots := 6, locals := 152 }
set_option maxHeartbeats 1000000 in
set_option maxRecDepth 100000 in
theorem c_L_errors_x (l : Launch) (G : zG) (s1 : Nat) (s2 : Nat) (s3 : Nat) (x : Nat) (ro : Nat) (rw : Nat) (bo : Nat) (li : Nat) (sh : Nat) (tx : Nat) (lo : Nat) (nl : Nat) (po : Int) (ou : Nat) (fo : Int → Int) (hl0 : l.stackTraces = false) (h0 : -2147483648 ≤ po ∧ po < 2147483648) (h1 : ¬ (0 ≤ po ∧ po ≤ 20000)) : zMe l (zXL s1 s2 s3) G yL_errors wsL_errors rm_c_L_errors_x [.ref x, .int (iz (po)), .ref ou] [(x, .inr (10, [.ref ro, .ref rw, .ref bo, .ref li, .ref sh, .ref tx, .ref lo, .ref nl])), (ou, zaL (G.2 0) 1 (fo))] (fun A => zQi G (fun (z : Int) (_ : Unit) => z = 1) (fun (_ : Unit) => [(ou, zaL (G.2 0) 1 (fo))]) A) 1 6 := by
  refine zMeW_of (cc := cL_errors) (maxL := 4) (ret := (some .int)) (by decide) rfl (Nat.le_of_ble_eq_true rfl) ?_
  intro p e s m below meth c ls A Q hQ hx hb hr hts hown hlocks hml hnm htab hKX hE hP hD hA hS hl
  have hK := hKX.1
  obtain ⟨H, hH⟩ : ∃ h, h = s.heap := ⟨_, rfl⟩
  obtain ⟨locs, hlo⟩ : ∃ h : List Loc, h = [] := ⟨_, rfl⟩
  have hS : va_S A s.heap H locs := by rw [hH, hlo]; exact hS
  have hP : va_P G.1 vwCl [(x, .inr (10, [.ref ro, .ref rw, .ref bo, .ref li, .ref sh, .ref tx, .ref lo, .ref nl])), (ou, zaL (G.2 0) 1 (fo))] H := by rw [hH]; exact hP
  have hD : va_D A [(x, .inr (10, [.ref ro, .ref rw, .ref bo, .ref li, .ref sh, .ref tx, .ref lo, .ref nl])), (ou, zaL (G.2 0) 1 (fo))] := hD
  have hl : lv_has ls 4 [(0, .ref x), (1, .int (iz (po))), (2, .ref ou)] := hl
  rw [← hH, ← hlo]
  refine lv_aload_n hx hb dL_errors_0 rfl (lv_at hl 2 rfl) ?_
  refine lv_iconst (v := iz (0)) hx hb dL_errors_1 rfl ?_
  refine lv_aload_n hx hb dL_errors_2 rfl (lv_at hl 0 rfl) ?_
  refine lv_iload_n hx hb dL_errors_3 rfl (lv_at hl 1 rfl) ?_
  refine zx_call (X := "java/lang/IllegalArgumentException") (AX := va_A [(x, .inr (10, [.ref ro, .ref rw, .ref bo, .ref li, .ref sh, .ref tx, .ref lo, .ref nl]))] H.size) (fun _ _ _ h => h) (vx_runV (As := [.int (iz (po))]) (rest := [.int (iz (0)), .ref ou]) ⟨hx, hb, hml, hown, hts⟩ (c_X9_errors_x l G s1 s2 s3 x ro rw bo li sh tx lo nl po hl0 (h0) (h1) H.size) (cwV 1 hts gL_errors_X9_errors rfl rfl rfl (by decide +kernel) ⟨Nat.le_of_ble_eq_true rfl, Nat.le_of_ble_eq_true rfl⟩) (zpVe zXE_ok hE.1 hS hA hKX hP hD [0] rfl rfl (va_recv hK hP (ci := 10) (q0 := 0) rfl rfl)) rfl rfl hl.1 rfl (lv_room (Nat.le_of_ble_eq_true rfl)) dL_errors_4 ⟨(by first | exact Nat.le_of_ble_eq_true rfl | (show _ ≤ (1 : Nat); omega)), (by first | exact Nat.le_of_ble_eq_true rfl | (show _ ≤ (6 : Nat); omega))⟩) hS (va_free (wc := [(x, .inr (10, [.ref ro, .ref rw, .ref bo, .ref li, .ref sh, .ref tx, .ref lo, .ref nl]))]) hD hS hA [0] rfl) (fun aq_ _ ah_ => (va_free (wc := [(x, .inr (10, [.ref ro, .ref rw, .ref bo, .ref li, .ref sh, .ref tx, .ref lo, .ref nl]))]) hD hS hA [0] rfl) aq_ ah_) (fun ce q9 H1 locs1 hsz9 hk9 hS1 hce hcv hcl => ?_)
  obtain ⟨hP1, hD1⟩ := va_join (wr := [(ou, zaL (G.2 0) 1 (fo))]) (w1 := []) hP hD [0] [1] rfl rfl rfl (by decide) hk9 (va_free (wc := [(x, .inr (10, [.ref ro, .ref rw, .ref bo, .ref li, .ref sh, .ref tx, .ref lo, .ref nl]))]) hD hS hA [0] rfl) (fun k q h => by cases h) zD_nil
  refine vx_catch hown [] (⟨0, 9, 12, 13⟩ : ExceptionTableEntry) [] (htab.trans rfl) (fun _ h => nomatch h) (by decide) (by decide) (hts (.classLink RL 13 "java/lang/IllegalArgumentException") (by decide +kernel)) (va_Nw.use rfl (hKX.2.2.2 (.castable "java/lang/IllegalArgumentException" "java/lang/IllegalArgumentException") (by decide +kernel))) hce hcv hcl ?_
  have hP : va_P G.1 vwCl [(ou, zaL (G.2 0) 1 (fo))] H1 := (List.append_nil [(ou, zaL (G.2 0) 1 (fo))]) ▸ hP1
  have hD : va_D A [(ou, zaL (G.2 0) 1 (fo))] := (List.append_nil [(ou, zaL (G.2 0) 1 (fo))]) ▸ hD1
  have hS := hS1
  show W p l e rm_c_L_errors_x s m ([.ref x, .int (iz (po)), .ref ou] : List Value).toArray below meth c H1 locs1 (0 + 1) (0 + 6) Q (F0 m 12 ls [.ref q9])
  refine lv_astore_n (lv' := [(3, .ref q9), (0, .ref x), (1, .int (iz (po))), (2, .ref ou)]) hx hb dL_errors_12 rfl hl (by decide) rfl (fun ls hl => ?_)
  refine lv_iconst (v := iz (1)) hx hb dL_errors_13 rfl ?_
  rw [hQ]
  exact zr_iret (z := 1) (u := ()) hx hb hr hlocks hP hD hS (by first | exact Nat.le_of_ble_eq_true rfl | omega) (by first | exact Nat.le_of_ble_eq_true rfl | omega) dL_errors_14 (show 1 = 1 from rfl)
