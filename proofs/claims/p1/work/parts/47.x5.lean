-- THE CLASS: Row (laid by wip/walk/x5.py)
theorem zcz_z (x y : Int) : 0 * x + y * 0 = 0 := by simp
def rm_c_X5_init : Room := { frames := 3, cells := 15, slots := 311, locals := 52 }
theorem iw_X5_init_X1 : ∀ w ∈ wsX10, w ∈ wsX5_init := by decide +kernel
theorem iw_X5_init_X5 : ∀ w ∈ wsX50, w ∈ wsX5_init := by decide +kernel
set_option maxHeartbeats 1000000 in
set_option maxRecDepth 100000 in
theorem c_X5_init (l : Launch) (G : zG) (y : Nat)  : zM l G yX5_init wsX5_init rm_c_X5_init [.ref y] [(y, .inr (6, [.null, .null, .null]))] (fun A => zQv G (fun (u : (Nat × Nat × Nat × Nat × Nat × Nat × Nat × Nat × Nat × Nat × Nat × Nat × Nat × Nat × Nat)) => True) (fun (u : (Nat × Nat × Nat × Nat × Nat × Nat × Nat × Nat × Nat × Nat × Nat × Nat × Nat × Nat × Nat)) => [(y, .inr (6, [.ref u.1, .ref u.2.1, .ref u.2.2.2.2.2.2.2.2.1])), (u.1, zaL (G.2 0) 41 (fun _ => 0)), (u.2.1, .inr (2, [.ref u.2.2.1, .ref u.2.2.2.2.1, .ref u.2.2.2.2.2.2.1, .long (lz (1)), .long (lz (1)), .int (iz (0))])), (u.2.2.1, .inr (9, [.ref u.2.2.2.1, .int (iz (0)), .long (lz (0))])), (u.2.2.2.1, zaL (G.2 0) 40 (fun _ => 0)), (u.2.2.2.2.1, .inr (9, [.ref u.2.2.2.2.2.1, .int (iz (0)), .long (lz (0))])), (u.2.2.2.2.2.1, zaL (G.2 0) 40 (fun _ => 0)), (u.2.2.2.2.2.2.1, .inr (9, [.ref u.2.2.2.2.2.2.2.1, .int (iz (0)), .long (lz (0))])), (u.2.2.2.2.2.2.2.1, zaL (G.2 0) 40 (fun _ => 0)), (u.2.2.2.2.2.2.2.2.1, .inr (2, [.ref u.2.2.2.2.2.2.2.2.2.1, .ref u.2.2.2.2.2.2.2.2.2.2.2.1, .ref u.2.2.2.2.2.2.2.2.2.2.2.2.2.1, .long (lz (1)), .long (lz (1)), .int (iz (0))])), (u.2.2.2.2.2.2.2.2.2.1, .inr (9, [.ref u.2.2.2.2.2.2.2.2.2.2.1, .int (iz (0)), .long (lz (0))])), (u.2.2.2.2.2.2.2.2.2.2.1, zaL (G.2 0) 40 (fun _ => 0)), (u.2.2.2.2.2.2.2.2.2.2.2.1, .inr (9, [.ref u.2.2.2.2.2.2.2.2.2.2.2.2.1, .int (iz (0)), .long (lz (0))])), (u.2.2.2.2.2.2.2.2.2.2.2.2.1, zaL (G.2 0) 40 (fun _ => 0)), (u.2.2.2.2.2.2.2.2.2.2.2.2.2.1, .inr (9, [.ref u.2.2.2.2.2.2.2.2.2.2.2.2.2.2, .int (iz (0)), .long (lz (0))])), (u.2.2.2.2.2.2.2.2.2.2.2.2.2.2, zaL (G.2 0) 40 (fun _ => 0))]) A) 15 311 := by
  refine zM_of (cc := cX5_init) (maxL := 1) (ret := none) (by decide) rfl (Nat.le_of_ble_eq_true rfl) ?_
  intro p e s m below meth c ls A Q hQ hx hb hr hts hown hlocks hml hnm hKX hP hD hA hS hl
  have hK := hKX.1
  have iwX1 := iw_X5_init_X1
  have iwX5 := iw_X5_init_X5
  obtain ⟨H, hH⟩ : ∃ h, h = s.heap := ⟨_, rfl⟩
  obtain ⟨locs, hlo⟩ : ∃ h : List Loc, h = [] := ⟨_, rfl⟩
  have hS : va_S A s.heap H locs := by rw [hH, hlo]; exact hS
  have hP : va_P G.1 vwCl [(y, .inr (6, [.null, .null, .null]))] H := by rw [hH]; exact hP
  have hD : va_D A [(y, .inr (6, [.null, .null, .null]))] := hD
  have hl : lv_has ls 1 [(0, .ref y)] := hl
  rw [← hH, ← hlo]
  refine lv_aload_n hx hb dX5_init_0 rfl (lv_at hl 0 rfl) ?_
  refine W.objInit hx hb hown (hts (.methodLink RX5 3 objectInit) (by decide +kernel)) (hts (.instanceMethod objectInit) (by decide +kernel)) (hts (.code objectInit ⟨#[0xb1]⟩ 1 none) (by decide +kernel)) rfl (by rw [hml]; exact hl.1) rfl dX5_init_1 (Nat.le_of_ble_eq_true rfl) (Nat.le_of_ble_eq_true rfl) ?_
  refine lv_aload_n hx hb dX5_init_4 rfl (lv_at hl 0 rfl) ?_
  refine lv_bipush (v := iz (41)) hx hb dX5_init_5 rfl ?_
  refine zr_newaL (G := G) (n := 41) (N := 41) hx hb (hts (.arrayClass .long) (by decide +kernel)) hK hP hD hS hA (by omega) (by omega) (by omega) (by first | exact Nat.le_of_ble_eq_true rfl | (show _ ≤ (15 : Nat); omega)) (by first | exact Nat.le_of_ble_eq_true rfl | (show _ ≤ (311 : Nat); omega)) dX5_init_7 (fun am H hP hD hS => ?_)
  have hP : va_P G.1 vwCl [(y, .inr (6, [.null, .null, .null])), (am, zaL (G.2 0) 41 (fun _ => 0))] H := hP
  have hD : va_D A [(y, .inr (6, [.null, .null, .null])), (am, zaL (G.2 0) 41 (fun _ => 0))] := hD
  refine va_putF (D := G.1) (ci := 6) (v := .ref am) (ty := (.array .long)) (C := RX5) (T := TX5) (N := 3) hx hb hts iwX5 tyX5 tyX5_ok nmX5 hown hK hP hD hS 0 rfl rfl 0 (by decide) (hts (.fieldLink RX5 9 "AnnuityHouse$Row" "amounts" "[J") (by decide +kernel)) (fun _ h9 => h9) rfl hnm rfl (by decide +kernel) rfl rfl (Nat.le_of_ble_eq_true rfl) dX5_init_9 (fun H locs hP hD hS => ?_)
  have hP : va_P G.1 vwCl [(y, .inr (6, [.ref am, .null, .null])), (am, zaL (G.2 0) 41 (fun _ => 0))] H := hP
  have hD : va_D A [(y, .inr (6, [.ref am, .null, .null])), (am, zaL (G.2 0) 41 (fun _ => 0))] := hD
  refine lv_aload_n hx hb dX5_init_12 rfl (lv_at hl 0 rfl) ?_
  refine va_new (D := G.1) (ci := 2) (fs := [.null, .null, .null, .long 0, .long 0, .int 0]) (C := RX1) (T := TX1) (N := 6) hx hb hts iwX1 tyX1 tyX1_ok hown (hts (.classLink RX5 15 RX1) (by decide +kernel)) (hts (.instantiable RX1 6) (by decide +kernel)) (hts (.initialized RX1) (by decide +kernel)) hK hP hD hS hA rfl (by decide +kernel) (by first | exact Nat.le_of_ble_eq_true rfl | (show _ ≤ (15 : Nat); omega)) (by first | exact Nat.le_of_ble_eq_true rfl | (show _ ≤ (311 : Nat); omega)) dX5_init_13 (fun q H hP hD hS => ?_)
  have hP : va_P G.1 vwCl [(y, .inr (6, [.ref am, .null, .null])), (am, zaL (G.2 0) 41 (fun _ => 0)), (q, .inr (2, [.null, .null, .null, .long (lz (0)), .long (lz (0)), .int (iz (0))]))] H := hP
  have hD : va_D A [(y, .inr (6, [.ref am, .null, .null])), (am, zaL (G.2 0) 41 (fun _ => 0)), (q, .inr (2, [.null, .null, .null, .long (lz (0)), .long (lz (0)), .int (iz (0))]))] := hD
  refine lv_dup hx hb dX5_init_16 rfl ?_
  refine zc_v (wr := [(y, .inr (6, [.ref am, .null, .null])), (am, zaL (G.2 0) 41 (fun _ => 0))]) (va_runIN (As := []) (rest := [.ref q, .ref y]) ⟨hx, hb, hml, hown, hts⟩ (c_X1_init l G q  H.size) ⟨va_cnB 0 hts gX5_init_X1_init_n17 rfl rfl rfl (hKX.2.2.2 (.methodLinkNest "AnnuityHouse$Row" 17 ⟨"AnnuityHouse$Flow", "<init>", "()V"⟩ "AnnuityHouse") (by decide +kernel)) (hts (.initialized RX1) (by decide +kernel)) (by decide +kernel) ⟨Nat.le_of_ble_eq_true rfl, Nat.le_of_ble_eq_true rfl⟩, rfl, hts (.instanceMethod yX1_init) (by decide +kernel)⟩ (zpS hKX hP hD [2] rfl rfl) rfl rfl hl.1 rfl (lv_room (Nat.le_of_ble_eq_true rfl)) dX5_init_17 ⟨(by first | exact Nat.le_of_ble_eq_true rfl | (show _ ≤ (15 : Nat); omega)), (by first | exact Nat.le_of_ble_eq_true rfl | (show _ ≤ (311 : Nat); omega))⟩) hP hD hS hA [2] [0, 1] rfl rfl rfl (by decide) (fun u_2 H locs t1 hP hD hS => ?_)
  obtain ⟨sa, sb, da, db, wa, wb⟩ := u_2
  have hP : va_P G.1 vwCl [(y, .inr (6, [.ref am, .null, .null])), (am, zaL (G.2 0) 41 (fun _ => 0)), (q, .inr (2, [.ref sa, .ref da, .ref wa, .long (lz (1)), .long (lz (1)), .int (iz (0))])), (sa, .inr (9, [.ref sb, .int (iz (0)), .long (lz (0))])), (sb, zaL (G.2 0) 40 (fun _ => 0)), (da, .inr (9, [.ref db, .int (iz (0)), .long (lz (0))])), (db, zaL (G.2 0) 40 (fun _ => 0)), (wa, .inr (9, [.ref wb, .int (iz (0)), .long (lz (0))])), (wb, zaL (G.2 0) 40 (fun _ => 0))] H := hP
  have hD : va_D A [(y, .inr (6, [.ref am, .null, .null])), (am, zaL (G.2 0) 41 (fun _ => 0)), (q, .inr (2, [.ref sa, .ref da, .ref wa, .long (lz (1)), .long (lz (1)), .int (iz (0))])), (sa, .inr (9, [.ref sb, .int (iz (0)), .long (lz (0))])), (sb, zaL (G.2 0) 40 (fun _ => 0)), (da, .inr (9, [.ref db, .int (iz (0)), .long (lz (0))])), (db, zaL (G.2 0) 40 (fun _ => 0)), (wa, .inr (9, [.ref wb, .int (iz (0)), .long (lz (0))])), (wb, zaL (G.2 0) 40 (fun _ => 0))] := hD
  refine va_putF (D := G.1) (ci := 6) (v := .ref q) (ty := (.object "AnnuityHouse$Flow")) (C := RX5) (T := TX5) (N := 3) hx hb hts iwX5 tyX5 tyX5_ok nmX5 hown hK hP hD hS 0 rfl rfl 1 (by decide) (hts (.fieldLink RX5 18 "AnnuityHouse$Row" "flow" "LAnnuityHouse$Flow;") (by decide +kernel)) (fun _ h9 => h9) rfl hnm rfl (by decide +kernel) rfl rfl (Nat.le_of_ble_eq_true rfl) dX5_init_20 (fun H locs hP hD hS => ?_)
  have hP : va_P G.1 vwCl [(y, .inr (6, [.ref am, .ref q, .null])), (am, zaL (G.2 0) 41 (fun _ => 0)), (q, .inr (2, [.ref sa, .ref da, .ref wa, .long (lz (1)), .long (lz (1)), .int (iz (0))])), (sa, .inr (9, [.ref sb, .int (iz (0)), .long (lz (0))])), (sb, zaL (G.2 0) 40 (fun _ => 0)), (da, .inr (9, [.ref db, .int (iz (0)), .long (lz (0))])), (db, zaL (G.2 0) 40 (fun _ => 0)), (wa, .inr (9, [.ref wb, .int (iz (0)), .long (lz (0))])), (wb, zaL (G.2 0) 40 (fun _ => 0))] H := hP
  have hD : va_D A [(y, .inr (6, [.ref am, .ref q, .null])), (am, zaL (G.2 0) 41 (fun _ => 0)), (q, .inr (2, [.ref sa, .ref da, .ref wa, .long (lz (1)), .long (lz (1)), .int (iz (0))])), (sa, .inr (9, [.ref sb, .int (iz (0)), .long (lz (0))])), (sb, zaL (G.2 0) 40 (fun _ => 0)), (da, .inr (9, [.ref db, .int (iz (0)), .long (lz (0))])), (db, zaL (G.2 0) 40 (fun _ => 0)), (wa, .inr (9, [.ref wb, .int (iz (0)), .long (lz (0))])), (wb, zaL (G.2 0) 40 (fun _ => 0))] := hD
  refine lv_aload_n hx hb dX5_init_23 rfl (lv_at hl 0 rfl) ?_
  refine va_new (D := G.1) (ci := 2) (fs := [.null, .null, .null, .long 0, .long 0, .int 0]) (C := RX1) (T := TX1) (N := 6) hx hb hts iwX1 tyX1 tyX1_ok hown (hts (.classLink RX5 15 RX1) (by decide +kernel)) (hts (.instantiable RX1 6) (by decide +kernel)) (hts (.initialized RX1) (by decide +kernel)) hK hP hD hS hA rfl (by decide +kernel) (by first | exact Nat.le_of_ble_eq_true rfl | (show _ ≤ (15 : Nat); omega)) (by first | exact Nat.le_of_ble_eq_true rfl | (show _ ≤ (311 : Nat); omega)) dX5_init_24 (fun bq H hP hD hS => ?_)
  have hP : va_P G.1 vwCl [(y, .inr (6, [.ref am, .ref q, .null])), (am, zaL (G.2 0) 41 (fun _ => 0)), (q, .inr (2, [.ref sa, .ref da, .ref wa, .long (lz (1)), .long (lz (1)), .int (iz (0))])), (sa, .inr (9, [.ref sb, .int (iz (0)), .long (lz (0))])), (sb, zaL (G.2 0) 40 (fun _ => 0)), (da, .inr (9, [.ref db, .int (iz (0)), .long (lz (0))])), (db, zaL (G.2 0) 40 (fun _ => 0)), (wa, .inr (9, [.ref wb, .int (iz (0)), .long (lz (0))])), (wb, zaL (G.2 0) 40 (fun _ => 0)), (bq, .inr (2, [.null, .null, .null, .long (lz (0)), .long (lz (0)), .int (iz (0))]))] H := hP
  have hD : va_D A [(y, .inr (6, [.ref am, .ref q, .null])), (am, zaL (G.2 0) 41 (fun _ => 0)), (q, .inr (2, [.ref sa, .ref da, .ref wa, .long (lz (1)), .long (lz (1)), .int (iz (0))])), (sa, .inr (9, [.ref sb, .int (iz (0)), .long (lz (0))])), (sb, zaL (G.2 0) 40 (fun _ => 0)), (da, .inr (9, [.ref db, .int (iz (0)), .long (lz (0))])), (db, zaL (G.2 0) 40 (fun _ => 0)), (wa, .inr (9, [.ref wb, .int (iz (0)), .long (lz (0))])), (wb, zaL (G.2 0) 40 (fun _ => 0)), (bq, .inr (2, [.null, .null, .null, .long (lz (0)), .long (lz (0)), .int (iz (0))]))] := hD
  refine lv_dup hx hb dX5_init_27 rfl ?_
  refine zc_v (wr := [(y, .inr (6, [.ref am, .ref q, .null])), (am, zaL (G.2 0) 41 (fun _ => 0)), (q, .inr (2, [.ref sa, .ref da, .ref wa, .long (lz (1)), .long (lz (1)), .int (iz (0))])), (sa, .inr (9, [.ref sb, .int (iz (0)), .long (lz (0))])), (sb, zaL (G.2 0) 40 (fun _ => 0)), (da, .inr (9, [.ref db, .int (iz (0)), .long (lz (0))])), (db, zaL (G.2 0) 40 (fun _ => 0)), (wa, .inr (9, [.ref wb, .int (iz (0)), .long (lz (0))])), (wb, zaL (G.2 0) 40 (fun _ => 0))]) (va_runIN (As := []) (rest := [.ref bq, .ref y]) ⟨hx, hb, hml, hown, hts⟩ (c_X1_init l G bq  H.size) ⟨va_cnB 0 hts gX5_init_X1_init_n17 rfl rfl rfl (hKX.2.2.2 (.methodLinkNest "AnnuityHouse$Row" 17 ⟨"AnnuityHouse$Flow", "<init>", "()V"⟩ "AnnuityHouse") (by decide +kernel)) (hts (.initialized RX1) (by decide +kernel)) (by decide +kernel) ⟨Nat.le_of_ble_eq_true rfl, Nat.le_of_ble_eq_true rfl⟩, rfl, hts (.instanceMethod yX1_init) (by decide +kernel)⟩ (zpS hKX hP hD [9] rfl rfl) rfl rfl hl.1 rfl (lv_room (Nat.le_of_ble_eq_true rfl)) dX5_init_28 ⟨(by first | exact Nat.le_of_ble_eq_true rfl | (show _ ≤ (15 : Nat); omega)), (by first | exact Nat.le_of_ble_eq_true rfl | (show _ ≤ (311 : Nat); omega))⟩) hP hD hS hA [9] [0, 1, 2, 3, 4, 5, 6, 7, 8] rfl rfl rfl (by decide) (fun u_5 H locs t2 hP hD hS => ?_)
  obtain ⟨bsa, bsb, bda, bdb, bwa, bwb⟩ := u_5
  have hP : va_P G.1 vwCl [(y, .inr (6, [.ref am, .ref q, .null])), (am, zaL (G.2 0) 41 (fun _ => 0)), (q, .inr (2, [.ref sa, .ref da, .ref wa, .long (lz (1)), .long (lz (1)), .int (iz (0))])), (sa, .inr (9, [.ref sb, .int (iz (0)), .long (lz (0))])), (sb, zaL (G.2 0) 40 (fun _ => 0)), (da, .inr (9, [.ref db, .int (iz (0)), .long (lz (0))])), (db, zaL (G.2 0) 40 (fun _ => 0)), (wa, .inr (9, [.ref wb, .int (iz (0)), .long (lz (0))])), (wb, zaL (G.2 0) 40 (fun _ => 0)), (bq, .inr (2, [.ref bsa, .ref bda, .ref bwa, .long (lz (1)), .long (lz (1)), .int (iz (0))])), (bsa, .inr (9, [.ref bsb, .int (iz (0)), .long (lz (0))])), (bsb, zaL (G.2 0) 40 (fun _ => 0)), (bda, .inr (9, [.ref bdb, .int (iz (0)), .long (lz (0))])), (bdb, zaL (G.2 0) 40 (fun _ => 0)), (bwa, .inr (9, [.ref bwb, .int (iz (0)), .long (lz (0))])), (bwb, zaL (G.2 0) 40 (fun _ => 0))] H := hP
  have hD : va_D A [(y, .inr (6, [.ref am, .ref q, .null])), (am, zaL (G.2 0) 41 (fun _ => 0)), (q, .inr (2, [.ref sa, .ref da, .ref wa, .long (lz (1)), .long (lz (1)), .int (iz (0))])), (sa, .inr (9, [.ref sb, .int (iz (0)), .long (lz (0))])), (sb, zaL (G.2 0) 40 (fun _ => 0)), (da, .inr (9, [.ref db, .int (iz (0)), .long (lz (0))])), (db, zaL (G.2 0) 40 (fun _ => 0)), (wa, .inr (9, [.ref wb, .int (iz (0)), .long (lz (0))])), (wb, zaL (G.2 0) 40 (fun _ => 0)), (bq, .inr (2, [.ref bsa, .ref bda, .ref bwa, .long (lz (1)), .long (lz (1)), .int (iz (0))])), (bsa, .inr (9, [.ref bsb, .int (iz (0)), .long (lz (0))])), (bsb, zaL (G.2 0) 40 (fun _ => 0)), (bda, .inr (9, [.ref bdb, .int (iz (0)), .long (lz (0))])), (bdb, zaL (G.2 0) 40 (fun _ => 0)), (bwa, .inr (9, [.ref bwb, .int (iz (0)), .long (lz (0))])), (bwb, zaL (G.2 0) 40 (fun _ => 0))] := hD
  refine va_putF (D := G.1) (ci := 6) (v := .ref bq) (ty := (.object "AnnuityHouse$Flow")) (C := RX5) (T := TX5) (N := 3) hx hb hts iwX5 tyX5 tyX5_ok nmX5 hown hK hP hD hS 0 rfl rfl 2 (by decide) (hts (.fieldLink RX5 22 "AnnuityHouse$Row" "backFlow" "LAnnuityHouse$Flow;") (by decide +kernel)) (fun _ h9 => h9) rfl hnm rfl (by decide +kernel) rfl rfl (Nat.le_of_ble_eq_true rfl) dX5_init_31 (fun H locs hP hD hS => ?_)
  have hP : va_P G.1 vwCl [(y, .inr (6, [.ref am, .ref q, .ref bq])), (am, zaL (G.2 0) 41 (fun _ => 0)), (q, .inr (2, [.ref sa, .ref da, .ref wa, .long (lz (1)), .long (lz (1)), .int (iz (0))])), (sa, .inr (9, [.ref sb, .int (iz (0)), .long (lz (0))])), (sb, zaL (G.2 0) 40 (fun _ => 0)), (da, .inr (9, [.ref db, .int (iz (0)), .long (lz (0))])), (db, zaL (G.2 0) 40 (fun _ => 0)), (wa, .inr (9, [.ref wb, .int (iz (0)), .long (lz (0))])), (wb, zaL (G.2 0) 40 (fun _ => 0)), (bq, .inr (2, [.ref bsa, .ref bda, .ref bwa, .long (lz (1)), .long (lz (1)), .int (iz (0))])), (bsa, .inr (9, [.ref bsb, .int (iz (0)), .long (lz (0))])), (bsb, zaL (G.2 0) 40 (fun _ => 0)), (bda, .inr (9, [.ref bdb, .int (iz (0)), .long (lz (0))])), (bdb, zaL (G.2 0) 40 (fun _ => 0)), (bwa, .inr (9, [.ref bwb, .int (iz (0)), .long (lz (0))])), (bwb, zaL (G.2 0) 40 (fun _ => 0))] H := hP
  have hD : va_D A [(y, .inr (6, [.ref am, .ref q, .ref bq])), (am, zaL (G.2 0) 41 (fun _ => 0)), (q, .inr (2, [.ref sa, .ref da, .ref wa, .long (lz (1)), .long (lz (1)), .int (iz (0))])), (sa, .inr (9, [.ref sb, .int (iz (0)), .long (lz (0))])), (sb, zaL (G.2 0) 40 (fun _ => 0)), (da, .inr (9, [.ref db, .int (iz (0)), .long (lz (0))])), (db, zaL (G.2 0) 40 (fun _ => 0)), (wa, .inr (9, [.ref wb, .int (iz (0)), .long (lz (0))])), (wb, zaL (G.2 0) 40 (fun _ => 0)), (bq, .inr (2, [.ref bsa, .ref bda, .ref bwa, .long (lz (1)), .long (lz (1)), .int (iz (0))])), (bsa, .inr (9, [.ref bsb, .int (iz (0)), .long (lz (0))])), (bsb, zaL (G.2 0) 40 (fun _ => 0)), (bda, .inr (9, [.ref bdb, .int (iz (0)), .long (lz (0))])), (bdb, zaL (G.2 0) 40 (fun _ => 0)), (bwa, .inr (9, [.ref bwb, .int (iz (0)), .long (lz (0))])), (bwb, zaL (G.2 0) 40 (fun _ => 0))] := hD
  rw [hQ]
  exact zr_vret (u := (am, q, sa, sb, da, db, wa, wb, bq, bsa, bsb, bda, bdb, bwa, bwb)) hx hb hr hlocks hP hD hS (by first | exact Nat.le_of_ble_eq_true rfl | omega) (by first | exact Nat.le_of_ble_eq_true rfl | omega) dX5_init_34 (show True from trivial)

def rm_c_X5_amountIn : Room := { frames := 0, cells := 0, slots := 0, locals := 0 }
theorem iw_X5_amountIn_X5 : ∀ w ∈ wsX50, w ∈ wsX5_amountIn := by decide +kernel
set_option maxHeartbeats 1000000 in
set_option maxRecDepth 100000 in
theorem c_X5_amountIn (l : Launch) (G : zG) (y : Nat) (am : Nat) (q : Nat) (bq : Nat) (f : Int → Int) (pe : Int) (h1 : 0 ≤ pe ∧ pe ≤ 40) : zM l G yX5_amountIn wsX5_amountIn rm_c_X5_amountIn [.ref y, .int (iz (pe))] [(y, .inr (6, [.ref am, .ref q, .ref bq])), (am, zaL (G.2 0) 41 (f))] (fun A => zQl G (fun (z : Int) (_ : Unit) => z = f pe) (fun (_ : Unit) => [(y, .inr (6, [.ref am, .ref q, .ref bq])), (am, zaL (G.2 0) 41 (f))]) A) 0 0 := by
  refine zM_of (cc := cX5_amountIn) (maxL := 2) (ret := (some .long)) (by decide) rfl (Nat.le_of_ble_eq_true rfl) ?_
  intro p e s m below meth c ls A Q hQ hx hb hr hts hown hlocks hml hnm hKX hP hD hA hS hl
  have hK := hKX.1
  have iwX5 := iw_X5_amountIn_X5
  obtain ⟨H, hH⟩ : ∃ h, h = s.heap := ⟨_, rfl⟩
  obtain ⟨locs, hlo⟩ : ∃ h : List Loc, h = [] := ⟨_, rfl⟩
  have hS : va_S A s.heap H locs := by rw [hH, hlo]; exact hS
  have hP : va_P G.1 vwCl [(y, .inr (6, [.ref am, .ref q, .ref bq])), (am, zaL (G.2 0) 41 (f))] H := by rw [hH]; exact hP
  have hD : va_D A [(y, .inr (6, [.ref am, .ref q, .ref bq])), (am, zaL (G.2 0) 41 (f))] := hD
  have hl : lv_has ls 2 [(0, .ref y), (1, .int (iz (pe)))] := hl
  rw [← hH, ← hlo]
  refine lv_aload_n hx hb dX5_amountIn_0 rfl (lv_at hl 0 rfl) ?_
  refine va_get (D := G.1) (ci := 6) (v := .ref am) (C := RX5) (T := TX5) (N := 3) hx hb hts iwX5 hown hK hP 0 rfl rfl 0 (by decide) (hts (.fieldLink RX5 9 "AnnuityHouse$Row" "amounts" "[J") (by decide +kernel)) (fun _ h9 => h9) rfl dX5_amountIn_1 ?_
  refine lv_iload_n hx hb dX5_amountIn_4 rfl (lv_at hl 1 rfl) ?_
  refine zr_lald hx hb hK hP 1 0 rfl rfl (i := pe) (⟨by omega, by omega, by omega⟩) dX5_amountIn_5 ?_
  rw [hQ]
  exact zr_lret (z := f pe) (u := ()) hx hb hr hlocks hP hD hS (by first | exact Nat.le_of_ble_eq_true rfl | omega) (by first | exact Nat.le_of_ble_eq_true rfl | omega) dX5_amountIn_6 (show (f pe) = f pe from rfl)

def rm_c_X5_add_o : Room := { frames := 1, cells := 0, slots := 0, locals := 25 }
theorem iw_X5_add_X5 : ∀ w ∈ wsX50, w ∈ wsX5_add := by decide +kernel
set_option maxHeartbeats 1000000 in
set_option maxRecDepth 100000 in
theorem c_X5_add_o (l : Launch) (G : zG) (y : Nat) (am : Nat) (q : Nat) (bq : Nat) (fr : Int) (mn : Int) (mo : Int) (se : Int) (h1 : 0 ≤ fr ∧ 1 ≤ mn ∧ fr + mn ≤ 41 ∧ -1000000000 ≤ mo ∧ mo ≤ 1000000000 ∧ -1000000 ≤ se ∧ se ≤ 1000000) (h2 : ∀ j : Int, 0 ≤ j → j < mn → zamt (mo + j * se)) : zM l G yX5_add wsX5_add rm_c_X5_add_o [.ref y, .int (iz (fr)), .int (iz (mn)), .long (lz (mo)), .long (lz (se))] [(y, .inr (6, [.ref am, .ref q, .ref bq])), (am, zaL (G.2 0) 41 (fun _ => 0))] (fun A => zQv G (fun (f2 : (Int → Int)) => ∀ i, f2 i = zpmf fr mn mo se i) (fun (f2 : (Int → Int)) => [(y, .inr (6, [.ref am, .ref q, .ref bq])), (am, zaL (G.2 0) 41 (f2))]) A) 0 0 := by
  refine zM_of (cc := cX5_add) (maxL := 8) (ret := none) (by decide) rfl (Nat.le_of_ble_eq_true rfl) ?_
  intro p e s m below meth c ls A Q hQ hx hb hr hts hown hlocks hml hnm hKX hP hD hA hS hl
  have hK := hKX.1
  have iwX5 := iw_X5_add_X5
  obtain ⟨H, hH⟩ : ∃ h, h = s.heap := ⟨_, rfl⟩
  obtain ⟨locs, hlo⟩ : ∃ h : List Loc, h = [] := ⟨_, rfl⟩
  have hS : va_S A s.heap H locs := by rw [hH, hlo]; exact hS
  have hP : va_P G.1 vwCl [(y, .inr (6, [.ref am, .ref q, .ref bq])), (am, zaL (G.2 0) 41 (fun _ => 0))] H := by rw [hH]; exact hP
  have hD : va_D A [(y, .inr (6, [.ref am, .ref q, .ref bq])), (am, zaL (G.2 0) 41 (fun _ => 0))] := hD
  have hl : lv_has ls 8 [(0, .ref y), (1, .int (iz (fr))), (2, .int (iz (mn))), (3, .long (lz (mo))), (5, .long (lz (se)))] := hl
  rw [← hH, ← hlo]
  refine lv_iconst (v := iz (0)) hx hb dX5_add_0 rfl ?_
  refine lv_istore (lv' := [(7, .int (iz (0))), (0, .ref y), (1, .int (iz (fr))), (2, .int (iz (mn))), (3, .long (lz (mo))), (5, .long (lz (se)))]) hx hb dX5_add_1 hl (by decide) rfl (fun ls hl => ?_)
  have hl_3 : ∀ (zn_3 : Nat) (k : Int) (H : Heap) (locs : List Loc) (ls : Array Slot), (mn - k).toNat < zn_3 → (0 ≤ k ∧ k ≤ mn) → va_P G.1 vwCl [(y, .inr (6, [.ref am, .ref q, .ref bq])), (am, zaL (G.2 0) 41 (fun _ => 0))] H → va_D A [(y, .inr (6, [.ref am, .ref q, .ref bq])), (am, zaL (G.2 0) 41 (fun _ => 0))] → va_S A s.heap H locs → lv_has ls 8 [(7, .int (iz (k))), (0, .ref y), (1, .int (iz (fr))), (2, .int (iz (mn))), (3, .long (lz (mo))), (5, .long (lz (se)))] → W p l e rm_c_X5_add_o s m ([.ref y, .int (iz (fr)), .int (iz (mn)), .long (lz (mo)), .long (lz (se))] : List Value).toArray below meth c H locs 0 0 Q (F0 m 3 ls []) := by
    intro zn_3
    induction zn_3 with
    | zero => intro k H locs ls hm; exact absurd hm (Nat.not_lt_zero _)
    | succ zn_3 ih_3 =>
      intro k H locs ls hm_3 k1 hP hD hS hl
      refine lv_iload hx hb dX5_add_3 (lv_at hl 0 rfl) ?_
      refine lv_iload_n hx hb dX5_add_5 rfl (lv_at hl 3 rfl) ?_
      refine zr_icmp_ge (x := k) (y := mn) (tgt := 45) hx hb (⟨by omega, by omega⟩) (⟨by omega, by omega⟩) dX5_add_6 (by decide) (fun h_1 => ?_) (fun h_1 => ?_)
      ·
        refine lv_iconst (v := iz (0)) hx hb dX5_add_45 rfl ?_
        refine lv_istore (lv' := [(7, .int (iz (0))), (0, .ref y), (1, .int (iz (fr))), (2, .int (iz (mn))), (3, .long (lz (mo))), (5, .long (lz (se)))]) hx hb dX5_add_46 hl (by decide) rfl (fun ls hl => ?_)
        have hl_48 : ∀ (zn_48 : Nat) (k : Int) (f : Int → Int) (H : Heap) (locs : List Loc) (ls : Array Slot), (mn - k).toNat < zn_48 → (0 ≤ k ∧ k ≤ mn) → (∀ i, f i = zpmf fr k mo se i) → va_P G.1 vwCl [(y, .inr (6, [.ref am, .ref q, .ref bq])), (am, zaL (G.2 0) 41 (f))] H → va_D A [(y, .inr (6, [.ref am, .ref q, .ref bq])), (am, zaL (G.2 0) 41 (f))] → va_S A s.heap H locs → lv_has ls 8 [(7, .int (iz (k))), (0, .ref y), (1, .int (iz (fr))), (2, .int (iz (mn))), (3, .long (lz (mo))), (5, .long (lz (se)))] → W p l e rm_c_X5_add_o s m ([.ref y, .int (iz (fr)), .int (iz (mn)), .long (lz (mo)), .long (lz (se))] : List Value).toArray below meth c H locs 0 0 Q (F0 m 48 ls []) := by
          intro zn_48
          induction zn_48 with
          | zero => intro k f H locs ls hm; exact absurd hm (Nat.not_lt_zero _)
          | succ zn_48 ih_48 =>
            intro k f H locs ls hm_48 k1 k2 hP hD hS hl
            refine lv_iload hx hb dX5_add_48 (lv_at hl 0 rfl) ?_
            refine lv_iload_n hx hb dX5_add_50 rfl (lv_at hl 3 rfl) ?_
            refine zr_icmp_ge (x := k) (y := mn) (tgt := 80) hx hb (⟨by omega, by omega⟩) (⟨by omega, by omega⟩) dX5_add_51 (by decide) (fun h_2 => ?_) (fun h_2 => ?_)
            ·
              rw [hQ]
              exact zr_vret (u := (f)) hx hb hr hlocks hP hD hS (by first | exact Nat.le_of_ble_eq_true rfl | omega) (by first | exact Nat.le_of_ble_eq_true rfl | omega) dX5_add_80 (show ∀ i, f i = zpmf fr mn mo se i from fun i => by rw [k2 i, show k = mn by omega])
            ·
              have hfk := tpm_at k2
              refine lv_aload_n hx hb dX5_add_54 rfl (lv_at hl 1 rfl) ?_
              refine va_get (D := G.1) (ci := 6) (v := .ref am) (C := RX5) (T := TX5) (N := 3) hx hb hts iwX5 hown hK hP 0 rfl rfl 0 (by decide) (hts (.fieldLink RX5 9 "AnnuityHouse$Row" "amounts" "[J") (by decide +kernel)) (fun _ h9 => h9) rfl dX5_add_55 ?_
              refine lv_iload_n hx hb dX5_add_58 rfl (lv_at hl 2 rfl) ?_
              refine lv_iload hx hb dX5_add_59 (lv_at hl 0 rfl) ?_
              refine zr_iadd hx hb dX5_add_61 ?_
              refine lv_dup2_11 hx hb dX5_add_62 rfl rfl ?_
              refine zr_lald hx hb hK hP 1 0 rfl rfl (i := fr + k) (⟨by omega, by omega, by omega⟩) dX5_add_63 ?_
              refine lv_lload_n hx hb dX5_add_64 rfl (lv_at hl 4 rfl) ?_
              refine lv_iload hx hb dX5_add_65 (lv_at hl 0 rfl) ?_
              have hkr := tpm_rng (k := k) (se := se) (by omega) (by omega)
              refine zr_i2l hx hb (x := k) (⟨by omega, by omega⟩) dX5_add_67 ?_
              refine lv_lload hx hb dX5_add_68 (lv_at hl 5 rfl) ?_
              refine zr_lmul hx hb dX5_add_70 ?_
              refine zr_ladd hx hb dX5_add_71 ?_
              refine zr_ladd hx hb dX5_add_72 ?_
              refine zr_last hx hb hK hP hD hS 1 0 rfl rfl (i := fr + k) (x := (f (fr + k)) + (mo + (k * se))) (⟨by omega, by omega, by omega⟩) dX5_add_73 (fun H locs hP hD hS => ?_)
              have hP : va_P G.1 vwCl [(y, .inr (6, [.ref am, .ref q, .ref bq])), (am, zaL (G.2 0) 41 (zup f (fr + k) ((f (fr + k)) + (mo + (k * se)))))] H := hP
              have hD : va_D A [(y, .inr (6, [.ref am, .ref q, .ref bq])), (am, zaL (G.2 0) 41 (zup f (fr + k) ((f (fr + k)) + (mo + (k * se)))))] := hD
              refine lv_iinc (v := iz (k + 1)) (lv' := [(7, .int (iz (k + 1))), (0, .ref y), (1, .int (iz (fr))), (2, .int (iz (mn))), (3, .long (lz (mo))), (5, .long (lz (se)))]) hx hb dX5_add_74 hl (k := 0) rfl (by rw [show Int32.ofInt (1) = iz (1) from rfl, iz_add]) (by decide) rfl (fun ls hl => ?_)
              refine lv_goto (tgt := 48) hx hb dX5_add_77 (by decide) ?_
              exact ih_48 (k + 1) (zup f (fr + k) ((f (fr + k)) + (mo + (k * se)))) _ _ _ (by omega) (by omega) (tpm_up k1.1 k2 (by omega)) (hP) (hD) hS (hl)
        exact hl_48 ((mn - 0 : Int).toNat + 1) 0 (fun _ => 0) _ _ _ (Nat.lt_succ_self _) (by omega) (tpm_0 fr mo se) (hP) (hD) hS (hl)
      ·
        refine lv_aload_n hx hb dX5_add_9 rfl (lv_at hl 1 rfl) ?_
        refine va_get (D := G.1) (ci := 6) (v := .ref am) (C := RX5) (T := TX5) (N := 3) hx hb hts iwX5 hown hK hP 0 rfl rfl 0 (by decide) (hts (.fieldLink RX5 9 "AnnuityHouse$Row" "amounts" "[J") (by decide +kernel)) (fun _ h9 => h9) rfl dX5_add_10 ?_
        refine lv_iload_n hx hb dX5_add_13 rfl (lv_at hl 2 rfl) ?_
        refine lv_iload hx hb dX5_add_14 (lv_at hl 0 rfl) ?_
        refine zr_iadd hx hb dX5_add_16 ?_
        refine zr_lald hx hb hK hP 1 0 rfl rfl (i := fr + k) (⟨by omega, by omega, by omega⟩) dX5_add_17 ?_
        refine zr_eql (x := (fun _ => 0) (fr + k)) (y := 0) rfl ?_
        refine lv_lload_n hx hb dX5_add_18 rfl (lv_at hl 4 rfl) ?_
        refine zr_ladd hx hb dX5_add_19 ?_
        refine lv_iload hx hb dX5_add_20 (lv_at hl 0 rfl) ?_
        have hkr := tpm_rng (k := k) (se := se) (by omega) (by omega)
        refine zr_i2l hx hb (x := k) (⟨by omega, by omega⟩) dX5_add_22 ?_
        refine lv_lload hx hb dX5_add_23 (lv_at hl 5 rfl) ?_
        refine zr_lmul hx hb dX5_add_25 ?_
        refine zr_ladd hx hb dX5_add_26 ?_
        refine zr_ldc2 (z := -1000000000) hx hb hown (hts (.constantLong RX5 25 (-1000000000)) (by decide +kernel)) rfl dX5_add_27 ?_
        refine zr_ldc2 (z := 1000000000) hx hb hown (hts (.constantLong RX5 27 (1000000000)) (by decide +kernel)) rfl dX5_add_30 ?_
        have hfit := h2 k (by omega) (by omega)
        unfold zamt at hfit
        refine zc_z (wr := [(y, .inr (6, [.ref am, .ref q, .ref bq])), (am, zaL (G.2 0) 41 (fun _ => 0))]) (va_runSN (As := [.long (lz ((0 + mo) + (k * se))), .long (lz (-1000000000)), .long (lz (1000000000))]) (rest := []) ⟨hx, hb, hml, hown, hts⟩ (c_X9_isWithin l G ((0 + mo) + (k * se)) (-1000000000) 1000000000 (by omega) (by omega) (by omega) H.size) ⟨va_cnB 3 hts gX5_add_X9_isWithin_n29 rfl rfl rfl (hKX.2.2.2 (.methodLinkNest "AnnuityHouse$Row" 29 ⟨"AnnuityHouse", "isWithin", "(JJJ)Z"⟩ "AnnuityHouse") (by decide +kernel)) (hts (.initialized RX9) (by decide +kernel)) (by decide +kernel) ⟨Nat.le_of_ble_eq_true rfl, Nat.le_of_ble_eq_true rfl⟩, hts (.static yX9_isWithin) (by decide +kernel), trivial⟩ (zpS hKX hP hD [] rfl rfl) rfl rfl hl.1 rfl (lv_room (Nat.le_of_ble_eq_true rfl)) dX5_add_33 ⟨(by first | exact Nat.le_of_ble_eq_true rfl | (show _ ≤ (0 : Nat); omega)), (by first | exact Nat.le_of_ble_eq_true rfl | (show _ ≤ (0 : Nat); omega))⟩) hP hD hS hA [] [0, 1] rfl rfl rfl (by decide) (fun y1 u_3 H locs hy1 hP hD hS => ?_)
        have hP : va_P G.1 vwCl [(y, .inr (6, [.ref am, .ref q, .ref bq])), (am, zaL (G.2 0) 41 (fun _ => 0))] H := hP
        have hD : va_D A [(y, .inr (6, [.ref am, .ref q, .ref bq])), (am, zaL (G.2 0) 41 (fun _ => 0))] := hD
        have hy1 : y1 = decide ((-1000000000 : Int) ≤ ((0 + mo) + (k * se)) ∧ ((0 + mo) + (k * se)) ≤ (1000000000 : Int)) := hy1
        rw [show y1 = true from hy1.trans (decide_eq_true (by omega))]
        refine zc_v (wr := [(y, .inr (6, [.ref am, .ref q, .ref bq])), (am, zaL (G.2 0) 41 (fun _ => 0))]) (va_runSN (As := [.int (iz (zbb true))]) (rest := []) ⟨hx, hb, hml, hown, hts⟩ (c_X9_demandState_o l G   H.size) ⟨va_cnB 1 hts gX5_add_X9_demandState_n33 rfl rfl rfl (hKX.2.2.2 (.methodLinkNest "AnnuityHouse$Row" 33 ⟨"AnnuityHouse", "demandState", "(Z)V"⟩ "AnnuityHouse") (by decide +kernel)) (hts (.initialized RX9) (by decide +kernel)) (by decide +kernel) ⟨Nat.le_of_ble_eq_true rfl, Nat.le_of_ble_eq_true rfl⟩, hts (.static yX9_demandState) (by decide +kernel), trivial⟩ (zpS hKX hP hD [] rfl rfl) rfl rfl hl.1 rfl (lv_room (Nat.le_of_ble_eq_true rfl)) dX5_add_36 ⟨(by first | exact Nat.le_of_ble_eq_true rfl | (show _ ≤ (0 : Nat); omega)), (by first | exact Nat.le_of_ble_eq_true rfl | (show _ ≤ (0 : Nat); omega))⟩) hP hD hS hA [] [0, 1] rfl rfl rfl (by decide) (fun u_5 H locs td hP hD hS => ?_)
        have hP : va_P G.1 vwCl [(y, .inr (6, [.ref am, .ref q, .ref bq])), (am, zaL (G.2 0) 41 (fun _ => 0))] H := hP
        have hD : va_D A [(y, .inr (6, [.ref am, .ref q, .ref bq])), (am, zaL (G.2 0) 41 (fun _ => 0))] := hD
        refine lv_iinc (v := iz (k + 1)) (lv' := [(7, .int (iz (k + 1))), (0, .ref y), (1, .int (iz (fr))), (2, .int (iz (mn))), (3, .long (lz (mo))), (5, .long (lz (se)))]) hx hb dX5_add_39 hl (k := 0) rfl (by rw [show Int32.ofInt (1) = iz (1) from rfl, iz_add]) (by decide) rfl (fun ls hl => ?_)
        refine lv_goto (tgt := 3) hx hb dX5_add_42 (by decide) ?_
        refine W.widen (k := 0) (n := 0) (by omega) (by omega) ?_
        exact ih_3 (k + 1) _ _ _ (by omega) (by omega) (hP) (hD) hS (hl)
  exact hl_3 ((mn - 0 : Int).toNat + 1) 0 _ _ _ (Nat.lt_succ_self _) (by omega) (hP) (hD) hS (hl)

def rm_c_J7_fill : Room := { frames := 0, cells := 0, slots := 0, locals := 0 }
set_option maxHeartbeats 1000000 in
set_option maxRecDepth 100000 in
theorem c_J7_fill (l : Launch) (G : zG) (am : Nat) (f : Int → Int) (x : Int)  : zM l G yJ7_fill_d0a16 wsJ7_fill_d0a16 rm_c_J7_fill [.ref am, .long (lz (x))] [(am, zaL (G.2 0) 41 (f))] (fun A => zQv G (fun (f2 : (Int → Int)) => True) (fun (f2 : (Int → Int)) => [(am, zaL (G.2 0) 41 (f2))]) A) 0 0 := by
  refine zM_ofF (cc := cJ7_fill_d0a16) (maxL := 5) (ret := none) (by decide +kernel) rfl (Nat.le_of_ble_eq_true rfl) ?_
  intro p e s m below meth c ls A Q hQ hx hb hr hts hown hlocks hml hnm hKX hP hD hA hS hl
  have hK := hKX.1
  obtain ⟨H, hH⟩ : ∃ h, h = s.heap := ⟨_, rfl⟩
  obtain ⟨locs, hlo⟩ : ∃ h : List Loc, h = [] := ⟨_, rfl⟩
  have hS : va_S A s.heap H locs := by rw [hH, hlo]; exact hS
  have hP : va_P G.1 vwCl [(am, zaL (G.2 0) 41 (f))] H := by rw [hH]; exact hP
  have hD : va_D A [(am, zaL (G.2 0) 41 (f))] := hD
  have hl : lv_has ls 5 [(0, .ref am), (1, .long (lz (x)))] := hl
  rw [← hH, ← hlo]
  refine lv_iconst (v := iz (0)) hx hb dJ7_fill_d0a16_0 rfl ?_
  refine lv_istore_n (lv' := [(3, .int (iz (0))), (0, .ref am), (1, .long (lz (x)))]) hx hb dJ7_fill_d0a16_1 rfl hl (by decide) rfl (fun ls hl => ?_)
  refine lv_aload_n hx hb dJ7_fill_d0a16_2 rfl (lv_at hl 1 rfl) ?_
  refine zr_alenL hx hb hK hP 0 0 rfl rfl dJ7_fill_d0a16_3 ?_
  refine lv_istore (lv' := [(4, .int (iz (41))), (3, .int (iz (0))), (0, .ref am), (1, .long (lz (x)))]) hx hb dJ7_fill_d0a16_4 hl (by decide) rfl (fun ls hl => ?_)
  have hl_6 : ∀ (zn_6 : Nat) (i : Int) (g : Int → Int) (H : Heap) (locs : List Loc) (ls : Array Slot), (41 - i).toNat < zn_6 → (0 ≤ i ∧ i ≤ 41) → va_P G.1 vwCl [(am, zaL (G.2 0) 41 (g))] H → va_D A [(am, zaL (G.2 0) 41 (g))] → va_S A s.heap H locs → lv_has ls 5 [(4, .int (iz (41))), (3, .int (iz (i))), (0, .ref am), (1, .long (lz (x)))] → W p l e rm_c_J7_fill s m ([.ref am, .long (lz (x))] : List Value).toArray below meth c H locs 0 0 Q (F0 m 6 ls []) := by
    intro zn_6
    induction zn_6 with
    | zero => intro i g H locs ls hm; exact absurd hm (Nat.not_lt_zero _)
    | succ zn_6 ih_6 =>
      intro i g H locs ls hm_6 k1 hP hD hS hl
      refine lv_iload_n hx hb dJ7_fill_d0a16_6 rfl (lv_at hl 1 rfl) ?_
      refine lv_iload hx hb dJ7_fill_d0a16_7 (lv_at hl 0 rfl) ?_
      refine zr_icmp_ge (x := i) (y := 41) (tgt := 22) hx hb (⟨by omega, by omega⟩) (⟨by omega, by omega⟩) dJ7_fill_d0a16_9 (by decide) (fun h_1 => ?_) (fun h_1 => ?_)
      ·
        rw [hQ]
        exact zr_vret (u := (g)) hx hb hr hlocks hP hD hS (by first | exact Nat.le_of_ble_eq_true rfl | omega) (by first | exact Nat.le_of_ble_eq_true rfl | omega) dJ7_fill_d0a16_22 (show True from trivial)
      ·
        refine lv_aload_n hx hb dJ7_fill_d0a16_12 rfl (lv_at hl 2 rfl) ?_
        refine lv_iload_n hx hb dJ7_fill_d0a16_13 rfl (lv_at hl 1 rfl) ?_
        refine lv_lload_n hx hb dJ7_fill_d0a16_14 rfl (lv_at hl 3 rfl) ?_
        refine zr_last hx hb hK hP hD hS 0 0 rfl rfl (i := i) (x := x) (⟨by omega, by omega, by omega⟩) dJ7_fill_d0a16_15 (fun H locs hP hD hS => ?_)
        have hP : va_P G.1 vwCl [(am, zaL (G.2 0) 41 (zup g i x))] H := hP
        have hD : va_D A [(am, zaL (G.2 0) 41 (zup g i x))] := hD
        refine lv_iinc (v := iz (i + 1)) (lv' := [(3, .int (iz (i + 1))), (4, .int (iz (41))), (0, .ref am), (1, .long (lz (x)))]) hx hb dJ7_fill_d0a16_16 hl (k := 1) rfl (by rw [show Int32.ofInt (1) = iz (1) from rfl, iz_add]) (by decide) rfl (fun ls hl => ?_)
        refine lv_goto (tgt := 6) hx hb dJ7_fill_d0a16_19 (by decide) ?_
        exact ih_6 (i + 1) (zup g i x) _ _ _ (by omega) (by omega) (hP) (hD) hS (lv_sub hl [1, 0, 2, 3] rfl)
  exact hl_6 ((41 - 0 : Int).toNat + 1) 0 f _ _ _ (Nat.lt_succ_self _) (by omega) (hP) (hD) hS (hl)

def rm_c_X5_clear : Room := { frames := 1, cells := 0, slots := 0, locals := 24 }
theorem iw_X5_clear_X5 : ∀ w ∈ wsX50, w ∈ wsX5_clear := by decide +kernel
set_option maxHeartbeats 1000000 in
set_option maxRecDepth 100000 in
theorem c_X5_clear (l : Launch) (G : zG) (y : Nat) (am : Nat) (q : Nat) (bq : Nat) (f : Int → Int)  : zM l G yX5_clear wsX5_clear rm_c_X5_clear [.ref y] [(y, .inr (6, [.ref am, .ref q, .ref bq])), (am, zaL (G.2 0) 41 (f))] (fun A => zQv G (fun (f2 : (Int → Int)) => True) (fun (f2 : (Int → Int)) => [(y, .inr (6, [.ref am, .ref q, .ref bq])), (am, zaL (G.2 0) 41 (f2))]) A) 0 0 := by
  refine zM_of (cc := cX5_clear) (maxL := 1) (ret := none) (by decide) rfl (Nat.le_of_ble_eq_true rfl) ?_
  intro p e s m below meth c ls A Q hQ hx hb hr hts hown hlocks hml hnm hKX hP hD hA hS hl
  have hK := hKX.1
  have iwX5 := iw_X5_clear_X5
  obtain ⟨H, hH⟩ : ∃ h, h = s.heap := ⟨_, rfl⟩
  obtain ⟨locs, hlo⟩ : ∃ h : List Loc, h = [] := ⟨_, rfl⟩
  have hS : va_S A s.heap H locs := by rw [hH, hlo]; exact hS
  have hP : va_P G.1 vwCl [(y, .inr (6, [.ref am, .ref q, .ref bq])), (am, zaL (G.2 0) 41 (f))] H := by rw [hH]; exact hP
  have hD : va_D A [(y, .inr (6, [.ref am, .ref q, .ref bq])), (am, zaL (G.2 0) 41 (f))] := hD
  have hl : lv_has ls 1 [(0, .ref y)] := hl
  rw [← hH, ← hlo]
  refine lv_aload_n hx hb dX5_clear_0 rfl (lv_at hl 0 rfl) ?_
  refine va_get (D := G.1) (ci := 6) (v := .ref am) (C := RX5) (T := TX5) (N := 3) hx hb hts iwX5 hown hK hP 0 rfl rfl 0 (by decide) (hts (.fieldLink RX5 9 "AnnuityHouse$Row" "amounts" "[J") (by decide +kernel)) (fun _ h9 => h9) rfl dX5_clear_1 ?_
  refine lv_lconst (v := lz (0)) hx hb dX5_clear_4 rfl ?_
  refine zc_v (wr := [(y, .inr (6, [.ref am, .ref q, .ref bq]))]) (va_runS (As := [.ref am, .long (lz (0))]) (rest := []) ⟨hx, hb, hml, hown, hts⟩ (c_J7_fill l G am f 0  H.size) (va_cwS 2 hts gX5_clear_J7_fill_d0a16 rfl rfl rfl (by decide +kernel) ⟨Nat.le_of_ble_eq_true rfl, Nat.le_of_ble_eq_true rfl⟩) (zpS hKX hP hD [1] rfl rfl) rfl rfl hl.1 rfl (lv_room (Nat.le_of_ble_eq_true rfl)) dX5_clear_5 ⟨(by first | exact Nat.le_of_ble_eq_true rfl | (show _ ≤ (0 : Nat); omega)), (by first | exact Nat.le_of_ble_eq_true rfl | (show _ ≤ (0 : Nat); omega))⟩) hP hD hS hA [1] [0] rfl rfl rfl (by decide) (fun u_1 H locs t1 hP hD hS => ?_)
  generalize u_1 = f2 at hP hD t1
  have hP : va_P G.1 vwCl [(y, .inr (6, [.ref am, .ref q, .ref bq])), (am, zaL (G.2 0) 41 (f2))] H := hP
  have hD : va_D A [(y, .inr (6, [.ref am, .ref q, .ref bq])), (am, zaL (G.2 0) 41 (f2))] := hD
  rw [hQ]
  exact zr_vret (u := (f2)) hx hb hr hlocks hP hD hS (by first | exact Nat.le_of_ble_eq_true rfl | omega) (by first | exact Nat.le_of_ble_eq_true rfl | omega) dX5_clear_8 (show True from trivial)

def rm_c_X5_countPaying : Room := { frames := 0, cells := 0, slots := 0, locals := 0 }
theorem iw_X5_countPaying_X5 : ∀ w ∈ wsX50, w ∈ wsX5_countPaying := by decide +kernel
set_option maxHeartbeats 1000000 in
set_option maxRecDepth 100000 in
theorem c_X5_countPaying (l : Launch) (G : zG) (y : Nat) (am : Nat) (q : Nat) (bq : Nat) (f : Int → Int) (h1 : ∀ i, -2000000000 ≤ f i ∧ f i ≤ 2000000000) : zM l G yX5_countPaying wsX5_countPaying rm_c_X5_countPaying [.ref y] [(y, .inr (6, [.ref am, .ref q, .ref bq])), (am, zaL (G.2 0) 41 (f))] (fun A => zQi G (fun (z : Int) (_ : Unit) => z = zcnt f 41) (fun (_ : Unit) => [(y, .inr (6, [.ref am, .ref q, .ref bq])), (am, zaL (G.2 0) 41 (f))]) A) 0 0 := by
  refine zM_of (cc := cX5_countPaying) (maxL := 7) (ret := (some .int)) (by decide) rfl (Nat.le_of_ble_eq_true rfl) ?_
  intro p e s m below meth c ls A Q hQ hx hb hr hts hown hlocks hml hnm hKX hP hD hA hS hl
  have hK := hKX.1
  have iwX5 := iw_X5_countPaying_X5
  obtain ⟨H, hH⟩ : ∃ h, h = s.heap := ⟨_, rfl⟩
  obtain ⟨locs, hlo⟩ : ∃ h : List Loc, h = [] := ⟨_, rfl⟩
  have hS : va_S A s.heap H locs := by rw [hH, hlo]; exact hS
  have hP : va_P G.1 vwCl [(y, .inr (6, [.ref am, .ref q, .ref bq])), (am, zaL (G.2 0) 41 (f))] H := by rw [hH]; exact hP
  have hD : va_D A [(y, .inr (6, [.ref am, .ref q, .ref bq])), (am, zaL (G.2 0) 41 (f))] := hD
  have hl : lv_has ls 7 [(0, .ref y)] := hl
  rw [← hH, ← hlo]
  refine lv_iconst (v := iz (0)) hx hb dX5_countPaying_0 rfl ?_
  refine lv_istore_n (lv' := [(1, .int (iz (0))), (0, .ref y)]) hx hb dX5_countPaying_1 rfl hl (by decide) rfl (fun ls hl => ?_)
  refine lv_aload_n hx hb dX5_countPaying_2 rfl (lv_at hl 1 rfl) ?_
  refine va_get (D := G.1) (ci := 6) (v := .ref am) (C := RX5) (T := TX5) (N := 3) hx hb hts iwX5 hown hK hP 0 rfl rfl 0 (by decide) (hts (.fieldLink RX5 9 "AnnuityHouse$Row" "amounts" "[J") (by decide +kernel)) (fun _ h9 => h9) rfl dX5_countPaying_3 ?_
  refine lv_astore_n (lv' := [(2, .ref am), (1, .int (iz (0))), (0, .ref y)]) hx hb dX5_countPaying_6 rfl hl (by decide) rfl (fun ls hl => ?_)
  refine lv_aload_n hx hb dX5_countPaying_7 rfl (lv_at hl 0 rfl) ?_
  refine zr_alenL hx hb hK hP 1 0 rfl rfl dX5_countPaying_8 ?_
  refine lv_istore_n (lv' := [(3, .int (iz (41))), (2, .ref am), (1, .int (iz (0))), (0, .ref y)]) hx hb dX5_countPaying_9 rfl hl (by decide) rfl (fun ls hl => ?_)
  refine lv_iconst (v := iz (0)) hx hb dX5_countPaying_10 rfl ?_
  refine lv_istore (lv' := [(4, .int (iz (0))), (3, .int (iz (41))), (2, .ref am), (1, .int (iz (0))), (0, .ref y)]) hx hb dX5_countPaying_11 hl (by decide) rfl (fun ls hl => ?_)
  have hl_13 : ∀ (zn_13 : Nat) (i : Int) (w : Int) (H : Heap) (locs : List Loc) (ls : Array Slot), (41 - i).toNat < zn_13 → (0 ≤ i ∧ i ≤ 41) → (w = zcnt f i.toNat) → (0 ≤ w ∧ w ≤ i) → va_P G.1 vwCl [(y, .inr (6, [.ref am, .ref q, .ref bq])), (am, zaL (G.2 0) 41 (f))] H → va_D A [(y, .inr (6, [.ref am, .ref q, .ref bq])), (am, zaL (G.2 0) 41 (f))] → va_S A s.heap H locs → lv_has ls 7 [(4, .int (iz (i))), (3, .int (iz (41))), (2, .ref am), (1, .int (iz (w))), (0, .ref y)] → W p l e rm_c_X5_countPaying s m ([.ref y] : List Value).toArray below meth c H locs 0 0 Q (F0 m 13 ls []) := by
    intro zn_13
    induction zn_13 with
    | zero => intro i w H locs ls hm; exact absurd hm (Nat.not_lt_zero _)
    | succ zn_13 ih_13 =>
      intro i w H locs ls hm_13 k1 k2 k3 hP hD hS hl
      refine lv_iload hx hb dX5_countPaying_13 (lv_at hl 0 rfl) ?_
      refine lv_iload_n hx hb dX5_countPaying_15 rfl (lv_at hl 1 rfl) ?_
      refine zr_icmp_ge (x := i) (y := 41) (tgt := 46) hx hb (⟨by omega, by omega⟩) (⟨by omega, by omega⟩) dX5_countPaying_16 (by decide) (fun h_1 => ?_) (fun h_1 => ?_)
      ·
        refine lv_iload_n hx hb dX5_countPaying_46 rfl (lv_at hl 3 rfl) ?_
        rw [hQ]
        exact zr_iret (z := w) (u := ()) hx hb hr hlocks hP hD hS (by first | exact Nat.le_of_ble_eq_true rfl | omega) (by first | exact Nat.le_of_ble_eq_true rfl | omega) dX5_countPaying_47 (show w = zcnt f 41 from by rw [k2, show i = 41 by omega]; rfl)
      ·
        refine lv_aload_n hx hb dX5_countPaying_19 rfl (lv_at hl 2 rfl) ?_
        refine lv_iload hx hb dX5_countPaying_20 (lv_at hl 0 rfl) ?_
        refine zr_lald hx hb hK hP 1 0 rfl rfl (i := i) (⟨by omega, by omega, by omega⟩) dX5_countPaying_22 ?_
        refine lv_lstore (lv' := [(5, .long (lz (f i))), (4, .int (iz (i))), (3, .int (iz (41))), (2, .ref am), (1, .int (iz (w))), (0, .ref y)]) hx hb dX5_countPaying_23 hl (by decide) rfl (fun ls hl => ?_)
        have hfi := h1 i
        refine lv_iload_n hx hb dX5_countPaying_25 rfl (lv_at hl 4 rfl) ?_
        refine lv_lload hx hb dX5_countPaying_26 (lv_at hl 0 rfl) ?_
        refine lv_lconst (v := lz (0)) hx hb dX5_countPaying_28 rfl ?_
        refine zr_lcmp_eq (x := f i) (y := 0) (tgt := 37) hx hb (⟨by omega, by omega⟩) (⟨by omega, by omega⟩) dX5_countPaying_29 dX5_countPaying_30 (by decide) (fun h_2 => ?_) (fun h_2 => ?_)
        ·
          have hz0 := h_2
          refine lv_iconst (v := iz (0)) hx hb dX5_countPaying_37 rfl ?_
          refine zr_iadd hx hb dX5_countPaying_38 ?_
          refine lv_istore_n (lv' := [(1, .int (iz (w + 0))), (5, .long (lz (f i))), (4, .int (iz (i))), (3, .int (iz (41))), (2, .ref am), (0, .ref y)]) hx hb dX5_countPaying_39 rfl hl (by decide) rfl (fun ls hl => ?_)
          refine lv_iinc (v := iz (i + 1)) (lv' := [(4, .int (iz (i + 1))), (1, .int (iz (w + 0))), (5, .long (lz (f i))), (3, .int (iz (41))), (2, .ref am), (0, .ref y)]) hx hb dX5_countPaying_40 hl (k := 2) rfl (by rw [show Int32.ofInt (1) = iz (1) from rfl, iz_add]) (by decide) rfl (fun ls hl => ?_)
          refine lv_goto (tgt := 13) hx hb dX5_countPaying_43 (by decide) ?_
          exact ih_13 (i + 1) (w + 0) _ _ _ (by omega) (by omega) (by first | exact zcnt_t k1.1 k2 hz0 | exact zcnt_f k1.1 k2 hz0) (by omega) (hP) (hD) hS (lv_sub hl [0, 3, 4, 1, 5] rfl)
        ·
          have hz0 := h_2
          refine lv_iconst (v := iz (1)) hx hb dX5_countPaying_33 rfl ?_
          refine lv_goto (tgt := 38) hx hb dX5_countPaying_34 (by decide) ?_
          refine zr_iadd hx hb dX5_countPaying_38 ?_
          refine lv_istore_n (lv' := [(1, .int (iz (w + 1))), (5, .long (lz (f i))), (4, .int (iz (i))), (3, .int (iz (41))), (2, .ref am), (0, .ref y)]) hx hb dX5_countPaying_39 rfl hl (by decide) rfl (fun ls hl => ?_)
          refine lv_iinc (v := iz (i + 1)) (lv' := [(4, .int (iz (i + 1))), (1, .int (iz (w + 1))), (5, .long (lz (f i))), (3, .int (iz (41))), (2, .ref am), (0, .ref y)]) hx hb dX5_countPaying_40 hl (k := 2) rfl (by rw [show Int32.ofInt (1) = iz (1) from rfl, iz_add]) (by decide) rfl (fun ls hl => ?_)
          refine lv_goto (tgt := 13) hx hb dX5_countPaying_43 (by decide) ?_
          exact ih_13 (i + 1) (w + 1) _ _ _ (by omega) (by omega) (by first | exact zcnt_t k1.1 k2 hz0 | exact zcnt_f k1.1 k2 hz0) (by omega) (hP) (hD) hS (lv_sub hl [0, 3, 4, 1, 5] rfl)
  exact hl_13 ((41 - 0 : Int).toNat + 1) 0 0 _ _ _ (Nat.lt_succ_self _) (by omega) (rfl) (by omega) (hP) (hD) hS (hl)

def rm_c_X5_countChanges : Room := { frames := 0, cells := 0, slots := 0, locals := 0 }
theorem iw_X5_countChanges_X5 : ∀ w ∈ wsX50, w ∈ wsX5_countChanges := by decide +kernel
set_option maxHeartbeats 1000000 in
set_option maxRecDepth 100000 in
theorem c_X5_countChanges (l : Launch) (G : zG) (y : Nat) (am : Nat) (q : Nat) (bq : Nat)  : zM l G yX5_countChanges wsX5_countChanges rm_c_X5_countChanges [.ref y] [(y, .inr (6, [.ref am, .ref q, .ref bq])), (am, zaL (G.2 0) 41 (fun _ => 0))] (fun A => zQi G (fun (z : Int) (_ : Unit) => z = 0) (fun (_ : Unit) => [(y, .inr (6, [.ref am, .ref q, .ref bq])), (am, zaL (G.2 0) 41 (fun _ => 0))]) A) 0 0 := by
  refine zM_of (cc := cX5_countChanges) (maxL := 9) (ret := (some .int)) (by decide) rfl (Nat.le_of_ble_eq_true rfl) ?_
  intro p e s m below meth c ls A Q hQ hx hb hr hts hown hlocks hml hnm hKX hP hD hA hS hl
  have hK := hKX.1
  have iwX5 := iw_X5_countChanges_X5
  obtain ⟨H, hH⟩ : ∃ h, h = s.heap := ⟨_, rfl⟩
  obtain ⟨locs, hlo⟩ : ∃ h : List Loc, h = [] := ⟨_, rfl⟩
  have hS : va_S A s.heap H locs := by rw [hH, hlo]; exact hS
  have hP : va_P G.1 vwCl [(y, .inr (6, [.ref am, .ref q, .ref bq])), (am, zaL (G.2 0) 41 (fun _ => 0))] H := by rw [hH]; exact hP
  have hD : va_D A [(y, .inr (6, [.ref am, .ref q, .ref bq])), (am, zaL (G.2 0) 41 (fun _ => 0))] := hD
  have hl : lv_has ls 9 [(0, .ref y)] := hl
  rw [← hH, ← hlo]
  refine lv_iconst (v := iz (0)) hx hb dX5_countChanges_0 rfl ?_
  refine lv_istore_n (lv' := [(1, .int (iz (0))), (0, .ref y)]) hx hb dX5_countChanges_1 rfl hl (by decide) rfl (fun ls hl => ?_)
  refine lv_lconst (v := lz (0)) hx hb dX5_countChanges_2 rfl ?_
  refine lv_lstore_n (lv' := [(2, .long (lz (0))), (1, .int (iz (0))), (0, .ref y)]) hx hb dX5_countChanges_3 rfl hl (by decide) rfl (fun ls hl => ?_)
  refine lv_aload_n hx hb dX5_countChanges_4 rfl (lv_at hl 2 rfl) ?_
  refine va_get (D := G.1) (ci := 6) (v := .ref am) (C := RX5) (T := TX5) (N := 3) hx hb hts iwX5 hown hK hP 0 rfl rfl 0 (by decide) (hts (.fieldLink RX5 9 "AnnuityHouse$Row" "amounts" "[J") (by decide +kernel)) (fun _ h9 => h9) rfl dX5_countChanges_5 ?_
  refine lv_astore (lv' := [(4, .ref am), (2, .long (lz (0))), (1, .int (iz (0))), (0, .ref y)]) hx hb dX5_countChanges_8 hl (by decide) rfl (fun ls hl => ?_)
  refine lv_aload hx hb dX5_countChanges_10 (lv_at hl 0 rfl) ?_
  refine zr_alenL hx hb hK hP 1 0 rfl rfl dX5_countChanges_12 ?_
  refine lv_istore (lv' := [(5, .int (iz (41))), (4, .ref am), (2, .long (lz (0))), (1, .int (iz (0))), (0, .ref y)]) hx hb dX5_countChanges_13 hl (by decide) rfl (fun ls hl => ?_)
  refine lv_iconst (v := iz (0)) hx hb dX5_countChanges_15 rfl ?_
  refine lv_istore (lv' := [(6, .int (iz (0))), (5, .int (iz (41))), (4, .ref am), (2, .long (lz (0))), (1, .int (iz (0))), (0, .ref y)]) hx hb dX5_countChanges_16 hl (by decide) rfl (fun ls hl => ?_)
  have hl_18 : ∀ (zn_18 : Nat) (i : Int) (H : Heap) (locs : List Loc) (ls : Array Slot), (41 - i).toNat < zn_18 → (0 ≤ i ∧ i ≤ 41) → va_P G.1 vwCl [(y, .inr (6, [.ref am, .ref q, .ref bq])), (am, zaL (G.2 0) 41 (fun _ => 0))] H → va_D A [(y, .inr (6, [.ref am, .ref q, .ref bq])), (am, zaL (G.2 0) 41 (fun _ => 0))] → va_S A s.heap H locs → lv_has ls 9 [(6, .int (iz (i))), (5, .int (iz (41))), (4, .ref am), (2, .long (lz (0))), (1, .int (iz (0))), (0, .ref y)] → W p l e rm_c_X5_countChanges s m ([.ref y] : List Value).toArray below meth c H locs 0 0 Q (F0 m 18 ls []) := by
    intro zn_18
    induction zn_18 with
    | zero => intro i H locs ls hm; exact absurd hm (Nat.not_lt_zero _)
    | succ zn_18 ih_18 =>
      intro i H locs ls hm_18 k1 hP hD hS hl
      refine lv_iload hx hb dX5_countChanges_18 (lv_at hl 0 rfl) ?_
      refine lv_iload hx hb dX5_countChanges_20 (lv_at hl 1 rfl) ?_
      refine zr_icmp_ge (x := i) (y := 41) (tgt := 88) hx hb (⟨by omega, by omega⟩) (⟨by omega, by omega⟩) dX5_countChanges_22 (by decide) (fun h_1 => ?_) (fun h_1 => ?_)
      ·
        refine lv_iload_n hx hb dX5_countChanges_88 rfl (lv_at hl 4 rfl) ?_
        rw [hQ]
        exact zr_iret (z := 0) (u := ()) hx hb hr hlocks hP hD hS (by first | exact Nat.le_of_ble_eq_true rfl | omega) (by first | exact Nat.le_of_ble_eq_true rfl | omega) dX5_countChanges_89 (show 0 = 0 from rfl)
      ·
        refine lv_aload hx hb dX5_countChanges_25 (lv_at hl 2 rfl) ?_
        refine lv_iload hx hb dX5_countChanges_27 (lv_at hl 0 rfl) ?_
        refine zr_lald hx hb hK hP 1 0 rfl rfl (i := i) (⟨by omega, by omega, by omega⟩) dX5_countChanges_29 ?_
        refine zr_eql (x := (fun _ => 0) i) (y := 0) rfl ?_
        refine lv_lstore (lv' := [(7, .long (lz (0))), (6, .int (iz (i))), (5, .int (iz (41))), (4, .ref am), (2, .long (lz (0))), (1, .int (iz (0))), (0, .ref y)]) hx hb dX5_countChanges_30 hl (by decide) rfl (fun ls hl => ?_)
        refine lv_lload hx hb dX5_countChanges_32 (lv_at hl 0 rfl) ?_
        refine lv_lconst (v := lz (0)) hx hb dX5_countChanges_34 rfl ?_
        refine zr_lcmp_eq (x := 0) (y := 0) (tgt := 82) hx hb (⟨by omega, by omega⟩) (⟨by omega, by omega⟩) dX5_countChanges_35 dX5_countChanges_36 (by decide) (fun h_2 => ?_) (fun h_2 => ?_)
        ·
          refine lv_iinc (v := iz (i + 1)) (lv' := [(6, .int (iz (i + 1))), (7, .long (lz (0))), (5, .int (iz (41))), (4, .ref am), (2, .long (lz (0))), (1, .int (iz (0))), (0, .ref y)]) hx hb dX5_countChanges_82 hl (k := 1) rfl (by rw [show Int32.ofInt (1) = iz (1) from rfl, iz_add]) (by decide) rfl (fun ls hl => ?_)
          refine lv_goto (tgt := 18) hx hb dX5_countChanges_85 (by decide) ?_
          exact ih_18 (i + 1) _ _ _ (by omega) (by omega) (hP) (hD) hS (lv_sub hl [0, 2, 3, 4, 5, 6] rfl)
        · exact absurd h_2 (by omega)
  exact hl_18 ((41 - 0 : Int).toNat + 1) 0 _ _ _ (Nat.lt_succ_self _) (by omega) (hP) (hD) hS (hl)

def rm_c_X5_lastPaying : Room := { frames := 0, cells := 0, slots := 0, locals := 0 }
theorem iw_X5_lastPaying_X5 : ∀ w ∈ wsX50, w ∈ wsX5_lastPaying := by decide +kernel
set_option maxHeartbeats 1000000 in
set_option maxRecDepth 100000 in
theorem c_X5_lastPaying (l : Launch) (G : zG) (y : Nat) (am : Nat) (q : Nat) (bq : Nat)  : zM l G yX5_lastPaying wsX5_lastPaying rm_c_X5_lastPaying [.ref y] [(y, .inr (6, [.ref am, .ref q, .ref bq])), (am, zaL (G.2 0) 41 (fun _ => 0))] (fun A => zQi G (fun (z : Int) (_ : Unit) => z = 0) (fun (_ : Unit) => [(y, .inr (6, [.ref am, .ref q, .ref bq])), (am, zaL (G.2 0) 41 (fun _ => 0))]) A) 0 0 := by
  refine zM_of (cc := cX5_lastPaying) (maxL := 2) (ret := (some .int)) (by decide) rfl (Nat.le_of_ble_eq_true rfl) ?_
  intro p e s m below meth c ls A Q hQ hx hb hr hts hown hlocks hml hnm hKX hP hD hA hS hl
  have hK := hKX.1
  have iwX5 := iw_X5_lastPaying_X5
  obtain ⟨H, hH⟩ : ∃ h, h = s.heap := ⟨_, rfl⟩
  obtain ⟨locs, hlo⟩ : ∃ h : List Loc, h = [] := ⟨_, rfl⟩
  have hS : va_S A s.heap H locs := by rw [hH, hlo]; exact hS
  have hP : va_P G.1 vwCl [(y, .inr (6, [.ref am, .ref q, .ref bq])), (am, zaL (G.2 0) 41 (fun _ => 0))] H := by rw [hH]; exact hP
  have hD : va_D A [(y, .inr (6, [.ref am, .ref q, .ref bq])), (am, zaL (G.2 0) 41 (fun _ => 0))] := hD
  have hl : lv_has ls 2 [(0, .ref y)] := hl
  rw [← hH, ← hlo]
  refine lv_bipush (v := iz (40)) hx hb dX5_lastPaying_0 rfl ?_
  refine lv_istore_n (lv' := [(1, .int (iz (40))), (0, .ref y)]) hx hb dX5_lastPaying_2 rfl hl (by decide) rfl (fun ls hl => ?_)
  have hl_3 : ∀ (zn_3 : Nat) (i : Int) (H : Heap) (locs : List Loc) (ls : Array Slot), (i).toNat < zn_3 → (0 ≤ i ∧ i ≤ 40) → va_P G.1 vwCl [(y, .inr (6, [.ref am, .ref q, .ref bq])), (am, zaL (G.2 0) 41 (fun _ => 0))] H → va_D A [(y, .inr (6, [.ref am, .ref q, .ref bq])), (am, zaL (G.2 0) 41 (fun _ => 0))] → va_S A s.heap H locs → lv_has ls 2 [(1, .int (iz (i))), (0, .ref y)] → W p l e rm_c_X5_lastPaying s m ([.ref y] : List Value).toArray below meth c H locs 0 0 Q (F0 m 3 ls []) := by
    intro zn_3
    induction zn_3 with
    | zero => intro i H locs ls hm; exact absurd hm (Nat.not_lt_zero _)
    | succ zn_3 ih_3 =>
      intro i H locs ls hm_3 k1 hP hD hS hl
      refine lv_iload_n hx hb dX5_lastPaying_3 rfl (lv_at hl 0 rfl) ?_
      refine zr_if_le (x := i) (tgt := 24) hx hb (⟨by omega, by omega⟩) dX5_lastPaying_4 (by decide) (fun h_1 => ?_) (fun h_1 => ?_)
      ·
        refine lv_iload_n hx hb dX5_lastPaying_24 rfl (lv_at hl 0 rfl) ?_
        rw [hQ]
        exact zr_iret (z := i) (u := ()) hx hb hr hlocks hP hD hS (by first | exact Nat.le_of_ble_eq_true rfl | omega) (by first | exact Nat.le_of_ble_eq_true rfl | omega) dX5_lastPaying_25 (show i = 0 from by omega)
      ·
        refine lv_aload_n hx hb dX5_lastPaying_7 rfl (lv_at hl 1 rfl) ?_
        refine va_get (D := G.1) (ci := 6) (v := .ref am) (C := RX5) (T := TX5) (N := 3) hx hb hts iwX5 hown hK hP 0 rfl rfl 0 (by decide) (hts (.fieldLink RX5 9 "AnnuityHouse$Row" "amounts" "[J") (by decide +kernel)) (fun _ h9 => h9) rfl dX5_lastPaying_8 ?_
        refine lv_iload_n hx hb dX5_lastPaying_11 rfl (lv_at hl 0 rfl) ?_
        refine zr_lald hx hb hK hP 1 0 rfl rfl (i := i) (⟨by omega, by omega, by omega⟩) dX5_lastPaying_12 ?_
        refine zr_eql (x := (fun _ => 0) i) (y := 0) rfl ?_
        refine lv_lconst (v := lz (0)) hx hb dX5_lastPaying_13 rfl ?_
        refine zr_lcmp_ne (x := 0) (y := 0) (tgt := 24) hx hb (⟨by omega, by omega⟩) (⟨by omega, by omega⟩) dX5_lastPaying_14 dX5_lastPaying_15 (by decide) (fun h_2 => ?_) (fun h_2 => ?_)
        · exact absurd h_2 (by omega)
        ·
          refine lv_iinc (v := iz (i - 1)) (lv' := [(1, .int (iz (i - 1))), (0, .ref y)]) hx hb dX5_lastPaying_18 hl (k := 0) rfl (by rw [show Int32.ofInt (-1) = iz (-1) from rfl, iz_add]; exact congrArg iz (by omega)) (by decide) rfl (fun ls hl => ?_)
          refine lv_goto (tgt := 3) hx hb dX5_lastPaying_21 (by decide) ?_
          exact ih_3 (i - 1) _ _ _ (by omega) (by omega) (hP) (hD) hS (hl)
  exact hl_3 ((40 : Int).toNat + 1) 40 _ _ _ (Nat.lt_succ_self _) (by omega) (hP) (hD) hS (hl)

def rm_c_X5_carry : Room := { frames := 4, cells := 0, slots := 0, locals := 99 }
theorem iw_X5_carry_X5 : ∀ w ∈ wsX50, w ∈ wsX5_carry := by decide +kernel
set_option maxHeartbeats 1000000 in
set_option maxRecDepth 100000 in
theorem c_X5_carry (l : Launch) (G : zG) (y : Nat) (am : Nat) (q : Nat) (bq : Nat) (wa : Nat) (sa : Nat) (sb : Nat) (sf : Int → Int) (sn : Int) (st : Int) (da : Nat) (db : Nat) (df : Int → Int) (dn : Int) (dt : Int) (u0 : Int) (d0 : Int) (p0 : Int) (po : Int) (la : Int) (h2 : 0 ≤ la ∧ la ≤ 40) (h3 : 0 ≤ po ∧ po ≤ 20000) : zM l G yX5_carry wsX5_carry rm_c_X5_carry [.ref y, .int (iz (po)), .int (iz (la))] [(y, .inr (6, [.ref am, .ref q, .ref bq])), (am, zaL (G.2 0) 41 (fun _ => 0)), (q, .inr (2, [.ref sa, .ref da, .ref wa, .long (lz (u0)), .long (lz (d0)), .int (iz (p0))])), (sa, .inr (9, [.ref sb, .int (iz (sn)), .long (lz (st))])), (sb, zaL (G.2 0) 40 (sf)), (da, .inr (9, [.ref db, .int (iz (dn)), .long (lz (dt))])), (db, zaL (G.2 0) 40 (df))] (fun A => zQv G (fun (u : (Int → Int) × Int × Int × (Int → Int) × Int × Int × Int × Int × Int × Int) => zwv u.1 u.2.1 u.2.2.1 0 ∧ zfr u.2.2.2.2.2.2.2.2.1 u.2.2.2.2.2.2.1 u.2.2.2.2.2.2.2.1 po) (fun (u : (Int → Int) × Int × Int × (Int → Int) × Int × Int × Int × Int × Int × Int) => [(y, .inr (6, [.ref am, .ref q, .ref bq])), (am, zaL (G.2 0) 41 (fun _ => 0)), (q, .inr (2, [.ref sa, .ref da, .ref wa, .long (lz (u.2.2.2.2.2.2.1)), .long (lz (u.2.2.2.2.2.2.2.1)), .int (iz (u.2.2.2.2.2.2.2.2.2))])), (sa, .inr (9, [.ref sb, .int (iz (u.2.1)), .long (lz (u.2.2.1))])), (sb, zaL (G.2 0) 40 (u.1)), (da, .inr (9, [.ref db, .int (iz (u.2.2.2.2.1)), .long (lz (u.2.2.2.2.2.1))])), (db, zaL (G.2 0) 40 (u.2.2.2.1))]) A) 0 0 := by
  refine zM_of (cc := cX5_carry) (maxL := 4) (ret := none) (by decide) rfl (Nat.le_of_ble_eq_true rfl) ?_
  intro p e s m below meth c ls A Q hQ hx hb hr hts hown hlocks hml hnm hKX hP hD hA hS hl
  have hK := hKX.1
  have iwX5 := iw_X5_carry_X5
  obtain ⟨H, hH⟩ : ∃ h, h = s.heap := ⟨_, rfl⟩
  obtain ⟨locs, hlo⟩ : ∃ h : List Loc, h = [] := ⟨_, rfl⟩
  have hS : va_S A s.heap H locs := by rw [hH, hlo]; exact hS
  have hP : va_P G.1 vwCl [(y, .inr (6, [.ref am, .ref q, .ref bq])), (am, zaL (G.2 0) 41 (fun _ => 0)), (q, .inr (2, [.ref sa, .ref da, .ref wa, .long (lz (u0)), .long (lz (d0)), .int (iz (p0))])), (sa, .inr (9, [.ref sb, .int (iz (sn)), .long (lz (st))])), (sb, zaL (G.2 0) 40 (sf)), (da, .inr (9, [.ref db, .int (iz (dn)), .long (lz (dt))])), (db, zaL (G.2 0) 40 (df))] H := by rw [hH]; exact hP
  have hD : va_D A [(y, .inr (6, [.ref am, .ref q, .ref bq])), (am, zaL (G.2 0) 41 (fun _ => 0)), (q, .inr (2, [.ref sa, .ref da, .ref wa, .long (lz (u0)), .long (lz (d0)), .int (iz (p0))])), (sa, .inr (9, [.ref sb, .int (iz (sn)), .long (lz (st))])), (sb, zaL (G.2 0) 40 (sf)), (da, .inr (9, [.ref db, .int (iz (dn)), .long (lz (dt))])), (db, zaL (G.2 0) 40 (df))] := hD
  have hl : lv_has ls 4 [(0, .ref y), (1, .int (iz (po))), (2, .int (iz (la)))] := hl
  rw [← hH, ← hlo]
  refine lv_aload_n hx hb dX5_carry_0 rfl (lv_at hl 0 rfl) ?_
  refine va_get (D := G.1) (ci := 6) (v := .ref q) (C := RX5) (T := TX5) (N := 3) hx hb hts iwX5 hown hK hP 0 rfl rfl 1 (by decide) (hts (.fieldLink RX5 18 "AnnuityHouse$Row" "flow" "LAnnuityHouse$Flow;") (by decide +kernel)) (fun _ h9 => h9) rfl dX5_carry_1 ?_
  refine lv_iload_n hx hb dX5_carry_4 rfl (lv_at hl 1 rfl) ?_
  refine lv_aload_n hx hb dX5_carry_5 rfl (lv_at hl 0 rfl) ?_
  refine va_get (D := G.1) (ci := 6) (v := .ref am) (C := RX5) (T := TX5) (N := 3) hx hb hts iwX5 hown hK hP 0 rfl rfl 0 (by decide) (hts (.fieldLink RX5 9 "AnnuityHouse$Row" "amounts" "[J") (by decide +kernel)) (fun _ h9 => h9) rfl dX5_carry_6 ?_
  refine lv_iconst (v := iz (0)) hx hb dX5_carry_9 rfl ?_
  refine zr_lald hx hb hK hP 1 0 rfl rfl (i := 0) (⟨by omega, by omega, by omega⟩) dX5_carry_10 ?_
  refine zr_eql (x := (fun _ => 0) 0) (y := 0) rfl ?_
  refine zc_v (wr := [(y, .inr (6, [.ref am, .ref q, .ref bq])), (am, zaL (G.2 0) 41 (fun _ => 0))]) (va_runV (As := [.int (iz (po)), .long (lz (0))]) (rest := []) ⟨hx, hb, hml, hown, hts⟩ (c_X1_begin l G q wa sa sb sf sn st da db df dn dt u0 d0 p0 po 0 (by omega) (by omega) H.size) (cwV 2 hts gX5_carry_X1_begin rfl rfl rfl (by decide +kernel) ⟨Nat.le_of_ble_eq_true rfl, Nat.le_of_ble_eq_true rfl⟩) (zpV hKX hP hD [2, 3, 4, 5, 6] rfl rfl 2 2 rfl rfl) rfl rfl hl.1 rfl (lv_room (Nat.le_of_ble_eq_true rfl)) dX5_carry_11 ⟨(by first | exact Nat.le_of_ble_eq_true rfl | (show _ ≤ (0 : Nat); omega)), (by first | exact Nat.le_of_ble_eq_true rfl | (show _ ≤ (0 : Nat); omega))⟩) hP hD hS hA [2, 3, 4, 5, 6] [0, 1] rfl rfl rfl (by decide) (fun u_1 H locs hbg hP hD hS => ?_)
  obtain ⟨sf1, sn1, st1, df1, dn1, dt1, ru, rd, g⟩ := u_1
  have hP : va_P G.1 vwCl [(y, .inr (6, [.ref am, .ref q, .ref bq])), (am, zaL (G.2 0) 41 (fun _ => 0)), (q, .inr (2, [.ref sa, .ref da, .ref wa, .long (lz (ru)), .long (lz (rd)), .int (iz (0))])), (sa, .inr (9, [.ref sb, .int (iz (sn1)), .long (lz (st1))])), (sb, zaL (G.2 0) 40 (sf1)), (da, .inr (9, [.ref db, .int (iz (dn1)), .long (lz (dt1))])), (db, zaL (G.2 0) 40 (df1))] H := hP
  have hD : va_D A [(y, .inr (6, [.ref am, .ref q, .ref bq])), (am, zaL (G.2 0) 41 (fun _ => 0)), (q, .inr (2, [.ref sa, .ref da, .ref wa, .long (lz (ru)), .long (lz (rd)), .int (iz (0))])), (sa, .inr (9, [.ref sb, .int (iz (sn1)), .long (lz (st1))])), (sb, zaL (G.2 0) 40 (sf1)), (da, .inr (9, [.ref db, .int (iz (dn1)), .long (lz (dt1))])), (db, zaL (G.2 0) 40 (df1))] := hD
  have hbg : zwv sf1 sn1 st1 (0 : Int) ∧ zwv df1 dn1 dt1 1 ∧ zfr g ru rd po := hbg
  have hfr := hbg.2.2
  have hrg := hfr.rng h3
  refine lv_iconst (v := iz (1)) hx hb dX5_carry_14 rfl ?_
  refine lv_istore_n (lv' := [(3, .int (iz (1))), (0, .ref y), (1, .int (iz (po))), (2, .int (iz (la)))]) hx hb dX5_carry_15 rfl hl (by decide) rfl (fun ls hl => ?_)
  have hl_16 : ∀ (zn_16 : Nat) (i : Int) (pq : Int) (sg : Int → Int) (sm : Int) (su : Int) (dg : Int → Int) (dm : Int) (du : Int) (H : Heap) (locs : List Loc) (ls : Array Slot), (la + 1 - i).toNat < zn_16 → (1 ≤ i ∧ i ≤ la + 1) → (zwv sg sm su 0) → (zwv dg dm du (rd ^ (i - 1).toNat)) → va_P G.1 vwCl [(y, .inr (6, [.ref am, .ref q, .ref bq])), (am, zaL (G.2 0) 41 (fun _ => 0)), (q, .inr (2, [.ref sa, .ref da, .ref wa, .long (lz (ru)), .long (lz (rd)), .int (iz (pq))])), (sa, .inr (9, [.ref sb, .int (iz (sm)), .long (lz (su))])), (sb, zaL (G.2 0) 40 (sg)), (da, .inr (9, [.ref db, .int (iz (dm)), .long (lz (du))])), (db, zaL (G.2 0) 40 (dg))] H → va_D A [(y, .inr (6, [.ref am, .ref q, .ref bq])), (am, zaL (G.2 0) 41 (fun _ => 0)), (q, .inr (2, [.ref sa, .ref da, .ref wa, .long (lz (ru)), .long (lz (rd)), .int (iz (pq))])), (sa, .inr (9, [.ref sb, .int (iz (sm)), .long (lz (su))])), (sb, zaL (G.2 0) 40 (sg)), (da, .inr (9, [.ref db, .int (iz (dm)), .long (lz (du))])), (db, zaL (G.2 0) 40 (dg))] → va_S A s.heap H locs → lv_has ls 4 [(3, .int (iz (i))), (0, .ref y), (1, .int (iz (po))), (2, .int (iz (la)))] → W p l e rm_c_X5_carry s m ([.ref y, .int (iz (po)), .int (iz (la))] : List Value).toArray below meth c H locs (0 + 0) (0 + 0) Q (F0 m 16 ls []) := by
    intro zn_16
    induction zn_16 with
    | zero => intro i pq sg sm su dg dm du H locs ls hm; exact absurd hm (Nat.not_lt_zero _)
    | succ zn_16 ih_16 =>
      intro i pq sg sm su dg dm du H locs ls hm_16 k1 k2 k3 hP hD hS hl
      refine lv_iload_n hx hb dX5_carry_16 rfl (lv_at hl 0 rfl) ?_
      refine lv_iload_n hx hb dX5_carry_17 rfl (lv_at hl 3 rfl) ?_
      refine zr_icmp_gt (x := i) (y := la) (tgt := 40) hx hb (⟨by omega, by omega⟩) (⟨by omega, by omega⟩) dX5_carry_18 (by decide) (fun h_4 => ?_) (fun h_4 => ?_)
      ·
        rw [hQ]
        exact zr_vret (u := (sg, sm, su, dg, dm, du, ru, rd, g, pq)) hx hb hr hlocks hP hD hS (by first | exact Nat.le_of_ble_eq_true rfl | omega) (by first | exact Nat.le_of_ble_eq_true rfl | omega) dX5_carry_40 (show zwv sg sm su 0 ∧ zfr g ru rd po from ⟨k2, hfr⟩)
      ·
        refine lv_aload_n hx hb dX5_carry_21 rfl (lv_at hl 1 rfl) ?_
        refine va_get (D := G.1) (ci := 6) (v := .ref q) (C := RX5) (T := TX5) (N := 3) hx hb hts iwX5 hown hK hP 0 rfl rfl 1 (by decide) (hts (.fieldLink RX5 18 "AnnuityHouse$Row" "flow" "LAnnuityHouse$Flow;") (by decide +kernel)) (fun _ h9 => h9) rfl dX5_carry_22 ?_
        refine lv_aload_n hx hb dX5_carry_25 rfl (lv_at hl 1 rfl) ?_
        refine va_get (D := G.1) (ci := 6) (v := .ref am) (C := RX5) (T := TX5) (N := 3) hx hb hts iwX5 hown hK hP 0 rfl rfl 0 (by decide) (hts (.fieldLink RX5 9 "AnnuityHouse$Row" "amounts" "[J") (by decide +kernel)) (fun _ h9 => h9) rfl dX5_carry_26 ?_
        refine lv_iload_n hx hb dX5_carry_29 rfl (lv_at hl 0 rfl) ?_
        refine zr_lald hx hb hK hP 1 0 rfl rfl (i := i) (⟨by omega, by omega, by omega⟩) dX5_carry_30 ?_
        refine zr_eql (x := (fun _ => 0) i) (y := 0) rfl ?_
        have hs1 := zwv_small k2 (k := 37) (by decide +kernel) (by decide +kernel)
        have hb2 := zrp (P := rd) (k := i - 1) (by omega) (by omega)
        have hs2 := zwv_small k3 (k := 37) (zB35_37 ⟨by omega, hb2.2⟩).2.2 (zB35_37 ⟨by omega, hb2.2⟩).2.1
        have hb3 := zrp (P := rd) (k := i - 1 + 1) (by omega) (by omega)
        rw [show rd ^ (i - 1 + 1).toNat = rd ^ (i - 1).toNat * rd from by rw [show (i - 1 + 1).toNat = (i - 1).toNat + 1 by omega, Int.pow_succ]] at hb3
        have hb4 := zB35_37 ⟨by omega, hb3.2⟩
        refine zc_v (wr := [(y, .inr (6, [.ref am, .ref q, .ref bq])), (am, zaL (G.2 0) 41 (fun _ => 0))]) (va_runV (As := [.long (lz (0))]) (rest := []) ⟨hx, hb, hml, hown, hts⟩ (c_X1_next l G q wa sa sb sg sm su da db dg dm du ru rd pq 0 (rd ^ (i - 1).toNat) 0 (k2) (k3) (by omega) (by omega) (by omega) (⟨hb4.2.2, hb4.2.1⟩) H.size) (cwV 1 hts gX5_carry_X1_next rfl rfl rfl (by decide +kernel) ⟨Nat.le_of_ble_eq_true rfl, Nat.le_of_ble_eq_true rfl⟩) (zpV hKX hP hD [2, 3, 4, 5, 6] rfl rfl 2 2 rfl rfl) rfl rfl hl.1 rfl (lv_room (Nat.le_of_ble_eq_true rfl)) dX5_carry_31 ⟨(by first | exact Nat.le_of_ble_eq_true rfl | (show _ ≤ (0 : Nat); omega)), (by first | exact Nat.le_of_ble_eq_true rfl | (show _ ≤ (0 : Nat); omega))⟩) hP hD hS hA [2, 3, 4, 5, 6] [0, 1] rfl rfl rfl (by decide) (fun u_5 H locs qn hP hD hS => ?_)
        obtain ⟨sf3, sn3, st3, df3, dn3, dt3⟩ := u_5
        have hP : va_P G.1 vwCl [(y, .inr (6, [.ref am, .ref q, .ref bq])), (am, zaL (G.2 0) 41 (fun _ => 0)), (q, .inr (2, [.ref sa, .ref da, .ref wa, .long (lz (ru)), .long (lz (rd)), .int (iz (pq + 1))])), (sa, .inr (9, [.ref sb, .int (iz (sn3)), .long (lz (st3))])), (sb, zaL (G.2 0) 40 (sf3)), (da, .inr (9, [.ref db, .int (iz (dn3)), .long (lz (dt3))])), (db, zaL (G.2 0) 40 (df3))] H := hP
        have hD : va_D A [(y, .inr (6, [.ref am, .ref q, .ref bq])), (am, zaL (G.2 0) 41 (fun _ => 0)), (q, .inr (2, [.ref sa, .ref da, .ref wa, .long (lz (ru)), .long (lz (rd)), .int (iz (pq + 1))])), (sa, .inr (9, [.ref sb, .int (iz (sn3)), .long (lz (st3))])), (sb, zaL (G.2 0) 40 (sf3)), (da, .inr (9, [.ref db, .int (iz (dn3)), .long (lz (dt3))])), (db, zaL (G.2 0) 40 (df3))] := hD
        have qn : zwv sf3 sn3 st3 ((0 : Int) * ru + (rd ^ (i - 1).toNat) * rd * (0 : Int)) ∧ zwv df3 dn3 dt3 ((rd ^ (i - 1).toNat) * rd) := qn
        have qs := qn.1
        rw [zcz_z] at qs
        have qd := qn.2
        refine lv_iinc (v := iz (i + 1)) (lv' := [(3, .int (iz (i + 1))), (0, .ref y), (1, .int (iz (po))), (2, .int (iz (la)))]) hx hb dX5_carry_34 hl (k := 0) rfl (by rw [show Int32.ofInt (1) = iz (1) from rfl, iz_add]) (by decide) rfl (fun ls hl => ?_)
        refine lv_goto (tgt := 16) hx hb dX5_carry_37 (by decide) ?_
        refine W.widen (k := 0 + 0) (n := 0 + 0) (by omega) (by omega) ?_
        exact ih_16 (i + 1) (pq + 1) sf3 sn3 st3 df3 dn3 dt3 _ _ _ (by omega) (by omega) (qs) (by rw [show (i + 1 - 1).toNat = (i - 1).toNat + 1 by omega, Int.pow_succ]; exact qd) (hP) (hD) hS (hl)
  exact hl_16 ((la + 1 - 1 : Int).toNat + 1) 1 0 sf1 sn1 st1 df1 dn1 dt1 _ _ _ (Nat.lt_succ_self _) (by omega) (hbg.1) (by simpa using hbg.2.1) (hP) (hD) hS (hl)

def rm_c_X5_worthIn : Room := { frames := 5, cells := 0, slots := 0, locals := 122 }
theorem iw_X5_worthIn_X1 : ∀ w ∈ wsX10, w ∈ wsX5_worthIn := by decide +kernel
theorem iw_X5_worthIn_X5 : ∀ w ∈ wsX50, w ∈ wsX5_worthIn := by decide +kernel
set_option maxHeartbeats 1000000 in
set_option maxRecDepth 100000 in
theorem c_X5_worthIn (l : Launch) (G : zG) (y : Nat) (am : Nat) (q : Nat) (bq : Nat) (r : Nat) (sa : Nat) (sb : Nat) (sf : Int → Int) (sn : Int) (st : Int) (da : Nat) (db : Nat) (df : Int → Int) (dn : Int) (dt : Int) (wa : Nat) (wb : Nat) (wf : Int → Int) (wn : Int) (wt : Int) (u0 : Int) (d0 : Int) (p0 : Int) (pe : Int) (po : Int) (h2 : 0 ≤ pe ∧ pe ≤ 40) (h3 : 0 ≤ po ∧ po ≤ 20000) : zM l G yX5_worthIn wsX5_worthIn rm_c_X5_worthIn [.ref y, .int (iz (pe)), .int (iz (po)), .ref r] [(y, .inr (6, [.ref am, .ref q, .ref bq])), (am, zaL (G.2 0) 41 (fun _ => 0)), (q, .inr (2, [.ref sa, .ref da, .ref wa, .long (lz (u0)), .long (lz (d0)), .int (iz (p0))])), (sa, .inr (9, [.ref sb, .int (iz (sn)), .long (lz (st))])), (sb, zaL (G.2 0) 40 (sf)), (da, .inr (9, [.ref db, .int (iz (dn)), .long (lz (dt))])), (db, zaL (G.2 0) 40 (df)), (wa, .inr (9, [.ref wb, .int (iz (wn)), .long (lz (wt))])), (wb, zaL (G.2 0) 40 (wf)), (r, .inr (5, [.int (iz (6))]))] (fun A => zQl G (fun (z : Int) (u : (Int → Int) × Int × Int × (Int → Int) × Int × Int × (Int → Int) × Int × Int × Int × Int × Int) => z = 0) (fun (u : (Int → Int) × Int × Int × (Int → Int) × Int × Int × (Int → Int) × Int × Int × Int × Int × Int) => [(y, .inr (6, [.ref am, .ref q, .ref bq])), (am, zaL (G.2 0) 41 (fun _ => 0)), (q, .inr (2, [.ref sa, .ref da, .ref wa, .long (lz (u.2.2.2.2.2.2.2.2.2.1)), .long (lz (u.2.2.2.2.2.2.2.2.2.2.1)), .int (iz (u.2.2.2.2.2.2.2.2.2.2.2))])), (sa, .inr (9, [.ref sb, .int (iz (u.2.1)), .long (lz (u.2.2.1))])), (sb, zaL (G.2 0) 40 (u.1)), (da, .inr (9, [.ref db, .int (iz (u.2.2.2.2.1)), .long (lz (u.2.2.2.2.2.1))])), (db, zaL (G.2 0) 40 (u.2.2.2.1)), (wa, .inr (9, [.ref wb, .int (iz (u.2.2.2.2.2.2.2.1)), .long (lz (u.2.2.2.2.2.2.2.2.1))])), (wb, zaL (G.2 0) 40 (u.2.2.2.2.2.2.1)), (r, .inr (5, [.int (iz (6))]))]) A) 0 0 := by
  refine zM_of (cc := cX5_worthIn) (maxL := 6) (ret := (some .long)) (by decide) rfl (Nat.le_of_ble_eq_true rfl) ?_
  intro p e s m below meth c ls A Q hQ hx hb hr hts hown hlocks hml hnm hKX hP hD hA hS hl
  have hK := hKX.1
  have iwX1 := iw_X5_worthIn_X1
  have iwX5 := iw_X5_worthIn_X5
  obtain ⟨H, hH⟩ : ∃ h, h = s.heap := ⟨_, rfl⟩
  obtain ⟨locs, hlo⟩ : ∃ h : List Loc, h = [] := ⟨_, rfl⟩
  have hS : va_S A s.heap H locs := by rw [hH, hlo]; exact hS
  have hP : va_P G.1 vwCl [(y, .inr (6, [.ref am, .ref q, .ref bq])), (am, zaL (G.2 0) 41 (fun _ => 0)), (q, .inr (2, [.ref sa, .ref da, .ref wa, .long (lz (u0)), .long (lz (d0)), .int (iz (p0))])), (sa, .inr (9, [.ref sb, .int (iz (sn)), .long (lz (st))])), (sb, zaL (G.2 0) 40 (sf)), (da, .inr (9, [.ref db, .int (iz (dn)), .long (lz (dt))])), (db, zaL (G.2 0) 40 (df)), (wa, .inr (9, [.ref wb, .int (iz (wn)), .long (lz (wt))])), (wb, zaL (G.2 0) 40 (wf)), (r, .inr (5, [.int (iz (6))]))] H := by rw [hH]; exact hP
  have hD : va_D A [(y, .inr (6, [.ref am, .ref q, .ref bq])), (am, zaL (G.2 0) 41 (fun _ => 0)), (q, .inr (2, [.ref sa, .ref da, .ref wa, .long (lz (u0)), .long (lz (d0)), .int (iz (p0))])), (sa, .inr (9, [.ref sb, .int (iz (sn)), .long (lz (st))])), (sb, zaL (G.2 0) 40 (sf)), (da, .inr (9, [.ref db, .int (iz (dn)), .long (lz (dt))])), (db, zaL (G.2 0) 40 (df)), (wa, .inr (9, [.ref wb, .int (iz (wn)), .long (lz (wt))])), (wb, zaL (G.2 0) 40 (wf)), (r, .inr (5, [.int (iz (6))]))] := hD
  have hl : lv_has ls 6 [(0, .ref y), (1, .int (iz (pe))), (2, .int (iz (po))), (3, .ref r)] := hl
  rw [← hH, ← hlo]
  refine lv_iload_n hx hb dX5_worthIn_0 rfl (lv_at hl 1 rfl) ?_
  refine lv_aload_n hx hb dX5_worthIn_1 rfl (lv_at hl 0 rfl) ?_
  refine zc_i (wr := [(q, .inr (2, [.ref sa, .ref da, .ref wa, .long (lz (u0)), .long (lz (d0)), .int (iz (p0))])), (sa, .inr (9, [.ref sb, .int (iz (sn)), .long (lz (st))])), (sb, zaL (G.2 0) 40 (sf)), (da, .inr (9, [.ref db, .int (iz (dn)), .long (lz (dt))])), (db, zaL (G.2 0) 40 (df)), (wa, .inr (9, [.ref wb, .int (iz (wn)), .long (lz (wt))])), (wb, zaL (G.2 0) 40 (wf)), (r, .inr (5, [.int (iz (6))]))]) (va_runV (As := []) (rest := [.int (iz (pe))]) ⟨hx, hb, hml, hown, hts⟩ (c_X5_lastPaying l G y am q bq  H.size) (cwV 0 hts gX5_worthIn_X5_lastPaying rfl rfl rfl (by decide +kernel) ⟨Nat.le_of_ble_eq_true rfl, Nat.le_of_ble_eq_true rfl⟩) (zpV hKX hP hD [0, 1] rfl rfl 0 6 rfl rfl) rfl rfl hl.1 rfl (lv_room (Nat.le_of_ble_eq_true rfl)) dX5_worthIn_2 ⟨(by first | exact Nat.le_of_ble_eq_true rfl | (show _ ≤ (0 : Nat); omega)), (by first | exact Nat.le_of_ble_eq_true rfl | (show _ ≤ (0 : Nat); omega))⟩) hP hD hS hA [0, 1] [2, 3, 4, 5, 6, 7, 8, 9] rfl rfl rfl (by decide) (fun lp u_1 H locs hlp hP hD hS => ?_)
  have hP : va_P G.1 vwCl [(q, .inr (2, [.ref sa, .ref da, .ref wa, .long (lz (u0)), .long (lz (d0)), .int (iz (p0))])), (sa, .inr (9, [.ref sb, .int (iz (sn)), .long (lz (st))])), (sb, zaL (G.2 0) 40 (sf)), (da, .inr (9, [.ref db, .int (iz (dn)), .long (lz (dt))])), (db, zaL (G.2 0) 40 (df)), (wa, .inr (9, [.ref wb, .int (iz (wn)), .long (lz (wt))])), (wb, zaL (G.2 0) 40 (wf)), (r, .inr (5, [.int (iz (6))])), (y, .inr (6, [.ref am, .ref q, .ref bq])), (am, zaL (G.2 0) 41 (fun _ => 0))] H := hP
  have hD : va_D A [(q, .inr (2, [.ref sa, .ref da, .ref wa, .long (lz (u0)), .long (lz (d0)), .int (iz (p0))])), (sa, .inr (9, [.ref sb, .int (iz (sn)), .long (lz (st))])), (sb, zaL (G.2 0) 40 (sf)), (da, .inr (9, [.ref db, .int (iz (dn)), .long (lz (dt))])), (db, zaL (G.2 0) 40 (df)), (wa, .inr (9, [.ref wb, .int (iz (wn)), .long (lz (wt))])), (wb, zaL (G.2 0) 40 (wf)), (r, .inr (5, [.int (iz (6))])), (y, .inr (6, [.ref am, .ref q, .ref bq])), (am, zaL (G.2 0) 41 (fun _ => 0))] := hD
  have hlp : lp = 0 := hlp
  refine zr_mmax (x := pe) (y := lp) hx hb (hml.trans hl.1.symm) hown (hts (.methodLink RX5 47 Lib.Math.max.name) (by decide +kernel)) (hts (.static Lib.Math.max.name) (by decide +kernel)) (hts (.initialized "java/lang/Math") (by decide +kernel)) (hts (.code Lib.Math.max.name Lib.Math.max.code 2 (some .int)) (by decide +kernel)) (Nat.le_of_ble_eq_true rfl) (Nat.le_of_ble_eq_true rfl) (by first | exact Nat.le_of_ble_eq_true rfl | (show _ ≤ (0 : Nat); omega)) (by first | exact Nat.le_of_ble_eq_true rfl | (show _ ≤ (0 : Nat); omega)) (⟨by omega, by omega⟩) (⟨by omega, by omega⟩) dX5_worthIn_5 ?_
  refine zr_namei (fun mx emx => ?_)
  refine lv_istore (lv' := [(4, .int (iz (mx))), (0, .ref y), (1, .int (iz (pe))), (2, .int (iz (po))), (3, .ref r)]) hx hb dX5_worthIn_8 hl (by decide) rfl (fun ls hl => ?_)
  refine lv_aload_n hx hb dX5_worthIn_10 rfl (lv_at hl 1 rfl) ?_
  refine lv_iload_n hx hb dX5_worthIn_11 rfl (lv_at hl 3 rfl) ?_
  refine lv_iload hx hb dX5_worthIn_12 (lv_at hl 0 rfl) ?_
  refine zc_v (wr := [(wa, .inr (9, [.ref wb, .int (iz (wn)), .long (lz (wt))])), (wb, zaL (G.2 0) 40 (wf)), (r, .inr (5, [.int (iz (6))]))]) (va_runV (As := [.int (iz (po)), .int (iz (mx))]) (rest := []) ⟨hx, hb, hml, hown, hts⟩ (c_X5_carry l G y am q bq wa sa sb sf sn st da db df dn dt u0 d0 p0 po mx (by omega) (by omega) H.size) (cwV 2 hts gX5_worthIn_X5_carry rfl rfl rfl (by decide +kernel) ⟨Nat.le_of_ble_eq_true rfl, Nat.le_of_ble_eq_true rfl⟩) (zpV hKX hP hD [8, 9, 0, 1, 2, 3, 4] rfl rfl 8 6 rfl rfl) rfl rfl hl.1 rfl (lv_room (Nat.le_of_ble_eq_true rfl)) dX5_worthIn_14 ⟨(by first | exact Nat.le_of_ble_eq_true rfl | (show _ ≤ (0 : Nat); omega)), (by first | exact Nat.le_of_ble_eq_true rfl | (show _ ≤ (0 : Nat); omega))⟩) hP hD hS hA [8, 9, 0, 1, 2, 3, 4] [5, 6, 7] rfl rfl rfl (by decide) (fun u_3 H locs hc hP hD hS => ?_)
  obtain ⟨sf1, sn1, st1, df1, dn1, dt1, ru, rd, g, p1⟩ := u_3
  have hP : va_P G.1 vwCl [(wa, .inr (9, [.ref wb, .int (iz (wn)), .long (lz (wt))])), (wb, zaL (G.2 0) 40 (wf)), (r, .inr (5, [.int (iz (6))])), (y, .inr (6, [.ref am, .ref q, .ref bq])), (am, zaL (G.2 0) 41 (fun _ => 0)), (q, .inr (2, [.ref sa, .ref da, .ref wa, .long (lz (ru)), .long (lz (rd)), .int (iz (p1))])), (sa, .inr (9, [.ref sb, .int (iz (sn1)), .long (lz (st1))])), (sb, zaL (G.2 0) 40 (sf1)), (da, .inr (9, [.ref db, .int (iz (dn1)), .long (lz (dt1))])), (db, zaL (G.2 0) 40 (df1))] H := hP
  have hD : va_D A [(wa, .inr (9, [.ref wb, .int (iz (wn)), .long (lz (wt))])), (wb, zaL (G.2 0) 40 (wf)), (r, .inr (5, [.int (iz (6))])), (y, .inr (6, [.ref am, .ref q, .ref bq])), (am, zaL (G.2 0) 41 (fun _ => 0)), (q, .inr (2, [.ref sa, .ref da, .ref wa, .long (lz (ru)), .long (lz (rd)), .int (iz (p1))])), (sa, .inr (9, [.ref sb, .int (iz (sn1)), .long (lz (st1))])), (sb, zaL (G.2 0) 40 (sf1)), (da, .inr (9, [.ref db, .int (iz (dn1)), .long (lz (dt1))])), (db, zaL (G.2 0) 40 (df1))] := hD
  have hc : zwv sf1 sn1 st1 0 ∧ zfr g ru rd po := hc
  have hrg := hc.2.rng h3
  refine lv_aload_n hx hb dX5_worthIn_17 rfl (lv_at hl 1 rfl) ?_
  refine va_get (D := G.1) (ci := 6) (v := .ref q) (C := RX5) (T := TX5) (N := 3) hx hb hts iwX5 hown hK hP 3 rfl rfl 1 (by decide) (hts (.fieldLink RX5 18 "AnnuityHouse$Row" "flow" "LAnnuityHouse$Flow;") (by decide +kernel)) (fun _ h9 => h9) rfl dX5_worthIn_18 ?_
  refine lv_lconst (v := lz (1)) hx hb dX5_worthIn_21 rfl ?_
  refine lv_iload hx hb dX5_worthIn_22 (lv_at hl 0 rfl) ?_
  refine lv_iload_n hx hb dX5_worthIn_24 rfl (lv_at hl 2 rfl) ?_
  refine zr_isub hx hb dX5_worthIn_25 ?_
  refine zc_r (wr := [(r, .inr (5, [.int (iz (6))])), (y, .inr (6, [.ref am, .ref q, .ref bq])), (am, zaL (G.2 0) 41 (fun _ => 0)), (sa, .inr (9, [.ref sb, .int (iz (sn1)), .long (lz (st1))])), (sb, zaL (G.2 0) 40 (sf1)), (da, .inr (9, [.ref db, .int (iz (dn1)), .long (lz (dt1))])), (db, zaL (G.2 0) 40 (df1))]) (va_runV (As := [.long (lz (1)), .int (iz (mx - pe))]) (rest := []) ⟨hx, hb, hml, hown, hts⟩ (c_X1_upPower l G q sa da wa wb wf wn wt ru rd p1 1 (mx - pe) (by omega) (by omega) (by omega) (by rw [show (mx - pe).toNat = 0 by omega, Int.pow_zero]; decide +kernel) H.size) (cwV 2 hts gX5_worthIn_X1_upPower rfl rfl rfl (by decide +kernel) ⟨Nat.le_of_ble_eq_true rfl, Nat.le_of_ble_eq_true rfl⟩) (zpV hKX hP hD [5, 0, 1] rfl rfl 5 2 rfl rfl) rfl rfl hl.1 rfl (lv_room (Nat.le_of_ble_eq_true rfl)) dX5_worthIn_26 ⟨(by first | exact Nat.le_of_ble_eq_true rfl | (show _ ≤ (0 : Nat); omega)), (by first | exact Nat.le_of_ble_eq_true rfl | (show _ ≤ (0 : Nat); omega))⟩) hP hD hS hA [5, 0, 1] [2, 3, 4, 6, 7, 8, 9] rfl rfl rfl (by decide) (fun u_6 rw_ H locs hw hP hD hS => ?_)
  obtain ⟨wf1, wn1, wt1⟩ := u_6
  have hP : va_P G.1 vwCl [(r, .inr (5, [.int (iz (6))])), (y, .inr (6, [.ref am, .ref q, .ref bq])), (am, zaL (G.2 0) 41 (fun _ => 0)), (sa, .inr (9, [.ref sb, .int (iz (sn1)), .long (lz (st1))])), (sb, zaL (G.2 0) 40 (sf1)), (da, .inr (9, [.ref db, .int (iz (dn1)), .long (lz (dt1))])), (db, zaL (G.2 0) 40 (df1)), (q, .inr (2, [.ref sa, .ref da, .ref wa, .long (lz (ru)), .long (lz (rd)), .int (iz (p1))])), (wa, .inr (9, [.ref wb, .int (iz (wn1)), .long (lz (wt1))])), (wb, zaL (G.2 0) 40 (wf1))] H := hP
  have hD : va_D A [(r, .inr (5, [.int (iz (6))])), (y, .inr (6, [.ref am, .ref q, .ref bq])), (am, zaL (G.2 0) 41 (fun _ => 0)), (sa, .inr (9, [.ref sb, .int (iz (sn1)), .long (lz (st1))])), (sb, zaL (G.2 0) 40 (sf1)), (da, .inr (9, [.ref db, .int (iz (dn1)), .long (lz (dt1))])), (db, zaL (G.2 0) 40 (df1)), (q, .inr (2, [.ref sa, .ref da, .ref wa, .long (lz (ru)), .long (lz (rd)), .int (iz (p1))])), (wa, .inr (9, [.ref wb, .int (iz (wn1)), .long (lz (wt1))])), (wb, zaL (G.2 0) 40 (wf1))] := hD
  have hw : rw_ = wa ∧ zwv wf1 wn1 wt1 ((1 : Int) * ru ^ (mx - pe).toNat) := hw
  rw [show rw_ = wa from hw.1]
  refine lv_astore (lv' := [(5, .ref wa), (4, .int (iz (mx))), (0, .ref y), (1, .int (iz (pe))), (2, .int (iz (po))), (3, .ref r)]) hx hb dX5_worthIn_29 hl (by decide) rfl (fun ls hl => ?_)
  refine lv_aload hx hb dX5_worthIn_31 (lv_at hl 0 rfl) ?_
  refine lv_aload_n hx hb dX5_worthIn_33 rfl (lv_at hl 2 rfl) ?_
  refine va_get (D := G.1) (ci := 6) (v := .ref q) (C := RX5) (T := TX5) (N := 3) hx hb hts iwX5 hown hK hP 1 rfl rfl 1 (by decide) (hts (.fieldLink RX5 18 "AnnuityHouse$Row" "flow" "LAnnuityHouse$Flow;") (by decide +kernel)) (fun _ h9 => h9) rfl dX5_worthIn_34 ?_
  refine va_get (D := G.1) (ci := 2) (v := .long (lz (rd))) (C := RX1) (T := TX1) (N := 6) hx hb hts iwX1 hown hK hP 7 rfl rfl 4 (by decide) (hts (.fieldLink RX5 61 "AnnuityHouse$Flow" "down" "J") (by decide +kernel)) (fun _ h9 => h9) rfl dX5_worthIn_37 ?_
  refine lv_iload_n hx hb dX5_worthIn_40 rfl (lv_at hl 3 rfl) ?_
  have ew : 1 * ru ^ (mx - pe).toNat = 1 := by rw [show (mx - pe).toNat = 0 by omega, Int.pow_zero]; rfl
  have hb2 := zrp (P := rd) (k := pe) (by omega) (by omega)
  have hb4 := zB35_37 ⟨show 0 ≤ rd ^ pe.toNat by omega, hb2.2⟩
  refine zc_v (wr := [(r, .inr (5, [.int (iz (6))])), (y, .inr (6, [.ref am, .ref q, .ref bq])), (am, zaL (G.2 0) 41 (fun _ => 0)), (sa, .inr (9, [.ref sb, .int (iz (sn1)), .long (lz (st1))])), (sb, zaL (G.2 0) 40 (sf1)), (da, .inr (9, [.ref db, .int (iz (dn1)), .long (lz (dt1))])), (db, zaL (G.2 0) 40 (df1)), (q, .inr (2, [.ref sa, .ref da, .ref wa, .long (lz (ru)), .long (lz (rd)), .int (iz (p1))]))]) (va_runV (As := [.long (lz (rd)), .int (iz (pe))]) (rest := []) ⟨hx, hb, hml, hown, hts⟩ (c_X8_timesPower l G wa wb wf1 wn1 wt1 (1 * ru ^ (mx - pe).toNat) rd pe (hw.2) (by omega) (by omega) (by rw [ew, Int.one_mul]; exact ⟨hb4.1, hb4.2.1⟩) H.size) (cwV 2 hts gX5_worthIn_X8_timesPower rfl rfl rfl (by decide +kernel) ⟨Nat.le_of_ble_eq_true rfl, Nat.le_of_ble_eq_true rfl⟩) (zpV hKX hP hD [8, 9] rfl rfl 8 9 rfl rfl) rfl rfl hl.1 rfl (lv_room (Nat.le_of_ble_eq_true rfl)) dX5_worthIn_41 ⟨(by first | exact Nat.le_of_ble_eq_true rfl | (show _ ≤ (0 : Nat); omega)), (by first | exact Nat.le_of_ble_eq_true rfl | (show _ ≤ (0 : Nat); omega))⟩) hP hD hS hA [8, 9] [0, 1, 2, 3, 4, 5, 6, 7] rfl rfl rfl (by decide) (fun u_8 H locs hw3 hP hD hS => ?_)
  obtain ⟨wf3, wn3, wt3⟩ := u_8
  have hP : va_P G.1 vwCl [(r, .inr (5, [.int (iz (6))])), (y, .inr (6, [.ref am, .ref q, .ref bq])), (am, zaL (G.2 0) 41 (fun _ => 0)), (sa, .inr (9, [.ref sb, .int (iz (sn1)), .long (lz (st1))])), (sb, zaL (G.2 0) 40 (sf1)), (da, .inr (9, [.ref db, .int (iz (dn1)), .long (lz (dt1))])), (db, zaL (G.2 0) 40 (df1)), (q, .inr (2, [.ref sa, .ref da, .ref wa, .long (lz (ru)), .long (lz (rd)), .int (iz (p1))])), (wa, .inr (9, [.ref wb, .int (iz (wn3)), .long (lz (wt3))])), (wb, zaL (G.2 0) 40 (wf3))] H := hP
  have hD : va_D A [(r, .inr (5, [.int (iz (6))])), (y, .inr (6, [.ref am, .ref q, .ref bq])), (am, zaL (G.2 0) 41 (fun _ => 0)), (sa, .inr (9, [.ref sb, .int (iz (sn1)), .long (lz (st1))])), (sb, zaL (G.2 0) 40 (sf1)), (da, .inr (9, [.ref db, .int (iz (dn1)), .long (lz (dt1))])), (db, zaL (G.2 0) 40 (df1)), (q, .inr (2, [.ref sa, .ref da, .ref wa, .long (lz (ru)), .long (lz (rd)), .int (iz (p1))])), (wa, .inr (9, [.ref wb, .int (iz (wn3)), .long (lz (wt3))])), (wb, zaL (G.2 0) 40 (wf3))] := hD
  have hw3 : zwv wf3 wn3 wt3 ((1 * ru ^ (mx - pe).toNat) * rd ^ pe.toNat) := hw3
  rw [ew, Int.one_mul] at hw3
  refine lv_aload_n hx hb dX5_worthIn_44 rfl (lv_at hl 5 rfl) ?_
  refine lv_aload_n hx hb dX5_worthIn_45 rfl (lv_at hl 2 rfl) ?_
  refine va_get (D := G.1) (ci := 6) (v := .ref q) (C := RX5) (T := TX5) (N := 3) hx hb hts iwX5 hown hK hP 1 rfl rfl 1 (by decide) (hts (.fieldLink RX5 18 "AnnuityHouse$Row" "flow" "LAnnuityHouse$Flow;") (by decide +kernel)) (fun _ h9 => h9) rfl dX5_worthIn_46 ?_
  refine va_get (D := G.1) (ci := 2) (v := .ref sa) (C := RX1) (T := TX1) (N := 6) hx hb hts iwX1 hown hK hP 7 rfl rfl 0 (by decide) (hts (.fieldLink RX5 71 "AnnuityHouse$Flow" "sum" "LAnnuityHouse$Whole;") (by decide +kernel)) (fun _ h9 => h9) rfl dX5_worthIn_49 ?_
  refine lv_aload hx hb dX5_worthIn_52 (lv_at hl 0 rfl) ?_
  refine zc_l (wr := [(y, .inr (6, [.ref am, .ref q, .ref bq])), (am, zaL (G.2 0) 41 (fun _ => 0)), (da, .inr (9, [.ref db, .int (iz (dn1)), .long (lz (dt1))])), (db, zaL (G.2 0) 40 (df1)), (q, .inr (2, [.ref sa, .ref da, .ref wa, .long (lz (ru)), .long (lz (rd)), .int (iz (p1))]))]) (va_runV (As := [.ref sa, .ref wa]) (rest := []) ⟨hx, hb, hml, hown, hts⟩ (c_X4_ratio_ l G r sa sb sf1 sn1 st1 wa wb wf3 wn3 wt3 0 (rd ^ pe.toNat) (hc.1) (hw3) (Int.le_refl 0) (by omega) (by decide +kernel) (hb2.2) (Int.mul_pos (by omega) (by decide +kernel)) H.size) (cwV 2 hts gX5_worthIn_X4_ratio_ rfl rfl rfl (by decide +kernel) ⟨Nat.le_of_ble_eq_true rfl, Nat.le_of_ble_eq_true rfl⟩) (zpV hKX hP hD [0, 3, 4, 8, 9] rfl rfl 0 5 rfl rfl) rfl rfl hl.1 rfl (lv_room (Nat.le_of_ble_eq_true rfl)) dX5_worthIn_54 ⟨(by first | exact Nat.le_of_ble_eq_true rfl | (show _ ≤ (0 : Nat); omega)), (by first | exact Nat.le_of_ble_eq_true rfl | (show _ ≤ (0 : Nat); omega))⟩) hP hD hS hA [0, 3, 4, 8, 9] [1, 2, 5, 6, 7] rfl rfl rfl (by decide) (fun zz u_11 H locs hz hP hD hS => ?_)
  obtain ⟨sf2, sn2, st2, wf2, wn2, wt2⟩ := u_11
  have hP : va_P G.1 vwCl [(y, .inr (6, [.ref am, .ref q, .ref bq])), (am, zaL (G.2 0) 41 (fun _ => 0)), (da, .inr (9, [.ref db, .int (iz (dn1)), .long (lz (dt1))])), (db, zaL (G.2 0) 40 (df1)), (q, .inr (2, [.ref sa, .ref da, .ref wa, .long (lz (ru)), .long (lz (rd)), .int (iz (p1))])), (r, .inr (5, [.int (iz (6))])), (sa, .inr (9, [.ref sb, .int (iz (sn2)), .long (lz (st2))])), (sb, zaL (G.2 0) 40 (sf2)), (wa, .inr (9, [.ref wb, .int (iz (wn2)), .long (lz (wt2))])), (wb, zaL (G.2 0) 40 (wf2))] H := hP
  have hD : va_D A [(y, .inr (6, [.ref am, .ref q, .ref bq])), (am, zaL (G.2 0) 41 (fun _ => 0)), (da, .inr (9, [.ref db, .int (iz (dn1)), .long (lz (dt1))])), (db, zaL (G.2 0) 40 (df1)), (q, .inr (2, [.ref sa, .ref da, .ref wa, .long (lz (ru)), .long (lz (rd)), .int (iz (p1))])), (r, .inr (5, [.int (iz (6))])), (sa, .inr (9, [.ref sb, .int (iz (sn2)), .long (lz (st2))])), (sb, zaL (G.2 0) 40 (sf2)), (wa, .inr (9, [.ref wb, .int (iz (wn2)), .long (lz (wt2))])), (wb, zaL (G.2 0) 40 (wf2))] := hD
  have hz : zz = zr6 (0 : Int) (rd ^ pe.toNat) := hz
  rw [hQ]
  exact zr_lret (z := zz) (u := (sf2, sn2, st2, df1, dn1, dt1, wf2, wn2, wt2, ru, rd, p1)) hx hb hr hlocks (hP.sub [0, 1, 4, 6, 7, 2, 3, 8, 9, 5] rfl) (hD.sub [0, 1, 4, 6, 7, 2, 3, 8, 9, 5] (by decide) rfl) hS (by first | exact Nat.le_of_ble_eq_true rfl | omega) (by first | exact Nat.le_of_ble_eq_true rfl | omega) dX5_worthIn_57 (show zz = 0 from hz.trans (zr6_0 (by omega)))

def rm_c_X5_signOfWorth : Room := { frames := 5, cells := 0, slots := 0, locals := 122 }
theorem iw_X5_signOfWorth_X1 : ∀ w ∈ wsX10, w ∈ wsX5_signOfWorth := by decide +kernel
theorem iw_X5_signOfWorth_X5 : ∀ w ∈ wsX50, w ∈ wsX5_signOfWorth := by decide +kernel
set_option maxHeartbeats 1000000 in
set_option maxRecDepth 100000 in
theorem c_X5_signOfWorth (l : Launch) (G : zG) (y : Nat) (am : Nat) (q : Nat) (bq : Nat) (wa : Nat) (sa : Nat) (sb : Nat) (sf : Int → Int) (sn : Int) (st : Int) (da : Nat) (db : Nat) (df : Int → Int) (dn : Int) (dt : Int) (u0 : Int) (d0 : Int) (p0 : Int) (po : Int) (h3 : 0 ≤ po ∧ po ≤ 20000) : zM l G yX5_signOfWorth wsX5_signOfWorth rm_c_X5_signOfWorth [.ref y, .int (iz (po))] [(y, .inr (6, [.ref am, .ref q, .ref bq])), (am, zaL (G.2 0) 41 (fun _ => 0)), (q, .inr (2, [.ref sa, .ref da, .ref wa, .long (lz (u0)), .long (lz (d0)), .int (iz (p0))])), (sa, .inr (9, [.ref sb, .int (iz (sn)), .long (lz (st))])), (sb, zaL (G.2 0) 40 (sf)), (da, .inr (9, [.ref db, .int (iz (dn)), .long (lz (dt))])), (db, zaL (G.2 0) 40 (df))] (fun A => zQi G (fun (z : Int) (u : (Int → Int) × Int × Int × (Int → Int) × Int × Int × Int × Int × Int) => z = 0) (fun (u : (Int → Int) × Int × Int × (Int → Int) × Int × Int × Int × Int × Int) => [(y, .inr (6, [.ref am, .ref q, .ref bq])), (am, zaL (G.2 0) 41 (fun _ => 0)), (q, .inr (2, [.ref sa, .ref da, .ref wa, .long (lz (u.2.2.2.2.2.2.1)), .long (lz (u.2.2.2.2.2.2.2.1)), .int (iz (u.2.2.2.2.2.2.2.2))])), (sa, .inr (9, [.ref sb, .int (iz (u.2.1)), .long (lz (u.2.2.1))])), (sb, zaL (G.2 0) 40 (u.1)), (da, .inr (9, [.ref db, .int (iz (u.2.2.2.2.1)), .long (lz (u.2.2.2.2.2.1))])), (db, zaL (G.2 0) 40 (u.2.2.2.1))]) A) 0 0 := by
  refine zM_of (cc := cX5_signOfWorth) (maxL := 2) (ret := (some .int)) (by decide) rfl (Nat.le_of_ble_eq_true rfl) ?_
  intro p e s m below meth c ls A Q hQ hx hb hr hts hown hlocks hml hnm hKX hP hD hA hS hl
  have hK := hKX.1
  have iwX1 := iw_X5_signOfWorth_X1
  have iwX5 := iw_X5_signOfWorth_X5
  obtain ⟨H, hH⟩ : ∃ h, h = s.heap := ⟨_, rfl⟩
  obtain ⟨locs, hlo⟩ : ∃ h : List Loc, h = [] := ⟨_, rfl⟩
  have hS : va_S A s.heap H locs := by rw [hH, hlo]; exact hS
  have hP : va_P G.1 vwCl [(y, .inr (6, [.ref am, .ref q, .ref bq])), (am, zaL (G.2 0) 41 (fun _ => 0)), (q, .inr (2, [.ref sa, .ref da, .ref wa, .long (lz (u0)), .long (lz (d0)), .int (iz (p0))])), (sa, .inr (9, [.ref sb, .int (iz (sn)), .long (lz (st))])), (sb, zaL (G.2 0) 40 (sf)), (da, .inr (9, [.ref db, .int (iz (dn)), .long (lz (dt))])), (db, zaL (G.2 0) 40 (df))] H := by rw [hH]; exact hP
  have hD : va_D A [(y, .inr (6, [.ref am, .ref q, .ref bq])), (am, zaL (G.2 0) 41 (fun _ => 0)), (q, .inr (2, [.ref sa, .ref da, .ref wa, .long (lz (u0)), .long (lz (d0)), .int (iz (p0))])), (sa, .inr (9, [.ref sb, .int (iz (sn)), .long (lz (st))])), (sb, zaL (G.2 0) 40 (sf)), (da, .inr (9, [.ref db, .int (iz (dn)), .long (lz (dt))])), (db, zaL (G.2 0) 40 (df))] := hD
  have hl : lv_has ls 2 [(0, .ref y), (1, .int (iz (po)))] := hl
  rw [← hH, ← hlo]
  refine lv_aload_n hx hb dX5_signOfWorth_0 rfl (lv_at hl 0 rfl) ?_
  refine lv_iload_n hx hb dX5_signOfWorth_1 rfl (lv_at hl 1 rfl) ?_
  refine lv_aload_n hx hb dX5_signOfWorth_2 rfl (lv_at hl 0 rfl) ?_
  refine zc_i (wr := [(q, .inr (2, [.ref sa, .ref da, .ref wa, .long (lz (u0)), .long (lz (d0)), .int (iz (p0))])), (sa, .inr (9, [.ref sb, .int (iz (sn)), .long (lz (st))])), (sb, zaL (G.2 0) 40 (sf)), (da, .inr (9, [.ref db, .int (iz (dn)), .long (lz (dt))])), (db, zaL (G.2 0) 40 (df))]) (va_runV (As := []) (rest := [.int (iz (po)), .ref y]) ⟨hx, hb, hml, hown, hts⟩ (c_X5_lastPaying l G y am q bq  H.size) (cwV 0 hts gX5_signOfWorth_X5_lastPaying rfl rfl rfl (by decide +kernel) ⟨Nat.le_of_ble_eq_true rfl, Nat.le_of_ble_eq_true rfl⟩) (zpV hKX hP hD [0, 1] rfl rfl 0 6 rfl rfl) rfl rfl hl.1 rfl (lv_room (Nat.le_of_ble_eq_true rfl)) dX5_signOfWorth_3 ⟨(by first | exact Nat.le_of_ble_eq_true rfl | (show _ ≤ (0 : Nat); omega)), (by first | exact Nat.le_of_ble_eq_true rfl | (show _ ≤ (0 : Nat); omega))⟩) hP hD hS hA [0, 1] [2, 3, 4, 5, 6] rfl rfl rfl (by decide) (fun lp u_1 H locs hlp hP hD hS => ?_)
  have hP : va_P G.1 vwCl [(q, .inr (2, [.ref sa, .ref da, .ref wa, .long (lz (u0)), .long (lz (d0)), .int (iz (p0))])), (sa, .inr (9, [.ref sb, .int (iz (sn)), .long (lz (st))])), (sb, zaL (G.2 0) 40 (sf)), (da, .inr (9, [.ref db, .int (iz (dn)), .long (lz (dt))])), (db, zaL (G.2 0) 40 (df)), (y, .inr (6, [.ref am, .ref q, .ref bq])), (am, zaL (G.2 0) 41 (fun _ => 0))] H := hP
  have hD : va_D A [(q, .inr (2, [.ref sa, .ref da, .ref wa, .long (lz (u0)), .long (lz (d0)), .int (iz (p0))])), (sa, .inr (9, [.ref sb, .int (iz (sn)), .long (lz (st))])), (sb, zaL (G.2 0) 40 (sf)), (da, .inr (9, [.ref db, .int (iz (dn)), .long (lz (dt))])), (db, zaL (G.2 0) 40 (df)), (y, .inr (6, [.ref am, .ref q, .ref bq])), (am, zaL (G.2 0) 41 (fun _ => 0))] := hD
  have hlp : lp = 0 := hlp
  refine zc_v (wr := []) (va_runV (As := [.int (iz (po)), .int (iz (lp))]) (rest := []) ⟨hx, hb, hml, hown, hts⟩ (c_X5_carry l G y am q bq wa sa sb sf sn st da db df dn dt u0 d0 p0 po lp (by omega) (by omega) H.size) (cwV 2 hts gX5_signOfWorth_X5_carry rfl rfl rfl (by decide +kernel) ⟨Nat.le_of_ble_eq_true rfl, Nat.le_of_ble_eq_true rfl⟩) (zpV hKX hP hD [5, 6, 0, 1, 2, 3, 4] rfl rfl 5 6 rfl rfl) rfl rfl hl.1 rfl (lv_room (Nat.le_of_ble_eq_true rfl)) dX5_signOfWorth_6 ⟨(by first | exact Nat.le_of_ble_eq_true rfl | (show _ ≤ (0 : Nat); omega)), (by first | exact Nat.le_of_ble_eq_true rfl | (show _ ≤ (0 : Nat); omega))⟩) hP hD hS hA [5, 6, 0, 1, 2, 3, 4] [] rfl rfl rfl (by decide) (fun u_3 H locs hc hP hD hS => ?_)
  obtain ⟨sf1, sn1, st1, df1, dn1, dt1, ru, rd, g, p1⟩ := u_3
  have hP : va_P G.1 vwCl [(y, .inr (6, [.ref am, .ref q, .ref bq])), (am, zaL (G.2 0) 41 (fun _ => 0)), (q, .inr (2, [.ref sa, .ref da, .ref wa, .long (lz (ru)), .long (lz (rd)), .int (iz (p1))])), (sa, .inr (9, [.ref sb, .int (iz (sn1)), .long (lz (st1))])), (sb, zaL (G.2 0) 40 (sf1)), (da, .inr (9, [.ref db, .int (iz (dn1)), .long (lz (dt1))])), (db, zaL (G.2 0) 40 (df1))] H := hP
  have hD : va_D A [(y, .inr (6, [.ref am, .ref q, .ref bq])), (am, zaL (G.2 0) 41 (fun _ => 0)), (q, .inr (2, [.ref sa, .ref da, .ref wa, .long (lz (ru)), .long (lz (rd)), .int (iz (p1))])), (sa, .inr (9, [.ref sb, .int (iz (sn1)), .long (lz (st1))])), (sb, zaL (G.2 0) 40 (sf1)), (da, .inr (9, [.ref db, .int (iz (dn1)), .long (lz (dt1))])), (db, zaL (G.2 0) 40 (df1))] := hD
  have hc : zwv sf1 sn1 st1 0 ∧ zfr g ru rd po := hc
  have hrg := hc.2.rng h3
  refine lv_aload_n hx hb dX5_signOfWorth_9 rfl (lv_at hl 0 rfl) ?_
  refine va_get (D := G.1) (ci := 6) (v := .ref q) (C := RX5) (T := TX5) (N := 3) hx hb hts iwX5 hown hK hP 0 rfl rfl 1 (by decide) (hts (.fieldLink RX5 18 "AnnuityHouse$Row" "flow" "LAnnuityHouse$Flow;") (by decide +kernel)) (fun _ h9 => h9) rfl dX5_signOfWorth_10 ?_
  refine va_get (D := G.1) (ci := 2) (v := .ref sa) (C := RX1) (T := TX1) (N := 6) hx hb hts iwX1 hown hK hP 2 rfl rfl 0 (by decide) (hts (.fieldLink RX5 71 "AnnuityHouse$Flow" "sum" "LAnnuityHouse$Whole;") (by decide +kernel)) (fun _ h9 => h9) rfl dX5_signOfWorth_13 ?_
  refine zc_i (wr := [(y, .inr (6, [.ref am, .ref q, .ref bq])), (am, zaL (G.2 0) 41 (fun _ => 0)), (q, .inr (2, [.ref sa, .ref da, .ref wa, .long (lz (ru)), .long (lz (rd)), .int (iz (p1))])), (da, .inr (9, [.ref db, .int (iz (dn1)), .long (lz (dt1))])), (db, zaL (G.2 0) 40 (df1))]) (va_runV (As := []) (rest := []) ⟨hx, hb, hml, hown, hts⟩ (c_X8_sign l G sa sb sf1 sn1 st1 0 (hc.1) H.size) (cwV 0 hts gX5_signOfWorth_X8_sign rfl rfl rfl (by decide +kernel) ⟨Nat.le_of_ble_eq_true rfl, Nat.le_of_ble_eq_true rfl⟩) (zpV hKX hP hD [3, 4] rfl rfl 3 9 rfl rfl) rfl rfl hl.1 rfl (lv_room (Nat.le_of_ble_eq_true rfl)) dX5_signOfWorth_16 ⟨(by first | exact Nat.le_of_ble_eq_true rfl | (show _ ≤ (0 : Nat); omega)), (by first | exact Nat.le_of_ble_eq_true rfl | (show _ ≤ (0 : Nat); omega))⟩) hP hD hS hA [3, 4] [0, 1, 2, 5, 6] rfl rfl rfl (by decide) (fun sg u_6 H locs hsg hP hD hS => ?_)
  have hP : va_P G.1 vwCl [(y, .inr (6, [.ref am, .ref q, .ref bq])), (am, zaL (G.2 0) 41 (fun _ => 0)), (q, .inr (2, [.ref sa, .ref da, .ref wa, .long (lz (ru)), .long (lz (rd)), .int (iz (p1))])), (da, .inr (9, [.ref db, .int (iz (dn1)), .long (lz (dt1))])), (db, zaL (G.2 0) 40 (df1)), (sa, .inr (9, [.ref sb, .int (iz (sn1)), .long (lz (st1))])), (sb, zaL (G.2 0) 40 (sf1))] H := hP
  have hD : va_D A [(y, .inr (6, [.ref am, .ref q, .ref bq])), (am, zaL (G.2 0) 41 (fun _ => 0)), (q, .inr (2, [.ref sa, .ref da, .ref wa, .long (lz (ru)), .long (lz (rd)), .int (iz (p1))])), (da, .inr (9, [.ref db, .int (iz (dn1)), .long (lz (dt1))])), (db, zaL (G.2 0) 40 (df1)), (sa, .inr (9, [.ref sb, .int (iz (sn1)), .long (lz (st1))])), (sb, zaL (G.2 0) 40 (sf1))] := hD
  have hsg : sg = (0 : Int).sign := hsg
  rw [hQ]
  exact zr_iret (z := sg) (u := (sf1, sn1, st1, df1, dn1, dt1, ru, rd, p1)) hx hb hr hlocks (hP.sub [0, 1, 2, 5, 6, 3, 4] rfl) (hD.sub [0, 1, 2, 5, 6, 3, 4] (by decide) rfl) hS (by first | exact Nat.le_of_ble_eq_true rfl | omega) (by first | exact Nat.le_of_ble_eq_true rfl | omega) dX5_signOfWorth_19 (show sg = 0 from hsg)

def rm_c_X5_isCarriedAlike : Room := { frames := 5, cells := 0, slots := 0, locals := 122 }
theorem iw_X5_isCarriedAlike_X1 : ∀ w ∈ wsX10, w ∈ wsX5_isCarriedAlike := by decide +kernel
theorem iw_X5_isCarriedAlike_X5 : ∀ w ∈ wsX50, w ∈ wsX5_isCarriedAlike := by decide +kernel
set_option maxHeartbeats 1000000 in
set_option maxRecDepth 100000 in
theorem c_X5_isCarriedAlike (l : Launch) (G : zG) (y : Nat) (am : Nat) (q : Nat) (bq : Nat) (wa : Nat) (sa : Nat) (sb : Nat) (sf : Int → Int) (sn : Int) (st : Int) (da : Nat) (db : Nat) (df : Int → Int) (dn : Int) (dt : Int) (u0 : Int) (d0 : Int) (p0 : Int) (bwa : Nat) (bsa : Nat) (bsb : Nat) (bsf : Int → Int) (bsn : Int) (bst : Int) (bda : Nat) (bdb : Nat) (bdf : Int → Int) (bdn : Int) (bdt : Int) (bu0 : Int) (bd0 : Int) (bp0 : Int) (po : Int) (h3 : 0 ≤ po ∧ po ≤ 20000) : zM l G yX5_isCarriedAlike wsX5_isCarriedAlike rm_c_X5_isCarriedAlike [.ref y, .int (iz (po))] [(y, .inr (6, [.ref am, .ref q, .ref bq])), (am, zaL (G.2 0) 41 (fun _ => 0)), (q, .inr (2, [.ref sa, .ref da, .ref wa, .long (lz (u0)), .long (lz (d0)), .int (iz (p0))])), (sa, .inr (9, [.ref sb, .int (iz (sn)), .long (lz (st))])), (sb, zaL (G.2 0) 40 (sf)), (da, .inr (9, [.ref db, .int (iz (dn)), .long (lz (dt))])), (db, zaL (G.2 0) 40 (df)), (bq, .inr (2, [.ref bsa, .ref bda, .ref bwa, .long (lz (bu0)), .long (lz (bd0)), .int (iz (bp0))])), (bsa, .inr (9, [.ref bsb, .int (iz (bsn)), .long (lz (bst))])), (bsb, zaL (G.2 0) 40 (bsf)), (bda, .inr (9, [.ref bdb, .int (iz (bdn)), .long (lz (bdt))])), (bdb, zaL (G.2 0) 40 (bdf))] (fun A => zQz G (fun (z : Bool) (u : (Int → Int) × Int × Int × (Int → Int) × Int × Int × Int × Int × Int × (Int → Int) × Int × Int × (Int → Int) × Int × Int × Int × Int × Int) => z = true) (fun (u : (Int → Int) × Int × Int × (Int → Int) × Int × Int × Int × Int × Int × (Int → Int) × Int × Int × (Int → Int) × Int × Int × Int × Int × Int) => [(y, .inr (6, [.ref am, .ref q, .ref bq])), (am, zaL (G.2 0) 41 (fun _ => 0)), (q, .inr (2, [.ref sa, .ref da, .ref wa, .long (lz (u.2.2.2.2.2.2.1)), .long (lz (u.2.2.2.2.2.2.2.1)), .int (iz (u.2.2.2.2.2.2.2.2.1))])), (sa, .inr (9, [.ref sb, .int (iz (u.2.1)), .long (lz (u.2.2.1))])), (sb, zaL (G.2 0) 40 (u.1)), (da, .inr (9, [.ref db, .int (iz (u.2.2.2.2.1)), .long (lz (u.2.2.2.2.2.1))])), (db, zaL (G.2 0) 40 (u.2.2.2.1)), (bq, .inr (2, [.ref bsa, .ref bda, .ref bwa, .long (lz (u.2.2.2.2.2.2.2.2.2.2.2.2.2.2.2.1)), .long (lz (u.2.2.2.2.2.2.2.2.2.2.2.2.2.2.2.2.1)), .int (iz (u.2.2.2.2.2.2.2.2.2.2.2.2.2.2.2.2.2))])), (bsa, .inr (9, [.ref bsb, .int (iz (u.2.2.2.2.2.2.2.2.2.2.1)), .long (lz (u.2.2.2.2.2.2.2.2.2.2.2.1))])), (bsb, zaL (G.2 0) 40 (u.2.2.2.2.2.2.2.2.2.1)), (bda, .inr (9, [.ref bdb, .int (iz (u.2.2.2.2.2.2.2.2.2.2.2.2.2.1)), .long (lz (u.2.2.2.2.2.2.2.2.2.2.2.2.2.2.1))])), (bdb, zaL (G.2 0) 40 (u.2.2.2.2.2.2.2.2.2.2.2.2.1))]) A) 0 0 := by
  refine zM_of (cc := cX5_isCarriedAlike) (maxL := 3) (ret := (some .boolean)) (by decide) rfl (Nat.le_of_ble_eq_true rfl) ?_
  intro p e s m below meth c ls A Q hQ hx hb hr hts hown hlocks hml hnm hKX hP hD hA hS hl
  have hK := hKX.1
  have iwX1 := iw_X5_isCarriedAlike_X1
  have iwX5 := iw_X5_isCarriedAlike_X5
  obtain ⟨H, hH⟩ : ∃ h, h = s.heap := ⟨_, rfl⟩
  obtain ⟨locs, hlo⟩ : ∃ h : List Loc, h = [] := ⟨_, rfl⟩
  have hS : va_S A s.heap H locs := by rw [hH, hlo]; exact hS
  have hP : va_P G.1 vwCl [(y, .inr (6, [.ref am, .ref q, .ref bq])), (am, zaL (G.2 0) 41 (fun _ => 0)), (q, .inr (2, [.ref sa, .ref da, .ref wa, .long (lz (u0)), .long (lz (d0)), .int (iz (p0))])), (sa, .inr (9, [.ref sb, .int (iz (sn)), .long (lz (st))])), (sb, zaL (G.2 0) 40 (sf)), (da, .inr (9, [.ref db, .int (iz (dn)), .long (lz (dt))])), (db, zaL (G.2 0) 40 (df)), (bq, .inr (2, [.ref bsa, .ref bda, .ref bwa, .long (lz (bu0)), .long (lz (bd0)), .int (iz (bp0))])), (bsa, .inr (9, [.ref bsb, .int (iz (bsn)), .long (lz (bst))])), (bsb, zaL (G.2 0) 40 (bsf)), (bda, .inr (9, [.ref bdb, .int (iz (bdn)), .long (lz (bdt))])), (bdb, zaL (G.2 0) 40 (bdf))] H := by rw [hH]; exact hP
  have hD : va_D A [(y, .inr (6, [.ref am, .ref q, .ref bq])), (am, zaL (G.2 0) 41 (fun _ => 0)), (q, .inr (2, [.ref sa, .ref da, .ref wa, .long (lz (u0)), .long (lz (d0)), .int (iz (p0))])), (sa, .inr (9, [.ref sb, .int (iz (sn)), .long (lz (st))])), (sb, zaL (G.2 0) 40 (sf)), (da, .inr (9, [.ref db, .int (iz (dn)), .long (lz (dt))])), (db, zaL (G.2 0) 40 (df)), (bq, .inr (2, [.ref bsa, .ref bda, .ref bwa, .long (lz (bu0)), .long (lz (bd0)), .int (iz (bp0))])), (bsa, .inr (9, [.ref bsb, .int (iz (bsn)), .long (lz (bst))])), (bsb, zaL (G.2 0) 40 (bsf)), (bda, .inr (9, [.ref bdb, .int (iz (bdn)), .long (lz (bdt))])), (bdb, zaL (G.2 0) 40 (bdf))] := hD
  have hl : lv_has ls 3 [(0, .ref y), (1, .int (iz (po)))] := hl
  rw [← hH, ← hlo]
  refine lv_aload_n hx hb dX5_isCarriedAlike_0 rfl (lv_at hl 0 rfl) ?_
  refine lv_iload_n hx hb dX5_isCarriedAlike_1 rfl (lv_at hl 1 rfl) ?_
  refine lv_bipush (v := iz (40)) hx hb dX5_isCarriedAlike_2 rfl ?_
  refine zc_v (wr := [(bq, .inr (2, [.ref bsa, .ref bda, .ref bwa, .long (lz (bu0)), .long (lz (bd0)), .int (iz (bp0))])), (bsa, .inr (9, [.ref bsb, .int (iz (bsn)), .long (lz (bst))])), (bsb, zaL (G.2 0) 40 (bsf)), (bda, .inr (9, [.ref bdb, .int (iz (bdn)), .long (lz (bdt))])), (bdb, zaL (G.2 0) 40 (bdf))]) (va_runV (As := [.int (iz (po)), .int (iz (40))]) (rest := []) ⟨hx, hb, hml, hown, hts⟩ (c_X5_carry l G y am q bq wa sa sb sf sn st da db df dn dt u0 d0 p0 po 40 (by omega) (by omega) H.size) (cwV 2 hts gX5_isCarriedAlike_X5_carry rfl rfl rfl (by decide +kernel) ⟨Nat.le_of_ble_eq_true rfl, Nat.le_of_ble_eq_true rfl⟩) (zpV hKX hP hD [0, 1, 2, 3, 4, 5, 6] rfl rfl 0 6 rfl rfl) rfl rfl hl.1 rfl (lv_room (Nat.le_of_ble_eq_true rfl)) dX5_isCarriedAlike_4 ⟨(by first | exact Nat.le_of_ble_eq_true rfl | (show _ ≤ (0 : Nat); omega)), (by first | exact Nat.le_of_ble_eq_true rfl | (show _ ≤ (0 : Nat); omega))⟩) hP hD hS hA [0, 1, 2, 3, 4, 5, 6] [7, 8, 9, 10, 11] rfl rfl rfl (by decide) (fun u_1 H locs hc hP hD hS => ?_)
  obtain ⟨sf1, sn1, st1, df1, dn1, dt1, ru, rd, g, p1⟩ := u_1
  have hP : va_P G.1 vwCl [(bq, .inr (2, [.ref bsa, .ref bda, .ref bwa, .long (lz (bu0)), .long (lz (bd0)), .int (iz (bp0))])), (bsa, .inr (9, [.ref bsb, .int (iz (bsn)), .long (lz (bst))])), (bsb, zaL (G.2 0) 40 (bsf)), (bda, .inr (9, [.ref bdb, .int (iz (bdn)), .long (lz (bdt))])), (bdb, zaL (G.2 0) 40 (bdf)), (y, .inr (6, [.ref am, .ref q, .ref bq])), (am, zaL (G.2 0) 41 (fun _ => 0)), (q, .inr (2, [.ref sa, .ref da, .ref wa, .long (lz (ru)), .long (lz (rd)), .int (iz (p1))])), (sa, .inr (9, [.ref sb, .int (iz (sn1)), .long (lz (st1))])), (sb, zaL (G.2 0) 40 (sf1)), (da, .inr (9, [.ref db, .int (iz (dn1)), .long (lz (dt1))])), (db, zaL (G.2 0) 40 (df1))] H := hP
  have hD : va_D A [(bq, .inr (2, [.ref bsa, .ref bda, .ref bwa, .long (lz (bu0)), .long (lz (bd0)), .int (iz (bp0))])), (bsa, .inr (9, [.ref bsb, .int (iz (bsn)), .long (lz (bst))])), (bsb, zaL (G.2 0) 40 (bsf)), (bda, .inr (9, [.ref bdb, .int (iz (bdn)), .long (lz (bdt))])), (bdb, zaL (G.2 0) 40 (bdf)), (y, .inr (6, [.ref am, .ref q, .ref bq])), (am, zaL (G.2 0) 41 (fun _ => 0)), (q, .inr (2, [.ref sa, .ref da, .ref wa, .long (lz (ru)), .long (lz (rd)), .int (iz (p1))])), (sa, .inr (9, [.ref sb, .int (iz (sn1)), .long (lz (st1))])), (sb, zaL (G.2 0) 40 (sf1)), (da, .inr (9, [.ref db, .int (iz (dn1)), .long (lz (dt1))])), (db, zaL (G.2 0) 40 (df1))] := hD
  have hc : zwv sf1 sn1 st1 0 ∧ zfr g ru rd po := hc
  have hrg := hc.2.rng h3
  refine lv_aload_n hx hb dX5_isCarriedAlike_7 rfl (lv_at hl 0 rfl) ?_
  refine va_get (D := G.1) (ci := 6) (v := .ref bq) (C := RX5) (T := TX5) (N := 3) hx hb hts iwX5 hown hK hP 5 rfl rfl 2 (by decide) (hts (.fieldLink RX5 22 "AnnuityHouse$Row" "backFlow" "LAnnuityHouse$Flow;") (by decide +kernel)) (fun _ h9 => h9) rfl dX5_isCarriedAlike_8 ?_
  refine lv_iload_n hx hb dX5_isCarriedAlike_11 rfl (lv_at hl 1 rfl) ?_
  refine lv_aload_n hx hb dX5_isCarriedAlike_12 rfl (lv_at hl 0 rfl) ?_
  refine va_get (D := G.1) (ci := 6) (v := .ref am) (C := RX5) (T := TX5) (N := 3) hx hb hts iwX5 hown hK hP 5 rfl rfl 0 (by decide) (hts (.fieldLink RX5 9 "AnnuityHouse$Row" "amounts" "[J") (by decide +kernel)) (fun _ h9 => h9) rfl dX5_isCarriedAlike_13 ?_
  refine lv_bipush (v := iz (40)) hx hb dX5_isCarriedAlike_16 rfl ?_
  refine zr_lald hx hb hK hP 6 0 rfl rfl (i := 40) (⟨by omega, by omega, by omega⟩) dX5_isCarriedAlike_18 ?_
  refine zr_eql (x := (fun _ => 0) 40) (y := 0) rfl ?_
  refine zc_v (wr := [(y, .inr (6, [.ref am, .ref q, .ref bq])), (am, zaL (G.2 0) 41 (fun _ => 0)), (q, .inr (2, [.ref sa, .ref da, .ref wa, .long (lz (ru)), .long (lz (rd)), .int (iz (p1))])), (sa, .inr (9, [.ref sb, .int (iz (sn1)), .long (lz (st1))])), (sb, zaL (G.2 0) 40 (sf1)), (da, .inr (9, [.ref db, .int (iz (dn1)), .long (lz (dt1))])), (db, zaL (G.2 0) 40 (df1))]) (va_runV (As := [.int (iz (po)), .long (lz (0))]) (rest := []) ⟨hx, hb, hml, hown, hts⟩ (c_X1_beginBackwards l G bq bwa bsa bsb bsf bsn bst bda bdb bdf bdn bdt bu0 bd0 bp0 po 0 (by omega) (by omega) H.size) (cwV 2 hts gX5_isCarriedAlike_X1_beginBackwards rfl rfl rfl (by decide +kernel) ⟨Nat.le_of_ble_eq_true rfl, Nat.le_of_ble_eq_true rfl⟩) (zpV hKX hP hD [0, 1, 2, 3, 4] rfl rfl 0 2 rfl rfl) rfl rfl hl.1 rfl (lv_room (Nat.le_of_ble_eq_true rfl)) dX5_isCarriedAlike_19 ⟨(by first | exact Nat.le_of_ble_eq_true rfl | (show _ ≤ (0 : Nat); omega)), (by first | exact Nat.le_of_ble_eq_true rfl | (show _ ≤ (0 : Nat); omega))⟩) hP hD hS hA [0, 1, 2, 3, 4] [5, 6, 7, 8, 9, 10, 11] rfl rfl rfl (by decide) (fun u_4 H locs hbg hP hD hS => ?_)
  obtain ⟨bsf1, bsn1, bst1, bdf1, bdn1, bdt1, bru, brd, bg⟩ := u_4
  have hP : va_P G.1 vwCl [(y, .inr (6, [.ref am, .ref q, .ref bq])), (am, zaL (G.2 0) 41 (fun _ => 0)), (q, .inr (2, [.ref sa, .ref da, .ref wa, .long (lz (ru)), .long (lz (rd)), .int (iz (p1))])), (sa, .inr (9, [.ref sb, .int (iz (sn1)), .long (lz (st1))])), (sb, zaL (G.2 0) 40 (sf1)), (da, .inr (9, [.ref db, .int (iz (dn1)), .long (lz (dt1))])), (db, zaL (G.2 0) 40 (df1)), (bq, .inr (2, [.ref bsa, .ref bda, .ref bwa, .long (lz (bru)), .long (lz (brd)), .int (iz (0))])), (bsa, .inr (9, [.ref bsb, .int (iz (bsn1)), .long (lz (bst1))])), (bsb, zaL (G.2 0) 40 (bsf1)), (bda, .inr (9, [.ref bdb, .int (iz (bdn1)), .long (lz (bdt1))])), (bdb, zaL (G.2 0) 40 (bdf1))] H := hP
  have hD : va_D A [(y, .inr (6, [.ref am, .ref q, .ref bq])), (am, zaL (G.2 0) 41 (fun _ => 0)), (q, .inr (2, [.ref sa, .ref da, .ref wa, .long (lz (ru)), .long (lz (rd)), .int (iz (p1))])), (sa, .inr (9, [.ref sb, .int (iz (sn1)), .long (lz (st1))])), (sb, zaL (G.2 0) 40 (sf1)), (da, .inr (9, [.ref db, .int (iz (dn1)), .long (lz (dt1))])), (db, zaL (G.2 0) 40 (df1)), (bq, .inr (2, [.ref bsa, .ref bda, .ref bwa, .long (lz (bru)), .long (lz (brd)), .int (iz (0))])), (bsa, .inr (9, [.ref bsb, .int (iz (bsn1)), .long (lz (bst1))])), (bsb, zaL (G.2 0) 40 (bsf1)), (bda, .inr (9, [.ref bdb, .int (iz (bdn1)), .long (lz (bdt1))])), (bdb, zaL (G.2 0) 40 (bdf1))] := hD
  have hbg : zwv bsf1 bsn1 bst1 (0 : Int) ∧ zwv bdf1 bdn1 bdt1 1 ∧ zfr bg brd bru po := hbg
  have hfr := hbg.2.2
  have hrb := hfr.rng h3
  refine lv_bipush (v := iz (39)) hx hb dX5_isCarriedAlike_22 rfl ?_
  refine lv_istore_n (lv' := [(2, .int (iz (39))), (0, .ref y), (1, .int (iz (po)))]) hx hb dX5_isCarriedAlike_24 rfl hl (by decide) rfl (fun ls hl => ?_)
  have hl_25 : ∀ (zn_25 : Nat) (i : Int) (bpq : Int) (bsg : Int → Int) (bsm : Int) (bsu : Int) (bdg : Int → Int) (bdm : Int) (bdu : Int) (H : Heap) (locs : List Loc) (ls : Array Slot), (i + 1).toNat < zn_25 → (-1 ≤ i ∧ i ≤ 39) → (zwv bsg bsm bsu 0) → (zwv bdg bdm bdu (brd ^ (39 - i).toNat)) → va_P G.1 vwCl [(y, .inr (6, [.ref am, .ref q, .ref bq])), (am, zaL (G.2 0) 41 (fun _ => 0)), (q, .inr (2, [.ref sa, .ref da, .ref wa, .long (lz (ru)), .long (lz (rd)), .int (iz (p1))])), (sa, .inr (9, [.ref sb, .int (iz (sn1)), .long (lz (st1))])), (sb, zaL (G.2 0) 40 (sf1)), (da, .inr (9, [.ref db, .int (iz (dn1)), .long (lz (dt1))])), (db, zaL (G.2 0) 40 (df1)), (bq, .inr (2, [.ref bsa, .ref bda, .ref bwa, .long (lz (bru)), .long (lz (brd)), .int (iz (bpq))])), (bsa, .inr (9, [.ref bsb, .int (iz (bsm)), .long (lz (bsu))])), (bsb, zaL (G.2 0) 40 (bsg)), (bda, .inr (9, [.ref bdb, .int (iz (bdm)), .long (lz (bdu))])), (bdb, zaL (G.2 0) 40 (bdg))] H → va_D A [(y, .inr (6, [.ref am, .ref q, .ref bq])), (am, zaL (G.2 0) 41 (fun _ => 0)), (q, .inr (2, [.ref sa, .ref da, .ref wa, .long (lz (ru)), .long (lz (rd)), .int (iz (p1))])), (sa, .inr (9, [.ref sb, .int (iz (sn1)), .long (lz (st1))])), (sb, zaL (G.2 0) 40 (sf1)), (da, .inr (9, [.ref db, .int (iz (dn1)), .long (lz (dt1))])), (db, zaL (G.2 0) 40 (df1)), (bq, .inr (2, [.ref bsa, .ref bda, .ref bwa, .long (lz (bru)), .long (lz (brd)), .int (iz (bpq))])), (bsa, .inr (9, [.ref bsb, .int (iz (bsm)), .long (lz (bsu))])), (bsb, zaL (G.2 0) 40 (bsg)), (bda, .inr (9, [.ref bdb, .int (iz (bdm)), .long (lz (bdu))])), (bdb, zaL (G.2 0) 40 (bdg))] → va_S A s.heap H locs → lv_has ls 3 [(2, .int (iz (i))), (0, .ref y), (1, .int (iz (po)))] → W p l e rm_c_X5_isCarriedAlike s m ([.ref y, .int (iz (po))] : List Value).toArray below meth c H locs (0 + 0 + 0) (0 + 0 + 0) Q (F0 m 25 ls []) := by
    intro zn_25
    induction zn_25 with
    | zero => intro i bpq bsg bsm bsu bdg bdm bdu H locs ls hm; exact absurd hm (Nat.not_lt_zero _)
    | succ zn_25 ih_25 =>
      intro i bpq bsg bsm bsu bdg bdm bdu H locs ls hm_25 k1 k2 k3 hP hD hS hl
      refine lv_iload_n hx hb dX5_isCarriedAlike_25 rfl (lv_at hl 0 rfl) ?_
      refine zr_if_lt (x := i) (tgt := 48) hx hb (⟨by omega, by omega⟩) dX5_isCarriedAlike_26 (by decide) (fun h_7 => ?_) (fun h_7 => ?_)
      ·
        refine lv_aload_n hx hb dX5_isCarriedAlike_48 rfl (lv_at hl 1 rfl) ?_
        refine va_get (D := G.1) (ci := 6) (v := .ref bq) (C := RX5) (T := TX5) (N := 3) hx hb hts iwX5 hown hK hP 0 rfl rfl 2 (by decide) (hts (.fieldLink RX5 22 "AnnuityHouse$Row" "backFlow" "LAnnuityHouse$Flow;") (by decide +kernel)) (fun _ h9 => h9) rfl dX5_isCarriedAlike_49 ?_
        refine va_get (D := G.1) (ci := 2) (v := .ref bsa) (C := RX1) (T := TX1) (N := 6) hx hb hts iwX1 hown hK hP 7 rfl rfl 0 (by decide) (hts (.fieldLink RX5 71 "AnnuityHouse$Flow" "sum" "LAnnuityHouse$Whole;") (by decide +kernel)) (fun _ h9 => h9) rfl dX5_isCarriedAlike_52 ?_
        refine lv_lconst (v := lz (1)) hx hb dX5_isCarriedAlike_55 rfl ?_
        refine lv_aload_n hx hb dX5_isCarriedAlike_56 rfl (lv_at hl 1 rfl) ?_
        refine va_get (D := G.1) (ci := 6) (v := .ref q) (C := RX5) (T := TX5) (N := 3) hx hb hts iwX5 hown hK hP 0 rfl rfl 1 (by decide) (hts (.fieldLink RX5 18 "AnnuityHouse$Row" "flow" "LAnnuityHouse$Flow;") (by decide +kernel)) (fun _ h9 => h9) rfl dX5_isCarriedAlike_57 ?_
        refine va_get (D := G.1) (ci := 2) (v := .ref sa) (C := RX1) (T := TX1) (N := 6) hx hb hts iwX1 hown hK hP 2 rfl rfl 0 (by decide) (hts (.fieldLink RX5 71 "AnnuityHouse$Flow" "sum" "LAnnuityHouse$Whole;") (by decide +kernel)) (fun _ h9 => h9) rfl dX5_isCarriedAlike_60 ?_
        refine zr_ldc2 (z := -1) hx hb hown (hts (.constantLong RX5 100 (-1)) (by decide +kernel)) rfl dX5_isCarriedAlike_63 ?_
        refine lv_iconst (v := iz (0)) hx hb dX5_isCarriedAlike_66 rfl ?_
        have hs5 := zwv_small k2 (k := 37) (by decide +kernel) (by decide +kernel)
        have hs6 := zwv_small hc.1 (k := 37) (by decide +kernel) (by decide +kernel)
        refine zc_v (wr := [(y, .inr (6, [.ref am, .ref q, .ref bq])), (am, zaL (G.2 0) 41 (fun _ => 0)), (q, .inr (2, [.ref sa, .ref da, .ref wa, .long (lz (ru)), .long (lz (rd)), .int (iz (p1))])), (da, .inr (9, [.ref db, .int (iz (dn1)), .long (lz (dt1))])), (db, zaL (G.2 0) 40 (df1)), (bq, .inr (2, [.ref bsa, .ref bda, .ref bwa, .long (lz (bru)), .long (lz (brd)), .int (iz (bpq))])), (bda, .inr (9, [.ref bdb, .int (iz (bdm)), .long (lz (bdu))])), (bdb, zaL (G.2 0) 40 (bdg))]) (va_runV (As := [.long (lz (1)), .ref sa, .long (lz (-1)), .int (iz (0))]) (rest := []) ⟨hx, hb, hml, hown, hts⟩ (c_X8_combine l G bsa bsb bsg bsm bsu sa sb sf1 sn1 st1 0 0 1 (-1) 0 (k2) (hc.1) (by omega) (by omega) (by omega) (⟨hs5, by omega⟩) H.size) (cwV 4 hts gX5_isCarriedAlike_X8_combine rfl rfl rfl (by decide +kernel) ⟨Nat.le_of_ble_eq_true rfl, Nat.le_of_ble_eq_true rfl⟩) (zpV hKX hP hD [8, 9, 3, 4] rfl rfl 8 9 rfl rfl) rfl rfl hl.1 rfl (lv_room (Nat.le_of_ble_eq_true rfl)) dX5_isCarriedAlike_67 ⟨(by first | exact Nat.le_of_ble_eq_true rfl | (show _ ≤ (0 : Nat); omega)), (by first | exact Nat.le_of_ble_eq_true rfl | (show _ ≤ (0 : Nat); omega))⟩) hP hD hS hA [8, 9, 3, 4] [0, 1, 2, 5, 6, 7, 10, 11] rfl rfl rfl (by decide) (fun u_8 H locs hcm hP hD hS => ?_)
        obtain ⟨bsf5, bsn5, bst5⟩ := u_8
        have hP : va_P G.1 vwCl [(y, .inr (6, [.ref am, .ref q, .ref bq])), (am, zaL (G.2 0) 41 (fun _ => 0)), (q, .inr (2, [.ref sa, .ref da, .ref wa, .long (lz (ru)), .long (lz (rd)), .int (iz (p1))])), (da, .inr (9, [.ref db, .int (iz (dn1)), .long (lz (dt1))])), (db, zaL (G.2 0) 40 (df1)), (bq, .inr (2, [.ref bsa, .ref bda, .ref bwa, .long (lz (bru)), .long (lz (brd)), .int (iz (bpq))])), (bda, .inr (9, [.ref bdb, .int (iz (bdm)), .long (lz (bdu))])), (bdb, zaL (G.2 0) 40 (bdg)), (bsa, .inr (9, [.ref bsb, .int (iz (bsn5)), .long (lz (bst5))])), (bsb, zaL (G.2 0) 40 (bsf5)), (sa, .inr (9, [.ref sb, .int (iz (sn1)), .long (lz (st1))])), (sb, zaL (G.2 0) 40 (sf1))] H := hP
        have hD : va_D A [(y, .inr (6, [.ref am, .ref q, .ref bq])), (am, zaL (G.2 0) 41 (fun _ => 0)), (q, .inr (2, [.ref sa, .ref da, .ref wa, .long (lz (ru)), .long (lz (rd)), .int (iz (p1))])), (da, .inr (9, [.ref db, .int (iz (dn1)), .long (lz (dt1))])), (db, zaL (G.2 0) 40 (df1)), (bq, .inr (2, [.ref bsa, .ref bda, .ref bwa, .long (lz (bru)), .long (lz (brd)), .int (iz (bpq))])), (bda, .inr (9, [.ref bdb, .int (iz (bdm)), .long (lz (bdu))])), (bdb, zaL (G.2 0) 40 (bdg)), (bsa, .inr (9, [.ref bsb, .int (iz (bsn5)), .long (lz (bst5))])), (bsb, zaL (G.2 0) 40 (bsf5)), (sa, .inr (9, [.ref sb, .int (iz (sn1)), .long (lz (st1))])), (sb, zaL (G.2 0) 40 (sf1))] := hD
        have hcm : zwv bsf5 bsn5 bst5 ((0 : Int) * (1 : Int) + (0 : Int) * 1073741824 ^ (0 : Int).toNat * (-1 : Int)) := hcm
        refine lv_aload_n hx hb dX5_isCarriedAlike_70 rfl (lv_at hl 1 rfl) ?_
        refine va_get (D := G.1) (ci := 6) (v := .ref bq) (C := RX5) (T := TX5) (N := 3) hx hb hts iwX5 hown hK hP 0 rfl rfl 2 (by decide) (hts (.fieldLink RX5 22 "AnnuityHouse$Row" "backFlow" "LAnnuityHouse$Flow;") (by decide +kernel)) (fun _ h9 => h9) rfl dX5_isCarriedAlike_71 ?_
        refine va_get (D := G.1) (ci := 2) (v := .ref bsa) (C := RX1) (T := TX1) (N := 6) hx hb hts iwX1 hown hK hP 5 rfl rfl 0 (by decide) (hts (.fieldLink RX5 71 "AnnuityHouse$Flow" "sum" "LAnnuityHouse$Whole;") (by decide +kernel)) (fun _ h9 => h9) rfl dX5_isCarriedAlike_74 ?_
        refine zc_i (wr := [(y, .inr (6, [.ref am, .ref q, .ref bq])), (am, zaL (G.2 0) 41 (fun _ => 0)), (q, .inr (2, [.ref sa, .ref da, .ref wa, .long (lz (ru)), .long (lz (rd)), .int (iz (p1))])), (da, .inr (9, [.ref db, .int (iz (dn1)), .long (lz (dt1))])), (db, zaL (G.2 0) 40 (df1)), (bq, .inr (2, [.ref bsa, .ref bda, .ref bwa, .long (lz (bru)), .long (lz (brd)), .int (iz (bpq))])), (bda, .inr (9, [.ref bdb, .int (iz (bdm)), .long (lz (bdu))])), (bdb, zaL (G.2 0) 40 (bdg)), (sa, .inr (9, [.ref sb, .int (iz (sn1)), .long (lz (st1))])), (sb, zaL (G.2 0) 40 (sf1))]) (va_runV (As := []) (rest := []) ⟨hx, hb, hml, hown, hts⟩ (c_X8_sign l G bsa bsb bsf5 bsn5 bst5 0 (by simpa using hcm) H.size) (cwV 0 hts gX5_isCarriedAlike_X8_sign rfl rfl rfl (by decide +kernel) ⟨Nat.le_of_ble_eq_true rfl, Nat.le_of_ble_eq_true rfl⟩) (zpV hKX hP hD [8, 9] rfl rfl 8 9 rfl rfl) rfl rfl hl.1 rfl (lv_room (Nat.le_of_ble_eq_true rfl)) dX5_isCarriedAlike_77 ⟨(by first | exact Nat.le_of_ble_eq_true rfl | (show _ ≤ (0 : Nat); omega)), (by first | exact Nat.le_of_ble_eq_true rfl | (show _ ≤ (0 : Nat); omega))⟩) hP hD hS hA [8, 9] [0, 1, 2, 3, 4, 5, 6, 7, 10, 11] rfl rfl rfl (by decide) (fun sg u_11 H locs hsg hP hD hS => ?_)
        have hP : va_P G.1 vwCl [(y, .inr (6, [.ref am, .ref q, .ref bq])), (am, zaL (G.2 0) 41 (fun _ => 0)), (q, .inr (2, [.ref sa, .ref da, .ref wa, .long (lz (ru)), .long (lz (rd)), .int (iz (p1))])), (da, .inr (9, [.ref db, .int (iz (dn1)), .long (lz (dt1))])), (db, zaL (G.2 0) 40 (df1)), (bq, .inr (2, [.ref bsa, .ref bda, .ref bwa, .long (lz (bru)), .long (lz (brd)), .int (iz (bpq))])), (bda, .inr (9, [.ref bdb, .int (iz (bdm)), .long (lz (bdu))])), (bdb, zaL (G.2 0) 40 (bdg)), (sa, .inr (9, [.ref sb, .int (iz (sn1)), .long (lz (st1))])), (sb, zaL (G.2 0) 40 (sf1)), (bsa, .inr (9, [.ref bsb, .int (iz (bsn5)), .long (lz (bst5))])), (bsb, zaL (G.2 0) 40 (bsf5))] H := hP
        have hD : va_D A [(y, .inr (6, [.ref am, .ref q, .ref bq])), (am, zaL (G.2 0) 41 (fun _ => 0)), (q, .inr (2, [.ref sa, .ref da, .ref wa, .long (lz (ru)), .long (lz (rd)), .int (iz (p1))])), (da, .inr (9, [.ref db, .int (iz (dn1)), .long (lz (dt1))])), (db, zaL (G.2 0) 40 (df1)), (bq, .inr (2, [.ref bsa, .ref bda, .ref bwa, .long (lz (bru)), .long (lz (brd)), .int (iz (bpq))])), (bda, .inr (9, [.ref bdb, .int (iz (bdm)), .long (lz (bdu))])), (bdb, zaL (G.2 0) 40 (bdg)), (sa, .inr (9, [.ref sb, .int (iz (sn1)), .long (lz (st1))])), (sb, zaL (G.2 0) 40 (sf1)), (bsa, .inr (9, [.ref bsb, .int (iz (bsn5)), .long (lz (bst5))])), (bsb, zaL (G.2 0) 40 (bsf5))] := hD
        have hsg : sg = (0 : Int).sign := hsg
        have hsg0 : sg = 0 := hsg.trans rfl
        refine zr_if_ne (x := sg) (tgt := 87) hx hb (⟨by omega, by omega⟩) dX5_isCarriedAlike_80 (by decide) (fun h_13 => ?_) (fun h_13 => ?_)
        · exact absurd h_13 (not_not_intro (hsg.trans rfl))
        ·
          refine lv_iconst (v := iz (1)) hx hb dX5_isCarriedAlike_83 rfl ?_
          refine lv_goto (tgt := 88) hx hb dX5_isCarriedAlike_84 (by decide) ?_
          rw [hQ]
          exact zr_zret (z := true) (rfl) (u := (sf1, sn1, st1, df1, dn1, dt1, ru, rd, p1, bsf5, bsn5, bst5, bdg, bdm, bdu, bru, brd, bpq)) hx hb hr hlocks (hP.sub [0, 1, 2, 8, 9, 3, 4, 5, 10, 11, 6, 7] rfl) (hD.sub [0, 1, 2, 8, 9, 3, 4, 5, 10, 11, 6, 7] (by decide) rfl) hS (by first | exact Nat.le_of_ble_eq_true rfl | omega) (by first | exact Nat.le_of_ble_eq_true rfl | omega) dX5_isCarriedAlike_88 (show true = true from rfl)
      ·
        refine lv_aload_n hx hb dX5_isCarriedAlike_29 rfl (lv_at hl 1 rfl) ?_
        refine va_get (D := G.1) (ci := 6) (v := .ref bq) (C := RX5) (T := TX5) (N := 3) hx hb hts iwX5 hown hK hP 0 rfl rfl 2 (by decide) (hts (.fieldLink RX5 22 "AnnuityHouse$Row" "backFlow" "LAnnuityHouse$Flow;") (by decide +kernel)) (fun _ h9 => h9) rfl dX5_isCarriedAlike_30 ?_
        refine lv_aload_n hx hb dX5_isCarriedAlike_33 rfl (lv_at hl 1 rfl) ?_
        refine va_get (D := G.1) (ci := 6) (v := .ref am) (C := RX5) (T := TX5) (N := 3) hx hb hts iwX5 hown hK hP 0 rfl rfl 0 (by decide) (hts (.fieldLink RX5 9 "AnnuityHouse$Row" "amounts" "[J") (by decide +kernel)) (fun _ h9 => h9) rfl dX5_isCarriedAlike_34 ?_
        refine lv_iload_n hx hb dX5_isCarriedAlike_37 rfl (lv_at hl 0 rfl) ?_
        refine zr_lald hx hb hK hP 1 0 rfl rfl (i := i) (⟨by omega, by omega, by omega⟩) dX5_isCarriedAlike_38 ?_
        refine zr_eql (x := (fun _ => 0) i) (y := 0) rfl ?_
        have hs1 := zwv_small k2 (k := 37) (by decide +kernel) (by decide +kernel)
        have hb2 := zrp (P := brd) (k := 39 - i) (by omega) (by omega)
        have hs2 := zwv_small k3 (k := 37) (zB35_37 ⟨by omega, hb2.2⟩).2.2 (zB35_37 ⟨by omega, hb2.2⟩).2.1
        have hb3 := zrp (P := brd) (k := 39 - i + 1) (by omega) (by omega)
        rw [show brd ^ (39 - i + 1).toNat = brd ^ (39 - i).toNat * brd from by rw [show (39 - i + 1).toNat = (39 - i).toNat + 1 by omega, Int.pow_succ]] at hb3
        have hb4 := zB35_37 ⟨by omega, hb3.2⟩
        refine zc_v (wr := [(y, .inr (6, [.ref am, .ref q, .ref bq])), (am, zaL (G.2 0) 41 (fun _ => 0)), (q, .inr (2, [.ref sa, .ref da, .ref wa, .long (lz (ru)), .long (lz (rd)), .int (iz (p1))])), (sa, .inr (9, [.ref sb, .int (iz (sn1)), .long (lz (st1))])), (sb, zaL (G.2 0) 40 (sf1)), (da, .inr (9, [.ref db, .int (iz (dn1)), .long (lz (dt1))])), (db, zaL (G.2 0) 40 (df1))]) (va_runV (As := [.long (lz (0))]) (rest := []) ⟨hx, hb, hml, hown, hts⟩ (c_X1_next l G bq bwa bsa bsb bsg bsm bsu bda bdb bdg bdm bdu bru brd bpq 0 (brd ^ (39 - i).toNat) 0 (k2) (k3) (by omega) (by omega) (by omega) (⟨hb4.2.2, hb4.2.1⟩) H.size) (cwV 1 hts gX5_isCarriedAlike_X1_next rfl rfl rfl (by decide +kernel) ⟨Nat.le_of_ble_eq_true rfl, Nat.le_of_ble_eq_true rfl⟩) (zpV hKX hP hD [7, 8, 9, 10, 11] rfl rfl 7 2 rfl rfl) rfl rfl hl.1 rfl (lv_room (Nat.le_of_ble_eq_true rfl)) dX5_isCarriedAlike_39 ⟨(by first | exact Nat.le_of_ble_eq_true rfl | (show _ ≤ (0 : Nat); omega)), (by first | exact Nat.le_of_ble_eq_true rfl | (show _ ≤ (0 : Nat); omega))⟩) hP hD hS hA [7, 8, 9, 10, 11] [0, 1, 2, 3, 4, 5, 6] rfl rfl rfl (by decide) (fun u_14 H locs qn hP hD hS => ?_)
        obtain ⟨bsf3, bsn3, bst3, bdf3, bdn3, bdt3⟩ := u_14
        have hP : va_P G.1 vwCl [(y, .inr (6, [.ref am, .ref q, .ref bq])), (am, zaL (G.2 0) 41 (fun _ => 0)), (q, .inr (2, [.ref sa, .ref da, .ref wa, .long (lz (ru)), .long (lz (rd)), .int (iz (p1))])), (sa, .inr (9, [.ref sb, .int (iz (sn1)), .long (lz (st1))])), (sb, zaL (G.2 0) 40 (sf1)), (da, .inr (9, [.ref db, .int (iz (dn1)), .long (lz (dt1))])), (db, zaL (G.2 0) 40 (df1)), (bq, .inr (2, [.ref bsa, .ref bda, .ref bwa, .long (lz (bru)), .long (lz (brd)), .int (iz (bpq + 1))])), (bsa, .inr (9, [.ref bsb, .int (iz (bsn3)), .long (lz (bst3))])), (bsb, zaL (G.2 0) 40 (bsf3)), (bda, .inr (9, [.ref bdb, .int (iz (bdn3)), .long (lz (bdt3))])), (bdb, zaL (G.2 0) 40 (bdf3))] H := hP
        have hD : va_D A [(y, .inr (6, [.ref am, .ref q, .ref bq])), (am, zaL (G.2 0) 41 (fun _ => 0)), (q, .inr (2, [.ref sa, .ref da, .ref wa, .long (lz (ru)), .long (lz (rd)), .int (iz (p1))])), (sa, .inr (9, [.ref sb, .int (iz (sn1)), .long (lz (st1))])), (sb, zaL (G.2 0) 40 (sf1)), (da, .inr (9, [.ref db, .int (iz (dn1)), .long (lz (dt1))])), (db, zaL (G.2 0) 40 (df1)), (bq, .inr (2, [.ref bsa, .ref bda, .ref bwa, .long (lz (bru)), .long (lz (brd)), .int (iz (bpq + 1))])), (bsa, .inr (9, [.ref bsb, .int (iz (bsn3)), .long (lz (bst3))])), (bsb, zaL (G.2 0) 40 (bsf3)), (bda, .inr (9, [.ref bdb, .int (iz (bdn3)), .long (lz (bdt3))])), (bdb, zaL (G.2 0) 40 (bdf3))] := hD
        have qn : zwv bsf3 bsn3 bst3 ((0 : Int) * bru + (brd ^ (39 - i).toNat) * brd * (0 : Int)) ∧ zwv bdf3 bdn3 bdt3 ((brd ^ (39 - i).toNat) * brd) := qn
        have qs := qn.1
        rw [zcz_z] at qs
        have qd := qn.2
        refine lv_iinc (v := iz (i - 1)) (lv' := [(2, .int (iz (i - 1))), (0, .ref y), (1, .int (iz (po)))]) hx hb dX5_isCarriedAlike_42 hl (k := 0) rfl (by rw [show Int32.ofInt (-1) = iz (-1) from rfl, iz_add]; exact congrArg iz (by omega)) (by decide) rfl (fun ls hl => ?_)
        refine lv_goto (tgt := 25) hx hb dX5_isCarriedAlike_45 (by decide) ?_
        refine W.widen (k := 0 + 0 + 0) (n := 0 + 0 + 0) (by omega) (by omega) ?_
        exact ih_25 (i - 1) (bpq + 1) bsf3 bsn3 bst3 bdf3 bdn3 bdt3 _ _ _ (by omega) (by omega) (qs) (by rw [show (39 - (i - 1)).toNat = (39 - i).toNat + 1 by omega, Int.pow_succ]; exact qd) (hP) (hD) hS (hl)
  exact hl_25 ((39 + 1 : Int).toNat + 1) 39 0 bsf1 bsn1 bst1 bdf1 bdn1 bdt1 _ _ _ (Nat.lt_succ_self _) (by omega) (hbg.1) (by simpa using hbg.2.1) (hP) (hD) hS (hl)
