-- THE CLASS: Lives, Shares, Taxes as made (laid by wip/walk/x2.py)
theorem zhalf40 {x y d : Int} (h0 : 0 ≤ d) (h1 : d ≤ 41) (h : x ≤ 2 ^ (40 - d).toNat ∧ (d = 41 → x ≤ 0)) (h2 : 1 ≤ x) (hy : 2 * y ≤ x) : y ≤ 2 ^ (40 - (d + 1)).toNat ∧ (d + 1 = 41 → y ≤ 0) := by
  have hd : d ≤ 40 := by
    rcases Int.lt_or_le 40 d with c | c
    · have := h.2 (by omega); omega
    · exact c
  by_cases c : d = 40
  · subst c
    have e : (2 : Int) ^ (40 - 40 : Int).toNat = 1 := by decide
    have e2 : (2 : Int) ^ (40 - (40 + 1) : Int).toNat = 1 := by decide
    rw [e2]
    rw [e] at h
    exact ⟨by omega, fun _ => by omega⟩
  · have h1 := h.1
    rw [show (40 - d).toNat = (40 - (d + 1)).toNat + 1 by omega, Int.pow_succ] at h1
    exact ⟨by omega, fun e => absurd e (by omega)⟩
def rm_c_X2_init : Room := { frames := 3, cells := 15, slots := 300, locals := 52 }
theorem iw_X2_init_X1 : ∀ w ∈ wsX10, w ∈ wsX2_init := by decide +kernel
theorem iw_X2_init_X2 : ∀ w ∈ wsX20, w ∈ wsX2_init := by decide +kernel
set_option maxHeartbeats 1000000 in
set_option maxRecDepth 100000 in
theorem c_X2_init (l : Launch) (G : zG) (y : Nat)  : zM l G yX2_init wsX2_init rm_c_X2_init [.ref y] [(y, .inr (3, [.null, .null, .null, .int (iz (0))]))] (fun A => zQv G (fun (u : (Nat × Nat × Nat × Nat × Nat × Nat × Nat × Nat × Nat × Nat × Nat × Nat × Nat × Nat × Nat)) => True) (fun (u : (Nat × Nat × Nat × Nat × Nat × Nat × Nat × Nat × Nat × Nat × Nat × Nat × Nat × Nat × Nat)) => [(y, .inr (3, [.ref u.1, .ref u.2.1, .ref u.2.2.2.2.2.2.2.2.1, .int (iz (0))])), (u.1, zaI (G.2 1) 30 (fun _ => 0)), (u.2.1, .inr (2, [.ref u.2.2.1, .ref u.2.2.2.2.1, .ref u.2.2.2.2.2.2.1, .long (lz (1)), .long (lz (1)), .int (iz (0))])), (u.2.2.1, .inr (9, [.ref u.2.2.2.1, .int (iz (0)), .long (lz (0))])), (u.2.2.2.1, zaL (G.2 0) 40 (fun _ => 0)), (u.2.2.2.2.1, .inr (9, [.ref u.2.2.2.2.2.1, .int (iz (0)), .long (lz (0))])), (u.2.2.2.2.2.1, zaL (G.2 0) 40 (fun _ => 0)), (u.2.2.2.2.2.2.1, .inr (9, [.ref u.2.2.2.2.2.2.2.1, .int (iz (0)), .long (lz (0))])), (u.2.2.2.2.2.2.2.1, zaL (G.2 0) 40 (fun _ => 0)), (u.2.2.2.2.2.2.2.2.1, .inr (2, [.ref u.2.2.2.2.2.2.2.2.2.1, .ref u.2.2.2.2.2.2.2.2.2.2.2.1, .ref u.2.2.2.2.2.2.2.2.2.2.2.2.2.1, .long (lz (1)), .long (lz (1)), .int (iz (0))])), (u.2.2.2.2.2.2.2.2.2.1, .inr (9, [.ref u.2.2.2.2.2.2.2.2.2.2.1, .int (iz (0)), .long (lz (0))])), (u.2.2.2.2.2.2.2.2.2.2.1, zaL (G.2 0) 40 (fun _ => 0)), (u.2.2.2.2.2.2.2.2.2.2.2.1, .inr (9, [.ref u.2.2.2.2.2.2.2.2.2.2.2.2.1, .int (iz (0)), .long (lz (0))])), (u.2.2.2.2.2.2.2.2.2.2.2.2.1, zaL (G.2 0) 40 (fun _ => 0)), (u.2.2.2.2.2.2.2.2.2.2.2.2.2.1, .inr (9, [.ref u.2.2.2.2.2.2.2.2.2.2.2.2.2.2, .int (iz (0)), .long (lz (0))])), (u.2.2.2.2.2.2.2.2.2.2.2.2.2.2, zaL (G.2 0) 40 (fun _ => 0))]) A) 15 300 := by
  refine zM_of (cc := cX2_init) (maxL := 1) (ret := none) (by decide) rfl (Nat.le_of_ble_eq_true rfl) ?_
  intro p e s m below meth c ls A Q hQ hx hb hr hts hown hlocks hml hnm hKX hP hD hA hS hl
  have hK := hKX.1
  have iwX1 := iw_X2_init_X1
  have iwX2 := iw_X2_init_X2
  obtain ⟨H, hH⟩ : ∃ h, h = s.heap := ⟨_, rfl⟩
  obtain ⟨locs, hlo⟩ : ∃ h : List Loc, h = [] := ⟨_, rfl⟩
  have hS : va_S A s.heap H locs := by rw [hH, hlo]; exact hS
  have hP : va_P G.1 vwCl [(y, .inr (3, [.null, .null, .null, .int (iz (0))]))] H := by rw [hH]; exact hP
  have hD : va_D A [(y, .inr (3, [.null, .null, .null, .int (iz (0))]))] := hD
  have hl : lv_has ls 1 [(0, .ref y)] := hl
  rw [← hH, ← hlo]
  refine lv_aload_n hx hb dX2_init_0 rfl (lv_at hl 0 rfl) ?_
  refine W.objInit hx hb hown (hts (.methodLink RX2 3 objectInit) (by decide +kernel)) (hts (.instanceMethod objectInit) (by decide +kernel)) (hts (.code objectInit ⟨#[0xb1]⟩ 1 none) (by decide +kernel)) rfl (by rw [hml]; exact hl.1) rfl dX2_init_1 (Nat.le_of_ble_eq_true rfl) (Nat.le_of_ble_eq_true rfl) ?_
  refine lv_aload_n hx hb dX2_init_4 rfl (lv_at hl 0 rfl) ?_
  refine lv_bipush (v := iz (30)) hx hb dX2_init_5 rfl ?_
  refine zr_newaI (G := G) (n := 30) (N := 30) hx hb (hts (.arrayClass .int) (by decide +kernel)) hK hP hD hS hA (by omega) (by omega) (by omega) (by first | exact Nat.le_of_ble_eq_true rfl | (show _ ≤ (15 : Nat); omega)) (by first | exact Nat.le_of_ble_eq_true rfl | (show _ ≤ (300 : Nat); omega)) dX2_init_7 (fun lv H hP hD hS => ?_)
  have hP : va_P G.1 vwCl [(y, .inr (3, [.null, .null, .null, .int (iz (0))])), (lv, zaI (G.2 1) 30 (fun _ => 0))] H := hP
  have hD : va_D A [(y, .inr (3, [.null, .null, .null, .int (iz (0))])), (lv, zaI (G.2 1) 30 (fun _ => 0))] := hD
  refine va_putF (D := G.1) (ci := 3) (v := .ref lv) (ty := (.array .int)) (C := RX2) (T := TX2) (N := 4) hx hb hts iwX2 tyX2 tyX2_ok nmX2 hown hK hP hD hS 0 rfl rfl 0 (by decide) (hts (.fieldLink RX2 9 "AnnuityHouse$Lives" "left" "[I") (by decide +kernel)) (fun _ h9 => h9) rfl hnm rfl (by decide +kernel) rfl rfl (Nat.le_of_ble_eq_true rfl) dX2_init_9 (fun H locs hP hD hS => ?_)
  have hP : va_P G.1 vwCl [(y, .inr (3, [.ref lv, .null, .null, .int (iz (0))])), (lv, zaI (G.2 1) 30 (fun _ => 0))] H := hP
  have hD : va_D A [(y, .inr (3, [.ref lv, .null, .null, .int (iz (0))])), (lv, zaI (G.2 1) 30 (fun _ => 0))] := hD
  refine lv_aload_n hx hb dX2_init_12 rfl (lv_at hl 0 rfl) ?_
  refine va_new (D := G.1) (ci := 2) (fs := [.null, .null, .null, .long 0, .long 0, .int 0]) (C := RX1) (T := TX1) (N := 6) hx hb hts iwX1 tyX1 tyX1_ok hown (hts (.classLink RX2 15 RX1) (by decide +kernel)) (hts (.instantiable RX1 6) (by decide +kernel)) (hts (.initialized RX1) (by decide +kernel)) hK hP hD hS hA rfl (by decide +kernel) (by first | exact Nat.le_of_ble_eq_true rfl | (show _ ≤ (15 : Nat); omega)) (by first | exact Nat.le_of_ble_eq_true rfl | (show _ ≤ (300 : Nat); omega)) dX2_init_13 (fun q H hP hD hS => ?_)
  have hP : va_P G.1 vwCl [(y, .inr (3, [.ref lv, .null, .null, .int (iz (0))])), (lv, zaI (G.2 1) 30 (fun _ => 0)), (q, .inr (2, [.null, .null, .null, .long (lz (0)), .long (lz (0)), .int (iz (0))]))] H := hP
  have hD : va_D A [(y, .inr (3, [.ref lv, .null, .null, .int (iz (0))])), (lv, zaI (G.2 1) 30 (fun _ => 0)), (q, .inr (2, [.null, .null, .null, .long (lz (0)), .long (lz (0)), .int (iz (0))]))] := hD
  refine lv_dup hx hb dX2_init_16 rfl ?_
  refine zc_v (wr := [(y, .inr (3, [.ref lv, .null, .null, .int (iz (0))])), (lv, zaI (G.2 1) 30 (fun _ => 0))]) (va_runIN (As := []) (rest := [.ref q, .ref y]) ⟨hx, hb, hml, hown, hts⟩ (c_X1_init l G q  H.size) ⟨va_cnB 0 hts gX2_init_X1_init_n17 rfl rfl rfl (hKX.2.2.2 (.methodLinkNest "AnnuityHouse$Lives" 17 ⟨"AnnuityHouse$Flow", "<init>", "()V"⟩ "AnnuityHouse") (by decide +kernel)) (hts (.initialized RX1) (by decide +kernel)) (by decide +kernel) ⟨Nat.le_of_ble_eq_true rfl, Nat.le_of_ble_eq_true rfl⟩, rfl, hts (.instanceMethod yX1_init) (by decide +kernel)⟩ (zpS hKX hP hD [2] rfl rfl) rfl rfl hl.1 rfl (lv_room (Nat.le_of_ble_eq_true rfl)) dX2_init_17 ⟨(by first | exact Nat.le_of_ble_eq_true rfl | (show _ ≤ (15 : Nat); omega)), (by first | exact Nat.le_of_ble_eq_true rfl | (show _ ≤ (300 : Nat); omega))⟩) hP hD hS hA [2] [0, 1] rfl rfl rfl (by decide) (fun u_2 H locs t1 hP hD hS => ?_)
  obtain ⟨sa, sb, da, db, wa, wb⟩ := u_2
  have hP : va_P G.1 vwCl [(y, .inr (3, [.ref lv, .null, .null, .int (iz (0))])), (lv, zaI (G.2 1) 30 (fun _ => 0)), (q, .inr (2, [.ref sa, .ref da, .ref wa, .long (lz (1)), .long (lz (1)), .int (iz (0))])), (sa, .inr (9, [.ref sb, .int (iz (0)), .long (lz (0))])), (sb, zaL (G.2 0) 40 (fun _ => 0)), (da, .inr (9, [.ref db, .int (iz (0)), .long (lz (0))])), (db, zaL (G.2 0) 40 (fun _ => 0)), (wa, .inr (9, [.ref wb, .int (iz (0)), .long (lz (0))])), (wb, zaL (G.2 0) 40 (fun _ => 0))] H := hP
  have hD : va_D A [(y, .inr (3, [.ref lv, .null, .null, .int (iz (0))])), (lv, zaI (G.2 1) 30 (fun _ => 0)), (q, .inr (2, [.ref sa, .ref da, .ref wa, .long (lz (1)), .long (lz (1)), .int (iz (0))])), (sa, .inr (9, [.ref sb, .int (iz (0)), .long (lz (0))])), (sb, zaL (G.2 0) 40 (fun _ => 0)), (da, .inr (9, [.ref db, .int (iz (0)), .long (lz (0))])), (db, zaL (G.2 0) 40 (fun _ => 0)), (wa, .inr (9, [.ref wb, .int (iz (0)), .long (lz (0))])), (wb, zaL (G.2 0) 40 (fun _ => 0))] := hD
  refine va_putF (D := G.1) (ci := 3) (v := .ref q) (ty := (.object "AnnuityHouse$Flow")) (C := RX2) (T := TX2) (N := 4) hx hb hts iwX2 tyX2 tyX2_ok nmX2 hown hK hP hD hS 0 rfl rfl 1 (by decide) (hts (.fieldLink RX2 18 "AnnuityHouse$Lives" "flow" "LAnnuityHouse$Flow;") (by decide +kernel)) (fun _ h9 => h9) rfl hnm rfl (by decide +kernel) rfl rfl (Nat.le_of_ble_eq_true rfl) dX2_init_20 (fun H locs hP hD hS => ?_)
  have hP : va_P G.1 vwCl [(y, .inr (3, [.ref lv, .ref q, .null, .int (iz (0))])), (lv, zaI (G.2 1) 30 (fun _ => 0)), (q, .inr (2, [.ref sa, .ref da, .ref wa, .long (lz (1)), .long (lz (1)), .int (iz (0))])), (sa, .inr (9, [.ref sb, .int (iz (0)), .long (lz (0))])), (sb, zaL (G.2 0) 40 (fun _ => 0)), (da, .inr (9, [.ref db, .int (iz (0)), .long (lz (0))])), (db, zaL (G.2 0) 40 (fun _ => 0)), (wa, .inr (9, [.ref wb, .int (iz (0)), .long (lz (0))])), (wb, zaL (G.2 0) 40 (fun _ => 0))] H := hP
  have hD : va_D A [(y, .inr (3, [.ref lv, .ref q, .null, .int (iz (0))])), (lv, zaI (G.2 1) 30 (fun _ => 0)), (q, .inr (2, [.ref sa, .ref da, .ref wa, .long (lz (1)), .long (lz (1)), .int (iz (0))])), (sa, .inr (9, [.ref sb, .int (iz (0)), .long (lz (0))])), (sb, zaL (G.2 0) 40 (fun _ => 0)), (da, .inr (9, [.ref db, .int (iz (0)), .long (lz (0))])), (db, zaL (G.2 0) 40 (fun _ => 0)), (wa, .inr (9, [.ref wb, .int (iz (0)), .long (lz (0))])), (wb, zaL (G.2 0) 40 (fun _ => 0))] := hD
  refine lv_aload_n hx hb dX2_init_23 rfl (lv_at hl 0 rfl) ?_
  refine va_new (D := G.1) (ci := 2) (fs := [.null, .null, .null, .long 0, .long 0, .int 0]) (C := RX1) (T := TX1) (N := 6) hx hb hts iwX1 tyX1 tyX1_ok hown (hts (.classLink RX2 15 RX1) (by decide +kernel)) (hts (.instantiable RX1 6) (by decide +kernel)) (hts (.initialized RX1) (by decide +kernel)) hK hP hD hS hA rfl (by decide +kernel) (by first | exact Nat.le_of_ble_eq_true rfl | (show _ ≤ (15 : Nat); omega)) (by first | exact Nat.le_of_ble_eq_true rfl | (show _ ≤ (300 : Nat); omega)) dX2_init_24 (fun bq H hP hD hS => ?_)
  have hP : va_P G.1 vwCl [(y, .inr (3, [.ref lv, .ref q, .null, .int (iz (0))])), (lv, zaI (G.2 1) 30 (fun _ => 0)), (q, .inr (2, [.ref sa, .ref da, .ref wa, .long (lz (1)), .long (lz (1)), .int (iz (0))])), (sa, .inr (9, [.ref sb, .int (iz (0)), .long (lz (0))])), (sb, zaL (G.2 0) 40 (fun _ => 0)), (da, .inr (9, [.ref db, .int (iz (0)), .long (lz (0))])), (db, zaL (G.2 0) 40 (fun _ => 0)), (wa, .inr (9, [.ref wb, .int (iz (0)), .long (lz (0))])), (wb, zaL (G.2 0) 40 (fun _ => 0)), (bq, .inr (2, [.null, .null, .null, .long (lz (0)), .long (lz (0)), .int (iz (0))]))] H := hP
  have hD : va_D A [(y, .inr (3, [.ref lv, .ref q, .null, .int (iz (0))])), (lv, zaI (G.2 1) 30 (fun _ => 0)), (q, .inr (2, [.ref sa, .ref da, .ref wa, .long (lz (1)), .long (lz (1)), .int (iz (0))])), (sa, .inr (9, [.ref sb, .int (iz (0)), .long (lz (0))])), (sb, zaL (G.2 0) 40 (fun _ => 0)), (da, .inr (9, [.ref db, .int (iz (0)), .long (lz (0))])), (db, zaL (G.2 0) 40 (fun _ => 0)), (wa, .inr (9, [.ref wb, .int (iz (0)), .long (lz (0))])), (wb, zaL (G.2 0) 40 (fun _ => 0)), (bq, .inr (2, [.null, .null, .null, .long (lz (0)), .long (lz (0)), .int (iz (0))]))] := hD
  refine lv_dup hx hb dX2_init_27 rfl ?_
  refine zc_v (wr := [(y, .inr (3, [.ref lv, .ref q, .null, .int (iz (0))])), (lv, zaI (G.2 1) 30 (fun _ => 0)), (q, .inr (2, [.ref sa, .ref da, .ref wa, .long (lz (1)), .long (lz (1)), .int (iz (0))])), (sa, .inr (9, [.ref sb, .int (iz (0)), .long (lz (0))])), (sb, zaL (G.2 0) 40 (fun _ => 0)), (da, .inr (9, [.ref db, .int (iz (0)), .long (lz (0))])), (db, zaL (G.2 0) 40 (fun _ => 0)), (wa, .inr (9, [.ref wb, .int (iz (0)), .long (lz (0))])), (wb, zaL (G.2 0) 40 (fun _ => 0))]) (va_runIN (As := []) (rest := [.ref bq, .ref y]) ⟨hx, hb, hml, hown, hts⟩ (c_X1_init l G bq  H.size) ⟨va_cnB 0 hts gX2_init_X1_init_n17 rfl rfl rfl (hKX.2.2.2 (.methodLinkNest "AnnuityHouse$Lives" 17 ⟨"AnnuityHouse$Flow", "<init>", "()V"⟩ "AnnuityHouse") (by decide +kernel)) (hts (.initialized RX1) (by decide +kernel)) (by decide +kernel) ⟨Nat.le_of_ble_eq_true rfl, Nat.le_of_ble_eq_true rfl⟩, rfl, hts (.instanceMethod yX1_init) (by decide +kernel)⟩ (zpS hKX hP hD [9] rfl rfl) rfl rfl hl.1 rfl (lv_room (Nat.le_of_ble_eq_true rfl)) dX2_init_28 ⟨(by first | exact Nat.le_of_ble_eq_true rfl | (show _ ≤ (15 : Nat); omega)), (by first | exact Nat.le_of_ble_eq_true rfl | (show _ ≤ (300 : Nat); omega))⟩) hP hD hS hA [9] [0, 1, 2, 3, 4, 5, 6, 7, 8] rfl rfl rfl (by decide) (fun u_5 H locs t2 hP hD hS => ?_)
  obtain ⟨bsa, bsb, bda, bdb, bwa, bwb⟩ := u_5
  have hP : va_P G.1 vwCl [(y, .inr (3, [.ref lv, .ref q, .null, .int (iz (0))])), (lv, zaI (G.2 1) 30 (fun _ => 0)), (q, .inr (2, [.ref sa, .ref da, .ref wa, .long (lz (1)), .long (lz (1)), .int (iz (0))])), (sa, .inr (9, [.ref sb, .int (iz (0)), .long (lz (0))])), (sb, zaL (G.2 0) 40 (fun _ => 0)), (da, .inr (9, [.ref db, .int (iz (0)), .long (lz (0))])), (db, zaL (G.2 0) 40 (fun _ => 0)), (wa, .inr (9, [.ref wb, .int (iz (0)), .long (lz (0))])), (wb, zaL (G.2 0) 40 (fun _ => 0)), (bq, .inr (2, [.ref bsa, .ref bda, .ref bwa, .long (lz (1)), .long (lz (1)), .int (iz (0))])), (bsa, .inr (9, [.ref bsb, .int (iz (0)), .long (lz (0))])), (bsb, zaL (G.2 0) 40 (fun _ => 0)), (bda, .inr (9, [.ref bdb, .int (iz (0)), .long (lz (0))])), (bdb, zaL (G.2 0) 40 (fun _ => 0)), (bwa, .inr (9, [.ref bwb, .int (iz (0)), .long (lz (0))])), (bwb, zaL (G.2 0) 40 (fun _ => 0))] H := hP
  have hD : va_D A [(y, .inr (3, [.ref lv, .ref q, .null, .int (iz (0))])), (lv, zaI (G.2 1) 30 (fun _ => 0)), (q, .inr (2, [.ref sa, .ref da, .ref wa, .long (lz (1)), .long (lz (1)), .int (iz (0))])), (sa, .inr (9, [.ref sb, .int (iz (0)), .long (lz (0))])), (sb, zaL (G.2 0) 40 (fun _ => 0)), (da, .inr (9, [.ref db, .int (iz (0)), .long (lz (0))])), (db, zaL (G.2 0) 40 (fun _ => 0)), (wa, .inr (9, [.ref wb, .int (iz (0)), .long (lz (0))])), (wb, zaL (G.2 0) 40 (fun _ => 0)), (bq, .inr (2, [.ref bsa, .ref bda, .ref bwa, .long (lz (1)), .long (lz (1)), .int (iz (0))])), (bsa, .inr (9, [.ref bsb, .int (iz (0)), .long (lz (0))])), (bsb, zaL (G.2 0) 40 (fun _ => 0)), (bda, .inr (9, [.ref bdb, .int (iz (0)), .long (lz (0))])), (bdb, zaL (G.2 0) 40 (fun _ => 0)), (bwa, .inr (9, [.ref bwb, .int (iz (0)), .long (lz (0))])), (bwb, zaL (G.2 0) 40 (fun _ => 0))] := hD
  refine va_putF (D := G.1) (ci := 3) (v := .ref bq) (ty := (.object "AnnuityHouse$Flow")) (C := RX2) (T := TX2) (N := 4) hx hb hts iwX2 tyX2 tyX2_ok nmX2 hown hK hP hD hS 0 rfl rfl 2 (by decide) (hts (.fieldLink RX2 22 "AnnuityHouse$Lives" "otherFlow" "LAnnuityHouse$Flow;") (by decide +kernel)) (fun _ h9 => h9) rfl hnm rfl (by decide +kernel) rfl rfl (Nat.le_of_ble_eq_true rfl) dX2_init_31 (fun H locs hP hD hS => ?_)
  have hP : va_P G.1 vwCl [(y, .inr (3, [.ref lv, .ref q, .ref bq, .int (iz (0))])), (lv, zaI (G.2 1) 30 (fun _ => 0)), (q, .inr (2, [.ref sa, .ref da, .ref wa, .long (lz (1)), .long (lz (1)), .int (iz (0))])), (sa, .inr (9, [.ref sb, .int (iz (0)), .long (lz (0))])), (sb, zaL (G.2 0) 40 (fun _ => 0)), (da, .inr (9, [.ref db, .int (iz (0)), .long (lz (0))])), (db, zaL (G.2 0) 40 (fun _ => 0)), (wa, .inr (9, [.ref wb, .int (iz (0)), .long (lz (0))])), (wb, zaL (G.2 0) 40 (fun _ => 0)), (bq, .inr (2, [.ref bsa, .ref bda, .ref bwa, .long (lz (1)), .long (lz (1)), .int (iz (0))])), (bsa, .inr (9, [.ref bsb, .int (iz (0)), .long (lz (0))])), (bsb, zaL (G.2 0) 40 (fun _ => 0)), (bda, .inr (9, [.ref bdb, .int (iz (0)), .long (lz (0))])), (bdb, zaL (G.2 0) 40 (fun _ => 0)), (bwa, .inr (9, [.ref bwb, .int (iz (0)), .long (lz (0))])), (bwb, zaL (G.2 0) 40 (fun _ => 0))] H := hP
  have hD : va_D A [(y, .inr (3, [.ref lv, .ref q, .ref bq, .int (iz (0))])), (lv, zaI (G.2 1) 30 (fun _ => 0)), (q, .inr (2, [.ref sa, .ref da, .ref wa, .long (lz (1)), .long (lz (1)), .int (iz (0))])), (sa, .inr (9, [.ref sb, .int (iz (0)), .long (lz (0))])), (sb, zaL (G.2 0) 40 (fun _ => 0)), (da, .inr (9, [.ref db, .int (iz (0)), .long (lz (0))])), (db, zaL (G.2 0) 40 (fun _ => 0)), (wa, .inr (9, [.ref wb, .int (iz (0)), .long (lz (0))])), (wb, zaL (G.2 0) 40 (fun _ => 0)), (bq, .inr (2, [.ref bsa, .ref bda, .ref bwa, .long (lz (1)), .long (lz (1)), .int (iz (0))])), (bsa, .inr (9, [.ref bsb, .int (iz (0)), .long (lz (0))])), (bsb, zaL (G.2 0) 40 (fun _ => 0)), (bda, .inr (9, [.ref bdb, .int (iz (0)), .long (lz (0))])), (bdb, zaL (G.2 0) 40 (fun _ => 0)), (bwa, .inr (9, [.ref bwb, .int (iz (0)), .long (lz (0))])), (bwb, zaL (G.2 0) 40 (fun _ => 0))] := hD
  refine lv_aload_n hx hb dX2_init_34 rfl (lv_at hl 0 rfl) ?_
  refine lv_iconst (v := iz (0)) hx hb dX2_init_35 rfl ?_
  refine va_put (D := G.1) (ci := 3) (v := .int (iz (0))) (ty := .int) (C := RX2) (T := TX2) (N := 4) hx hb hts iwX2 tyX2 tyX2_ok nmX2 hown hK hP hD hS 0 rfl rfl 3 (by decide) (hts (.fieldLink RX2 25 "AnnuityHouse$Lives" "ages" "I") (by decide +kernel)) (fun _ h9 => h9) rfl (by decide +kernel) rfl rfl (Nat.le_of_ble_eq_true rfl) dX2_init_36 (fun H locs hP hD hS => ?_)
  have hP : va_P G.1 vwCl [(y, .inr (3, [.ref lv, .ref q, .ref bq, .int (iz (0))])), (lv, zaI (G.2 1) 30 (fun _ => 0)), (q, .inr (2, [.ref sa, .ref da, .ref wa, .long (lz (1)), .long (lz (1)), .int (iz (0))])), (sa, .inr (9, [.ref sb, .int (iz (0)), .long (lz (0))])), (sb, zaL (G.2 0) 40 (fun _ => 0)), (da, .inr (9, [.ref db, .int (iz (0)), .long (lz (0))])), (db, zaL (G.2 0) 40 (fun _ => 0)), (wa, .inr (9, [.ref wb, .int (iz (0)), .long (lz (0))])), (wb, zaL (G.2 0) 40 (fun _ => 0)), (bq, .inr (2, [.ref bsa, .ref bda, .ref bwa, .long (lz (1)), .long (lz (1)), .int (iz (0))])), (bsa, .inr (9, [.ref bsb, .int (iz (0)), .long (lz (0))])), (bsb, zaL (G.2 0) 40 (fun _ => 0)), (bda, .inr (9, [.ref bdb, .int (iz (0)), .long (lz (0))])), (bdb, zaL (G.2 0) 40 (fun _ => 0)), (bwa, .inr (9, [.ref bwb, .int (iz (0)), .long (lz (0))])), (bwb, zaL (G.2 0) 40 (fun _ => 0))] H := hP
  have hD : va_D A [(y, .inr (3, [.ref lv, .ref q, .ref bq, .int (iz (0))])), (lv, zaI (G.2 1) 30 (fun _ => 0)), (q, .inr (2, [.ref sa, .ref da, .ref wa, .long (lz (1)), .long (lz (1)), .int (iz (0))])), (sa, .inr (9, [.ref sb, .int (iz (0)), .long (lz (0))])), (sb, zaL (G.2 0) 40 (fun _ => 0)), (da, .inr (9, [.ref db, .int (iz (0)), .long (lz (0))])), (db, zaL (G.2 0) 40 (fun _ => 0)), (wa, .inr (9, [.ref wb, .int (iz (0)), .long (lz (0))])), (wb, zaL (G.2 0) 40 (fun _ => 0)), (bq, .inr (2, [.ref bsa, .ref bda, .ref bwa, .long (lz (1)), .long (lz (1)), .int (iz (0))])), (bsa, .inr (9, [.ref bsb, .int (iz (0)), .long (lz (0))])), (bsb, zaL (G.2 0) 40 (fun _ => 0)), (bda, .inr (9, [.ref bdb, .int (iz (0)), .long (lz (0))])), (bdb, zaL (G.2 0) 40 (fun _ => 0)), (bwa, .inr (9, [.ref bwb, .int (iz (0)), .long (lz (0))])), (bwb, zaL (G.2 0) 40 (fun _ => 0))] := hD
  rw [hQ]
  exact zr_vret (u := (lv, q, sa, sb, da, db, wa, wb, bq, bsa, bsb, bda, bdb, bwa, bwb)) hx hb hr hlocks hP hD hS (by first | exact Nat.le_of_ble_eq_true rfl | omega) (by first | exact Nat.le_of_ble_eq_true rfl | omega) dX2_init_39 (show True from trivial)

def rm_c_X2_mostLeftNext : Room := { frames := 0, cells := 0, slots := 0, locals := 0 }
theorem iw_X2_mostLeftNext_X2 : ∀ w ∈ wsX20, w ∈ wsX2_mostLeftNext := by decide +kernel
set_option maxHeartbeats 1000000 in
set_option maxRecDepth 100000 in
theorem c_X2_mostLeftNext (l : Launch) (G : zG) (y : Nat) (lv : Nat) (q : Nat) (bq : Nat)  : zM l G yX2_mostLeftNext wsX2_mostLeftNext rm_c_X2_mostLeftNext [.ref y] [(y, .inr (3, [.ref lv, .ref q, .ref bq, .int (iz (0))]))] (fun A => zQi G (fun (z : Int) (_ : Unit) => z = 1000000) (fun (_ : Unit) => [(y, .inr (3, [.ref lv, .ref q, .ref bq, .int (iz (0))]))]) A) 0 0 := by
  refine zM_of (cc := cX2_mostLeftNext) (maxL := 1) (ret := (some .int)) (by decide) rfl (Nat.le_of_ble_eq_true rfl) ?_
  intro p e s m below meth c ls A Q hQ hx hb hr hts hown hlocks hml hnm hKX hP hD hA hS hl
  have hK := hKX.1
  have iwX2 := iw_X2_mostLeftNext_X2
  obtain ⟨H, hH⟩ : ∃ h, h = s.heap := ⟨_, rfl⟩
  obtain ⟨locs, hlo⟩ : ∃ h : List Loc, h = [] := ⟨_, rfl⟩
  have hS : va_S A s.heap H locs := by rw [hH, hlo]; exact hS
  have hP : va_P G.1 vwCl [(y, .inr (3, [.ref lv, .ref q, .ref bq, .int (iz (0))]))] H := by rw [hH]; exact hP
  have hD : va_D A [(y, .inr (3, [.ref lv, .ref q, .ref bq, .int (iz (0))]))] := hD
  have hl : lv_has ls 1 [(0, .ref y)] := hl
  rw [← hH, ← hlo]
  refine lv_aload_n hx hb dX2_mostLeftNext_0 rfl (lv_at hl 0 rfl) ?_
  refine va_get (D := G.1) (ci := 3) (v := .int (iz (0))) (C := RX2) (T := TX2) (N := 4) hx hb hts iwX2 hown hK hP 0 rfl rfl 3 (by decide) (hts (.fieldLink RX2 25 "AnnuityHouse$Lives" "ages" "I") (by decide +kernel)) (fun _ h9 => h9) rfl dX2_mostLeftNext_1 ?_
  refine zr_if_ne (x := 0) (tgt := 12) hx hb (⟨by omega, by omega⟩) dX2_mostLeftNext_4 (by decide) (fun h_1 => ?_) (fun h_1 => ?_)
  · exact absurd h_1 (by omega)
  ·
    refine zr_ldc (z := 1000000) hx hb hown (hts (.constant RX2 29 (1000000)) (by decide +kernel)) rfl dX2_mostLeftNext_7 ?_
    refine lv_goto (tgt := 23) hx hb dX2_mostLeftNext_9 (by decide) ?_
    rw [hQ]
    exact zr_iret (z := 1000000) (u := ()) hx hb hr hlocks hP hD hS (by first | exact Nat.le_of_ble_eq_true rfl | omega) (by first | exact Nat.le_of_ble_eq_true rfl | omega) dX2_mostLeftNext_23 (show 1000000 = 1000000 from rfl)

def rm_c_X2_add : Room := { frames := 0, cells := 0, slots := 0, locals := 0 }
theorem iw_X2_add_X2 : ∀ w ∈ wsX20, w ∈ wsX2_add := by decide +kernel
set_option maxHeartbeats 1000000 in
set_option maxRecDepth 100000 in
theorem c_X2_add (l : Launch) (G : zG) (y : Nat) (lv : Nat) (q : Nat) (bq : Nat) (x : Int)  : zM l G yX2_add wsX2_add rm_c_X2_add [.ref y, .int (iz (x))] [(y, .inr (3, [.ref lv, .ref q, .ref bq, .int (iz (0))])), (lv, zaI (G.2 1) 30 (fun _ => 0))] (fun A => zQi G (fun (z : Int) (f2 : (Int → Int)) => z = 1) (fun (f2 : (Int → Int)) => [(y, .inr (3, [.ref lv, .ref q, .ref bq, .int (iz (0 + 1))])), (lv, zaI (G.2 1) 30 (f2))]) A) 0 0 := by
  refine zM_of (cc := cX2_add) (maxL := 2) (ret := (some .int)) (by decide) rfl (Nat.le_of_ble_eq_true rfl) ?_
  intro p e s m below meth c ls A Q hQ hx hb hr hts hown hlocks hml hnm hKX hP hD hA hS hl
  have hK := hKX.1
  have iwX2 := iw_X2_add_X2
  obtain ⟨H, hH⟩ : ∃ h, h = s.heap := ⟨_, rfl⟩
  obtain ⟨locs, hlo⟩ : ∃ h : List Loc, h = [] := ⟨_, rfl⟩
  have hS : va_S A s.heap H locs := by rw [hH, hlo]; exact hS
  have hP : va_P G.1 vwCl [(y, .inr (3, [.ref lv, .ref q, .ref bq, .int (iz (0))])), (lv, zaI (G.2 1) 30 (fun _ => 0))] H := by rw [hH]; exact hP
  have hD : va_D A [(y, .inr (3, [.ref lv, .ref q, .ref bq, .int (iz (0))])), (lv, zaI (G.2 1) 30 (fun _ => 0))] := hD
  have hl : lv_has ls 2 [(0, .ref y), (1, .int (iz (x)))] := hl
  rw [← hH, ← hlo]
  refine lv_aload_n hx hb dX2_add_0 rfl (lv_at hl 0 rfl) ?_
  refine va_get (D := G.1) (ci := 3) (v := .ref lv) (C := RX2) (T := TX2) (N := 4) hx hb hts iwX2 hown hK hP 0 rfl rfl 0 (by decide) (hts (.fieldLink RX2 9 "AnnuityHouse$Lives" "left" "[I") (by decide +kernel)) (fun _ h9 => h9) rfl dX2_add_1 ?_
  refine lv_aload_n hx hb dX2_add_4 rfl (lv_at hl 0 rfl) ?_
  refine va_get (D := G.1) (ci := 3) (v := .int (iz (0))) (C := RX2) (T := TX2) (N := 4) hx hb hts iwX2 hown hK hP 0 rfl rfl 3 (by decide) (hts (.fieldLink RX2 25 "AnnuityHouse$Lives" "ages" "I") (by decide +kernel)) (fun _ h9 => h9) rfl dX2_add_5 ?_
  refine lv_iload_n hx hb dX2_add_8 rfl (lv_at hl 1 rfl) ?_
  refine zr_iast hx hb hK hP hD hS 1 1 rfl rfl (i := 0) (x := x) (⟨by omega, by omega, by omega⟩) dX2_add_9 (fun H locs hP hD hS => ?_)
  have hP : va_P G.1 vwCl [(y, .inr (3, [.ref lv, .ref q, .ref bq, .int (iz (0))])), (lv, zaI (G.2 1) 30 (zup (fun _ => 0) 0 x))] H := hP
  have hD : va_D A [(y, .inr (3, [.ref lv, .ref q, .ref bq, .int (iz (0))])), (lv, zaI (G.2 1) 30 (zup (fun _ => 0) 0 x))] := hD
  refine lv_aload_n hx hb dX2_add_10 rfl (lv_at hl 0 rfl) ?_
  refine lv_dup hx hb dX2_add_11 rfl ?_
  refine va_get (D := G.1) (ci := 3) (v := .int (iz (0))) (C := RX2) (T := TX2) (N := 4) hx hb hts iwX2 hown hK hP 0 rfl rfl 3 (by decide) (hts (.fieldLink RX2 25 "AnnuityHouse$Lives" "ages" "I") (by decide +kernel)) (fun _ h9 => h9) rfl dX2_add_12 ?_
  refine lv_iconst (v := iz (1)) hx hb dX2_add_15 rfl ?_
  refine zr_iadd hx hb dX2_add_16 ?_
  refine va_put (D := G.1) (ci := 3) (v := .int (iz (0 + 1))) (ty := .int) (C := RX2) (T := TX2) (N := 4) hx hb hts iwX2 tyX2 tyX2_ok nmX2 hown hK hP hD hS 0 rfl rfl 3 (by decide) (hts (.fieldLink RX2 25 "AnnuityHouse$Lives" "ages" "I") (by decide +kernel)) (fun _ h9 => h9) rfl (by decide +kernel) rfl rfl (Nat.le_of_ble_eq_true rfl) dX2_add_17 (fun H locs hP hD hS => ?_)
  have hP : va_P G.1 vwCl [(y, .inr (3, [.ref lv, .ref q, .ref bq, .int (iz (0 + 1))])), (lv, zaI (G.2 1) 30 (zup (fun _ => 0) 0 x))] H := hP
  have hD : va_D A [(y, .inr (3, [.ref lv, .ref q, .ref bq, .int (iz (0 + 1))])), (lv, zaI (G.2 1) 30 (zup (fun _ => 0) 0 x))] := hD
  refine lv_aload_n hx hb dX2_add_20 rfl (lv_at hl 0 rfl) ?_
  refine va_get (D := G.1) (ci := 3) (v := .int (iz (0 + 1))) (C := RX2) (T := TX2) (N := 4) hx hb hts iwX2 hown hK hP 0 rfl rfl 3 (by decide) (hts (.fieldLink RX2 25 "AnnuityHouse$Lives" "ages" "I") (by decide +kernel)) (fun _ h9 => h9) rfl dX2_add_21 ?_
  rw [hQ]
  exact zr_iret (z := 0 + 1) (u := (zup (fun _ => 0) 0 x)) hx hb hr hlocks hP hD hS (by first | exact Nat.le_of_ble_eq_true rfl | omega) (by first | exact Nat.le_of_ble_eq_true rfl | omega) dX2_add_24 (show (0 + 1) = 1 from rfl)

def rm_c_X2_clear : Room := { frames := 0, cells := 0, slots := 0, locals := 0 }
theorem iw_X2_clear_X2 : ∀ w ∈ wsX20, w ∈ wsX2_clear := by decide +kernel
set_option maxHeartbeats 1000000 in
set_option maxRecDepth 100000 in
theorem c_X2_clear (l : Launch) (G : zG) (y : Nat) (lv : Nat) (q : Nat) (bq : Nat)  : zM l G yX2_clear wsX2_clear rm_c_X2_clear [.ref y] [(y, .inr (3, [.ref lv, .ref q, .ref bq, .int (iz (0))]))] (fun A => zQi G (fun (z : Int) (_ : Unit) => z = 0) (fun (_ : Unit) => [(y, .inr (3, [.ref lv, .ref q, .ref bq, .int (iz (0))]))]) A) 0 0 := by
  refine zM_of (cc := cX2_clear) (maxL := 2) (ret := (some .int)) (by decide) rfl (Nat.le_of_ble_eq_true rfl) ?_
  intro p e s m below meth c ls A Q hQ hx hb hr hts hown hlocks hml hnm hKX hP hD hA hS hl
  have hK := hKX.1
  have iwX2 := iw_X2_clear_X2
  obtain ⟨H, hH⟩ : ∃ h, h = s.heap := ⟨_, rfl⟩
  obtain ⟨locs, hlo⟩ : ∃ h : List Loc, h = [] := ⟨_, rfl⟩
  have hS : va_S A s.heap H locs := by rw [hH, hlo]; exact hS
  have hP : va_P G.1 vwCl [(y, .inr (3, [.ref lv, .ref q, .ref bq, .int (iz (0))]))] H := by rw [hH]; exact hP
  have hD : va_D A [(y, .inr (3, [.ref lv, .ref q, .ref bq, .int (iz (0))]))] := hD
  have hl : lv_has ls 2 [(0, .ref y)] := hl
  rw [← hH, ← hlo]
  refine lv_aload_n hx hb dX2_clear_0 rfl (lv_at hl 0 rfl) ?_
  refine va_get (D := G.1) (ci := 3) (v := .int (iz (0))) (C := RX2) (T := TX2) (N := 4) hx hb hts iwX2 hown hK hP 0 rfl rfl 3 (by decide) (hts (.fieldLink RX2 25 "AnnuityHouse$Lives" "ages" "I") (by decide +kernel)) (fun _ h9 => h9) rfl dX2_clear_1 ?_
  refine lv_istore_n (lv' := [(1, .int (iz (0))), (0, .ref y)]) hx hb dX2_clear_4 rfl hl (by decide) rfl (fun ls hl => ?_)
  refine lv_aload_n hx hb dX2_clear_5 rfl (lv_at hl 1 rfl) ?_
  refine lv_iconst (v := iz (0)) hx hb dX2_clear_6 rfl ?_
  refine va_put (D := G.1) (ci := 3) (v := .int (iz (0))) (ty := .int) (C := RX2) (T := TX2) (N := 4) hx hb hts iwX2 tyX2 tyX2_ok nmX2 hown hK hP hD hS 0 rfl rfl 3 (by decide) (hts (.fieldLink RX2 25 "AnnuityHouse$Lives" "ages" "I") (by decide +kernel)) (fun _ h9 => h9) rfl (by decide +kernel) rfl rfl (Nat.le_of_ble_eq_true rfl) dX2_clear_7 (fun H locs hP hD hS => ?_)
  have hP : va_P G.1 vwCl [(y, .inr (3, [.ref lv, .ref q, .ref bq, .int (iz (0))]))] H := hP
  have hD : va_D A [(y, .inr (3, [.ref lv, .ref q, .ref bq, .int (iz (0))]))] := hD
  refine lv_iload_n hx hb dX2_clear_10 rfl (lv_at hl 0 rfl) ?_
  rw [hQ]
  exact zr_iret (z := 0) (u := ()) hx hb hr hlocks hP hD hS (by first | exact Nat.le_of_ble_eq_true rfl | omega) (by first | exact Nat.le_of_ble_eq_true rfl | omega) dX2_clear_11 (show 0 = 0 from rfl)

def rm_c_X2_isSumShared : Room := { frames := 0, cells := 0, slots := 0, locals := 0 }
theorem iw_X2_isSumShared_X2 : ∀ w ∈ wsX20, w ∈ wsX2_isSumShared := by decide +kernel
set_option maxHeartbeats 1000000 in
set_option maxRecDepth 100000 in
theorem c_X2_isSumShared (l : Launch) (G : zG) (y : Nat) (lv : Nat) (q : Nat) (bq : Nat) (po : Int)  : zM l G yX2_isSumShared wsX2_isSumShared rm_c_X2_isSumShared [.ref y, .int (iz (po))] [(y, .inr (3, [.ref lv, .ref q, .ref bq, .int (iz (0))]))] (fun A => zQz G (fun (z : Bool) (_ : Unit) => z = true) (fun (_ : Unit) => [(y, .inr (3, [.ref lv, .ref q, .ref bq, .int (iz (0))]))]) A) 0 0 := by
  refine zM_of (cc := cX2_isSumShared) (maxL := 2) (ret := (some .boolean)) (by decide) rfl (Nat.le_of_ble_eq_true rfl) ?_
  intro p e s m below meth c ls A Q hQ hx hb hr hts hown hlocks hml hnm hKX hP hD hA hS hl
  have hK := hKX.1
  have iwX2 := iw_X2_isSumShared_X2
  obtain ⟨H, hH⟩ : ∃ h, h = s.heap := ⟨_, rfl⟩
  obtain ⟨locs, hlo⟩ : ∃ h : List Loc, h = [] := ⟨_, rfl⟩
  have hS : va_S A s.heap H locs := by rw [hH, hlo]; exact hS
  have hP : va_P G.1 vwCl [(y, .inr (3, [.ref lv, .ref q, .ref bq, .int (iz (0))]))] H := by rw [hH]; exact hP
  have hD : va_D A [(y, .inr (3, [.ref lv, .ref q, .ref bq, .int (iz (0))]))] := hD
  have hl : lv_has ls 2 [(0, .ref y), (1, .int (iz (po)))] := hl
  rw [← hH, ← hlo]
  refine lv_aload_n hx hb dX2_isSumShared_0 rfl (lv_at hl 0 rfl) ?_
  refine va_get (D := G.1) (ci := 3) (v := .int (iz (0))) (C := RX2) (T := TX2) (N := 4) hx hb hts iwX2 hown hK hP 0 rfl rfl 3 (by decide) (hts (.fieldLink RX2 25 "AnnuityHouse$Lives" "ages" "I") (by decide +kernel)) (fun _ h9 => h9) rfl dX2_isSumShared_1 ?_
  refine zr_if_ne (x := 0) (tgt := 9) hx hb (⟨by omega, by omega⟩) dX2_isSumShared_4 (by decide) (fun h_1 => ?_) (fun h_1 => ?_)
  · exact absurd h_1 (by omega)
  ·
    refine lv_iconst (v := iz (1)) hx hb dX2_isSumShared_7 rfl ?_
    rw [hQ]
    exact zr_zret (z := true) (rfl) (u := ()) hx hb hr hlocks hP hD hS (by first | exact Nat.le_of_ble_eq_true rfl | omega) (by first | exact Nat.le_of_ble_eq_true rfl | omega) dX2_isSumShared_8 (show true = true from rfl)

def rm_c_X6_init : Room := { frames := 1, cells := 1, slots := 12, locals := 12 }
theorem iw_X6_init_X6 : ∀ w ∈ wsX60, w ∈ wsX6_init := by decide +kernel
set_option maxHeartbeats 1000000 in
set_option maxRecDepth 100000 in
theorem c_X6_init (l : Launch) (G : zG) (y : Nat)  : zM l G yX6_init wsX6_init rm_c_X6_init [.ref y] [(y, .inr (7, [.null, .int (iz (0))]))] (fun A => zQv G (fun (wt : Nat) => True) (fun (wt : Nat) => [(y, .inr (7, [.ref wt, .int (iz (0))])), (wt, zaI (G.2 1) 12 (fun _ => 0))]) A) 1 12 := by
  refine zM_of (cc := cX6_init) (maxL := 1) (ret := none) (by decide) rfl (Nat.le_of_ble_eq_true rfl) ?_
  intro p e s m below meth c ls A Q hQ hx hb hr hts hown hlocks hml hnm hKX hP hD hA hS hl
  have hK := hKX.1
  have iwX6 := iw_X6_init_X6
  obtain ⟨H, hH⟩ : ∃ h, h = s.heap := ⟨_, rfl⟩
  obtain ⟨locs, hlo⟩ : ∃ h : List Loc, h = [] := ⟨_, rfl⟩
  have hS : va_S A s.heap H locs := by rw [hH, hlo]; exact hS
  have hP : va_P G.1 vwCl [(y, .inr (7, [.null, .int (iz (0))]))] H := by rw [hH]; exact hP
  have hD : va_D A [(y, .inr (7, [.null, .int (iz (0))]))] := hD
  have hl : lv_has ls 1 [(0, .ref y)] := hl
  rw [← hH, ← hlo]
  refine lv_aload_n hx hb dX6_init_0 rfl (lv_at hl 0 rfl) ?_
  refine W.objInit hx hb hown (hts (.methodLink RX6 3 objectInit) (by decide +kernel)) (hts (.instanceMethod objectInit) (by decide +kernel)) (hts (.code objectInit ⟨#[0xb1]⟩ 1 none) (by decide +kernel)) rfl (by rw [hml]; exact hl.1) rfl dX6_init_1 (Nat.le_of_ble_eq_true rfl) (Nat.le_of_ble_eq_true rfl) ?_
  refine lv_aload_n hx hb dX6_init_4 rfl (lv_at hl 0 rfl) ?_
  refine lv_bipush (v := iz (12)) hx hb dX6_init_5 rfl ?_
  refine zr_newaI (G := G) (n := 12) (N := 12) hx hb (hts (.arrayClass .int) (by decide +kernel)) hK hP hD hS hA (by omega) (by omega) (by omega) (by first | exact Nat.le_of_ble_eq_true rfl | (show _ ≤ (1 : Nat); omega)) (by first | exact Nat.le_of_ble_eq_true rfl | (show _ ≤ (12 : Nat); omega)) dX6_init_7 (fun wt H hP hD hS => ?_)
  have hP : va_P G.1 vwCl [(y, .inr (7, [.null, .int (iz (0))])), (wt, zaI (G.2 1) 12 (fun _ => 0))] H := hP
  have hD : va_D A [(y, .inr (7, [.null, .int (iz (0))])), (wt, zaI (G.2 1) 12 (fun _ => 0))] := hD
  refine va_putF (D := G.1) (ci := 7) (v := .ref wt) (ty := (.array .int)) (C := RX6) (T := TX6) (N := 2) hx hb hts iwX6 tyX6 tyX6_ok nmX6 hown hK hP hD hS 0 rfl rfl 0 (by decide) (hts (.fieldLink RX6 9 "AnnuityHouse$Shares" "weights" "[I") (by decide +kernel)) (fun _ h9 => h9) rfl hnm rfl (by decide +kernel) rfl rfl (Nat.le_of_ble_eq_true rfl) dX6_init_9 (fun H locs hP hD hS => ?_)
  have hP : va_P G.1 vwCl [(y, .inr (7, [.ref wt, .int (iz (0))])), (wt, zaI (G.2 1) 12 (fun _ => 0))] H := hP
  have hD : va_D A [(y, .inr (7, [.ref wt, .int (iz (0))])), (wt, zaI (G.2 1) 12 (fun _ => 0))] := hD
  refine lv_aload_n hx hb dX6_init_12 rfl (lv_at hl 0 rfl) ?_
  refine lv_iconst (v := iz (0)) hx hb dX6_init_13 rfl ?_
  refine va_put (D := G.1) (ci := 7) (v := .int (iz (0))) (ty := .int) (C := RX6) (T := TX6) (N := 2) hx hb hts iwX6 tyX6 tyX6_ok nmX6 hown hK hP hD hS 0 rfl rfl 1 (by decide) (hts (.fieldLink RX6 15 "AnnuityHouse$Shares" "people" "I") (by decide +kernel)) (fun _ h9 => h9) rfl (by decide +kernel) rfl rfl (Nat.le_of_ble_eq_true rfl) dX6_init_14 (fun H locs hP hD hS => ?_)
  have hP : va_P G.1 vwCl [(y, .inr (7, [.ref wt, .int (iz (0))])), (wt, zaI (G.2 1) 12 (fun _ => 0))] H := hP
  have hD : va_D A [(y, .inr (7, [.ref wt, .int (iz (0))])), (wt, zaI (G.2 1) 12 (fun _ => 0))] := hD
  rw [hQ]
  exact zr_vret (u := (wt)) hx hb hr hlocks hP hD hS (by first | exact Nat.le_of_ble_eq_true rfl | omega) (by first | exact Nat.le_of_ble_eq_true rfl | omega) dX6_init_17 (show True from trivial)

def rm_c_X6_add : Room := { frames := 0, cells := 0, slots := 0, locals := 0 }
theorem iw_X6_add_X6 : ∀ w ∈ wsX60, w ∈ wsX6_add := by decide +kernel
set_option maxHeartbeats 1000000 in
set_option maxRecDepth 100000 in
theorem c_X6_add (l : Launch) (G : zG) (y : Nat) (wt : Nat) (x : Int)  : zM l G yX6_add wsX6_add rm_c_X6_add [.ref y, .int (iz (x))] [(y, .inr (7, [.ref wt, .int (iz (0))])), (wt, zaI (G.2 1) 12 (fun _ => 0))] (fun A => zQi G (fun (z : Int) (f2 : (Int → Int)) => z = 1) (fun (f2 : (Int → Int)) => [(y, .inr (7, [.ref wt, .int (iz (0 + 1))])), (wt, zaI (G.2 1) 12 (f2))]) A) 0 0 := by
  refine zM_of (cc := cX6_add) (maxL := 2) (ret := (some .int)) (by decide) rfl (Nat.le_of_ble_eq_true rfl) ?_
  intro p e s m below meth c ls A Q hQ hx hb hr hts hown hlocks hml hnm hKX hP hD hA hS hl
  have hK := hKX.1
  have iwX6 := iw_X6_add_X6
  obtain ⟨H, hH⟩ : ∃ h, h = s.heap := ⟨_, rfl⟩
  obtain ⟨locs, hlo⟩ : ∃ h : List Loc, h = [] := ⟨_, rfl⟩
  have hS : va_S A s.heap H locs := by rw [hH, hlo]; exact hS
  have hP : va_P G.1 vwCl [(y, .inr (7, [.ref wt, .int (iz (0))])), (wt, zaI (G.2 1) 12 (fun _ => 0))] H := by rw [hH]; exact hP
  have hD : va_D A [(y, .inr (7, [.ref wt, .int (iz (0))])), (wt, zaI (G.2 1) 12 (fun _ => 0))] := hD
  have hl : lv_has ls 2 [(0, .ref y), (1, .int (iz (x)))] := hl
  rw [← hH, ← hlo]
  refine lv_aload_n hx hb dX6_add_0 rfl (lv_at hl 0 rfl) ?_
  refine va_get (D := G.1) (ci := 7) (v := .ref wt) (C := RX6) (T := TX6) (N := 2) hx hb hts iwX6 hown hK hP 0 rfl rfl 0 (by decide) (hts (.fieldLink RX6 9 "AnnuityHouse$Shares" "weights" "[I") (by decide +kernel)) (fun _ h9 => h9) rfl dX6_add_1 ?_
  refine lv_aload_n hx hb dX6_add_4 rfl (lv_at hl 0 rfl) ?_
  refine va_get (D := G.1) (ci := 7) (v := .int (iz (0))) (C := RX6) (T := TX6) (N := 2) hx hb hts iwX6 hown hK hP 0 rfl rfl 1 (by decide) (hts (.fieldLink RX6 15 "AnnuityHouse$Shares" "people" "I") (by decide +kernel)) (fun _ h9 => h9) rfl dX6_add_5 ?_
  refine lv_iload_n hx hb dX6_add_8 rfl (lv_at hl 1 rfl) ?_
  refine zr_iast hx hb hK hP hD hS 1 1 rfl rfl (i := 0) (x := x) (⟨by omega, by omega, by omega⟩) dX6_add_9 (fun H locs hP hD hS => ?_)
  have hP : va_P G.1 vwCl [(y, .inr (7, [.ref wt, .int (iz (0))])), (wt, zaI (G.2 1) 12 (zup (fun _ => 0) 0 x))] H := hP
  have hD : va_D A [(y, .inr (7, [.ref wt, .int (iz (0))])), (wt, zaI (G.2 1) 12 (zup (fun _ => 0) 0 x))] := hD
  refine lv_aload_n hx hb dX6_add_10 rfl (lv_at hl 0 rfl) ?_
  refine lv_dup hx hb dX6_add_11 rfl ?_
  refine va_get (D := G.1) (ci := 7) (v := .int (iz (0))) (C := RX6) (T := TX6) (N := 2) hx hb hts iwX6 hown hK hP 0 rfl rfl 1 (by decide) (hts (.fieldLink RX6 15 "AnnuityHouse$Shares" "people" "I") (by decide +kernel)) (fun _ h9 => h9) rfl dX6_add_12 ?_
  refine lv_iconst (v := iz (1)) hx hb dX6_add_15 rfl ?_
  refine zr_iadd hx hb dX6_add_16 ?_
  refine va_put (D := G.1) (ci := 7) (v := .int (iz (0 + 1))) (ty := .int) (C := RX6) (T := TX6) (N := 2) hx hb hts iwX6 tyX6 tyX6_ok nmX6 hown hK hP hD hS 0 rfl rfl 1 (by decide) (hts (.fieldLink RX6 15 "AnnuityHouse$Shares" "people" "I") (by decide +kernel)) (fun _ h9 => h9) rfl (by decide +kernel) rfl rfl (Nat.le_of_ble_eq_true rfl) dX6_add_17 (fun H locs hP hD hS => ?_)
  have hP : va_P G.1 vwCl [(y, .inr (7, [.ref wt, .int (iz (0 + 1))])), (wt, zaI (G.2 1) 12 (zup (fun _ => 0) 0 x))] H := hP
  have hD : va_D A [(y, .inr (7, [.ref wt, .int (iz (0 + 1))])), (wt, zaI (G.2 1) 12 (zup (fun _ => 0) 0 x))] := hD
  refine lv_aload_n hx hb dX6_add_20 rfl (lv_at hl 0 rfl) ?_
  refine va_get (D := G.1) (ci := 7) (v := .int (iz (0 + 1))) (C := RX6) (T := TX6) (N := 2) hx hb hts iwX6 hown hK hP 0 rfl rfl 1 (by decide) (hts (.fieldLink RX6 15 "AnnuityHouse$Shares" "people" "I") (by decide +kernel)) (fun _ h9 => h9) rfl dX6_add_21 ?_
  rw [hQ]
  exact zr_iret (z := 0 + 1) (u := (zup (fun _ => 0) 0 x)) hx hb hr hlocks hP hD hS (by first | exact Nat.le_of_ble_eq_true rfl | omega) (by first | exact Nat.le_of_ble_eq_true rfl | omega) dX6_add_24 (show (0 + 1) = 1 from rfl)

def rm_c_X6_clear : Room := { frames := 0, cells := 0, slots := 0, locals := 0 }
theorem iw_X6_clear_X6 : ∀ w ∈ wsX60, w ∈ wsX6_clear := by decide +kernel
set_option maxHeartbeats 1000000 in
set_option maxRecDepth 100000 in
theorem c_X6_clear (l : Launch) (G : zG) (y : Nat) (wt : Nat)  : zM l G yX6_clear wsX6_clear rm_c_X6_clear [.ref y] [(y, .inr (7, [.ref wt, .int (iz (0))]))] (fun A => zQi G (fun (z : Int) (_ : Unit) => z = 0) (fun (_ : Unit) => [(y, .inr (7, [.ref wt, .int (iz (0))]))]) A) 0 0 := by
  refine zM_of (cc := cX6_clear) (maxL := 2) (ret := (some .int)) (by decide) rfl (Nat.le_of_ble_eq_true rfl) ?_
  intro p e s m below meth c ls A Q hQ hx hb hr hts hown hlocks hml hnm hKX hP hD hA hS hl
  have hK := hKX.1
  have iwX6 := iw_X6_clear_X6
  obtain ⟨H, hH⟩ : ∃ h, h = s.heap := ⟨_, rfl⟩
  obtain ⟨locs, hlo⟩ : ∃ h : List Loc, h = [] := ⟨_, rfl⟩
  have hS : va_S A s.heap H locs := by rw [hH, hlo]; exact hS
  have hP : va_P G.1 vwCl [(y, .inr (7, [.ref wt, .int (iz (0))]))] H := by rw [hH]; exact hP
  have hD : va_D A [(y, .inr (7, [.ref wt, .int (iz (0))]))] := hD
  have hl : lv_has ls 2 [(0, .ref y)] := hl
  rw [← hH, ← hlo]
  refine lv_aload_n hx hb dX6_clear_0 rfl (lv_at hl 0 rfl) ?_
  refine va_get (D := G.1) (ci := 7) (v := .int (iz (0))) (C := RX6) (T := TX6) (N := 2) hx hb hts iwX6 hown hK hP 0 rfl rfl 1 (by decide) (hts (.fieldLink RX6 15 "AnnuityHouse$Shares" "people" "I") (by decide +kernel)) (fun _ h9 => h9) rfl dX6_clear_1 ?_
  refine lv_istore_n (lv' := [(1, .int (iz (0))), (0, .ref y)]) hx hb dX6_clear_4 rfl hl (by decide) rfl (fun ls hl => ?_)
  refine lv_aload_n hx hb dX6_clear_5 rfl (lv_at hl 1 rfl) ?_
  refine lv_iconst (v := iz (0)) hx hb dX6_clear_6 rfl ?_
  refine va_put (D := G.1) (ci := 7) (v := .int (iz (0))) (ty := .int) (C := RX6) (T := TX6) (N := 2) hx hb hts iwX6 tyX6 tyX6_ok nmX6 hown hK hP hD hS 0 rfl rfl 1 (by decide) (hts (.fieldLink RX6 15 "AnnuityHouse$Shares" "people" "I") (by decide +kernel)) (fun _ h9 => h9) rfl (by decide +kernel) rfl rfl (Nat.le_of_ble_eq_true rfl) dX6_clear_7 (fun H locs hP hD hS => ?_)
  have hP : va_P G.1 vwCl [(y, .inr (7, [.ref wt, .int (iz (0))]))] H := hP
  have hD : va_D A [(y, .inr (7, [.ref wt, .int (iz (0))]))] := hD
  refine lv_iload_n hx hb dX6_clear_10 rfl (lv_at hl 0 rfl) ?_
  rw [hQ]
  exact zr_iret (z := 0) (u := ()) hx hb hr hlocks hP hD hS (by first | exact Nat.le_of_ble_eq_true rfl | omega) (by first | exact Nat.le_of_ble_eq_true rfl | omega) dX6_clear_11 (show 0 = 0 from rfl)

def rm_c_X6_allWeights : Room := { frames := 0, cells := 0, slots := 0, locals := 0 }
theorem iw_X6_allWeights_X6 : ∀ w ∈ wsX60, w ∈ wsX6_allWeights := by decide +kernel
set_option maxHeartbeats 1000000 in
set_option maxRecDepth 100000 in
theorem c_X6_allWeights (l : Launch) (G : zG) (y : Nat) (wt : Nat)  : zM l G yX6_allWeights wsX6_allWeights rm_c_X6_allWeights [.ref y] [(y, .inr (7, [.ref wt, .int (iz (0))]))] (fun A => zQl G (fun (z : Int) (_ : Unit) => z = 0) (fun (_ : Unit) => [(y, .inr (7, [.ref wt, .int (iz (0))]))]) A) 0 0 := by
  refine zM_of (cc := cX6_allWeights) (maxL := 4) (ret := (some .long)) (by decide) rfl (Nat.le_of_ble_eq_true rfl) ?_
  intro p e s m below meth c ls A Q hQ hx hb hr hts hown hlocks hml hnm hKX hP hD hA hS hl
  have hK := hKX.1
  have iwX6 := iw_X6_allWeights_X6
  obtain ⟨H, hH⟩ : ∃ h, h = s.heap := ⟨_, rfl⟩
  obtain ⟨locs, hlo⟩ : ∃ h : List Loc, h = [] := ⟨_, rfl⟩
  have hS : va_S A s.heap H locs := by rw [hH, hlo]; exact hS
  have hP : va_P G.1 vwCl [(y, .inr (7, [.ref wt, .int (iz (0))]))] H := by rw [hH]; exact hP
  have hD : va_D A [(y, .inr (7, [.ref wt, .int (iz (0))]))] := hD
  have hl : lv_has ls 4 [(0, .ref y)] := hl
  rw [← hH, ← hlo]
  refine lv_lconst (v := lz (0)) hx hb dX6_allWeights_0 rfl ?_
  refine lv_lstore_n (lv' := [(1, .long (lz (0))), (0, .ref y)]) hx hb dX6_allWeights_1 rfl hl (by decide) rfl (fun ls hl => ?_)
  refine lv_iconst (v := iz (0)) hx hb dX6_allWeights_2 rfl ?_
  refine lv_istore_n (lv' := [(3, .int (iz (0))), (1, .long (lz (0))), (0, .ref y)]) hx hb dX6_allWeights_3 rfl hl (by decide) rfl (fun ls hl => ?_)
  refine lv_iload_n hx hb dX6_allWeights_4 rfl (lv_at hl 0 rfl) ?_
  refine lv_aload_n hx hb dX6_allWeights_5 rfl (lv_at hl 2 rfl) ?_
  refine va_get (D := G.1) (ci := 7) (v := .int (iz (0))) (C := RX6) (T := TX6) (N := 2) hx hb hts iwX6 hown hK hP 0 rfl rfl 1 (by decide) (hts (.fieldLink RX6 15 "AnnuityHouse$Shares" "people" "I") (by decide +kernel)) (fun _ h9 => h9) rfl dX6_allWeights_6 ?_
  refine zr_icmp_ge (x := 0) (y := 0) (tgt := 28) hx hb (⟨by omega, by omega⟩) (⟨by omega, by omega⟩) dX6_allWeights_9 (by decide) (fun h_1 => ?_) (fun h_1 => ?_)
  ·
    refine lv_lload_n hx hb dX6_allWeights_28 rfl (lv_at hl 1 rfl) ?_
    rw [hQ]
    exact zr_lret (z := 0) (u := ()) hx hb hr hlocks hP hD hS (by first | exact Nat.le_of_ble_eq_true rfl | omega) (by first | exact Nat.le_of_ble_eq_true rfl | omega) dX6_allWeights_29 (show 0 = 0 from rfl)
  · exact absurd h_1 (by omega)

def rm_c_X6_isPartedWhole : Room := { frames := 1, cells := 0, slots := 0, locals := 23 }
set_option maxHeartbeats 1000000 in
set_option maxRecDepth 100000 in
theorem c_X6_isPartedWhole (l : Launch) (G : zG) (y : Nat) (wt : Nat) (mo : Int)  : zM l G yX6_isPartedWhole wsX6_isPartedWhole rm_c_X6_isPartedWhole [.ref y, .long (lz (mo))] [(y, .inr (7, [.ref wt, .int (iz (0))]))] (fun A => zQz G (fun (z : Bool) (_ : Unit) => z = true) (fun (_ : Unit) => [(y, .inr (7, [.ref wt, .int (iz (0))]))]) A) 0 0 := by
  refine zM_of (cc := cX6_isPartedWhole) (maxL := 6) (ret := (some .boolean)) (by decide) rfl (Nat.le_of_ble_eq_true rfl) ?_
  intro p e s m below meth c ls A Q hQ hx hb hr hts hown hlocks hml hnm hKX hP hD hA hS hl
  have hK := hKX.1
  obtain ⟨H, hH⟩ : ∃ h, h = s.heap := ⟨_, rfl⟩
  obtain ⟨locs, hlo⟩ : ∃ h : List Loc, h = [] := ⟨_, rfl⟩
  have hS : va_S A s.heap H locs := by rw [hH, hlo]; exact hS
  have hP : va_P G.1 vwCl [(y, .inr (7, [.ref wt, .int (iz (0))]))] H := by rw [hH]; exact hP
  have hD : va_D A [(y, .inr (7, [.ref wt, .int (iz (0))]))] := hD
  have hl : lv_has ls 6 [(0, .ref y), (1, .long (lz (mo)))] := hl
  rw [← hH, ← hlo]
  refine lv_aload_n hx hb dX6_isPartedWhole_0 rfl (lv_at hl 0 rfl) ?_
  refine zc_l (wr := []) (va_runV (As := []) (rest := []) ⟨hx, hb, hml, hown, hts⟩ (c_X6_allWeights l G y wt  H.size) (cwV 0 hts gX6_isPartedWhole_X6_allWeights rfl rfl rfl (by decide +kernel) ⟨Nat.le_of_ble_eq_true rfl, Nat.le_of_ble_eq_true rfl⟩) (zpV hKX hP hD [0] rfl rfl 0 7 rfl rfl) rfl rfl hl.1 rfl (lv_room (Nat.le_of_ble_eq_true rfl)) dX6_isPartedWhole_1 ⟨(by first | exact Nat.le_of_ble_eq_true rfl | (show _ ≤ (0 : Nat); omega)), (by first | exact Nat.le_of_ble_eq_true rfl | (show _ ≤ (0 : Nat); omega))⟩) hP hD hS hA [0] [] rfl rfl rfl (by decide) (fun aw u_1 H locs haw hP hD hS => ?_)
  have hP : va_P G.1 vwCl [(y, .inr (7, [.ref wt, .int (iz (0))]))] H := hP
  have hD : va_D A [(y, .inr (7, [.ref wt, .int (iz (0))]))] := hD
  have haw : aw = 0 := haw
  refine lv_lconst (v := lz (0)) hx hb dX6_isPartedWhole_4 rfl ?_
  refine zr_lcmp_ne (x := aw) (y := 0) (tgt := 11) hx hb (⟨by omega, by omega⟩) (⟨by omega, by omega⟩) dX6_isPartedWhole_5 dX6_isPartedWhole_6 (by decide) (fun h_3 => ?_) (fun h_3 => ?_)
  · exact absurd h_3 (by omega)
  ·
    refine lv_iconst (v := iz (1)) hx hb dX6_isPartedWhole_9 rfl ?_
    rw [hQ]
    exact zr_zret (z := true) (rfl) (u := ()) hx hb hr hlocks hP hD hS (by first | exact Nat.le_of_ble_eq_true rfl | omega) (by first | exact Nat.le_of_ble_eq_true rfl | omega) dX6_isPartedWhole_10 (show true = true from rfl)

def rm_c_X7_init : Room := { frames := 1, cells := 2, slots := 16, locals := 12 }
theorem iw_X7_init_X7 : ∀ w ∈ wsX70, w ∈ wsX7_init := by decide +kernel
set_option maxHeartbeats 1000000 in
set_option maxRecDepth 100000 in
theorem c_X7_init (l : Launch) (G : zG) (y : Nat)  : zM l G yX7_init wsX7_init rm_c_X7_init [.ref y] [(y, .inr (8, [.null, .null, .int (iz (0))]))] (fun A => zQv G (fun (u : (Nat × Nat)) => True) (fun (u : (Nat × Nat)) => [(y, .inr (8, [.ref u.1, .ref u.2, .int (iz (0))])), (u.1, zaL (G.2 0) 8 (fun _ => 0)), (u.2, zaI (G.2 1) 8 (fun _ => 0))]) A) 2 16 := by
  refine zM_of (cc := cX7_init) (maxL := 1) (ret := none) (by decide) rfl (Nat.le_of_ble_eq_true rfl) ?_
  intro p e s m below meth c ls A Q hQ hx hb hr hts hown hlocks hml hnm hKX hP hD hA hS hl
  have hK := hKX.1
  have iwX7 := iw_X7_init_X7
  obtain ⟨H, hH⟩ : ∃ h, h = s.heap := ⟨_, rfl⟩
  obtain ⟨locs, hlo⟩ : ∃ h : List Loc, h = [] := ⟨_, rfl⟩
  have hS : va_S A s.heap H locs := by rw [hH, hlo]; exact hS
  have hP : va_P G.1 vwCl [(y, .inr (8, [.null, .null, .int (iz (0))]))] H := by rw [hH]; exact hP
  have hD : va_D A [(y, .inr (8, [.null, .null, .int (iz (0))]))] := hD
  have hl : lv_has ls 1 [(0, .ref y)] := hl
  rw [← hH, ← hlo]
  refine lv_aload_n hx hb dX7_init_0 rfl (lv_at hl 0 rfl) ?_
  refine W.objInit hx hb hown (hts (.methodLink RX7 3 objectInit) (by decide +kernel)) (hts (.instanceMethod objectInit) (by decide +kernel)) (hts (.code objectInit ⟨#[0xb1]⟩ 1 none) (by decide +kernel)) rfl (by rw [hml]; exact hl.1) rfl dX7_init_1 (Nat.le_of_ble_eq_true rfl) (Nat.le_of_ble_eq_true rfl) ?_
  refine lv_aload_n hx hb dX7_init_4 rfl (lv_at hl 0 rfl) ?_
  refine lv_bipush (v := iz (8)) hx hb dX7_init_5 rfl ?_
  refine zr_newaL (G := G) (n := 8) (N := 8) hx hb (hts (.arrayClass .long) (by decide +kernel)) hK hP hD hS hA (by omega) (by omega) (by omega) (by first | exact Nat.le_of_ble_eq_true rfl | (show _ ≤ (2 : Nat); omega)) (by first | exact Nat.le_of_ble_eq_true rfl | (show _ ≤ (16 : Nat); omega)) dX7_init_7 (fun fm H hP hD hS => ?_)
  have hP : va_P G.1 vwCl [(y, .inr (8, [.null, .null, .int (iz (0))])), (fm, zaL (G.2 0) 8 (fun _ => 0))] H := hP
  have hD : va_D A [(y, .inr (8, [.null, .null, .int (iz (0))])), (fm, zaL (G.2 0) 8 (fun _ => 0))] := hD
  refine va_putF (D := G.1) (ci := 8) (v := .ref fm) (ty := (.array .long)) (C := RX7) (T := TX7) (N := 3) hx hb hts iwX7 tyX7 tyX7_ok nmX7 hown hK hP hD hS 0 rfl rfl 0 (by decide) (hts (.fieldLink RX7 9 "AnnuityHouse$Taxes" "froms" "[J") (by decide +kernel)) (fun _ h9 => h9) rfl hnm rfl (by decide +kernel) rfl rfl (Nat.le_of_ble_eq_true rfl) dX7_init_9 (fun H locs hP hD hS => ?_)
  have hP : va_P G.1 vwCl [(y, .inr (8, [.ref fm, .null, .int (iz (0))])), (fm, zaL (G.2 0) 8 (fun _ => 0))] H := hP
  have hD : va_D A [(y, .inr (8, [.ref fm, .null, .int (iz (0))])), (fm, zaL (G.2 0) 8 (fun _ => 0))] := hD
  refine lv_aload_n hx hb dX7_init_12 rfl (lv_at hl 0 rfl) ?_
  refine lv_bipush (v := iz (8)) hx hb dX7_init_13 rfl ?_
  refine zr_newaI (G := G) (n := 8) (N := 8) hx hb (hts (.arrayClass .int) (by decide +kernel)) hK hP hD hS hA (by omega) (by omega) (by omega) (by first | exact Nat.le_of_ble_eq_true rfl | (show _ ≤ (2 : Nat); omega)) (by first | exact Nat.le_of_ble_eq_true rfl | (show _ ≤ (16 : Nat); omega)) dX7_init_15 (fun pm H hP hD hS => ?_)
  have hP : va_P G.1 vwCl [(y, .inr (8, [.ref fm, .null, .int (iz (0))])), (fm, zaL (G.2 0) 8 (fun _ => 0)), (pm, zaI (G.2 1) 8 (fun _ => 0))] H := hP
  have hD : va_D A [(y, .inr (8, [.ref fm, .null, .int (iz (0))])), (fm, zaL (G.2 0) 8 (fun _ => 0)), (pm, zaI (G.2 1) 8 (fun _ => 0))] := hD
  refine va_putF (D := G.1) (ci := 8) (v := .ref pm) (ty := (.array .int)) (C := RX7) (T := TX7) (N := 3) hx hb hts iwX7 tyX7 tyX7_ok nmX7 hown hK hP hD hS 0 rfl rfl 1 (by decide) (hts (.fieldLink RX7 15 "AnnuityHouse$Taxes" "permilles" "[I") (by decide +kernel)) (fun _ h9 => h9) rfl hnm rfl (by decide +kernel) rfl rfl (Nat.le_of_ble_eq_true rfl) dX7_init_17 (fun H locs hP hD hS => ?_)
  have hP : va_P G.1 vwCl [(y, .inr (8, [.ref fm, .ref pm, .int (iz (0))])), (fm, zaL (G.2 0) 8 (fun _ => 0)), (pm, zaI (G.2 1) 8 (fun _ => 0))] H := hP
  have hD : va_D A [(y, .inr (8, [.ref fm, .ref pm, .int (iz (0))])), (fm, zaL (G.2 0) 8 (fun _ => 0)), (pm, zaI (G.2 1) 8 (fun _ => 0))] := hD
  refine lv_aload_n hx hb dX7_init_20 rfl (lv_at hl 0 rfl) ?_
  refine lv_iconst (v := iz (0)) hx hb dX7_init_21 rfl ?_
  refine va_put (D := G.1) (ci := 8) (v := .int (iz (0))) (ty := .int) (C := RX7) (T := TX7) (N := 3) hx hb hts iwX7 tyX7 tyX7_ok nmX7 hown hK hP hD hS 0 rfl rfl 2 (by decide) (hts (.fieldLink RX7 19 "AnnuityHouse$Taxes" "steps" "I") (by decide +kernel)) (fun _ h9 => h9) rfl (by decide +kernel) rfl rfl (Nat.le_of_ble_eq_true rfl) dX7_init_22 (fun H locs hP hD hS => ?_)
  have hP : va_P G.1 vwCl [(y, .inr (8, [.ref fm, .ref pm, .int (iz (0))])), (fm, zaL (G.2 0) 8 (fun _ => 0)), (pm, zaI (G.2 1) 8 (fun _ => 0))] H := hP
  have hD : va_D A [(y, .inr (8, [.ref fm, .ref pm, .int (iz (0))])), (fm, zaL (G.2 0) 8 (fun _ => 0)), (pm, zaI (G.2 1) 8 (fun _ => 0))] := hD
  rw [hQ]
  exact zr_vret (u := (fm, pm)) hx hb hr hlocks hP hD hS (by first | exact Nat.le_of_ble_eq_true rfl | omega) (by first | exact Nat.le_of_ble_eq_true rfl | omega) dX7_init_25 (show True from trivial)

def rm_c_X7_leastNextFrom : Room := { frames := 0, cells := 0, slots := 0, locals := 0 }
theorem iw_X7_leastNextFrom_X7 : ∀ w ∈ wsX70, w ∈ wsX7_leastNextFrom := by decide +kernel
set_option maxHeartbeats 1000000 in
set_option maxRecDepth 100000 in
theorem c_X7_leastNextFrom (l : Launch) (G : zG) (y : Nat) (fm : Nat) (pm : Nat)  : zM l G yX7_leastNextFrom wsX7_leastNextFrom rm_c_X7_leastNextFrom [.ref y] [(y, .inr (8, [.ref fm, .ref pm, .int (iz (0))]))] (fun A => zQl G (fun (z : Int) (_ : Unit) => z = 0) (fun (_ : Unit) => [(y, .inr (8, [.ref fm, .ref pm, .int (iz (0))]))]) A) 0 0 := by
  refine zM_of (cc := cX7_leastNextFrom) (maxL := 1) (ret := (some .long)) (by decide) rfl (Nat.le_of_ble_eq_true rfl) ?_
  intro p e s m below meth c ls A Q hQ hx hb hr hts hown hlocks hml hnm hKX hP hD hA hS hl
  have hK := hKX.1
  have iwX7 := iw_X7_leastNextFrom_X7
  obtain ⟨H, hH⟩ : ∃ h, h = s.heap := ⟨_, rfl⟩
  obtain ⟨locs, hlo⟩ : ∃ h : List Loc, h = [] := ⟨_, rfl⟩
  have hS : va_S A s.heap H locs := by rw [hH, hlo]; exact hS
  have hP : va_P G.1 vwCl [(y, .inr (8, [.ref fm, .ref pm, .int (iz (0))]))] H := by rw [hH]; exact hP
  have hD : va_D A [(y, .inr (8, [.ref fm, .ref pm, .int (iz (0))]))] := hD
  have hl : lv_has ls 1 [(0, .ref y)] := hl
  rw [← hH, ← hlo]
  refine lv_aload_n hx hb dX7_leastNextFrom_0 rfl (lv_at hl 0 rfl) ?_
  refine va_get (D := G.1) (ci := 8) (v := .int (iz (0))) (C := RX7) (T := TX7) (N := 3) hx hb hts iwX7 hown hK hP 0 rfl rfl 2 (by decide) (hts (.fieldLink RX7 19 "AnnuityHouse$Taxes" "steps" "I") (by decide +kernel)) (fun _ h9 => h9) rfl dX7_leastNextFrom_1 ?_
  refine zr_if_ne (x := 0) (tgt := 11) hx hb (⟨by omega, by omega⟩) dX7_leastNextFrom_4 (by decide) (fun h_1 => ?_) (fun h_1 => ?_)
  · exact absurd h_1 (by omega)
  ·
    refine lv_lconst (v := lz (0)) hx hb dX7_leastNextFrom_7 rfl ?_
    refine lv_goto (tgt := 24) hx hb dX7_leastNextFrom_8 (by decide) ?_
    rw [hQ]
    exact zr_lret (z := 0) (u := ()) hx hb hr hlocks hP hD hS (by first | exact Nat.le_of_ble_eq_true rfl | omega) (by first | exact Nat.le_of_ble_eq_true rfl | omega) dX7_leastNextFrom_24 (show 0 = 0 from rfl)

def rm_c_X7_add : Room := { frames := 0, cells := 0, slots := 0, locals := 0 }
theorem iw_X7_add_X7 : ∀ w ∈ wsX70, w ∈ wsX7_add := by decide +kernel
set_option maxHeartbeats 1000000 in
set_option maxRecDepth 100000 in
theorem c_X7_add (l : Launch) (G : zG) (y : Nat) (fm : Nat) (pm : Nat) (x : Int) (w : Int)  : zM l G yX7_add wsX7_add rm_c_X7_add [.ref y, .long (lz (x)), .int (iz (w))] [(y, .inr (8, [.ref fm, .ref pm, .int (iz (0))])), (fm, zaL (G.2 0) 8 (fun _ => 0)), (pm, zaI (G.2 1) 8 (fun _ => 0))] (fun A => zQi G (fun (z : Int) (u : (Int → Int) × (Int → Int)) => z = 1) (fun (u : (Int → Int) × (Int → Int)) => [(y, .inr (8, [.ref fm, .ref pm, .int (iz (0 + 1))])), (fm, zaL (G.2 0) 8 (u.1)), (pm, zaI (G.2 1) 8 (u.2))]) A) 0 0 := by
  refine zM_of (cc := cX7_add) (maxL := 4) (ret := (some .int)) (by decide) rfl (Nat.le_of_ble_eq_true rfl) ?_
  intro p e s m below meth c ls A Q hQ hx hb hr hts hown hlocks hml hnm hKX hP hD hA hS hl
  have hK := hKX.1
  have iwX7 := iw_X7_add_X7
  obtain ⟨H, hH⟩ : ∃ h, h = s.heap := ⟨_, rfl⟩
  obtain ⟨locs, hlo⟩ : ∃ h : List Loc, h = [] := ⟨_, rfl⟩
  have hS : va_S A s.heap H locs := by rw [hH, hlo]; exact hS
  have hP : va_P G.1 vwCl [(y, .inr (8, [.ref fm, .ref pm, .int (iz (0))])), (fm, zaL (G.2 0) 8 (fun _ => 0)), (pm, zaI (G.2 1) 8 (fun _ => 0))] H := by rw [hH]; exact hP
  have hD : va_D A [(y, .inr (8, [.ref fm, .ref pm, .int (iz (0))])), (fm, zaL (G.2 0) 8 (fun _ => 0)), (pm, zaI (G.2 1) 8 (fun _ => 0))] := hD
  have hl : lv_has ls 4 [(0, .ref y), (1, .long (lz (x))), (3, .int (iz (w)))] := hl
  rw [← hH, ← hlo]
  refine lv_aload_n hx hb dX7_add_0 rfl (lv_at hl 0 rfl) ?_
  refine va_get (D := G.1) (ci := 8) (v := .ref fm) (C := RX7) (T := TX7) (N := 3) hx hb hts iwX7 hown hK hP 0 rfl rfl 0 (by decide) (hts (.fieldLink RX7 9 "AnnuityHouse$Taxes" "froms" "[J") (by decide +kernel)) (fun _ h9 => h9) rfl dX7_add_1 ?_
  refine lv_aload_n hx hb dX7_add_4 rfl (lv_at hl 0 rfl) ?_
  refine va_get (D := G.1) (ci := 8) (v := .int (iz (0))) (C := RX7) (T := TX7) (N := 3) hx hb hts iwX7 hown hK hP 0 rfl rfl 2 (by decide) (hts (.fieldLink RX7 19 "AnnuityHouse$Taxes" "steps" "I") (by decide +kernel)) (fun _ h9 => h9) rfl dX7_add_5 ?_
  refine lv_lload_n hx hb dX7_add_8 rfl (lv_at hl 1 rfl) ?_
  refine zr_last hx hb hK hP hD hS 1 0 rfl rfl (i := 0) (x := x) (⟨by omega, by omega, by omega⟩) dX7_add_9 (fun H locs hP hD hS => ?_)
  have hP : va_P G.1 vwCl [(y, .inr (8, [.ref fm, .ref pm, .int (iz (0))])), (fm, zaL (G.2 0) 8 (zup (fun _ => 0) 0 x)), (pm, zaI (G.2 1) 8 (fun _ => 0))] H := hP
  have hD : va_D A [(y, .inr (8, [.ref fm, .ref pm, .int (iz (0))])), (fm, zaL (G.2 0) 8 (zup (fun _ => 0) 0 x)), (pm, zaI (G.2 1) 8 (fun _ => 0))] := hD
  refine lv_aload_n hx hb dX7_add_10 rfl (lv_at hl 0 rfl) ?_
  refine va_get (D := G.1) (ci := 8) (v := .ref pm) (C := RX7) (T := TX7) (N := 3) hx hb hts iwX7 hown hK hP 0 rfl rfl 1 (by decide) (hts (.fieldLink RX7 15 "AnnuityHouse$Taxes" "permilles" "[I") (by decide +kernel)) (fun _ h9 => h9) rfl dX7_add_11 ?_
  refine lv_aload_n hx hb dX7_add_14 rfl (lv_at hl 0 rfl) ?_
  refine va_get (D := G.1) (ci := 8) (v := .int (iz (0))) (C := RX7) (T := TX7) (N := 3) hx hb hts iwX7 hown hK hP 0 rfl rfl 2 (by decide) (hts (.fieldLink RX7 19 "AnnuityHouse$Taxes" "steps" "I") (by decide +kernel)) (fun _ h9 => h9) rfl dX7_add_15 ?_
  refine lv_iload_n hx hb dX7_add_18 rfl (lv_at hl 2 rfl) ?_
  refine zr_iast hx hb hK hP hD hS 2 1 rfl rfl (i := 0) (x := w) (⟨by omega, by omega, by omega⟩) dX7_add_19 (fun H locs hP hD hS => ?_)
  have hP : va_P G.1 vwCl [(y, .inr (8, [.ref fm, .ref pm, .int (iz (0))])), (fm, zaL (G.2 0) 8 (zup (fun _ => 0) 0 x)), (pm, zaI (G.2 1) 8 (zup (fun _ => 0) 0 w))] H := hP
  have hD : va_D A [(y, .inr (8, [.ref fm, .ref pm, .int (iz (0))])), (fm, zaL (G.2 0) 8 (zup (fun _ => 0) 0 x)), (pm, zaI (G.2 1) 8 (zup (fun _ => 0) 0 w))] := hD
  refine lv_aload_n hx hb dX7_add_20 rfl (lv_at hl 0 rfl) ?_
  refine lv_dup hx hb dX7_add_21 rfl ?_
  refine va_get (D := G.1) (ci := 8) (v := .int (iz (0))) (C := RX7) (T := TX7) (N := 3) hx hb hts iwX7 hown hK hP 0 rfl rfl 2 (by decide) (hts (.fieldLink RX7 19 "AnnuityHouse$Taxes" "steps" "I") (by decide +kernel)) (fun _ h9 => h9) rfl dX7_add_22 ?_
  refine lv_iconst (v := iz (1)) hx hb dX7_add_25 rfl ?_
  refine zr_iadd hx hb dX7_add_26 ?_
  refine va_put (D := G.1) (ci := 8) (v := .int (iz (0 + 1))) (ty := .int) (C := RX7) (T := TX7) (N := 3) hx hb hts iwX7 tyX7 tyX7_ok nmX7 hown hK hP hD hS 0 rfl rfl 2 (by decide) (hts (.fieldLink RX7 19 "AnnuityHouse$Taxes" "steps" "I") (by decide +kernel)) (fun _ h9 => h9) rfl (by decide +kernel) rfl rfl (Nat.le_of_ble_eq_true rfl) dX7_add_27 (fun H locs hP hD hS => ?_)
  have hP : va_P G.1 vwCl [(y, .inr (8, [.ref fm, .ref pm, .int (iz (0 + 1))])), (fm, zaL (G.2 0) 8 (zup (fun _ => 0) 0 x)), (pm, zaI (G.2 1) 8 (zup (fun _ => 0) 0 w))] H := hP
  have hD : va_D A [(y, .inr (8, [.ref fm, .ref pm, .int (iz (0 + 1))])), (fm, zaL (G.2 0) 8 (zup (fun _ => 0) 0 x)), (pm, zaI (G.2 1) 8 (zup (fun _ => 0) 0 w))] := hD
  refine lv_aload_n hx hb dX7_add_30 rfl (lv_at hl 0 rfl) ?_
  refine va_get (D := G.1) (ci := 8) (v := .int (iz (0 + 1))) (C := RX7) (T := TX7) (N := 3) hx hb hts iwX7 hown hK hP 0 rfl rfl 2 (by decide) (hts (.fieldLink RX7 19 "AnnuityHouse$Taxes" "steps" "I") (by decide +kernel)) (fun _ h9 => h9) rfl dX7_add_31 ?_
  rw [hQ]
  exact zr_iret (z := 0 + 1) (u := (zup (fun _ => 0) 0 x, zup (fun _ => 0) 0 w)) hx hb hr hlocks hP hD hS (by first | exact Nat.le_of_ble_eq_true rfl | omega) (by first | exact Nat.le_of_ble_eq_true rfl | omega) dX7_add_34 (show (0 + 1) = 1 from rfl)

def rm_c_X7_clear : Room := { frames := 0, cells := 0, slots := 0, locals := 0 }
theorem iw_X7_clear_X7 : ∀ w ∈ wsX70, w ∈ wsX7_clear := by decide +kernel
set_option maxHeartbeats 1000000 in
set_option maxRecDepth 100000 in
theorem c_X7_clear (l : Launch) (G : zG) (y : Nat) (fm : Nat) (pm : Nat)  : zM l G yX7_clear wsX7_clear rm_c_X7_clear [.ref y] [(y, .inr (8, [.ref fm, .ref pm, .int (iz (0))]))] (fun A => zQi G (fun (z : Int) (_ : Unit) => z = 0) (fun (_ : Unit) => [(y, .inr (8, [.ref fm, .ref pm, .int (iz (0))]))]) A) 0 0 := by
  refine zM_of (cc := cX7_clear) (maxL := 2) (ret := (some .int)) (by decide) rfl (Nat.le_of_ble_eq_true rfl) ?_
  intro p e s m below meth c ls A Q hQ hx hb hr hts hown hlocks hml hnm hKX hP hD hA hS hl
  have hK := hKX.1
  have iwX7 := iw_X7_clear_X7
  obtain ⟨H, hH⟩ : ∃ h, h = s.heap := ⟨_, rfl⟩
  obtain ⟨locs, hlo⟩ : ∃ h : List Loc, h = [] := ⟨_, rfl⟩
  have hS : va_S A s.heap H locs := by rw [hH, hlo]; exact hS
  have hP : va_P G.1 vwCl [(y, .inr (8, [.ref fm, .ref pm, .int (iz (0))]))] H := by rw [hH]; exact hP
  have hD : va_D A [(y, .inr (8, [.ref fm, .ref pm, .int (iz (0))]))] := hD
  have hl : lv_has ls 2 [(0, .ref y)] := hl
  rw [← hH, ← hlo]
  refine lv_aload_n hx hb dX7_clear_0 rfl (lv_at hl 0 rfl) ?_
  refine va_get (D := G.1) (ci := 8) (v := .int (iz (0))) (C := RX7) (T := TX7) (N := 3) hx hb hts iwX7 hown hK hP 0 rfl rfl 2 (by decide) (hts (.fieldLink RX7 19 "AnnuityHouse$Taxes" "steps" "I") (by decide +kernel)) (fun _ h9 => h9) rfl dX7_clear_1 ?_
  refine lv_istore_n (lv' := [(1, .int (iz (0))), (0, .ref y)]) hx hb dX7_clear_4 rfl hl (by decide) rfl (fun ls hl => ?_)
  refine lv_aload_n hx hb dX7_clear_5 rfl (lv_at hl 1 rfl) ?_
  refine lv_iconst (v := iz (0)) hx hb dX7_clear_6 rfl ?_
  refine va_put (D := G.1) (ci := 8) (v := .int (iz (0))) (ty := .int) (C := RX7) (T := TX7) (N := 3) hx hb hts iwX7 tyX7 tyX7_ok nmX7 hown hK hP hD hS 0 rfl rfl 2 (by decide) (hts (.fieldLink RX7 19 "AnnuityHouse$Taxes" "steps" "I") (by decide +kernel)) (fun _ h9 => h9) rfl (by decide +kernel) rfl rfl (Nat.le_of_ble_eq_true rfl) dX7_clear_7 (fun H locs hP hD hS => ?_)
  have hP : va_P G.1 vwCl [(y, .inr (8, [.ref fm, .ref pm, .int (iz (0))]))] H := hP
  have hD : va_D A [(y, .inr (8, [.ref fm, .ref pm, .int (iz (0))]))] := hD
  refine lv_iload_n hx hb dX7_clear_10 rfl (lv_at hl 0 rfl) ?_
  rw [hQ]
  exact zr_iret (z := 0) (u := ()) hx hb hr hlocks hP hD hS (by first | exact Nat.le_of_ble_eq_true rfl | omega) (by first | exact Nat.le_of_ble_eq_true rfl | omega) dX7_clear_11 (show 0 = 0 from rfl)

def rm_c_X7_thousandfoldOf : Room := { frames := 0, cells := 0, slots := 0, locals := 0 }
theorem iw_X7_thousandfoldOf_X7 : ∀ w ∈ wsX70, w ∈ wsX7_thousandfoldOf := by decide +kernel
set_option maxHeartbeats 1000000 in
set_option maxRecDepth 100000 in
theorem c_X7_thousandfoldOf (l : Launch) (G : zG) (y : Nat) (fm : Nat) (pm : Nat) (mo : Int)  : zM l G yX7_thousandfoldOf wsX7_thousandfoldOf rm_c_X7_thousandfoldOf [.ref y, .long (lz (mo))] [(y, .inr (8, [.ref fm, .ref pm, .int (iz (0))]))] (fun A => zQl G (fun (z : Int) (_ : Unit) => z = 0) (fun (_ : Unit) => [(y, .inr (8, [.ref fm, .ref pm, .int (iz (0))]))]) A) 0 0 := by
  refine zM_of (cc := cX7_thousandfoldOf) (maxL := 8) (ret := (some .long)) (by decide) rfl (Nat.le_of_ble_eq_true rfl) ?_
  intro p e s m below meth c ls A Q hQ hx hb hr hts hown hlocks hml hnm hKX hP hD hA hS hl
  have hK := hKX.1
  have iwX7 := iw_X7_thousandfoldOf_X7
  obtain ⟨H, hH⟩ : ∃ h, h = s.heap := ⟨_, rfl⟩
  obtain ⟨locs, hlo⟩ : ∃ h : List Loc, h = [] := ⟨_, rfl⟩
  have hS : va_S A s.heap H locs := by rw [hH, hlo]; exact hS
  have hP : va_P G.1 vwCl [(y, .inr (8, [.ref fm, .ref pm, .int (iz (0))]))] H := by rw [hH]; exact hP
  have hD : va_D A [(y, .inr (8, [.ref fm, .ref pm, .int (iz (0))]))] := hD
  have hl : lv_has ls 8 [(0, .ref y), (1, .long (lz (mo)))] := hl
  rw [← hH, ← hlo]
  refine lv_lconst (v := lz (0)) hx hb dX7_thousandfoldOf_0 rfl ?_
  refine lv_lstore_n (lv' := [(3, .long (lz (0))), (0, .ref y), (1, .long (lz (mo)))]) hx hb dX7_thousandfoldOf_1 rfl hl (by decide) rfl (fun ls hl => ?_)
  refine lv_iconst (v := iz (0)) hx hb dX7_thousandfoldOf_2 rfl ?_
  refine lv_istore (lv' := [(5, .int (iz (0))), (3, .long (lz (0))), (0, .ref y), (1, .long (lz (mo)))]) hx hb dX7_thousandfoldOf_3 hl (by decide) rfl (fun ls hl => ?_)
  refine lv_iload hx hb dX7_thousandfoldOf_5 (lv_at hl 0 rfl) ?_
  refine lv_aload_n hx hb dX7_thousandfoldOf_7 rfl (lv_at hl 2 rfl) ?_
  refine va_get (D := G.1) (ci := 8) (v := .int (iz (0))) (C := RX7) (T := TX7) (N := 3) hx hb hts iwX7 hown hK hP 0 rfl rfl 2 (by decide) (hts (.fieldLink RX7 19 "AnnuityHouse$Taxes" "steps" "I") (by decide +kernel)) (fun _ h9 => h9) rfl dX7_thousandfoldOf_8 ?_
  refine zr_icmp_ge (x := 0) (y := 0) (tgt := 76) hx hb (⟨by omega, by omega⟩) (⟨by omega, by omega⟩) dX7_thousandfoldOf_11 (by decide) (fun h_1 => ?_) (fun h_1 => ?_)
  ·
    refine lv_lload_n hx hb dX7_thousandfoldOf_76 rfl (lv_at hl 1 rfl) ?_
    rw [hQ]
    exact zr_lret (z := 0) (u := ()) hx hb hr hlocks hP hD hS (by first | exact Nat.le_of_ble_eq_true rfl | omega) (by first | exact Nat.le_of_ble_eq_true rfl | omega) dX7_thousandfoldOf_77 (show 0 = 0 from rfl)
  · exact absurd h_1 (by omega)

def rm_c_X7_isLeaving : Room := { frames := 1, cells := 0, slots := 0, locals := 27 }
set_option maxHeartbeats 1000000 in
set_option maxRecDepth 100000 in
theorem c_X7_isLeaving (l : Launch) (G : zG) (y : Nat) (fm : Nat) (pm : Nat) (mo : Int) (wa : Int) (h1 : 0 ≤ mo ∧ mo ≤ 1000000000000) (h2 : 0 ≤ wa ∧ wa ≤ 1000000000) : zM l G yX7_isLeaving wsX7_isLeaving rm_c_X7_isLeaving [.ref y, .long (lz (mo)), .long (lz (wa))] [(y, .inr (8, [.ref fm, .ref pm, .int (iz (0))]))] (fun A => zQz G (fun (z : Bool) (_ : Unit) => z = decide (wa ≤ mo)) (fun (_ : Unit) => [(y, .inr (8, [.ref fm, .ref pm, .int (iz (0))]))]) A) 0 0 := by
  refine zM_of (cc := cX7_isLeaving) (maxL := 5) (ret := (some .boolean)) (by decide) rfl (Nat.le_of_ble_eq_true rfl) ?_
  intro p e s m below meth c ls A Q hQ hx hb hr hts hown hlocks hml hnm hKX hP hD hA hS hl
  have hK := hKX.1
  obtain ⟨H, hH⟩ : ∃ h, h = s.heap := ⟨_, rfl⟩
  obtain ⟨locs, hlo⟩ : ∃ h : List Loc, h = [] := ⟨_, rfl⟩
  have hS : va_S A s.heap H locs := by rw [hH, hlo]; exact hS
  have hP : va_P G.1 vwCl [(y, .inr (8, [.ref fm, .ref pm, .int (iz (0))]))] H := by rw [hH]; exact hP
  have hD : va_D A [(y, .inr (8, [.ref fm, .ref pm, .int (iz (0))]))] := hD
  have hl : lv_has ls 5 [(0, .ref y), (1, .long (lz (mo))), (3, .long (lz (wa)))] := hl
  rw [← hH, ← hlo]
  refine lv_lload_n hx hb dX7_isLeaving_0 rfl (lv_at hl 1 rfl) ?_
  refine zr_ldc2 (z := 1000) hx hb hown (hts (.constantLong RX7 43 (1000)) (by decide +kernel)) rfl dX7_isLeaving_1 ?_
  refine zr_lmul hx hb dX7_isLeaving_4 ?_
  refine lv_aload_n hx hb dX7_isLeaving_5 rfl (lv_at hl 0 rfl) ?_
  refine lv_lload_n hx hb dX7_isLeaving_6 rfl (lv_at hl 1 rfl) ?_
  refine zc_l (wr := []) (va_runV (As := [.long (lz (mo))]) (rest := [.long (lz (mo * 1000))]) ⟨hx, hb, hml, hown, hts⟩ (c_X7_thousandfoldOf l G y fm pm mo  H.size) (cwV 1 hts gX7_isLeaving_X7_thousandfoldOf rfl rfl rfl (by decide +kernel) ⟨Nat.le_of_ble_eq_true rfl, Nat.le_of_ble_eq_true rfl⟩) (zpV hKX hP hD [0] rfl rfl 0 8 rfl rfl) rfl rfl hl.1 rfl (lv_room (Nat.le_of_ble_eq_true rfl)) dX7_isLeaving_7 ⟨(by first | exact Nat.le_of_ble_eq_true rfl | (show _ ≤ (0 : Nat); omega)), (by first | exact Nat.le_of_ble_eq_true rfl | (show _ ≤ (0 : Nat); omega))⟩) hP hD hS hA [0] [] rfl rfl rfl (by decide) (fun tf u_1 H locs htf hP hD hS => ?_)
  have hP : va_P G.1 vwCl [(y, .inr (8, [.ref fm, .ref pm, .int (iz (0))]))] H := hP
  have hD : va_D A [(y, .inr (8, [.ref fm, .ref pm, .int (iz (0))]))] := hD
  have htf : tf = 0 := htf
  refine zr_lsub hx hb dX7_isLeaving_10 ?_
  refine lv_lload_n hx hb dX7_isLeaving_11 rfl (lv_at hl 2 rfl) ?_
  refine zr_ldc2 (z := 1000) hx hb hown (hts (.constantLong RX7 43 (1000)) (by decide +kernel)) rfl dX7_isLeaving_12 ?_
  refine zr_lmul hx hb dX7_isLeaving_15 ?_
  refine zr_lcmp_lt (x := (mo * 1000) - tf) (y := wa * 1000) (tgt := 24) hx hb (⟨by omega, by omega⟩) (⟨by omega, by omega⟩) dX7_isLeaving_16 dX7_isLeaving_17 (by decide) (fun h_3 => ?_) (fun h_3 => ?_)
  ·
    refine lv_iconst (v := iz (0)) hx hb dX7_isLeaving_24 rfl ?_
    rw [hQ]
    exact zr_zret (z := false) (rfl) (u := ()) hx hb hr hlocks hP hD hS (by first | exact Nat.le_of_ble_eq_true rfl | omega) (by first | exact Nat.le_of_ble_eq_true rfl | omega) dX7_isLeaving_25 (show false = decide (wa ≤ mo) from by first | exact (decide_eq_true (by omega)).symm | exact (decide_eq_false (by omega)).symm)
  ·
    refine lv_iconst (v := iz (1)) hx hb dX7_isLeaving_20 rfl ?_
    refine lv_goto (tgt := 25) hx hb dX7_isLeaving_21 (by decide) ?_
    rw [hQ]
    exact zr_zret (z := true) (rfl) (u := ()) hx hb hr hlocks hP hD hS (by first | exact Nat.le_of_ble_eq_true rfl | omega) (by first | exact Nat.le_of_ble_eq_true rfl | omega) dX7_isLeaving_25 (show true = decide (wa ≤ mo) from by first | exact (decide_eq_true (by omega)).symm | exact (decide_eq_false (by omega)).symm)

def rm_c_X7_leastLeaving : Room := { frames := 2, cells := 0, slots := 0, locals := 51 }
set_option maxHeartbeats 1000000 in
set_option maxRecDepth 100000 in
theorem c_X7_leastLeaving (l : Launch) (G : zG) (y : Nat) (fm : Nat) (pm : Nat) (mo : Int) (h1 : 0 ≤ mo ∧ mo ≤ 1000000000) : zM l G yX7_leastLeaving wsX7_leastLeaving rm_c_X7_leastLeaving [.ref y, .long (lz (mo))] [(y, .inr (8, [.ref fm, .ref pm, .int (iz (0))]))] (fun A => zQl G (fun (z : Int) (_ : Unit) => z = mo) (fun (_ : Unit) => [(y, .inr (8, [.ref fm, .ref pm, .int (iz (0))]))]) A) 0 0 := by
  refine zM_of (cc := cX7_leastLeaving) (maxL := 10) (ret := (some .long)) (by decide) rfl (Nat.le_of_ble_eq_true rfl) ?_
  intro p e s m below meth c ls A Q hQ hx hb hr hts hown hlocks hml hnm hKX hP hD hA hS hl
  have hK := hKX.1
  obtain ⟨H, hH⟩ : ∃ h, h = s.heap := ⟨_, rfl⟩
  obtain ⟨locs, hlo⟩ : ∃ h : List Loc, h = [] := ⟨_, rfl⟩
  have hS : va_S A s.heap H locs := by rw [hH, hlo]; exact hS
  have hP : va_P G.1 vwCl [(y, .inr (8, [.ref fm, .ref pm, .int (iz (0))]))] H := by rw [hH]; exact hP
  have hD : va_D A [(y, .inr (8, [.ref fm, .ref pm, .int (iz (0))]))] := hD
  have hl : lv_has ls 10 [(0, .ref y), (1, .long (lz (mo)))] := hl
  rw [← hH, ← hlo]
  refine lv_aload_n hx hb dX7_leastLeaving_0 rfl (lv_at hl 0 rfl) ?_
  refine zr_ldc2 (z := 1000000000000) hx hb hown (hts (.constantLong RX7 32 (1000000000000)) (by decide +kernel)) rfl dX7_leastLeaving_1 ?_
  refine lv_lload_n hx hb dX7_leastLeaving_4 rfl (lv_at hl 1 rfl) ?_
  refine zc_z (wr := []) (va_runV (As := [.long (lz (1000000000000)), .long (lz (mo))]) (rest := []) ⟨hx, hb, hml, hown, hts⟩ (c_X7_isLeaving l G y fm pm 1000000000000 mo (by omega) (by omega) H.size) (cwV 2 hts gX7_leastLeaving_X7_isLeaving rfl rfl rfl (by decide +kernel) ⟨Nat.le_of_ble_eq_true rfl, Nat.le_of_ble_eq_true rfl⟩) (zpV hKX hP hD [0] rfl rfl 0 8 rfl rfl) rfl rfl hl.1 rfl (lv_room (Nat.le_of_ble_eq_true rfl)) dX7_leastLeaving_5 ⟨(by first | exact Nat.le_of_ble_eq_true rfl | (show _ ≤ (0 : Nat); omega)), (by first | exact Nat.le_of_ble_eq_true rfl | (show _ ≤ (0 : Nat); omega))⟩) hP hD hS hA [0] [] rfl rfl rfl (by decide) (fun c1 u_1 H locs hc1 hP hD hS => ?_)
  have hP : va_P G.1 vwCl [(y, .inr (8, [.ref fm, .ref pm, .int (iz (0))]))] H := hP
  have hD : va_D A [(y, .inr (8, [.ref fm, .ref pm, .int (iz (0))]))] := hD
  have hc1 : c1 = decide (mo ≤ (1000000000000 : Int)) := hc1
  rw [show c1 = true from hc1.trans (decide_eq_true (by omega))]
  refine zr_ifz_ne (tgt := 15) hx hb dX7_leastLeaving_8 (by decide) (fun h_3 => ?_) (fun h_3 => ?_)
  ·
    refine lv_lconst (v := lz (0)) hx hb dX7_leastLeaving_15 rfl ?_
    refine lv_lstore_n (lv' := [(3, .long (lz (0))), (0, .ref y), (1, .long (lz (mo)))]) hx hb dX7_leastLeaving_16 rfl hl (by decide) rfl (fun ls hl => ?_)
    refine zr_ldc2 (z := 1000000000000) hx hb hown (hts (.constantLong RX7 32 (1000000000000)) (by decide +kernel)) rfl dX7_leastLeaving_17 ?_
    refine lv_lstore (lv' := [(5, .long (lz (1000000000000))), (3, .long (lz (0))), (0, .ref y), (1, .long (lz (mo)))]) hx hb dX7_leastLeaving_20 hl (by decide) rfl (fun ls hl => ?_)
    refine lv_iconst (v := iz (0)) hx hb dX7_leastLeaving_22 rfl ?_
    refine lv_istore (lv' := [(7, .int (iz (0))), (5, .long (lz (1000000000000))), (3, .long (lz (0))), (0, .ref y), (1, .long (lz (mo)))]) hx hb dX7_leastLeaving_23 hl (by decide) rfl (fun ls hl => ?_)
    have hl_25 : ∀ (zn_25 : Nat) (tn : Int) (lo : Int) (hi : Int) (d : Int) (H : Heap) (locs : List Loc) (ls : Array Slot), (41 - d).toNat < zn_25 → (0 ≤ lo ∧ lo ≤ mo ∧ mo ≤ hi ∧ hi ≤ 1000000000000) → (0 ≤ d ∧ d ≤ 41 ∧ tn = d) → (hi - lo ≤ 2 ^ (40 - d).toNat ∧ (d = 41 → hi ≤ lo)) → va_P G.1 vwCl [(y, .inr (8, [.ref fm, .ref pm, .int (iz (0))]))] H → va_D A [(y, .inr (8, [.ref fm, .ref pm, .int (iz (0))]))] → va_S A s.heap H locs → lv_has ls 10 [(7, .int (iz (tn))), (5, .long (lz (hi))), (3, .long (lz (lo))), (0, .ref y), (1, .long (lz (mo)))] → W p l e rm_c_X7_leastLeaving s m ([.ref y, .long (lz (mo))] : List Value).toArray below meth c H locs (0 + 0) (0 + 0) Q (F0 m 25 ls []) := by
      intro zn_25
      induction zn_25 with
      | zero => intro tn lo hi d H locs ls hm; exact absurd hm (Nat.not_lt_zero _)
      | succ zn_25 ih_25 =>
        intro tn lo hi d H locs ls hm_25 k1 k2 k3 hP hD hS hl
        refine lv_iload hx hb dX7_leastLeaving_25 (lv_at hl 0 rfl) ?_
        refine zr_ldc (z := 1000000) hx hb hown (hts (.constant RX7 40 (1000000)) (by decide +kernel)) rfl dX7_leastLeaving_27 ?_
        refine zr_icmp_ge (x := tn) (y := 1000000) (tgt := 77) hx hb (⟨by omega, by omega⟩) (⟨by omega, by omega⟩) dX7_leastLeaving_29 (by decide) (fun h_4 => ?_) (fun h_4 => ?_)
        · exact absurd h_4 (by omega)
        ·
          refine lv_lload_n hx hb dX7_leastLeaving_32 rfl (lv_at hl 2 rfl) ?_
          refine lv_lload hx hb dX7_leastLeaving_33 (lv_at hl 1 rfl) ?_
          refine zr_lcmp_ge (x := lo) (y := hi) (tgt := 77) hx hb (⟨by omega, by omega⟩) (⟨by omega, by omega⟩) dX7_leastLeaving_35 dX7_leastLeaving_36 (by decide) (fun h_5 => ?_) (fun h_5 => ?_)
          ·
            refine lv_lload_n hx hb dX7_leastLeaving_77 rfl (lv_at hl 2 rfl) ?_
            rw [hQ]
            exact zr_lret (z := lo) (u := ()) hx hb hr hlocks hP hD hS (by first | exact Nat.le_of_ble_eq_true rfl | omega) (by first | exact Nat.le_of_ble_eq_true rfl | omega) dX7_leastLeaving_78 (show lo = mo from by omega)
          ·
            refine lv_lload_n hx hb dX7_leastLeaving_39 rfl (lv_at hl 2 rfl) ?_
            refine lv_lload hx hb dX7_leastLeaving_40 (lv_at hl 1 rfl) ?_
            refine zr_ladd hx hb dX7_leastLeaving_42 ?_
            refine zr_ldc2 (z := 2) hx hb hown (hts (.constantLong RX7 41 (2)) (by decide +kernel)) rfl dX7_leastLeaving_43 ?_
            refine zr_ldiv hx hb (x := lo + hi) (y := 2) ⟨by omega, by omega⟩ ⟨by omega, by omega⟩ (by omega) (by omega) dX7_leastLeaving_46 ?_
            refine zr_namel (fun mid emid => ?_)
            refine lv_lstore (lv' := [(8, .long (lz (mid))), (7, .int (iz (tn))), (5, .long (lz (hi))), (3, .long (lz (lo))), (0, .ref y), (1, .long (lz (mo)))]) hx hb dX7_leastLeaving_47 hl (by decide) rfl (fun ls hl => ?_)
            refine lv_aload_n hx hb dX7_leastLeaving_49 rfl (lv_at hl 4 rfl) ?_
            refine lv_lload hx hb dX7_leastLeaving_50 (lv_at hl 0 rfl) ?_
            refine lv_lload_n hx hb dX7_leastLeaving_52 rfl (lv_at hl 5 rfl) ?_
            refine zc_z (wr := []) (va_runV (As := [.long (lz (mid)), .long (lz (mo))]) (rest := []) ⟨hx, hb, hml, hown, hts⟩ (c_X7_isLeaving l G y fm pm mid mo (by omega) (by omega) H.size) (cwV 2 hts gX7_leastLeaving_X7_isLeaving rfl rfl rfl (by decide +kernel) ⟨Nat.le_of_ble_eq_true rfl, Nat.le_of_ble_eq_true rfl⟩) (zpV hKX hP hD [0] rfl rfl 0 8 rfl rfl) rfl rfl hl.1 rfl (lv_room (Nat.le_of_ble_eq_true rfl)) dX7_leastLeaving_53 ⟨(by first | exact Nat.le_of_ble_eq_true rfl | (show _ ≤ (0 : Nat); omega)), (by first | exact Nat.le_of_ble_eq_true rfl | (show _ ≤ (0 : Nat); omega))⟩) hP hD hS hA [0] [] rfl rfl rfl (by decide) (fun c2 u_6 H locs hc2 hP hD hS => ?_)
            have hP : va_P G.1 vwCl [(y, .inr (8, [.ref fm, .ref pm, .int (iz (0))]))] H := hP
            have hD : va_D A [(y, .inr (8, [.ref fm, .ref pm, .int (iz (0))]))] := hD
            have hc2 : c2 = decide (mo ≤ mid) := hc2
            refine zr_ifz_eq (tgt := 66) hx hb dX7_leastLeaving_56 (by decide) (fun h_8 => ?_) (fun h_8 => ?_)
            ·
              have hzc2 := of_decide_eq_false (hc2.symm.trans h_8)
              refine lv_lload hx hb dX7_leastLeaving_66 (lv_at hl 0 rfl) ?_
              refine lv_lconst (v := lz (1)) hx hb dX7_leastLeaving_68 rfl ?_
              refine zr_ladd hx hb dX7_leastLeaving_69 ?_
              refine lv_lstore_n (lv' := [(3, .long (lz (mid + 1))), (8, .long (lz (mid))), (7, .int (iz (tn))), (5, .long (lz (hi))), (0, .ref y), (1, .long (lz (mo)))]) hx hb dX7_leastLeaving_70 rfl hl (by decide) rfl (fun ls hl => ?_)
              refine lv_iinc (v := iz (tn + 1)) (lv' := [(7, .int (iz (tn + 1))), (3, .long (lz (mid + 1))), (8, .long (lz (mid))), (5, .long (lz (hi))), (0, .ref y), (1, .long (lz (mo)))]) hx hb dX7_leastLeaving_71 hl (k := 2) rfl (by rw [show Int32.ofInt (1) = iz (1) from rfl, iz_add]) (by decide) rfl (fun ls hl => ?_)
              refine lv_goto (tgt := 25) hx hb dX7_leastLeaving_74 (by decide) ?_
              have hh := zhalf40 (x := hi - lo) (y := hi - (mid + 1)) k2.1 k2.2.1 ⟨k3.1, fun e => by have := k3.2 e; omega⟩ (by omega) (by omega)
              refine W.widen (k := 0 + 0) (n := 0 + 0) (by omega) (by omega) ?_
              exact ih_25 (tn + 1) (mid + 1) hi (d + 1) _ _ _ (by omega) (by omega) (by omega) (⟨hh.1, fun e => by have := hh.2 e; omega⟩) (hP) (hD) hS (lv_sub hl [0, 3, 1, 4, 5] rfl)
            ·
              have hzc2 := of_decide_eq_true (hc2.symm.trans h_8)
              refine lv_lload hx hb dX7_leastLeaving_59 (lv_at hl 0 rfl) ?_
              refine lv_lstore (lv' := [(5, .long (lz (mid))), (8, .long (lz (mid))), (7, .int (iz (tn))), (3, .long (lz (lo))), (0, .ref y), (1, .long (lz (mo)))]) hx hb dX7_leastLeaving_61 hl (by decide) rfl (fun ls hl => ?_)
              refine lv_goto (tgt := 71) hx hb dX7_leastLeaving_63 (by decide) ?_
              refine lv_iinc (v := iz (tn + 1)) (lv' := [(7, .int (iz (tn + 1))), (5, .long (lz (mid))), (8, .long (lz (mid))), (3, .long (lz (lo))), (0, .ref y), (1, .long (lz (mo)))]) hx hb dX7_leastLeaving_71 hl (k := 2) rfl (by rw [show Int32.ofInt (1) = iz (1) from rfl, iz_add]) (by decide) rfl (fun ls hl => ?_)
              refine lv_goto (tgt := 25) hx hb dX7_leastLeaving_74 (by decide) ?_
              have hh := zhalf40 (x := hi - lo) (y := mid - lo) k2.1 k2.2.1 ⟨k3.1, fun e => by have := k3.2 e; omega⟩ (by omega) (by omega)
              refine W.widen (k := 0 + 0) (n := 0 + 0) (by omega) (by omega) ?_
              exact ih_25 (tn + 1) lo mid (d + 1) _ _ _ (by omega) (by omega) (by omega) (⟨hh.1, fun e => by have := hh.2 e; omega⟩) (hP) (hD) hS (lv_sub hl [0, 1, 3, 4, 5] rfl)
    exact hl_25 ((41 - 0 : Int).toNat + 1) 0 0 1000000000000 0 _ _ _ (Nat.lt_succ_self _) (by omega) (by omega) (by decide) (hP) (hD) hS (hl)
  · exact absurd h_3 (by decide)
