-- THE CLASS: Flow (laid by wip/p40/y1.py)
def rm_c_X8_init : Room := { frames := 1, cells := 1, slots := 40, locals := 12 }
theorem iw_X8_init_X8 : ∀ w ∈ wsX80, w ∈ wsX8_init := by decide +kernel
set_option maxHeartbeats 1000000 in
set_option maxRecDepth 100000 in
theorem c_X8_init (l : Launch) (G : zG) (a : Nat)  : zM l G yX8_init wsX8_init rm_c_X8_init [.ref a] [(a, .inr (9, [.null, .int (iz (0)), .long (lz (0))]))] (fun A => zQv G (fun (b : Nat) => True) (fun (b : Nat) => [(a, .inr (9, [.ref b, .int (iz (0)), .long (lz (0))])), (b, zaL (G.2 0) 40 (fun _ => 0))]) A) 1 40 := by
  refine zM_of (cc := cX8_init) (maxL := 1) (ret := none) (by decide) rfl (Nat.le_of_ble_eq_true rfl) ?_
  intro p e s m below meth c ls A Q hQ hx hb hr hts hown hlocks hml hnm hKX hP hD hA hS hl
  have hK := hKX.1
  have iwX8 := iw_X8_init_X8
  obtain ⟨H, hH⟩ : ∃ h, h = s.heap := ⟨_, rfl⟩
  obtain ⟨locs, hlo⟩ : ∃ h : List Loc, h = [] := ⟨_, rfl⟩
  have hS : va_S A s.heap H locs := by rw [hH, hlo]; exact hS
  have hP : va_P G.1 vwCl [(a, .inr (9, [.null, .int (iz (0)), .long (lz (0))]))] H := by rw [hH]; exact hP
  have hD : va_D A [(a, .inr (9, [.null, .int (iz (0)), .long (lz (0))]))] := hD
  have hl : lv_has ls 1 [(0, .ref a)] := hl
  rw [← hH, ← hlo]
  refine lv_aload_n hx hb dX8_init_0 rfl (lv_at hl 0 rfl) ?_
  refine W.objInit hx hb hown (hts (.methodLink RX8 5 objectInit) (by decide +kernel)) (hts (.instanceMethod objectInit) (by decide +kernel)) (hts (.code objectInit ⟨#[0xb1]⟩ 1 none) (by decide +kernel)) rfl (by rw [hml]; exact hl.1) rfl dX8_init_1 (Nat.le_of_ble_eq_true rfl) (Nat.le_of_ble_eq_true rfl) ?_
  refine lv_aload_n hx hb dX8_init_4 rfl (lv_at hl 0 rfl) ?_
  refine lv_bipush (v := iz (40)) hx hb dX8_init_5 rfl ?_
  refine zr_newaL (G := G) (n := 40) (N := 40) hx hb (hts (.arrayClass .long) (by decide +kernel)) hK hP hD hS hA (by omega) (by omega) (by omega) (by first | exact Nat.le_of_ble_eq_true rfl | (show _ ≤ (1 : Nat); omega)) (by first | exact Nat.le_of_ble_eq_true rfl | (show _ ≤ (40 : Nat); omega)) dX8_init_7 (fun b H hP hD hS => ?_)
  have hP : va_P G.1 vwCl [(a, .inr (9, [.null, .int (iz (0)), .long (lz (0))])), (b, zaL (G.2 0) 40 (fun _ => 0))] H := hP
  have hD : va_D A [(a, .inr (9, [.null, .int (iz (0)), .long (lz (0))])), (b, zaL (G.2 0) 40 (fun _ => 0))] := hD
  refine va_put (D := G.1) (ci := 9) (v := .ref b) (ty := (.array .long)) (C := RX8) (T := TX8) (N := 3) hx hb hts iwX8 tyX8 tyX8_ok nmX8 hown hK hP hD hS 0 rfl rfl 0 (by decide) (hts (.fieldLink RX8 11 "AnnuityHouse$Whole" "limbs" "[J") (by decide +kernel)) (fun _ h9 => h9) rfl (by decide +kernel) rfl rfl (Nat.le_of_ble_eq_true rfl) dX8_init_9 (fun H locs hP hD hS => ?_)
  have hP : va_P G.1 vwCl [(a, .inr (9, [.ref b, .int (iz (0)), .long (lz (0))])), (b, zaL (G.2 0) 40 (fun _ => 0))] H := hP
  have hD : va_D A [(a, .inr (9, [.ref b, .int (iz (0)), .long (lz (0))])), (b, zaL (G.2 0) 40 (fun _ => 0))] := hD
  refine lv_aload_n hx hb dX8_init_12 rfl (lv_at hl 0 rfl) ?_
  refine lv_iconst (v := iz (0)) hx hb dX8_init_13 rfl ?_
  refine va_put (D := G.1) (ci := 9) (v := .int (iz (0))) (ty := .int) (C := RX8) (T := TX8) (N := 3) hx hb hts iwX8 tyX8 tyX8_ok nmX8 hown hK hP hD hS 0 rfl rfl 1 (by decide) (hts (.fieldLink RX8 15 "AnnuityHouse$Whole" "size" "I") (by decide +kernel)) (fun _ h9 => h9) rfl (by decide +kernel) rfl rfl (Nat.le_of_ble_eq_true rfl) dX8_init_14 (fun H locs hP hD hS => ?_)
  have hP : va_P G.1 vwCl [(a, .inr (9, [.ref b, .int (iz (0)), .long (lz (0))])), (b, zaL (G.2 0) 40 (fun _ => 0))] H := hP
  have hD : va_D A [(a, .inr (9, [.ref b, .int (iz (0)), .long (lz (0))])), (b, zaL (G.2 0) 40 (fun _ => 0))] := hD
  refine lv_aload_n hx hb dX8_init_17 rfl (lv_at hl 0 rfl) ?_
  refine lv_lconst (v := lz (0)) hx hb dX8_init_18 rfl ?_
  refine va_put (D := G.1) (ci := 9) (v := .long (lz (0))) (ty := .long) (C := RX8) (T := TX8) (N := 3) hx hb hts iwX8 tyX8 tyX8_ok nmX8 hown hK hP hD hS 0 rfl rfl 2 (by decide) (hts (.fieldLink RX8 19 "AnnuityHouse$Whole" "top" "J") (by decide +kernel)) (fun _ h9 => h9) rfl (by decide +kernel) rfl rfl (Nat.le_of_ble_eq_true rfl) dX8_init_19 (fun H locs hP hD hS => ?_)
  have hP : va_P G.1 vwCl [(a, .inr (9, [.ref b, .int (iz (0)), .long (lz (0))])), (b, zaL (G.2 0) 40 (fun _ => 0))] H := hP
  have hD : va_D A [(a, .inr (9, [.ref b, .int (iz (0)), .long (lz (0))])), (b, zaL (G.2 0) 40 (fun _ => 0))] := hD
  rw [hQ]
  exact zr_vret (u := (b)) hx hb hr hlocks hP hD hS (by first | exact Nat.le_of_ble_eq_true rfl | omega) (by first | exact Nat.le_of_ble_eq_true rfl | omega) dX8_init_22 (show True from trivial)

def rm_c_X1_init : Room := { frames := 2, cells := 6, slots := 129, locals := 32 }
theorem iw_X1_init_X1 : ∀ w ∈ wsX10, w ∈ wsX1_init := by decide +kernel
theorem iw_X1_init_X8 : ∀ w ∈ wsX80, w ∈ wsX1_init := by decide +kernel
set_option maxHeartbeats 1000000 in
set_option maxRecDepth 100000 in
theorem c_X1_init (l : Launch) (G : zG) (q : Nat)  : zM l G yX1_init wsX1_init rm_c_X1_init [.ref q] [(q, .inr (2, [.null, .null, .null, .long (lz (0)), .long (lz (0)), .int (iz (0))]))] (fun A => zQv G (fun (u : (Nat × Nat × Nat × Nat × Nat × Nat)) => True) (fun (u : (Nat × Nat × Nat × Nat × Nat × Nat)) => [(q, .inr (2, [.ref u.1, .ref u.2.2.1, .ref u.2.2.2.2.1, .long (lz (1)), .long (lz (1)), .int (iz (0))])), (u.1, .inr (9, [.ref u.2.1, .int (iz (0)), .long (lz (0))])), (u.2.1, zaL (G.2 0) 40 (fun _ => 0)), (u.2.2.1, .inr (9, [.ref u.2.2.2.1, .int (iz (0)), .long (lz (0))])), (u.2.2.2.1, zaL (G.2 0) 40 (fun _ => 0)), (u.2.2.2.2.1, .inr (9, [.ref u.2.2.2.2.2, .int (iz (0)), .long (lz (0))])), (u.2.2.2.2.2, zaL (G.2 0) 40 (fun _ => 0))]) A) 6 129 := by
  refine zM_of (cc := cX1_init) (maxL := 1) (ret := none) (by decide) rfl (Nat.le_of_ble_eq_true rfl) ?_
  intro p e s m below meth c ls A Q hQ hx hb hr hts hown hlocks hml hnm hKX hP hD hA hS hl
  have hK := hKX.1
  have iwX1 := iw_X1_init_X1
  have iwX8 := iw_X1_init_X8
  obtain ⟨H, hH⟩ : ∃ h, h = s.heap := ⟨_, rfl⟩
  obtain ⟨locs, hlo⟩ : ∃ h : List Loc, h = [] := ⟨_, rfl⟩
  have hS : va_S A s.heap H locs := by rw [hH, hlo]; exact hS
  have hP : va_P G.1 vwCl [(q, .inr (2, [.null, .null, .null, .long (lz (0)), .long (lz (0)), .int (iz (0))]))] H := by rw [hH]; exact hP
  have hD : va_D A [(q, .inr (2, [.null, .null, .null, .long (lz (0)), .long (lz (0)), .int (iz (0))]))] := hD
  have hl : lv_has ls 1 [(0, .ref q)] := hl
  rw [← hH, ← hlo]
  refine lv_aload_n hx hb dX1_init_0 rfl (lv_at hl 0 rfl) ?_
  refine W.objInit hx hb hown (hts (.methodLink RX1 3 objectInit) (by decide +kernel)) (hts (.instanceMethod objectInit) (by decide +kernel)) (hts (.code objectInit ⟨#[0xb1]⟩ 1 none) (by decide +kernel)) rfl (by rw [hml]; exact hl.1) rfl dX1_init_1 (Nat.le_of_ble_eq_true rfl) (Nat.le_of_ble_eq_true rfl) ?_
  refine lv_aload_n hx hb dX1_init_4 rfl (lv_at hl 0 rfl) ?_
  refine va_new (D := G.1) (ci := 9) (fs := [.null, .int 0, .long 0]) (C := RX8) (T := TX8) (N := 3) hx hb hts iwX8 tyX8 tyX8_ok hown (hts (.classLink RX1 9 RX8) (by decide +kernel)) (hts (.instantiable RX8 3) (by decide +kernel)) (hts (.initialized RX8) (by decide +kernel)) hK hP hD hS hA rfl (by decide +kernel) (by first | exact Nat.le_of_ble_eq_true rfl | (show _ ≤ (6 : Nat); omega)) (by first | exact Nat.le_of_ble_eq_true rfl | (show _ ≤ (129 : Nat); omega)) dX1_init_5 (fun sa H hP hD hS => ?_)
  have hP : va_P G.1 vwCl [(q, .inr (2, [.null, .null, .null, .long (lz (0)), .long (lz (0)), .int (iz (0))])), (sa, .inr (9, [.null, .int (iz (0)), .long (lz (0))]))] H := hP
  have hD : va_D A [(q, .inr (2, [.null, .null, .null, .long (lz (0)), .long (lz (0)), .int (iz (0))])), (sa, .inr (9, [.null, .int (iz (0)), .long (lz (0))]))] := hD
  refine lv_dup hx hb dX1_init_8 rfl ?_
  refine zc_v (wr := [(q, .inr (2, [.null, .null, .null, .long (lz (0)), .long (lz (0)), .int (iz (0))]))]) (va_runIN (As := []) (rest := [.ref sa, .ref q]) ⟨hx, hb, hml, hown, hts⟩ (c_X8_init l G sa  H.size) ⟨va_cnB 0 hts gX1_init_X8_init_n11 rfl rfl rfl (hKX.2.2.2 (.methodLinkNest "AnnuityHouse$Flow" 11 ⟨"AnnuityHouse$Whole", "<init>", "()V"⟩ "AnnuityHouse") (by decide +kernel)) (hts (.initialized RX8) (by decide +kernel)) (by decide +kernel) ⟨Nat.le_of_ble_eq_true rfl, Nat.le_of_ble_eq_true rfl⟩, rfl, hts (.instanceMethod yX8_init) (by decide +kernel)⟩ (zpS hKX hP hD [1] rfl rfl) rfl rfl hl.1 rfl (lv_room (Nat.le_of_ble_eq_true rfl)) dX1_init_9 ⟨(by first | exact Nat.le_of_ble_eq_true rfl | (show _ ≤ (6 : Nat); omega)), (by first | exact Nat.le_of_ble_eq_true rfl | (show _ ≤ (129 : Nat); omega))⟩) hP hD hS hA [1] [0] rfl rfl rfl (by decide) (fun u_1 H locs t1 hP hD hS => ?_)
  generalize u_1 = sb at hP hD t1
  have hP : va_P G.1 vwCl [(q, .inr (2, [.null, .null, .null, .long (lz (0)), .long (lz (0)), .int (iz (0))])), (sa, .inr (9, [.ref sb, .int (iz (0)), .long (lz (0))])), (sb, zaL (G.2 0) 40 (fun _ => 0))] H := hP
  have hD : va_D A [(q, .inr (2, [.null, .null, .null, .long (lz (0)), .long (lz (0)), .int (iz (0))])), (sa, .inr (9, [.ref sb, .int (iz (0)), .long (lz (0))])), (sb, zaL (G.2 0) 40 (fun _ => 0))] := hD
  refine va_putF (D := G.1) (ci := 2) (v := .ref sa) (ty := (.object "AnnuityHouse$Whole")) (C := RX1) (T := TX1) (N := 6) hx hb hts iwX1 tyX1 tyX1_ok nmX1 hown hK hP hD hS 0 rfl rfl 0 (by decide) (hts (.fieldLink RX1 12 "AnnuityHouse$Flow" "sum" "LAnnuityHouse$Whole;") (by decide +kernel)) (fun _ h9 => h9) rfl hnm rfl (by decide +kernel) rfl rfl (Nat.le_of_ble_eq_true rfl) dX1_init_12 (fun H locs hP hD hS => ?_)
  have hP : va_P G.1 vwCl [(q, .inr (2, [.ref sa, .null, .null, .long (lz (0)), .long (lz (0)), .int (iz (0))])), (sa, .inr (9, [.ref sb, .int (iz (0)), .long (lz (0))])), (sb, zaL (G.2 0) 40 (fun _ => 0))] H := hP
  have hD : va_D A [(q, .inr (2, [.ref sa, .null, .null, .long (lz (0)), .long (lz (0)), .int (iz (0))])), (sa, .inr (9, [.ref sb, .int (iz (0)), .long (lz (0))])), (sb, zaL (G.2 0) 40 (fun _ => 0))] := hD
  refine lv_aload_n hx hb dX1_init_15 rfl (lv_at hl 0 rfl) ?_
  refine va_new (D := G.1) (ci := 9) (fs := [.null, .int 0, .long 0]) (C := RX8) (T := TX8) (N := 3) hx hb hts iwX8 tyX8 tyX8_ok hown (hts (.classLink RX1 9 RX8) (by decide +kernel)) (hts (.instantiable RX8 3) (by decide +kernel)) (hts (.initialized RX8) (by decide +kernel)) hK hP hD hS hA rfl (by decide +kernel) (by first | exact Nat.le_of_ble_eq_true rfl | (show _ ≤ (6 : Nat); omega)) (by first | exact Nat.le_of_ble_eq_true rfl | (show _ ≤ (129 : Nat); omega)) dX1_init_16 (fun da H hP hD hS => ?_)
  have hP : va_P G.1 vwCl [(q, .inr (2, [.ref sa, .null, .null, .long (lz (0)), .long (lz (0)), .int (iz (0))])), (sa, .inr (9, [.ref sb, .int (iz (0)), .long (lz (0))])), (sb, zaL (G.2 0) 40 (fun _ => 0)), (da, .inr (9, [.null, .int (iz (0)), .long (lz (0))]))] H := hP
  have hD : va_D A [(q, .inr (2, [.ref sa, .null, .null, .long (lz (0)), .long (lz (0)), .int (iz (0))])), (sa, .inr (9, [.ref sb, .int (iz (0)), .long (lz (0))])), (sb, zaL (G.2 0) 40 (fun _ => 0)), (da, .inr (9, [.null, .int (iz (0)), .long (lz (0))]))] := hD
  refine lv_dup hx hb dX1_init_19 rfl ?_
  refine zc_v (wr := [(q, .inr (2, [.ref sa, .null, .null, .long (lz (0)), .long (lz (0)), .int (iz (0))])), (sa, .inr (9, [.ref sb, .int (iz (0)), .long (lz (0))])), (sb, zaL (G.2 0) 40 (fun _ => 0))]) (va_runIN (As := []) (rest := [.ref da, .ref q]) ⟨hx, hb, hml, hown, hts⟩ (c_X8_init l G da  H.size) ⟨va_cnB 0 hts gX1_init_X8_init_n11 rfl rfl rfl (hKX.2.2.2 (.methodLinkNest "AnnuityHouse$Flow" 11 ⟨"AnnuityHouse$Whole", "<init>", "()V"⟩ "AnnuityHouse") (by decide +kernel)) (hts (.initialized RX8) (by decide +kernel)) (by decide +kernel) ⟨Nat.le_of_ble_eq_true rfl, Nat.le_of_ble_eq_true rfl⟩, rfl, hts (.instanceMethod yX8_init) (by decide +kernel)⟩ (zpS hKX hP hD [3] rfl rfl) rfl rfl hl.1 rfl (lv_room (Nat.le_of_ble_eq_true rfl)) dX1_init_20 ⟨(by first | exact Nat.le_of_ble_eq_true rfl | (show _ ≤ (6 : Nat); omega)), (by first | exact Nat.le_of_ble_eq_true rfl | (show _ ≤ (129 : Nat); omega))⟩) hP hD hS hA [3] [0, 1, 2] rfl rfl rfl (by decide) (fun u_4 H locs t2 hP hD hS => ?_)
  generalize u_4 = db at hP hD t2
  have hP : va_P G.1 vwCl [(q, .inr (2, [.ref sa, .null, .null, .long (lz (0)), .long (lz (0)), .int (iz (0))])), (sa, .inr (9, [.ref sb, .int (iz (0)), .long (lz (0))])), (sb, zaL (G.2 0) 40 (fun _ => 0)), (da, .inr (9, [.ref db, .int (iz (0)), .long (lz (0))])), (db, zaL (G.2 0) 40 (fun _ => 0))] H := hP
  have hD : va_D A [(q, .inr (2, [.ref sa, .null, .null, .long (lz (0)), .long (lz (0)), .int (iz (0))])), (sa, .inr (9, [.ref sb, .int (iz (0)), .long (lz (0))])), (sb, zaL (G.2 0) 40 (fun _ => 0)), (da, .inr (9, [.ref db, .int (iz (0)), .long (lz (0))])), (db, zaL (G.2 0) 40 (fun _ => 0))] := hD
  refine va_putF (D := G.1) (ci := 2) (v := .ref da) (ty := (.object "AnnuityHouse$Whole")) (C := RX1) (T := TX1) (N := 6) hx hb hts iwX1 tyX1 tyX1_ok nmX1 hown hK hP hD hS 0 rfl rfl 1 (by decide) (hts (.fieldLink RX1 18 "AnnuityHouse$Flow" "downPower" "LAnnuityHouse$Whole;") (by decide +kernel)) (fun _ h9 => h9) rfl hnm rfl (by decide +kernel) rfl rfl (Nat.le_of_ble_eq_true rfl) dX1_init_23 (fun H locs hP hD hS => ?_)
  have hP : va_P G.1 vwCl [(q, .inr (2, [.ref sa, .ref da, .null, .long (lz (0)), .long (lz (0)), .int (iz (0))])), (sa, .inr (9, [.ref sb, .int (iz (0)), .long (lz (0))])), (sb, zaL (G.2 0) 40 (fun _ => 0)), (da, .inr (9, [.ref db, .int (iz (0)), .long (lz (0))])), (db, zaL (G.2 0) 40 (fun _ => 0))] H := hP
  have hD : va_D A [(q, .inr (2, [.ref sa, .ref da, .null, .long (lz (0)), .long (lz (0)), .int (iz (0))])), (sa, .inr (9, [.ref sb, .int (iz (0)), .long (lz (0))])), (sb, zaL (G.2 0) 40 (fun _ => 0)), (da, .inr (9, [.ref db, .int (iz (0)), .long (lz (0))])), (db, zaL (G.2 0) 40 (fun _ => 0))] := hD
  refine lv_aload_n hx hb dX1_init_26 rfl (lv_at hl 0 rfl) ?_
  refine va_new (D := G.1) (ci := 9) (fs := [.null, .int 0, .long 0]) (C := RX8) (T := TX8) (N := 3) hx hb hts iwX8 tyX8 tyX8_ok hown (hts (.classLink RX1 9 RX8) (by decide +kernel)) (hts (.instantiable RX8 3) (by decide +kernel)) (hts (.initialized RX8) (by decide +kernel)) hK hP hD hS hA rfl (by decide +kernel) (by first | exact Nat.le_of_ble_eq_true rfl | (show _ ≤ (6 : Nat); omega)) (by first | exact Nat.le_of_ble_eq_true rfl | (show _ ≤ (129 : Nat); omega)) dX1_init_27 (fun wa H hP hD hS => ?_)
  have hP : va_P G.1 vwCl [(q, .inr (2, [.ref sa, .ref da, .null, .long (lz (0)), .long (lz (0)), .int (iz (0))])), (sa, .inr (9, [.ref sb, .int (iz (0)), .long (lz (0))])), (sb, zaL (G.2 0) 40 (fun _ => 0)), (da, .inr (9, [.ref db, .int (iz (0)), .long (lz (0))])), (db, zaL (G.2 0) 40 (fun _ => 0)), (wa, .inr (9, [.null, .int (iz (0)), .long (lz (0))]))] H := hP
  have hD : va_D A [(q, .inr (2, [.ref sa, .ref da, .null, .long (lz (0)), .long (lz (0)), .int (iz (0))])), (sa, .inr (9, [.ref sb, .int (iz (0)), .long (lz (0))])), (sb, zaL (G.2 0) 40 (fun _ => 0)), (da, .inr (9, [.ref db, .int (iz (0)), .long (lz (0))])), (db, zaL (G.2 0) 40 (fun _ => 0)), (wa, .inr (9, [.null, .int (iz (0)), .long (lz (0))]))] := hD
  refine lv_dup hx hb dX1_init_30 rfl ?_
  refine zc_v (wr := [(q, .inr (2, [.ref sa, .ref da, .null, .long (lz (0)), .long (lz (0)), .int (iz (0))])), (sa, .inr (9, [.ref sb, .int (iz (0)), .long (lz (0))])), (sb, zaL (G.2 0) 40 (fun _ => 0)), (da, .inr (9, [.ref db, .int (iz (0)), .long (lz (0))])), (db, zaL (G.2 0) 40 (fun _ => 0))]) (va_runIN (As := []) (rest := [.ref wa, .ref q]) ⟨hx, hb, hml, hown, hts⟩ (c_X8_init l G wa  H.size) ⟨va_cnB 0 hts gX1_init_X8_init_n11 rfl rfl rfl (hKX.2.2.2 (.methodLinkNest "AnnuityHouse$Flow" 11 ⟨"AnnuityHouse$Whole", "<init>", "()V"⟩ "AnnuityHouse") (by decide +kernel)) (hts (.initialized RX8) (by decide +kernel)) (by decide +kernel) ⟨Nat.le_of_ble_eq_true rfl, Nat.le_of_ble_eq_true rfl⟩, rfl, hts (.instanceMethod yX8_init) (by decide +kernel)⟩ (zpS hKX hP hD [5] rfl rfl) rfl rfl hl.1 rfl (lv_room (Nat.le_of_ble_eq_true rfl)) dX1_init_31 ⟨(by first | exact Nat.le_of_ble_eq_true rfl | (show _ ≤ (6 : Nat); omega)), (by first | exact Nat.le_of_ble_eq_true rfl | (show _ ≤ (129 : Nat); omega))⟩) hP hD hS hA [5] [0, 1, 2, 3, 4] rfl rfl rfl (by decide) (fun u_7 H locs t3 hP hD hS => ?_)
  generalize u_7 = wb at hP hD t3
  have hP : va_P G.1 vwCl [(q, .inr (2, [.ref sa, .ref da, .null, .long (lz (0)), .long (lz (0)), .int (iz (0))])), (sa, .inr (9, [.ref sb, .int (iz (0)), .long (lz (0))])), (sb, zaL (G.2 0) 40 (fun _ => 0)), (da, .inr (9, [.ref db, .int (iz (0)), .long (lz (0))])), (db, zaL (G.2 0) 40 (fun _ => 0)), (wa, .inr (9, [.ref wb, .int (iz (0)), .long (lz (0))])), (wb, zaL (G.2 0) 40 (fun _ => 0))] H := hP
  have hD : va_D A [(q, .inr (2, [.ref sa, .ref da, .null, .long (lz (0)), .long (lz (0)), .int (iz (0))])), (sa, .inr (9, [.ref sb, .int (iz (0)), .long (lz (0))])), (sb, zaL (G.2 0) 40 (fun _ => 0)), (da, .inr (9, [.ref db, .int (iz (0)), .long (lz (0))])), (db, zaL (G.2 0) 40 (fun _ => 0)), (wa, .inr (9, [.ref wb, .int (iz (0)), .long (lz (0))])), (wb, zaL (G.2 0) 40 (fun _ => 0))] := hD
  refine va_putF (D := G.1) (ci := 2) (v := .ref wa) (ty := (.object "AnnuityHouse$Whole")) (C := RX1) (T := TX1) (N := 6) hx hb hts iwX1 tyX1 tyX1_ok nmX1 hown hK hP hD hS 0 rfl rfl 2 (by decide) (hts (.fieldLink RX1 21 "AnnuityHouse$Flow" "power" "LAnnuityHouse$Whole;") (by decide +kernel)) (fun _ h9 => h9) rfl hnm rfl (by decide +kernel) rfl rfl (Nat.le_of_ble_eq_true rfl) dX1_init_34 (fun H locs hP hD hS => ?_)
  have hP : va_P G.1 vwCl [(q, .inr (2, [.ref sa, .ref da, .ref wa, .long (lz (0)), .long (lz (0)), .int (iz (0))])), (sa, .inr (9, [.ref sb, .int (iz (0)), .long (lz (0))])), (sb, zaL (G.2 0) 40 (fun _ => 0)), (da, .inr (9, [.ref db, .int (iz (0)), .long (lz (0))])), (db, zaL (G.2 0) 40 (fun _ => 0)), (wa, .inr (9, [.ref wb, .int (iz (0)), .long (lz (0))])), (wb, zaL (G.2 0) 40 (fun _ => 0))] H := hP
  have hD : va_D A [(q, .inr (2, [.ref sa, .ref da, .ref wa, .long (lz (0)), .long (lz (0)), .int (iz (0))])), (sa, .inr (9, [.ref sb, .int (iz (0)), .long (lz (0))])), (sb, zaL (G.2 0) 40 (fun _ => 0)), (da, .inr (9, [.ref db, .int (iz (0)), .long (lz (0))])), (db, zaL (G.2 0) 40 (fun _ => 0)), (wa, .inr (9, [.ref wb, .int (iz (0)), .long (lz (0))])), (wb, zaL (G.2 0) 40 (fun _ => 0))] := hD
  refine lv_aload_n hx hb dX1_init_37 rfl (lv_at hl 0 rfl) ?_
  refine lv_lconst (v := lz (1)) hx hb dX1_init_38 rfl ?_
  refine va_put (D := G.1) (ci := 2) (v := .long (lz (1))) (ty := .long) (C := RX1) (T := TX1) (N := 6) hx hb hts iwX1 tyX1 tyX1_ok nmX1 hown hK hP hD hS 0 rfl rfl 3 (by decide) (hts (.fieldLink RX1 24 "AnnuityHouse$Flow" "up" "J") (by decide +kernel)) (fun _ h9 => h9) rfl (by decide +kernel) rfl rfl (Nat.le_of_ble_eq_true rfl) dX1_init_39 (fun H locs hP hD hS => ?_)
  have hP : va_P G.1 vwCl [(q, .inr (2, [.ref sa, .ref da, .ref wa, .long (lz (1)), .long (lz (0)), .int (iz (0))])), (sa, .inr (9, [.ref sb, .int (iz (0)), .long (lz (0))])), (sb, zaL (G.2 0) 40 (fun _ => 0)), (da, .inr (9, [.ref db, .int (iz (0)), .long (lz (0))])), (db, zaL (G.2 0) 40 (fun _ => 0)), (wa, .inr (9, [.ref wb, .int (iz (0)), .long (lz (0))])), (wb, zaL (G.2 0) 40 (fun _ => 0))] H := hP
  have hD : va_D A [(q, .inr (2, [.ref sa, .ref da, .ref wa, .long (lz (1)), .long (lz (0)), .int (iz (0))])), (sa, .inr (9, [.ref sb, .int (iz (0)), .long (lz (0))])), (sb, zaL (G.2 0) 40 (fun _ => 0)), (da, .inr (9, [.ref db, .int (iz (0)), .long (lz (0))])), (db, zaL (G.2 0) 40 (fun _ => 0)), (wa, .inr (9, [.ref wb, .int (iz (0)), .long (lz (0))])), (wb, zaL (G.2 0) 40 (fun _ => 0))] := hD
  refine lv_aload_n hx hb dX1_init_42 rfl (lv_at hl 0 rfl) ?_
  refine lv_lconst (v := lz (1)) hx hb dX1_init_43 rfl ?_
  refine va_put (D := G.1) (ci := 2) (v := .long (lz (1))) (ty := .long) (C := RX1) (T := TX1) (N := 6) hx hb hts iwX1 tyX1 tyX1_ok nmX1 hown hK hP hD hS 0 rfl rfl 4 (by decide) (hts (.fieldLink RX1 28 "AnnuityHouse$Flow" "down" "J") (by decide +kernel)) (fun _ h9 => h9) rfl (by decide +kernel) rfl rfl (Nat.le_of_ble_eq_true rfl) dX1_init_44 (fun H locs hP hD hS => ?_)
  have hP : va_P G.1 vwCl [(q, .inr (2, [.ref sa, .ref da, .ref wa, .long (lz (1)), .long (lz (1)), .int (iz (0))])), (sa, .inr (9, [.ref sb, .int (iz (0)), .long (lz (0))])), (sb, zaL (G.2 0) 40 (fun _ => 0)), (da, .inr (9, [.ref db, .int (iz (0)), .long (lz (0))])), (db, zaL (G.2 0) 40 (fun _ => 0)), (wa, .inr (9, [.ref wb, .int (iz (0)), .long (lz (0))])), (wb, zaL (G.2 0) 40 (fun _ => 0))] H := hP
  have hD : va_D A [(q, .inr (2, [.ref sa, .ref da, .ref wa, .long (lz (1)), .long (lz (1)), .int (iz (0))])), (sa, .inr (9, [.ref sb, .int (iz (0)), .long (lz (0))])), (sb, zaL (G.2 0) 40 (fun _ => 0)), (da, .inr (9, [.ref db, .int (iz (0)), .long (lz (0))])), (db, zaL (G.2 0) 40 (fun _ => 0)), (wa, .inr (9, [.ref wb, .int (iz (0)), .long (lz (0))])), (wb, zaL (G.2 0) 40 (fun _ => 0))] := hD
  refine lv_aload_n hx hb dX1_init_47 rfl (lv_at hl 0 rfl) ?_
  refine lv_iconst (v := iz (0)) hx hb dX1_init_48 rfl ?_
  refine va_put (D := G.1) (ci := 2) (v := .int (iz (0))) (ty := .int) (C := RX1) (T := TX1) (N := 6) hx hb hts iwX1 tyX1 tyX1_ok nmX1 hown hK hP hD hS 0 rfl rfl 5 (by decide) (hts (.fieldLink RX1 31 "AnnuityHouse$Flow" "periods" "I") (by decide +kernel)) (fun _ h9 => h9) rfl (by decide +kernel) rfl rfl (Nat.le_of_ble_eq_true rfl) dX1_init_49 (fun H locs hP hD hS => ?_)
  have hP : va_P G.1 vwCl [(q, .inr (2, [.ref sa, .ref da, .ref wa, .long (lz (1)), .long (lz (1)), .int (iz (0))])), (sa, .inr (9, [.ref sb, .int (iz (0)), .long (lz (0))])), (sb, zaL (G.2 0) 40 (fun _ => 0)), (da, .inr (9, [.ref db, .int (iz (0)), .long (lz (0))])), (db, zaL (G.2 0) 40 (fun _ => 0)), (wa, .inr (9, [.ref wb, .int (iz (0)), .long (lz (0))])), (wb, zaL (G.2 0) 40 (fun _ => 0))] H := hP
  have hD : va_D A [(q, .inr (2, [.ref sa, .ref da, .ref wa, .long (lz (1)), .long (lz (1)), .int (iz (0))])), (sa, .inr (9, [.ref sb, .int (iz (0)), .long (lz (0))])), (sb, zaL (G.2 0) 40 (fun _ => 0)), (da, .inr (9, [.ref db, .int (iz (0)), .long (lz (0))])), (db, zaL (G.2 0) 40 (fun _ => 0)), (wa, .inr (9, [.ref wb, .int (iz (0)), .long (lz (0))])), (wb, zaL (G.2 0) 40 (fun _ => 0))] := hD
  rw [hQ]
  exact zr_vret (u := (sa, sb, da, db, wa, wb)) hx hb hr hlocks hP hD hS (by first | exact Nat.le_of_ble_eq_true rfl | omega) (by first | exact Nat.le_of_ble_eq_true rfl | omega) dX1_init_52 (show True from trivial)

def rm_c_X1_commonDivisor : Room := { frames := 1, cells := 0, slots := 0, locals := 23 }
set_option maxHeartbeats 1000000 in
set_option maxRecDepth 100000 in
theorem c_X1_commonDivisor (l : Launch) (G : zG) (x : Int) (y : Int) (h1 : 1 ≤ x ∧ x ≤ 120000) (h2 : 0 ≤ y ∧ y ≤ 20000) : zM l G yX1_commonDivisor wsX1_commonDivisor rm_c_X1_commonDivisor [.long (lz (x)), .long (lz (y))] [] (fun A => zQl G (fun (z : Int) (_ : Unit) => z = (Int.gcd x y : Int)) (fun (_ : Unit) => []) A) 0 0 := by
  refine zM_of (cc := cX1_commonDivisor) (maxL := 11) (ret := (some .long)) (by decide) rfl (Nat.le_of_ble_eq_true rfl) ?_
  intro p e s m below meth c ls A Q hQ hx hb hr hts hown hlocks hml hnm hKX hP hD hA hS hl
  have hK := hKX.1
  obtain ⟨H, hH⟩ : ∃ h, h = s.heap := ⟨_, rfl⟩
  obtain ⟨locs, hlo⟩ : ∃ h : List Loc, h = [] := ⟨_, rfl⟩
  have hS : va_S A s.heap H locs := by rw [hH, hlo]; exact hS
  have hP : va_P G.1 vwCl [] H := by rw [hH]; exact hP
  have hD : va_D A [] := hD
  have hl : lv_has ls 11 [(0, .long (lz (x))), (2, .long (lz (y)))] := hl
  rw [← hH, ← hlo]
  refine lv_lload_n hx hb dX1_commonDivisor_0 rfl (lv_at hl 0 rfl) ?_
  refine lv_lstore (lv' := [(4, .long (lz (x))), (0, .long (lz (x))), (2, .long (lz (y)))]) hx hb dX1_commonDivisor_1 hl (by decide) rfl (fun ls hl => ?_)
  refine lv_lload_n hx hb dX1_commonDivisor_3 rfl (lv_at hl 2 rfl) ?_
  refine lv_lstore (lv' := [(6, .long (lz (y))), (4, .long (lz (x))), (0, .long (lz (x))), (2, .long (lz (y)))]) hx hb dX1_commonDivisor_4 hl (by decide) rfl (fun ls hl => ?_)
  refine lv_iconst (v := iz (0)) hx hb dX1_commonDivisor_6 rfl ?_
  refine lv_istore (lv' := [(8, .int (iz (0))), (6, .long (lz (y))), (4, .long (lz (x))), (0, .long (lz (x))), (2, .long (lz (y)))]) hx hb dX1_commonDivisor_7 hl (by decide) rfl (fun ls hl => ?_)
  have hl_9 : ∀ (zn_9 : Nat) (tn : Int) (g : Int) (r : Int) (H : Heap) (locs : List Loc) (ls : Array Slot), (r).toNat < zn_9 → (1 ≤ g ∧ g ≤ 120000 ∧ 0 ≤ r ∧ 0 ≤ tn ∧ tn + r ≤ 20000) → (Int.gcd g r = Int.gcd x y) → va_P G.1 vwCl [] H → va_D A [] → va_S A s.heap H locs → lv_has ls 11 [(8, .int (iz (tn))), (6, .long (lz (r))), (4, .long (lz (g))), (0, .long (lz (x))), (2, .long (lz (y)))] → W p l e rm_c_X1_commonDivisor s m ([.long (lz (x)), .long (lz (y))] : List Value).toArray below meth c H locs 0 0 Q (F0 m 9 ls []) := by
    intro zn_9
    induction zn_9 with
    | zero => intro tn g r H locs ls hm; exact absurd hm (Nat.not_lt_zero _)
    | succ zn_9 ih_9 =>
      intro tn g r H locs ls hm_9 k1 k2 hP hD hS hl
      refine lv_iload hx hb dX1_commonDivisor_9 (lv_at hl 0 rfl) ?_
      refine zr_ldc (z := 1000000) hx hb hown (hts (.constant RX1 60 (1000000)) (by decide +kernel)) rfl dX1_commonDivisor_11 ?_
      refine zr_icmp_ge (x := tn) (y := 1000000) (tgt := 44) hx hb (⟨by omega, by omega⟩) (⟨by omega, by omega⟩) dX1_commonDivisor_13 (by decide) (fun h_1 => ?_) (fun h_1 => ?_)
      · exact absurd h_1 (by omega)
      ·
        refine lv_lload hx hb dX1_commonDivisor_16 (lv_at hl 1 rfl) ?_
        refine lv_lconst (v := lz (0)) hx hb dX1_commonDivisor_18 rfl ?_
        refine zr_lcmp_eq (x := r) (y := 0) (tgt := 44) hx hb (⟨by omega, by omega⟩) (⟨by omega, by omega⟩) dX1_commonDivisor_19 dX1_commonDivisor_20 (by decide) (fun h_2 => ?_) (fun h_2 => ?_)
        ·
          refine lv_lconst (v := lz (1)) hx hb dX1_commonDivisor_44 rfl ?_
          refine lv_lload hx hb dX1_commonDivisor_45 (lv_at hl 2 rfl) ?_
          refine zr_mmaxL (x := 1) (y := g) hx hb (hml.trans hl.1.symm) hown (hts (.methodLink RX1 61 Lib.MathLoose.max_long.x) (by decide +kernel)) (hts (.static Lib.MathLoose.max_long.x) (by decide +kernel)) (hts (.initialized "java/lang/Math") (by decide +kernel)) (hts (.code Lib.MathLoose.max_long.x Lib.MathLoose.max_long.code 4 (some .long)) (by decide +kernel)) (Nat.le_of_ble_eq_true rfl) (Nat.le_of_ble_eq_true rfl) (by first | exact Nat.le_of_ble_eq_true rfl | (show _ ≤ (0 : Nat); omega)) (by first | exact Nat.le_of_ble_eq_true rfl | (show _ ≤ (0 : Nat); omega)) (⟨by omega, by omega⟩) (⟨by omega, by omega⟩) dX1_commonDivisor_47 ?_
          refine zr_eql (y := g) (Int.max_eq_right k1.1) ?_
          rw [hQ]
          exact zr_lret (z := g) (u := ()) hx hb hr hlocks hP hD hS (by first | exact Nat.le_of_ble_eq_true rfl | omega) (by first | exact Nat.le_of_ble_eq_true rfl | omega) dX1_commonDivisor_50 (show g = (Int.gcd x y : Int) from by rw [← k2, show r = 0 by omega, Int.gcd_zero_right]; omega)
        ·
          refine lv_lload hx hb dX1_commonDivisor_23 (lv_at hl 2 rfl) ?_
          refine lv_lload hx hb dX1_commonDivisor_25 (lv_at hl 1 rfl) ?_
          refine zr_lrem hx hb (x := g) (y := r) ⟨by omega, by omega⟩ ⟨by omega, by omega⟩ (by omega) (by omega) dX1_commonDivisor_27 ?_
          refine zr_namel (fun rr err => ?_)
          have hrr : 0 ≤ rr ∧ rr < r := by rw [err]; exact ⟨Int.emod_nonneg _ (by omega), Int.emod_lt_of_pos _ (by omega)⟩
          refine lv_lstore (lv' := [(9, .long (lz (rr))), (8, .int (iz (tn))), (6, .long (lz (r))), (4, .long (lz (g))), (0, .long (lz (x))), (2, .long (lz (y)))]) hx hb dX1_commonDivisor_28 hl (by decide) rfl (fun ls hl => ?_)
          refine lv_lload hx hb dX1_commonDivisor_30 (lv_at hl 2 rfl) ?_
          refine lv_lstore (lv' := [(4, .long (lz (r))), (9, .long (lz (rr))), (8, .int (iz (tn))), (6, .long (lz (r))), (0, .long (lz (x))), (2, .long (lz (y)))]) hx hb dX1_commonDivisor_32 hl (by decide) rfl (fun ls hl => ?_)
          refine lv_lload hx hb dX1_commonDivisor_34 (lv_at hl 1 rfl) ?_
          refine lv_lstore (lv' := [(6, .long (lz (rr))), (4, .long (lz (r))), (9, .long (lz (rr))), (8, .int (iz (tn))), (0, .long (lz (x))), (2, .long (lz (y)))]) hx hb dX1_commonDivisor_36 hl (by decide) rfl (fun ls hl => ?_)
          refine lv_iinc (v := iz (tn + 1)) (lv' := [(8, .int (iz (tn + 1))), (6, .long (lz (rr))), (4, .long (lz (r))), (9, .long (lz (rr))), (0, .long (lz (x))), (2, .long (lz (y)))]) hx hb dX1_commonDivisor_38 hl (k := 3) rfl (by rw [show Int32.ofInt (1) = iz (1) from rfl, iz_add]) (by decide) rfl (fun ls hl => ?_)
          refine lv_goto (tgt := 9) hx hb dX1_commonDivisor_41 (by decide) ?_
          exact ih_9 (tn + 1) r rr _ _ _ (by omega) (by omega) (by rw [err, zgcd_s (by omega) (by omega)]; exact k2) (hP) (hD) hS (lv_sub hl [0, 1, 2, 4, 5] rfl)
  exact hl_9 ((y : Int).toNat + 1) 0 x y _ _ _ (Nat.lt_succ_self _) (by omega) (rfl) (hP) (hD) hS (hl)

def rm_c_X1_start : Room := { frames := 2, cells := 0, slots := 0, locals := 48 }
theorem iw_X1_start_X1 : ∀ w ∈ wsX10, w ∈ wsX1_start := by decide +kernel
set_option maxHeartbeats 1000000 in
set_option maxRecDepth 100000 in
theorem c_X1_start (l : Launch) (G : zG) (q : Nat) (wa : Nat) (sa : Nat) (sb : Nat) (sf : Int → Int) (sn : Int) (st : Int) (da : Nat) (db : Nat) (df : Int → Int) (dn : Int) (dt : Int) (u0 : Int) (d0 : Int) (p0 : Int) (ru : Int) (rd : Int) (am : Int) (h1 : -9223372036854775808 ≤ am ∧ am < 9223372036854775808) : zM l G yX1_start wsX1_start rm_c_X1_start [.ref q, .long (lz (ru)), .long (lz (rd)), .long (lz (am))] [(q, .inr (2, [.ref sa, .ref da, .ref wa, .long (lz (u0)), .long (lz (d0)), .int (iz (p0))])), (sa, .inr (9, [.ref sb, .int (iz (sn)), .long (lz (st))])), (sb, zaL (G.2 0) 40 (sf)), (da, .inr (9, [.ref db, .int (iz (dn)), .long (lz (dt))])), (db, zaL (G.2 0) 40 (df))] (fun A => zQv G (fun (u : (Int → Int) × Int × Int × (Int → Int) × Int × Int) => zwv u.1 u.2.1 u.2.2.1 am ∧ zwv u.2.2.2.1 u.2.2.2.2.1 u.2.2.2.2.2 1) (fun (u : (Int → Int) × Int × Int × (Int → Int) × Int × Int) => [(q, .inr (2, [.ref sa, .ref da, .ref wa, .long (lz (ru)), .long (lz (rd)), .int (iz (0))])), (sa, .inr (9, [.ref sb, .int (iz (u.2.1)), .long (lz (u.2.2.1))])), (sb, zaL (G.2 0) 40 (u.1)), (da, .inr (9, [.ref db, .int (iz (u.2.2.2.2.1)), .long (lz (u.2.2.2.2.2))])), (db, zaL (G.2 0) 40 (u.2.2.2.1))]) A) 0 0 := by
  refine zM_of (cc := cX1_start) (maxL := 7) (ret := none) (by decide) rfl (Nat.le_of_ble_eq_true rfl) ?_
  intro p e s m below meth c ls A Q hQ hx hb hr hts hown hlocks hml hnm hKX hP hD hA hS hl
  have hK := hKX.1
  have iwX1 := iw_X1_start_X1
  obtain ⟨H, hH⟩ : ∃ h, h = s.heap := ⟨_, rfl⟩
  obtain ⟨locs, hlo⟩ : ∃ h : List Loc, h = [] := ⟨_, rfl⟩
  have hS : va_S A s.heap H locs := by rw [hH, hlo]; exact hS
  have hP : va_P G.1 vwCl [(q, .inr (2, [.ref sa, .ref da, .ref wa, .long (lz (u0)), .long (lz (d0)), .int (iz (p0))])), (sa, .inr (9, [.ref sb, .int (iz (sn)), .long (lz (st))])), (sb, zaL (G.2 0) 40 (sf)), (da, .inr (9, [.ref db, .int (iz (dn)), .long (lz (dt))])), (db, zaL (G.2 0) 40 (df))] H := by rw [hH]; exact hP
  have hD : va_D A [(q, .inr (2, [.ref sa, .ref da, .ref wa, .long (lz (u0)), .long (lz (d0)), .int (iz (p0))])), (sa, .inr (9, [.ref sb, .int (iz (sn)), .long (lz (st))])), (sb, zaL (G.2 0) 40 (sf)), (da, .inr (9, [.ref db, .int (iz (dn)), .long (lz (dt))])), (db, zaL (G.2 0) 40 (df))] := hD
  have hl : lv_has ls 7 [(0, .ref q), (1, .long (lz (ru))), (3, .long (lz (rd))), (5, .long (lz (am)))] := hl
  rw [← hH, ← hlo]
  refine lv_aload_n hx hb dX1_start_0 rfl (lv_at hl 0 rfl) ?_
  refine lv_lload_n hx hb dX1_start_1 rfl (lv_at hl 1 rfl) ?_
  refine va_put (D := G.1) (ci := 2) (v := .long (lz (ru))) (ty := .long) (C := RX1) (T := TX1) (N := 6) hx hb hts iwX1 tyX1 tyX1_ok nmX1 hown hK hP hD hS 0 rfl rfl 3 (by decide) (hts (.fieldLink RX1 24 "AnnuityHouse$Flow" "up" "J") (by decide +kernel)) (fun _ h9 => h9) rfl (by decide +kernel) rfl rfl (Nat.le_of_ble_eq_true rfl) dX1_start_2 (fun H locs hP hD hS => ?_)
  have hP : va_P G.1 vwCl [(q, .inr (2, [.ref sa, .ref da, .ref wa, .long (lz (ru)), .long (lz (d0)), .int (iz (p0))])), (sa, .inr (9, [.ref sb, .int (iz (sn)), .long (lz (st))])), (sb, zaL (G.2 0) 40 (sf)), (da, .inr (9, [.ref db, .int (iz (dn)), .long (lz (dt))])), (db, zaL (G.2 0) 40 (df))] H := hP
  have hD : va_D A [(q, .inr (2, [.ref sa, .ref da, .ref wa, .long (lz (ru)), .long (lz (d0)), .int (iz (p0))])), (sa, .inr (9, [.ref sb, .int (iz (sn)), .long (lz (st))])), (sb, zaL (G.2 0) 40 (sf)), (da, .inr (9, [.ref db, .int (iz (dn)), .long (lz (dt))])), (db, zaL (G.2 0) 40 (df))] := hD
  refine lv_aload_n hx hb dX1_start_5 rfl (lv_at hl 0 rfl) ?_
  refine lv_lload_n hx hb dX1_start_6 rfl (lv_at hl 2 rfl) ?_
  refine va_put (D := G.1) (ci := 2) (v := .long (lz (rd))) (ty := .long) (C := RX1) (T := TX1) (N := 6) hx hb hts iwX1 tyX1 tyX1_ok nmX1 hown hK hP hD hS 0 rfl rfl 4 (by decide) (hts (.fieldLink RX1 28 "AnnuityHouse$Flow" "down" "J") (by decide +kernel)) (fun _ h9 => h9) rfl (by decide +kernel) rfl rfl (Nat.le_of_ble_eq_true rfl) dX1_start_7 (fun H locs hP hD hS => ?_)
  have hP : va_P G.1 vwCl [(q, .inr (2, [.ref sa, .ref da, .ref wa, .long (lz (ru)), .long (lz (rd)), .int (iz (p0))])), (sa, .inr (9, [.ref sb, .int (iz (sn)), .long (lz (st))])), (sb, zaL (G.2 0) 40 (sf)), (da, .inr (9, [.ref db, .int (iz (dn)), .long (lz (dt))])), (db, zaL (G.2 0) 40 (df))] H := hP
  have hD : va_D A [(q, .inr (2, [.ref sa, .ref da, .ref wa, .long (lz (ru)), .long (lz (rd)), .int (iz (p0))])), (sa, .inr (9, [.ref sb, .int (iz (sn)), .long (lz (st))])), (sb, zaL (G.2 0) 40 (sf)), (da, .inr (9, [.ref db, .int (iz (dn)), .long (lz (dt))])), (db, zaL (G.2 0) 40 (df))] := hD
  refine lv_aload_n hx hb dX1_start_10 rfl (lv_at hl 0 rfl) ?_
  refine lv_iconst (v := iz (0)) hx hb dX1_start_11 rfl ?_
  refine va_put (D := G.1) (ci := 2) (v := .int (iz (0))) (ty := .int) (C := RX1) (T := TX1) (N := 6) hx hb hts iwX1 tyX1 tyX1_ok nmX1 hown hK hP hD hS 0 rfl rfl 5 (by decide) (hts (.fieldLink RX1 31 "AnnuityHouse$Flow" "periods" "I") (by decide +kernel)) (fun _ h9 => h9) rfl (by decide +kernel) rfl rfl (Nat.le_of_ble_eq_true rfl) dX1_start_12 (fun H locs hP hD hS => ?_)
  have hP : va_P G.1 vwCl [(q, .inr (2, [.ref sa, .ref da, .ref wa, .long (lz (ru)), .long (lz (rd)), .int (iz (0))])), (sa, .inr (9, [.ref sb, .int (iz (sn)), .long (lz (st))])), (sb, zaL (G.2 0) 40 (sf)), (da, .inr (9, [.ref db, .int (iz (dn)), .long (lz (dt))])), (db, zaL (G.2 0) 40 (df))] H := hP
  have hD : va_D A [(q, .inr (2, [.ref sa, .ref da, .ref wa, .long (lz (ru)), .long (lz (rd)), .int (iz (0))])), (sa, .inr (9, [.ref sb, .int (iz (sn)), .long (lz (st))])), (sb, zaL (G.2 0) 40 (sf)), (da, .inr (9, [.ref db, .int (iz (dn)), .long (lz (dt))])), (db, zaL (G.2 0) 40 (df))] := hD
  refine lv_aload_n hx hb dX1_start_15 rfl (lv_at hl 0 rfl) ?_
  refine va_get (D := G.1) (ci := 2) (v := .ref sa) (C := RX1) (T := TX1) (N := 6) hx hb hts iwX1 hown hK hP 0 rfl rfl 0 (by decide) (hts (.fieldLink RX1 12 "AnnuityHouse$Flow" "sum" "LAnnuityHouse$Whole;") (by decide +kernel)) (fun _ h9 => h9) rfl dX1_start_16 ?_
  refine lv_lload hx hb dX1_start_19 (lv_at hl 3 rfl) ?_
  refine zc_v (wr := [(q, .inr (2, [.ref sa, .ref da, .ref wa, .long (lz (ru)), .long (lz (rd)), .int (iz (0))])), (da, .inr (9, [.ref db, .int (iz (dn)), .long (lz (dt))])), (db, zaL (G.2 0) 40 (df))]) (va_runV (As := [.long (lz (am))]) (rest := []) ⟨hx, hb, hml, hown, hts⟩ (c_X8_set l G sa sb sf sn st am (by omega) H.size) (cwV 1 hts gX1_start_X8_set rfl rfl rfl (by decide +kernel) ⟨Nat.le_of_ble_eq_true rfl, Nat.le_of_ble_eq_true rfl⟩) (zpV hKX hP hD [1, 2] rfl rfl 1 9 rfl rfl) rfl rfl hl.1 rfl (lv_room (Nat.le_of_ble_eq_true rfl)) dX1_start_21 ⟨(by first | exact Nat.le_of_ble_eq_true rfl | (show _ ≤ (0 : Nat); omega)), (by first | exact Nat.le_of_ble_eq_true rfl | (show _ ≤ (0 : Nat); omega))⟩) hP hD hS hA [1, 2] [0, 3, 4] rfl rfl rfl (by decide) (fun u_1 H locs q1 hP hD hS => ?_)
  obtain ⟨sf2, sn2, st2⟩ := u_1
  have hP : va_P G.1 vwCl [(q, .inr (2, [.ref sa, .ref da, .ref wa, .long (lz (ru)), .long (lz (rd)), .int (iz (0))])), (da, .inr (9, [.ref db, .int (iz (dn)), .long (lz (dt))])), (db, zaL (G.2 0) 40 (df)), (sa, .inr (9, [.ref sb, .int (iz (sn2)), .long (lz (st2))])), (sb, zaL (G.2 0) 40 (sf2))] H := hP
  have hD : va_D A [(q, .inr (2, [.ref sa, .ref da, .ref wa, .long (lz (ru)), .long (lz (rd)), .int (iz (0))])), (da, .inr (9, [.ref db, .int (iz (dn)), .long (lz (dt))])), (db, zaL (G.2 0) 40 (df)), (sa, .inr (9, [.ref sb, .int (iz (sn2)), .long (lz (st2))])), (sb, zaL (G.2 0) 40 (sf2))] := hD
  have q1 : zwv sf2 sn2 st2 am := q1
  refine lv_aload_n hx hb dX1_start_24 rfl (lv_at hl 0 rfl) ?_
  refine va_get (D := G.1) (ci := 2) (v := .ref da) (C := RX1) (T := TX1) (N := 6) hx hb hts iwX1 hown hK hP 0 rfl rfl 1 (by decide) (hts (.fieldLink RX1 18 "AnnuityHouse$Flow" "downPower" "LAnnuityHouse$Whole;") (by decide +kernel)) (fun _ h9 => h9) rfl dX1_start_25 ?_
  refine lv_lconst (v := lz (1)) hx hb dX1_start_28 rfl ?_
  refine zc_v (wr := [(q, .inr (2, [.ref sa, .ref da, .ref wa, .long (lz (ru)), .long (lz (rd)), .int (iz (0))])), (sa, .inr (9, [.ref sb, .int (iz (sn2)), .long (lz (st2))])), (sb, zaL (G.2 0) 40 (sf2))]) (va_runV (As := [.long (lz (1))]) (rest := []) ⟨hx, hb, hml, hown, hts⟩ (c_X8_set l G da db df dn dt 1 (by omega) H.size) (cwV 1 hts gX1_start_X8_set rfl rfl rfl (by decide +kernel) ⟨Nat.le_of_ble_eq_true rfl, Nat.le_of_ble_eq_true rfl⟩) (zpV hKX hP hD [1, 2] rfl rfl 1 9 rfl rfl) rfl rfl hl.1 rfl (lv_room (Nat.le_of_ble_eq_true rfl)) dX1_start_29 ⟨(by first | exact Nat.le_of_ble_eq_true rfl | (show _ ≤ (0 : Nat); omega)), (by first | exact Nat.le_of_ble_eq_true rfl | (show _ ≤ (0 : Nat); omega))⟩) hP hD hS hA [1, 2] [0, 3, 4] rfl rfl rfl (by decide) (fun u_4 H locs q2 hP hD hS => ?_)
  obtain ⟨df2, dn2, dt2⟩ := u_4
  have hP : va_P G.1 vwCl [(q, .inr (2, [.ref sa, .ref da, .ref wa, .long (lz (ru)), .long (lz (rd)), .int (iz (0))])), (sa, .inr (9, [.ref sb, .int (iz (sn2)), .long (lz (st2))])), (sb, zaL (G.2 0) 40 (sf2)), (da, .inr (9, [.ref db, .int (iz (dn2)), .long (lz (dt2))])), (db, zaL (G.2 0) 40 (df2))] H := hP
  have hD : va_D A [(q, .inr (2, [.ref sa, .ref da, .ref wa, .long (lz (ru)), .long (lz (rd)), .int (iz (0))])), (sa, .inr (9, [.ref sb, .int (iz (sn2)), .long (lz (st2))])), (sb, zaL (G.2 0) 40 (sf2)), (da, .inr (9, [.ref db, .int (iz (dn2)), .long (lz (dt2))])), (db, zaL (G.2 0) 40 (df2))] := hD
  have q2 : zwv df2 dn2 dt2 (1 : Int) := q2
  rw [hQ]
  exact zr_vret (u := (sf2, sn2, st2, df2, dn2, dt2)) hx hb hr hlocks hP hD hS (by first | exact Nat.le_of_ble_eq_true rfl | omega) (by first | exact Nat.le_of_ble_eq_true rfl | omega) dX1_start_32 (show zwv sf2 sn2 st2 am ∧ zwv df2 dn2 dt2 1 from ⟨q1, q2⟩)

def rm_c_X1_begin : Room := { frames := 3, cells := 0, slots := 0, locals := 74 }
set_option maxHeartbeats 1000000 in
set_option maxRecDepth 100000 in
theorem c_X1_begin (l : Launch) (G : zG) (q : Nat) (wa : Nat) (sa : Nat) (sb : Nat) (sf : Int → Int) (sn : Int) (st : Int) (da : Nat) (db : Nat) (df : Int → Int) (dn : Int) (dt : Int) (u0 : Int) (d0 : Int) (p0 : Int) (po : Int) (am : Int) (h1 : -9223372036854775808 ≤ am ∧ am < 9223372036854775808) (h2 : 0 ≤ po ∧ po ≤ 20000) : zM l G yX1_begin wsX1_begin rm_c_X1_begin [.ref q, .int (iz (po)), .long (lz (am))] [(q, .inr (2, [.ref sa, .ref da, .ref wa, .long (lz (u0)), .long (lz (d0)), .int (iz (p0))])), (sa, .inr (9, [.ref sb, .int (iz (sn)), .long (lz (st))])), (sb, zaL (G.2 0) 40 (sf)), (da, .inr (9, [.ref db, .int (iz (dn)), .long (lz (dt))])), (db, zaL (G.2 0) 40 (df))] (fun A => zQv G (fun (u : (Int → Int) × Int × Int × (Int → Int) × Int × Int) => zwv u.1 u.2.1 u.2.2.1 am ∧ zwv u.2.2.2.1 u.2.2.2.2.1 u.2.2.2.2.2 1) (fun (u : (Int → Int) × Int × Int × (Int → Int) × Int × Int) => [(q, .inr (2, [.ref sa, .ref da, .ref wa, .long (lz (zqu po)), .long (lz (zqd po)), .int (iz (0))])), (sa, .inr (9, [.ref sb, .int (iz (u.2.1)), .long (lz (u.2.2.1))])), (sb, zaL (G.2 0) 40 (u.1)), (da, .inr (9, [.ref db, .int (iz (u.2.2.2.2.1)), .long (lz (u.2.2.2.2.2))])), (db, zaL (G.2 0) 40 (u.2.2.2.1))]) A) 0 0 := by
  refine zM_of (cc := cX1_begin) (maxL := 6) (ret := none) (by decide) rfl (Nat.le_of_ble_eq_true rfl) ?_
  intro p e s m below meth c ls A Q hQ hx hb hr hts hown hlocks hml hnm hKX hP hD hA hS hl
  have hK := hKX.1
  obtain ⟨H, hH⟩ : ∃ h, h = s.heap := ⟨_, rfl⟩
  obtain ⟨locs, hlo⟩ : ∃ h : List Loc, h = [] := ⟨_, rfl⟩
  have hS : va_S A s.heap H locs := by rw [hH, hlo]; exact hS
  have hP : va_P G.1 vwCl [(q, .inr (2, [.ref sa, .ref da, .ref wa, .long (lz (u0)), .long (lz (d0)), .int (iz (p0))])), (sa, .inr (9, [.ref sb, .int (iz (sn)), .long (lz (st))])), (sb, zaL (G.2 0) 40 (sf)), (da, .inr (9, [.ref db, .int (iz (dn)), .long (lz (dt))])), (db, zaL (G.2 0) 40 (df))] H := by rw [hH]; exact hP
  have hD : va_D A [(q, .inr (2, [.ref sa, .ref da, .ref wa, .long (lz (u0)), .long (lz (d0)), .int (iz (p0))])), (sa, .inr (9, [.ref sb, .int (iz (sn)), .long (lz (st))])), (sb, zaL (G.2 0) 40 (sf)), (da, .inr (9, [.ref db, .int (iz (dn)), .long (lz (dt))])), (db, zaL (G.2 0) 40 (df))] := hD
  have hl : lv_has ls 6 [(0, .ref q), (1, .int (iz (po))), (2, .long (lz (am)))] := hl
  rw [← hH, ← hlo]
  refine zr_ldc2 (z := 100000) hx hb hown (hts (.constantLong RX1 35 (100000)) (by decide +kernel)) rfl dX1_begin_0 ?_
  refine lv_iload_n hx hb dX1_begin_3 rfl (lv_at hl 1 rfl) ?_
  refine zr_i2l hx hb (x := po) (⟨by omega, by omega⟩) dX1_begin_4 ?_
  refine zc_l (wr := [(q, .inr (2, [.ref sa, .ref da, .ref wa, .long (lz (u0)), .long (lz (d0)), .int (iz (p0))])), (sa, .inr (9, [.ref sb, .int (iz (sn)), .long (lz (st))])), (sb, zaL (G.2 0) 40 (sf)), (da, .inr (9, [.ref db, .int (iz (dn)), .long (lz (dt))])), (db, zaL (G.2 0) 40 (df))]) (va_runS (As := [.long (lz (100000)), .long (lz (po))]) (rest := []) ⟨hx, hb, hml, hown, hts⟩ (c_X1_commonDivisor l G 100000 po (by omega) (by omega) H.size) (va_cwS 2 hts gX1_begin_X1_commonDivisor rfl rfl rfl (by decide +kernel) ⟨Nat.le_of_ble_eq_true rfl, Nat.le_of_ble_eq_true rfl⟩) (zpS hKX hP hD [] rfl rfl) rfl rfl hl.1 rfl (lv_room (Nat.le_of_ble_eq_true rfl)) dX1_begin_5 ⟨(by first | exact Nat.le_of_ble_eq_true rfl | (show _ ≤ (0 : Nat); omega)), (by first | exact Nat.le_of_ble_eq_true rfl | (show _ ≤ (0 : Nat); omega))⟩) hP hD hS hA [] [0, 1, 2, 3, 4] rfl rfl rfl (by decide) (fun cd u_1 H locs hcd hP hD hS => ?_)
  have hP : va_P G.1 vwCl [(q, .inr (2, [.ref sa, .ref da, .ref wa, .long (lz (u0)), .long (lz (d0)), .int (iz (p0))])), (sa, .inr (9, [.ref sb, .int (iz (sn)), .long (lz (st))])), (sb, zaL (G.2 0) 40 (sf)), (da, .inr (9, [.ref db, .int (iz (dn)), .long (lz (dt))])), (db, zaL (G.2 0) 40 (df))] H := hP
  have hD : va_D A [(q, .inr (2, [.ref sa, .ref da, .ref wa, .long (lz (u0)), .long (lz (d0)), .int (iz (p0))])), (sa, .inr (9, [.ref sb, .int (iz (sn)), .long (lz (st))])), (sb, zaL (G.2 0) 40 (sf)), (da, .inr (9, [.ref db, .int (iz (dn)), .long (lz (dt))])), (db, zaL (G.2 0) 40 (df))] := hD
  have hcd : cd = (Int.gcd (100000 : Int) po : Int) := hcd
  have hcp : 1 ≤ cd := by rw [hcd]; exact zgc_pos po
  have hcl : cd ≤ 100000 := by rw [hcd]; exact Int.le_of_dvd (by decide) (zgc_d po).1
  refine lv_lstore (lv' := [(4, .long (lz (cd))), (0, .ref q), (1, .int (iz (po))), (2, .long (lz (am)))]) hx hb dX1_begin_8 hl (by decide) rfl (fun ls hl => ?_)
  refine lv_aload_n hx hb dX1_begin_10 rfl (lv_at hl 1 rfl) ?_
  refine zr_ldc2 (z := 100000) hx hb hown (hts (.constantLong RX1 35 (100000)) (by decide +kernel)) rfl dX1_begin_11 ?_
  refine lv_iload_n hx hb dX1_begin_14 rfl (lv_at hl 2 rfl) ?_
  refine zr_i2l hx hb (x := po) (⟨by omega, by omega⟩) dX1_begin_15 ?_
  refine zr_ladd hx hb dX1_begin_16 ?_
  refine lv_lload hx hb dX1_begin_17 (lv_at hl 0 rfl) ?_
  refine zr_ldiv hx hb (x := 100000 + po) (y := cd) ⟨by omega, by omega⟩ ⟨by omega, by omega⟩ (by omega) (by omega) dX1_begin_19 ?_
  refine zr_eql (y := zqu po) (by rw [hcd]; rfl) ?_
  refine zr_ldc2 (z := 100000) hx hb hown (hts (.constantLong RX1 35 (100000)) (by decide +kernel)) rfl dX1_begin_20 ?_
  refine lv_lload hx hb dX1_begin_23 (lv_at hl 0 rfl) ?_
  refine zr_ldiv hx hb (x := 100000) (y := cd) ⟨by omega, by omega⟩ ⟨by omega, by omega⟩ (by omega) (by omega) dX1_begin_25 ?_
  refine zr_eql (y := zqd po) (by rw [hcd]; rfl) ?_
  refine lv_lload_n hx hb dX1_begin_26 rfl (lv_at hl 3 rfl) ?_
  refine zc_v (wr := []) (va_runV (As := [.long (lz (zqu po)), .long (lz (zqd po)), .long (lz (am))]) (rest := []) ⟨hx, hb, hml, hown, hts⟩ (c_X1_start l G q wa sa sb sf sn st da db df dn dt u0 d0 p0 (zqu po) (zqd po) am (by omega) H.size) (cwV 3 hts gX1_begin_X1_start rfl rfl rfl (by decide +kernel) ⟨Nat.le_of_ble_eq_true rfl, Nat.le_of_ble_eq_true rfl⟩) (zpV hKX hP hD [0, 1, 2, 3, 4] rfl rfl 0 2 rfl rfl) rfl rfl hl.1 rfl (lv_room (Nat.le_of_ble_eq_true rfl)) dX1_begin_27 ⟨(by first | exact Nat.le_of_ble_eq_true rfl | (show _ ≤ (0 : Nat); omega)), (by first | exact Nat.le_of_ble_eq_true rfl | (show _ ≤ (0 : Nat); omega))⟩) hP hD hS hA [0, 1, 2, 3, 4] [] rfl rfl rfl (by decide) (fun u_3 H locs q1 hP hD hS => ?_)
  obtain ⟨sf2, sn2, st2, df2, dn2, dt2⟩ := u_3
  have hP : va_P G.1 vwCl [(q, .inr (2, [.ref sa, .ref da, .ref wa, .long (lz ((zqu po))), .long (lz ((zqd po))), .int (iz (0))])), (sa, .inr (9, [.ref sb, .int (iz (sn2)), .long (lz (st2))])), (sb, zaL (G.2 0) 40 (sf2)), (da, .inr (9, [.ref db, .int (iz (dn2)), .long (lz (dt2))])), (db, zaL (G.2 0) 40 (df2))] H := hP
  have hD : va_D A [(q, .inr (2, [.ref sa, .ref da, .ref wa, .long (lz ((zqu po))), .long (lz ((zqd po))), .int (iz (0))])), (sa, .inr (9, [.ref sb, .int (iz (sn2)), .long (lz (st2))])), (sb, zaL (G.2 0) 40 (sf2)), (da, .inr (9, [.ref db, .int (iz (dn2)), .long (lz (dt2))])), (db, zaL (G.2 0) 40 (df2))] := hD
  have q1 : zwv sf2 sn2 st2 am ∧ zwv df2 dn2 dt2 1 := q1
  rw [hQ]
  exact zr_vret (u := (sf2, sn2, st2, df2, dn2, dt2)) hx hb hr hlocks hP hD hS (by first | exact Nat.le_of_ble_eq_true rfl | omega) (by first | exact Nat.le_of_ble_eq_true rfl | omega) dX1_begin_30 (show zwv sf2 sn2 st2 am ∧ zwv df2 dn2 dt2 1 from q1)

def rm_c_X1_beginBackwards : Room := { frames := 3, cells := 0, slots := 0, locals := 74 }
set_option maxHeartbeats 1000000 in
set_option maxRecDepth 100000 in
theorem c_X1_beginBackwards (l : Launch) (G : zG) (q : Nat) (wa : Nat) (sa : Nat) (sb : Nat) (sf : Int → Int) (sn : Int) (st : Int) (da : Nat) (db : Nat) (df : Int → Int) (dn : Int) (dt : Int) (u0 : Int) (d0 : Int) (p0 : Int) (po : Int) (am : Int) (h1 : -9223372036854775808 ≤ am ∧ am < 9223372036854775808) (h2 : 0 ≤ po ∧ po ≤ 20000) : zM l G yX1_beginBackwards wsX1_beginBackwards rm_c_X1_beginBackwards [.ref q, .int (iz (po)), .long (lz (am))] [(q, .inr (2, [.ref sa, .ref da, .ref wa, .long (lz (u0)), .long (lz (d0)), .int (iz (p0))])), (sa, .inr (9, [.ref sb, .int (iz (sn)), .long (lz (st))])), (sb, zaL (G.2 0) 40 (sf)), (da, .inr (9, [.ref db, .int (iz (dn)), .long (lz (dt))])), (db, zaL (G.2 0) 40 (df))] (fun A => zQv G (fun (u : (Int → Int) × Int × Int × (Int → Int) × Int × Int) => zwv u.1 u.2.1 u.2.2.1 am ∧ zwv u.2.2.2.1 u.2.2.2.2.1 u.2.2.2.2.2 1) (fun (u : (Int → Int) × Int × Int × (Int → Int) × Int × Int) => [(q, .inr (2, [.ref sa, .ref da, .ref wa, .long (lz (zqd po)), .long (lz (zqu po)), .int (iz (0))])), (sa, .inr (9, [.ref sb, .int (iz (u.2.1)), .long (lz (u.2.2.1))])), (sb, zaL (G.2 0) 40 (u.1)), (da, .inr (9, [.ref db, .int (iz (u.2.2.2.2.1)), .long (lz (u.2.2.2.2.2))])), (db, zaL (G.2 0) 40 (u.2.2.2.1))]) A) 0 0 := by
  refine zM_of (cc := cX1_beginBackwards) (maxL := 6) (ret := none) (by decide) rfl (Nat.le_of_ble_eq_true rfl) ?_
  intro p e s m below meth c ls A Q hQ hx hb hr hts hown hlocks hml hnm hKX hP hD hA hS hl
  have hK := hKX.1
  obtain ⟨H, hH⟩ : ∃ h, h = s.heap := ⟨_, rfl⟩
  obtain ⟨locs, hlo⟩ : ∃ h : List Loc, h = [] := ⟨_, rfl⟩
  have hS : va_S A s.heap H locs := by rw [hH, hlo]; exact hS
  have hP : va_P G.1 vwCl [(q, .inr (2, [.ref sa, .ref da, .ref wa, .long (lz (u0)), .long (lz (d0)), .int (iz (p0))])), (sa, .inr (9, [.ref sb, .int (iz (sn)), .long (lz (st))])), (sb, zaL (G.2 0) 40 (sf)), (da, .inr (9, [.ref db, .int (iz (dn)), .long (lz (dt))])), (db, zaL (G.2 0) 40 (df))] H := by rw [hH]; exact hP
  have hD : va_D A [(q, .inr (2, [.ref sa, .ref da, .ref wa, .long (lz (u0)), .long (lz (d0)), .int (iz (p0))])), (sa, .inr (9, [.ref sb, .int (iz (sn)), .long (lz (st))])), (sb, zaL (G.2 0) 40 (sf)), (da, .inr (9, [.ref db, .int (iz (dn)), .long (lz (dt))])), (db, zaL (G.2 0) 40 (df))] := hD
  have hl : lv_has ls 6 [(0, .ref q), (1, .int (iz (po))), (2, .long (lz (am)))] := hl
  rw [← hH, ← hlo]
  refine zr_ldc2 (z := 100000) hx hb hown (hts (.constantLong RX1 35 (100000)) (by decide +kernel)) rfl dX1_beginBackwards_0 ?_
  refine lv_iload_n hx hb dX1_beginBackwards_3 rfl (lv_at hl 1 rfl) ?_
  refine zr_i2l hx hb (x := po) (⟨by omega, by omega⟩) dX1_beginBackwards_4 ?_
  refine zc_l (wr := [(q, .inr (2, [.ref sa, .ref da, .ref wa, .long (lz (u0)), .long (lz (d0)), .int (iz (p0))])), (sa, .inr (9, [.ref sb, .int (iz (sn)), .long (lz (st))])), (sb, zaL (G.2 0) 40 (sf)), (da, .inr (9, [.ref db, .int (iz (dn)), .long (lz (dt))])), (db, zaL (G.2 0) 40 (df))]) (va_runS (As := [.long (lz (100000)), .long (lz (po))]) (rest := []) ⟨hx, hb, hml, hown, hts⟩ (c_X1_commonDivisor l G 100000 po (by omega) (by omega) H.size) (va_cwS 2 hts gX1_beginBackwards_X1_commonDivisor rfl rfl rfl (by decide +kernel) ⟨Nat.le_of_ble_eq_true rfl, Nat.le_of_ble_eq_true rfl⟩) (zpS hKX hP hD [] rfl rfl) rfl rfl hl.1 rfl (lv_room (Nat.le_of_ble_eq_true rfl)) dX1_beginBackwards_5 ⟨(by first | exact Nat.le_of_ble_eq_true rfl | (show _ ≤ (0 : Nat); omega)), (by first | exact Nat.le_of_ble_eq_true rfl | (show _ ≤ (0 : Nat); omega))⟩) hP hD hS hA [] [0, 1, 2, 3, 4] rfl rfl rfl (by decide) (fun cd u_1 H locs hcd hP hD hS => ?_)
  have hP : va_P G.1 vwCl [(q, .inr (2, [.ref sa, .ref da, .ref wa, .long (lz (u0)), .long (lz (d0)), .int (iz (p0))])), (sa, .inr (9, [.ref sb, .int (iz (sn)), .long (lz (st))])), (sb, zaL (G.2 0) 40 (sf)), (da, .inr (9, [.ref db, .int (iz (dn)), .long (lz (dt))])), (db, zaL (G.2 0) 40 (df))] H := hP
  have hD : va_D A [(q, .inr (2, [.ref sa, .ref da, .ref wa, .long (lz (u0)), .long (lz (d0)), .int (iz (p0))])), (sa, .inr (9, [.ref sb, .int (iz (sn)), .long (lz (st))])), (sb, zaL (G.2 0) 40 (sf)), (da, .inr (9, [.ref db, .int (iz (dn)), .long (lz (dt))])), (db, zaL (G.2 0) 40 (df))] := hD
  have hcd : cd = (Int.gcd (100000 : Int) po : Int) := hcd
  have hcp : 1 ≤ cd := by rw [hcd]; exact zgc_pos po
  have hcl : cd ≤ 100000 := by rw [hcd]; exact Int.le_of_dvd (by decide) (zgc_d po).1
  refine lv_lstore (lv' := [(4, .long (lz (cd))), (0, .ref q), (1, .int (iz (po))), (2, .long (lz (am)))]) hx hb dX1_beginBackwards_8 hl (by decide) rfl (fun ls hl => ?_)
  refine lv_aload_n hx hb dX1_beginBackwards_10 rfl (lv_at hl 1 rfl) ?_
  refine zr_ldc2 (z := 100000) hx hb hown (hts (.constantLong RX1 35 (100000)) (by decide +kernel)) rfl dX1_beginBackwards_11 ?_
  refine lv_lload hx hb dX1_beginBackwards_14 (lv_at hl 0 rfl) ?_
  refine zr_ldiv hx hb (x := 100000) (y := cd) ⟨by omega, by omega⟩ ⟨by omega, by omega⟩ (by omega) (by omega) dX1_beginBackwards_16 ?_
  refine zr_eql (y := zqd po) (by rw [hcd]; rfl) ?_
  refine zr_ldc2 (z := 100000) hx hb hown (hts (.constantLong RX1 35 (100000)) (by decide +kernel)) rfl dX1_beginBackwards_17 ?_
  refine lv_iload_n hx hb dX1_beginBackwards_20 rfl (lv_at hl 2 rfl) ?_
  refine zr_i2l hx hb (x := po) (⟨by omega, by omega⟩) dX1_beginBackwards_21 ?_
  refine zr_ladd hx hb dX1_beginBackwards_22 ?_
  refine lv_lload hx hb dX1_beginBackwards_23 (lv_at hl 0 rfl) ?_
  refine zr_ldiv hx hb (x := 100000 + po) (y := cd) ⟨by omega, by omega⟩ ⟨by omega, by omega⟩ (by omega) (by omega) dX1_beginBackwards_25 ?_
  refine zr_eql (y := zqu po) (by rw [hcd]; rfl) ?_
  refine lv_lload_n hx hb dX1_beginBackwards_26 rfl (lv_at hl 3 rfl) ?_
  refine zc_v (wr := []) (va_runV (As := [.long (lz (zqd po)), .long (lz (zqu po)), .long (lz (am))]) (rest := []) ⟨hx, hb, hml, hown, hts⟩ (c_X1_start l G q wa sa sb sf sn st da db df dn dt u0 d0 p0 (zqd po) (zqu po) am (by omega) H.size) (cwV 3 hts gX1_beginBackwards_X1_start rfl rfl rfl (by decide +kernel) ⟨Nat.le_of_ble_eq_true rfl, Nat.le_of_ble_eq_true rfl⟩) (zpV hKX hP hD [0, 1, 2, 3, 4] rfl rfl 0 2 rfl rfl) rfl rfl hl.1 rfl (lv_room (Nat.le_of_ble_eq_true rfl)) dX1_beginBackwards_27 ⟨(by first | exact Nat.le_of_ble_eq_true rfl | (show _ ≤ (0 : Nat); omega)), (by first | exact Nat.le_of_ble_eq_true rfl | (show _ ≤ (0 : Nat); omega))⟩) hP hD hS hA [0, 1, 2, 3, 4] [] rfl rfl rfl (by decide) (fun u_3 H locs q1 hP hD hS => ?_)
  obtain ⟨sf2, sn2, st2, df2, dn2, dt2⟩ := u_3
  have hP : va_P G.1 vwCl [(q, .inr (2, [.ref sa, .ref da, .ref wa, .long (lz ((zqd po))), .long (lz ((zqu po))), .int (iz (0))])), (sa, .inr (9, [.ref sb, .int (iz (sn2)), .long (lz (st2))])), (sb, zaL (G.2 0) 40 (sf2)), (da, .inr (9, [.ref db, .int (iz (dn2)), .long (lz (dt2))])), (db, zaL (G.2 0) 40 (df2))] H := hP
  have hD : va_D A [(q, .inr (2, [.ref sa, .ref da, .ref wa, .long (lz ((zqd po))), .long (lz ((zqu po))), .int (iz (0))])), (sa, .inr (9, [.ref sb, .int (iz (sn2)), .long (lz (st2))])), (sb, zaL (G.2 0) 40 (sf2)), (da, .inr (9, [.ref db, .int (iz (dn2)), .long (lz (dt2))])), (db, zaL (G.2 0) 40 (df2))] := hD
  have q1 : zwv sf2 sn2 st2 am ∧ zwv df2 dn2 dt2 1 := q1
  rw [hQ]
  exact zr_vret (u := (sf2, sn2, st2, df2, dn2, dt2)) hx hb hr hlocks hP hD hS (by first | exact Nat.le_of_ble_eq_true rfl | omega) (by first | exact Nat.le_of_ble_eq_true rfl | omega) dX1_beginBackwards_30 (show zwv sf2 sn2 st2 am ∧ zwv df2 dn2 dt2 1 from q1)

def rm_c_X1_next : Room := { frames := 2, cells := 0, slots := 0, locals := 60 }
theorem iw_X1_next_X1 : ∀ w ∈ wsX10, w ∈ wsX1_next := by decide +kernel
set_option maxHeartbeats 1000000 in
set_option maxRecDepth 100000 in
theorem c_X1_next (l : Launch) (G : zG) (q : Nat) (wa : Nat) (sa : Nat) (sb : Nat) (sf : Int → Int) (sn : Int) (st : Int) (da : Nat) (db : Nat) (df : Int → Int) (dn : Int) (dt : Int) (ru : Int) (rd : Int) (pe : Int) (v : Int) (d : Int) (am : Int) (h1 : zwv sf sn st v) (h2 : zwv df dn dt d) (h3 : 0 ≤ ru ∧ ru ≤ 2147483648 ∧ 0 ≤ rd ∧ rd ≤ 2147483648 ∧ -2147483648 ≤ am ∧ am ≤ 2147483648) (h4 : sn ≤ 37) (h5 : dn ≤ 37) (h6 : -(1073741824 ^ 37) ≤ d * rd ∧ d * rd < 1073741824 ^ 37) : zM l G yX1_next wsX1_next rm_c_X1_next [.ref q, .long (lz (am))] [(q, .inr (2, [.ref sa, .ref da, .ref wa, .long (lz (ru)), .long (lz (rd)), .int (iz (pe))])), (sa, .inr (9, [.ref sb, .int (iz (sn)), .long (lz (st))])), (sb, zaL (G.2 0) 40 (sf)), (da, .inr (9, [.ref db, .int (iz (dn)), .long (lz (dt))])), (db, zaL (G.2 0) 40 (df))] (fun A => zQv G (fun (u : (Int → Int) × Int × Int × (Int → Int) × Int × Int) => zwv u.1 u.2.1 u.2.2.1 (v * ru + d * rd * am) ∧ zwv u.2.2.2.1 u.2.2.2.2.1 u.2.2.2.2.2 (d * rd)) (fun (u : (Int → Int) × Int × Int × (Int → Int) × Int × Int) => [(q, .inr (2, [.ref sa, .ref da, .ref wa, .long (lz (ru)), .long (lz (rd)), .int (iz (pe + 1))])), (sa, .inr (9, [.ref sb, .int (iz (u.2.1)), .long (lz (u.2.2.1))])), (sb, zaL (G.2 0) 40 (u.1)), (da, .inr (9, [.ref db, .int (iz (u.2.2.2.2.1)), .long (lz (u.2.2.2.2.2))])), (db, zaL (G.2 0) 40 (u.2.2.2.1))]) A) 0 0 := by
  refine zM_of (cc := cX1_next) (maxL := 3) (ret := none) (by decide) rfl (Nat.le_of_ble_eq_true rfl) ?_
  intro p e s m below meth c ls A Q hQ hx hb hr hts hown hlocks hml hnm hKX hP hD hA hS hl
  have hK := hKX.1
  have iwX1 := iw_X1_next_X1
  obtain ⟨H, hH⟩ : ∃ h, h = s.heap := ⟨_, rfl⟩
  obtain ⟨locs, hlo⟩ : ∃ h : List Loc, h = [] := ⟨_, rfl⟩
  have hS : va_S A s.heap H locs := by rw [hH, hlo]; exact hS
  have hP : va_P G.1 vwCl [(q, .inr (2, [.ref sa, .ref da, .ref wa, .long (lz (ru)), .long (lz (rd)), .int (iz (pe))])), (sa, .inr (9, [.ref sb, .int (iz (sn)), .long (lz (st))])), (sb, zaL (G.2 0) 40 (sf)), (da, .inr (9, [.ref db, .int (iz (dn)), .long (lz (dt))])), (db, zaL (G.2 0) 40 (df))] H := by rw [hH]; exact hP
  have hD : va_D A [(q, .inr (2, [.ref sa, .ref da, .ref wa, .long (lz (ru)), .long (lz (rd)), .int (iz (pe))])), (sa, .inr (9, [.ref sb, .int (iz (sn)), .long (lz (st))])), (sb, zaL (G.2 0) 40 (sf)), (da, .inr (9, [.ref db, .int (iz (dn)), .long (lz (dt))])), (db, zaL (G.2 0) 40 (df))] := hD
  have hl : lv_has ls 3 [(0, .ref q), (1, .long (lz (am)))] := hl
  rw [← hH, ← hlo]
  refine lv_aload_n hx hb dX1_next_0 rfl (lv_at hl 0 rfl) ?_
  refine va_get (D := G.1) (ci := 2) (v := .ref da) (C := RX1) (T := TX1) (N := 6) hx hb hts iwX1 hown hK hP 0 rfl rfl 1 (by decide) (hts (.fieldLink RX1 18 "AnnuityHouse$Flow" "downPower" "LAnnuityHouse$Whole;") (by decide +kernel)) (fun _ h9 => h9) rfl dX1_next_1 ?_
  refine lv_aload_n hx hb dX1_next_4 rfl (lv_at hl 0 rfl) ?_
  refine va_get (D := G.1) (ci := 2) (v := .long (lz (rd))) (C := RX1) (T := TX1) (N := 6) hx hb hts iwX1 hown hK hP 0 rfl rfl 4 (by decide) (hts (.fieldLink RX1 28 "AnnuityHouse$Flow" "down" "J") (by decide +kernel)) (fun _ h9 => h9) rfl dX1_next_5 ?_
  refine zc_v (wr := [(q, .inr (2, [.ref sa, .ref da, .ref wa, .long (lz (ru)), .long (lz (rd)), .int (iz (pe))])), (sa, .inr (9, [.ref sb, .int (iz (sn)), .long (lz (st))])), (sb, zaL (G.2 0) 40 (sf))]) (va_runV (As := [.long (lz (rd))]) (rest := []) ⟨hx, hb, hml, hown, hts⟩ (c_X8_times l G da db df dn dt d rd (h2) (h5) (by omega) H.size) (cwV 1 hts gX1_next_X8_times rfl rfl rfl (by decide +kernel) ⟨Nat.le_of_ble_eq_true rfl, Nat.le_of_ble_eq_true rfl⟩) (zpV hKX hP hD [3, 4] rfl rfl 3 9 rfl rfl) rfl rfl hl.1 rfl (lv_room (Nat.le_of_ble_eq_true rfl)) dX1_next_8 ⟨(by first | exact Nat.le_of_ble_eq_true rfl | (show _ ≤ (0 : Nat); omega)), (by first | exact Nat.le_of_ble_eq_true rfl | (show _ ≤ (0 : Nat); omega))⟩) hP hD hS hA [3, 4] [0, 1, 2] rfl rfl rfl (by decide) (fun u_1 H locs q1 hP hD hS => ?_)
  obtain ⟨df2, dn2, dt2⟩ := u_1
  have hP : va_P G.1 vwCl [(q, .inr (2, [.ref sa, .ref da, .ref wa, .long (lz (ru)), .long (lz (rd)), .int (iz (pe))])), (sa, .inr (9, [.ref sb, .int (iz (sn)), .long (lz (st))])), (sb, zaL (G.2 0) 40 (sf)), (da, .inr (9, [.ref db, .int (iz (dn2)), .long (lz (dt2))])), (db, zaL (G.2 0) 40 (df2))] H := hP
  have hD : va_D A [(q, .inr (2, [.ref sa, .ref da, .ref wa, .long (lz (ru)), .long (lz (rd)), .int (iz (pe))])), (sa, .inr (9, [.ref sb, .int (iz (sn)), .long (lz (st))])), (sb, zaL (G.2 0) 40 (sf)), (da, .inr (9, [.ref db, .int (iz (dn2)), .long (lz (dt2))])), (db, zaL (G.2 0) 40 (df2))] := hD
  have q1 : zwv df2 dn2 dt2 (d * rd) := q1
  have hn2 := zwv_small q1 (k := 37) (by omega) (by omega)
  refine lv_aload_n hx hb dX1_next_11 rfl (lv_at hl 0 rfl) ?_
  refine va_get (D := G.1) (ci := 2) (v := .ref sa) (C := RX1) (T := TX1) (N := 6) hx hb hts iwX1 hown hK hP 0 rfl rfl 0 (by decide) (hts (.fieldLink RX1 12 "AnnuityHouse$Flow" "sum" "LAnnuityHouse$Whole;") (by decide +kernel)) (fun _ h9 => h9) rfl dX1_next_12 ?_
  refine lv_aload_n hx hb dX1_next_15 rfl (lv_at hl 0 rfl) ?_
  refine va_get (D := G.1) (ci := 2) (v := .long (lz (ru))) (C := RX1) (T := TX1) (N := 6) hx hb hts iwX1 hown hK hP 0 rfl rfl 3 (by decide) (hts (.fieldLink RX1 24 "AnnuityHouse$Flow" "up" "J") (by decide +kernel)) (fun _ h9 => h9) rfl dX1_next_16 ?_
  refine lv_aload_n hx hb dX1_next_19 rfl (lv_at hl 0 rfl) ?_
  refine va_get (D := G.1) (ci := 2) (v := .ref da) (C := RX1) (T := TX1) (N := 6) hx hb hts iwX1 hown hK hP 0 rfl rfl 1 (by decide) (hts (.fieldLink RX1 18 "AnnuityHouse$Flow" "downPower" "LAnnuityHouse$Whole;") (by decide +kernel)) (fun _ h9 => h9) rfl dX1_next_20 ?_
  refine lv_lload_n hx hb dX1_next_23 rfl (lv_at hl 1 rfl) ?_
  refine lv_iconst (v := iz (0)) hx hb dX1_next_24 rfl ?_
  refine zc_v (wr := [(q, .inr (2, [.ref sa, .ref da, .ref wa, .long (lz (ru)), .long (lz (rd)), .int (iz (pe))]))]) (va_runV (As := [.long (lz (ru)), .ref da, .long (lz (am)), .int (iz (0))]) (rest := []) ⟨hx, hb, hml, hown, hts⟩ (c_X8_combine l G sa sb sf sn st da db df2 dn2 dt2 v (d * rd) ru am 0 (h1) (q1) (by omega) (by omega) (by omega) (by omega) H.size) (cwV 4 hts gX1_next_X8_combine rfl rfl rfl (by decide +kernel) ⟨Nat.le_of_ble_eq_true rfl, Nat.le_of_ble_eq_true rfl⟩) (zpV hKX hP hD [1, 2, 3, 4] rfl rfl 1 9 rfl rfl) rfl rfl hl.1 rfl (lv_room (Nat.le_of_ble_eq_true rfl)) dX1_next_25 ⟨(by first | exact Nat.le_of_ble_eq_true rfl | (show _ ≤ (0 : Nat); omega)), (by first | exact Nat.le_of_ble_eq_true rfl | (show _ ≤ (0 : Nat); omega))⟩) hP hD hS hA [1, 2, 3, 4] [0] rfl rfl rfl (by decide) (fun u_4 H locs q2 hP hD hS => ?_)
  obtain ⟨sf2, sn2, st2⟩ := u_4
  have hP : va_P G.1 vwCl [(q, .inr (2, [.ref sa, .ref da, .ref wa, .long (lz (ru)), .long (lz (rd)), .int (iz (pe))])), (sa, .inr (9, [.ref sb, .int (iz (sn2)), .long (lz (st2))])), (sb, zaL (G.2 0) 40 (sf2)), (da, .inr (9, [.ref db, .int (iz (dn2)), .long (lz (dt2))])), (db, zaL (G.2 0) 40 (df2))] H := hP
  have hD : va_D A [(q, .inr (2, [.ref sa, .ref da, .ref wa, .long (lz (ru)), .long (lz (rd)), .int (iz (pe))])), (sa, .inr (9, [.ref sb, .int (iz (sn2)), .long (lz (st2))])), (sb, zaL (G.2 0) 40 (sf2)), (da, .inr (9, [.ref db, .int (iz (dn2)), .long (lz (dt2))])), (db, zaL (G.2 0) 40 (df2))] := hD
  have q2 : zwv sf2 sn2 st2 (v * ru + (d * rd) * 1073741824 ^ (0 : Int).toNat * am) := q2
  rw [zc0] at q2
  refine lv_aload_n hx hb dX1_next_28 rfl (lv_at hl 0 rfl) ?_
  refine lv_dup hx hb dX1_next_29 rfl ?_
  refine va_get (D := G.1) (ci := 2) (v := .int (iz (pe))) (C := RX1) (T := TX1) (N := 6) hx hb hts iwX1 hown hK hP 0 rfl rfl 5 (by decide) (hts (.fieldLink RX1 31 "AnnuityHouse$Flow" "periods" "I") (by decide +kernel)) (fun _ h9 => h9) rfl dX1_next_30 ?_
  refine lv_iconst (v := iz (1)) hx hb dX1_next_33 rfl ?_
  refine zr_iadd hx hb dX1_next_34 ?_
  refine va_put (D := G.1) (ci := 2) (v := .int (iz (pe + 1))) (ty := .int) (C := RX1) (T := TX1) (N := 6) hx hb hts iwX1 tyX1 tyX1_ok nmX1 hown hK hP hD hS 0 rfl rfl 5 (by decide) (hts (.fieldLink RX1 31 "AnnuityHouse$Flow" "periods" "I") (by decide +kernel)) (fun _ h9 => h9) rfl (by decide +kernel) rfl rfl (Nat.le_of_ble_eq_true rfl) dX1_next_35 (fun H locs hP hD hS => ?_)
  have hP : va_P G.1 vwCl [(q, .inr (2, [.ref sa, .ref da, .ref wa, .long (lz (ru)), .long (lz (rd)), .int (iz (pe + 1))])), (sa, .inr (9, [.ref sb, .int (iz (sn2)), .long (lz (st2))])), (sb, zaL (G.2 0) 40 (sf2)), (da, .inr (9, [.ref db, .int (iz (dn2)), .long (lz (dt2))])), (db, zaL (G.2 0) 40 (df2))] H := hP
  have hD : va_D A [(q, .inr (2, [.ref sa, .ref da, .ref wa, .long (lz (ru)), .long (lz (rd)), .int (iz (pe + 1))])), (sa, .inr (9, [.ref sb, .int (iz (sn2)), .long (lz (st2))])), (sb, zaL (G.2 0) 40 (sf2)), (da, .inr (9, [.ref db, .int (iz (dn2)), .long (lz (dt2))])), (db, zaL (G.2 0) 40 (df2))] := hD
  rw [hQ]
  exact zr_vret (u := (sf2, sn2, st2, df2, dn2, dt2)) hx hb hr hlocks hP hD hS (by first | exact Nat.le_of_ble_eq_true rfl | omega) (by first | exact Nat.le_of_ble_eq_true rfl | omega) dX1_next_38 (show zwv sf2 sn2 st2 (v * ru + d * rd * am) ∧ zwv df2 dn2 dt2 (d * rd) from ⟨q2, q1⟩)

def rm_c_X1_upPower : Room := { frames := 3, cells := 0, slots := 0, locals := 75 }
theorem iw_X1_upPower_X1 : ∀ w ∈ wsX10, w ∈ wsX1_upPower := by decide +kernel
set_option maxHeartbeats 1000000 in
set_option maxRecDepth 100000 in
theorem c_X1_upPower (l : Launch) (G : zG) (q : Nat) (sa : Nat) (da : Nat) (wa : Nat) (wb : Nat) (wf : Int → Int) (wn : Int) (wt : Int) (ru : Int) (rd : Int) (pe : Int) (fa : Int) (k : Int) (h1 : -9223372036854775808 ≤ fa ∧ fa < 9223372036854775808) (h2 : 1 ≤ ru ∧ ru ≤ 2147483648) (h3 : 0 ≤ k ∧ k < 2147483647) (h4 : -(1073741824 ^ 37) < fa * ru ^ k.toNat ∧ fa * ru ^ k.toNat < 1073741824 ^ 37) : zM l G yX1_upPower wsX1_upPower rm_c_X1_upPower [.ref q, .long (lz (fa)), .int (iz (k))] [(q, .inr (2, [.ref sa, .ref da, .ref wa, .long (lz (ru)), .long (lz (rd)), .int (iz (pe))])), (wa, .inr (9, [.ref wb, .int (iz (wn)), .long (lz (wt))])), (wb, zaL (G.2 0) 40 (wf))] (fun A => zQr G (fun (u : (Int → Int) × Int × Int) (ra : Nat) => ra = wa ∧ zwv u.1 u.2.1 u.2.2 (fa * ru ^ k.toNat)) (fun (u : (Int → Int) × Int × Int) (ra : Nat) => [(q, .inr (2, [.ref sa, .ref da, .ref wa, .long (lz (ru)), .long (lz (rd)), .int (iz (pe))])), (wa, .inr (9, [.ref wb, .int (iz (u.2.1)), .long (lz (u.2.2))])), (wb, zaL (G.2 0) 40 (u.1))]) A) 0 0 := by
  refine zM_of (cc := cX1_upPower) (maxL := 4) (ret := (some (.object "AnnuityHouse$Whole"))) (by decide) rfl (Nat.le_of_ble_eq_true rfl) ?_
  intro p e s m below meth c ls A Q hQ hx hb hr hts hown hlocks hml hnm hKX hP hD hA hS hl
  have hK := hKX.1
  have iwX1 := iw_X1_upPower_X1
  obtain ⟨H, hH⟩ : ∃ h, h = s.heap := ⟨_, rfl⟩
  obtain ⟨locs, hlo⟩ : ∃ h : List Loc, h = [] := ⟨_, rfl⟩
  have hS : va_S A s.heap H locs := by rw [hH, hlo]; exact hS
  have hP : va_P G.1 vwCl [(q, .inr (2, [.ref sa, .ref da, .ref wa, .long (lz (ru)), .long (lz (rd)), .int (iz (pe))])), (wa, .inr (9, [.ref wb, .int (iz (wn)), .long (lz (wt))])), (wb, zaL (G.2 0) 40 (wf))] H := by rw [hH]; exact hP
  have hD : va_D A [(q, .inr (2, [.ref sa, .ref da, .ref wa, .long (lz (ru)), .long (lz (rd)), .int (iz (pe))])), (wa, .inr (9, [.ref wb, .int (iz (wn)), .long (lz (wt))])), (wb, zaL (G.2 0) 40 (wf))] := hD
  have hl : lv_has ls 4 [(0, .ref q), (1, .long (lz (fa))), (3, .int (iz (k)))] := hl
  rw [← hH, ← hlo]
  refine lv_aload_n hx hb dX1_upPower_0 rfl (lv_at hl 0 rfl) ?_
  refine va_get (D := G.1) (ci := 2) (v := .ref wa) (C := RX1) (T := TX1) (N := 6) hx hb hts iwX1 hown hK hP 0 rfl rfl 2 (by decide) (hts (.fieldLink RX1 21 "AnnuityHouse$Flow" "power" "LAnnuityHouse$Whole;") (by decide +kernel)) (fun _ h9 => h9) rfl dX1_upPower_1 ?_
  refine lv_lload_n hx hb dX1_upPower_4 rfl (lv_at hl 1 rfl) ?_
  refine zc_v (wr := [(q, .inr (2, [.ref sa, .ref da, .ref wa, .long (lz (ru)), .long (lz (rd)), .int (iz (pe))]))]) (va_runV (As := [.long (lz (fa))]) (rest := []) ⟨hx, hb, hml, hown, hts⟩ (c_X8_set l G wa wb wf wn wt fa (by omega) H.size) (cwV 1 hts gX1_upPower_X8_set rfl rfl rfl (by decide +kernel) ⟨Nat.le_of_ble_eq_true rfl, Nat.le_of_ble_eq_true rfl⟩) (zpV hKX hP hD [1, 2] rfl rfl 1 9 rfl rfl) rfl rfl hl.1 rfl (lv_room (Nat.le_of_ble_eq_true rfl)) dX1_upPower_5 ⟨(by first | exact Nat.le_of_ble_eq_true rfl | (show _ ≤ (0 : Nat); omega)), (by first | exact Nat.le_of_ble_eq_true rfl | (show _ ≤ (0 : Nat); omega))⟩) hP hD hS hA [1, 2] [0] rfl rfl rfl (by decide) (fun u_1 H locs q1 hP hD hS => ?_)
  obtain ⟨wf1, wn1, wt1⟩ := u_1
  have hP : va_P G.1 vwCl [(q, .inr (2, [.ref sa, .ref da, .ref wa, .long (lz (ru)), .long (lz (rd)), .int (iz (pe))])), (wa, .inr (9, [.ref wb, .int (iz (wn1)), .long (lz (wt1))])), (wb, zaL (G.2 0) 40 (wf1))] H := hP
  have hD : va_D A [(q, .inr (2, [.ref sa, .ref da, .ref wa, .long (lz (ru)), .long (lz (rd)), .int (iz (pe))])), (wa, .inr (9, [.ref wb, .int (iz (wn1)), .long (lz (wt1))])), (wb, zaL (G.2 0) 40 (wf1))] := hD
  have q1 : zwv wf1 wn1 wt1 fa := q1
  refine lv_aload_n hx hb dX1_upPower_8 rfl (lv_at hl 0 rfl) ?_
  refine va_get (D := G.1) (ci := 2) (v := .ref wa) (C := RX1) (T := TX1) (N := 6) hx hb hts iwX1 hown hK hP 0 rfl rfl 2 (by decide) (hts (.fieldLink RX1 21 "AnnuityHouse$Flow" "power" "LAnnuityHouse$Whole;") (by decide +kernel)) (fun _ h9 => h9) rfl dX1_upPower_9 ?_
  refine lv_aload_n hx hb dX1_upPower_12 rfl (lv_at hl 0 rfl) ?_
  refine va_get (D := G.1) (ci := 2) (v := .long (lz (ru))) (C := RX1) (T := TX1) (N := 6) hx hb hts iwX1 hown hK hP 0 rfl rfl 3 (by decide) (hts (.fieldLink RX1 24 "AnnuityHouse$Flow" "up" "J") (by decide +kernel)) (fun _ h9 => h9) rfl dX1_upPower_13 ?_
  refine lv_iload_n hx hb dX1_upPower_16 rfl (lv_at hl 2 rfl) ?_
  refine zc_v (wr := [(q, .inr (2, [.ref sa, .ref da, .ref wa, .long (lz (ru)), .long (lz (rd)), .int (iz (pe))]))]) (va_runV (As := [.long (lz (ru)), .int (iz (k))]) (rest := []) ⟨hx, hb, hml, hown, hts⟩ (c_X8_timesPower l G wa wb wf1 wn1 wt1 fa ru k (q1) (by omega) (by omega) (by omega) H.size) (cwV 2 hts gX1_upPower_X8_timesPower rfl rfl rfl (by decide +kernel) ⟨Nat.le_of_ble_eq_true rfl, Nat.le_of_ble_eq_true rfl⟩) (zpV hKX hP hD [1, 2] rfl rfl 1 9 rfl rfl) rfl rfl hl.1 rfl (lv_room (Nat.le_of_ble_eq_true rfl)) dX1_upPower_17 ⟨(by first | exact Nat.le_of_ble_eq_true rfl | (show _ ≤ (0 : Nat); omega)), (by first | exact Nat.le_of_ble_eq_true rfl | (show _ ≤ (0 : Nat); omega))⟩) hP hD hS hA [1, 2] [0] rfl rfl rfl (by decide) (fun u_4 H locs q2 hP hD hS => ?_)
  obtain ⟨wf2, wn2, wt2⟩ := u_4
  have hP : va_P G.1 vwCl [(q, .inr (2, [.ref sa, .ref da, .ref wa, .long (lz (ru)), .long (lz (rd)), .int (iz (pe))])), (wa, .inr (9, [.ref wb, .int (iz (wn2)), .long (lz (wt2))])), (wb, zaL (G.2 0) 40 (wf2))] H := hP
  have hD : va_D A [(q, .inr (2, [.ref sa, .ref da, .ref wa, .long (lz (ru)), .long (lz (rd)), .int (iz (pe))])), (wa, .inr (9, [.ref wb, .int (iz (wn2)), .long (lz (wt2))])), (wb, zaL (G.2 0) 40 (wf2))] := hD
  have q2 : zwv wf2 wn2 wt2 (fa * ru ^ k.toNat) := q2
  refine lv_aload_n hx hb dX1_upPower_20 rfl (lv_at hl 0 rfl) ?_
  refine va_get (D := G.1) (ci := 2) (v := .ref wa) (C := RX1) (T := TX1) (N := 6) hx hb hts iwX1 hown hK hP 0 rfl rfl 2 (by decide) (hts (.fieldLink RX1 21 "AnnuityHouse$Flow" "power" "LAnnuityHouse$Whole;") (by decide +kernel)) (fun _ h9 => h9) rfl dX1_upPower_21 ?_
  rw [hQ]
  exact zr_aret (ra := wa) (Or.inl ⟨_, rfl⟩) (u := (wf2, wn2, wt2)) hx hb hr hlocks hP hD hS (by first | exact Nat.le_of_ble_eq_true rfl | omega) (by first | exact Nat.le_of_ble_eq_true rfl | omega) dX1_upPower_24 (show wa = wa ∧ zwv wf2 wn2 wt2 (fa * ru ^ k.toNat) from ⟨rfl, q2⟩)
