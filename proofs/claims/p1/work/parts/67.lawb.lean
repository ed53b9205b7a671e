-- THE LAW'S CASES (laid by wip/walk/xlaw.py)
set_option maxHeartbeats 4000000 in
set_option maxRecDepth 100000 in
theorem zl_13 {p : Program} {e : Env} {s : State} {m : MethodId} {below : List Frame} {meth : Method} {c : Code} {l : Launch} (hl0 : l.stackTraces = false) {b L : Nat} {xs : Nat → Int32} (hL8 : L = 8) (C0 : lw_At p s m meth c b L xs) {G : zG} {nA nB nE s1 s2 s3 : Nat} (hKX : zK G s) (hEm : zE G nA nB nE (zlA s) s) (hEc : zXL s1 s2 s3 (zlA s) s) (x : Nat) (ro : Nat) (rw : Nat) (bo : Nat) (li : Nat) (sh : Nat) (tx : Nat) (lo : Nat) (nl : Nat) (lw0 : Value) (lw1 : Value) (lw2 : Value) (lw3 : Value) (lw4 : Value) (lw5 : Value) (rws : Int) (ou : Nat) (mm : Nat) (ma : Nat) (mt : Nat) (ml : Nat) (mw : Nat) (mb : Nat) (mp : Nat) {H : Heap} {locs : List Loc} {ls : Array Slot} (hP : va_P G.1 vwCl [(x, .inr (10, [.ref ro, .ref rw, .ref bo, .ref li, .ref sh, .ref tx, .ref lo, .ref nl])), (lo, .inr (4, [lw0, lw1, lw2, lw3, lw4, lw5, .int (iz (0)), .int (iz (rws))])), (ou, zaL (G.2 0) 1 (fun _ => 0)), (mm, .inr (13, [.int (iz (0)), .int (iz (6)), .ref ma, .null, .ref mt, .ref ml, .int (iz (0)), .ref mw, .int (iz (0)), .ref mb, .ref mp, .int (iz (0))]))] H) (hD : va_D (zlA s) [(x, .inr (10, [.ref ro, .ref rw, .ref bo, .ref li, .ref sh, .ref tx, .ref lo, .ref nl])), (lo, .inr (4, [lw0, lw1, lw2, lw3, lw4, lw5, .int (iz (0)), .int (iz (rws))])), (ou, zaL (G.2 0) 1 (fun _ => 0)), (mm, .inr (13, [.int (iz (0)), .int (iz (6)), .ref ma, .null, .ref mt, .ref ml, .int (iz (0)), .ref mw, .int (iz (0)), .ref mb, .ref mp, .int (iz (0))]))]) (hS : va_S (zlA s) s.heap H locs) (hl : lv_has ls 9 [(0, .ref b), (1, .ref x), (2, .ref mm), (3, .ref ou), (4, .int (iz (0)))]) : W p l e room_1 s m #[Value.ref b] below meth c H locs 200 4000 (lw_Z below #[Value.ref b] s) (F0 m 1095 ls []) := by
  obtain ⟨hx, hb, hr, hml, hown, hts, hX, hbl, hlocks, hgv⟩ := id C0
  have hbA : ¬ zlA s b := Nat.not_le.mpr hbl
  have hK := hKX.1
  have hts : ∀ w ∈ wsL_law, w.before #[Value.ref b] s = true := fun w h => hts w (wsL_law_in w h)
  have hown : s.vm.findClass RL = some m.cls := hown
  have hA : ∀ q : Nat, s.heap.size ≤ q → zlA s q := fun _ h => h
  have hE := hEm
  have hv1 := zv_rng xs 1
  have hv2 := zv_rng xs 2
  have hv3 := zv_rng xs 3
  have hv4 := zv_rng xs 4
  have hv5 := zv_rng xs 5
  have hv6 := zv_rng xs 6
  have hv7 := zv_rng xs 7
  refine lv_aload_n hx hb dL_law_1095 rfl (lv_at hl 1 rfl) ?_
  refine lv_aload_n hx hb dL_law_1096 rfl (lv_at hl 0 rfl) ?_
  refine lv_iload hx hb dL_law_1097 (lv_at hl 4 rfl) ?_
  refine lv_iconst (v := iz (1)) hx hb dL_law_1099 rfl ?_
  refine zr_iadd hx hb dL_law_1100 ?_
  refine zr_sld hx hb hX hbl hbA hS 1 (by omega) (by omega) (by omega) dL_law_1101 ?_
  refine lv_aload_n hx hb dL_law_1102 rfl (lv_at hl 0 rfl) ?_
  refine lv_iload hx hb dL_law_1103 (lv_at hl 4 rfl) ?_
  refine lv_iconst (v := iz (2)) hx hb dL_law_1105 rfl ?_
  refine zr_iadd hx hb dL_law_1106 ?_
  refine zr_sld hx hb hX hbl hbA hS 2 (by omega) (by omega) (by omega) dL_law_1107 ?_
  refine lv_aload_n hx hb dL_law_1108 rfl (lv_at hl 3 rfl) ?_
  refine zc_i (wr := [(mm, .inr (13, [.int (iz (0)), .int (iz (6)), .ref ma, .null, .ref mt, .ref ml, .int (iz (0)), .ref mw, .int (iz (0)), .ref mb, .ref mp, .int (iz (0))]))]) (vx_runSW (As := [.ref x, .int (iz (zv xs 1)), .int (iz (zv xs 2)), .ref ou]) (rest := []) ⟨hx, hb, hml, hown, hts⟩ (c_L_change l G s1 s2 s3 x ro rw bo li sh tx lo nl lw0 lw1 lw2 lw3 lw4 lw5 rws (zv xs 1) (zv xs 2) ou (fun _ => 0) hl0 H.size) (vx_cwSW 4 hts gL_law_L_change rfl rfl rfl (by decide +kernel) ⟨Nat.le_of_ble_eq_true rfl, Nat.le_of_ble_eq_true rfl⟩) (zpSe zXL_ok hEc hS hA hKX hP hD [0, 1, 2] rfl rfl) rfl rfl hl.1 rfl (lv_room (Nat.le_of_ble_eq_true rfl)) dL_law_1109 ⟨(by show _ ≤ (600002 : Nat); omega), (by show _ ≤ (7302232 : Nat); omega)⟩) hP hD hS hA [0, 1, 2] [3] rfl rfl rfl (by decide) (fun kk u_1 H locs hw hP hD hS => ?_)
  have hP : va_P G.1 vwCl [(mm, .inr (13, [.int (iz (0)), .int (iz (6)), .ref ma, .null, .ref mt, .ref ml, .int (iz (0)), .ref mw, .int (iz (0)), .ref mb, .ref mp, .int (iz (0))])), (ou, zaL (G.2 0) 1 ((fun _ => 0)))] H := hP
  have hD : va_D (zlA s) [(mm, .inr (13, [.int (iz (0)), .int (iz (6)), .ref ma, .null, .ref mt, .ref ml, .int (iz (0)), .ref mw, .int (iz (0)), .ref mb, .ref mp, .int (iz (0))])), (ou, zaL (G.2 0) 1 ((fun _ => 0)))] := hD
  have hw : kk = 2 := hw
  rw [show kk = 2 from hw]
  refine lv_istore (lv' := [(5, .int (iz (2))), (0, .ref b), (1, .ref x), (2, .ref mm), (3, .ref ou), (4, .int (iz (0)))]) hx hb dL_law_1112 hl (by decide) rfl (fun ls hl => ?_)
  refine lv_aload_n hx hb dL_law_1114 rfl (lv_at hl 3 rfl) ?_
  refine lv_aload_n hx hb dL_law_1115 rfl (lv_at hl 1 rfl) ?_
  refine lv_iload hx hb dL_law_1116 (lv_at hl 5 rfl) ?_
  refine lv_iconst (v := iz (1)) hx hb dL_law_1118 rfl ?_
  refine zr_iadd hx hb dL_law_1119 ?_
  refine zr_sld hx hb hX hbl hbA hS 1 (by omega) (by omega) (by omega) dL_law_1120 ?_
  refine lv_aload_n hx hb dL_law_1121 rfl (lv_at hl 1 rfl) ?_
  refine lv_iload hx hb dL_law_1122 (lv_at hl 5 rfl) ?_
  refine lv_iconst (v := iz (2)) hx hb dL_law_1124 rfl ?_
  refine zr_iadd hx hb dL_law_1125 ?_
  refine zr_sld hx hb hX hbl hbA hS 2 (by omega) (by omega) (by omega) dL_law_1126 ?_
  refine zc_i (wr := [(ou, zaL (G.2 0) 1 ((fun _ => 0)))]) (va_runV (As := [.int (iz (zv xs 1)), .int (iz (zv xs 2))]) (rest := []) ⟨hx, hb, hml, hown, hts⟩ (c_X12_change l G mm ma mt ml mw mb mp 0 (zv xs 1) (zv xs 2)  H.size) (cwV 2 hts gL_law_X12_change rfl rfl rfl (by decide +kernel) ⟨Nat.le_of_ble_eq_true rfl, Nat.le_of_ble_eq_true rfl⟩) (zpV hKX hP hD [0] rfl rfl 0 13 rfl rfl) rfl rfl hl.1 rfl (lv_room (Nat.le_of_ble_eq_true rfl)) dL_law_1127 ⟨(by show _ ≤ (600002 : Nat); omega), (by show _ ≤ (7302232 : Nat); omega)⟩) hP hD hS hA [0] [1] rfl rfl rfl (by decide) (fun zm u_3 H locs hm hP hD hS => ?_)
  generalize u_3 = thm at hP hD hm
  have hP : va_P G.1 vwCl [(ou, zaL (G.2 0) 1 ((fun _ => 0))), (mm, .inr (13, [.int (iz (thm)), .int (iz (6)), .ref ma, .null, .ref mt, .ref ml, .int (iz (0)), .ref mw, .int (iz (0)), .ref mb, .ref mp, .int (iz (0))]))] H := hP
  have hD : va_D (zlA s) [(ou, zaL (G.2 0) 1 ((fun _ => 0))), (mm, .inr (13, [.int (iz (thm)), .int (iz (6)), .ref ma, .null, .ref mt, .ref ml, .int (iz (0)), .ref mw, .int (iz (0)), .ref mb, .ref mp, .int (iz (0))]))] := hD
  have hm : zm = 0 ∧ thm = 2 := hm
  have htp := hm.2
  refine lv_istore (lv' := [(6, .int (iz (zm))), (5, .int (iz (2))), (0, .ref b), (1, .ref x), (2, .ref mm), (3, .ref ou), (4, .int (iz (0)))]) hx hb dL_law_1130 hl (by decide) rfl (fun ls hl => ?_)
  refine lv_aload_n hx hb dL_law_1132 rfl (lv_at hl 4 rfl) ?_
  refine zc_i (wr := [(ou, zaL (G.2 0) 1 ((fun _ => 0)))]) (va_runV (As := []) (rest := []) ⟨hx, hb, hml, hown, hts⟩ (c_X12_thrown_v l G mm thm (.ref ma) .null (.ref mt) (.ref ml) (.int (iz (0))) (.ref mw) (.int (iz (0))) (.ref mb) (.ref mp) (.int (iz (0))) 6  H.size) (cwV 0 hts gL_law_X12_thrown rfl rfl rfl (by decide +kernel) ⟨Nat.le_of_ble_eq_true rfl, Nat.le_of_ble_eq_true rfl⟩) (zpV hKX hP hD [1] rfl rfl 1 13 rfl rfl) rfl rfl hl.1 rfl (lv_room (Nat.le_of_ble_eq_true rfl)) dL_law_1133 ⟨(by show _ ≤ (600002 : Nat); omega), (by show _ ≤ (7302232 : Nat); omega)⟩) hP hD hS hA [1] [0] rfl rfl rfl (by decide) (fun th9 u_5 H locs hth hP hD hS => ?_)
  have hP : va_P G.1 vwCl [(ou, zaL (G.2 0) 1 ((fun _ => 0))), (mm, .inr (13, [.int (iz (thm)), .int (iz ((6 : Int))), .ref ma, .null, .ref mt, .ref ml, .int (iz (0)), .ref mw, .int (iz (0)), .ref mb, .ref mp, .int (iz (0))]))] H := hP
  have hD : va_D (zlA s) [(ou, zaL (G.2 0) 1 ((fun _ => 0))), (mm, .inr (13, [.int (iz (thm)), .int (iz ((6 : Int))), .ref ma, .null, .ref mt, .ref ml, .int (iz (0)), .ref mw, .int (iz (0)), .ref mb, .ref mp, .int (iz (0))]))] := hD
  have hth : th9 = thm := hth
  rw [show th9 = 2 from hth.trans htp]
  refine lv_iload hx hb dL_law_1136 (lv_at hl 1 rfl) ?_
  refine zr_icmp_eq (x := 2) (y := 2) (tgt := 1143) hx hb (⟨by omega, by omega⟩) (⟨by omega, by omega⟩) dL_law_1138 (by decide) (fun h_7 => ?_) (fun h_7 => ?_)
  ·
    refine lv_iload hx hb dL_law_1143 (lv_at hl 1 rfl) ?_
    refine zr_if_ne (x := 2) (tgt := 1160) hx hb (⟨by omega, by omega⟩) dL_law_1145 (by decide) (fun h_8 => ?_) (fun h_8 => ?_)
    ·
      refine lv_goto (tgt := 3039) hx hb dL_law_1160 (by decide) ?_
      exact zl_end hL8 C0 hS (lv_sub hl [2, 6] rfl) (by show _ ≤ (600002 : Nat); omega) (by show _ ≤ (7302232 : Nat); omega)
    · exact absurd h_8 (by omega)
  · exact absurd h_7 (by omega)

set_option maxHeartbeats 4000000 in
set_option maxRecDepth 100000 in
theorem zl_14 {p : Program} {e : Env} {s : State} {m : MethodId} {below : List Frame} {meth : Method} {c : Code} {l : Launch} (hl0 : l.stackTraces = false) {b L : Nat} {xs : Nat → Int32} (hL8 : L = 8) (C0 : lw_At p s m meth c b L xs) {G : zG} {nA nB nE s1 s2 s3 : Nat} (hKX : zK G s) (hEm : zE G nA nB nE (zlA s) s) (hEc : zXL s1 s2 s3 (zlA s) s) (x : Nat) (ro : Nat) (rw : Nat) (bo : Nat) (li : Nat) (sh : Nat) (tx : Nat) (lo : Nat) (nl : Nat) (lw0 : Value) (lw1 : Value) (lw2 : Value) (lw3 : Value) (lw4 : Value) (lw5 : Value) (rws : Int) (ou : Nat) (mm : Nat) (ma : Nat) (mt : Nat) (ml : Nat) (mw : Nat) (mb : Nat) (mp : Nat) {H : Heap} {locs : List Loc} {ls : Array Slot} (hP : va_P G.1 vwCl [(x, .inr (10, [.ref ro, .ref rw, .ref bo, .ref li, .ref sh, .ref tx, .ref lo, .ref nl])), (lo, .inr (4, [lw0, lw1, lw2, lw3, lw4, lw5, .int (iz (0)), .int (iz (rws))])), (ou, zaL (G.2 0) 1 (fun _ => 0)), (mm, .inr (13, [.int (iz (0)), .int (iz (6)), .ref ma, .null, .ref mt, .ref ml, .int (iz (0)), .ref mw, .int (iz (0)), .ref mb, .ref mp, .int (iz (0))]))] H) (hD : va_D (zlA s) [(x, .inr (10, [.ref ro, .ref rw, .ref bo, .ref li, .ref sh, .ref tx, .ref lo, .ref nl])), (lo, .inr (4, [lw0, lw1, lw2, lw3, lw4, lw5, .int (iz (0)), .int (iz (rws))])), (ou, zaL (G.2 0) 1 (fun _ => 0)), (mm, .inr (13, [.int (iz (0)), .int (iz (6)), .ref ma, .null, .ref mt, .ref ml, .int (iz (0)), .ref mw, .int (iz (0)), .ref mb, .ref mp, .int (iz (0))]))]) (hS : va_S (zlA s) s.heap H locs) (hl : lv_has ls 9 [(0, .ref b), (1, .ref x), (2, .ref mm), (3, .ref ou), (4, .int (iz (0)))]) : W p l e room_1 s m #[Value.ref b] below meth c H locs 200 4000 (lw_Z below #[Value.ref b] s) (F0 m 1163 ls []) := by
  obtain ⟨hx, hb, hr, hml, hown, hts, hX, hbl, hlocks, hgv⟩ := id C0
  have hbA : ¬ zlA s b := Nat.not_le.mpr hbl
  have hK := hKX.1
  have hts : ∀ w ∈ wsL_law, w.before #[Value.ref b] s = true := fun w h => hts w (wsL_law_in w h)
  have hown : s.vm.findClass RL = some m.cls := hown
  have hA : ∀ q : Nat, s.heap.size ≤ q → zlA s q := fun _ h => h
  have hE := hEm
  have hv1 := zv_rng xs 1
  have hv2 := zv_rng xs 2
  have hv3 := zv_rng xs 3
  have hv4 := zv_rng xs 4
  have hv5 := zv_rng xs 5
  have hv6 := zv_rng xs 6
  have hv7 := zv_rng xs 7
  refine lv_aload_n hx hb dL_law_1163 rfl (lv_at hl 1 rfl) ?_
  refine lv_aload_n hx hb dL_law_1164 rfl (lv_at hl 0 rfl) ?_
  refine lv_iload hx hb dL_law_1165 (lv_at hl 4 rfl) ?_
  refine lv_iconst (v := iz (1)) hx hb dL_law_1167 rfl ?_
  refine zr_iadd hx hb dL_law_1168 ?_
  refine zr_sld hx hb hX hbl hbA hS 1 (by omega) (by omega) (by omega) dL_law_1169 ?_
  refine lv_aload_n hx hb dL_law_1170 rfl (lv_at hl 0 rfl) ?_
  refine lv_iload hx hb dL_law_1171 (lv_at hl 4 rfl) ?_
  refine lv_iconst (v := iz (2)) hx hb dL_law_1173 rfl ?_
  refine zr_iadd hx hb dL_law_1174 ?_
  refine zr_sld hx hb hX hbl hbA hS 2 (by omega) (by omega) (by omega) dL_law_1175 ?_
  refine zr_i2l hx hb (x := zv xs 2) (⟨by omega, by omega⟩) dL_law_1176 ?_
  refine lv_bipush (v := iz (32)) hx hb dL_law_1177 rfl ?_
  refine zr_lshl32 hx hb dL_law_1179 ?_
  refine lv_aload_n hx hb dL_law_1180 rfl (lv_at hl 0 rfl) ?_
  refine lv_iload hx hb dL_law_1181 (lv_at hl 4 rfl) ?_
  refine lv_iconst (v := iz (3)) hx hb dL_law_1183 rfl ?_
  refine zr_iadd hx hb dL_law_1184 ?_
  refine zr_sld hx hb hX hbl hbA hS 3 (by omega) (by omega) (by omega) dL_law_1185 ?_
  refine zr_i2l hx hb (x := zv xs 3) (⟨by omega, by omega⟩) dL_law_1186 ?_
  refine zr_ldc2 (z := 4294967295) hx hb hown (hts (.constantLong RL 137 (4294967295)) (by decide +kernel)) rfl dL_law_1187 ?_
  refine zr_land32 hx hb dL_law_1190 ?_
  refine zr_lor32 hx hb dL_law_1191 ?_
  refine lv_aload_n hx hb dL_law_1192 rfl (lv_at hl 3 rfl) ?_
  refine zc_i (wr := [(mm, .inr (13, [.int (iz (0)), .int (iz (6)), .ref ma, .null, .ref mt, .ref ml, .int (iz (0)), .ref mw, .int (iz (0)), .ref mb, .ref mp, .int (iz (0))]))]) (vx_runSW (As := [.ref x, .int (iz (zv xs 1)), .long (lz (zlo (zv xs 2) (zv xs 3))), .ref ou]) (rest := []) ⟨hx, hb, hml, hown, hts⟩ (c_L_early l G s1 s2 s3 x ro rw bo li sh tx lo nl lw0 lw1 lw2 lw3 lw4 lw5 rws (zv xs 1) (zlo (zv xs 2) (zv xs 3)) ou (fun _ => 0) hl0 H.size) (vx_cwSW 4 hts gL_law_L_early rfl rfl rfl (by decide +kernel) ⟨Nat.le_of_ble_eq_true rfl, Nat.le_of_ble_eq_true rfl⟩) (zpSe zXL_ok hEc hS hA hKX hP hD [0, 1, 2] rfl rfl) rfl rfl hl.1 rfl (lv_room (Nat.le_of_ble_eq_true rfl)) dL_law_1193 ⟨(by show _ ≤ (600002 : Nat); omega), (by show _ ≤ (7302232 : Nat); omega)⟩) hP hD hS hA [0, 1, 2] [3] rfl rfl rfl (by decide) (fun kk u_1 H locs hw hP hD hS => ?_)
  have hP : va_P G.1 vwCl [(mm, .inr (13, [.int (iz (0)), .int (iz (6)), .ref ma, .null, .ref mt, .ref ml, .int (iz (0)), .ref mw, .int (iz (0)), .ref mb, .ref mp, .int (iz (0))])), (ou, zaL (G.2 0) 1 ((fun _ => 0)))] H := hP
  have hD : va_D (zlA s) [(mm, .inr (13, [.int (iz (0)), .int (iz (6)), .ref ma, .null, .ref mt, .ref ml, .int (iz (0)), .ref mw, .int (iz (0)), .ref mb, .ref mp, .int (iz (0))])), (ou, zaL (G.2 0) 1 ((fun _ => 0)))] := hD
  have hw : kk = 2 := hw
  rw [show kk = 2 from hw]
  refine lv_istore (lv' := [(5, .int (iz (2))), (0, .ref b), (1, .ref x), (2, .ref mm), (3, .ref ou), (4, .int (iz (0)))]) hx hb dL_law_1196 hl (by decide) rfl (fun ls hl => ?_)
  refine lv_aload_n hx hb dL_law_1198 rfl (lv_at hl 3 rfl) ?_
  refine lv_aload_n hx hb dL_law_1199 rfl (lv_at hl 1 rfl) ?_
  refine lv_iload hx hb dL_law_1200 (lv_at hl 5 rfl) ?_
  refine lv_iconst (v := iz (1)) hx hb dL_law_1202 rfl ?_
  refine zr_iadd hx hb dL_law_1203 ?_
  refine zr_sld hx hb hX hbl hbA hS 1 (by omega) (by omega) (by omega) dL_law_1204 ?_
  refine lv_aload_n hx hb dL_law_1205 rfl (lv_at hl 1 rfl) ?_
  refine lv_iload hx hb dL_law_1206 (lv_at hl 5 rfl) ?_
  refine lv_iconst (v := iz (2)) hx hb dL_law_1208 rfl ?_
  refine zr_iadd hx hb dL_law_1209 ?_
  refine zr_sld hx hb hX hbl hbA hS 2 (by omega) (by omega) (by omega) dL_law_1210 ?_
  refine zr_i2l hx hb (x := zv xs 2) (⟨by omega, by omega⟩) dL_law_1211 ?_
  refine lv_bipush (v := iz (32)) hx hb dL_law_1212 rfl ?_
  refine zr_lshl32 hx hb dL_law_1214 ?_
  refine lv_aload_n hx hb dL_law_1215 rfl (lv_at hl 1 rfl) ?_
  refine lv_iload hx hb dL_law_1216 (lv_at hl 5 rfl) ?_
  refine lv_iconst (v := iz (3)) hx hb dL_law_1218 rfl ?_
  refine zr_iadd hx hb dL_law_1219 ?_
  refine zr_sld hx hb hX hbl hbA hS 3 (by omega) (by omega) (by omega) dL_law_1220 ?_
  refine zr_i2l hx hb (x := zv xs 3) (⟨by omega, by omega⟩) dL_law_1221 ?_
  refine zr_ldc2 (z := 4294967295) hx hb hown (hts (.constantLong RL 137 (4294967295)) (by decide +kernel)) rfl dL_law_1222 ?_
  refine zr_land32 hx hb dL_law_1225 ?_
  refine zr_lor32 hx hb dL_law_1226 ?_
  refine zc_i (wr := [(ou, zaL (G.2 0) 1 ((fun _ => 0)))]) (va_runV (As := [.int (iz (zv xs 1)), .long (lz (zlo (zv xs 2) (zv xs 3)))]) (rest := []) ⟨hx, hb, hml, hown, hts⟩ (c_X12_early l G mm ma mt ml mw mb mp 0 (zv xs 1) (zlo (zv xs 2) (zv xs 3))  H.size) (cwV 2 hts gL_law_X12_early rfl rfl rfl (by decide +kernel) ⟨Nat.le_of_ble_eq_true rfl, Nat.le_of_ble_eq_true rfl⟩) (zpV hKX hP hD [0] rfl rfl 0 13 rfl rfl) rfl rfl hl.1 rfl (lv_room (Nat.le_of_ble_eq_true rfl)) dL_law_1227 ⟨(by show _ ≤ (600002 : Nat); omega), (by show _ ≤ (7302232 : Nat); omega)⟩) hP hD hS hA [0] [1] rfl rfl rfl (by decide) (fun zm u_3 H locs hm hP hD hS => ?_)
  generalize u_3 = thm at hP hD hm
  have hP : va_P G.1 vwCl [(ou, zaL (G.2 0) 1 ((fun _ => 0))), (mm, .inr (13, [.int (iz (thm)), .int (iz (6)), .ref ma, .null, .ref mt, .ref ml, .int (iz (0)), .ref mw, .int (iz (0)), .ref mb, .ref mp, .int (iz (0))]))] H := hP
  have hD : va_D (zlA s) [(ou, zaL (G.2 0) 1 ((fun _ => 0))), (mm, .inr (13, [.int (iz (thm)), .int (iz (6)), .ref ma, .null, .ref mt, .ref ml, .int (iz (0)), .ref mw, .int (iz (0)), .ref mb, .ref mp, .int (iz (0))]))] := hD
  have hm : zm = 0 ∧ thm = 2 := hm
  have htp := hm.2
  refine lv_istore (lv' := [(6, .int (iz (zm))), (5, .int (iz (2))), (0, .ref b), (1, .ref x), (2, .ref mm), (3, .ref ou), (4, .int (iz (0)))]) hx hb dL_law_1230 hl (by decide) rfl (fun ls hl => ?_)
  refine lv_aload_n hx hb dL_law_1232 rfl (lv_at hl 4 rfl) ?_
  refine zc_i (wr := [(ou, zaL (G.2 0) 1 ((fun _ => 0)))]) (va_runV (As := []) (rest := []) ⟨hx, hb, hml, hown, hts⟩ (c_X12_thrown_v l G mm thm (.ref ma) .null (.ref mt) (.ref ml) (.int (iz (0))) (.ref mw) (.int (iz (0))) (.ref mb) (.ref mp) (.int (iz (0))) 6  H.size) (cwV 0 hts gL_law_X12_thrown rfl rfl rfl (by decide +kernel) ⟨Nat.le_of_ble_eq_true rfl, Nat.le_of_ble_eq_true rfl⟩) (zpV hKX hP hD [1] rfl rfl 1 13 rfl rfl) rfl rfl hl.1 rfl (lv_room (Nat.le_of_ble_eq_true rfl)) dL_law_1233 ⟨(by show _ ≤ (600002 : Nat); omega), (by show _ ≤ (7302232 : Nat); omega)⟩) hP hD hS hA [1] [0] rfl rfl rfl (by decide) (fun th9 u_5 H locs hth hP hD hS => ?_)
  have hP : va_P G.1 vwCl [(ou, zaL (G.2 0) 1 ((fun _ => 0))), (mm, .inr (13, [.int (iz (thm)), .int (iz ((6 : Int))), .ref ma, .null, .ref mt, .ref ml, .int (iz (0)), .ref mw, .int (iz (0)), .ref mb, .ref mp, .int (iz (0))]))] H := hP
  have hD : va_D (zlA s) [(ou, zaL (G.2 0) 1 ((fun _ => 0))), (mm, .inr (13, [.int (iz (thm)), .int (iz ((6 : Int))), .ref ma, .null, .ref mt, .ref ml, .int (iz (0)), .ref mw, .int (iz (0)), .ref mb, .ref mp, .int (iz (0))]))] := hD
  have hth : th9 = thm := hth
  rw [show th9 = 2 from hth.trans htp]
  refine lv_iload hx hb dL_law_1236 (lv_at hl 1 rfl) ?_
  refine zr_icmp_eq (x := 2) (y := 2) (tgt := 1243) hx hb (⟨by omega, by omega⟩) (⟨by omega, by omega⟩) dL_law_1238 (by decide) (fun h_7 => ?_) (fun h_7 => ?_)
  ·
    refine lv_iload hx hb dL_law_1243 (lv_at hl 1 rfl) ?_
    refine zr_if_ne (x := 2) (tgt := 1260) hx hb (⟨by omega, by omega⟩) dL_law_1245 (by decide) (fun h_8 => ?_) (fun h_8 => ?_)
    ·
      refine lv_goto (tgt := 3039) hx hb dL_law_1260 (by decide) ?_
      exact zl_end hL8 C0 hS (lv_sub hl [2, 6] rfl) (by show _ ≤ (600002 : Nat); omega) (by show _ ≤ (7302232 : Nat); omega)
    · exact absurd h_8 (by omega)
  · exact absurd h_7 (by omega)

set_option maxHeartbeats 4000000 in
set_option maxRecDepth 100000 in
theorem zl_15 {p : Program} {e : Env} {s : State} {m : MethodId} {below : List Frame} {meth : Method} {c : Code} {l : Launch} (hl0 : l.stackTraces = false) {b L : Nat} {xs : Nat → Int32} (hL8 : L = 8) (C0 : lw_At p s m meth c b L xs) {G : zG} {nA nB nE s1 s2 s3 : Nat} (hKX : zK G s) (hEm : zE G nA nB nE (zlA s) s) (hEc : zXL s1 s2 s3 (zlA s) s) (x : Nat) (ro : Nat) (rw : Nat) (bo : Nat) (li : Nat) (sh : Nat) (tx : Nat) (lo : Nat) (nl : Nat) (lw0 : Value) (lw1 : Value) (lw2 : Value) (lw3 : Value) (lw4 : Value) (lw5 : Value) (rws : Int) (ou : Nat) (mm : Nat) (ma : Nat) (mt : Nat) (ml : Nat) (mw : Nat) (mb : Nat) (mp : Nat) {H : Heap} {locs : List Loc} {ls : Array Slot} (hP : va_P G.1 vwCl [(x, .inr (10, [.ref ro, .ref rw, .ref bo, .ref li, .ref sh, .ref tx, .ref lo, .ref nl])), (lo, .inr (4, [lw0, lw1, lw2, lw3, lw4, lw5, .int (iz (0)), .int (iz (rws))])), (ou, zaL (G.2 0) 1 (fun _ => 0)), (mm, .inr (13, [.int (iz (0)), .int (iz (6)), .ref ma, .null, .ref mt, .ref ml, .int (iz (0)), .ref mw, .int (iz (0)), .ref mb, .ref mp, .int (iz (0))]))] H) (hD : va_D (zlA s) [(x, .inr (10, [.ref ro, .ref rw, .ref bo, .ref li, .ref sh, .ref tx, .ref lo, .ref nl])), (lo, .inr (4, [lw0, lw1, lw2, lw3, lw4, lw5, .int (iz (0)), .int (iz (rws))])), (ou, zaL (G.2 0) 1 (fun _ => 0)), (mm, .inr (13, [.int (iz (0)), .int (iz (6)), .ref ma, .null, .ref mt, .ref ml, .int (iz (0)), .ref mw, .int (iz (0)), .ref mb, .ref mp, .int (iz (0))]))]) (hS : va_S (zlA s) s.heap H locs) (hl : lv_has ls 9 [(0, .ref b), (1, .ref x), (2, .ref mm), (3, .ref ou), (4, .int (iz (0)))]) : W p l e room_1 s m #[Value.ref b] below meth c H locs 200 4000 (lw_Z below #[Value.ref b] s) (F0 m 1263 ls []) := by
  obtain ⟨hx, hb, hr, hml, hown, hts, hX, hbl, hlocks, hgv⟩ := id C0
  have hbA : ¬ zlA s b := Nat.not_le.mpr hbl
  have hK := hKX.1
  have hts : ∀ w ∈ wsL_law, w.before #[Value.ref b] s = true := fun w h => hts w (wsL_law_in w h)
  have hown : s.vm.findClass RL = some m.cls := hown
  have hA : ∀ q : Nat, s.heap.size ≤ q → zlA s q := fun _ h => h
  have hE := hEm
  have hv1 := zv_rng xs 1
  have hv2 := zv_rng xs 2
  have hv3 := zv_rng xs 3
  have hv4 := zv_rng xs 4
  have hv5 := zv_rng xs 5
  have hv6 := zv_rng xs 6
  have hv7 := zv_rng xs 7
  refine lv_aload_n hx hb dL_law_1263 rfl (lv_at hl 1 rfl) ?_
  refine lv_aload_n hx hb dL_law_1264 rfl (lv_at hl 3 rfl) ?_
  refine zc_i (wr := [(mm, .inr (13, [.int (iz (0)), .int (iz (6)), .ref ma, .null, .ref mt, .ref ml, .int (iz (0)), .ref mw, .int (iz (0)), .ref mb, .ref mp, .int (iz (0))]))]) (vx_runSW (As := [.ref x, .ref ou]) (rest := []) ⟨hx, hb, hml, hown, hts⟩ (c_L_rows l G s1 s2 s3 x ro rw bo li sh tx lo nl lw0 lw1 lw2 lw3 lw4 lw5 rws ou (fun _ => 0) hl0 H.size) (vx_cwSW 2 hts gL_law_L_rows rfl rfl rfl (by decide +kernel) ⟨Nat.le_of_ble_eq_true rfl, Nat.le_of_ble_eq_true rfl⟩) (zpSe zXL_ok hEc hS hA hKX hP hD [0, 1, 2] rfl rfl) rfl rfl hl.1 rfl (lv_room (Nat.le_of_ble_eq_true rfl)) dL_law_1265 ⟨(by show _ ≤ (600002 : Nat); omega), (by show _ ≤ (7302232 : Nat); omega)⟩) hP hD hS hA [0, 1, 2] [3] rfl rfl rfl (by decide) (fun kk u_1 H locs hw hP hD hS => ?_)
  have hP : va_P G.1 vwCl [(mm, .inr (13, [.int (iz (0)), .int (iz (6)), .ref ma, .null, .ref mt, .ref ml, .int (iz (0)), .ref mw, .int (iz (0)), .ref mb, .ref mp, .int (iz (0))])), (ou, zaL (G.2 0) 1 ((fun _ => 0)))] H := hP
  have hD : va_D (zlA s) [(mm, .inr (13, [.int (iz (0)), .int (iz (6)), .ref ma, .null, .ref mt, .ref ml, .int (iz (0)), .ref mw, .int (iz (0)), .ref mb, .ref mp, .int (iz (0))])), (ou, zaL (G.2 0) 1 ((fun _ => 0)))] := hD
  have hw : kk = 1 := hw
  rw [show kk = 1 from hw]
  refine lv_istore (lv' := [(5, .int (iz (1))), (0, .ref b), (1, .ref x), (2, .ref mm), (3, .ref ou), (4, .int (iz (0)))]) hx hb dL_law_1268 hl (by decide) rfl (fun ls hl => ?_)
  refine lv_aload_n hx hb dL_law_1270 rfl (lv_at hl 3 rfl) ?_
  refine zc_i (wr := [(ou, zaL (G.2 0) 1 ((fun _ => 0)))]) (va_runV (As := []) (rest := []) ⟨hx, hb, hml, hown, hts⟩ (c_X12_rows l G mm ma mt ml mw mb mp 0  H.size) (cwV 0 hts gL_law_X12_rows rfl rfl rfl (by decide +kernel) ⟨Nat.le_of_ble_eq_true rfl, Nat.le_of_ble_eq_true rfl⟩) (zpV hKX hP hD [0] rfl rfl 0 13 rfl rfl) rfl rfl hl.1 rfl (lv_room (Nat.le_of_ble_eq_true rfl)) dL_law_1271 ⟨(by show _ ≤ (600002 : Nat); omega), (by show _ ≤ (7302232 : Nat); omega)⟩) hP hD hS hA [0] [1] rfl rfl rfl (by decide) (fun zm u_3 H locs hm hP hD hS => ?_)
  generalize u_3 = thm at hP hD hm
  have hP : va_P G.1 vwCl [(ou, zaL (G.2 0) 1 ((fun _ => 0))), (mm, .inr (13, [.int (iz (thm)), .int (iz (6)), .ref ma, .null, .ref mt, .ref ml, .int (iz (0)), .ref mw, .int (iz (0)), .ref mb, .ref mp, .int (iz (0))]))] H := hP
  have hD : va_D (zlA s) [(ou, zaL (G.2 0) 1 ((fun _ => 0))), (mm, .inr (13, [.int (iz (thm)), .int (iz (6)), .ref ma, .null, .ref mt, .ref ml, .int (iz (0)), .ref mw, .int (iz (0)), .ref mb, .ref mp, .int (iz (0))]))] := hD
  have hm : zm = 0 ∧ thm = 1 := hm
  have htp := hm.2
  refine lv_istore (lv' := [(6, .int (iz (zm))), (5, .int (iz (1))), (0, .ref b), (1, .ref x), (2, .ref mm), (3, .ref ou), (4, .int (iz (0)))]) hx hb dL_law_1274 hl (by decide) rfl (fun ls hl => ?_)
  refine lv_aload_n hx hb dL_law_1276 rfl (lv_at hl 4 rfl) ?_
  refine zc_i (wr := [(ou, zaL (G.2 0) 1 ((fun _ => 0)))]) (va_runV (As := []) (rest := []) ⟨hx, hb, hml, hown, hts⟩ (c_X12_thrown_v l G mm thm (.ref ma) .null (.ref mt) (.ref ml) (.int (iz (0))) (.ref mw) (.int (iz (0))) (.ref mb) (.ref mp) (.int (iz (0))) 6  H.size) (cwV 0 hts gL_law_X12_thrown rfl rfl rfl (by decide +kernel) ⟨Nat.le_of_ble_eq_true rfl, Nat.le_of_ble_eq_true rfl⟩) (zpV hKX hP hD [1] rfl rfl 1 13 rfl rfl) rfl rfl hl.1 rfl (lv_room (Nat.le_of_ble_eq_true rfl)) dL_law_1277 ⟨(by show _ ≤ (600002 : Nat); omega), (by show _ ≤ (7302232 : Nat); omega)⟩) hP hD hS hA [1] [0] rfl rfl rfl (by decide) (fun th9 u_5 H locs hth hP hD hS => ?_)
  have hP : va_P G.1 vwCl [(ou, zaL (G.2 0) 1 ((fun _ => 0))), (mm, .inr (13, [.int (iz (thm)), .int (iz ((6 : Int))), .ref ma, .null, .ref mt, .ref ml, .int (iz (0)), .ref mw, .int (iz (0)), .ref mb, .ref mp, .int (iz (0))]))] H := hP
  have hD : va_D (zlA s) [(ou, zaL (G.2 0) 1 ((fun _ => 0))), (mm, .inr (13, [.int (iz (thm)), .int (iz ((6 : Int))), .ref ma, .null, .ref mt, .ref ml, .int (iz (0)), .ref mw, .int (iz (0)), .ref mb, .ref mp, .int (iz (0))]))] := hD
  have hth : th9 = thm := hth
  rw [show th9 = 1 from hth.trans htp]
  refine lv_iload hx hb dL_law_1280 (lv_at hl 1 rfl) ?_
  refine zr_icmp_eq (x := 1) (y := 1) (tgt := 1287) hx hb (⟨by omega, by omega⟩) (⟨by omega, by omega⟩) dL_law_1282 (by decide) (fun h_7 => ?_) (fun h_7 => ?_)
  ·
    refine lv_iload hx hb dL_law_1287 (lv_at hl 1 rfl) ?_
    refine zr_if_ne (x := 1) (tgt := 1304) hx hb (⟨by omega, by omega⟩) dL_law_1289 (by decide) (fun h_8 => ?_) (fun h_8 => ?_)
    ·
      refine lv_goto (tgt := 3039) hx hb dL_law_1304 (by decide) ?_
      exact zl_end hL8 C0 hS (lv_sub hl [2, 6] rfl) (by show _ ≤ (600002 : Nat); omega) (by show _ ≤ (7302232 : Nat); omega)
    · exact absurd h_8 (by omega)
  · exact absurd h_7 (by omega)

set_option maxHeartbeats 4000000 in
set_option maxRecDepth 100000 in
theorem zl_16 {p : Program} {e : Env} {s : State} {m : MethodId} {below : List Frame} {meth : Method} {c : Code} {l : Launch} (hl0 : l.stackTraces = false) {b L : Nat} {xs : Nat → Int32} (hL8 : L = 8) (C0 : lw_At p s m meth c b L xs) {G : zG} {nA nB nE s1 s2 s3 : Nat} (hKX : zK G s) (hEm : zE G nA nB nE (zlA s) s) (hEc : zXL s1 s2 s3 (zlA s) s) (x : Nat) (ro : Nat) (rw : Nat) (bo : Nat) (li : Nat) (sh : Nat) (tx : Nat) (lo : Nat) (nl : Nat) (lw0 : Value) (lw1 : Value) (lw2 : Value) (lw3 : Value) (lw4 : Value) (lw5 : Value) (rws : Int) (ou : Nat) (mm : Nat) (ma : Nat) (mt : Nat) (ml : Nat) (mw : Nat) (mb : Nat) (mp : Nat) {H : Heap} {locs : List Loc} {ls : Array Slot} (hP : va_P G.1 vwCl [(x, .inr (10, [.ref ro, .ref rw, .ref bo, .ref li, .ref sh, .ref tx, .ref lo, .ref nl])), (lo, .inr (4, [lw0, lw1, lw2, lw3, lw4, lw5, .int (iz (0)), .int (iz (rws))])), (ou, zaL (G.2 0) 1 (fun _ => 0)), (mm, .inr (13, [.int (iz (0)), .int (iz (6)), .ref ma, .null, .ref mt, .ref ml, .int (iz (0)), .ref mw, .int (iz (0)), .ref mb, .ref mp, .int (iz (0))]))] H) (hD : va_D (zlA s) [(x, .inr (10, [.ref ro, .ref rw, .ref bo, .ref li, .ref sh, .ref tx, .ref lo, .ref nl])), (lo, .inr (4, [lw0, lw1, lw2, lw3, lw4, lw5, .int (iz (0)), .int (iz (rws))])), (ou, zaL (G.2 0) 1 (fun _ => 0)), (mm, .inr (13, [.int (iz (0)), .int (iz (6)), .ref ma, .null, .ref mt, .ref ml, .int (iz (0)), .ref mw, .int (iz (0)), .ref mb, .ref mp, .int (iz (0))]))]) (hS : va_S (zlA s) s.heap H locs) (hl : lv_has ls 9 [(0, .ref b), (1, .ref x), (2, .ref mm), (3, .ref ou), (4, .int (iz (0)))]) : W p l e room_1 s m #[Value.ref b] below meth c H locs 200 4000 (lw_Z below #[Value.ref b] s) (F0 m 1307 ls []) := by
  obtain ⟨hx, hb, hr, hml, hown, hts, hX, hbl, hlocks, hgv⟩ := id C0
  have hbA : ¬ zlA s b := Nat.not_le.mpr hbl
  have hK := hKX.1
  have hts : ∀ w ∈ wsL_law, w.before #[Value.ref b] s = true := fun w h => hts w (wsL_law_in w h)
  have hown : s.vm.findClass RL = some m.cls := hown
  have hA : ∀ q : Nat, s.heap.size ≤ q → zlA s q := fun _ h => h
  have hE := hEm
  have hv1 := zv_rng xs 1
  have hv2 := zv_rng xs 2
  have hv3 := zv_rng xs 3
  have hv4 := zv_rng xs 4
  have hv5 := zv_rng xs 5
  have hv6 := zv_rng xs 6
  have hv7 := zv_rng xs 7
  refine lv_aload_n hx hb dL_law_1307 rfl (lv_at hl 1 rfl) ?_
  refine lv_aload_n hx hb dL_law_1308 rfl (lv_at hl 0 rfl) ?_
  refine lv_iload hx hb dL_law_1309 (lv_at hl 4 rfl) ?_
  refine lv_iconst (v := iz (1)) hx hb dL_law_1311 rfl ?_
  refine zr_iadd hx hb dL_law_1312 ?_
  refine zr_sld hx hb hX hbl hbA hS 1 (by omega) (by omega) (by omega) dL_law_1313 ?_
  refine lv_aload_n hx hb dL_law_1314 rfl (lv_at hl 0 rfl) ?_
  refine lv_iload hx hb dL_law_1315 (lv_at hl 4 rfl) ?_
  refine lv_iconst (v := iz (2)) hx hb dL_law_1317 rfl ?_
  refine zr_iadd hx hb dL_law_1318 ?_
  refine zr_sld hx hb hX hbl hbA hS 2 (by omega) (by omega) (by omega) dL_law_1319 ?_
  refine lv_aload_n hx hb dL_law_1320 rfl (lv_at hl 3 rfl) ?_
  refine zc_i (wr := [(mm, .inr (13, [.int (iz (0)), .int (iz (6)), .ref ma, .null, .ref mt, .ref ml, .int (iz (0)), .ref mw, .int (iz (0)), .ref mb, .ref mp, .int (iz (0))]))]) (vx_runSW (As := [.ref x, .int (iz (zv xs 1)), .int (iz (zv xs 2)), .ref ou]) (rest := []) ⟨hx, hb, hml, hown, hts⟩ (c_L_rowOf l G s1 s2 s3 x ro rw bo li sh tx lo nl lw0 lw1 lw2 lw3 lw4 lw5 rws (zv xs 1) (zv xs 2) ou (fun _ => 0) hl0 H.size) (vx_cwSW 4 hts gL_law_L_rowOf rfl rfl rfl (by decide +kernel) ⟨Nat.le_of_ble_eq_true rfl, Nat.le_of_ble_eq_true rfl⟩) (zpSe zXL_ok hEc hS hA hKX hP hD [0, 1, 2] rfl rfl) rfl rfl hl.1 rfl (lv_room (Nat.le_of_ble_eq_true rfl)) dL_law_1321 ⟨(by show _ ≤ (600002 : Nat); omega), (by show _ ≤ (7302232 : Nat); omega)⟩) hP hD hS hA [0, 1, 2] [3] rfl rfl rfl (by decide) (fun kk u_1 H locs hw hP hD hS => ?_)
  have hP : va_P G.1 vwCl [(mm, .inr (13, [.int (iz (0)), .int (iz (6)), .ref ma, .null, .ref mt, .ref ml, .int (iz (0)), .ref mw, .int (iz (0)), .ref mb, .ref mp, .int (iz (0))])), (ou, zaL (G.2 0) 1 ((fun _ => 0)))] H := hP
  have hD : va_D (zlA s) [(mm, .inr (13, [.int (iz (0)), .int (iz (6)), .ref ma, .null, .ref mt, .ref ml, .int (iz (0)), .ref mw, .int (iz (0)), .ref mb, .ref mp, .int (iz (0))])), (ou, zaL (G.2 0) 1 ((fun _ => 0)))] := hD
  have hw : kk = 3 := hw
  rw [show kk = 3 from hw]
  refine lv_istore (lv' := [(5, .int (iz (3))), (0, .ref b), (1, .ref x), (2, .ref mm), (3, .ref ou), (4, .int (iz (0)))]) hx hb dL_law_1324 hl (by decide) rfl (fun ls hl => ?_)
  refine lv_aload_n hx hb dL_law_1326 rfl (lv_at hl 3 rfl) ?_
  refine lv_aload_n hx hb dL_law_1327 rfl (lv_at hl 1 rfl) ?_
  refine lv_iload hx hb dL_law_1328 (lv_at hl 5 rfl) ?_
  refine lv_iconst (v := iz (1)) hx hb dL_law_1330 rfl ?_
  refine zr_iadd hx hb dL_law_1331 ?_
  refine zr_sld hx hb hX hbl hbA hS 1 (by omega) (by omega) (by omega) dL_law_1332 ?_
  refine lv_aload_n hx hb dL_law_1333 rfl (lv_at hl 1 rfl) ?_
  refine lv_iload hx hb dL_law_1334 (lv_at hl 5 rfl) ?_
  refine lv_iconst (v := iz (2)) hx hb dL_law_1336 rfl ?_
  refine zr_iadd hx hb dL_law_1337 ?_
  refine zr_sld hx hb hX hbl hbA hS 2 (by omega) (by omega) (by omega) dL_law_1338 ?_
  refine zc_l (wr := [(ou, zaL (G.2 0) 1 ((fun _ => 0)))]) (va_runV (As := [.int (iz (zv xs 1)), .int (iz (zv xs 2))]) (rest := []) ⟨hx, hb, hml, hown, hts⟩ (c_X12_rowOf l G mm ma mt ml mw mb mp 0 (zv xs 1) (zv xs 2)  H.size) (cwV 2 hts gL_law_X12_rowOf rfl rfl rfl (by decide +kernel) ⟨Nat.le_of_ble_eq_true rfl, Nat.le_of_ble_eq_true rfl⟩) (zpV hKX hP hD [0] rfl rfl 0 13 rfl rfl) rfl rfl hl.1 rfl (lv_room (Nat.le_of_ble_eq_true rfl)) dL_law_1339 ⟨(by show _ ≤ (600002 : Nat); omega), (by show _ ≤ (7302232 : Nat); omega)⟩) hP hD hS hA [0] [1] rfl rfl rfl (by decide) (fun zm u_3 H locs hm hP hD hS => ?_)
  generalize u_3 = thm at hP hD hm
  have hP : va_P G.1 vwCl [(ou, zaL (G.2 0) 1 ((fun _ => 0))), (mm, .inr (13, [.int (iz (thm)), .int (iz (6)), .ref ma, .null, .ref mt, .ref ml, .int (iz (0)), .ref mw, .int (iz (0)), .ref mb, .ref mp, .int (iz (0))]))] H := hP
  have hD : va_D (zlA s) [(ou, zaL (G.2 0) 1 ((fun _ => 0))), (mm, .inr (13, [.int (iz (thm)), .int (iz (6)), .ref ma, .null, .ref mt, .ref ml, .int (iz (0)), .ref mw, .int (iz (0)), .ref mb, .ref mp, .int (iz (0))]))] := hD
  have hm : zm = 0 ∧ thm = 3 := hm
  have htp := hm.2
  refine lv_lstore (lv' := [(6, .long (lz (zm))), (5, .int (iz (3))), (0, .ref b), (1, .ref x), (2, .ref mm), (3, .ref ou), (4, .int (iz (0)))]) hx hb dL_law_1342 hl (by decide) rfl (fun ls hl => ?_)
  refine lv_aload_n hx hb dL_law_1344 rfl (lv_at hl 4 rfl) ?_
  refine zc_i (wr := [(ou, zaL (G.2 0) 1 ((fun _ => 0)))]) (va_runV (As := []) (rest := []) ⟨hx, hb, hml, hown, hts⟩ (c_X12_thrown_v l G mm thm (.ref ma) .null (.ref mt) (.ref ml) (.int (iz (0))) (.ref mw) (.int (iz (0))) (.ref mb) (.ref mp) (.int (iz (0))) 6  H.size) (cwV 0 hts gL_law_X12_thrown rfl rfl rfl (by decide +kernel) ⟨Nat.le_of_ble_eq_true rfl, Nat.le_of_ble_eq_true rfl⟩) (zpV hKX hP hD [1] rfl rfl 1 13 rfl rfl) rfl rfl hl.1 rfl (lv_room (Nat.le_of_ble_eq_true rfl)) dL_law_1345 ⟨(by show _ ≤ (600002 : Nat); omega), (by show _ ≤ (7302232 : Nat); omega)⟩) hP hD hS hA [1] [0] rfl rfl rfl (by decide) (fun th9 u_5 H locs hth hP hD hS => ?_)
  have hP : va_P G.1 vwCl [(ou, zaL (G.2 0) 1 ((fun _ => 0))), (mm, .inr (13, [.int (iz (thm)), .int (iz ((6 : Int))), .ref ma, .null, .ref mt, .ref ml, .int (iz (0)), .ref mw, .int (iz (0)), .ref mb, .ref mp, .int (iz (0))]))] H := hP
  have hD : va_D (zlA s) [(ou, zaL (G.2 0) 1 ((fun _ => 0))), (mm, .inr (13, [.int (iz (thm)), .int (iz ((6 : Int))), .ref ma, .null, .ref mt, .ref ml, .int (iz (0)), .ref mw, .int (iz (0)), .ref mb, .ref mp, .int (iz (0))]))] := hD
  have hth : th9 = thm := hth
  rw [show th9 = 3 from hth.trans htp]
  refine lv_iload hx hb dL_law_1348 (lv_at hl 1 rfl) ?_
  refine zr_icmp_eq (x := 3) (y := 3) (tgt := 1355) hx hb (⟨by omega, by omega⟩) (⟨by omega, by omega⟩) dL_law_1350 (by decide) (fun h_7 => ?_) (fun h_7 => ?_)
  ·
    refine lv_iload hx hb dL_law_1355 (lv_at hl 1 rfl) ?_
    refine zr_if_ne (x := 3) (tgt := 1371) hx hb (⟨by omega, by omega⟩) dL_law_1357 (by decide) (fun h_8 => ?_) (fun h_8 => ?_)
    ·
      refine lv_goto (tgt := 3039) hx hb dL_law_1371 (by decide) ?_
      exact zl_end hL8 C0 hS (lv_sub hl [2, 6] rfl) (by show _ ≤ (600002 : Nat); omega) (by show _ ≤ (7302232 : Nat); omega)
    · exact absurd h_8 (by omega)
  · exact absurd h_7 (by omega)

set_option maxHeartbeats 4000000 in
set_option maxRecDepth 100000 in
theorem zl_17 {p : Program} {e : Env} {s : State} {m : MethodId} {below : List Frame} {meth : Method} {c : Code} {l : Launch} (hl0 : l.stackTraces = false) {b L : Nat} {xs : Nat → Int32} (hL8 : L = 8) (C0 : lw_At p s m meth c b L xs) {G : zG} {nA nB nE s1 s2 s3 : Nat} (hKX : zK G s) (hEm : zE G nA nB nE (zlA s) s) (hEc : zXL s1 s2 s3 (zlA s) s) (x : Nat) (ro : Nat) (rw : Nat) (bo : Nat) (li : Nat) (sh : Nat) (tx : Nat) (lo : Nat) (nl : Nat) (lw0 : Value) (lw1 : Value) (lw2 : Value) (lw3 : Value) (lw4 : Value) (lw5 : Value) (rws : Int) (ou : Nat) (mm : Nat) (ma : Nat) (mt : Nat) (ml : Nat) (mw : Nat) (mb : Nat) (mp : Nat) {H : Heap} {locs : List Loc} {ls : Array Slot} (hP : va_P G.1 vwCl [(x, .inr (10, [.ref ro, .ref rw, .ref bo, .ref li, .ref sh, .ref tx, .ref lo, .ref nl])), (lo, .inr (4, [lw0, lw1, lw2, lw3, lw4, lw5, .int (iz (0)), .int (iz (rws))])), (ou, zaL (G.2 0) 1 (fun _ => 0)), (mm, .inr (13, [.int (iz (0)), .int (iz (6)), .ref ma, .null, .ref mt, .ref ml, .int (iz (0)), .ref mw, .int (iz (0)), .ref mb, .ref mp, .int (iz (0))]))] H) (hD : va_D (zlA s) [(x, .inr (10, [.ref ro, .ref rw, .ref bo, .ref li, .ref sh, .ref tx, .ref lo, .ref nl])), (lo, .inr (4, [lw0, lw1, lw2, lw3, lw4, lw5, .int (iz (0)), .int (iz (rws))])), (ou, zaL (G.2 0) 1 (fun _ => 0)), (mm, .inr (13, [.int (iz (0)), .int (iz (6)), .ref ma, .null, .ref mt, .ref ml, .int (iz (0)), .ref mw, .int (iz (0)), .ref mb, .ref mp, .int (iz (0))]))]) (hS : va_S (zlA s) s.heap H locs) (hl : lv_has ls 9 [(0, .ref b), (1, .ref x), (2, .ref mm), (3, .ref ou), (4, .int (iz (0)))]) : W p l e room_1 s m #[Value.ref b] below meth c H locs 200 4000 (lw_Z below #[Value.ref b] s) (F0 m 1374 ls []) := by
  obtain ⟨hx, hb, hr, hml, hown, hts, hX, hbl, hlocks, hgv⟩ := id C0
  have hbA : ¬ zlA s b := Nat.not_le.mpr hbl
  have hK := hKX.1
  have hts : ∀ w ∈ wsL_law, w.before #[Value.ref b] s = true := fun w h => hts w (wsL_law_in w h)
  have hown : s.vm.findClass RL = some m.cls := hown
  have hA : ∀ q : Nat, s.heap.size ≤ q → zlA s q := fun _ h => h
  have hE := hEm
  have hv1 := zv_rng xs 1
  have hv2 := zv_rng xs 2
  have hv3 := zv_rng xs 3
  have hv4 := zv_rng xs 4
  have hv5 := zv_rng xs 5
  have hv6 := zv_rng xs 6
  have hv7 := zv_rng xs 7
  refine lv_aload_n hx hb dL_law_1374 rfl (lv_at hl 1 rfl) ?_
  refine lv_aload_n hx hb dL_law_1375 rfl (lv_at hl 0 rfl) ?_
  refine lv_iload hx hb dL_law_1376 (lv_at hl 4 rfl) ?_
  refine lv_iconst (v := iz (1)) hx hb dL_law_1378 rfl ?_
  refine zr_iadd hx hb dL_law_1379 ?_
  refine zr_sld hx hb hX hbl hbA hS 1 (by omega) (by omega) (by omega) dL_law_1380 ?_
  refine lv_aload_n hx hb dL_law_1381 rfl (lv_at hl 3 rfl) ?_
  refine zc_i (wr := [(mm, .inr (13, [.int (iz (0)), .int (iz (6)), .ref ma, .null, .ref mt, .ref ml, .int (iz (0)), .ref mw, .int (iz (0)), .ref mb, .ref mp, .int (iz (0))]))]) (vx_runSW (As := [.ref x, .int (iz (zv xs 1)), .ref ou]) (rest := []) ⟨hx, hb, hml, hown, hts⟩ (c_L_total l G s1 s2 s3 x ro rw bo li sh tx lo nl lw0 lw1 lw2 lw3 lw4 lw5 rws (zv xs 1) ou (fun _ => 0) hl0 H.size) (vx_cwSW 3 hts gL_law_L_total rfl rfl rfl (by decide +kernel) ⟨Nat.le_of_ble_eq_true rfl, Nat.le_of_ble_eq_true rfl⟩) (zpSe zXL_ok hEc hS hA hKX hP hD [0, 1, 2] rfl rfl) rfl rfl hl.1 rfl (lv_room (Nat.le_of_ble_eq_true rfl)) dL_law_1382 ⟨(by show _ ≤ (600002 : Nat); omega), (by show _ ≤ (7302232 : Nat); omega)⟩) hP hD hS hA [0, 1, 2] [3] rfl rfl rfl (by decide) (fun kk u_1 H locs hw hP hD hS => ?_)
  have hP : va_P G.1 vwCl [(mm, .inr (13, [.int (iz (0)), .int (iz (6)), .ref ma, .null, .ref mt, .ref ml, .int (iz (0)), .ref mw, .int (iz (0)), .ref mb, .ref mp, .int (iz (0))])), (ou, zaL (G.2 0) 1 ((fun _ => 0)))] H := hP
  have hD : va_D (zlA s) [(mm, .inr (13, [.int (iz (0)), .int (iz (6)), .ref ma, .null, .ref mt, .ref ml, .int (iz (0)), .ref mw, .int (iz (0)), .ref mb, .ref mp, .int (iz (0))])), (ou, zaL (G.2 0) 1 ((fun _ => 0)))] := hD
  have hw : kk = 2 := hw
  rw [show kk = 2 from hw]
  refine lv_istore (lv' := [(5, .int (iz (2))), (0, .ref b), (1, .ref x), (2, .ref mm), (3, .ref ou), (4, .int (iz (0)))]) hx hb dL_law_1385 hl (by decide) rfl (fun ls hl => ?_)
  refine lv_aload_n hx hb dL_law_1387 rfl (lv_at hl 3 rfl) ?_
  refine lv_aload_n hx hb dL_law_1388 rfl (lv_at hl 1 rfl) ?_
  refine lv_iload hx hb dL_law_1389 (lv_at hl 5 rfl) ?_
  refine lv_iconst (v := iz (1)) hx hb dL_law_1391 rfl ?_
  refine zr_iadd hx hb dL_law_1392 ?_
  refine zr_sld hx hb hX hbl hbA hS 1 (by omega) (by omega) (by omega) dL_law_1393 ?_
  refine zc_l (wr := [(ou, zaL (G.2 0) 1 ((fun _ => 0)))]) (va_runV (As := [.int (iz (zv xs 1))]) (rest := []) ⟨hx, hb, hml, hown, hts⟩ (c_X12_total l G mm ma mt ml mw mb mp 0 (zv xs 1)  H.size) (cwV 1 hts gL_law_X12_total rfl rfl rfl (by decide +kernel) ⟨Nat.le_of_ble_eq_true rfl, Nat.le_of_ble_eq_true rfl⟩) (zpV hKX hP hD [0] rfl rfl 0 13 rfl rfl) rfl rfl hl.1 rfl (lv_room (Nat.le_of_ble_eq_true rfl)) dL_law_1394 ⟨(by show _ ≤ (600002 : Nat); omega), (by show _ ≤ (7302232 : Nat); omega)⟩) hP hD hS hA [0] [1] rfl rfl rfl (by decide) (fun zm u_3 H locs hm hP hD hS => ?_)
  generalize u_3 = thm at hP hD hm
  have hP : va_P G.1 vwCl [(ou, zaL (G.2 0) 1 ((fun _ => 0))), (mm, .inr (13, [.int (iz (thm)), .int (iz (6)), .ref ma, .null, .ref mt, .ref ml, .int (iz (0)), .ref mw, .int (iz (0)), .ref mb, .ref mp, .int (iz (0))]))] H := hP
  have hD : va_D (zlA s) [(ou, zaL (G.2 0) 1 ((fun _ => 0))), (mm, .inr (13, [.int (iz (thm)), .int (iz (6)), .ref ma, .null, .ref mt, .ref ml, .int (iz (0)), .ref mw, .int (iz (0)), .ref mb, .ref mp, .int (iz (0))]))] := hD
  have hm : zm = 0 ∧ thm = 2 := hm
  have htp := hm.2
  refine lv_lstore (lv' := [(6, .long (lz (zm))), (5, .int (iz (2))), (0, .ref b), (1, .ref x), (2, .ref mm), (3, .ref ou), (4, .int (iz (0)))]) hx hb dL_law_1397 hl (by decide) rfl (fun ls hl => ?_)
  refine lv_aload_n hx hb dL_law_1399 rfl (lv_at hl 4 rfl) ?_
  refine zc_i (wr := [(ou, zaL (G.2 0) 1 ((fun _ => 0)))]) (va_runV (As := []) (rest := []) ⟨hx, hb, hml, hown, hts⟩ (c_X12_thrown_v l G mm thm (.ref ma) .null (.ref mt) (.ref ml) (.int (iz (0))) (.ref mw) (.int (iz (0))) (.ref mb) (.ref mp) (.int (iz (0))) 6  H.size) (cwV 0 hts gL_law_X12_thrown rfl rfl rfl (by decide +kernel) ⟨Nat.le_of_ble_eq_true rfl, Nat.le_of_ble_eq_true rfl⟩) (zpV hKX hP hD [1] rfl rfl 1 13 rfl rfl) rfl rfl hl.1 rfl (lv_room (Nat.le_of_ble_eq_true rfl)) dL_law_1400 ⟨(by show _ ≤ (600002 : Nat); omega), (by show _ ≤ (7302232 : Nat); omega)⟩) hP hD hS hA [1] [0] rfl rfl rfl (by decide) (fun th9 u_5 H locs hth hP hD hS => ?_)
  have hP : va_P G.1 vwCl [(ou, zaL (G.2 0) 1 ((fun _ => 0))), (mm, .inr (13, [.int (iz (thm)), .int (iz ((6 : Int))), .ref ma, .null, .ref mt, .ref ml, .int (iz (0)), .ref mw, .int (iz (0)), .ref mb, .ref mp, .int (iz (0))]))] H := hP
  have hD : va_D (zlA s) [(ou, zaL (G.2 0) 1 ((fun _ => 0))), (mm, .inr (13, [.int (iz (thm)), .int (iz ((6 : Int))), .ref ma, .null, .ref mt, .ref ml, .int (iz (0)), .ref mw, .int (iz (0)), .ref mb, .ref mp, .int (iz (0))]))] := hD
  have hth : th9 = thm := hth
  rw [show th9 = 2 from hth.trans htp]
  refine lv_iload hx hb dL_law_1403 (lv_at hl 1 rfl) ?_
  refine zr_icmp_eq (x := 2) (y := 2) (tgt := 1410) hx hb (⟨by omega, by omega⟩) (⟨by omega, by omega⟩) dL_law_1405 (by decide) (fun h_7 => ?_) (fun h_7 => ?_)
  ·
    refine lv_iload hx hb dL_law_1410 (lv_at hl 1 rfl) ?_
    refine zr_if_ne (x := 2) (tgt := 1426) hx hb (⟨by omega, by omega⟩) dL_law_1412 (by decide) (fun h_8 => ?_) (fun h_8 => ?_)
    ·
      refine lv_goto (tgt := 3039) hx hb dL_law_1426 (by decide) ?_
      exact zl_end hL8 C0 hS (lv_sub hl [2, 6] rfl) (by show _ ≤ (600002 : Nat); omega) (by show _ ≤ (7302232 : Nat); omega)
    · exact absurd h_8 (by omega)
  · exact absurd h_7 (by omega)

set_option maxHeartbeats 4000000 in
set_option maxRecDepth 100000 in
theorem zl_18 {p : Program} {e : Env} {s : State} {m : MethodId} {below : List Frame} {meth : Method} {c : Code} {l : Launch} (hl0 : l.stackTraces = false) {b L : Nat} {xs : Nat → Int32} (hL8 : L = 8) (C0 : lw_At p s m meth c b L xs) {G : zG} {nA nB nE s1 s2 s3 : Nat} (hKX : zK G s) (hEm : zE G nA nB nE (zlA s) s) (hEc : zXL s1 s2 s3 (zlA s) s) (x : Nat) (ro : Nat) (rw : Nat) (bo : Nat) (li : Nat) (sh : Nat) (tx : Nat) (lo : Nat) (nl : Nat) (q : Nat) (sa : Nat) (da : Nat) (wa : Nat) (sb : Nat) (db : Nat) (wb : Nat) (ou : Nat) (mm : Nat) (ma : Nat) (mt : Nat) (ml : Nat) (mw : Nat) (mb : Nat) (mp : Nat) {H : Heap} {locs : List Loc} {ls : Array Slot} (hP : va_P G.1 vwCl [(x, .inr (10, [.ref ro, .ref rw, .ref bo, .ref li, .ref sh, .ref tx, .ref lo, .ref nl])), (bo, .inr (1, [.ref q])), (q, .inr (2, [.ref sa, .ref da, .ref wa, .long (lz (1)), .long (lz (1)), .int (iz (0))])), (sa, .inr (9, [.ref sb, .int (iz (0)), .long (lz (0))])), (sb, zaL (G.2 0) 40 (fun _ => 0)), (da, .inr (9, [.ref db, .int (iz (0)), .long (lz (0))])), (db, zaL (G.2 0) 40 (fun _ => 0)), (wa, .inr (9, [.ref wb, .int (iz (0)), .long (lz (0))])), (wb, zaL (G.2 0) 40 (fun _ => 0)), (ro, .inr (5, [.int (iz (6))])), (ou, zaL (G.2 0) 1 (fun _ => 0)), (mm, .inr (13, [.int (iz (0)), .int (iz (6)), .ref ma, .null, .ref mt, .ref ml, .int (iz (0)), .ref mw, .int (iz (0)), .ref mb, .ref mp, .int (iz (0))]))] H) (hD : va_D (zlA s) [(x, .inr (10, [.ref ro, .ref rw, .ref bo, .ref li, .ref sh, .ref tx, .ref lo, .ref nl])), (bo, .inr (1, [.ref q])), (q, .inr (2, [.ref sa, .ref da, .ref wa, .long (lz (1)), .long (lz (1)), .int (iz (0))])), (sa, .inr (9, [.ref sb, .int (iz (0)), .long (lz (0))])), (sb, zaL (G.2 0) 40 (fun _ => 0)), (da, .inr (9, [.ref db, .int (iz (0)), .long (lz (0))])), (db, zaL (G.2 0) 40 (fun _ => 0)), (wa, .inr (9, [.ref wb, .int (iz (0)), .long (lz (0))])), (wb, zaL (G.2 0) 40 (fun _ => 0)), (ro, .inr (5, [.int (iz (6))])), (ou, zaL (G.2 0) 1 (fun _ => 0)), (mm, .inr (13, [.int (iz (0)), .int (iz (6)), .ref ma, .null, .ref mt, .ref ml, .int (iz (0)), .ref mw, .int (iz (0)), .ref mb, .ref mp, .int (iz (0))]))]) (hS : va_S (zlA s) s.heap H locs) (hl : lv_has ls 9 [(0, .ref b), (1, .ref x), (2, .ref mm), (3, .ref ou), (4, .int (iz (0)))]) : W p l e room_1 s m #[Value.ref b] below meth c H locs 200 4000 (lw_Z below #[Value.ref b] s) (F0 m 1429 ls []) := by
  obtain ⟨hx, hb, hr, hml, hown, hts, hX, hbl, hlocks, hgv⟩ := id C0
  have hbA : ¬ zlA s b := Nat.not_le.mpr hbl
  have hK := hKX.1
  have hts : ∀ w ∈ wsL_law, w.before #[Value.ref b] s = true := fun w h => hts w (wsL_law_in w h)
  have hown : s.vm.findClass RL = some m.cls := hown
  have hA : ∀ q : Nat, s.heap.size ≤ q → zlA s q := fun _ h => h
  have hE := hEm
  have hv1 := zv_rng xs 1
  have hv2 := zv_rng xs 2
  have hv3 := zv_rng xs 3
  have hv4 := zv_rng xs 4
  have hv5 := zv_rng xs 5
  have hv6 := zv_rng xs 6
  have hv7 := zv_rng xs 7
  have hw1 := zlo_rng (zv xs 1) (zv xs 2)
  have hw3 := zlo_rng (zv xs 3) (zv xs 4)
  by_cases hco0 : 0 ≤ (zlo (zv xs 1) (zv xs 2)) ∧ (zlo (zv xs 1) (zv xs 2)) ≤ 1000000000 ∧ 0 ≤ (zlo (zv xs 3) (zv xs 4)) ∧ (zlo (zv xs 3) (zv xs 4)) ≤ 1000000000 ∧ 1 ≤ (zv xs 5) ∧ (zv xs 5) ≤ 40 ∧ 0 ≤ (zv xs 6) ∧ (zv xs 6) ≤ 20000
  ·
    refine lv_aload_n hx hb dL_law_1429 rfl (lv_at hl 1 rfl) ?_
    refine lv_aload_n hx hb dL_law_1430 rfl (lv_at hl 0 rfl) ?_
    refine lv_iload hx hb dL_law_1431 (lv_at hl 4 rfl) ?_
    refine lv_iconst (v := iz (1)) hx hb dL_law_1433 rfl ?_
    refine zr_iadd hx hb dL_law_1434 ?_
    refine zr_sld hx hb hX hbl hbA hS 1 (by omega) (by omega) (by omega) dL_law_1435 ?_
    refine zr_i2l hx hb (x := zv xs 1) (⟨by omega, by omega⟩) dL_law_1436 ?_
    refine lv_bipush (v := iz (32)) hx hb dL_law_1437 rfl ?_
    refine zr_lshl32 hx hb dL_law_1439 ?_
    refine lv_aload_n hx hb dL_law_1440 rfl (lv_at hl 0 rfl) ?_
    refine lv_iload hx hb dL_law_1441 (lv_at hl 4 rfl) ?_
    refine lv_iconst (v := iz (2)) hx hb dL_law_1443 rfl ?_
    refine zr_iadd hx hb dL_law_1444 ?_
    refine zr_sld hx hb hX hbl hbA hS 2 (by omega) (by omega) (by omega) dL_law_1445 ?_
    refine zr_i2l hx hb (x := zv xs 2) (⟨by omega, by omega⟩) dL_law_1446 ?_
    refine zr_ldc2 (z := 4294967295) hx hb hown (hts (.constantLong RL 137 (4294967295)) (by decide +kernel)) rfl dL_law_1447 ?_
    refine zr_land32 hx hb dL_law_1450 ?_
    refine zr_lor32 hx hb dL_law_1451 ?_
    refine lv_aload_n hx hb dL_law_1452 rfl (lv_at hl 0 rfl) ?_
    refine lv_iload hx hb dL_law_1453 (lv_at hl 4 rfl) ?_
    refine lv_iconst (v := iz (3)) hx hb dL_law_1455 rfl ?_
    refine zr_iadd hx hb dL_law_1456 ?_
    refine zr_sld hx hb hX hbl hbA hS 3 (by omega) (by omega) (by omega) dL_law_1457 ?_
    refine zr_i2l hx hb (x := zv xs 3) (⟨by omega, by omega⟩) dL_law_1458 ?_
    refine lv_bipush (v := iz (32)) hx hb dL_law_1459 rfl ?_
    refine zr_lshl32 hx hb dL_law_1461 ?_
    refine lv_aload_n hx hb dL_law_1462 rfl (lv_at hl 0 rfl) ?_
    refine lv_iload hx hb dL_law_1463 (lv_at hl 4 rfl) ?_
    refine lv_iconst (v := iz (4)) hx hb dL_law_1465 rfl ?_
    refine zr_iadd hx hb dL_law_1466 ?_
    refine zr_sld hx hb hX hbl hbA hS 4 (by omega) (by omega) (by omega) dL_law_1467 ?_
    refine zr_i2l hx hb (x := zv xs 4) (⟨by omega, by omega⟩) dL_law_1468 ?_
    refine zr_ldc2 (z := 4294967295) hx hb hown (hts (.constantLong RL 137 (4294967295)) (by decide +kernel)) rfl dL_law_1469 ?_
    refine zr_land32 hx hb dL_law_1472 ?_
    refine zr_lor32 hx hb dL_law_1473 ?_
    refine lv_aload_n hx hb dL_law_1474 rfl (lv_at hl 0 rfl) ?_
    refine lv_iload hx hb dL_law_1475 (lv_at hl 4 rfl) ?_
    refine lv_iconst (v := iz (5)) hx hb dL_law_1477 rfl ?_
    refine zr_iadd hx hb dL_law_1478 ?_
    refine zr_sld hx hb hX hbl hbA hS 5 (by omega) (by omega) (by omega) dL_law_1479 ?_
    refine lv_aload_n hx hb dL_law_1480 rfl (lv_at hl 0 rfl) ?_
    refine lv_iload hx hb dL_law_1481 (lv_at hl 4 rfl) ?_
    refine lv_bipush (v := iz (6)) hx hb dL_law_1483 rfl ?_
    refine zr_iadd hx hb dL_law_1485 ?_
    refine zr_sld hx hb hX hbl hbA hS 6 (by omega) (by omega) (by omega) dL_law_1486 ?_
    refine lv_aload_n hx hb dL_law_1487 rfl (lv_at hl 3 rfl) ?_
    refine zc_i (wr := [(mm, .inr (13, [.int (iz (0)), .int (iz (6)), .ref ma, .null, .ref mt, .ref ml, .int (iz (0)), .ref mw, .int (iz (0)), .ref mb, .ref mp, .int (iz (0))]))]) (vx_runSW (As := [.ref x, .long (lz (zlo (zv xs 1) (zv xs 2))), .long (lz (zlo (zv xs 3) (zv xs 4))), .int (iz (zv xs 5)), .int (iz (zv xs 6)), .ref ou]) (rest := []) ⟨hx, hb, hml, hown, hts⟩ (c_L_price_o l G x ro rw bo li sh tx lo nl q sa sb da db wa wb (zlo (zv xs 1) (zv xs 2)) (zlo (zv xs 3) (zv xs 4)) (zv xs 5) (zv xs 6) ou (fun _ => 0) (by omega) (by omega) (by omega) (by omega) (by omega) H.size) (vx_cwSW 6 hts gL_law_L_price rfl rfl rfl (by decide +kernel) ⟨Nat.le_of_ble_eq_true rfl, Nat.le_of_ble_eq_true rfl⟩) (zpS hKX hP hD [0, 1, 2, 3, 4, 5, 6, 7, 8, 9, 10] rfl rfl) rfl rfl hl.1 rfl (lv_room (Nat.le_of_ble_eq_true rfl)) dL_law_1488 ⟨(by show _ ≤ (600002 : Nat); omega), (by show _ ≤ (7302232 : Nat); omega)⟩) hP hD hS hA [0, 1, 2, 3, 4, 5, 6, 7, 8, 9, 10] [11] rfl rfl rfl (by decide) (fun kk u_1 H locs hw hP hD hS => ?_)
    generalize u_1 = fz at hP hD hw
    have hP : va_P G.1 vwCl [(mm, .inr (13, [.int (iz (0)), .int (iz (6)), .ref ma, .null, .ref mt, .ref ml, .int (iz (0)), .ref mw, .int (iz (0)), .ref mb, .ref mp, .int (iz (0))])), (ou, zaL (G.2 0) 1 (fz))] H := hP
    have hD : va_D (zlA s) [(mm, .inr (13, [.int (iz (0)), .int (iz (6)), .ref ma, .null, .ref mt, .ref ml, .int (iz (0)), .ref mw, .int (iz (0)), .ref mb, .ref mp, .int (iz (0))])), (ou, zaL (G.2 0) 1 (fz))] := hD
    have hw : kk = 0 ∧ (fz 0) = zr6 (zbt (zlo (zv xs 1) (zv xs 2)) (zlo (zv xs 3) (zv xs 4)) (zv xs 5) (zv xs 6)) ((100000 + (zv xs 6)) ^ (zv xs 5).toNat) := hw
    rw [show kk = 0 from hw.1]
    refine lv_istore (lv' := [(5, .int (iz (0))), (0, .ref b), (1, .ref x), (2, .ref mm), (3, .ref ou), (4, .int (iz (0)))]) hx hb dL_law_1491 hl (by decide) rfl (fun ls hl => ?_)
    refine lv_aload_n hx hb dL_law_1493 rfl (lv_at hl 3 rfl) ?_
    refine lv_aload_n hx hb dL_law_1494 rfl (lv_at hl 1 rfl) ?_
    refine lv_iload hx hb dL_law_1495 (lv_at hl 5 rfl) ?_
    refine lv_iconst (v := iz (1)) hx hb dL_law_1497 rfl ?_
    refine zr_iadd hx hb dL_law_1498 ?_
    refine zr_sld hx hb hX hbl hbA hS 1 (by omega) (by omega) (by omega) dL_law_1499 ?_
    refine zr_i2l hx hb (x := zv xs 1) (⟨by omega, by omega⟩) dL_law_1500 ?_
    refine lv_bipush (v := iz (32)) hx hb dL_law_1501 rfl ?_
    refine zr_lshl32 hx hb dL_law_1503 ?_
    refine lv_aload_n hx hb dL_law_1504 rfl (lv_at hl 1 rfl) ?_
    refine lv_iload hx hb dL_law_1505 (lv_at hl 5 rfl) ?_
    refine lv_iconst (v := iz (2)) hx hb dL_law_1507 rfl ?_
    refine zr_iadd hx hb dL_law_1508 ?_
    refine zr_sld hx hb hX hbl hbA hS 2 (by omega) (by omega) (by omega) dL_law_1509 ?_
    refine zr_i2l hx hb (x := zv xs 2) (⟨by omega, by omega⟩) dL_law_1510 ?_
    refine zr_ldc2 (z := 4294967295) hx hb hown (hts (.constantLong RL 137 (4294967295)) (by decide +kernel)) rfl dL_law_1511 ?_
    refine zr_land32 hx hb dL_law_1514 ?_
    refine zr_lor32 hx hb dL_law_1515 ?_
    refine lv_aload_n hx hb dL_law_1516 rfl (lv_at hl 1 rfl) ?_
    refine lv_iload hx hb dL_law_1517 (lv_at hl 5 rfl) ?_
    refine lv_iconst (v := iz (3)) hx hb dL_law_1519 rfl ?_
    refine zr_iadd hx hb dL_law_1520 ?_
    refine zr_sld hx hb hX hbl hbA hS 3 (by omega) (by omega) (by omega) dL_law_1521 ?_
    refine zr_i2l hx hb (x := zv xs 3) (⟨by omega, by omega⟩) dL_law_1522 ?_
    refine lv_bipush (v := iz (32)) hx hb dL_law_1523 rfl ?_
    refine zr_lshl32 hx hb dL_law_1525 ?_
    refine lv_aload_n hx hb dL_law_1526 rfl (lv_at hl 1 rfl) ?_
    refine lv_iload hx hb dL_law_1527 (lv_at hl 5 rfl) ?_
    refine lv_iconst (v := iz (4)) hx hb dL_law_1529 rfl ?_
    refine zr_iadd hx hb dL_law_1530 ?_
    refine zr_sld hx hb hX hbl hbA hS 4 (by omega) (by omega) (by omega) dL_law_1531 ?_
    refine zr_i2l hx hb (x := zv xs 4) (⟨by omega, by omega⟩) dL_law_1532 ?_
    refine zr_ldc2 (z := 4294967295) hx hb hown (hts (.constantLong RL 137 (4294967295)) (by decide +kernel)) rfl dL_law_1533 ?_
    refine zr_land32 hx hb dL_law_1536 ?_
    refine zr_lor32 hx hb dL_law_1537 ?_
    refine lv_aload_n hx hb dL_law_1538 rfl (lv_at hl 1 rfl) ?_
    refine lv_iload hx hb dL_law_1539 (lv_at hl 5 rfl) ?_
    refine lv_iconst (v := iz (5)) hx hb dL_law_1541 rfl ?_
    refine zr_iadd hx hb dL_law_1542 ?_
    refine zr_sld hx hb hX hbl hbA hS 5 (by omega) (by omega) (by omega) dL_law_1543 ?_
    refine lv_aload_n hx hb dL_law_1544 rfl (lv_at hl 1 rfl) ?_
    refine lv_iload hx hb dL_law_1545 (lv_at hl 5 rfl) ?_
    refine lv_bipush (v := iz (6)) hx hb dL_law_1547 rfl ?_
    refine zr_iadd hx hb dL_law_1549 ?_
    refine zr_sld hx hb hX hbl hbA hS 6 (by omega) (by omega) (by omega) dL_law_1550 ?_
    refine zc_l (wr := [(ou, zaL (G.2 0) 1 (fz))]) (va_runV (As := [.long (lz (zlo (zv xs 1) (zv xs 2))), .long (lz (zlo (zv xs 3) (zv xs 4))), .int (iz (zv xs 5)), .int (iz (zv xs 6))]) (rest := []) ⟨hx, hb, hml, hown, hts⟩ (c_X12_price_o l G nA nB nE mm ma mt ml mw mb mp 0 (zlo (zv xs 1) (zv xs 2)) (zlo (zv xs 3) (zv xs 4)) (zv xs 5) (zv xs 6) (by omega) (by omega) (by omega) (by omega) (by omega) H.size) (cwV 4 hts gL_law_X12_price rfl rfl rfl (by decide +kernel) ⟨Nat.le_of_ble_eq_true rfl, Nat.le_of_ble_eq_true rfl⟩) (zpVe zE_ok hE hS hA hKX hP hD [0] rfl rfl (va_recv hK hP (ci := 13) (q0 := 0) rfl rfl)) rfl rfl hl.1 rfl (lv_room (Nat.le_of_ble_eq_true rfl)) dL_law_1551 ⟨(by show _ ≤ (600002 : Nat); omega), (by show _ ≤ (7302232 : Nat); omega)⟩) hP hD hS hA [0] [1] rfl rfl rfl (by decide) (fun zm u_3 H locs hm hP hD hS => ?_)
    generalize u_3 = thm at hP hD hm
    have hP : va_P G.1 vwCl [(ou, zaL (G.2 0) 1 (fz)), (mm, .inr (13, [.int (iz (thm)), .int (iz (6)), .ref ma, .null, .ref mt, .ref ml, .int (iz (0)), .ref mw, .int (iz (0)), .ref mb, .ref mp, .int (iz (0))]))] H := hP
    have hD : va_D (zlA s) [(ou, zaL (G.2 0) 1 (fz)), (mm, .inr (13, [.int (iz (thm)), .int (iz (6)), .ref ma, .null, .ref mt, .ref ml, .int (iz (0)), .ref mw, .int (iz (0)), .ref mb, .ref mp, .int (iz (0))]))] := hD
    have hm : zm = zr6 (zbt (zlo (zv xs 1) (zv xs 2)) (zlo (zv xs 3) (zv xs 4)) (zv xs 5) (zv xs 6)) ((100000 + (zv xs 6)) ^ (zv xs 5).toNat) ∧ thm = 0 := hm
    have htp := hm.2
    have hval := hw.2.trans hm.1.symm
    refine lv_lstore (lv' := [(6, .long (lz (zm))), (5, .int (iz (0))), (0, .ref b), (1, .ref x), (2, .ref mm), (3, .ref ou), (4, .int (iz (0)))]) hx hb dL_law_1554 hl (by decide) rfl (fun ls hl => ?_)
    refine lv_aload_n hx hb dL_law_1556 rfl (lv_at hl 4 rfl) ?_
    refine zc_i (wr := [(ou, zaL (G.2 0) 1 (fz))]) (va_runV (As := []) (rest := []) ⟨hx, hb, hml, hown, hts⟩ (c_X12_thrown_v l G mm thm (.ref ma) .null (.ref mt) (.ref ml) (.int (iz (0))) (.ref mw) (.int (iz (0))) (.ref mb) (.ref mp) (.int (iz (0))) 6  H.size) (cwV 0 hts gL_law_X12_thrown rfl rfl rfl (by decide +kernel) ⟨Nat.le_of_ble_eq_true rfl, Nat.le_of_ble_eq_true rfl⟩) (zpV hKX hP hD [1] rfl rfl 1 13 rfl rfl) rfl rfl hl.1 rfl (lv_room (Nat.le_of_ble_eq_true rfl)) dL_law_1557 ⟨(by show _ ≤ (600002 : Nat); omega), (by show _ ≤ (7302232 : Nat); omega)⟩) hP hD hS hA [1] [0] rfl rfl rfl (by decide) (fun th9 u_5 H locs hth hP hD hS => ?_)
    have hP : va_P G.1 vwCl [(ou, zaL (G.2 0) 1 (fz)), (mm, .inr (13, [.int (iz (thm)), .int (iz ((6 : Int))), .ref ma, .null, .ref mt, .ref ml, .int (iz (0)), .ref mw, .int (iz (0)), .ref mb, .ref mp, .int (iz (0))]))] H := hP
    have hD : va_D (zlA s) [(ou, zaL (G.2 0) 1 (fz)), (mm, .inr (13, [.int (iz (thm)), .int (iz ((6 : Int))), .ref ma, .null, .ref mt, .ref ml, .int (iz (0)), .ref mw, .int (iz (0)), .ref mb, .ref mp, .int (iz (0))]))] := hD
    have hth : th9 = thm := hth
    rw [show th9 = 0 from hth.trans htp]
    refine lv_iload hx hb dL_law_1560 (lv_at hl 1 rfl) ?_
    refine zr_icmp_eq (x := 0) (y := 0) (tgt := 1567) hx hb (⟨by omega, by omega⟩) (⟨by omega, by omega⟩) dL_law_1562 (by decide) (fun h_7 => ?_) (fun h_7 => ?_)
    ·
      refine lv_iload hx hb dL_law_1567 (lv_at hl 1 rfl) ?_
      refine zr_if_ne (x := 0) (tgt := 1583) hx hb (⟨by omega, by omega⟩) dL_law_1569 (by decide) (fun h_8 => ?_) (fun h_8 => ?_)
      · exact absurd h_8 (by omega)
      ·
        refine lv_aload_n hx hb dL_law_1572 rfl (lv_at hl 5 rfl) ?_
        refine lv_iconst (v := iz (0)) hx hb dL_law_1573 rfl ?_
        refine zr_lald hx hb hK hP 0 0 rfl rfl (i := 0) (⟨by omega, by omega, by omega⟩) dL_law_1574 ?_
        refine lv_lload hx hb dL_law_1575 (lv_at hl 0 rfl) ?_
        refine zr_lcmpS (x := fz 0) (y := zm) (tgt := 1583) hx hb (by first | exact hval | exact hval.symm) dL_law_1577 dL_law_1578 (by decide) ?_
        refine lv_goto (tgt := 3039) hx hb dL_law_1583 (by decide) ?_
        exact zl_end hL8 C0 hS (lv_sub hl [2, 6] rfl) (by show _ ≤ (600002 : Nat); omega) (by show _ ≤ (7302232 : Nat); omega)
    · exact absurd h_7 (by omega)
  ·
    refine lv_aload_n hx hb dL_law_1429 rfl (lv_at hl 1 rfl) ?_
    refine lv_aload_n hx hb dL_law_1430 rfl (lv_at hl 0 rfl) ?_
    refine lv_iload hx hb dL_law_1431 (lv_at hl 4 rfl) ?_
    refine lv_iconst (v := iz (1)) hx hb dL_law_1433 rfl ?_
    refine zr_iadd hx hb dL_law_1434 ?_
    refine zr_sld hx hb hX hbl hbA hS 1 (by omega) (by omega) (by omega) dL_law_1435 ?_
    refine zr_i2l hx hb (x := zv xs 1) (⟨by omega, by omega⟩) dL_law_1436 ?_
    refine lv_bipush (v := iz (32)) hx hb dL_law_1437 rfl ?_
    refine zr_lshl32 hx hb dL_law_1439 ?_
    refine lv_aload_n hx hb dL_law_1440 rfl (lv_at hl 0 rfl) ?_
    refine lv_iload hx hb dL_law_1441 (lv_at hl 4 rfl) ?_
    refine lv_iconst (v := iz (2)) hx hb dL_law_1443 rfl ?_
    refine zr_iadd hx hb dL_law_1444 ?_
    refine zr_sld hx hb hX hbl hbA hS 2 (by omega) (by omega) (by omega) dL_law_1445 ?_
    refine zr_i2l hx hb (x := zv xs 2) (⟨by omega, by omega⟩) dL_law_1446 ?_
    refine zr_ldc2 (z := 4294967295) hx hb hown (hts (.constantLong RL 137 (4294967295)) (by decide +kernel)) rfl dL_law_1447 ?_
    refine zr_land32 hx hb dL_law_1450 ?_
    refine zr_lor32 hx hb dL_law_1451 ?_
    refine lv_aload_n hx hb dL_law_1452 rfl (lv_at hl 0 rfl) ?_
    refine lv_iload hx hb dL_law_1453 (lv_at hl 4 rfl) ?_
    refine lv_iconst (v := iz (3)) hx hb dL_law_1455 rfl ?_
    refine zr_iadd hx hb dL_law_1456 ?_
    refine zr_sld hx hb hX hbl hbA hS 3 (by omega) (by omega) (by omega) dL_law_1457 ?_
    refine zr_i2l hx hb (x := zv xs 3) (⟨by omega, by omega⟩) dL_law_1458 ?_
    refine lv_bipush (v := iz (32)) hx hb dL_law_1459 rfl ?_
    refine zr_lshl32 hx hb dL_law_1461 ?_
    refine lv_aload_n hx hb dL_law_1462 rfl (lv_at hl 0 rfl) ?_
    refine lv_iload hx hb dL_law_1463 (lv_at hl 4 rfl) ?_
    refine lv_iconst (v := iz (4)) hx hb dL_law_1465 rfl ?_
    refine zr_iadd hx hb dL_law_1466 ?_
    refine zr_sld hx hb hX hbl hbA hS 4 (by omega) (by omega) (by omega) dL_law_1467 ?_
    refine zr_i2l hx hb (x := zv xs 4) (⟨by omega, by omega⟩) dL_law_1468 ?_
    refine zr_ldc2 (z := 4294967295) hx hb hown (hts (.constantLong RL 137 (4294967295)) (by decide +kernel)) rfl dL_law_1469 ?_
    refine zr_land32 hx hb dL_law_1472 ?_
    refine zr_lor32 hx hb dL_law_1473 ?_
    refine lv_aload_n hx hb dL_law_1474 rfl (lv_at hl 0 rfl) ?_
    refine lv_iload hx hb dL_law_1475 (lv_at hl 4 rfl) ?_
    refine lv_iconst (v := iz (5)) hx hb dL_law_1477 rfl ?_
    refine zr_iadd hx hb dL_law_1478 ?_
    refine zr_sld hx hb hX hbl hbA hS 5 (by omega) (by omega) (by omega) dL_law_1479 ?_
    refine lv_aload_n hx hb dL_law_1480 rfl (lv_at hl 0 rfl) ?_
    refine lv_iload hx hb dL_law_1481 (lv_at hl 4 rfl) ?_
    refine lv_bipush (v := iz (6)) hx hb dL_law_1483 rfl ?_
    refine zr_iadd hx hb dL_law_1485 ?_
    refine zr_sld hx hb hX hbl hbA hS 6 (by omega) (by omega) (by omega) dL_law_1486 ?_
    refine lv_aload_n hx hb dL_law_1487 rfl (lv_at hl 3 rfl) ?_
    refine zc_i (wr := [(bo, .inr (1, [.ref q])), (q, .inr (2, [.ref sa, .ref da, .ref wa, .long (lz (1)), .long (lz (1)), .int (iz (0))])), (sa, .inr (9, [.ref sb, .int (iz (0)), .long (lz (0))])), (sb, zaL (G.2 0) 40 (fun _ => 0)), (da, .inr (9, [.ref db, .int (iz (0)), .long (lz (0))])), (db, zaL (G.2 0) 40 (fun _ => 0)), (wa, .inr (9, [.ref wb, .int (iz (0)), .long (lz (0))])), (wb, zaL (G.2 0) 40 (fun _ => 0)), (ro, .inr (5, [.int (iz (6))])), (mm, .inr (13, [.int (iz (0)), .int (iz (6)), .ref ma, .null, .ref mt, .ref ml, .int (iz (0)), .ref mw, .int (iz (0)), .ref mb, .ref mp, .int (iz (0))]))]) (vx_runSW (As := [.ref x, .long (lz (zlo (zv xs 1) (zv xs 2))), .long (lz (zlo (zv xs 3) (zv xs 4))), .int (iz (zv xs 5)), .int (iz (zv xs 6)), .ref ou]) (rest := []) ⟨hx, hb, hml, hown, hts⟩ (c_L_price_x l G s1 s2 s3 x ro rw bo li sh tx lo nl (zlo (zv xs 1) (zv xs 2)) (zlo (zv xs 3) (zv xs 4)) (zv xs 5) (zv xs 6) ou (fun _ => 0) hl0 (by omega) (by omega) (by omega) (by omega) (by omega) H.size) (vx_cwSW 6 hts gL_law_L_price rfl rfl rfl (by decide +kernel) ⟨Nat.le_of_ble_eq_true rfl, Nat.le_of_ble_eq_true rfl⟩) (zpSe zXL_ok hEc hS hA hKX hP hD [0, 10] rfl rfl) rfl rfl hl.1 rfl (lv_room (Nat.le_of_ble_eq_true rfl)) dL_law_1488 ⟨(by show _ ≤ (600002 : Nat); omega), (by show _ ≤ (7302232 : Nat); omega)⟩) hP hD hS hA [0, 10] [1, 2, 3, 4, 5, 6, 7, 8, 9, 11] rfl rfl rfl (by decide) (fun kk u_9 H locs hw hP hD hS => ?_)
    have hP : va_P G.1 vwCl [(bo, .inr (1, [.ref q])), (q, .inr (2, [.ref sa, .ref da, .ref wa, .long (lz (1)), .long (lz (1)), .int (iz (0))])), (sa, .inr (9, [.ref sb, .int (iz (0)), .long (lz (0))])), (sb, zaL (G.2 0) 40 (fun _ => 0)), (da, .inr (9, [.ref db, .int (iz (0)), .long (lz (0))])), (db, zaL (G.2 0) 40 (fun _ => 0)), (wa, .inr (9, [.ref wb, .int (iz (0)), .long (lz (0))])), (wb, zaL (G.2 0) 40 (fun _ => 0)), (ro, .inr (5, [.int (iz (6))])), (mm, .inr (13, [.int (iz (0)), .int (iz (6)), .ref ma, .null, .ref mt, .ref ml, .int (iz (0)), .ref mw, .int (iz (0)), .ref mb, .ref mp, .int (iz (0))])), (ou, zaL (G.2 0) 1 ((fun _ => 0)))] H := hP
    have hD : va_D (zlA s) [(bo, .inr (1, [.ref q])), (q, .inr (2, [.ref sa, .ref da, .ref wa, .long (lz (1)), .long (lz (1)), .int (iz (0))])), (sa, .inr (9, [.ref sb, .int (iz (0)), .long (lz (0))])), (sb, zaL (G.2 0) 40 (fun _ => 0)), (da, .inr (9, [.ref db, .int (iz (0)), .long (lz (0))])), (db, zaL (G.2 0) 40 (fun _ => 0)), (wa, .inr (9, [.ref wb, .int (iz (0)), .long (lz (0))])), (wb, zaL (G.2 0) 40 (fun _ => 0)), (ro, .inr (5, [.int (iz (6))])), (mm, .inr (13, [.int (iz (0)), .int (iz (6)), .ref ma, .null, .ref mt, .ref ml, .int (iz (0)), .ref mw, .int (iz (0)), .ref mb, .ref mp, .int (iz (0))])), (ou, zaL (G.2 0) 1 ((fun _ => 0)))] := hD
    have hw : kk = 1 := hw
    rw [show kk = 1 from hw]
    refine lv_istore (lv' := [(5, .int (iz (1))), (0, .ref b), (1, .ref x), (2, .ref mm), (3, .ref ou), (4, .int (iz (0)))]) hx hb dL_law_1491 hl (by decide) rfl (fun ls hl => ?_)
    refine lv_aload_n hx hb dL_law_1493 rfl (lv_at hl 3 rfl) ?_
    refine lv_aload_n hx hb dL_law_1494 rfl (lv_at hl 1 rfl) ?_
    refine lv_iload hx hb dL_law_1495 (lv_at hl 5 rfl) ?_
    refine lv_iconst (v := iz (1)) hx hb dL_law_1497 rfl ?_
    refine zr_iadd hx hb dL_law_1498 ?_
    refine zr_sld hx hb hX hbl hbA hS 1 (by omega) (by omega) (by omega) dL_law_1499 ?_
    refine zr_i2l hx hb (x := zv xs 1) (⟨by omega, by omega⟩) dL_law_1500 ?_
    refine lv_bipush (v := iz (32)) hx hb dL_law_1501 rfl ?_
    refine zr_lshl32 hx hb dL_law_1503 ?_
    refine lv_aload_n hx hb dL_law_1504 rfl (lv_at hl 1 rfl) ?_
    refine lv_iload hx hb dL_law_1505 (lv_at hl 5 rfl) ?_
    refine lv_iconst (v := iz (2)) hx hb dL_law_1507 rfl ?_
    refine zr_iadd hx hb dL_law_1508 ?_
    refine zr_sld hx hb hX hbl hbA hS 2 (by omega) (by omega) (by omega) dL_law_1509 ?_
    refine zr_i2l hx hb (x := zv xs 2) (⟨by omega, by omega⟩) dL_law_1510 ?_
    refine zr_ldc2 (z := 4294967295) hx hb hown (hts (.constantLong RL 137 (4294967295)) (by decide +kernel)) rfl dL_law_1511 ?_
    refine zr_land32 hx hb dL_law_1514 ?_
    refine zr_lor32 hx hb dL_law_1515 ?_
    refine lv_aload_n hx hb dL_law_1516 rfl (lv_at hl 1 rfl) ?_
    refine lv_iload hx hb dL_law_1517 (lv_at hl 5 rfl) ?_
    refine lv_iconst (v := iz (3)) hx hb dL_law_1519 rfl ?_
    refine zr_iadd hx hb dL_law_1520 ?_
    refine zr_sld hx hb hX hbl hbA hS 3 (by omega) (by omega) (by omega) dL_law_1521 ?_
    refine zr_i2l hx hb (x := zv xs 3) (⟨by omega, by omega⟩) dL_law_1522 ?_
    refine lv_bipush (v := iz (32)) hx hb dL_law_1523 rfl ?_
    refine zr_lshl32 hx hb dL_law_1525 ?_
    refine lv_aload_n hx hb dL_law_1526 rfl (lv_at hl 1 rfl) ?_
    refine lv_iload hx hb dL_law_1527 (lv_at hl 5 rfl) ?_
    refine lv_iconst (v := iz (4)) hx hb dL_law_1529 rfl ?_
    refine zr_iadd hx hb dL_law_1530 ?_
    refine zr_sld hx hb hX hbl hbA hS 4 (by omega) (by omega) (by omega) dL_law_1531 ?_
    refine zr_i2l hx hb (x := zv xs 4) (⟨by omega, by omega⟩) dL_law_1532 ?_
    refine zr_ldc2 (z := 4294967295) hx hb hown (hts (.constantLong RL 137 (4294967295)) (by decide +kernel)) rfl dL_law_1533 ?_
    refine zr_land32 hx hb dL_law_1536 ?_
    refine zr_lor32 hx hb dL_law_1537 ?_
    refine lv_aload_n hx hb dL_law_1538 rfl (lv_at hl 1 rfl) ?_
    refine lv_iload hx hb dL_law_1539 (lv_at hl 5 rfl) ?_
    refine lv_iconst (v := iz (5)) hx hb dL_law_1541 rfl ?_
    refine zr_iadd hx hb dL_law_1542 ?_
    refine zr_sld hx hb hX hbl hbA hS 5 (by omega) (by omega) (by omega) dL_law_1543 ?_
    refine lv_aload_n hx hb dL_law_1544 rfl (lv_at hl 1 rfl) ?_
    refine lv_iload hx hb dL_law_1545 (lv_at hl 5 rfl) ?_
    refine lv_bipush (v := iz (6)) hx hb dL_law_1547 rfl ?_
    refine zr_iadd hx hb dL_law_1549 ?_
    refine zr_sld hx hb hX hbl hbA hS 6 (by omega) (by omega) (by omega) dL_law_1550 ?_
    refine zc_l (wr := [(bo, .inr (1, [.ref q])), (q, .inr (2, [.ref sa, .ref da, .ref wa, .long (lz (1)), .long (lz (1)), .int (iz (0))])), (sa, .inr (9, [.ref sb, .int (iz (0)), .long (lz (0))])), (sb, zaL (G.2 0) 40 (fun _ => 0)), (da, .inr (9, [.ref db, .int (iz (0)), .long (lz (0))])), (db, zaL (G.2 0) 40 (fun _ => 0)), (wa, .inr (9, [.ref wb, .int (iz (0)), .long (lz (0))])), (wb, zaL (G.2 0) 40 (fun _ => 0)), (ro, .inr (5, [.int (iz (6))])), (ou, zaL (G.2 0) 1 ((fun _ => 0)))]) (va_runV (As := [.long (lz (zlo (zv xs 1) (zv xs 2))), .long (lz (zlo (zv xs 3) (zv xs 4))), .int (iz (zv xs 5)), .int (iz (zv xs 6))]) (rest := []) ⟨hx, hb, hml, hown, hts⟩ (c_X12_price_x l G nA nB nE mm ma mt ml mw mb mp 0 (zlo (zv xs 1) (zv xs 2)) (zlo (zv xs 3) (zv xs 4)) (zv xs 5) (zv xs 6) (by omega) (by omega) (by omega) (by omega) (by omega) H.size) (cwV 4 hts gL_law_X12_price rfl rfl rfl (by decide +kernel) ⟨Nat.le_of_ble_eq_true rfl, Nat.le_of_ble_eq_true rfl⟩) (zpVe zE_ok hE hS hA hKX hP hD [9] rfl rfl (va_recv hK hP (ci := 13) (q0 := 9) rfl rfl)) rfl rfl hl.1 rfl (lv_room (Nat.le_of_ble_eq_true rfl)) dL_law_1551 ⟨(by show _ ≤ (600002 : Nat); omega), (by show _ ≤ (7302232 : Nat); omega)⟩) hP hD hS hA [9] [0, 1, 2, 3, 4, 5, 6, 7, 8, 10] rfl rfl rfl (by decide) (fun zm u_11 H locs hm hP hD hS => ?_)
    generalize u_11 = thm at hP hD hm
    have hP : va_P G.1 vwCl [(bo, .inr (1, [.ref q])), (q, .inr (2, [.ref sa, .ref da, .ref wa, .long (lz (1)), .long (lz (1)), .int (iz (0))])), (sa, .inr (9, [.ref sb, .int (iz (0)), .long (lz (0))])), (sb, zaL (G.2 0) 40 (fun _ => 0)), (da, .inr (9, [.ref db, .int (iz (0)), .long (lz (0))])), (db, zaL (G.2 0) 40 (fun _ => 0)), (wa, .inr (9, [.ref wb, .int (iz (0)), .long (lz (0))])), (wb, zaL (G.2 0) 40 (fun _ => 0)), (ro, .inr (5, [.int (iz (6))])), (ou, zaL (G.2 0) 1 ((fun _ => 0))), (mm, .inr (13, [.int (iz (thm)), .int (iz (6)), .ref ma, .null, .ref mt, .ref ml, .int (iz (0)), .ref mw, .int (iz (0)), .ref mb, .ref mp, .int (iz (0))]))] H := hP
    have hD : va_D (zlA s) [(bo, .inr (1, [.ref q])), (q, .inr (2, [.ref sa, .ref da, .ref wa, .long (lz (1)), .long (lz (1)), .int (iz (0))])), (sa, .inr (9, [.ref sb, .int (iz (0)), .long (lz (0))])), (sb, zaL (G.2 0) 40 (fun _ => 0)), (da, .inr (9, [.ref db, .int (iz (0)), .long (lz (0))])), (db, zaL (G.2 0) 40 (fun _ => 0)), (wa, .inr (9, [.ref wb, .int (iz (0)), .long (lz (0))])), (wb, zaL (G.2 0) 40 (fun _ => 0)), (ro, .inr (5, [.int (iz (6))])), (ou, zaL (G.2 0) 1 ((fun _ => 0))), (mm, .inr (13, [.int (iz (thm)), .int (iz (6)), .ref ma, .null, .ref mt, .ref ml, .int (iz (0)), .ref mw, .int (iz (0)), .ref mb, .ref mp, .int (iz (0))]))] := hD
    have hm : zm = 0 ∧ thm = 1 := hm
    have htp := hm.2
    refine lv_lstore (lv' := [(6, .long (lz (zm))), (5, .int (iz (1))), (0, .ref b), (1, .ref x), (2, .ref mm), (3, .ref ou), (4, .int (iz (0)))]) hx hb dL_law_1554 hl (by decide) rfl (fun ls hl => ?_)
    refine lv_aload_n hx hb dL_law_1556 rfl (lv_at hl 4 rfl) ?_
    refine zc_i (wr := [(bo, .inr (1, [.ref q])), (q, .inr (2, [.ref sa, .ref da, .ref wa, .long (lz (1)), .long (lz (1)), .int (iz (0))])), (sa, .inr (9, [.ref sb, .int (iz (0)), .long (lz (0))])), (sb, zaL (G.2 0) 40 (fun _ => 0)), (da, .inr (9, [.ref db, .int (iz (0)), .long (lz (0))])), (db, zaL (G.2 0) 40 (fun _ => 0)), (wa, .inr (9, [.ref wb, .int (iz (0)), .long (lz (0))])), (wb, zaL (G.2 0) 40 (fun _ => 0)), (ro, .inr (5, [.int (iz (6))])), (ou, zaL (G.2 0) 1 ((fun _ => 0)))]) (va_runV (As := []) (rest := []) ⟨hx, hb, hml, hown, hts⟩ (c_X12_thrown_v l G mm thm (.ref ma) .null (.ref mt) (.ref ml) (.int (iz (0))) (.ref mw) (.int (iz (0))) (.ref mb) (.ref mp) (.int (iz (0))) 6  H.size) (cwV 0 hts gL_law_X12_thrown rfl rfl rfl (by decide +kernel) ⟨Nat.le_of_ble_eq_true rfl, Nat.le_of_ble_eq_true rfl⟩) (zpV hKX hP hD [10] rfl rfl 10 13 rfl rfl) rfl rfl hl.1 rfl (lv_room (Nat.le_of_ble_eq_true rfl)) dL_law_1557 ⟨(by show _ ≤ (600002 : Nat); omega), (by show _ ≤ (7302232 : Nat); omega)⟩) hP hD hS hA [10] [0, 1, 2, 3, 4, 5, 6, 7, 8, 9] rfl rfl rfl (by decide) (fun th9 u_13 H locs hth hP hD hS => ?_)
    have hP : va_P G.1 vwCl [(bo, .inr (1, [.ref q])), (q, .inr (2, [.ref sa, .ref da, .ref wa, .long (lz (1)), .long (lz (1)), .int (iz (0))])), (sa, .inr (9, [.ref sb, .int (iz (0)), .long (lz (0))])), (sb, zaL (G.2 0) 40 (fun _ => 0)), (da, .inr (9, [.ref db, .int (iz (0)), .long (lz (0))])), (db, zaL (G.2 0) 40 (fun _ => 0)), (wa, .inr (9, [.ref wb, .int (iz (0)), .long (lz (0))])), (wb, zaL (G.2 0) 40 (fun _ => 0)), (ro, .inr (5, [.int (iz (6))])), (ou, zaL (G.2 0) 1 ((fun _ => 0))), (mm, .inr (13, [.int (iz (thm)), .int (iz ((6 : Int))), .ref ma, .null, .ref mt, .ref ml, .int (iz (0)), .ref mw, .int (iz (0)), .ref mb, .ref mp, .int (iz (0))]))] H := hP
    have hD : va_D (zlA s) [(bo, .inr (1, [.ref q])), (q, .inr (2, [.ref sa, .ref da, .ref wa, .long (lz (1)), .long (lz (1)), .int (iz (0))])), (sa, .inr (9, [.ref sb, .int (iz (0)), .long (lz (0))])), (sb, zaL (G.2 0) 40 (fun _ => 0)), (da, .inr (9, [.ref db, .int (iz (0)), .long (lz (0))])), (db, zaL (G.2 0) 40 (fun _ => 0)), (wa, .inr (9, [.ref wb, .int (iz (0)), .long (lz (0))])), (wb, zaL (G.2 0) 40 (fun _ => 0)), (ro, .inr (5, [.int (iz (6))])), (ou, zaL (G.2 0) 1 ((fun _ => 0))), (mm, .inr (13, [.int (iz (thm)), .int (iz ((6 : Int))), .ref ma, .null, .ref mt, .ref ml, .int (iz (0)), .ref mw, .int (iz (0)), .ref mb, .ref mp, .int (iz (0))]))] := hD
    have hth : th9 = thm := hth
    rw [show th9 = 1 from hth.trans htp]
    refine lv_iload hx hb dL_law_1560 (lv_at hl 1 rfl) ?_
    refine zr_icmp_eq (x := 1) (y := 1) (tgt := 1567) hx hb (⟨by omega, by omega⟩) (⟨by omega, by omega⟩) dL_law_1562 (by decide) (fun h_15 => ?_) (fun h_15 => ?_)
    ·
      refine lv_iload hx hb dL_law_1567 (lv_at hl 1 rfl) ?_
      refine zr_if_ne (x := 1) (tgt := 1583) hx hb (⟨by omega, by omega⟩) dL_law_1569 (by decide) (fun h_16 => ?_) (fun h_16 => ?_)
      ·
        refine lv_goto (tgt := 3039) hx hb dL_law_1583 (by decide) ?_
        exact zl_end hL8 C0 hS (lv_sub hl [2, 6] rfl) (by show _ ≤ (600002 : Nat); omega) (by show _ ≤ (7302232 : Nat); omega)
      · exact absurd h_16 (by omega)
    · exact absurd h_15 (by omega)

set_option maxHeartbeats 4000000 in
set_option maxRecDepth 100000 in
theorem zl_19 {p : Program} {e : Env} {s : State} {m : MethodId} {below : List Frame} {meth : Method} {c : Code} {l : Launch} (hl0 : l.stackTraces = false) {b L : Nat} {xs : Nat → Int32} (hL8 : L = 8) (C0 : lw_At p s m meth c b L xs) {G : zG} {nA nB nE s1 s2 s3 : Nat} (hKX : zK G s) (hEm : zE G nA nB nE (zlA s) s) (hEc : zXL s1 s2 s3 (zlA s) s) (x : Nat) (ro : Nat) (rw : Nat) (bo : Nat) (li : Nat) (sh : Nat) (tx : Nat) (lo : Nat) (nl : Nat) (q : Nat) (sa : Nat) (da : Nat) (wa : Nat) (sb : Nat) (db : Nat) (wb : Nat) (ou : Nat) (mm : Nat) (ma : Nat) (mt : Nat) (ml : Nat) (mw : Nat) (mb : Nat) (mp : Nat) {H : Heap} {locs : List Loc} {ls : Array Slot} (hP : va_P G.1 vwCl [(x, .inr (10, [.ref ro, .ref rw, .ref bo, .ref li, .ref sh, .ref tx, .ref lo, .ref nl])), (bo, .inr (1, [.ref q])), (q, .inr (2, [.ref sa, .ref da, .ref wa, .long (lz (1)), .long (lz (1)), .int (iz (0))])), (sa, .inr (9, [.ref sb, .int (iz (0)), .long (lz (0))])), (sb, zaL (G.2 0) 40 (fun _ => 0)), (da, .inr (9, [.ref db, .int (iz (0)), .long (lz (0))])), (db, zaL (G.2 0) 40 (fun _ => 0)), (wa, .inr (9, [.ref wb, .int (iz (0)), .long (lz (0))])), (wb, zaL (G.2 0) 40 (fun _ => 0)), (ou, zaL (G.2 0) 1 (fun _ => 0)), (mm, .inr (13, [.int (iz (0)), .int (iz (6)), .ref ma, .null, .ref mt, .ref ml, .int (iz (0)), .ref mw, .int (iz (0)), .ref mb, .ref mp, .int (iz (0))]))] H) (hD : va_D (zlA s) [(x, .inr (10, [.ref ro, .ref rw, .ref bo, .ref li, .ref sh, .ref tx, .ref lo, .ref nl])), (bo, .inr (1, [.ref q])), (q, .inr (2, [.ref sa, .ref da, .ref wa, .long (lz (1)), .long (lz (1)), .int (iz (0))])), (sa, .inr (9, [.ref sb, .int (iz (0)), .long (lz (0))])), (sb, zaL (G.2 0) 40 (fun _ => 0)), (da, .inr (9, [.ref db, .int (iz (0)), .long (lz (0))])), (db, zaL (G.2 0) 40 (fun _ => 0)), (wa, .inr (9, [.ref wb, .int (iz (0)), .long (lz (0))])), (wb, zaL (G.2 0) 40 (fun _ => 0)), (ou, zaL (G.2 0) 1 (fun _ => 0)), (mm, .inr (13, [.int (iz (0)), .int (iz (6)), .ref ma, .null, .ref mt, .ref ml, .int (iz (0)), .ref mw, .int (iz (0)), .ref mb, .ref mp, .int (iz (0))]))]) (hS : va_S (zlA s) s.heap H locs) (hl : lv_has ls 9 [(0, .ref b), (1, .ref x), (2, .ref mm), (3, .ref ou), (4, .int (iz (0)))]) : W p l e room_1 s m #[Value.ref b] below meth c H locs 200 4000 (lw_Z below #[Value.ref b] s) (F0 m 1586 ls []) := by
  obtain ⟨hx, hb, hr, hml, hown, hts, hX, hbl, hlocks, hgv⟩ := id C0
  have hbA : ¬ zlA s b := Nat.not_le.mpr hbl
  have hK := hKX.1
  have hts : ∀ w ∈ wsL_law, w.before #[Value.ref b] s = true := fun w h => hts w (wsL_law_in w h)
  have hown : s.vm.findClass RL = some m.cls := hown
  have hA : ∀ q : Nat, s.heap.size ≤ q → zlA s q := fun _ h => h
  have hE := hEm
  have hv1 := zv_rng xs 1
  have hv2 := zv_rng xs 2
  have hv3 := zv_rng xs 3
  have hv4 := zv_rng xs 4
  have hv5 := zv_rng xs 5
  have hv6 := zv_rng xs 6
  have hv7 := zv_rng xs 7
  have hw1 := zlo_rng (zv xs 1) (zv xs 2)
  have hw3 := zlo_rng (zv xs 3) (zv xs 4)
  have hw6 := zlo_rng (zv xs 6) (zv xs 7)
  by_cases hco0 : 0 ≤ (zlo (zv xs 1) (zv xs 2)) ∧ (zlo (zv xs 1) (zv xs 2)) ≤ 1000000000 ∧ 0 ≤ (zlo (zv xs 3) (zv xs 4)) ∧ (zlo (zv xs 3) (zv xs 4)) ≤ 1000000000 ∧ 1 ≤ (zv xs 5) ∧ (zv xs 5) ≤ 40 ∧ 0 ≤ (zlo (zv xs 6) (zv xs 7)) ∧ (zlo (zv xs 6) (zv xs 7)) ≤ 1000000000000
  ·
    refine lv_aload_n hx hb dL_law_1586 rfl (lv_at hl 1 rfl) ?_
    refine lv_aload_n hx hb dL_law_1587 rfl (lv_at hl 0 rfl) ?_
    refine lv_iload hx hb dL_law_1588 (lv_at hl 4 rfl) ?_
    refine lv_iconst (v := iz (1)) hx hb dL_law_1590 rfl ?_
    refine zr_iadd hx hb dL_law_1591 ?_
    refine zr_sld hx hb hX hbl hbA hS 1 (by omega) (by omega) (by omega) dL_law_1592 ?_
    refine zr_i2l hx hb (x := zv xs 1) (⟨by omega, by omega⟩) dL_law_1593 ?_
    refine lv_bipush (v := iz (32)) hx hb dL_law_1594 rfl ?_
    refine zr_lshl32 hx hb dL_law_1596 ?_
    refine lv_aload_n hx hb dL_law_1597 rfl (lv_at hl 0 rfl) ?_
    refine lv_iload hx hb dL_law_1598 (lv_at hl 4 rfl) ?_
    refine lv_iconst (v := iz (2)) hx hb dL_law_1600 rfl ?_
    refine zr_iadd hx hb dL_law_1601 ?_
    refine zr_sld hx hb hX hbl hbA hS 2 (by omega) (by omega) (by omega) dL_law_1602 ?_
    refine zr_i2l hx hb (x := zv xs 2) (⟨by omega, by omega⟩) dL_law_1603 ?_
    refine zr_ldc2 (z := 4294967295) hx hb hown (hts (.constantLong RL 137 (4294967295)) (by decide +kernel)) rfl dL_law_1604 ?_
    refine zr_land32 hx hb dL_law_1607 ?_
    refine zr_lor32 hx hb dL_law_1608 ?_
    refine lv_aload_n hx hb dL_law_1609 rfl (lv_at hl 0 rfl) ?_
    refine lv_iload hx hb dL_law_1610 (lv_at hl 4 rfl) ?_
    refine lv_iconst (v := iz (3)) hx hb dL_law_1612 rfl ?_
    refine zr_iadd hx hb dL_law_1613 ?_
    refine zr_sld hx hb hX hbl hbA hS 3 (by omega) (by omega) (by omega) dL_law_1614 ?_
    refine zr_i2l hx hb (x := zv xs 3) (⟨by omega, by omega⟩) dL_law_1615 ?_
    refine lv_bipush (v := iz (32)) hx hb dL_law_1616 rfl ?_
    refine zr_lshl32 hx hb dL_law_1618 ?_
    refine lv_aload_n hx hb dL_law_1619 rfl (lv_at hl 0 rfl) ?_
    refine lv_iload hx hb dL_law_1620 (lv_at hl 4 rfl) ?_
    refine lv_iconst (v := iz (4)) hx hb dL_law_1622 rfl ?_
    refine zr_iadd hx hb dL_law_1623 ?_
    refine zr_sld hx hb hX hbl hbA hS 4 (by omega) (by omega) (by omega) dL_law_1624 ?_
    refine zr_i2l hx hb (x := zv xs 4) (⟨by omega, by omega⟩) dL_law_1625 ?_
    refine zr_ldc2 (z := 4294967295) hx hb hown (hts (.constantLong RL 137 (4294967295)) (by decide +kernel)) rfl dL_law_1626 ?_
    refine zr_land32 hx hb dL_law_1629 ?_
    refine zr_lor32 hx hb dL_law_1630 ?_
    refine lv_aload_n hx hb dL_law_1631 rfl (lv_at hl 0 rfl) ?_
    refine lv_iload hx hb dL_law_1632 (lv_at hl 4 rfl) ?_
    refine lv_iconst (v := iz (5)) hx hb dL_law_1634 rfl ?_
    refine zr_iadd hx hb dL_law_1635 ?_
    refine zr_sld hx hb hX hbl hbA hS 5 (by omega) (by omega) (by omega) dL_law_1636 ?_
    refine lv_aload_n hx hb dL_law_1637 rfl (lv_at hl 0 rfl) ?_
    refine lv_iload hx hb dL_law_1638 (lv_at hl 4 rfl) ?_
    refine lv_bipush (v := iz (6)) hx hb dL_law_1640 rfl ?_
    refine zr_iadd hx hb dL_law_1642 ?_
    refine zr_sld hx hb hX hbl hbA hS 6 (by omega) (by omega) (by omega) dL_law_1643 ?_
    refine zr_i2l hx hb (x := zv xs 6) (⟨by omega, by omega⟩) dL_law_1644 ?_
    refine lv_bipush (v := iz (32)) hx hb dL_law_1645 rfl ?_
    refine zr_lshl32 hx hb dL_law_1647 ?_
    refine lv_aload_n hx hb dL_law_1648 rfl (lv_at hl 0 rfl) ?_
    refine lv_iload hx hb dL_law_1649 (lv_at hl 4 rfl) ?_
    refine lv_bipush (v := iz (7)) hx hb dL_law_1651 rfl ?_
    refine zr_iadd hx hb dL_law_1653 ?_
    refine zr_sld hx hb hX hbl hbA hS 7 (by omega) (by omega) (by omega) dL_law_1654 ?_
    refine zr_i2l hx hb (x := zv xs 7) (⟨by omega, by omega⟩) dL_law_1655 ?_
    refine zr_ldc2 (z := 4294967295) hx hb hown (hts (.constantLong RL 137 (4294967295)) (by decide +kernel)) rfl dL_law_1656 ?_
    refine zr_land32 hx hb dL_law_1659 ?_
    refine zr_lor32 hx hb dL_law_1660 ?_
    refine lv_aload_n hx hb dL_law_1661 rfl (lv_at hl 3 rfl) ?_
    refine zc_i (wr := [(mm, .inr (13, [.int (iz (0)), .int (iz (6)), .ref ma, .null, .ref mt, .ref ml, .int (iz (0)), .ref mw, .int (iz (0)), .ref mb, .ref mp, .int (iz (0))]))]) (vx_runSW (As := [.ref x, .long (lz (zlo (zv xs 1) (zv xs 2))), .long (lz (zlo (zv xs 3) (zv xs 4))), .int (iz (zv xs 5)), .long (lz (zlo (zv xs 6) (zv xs 7))), .ref ou]) (rest := []) ⟨hx, hb, hml, hown, hts⟩ (c_L_bondYield_o l G x ro rw bo li sh tx lo nl q sa sb da db wa wb (zlo (zv xs 1) (zv xs 2)) (zlo (zv xs 3) (zv xs 4)) (zv xs 5) (zlo (zv xs 6) (zv xs 7)) ou (fun _ => 0) (by omega) (by omega) (by omega) (by omega) (by omega) H.size) (vx_cwSW 6 hts gL_law_L_bondYield rfl rfl rfl (by decide +kernel) ⟨Nat.le_of_ble_eq_true rfl, Nat.le_of_ble_eq_true rfl⟩) (zpS hKX hP hD [0, 1, 2, 3, 4, 5, 6, 7, 8, 9] rfl rfl) rfl rfl hl.1 rfl (lv_room (Nat.le_of_ble_eq_true rfl)) dL_law_1662 ⟨(by show _ ≤ (600002 : Nat); omega), (by show _ ≤ (7302232 : Nat); omega)⟩) hP hD hS hA [0, 1, 2, 3, 4, 5, 6, 7, 8, 9] [10] rfl rfl rfl (by decide) (fun kk u_1 H locs hw hP hD hS => ?_)
    generalize u_1 = fz at hP hD hw
    have hP : va_P G.1 vwCl [(mm, .inr (13, [.int (iz (0)), .int (iz (6)), .ref ma, .null, .ref mt, .ref ml, .int (iz (0)), .ref mw, .int (iz (0)), .ref mb, .ref mp, .int (iz (0))])), (ou, zaL (G.2 0) 1 (fz))] H := hP
    have hD : va_D (zlA s) [(mm, .inr (13, [.int (iz (0)), .int (iz (6)), .ref ma, .null, .ref mt, .ref ml, .int (iz (0)), .ref mw, .int (iz (0)), .ref mb, .ref mp, .int (iz (0))])), (ou, zaL (G.2 0) 1 (fz))] := hD
    have hw : kk = 0 ∧ (((fz 0) = -1 ∧ ¬ zcheap (zlo (zv xs 1) (zv xs 2)) (zlo (zv xs 3) (zv xs 4)) (zv xs 5) (zlo (zv xs 6) (zv xs 7)) (20000)) ∨ (0 ≤ (fz 0) ∧ (fz 0) ≤ 20000 ∧ zcheap (zlo (zv xs 1) (zv xs 2)) (zlo (zv xs 3) (zv xs 4)) (zv xs 5) (zlo (zv xs 6) (zv xs 7)) ((fz 0)) ∧ ∀ p : Int, 0 ≤ p → p < (fz 0) → ¬ zcheap (zlo (zv xs 1) (zv xs 2)) (zlo (zv xs 3) (zv xs 4)) (zv xs 5) (zlo (zv xs 6) (zv xs 7)) (p))) := hw
    rw [show kk = 0 from hw.1]
    refine lv_istore (lv' := [(5, .int (iz (0))), (0, .ref b), (1, .ref x), (2, .ref mm), (3, .ref ou), (4, .int (iz (0)))]) hx hb dL_law_1665 hl (by decide) rfl (fun ls hl => ?_)
    refine lv_aload_n hx hb dL_law_1667 rfl (lv_at hl 3 rfl) ?_
    refine lv_aload_n hx hb dL_law_1668 rfl (lv_at hl 1 rfl) ?_
    refine lv_iload hx hb dL_law_1669 (lv_at hl 5 rfl) ?_
    refine lv_iconst (v := iz (1)) hx hb dL_law_1671 rfl ?_
    refine zr_iadd hx hb dL_law_1672 ?_
    refine zr_sld hx hb hX hbl hbA hS 1 (by omega) (by omega) (by omega) dL_law_1673 ?_
    refine zr_i2l hx hb (x := zv xs 1) (⟨by omega, by omega⟩) dL_law_1674 ?_
    refine lv_bipush (v := iz (32)) hx hb dL_law_1675 rfl ?_
    refine zr_lshl32 hx hb dL_law_1677 ?_
    refine lv_aload_n hx hb dL_law_1678 rfl (lv_at hl 1 rfl) ?_
    refine lv_iload hx hb dL_law_1679 (lv_at hl 5 rfl) ?_
    refine lv_iconst (v := iz (2)) hx hb dL_law_1681 rfl ?_
    refine zr_iadd hx hb dL_law_1682 ?_
    refine zr_sld hx hb hX hbl hbA hS 2 (by omega) (by omega) (by omega) dL_law_1683 ?_
    refine zr_i2l hx hb (x := zv xs 2) (⟨by omega, by omega⟩) dL_law_1684 ?_
    refine zr_ldc2 (z := 4294967295) hx hb hown (hts (.constantLong RL 137 (4294967295)) (by decide +kernel)) rfl dL_law_1685 ?_
    refine zr_land32 hx hb dL_law_1688 ?_
    refine zr_lor32 hx hb dL_law_1689 ?_
    refine lv_aload_n hx hb dL_law_1690 rfl (lv_at hl 1 rfl) ?_
    refine lv_iload hx hb dL_law_1691 (lv_at hl 5 rfl) ?_
    refine lv_iconst (v := iz (3)) hx hb dL_law_1693 rfl ?_
    refine zr_iadd hx hb dL_law_1694 ?_
    refine zr_sld hx hb hX hbl hbA hS 3 (by omega) (by omega) (by omega) dL_law_1695 ?_
    refine zr_i2l hx hb (x := zv xs 3) (⟨by omega, by omega⟩) dL_law_1696 ?_
    refine lv_bipush (v := iz (32)) hx hb dL_law_1697 rfl ?_
    refine zr_lshl32 hx hb dL_law_1699 ?_
    refine lv_aload_n hx hb dL_law_1700 rfl (lv_at hl 1 rfl) ?_
    refine lv_iload hx hb dL_law_1701 (lv_at hl 5 rfl) ?_
    refine lv_iconst (v := iz (4)) hx hb dL_law_1703 rfl ?_
    refine zr_iadd hx hb dL_law_1704 ?_
    refine zr_sld hx hb hX hbl hbA hS 4 (by omega) (by omega) (by omega) dL_law_1705 ?_
    refine zr_i2l hx hb (x := zv xs 4) (⟨by omega, by omega⟩) dL_law_1706 ?_
    refine zr_ldc2 (z := 4294967295) hx hb hown (hts (.constantLong RL 137 (4294967295)) (by decide +kernel)) rfl dL_law_1707 ?_
    refine zr_land32 hx hb dL_law_1710 ?_
    refine zr_lor32 hx hb dL_law_1711 ?_
    refine lv_aload_n hx hb dL_law_1712 rfl (lv_at hl 1 rfl) ?_
    refine lv_iload hx hb dL_law_1713 (lv_at hl 5 rfl) ?_
    refine lv_iconst (v := iz (5)) hx hb dL_law_1715 rfl ?_
    refine zr_iadd hx hb dL_law_1716 ?_
    refine zr_sld hx hb hX hbl hbA hS 5 (by omega) (by omega) (by omega) dL_law_1717 ?_
    refine lv_aload_n hx hb dL_law_1718 rfl (lv_at hl 1 rfl) ?_
    refine lv_iload hx hb dL_law_1719 (lv_at hl 5 rfl) ?_
    refine lv_bipush (v := iz (6)) hx hb dL_law_1721 rfl ?_
    refine zr_iadd hx hb dL_law_1723 ?_
    refine zr_sld hx hb hX hbl hbA hS 6 (by omega) (by omega) (by omega) dL_law_1724 ?_
    refine zr_i2l hx hb (x := zv xs 6) (⟨by omega, by omega⟩) dL_law_1725 ?_
    refine lv_bipush (v := iz (32)) hx hb dL_law_1726 rfl ?_
    refine zr_lshl32 hx hb dL_law_1728 ?_
    refine lv_aload_n hx hb dL_law_1729 rfl (lv_at hl 1 rfl) ?_
    refine lv_iload hx hb dL_law_1730 (lv_at hl 5 rfl) ?_
    refine lv_bipush (v := iz (7)) hx hb dL_law_1732 rfl ?_
    refine zr_iadd hx hb dL_law_1734 ?_
    refine zr_sld hx hb hX hbl hbA hS 7 (by omega) (by omega) (by omega) dL_law_1735 ?_
    refine zr_i2l hx hb (x := zv xs 7) (⟨by omega, by omega⟩) dL_law_1736 ?_
    refine zr_ldc2 (z := 4294967295) hx hb hown (hts (.constantLong RL 137 (4294967295)) (by decide +kernel)) rfl dL_law_1737 ?_
    refine zr_land32 hx hb dL_law_1740 ?_
    refine zr_lor32 hx hb dL_law_1741 ?_
    refine zc_i (wr := [(ou, zaL (G.2 0) 1 (fz))]) (va_runV (As := [.long (lz (zlo (zv xs 1) (zv xs 2))), .long (lz (zlo (zv xs 3) (zv xs 4))), .int (iz (zv xs 5)), .long (lz (zlo (zv xs 6) (zv xs 7)))]) (rest := []) ⟨hx, hb, hml, hown, hts⟩ (c_X12_bondYield_o l G nA nB nE mm ma mt ml mw mb mp 0 (zlo (zv xs 1) (zv xs 2)) (zlo (zv xs 3) (zv xs 4)) (zv xs 5) (zlo (zv xs 6) (zv xs 7)) (by omega) (by omega) (by omega) (by omega) (by omega) H.size) (cwV 4 hts gL_law_X12_bondYield rfl rfl rfl (by decide +kernel) ⟨Nat.le_of_ble_eq_true rfl, Nat.le_of_ble_eq_true rfl⟩) (zpVe zE_ok hE hS hA hKX hP hD [0] rfl rfl (va_recv hK hP (ci := 13) (q0 := 0) rfl rfl)) rfl rfl hl.1 rfl (lv_room (Nat.le_of_ble_eq_true rfl)) dL_law_1742 ⟨(by show _ ≤ (600002 : Nat); omega), (by show _ ≤ (7302232 : Nat); omega)⟩) hP hD hS hA [0] [1] rfl rfl rfl (by decide) (fun zm u_3 H locs hm hP hD hS => ?_)
    generalize u_3 = thm at hP hD hm
    have hP : va_P G.1 vwCl [(ou, zaL (G.2 0) 1 (fz)), (mm, .inr (13, [.int (iz (thm)), .int (iz (6)), .ref ma, .null, .ref mt, .ref ml, .int (iz (0)), .ref mw, .int (iz (0)), .ref mb, .ref mp, .int (iz (0))]))] H := hP
    have hD : va_D (zlA s) [(ou, zaL (G.2 0) 1 (fz)), (mm, .inr (13, [.int (iz (thm)), .int (iz (6)), .ref ma, .null, .ref mt, .ref ml, .int (iz (0)), .ref mw, .int (iz (0)), .ref mb, .ref mp, .int (iz (0))]))] := hD
    have hm : ((zm = -1 ∧ ¬ zcheap (zlo (zv xs 1) (zv xs 2)) (zlo (zv xs 3) (zv xs 4)) (zv xs 5) (zlo (zv xs 6) (zv xs 7)) (20000)) ∨ (0 ≤ zm ∧ zm ≤ 20000 ∧ zcheap (zlo (zv xs 1) (zv xs 2)) (zlo (zv xs 3) (zv xs 4)) (zv xs 5) (zlo (zv xs 6) (zv xs 7)) (zm) ∧ ∀ p : Int, 0 ≤ p → p < zm → ¬ zcheap (zlo (zv xs 1) (zv xs 2)) (zlo (zv xs 3) (zv xs 4)) (zv xs 5) (zlo (zv xs 6) (zv xs 7)) (p))) ∧ thm = 0 := hm
    have htp := hm.2
    have hval := zby_uni hw.2 hm.1 (by omega)
    have hzr : -1 ≤ zm ∧ zm ≤ 20000 := by rcases hm.1 with q | q <;> omega
    refine lv_istore (lv' := [(6, .int (iz (zm))), (5, .int (iz (0))), (0, .ref b), (1, .ref x), (2, .ref mm), (3, .ref ou), (4, .int (iz (0)))]) hx hb dL_law_1745 hl (by decide) rfl (fun ls hl => ?_)
    refine lv_aload_n hx hb dL_law_1747 rfl (lv_at hl 4 rfl) ?_
    refine zc_i (wr := [(ou, zaL (G.2 0) 1 (fz))]) (va_runV (As := []) (rest := []) ⟨hx, hb, hml, hown, hts⟩ (c_X12_thrown_v l G mm thm (.ref ma) .null (.ref mt) (.ref ml) (.int (iz (0))) (.ref mw) (.int (iz (0))) (.ref mb) (.ref mp) (.int (iz (0))) 6  H.size) (cwV 0 hts gL_law_X12_thrown rfl rfl rfl (by decide +kernel) ⟨Nat.le_of_ble_eq_true rfl, Nat.le_of_ble_eq_true rfl⟩) (zpV hKX hP hD [1] rfl rfl 1 13 rfl rfl) rfl rfl hl.1 rfl (lv_room (Nat.le_of_ble_eq_true rfl)) dL_law_1748 ⟨(by show _ ≤ (600002 : Nat); omega), (by show _ ≤ (7302232 : Nat); omega)⟩) hP hD hS hA [1] [0] rfl rfl rfl (by decide) (fun th9 u_5 H locs hth hP hD hS => ?_)
    have hP : va_P G.1 vwCl [(ou, zaL (G.2 0) 1 (fz)), (mm, .inr (13, [.int (iz (thm)), .int (iz ((6 : Int))), .ref ma, .null, .ref mt, .ref ml, .int (iz (0)), .ref mw, .int (iz (0)), .ref mb, .ref mp, .int (iz (0))]))] H := hP
    have hD : va_D (zlA s) [(ou, zaL (G.2 0) 1 (fz)), (mm, .inr (13, [.int (iz (thm)), .int (iz ((6 : Int))), .ref ma, .null, .ref mt, .ref ml, .int (iz (0)), .ref mw, .int (iz (0)), .ref mb, .ref mp, .int (iz (0))]))] := hD
    have hth : th9 = thm := hth
    rw [show th9 = 0 from hth.trans htp]
    refine lv_iload hx hb dL_law_1751 (lv_at hl 1 rfl) ?_
    refine zr_icmp_eq (x := 0) (y := 0) (tgt := 1758) hx hb (⟨by omega, by omega⟩) (⟨by omega, by omega⟩) dL_law_1753 (by decide) (fun h_7 => ?_) (fun h_7 => ?_)
    ·
      refine lv_iload hx hb dL_law_1758 (lv_at hl 1 rfl) ?_
      refine zr_if_ne (x := 0) (tgt := 1775) hx hb (⟨by omega, by omega⟩) dL_law_1760 (by decide) (fun h_8 => ?_) (fun h_8 => ?_)
      · exact absurd h_8 (by omega)
      ·
        refine lv_aload_n hx hb dL_law_1763 rfl (lv_at hl 5 rfl) ?_
        refine lv_iconst (v := iz (0)) hx hb dL_law_1764 rfl ?_
        refine zr_lald hx hb hK hP 0 0 rfl rfl (i := 0) (⟨by omega, by omega, by omega⟩) dL_law_1765 ?_
        refine lv_iload hx hb dL_law_1766 (lv_at hl 0 rfl) ?_
        refine zr_i2l hx hb (x := zm) (⟨by omega, by omega⟩) dL_law_1768 ?_
        refine zr_lcmpS (x := fz 0) (y := zm) (tgt := 1775) hx hb (by first | exact hval | exact hval.symm) dL_law_1769 dL_law_1770 (by decide) ?_
        refine lv_goto (tgt := 3039) hx hb dL_law_1775 (by decide) ?_
        exact zl_end hL8 C0 hS (lv_sub hl [2, 6] rfl) (by show _ ≤ (600002 : Nat); omega) (by show _ ≤ (7302232 : Nat); omega)
    · exact absurd h_7 (by omega)
  ·
    refine lv_aload_n hx hb dL_law_1586 rfl (lv_at hl 1 rfl) ?_
    refine lv_aload_n hx hb dL_law_1587 rfl (lv_at hl 0 rfl) ?_
    refine lv_iload hx hb dL_law_1588 (lv_at hl 4 rfl) ?_
    refine lv_iconst (v := iz (1)) hx hb dL_law_1590 rfl ?_
    refine zr_iadd hx hb dL_law_1591 ?_
    refine zr_sld hx hb hX hbl hbA hS 1 (by omega) (by omega) (by omega) dL_law_1592 ?_
    refine zr_i2l hx hb (x := zv xs 1) (⟨by omega, by omega⟩) dL_law_1593 ?_
    refine lv_bipush (v := iz (32)) hx hb dL_law_1594 rfl ?_
    refine zr_lshl32 hx hb dL_law_1596 ?_
    refine lv_aload_n hx hb dL_law_1597 rfl (lv_at hl 0 rfl) ?_
    refine lv_iload hx hb dL_law_1598 (lv_at hl 4 rfl) ?_
    refine lv_iconst (v := iz (2)) hx hb dL_law_1600 rfl ?_
    refine zr_iadd hx hb dL_law_1601 ?_
    refine zr_sld hx hb hX hbl hbA hS 2 (by omega) (by omega) (by omega) dL_law_1602 ?_
    refine zr_i2l hx hb (x := zv xs 2) (⟨by omega, by omega⟩) dL_law_1603 ?_
    refine zr_ldc2 (z := 4294967295) hx hb hown (hts (.constantLong RL 137 (4294967295)) (by decide +kernel)) rfl dL_law_1604 ?_
    refine zr_land32 hx hb dL_law_1607 ?_
    refine zr_lor32 hx hb dL_law_1608 ?_
    refine lv_aload_n hx hb dL_law_1609 rfl (lv_at hl 0 rfl) ?_
    refine lv_iload hx hb dL_law_1610 (lv_at hl 4 rfl) ?_
    refine lv_iconst (v := iz (3)) hx hb dL_law_1612 rfl ?_
    refine zr_iadd hx hb dL_law_1613 ?_
    refine zr_sld hx hb hX hbl hbA hS 3 (by omega) (by omega) (by omega) dL_law_1614 ?_
    refine zr_i2l hx hb (x := zv xs 3) (⟨by omega, by omega⟩) dL_law_1615 ?_
    refine lv_bipush (v := iz (32)) hx hb dL_law_1616 rfl ?_
    refine zr_lshl32 hx hb dL_law_1618 ?_
    refine lv_aload_n hx hb dL_law_1619 rfl (lv_at hl 0 rfl) ?_
    refine lv_iload hx hb dL_law_1620 (lv_at hl 4 rfl) ?_
    refine lv_iconst (v := iz (4)) hx hb dL_law_1622 rfl ?_
    refine zr_iadd hx hb dL_law_1623 ?_
    refine zr_sld hx hb hX hbl hbA hS 4 (by omega) (by omega) (by omega) dL_law_1624 ?_
    refine zr_i2l hx hb (x := zv xs 4) (⟨by omega, by omega⟩) dL_law_1625 ?_
    refine zr_ldc2 (z := 4294967295) hx hb hown (hts (.constantLong RL 137 (4294967295)) (by decide +kernel)) rfl dL_law_1626 ?_
    refine zr_land32 hx hb dL_law_1629 ?_
    refine zr_lor32 hx hb dL_law_1630 ?_
    refine lv_aload_n hx hb dL_law_1631 rfl (lv_at hl 0 rfl) ?_
    refine lv_iload hx hb dL_law_1632 (lv_at hl 4 rfl) ?_
    refine lv_iconst (v := iz (5)) hx hb dL_law_1634 rfl ?_
    refine zr_iadd hx hb dL_law_1635 ?_
    refine zr_sld hx hb hX hbl hbA hS 5 (by omega) (by omega) (by omega) dL_law_1636 ?_
    refine lv_aload_n hx hb dL_law_1637 rfl (lv_at hl 0 rfl) ?_
    refine lv_iload hx hb dL_law_1638 (lv_at hl 4 rfl) ?_
    refine lv_bipush (v := iz (6)) hx hb dL_law_1640 rfl ?_
    refine zr_iadd hx hb dL_law_1642 ?_
    refine zr_sld hx hb hX hbl hbA hS 6 (by omega) (by omega) (by omega) dL_law_1643 ?_
    refine zr_i2l hx hb (x := zv xs 6) (⟨by omega, by omega⟩) dL_law_1644 ?_
    refine lv_bipush (v := iz (32)) hx hb dL_law_1645 rfl ?_
    refine zr_lshl32 hx hb dL_law_1647 ?_
    refine lv_aload_n hx hb dL_law_1648 rfl (lv_at hl 0 rfl) ?_
    refine lv_iload hx hb dL_law_1649 (lv_at hl 4 rfl) ?_
    refine lv_bipush (v := iz (7)) hx hb dL_law_1651 rfl ?_
    refine zr_iadd hx hb dL_law_1653 ?_
    refine zr_sld hx hb hX hbl hbA hS 7 (by omega) (by omega) (by omega) dL_law_1654 ?_
    refine zr_i2l hx hb (x := zv xs 7) (⟨by omega, by omega⟩) dL_law_1655 ?_
    refine zr_ldc2 (z := 4294967295) hx hb hown (hts (.constantLong RL 137 (4294967295)) (by decide +kernel)) rfl dL_law_1656 ?_
    refine zr_land32 hx hb dL_law_1659 ?_
    refine zr_lor32 hx hb dL_law_1660 ?_
    refine lv_aload_n hx hb dL_law_1661 rfl (lv_at hl 3 rfl) ?_
    refine zc_i (wr := [(bo, .inr (1, [.ref q])), (q, .inr (2, [.ref sa, .ref da, .ref wa, .long (lz (1)), .long (lz (1)), .int (iz (0))])), (sa, .inr (9, [.ref sb, .int (iz (0)), .long (lz (0))])), (sb, zaL (G.2 0) 40 (fun _ => 0)), (da, .inr (9, [.ref db, .int (iz (0)), .long (lz (0))])), (db, zaL (G.2 0) 40 (fun _ => 0)), (wa, .inr (9, [.ref wb, .int (iz (0)), .long (lz (0))])), (wb, zaL (G.2 0) 40 (fun _ => 0)), (mm, .inr (13, [.int (iz (0)), .int (iz (6)), .ref ma, .null, .ref mt, .ref ml, .int (iz (0)), .ref mw, .int (iz (0)), .ref mb, .ref mp, .int (iz (0))]))]) (vx_runSW (As := [.ref x, .long (lz (zlo (zv xs 1) (zv xs 2))), .long (lz (zlo (zv xs 3) (zv xs 4))), .int (iz (zv xs 5)), .long (lz (zlo (zv xs 6) (zv xs 7))), .ref ou]) (rest := []) ⟨hx, hb, hml, hown, hts⟩ (c_L_bondYield_x l G s1 s2 s3 x ro rw bo li sh tx lo nl (zlo (zv xs 1) (zv xs 2)) (zlo (zv xs 3) (zv xs 4)) (zv xs 5) (zlo (zv xs 6) (zv xs 7)) ou (fun _ => 0) hl0 (by omega) (by omega) (by omega) (by omega) (by omega) H.size) (vx_cwSW 6 hts gL_law_L_bondYield rfl rfl rfl (by decide +kernel) ⟨Nat.le_of_ble_eq_true rfl, Nat.le_of_ble_eq_true rfl⟩) (zpSe zXL_ok hEc hS hA hKX hP hD [0, 9] rfl rfl) rfl rfl hl.1 rfl (lv_room (Nat.le_of_ble_eq_true rfl)) dL_law_1662 ⟨(by show _ ≤ (600002 : Nat); omega), (by show _ ≤ (7302232 : Nat); omega)⟩) hP hD hS hA [0, 9] [1, 2, 3, 4, 5, 6, 7, 8, 10] rfl rfl rfl (by decide) (fun kk u_9 H locs hw hP hD hS => ?_)
    have hP : va_P G.1 vwCl [(bo, .inr (1, [.ref q])), (q, .inr (2, [.ref sa, .ref da, .ref wa, .long (lz (1)), .long (lz (1)), .int (iz (0))])), (sa, .inr (9, [.ref sb, .int (iz (0)), .long (lz (0))])), (sb, zaL (G.2 0) 40 (fun _ => 0)), (da, .inr (9, [.ref db, .int (iz (0)), .long (lz (0))])), (db, zaL (G.2 0) 40 (fun _ => 0)), (wa, .inr (9, [.ref wb, .int (iz (0)), .long (lz (0))])), (wb, zaL (G.2 0) 40 (fun _ => 0)), (mm, .inr (13, [.int (iz (0)), .int (iz (6)), .ref ma, .null, .ref mt, .ref ml, .int (iz (0)), .ref mw, .int (iz (0)), .ref mb, .ref mp, .int (iz (0))])), (ou, zaL (G.2 0) 1 ((fun _ => 0)))] H := hP
    have hD : va_D (zlA s) [(bo, .inr (1, [.ref q])), (q, .inr (2, [.ref sa, .ref da, .ref wa, .long (lz (1)), .long (lz (1)), .int (iz (0))])), (sa, .inr (9, [.ref sb, .int (iz (0)), .long (lz (0))])), (sb, zaL (G.2 0) 40 (fun _ => 0)), (da, .inr (9, [.ref db, .int (iz (0)), .long (lz (0))])), (db, zaL (G.2 0) 40 (fun _ => 0)), (wa, .inr (9, [.ref wb, .int (iz (0)), .long (lz (0))])), (wb, zaL (G.2 0) 40 (fun _ => 0)), (mm, .inr (13, [.int (iz (0)), .int (iz (6)), .ref ma, .null, .ref mt, .ref ml, .int (iz (0)), .ref mw, .int (iz (0)), .ref mb, .ref mp, .int (iz (0))])), (ou, zaL (G.2 0) 1 ((fun _ => 0)))] := hD
    have hw : kk = 1 := hw
    rw [show kk = 1 from hw]
    refine lv_istore (lv' := [(5, .int (iz (1))), (0, .ref b), (1, .ref x), (2, .ref mm), (3, .ref ou), (4, .int (iz (0)))]) hx hb dL_law_1665 hl (by decide) rfl (fun ls hl => ?_)
    refine lv_aload_n hx hb dL_law_1667 rfl (lv_at hl 3 rfl) ?_
    refine lv_aload_n hx hb dL_law_1668 rfl (lv_at hl 1 rfl) ?_
    refine lv_iload hx hb dL_law_1669 (lv_at hl 5 rfl) ?_
    refine lv_iconst (v := iz (1)) hx hb dL_law_1671 rfl ?_
    refine zr_iadd hx hb dL_law_1672 ?_
    refine zr_sld hx hb hX hbl hbA hS 1 (by omega) (by omega) (by omega) dL_law_1673 ?_
    refine zr_i2l hx hb (x := zv xs 1) (⟨by omega, by omega⟩) dL_law_1674 ?_
    refine lv_bipush (v := iz (32)) hx hb dL_law_1675 rfl ?_
    refine zr_lshl32 hx hb dL_law_1677 ?_
    refine lv_aload_n hx hb dL_law_1678 rfl (lv_at hl 1 rfl) ?_
    refine lv_iload hx hb dL_law_1679 (lv_at hl 5 rfl) ?_
    refine lv_iconst (v := iz (2)) hx hb dL_law_1681 rfl ?_
    refine zr_iadd hx hb dL_law_1682 ?_
    refine zr_sld hx hb hX hbl hbA hS 2 (by omega) (by omega) (by omega) dL_law_1683 ?_
    refine zr_i2l hx hb (x := zv xs 2) (⟨by omega, by omega⟩) dL_law_1684 ?_
    refine zr_ldc2 (z := 4294967295) hx hb hown (hts (.constantLong RL 137 (4294967295)) (by decide +kernel)) rfl dL_law_1685 ?_
    refine zr_land32 hx hb dL_law_1688 ?_
    refine zr_lor32 hx hb dL_law_1689 ?_
    refine lv_aload_n hx hb dL_law_1690 rfl (lv_at hl 1 rfl) ?_
    refine lv_iload hx hb dL_law_1691 (lv_at hl 5 rfl) ?_
    refine lv_iconst (v := iz (3)) hx hb dL_law_1693 rfl ?_
    refine zr_iadd hx hb dL_law_1694 ?_
    refine zr_sld hx hb hX hbl hbA hS 3 (by omega) (by omega) (by omega) dL_law_1695 ?_
    refine zr_i2l hx hb (x := zv xs 3) (⟨by omega, by omega⟩) dL_law_1696 ?_
    refine lv_bipush (v := iz (32)) hx hb dL_law_1697 rfl ?_
    refine zr_lshl32 hx hb dL_law_1699 ?_
    refine lv_aload_n hx hb dL_law_1700 rfl (lv_at hl 1 rfl) ?_
    refine lv_iload hx hb dL_law_1701 (lv_at hl 5 rfl) ?_
    refine lv_iconst (v := iz (4)) hx hb dL_law_1703 rfl ?_
    refine zr_iadd hx hb dL_law_1704 ?_
    refine zr_sld hx hb hX hbl hbA hS 4 (by omega) (by omega) (by omega) dL_law_1705 ?_
    refine zr_i2l hx hb (x := zv xs 4) (⟨by omega, by omega⟩) dL_law_1706 ?_
    refine zr_ldc2 (z := 4294967295) hx hb hown (hts (.constantLong RL 137 (4294967295)) (by decide +kernel)) rfl dL_law_1707 ?_
    refine zr_land32 hx hb dL_law_1710 ?_
    refine zr_lor32 hx hb dL_law_1711 ?_
    refine lv_aload_n hx hb dL_law_1712 rfl (lv_at hl 1 rfl) ?_
    refine lv_iload hx hb dL_law_1713 (lv_at hl 5 rfl) ?_
    refine lv_iconst (v := iz (5)) hx hb dL_law_1715 rfl ?_
    refine zr_iadd hx hb dL_law_1716 ?_
    refine zr_sld hx hb hX hbl hbA hS 5 (by omega) (by omega) (by omega) dL_law_1717 ?_
    refine lv_aload_n hx hb dL_law_1718 rfl (lv_at hl 1 rfl) ?_
    refine lv_iload hx hb dL_law_1719 (lv_at hl 5 rfl) ?_
    refine lv_bipush (v := iz (6)) hx hb dL_law_1721 rfl ?_
    refine zr_iadd hx hb dL_law_1723 ?_
    refine zr_sld hx hb hX hbl hbA hS 6 (by omega) (by omega) (by omega) dL_law_1724 ?_
    refine zr_i2l hx hb (x := zv xs 6) (⟨by omega, by omega⟩) dL_law_1725 ?_
    refine lv_bipush (v := iz (32)) hx hb dL_law_1726 rfl ?_
    refine zr_lshl32 hx hb dL_law_1728 ?_
    refine lv_aload_n hx hb dL_law_1729 rfl (lv_at hl 1 rfl) ?_
    refine lv_iload hx hb dL_law_1730 (lv_at hl 5 rfl) ?_
    refine lv_bipush (v := iz (7)) hx hb dL_law_1732 rfl ?_
    refine zr_iadd hx hb dL_law_1734 ?_
    refine zr_sld hx hb hX hbl hbA hS 7 (by omega) (by omega) (by omega) dL_law_1735 ?_
    refine zr_i2l hx hb (x := zv xs 7) (⟨by omega, by omega⟩) dL_law_1736 ?_
    refine zr_ldc2 (z := 4294967295) hx hb hown (hts (.constantLong RL 137 (4294967295)) (by decide +kernel)) rfl dL_law_1737 ?_
    refine zr_land32 hx hb dL_law_1740 ?_
    refine zr_lor32 hx hb dL_law_1741 ?_
    refine zc_i (wr := [(bo, .inr (1, [.ref q])), (q, .inr (2, [.ref sa, .ref da, .ref wa, .long (lz (1)), .long (lz (1)), .int (iz (0))])), (sa, .inr (9, [.ref sb, .int (iz (0)), .long (lz (0))])), (sb, zaL (G.2 0) 40 (fun _ => 0)), (da, .inr (9, [.ref db, .int (iz (0)), .long (lz (0))])), (db, zaL (G.2 0) 40 (fun _ => 0)), (wa, .inr (9, [.ref wb, .int (iz (0)), .long (lz (0))])), (wb, zaL (G.2 0) 40 (fun _ => 0)), (ou, zaL (G.2 0) 1 ((fun _ => 0)))]) (va_runV (As := [.long (lz (zlo (zv xs 1) (zv xs 2))), .long (lz (zlo (zv xs 3) (zv xs 4))), .int (iz (zv xs 5)), .long (lz (zlo (zv xs 6) (zv xs 7)))]) (rest := []) ⟨hx, hb, hml, hown, hts⟩ (c_X12_bondYield_x l G nA nB nE mm ma mt ml mw mb mp 0 (zlo (zv xs 1) (zv xs 2)) (zlo (zv xs 3) (zv xs 4)) (zv xs 5) (zlo (zv xs 6) (zv xs 7)) (by omega) (by omega) (by omega) (by omega) (by omega) H.size) (cwV 4 hts gL_law_X12_bondYield rfl rfl rfl (by decide +kernel) ⟨Nat.le_of_ble_eq_true rfl, Nat.le_of_ble_eq_true rfl⟩) (zpVe zE_ok hE hS hA hKX hP hD [8] rfl rfl (va_recv hK hP (ci := 13) (q0 := 8) rfl rfl)) rfl rfl hl.1 rfl (lv_room (Nat.le_of_ble_eq_true rfl)) dL_law_1742 ⟨(by show _ ≤ (600002 : Nat); omega), (by show _ ≤ (7302232 : Nat); omega)⟩) hP hD hS hA [8] [0, 1, 2, 3, 4, 5, 6, 7, 9] rfl rfl rfl (by decide) (fun zm u_11 H locs hm hP hD hS => ?_)
    generalize u_11 = thm at hP hD hm
    have hP : va_P G.1 vwCl [(bo, .inr (1, [.ref q])), (q, .inr (2, [.ref sa, .ref da, .ref wa, .long (lz (1)), .long (lz (1)), .int (iz (0))])), (sa, .inr (9, [.ref sb, .int (iz (0)), .long (lz (0))])), (sb, zaL (G.2 0) 40 (fun _ => 0)), (da, .inr (9, [.ref db, .int (iz (0)), .long (lz (0))])), (db, zaL (G.2 0) 40 (fun _ => 0)), (wa, .inr (9, [.ref wb, .int (iz (0)), .long (lz (0))])), (wb, zaL (G.2 0) 40 (fun _ => 0)), (ou, zaL (G.2 0) 1 ((fun _ => 0))), (mm, .inr (13, [.int (iz (thm)), .int (iz (6)), .ref ma, .null, .ref mt, .ref ml, .int (iz (0)), .ref mw, .int (iz (0)), .ref mb, .ref mp, .int (iz (0))]))] H := hP
    have hD : va_D (zlA s) [(bo, .inr (1, [.ref q])), (q, .inr (2, [.ref sa, .ref da, .ref wa, .long (lz (1)), .long (lz (1)), .int (iz (0))])), (sa, .inr (9, [.ref sb, .int (iz (0)), .long (lz (0))])), (sb, zaL (G.2 0) 40 (fun _ => 0)), (da, .inr (9, [.ref db, .int (iz (0)), .long (lz (0))])), (db, zaL (G.2 0) 40 (fun _ => 0)), (wa, .inr (9, [.ref wb, .int (iz (0)), .long (lz (0))])), (wb, zaL (G.2 0) 40 (fun _ => 0)), (ou, zaL (G.2 0) 1 ((fun _ => 0))), (mm, .inr (13, [.int (iz (thm)), .int (iz (6)), .ref ma, .null, .ref mt, .ref ml, .int (iz (0)), .ref mw, .int (iz (0)), .ref mb, .ref mp, .int (iz (0))]))] := hD
    have hm : zm = 0 ∧ thm = 1 := hm
    have htp := hm.2
    refine lv_istore (lv' := [(6, .int (iz (zm))), (5, .int (iz (1))), (0, .ref b), (1, .ref x), (2, .ref mm), (3, .ref ou), (4, .int (iz (0)))]) hx hb dL_law_1745 hl (by decide) rfl (fun ls hl => ?_)
    refine lv_aload_n hx hb dL_law_1747 rfl (lv_at hl 4 rfl) ?_
    refine zc_i (wr := [(bo, .inr (1, [.ref q])), (q, .inr (2, [.ref sa, .ref da, .ref wa, .long (lz (1)), .long (lz (1)), .int (iz (0))])), (sa, .inr (9, [.ref sb, .int (iz (0)), .long (lz (0))])), (sb, zaL (G.2 0) 40 (fun _ => 0)), (da, .inr (9, [.ref db, .int (iz (0)), .long (lz (0))])), (db, zaL (G.2 0) 40 (fun _ => 0)), (wa, .inr (9, [.ref wb, .int (iz (0)), .long (lz (0))])), (wb, zaL (G.2 0) 40 (fun _ => 0)), (ou, zaL (G.2 0) 1 ((fun _ => 0)))]) (va_runV (As := []) (rest := []) ⟨hx, hb, hml, hown, hts⟩ (c_X12_thrown_v l G mm thm (.ref ma) .null (.ref mt) (.ref ml) (.int (iz (0))) (.ref mw) (.int (iz (0))) (.ref mb) (.ref mp) (.int (iz (0))) 6  H.size) (cwV 0 hts gL_law_X12_thrown rfl rfl rfl (by decide +kernel) ⟨Nat.le_of_ble_eq_true rfl, Nat.le_of_ble_eq_true rfl⟩) (zpV hKX hP hD [9] rfl rfl 9 13 rfl rfl) rfl rfl hl.1 rfl (lv_room (Nat.le_of_ble_eq_true rfl)) dL_law_1748 ⟨(by show _ ≤ (600002 : Nat); omega), (by show _ ≤ (7302232 : Nat); omega)⟩) hP hD hS hA [9] [0, 1, 2, 3, 4, 5, 6, 7, 8] rfl rfl rfl (by decide) (fun th9 u_13 H locs hth hP hD hS => ?_)
    have hP : va_P G.1 vwCl [(bo, .inr (1, [.ref q])), (q, .inr (2, [.ref sa, .ref da, .ref wa, .long (lz (1)), .long (lz (1)), .int (iz (0))])), (sa, .inr (9, [.ref sb, .int (iz (0)), .long (lz (0))])), (sb, zaL (G.2 0) 40 (fun _ => 0)), (da, .inr (9, [.ref db, .int (iz (0)), .long (lz (0))])), (db, zaL (G.2 0) 40 (fun _ => 0)), (wa, .inr (9, [.ref wb, .int (iz (0)), .long (lz (0))])), (wb, zaL (G.2 0) 40 (fun _ => 0)), (ou, zaL (G.2 0) 1 ((fun _ => 0))), (mm, .inr (13, [.int (iz (thm)), .int (iz ((6 : Int))), .ref ma, .null, .ref mt, .ref ml, .int (iz (0)), .ref mw, .int (iz (0)), .ref mb, .ref mp, .int (iz (0))]))] H := hP
    have hD : va_D (zlA s) [(bo, .inr (1, [.ref q])), (q, .inr (2, [.ref sa, .ref da, .ref wa, .long (lz (1)), .long (lz (1)), .int (iz (0))])), (sa, .inr (9, [.ref sb, .int (iz (0)), .long (lz (0))])), (sb, zaL (G.2 0) 40 (fun _ => 0)), (da, .inr (9, [.ref db, .int (iz (0)), .long (lz (0))])), (db, zaL (G.2 0) 40 (fun _ => 0)), (wa, .inr (9, [.ref wb, .int (iz (0)), .long (lz (0))])), (wb, zaL (G.2 0) 40 (fun _ => 0)), (ou, zaL (G.2 0) 1 ((fun _ => 0))), (mm, .inr (13, [.int (iz (thm)), .int (iz ((6 : Int))), .ref ma, .null, .ref mt, .ref ml, .int (iz (0)), .ref mw, .int (iz (0)), .ref mb, .ref mp, .int (iz (0))]))] := hD
    have hth : th9 = thm := hth
    rw [show th9 = 1 from hth.trans htp]
    refine lv_iload hx hb dL_law_1751 (lv_at hl 1 rfl) ?_
    refine zr_icmp_eq (x := 1) (y := 1) (tgt := 1758) hx hb (⟨by omega, by omega⟩) (⟨by omega, by omega⟩) dL_law_1753 (by decide) (fun h_15 => ?_) (fun h_15 => ?_)
    ·
      refine lv_iload hx hb dL_law_1758 (lv_at hl 1 rfl) ?_
      refine zr_if_ne (x := 1) (tgt := 1775) hx hb (⟨by omega, by omega⟩) dL_law_1760 (by decide) (fun h_16 => ?_) (fun h_16 => ?_)
      ·
        refine lv_goto (tgt := 3039) hx hb dL_law_1775 (by decide) ?_
        exact zl_end hL8 C0 hS (lv_sub hl [2, 6] rfl) (by show _ ≤ (600002 : Nat); omega) (by show _ ≤ (7302232 : Nat); omega)
      · exact absurd h_16 (by omega)
    · exact absurd h_15 (by omega)

set_option maxHeartbeats 4000000 in
set_option maxRecDepth 100000 in
theorem zl_20 {p : Program} {e : Env} {s : State} {m : MethodId} {below : List Frame} {meth : Method} {c : Code} {l : Launch} (hl0 : l.stackTraces = false) {b L : Nat} {xs : Nat → Int32} (hL8 : L = 8) (C0 : lw_At p s m meth c b L xs) {G : zG} {nA nB nE s1 s2 s3 : Nat} (hKX : zK G s) (hEm : zE G nA nB nE (zlA s) s) (hEc : zXL s1 s2 s3 (zlA s) s) (x : Nat) (ro : Nat) (rw : Nat) (bo : Nat) (li : Nat) (sh : Nat) (tx : Nat) (lo : Nat) (nl : Nat) (ou : Nat) (mm : Nat) (ma : Nat) (mt : Nat) (ml : Nat) (mw : Nat) (mb : Nat) (mp : Nat) {H : Heap} {locs : List Loc} {ls : Array Slot} (hP : va_P G.1 vwCl [(x, .inr (10, [.ref ro, .ref rw, .ref bo, .ref li, .ref sh, .ref tx, .ref lo, .ref nl])), (ro, .inr (5, [.int (iz (6))])), (ou, zaL (G.2 0) 1 (fun _ => 0)), (mm, .inr (13, [.int (iz (0)), .int (iz (6)), .ref ma, .null, .ref mt, .ref ml, .int (iz (0)), .ref mw, .int (iz (0)), .ref mb, .ref mp, .int (iz (0))]))] H) (hD : va_D (zlA s) [(x, .inr (10, [.ref ro, .ref rw, .ref bo, .ref li, .ref sh, .ref tx, .ref lo, .ref nl])), (ro, .inr (5, [.int (iz (6))])), (ou, zaL (G.2 0) 1 (fun _ => 0)), (mm, .inr (13, [.int (iz (0)), .int (iz (6)), .ref ma, .null, .ref mt, .ref ml, .int (iz (0)), .ref mw, .int (iz (0)), .ref mb, .ref mp, .int (iz (0))]))]) (hS : va_S (zlA s) s.heap H locs) (hl : lv_has ls 9 [(0, .ref b), (1, .ref x), (2, .ref mm), (3, .ref ou), (4, .int (iz (0)))]) : W p l e room_1 s m #[Value.ref b] below meth c H locs 200 4000 (lw_Z below #[Value.ref b] s) (F0 m 1778 ls []) := by
  obtain ⟨hx, hb, hr, hml, hown, hts, hX, hbl, hlocks, hgv⟩ := id C0
  have hbA : ¬ zlA s b := Nat.not_le.mpr hbl
  have hK := hKX.1
  have hts : ∀ w ∈ wsL_law, w.before #[Value.ref b] s = true := fun w h => hts w (wsL_law_in w h)
  have hown : s.vm.findClass RL = some m.cls := hown
  have hA : ∀ q : Nat, s.heap.size ≤ q → zlA s q := fun _ h => h
  have hE := hEm
  have hv1 := zv_rng xs 1
  have hv2 := zv_rng xs 2
  have hv3 := zv_rng xs 3
  have hv4 := zv_rng xs 4
  have hv5 := zv_rng xs 5
  have hv6 := zv_rng xs 6
  have hv7 := zv_rng xs 7
  have hw1 := zlo_rng (zv xs 1) (zv xs 2)
  by_cases hco0 : 0 ≤ (zlo (zv xs 1) (zv xs 2)) ∧ (zlo (zv xs 1) (zv xs 2)) ≤ 1000000000 ∧ 1 ≤ (zv xs 4) ∧ (zv xs 4) ≤ 366 ∧ 0 ≤ (zv xs 3) ∧ (zv xs 3) ≤ (zv xs 4)
  ·
    refine lv_aload_n hx hb dL_law_1778 rfl (lv_at hl 1 rfl) ?_
    refine lv_aload_n hx hb dL_law_1779 rfl (lv_at hl 0 rfl) ?_
    refine lv_iload hx hb dL_law_1780 (lv_at hl 4 rfl) ?_
    refine lv_iconst (v := iz (1)) hx hb dL_law_1782 rfl ?_
    refine zr_iadd hx hb dL_law_1783 ?_
    refine zr_sld hx hb hX hbl hbA hS 1 (by omega) (by omega) (by omega) dL_law_1784 ?_
    refine zr_i2l hx hb (x := zv xs 1) (⟨by omega, by omega⟩) dL_law_1785 ?_
    refine lv_bipush (v := iz (32)) hx hb dL_law_1786 rfl ?_
    refine zr_lshl32 hx hb dL_law_1788 ?_
    refine lv_aload_n hx hb dL_law_1789 rfl (lv_at hl 0 rfl) ?_
    refine lv_iload hx hb dL_law_1790 (lv_at hl 4 rfl) ?_
    refine lv_iconst (v := iz (2)) hx hb dL_law_1792 rfl ?_
    refine zr_iadd hx hb dL_law_1793 ?_
    refine zr_sld hx hb hX hbl hbA hS 2 (by omega) (by omega) (by omega) dL_law_1794 ?_
    refine zr_i2l hx hb (x := zv xs 2) (⟨by omega, by omega⟩) dL_law_1795 ?_
    refine zr_ldc2 (z := 4294967295) hx hb hown (hts (.constantLong RL 137 (4294967295)) (by decide +kernel)) rfl dL_law_1796 ?_
    refine zr_land32 hx hb dL_law_1799 ?_
    refine zr_lor32 hx hb dL_law_1800 ?_
    refine lv_aload_n hx hb dL_law_1801 rfl (lv_at hl 0 rfl) ?_
    refine lv_iload hx hb dL_law_1802 (lv_at hl 4 rfl) ?_
    refine lv_iconst (v := iz (3)) hx hb dL_law_1804 rfl ?_
    refine zr_iadd hx hb dL_law_1805 ?_
    refine zr_sld hx hb hX hbl hbA hS 3 (by omega) (by omega) (by omega) dL_law_1806 ?_
    refine lv_aload_n hx hb dL_law_1807 rfl (lv_at hl 0 rfl) ?_
    refine lv_iload hx hb dL_law_1808 (lv_at hl 4 rfl) ?_
    refine lv_iconst (v := iz (4)) hx hb dL_law_1810 rfl ?_
    refine zr_iadd hx hb dL_law_1811 ?_
    refine zr_sld hx hb hX hbl hbA hS 4 (by omega) (by omega) (by omega) dL_law_1812 ?_
    refine lv_aload_n hx hb dL_law_1813 rfl (lv_at hl 3 rfl) ?_
    refine zc_i (wr := [(mm, .inr (13, [.int (iz (0)), .int (iz (6)), .ref ma, .null, .ref mt, .ref ml, .int (iz (0)), .ref mw, .int (iz (0)), .ref mb, .ref mp, .int (iz (0))]))]) (vx_runSW (As := [.ref x, .long (lz (zlo (zv xs 1) (zv xs 2))), .int (iz (zv xs 3)), .int (iz (zv xs 4)), .ref ou]) (rest := []) ⟨hx, hb, hml, hown, hts⟩ (c_L_accrued_o l G x ro rw bo li sh tx lo nl (zlo (zv xs 1) (zv xs 2)) (zv xs 3) (zv xs 4) ou (fun _ => 0) (by omega) (by omega) (by omega) (by omega) H.size) (vx_cwSW 5 hts gL_law_L_accrued rfl rfl rfl (by decide +kernel) ⟨Nat.le_of_ble_eq_true rfl, Nat.le_of_ble_eq_true rfl⟩) (zpS hKX hP hD [0, 1, 2] rfl rfl) rfl rfl hl.1 rfl (lv_room (Nat.le_of_ble_eq_true rfl)) dL_law_1814 ⟨(by show _ ≤ (600002 : Nat); omega), (by show _ ≤ (7302232 : Nat); omega)⟩) hP hD hS hA [0, 1, 2] [3] rfl rfl rfl (by decide) (fun kk u_1 H locs hw hP hD hS => ?_)
    generalize u_1 = fz at hP hD hw
    have hP : va_P G.1 vwCl [(mm, .inr (13, [.int (iz (0)), .int (iz (6)), .ref ma, .null, .ref mt, .ref ml, .int (iz (0)), .ref mw, .int (iz (0)), .ref mb, .ref mp, .int (iz (0))])), (ou, zaL (G.2 0) 1 (fz))] H := hP
    have hD : va_D (zlA s) [(mm, .inr (13, [.int (iz (0)), .int (iz (6)), .ref ma, .null, .ref mt, .ref ml, .int (iz (0)), .ref mw, .int (iz (0)), .ref mb, .ref mp, .int (iz (0))])), (ou, zaL (G.2 0) 1 (fz))] := hD
    have hw : kk = 0 ∧ (fz 0) = zr6 ((zlo (zv xs 1) (zv xs 2)) * (zv xs 3)) (zv xs 4) := hw
    rw [show kk = 0 from hw.1]
    refine lv_istore (lv' := [(5, .int (iz (0))), (0, .ref b), (1, .ref x), (2, .ref mm), (3, .ref ou), (4, .int (iz (0)))]) hx hb dL_law_1817 hl (by decide) rfl (fun ls hl => ?_)
    refine lv_aload_n hx hb dL_law_1819 rfl (lv_at hl 3 rfl) ?_
    refine lv_aload_n hx hb dL_law_1820 rfl (lv_at hl 1 rfl) ?_
    refine lv_iload hx hb dL_law_1821 (lv_at hl 5 rfl) ?_
    refine lv_iconst (v := iz (1)) hx hb dL_law_1823 rfl ?_
    refine zr_iadd hx hb dL_law_1824 ?_
    refine zr_sld hx hb hX hbl hbA hS 1 (by omega) (by omega) (by omega) dL_law_1825 ?_
    refine zr_i2l hx hb (x := zv xs 1) (⟨by omega, by omega⟩) dL_law_1826 ?_
    refine lv_bipush (v := iz (32)) hx hb dL_law_1827 rfl ?_
    refine zr_lshl32 hx hb dL_law_1829 ?_
    refine lv_aload_n hx hb dL_law_1830 rfl (lv_at hl 1 rfl) ?_
    refine lv_iload hx hb dL_law_1831 (lv_at hl 5 rfl) ?_
    refine lv_iconst (v := iz (2)) hx hb dL_law_1833 rfl ?_
    refine zr_iadd hx hb dL_law_1834 ?_
    refine zr_sld hx hb hX hbl hbA hS 2 (by omega) (by omega) (by omega) dL_law_1835 ?_
    refine zr_i2l hx hb (x := zv xs 2) (⟨by omega, by omega⟩) dL_law_1836 ?_
    refine zr_ldc2 (z := 4294967295) hx hb hown (hts (.constantLong RL 137 (4294967295)) (by decide +kernel)) rfl dL_law_1837 ?_
    refine zr_land32 hx hb dL_law_1840 ?_
    refine zr_lor32 hx hb dL_law_1841 ?_
    refine lv_aload_n hx hb dL_law_1842 rfl (lv_at hl 1 rfl) ?_
    refine lv_iload hx hb dL_law_1843 (lv_at hl 5 rfl) ?_
    refine lv_iconst (v := iz (3)) hx hb dL_law_1845 rfl ?_
    refine zr_iadd hx hb dL_law_1846 ?_
    refine zr_sld hx hb hX hbl hbA hS 3 (by omega) (by omega) (by omega) dL_law_1847 ?_
    refine lv_aload_n hx hb dL_law_1848 rfl (lv_at hl 1 rfl) ?_
    refine lv_iload hx hb dL_law_1849 (lv_at hl 5 rfl) ?_
    refine lv_iconst (v := iz (4)) hx hb dL_law_1851 rfl ?_
    refine zr_iadd hx hb dL_law_1852 ?_
    refine zr_sld hx hb hX hbl hbA hS 4 (by omega) (by omega) (by omega) dL_law_1853 ?_
    refine zc_l (wr := [(ou, zaL (G.2 0) 1 (fz))]) (va_runV (As := [.long (lz (zlo (zv xs 1) (zv xs 2))), .int (iz (zv xs 3)), .int (iz (zv xs 4))]) (rest := []) ⟨hx, hb, hml, hown, hts⟩ (c_X12_accrued_o l G mm ma mt ml mw mb mp 0 (zlo (zv xs 1) (zv xs 2)) (zv xs 3) (zv xs 4) (by omega) (by omega) (by omega) (by omega) H.size) (cwV 3 hts gL_law_X12_accrued rfl rfl rfl (by decide +kernel) ⟨Nat.le_of_ble_eq_true rfl, Nat.le_of_ble_eq_true rfl⟩) (zpV hKX hP hD [0] rfl rfl 0 13 rfl rfl) rfl rfl hl.1 rfl (lv_room (Nat.le_of_ble_eq_true rfl)) dL_law_1854 ⟨(by show _ ≤ (600002 : Nat); omega), (by show _ ≤ (7302232 : Nat); omega)⟩) hP hD hS hA [0] [1] rfl rfl rfl (by decide) (fun zm u_3 H locs hm hP hD hS => ?_)
    generalize u_3 = thm at hP hD hm
    have hP : va_P G.1 vwCl [(ou, zaL (G.2 0) 1 (fz)), (mm, .inr (13, [.int (iz (thm)), .int (iz (6)), .ref ma, .null, .ref mt, .ref ml, .int (iz (0)), .ref mw, .int (iz (0)), .ref mb, .ref mp, .int (iz (0))]))] H := hP
    have hD : va_D (zlA s) [(ou, zaL (G.2 0) 1 (fz)), (mm, .inr (13, [.int (iz (thm)), .int (iz (6)), .ref ma, .null, .ref mt, .ref ml, .int (iz (0)), .ref mw, .int (iz (0)), .ref mb, .ref mp, .int (iz (0))]))] := hD
    have hm : zm = zr6 ((zlo (zv xs 1) (zv xs 2)) * (zv xs 3)) (zv xs 4) ∧ thm = 0 := hm
    have htp := hm.2
    have hval := hw.2.trans hm.1.symm
    refine lv_lstore (lv' := [(6, .long (lz (zm))), (5, .int (iz (0))), (0, .ref b), (1, .ref x), (2, .ref mm), (3, .ref ou), (4, .int (iz (0)))]) hx hb dL_law_1857 hl (by decide) rfl (fun ls hl => ?_)
    refine lv_aload_n hx hb dL_law_1859 rfl (lv_at hl 4 rfl) ?_
    refine zc_i (wr := [(ou, zaL (G.2 0) 1 (fz))]) (va_runV (As := []) (rest := []) ⟨hx, hb, hml, hown, hts⟩ (c_X12_thrown_v l G mm thm (.ref ma) .null (.ref mt) (.ref ml) (.int (iz (0))) (.ref mw) (.int (iz (0))) (.ref mb) (.ref mp) (.int (iz (0))) 6  H.size) (cwV 0 hts gL_law_X12_thrown rfl rfl rfl (by decide +kernel) ⟨Nat.le_of_ble_eq_true rfl, Nat.le_of_ble_eq_true rfl⟩) (zpV hKX hP hD [1] rfl rfl 1 13 rfl rfl) rfl rfl hl.1 rfl (lv_room (Nat.le_of_ble_eq_true rfl)) dL_law_1860 ⟨(by show _ ≤ (600002 : Nat); omega), (by show _ ≤ (7302232 : Nat); omega)⟩) hP hD hS hA [1] [0] rfl rfl rfl (by decide) (fun th9 u_5 H locs hth hP hD hS => ?_)
    have hP : va_P G.1 vwCl [(ou, zaL (G.2 0) 1 (fz)), (mm, .inr (13, [.int (iz (thm)), .int (iz ((6 : Int))), .ref ma, .null, .ref mt, .ref ml, .int (iz (0)), .ref mw, .int (iz (0)), .ref mb, .ref mp, .int (iz (0))]))] H := hP
    have hD : va_D (zlA s) [(ou, zaL (G.2 0) 1 (fz)), (mm, .inr (13, [.int (iz (thm)), .int (iz ((6 : Int))), .ref ma, .null, .ref mt, .ref ml, .int (iz (0)), .ref mw, .int (iz (0)), .ref mb, .ref mp, .int (iz (0))]))] := hD
    have hth : th9 = thm := hth
    rw [show th9 = 0 from hth.trans htp]
    refine lv_iload hx hb dL_law_1863 (lv_at hl 1 rfl) ?_
    refine zr_icmp_eq (x := 0) (y := 0) (tgt := 1870) hx hb (⟨by omega, by omega⟩) (⟨by omega, by omega⟩) dL_law_1865 (by decide) (fun h_7 => ?_) (fun h_7 => ?_)
    ·
      refine lv_iload hx hb dL_law_1870 (lv_at hl 1 rfl) ?_
      refine zr_if_ne (x := 0) (tgt := 1886) hx hb (⟨by omega, by omega⟩) dL_law_1872 (by decide) (fun h_8 => ?_) (fun h_8 => ?_)
      · exact absurd h_8 (by omega)
      ·
        refine lv_aload_n hx hb dL_law_1875 rfl (lv_at hl 5 rfl) ?_
        refine lv_iconst (v := iz (0)) hx hb dL_law_1876 rfl ?_
        refine zr_lald hx hb hK hP 0 0 rfl rfl (i := 0) (⟨by omega, by omega, by omega⟩) dL_law_1877 ?_
        refine lv_lload hx hb dL_law_1878 (lv_at hl 0 rfl) ?_
        refine zr_lcmpS (x := fz 0) (y := zm) (tgt := 1886) hx hb (by first | exact hval | exact hval.symm) dL_law_1880 dL_law_1881 (by decide) ?_
        refine lv_goto (tgt := 3039) hx hb dL_law_1886 (by decide) ?_
        exact zl_end hL8 C0 hS (lv_sub hl [2, 6] rfl) (by show _ ≤ (600002 : Nat); omega) (by show _ ≤ (7302232 : Nat); omega)
    · exact absurd h_7 (by omega)
  ·
    refine lv_aload_n hx hb dL_law_1778 rfl (lv_at hl 1 rfl) ?_
    refine lv_aload_n hx hb dL_law_1779 rfl (lv_at hl 0 rfl) ?_
    refine lv_iload hx hb dL_law_1780 (lv_at hl 4 rfl) ?_
    refine lv_iconst (v := iz (1)) hx hb dL_law_1782 rfl ?_
    refine zr_iadd hx hb dL_law_1783 ?_
    refine zr_sld hx hb hX hbl hbA hS 1 (by omega) (by omega) (by omega) dL_law_1784 ?_
    refine zr_i2l hx hb (x := zv xs 1) (⟨by omega, by omega⟩) dL_law_1785 ?_
    refine lv_bipush (v := iz (32)) hx hb dL_law_1786 rfl ?_
    refine zr_lshl32 hx hb dL_law_1788 ?_
    refine lv_aload_n hx hb dL_law_1789 rfl (lv_at hl 0 rfl) ?_
    refine lv_iload hx hb dL_law_1790 (lv_at hl 4 rfl) ?_
    refine lv_iconst (v := iz (2)) hx hb dL_law_1792 rfl ?_
    refine zr_iadd hx hb dL_law_1793 ?_
    refine zr_sld hx hb hX hbl hbA hS 2 (by omega) (by omega) (by omega) dL_law_1794 ?_
    refine zr_i2l hx hb (x := zv xs 2) (⟨by omega, by omega⟩) dL_law_1795 ?_
    refine zr_ldc2 (z := 4294967295) hx hb hown (hts (.constantLong RL 137 (4294967295)) (by decide +kernel)) rfl dL_law_1796 ?_
    refine zr_land32 hx hb dL_law_1799 ?_
    refine zr_lor32 hx hb dL_law_1800 ?_
    refine lv_aload_n hx hb dL_law_1801 rfl (lv_at hl 0 rfl) ?_
    refine lv_iload hx hb dL_law_1802 (lv_at hl 4 rfl) ?_
    refine lv_iconst (v := iz (3)) hx hb dL_law_1804 rfl ?_
    refine zr_iadd hx hb dL_law_1805 ?_
    refine zr_sld hx hb hX hbl hbA hS 3 (by omega) (by omega) (by omega) dL_law_1806 ?_
    refine lv_aload_n hx hb dL_law_1807 rfl (lv_at hl 0 rfl) ?_
    refine lv_iload hx hb dL_law_1808 (lv_at hl 4 rfl) ?_
    refine lv_iconst (v := iz (4)) hx hb dL_law_1810 rfl ?_
    refine zr_iadd hx hb dL_law_1811 ?_
    refine zr_sld hx hb hX hbl hbA hS 4 (by omega) (by omega) (by omega) dL_law_1812 ?_
    refine lv_aload_n hx hb dL_law_1813 rfl (lv_at hl 3 rfl) ?_
    refine zc_i (wr := [(ro, .inr (5, [.int (iz (6))])), (mm, .inr (13, [.int (iz (0)), .int (iz (6)), .ref ma, .null, .ref mt, .ref ml, .int (iz (0)), .ref mw, .int (iz (0)), .ref mb, .ref mp, .int (iz (0))]))]) (vx_runSW (As := [.ref x, .long (lz (zlo (zv xs 1) (zv xs 2))), .int (iz (zv xs 3)), .int (iz (zv xs 4)), .ref ou]) (rest := []) ⟨hx, hb, hml, hown, hts⟩ (c_L_accrued_x l G s1 s2 s3 x ro rw bo li sh tx lo nl (zlo (zv xs 1) (zv xs 2)) (zv xs 3) (zv xs 4) ou (fun _ => 0) hl0 (by omega) (by omega) (by omega) (by omega) H.size) (vx_cwSW 5 hts gL_law_L_accrued rfl rfl rfl (by decide +kernel) ⟨Nat.le_of_ble_eq_true rfl, Nat.le_of_ble_eq_true rfl⟩) (zpSe zXL_ok hEc hS hA hKX hP hD [0, 2] rfl rfl) rfl rfl hl.1 rfl (lv_room (Nat.le_of_ble_eq_true rfl)) dL_law_1814 ⟨(by show _ ≤ (600002 : Nat); omega), (by show _ ≤ (7302232 : Nat); omega)⟩) hP hD hS hA [0, 2] [1, 3] rfl rfl rfl (by decide) (fun kk u_9 H locs hw hP hD hS => ?_)
    have hP : va_P G.1 vwCl [(ro, .inr (5, [.int (iz (6))])), (mm, .inr (13, [.int (iz (0)), .int (iz (6)), .ref ma, .null, .ref mt, .ref ml, .int (iz (0)), .ref mw, .int (iz (0)), .ref mb, .ref mp, .int (iz (0))])), (ou, zaL (G.2 0) 1 ((fun _ => 0)))] H := hP
    have hD : va_D (zlA s) [(ro, .inr (5, [.int (iz (6))])), (mm, .inr (13, [.int (iz (0)), .int (iz (6)), .ref ma, .null, .ref mt, .ref ml, .int (iz (0)), .ref mw, .int (iz (0)), .ref mb, .ref mp, .int (iz (0))])), (ou, zaL (G.2 0) 1 ((fun _ => 0)))] := hD
    have hw : kk = 1 := hw
    rw [show kk = 1 from hw]
    refine lv_istore (lv' := [(5, .int (iz (1))), (0, .ref b), (1, .ref x), (2, .ref mm), (3, .ref ou), (4, .int (iz (0)))]) hx hb dL_law_1817 hl (by decide) rfl (fun ls hl => ?_)
    refine lv_aload_n hx hb dL_law_1819 rfl (lv_at hl 3 rfl) ?_
    refine lv_aload_n hx hb dL_law_1820 rfl (lv_at hl 1 rfl) ?_
    refine lv_iload hx hb dL_law_1821 (lv_at hl 5 rfl) ?_
    refine lv_iconst (v := iz (1)) hx hb dL_law_1823 rfl ?_
    refine zr_iadd hx hb dL_law_1824 ?_
    refine zr_sld hx hb hX hbl hbA hS 1 (by omega) (by omega) (by omega) dL_law_1825 ?_
    refine zr_i2l hx hb (x := zv xs 1) (⟨by omega, by omega⟩) dL_law_1826 ?_
    refine lv_bipush (v := iz (32)) hx hb dL_law_1827 rfl ?_
    refine zr_lshl32 hx hb dL_law_1829 ?_
    refine lv_aload_n hx hb dL_law_1830 rfl (lv_at hl 1 rfl) ?_
    refine lv_iload hx hb dL_law_1831 (lv_at hl 5 rfl) ?_
    refine lv_iconst (v := iz (2)) hx hb dL_law_1833 rfl ?_
    refine zr_iadd hx hb dL_law_1834 ?_
    refine zr_sld hx hb hX hbl hbA hS 2 (by omega) (by omega) (by omega) dL_law_1835 ?_
    refine zr_i2l hx hb (x := zv xs 2) (⟨by omega, by omega⟩) dL_law_1836 ?_
    refine zr_ldc2 (z := 4294967295) hx hb hown (hts (.constantLong RL 137 (4294967295)) (by decide +kernel)) rfl dL_law_1837 ?_
    refine zr_land32 hx hb dL_law_1840 ?_
    refine zr_lor32 hx hb dL_law_1841 ?_
    refine lv_aload_n hx hb dL_law_1842 rfl (lv_at hl 1 rfl) ?_
    refine lv_iload hx hb dL_law_1843 (lv_at hl 5 rfl) ?_
    refine lv_iconst (v := iz (3)) hx hb dL_law_1845 rfl ?_
    refine zr_iadd hx hb dL_law_1846 ?_
    refine zr_sld hx hb hX hbl hbA hS 3 (by omega) (by omega) (by omega) dL_law_1847 ?_
    refine lv_aload_n hx hb dL_law_1848 rfl (lv_at hl 1 rfl) ?_
    refine lv_iload hx hb dL_law_1849 (lv_at hl 5 rfl) ?_
    refine lv_iconst (v := iz (4)) hx hb dL_law_1851 rfl ?_
    refine zr_iadd hx hb dL_law_1852 ?_
    refine zr_sld hx hb hX hbl hbA hS 4 (by omega) (by omega) (by omega) dL_law_1853 ?_
    refine zc_l (wr := [(ro, .inr (5, [.int (iz (6))])), (ou, zaL (G.2 0) 1 ((fun _ => 0)))]) (va_runV (As := [.long (lz (zlo (zv xs 1) (zv xs 2))), .int (iz (zv xs 3)), .int (iz (zv xs 4))]) (rest := []) ⟨hx, hb, hml, hown, hts⟩ (c_X12_accrued_x l G mm ma mt ml mw mb mp 0 (zlo (zv xs 1) (zv xs 2)) (zv xs 3) (zv xs 4) (by omega) (by omega) (by omega) (by omega) H.size) (cwV 3 hts gL_law_X12_accrued rfl rfl rfl (by decide +kernel) ⟨Nat.le_of_ble_eq_true rfl, Nat.le_of_ble_eq_true rfl⟩) (zpV hKX hP hD [1] rfl rfl 1 13 rfl rfl) rfl rfl hl.1 rfl (lv_room (Nat.le_of_ble_eq_true rfl)) dL_law_1854 ⟨(by show _ ≤ (600002 : Nat); omega), (by show _ ≤ (7302232 : Nat); omega)⟩) hP hD hS hA [1] [0, 2] rfl rfl rfl (by decide) (fun zm u_11 H locs hm hP hD hS => ?_)
    generalize u_11 = thm at hP hD hm
    have hP : va_P G.1 vwCl [(ro, .inr (5, [.int (iz (6))])), (ou, zaL (G.2 0) 1 ((fun _ => 0))), (mm, .inr (13, [.int (iz (thm)), .int (iz (6)), .ref ma, .null, .ref mt, .ref ml, .int (iz (0)), .ref mw, .int (iz (0)), .ref mb, .ref mp, .int (iz (0))]))] H := hP
    have hD : va_D (zlA s) [(ro, .inr (5, [.int (iz (6))])), (ou, zaL (G.2 0) 1 ((fun _ => 0))), (mm, .inr (13, [.int (iz (thm)), .int (iz (6)), .ref ma, .null, .ref mt, .ref ml, .int (iz (0)), .ref mw, .int (iz (0)), .ref mb, .ref mp, .int (iz (0))]))] := hD
    have hm : zm = 0 ∧ thm = 1 := hm
    have htp := hm.2
    refine lv_lstore (lv' := [(6, .long (lz (zm))), (5, .int (iz (1))), (0, .ref b), (1, .ref x), (2, .ref mm), (3, .ref ou), (4, .int (iz (0)))]) hx hb dL_law_1857 hl (by decide) rfl (fun ls hl => ?_)
    refine lv_aload_n hx hb dL_law_1859 rfl (lv_at hl 4 rfl) ?_
    refine zc_i (wr := [(ro, .inr (5, [.int (iz (6))])), (ou, zaL (G.2 0) 1 ((fun _ => 0)))]) (va_runV (As := []) (rest := []) ⟨hx, hb, hml, hown, hts⟩ (c_X12_thrown_v l G mm thm (.ref ma) .null (.ref mt) (.ref ml) (.int (iz (0))) (.ref mw) (.int (iz (0))) (.ref mb) (.ref mp) (.int (iz (0))) 6  H.size) (cwV 0 hts gL_law_X12_thrown rfl rfl rfl (by decide +kernel) ⟨Nat.le_of_ble_eq_true rfl, Nat.le_of_ble_eq_true rfl⟩) (zpV hKX hP hD [2] rfl rfl 2 13 rfl rfl) rfl rfl hl.1 rfl (lv_room (Nat.le_of_ble_eq_true rfl)) dL_law_1860 ⟨(by show _ ≤ (600002 : Nat); omega), (by show _ ≤ (7302232 : Nat); omega)⟩) hP hD hS hA [2] [0, 1] rfl rfl rfl (by decide) (fun th9 u_13 H locs hth hP hD hS => ?_)
    have hP : va_P G.1 vwCl [(ro, .inr (5, [.int (iz (6))])), (ou, zaL (G.2 0) 1 ((fun _ => 0))), (mm, .inr (13, [.int (iz (thm)), .int (iz ((6 : Int))), .ref ma, .null, .ref mt, .ref ml, .int (iz (0)), .ref mw, .int (iz (0)), .ref mb, .ref mp, .int (iz (0))]))] H := hP
    have hD : va_D (zlA s) [(ro, .inr (5, [.int (iz (6))])), (ou, zaL (G.2 0) 1 ((fun _ => 0))), (mm, .inr (13, [.int (iz (thm)), .int (iz ((6 : Int))), .ref ma, .null, .ref mt, .ref ml, .int (iz (0)), .ref mw, .int (iz (0)), .ref mb, .ref mp, .int (iz (0))]))] := hD
    have hth : th9 = thm := hth
    rw [show th9 = 1 from hth.trans htp]
    refine lv_iload hx hb dL_law_1863 (lv_at hl 1 rfl) ?_
    refine zr_icmp_eq (x := 1) (y := 1) (tgt := 1870) hx hb (⟨by omega, by omega⟩) (⟨by omega, by omega⟩) dL_law_1865 (by decide) (fun h_15 => ?_) (fun h_15 => ?_)
    ·
      refine lv_iload hx hb dL_law_1870 (lv_at hl 1 rfl) ?_
      refine zr_if_ne (x := 1) (tgt := 1886) hx hb (⟨by omega, by omega⟩) dL_law_1872 (by decide) (fun h_16 => ?_) (fun h_16 => ?_)
      ·
        refine lv_goto (tgt := 3039) hx hb dL_law_1886 (by decide) ?_
        exact zl_end hL8 C0 hS (lv_sub hl [2, 6] rfl) (by show _ ≤ (600002 : Nat); omega) (by show _ ≤ (7302232 : Nat); omega)
      · exact absurd h_16 (by omega)
    · exact absurd h_15 (by omega)

set_option maxHeartbeats 4000000 in
set_option maxRecDepth 100000 in
theorem zl_21 {p : Program} {e : Env} {s : State} {m : MethodId} {below : List Frame} {meth : Method} {c : Code} {l : Launch} (hl0 : l.stackTraces = false) {b L : Nat} {xs : Nat → Int32} (hL8 : L = 8) (C0 : lw_At p s m meth c b L xs) {G : zG} {nA nB nE s1 s2 s3 : Nat} (hKX : zK G s) (hEm : zE G nA nB nE (zlA s) s) (hEc : zXL s1 s2 s3 (zlA s) s) (x : Nat) (ro : Nat) (rw : Nat) (bo : Nat) (li : Nat) (sh : Nat) (tx : Nat) (lo : Nat) (nl : Nat) (lv : Nat) (q : Nat) (bq : Nat) (ou : Nat) (mm : Nat) (ma : Nat) (mt : Nat) (ml : Nat) (mw : Nat) (mb : Nat) (mp : Nat) {H : Heap} {locs : List Loc} {ls : Array Slot} (hP : va_P G.1 vwCl [(x, .inr (10, [.ref ro, .ref rw, .ref bo, .ref li, .ref sh, .ref tx, .ref lo, .ref nl])), (li, .inr (3, [.ref lv, .ref q, .ref bq, .int (iz (0))])), (lv, zaI (G.2 1) 30 (fun _ => 0)), (ou, zaL (G.2 0) 1 (fun _ => 0)), (mm, .inr (13, [.int (iz (0)), .int (iz (6)), .ref ma, .null, .ref mt, .ref ml, .int (iz (0)), .ref mw, .int (iz (0)), .ref mb, .ref mp, .int (iz (0))])), (ml, zaI (G.2 1) 31 (fun _ => 0))] H) (hD : va_D (zlA s) [(x, .inr (10, [.ref ro, .ref rw, .ref bo, .ref li, .ref sh, .ref tx, .ref lo, .ref nl])), (li, .inr (3, [.ref lv, .ref q, .ref bq, .int (iz (0))])), (lv, zaI (G.2 1) 30 (fun _ => 0)), (ou, zaL (G.2 0) 1 (fun _ => 0)), (mm, .inr (13, [.int (iz (0)), .int (iz (6)), .ref ma, .null, .ref mt, .ref ml, .int (iz (0)), .ref mw, .int (iz (0)), .ref mb, .ref mp, .int (iz (0))])), (ml, zaI (G.2 1) 31 (fun _ => 0))]) (hS : va_S (zlA s) s.heap H locs) (hl : lv_has ls 9 [(0, .ref b), (1, .ref x), (2, .ref mm), (3, .ref ou), (4, .int (iz (0)))]) : W p l e room_1 s m #[Value.ref b] below meth c H locs 200 4000 (lw_Z below #[Value.ref b] s) (F0 m 1889 ls []) := by
  obtain ⟨hx, hb, hr, hml, hown, hts, hX, hbl, hlocks, hgv⟩ := id C0
  have hbA : ¬ zlA s b := Nat.not_le.mpr hbl
  have hK := hKX.1
  have hts : ∀ w ∈ wsL_law, w.before #[Value.ref b] s = true := fun w h => hts w (wsL_law_in w h)
  have hown : s.vm.findClass RL = some m.cls := hown
  have hA : ∀ q : Nat, s.heap.size ≤ q → zlA s q := fun _ h => h
  have hE := hEm
  have hv1 := zv_rng xs 1
  have hv2 := zv_rng xs 2
  have hv3 := zv_rng xs 3
  have hv4 := zv_rng xs 4
  have hv5 := zv_rng xs 5
  have hv6 := zv_rng xs 6
  have hv7 := zv_rng xs 7
  by_cases hco0 : 1 ≤ (zv xs 1) ∧ (zv xs 1) ≤ 1000000
  ·
    refine lv_aload_n hx hb dL_law_1889 rfl (lv_at hl 1 rfl) ?_
    refine lv_aload_n hx hb dL_law_1890 rfl (lv_at hl 0 rfl) ?_
    refine lv_iload hx hb dL_law_1891 (lv_at hl 4 rfl) ?_
    refine lv_iconst (v := iz (1)) hx hb dL_law_1893 rfl ?_
    refine zr_iadd hx hb dL_law_1894 ?_
    refine zr_sld hx hb hX hbl hbA hS 1 (by omega) (by omega) (by omega) dL_law_1895 ?_
    refine lv_aload_n hx hb dL_law_1896 rfl (lv_at hl 3 rfl) ?_
    refine zc_i (wr := [(mm, .inr (13, [.int (iz (0)), .int (iz (6)), .ref ma, .null, .ref mt, .ref ml, .int (iz (0)), .ref mw, .int (iz (0)), .ref mb, .ref mp, .int (iz (0))])), (ml, zaI (G.2 1) 31 (fun _ => 0))]) (vx_runSW (As := [.ref x, .int (iz (zv xs 1)), .ref ou]) (rest := []) ⟨hx, hb, hml, hown, hts⟩ (c_L_live_o l G x ro rw bo li sh tx lo nl lv q bq (zv xs 1) ou (fun _ => 0) (by omega) (by omega) H.size) (vx_cwSW 3 hts gL_law_L_live rfl rfl rfl (by decide +kernel) ⟨Nat.le_of_ble_eq_true rfl, Nat.le_of_ble_eq_true rfl⟩) (zpS hKX hP hD [0, 1, 2, 3] rfl rfl) rfl rfl hl.1 rfl (lv_room (Nat.le_of_ble_eq_true rfl)) dL_law_1897 ⟨(by show _ ≤ (600002 : Nat); omega), (by show _ ≤ (7302232 : Nat); omega)⟩) hP hD hS hA [0, 1, 2, 3] [4, 5] rfl rfl rfl (by decide) (fun kk u_1 H locs hw hP hD hS => ?_)
    generalize u_1 = fz at hP hD hw
    have hP : va_P G.1 vwCl [(mm, .inr (13, [.int (iz (0)), .int (iz (6)), .ref ma, .null, .ref mt, .ref ml, .int (iz (0)), .ref mw, .int (iz (0)), .ref mb, .ref mp, .int (iz (0))])), (ml, zaI (G.2 1) 31 (fun _ => 0)), (ou, zaL (G.2 0) 1 (fz))] H := hP
    have hD : va_D (zlA s) [(mm, .inr (13, [.int (iz (0)), .int (iz (6)), .ref ma, .null, .ref mt, .ref ml, .int (iz (0)), .ref mw, .int (iz (0)), .ref mb, .ref mp, .int (iz (0))])), (ml, zaI (G.2 1) 31 (fun _ => 0)), (ou, zaL (G.2 0) 1 (fz))] := hD
    have hw : kk = 0 ∧ (fz 0) = 1 := hw
    rw [show kk = 0 from hw.1]
    refine lv_istore (lv' := [(5, .int (iz (0))), (0, .ref b), (1, .ref x), (2, .ref mm), (3, .ref ou), (4, .int (iz (0)))]) hx hb dL_law_1900 hl (by decide) rfl (fun ls hl => ?_)
    refine lv_aload_n hx hb dL_law_1902 rfl (lv_at hl 3 rfl) ?_
    refine lv_aload_n hx hb dL_law_1903 rfl (lv_at hl 1 rfl) ?_
    refine lv_iload hx hb dL_law_1904 (lv_at hl 5 rfl) ?_
    refine lv_iconst (v := iz (1)) hx hb dL_law_1906 rfl ?_
    refine zr_iadd hx hb dL_law_1907 ?_
    refine zr_sld hx hb hX hbl hbA hS 1 (by omega) (by omega) (by omega) dL_law_1908 ?_
    refine zc_i (wr := [(ou, zaL (G.2 0) 1 (fz))]) (va_runV (As := [.int (iz (zv xs 1))]) (rest := []) ⟨hx, hb, hml, hown, hts⟩ (c_X12_live_o l G mm ma mt ml mw mb mp 0 (zv xs 1) (by omega) (by omega) H.size) (cwV 1 hts gL_law_X12_live rfl rfl rfl (by decide +kernel) ⟨Nat.le_of_ble_eq_true rfl, Nat.le_of_ble_eq_true rfl⟩) (zpV hKX hP hD [0, 1] rfl rfl 0 13 rfl rfl) rfl rfl hl.1 rfl (lv_room (Nat.le_of_ble_eq_true rfl)) dL_law_1909 ⟨(by show _ ≤ (600002 : Nat); omega), (by show _ ≤ (7302232 : Nat); omega)⟩) hP hD hS hA [0, 1] [2] rfl rfl rfl (by decide) (fun zm u_3 H locs hm hP hD hS => ?_)
    generalize u_3 = thm at hP hD hm
    have hP : va_P G.1 vwCl [(ou, zaL (G.2 0) 1 (fz)), (mm, .inr (13, [.int (iz (thm)), .int (iz (6)), .ref ma, .null, .ref mt, .ref ml, .int (iz (0 + 1)), .ref mw, .int (iz (0)), .ref mb, .ref mp, .int (iz (0))]))] H := hP
    have hD : va_D (zlA s) [(ou, zaL (G.2 0) 1 (fz)), (mm, .inr (13, [.int (iz (thm)), .int (iz (6)), .ref ma, .null, .ref mt, .ref ml, .int (iz (0 + 1)), .ref mw, .int (iz (0)), .ref mb, .ref mp, .int (iz (0))]))] := hD
    have hm : zm = 1 ∧ thm = 0 := hm
    have htp := hm.2
    have hval := hw.2.trans hm.1.symm
    refine lv_istore (lv' := [(6, .int (iz (zm))), (5, .int (iz (0))), (0, .ref b), (1, .ref x), (2, .ref mm), (3, .ref ou), (4, .int (iz (0)))]) hx hb dL_law_1912 hl (by decide) rfl (fun ls hl => ?_)
    refine lv_aload_n hx hb dL_law_1914 rfl (lv_at hl 4 rfl) ?_
    refine zc_i (wr := [(ou, zaL (G.2 0) 1 (fz))]) (va_runV (As := []) (rest := []) ⟨hx, hb, hml, hown, hts⟩ (c_X12_thrown_v l G mm thm (.ref ma) .null (.ref mt) (.ref ml) (.int (iz (0 + 1))) (.ref mw) (.int (iz (0))) (.ref mb) (.ref mp) (.int (iz (0))) 6  H.size) (cwV 0 hts gL_law_X12_thrown rfl rfl rfl (by decide +kernel) ⟨Nat.le_of_ble_eq_true rfl, Nat.le_of_ble_eq_true rfl⟩) (zpV hKX hP hD [1] rfl rfl 1 13 rfl rfl) rfl rfl hl.1 rfl (lv_room (Nat.le_of_ble_eq_true rfl)) dL_law_1915 ⟨(by show _ ≤ (600002 : Nat); omega), (by show _ ≤ (7302232 : Nat); omega)⟩) hP hD hS hA [1] [0] rfl rfl rfl (by decide) (fun th9 u_5 H locs hth hP hD hS => ?_)
    have hP : va_P G.1 vwCl [(ou, zaL (G.2 0) 1 (fz)), (mm, .inr (13, [.int (iz (thm)), .int (iz ((6 : Int))), .ref ma, .null, .ref mt, .ref ml, .int (iz (0 + 1)), .ref mw, .int (iz (0)), .ref mb, .ref mp, .int (iz (0))]))] H := hP
    have hD : va_D (zlA s) [(ou, zaL (G.2 0) 1 (fz)), (mm, .inr (13, [.int (iz (thm)), .int (iz ((6 : Int))), .ref ma, .null, .ref mt, .ref ml, .int (iz (0 + 1)), .ref mw, .int (iz (0)), .ref mb, .ref mp, .int (iz (0))]))] := hD
    have hth : th9 = thm := hth
    rw [show th9 = 0 from hth.trans htp]
    refine lv_iload hx hb dL_law_1918 (lv_at hl 1 rfl) ?_
    refine zr_icmp_eq (x := 0) (y := 0) (tgt := 1925) hx hb (⟨by omega, by omega⟩) (⟨by omega, by omega⟩) dL_law_1920 (by decide) (fun h_7 => ?_) (fun h_7 => ?_)
    ·
      refine lv_iload hx hb dL_law_1925 (lv_at hl 1 rfl) ?_
      refine zr_if_ne (x := 0) (tgt := 1942) hx hb (⟨by omega, by omega⟩) dL_law_1927 (by decide) (fun h_8 => ?_) (fun h_8 => ?_)
      · exact absurd h_8 (by omega)
      ·
        refine lv_aload_n hx hb dL_law_1930 rfl (lv_at hl 5 rfl) ?_
        refine lv_iconst (v := iz (0)) hx hb dL_law_1931 rfl ?_
        refine zr_lald hx hb hK hP 0 0 rfl rfl (i := 0) (⟨by omega, by omega, by omega⟩) dL_law_1932 ?_
        refine lv_iload hx hb dL_law_1933 (lv_at hl 0 rfl) ?_
        refine zr_i2l hx hb (x := zm) (⟨by omega, by omega⟩) dL_law_1935 ?_
        refine zr_lcmpS (x := fz 0) (y := zm) (tgt := 1942) hx hb (by first | exact hval | exact hval.symm) dL_law_1936 dL_law_1937 (by decide) ?_
        refine lv_goto (tgt := 3039) hx hb dL_law_1942 (by decide) ?_
        exact zl_end hL8 C0 hS (lv_sub hl [2, 6] rfl) (by show _ ≤ (600002 : Nat); omega) (by show _ ≤ (7302232 : Nat); omega)
    · exact absurd h_7 (by omega)
  ·
    refine lv_aload_n hx hb dL_law_1889 rfl (lv_at hl 1 rfl) ?_
    refine lv_aload_n hx hb dL_law_1890 rfl (lv_at hl 0 rfl) ?_
    refine lv_iload hx hb dL_law_1891 (lv_at hl 4 rfl) ?_
    refine lv_iconst (v := iz (1)) hx hb dL_law_1893 rfl ?_
    refine zr_iadd hx hb dL_law_1894 ?_
    refine zr_sld hx hb hX hbl hbA hS 1 (by omega) (by omega) (by omega) dL_law_1895 ?_
    refine lv_aload_n hx hb dL_law_1896 rfl (lv_at hl 3 rfl) ?_
    refine zc_i (wr := [(lv, zaI (G.2 1) 30 (fun _ => 0)), (mm, .inr (13, [.int (iz (0)), .int (iz (6)), .ref ma, .null, .ref mt, .ref ml, .int (iz (0)), .ref mw, .int (iz (0)), .ref mb, .ref mp, .int (iz (0))])), (ml, zaI (G.2 1) 31 (fun _ => 0))]) (vx_runSW (As := [.ref x, .int (iz (zv xs 1)), .ref ou]) (rest := []) ⟨hx, hb, hml, hown, hts⟩ (c_L_live_x l G s1 s2 s3 x ro rw bo li sh tx lo nl lv q bq (zv xs 1) ou (fun _ => 0) hl0 (by omega) (by omega) H.size) (vx_cwSW 3 hts gL_law_L_live rfl rfl rfl (by decide +kernel) ⟨Nat.le_of_ble_eq_true rfl, Nat.le_of_ble_eq_true rfl⟩) (zpSe zXL_ok hEc hS hA hKX hP hD [0, 1, 3] rfl rfl) rfl rfl hl.1 rfl (lv_room (Nat.le_of_ble_eq_true rfl)) dL_law_1897 ⟨(by show _ ≤ (600002 : Nat); omega), (by show _ ≤ (7302232 : Nat); omega)⟩) hP hD hS hA [0, 1, 3] [2, 4, 5] rfl rfl rfl (by decide) (fun kk u_9 H locs hw hP hD hS => ?_)
    have hP : va_P G.1 vwCl [(lv, zaI (G.2 1) 30 (fun _ => 0)), (mm, .inr (13, [.int (iz (0)), .int (iz (6)), .ref ma, .null, .ref mt, .ref ml, .int (iz (0)), .ref mw, .int (iz (0)), .ref mb, .ref mp, .int (iz (0))])), (ml, zaI (G.2 1) 31 (fun _ => 0)), (ou, zaL (G.2 0) 1 ((fun _ => 0)))] H := hP
    have hD : va_D (zlA s) [(lv, zaI (G.2 1) 30 (fun _ => 0)), (mm, .inr (13, [.int (iz (0)), .int (iz (6)), .ref ma, .null, .ref mt, .ref ml, .int (iz (0)), .ref mw, .int (iz (0)), .ref mb, .ref mp, .int (iz (0))])), (ml, zaI (G.2 1) 31 (fun _ => 0)), (ou, zaL (G.2 0) 1 ((fun _ => 0)))] := hD
    have hw : kk = 1 := hw
    rw [show kk = 1 from hw]
    refine lv_istore (lv' := [(5, .int (iz (1))), (0, .ref b), (1, .ref x), (2, .ref mm), (3, .ref ou), (4, .int (iz (0)))]) hx hb dL_law_1900 hl (by decide) rfl (fun ls hl => ?_)
    refine lv_aload_n hx hb dL_law_1902 rfl (lv_at hl 3 rfl) ?_
    refine lv_aload_n hx hb dL_law_1903 rfl (lv_at hl 1 rfl) ?_
    refine lv_iload hx hb dL_law_1904 (lv_at hl 5 rfl) ?_
    refine lv_iconst (v := iz (1)) hx hb dL_law_1906 rfl ?_
    refine zr_iadd hx hb dL_law_1907 ?_
    refine zr_sld hx hb hX hbl hbA hS 1 (by omega) (by omega) (by omega) dL_law_1908 ?_
    refine zc_i (wr := [(lv, zaI (G.2 1) 30 (fun _ => 0)), (ou, zaL (G.2 0) 1 ((fun _ => 0)))]) (va_runV (As := [.int (iz (zv xs 1))]) (rest := []) ⟨hx, hb, hml, hown, hts⟩ (c_X12_live_x l G mm ma mt ml mw mb mp 0 (zv xs 1) (by omega) (by omega) H.size) (cwV 1 hts gL_law_X12_live rfl rfl rfl (by decide +kernel) ⟨Nat.le_of_ble_eq_true rfl, Nat.le_of_ble_eq_true rfl⟩) (zpV hKX hP hD [1, 2] rfl rfl 1 13 rfl rfl) rfl rfl hl.1 rfl (lv_room (Nat.le_of_ble_eq_true rfl)) dL_law_1909 ⟨(by show _ ≤ (600002 : Nat); omega), (by show _ ≤ (7302232 : Nat); omega)⟩) hP hD hS hA [1, 2] [0, 3] rfl rfl rfl (by decide) (fun zm u_11 H locs hm hP hD hS => ?_)
    generalize u_11 = thm at hP hD hm
    have hP : va_P G.1 vwCl [(lv, zaI (G.2 1) 30 (fun _ => 0)), (ou, zaL (G.2 0) 1 ((fun _ => 0))), (mm, .inr (13, [.int (iz (thm)), .int (iz (6)), .ref ma, .null, .ref mt, .ref ml, .int (iz (0)), .ref mw, .int (iz (0)), .ref mb, .ref mp, .int (iz (0))]))] H := hP
    have hD : va_D (zlA s) [(lv, zaI (G.2 1) 30 (fun _ => 0)), (ou, zaL (G.2 0) 1 ((fun _ => 0))), (mm, .inr (13, [.int (iz (thm)), .int (iz (6)), .ref ma, .null, .ref mt, .ref ml, .int (iz (0)), .ref mw, .int (iz (0)), .ref mb, .ref mp, .int (iz (0))]))] := hD
    have hm : zm = 0 ∧ thm = 1 := hm
    have htp := hm.2
    refine lv_istore (lv' := [(6, .int (iz (zm))), (5, .int (iz (1))), (0, .ref b), (1, .ref x), (2, .ref mm), (3, .ref ou), (4, .int (iz (0)))]) hx hb dL_law_1912 hl (by decide) rfl (fun ls hl => ?_)
    refine lv_aload_n hx hb dL_law_1914 rfl (lv_at hl 4 rfl) ?_
    refine zc_i (wr := [(lv, zaI (G.2 1) 30 (fun _ => 0)), (ou, zaL (G.2 0) 1 ((fun _ => 0)))]) (va_runV (As := []) (rest := []) ⟨hx, hb, hml, hown, hts⟩ (c_X12_thrown_v l G mm thm (.ref ma) .null (.ref mt) (.ref ml) (.int (iz (0))) (.ref mw) (.int (iz (0))) (.ref mb) (.ref mp) (.int (iz (0))) 6  H.size) (cwV 0 hts gL_law_X12_thrown rfl rfl rfl (by decide +kernel) ⟨Nat.le_of_ble_eq_true rfl, Nat.le_of_ble_eq_true rfl⟩) (zpV hKX hP hD [2] rfl rfl 2 13 rfl rfl) rfl rfl hl.1 rfl (lv_room (Nat.le_of_ble_eq_true rfl)) dL_law_1915 ⟨(by show _ ≤ (600002 : Nat); omega), (by show _ ≤ (7302232 : Nat); omega)⟩) hP hD hS hA [2] [0, 1] rfl rfl rfl (by decide) (fun th9 u_13 H locs hth hP hD hS => ?_)
    have hP : va_P G.1 vwCl [(lv, zaI (G.2 1) 30 (fun _ => 0)), (ou, zaL (G.2 0) 1 ((fun _ => 0))), (mm, .inr (13, [.int (iz (thm)), .int (iz ((6 : Int))), .ref ma, .null, .ref mt, .ref ml, .int (iz (0)), .ref mw, .int (iz (0)), .ref mb, .ref mp, .int (iz (0))]))] H := hP
    have hD : va_D (zlA s) [(lv, zaI (G.2 1) 30 (fun _ => 0)), (ou, zaL (G.2 0) 1 ((fun _ => 0))), (mm, .inr (13, [.int (iz (thm)), .int (iz ((6 : Int))), .ref ma, .null, .ref mt, .ref ml, .int (iz (0)), .ref mw, .int (iz (0)), .ref mb, .ref mp, .int (iz (0))]))] := hD
    have hth : th9 = thm := hth
    rw [show th9 = 1 from hth.trans htp]
    refine lv_iload hx hb dL_law_1918 (lv_at hl 1 rfl) ?_
    refine zr_icmp_eq (x := 1) (y := 1) (tgt := 1925) hx hb (⟨by omega, by omega⟩) (⟨by omega, by omega⟩) dL_law_1920 (by decide) (fun h_15 => ?_) (fun h_15 => ?_)
    ·
      refine lv_iload hx hb dL_law_1925 (lv_at hl 1 rfl) ?_
      refine zr_if_ne (x := 1) (tgt := 1942) hx hb (⟨by omega, by omega⟩) dL_law_1927 (by decide) (fun h_16 => ?_) (fun h_16 => ?_)
      ·
        refine lv_goto (tgt := 3039) hx hb dL_law_1942 (by decide) ?_
        exact zl_end hL8 C0 hS (lv_sub hl [2, 6] rfl) (by show _ ≤ (600002 : Nat); omega) (by show _ ≤ (7302232 : Nat); omega)
      · exact absurd h_16 (by omega)
    · exact absurd h_15 (by omega)

set_option maxHeartbeats 4000000 in
set_option maxRecDepth 100000 in
theorem zl_22 {p : Program} {e : Env} {s : State} {m : MethodId} {below : List Frame} {meth : Method} {c : Code} {l : Launch} (hl0 : l.stackTraces = false) {b L : Nat} {xs : Nat → Int32} (hL8 : L = 8) (C0 : lw_At p s m meth c b L xs) {G : zG} {nA nB nE s1 s2 s3 : Nat} (hKX : zK G s) (hEm : zE G nA nB nE (zlA s) s) (hEc : zXL s1 s2 s3 (zlA s) s) (x : Nat) (ro : Nat) (rw : Nat) (bo : Nat) (li : Nat) (sh : Nat) (tx : Nat) (lo : Nat) (nl : Nat) (lv : Nat) (q : Nat) (bq : Nat) (ou : Nat) (mm : Nat) (ma : Nat) (mt : Nat) (ml : Nat) (mw : Nat) (mb : Nat) (mp : Nat) {H : Heap} {locs : List Loc} {ls : Array Slot} (hP : va_P G.1 vwCl [(x, .inr (10, [.ref ro, .ref rw, .ref bo, .ref li, .ref sh, .ref tx, .ref lo, .ref nl])), (li, .inr (3, [.ref lv, .ref q, .ref bq, .int (iz (0))])), (ou, zaL (G.2 0) 1 (fun _ => 0)), (mm, .inr (13, [.int (iz (0)), .int (iz (6)), .ref ma, .null, .ref mt, .ref ml, .int (iz (0)), .ref mw, .int (iz (0)), .ref mb, .ref mp, .int (iz (0))]))] H) (hD : va_D (zlA s) [(x, .inr (10, [.ref ro, .ref rw, .ref bo, .ref li, .ref sh, .ref tx, .ref lo, .ref nl])), (li, .inr (3, [.ref lv, .ref q, .ref bq, .int (iz (0))])), (ou, zaL (G.2 0) 1 (fun _ => 0)), (mm, .inr (13, [.int (iz (0)), .int (iz (6)), .ref ma, .null, .ref mt, .ref ml, .int (iz (0)), .ref mw, .int (iz (0)), .ref mb, .ref mp, .int (iz (0))]))]) (hS : va_S (zlA s) s.heap H locs) (hl : lv_has ls 9 [(0, .ref b), (1, .ref x), (2, .ref mm), (3, .ref ou), (4, .int (iz (0)))]) : W p l e room_1 s m #[Value.ref b] below meth c H locs 200 4000 (lw_Z below #[Value.ref b] s) (F0 m 1945 ls []) := by
  obtain ⟨hx, hb, hr, hml, hown, hts, hX, hbl, hlocks, hgv⟩ := id C0
  have hbA : ¬ zlA s b := Nat.not_le.mpr hbl
  have hK := hKX.1
  have hts : ∀ w ∈ wsL_law, w.before #[Value.ref b] s = true := fun w h => hts w (wsL_law_in w h)
  have hown : s.vm.findClass RL = some m.cls := hown
  have hA : ∀ q : Nat, s.heap.size ≤ q → zlA s q := fun _ h => h
  have hE := hEm
  have hv1 := zv_rng xs 1
  have hv2 := zv_rng xs 2
  have hv3 := zv_rng xs 3
  have hv4 := zv_rng xs 4
  have hv5 := zv_rng xs 5
  have hv6 := zv_rng xs 6
  have hv7 := zv_rng xs 7
  refine lv_aload_n hx hb dL_law_1945 rfl (lv_at hl 1 rfl) ?_
  refine zc_i (wr := [(ou, zaL (G.2 0) 1 (fun _ => 0)), (mm, .inr (13, [.int (iz (0)), .int (iz (6)), .ref ma, .null, .ref mt, .ref ml, .int (iz (0)), .ref mw, .int (iz (0)), .ref mb, .ref mp, .int (iz (0))]))]) (va_runV (As := []) (rest := []) ⟨hx, hb, hml, hown, hts⟩ (c_X9_clearLives l G x ro rw bo li sh tx lo nl lv q bq  H.size) (cwV 0 hts gL_law_X9_clearLives rfl rfl rfl (by decide +kernel) ⟨Nat.le_of_ble_eq_true rfl, Nat.le_of_ble_eq_true rfl⟩) (zpV hKX hP hD [0, 1] rfl rfl 0 10 rfl rfl) rfl rfl hl.1 rfl (lv_room (Nat.le_of_ble_eq_true rfl)) dL_law_1946 ⟨(by show _ ≤ (600002 : Nat); omega), (by show _ ≤ (7302232 : Nat); omega)⟩) hP hD hS hA [0, 1] [2, 3] rfl rfl rfl (by decide) (fun zw u_1 H locs hw hP hD hS => ?_)
  have hP : va_P G.1 vwCl [(ou, zaL (G.2 0) 1 (fun _ => 0)), (mm, .inr (13, [.int (iz (0)), .int (iz (6)), .ref ma, .null, .ref mt, .ref ml, .int (iz (0)), .ref mw, .int (iz (0)), .ref mb, .ref mp, .int (iz (0))])), (x, .inr (10, [.ref ro, .ref rw, .ref bo, .ref li, .ref sh, .ref tx, .ref lo, .ref nl])), (li, .inr (3, [.ref lv, .ref q, .ref bq, .int (iz (0))]))] H := hP
  have hD : va_D (zlA s) [(ou, zaL (G.2 0) 1 (fun _ => 0)), (mm, .inr (13, [.int (iz (0)), .int (iz (6)), .ref ma, .null, .ref mt, .ref ml, .int (iz (0)), .ref mw, .int (iz (0)), .ref mb, .ref mp, .int (iz (0))])), (x, .inr (10, [.ref ro, .ref rw, .ref bo, .ref li, .ref sh, .ref tx, .ref lo, .ref nl])), (li, .inr (3, [.ref lv, .ref q, .ref bq, .int (iz (0))]))] := hD
  have hw : zw = 0 := hw
  refine lv_aload_n hx hb dL_law_1949 rfl (lv_at hl 2 rfl) ?_
  refine zc_i (wr := [(ou, zaL (G.2 0) 1 (fun _ => 0)), (x, .inr (10, [.ref ro, .ref rw, .ref bo, .ref li, .ref sh, .ref tx, .ref lo, .ref nl])), (li, .inr (3, [.ref lv, .ref q, .ref bq, .int (iz (0))]))]) (va_runV (As := []) (rest := [.int (iz (zw))]) ⟨hx, hb, hml, hown, hts⟩ (c_X12_clearLives l G mm ma mt ml mw mb mp 0  H.size) (cwV 0 hts gL_law_X12_clearLives rfl rfl rfl (by decide +kernel) ⟨Nat.le_of_ble_eq_true rfl, Nat.le_of_ble_eq_true rfl⟩) (zpV hKX hP hD [1] rfl rfl 1 13 rfl rfl) rfl rfl hl.1 rfl (lv_room (Nat.le_of_ble_eq_true rfl)) dL_law_1950 ⟨(by show _ ≤ (600002 : Nat); omega), (by show _ ≤ (7302232 : Nat); omega)⟩) hP hD hS hA [1] [0, 2, 3] rfl rfl rfl (by decide) (fun zm u_3 H locs hm hP hD hS => ?_)
  generalize u_3 = thm at hP hD hm
  have hP : va_P G.1 vwCl [(ou, zaL (G.2 0) 1 (fun _ => 0)), (x, .inr (10, [.ref ro, .ref rw, .ref bo, .ref li, .ref sh, .ref tx, .ref lo, .ref nl])), (li, .inr (3, [.ref lv, .ref q, .ref bq, .int (iz (0))])), (mm, .inr (13, [.int (iz (thm)), .int (iz (6)), .ref ma, .null, .ref mt, .ref ml, .int (iz (0)), .ref mw, .int (iz (0)), .ref mb, .ref mp, .int (iz (0))]))] H := hP
  have hD : va_D (zlA s) [(ou, zaL (G.2 0) 1 (fun _ => 0)), (x, .inr (10, [.ref ro, .ref rw, .ref bo, .ref li, .ref sh, .ref tx, .ref lo, .ref nl])), (li, .inr (3, [.ref lv, .ref q, .ref bq, .int (iz (0))])), (mm, .inr (13, [.int (iz (thm)), .int (iz (6)), .ref ma, .null, .ref mt, .ref ml, .int (iz (0)), .ref mw, .int (iz (0)), .ref mb, .ref mp, .int (iz (0))]))] := hD
  have hm : zm = 0 ∧ thm = 0 := hm
  have htp := hm.2
  have hval := hw.trans hm.1.symm
  refine zr_icmpS (x := zw) (y := zm) (tgt := 3039) hx hb (by first | exact hval | exact hval.symm) dL_law_1953 (by decide) ?_
  exact zl_end hL8 C0 hS (lv_sub hl [0, 4] rfl) (by show _ ≤ (600002 : Nat); omega) (by show _ ≤ (7302232 : Nat); omega)

set_option maxHeartbeats 4000000 in
set_option maxRecDepth 100000 in
theorem zl_23 {p : Program} {e : Env} {s : State} {m : MethodId} {below : List Frame} {meth : Method} {c : Code} {l : Launch} (hl0 : l.stackTraces = false) {b L : Nat} {xs : Nat → Int32} (hL8 : L = 8) (C0 : lw_At p s m meth c b L xs) {G : zG} {nA nB nE s1 s2 s3 : Nat} (hKX : zK G s) (hEm : zE G nA nB nE (zlA s) s) (hEc : zXL s1 s2 s3 (zlA s) s) (x : Nat) (ro : Nat) (rw : Nat) (bo : Nat) (li : Nat) (sh : Nat) (tx : Nat) (lo : Nat) (nl : Nat) (lx0 : Value) (lx1 : Value) (lx2 : Value) (ou : Nat) (mm : Nat) (ma : Nat) (mt : Nat) (ml : Nat) (mw : Nat) (mb : Nat) (mp : Nat) {H : Heap} {locs : List Loc} {ls : Array Slot} (hP : va_P G.1 vwCl [(x, .inr (10, [.ref ro, .ref rw, .ref bo, .ref li, .ref sh, .ref tx, .ref lo, .ref nl])), (li, .inr (3, [lx0, lx1, lx2, .int (iz (0))])), (ou, zaL (G.2 0) 1 (fun _ => 0)), (mm, .inr (13, [.int (iz (0)), .int (iz (6)), .ref ma, .null, .ref mt, .ref ml, .int (iz (0)), .ref mw, .int (iz (0)), .ref mb, .ref mp, .int (iz (0))]))] H) (hD : va_D (zlA s) [(x, .inr (10, [.ref ro, .ref rw, .ref bo, .ref li, .ref sh, .ref tx, .ref lo, .ref nl])), (li, .inr (3, [lx0, lx1, lx2, .int (iz (0))])), (ou, zaL (G.2 0) 1 (fun _ => 0)), (mm, .inr (13, [.int (iz (0)), .int (iz (6)), .ref ma, .null, .ref mt, .ref ml, .int (iz (0)), .ref mw, .int (iz (0)), .ref mb, .ref mp, .int (iz (0))]))]) (hS : va_S (zlA s) s.heap H locs) (hl : lv_has ls 9 [(0, .ref b), (1, .ref x), (2, .ref mm), (3, .ref ou), (4, .int (iz (0)))]) : W p l e room_1 s m #[Value.ref b] below meth c H locs 200 4000 (lw_Z below #[Value.ref b] s) (F0 m 1958 ls []) := by
  obtain ⟨hx, hb, hr, hml, hown, hts, hX, hbl, hlocks, hgv⟩ := id C0
  have hbA : ¬ zlA s b := Nat.not_le.mpr hbl
  have hK := hKX.1
  have hts : ∀ w ∈ wsL_law, w.before #[Value.ref b] s = true := fun w h => hts w (wsL_law_in w h)
  have hown : s.vm.findClass RL = some m.cls := hown
  have hA : ∀ q : Nat, s.heap.size ≤ q → zlA s q := fun _ h => h
  have hE := hEm
  have hv1 := zv_rng xs 1
  have hv2 := zv_rng xs 2
  have hv3 := zv_rng xs 3
  have hv4 := zv_rng xs 4
  have hv5 := zv_rng xs 5
  have hv6 := zv_rng xs 6
  have hv7 := zv_rng xs 7
  have hw2 := zlo_rng (zv xs 2) (zv xs 3)
  by_cases hco0 : 0 ≤ (zlo (zv xs 2) (zv xs 3)) ∧ (zlo (zv xs 2) (zv xs 3)) ≤ 1000000000 ∧ 0 ≤ (zv xs 4) ∧ (zv xs 4) ≤ 20000
  ·
    refine lv_aload_n hx hb dL_law_1958 rfl (lv_at hl 1 rfl) ?_
    refine lv_aload_n hx hb dL_law_1959 rfl (lv_at hl 0 rfl) ?_
    refine lv_iload hx hb dL_law_1960 (lv_at hl 4 rfl) ?_
    refine lv_iconst (v := iz (1)) hx hb dL_law_1962 rfl ?_
    refine zr_iadd hx hb dL_law_1963 ?_
    refine zr_sld hx hb hX hbl hbA hS 1 (by omega) (by omega) (by omega) dL_law_1964 ?_
    refine lv_aload_n hx hb dL_law_1965 rfl (lv_at hl 0 rfl) ?_
    refine lv_iload hx hb dL_law_1966 (lv_at hl 4 rfl) ?_
    refine lv_iconst (v := iz (2)) hx hb dL_law_1968 rfl ?_
    refine zr_iadd hx hb dL_law_1969 ?_
    refine zr_sld hx hb hX hbl hbA hS 2 (by omega) (by omega) (by omega) dL_law_1970 ?_
    refine zr_i2l hx hb (x := zv xs 2) (⟨by omega, by omega⟩) dL_law_1971 ?_
    refine lv_bipush (v := iz (32)) hx hb dL_law_1972 rfl ?_
    refine zr_lshl32 hx hb dL_law_1974 ?_
    refine lv_aload_n hx hb dL_law_1975 rfl (lv_at hl 0 rfl) ?_
    refine lv_iload hx hb dL_law_1976 (lv_at hl 4 rfl) ?_
    refine lv_iconst (v := iz (3)) hx hb dL_law_1978 rfl ?_
    refine zr_iadd hx hb dL_law_1979 ?_
    refine zr_sld hx hb hX hbl hbA hS 3 (by omega) (by omega) (by omega) dL_law_1980 ?_
    refine zr_i2l hx hb (x := zv xs 3) (⟨by omega, by omega⟩) dL_law_1981 ?_
    refine zr_ldc2 (z := 4294967295) hx hb hown (hts (.constantLong RL 137 (4294967295)) (by decide +kernel)) rfl dL_law_1982 ?_
    refine zr_land32 hx hb dL_law_1985 ?_
    refine zr_lor32 hx hb dL_law_1986 ?_
    refine lv_aload_n hx hb dL_law_1987 rfl (lv_at hl 0 rfl) ?_
    refine lv_iload hx hb dL_law_1988 (lv_at hl 4 rfl) ?_
    refine lv_iconst (v := iz (4)) hx hb dL_law_1990 rfl ?_
    refine zr_iadd hx hb dL_law_1991 ?_
    refine zr_sld hx hb hX hbl hbA hS 4 (by omega) (by omega) (by omega) dL_law_1992 ?_
    refine lv_aload_n hx hb dL_law_1993 rfl (lv_at hl 3 rfl) ?_
    refine zc_i (wr := [(mm, .inr (13, [.int (iz (0)), .int (iz (6)), .ref ma, .null, .ref mt, .ref ml, .int (iz (0)), .ref mw, .int (iz (0)), .ref mb, .ref mp, .int (iz (0))]))]) (vx_runSW (As := [.ref x, .int (iz (zv xs 1)), .long (lz (zlo (zv xs 2) (zv xs 3))), .int (iz (zv xs 4)), .ref ou]) (rest := []) ⟨hx, hb, hml, hown, hts⟩ (c_L_lifeWorth_x2 l G s1 s2 s3 x ro rw bo li sh tx lo nl lx0 lx1 lx2 (zv xs 1) (zlo (zv xs 2) (zv xs 3)) (zv xs 4) ou (fun _ => 0) hl0 (by omega) (by omega) (by omega) (by omega) H.size) (vx_cwSW 5 hts gL_law_L_lifeWorth rfl rfl rfl (by decide +kernel) ⟨Nat.le_of_ble_eq_true rfl, Nat.le_of_ble_eq_true rfl⟩) (zpSe zXL_ok hEc hS hA hKX hP hD [0, 1, 2] rfl rfl) rfl rfl hl.1 rfl (lv_room (Nat.le_of_ble_eq_true rfl)) dL_law_1994 ⟨(by show _ ≤ (600002 : Nat); omega), (by show _ ≤ (7302232 : Nat); omega)⟩) hP hD hS hA [0, 1, 2] [3] rfl rfl rfl (by decide) (fun kk u_1 H locs hw hP hD hS => ?_)
    have hP : va_P G.1 vwCl [(mm, .inr (13, [.int (iz (0)), .int (iz (6)), .ref ma, .null, .ref mt, .ref ml, .int (iz (0)), .ref mw, .int (iz (0)), .ref mb, .ref mp, .int (iz (0))])), (ou, zaL (G.2 0) 1 ((fun _ => 0)))] H := hP
    have hD : va_D (zlA s) [(mm, .inr (13, [.int (iz (0)), .int (iz (6)), .ref ma, .null, .ref mt, .ref ml, .int (iz (0)), .ref mw, .int (iz (0)), .ref mb, .ref mp, .int (iz (0))])), (ou, zaL (G.2 0) 1 ((fun _ => 0)))] := hD
    have hw : kk = 2 := hw
    rw [show kk = 2 from hw]
    refine lv_istore (lv' := [(5, .int (iz (2))), (0, .ref b), (1, .ref x), (2, .ref mm), (3, .ref ou), (4, .int (iz (0)))]) hx hb dL_law_1997 hl (by decide) rfl (fun ls hl => ?_)
    refine lv_aload_n hx hb dL_law_1999 rfl (lv_at hl 3 rfl) ?_
    refine lv_aload_n hx hb dL_law_2000 rfl (lv_at hl 1 rfl) ?_
    refine lv_iload hx hb dL_law_2001 (lv_at hl 5 rfl) ?_
    refine lv_iconst (v := iz (1)) hx hb dL_law_2003 rfl ?_
    refine zr_iadd hx hb dL_law_2004 ?_
    refine zr_sld hx hb hX hbl hbA hS 1 (by omega) (by omega) (by omega) dL_law_2005 ?_
    refine lv_aload_n hx hb dL_law_2006 rfl (lv_at hl 1 rfl) ?_
    refine lv_iload hx hb dL_law_2007 (lv_at hl 5 rfl) ?_
    refine lv_iconst (v := iz (2)) hx hb dL_law_2009 rfl ?_
    refine zr_iadd hx hb dL_law_2010 ?_
    refine zr_sld hx hb hX hbl hbA hS 2 (by omega) (by omega) (by omega) dL_law_2011 ?_
    refine zr_i2l hx hb (x := zv xs 2) (⟨by omega, by omega⟩) dL_law_2012 ?_
    refine lv_bipush (v := iz (32)) hx hb dL_law_2013 rfl ?_
    refine zr_lshl32 hx hb dL_law_2015 ?_
    refine lv_aload_n hx hb dL_law_2016 rfl (lv_at hl 1 rfl) ?_
    refine lv_iload hx hb dL_law_2017 (lv_at hl 5 rfl) ?_
    refine lv_iconst (v := iz (3)) hx hb dL_law_2019 rfl ?_
    refine zr_iadd hx hb dL_law_2020 ?_
    refine zr_sld hx hb hX hbl hbA hS 3 (by omega) (by omega) (by omega) dL_law_2021 ?_
    refine zr_i2l hx hb (x := zv xs 3) (⟨by omega, by omega⟩) dL_law_2022 ?_
    refine zr_ldc2 (z := 4294967295) hx hb hown (hts (.constantLong RL 137 (4294967295)) (by decide +kernel)) rfl dL_law_2023 ?_
    refine zr_land32 hx hb dL_law_2026 ?_
    refine zr_lor32 hx hb dL_law_2027 ?_
    refine lv_aload_n hx hb dL_law_2028 rfl (lv_at hl 1 rfl) ?_
    refine lv_iload hx hb dL_law_2029 (lv_at hl 5 rfl) ?_
    refine lv_iconst (v := iz (4)) hx hb dL_law_2031 rfl ?_
    refine zr_iadd hx hb dL_law_2032 ?_
    refine zr_sld hx hb hX hbl hbA hS 4 (by omega) (by omega) (by omega) dL_law_2033 ?_
    refine zc_l (wr := [(ou, zaL (G.2 0) 1 ((fun _ => 0)))]) (va_runV (As := [.int (iz (zv xs 1)), .long (lz (zlo (zv xs 2) (zv xs 3))), .int (iz (zv xs 4))]) (rest := []) ⟨hx, hb, hml, hown, hts⟩ (c_X12_lifeWorth_o l G mm ma mt ml mw mb mp 0 (zv xs 1) (zlo (zv xs 2) (zv xs 3)) (zv xs 4) (by omega) (by omega) (by omega) (by omega) H.size) (cwV 3 hts gL_law_X12_lifeWorth rfl rfl rfl (by decide +kernel) ⟨Nat.le_of_ble_eq_true rfl, Nat.le_of_ble_eq_true rfl⟩) (zpV hKX hP hD [0] rfl rfl 0 13 rfl rfl) rfl rfl hl.1 rfl (lv_room (Nat.le_of_ble_eq_true rfl)) dL_law_2034 ⟨(by show _ ≤ (600002 : Nat); omega), (by show _ ≤ (7302232 : Nat); omega)⟩) hP hD hS hA [0] [1] rfl rfl rfl (by decide) (fun zm u_3 H locs hm hP hD hS => ?_)
    generalize u_3 = thm at hP hD hm
    have hP : va_P G.1 vwCl [(ou, zaL (G.2 0) 1 ((fun _ => 0))), (mm, .inr (13, [.int (iz (thm)), .int (iz (6)), .ref ma, .null, .ref mt, .ref ml, .int (iz (0)), .ref mw, .int (iz (0)), .ref mb, .ref mp, .int (iz (0))]))] H := hP
    have hD : va_D (zlA s) [(ou, zaL (G.2 0) 1 ((fun _ => 0))), (mm, .inr (13, [.int (iz (thm)), .int (iz (6)), .ref ma, .null, .ref mt, .ref ml, .int (iz (0)), .ref mw, .int (iz (0)), .ref mb, .ref mp, .int (iz (0))]))] := hD
    have hm : zm = 0 ∧ thm = 2 := hm
    have htp := hm.2
    refine lv_lstore (lv' := [(6, .long (lz (zm))), (5, .int (iz (2))), (0, .ref b), (1, .ref x), (2, .ref mm), (3, .ref ou), (4, .int (iz (0)))]) hx hb dL_law_2037 hl (by decide) rfl (fun ls hl => ?_)
    refine lv_aload_n hx hb dL_law_2039 rfl (lv_at hl 4 rfl) ?_
    refine zc_i (wr := [(ou, zaL (G.2 0) 1 ((fun _ => 0)))]) (va_runV (As := []) (rest := []) ⟨hx, hb, hml, hown, hts⟩ (c_X12_thrown_v l G mm thm (.ref ma) .null (.ref mt) (.ref ml) (.int (iz (0))) (.ref mw) (.int (iz (0))) (.ref mb) (.ref mp) (.int (iz (0))) 6  H.size) (cwV 0 hts gL_law_X12_thrown rfl rfl rfl (by decide +kernel) ⟨Nat.le_of_ble_eq_true rfl, Nat.le_of_ble_eq_true rfl⟩) (zpV hKX hP hD [1] rfl rfl 1 13 rfl rfl) rfl rfl hl.1 rfl (lv_room (Nat.le_of_ble_eq_true rfl)) dL_law_2040 ⟨(by show _ ≤ (600002 : Nat); omega), (by show _ ≤ (7302232 : Nat); omega)⟩) hP hD hS hA [1] [0] rfl rfl rfl (by decide) (fun th9 u_5 H locs hth hP hD hS => ?_)
    have hP : va_P G.1 vwCl [(ou, zaL (G.2 0) 1 ((fun _ => 0))), (mm, .inr (13, [.int (iz (thm)), .int (iz ((6 : Int))), .ref ma, .null, .ref mt, .ref ml, .int (iz (0)), .ref mw, .int (iz (0)), .ref mb, .ref mp, .int (iz (0))]))] H := hP
    have hD : va_D (zlA s) [(ou, zaL (G.2 0) 1 ((fun _ => 0))), (mm, .inr (13, [.int (iz (thm)), .int (iz ((6 : Int))), .ref ma, .null, .ref mt, .ref ml, .int (iz (0)), .ref mw, .int (iz (0)), .ref mb, .ref mp, .int (iz (0))]))] := hD
    have hth : th9 = thm := hth
    rw [show th9 = 2 from hth.trans htp]
    refine lv_iload hx hb dL_law_2043 (lv_at hl 1 rfl) ?_
    refine zr_icmp_eq (x := 2) (y := 2) (tgt := 2050) hx hb (⟨by omega, by omega⟩) (⟨by omega, by omega⟩) dL_law_2045 (by decide) (fun h_7 => ?_) (fun h_7 => ?_)
    ·
      refine lv_iload hx hb dL_law_2050 (lv_at hl 1 rfl) ?_
      refine zr_if_ne (x := 2) (tgt := 2066) hx hb (⟨by omega, by omega⟩) dL_law_2052 (by decide) (fun h_8 => ?_) (fun h_8 => ?_)
      ·
        refine lv_goto (tgt := 3039) hx hb dL_law_2066 (by decide) ?_
        exact zl_end hL8 C0 hS (lv_sub hl [2, 6] rfl) (by show _ ≤ (600002 : Nat); omega) (by show _ ≤ (7302232 : Nat); omega)
      · exact absurd h_8 (by omega)
    · exact absurd h_7 (by omega)
  ·
    refine lv_aload_n hx hb dL_law_1958 rfl (lv_at hl 1 rfl) ?_
    refine lv_aload_n hx hb dL_law_1959 rfl (lv_at hl 0 rfl) ?_
    refine lv_iload hx hb dL_law_1960 (lv_at hl 4 rfl) ?_
    refine lv_iconst (v := iz (1)) hx hb dL_law_1962 rfl ?_
    refine zr_iadd hx hb dL_law_1963 ?_
    refine zr_sld hx hb hX hbl hbA hS 1 (by omega) (by omega) (by omega) dL_law_1964 ?_
    refine lv_aload_n hx hb dL_law_1965 rfl (lv_at hl 0 rfl) ?_
    refine lv_iload hx hb dL_law_1966 (lv_at hl 4 rfl) ?_
    refine lv_iconst (v := iz (2)) hx hb dL_law_1968 rfl ?_
    refine zr_iadd hx hb dL_law_1969 ?_
    refine zr_sld hx hb hX hbl hbA hS 2 (by omega) (by omega) (by omega) dL_law_1970 ?_
    refine zr_i2l hx hb (x := zv xs 2) (⟨by omega, by omega⟩) dL_law_1971 ?_
    refine lv_bipush (v := iz (32)) hx hb dL_law_1972 rfl ?_
    refine zr_lshl32 hx hb dL_law_1974 ?_
    refine lv_aload_n hx hb dL_law_1975 rfl (lv_at hl 0 rfl) ?_
    refine lv_iload hx hb dL_law_1976 (lv_at hl 4 rfl) ?_
    refine lv_iconst (v := iz (3)) hx hb dL_law_1978 rfl ?_
    refine zr_iadd hx hb dL_law_1979 ?_
    refine zr_sld hx hb hX hbl hbA hS 3 (by omega) (by omega) (by omega) dL_law_1980 ?_
    refine zr_i2l hx hb (x := zv xs 3) (⟨by omega, by omega⟩) dL_law_1981 ?_
    refine zr_ldc2 (z := 4294967295) hx hb hown (hts (.constantLong RL 137 (4294967295)) (by decide +kernel)) rfl dL_law_1982 ?_
    refine zr_land32 hx hb dL_law_1985 ?_
    refine zr_lor32 hx hb dL_law_1986 ?_
    refine lv_aload_n hx hb dL_law_1987 rfl (lv_at hl 0 rfl) ?_
    refine lv_iload hx hb dL_law_1988 (lv_at hl 4 rfl) ?_
    refine lv_iconst (v := iz (4)) hx hb dL_law_1990 rfl ?_
    refine zr_iadd hx hb dL_law_1991 ?_
    refine zr_sld hx hb hX hbl hbA hS 4 (by omega) (by omega) (by omega) dL_law_1992 ?_
    refine lv_aload_n hx hb dL_law_1993 rfl (lv_at hl 3 rfl) ?_
    refine zc_i (wr := [(mm, .inr (13, [.int (iz (0)), .int (iz (6)), .ref ma, .null, .ref mt, .ref ml, .int (iz (0)), .ref mw, .int (iz (0)), .ref mb, .ref mp, .int (iz (0))]))]) (vx_runSW (As := [.ref x, .int (iz (zv xs 1)), .long (lz (zlo (zv xs 2) (zv xs 3))), .int (iz (zv xs 4)), .ref ou]) (rest := []) ⟨hx, hb, hml, hown, hts⟩ (c_L_lifeWorth_x1 l G s1 s2 s3 x ro rw bo li sh tx lo nl lx0 lx1 lx2 (zv xs 1) (zlo (zv xs 2) (zv xs 3)) (zv xs 4) ou (fun _ => 0) hl0 (by omega) (by omega) (by omega) (by omega) H.size) (vx_cwSW 5 hts gL_law_L_lifeWorth rfl rfl rfl (by decide +kernel) ⟨Nat.le_of_ble_eq_true rfl, Nat.le_of_ble_eq_true rfl⟩) (zpSe zXL_ok hEc hS hA hKX hP hD [0, 1, 2] rfl rfl) rfl rfl hl.1 rfl (lv_room (Nat.le_of_ble_eq_true rfl)) dL_law_1994 ⟨(by show _ ≤ (600002 : Nat); omega), (by show _ ≤ (7302232 : Nat); omega)⟩) hP hD hS hA [0, 1, 2] [3] rfl rfl rfl (by decide) (fun kk u_9 H locs hw hP hD hS => ?_)
    have hP : va_P G.1 vwCl [(mm, .inr (13, [.int (iz (0)), .int (iz (6)), .ref ma, .null, .ref mt, .ref ml, .int (iz (0)), .ref mw, .int (iz (0)), .ref mb, .ref mp, .int (iz (0))])), (ou, zaL (G.2 0) 1 ((fun _ => 0)))] H := hP
    have hD : va_D (zlA s) [(mm, .inr (13, [.int (iz (0)), .int (iz (6)), .ref ma, .null, .ref mt, .ref ml, .int (iz (0)), .ref mw, .int (iz (0)), .ref mb, .ref mp, .int (iz (0))])), (ou, zaL (G.2 0) 1 ((fun _ => 0)))] := hD
    have hw : kk = 1 := hw
    rw [show kk = 1 from hw]
    refine lv_istore (lv' := [(5, .int (iz (1))), (0, .ref b), (1, .ref x), (2, .ref mm), (3, .ref ou), (4, .int (iz (0)))]) hx hb dL_law_1997 hl (by decide) rfl (fun ls hl => ?_)
    refine lv_aload_n hx hb dL_law_1999 rfl (lv_at hl 3 rfl) ?_
    refine lv_aload_n hx hb dL_law_2000 rfl (lv_at hl 1 rfl) ?_
    refine lv_iload hx hb dL_law_2001 (lv_at hl 5 rfl) ?_
    refine lv_iconst (v := iz (1)) hx hb dL_law_2003 rfl ?_
    refine zr_iadd hx hb dL_law_2004 ?_
    refine zr_sld hx hb hX hbl hbA hS 1 (by omega) (by omega) (by omega) dL_law_2005 ?_
    refine lv_aload_n hx hb dL_law_2006 rfl (lv_at hl 1 rfl) ?_
    refine lv_iload hx hb dL_law_2007 (lv_at hl 5 rfl) ?_
    refine lv_iconst (v := iz (2)) hx hb dL_law_2009 rfl ?_
    refine zr_iadd hx hb dL_law_2010 ?_
    refine zr_sld hx hb hX hbl hbA hS 2 (by omega) (by omega) (by omega) dL_law_2011 ?_
    refine zr_i2l hx hb (x := zv xs 2) (⟨by omega, by omega⟩) dL_law_2012 ?_
    refine lv_bipush (v := iz (32)) hx hb dL_law_2013 rfl ?_
    refine zr_lshl32 hx hb dL_law_2015 ?_
    refine lv_aload_n hx hb dL_law_2016 rfl (lv_at hl 1 rfl) ?_
    refine lv_iload hx hb dL_law_2017 (lv_at hl 5 rfl) ?_
    refine lv_iconst (v := iz (3)) hx hb dL_law_2019 rfl ?_
    refine zr_iadd hx hb dL_law_2020 ?_
    refine zr_sld hx hb hX hbl hbA hS 3 (by omega) (by omega) (by omega) dL_law_2021 ?_
    refine zr_i2l hx hb (x := zv xs 3) (⟨by omega, by omega⟩) dL_law_2022 ?_
    refine zr_ldc2 (z := 4294967295) hx hb hown (hts (.constantLong RL 137 (4294967295)) (by decide +kernel)) rfl dL_law_2023 ?_
    refine zr_land32 hx hb dL_law_2026 ?_
    refine zr_lor32 hx hb dL_law_2027 ?_
    refine lv_aload_n hx hb dL_law_2028 rfl (lv_at hl 1 rfl) ?_
    refine lv_iload hx hb dL_law_2029 (lv_at hl 5 rfl) ?_
    refine lv_iconst (v := iz (4)) hx hb dL_law_2031 rfl ?_
    refine zr_iadd hx hb dL_law_2032 ?_
    refine zr_sld hx hb hX hbl hbA hS 4 (by omega) (by omega) (by omega) dL_law_2033 ?_
    refine zc_l (wr := [(ou, zaL (G.2 0) 1 ((fun _ => 0)))]) (va_runV (As := [.int (iz (zv xs 1)), .long (lz (zlo (zv xs 2) (zv xs 3))), .int (iz (zv xs 4))]) (rest := []) ⟨hx, hb, hml, hown, hts⟩ (c_X12_lifeWorth_x l G mm ma mt ml mw mb mp 0 (zv xs 1) (zlo (zv xs 2) (zv xs 3)) (zv xs 4) (by omega) (by omega) (by omega) (by omega) H.size) (cwV 3 hts gL_law_X12_lifeWorth rfl rfl rfl (by decide +kernel) ⟨Nat.le_of_ble_eq_true rfl, Nat.le_of_ble_eq_true rfl⟩) (zpV hKX hP hD [0] rfl rfl 0 13 rfl rfl) rfl rfl hl.1 rfl (lv_room (Nat.le_of_ble_eq_true rfl)) dL_law_2034 ⟨(by show _ ≤ (600002 : Nat); omega), (by show _ ≤ (7302232 : Nat); omega)⟩) hP hD hS hA [0] [1] rfl rfl rfl (by decide) (fun zm u_11 H locs hm hP hD hS => ?_)
    generalize u_11 = thm at hP hD hm
    have hP : va_P G.1 vwCl [(ou, zaL (G.2 0) 1 ((fun _ => 0))), (mm, .inr (13, [.int (iz (thm)), .int (iz (6)), .ref ma, .null, .ref mt, .ref ml, .int (iz (0)), .ref mw, .int (iz (0)), .ref mb, .ref mp, .int (iz (0))]))] H := hP
    have hD : va_D (zlA s) [(ou, zaL (G.2 0) 1 ((fun _ => 0))), (mm, .inr (13, [.int (iz (thm)), .int (iz (6)), .ref ma, .null, .ref mt, .ref ml, .int (iz (0)), .ref mw, .int (iz (0)), .ref mb, .ref mp, .int (iz (0))]))] := hD
    have hm : zm = 0 ∧ thm = 1 := hm
    have htp := hm.2
    refine lv_lstore (lv' := [(6, .long (lz (zm))), (5, .int (iz (1))), (0, .ref b), (1, .ref x), (2, .ref mm), (3, .ref ou), (4, .int (iz (0)))]) hx hb dL_law_2037 hl (by decide) rfl (fun ls hl => ?_)
    refine lv_aload_n hx hb dL_law_2039 rfl (lv_at hl 4 rfl) ?_
    refine zc_i (wr := [(ou, zaL (G.2 0) 1 ((fun _ => 0)))]) (va_runV (As := []) (rest := []) ⟨hx, hb, hml, hown, hts⟩ (c_X12_thrown_v l G mm thm (.ref ma) .null (.ref mt) (.ref ml) (.int (iz (0))) (.ref mw) (.int (iz (0))) (.ref mb) (.ref mp) (.int (iz (0))) 6  H.size) (cwV 0 hts gL_law_X12_thrown rfl rfl rfl (by decide +kernel) ⟨Nat.le_of_ble_eq_true rfl, Nat.le_of_ble_eq_true rfl⟩) (zpV hKX hP hD [1] rfl rfl 1 13 rfl rfl) rfl rfl hl.1 rfl (lv_room (Nat.le_of_ble_eq_true rfl)) dL_law_2040 ⟨(by show _ ≤ (600002 : Nat); omega), (by show _ ≤ (7302232 : Nat); omega)⟩) hP hD hS hA [1] [0] rfl rfl rfl (by decide) (fun th9 u_13 H locs hth hP hD hS => ?_)
    have hP : va_P G.1 vwCl [(ou, zaL (G.2 0) 1 ((fun _ => 0))), (mm, .inr (13, [.int (iz (thm)), .int (iz ((6 : Int))), .ref ma, .null, .ref mt, .ref ml, .int (iz (0)), .ref mw, .int (iz (0)), .ref mb, .ref mp, .int (iz (0))]))] H := hP
    have hD : va_D (zlA s) [(ou, zaL (G.2 0) 1 ((fun _ => 0))), (mm, .inr (13, [.int (iz (thm)), .int (iz ((6 : Int))), .ref ma, .null, .ref mt, .ref ml, .int (iz (0)), .ref mw, .int (iz (0)), .ref mb, .ref mp, .int (iz (0))]))] := hD
    have hth : th9 = thm := hth
    rw [show th9 = 1 from hth.trans htp]
    refine lv_iload hx hb dL_law_2043 (lv_at hl 1 rfl) ?_
    refine zr_icmp_eq (x := 1) (y := 1) (tgt := 2050) hx hb (⟨by omega, by omega⟩) (⟨by omega, by omega⟩) dL_law_2045 (by decide) (fun h_15 => ?_) (fun h_15 => ?_)
    ·
      refine lv_iload hx hb dL_law_2050 (lv_at hl 1 rfl) ?_
      refine zr_if_ne (x := 1) (tgt := 2066) hx hb (⟨by omega, by omega⟩) dL_law_2052 (by decide) (fun h_16 => ?_) (fun h_16 => ?_)
      ·
        refine lv_goto (tgt := 3039) hx hb dL_law_2066 (by decide) ?_
        exact zl_end hL8 C0 hS (lv_sub hl [2, 6] rfl) (by show _ ≤ (600002 : Nat); omega) (by show _ ≤ (7302232 : Nat); omega)
      · exact absurd h_16 (by omega)
    · exact absurd h_15 (by omega)

set_option maxHeartbeats 4000000 in
set_option maxRecDepth 100000 in
theorem zl_24 {p : Program} {e : Env} {s : State} {m : MethodId} {below : List Frame} {meth : Method} {c : Code} {l : Launch} (hl0 : l.stackTraces = false) {b L : Nat} {xs : Nat → Int32} (hL8 : L = 8) (C0 : lw_At p s m meth c b L xs) {G : zG} {nA nB nE s1 s2 s3 : Nat} (hKX : zK G s) (hEm : zE G nA nB nE (zlA s) s) (hEc : zXL s1 s2 s3 (zlA s) s) (x : Nat) (ro : Nat) (rw : Nat) (bo : Nat) (li : Nat) (sh : Nat) (tx : Nat) (lo : Nat) (nl : Nat) (lx0 : Value) (lx1 : Value) (lx2 : Value) (ou : Nat) (mm : Nat) (ma : Nat) (mt : Nat) (ml : Nat) (mw : Nat) (mb : Nat) (mp : Nat) {H : Heap} {locs : List Loc} {ls : Array Slot} (hP : va_P G.1 vwCl [(x, .inr (10, [.ref ro, .ref rw, .ref bo, .ref li, .ref sh, .ref tx, .ref lo, .ref nl])), (li, .inr (3, [lx0, lx1, lx2, .int (iz (0))])), (ou, zaL (G.2 0) 1 (fun _ => 0)), (mm, .inr (13, [.int (iz (0)), .int (iz (6)), .ref ma, .null, .ref mt, .ref ml, .int (iz (0)), .ref mw, .int (iz (0)), .ref mb, .ref mp, .int (iz (0))]))] H) (hD : va_D (zlA s) [(x, .inr (10, [.ref ro, .ref rw, .ref bo, .ref li, .ref sh, .ref tx, .ref lo, .ref nl])), (li, .inr (3, [lx0, lx1, lx2, .int (iz (0))])), (ou, zaL (G.2 0) 1 (fun _ => 0)), (mm, .inr (13, [.int (iz (0)), .int (iz (6)), .ref ma, .null, .ref mt, .ref ml, .int (iz (0)), .ref mw, .int (iz (0)), .ref mb, .ref mp, .int (iz (0))]))]) (hS : va_S (zlA s) s.heap H locs) (hl : lv_has ls 9 [(0, .ref b), (1, .ref x), (2, .ref mm), (3, .ref ou), (4, .int (iz (0)))]) : W p l e room_1 s m #[Value.ref b] below meth c H locs 200 4000 (lw_Z below #[Value.ref b] s) (F0 m 2069 ls []) := by
  obtain ⟨hx, hb, hr, hml, hown, hts, hX, hbl, hlocks, hgv⟩ := id C0
  have hbA : ¬ zlA s b := Nat.not_le.mpr hbl
  have hK := hKX.1
  have hts : ∀ w ∈ wsL_law, w.before #[Value.ref b] s = true := fun w h => hts w (wsL_law_in w h)
  have hown : s.vm.findClass RL = some m.cls := hown
  have hA : ∀ q : Nat, s.heap.size ≤ q → zlA s q := fun _ h => h
  have hE := hEm
  have hv1 := zv_rng xs 1
  have hv2 := zv_rng xs 2
  have hv3 := zv_rng xs 3
  have hv4 := zv_rng xs 4
  have hv5 := zv_rng xs 5
  have hv6 := zv_rng xs 6
  have hv7 := zv_rng xs 7
  have hw2 := zlo_rng (zv xs 2) (zv xs 3)
  by_cases hco0 : 0 ≤ (zlo (zv xs 2) (zv xs 3)) ∧ (zlo (zv xs 2) (zv xs 3)) ≤ 1000000000 ∧ 0 ≤ (zv xs 4) ∧ (zv xs 4) ≤ 20000
  ·
    refine lv_aload_n hx hb dL_law_2069 rfl (lv_at hl 1 rfl) ?_
    refine lv_aload_n hx hb dL_law_2070 rfl (lv_at hl 0 rfl) ?_
    refine lv_iload hx hb dL_law_2071 (lv_at hl 4 rfl) ?_
    refine lv_iconst (v := iz (1)) hx hb dL_law_2073 rfl ?_
    refine zr_iadd hx hb dL_law_2074 ?_
    refine zr_sld hx hb hX hbl hbA hS 1 (by omega) (by omega) (by omega) dL_law_2075 ?_
    refine lv_aload_n hx hb dL_law_2076 rfl (lv_at hl 0 rfl) ?_
    refine lv_iload hx hb dL_law_2077 (lv_at hl 4 rfl) ?_
    refine lv_iconst (v := iz (2)) hx hb dL_law_2079 rfl ?_
    refine zr_iadd hx hb dL_law_2080 ?_
    refine zr_sld hx hb hX hbl hbA hS 2 (by omega) (by omega) (by omega) dL_law_2081 ?_
    refine zr_i2l hx hb (x := zv xs 2) (⟨by omega, by omega⟩) dL_law_2082 ?_
    refine lv_bipush (v := iz (32)) hx hb dL_law_2083 rfl ?_
    refine zr_lshl32 hx hb dL_law_2085 ?_
    refine lv_aload_n hx hb dL_law_2086 rfl (lv_at hl 0 rfl) ?_
    refine lv_iload hx hb dL_law_2087 (lv_at hl 4 rfl) ?_
    refine lv_iconst (v := iz (3)) hx hb dL_law_2089 rfl ?_
    refine zr_iadd hx hb dL_law_2090 ?_
    refine zr_sld hx hb hX hbl hbA hS 3 (by omega) (by omega) (by omega) dL_law_2091 ?_
    refine zr_i2l hx hb (x := zv xs 3) (⟨by omega, by omega⟩) dL_law_2092 ?_
    refine zr_ldc2 (z := 4294967295) hx hb hown (hts (.constantLong RL 137 (4294967295)) (by decide +kernel)) rfl dL_law_2093 ?_
    refine zr_land32 hx hb dL_law_2096 ?_
    refine zr_lor32 hx hb dL_law_2097 ?_
    refine lv_aload_n hx hb dL_law_2098 rfl (lv_at hl 0 rfl) ?_
    refine lv_iload hx hb dL_law_2099 (lv_at hl 4 rfl) ?_
    refine lv_iconst (v := iz (4)) hx hb dL_law_2101 rfl ?_
    refine zr_iadd hx hb dL_law_2102 ?_
    refine zr_sld hx hb hX hbl hbA hS 4 (by omega) (by omega) (by omega) dL_law_2103 ?_
    refine lv_aload_n hx hb dL_law_2104 rfl (lv_at hl 3 rfl) ?_
    refine zc_i (wr := [(mm, .inr (13, [.int (iz (0)), .int (iz (6)), .ref ma, .null, .ref mt, .ref ml, .int (iz (0)), .ref mw, .int (iz (0)), .ref mb, .ref mp, .int (iz (0))]))]) (vx_runSW (As := [.ref x, .int (iz (zv xs 1)), .long (lz (zlo (zv xs 2) (zv xs 3))), .int (iz (zv xs 4)), .ref ou]) (rest := []) ⟨hx, hb, hml, hown, hts⟩ (c_L_deathWorth_x2 l G s1 s2 s3 x ro rw bo li sh tx lo nl lx0 lx1 lx2 (zv xs 1) (zlo (zv xs 2) (zv xs 3)) (zv xs 4) ou (fun _ => 0) hl0 (by omega) (by omega) (by omega) (by omega) H.size) (vx_cwSW 5 hts gL_law_L_deathWorth rfl rfl rfl (by decide +kernel) ⟨Nat.le_of_ble_eq_true rfl, Nat.le_of_ble_eq_true rfl⟩) (zpSe zXL_ok hEc hS hA hKX hP hD [0, 1, 2] rfl rfl) rfl rfl hl.1 rfl (lv_room (Nat.le_of_ble_eq_true rfl)) dL_law_2105 ⟨(by show _ ≤ (600002 : Nat); omega), (by show _ ≤ (7302232 : Nat); omega)⟩) hP hD hS hA [0, 1, 2] [3] rfl rfl rfl (by decide) (fun kk u_1 H locs hw hP hD hS => ?_)
    have hP : va_P G.1 vwCl [(mm, .inr (13, [.int (iz (0)), .int (iz (6)), .ref ma, .null, .ref mt, .ref ml, .int (iz (0)), .ref mw, .int (iz (0)), .ref mb, .ref mp, .int (iz (0))])), (ou, zaL (G.2 0) 1 ((fun _ => 0)))] H := hP
    have hD : va_D (zlA s) [(mm, .inr (13, [.int (iz (0)), .int (iz (6)), .ref ma, .null, .ref mt, .ref ml, .int (iz (0)), .ref mw, .int (iz (0)), .ref mb, .ref mp, .int (iz (0))])), (ou, zaL (G.2 0) 1 ((fun _ => 0)))] := hD
    have hw : kk = 2 := hw
    rw [show kk = 2 from hw]
    refine lv_istore (lv' := [(5, .int (iz (2))), (0, .ref b), (1, .ref x), (2, .ref mm), (3, .ref ou), (4, .int (iz (0)))]) hx hb dL_law_2108 hl (by decide) rfl (fun ls hl => ?_)
    refine lv_aload_n hx hb dL_law_2110 rfl (lv_at hl 3 rfl) ?_
    refine lv_aload_n hx hb dL_law_2111 rfl (lv_at hl 1 rfl) ?_
    refine lv_iload hx hb dL_law_2112 (lv_at hl 5 rfl) ?_
    refine lv_iconst (v := iz (1)) hx hb dL_law_2114 rfl ?_
    refine zr_iadd hx hb dL_law_2115 ?_
    refine zr_sld hx hb hX hbl hbA hS 1 (by omega) (by omega) (by omega) dL_law_2116 ?_
    refine lv_aload_n hx hb dL_law_2117 rfl (lv_at hl 1 rfl) ?_
    refine lv_iload hx hb dL_law_2118 (lv_at hl 5 rfl) ?_
    refine lv_iconst (v := iz (2)) hx hb dL_law_2120 rfl ?_
    refine zr_iadd hx hb dL_law_2121 ?_
    refine zr_sld hx hb hX hbl hbA hS 2 (by omega) (by omega) (by omega) dL_law_2122 ?_
    refine zr_i2l hx hb (x := zv xs 2) (⟨by omega, by omega⟩) dL_law_2123 ?_
    refine lv_bipush (v := iz (32)) hx hb dL_law_2124 rfl ?_
    refine zr_lshl32 hx hb dL_law_2126 ?_
    refine lv_aload_n hx hb dL_law_2127 rfl (lv_at hl 1 rfl) ?_
    refine lv_iload hx hb dL_law_2128 (lv_at hl 5 rfl) ?_
    refine lv_iconst (v := iz (3)) hx hb dL_law_2130 rfl ?_
    refine zr_iadd hx hb dL_law_2131 ?_
    refine zr_sld hx hb hX hbl hbA hS 3 (by omega) (by omega) (by omega) dL_law_2132 ?_
    refine zr_i2l hx hb (x := zv xs 3) (⟨by omega, by omega⟩) dL_law_2133 ?_
    refine zr_ldc2 (z := 4294967295) hx hb hown (hts (.constantLong RL 137 (4294967295)) (by decide +kernel)) rfl dL_law_2134 ?_
    refine zr_land32 hx hb dL_law_2137 ?_
    refine zr_lor32 hx hb dL_law_2138 ?_
    refine lv_aload_n hx hb dL_law_2139 rfl (lv_at hl 1 rfl) ?_
    refine lv_iload hx hb dL_law_2140 (lv_at hl 5 rfl) ?_
    refine lv_iconst (v := iz (4)) hx hb dL_law_2142 rfl ?_
    refine zr_iadd hx hb dL_law_2143 ?_
    refine zr_sld hx hb hX hbl hbA hS 4 (by omega) (by omega) (by omega) dL_law_2144 ?_
    refine zc_l (wr := [(ou, zaL (G.2 0) 1 ((fun _ => 0)))]) (va_runV (As := [.int (iz (zv xs 1)), .long (lz (zlo (zv xs 2) (zv xs 3))), .int (iz (zv xs 4))]) (rest := []) ⟨hx, hb, hml, hown, hts⟩ (c_X12_deathWorth_o l G mm ma mt ml mw mb mp 0 (zv xs 1) (zlo (zv xs 2) (zv xs 3)) (zv xs 4) (by omega) (by omega) (by omega) (by omega) H.size) (cwV 3 hts gL_law_X12_deathWorth rfl rfl rfl (by decide +kernel) ⟨Nat.le_of_ble_eq_true rfl, Nat.le_of_ble_eq_true rfl⟩) (zpV hKX hP hD [0] rfl rfl 0 13 rfl rfl) rfl rfl hl.1 rfl (lv_room (Nat.le_of_ble_eq_true rfl)) dL_law_2145 ⟨(by show _ ≤ (600002 : Nat); omega), (by show _ ≤ (7302232 : Nat); omega)⟩) hP hD hS hA [0] [1] rfl rfl rfl (by decide) (fun zm u_3 H locs hm hP hD hS => ?_)
    generalize u_3 = thm at hP hD hm
    have hP : va_P G.1 vwCl [(ou, zaL (G.2 0) 1 ((fun _ => 0))), (mm, .inr (13, [.int (iz (thm)), .int (iz (6)), .ref ma, .null, .ref mt, .ref ml, .int (iz (0)), .ref mw, .int (iz (0)), .ref mb, .ref mp, .int (iz (0))]))] H := hP
    have hD : va_D (zlA s) [(ou, zaL (G.2 0) 1 ((fun _ => 0))), (mm, .inr (13, [.int (iz (thm)), .int (iz (6)), .ref ma, .null, .ref mt, .ref ml, .int (iz (0)), .ref mw, .int (iz (0)), .ref mb, .ref mp, .int (iz (0))]))] := hD
    have hm : zm = 0 ∧ thm = 2 := hm
    have htp := hm.2
    refine lv_lstore (lv' := [(6, .long (lz (zm))), (5, .int (iz (2))), (0, .ref b), (1, .ref x), (2, .ref mm), (3, .ref ou), (4, .int (iz (0)))]) hx hb dL_law_2148 hl (by decide) rfl (fun ls hl => ?_)
    refine lv_aload_n hx hb dL_law_2150 rfl (lv_at hl 4 rfl) ?_
    refine zc_i (wr := [(ou, zaL (G.2 0) 1 ((fun _ => 0)))]) (va_runV (As := []) (rest := []) ⟨hx, hb, hml, hown, hts⟩ (c_X12_thrown_v l G mm thm (.ref ma) .null (.ref mt) (.ref ml) (.int (iz (0))) (.ref mw) (.int (iz (0))) (.ref mb) (.ref mp) (.int (iz (0))) 6  H.size) (cwV 0 hts gL_law_X12_thrown rfl rfl rfl (by decide +kernel) ⟨Nat.le_of_ble_eq_true rfl, Nat.le_of_ble_eq_true rfl⟩) (zpV hKX hP hD [1] rfl rfl 1 13 rfl rfl) rfl rfl hl.1 rfl (lv_room (Nat.le_of_ble_eq_true rfl)) dL_law_2151 ⟨(by show _ ≤ (600002 : Nat); omega), (by show _ ≤ (7302232 : Nat); omega)⟩) hP hD hS hA [1] [0] rfl rfl rfl (by decide) (fun th9 u_5 H locs hth hP hD hS => ?_)
    have hP : va_P G.1 vwCl [(ou, zaL (G.2 0) 1 ((fun _ => 0))), (mm, .inr (13, [.int (iz (thm)), .int (iz ((6 : Int))), .ref ma, .null, .ref mt, .ref ml, .int (iz (0)), .ref mw, .int (iz (0)), .ref mb, .ref mp, .int (iz (0))]))] H := hP
    have hD : va_D (zlA s) [(ou, zaL (G.2 0) 1 ((fun _ => 0))), (mm, .inr (13, [.int (iz (thm)), .int (iz ((6 : Int))), .ref ma, .null, .ref mt, .ref ml, .int (iz (0)), .ref mw, .int (iz (0)), .ref mb, .ref mp, .int (iz (0))]))] := hD
    have hth : th9 = thm := hth
    rw [show th9 = 2 from hth.trans htp]
    refine lv_iload hx hb dL_law_2154 (lv_at hl 1 rfl) ?_
    refine zr_icmp_eq (x := 2) (y := 2) (tgt := 2161) hx hb (⟨by omega, by omega⟩) (⟨by omega, by omega⟩) dL_law_2156 (by decide) (fun h_7 => ?_) (fun h_7 => ?_)
    ·
      refine lv_iload hx hb dL_law_2161 (lv_at hl 1 rfl) ?_
      refine zr_if_ne (x := 2) (tgt := 2177) hx hb (⟨by omega, by omega⟩) dL_law_2163 (by decide) (fun h_8 => ?_) (fun h_8 => ?_)
      ·
        refine lv_goto (tgt := 3039) hx hb dL_law_2177 (by decide) ?_
        exact zl_end hL8 C0 hS (lv_sub hl [2, 6] rfl) (by show _ ≤ (600002 : Nat); omega) (by show _ ≤ (7302232 : Nat); omega)
      · exact absurd h_8 (by omega)
    · exact absurd h_7 (by omega)
  ·
    refine lv_aload_n hx hb dL_law_2069 rfl (lv_at hl 1 rfl) ?_
    refine lv_aload_n hx hb dL_law_2070 rfl (lv_at hl 0 rfl) ?_
    refine lv_iload hx hb dL_law_2071 (lv_at hl 4 rfl) ?_
    refine lv_iconst (v := iz (1)) hx hb dL_law_2073 rfl ?_
    refine zr_iadd hx hb dL_law_2074 ?_
    refine zr_sld hx hb hX hbl hbA hS 1 (by omega) (by omega) (by omega) dL_law_2075 ?_
    refine lv_aload_n hx hb dL_law_2076 rfl (lv_at hl 0 rfl) ?_
    refine lv_iload hx hb dL_law_2077 (lv_at hl 4 rfl) ?_
    refine lv_iconst (v := iz (2)) hx hb dL_law_2079 rfl ?_
    refine zr_iadd hx hb dL_law_2080 ?_
    refine zr_sld hx hb hX hbl hbA hS 2 (by omega) (by omega) (by omega) dL_law_2081 ?_
    refine zr_i2l hx hb (x := zv xs 2) (⟨by omega, by omega⟩) dL_law_2082 ?_
    refine lv_bipush (v := iz (32)) hx hb dL_law_2083 rfl ?_
    refine zr_lshl32 hx hb dL_law_2085 ?_
    refine lv_aload_n hx hb dL_law_2086 rfl (lv_at hl 0 rfl) ?_
    refine lv_iload hx hb dL_law_2087 (lv_at hl 4 rfl) ?_
    refine lv_iconst (v := iz (3)) hx hb dL_law_2089 rfl ?_
    refine zr_iadd hx hb dL_law_2090 ?_
    refine zr_sld hx hb hX hbl hbA hS 3 (by omega) (by omega) (by omega) dL_law_2091 ?_
    refine zr_i2l hx hb (x := zv xs 3) (⟨by omega, by omega⟩) dL_law_2092 ?_
    refine zr_ldc2 (z := 4294967295) hx hb hown (hts (.constantLong RL 137 (4294967295)) (by decide +kernel)) rfl dL_law_2093 ?_
    refine zr_land32 hx hb dL_law_2096 ?_
    refine zr_lor32 hx hb dL_law_2097 ?_
    refine lv_aload_n hx hb dL_law_2098 rfl (lv_at hl 0 rfl) ?_
    refine lv_iload hx hb dL_law_2099 (lv_at hl 4 rfl) ?_
    refine lv_iconst (v := iz (4)) hx hb dL_law_2101 rfl ?_
    refine zr_iadd hx hb dL_law_2102 ?_
    refine zr_sld hx hb hX hbl hbA hS 4 (by omega) (by omega) (by omega) dL_law_2103 ?_
    refine lv_aload_n hx hb dL_law_2104 rfl (lv_at hl 3 rfl) ?_
    refine zc_i (wr := [(mm, .inr (13, [.int (iz (0)), .int (iz (6)), .ref ma, .null, .ref mt, .ref ml, .int (iz (0)), .ref mw, .int (iz (0)), .ref mb, .ref mp, .int (iz (0))]))]) (vx_runSW (As := [.ref x, .int (iz (zv xs 1)), .long (lz (zlo (zv xs 2) (zv xs 3))), .int (iz (zv xs 4)), .ref ou]) (rest := []) ⟨hx, hb, hml, hown, hts⟩ (c_L_deathWorth_x1 l G s1 s2 s3 x ro rw bo li sh tx lo nl lx0 lx1 lx2 (zv xs 1) (zlo (zv xs 2) (zv xs 3)) (zv xs 4) ou (fun _ => 0) hl0 (by omega) (by omega) (by omega) (by omega) H.size) (vx_cwSW 5 hts gL_law_L_deathWorth rfl rfl rfl (by decide +kernel) ⟨Nat.le_of_ble_eq_true rfl, Nat.le_of_ble_eq_true rfl⟩) (zpSe zXL_ok hEc hS hA hKX hP hD [0, 1, 2] rfl rfl) rfl rfl hl.1 rfl (lv_room (Nat.le_of_ble_eq_true rfl)) dL_law_2105 ⟨(by show _ ≤ (600002 : Nat); omega), (by show _ ≤ (7302232 : Nat); omega)⟩) hP hD hS hA [0, 1, 2] [3] rfl rfl rfl (by decide) (fun kk u_9 H locs hw hP hD hS => ?_)
    have hP : va_P G.1 vwCl [(mm, .inr (13, [.int (iz (0)), .int (iz (6)), .ref ma, .null, .ref mt, .ref ml, .int (iz (0)), .ref mw, .int (iz (0)), .ref mb, .ref mp, .int (iz (0))])), (ou, zaL (G.2 0) 1 ((fun _ => 0)))] H := hP
    have hD : va_D (zlA s) [(mm, .inr (13, [.int (iz (0)), .int (iz (6)), .ref ma, .null, .ref mt, .ref ml, .int (iz (0)), .ref mw, .int (iz (0)), .ref mb, .ref mp, .int (iz (0))])), (ou, zaL (G.2 0) 1 ((fun _ => 0)))] := hD
    have hw : kk = 1 := hw
    rw [show kk = 1 from hw]
    refine lv_istore (lv' := [(5, .int (iz (1))), (0, .ref b), (1, .ref x), (2, .ref mm), (3, .ref ou), (4, .int (iz (0)))]) hx hb dL_law_2108 hl (by decide) rfl (fun ls hl => ?_)
    refine lv_aload_n hx hb dL_law_2110 rfl (lv_at hl 3 rfl) ?_
    refine lv_aload_n hx hb dL_law_2111 rfl (lv_at hl 1 rfl) ?_
    refine lv_iload hx hb dL_law_2112 (lv_at hl 5 rfl) ?_
    refine lv_iconst (v := iz (1)) hx hb dL_law_2114 rfl ?_
    refine zr_iadd hx hb dL_law_2115 ?_
    refine zr_sld hx hb hX hbl hbA hS 1 (by omega) (by omega) (by omega) dL_law_2116 ?_
    refine lv_aload_n hx hb dL_law_2117 rfl (lv_at hl 1 rfl) ?_
    refine lv_iload hx hb dL_law_2118 (lv_at hl 5 rfl) ?_
    refine lv_iconst (v := iz (2)) hx hb dL_law_2120 rfl ?_
    refine zr_iadd hx hb dL_law_2121 ?_
    refine zr_sld hx hb hX hbl hbA hS 2 (by omega) (by omega) (by omega) dL_law_2122 ?_
    refine zr_i2l hx hb (x := zv xs 2) (⟨by omega, by omega⟩) dL_law_2123 ?_
    refine lv_bipush (v := iz (32)) hx hb dL_law_2124 rfl ?_
    refine zr_lshl32 hx hb dL_law_2126 ?_
    refine lv_aload_n hx hb dL_law_2127 rfl (lv_at hl 1 rfl) ?_
    refine lv_iload hx hb dL_law_2128 (lv_at hl 5 rfl) ?_
    refine lv_iconst (v := iz (3)) hx hb dL_law_2130 rfl ?_
    refine zr_iadd hx hb dL_law_2131 ?_
    refine zr_sld hx hb hX hbl hbA hS 3 (by omega) (by omega) (by omega) dL_law_2132 ?_
    refine zr_i2l hx hb (x := zv xs 3) (⟨by omega, by omega⟩) dL_law_2133 ?_
    refine zr_ldc2 (z := 4294967295) hx hb hown (hts (.constantLong RL 137 (4294967295)) (by decide +kernel)) rfl dL_law_2134 ?_
    refine zr_land32 hx hb dL_law_2137 ?_
    refine zr_lor32 hx hb dL_law_2138 ?_
    refine lv_aload_n hx hb dL_law_2139 rfl (lv_at hl 1 rfl) ?_
    refine lv_iload hx hb dL_law_2140 (lv_at hl 5 rfl) ?_
    refine lv_iconst (v := iz (4)) hx hb dL_law_2142 rfl ?_
    refine zr_iadd hx hb dL_law_2143 ?_
    refine zr_sld hx hb hX hbl hbA hS 4 (by omega) (by omega) (by omega) dL_law_2144 ?_
    refine zc_l (wr := [(ou, zaL (G.2 0) 1 ((fun _ => 0)))]) (va_runV (As := [.int (iz (zv xs 1)), .long (lz (zlo (zv xs 2) (zv xs 3))), .int (iz (zv xs 4))]) (rest := []) ⟨hx, hb, hml, hown, hts⟩ (c_X12_deathWorth_x l G mm ma mt ml mw mb mp 0 (zv xs 1) (zlo (zv xs 2) (zv xs 3)) (zv xs 4) (by omega) (by omega) (by omega) (by omega) H.size) (cwV 3 hts gL_law_X12_deathWorth rfl rfl rfl (by decide +kernel) ⟨Nat.le_of_ble_eq_true rfl, Nat.le_of_ble_eq_true rfl⟩) (zpV hKX hP hD [0] rfl rfl 0 13 rfl rfl) rfl rfl hl.1 rfl (lv_room (Nat.le_of_ble_eq_true rfl)) dL_law_2145 ⟨(by show _ ≤ (600002 : Nat); omega), (by show _ ≤ (7302232 : Nat); omega)⟩) hP hD hS hA [0] [1] rfl rfl rfl (by decide) (fun zm u_11 H locs hm hP hD hS => ?_)
    generalize u_11 = thm at hP hD hm
    have hP : va_P G.1 vwCl [(ou, zaL (G.2 0) 1 ((fun _ => 0))), (mm, .inr (13, [.int (iz (thm)), .int (iz (6)), .ref ma, .null, .ref mt, .ref ml, .int (iz (0)), .ref mw, .int (iz (0)), .ref mb, .ref mp, .int (iz (0))]))] H := hP
    have hD : va_D (zlA s) [(ou, zaL (G.2 0) 1 ((fun _ => 0))), (mm, .inr (13, [.int (iz (thm)), .int (iz (6)), .ref ma, .null, .ref mt, .ref ml, .int (iz (0)), .ref mw, .int (iz (0)), .ref mb, .ref mp, .int (iz (0))]))] := hD
    have hm : zm = 0 ∧ thm = 1 := hm
    have htp := hm.2
    refine lv_lstore (lv' := [(6, .long (lz (zm))), (5, .int (iz (1))), (0, .ref b), (1, .ref x), (2, .ref mm), (3, .ref ou), (4, .int (iz (0)))]) hx hb dL_law_2148 hl (by decide) rfl (fun ls hl => ?_)
    refine lv_aload_n hx hb dL_law_2150 rfl (lv_at hl 4 rfl) ?_
    refine zc_i (wr := [(ou, zaL (G.2 0) 1 ((fun _ => 0)))]) (va_runV (As := []) (rest := []) ⟨hx, hb, hml, hown, hts⟩ (c_X12_thrown_v l G mm thm (.ref ma) .null (.ref mt) (.ref ml) (.int (iz (0))) (.ref mw) (.int (iz (0))) (.ref mb) (.ref mp) (.int (iz (0))) 6  H.size) (cwV 0 hts gL_law_X12_thrown rfl rfl rfl (by decide +kernel) ⟨Nat.le_of_ble_eq_true rfl, Nat.le_of_ble_eq_true rfl⟩) (zpV hKX hP hD [1] rfl rfl 1 13 rfl rfl) rfl rfl hl.1 rfl (lv_room (Nat.le_of_ble_eq_true rfl)) dL_law_2151 ⟨(by show _ ≤ (600002 : Nat); omega), (by show _ ≤ (7302232 : Nat); omega)⟩) hP hD hS hA [1] [0] rfl rfl rfl (by decide) (fun th9 u_13 H locs hth hP hD hS => ?_)
    have hP : va_P G.1 vwCl [(ou, zaL (G.2 0) 1 ((fun _ => 0))), (mm, .inr (13, [.int (iz (thm)), .int (iz ((6 : Int))), .ref ma, .null, .ref mt, .ref ml, .int (iz (0)), .ref mw, .int (iz (0)), .ref mb, .ref mp, .int (iz (0))]))] H := hP
    have hD : va_D (zlA s) [(ou, zaL (G.2 0) 1 ((fun _ => 0))), (mm, .inr (13, [.int (iz (thm)), .int (iz ((6 : Int))), .ref ma, .null, .ref mt, .ref ml, .int (iz (0)), .ref mw, .int (iz (0)), .ref mb, .ref mp, .int (iz (0))]))] := hD
    have hth : th9 = thm := hth
    rw [show th9 = 1 from hth.trans htp]
    refine lv_iload hx hb dL_law_2154 (lv_at hl 1 rfl) ?_
    refine zr_icmp_eq (x := 1) (y := 1) (tgt := 2161) hx hb (⟨by omega, by omega⟩) (⟨by omega, by omega⟩) dL_law_2156 (by decide) (fun h_15 => ?_) (fun h_15 => ?_)
    ·
      refine lv_iload hx hb dL_law_2161 (lv_at hl 1 rfl) ?_
      refine zr_if_ne (x := 1) (tgt := 2177) hx hb (⟨by omega, by omega⟩) dL_law_2163 (by decide) (fun h_16 => ?_) (fun h_16 => ?_)
      ·
        refine lv_goto (tgt := 3039) hx hb dL_law_2177 (by decide) ?_
        exact zl_end hL8 C0 hS (lv_sub hl [2, 6] rfl) (by show _ ≤ (600002 : Nat); omega) (by show _ ≤ (7302232 : Nat); omega)
      · exact absurd h_16 (by omega)
    · exact absurd h_15 (by omega)
