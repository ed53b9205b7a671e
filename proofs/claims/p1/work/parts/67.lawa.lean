-- THE LAW'S CASES (laid by wip/walk/xlaw.py)
set_option maxHeartbeats 4000000 in
set_option maxRecDepth 100000 in
theorem zl_0 {p : Program} {e : Env} {s : State} {m : MethodId} {below : List Frame} {meth : Method} {c : Code} {l : Launch} (hl0 : l.stackTraces = false) {b L : Nat} {xs : Nat → Int32} (hL8 : L = 8) (C0 : lw_At p s m meth c b L xs) {G : zG} {nA nB nE s1 s2 s3 : Nat} (hKX : zK G s) (hEm : zE G nA nB nE (zlA s) s) (hEc : zXL s1 s2 s3 (zlA s) s) (x : Nat) (ro : Nat) (rw : Nat) (bo : Nat) (li : Nat) (sh : Nat) (tx : Nat) (lo : Nat) (nl : Nat) (ou : Nat) (mm : Nat) (ma : Nat) (mt : Nat) (ml : Nat) (mw : Nat) (mb : Nat) (mp : Nat) {H : Heap} {locs : List Loc} {ls : Array Slot} (hP : va_P G.1 vwCl [(x, .inr (10, [.ref ro, .ref rw, .ref bo, .ref li, .ref sh, .ref tx, .ref lo, .ref nl])), (ro, .inr (5, [.int (iz (6))])), (ou, zaL (G.2 0) 1 (fun _ => 0)), (mm, .inr (13, [.int (iz (0)), .int (iz (6)), .ref ma, .null, .ref mt, .ref ml, .int (iz (0)), .ref mw, .int (iz (0)), .ref mb, .ref mp, .int (iz (0))]))] H) (hD : va_D (zlA s) [(x, .inr (10, [.ref ro, .ref rw, .ref bo, .ref li, .ref sh, .ref tx, .ref lo, .ref nl])), (ro, .inr (5, [.int (iz (6))])), (ou, zaL (G.2 0) 1 (fun _ => 0)), (mm, .inr (13, [.int (iz (0)), .int (iz (6)), .ref ma, .null, .ref mt, .ref ml, .int (iz (0)), .ref mw, .int (iz (0)), .ref mb, .ref mp, .int (iz (0))]))]) (hS : va_S (zlA s) s.heap H locs) (hl : lv_has ls 9 [(0, .ref b), (1, .ref x), (2, .ref mm), (3, .ref ou), (4, .int (iz (0)))]) : W p l e room_1 s m #[Value.ref b] below meth c H locs 200 4000 (lw_Z below #[Value.ref b] s) (F0 m 204 ls []) := by
  obtain ⟨hx, hb, hr, hml, hown, hts, hX, hbl, hlocks, hgv⟩ := id C0
  have hbA : ¬ zlA s b := Nat.not_le.mpr hbl
  have hK := hKX.1
  have hts : ∀ w ∈ wsL_law, w.before #[Value.ref b] s = true := fun w h => hts w (wsL_law_in w h)
  have hown : s.vm.findClass RL = some m.cls := hown
  have hA : ∀ q : Nat, s.heap.size ≤ q → zlA s q := fun _ h => h
  have hE := hEm
  have hv1 := zv_rng xs 1
  have hv2 := zv_rng xs 2
  have hv3 := zv_rng xs 3
  have hv4 := zv_rng xs 4
  have hv5 := zv_rng xs 5
  have hv6 := zv_rng xs 6
  have hv7 := zv_rng xs 7
  by_cases hco0 : 0 ≤ (zv xs 1) ∧ (zv xs 1) ≤ 7
  ·
    refine lv_aload_n hx hb dL_law_204 rfl (lv_at hl 1 rfl) ?_
    refine lv_aload_n hx hb dL_law_205 rfl (lv_at hl 0 rfl) ?_
    refine lv_iload hx hb dL_law_206 (lv_at hl 4 rfl) ?_
    refine lv_iconst (v := iz (1)) hx hb dL_law_208 rfl ?_
    refine zr_iadd hx hb dL_law_209 ?_
    refine zr_sld hx hb hX hbl hbA hS 1 (by omega) (by omega) (by omega) dL_law_210 ?_
    refine lv_aload_n hx hb dL_law_211 rfl (lv_at hl 3 rfl) ?_
    refine zc_i (wr := [(mm, .inr (13, [.int (iz (0)), .int (iz (6)), .ref ma, .null, .ref mt, .ref ml, .int (iz (0)), .ref mw, .int (iz (0)), .ref mb, .ref mp, .int (iz (0))]))]) (vx_runSW (As := [.ref x, .int (iz (zv xs 1)), .ref ou]) (rest := []) ⟨hx, hb, hml, hown, hts⟩ (c_L_setMode_o l G x ro rw bo li sh tx lo nl (zv xs 1) ou (fun _ => 0) (by omega) (by omega) H.size) (vx_cwSW 3 hts gL_law_L_setMode rfl rfl rfl (by decide +kernel) ⟨Nat.le_of_ble_eq_true rfl, Nat.le_of_ble_eq_true rfl⟩) (zpS hKX hP hD [0, 1, 2] rfl rfl) rfl rfl hl.1 rfl (lv_room (Nat.le_of_ble_eq_true rfl)) dL_law_212 ⟨(by show _ ≤ (600002 : Nat); omega), (by show _ ≤ (7302232 : Nat); omega)⟩) hP hD hS hA [0, 1, 2] [3] rfl rfl rfl (by decide) (fun kk u_1 H locs hw hP hD hS => ?_)
    generalize u_1 = fz at hP hD hw
    have hP : va_P G.1 vwCl [(mm, .inr (13, [.int (iz (0)), .int (iz (6)), .ref ma, .null, .ref mt, .ref ml, .int (iz (0)), .ref mw, .int (iz (0)), .ref mb, .ref mp, .int (iz (0))])), (ou, zaL (G.2 0) 1 (fz))] H := hP
    have hD : va_D (zlA s) [(mm, .inr (13, [.int (iz (0)), .int (iz (6)), .ref ma, .null, .ref mt, .ref ml, .int (iz (0)), .ref mw, .int (iz (0)), .ref mb, .ref mp, .int (iz (0))])), (ou, zaL (G.2 0) 1 (fz))] := hD
    have hw : kk = 0 ∧ (fz 0) = 6 := hw
    rw [show kk = 0 from hw.1]
    refine lv_istore (lv' := [(5, .int (iz (0))), (0, .ref b), (1, .ref x), (2, .ref mm), (3, .ref ou), (4, .int (iz (0)))]) hx hb dL_law_215 hl (by decide) rfl (fun ls hl => ?_)
    refine lv_aload_n hx hb dL_law_217 rfl (lv_at hl 3 rfl) ?_
    refine lv_aload_n hx hb dL_law_218 rfl (lv_at hl 1 rfl) ?_
    refine lv_iload hx hb dL_law_219 (lv_at hl 5 rfl) ?_
    refine lv_iconst (v := iz (1)) hx hb dL_law_221 rfl ?_
    refine zr_iadd hx hb dL_law_222 ?_
    refine zr_sld hx hb hX hbl hbA hS 1 (by omega) (by omega) (by omega) dL_law_223 ?_
    refine zc_i (wr := [(ou, zaL (G.2 0) 1 (fz))]) (va_runV (As := [.int (iz (zv xs 1))]) (rest := []) ⟨hx, hb, hml, hown, hts⟩ (c_X12_setMode_o l G mm ma mt ml mw mb mp 0 (zv xs 1) (by omega) (by omega) H.size) (cwV 1 hts gL_law_X12_setMode rfl rfl rfl (by decide +kernel) ⟨Nat.le_of_ble_eq_true rfl, Nat.le_of_ble_eq_true rfl⟩) (zpV hKX hP hD [0] rfl rfl 0 13 rfl rfl) rfl rfl hl.1 rfl (lv_room (Nat.le_of_ble_eq_true rfl)) dL_law_224 ⟨(by show _ ≤ (600002 : Nat); omega), (by show _ ≤ (7302232 : Nat); omega)⟩) hP hD hS hA [0] [1] rfl rfl rfl (by decide) (fun zm u_3 H locs hm hP hD hS => ?_)
    generalize u_3 = thm at hP hD hm
    have hP : va_P G.1 vwCl [(ou, zaL (G.2 0) 1 (fz)), (mm, .inr (13, [.int (iz (thm)), .int (iz ((zv xs 1))), .ref ma, .null, .ref mt, .ref ml, .int (iz (0)), .ref mw, .int (iz (0)), .ref mb, .ref mp, .int (iz (0))]))] H := hP
    have hD : va_D (zlA s) [(ou, zaL (G.2 0) 1 (fz)), (mm, .inr (13, [.int (iz (thm)), .int (iz ((zv xs 1))), .ref ma, .null, .ref mt, .ref ml, .int (iz (0)), .ref mw, .int (iz (0)), .ref mb, .ref mp, .int (iz (0))]))] := hD
    have hm : zm = 6 ∧ thm = 0 := hm
    have htp := hm.2
    have hval := hw.2.trans hm.1.symm
    refine lv_istore (lv' := [(6, .int (iz (zm))), (5, .int (iz (0))), (0, .ref b), (1, .ref x), (2, .ref mm), (3, .ref ou), (4, .int (iz (0)))]) hx hb dL_law_227 hl (by decide) rfl (fun ls hl => ?_)
    refine lv_aload_n hx hb dL_law_229 rfl (lv_at hl 4 rfl) ?_
    refine zc_i (wr := [(ou, zaL (G.2 0) 1 (fz))]) (va_runV (As := []) (rest := []) ⟨hx, hb, hml, hown, hts⟩ (c_X12_thrown_v l G mm thm (.ref ma) .null (.ref mt) (.ref ml) (.int (iz (0))) (.ref mw) (.int (iz (0))) (.ref mb) (.ref mp) (.int (iz (0))) (zv xs 1)  H.size) (cwV 0 hts gL_law_X12_thrown rfl rfl rfl (by decide +kernel) ⟨Nat.le_of_ble_eq_true rfl, Nat.le_of_ble_eq_true rfl⟩) (zpV hKX hP hD [1] rfl rfl 1 13 rfl rfl) rfl rfl hl.1 rfl (lv_room (Nat.le_of_ble_eq_true rfl)) dL_law_230 ⟨(by show _ ≤ (600002 : Nat); omega), (by show _ ≤ (7302232 : Nat); omega)⟩) hP hD hS hA [1] [0] rfl rfl rfl (by decide) (fun th9 u_5 H locs hth hP hD hS => ?_)
    have hP : va_P G.1 vwCl [(ou, zaL (G.2 0) 1 (fz)), (mm, .inr (13, [.int (iz (thm)), .int (iz ((zv xs 1))), .ref ma, .null, .ref mt, .ref ml, .int (iz (0)), .ref mw, .int (iz (0)), .ref mb, .ref mp, .int (iz (0))]))] H := hP
    have hD : va_D (zlA s) [(ou, zaL (G.2 0) 1 (fz)), (mm, .inr (13, [.int (iz (thm)), .int (iz ((zv xs 1))), .ref ma, .null, .ref mt, .ref ml, .int (iz (0)), .ref mw, .int (iz (0)), .ref mb, .ref mp, .int (iz (0))]))] := hD
    have hth : th9 = thm := hth
    rw [show th9 = 0 from hth.trans htp]
    refine lv_iload hx hb dL_law_233 (lv_at hl 1 rfl) ?_
    refine zr_icmp_eq (x := 0) (y := 0) (tgt := 240) hx hb (⟨by omega, by omega⟩) (⟨by omega, by omega⟩) dL_law_235 (by decide) (fun h_7 => ?_) (fun h_7 => ?_)
    ·
      refine lv_iload hx hb dL_law_240 (lv_at hl 1 rfl) ?_
      refine zr_if_ne (x := 0) (tgt := 257) hx hb (⟨by omega, by omega⟩) dL_law_242 (by decide) (fun h_8 => ?_) (fun h_8 => ?_)
      · exact absurd h_8 (by omega)
      ·
        refine lv_aload_n hx hb dL_law_245 rfl (lv_at hl 5 rfl) ?_
        refine lv_iconst (v := iz (0)) hx hb dL_law_246 rfl ?_
        refine zr_lald hx hb hK hP 0 0 rfl rfl (i := 0) (⟨by omega, by omega, by omega⟩) dL_law_247 ?_
        refine lv_iload hx hb dL_law_248 (lv_at hl 0 rfl) ?_
        refine zr_i2l hx hb (x := zm) (⟨by omega, by omega⟩) dL_law_250 ?_
        refine zr_lcmpS (x := fz 0) (y := zm) (tgt := 257) hx hb (by first | exact hval | exact hval.symm) dL_law_251 dL_law_252 (by decide) ?_
        refine lv_goto (tgt := 3039) hx hb dL_law_257 (by decide) ?_
        exact zl_end hL8 C0 hS (lv_sub hl [2, 6] rfl) (by show _ ≤ (600002 : Nat); omega) (by show _ ≤ (7302232 : Nat); omega)
    · exact absurd h_7 (by omega)
  ·
    refine lv_aload_n hx hb dL_law_204 rfl (lv_at hl 1 rfl) ?_
    refine lv_aload_n hx hb dL_law_205 rfl (lv_at hl 0 rfl) ?_
    refine lv_iload hx hb dL_law_206 (lv_at hl 4 rfl) ?_
    refine lv_iconst (v := iz (1)) hx hb dL_law_208 rfl ?_
    refine zr_iadd hx hb dL_law_209 ?_
    refine zr_sld hx hb hX hbl hbA hS 1 (by omega) (by omega) (by omega) dL_law_210 ?_
    refine lv_aload_n hx hb dL_law_211 rfl (lv_at hl 3 rfl) ?_
    refine zc_i (wr := [(ro, .inr (5, [.int (iz (6))])), (mm, .inr (13, [.int (iz (0)), .int (iz (6)), .ref ma, .null, .ref mt, .ref ml, .int (iz (0)), .ref mw, .int (iz (0)), .ref mb, .ref mp, .int (iz (0))]))]) (vx_runSW (As := [.ref x, .int (iz (zv xs 1)), .ref ou]) (rest := []) ⟨hx, hb, hml, hown, hts⟩ (c_L_setMode_x l G s1 s2 s3 x ro rw bo li sh tx lo nl (zv xs 1) ou (fun _ => 0) hl0 (by omega) (by omega) H.size) (vx_cwSW 3 hts gL_law_L_setMode rfl rfl rfl (by decide +kernel) ⟨Nat.le_of_ble_eq_true rfl, Nat.le_of_ble_eq_true rfl⟩) (zpSe zXL_ok hEc hS hA hKX hP hD [0, 2] rfl rfl) rfl rfl hl.1 rfl (lv_room (Nat.le_of_ble_eq_true rfl)) dL_law_212 ⟨(by show _ ≤ (600002 : Nat); omega), (by show _ ≤ (7302232 : Nat); omega)⟩) hP hD hS hA [0, 2] [1, 3] rfl rfl rfl (by decide) (fun kk u_9 H locs hw hP hD hS => ?_)
    have hP : va_P G.1 vwCl [(ro, .inr (5, [.int (iz (6))])), (mm, .inr (13, [.int (iz (0)), .int (iz (6)), .ref ma, .null, .ref mt, .ref ml, .int (iz (0)), .ref mw, .int (iz (0)), .ref mb, .ref mp, .int (iz (0))])), (ou, zaL (G.2 0) 1 ((fun _ => 0)))] H := hP
    have hD : va_D (zlA s) [(ro, .inr (5, [.int (iz (6))])), (mm, .inr (13, [.int (iz (0)), .int (iz (6)), .ref ma, .null, .ref mt, .ref ml, .int (iz (0)), .ref mw, .int (iz (0)), .ref mb, .ref mp, .int (iz (0))])), (ou, zaL (G.2 0) 1 ((fun _ => 0)))] := hD
    have hw : kk = 1 := hw
    rw [show kk = 1 from hw]
    refine lv_istore (lv' := [(5, .int (iz (1))), (0, .ref b), (1, .ref x), (2, .ref mm), (3, .ref ou), (4, .int (iz (0)))]) hx hb dL_law_215 hl (by decide) rfl (fun ls hl => ?_)
    refine lv_aload_n hx hb dL_law_217 rfl (lv_at hl 3 rfl) ?_
    refine lv_aload_n hx hb dL_law_218 rfl (lv_at hl 1 rfl) ?_
    refine lv_iload hx hb dL_law_219 (lv_at hl 5 rfl) ?_
    refine lv_iconst (v := iz (1)) hx hb dL_law_221 rfl ?_
    refine zr_iadd hx hb dL_law_222 ?_
    refine zr_sld hx hb hX hbl hbA hS 1 (by omega) (by omega) (by omega) dL_law_223 ?_
    refine zc_i (wr := [(ro, .inr (5, [.int (iz (6))])), (ou, zaL (G.2 0) 1 ((fun _ => 0)))]) (va_runV (As := [.int (iz (zv xs 1))]) (rest := []) ⟨hx, hb, hml, hown, hts⟩ (c_X12_setMode_x l G mm ma mt ml mw mb mp 0 (zv xs 1) (by omega) (by omega) H.size) (cwV 1 hts gL_law_X12_setMode rfl rfl rfl (by decide +kernel) ⟨Nat.le_of_ble_eq_true rfl, Nat.le_of_ble_eq_true rfl⟩) (zpV hKX hP hD [1] rfl rfl 1 13 rfl rfl) rfl rfl hl.1 rfl (lv_room (Nat.le_of_ble_eq_true rfl)) dL_law_224 ⟨(by show _ ≤ (600002 : Nat); omega), (by show _ ≤ (7302232 : Nat); omega)⟩) hP hD hS hA [1] [0, 2] rfl rfl rfl (by decide) (fun zm u_11 H locs hm hP hD hS => ?_)
    generalize u_11 = thm at hP hD hm
    have hP : va_P G.1 vwCl [(ro, .inr (5, [.int (iz (6))])), (ou, zaL (G.2 0) 1 ((fun _ => 0))), (mm, .inr (13, [.int (iz (thm)), .int (iz (6)), .ref ma, .null, .ref mt, .ref ml, .int (iz (0)), .ref mw, .int (iz (0)), .ref mb, .ref mp, .int (iz (0))]))] H := hP
    have hD : va_D (zlA s) [(ro, .inr (5, [.int (iz (6))])), (ou, zaL (G.2 0) 1 ((fun _ => 0))), (mm, .inr (13, [.int (iz (thm)), .int (iz (6)), .ref ma, .null, .ref mt, .ref ml, .int (iz (0)), .ref mw, .int (iz (0)), .ref mb, .ref mp, .int (iz (0))]))] := hD
    have hm : zm = 0 ∧ thm = 1 := hm
    have htp := hm.2
    refine lv_istore (lv' := [(6, .int (iz (zm))), (5, .int (iz (1))), (0, .ref b), (1, .ref x), (2, .ref mm), (3, .ref ou), (4, .int (iz (0)))]) hx hb dL_law_227 hl (by decide) rfl (fun ls hl => ?_)
    refine lv_aload_n hx hb dL_law_229 rfl (lv_at hl 4 rfl) ?_
    refine zc_i (wr := [(ro, .inr (5, [.int (iz (6))])), (ou, zaL (G.2 0) 1 ((fun _ => 0)))]) (va_runV (As := []) (rest := []) ⟨hx, hb, hml, hown, hts⟩ (c_X12_thrown_v l G mm thm (.ref ma) .null (.ref mt) (.ref ml) (.int (iz (0))) (.ref mw) (.int (iz (0))) (.ref mb) (.ref mp) (.int (iz (0))) 6  H.size) (cwV 0 hts gL_law_X12_thrown rfl rfl rfl (by decide +kernel) ⟨Nat.le_of_ble_eq_true rfl, Nat.le_of_ble_eq_true rfl⟩) (zpV hKX hP hD [2] rfl rfl 2 13 rfl rfl) rfl rfl hl.1 rfl (lv_room (Nat.le_of_ble_eq_true rfl)) dL_law_230 ⟨(by show _ ≤ (600002 : Nat); omega), (by show _ ≤ (7302232 : Nat); omega)⟩) hP hD hS hA [2] [0, 1] rfl rfl rfl (by decide) (fun th9 u_13 H locs hth hP hD hS => ?_)
    have hP : va_P G.1 vwCl [(ro, .inr (5, [.int (iz (6))])), (ou, zaL (G.2 0) 1 ((fun _ => 0))), (mm, .inr (13, [.int (iz (thm)), .int (iz ((6 : Int))), .ref ma, .null, .ref mt, .ref ml, .int (iz (0)), .ref mw, .int (iz (0)), .ref mb, .ref mp, .int (iz (0))]))] H := hP
    have hD : va_D (zlA s) [(ro, .inr (5, [.int (iz (6))])), (ou, zaL (G.2 0) 1 ((fun _ => 0))), (mm, .inr (13, [.int (iz (thm)), .int (iz ((6 : Int))), .ref ma, .null, .ref mt, .ref ml, .int (iz (0)), .ref mw, .int (iz (0)), .ref mb, .ref mp, .int (iz (0))]))] := hD
    have hth : th9 = thm := hth
    rw [show th9 = 1 from hth.trans htp]
    refine lv_iload hx hb dL_law_233 (lv_at hl 1 rfl) ?_
    refine zr_icmp_eq (x := 1) (y := 1) (tgt := 240) hx hb (⟨by omega, by omega⟩) (⟨by omega, by omega⟩) dL_law_235 (by decide) (fun h_15 => ?_) (fun h_15 => ?_)
    ·
      refine lv_iload hx hb dL_law_240 (lv_at hl 1 rfl) ?_
      refine zr_if_ne (x := 1) (tgt := 257) hx hb (⟨by omega, by omega⟩) dL_law_242 (by decide) (fun h_16 => ?_) (fun h_16 => ?_)
      ·
        refine lv_goto (tgt := 3039) hx hb dL_law_257 (by decide) ?_
        exact zl_end hL8 C0 hS (lv_sub hl [2, 6] rfl) (by show _ ≤ (600002 : Nat); omega) (by show _ ≤ (7302232 : Nat); omega)
      · exact absurd h_16 (by omega)
    · exact absurd h_15 (by omega)

set_option maxHeartbeats 4000000 in
set_option maxRecDepth 100000 in
theorem zl_1 {p : Program} {e : Env} {s : State} {m : MethodId} {below : List Frame} {meth : Method} {c : Code} {l : Launch} (hl0 : l.stackTraces = false) {b L : Nat} {xs : Nat → Int32} (hL8 : L = 8) (C0 : lw_At p s m meth c b L xs) {G : zG} {nA nB nE s1 s2 s3 : Nat} (hKX : zK G s) (hEm : zE G nA nB nE (zlA s) s) (hEc : zXL s1 s2 s3 (zlA s) s) (x : Nat) (ro : Nat) (rw : Nat) (bo : Nat) (li : Nat) (sh : Nat) (tx : Nat) (lo : Nat) (nl : Nat) (ou : Nat) (mm : Nat) (ma : Nat) (mt : Nat) (ml : Nat) (mw : Nat) (mb : Nat) (mp : Nat) {H : Heap} {locs : List Loc} {ls : Array Slot} (hP : va_P G.1 vwCl [(x, .inr (10, [.ref ro, .ref rw, .ref bo, .ref li, .ref sh, .ref tx, .ref lo, .ref nl])), (ro, .inr (5, [.int (iz (6))])), (ou, zaL (G.2 0) 1 (fun _ => 0)), (mm, .inr (13, [.int (iz (0)), .int (iz (6)), .ref ma, .null, .ref mt, .ref ml, .int (iz (0)), .ref mw, .int (iz (0)), .ref mb, .ref mp, .int (iz (0))]))] H) (hD : va_D (zlA s) [(x, .inr (10, [.ref ro, .ref rw, .ref bo, .ref li, .ref sh, .ref tx, .ref lo, .ref nl])), (ro, .inr (5, [.int (iz (6))])), (ou, zaL (G.2 0) 1 (fun _ => 0)), (mm, .inr (13, [.int (iz (0)), .int (iz (6)), .ref ma, .null, .ref mt, .ref ml, .int (iz (0)), .ref mw, .int (iz (0)), .ref mb, .ref mp, .int (iz (0))]))]) (hS : va_S (zlA s) s.heap H locs) (hl : lv_has ls 9 [(0, .ref b), (1, .ref x), (2, .ref mm), (3, .ref ou), (4, .int (iz (0)))]) : W p l e room_1 s m #[Value.ref b] below meth c H locs 200 4000 (lw_Z below #[Value.ref b] s) (F0 m 260 ls []) := by
  obtain ⟨hx, hb, hr, hml, hown, hts, hX, hbl, hlocks, hgv⟩ := id C0
  have hbA : ¬ zlA s b := Nat.not_le.mpr hbl
  have hK := hKX.1
  have hts : ∀ w ∈ wsL_law, w.before #[Value.ref b] s = true := fun w h => hts w (wsL_law_in w h)
  have hown : s.vm.findClass RL = some m.cls := hown
  have hA : ∀ q : Nat, s.heap.size ≤ q → zlA s q := fun _ h => h
  have hE := hEm
  have hv1 := zv_rng xs 1
  have hv2 := zv_rng xs 2
  have hv3 := zv_rng xs 3
  have hv4 := zv_rng xs 4
  have hv5 := zv_rng xs 5
  have hv6 := zv_rng xs 6
  have hv7 := zv_rng xs 7
  refine lv_aload_n hx hb dL_law_260 rfl (lv_at hl 1 rfl) ?_
  refine zc_i (wr := [(ou, zaL (G.2 0) 1 (fun _ => 0)), (mm, .inr (13, [.int (iz (0)), .int (iz (6)), .ref ma, .null, .ref mt, .ref ml, .int (iz (0)), .ref mw, .int (iz (0)), .ref mb, .ref mp, .int (iz (0))]))]) (va_runV (As := []) (rest := []) ⟨hx, hb, hml, hown, hts⟩ (c_X9_mode l G x ro rw bo li sh tx lo nl  H.size) (cwV 0 hts gL_law_X9_mode rfl rfl rfl (by decide +kernel) ⟨Nat.le_of_ble_eq_true rfl, Nat.le_of_ble_eq_true rfl⟩) (zpV hKX hP hD [0, 1] rfl rfl 0 10 rfl rfl) rfl rfl hl.1 rfl (lv_room (Nat.le_of_ble_eq_true rfl)) dL_law_261 ⟨(by show _ ≤ (600002 : Nat); omega), (by show _ ≤ (7302232 : Nat); omega)⟩) hP hD hS hA [0, 1] [2, 3] rfl rfl rfl (by decide) (fun zw u_1 H locs hw hP hD hS => ?_)
  have hP : va_P G.1 vwCl [(ou, zaL (G.2 0) 1 (fun _ => 0)), (mm, .inr (13, [.int (iz (0)), .int (iz (6)), .ref ma, .null, .ref mt, .ref ml, .int (iz (0)), .ref mw, .int (iz (0)), .ref mb, .ref mp, .int (iz (0))])), (x, .inr (10, [.ref ro, .ref rw, .ref bo, .ref li, .ref sh, .ref tx, .ref lo, .ref nl])), (ro, .inr (5, [.int (iz (6))]))] H := hP
  have hD : va_D (zlA s) [(ou, zaL (G.2 0) 1 (fun _ => 0)), (mm, .inr (13, [.int (iz (0)), .int (iz (6)), .ref ma, .null, .ref mt, .ref ml, .int (iz (0)), .ref mw, .int (iz (0)), .ref mb, .ref mp, .int (iz (0))])), (x, .inr (10, [.ref ro, .ref rw, .ref bo, .ref li, .ref sh, .ref tx, .ref lo, .ref nl])), (ro, .inr (5, [.int (iz (6))]))] := hD
  have hw : zw = 6 := hw
  refine lv_aload_n hx hb dL_law_264 rfl (lv_at hl 2 rfl) ?_
  refine zc_i (wr := [(ou, zaL (G.2 0) 1 (fun _ => 0)), (x, .inr (10, [.ref ro, .ref rw, .ref bo, .ref li, .ref sh, .ref tx, .ref lo, .ref nl])), (ro, .inr (5, [.int (iz (6))]))]) (va_runV (As := []) (rest := [.int (iz (zw))]) ⟨hx, hb, hml, hown, hts⟩ (c_X12_mode l G mm ma mt ml mw mb mp 0  H.size) (cwV 0 hts gL_law_X12_mode rfl rfl rfl (by decide +kernel) ⟨Nat.le_of_ble_eq_true rfl, Nat.le_of_ble_eq_true rfl⟩) (zpV hKX hP hD [1] rfl rfl 1 13 rfl rfl) rfl rfl hl.1 rfl (lv_room (Nat.le_of_ble_eq_true rfl)) dL_law_265 ⟨(by show _ ≤ (600002 : Nat); omega), (by show _ ≤ (7302232 : Nat); omega)⟩) hP hD hS hA [1] [0, 2, 3] rfl rfl rfl (by decide) (fun zm u_3 H locs hm hP hD hS => ?_)
  generalize u_3 = thm at hP hD hm
  have hP : va_P G.1 vwCl [(ou, zaL (G.2 0) 1 (fun _ => 0)), (x, .inr (10, [.ref ro, .ref rw, .ref bo, .ref li, .ref sh, .ref tx, .ref lo, .ref nl])), (ro, .inr (5, [.int (iz (6))])), (mm, .inr (13, [.int (iz (thm)), .int (iz (6)), .ref ma, .null, .ref mt, .ref ml, .int (iz (0)), .ref mw, .int (iz (0)), .ref mb, .ref mp, .int (iz (0))]))] H := hP
  have hD : va_D (zlA s) [(ou, zaL (G.2 0) 1 (fun _ => 0)), (x, .inr (10, [.ref ro, .ref rw, .ref bo, .ref li, .ref sh, .ref tx, .ref lo, .ref nl])), (ro, .inr (5, [.int (iz (6))])), (mm, .inr (13, [.int (iz (thm)), .int (iz (6)), .ref ma, .null, .ref mt, .ref ml, .int (iz (0)), .ref mw, .int (iz (0)), .ref mb, .ref mp, .int (iz (0))]))] := hD
  have hm : zm = 6 ∧ thm = 0 := hm
  have htp := hm.2
  have hval := hw.trans hm.1.symm
  refine zr_icmpS (x := zw) (y := zm) (tgt := 3039) hx hb (by first | exact hval | exact hval.symm) dL_law_268 (by decide) ?_
  exact zl_end hL8 C0 hS (lv_sub hl [0, 4] rfl) (by show _ ≤ (600002 : Nat); omega) (by show _ ≤ (7302232 : Nat); omega)

set_option maxHeartbeats 4000000 in
set_option maxRecDepth 100000 in
theorem zl_2 {p : Program} {e : Env} {s : State} {m : MethodId} {below : List Frame} {meth : Method} {c : Code} {l : Launch} (hl0 : l.stackTraces = false) {b L : Nat} {xs : Nat → Int32} (hL8 : L = 8) (C0 : lw_At p s m meth c b L xs) {G : zG} {nA nB nE s1 s2 s3 : Nat} (hKX : zK G s) (hEm : zE G nA nB nE (zlA s) s) (hEc : zXL s1 s2 s3 (zlA s) s) (x : Nat) (ro : Nat) (rw : Nat) (bo : Nat) (li : Nat) (sh : Nat) (tx : Nat) (lo : Nat) (nl : Nat) (ou : Nat) (mm : Nat) (ma : Nat) (mt : Nat) (ml : Nat) (mw : Nat) (mb : Nat) (mp : Nat) {H : Heap} {locs : List Loc} {ls : Array Slot} (hP : va_P G.1 vwCl [(x, .inr (10, [.ref ro, .ref rw, .ref bo, .ref li, .ref sh, .ref tx, .ref lo, .ref nl])), (ro, .inr (5, [.int (iz (6))])), (ou, zaL (G.2 0) 1 (fun _ => 0)), (mm, .inr (13, [.int (iz (0)), .int (iz (6)), .ref ma, .null, .ref mt, .ref ml, .int (iz (0)), .ref mw, .int (iz (0)), .ref mb, .ref mp, .int (iz (0))]))] H) (hD : va_D (zlA s) [(x, .inr (10, [.ref ro, .ref rw, .ref bo, .ref li, .ref sh, .ref tx, .ref lo, .ref nl])), (ro, .inr (5, [.int (iz (6))])), (ou, zaL (G.2 0) 1 (fun _ => 0)), (mm, .inr (13, [.int (iz (0)), .int (iz (6)), .ref ma, .null, .ref mt, .ref ml, .int (iz (0)), .ref mw, .int (iz (0)), .ref mb, .ref mp, .int (iz (0))]))]) (hS : va_S (zlA s) s.heap H locs) (hl : lv_has ls 9 [(0, .ref b), (1, .ref x), (2, .ref mm), (3, .ref ou), (4, .int (iz (0)))]) : W p l e room_1 s m #[Value.ref b] below meth c H locs 200 4000 (lw_Z below #[Value.ref b] s) (F0 m 273 ls []) := by
  obtain ⟨hx, hb, hr, hml, hown, hts, hX, hbl, hlocks, hgv⟩ := id C0
  have hbA : ¬ zlA s b := Nat.not_le.mpr hbl
  have hK := hKX.1
  have hts : ∀ w ∈ wsL_law, w.before #[Value.ref b] s = true := fun w h => hts w (wsL_law_in w h)
  have hown : s.vm.findClass RL = some m.cls := hown
  have hA : ∀ q : Nat, s.heap.size ≤ q → zlA s q := fun _ h => h
  have hE := hEm
  have hv1 := zv_rng xs 1
  have hv2 := zv_rng xs 2
  have hv3 := zv_rng xs 3
  have hv4 := zv_rng xs 4
  have hv5 := zv_rng xs 5
  have hv6 := zv_rng xs 6
  have hv7 := zv_rng xs 7
  have hw1 := zlo_rng (zv xs 1) (zv xs 2)
  have hw3 := zlo_rng (zv xs 3) (zv xs 4)
  by_cases hco0 : -1000000000000 ≤ (zlo (zv xs 1) (zv xs 2)) ∧ (zlo (zv xs 1) (zv xs 2)) ≤ 1000000000000 ∧ 1 ≤ (zlo (zv xs 3) (zv xs 4)) ∧ (zlo (zv xs 3) (zv xs 4)) ≤ 1000000000000 ∧ 0 ≤ (zv xs 5) ∧ (zv xs 5) ≤ 6
  ·
    refine lv_aload_n hx hb dL_law_273 rfl (lv_at hl 1 rfl) ?_
    refine lv_aload_n hx hb dL_law_274 rfl (lv_at hl 0 rfl) ?_
    refine lv_iload hx hb dL_law_275 (lv_at hl 4 rfl) ?_
    refine lv_iconst (v := iz (1)) hx hb dL_law_277 rfl ?_
    refine zr_iadd hx hb dL_law_278 ?_
    refine zr_sld hx hb hX hbl hbA hS 1 (by omega) (by omega) (by omega) dL_law_279 ?_
    refine zr_i2l hx hb (x := zv xs 1) (⟨by omega, by omega⟩) dL_law_280 ?_
    refine lv_bipush (v := iz (32)) hx hb dL_law_281 rfl ?_
    refine zr_lshl32 hx hb dL_law_283 ?_
    refine lv_aload_n hx hb dL_law_284 rfl (lv_at hl 0 rfl) ?_
    refine lv_iload hx hb dL_law_285 (lv_at hl 4 rfl) ?_
    refine lv_iconst (v := iz (2)) hx hb dL_law_287 rfl ?_
    refine zr_iadd hx hb dL_law_288 ?_
    refine zr_sld hx hb hX hbl hbA hS 2 (by omega) (by omega) (by omega) dL_law_289 ?_
    refine zr_i2l hx hb (x := zv xs 2) (⟨by omega, by omega⟩) dL_law_290 ?_
    refine zr_ldc2 (z := 4294967295) hx hb hown (hts (.constantLong RL 137 (4294967295)) (by decide +kernel)) rfl dL_law_291 ?_
    refine zr_land32 hx hb dL_law_294 ?_
    refine zr_lor32 hx hb dL_law_295 ?_
    refine lv_aload_n hx hb dL_law_296 rfl (lv_at hl 0 rfl) ?_
    refine lv_iload hx hb dL_law_297 (lv_at hl 4 rfl) ?_
    refine lv_iconst (v := iz (3)) hx hb dL_law_299 rfl ?_
    refine zr_iadd hx hb dL_law_300 ?_
    refine zr_sld hx hb hX hbl hbA hS 3 (by omega) (by omega) (by omega) dL_law_301 ?_
    refine zr_i2l hx hb (x := zv xs 3) (⟨by omega, by omega⟩) dL_law_302 ?_
    refine lv_bipush (v := iz (32)) hx hb dL_law_303 rfl ?_
    refine zr_lshl32 hx hb dL_law_305 ?_
    refine lv_aload_n hx hb dL_law_306 rfl (lv_at hl 0 rfl) ?_
    refine lv_iload hx hb dL_law_307 (lv_at hl 4 rfl) ?_
    refine lv_iconst (v := iz (4)) hx hb dL_law_309 rfl ?_
    refine zr_iadd hx hb dL_law_310 ?_
    refine zr_sld hx hb hX hbl hbA hS 4 (by omega) (by omega) (by omega) dL_law_311 ?_
    refine zr_i2l hx hb (x := zv xs 4) (⟨by omega, by omega⟩) dL_law_312 ?_
    refine zr_ldc2 (z := 4294967295) hx hb hown (hts (.constantLong RL 137 (4294967295)) (by decide +kernel)) rfl dL_law_313 ?_
    refine zr_land32 hx hb dL_law_316 ?_
    refine zr_lor32 hx hb dL_law_317 ?_
    refine lv_aload_n hx hb dL_law_318 rfl (lv_at hl 0 rfl) ?_
    refine lv_iload hx hb dL_law_319 (lv_at hl 4 rfl) ?_
    refine lv_iconst (v := iz (5)) hx hb dL_law_321 rfl ?_
    refine zr_iadd hx hb dL_law_322 ?_
    refine zr_sld hx hb hX hbl hbA hS 5 (by omega) (by omega) (by omega) dL_law_323 ?_
    refine lv_aload_n hx hb dL_law_324 rfl (lv_at hl 3 rfl) ?_
    refine zc_i (wr := [(mm, .inr (13, [.int (iz (0)), .int (iz (6)), .ref ma, .null, .ref mt, .ref ml, .int (iz (0)), .ref mw, .int (iz (0)), .ref mb, .ref mp, .int (iz (0))]))]) (vx_runSW (As := [.ref x, .long (lz (zlo (zv xs 1) (zv xs 2))), .long (lz (zlo (zv xs 3) (zv xs 4))), .int (iz (zv xs 5)), .ref ou]) (rest := []) ⟨hx, hb, hml, hown, hts⟩ (c_L_round_o l G x ro rw bo li sh tx lo nl (zlo (zv xs 1) (zv xs 2)) (zlo (zv xs 3) (zv xs 4)) (zv xs 5) ou (fun _ => 0) (by omega) (by omega) (by omega) (by omega) H.size) (vx_cwSW 5 hts gL_law_L_round rfl rfl rfl (by decide +kernel) ⟨Nat.le_of_ble_eq_true rfl, Nat.le_of_ble_eq_true rfl⟩) (zpS hKX hP hD [0, 1, 2] rfl rfl) rfl rfl hl.1 rfl (lv_room (Nat.le_of_ble_eq_true rfl)) dL_law_325 ⟨(by show _ ≤ (600002 : Nat); omega), (by show _ ≤ (7302232 : Nat); omega)⟩) hP hD hS hA [0, 1, 2] [3] rfl rfl rfl (by decide) (fun kk u_1 H locs hw hP hD hS => ?_)
    generalize u_1 = fz at hP hD hw
    have hP : va_P G.1 vwCl [(mm, .inr (13, [.int (iz (0)), .int (iz (6)), .ref ma, .null, .ref mt, .ref ml, .int (iz (0)), .ref mw, .int (iz (0)), .ref mb, .ref mp, .int (iz (0))])), (ou, zaL (G.2 0) 1 (fz))] H := hP
    have hD : va_D (zlA s) [(mm, .inr (13, [.int (iz (0)), .int (iz (6)), .ref ma, .null, .ref mt, .ref ml, .int (iz (0)), .ref mw, .int (iz (0)), .ref mb, .ref mp, .int (iz (0))])), (ou, zaL (G.2 0) 1 (fz))] := hD
    have hw : kk = 0 ∧ (fz 0) = zr6 ((zlo (zv xs 1) (zv xs 2)) * 10 ^ (zv xs 5).toNat) (zlo (zv xs 3) (zv xs 4)) := hw
    rw [show kk = 0 from hw.1]
    refine lv_istore (lv' := [(5, .int (iz (0))), (0, .ref b), (1, .ref x), (2, .ref mm), (3, .ref ou), (4, .int (iz (0)))]) hx hb dL_law_328 hl (by decide) rfl (fun ls hl => ?_)
    refine lv_aload_n hx hb dL_law_330 rfl (lv_at hl 3 rfl) ?_
    refine lv_aload_n hx hb dL_law_331 rfl (lv_at hl 1 rfl) ?_
    refine lv_iload hx hb dL_law_332 (lv_at hl 5 rfl) ?_
    refine lv_iconst (v := iz (1)) hx hb dL_law_334 rfl ?_
    refine zr_iadd hx hb dL_law_335 ?_
    refine zr_sld hx hb hX hbl hbA hS 1 (by omega) (by omega) (by omega) dL_law_336 ?_
    refine zr_i2l hx hb (x := zv xs 1) (⟨by omega, by omega⟩) dL_law_337 ?_
    refine lv_bipush (v := iz (32)) hx hb dL_law_338 rfl ?_
    refine zr_lshl32 hx hb dL_law_340 ?_
    refine lv_aload_n hx hb dL_law_341 rfl (lv_at hl 1 rfl) ?_
    refine lv_iload hx hb dL_law_342 (lv_at hl 5 rfl) ?_
    refine lv_iconst (v := iz (2)) hx hb dL_law_344 rfl ?_
    refine zr_iadd hx hb dL_law_345 ?_
    refine zr_sld hx hb hX hbl hbA hS 2 (by omega) (by omega) (by omega) dL_law_346 ?_
    refine zr_i2l hx hb (x := zv xs 2) (⟨by omega, by omega⟩) dL_law_347 ?_
    refine zr_ldc2 (z := 4294967295) hx hb hown (hts (.constantLong RL 137 (4294967295)) (by decide +kernel)) rfl dL_law_348 ?_
    refine zr_land32 hx hb dL_law_351 ?_
    refine zr_lor32 hx hb dL_law_352 ?_
    refine lv_aload_n hx hb dL_law_353 rfl (lv_at hl 1 rfl) ?_
    refine lv_iload hx hb dL_law_354 (lv_at hl 5 rfl) ?_
    refine lv_iconst (v := iz (3)) hx hb dL_law_356 rfl ?_
    refine zr_iadd hx hb dL_law_357 ?_
    refine zr_sld hx hb hX hbl hbA hS 3 (by omega) (by omega) (by omega) dL_law_358 ?_
    refine zr_i2l hx hb (x := zv xs 3) (⟨by omega, by omega⟩) dL_law_359 ?_
    refine lv_bipush (v := iz (32)) hx hb dL_law_360 rfl ?_
    refine zr_lshl32 hx hb dL_law_362 ?_
    refine lv_aload_n hx hb dL_law_363 rfl (lv_at hl 1 rfl) ?_
    refine lv_iload hx hb dL_law_364 (lv_at hl 5 rfl) ?_
    refine lv_iconst (v := iz (4)) hx hb dL_law_366 rfl ?_
    refine zr_iadd hx hb dL_law_367 ?_
    refine zr_sld hx hb hX hbl hbA hS 4 (by omega) (by omega) (by omega) dL_law_368 ?_
    refine zr_i2l hx hb (x := zv xs 4) (⟨by omega, by omega⟩) dL_law_369 ?_
    refine zr_ldc2 (z := 4294967295) hx hb hown (hts (.constantLong RL 137 (4294967295)) (by decide +kernel)) rfl dL_law_370 ?_
    refine zr_land32 hx hb dL_law_373 ?_
    refine zr_lor32 hx hb dL_law_374 ?_
    refine lv_aload_n hx hb dL_law_375 rfl (lv_at hl 1 rfl) ?_
    refine lv_iload hx hb dL_law_376 (lv_at hl 5 rfl) ?_
    refine lv_iconst (v := iz (5)) hx hb dL_law_378 rfl ?_
    refine zr_iadd hx hb dL_law_379 ?_
    refine zr_sld hx hb hX hbl hbA hS 5 (by omega) (by omega) (by omega) dL_law_380 ?_
    refine zc_l (wr := [(ou, zaL (G.2 0) 1 (fz))]) (va_runV (As := [.long (lz (zlo (zv xs 1) (zv xs 2))), .long (lz (zlo (zv xs 3) (zv xs 4))), .int (iz (zv xs 5))]) (rest := []) ⟨hx, hb, hml, hown, hts⟩ (c_X12_round_o l G mm ma mt ml mw mb mp 0 (zlo (zv xs 1) (zv xs 2)) (zlo (zv xs 3) (zv xs 4)) (zv xs 5) (by omega) (by omega) (by omega) (by omega) H.size) (cwV 3 hts gL_law_X12_round rfl rfl rfl (by decide +kernel) ⟨Nat.le_of_ble_eq_true rfl, Nat.le_of_ble_eq_true rfl⟩) (zpV hKX hP hD [0] rfl rfl 0 13 rfl rfl) rfl rfl hl.1 rfl (lv_room (Nat.le_of_ble_eq_true rfl)) dL_law_381 ⟨(by show _ ≤ (600002 : Nat); omega), (by show _ ≤ (7302232 : Nat); omega)⟩) hP hD hS hA [0] [1] rfl rfl rfl (by decide) (fun zm u_3 H locs hm hP hD hS => ?_)
    generalize u_3 = thm at hP hD hm
    have hP : va_P G.1 vwCl [(ou, zaL (G.2 0) 1 (fz)), (mm, .inr (13, [.int (iz (thm)), .int (iz (6)), .ref ma, .null, .ref mt, .ref ml, .int (iz (0)), .ref mw, .int (iz (0)), .ref mb, .ref mp, .int (iz (0))]))] H := hP
    have hD : va_D (zlA s) [(ou, zaL (G.2 0) 1 (fz)), (mm, .inr (13, [.int (iz (thm)), .int (iz (6)), .ref ma, .null, .ref mt, .ref ml, .int (iz (0)), .ref mw, .int (iz (0)), .ref mb, .ref mp, .int (iz (0))]))] := hD
    have hm : zm = zr6 ((zlo (zv xs 1) (zv xs 2)) * 10 ^ (zv xs 5).toNat) (zlo (zv xs 3) (zv xs 4)) ∧ thm = 0 := hm
    have htp := hm.2
    have hval := hw.2.trans hm.1.symm
    refine lv_lstore (lv' := [(6, .long (lz (zm))), (5, .int (iz (0))), (0, .ref b), (1, .ref x), (2, .ref mm), (3, .ref ou), (4, .int (iz (0)))]) hx hb dL_law_384 hl (by decide) rfl (fun ls hl => ?_)
    refine lv_aload_n hx hb dL_law_386 rfl (lv_at hl 4 rfl) ?_
    refine zc_i (wr := [(ou, zaL (G.2 0) 1 (fz))]) (va_runV (As := []) (rest := []) ⟨hx, hb, hml, hown, hts⟩ (c_X12_thrown_v l G mm thm (.ref ma) .null (.ref mt) (.ref ml) (.int (iz (0))) (.ref mw) (.int (iz (0))) (.ref mb) (.ref mp) (.int (iz (0))) 6  H.size) (cwV 0 hts gL_law_X12_thrown rfl rfl rfl (by decide +kernel) ⟨Nat.le_of_ble_eq_true rfl, Nat.le_of_ble_eq_true rfl⟩) (zpV hKX hP hD [1] rfl rfl 1 13 rfl rfl) rfl rfl hl.1 rfl (lv_room (Nat.le_of_ble_eq_true rfl)) dL_law_387 ⟨(by show _ ≤ (600002 : Nat); omega), (by show _ ≤ (7302232 : Nat); omega)⟩) hP hD hS hA [1] [0] rfl rfl rfl (by decide) (fun th9 u_5 H locs hth hP hD hS => ?_)
    have hP : va_P G.1 vwCl [(ou, zaL (G.2 0) 1 (fz)), (mm, .inr (13, [.int (iz (thm)), .int (iz ((6 : Int))), .ref ma, .null, .ref mt, .ref ml, .int (iz (0)), .ref mw, .int (iz (0)), .ref mb, .ref mp, .int (iz (0))]))] H := hP
    have hD : va_D (zlA s) [(ou, zaL (G.2 0) 1 (fz)), (mm, .inr (13, [.int (iz (thm)), .int (iz ((6 : Int))), .ref ma, .null, .ref mt, .ref ml, .int (iz (0)), .ref mw, .int (iz (0)), .ref mb, .ref mp, .int (iz (0))]))] := hD
    have hth : th9 = thm := hth
    rw [show th9 = 0 from hth.trans htp]
    refine lv_iload hx hb dL_law_390 (lv_at hl 1 rfl) ?_
    refine zr_icmp_eq (x := 0) (y := 0) (tgt := 397) hx hb (⟨by omega, by omega⟩) (⟨by omega, by omega⟩) dL_law_392 (by decide) (fun h_7 => ?_) (fun h_7 => ?_)
    ·
      refine lv_iload hx hb dL_law_397 (lv_at hl 1 rfl) ?_
      refine zr_if_ne (x := 0) (tgt := 413) hx hb (⟨by omega, by omega⟩) dL_law_399 (by decide) (fun h_8 => ?_) (fun h_8 => ?_)
      · exact absurd h_8 (by omega)
      ·
        refine lv_aload_n hx hb dL_law_402 rfl (lv_at hl 5 rfl) ?_
        refine lv_iconst (v := iz (0)) hx hb dL_law_403 rfl ?_
        refine zr_lald hx hb hK hP 0 0 rfl rfl (i := 0) (⟨by omega, by omega, by omega⟩) dL_law_404 ?_
        refine lv_lload hx hb dL_law_405 (lv_at hl 0 rfl) ?_
        refine zr_lcmpS (x := fz 0) (y := zm) (tgt := 413) hx hb (by first | exact hval | exact hval.symm) dL_law_407 dL_law_408 (by decide) ?_
        refine lv_goto (tgt := 3039) hx hb dL_law_413 (by decide) ?_
        exact zl_end hL8 C0 hS (lv_sub hl [2, 6] rfl) (by show _ ≤ (600002 : Nat); omega) (by show _ ≤ (7302232 : Nat); omega)
    · exact absurd h_7 (by omega)
  ·
    refine lv_aload_n hx hb dL_law_273 rfl (lv_at hl 1 rfl) ?_
    refine lv_aload_n hx hb dL_law_274 rfl (lv_at hl 0 rfl) ?_
    refine lv_iload hx hb dL_law_275 (lv_at hl 4 rfl) ?_
    refine lv_iconst (v := iz (1)) hx hb dL_law_277 rfl ?_
    refine zr_iadd hx hb dL_law_278 ?_
    refine zr_sld hx hb hX hbl hbA hS 1 (by omega) (by omega) (by omega) dL_law_279 ?_
    refine zr_i2l hx hb (x := zv xs 1) (⟨by omega, by omega⟩) dL_law_280 ?_
    refine lv_bipush (v := iz (32)) hx hb dL_law_281 rfl ?_
    refine zr_lshl32 hx hb dL_law_283 ?_
    refine lv_aload_n hx hb dL_law_284 rfl (lv_at hl 0 rfl) ?_
    refine lv_iload hx hb dL_law_285 (lv_at hl 4 rfl) ?_
    refine lv_iconst (v := iz (2)) hx hb dL_law_287 rfl ?_
    refine zr_iadd hx hb dL_law_288 ?_
    refine zr_sld hx hb hX hbl hbA hS 2 (by omega) (by omega) (by omega) dL_law_289 ?_
    refine zr_i2l hx hb (x := zv xs 2) (⟨by omega, by omega⟩) dL_law_290 ?_
    refine zr_ldc2 (z := 4294967295) hx hb hown (hts (.constantLong RL 137 (4294967295)) (by decide +kernel)) rfl dL_law_291 ?_
    refine zr_land32 hx hb dL_law_294 ?_
    refine zr_lor32 hx hb dL_law_295 ?_
    refine lv_aload_n hx hb dL_law_296 rfl (lv_at hl 0 rfl) ?_
    refine lv_iload hx hb dL_law_297 (lv_at hl 4 rfl) ?_
    refine lv_iconst (v := iz (3)) hx hb dL_law_299 rfl ?_
    refine zr_iadd hx hb dL_law_300 ?_
    refine zr_sld hx hb hX hbl hbA hS 3 (by omega) (by omega) (by omega) dL_law_301 ?_
    refine zr_i2l hx hb (x := zv xs 3) (⟨by omega, by omega⟩) dL_law_302 ?_
    refine lv_bipush (v := iz (32)) hx hb dL_law_303 rfl ?_
    refine zr_lshl32 hx hb dL_law_305 ?_
    refine lv_aload_n hx hb dL_law_306 rfl (lv_at hl 0 rfl) ?_
    refine lv_iload hx hb dL_law_307 (lv_at hl 4 rfl) ?_
    refine lv_iconst (v := iz (4)) hx hb dL_law_309 rfl ?_
    refine zr_iadd hx hb dL_law_310 ?_
    refine zr_sld hx hb hX hbl hbA hS 4 (by omega) (by omega) (by omega) dL_law_311 ?_
    refine zr_i2l hx hb (x := zv xs 4) (⟨by omega, by omega⟩) dL_law_312 ?_
    refine zr_ldc2 (z := 4294967295) hx hb hown (hts (.constantLong RL 137 (4294967295)) (by decide +kernel)) rfl dL_law_313 ?_
    refine zr_land32 hx hb dL_law_316 ?_
    refine zr_lor32 hx hb dL_law_317 ?_
    refine lv_aload_n hx hb dL_law_318 rfl (lv_at hl 0 rfl) ?_
    refine lv_iload hx hb dL_law_319 (lv_at hl 4 rfl) ?_
    refine lv_iconst (v := iz (5)) hx hb dL_law_321 rfl ?_
    refine zr_iadd hx hb dL_law_322 ?_
    refine zr_sld hx hb hX hbl hbA hS 5 (by omega) (by omega) (by omega) dL_law_323 ?_
    refine lv_aload_n hx hb dL_law_324 rfl (lv_at hl 3 rfl) ?_
    refine zc_i (wr := [(ro, .inr (5, [.int (iz (6))])), (mm, .inr (13, [.int (iz (0)), .int (iz (6)), .ref ma, .null, .ref mt, .ref ml, .int (iz (0)), .ref mw, .int (iz (0)), .ref mb, .ref mp, .int (iz (0))]))]) (vx_runSW (As := [.ref x, .long (lz (zlo (zv xs 1) (zv xs 2))), .long (lz (zlo (zv xs 3) (zv xs 4))), .int (iz (zv xs 5)), .ref ou]) (rest := []) ⟨hx, hb, hml, hown, hts⟩ (c_L_round_x l G s1 s2 s3 x ro rw bo li sh tx lo nl (zlo (zv xs 1) (zv xs 2)) (zlo (zv xs 3) (zv xs 4)) (zv xs 5) ou (fun _ => 0) hl0 (by omega) (by omega) (by omega) (by omega) H.size) (vx_cwSW 5 hts gL_law_L_round rfl rfl rfl (by decide +kernel) ⟨Nat.le_of_ble_eq_true rfl, Nat.le_of_ble_eq_true rfl⟩) (zpSe zXL_ok hEc hS hA hKX hP hD [0, 2] rfl rfl) rfl rfl hl.1 rfl (lv_room (Nat.le_of_ble_eq_true rfl)) dL_law_325 ⟨(by show _ ≤ (600002 : Nat); omega), (by show _ ≤ (7302232 : Nat); omega)⟩) hP hD hS hA [0, 2] [1, 3] rfl rfl rfl (by decide) (fun kk u_9 H locs hw hP hD hS => ?_)
    have hP : va_P G.1 vwCl [(ro, .inr (5, [.int (iz (6))])), (mm, .inr (13, [.int (iz (0)), .int (iz (6)), .ref ma, .null, .ref mt, .ref ml, .int (iz (0)), .ref mw, .int (iz (0)), .ref mb, .ref mp, .int (iz (0))])), (ou, zaL (G.2 0) 1 ((fun _ => 0)))] H := hP
    have hD : va_D (zlA s) [(ro, .inr (5, [.int (iz (6))])), (mm, .inr (13, [.int (iz (0)), .int (iz (6)), .ref ma, .null, .ref mt, .ref ml, .int (iz (0)), .ref mw, .int (iz (0)), .ref mb, .ref mp, .int (iz (0))])), (ou, zaL (G.2 0) 1 ((fun _ => 0)))] := hD
    have hw : kk = 1 := hw
    rw [show kk = 1 from hw]
    refine lv_istore (lv' := [(5, .int (iz (1))), (0, .ref b), (1, .ref x), (2, .ref mm), (3, .ref ou), (4, .int (iz (0)))]) hx hb dL_law_328 hl (by decide) rfl (fun ls hl => ?_)
    refine lv_aload_n hx hb dL_law_330 rfl (lv_at hl 3 rfl) ?_
    refine lv_aload_n hx hb dL_law_331 rfl (lv_at hl 1 rfl) ?_
    refine lv_iload hx hb dL_law_332 (lv_at hl 5 rfl) ?_
    refine lv_iconst (v := iz (1)) hx hb dL_law_334 rfl ?_
    refine zr_iadd hx hb dL_law_335 ?_
    refine zr_sld hx hb hX hbl hbA hS 1 (by omega) (by omega) (by omega) dL_law_336 ?_
    refine zr_i2l hx hb (x := zv xs 1) (⟨by omega, by omega⟩) dL_law_337 ?_
    refine lv_bipush (v := iz (32)) hx hb dL_law_338 rfl ?_
    refine zr_lshl32 hx hb dL_law_340 ?_
    refine lv_aload_n hx hb dL_law_341 rfl (lv_at hl 1 rfl) ?_
    refine lv_iload hx hb dL_law_342 (lv_at hl 5 rfl) ?_
    refine lv_iconst (v := iz (2)) hx hb dL_law_344 rfl ?_
    refine zr_iadd hx hb dL_law_345 ?_
    refine zr_sld hx hb hX hbl hbA hS 2 (by omega) (by omega) (by omega) dL_law_346 ?_
    refine zr_i2l hx hb (x := zv xs 2) (⟨by omega, by omega⟩) dL_law_347 ?_
    refine zr_ldc2 (z := 4294967295) hx hb hown (hts (.constantLong RL 137 (4294967295)) (by decide +kernel)) rfl dL_law_348 ?_
    refine zr_land32 hx hb dL_law_351 ?_
    refine zr_lor32 hx hb dL_law_352 ?_
    refine lv_aload_n hx hb dL_law_353 rfl (lv_at hl 1 rfl) ?_
    refine lv_iload hx hb dL_law_354 (lv_at hl 5 rfl) ?_
    refine lv_iconst (v := iz (3)) hx hb dL_law_356 rfl ?_
    refine zr_iadd hx hb dL_law_357 ?_
    refine zr_sld hx hb hX hbl hbA hS 3 (by omega) (by omega) (by omega) dL_law_358 ?_
    refine zr_i2l hx hb (x := zv xs 3) (⟨by omega, by omega⟩) dL_law_359 ?_
    refine lv_bipush (v := iz (32)) hx hb dL_law_360 rfl ?_
    refine zr_lshl32 hx hb dL_law_362 ?_
    refine lv_aload_n hx hb dL_law_363 rfl (lv_at hl 1 rfl) ?_
    refine lv_iload hx hb dL_law_364 (lv_at hl 5 rfl) ?_
    refine lv_iconst (v := iz (4)) hx hb dL_law_366 rfl ?_
    refine zr_iadd hx hb dL_law_367 ?_
    refine zr_sld hx hb hX hbl hbA hS 4 (by omega) (by omega) (by omega) dL_law_368 ?_
    refine zr_i2l hx hb (x := zv xs 4) (⟨by omega, by omega⟩) dL_law_369 ?_
    refine zr_ldc2 (z := 4294967295) hx hb hown (hts (.constantLong RL 137 (4294967295)) (by decide +kernel)) rfl dL_law_370 ?_
    refine zr_land32 hx hb dL_law_373 ?_
    refine zr_lor32 hx hb dL_law_374 ?_
    refine lv_aload_n hx hb dL_law_375 rfl (lv_at hl 1 rfl) ?_
    refine lv_iload hx hb dL_law_376 (lv_at hl 5 rfl) ?_
    refine lv_iconst (v := iz (5)) hx hb dL_law_378 rfl ?_
    refine zr_iadd hx hb dL_law_379 ?_
    refine zr_sld hx hb hX hbl hbA hS 5 (by omega) (by omega) (by omega) dL_law_380 ?_
    refine zc_l (wr := [(ro, .inr (5, [.int (iz (6))])), (ou, zaL (G.2 0) 1 ((fun _ => 0)))]) (va_runV (As := [.long (lz (zlo (zv xs 1) (zv xs 2))), .long (lz (zlo (zv xs 3) (zv xs 4))), .int (iz (zv xs 5))]) (rest := []) ⟨hx, hb, hml, hown, hts⟩ (c_X12_round_x l G mm ma mt ml mw mb mp 0 (zlo (zv xs 1) (zv xs 2)) (zlo (zv xs 3) (zv xs 4)) (zv xs 5) (by omega) (by omega) (by omega) (by omega) H.size) (cwV 3 hts gL_law_X12_round rfl rfl rfl (by decide +kernel) ⟨Nat.le_of_ble_eq_true rfl, Nat.le_of_ble_eq_true rfl⟩) (zpV hKX hP hD [1] rfl rfl 1 13 rfl rfl) rfl rfl hl.1 rfl (lv_room (Nat.le_of_ble_eq_true rfl)) dL_law_381 ⟨(by show _ ≤ (600002 : Nat); omega), (by show _ ≤ (7302232 : Nat); omega)⟩) hP hD hS hA [1] [0, 2] rfl rfl rfl (by decide) (fun zm u_11 H locs hm hP hD hS => ?_)
    generalize u_11 = thm at hP hD hm
    have hP : va_P G.1 vwCl [(ro, .inr (5, [.int (iz (6))])), (ou, zaL (G.2 0) 1 ((fun _ => 0))), (mm, .inr (13, [.int (iz (thm)), .int (iz (6)), .ref ma, .null, .ref mt, .ref ml, .int (iz (0)), .ref mw, .int (iz (0)), .ref mb, .ref mp, .int (iz (0))]))] H := hP
    have hD : va_D (zlA s) [(ro, .inr (5, [.int (iz (6))])), (ou, zaL (G.2 0) 1 ((fun _ => 0))), (mm, .inr (13, [.int (iz (thm)), .int (iz (6)), .ref ma, .null, .ref mt, .ref ml, .int (iz (0)), .ref mw, .int (iz (0)), .ref mb, .ref mp, .int (iz (0))]))] := hD
    have hm : zm = 0 ∧ thm = 1 := hm
    have htp := hm.2
    refine lv_lstore (lv' := [(6, .long (lz (zm))), (5, .int (iz (1))), (0, .ref b), (1, .ref x), (2, .ref mm), (3, .ref ou), (4, .int (iz (0)))]) hx hb dL_law_384 hl (by decide) rfl (fun ls hl => ?_)
    refine lv_aload_n hx hb dL_law_386 rfl (lv_at hl 4 rfl) ?_
    refine zc_i (wr := [(ro, .inr (5, [.int (iz (6))])), (ou, zaL (G.2 0) 1 ((fun _ => 0)))]) (va_runV (As := []) (rest := []) ⟨hx, hb, hml, hown, hts⟩ (c_X12_thrown_v l G mm thm (.ref ma) .null (.ref mt) (.ref ml) (.int (iz (0))) (.ref mw) (.int (iz (0))) (.ref mb) (.ref mp) (.int (iz (0))) 6  H.size) (cwV 0 hts gL_law_X12_thrown rfl rfl rfl (by decide +kernel) ⟨Nat.le_of_ble_eq_true rfl, Nat.le_of_ble_eq_true rfl⟩) (zpV hKX hP hD [2] rfl rfl 2 13 rfl rfl) rfl rfl hl.1 rfl (lv_room (Nat.le_of_ble_eq_true rfl)) dL_law_387 ⟨(by show _ ≤ (600002 : Nat); omega), (by show _ ≤ (7302232 : Nat); omega)⟩) hP hD hS hA [2] [0, 1] rfl rfl rfl (by decide) (fun th9 u_13 H locs hth hP hD hS => ?_)
    have hP : va_P G.1 vwCl [(ro, .inr (5, [.int (iz (6))])), (ou, zaL (G.2 0) 1 ((fun _ => 0))), (mm, .inr (13, [.int (iz (thm)), .int (iz ((6 : Int))), .ref ma, .null, .ref mt, .ref ml, .int (iz (0)), .ref mw, .int (iz (0)), .ref mb, .ref mp, .int (iz (0))]))] H := hP
    have hD : va_D (zlA s) [(ro, .inr (5, [.int (iz (6))])), (ou, zaL (G.2 0) 1 ((fun _ => 0))), (mm, .inr (13, [.int (iz (thm)), .int (iz ((6 : Int))), .ref ma, .null, .ref mt, .ref ml, .int (iz (0)), .ref mw, .int (iz (0)), .ref mb, .ref mp, .int (iz (0))]))] := hD
    have hth : th9 = thm := hth
    rw [show th9 = 1 from hth.trans htp]
    refine lv_iload hx hb dL_law_390 (lv_at hl 1 rfl) ?_
    refine zr_icmp_eq (x := 1) (y := 1) (tgt := 397) hx hb (⟨by omega, by omega⟩) (⟨by omega, by omega⟩) dL_law_392 (by decide) (fun h_15 => ?_) (fun h_15 => ?_)
    ·
      refine lv_iload hx hb dL_law_397 (lv_at hl 1 rfl) ?_
      refine zr_if_ne (x := 1) (tgt := 413) hx hb (⟨by omega, by omega⟩) dL_law_399 (by decide) (fun h_16 => ?_) (fun h_16 => ?_)
      ·
        refine lv_goto (tgt := 3039) hx hb dL_law_413 (by decide) ?_
        exact zl_end hL8 C0 hS (lv_sub hl [2, 6] rfl) (by show _ ≤ (600002 : Nat); omega) (by show _ ≤ (7302232 : Nat); omega)
      · exact absurd h_16 (by omega)
    · exact absurd h_15 (by omega)

set_option maxHeartbeats 4000000 in
set_option maxRecDepth 100000 in
theorem zl_3 {p : Program} {e : Env} {s : State} {m : MethodId} {below : List Frame} {meth : Method} {c : Code} {l : Launch} (hl0 : l.stackTraces = false) {b L : Nat} {xs : Nat → Int32} (hL8 : L = 8) (C0 : lw_At p s m meth c b L xs) {G : zG} {nA nB nE s1 s2 s3 : Nat} (hKX : zK G s) (hEm : zE G nA nB nE (zlA s) s) (hEc : zXL s1 s2 s3 (zlA s) s) (x : Nat) (ro : Nat) (rw : Nat) (bo : Nat) (li : Nat) (sh : Nat) (tx : Nat) (lo : Nat) (nl : Nat) (am : Nat) (q : Nat) (bq : Nat) (ou : Nat) (mm : Nat) (ma : Nat) (mt : Nat) (ml : Nat) (mw : Nat) (mb : Nat) (mp : Nat) {H : Heap} {locs : List Loc} {ls : Array Slot} (hP : va_P G.1 vwCl [(x, .inr (10, [.ref ro, .ref rw, .ref bo, .ref li, .ref sh, .ref tx, .ref lo, .ref nl])), (rw, .inr (6, [.ref am, .ref q, .ref bq])), (am, zaL (G.2 0) 41 (fun _ => 0)), (ou, zaL (G.2 0) 1 (fun _ => 0)), (mm, .inr (13, [.int (iz (0)), .int (iz (6)), .ref ma, .null, .ref mt, .ref ml, .int (iz (0)), .ref mw, .int (iz (0)), .ref mb, .ref mp, .int (iz (0))])), (ma, zaL (G.2 0) 41 (fun _ => 0))] H) (hD : va_D (zlA s) [(x, .inr (10, [.ref ro, .ref rw, .ref bo, .ref li, .ref sh, .ref tx, .ref lo, .ref nl])), (rw, .inr (6, [.ref am, .ref q, .ref bq])), (am, zaL (G.2 0) 41 (fun _ => 0)), (ou, zaL (G.2 0) 1 (fun _ => 0)), (mm, .inr (13, [.int (iz (0)), .int (iz (6)), .ref ma, .null, .ref mt, .ref ml, .int (iz (0)), .ref mw, .int (iz (0)), .ref mb, .ref mp, .int (iz (0))])), (ma, zaL (G.2 0) 41 (fun _ => 0))]) (hS : va_S (zlA s) s.heap H locs) (hl : lv_has ls 9 [(0, .ref b), (1, .ref x), (2, .ref mm), (3, .ref ou), (4, .int (iz (0)))]) : W p l e room_1 s m #[Value.ref b] below meth c H locs 200 4000 (lw_Z below #[Value.ref b] s) (F0 m 416 ls []) := by
  obtain ⟨hx, hb, hr, hml, hown, hts, hX, hbl, hlocks, hgv⟩ := id C0
  have hbA : ¬ zlA s b := Nat.not_le.mpr hbl
  have hK := hKX.1
  have hts : ∀ w ∈ wsL_law, w.before #[Value.ref b] s = true := fun w h => hts w (wsL_law_in w h)
  have hown : s.vm.findClass RL = some m.cls := hown
  have hA : ∀ q : Nat, s.heap.size ≤ q → zlA s q := fun _ h => h
  have hE := hEm
  have hv1 := zv_rng xs 1
  have hv2 := zv_rng xs 2
  have hv3 := zv_rng xs 3
  have hv4 := zv_rng xs 4
  have hv5 := zv_rng xs 5
  have hv6 := zv_rng xs 6
  have hv7 := zv_rng xs 7
  have hw2 := zlo_rng (zv xs 2) (zv xs 3)
  by_cases hco0 : 0 ≤ (zv xs 1) ∧ (zv xs 1) ≤ 40 ∧ -1000000000 ≤ (zlo (zv xs 2) (zv xs 3)) ∧ (zlo (zv xs 2) (zv xs 3)) ≤ 1000000000
  ·
    refine lv_aload_n hx hb dL_law_416 rfl (lv_at hl 1 rfl) ?_
    refine lv_aload_n hx hb dL_law_417 rfl (lv_at hl 0 rfl) ?_
    refine lv_iload hx hb dL_law_418 (lv_at hl 4 rfl) ?_
    refine lv_iconst (v := iz (1)) hx hb dL_law_420 rfl ?_
    refine zr_iadd hx hb dL_law_421 ?_
    refine zr_sld hx hb hX hbl hbA hS 1 (by omega) (by omega) (by omega) dL_law_422 ?_
    refine lv_aload_n hx hb dL_law_423 rfl (lv_at hl 0 rfl) ?_
    refine lv_iload hx hb dL_law_424 (lv_at hl 4 rfl) ?_
    refine lv_iconst (v := iz (2)) hx hb dL_law_426 rfl ?_
    refine zr_iadd hx hb dL_law_427 ?_
    refine zr_sld hx hb hX hbl hbA hS 2 (by omega) (by omega) (by omega) dL_law_428 ?_
    refine zr_i2l hx hb (x := zv xs 2) (⟨by omega, by omega⟩) dL_law_429 ?_
    refine lv_bipush (v := iz (32)) hx hb dL_law_430 rfl ?_
    refine zr_lshl32 hx hb dL_law_432 ?_
    refine lv_aload_n hx hb dL_law_433 rfl (lv_at hl 0 rfl) ?_
    refine lv_iload hx hb dL_law_434 (lv_at hl 4 rfl) ?_
    refine lv_iconst (v := iz (3)) hx hb dL_law_436 rfl ?_
    refine zr_iadd hx hb dL_law_437 ?_
    refine zr_sld hx hb hX hbl hbA hS 3 (by omega) (by omega) (by omega) dL_law_438 ?_
    refine zr_i2l hx hb (x := zv xs 3) (⟨by omega, by omega⟩) dL_law_439 ?_
    refine zr_ldc2 (z := 4294967295) hx hb hown (hts (.constantLong RL 137 (4294967295)) (by decide +kernel)) rfl dL_law_440 ?_
    refine zr_land32 hx hb dL_law_443 ?_
    refine zr_lor32 hx hb dL_law_444 ?_
    refine lv_aload_n hx hb dL_law_445 rfl (lv_at hl 3 rfl) ?_
    refine zc_i (wr := [(mm, .inr (13, [.int (iz (0)), .int (iz (6)), .ref ma, .null, .ref mt, .ref ml, .int (iz (0)), .ref mw, .int (iz (0)), .ref mb, .ref mp, .int (iz (0))])), (ma, zaL (G.2 0) 41 (fun _ => 0))]) (vx_runSW (As := [.ref x, .int (iz (zv xs 1)), .long (lz (zlo (zv xs 2) (zv xs 3))), .ref ou]) (rest := []) ⟨hx, hb, hml, hown, hts⟩ (c_L_pay_o l G x ro rw bo li sh tx lo nl am q bq (zv xs 1) (zlo (zv xs 2) (zv xs 3)) ou (fun _ => 0) (by omega) (by omega) (by omega) H.size) (vx_cwSW 4 hts gL_law_L_pay rfl rfl rfl (by decide +kernel) ⟨Nat.le_of_ble_eq_true rfl, Nat.le_of_ble_eq_true rfl⟩) (zpS hKX hP hD [0, 1, 2, 3] rfl rfl) rfl rfl hl.1 rfl (lv_room (Nat.le_of_ble_eq_true rfl)) dL_law_446 ⟨(by show _ ≤ (600002 : Nat); omega), (by show _ ≤ (7302232 : Nat); omega)⟩) hP hD hS hA [0, 1, 2, 3] [4, 5] rfl rfl rfl (by decide) (fun kk u_1 H locs hw hP hD hS => ?_)
    generalize u_1 = fz at hP hD hw
    have hP : va_P G.1 vwCl [(mm, .inr (13, [.int (iz (0)), .int (iz (6)), .ref ma, .null, .ref mt, .ref ml, .int (iz (0)), .ref mw, .int (iz (0)), .ref mb, .ref mp, .int (iz (0))])), (ma, zaL (G.2 0) 41 (fun _ => 0)), (ou, zaL (G.2 0) 1 (fz))] H := hP
    have hD : va_D (zlA s) [(mm, .inr (13, [.int (iz (0)), .int (iz (6)), .ref ma, .null, .ref mt, .ref ml, .int (iz (0)), .ref mw, .int (iz (0)), .ref mb, .ref mp, .int (iz (0))])), (ma, zaL (G.2 0) 41 (fun _ => 0)), (ou, zaL (G.2 0) 1 (fz))] := hD
    have hw : kk = 0 ∧ (fz 0) = (zlo (zv xs 2) (zv xs 3)) := hw
    rw [show kk = 0 from hw.1]
    refine lv_istore (lv' := [(5, .int (iz (0))), (0, .ref b), (1, .ref x), (2, .ref mm), (3, .ref ou), (4, .int (iz (0)))]) hx hb dL_law_449 hl (by decide) rfl (fun ls hl => ?_)
    refine lv_aload_n hx hb dL_law_451 rfl (lv_at hl 3 rfl) ?_
    refine lv_aload_n hx hb dL_law_452 rfl (lv_at hl 1 rfl) ?_
    refine lv_iload hx hb dL_law_453 (lv_at hl 5 rfl) ?_
    refine lv_iconst (v := iz (1)) hx hb dL_law_455 rfl ?_
    refine zr_iadd hx hb dL_law_456 ?_
    refine zr_sld hx hb hX hbl hbA hS 1 (by omega) (by omega) (by omega) dL_law_457 ?_
    refine lv_aload_n hx hb dL_law_458 rfl (lv_at hl 1 rfl) ?_
    refine lv_iload hx hb dL_law_459 (lv_at hl 5 rfl) ?_
    refine lv_iconst (v := iz (2)) hx hb dL_law_461 rfl ?_
    refine zr_iadd hx hb dL_law_462 ?_
    refine zr_sld hx hb hX hbl hbA hS 2 (by omega) (by omega) (by omega) dL_law_463 ?_
    refine zr_i2l hx hb (x := zv xs 2) (⟨by omega, by omega⟩) dL_law_464 ?_
    refine lv_bipush (v := iz (32)) hx hb dL_law_465 rfl ?_
    refine zr_lshl32 hx hb dL_law_467 ?_
    refine lv_aload_n hx hb dL_law_468 rfl (lv_at hl 1 rfl) ?_
    refine lv_iload hx hb dL_law_469 (lv_at hl 5 rfl) ?_
    refine lv_iconst (v := iz (3)) hx hb dL_law_471 rfl ?_
    refine zr_iadd hx hb dL_law_472 ?_
    refine zr_sld hx hb hX hbl hbA hS 3 (by omega) (by omega) (by omega) dL_law_473 ?_
    refine zr_i2l hx hb (x := zv xs 3) (⟨by omega, by omega⟩) dL_law_474 ?_
    refine zr_ldc2 (z := 4294967295) hx hb hown (hts (.constantLong RL 137 (4294967295)) (by decide +kernel)) rfl dL_law_475 ?_
    refine zr_land32 hx hb dL_law_478 ?_
    refine zr_lor32 hx hb dL_law_479 ?_
    refine zc_l (wr := [(ou, zaL (G.2 0) 1 (fz))]) (va_runV (As := [.int (iz (zv xs 1)), .long (lz (zlo (zv xs 2) (zv xs 3)))]) (rest := []) ⟨hx, hb, hml, hown, hts⟩ (c_X12_pay_o l G mm ma mt ml mw mb mp 0 (zv xs 1) (zlo (zv xs 2) (zv xs 3)) (by omega) (by omega) (by omega) H.size) (cwV 2 hts gL_law_X12_pay rfl rfl rfl (by decide +kernel) ⟨Nat.le_of_ble_eq_true rfl, Nat.le_of_ble_eq_true rfl⟩) (zpV hKX hP hD [0, 1] rfl rfl 0 13 rfl rfl) rfl rfl hl.1 rfl (lv_room (Nat.le_of_ble_eq_true rfl)) dL_law_480 ⟨(by show _ ≤ (600002 : Nat); omega), (by show _ ≤ (7302232 : Nat); omega)⟩) hP hD hS hA [0, 1] [2] rfl rfl rfl (by decide) (fun zm u_3 H locs hm hP hD hS => ?_)
    generalize u_3 = thm at hP hD hm
    have hP : va_P G.1 vwCl [(ou, zaL (G.2 0) 1 (fz)), (mm, .inr (13, [.int (iz (thm)), .int (iz (6)), .ref ma, .null, .ref mt, .ref ml, .int (iz (0)), .ref mw, .int (iz (0)), .ref mb, .ref mp, .int (iz (0))]))] H := hP
    have hD : va_D (zlA s) [(ou, zaL (G.2 0) 1 (fz)), (mm, .inr (13, [.int (iz (thm)), .int (iz (6)), .ref ma, .null, .ref mt, .ref ml, .int (iz (0)), .ref mw, .int (iz (0)), .ref mb, .ref mp, .int (iz (0))]))] := hD
    have hm : zm = (zlo (zv xs 2) (zv xs 3)) ∧ thm = 0 := hm
    have htp := hm.2
    have hval := hw.2.trans hm.1.symm
    refine lv_lstore (lv' := [(6, .long (lz (zm))), (5, .int (iz (0))), (0, .ref b), (1, .ref x), (2, .ref mm), (3, .ref ou), (4, .int (iz (0)))]) hx hb dL_law_483 hl (by decide) rfl (fun ls hl => ?_)
    refine lv_aload_n hx hb dL_law_485 rfl (lv_at hl 4 rfl) ?_
    refine zc_i (wr := [(ou, zaL (G.2 0) 1 (fz))]) (va_runV (As := []) (rest := []) ⟨hx, hb, hml, hown, hts⟩ (c_X12_thrown_v l G mm thm (.ref ma) .null (.ref mt) (.ref ml) (.int (iz (0))) (.ref mw) (.int (iz (0))) (.ref mb) (.ref mp) (.int (iz (0))) 6  H.size) (cwV 0 hts gL_law_X12_thrown rfl rfl rfl (by decide +kernel) ⟨Nat.le_of_ble_eq_true rfl, Nat.le_of_ble_eq_true rfl⟩) (zpV hKX hP hD [1] rfl rfl 1 13 rfl rfl) rfl rfl hl.1 rfl (lv_room (Nat.le_of_ble_eq_true rfl)) dL_law_486 ⟨(by show _ ≤ (600002 : Nat); omega), (by show _ ≤ (7302232 : Nat); omega)⟩) hP hD hS hA [1] [0] rfl rfl rfl (by decide) (fun th9 u_5 H locs hth hP hD hS => ?_)
    have hP : va_P G.1 vwCl [(ou, zaL (G.2 0) 1 (fz)), (mm, .inr (13, [.int (iz (thm)), .int (iz ((6 : Int))), .ref ma, .null, .ref mt, .ref ml, .int (iz (0)), .ref mw, .int (iz (0)), .ref mb, .ref mp, .int (iz (0))]))] H := hP
    have hD : va_D (zlA s) [(ou, zaL (G.2 0) 1 (fz)), (mm, .inr (13, [.int (iz (thm)), .int (iz ((6 : Int))), .ref ma, .null, .ref mt, .ref ml, .int (iz (0)), .ref mw, .int (iz (0)), .ref mb, .ref mp, .int (iz (0))]))] := hD
    have hth : th9 = thm := hth
    rw [show th9 = 0 from hth.trans htp]
    refine lv_iload hx hb dL_law_489 (lv_at hl 1 rfl) ?_
    refine zr_icmp_eq (x := 0) (y := 0) (tgt := 496) hx hb (⟨by omega, by omega⟩) (⟨by omega, by omega⟩) dL_law_491 (by decide) (fun h_7 => ?_) (fun h_7 => ?_)
    ·
      refine lv_iload hx hb dL_law_496 (lv_at hl 1 rfl) ?_
      refine zr_if_ne (x := 0) (tgt := 512) hx hb (⟨by omega, by omega⟩) dL_law_498 (by decide) (fun h_8 => ?_) (fun h_8 => ?_)
      · exact absurd h_8 (by omega)
      ·
        refine lv_aload_n hx hb dL_law_501 rfl (lv_at hl 5 rfl) ?_
        refine lv_iconst (v := iz (0)) hx hb dL_law_502 rfl ?_
        refine zr_lald hx hb hK hP 0 0 rfl rfl (i := 0) (⟨by omega, by omega, by omega⟩) dL_law_503 ?_
        refine lv_lload hx hb dL_law_504 (lv_at hl 0 rfl) ?_
        refine zr_lcmpS (x := fz 0) (y := zm) (tgt := 512) hx hb (by first | exact hval | exact hval.symm) dL_law_506 dL_law_507 (by decide) ?_
        refine lv_goto (tgt := 3039) hx hb dL_law_512 (by decide) ?_
        exact zl_end hL8 C0 hS (lv_sub hl [2, 6] rfl) (by show _ ≤ (600002 : Nat); omega) (by show _ ≤ (7302232 : Nat); omega)
    · exact absurd h_7 (by omega)
  ·
    refine lv_aload_n hx hb dL_law_416 rfl (lv_at hl 1 rfl) ?_
    refine lv_aload_n hx hb dL_law_417 rfl (lv_at hl 0 rfl) ?_
    refine lv_iload hx hb dL_law_418 (lv_at hl 4 rfl) ?_
    refine lv_iconst (v := iz (1)) hx hb dL_law_420 rfl ?_
    refine zr_iadd hx hb dL_law_421 ?_
    refine zr_sld hx hb hX hbl hbA hS 1 (by omega) (by omega) (by omega) dL_law_422 ?_
    refine lv_aload_n hx hb dL_law_423 rfl (lv_at hl 0 rfl) ?_
    refine lv_iload hx hb dL_law_424 (lv_at hl 4 rfl) ?_
    refine lv_iconst (v := iz (2)) hx hb dL_law_426 rfl ?_
    refine zr_iadd hx hb dL_law_427 ?_
    refine zr_sld hx hb hX hbl hbA hS 2 (by omega) (by omega) (by omega) dL_law_428 ?_
    refine zr_i2l hx hb (x := zv xs 2) (⟨by omega, by omega⟩) dL_law_429 ?_
    refine lv_bipush (v := iz (32)) hx hb dL_law_430 rfl ?_
    refine zr_lshl32 hx hb dL_law_432 ?_
    refine lv_aload_n hx hb dL_law_433 rfl (lv_at hl 0 rfl) ?_
    refine lv_iload hx hb dL_law_434 (lv_at hl 4 rfl) ?_
    refine lv_iconst (v := iz (3)) hx hb dL_law_436 rfl ?_
    refine zr_iadd hx hb dL_law_437 ?_
    refine zr_sld hx hb hX hbl hbA hS 3 (by omega) (by omega) (by omega) dL_law_438 ?_
    refine zr_i2l hx hb (x := zv xs 3) (⟨by omega, by omega⟩) dL_law_439 ?_
    refine zr_ldc2 (z := 4294967295) hx hb hown (hts (.constantLong RL 137 (4294967295)) (by decide +kernel)) rfl dL_law_440 ?_
    refine zr_land32 hx hb dL_law_443 ?_
    refine zr_lor32 hx hb dL_law_444 ?_
    refine lv_aload_n hx hb dL_law_445 rfl (lv_at hl 3 rfl) ?_
    refine zc_i (wr := [(rw, .inr (6, [.ref am, .ref q, .ref bq])), (am, zaL (G.2 0) 41 (fun _ => 0)), (mm, .inr (13, [.int (iz (0)), .int (iz (6)), .ref ma, .null, .ref mt, .ref ml, .int (iz (0)), .ref mw, .int (iz (0)), .ref mb, .ref mp, .int (iz (0))])), (ma, zaL (G.2 0) 41 (fun _ => 0))]) (vx_runSW (As := [.ref x, .int (iz (zv xs 1)), .long (lz (zlo (zv xs 2) (zv xs 3))), .ref ou]) (rest := []) ⟨hx, hb, hml, hown, hts⟩ (c_L_pay_x l G s1 s2 s3 x ro rw bo li sh tx lo nl (zv xs 1) (zlo (zv xs 2) (zv xs 3)) ou (fun _ => 0) hl0 (by omega) (by omega) (by omega) H.size) (vx_cwSW 4 hts gL_law_L_pay rfl rfl rfl (by decide +kernel) ⟨Nat.le_of_ble_eq_true rfl, Nat.le_of_ble_eq_true rfl⟩) (zpSe zXL_ok hEc hS hA hKX hP hD [0, 3] rfl rfl) rfl rfl hl.1 rfl (lv_room (Nat.le_of_ble_eq_true rfl)) dL_law_446 ⟨(by show _ ≤ (600002 : Nat); omega), (by show _ ≤ (7302232 : Nat); omega)⟩) hP hD hS hA [0, 3] [1, 2, 4, 5] rfl rfl rfl (by decide) (fun kk u_9 H locs hw hP hD hS => ?_)
    have hP : va_P G.1 vwCl [(rw, .inr (6, [.ref am, .ref q, .ref bq])), (am, zaL (G.2 0) 41 (fun _ => 0)), (mm, .inr (13, [.int (iz (0)), .int (iz (6)), .ref ma, .null, .ref mt, .ref ml, .int (iz (0)), .ref mw, .int (iz (0)), .ref mb, .ref mp, .int (iz (0))])), (ma, zaL (G.2 0) 41 (fun _ => 0)), (ou, zaL (G.2 0) 1 ((fun _ => 0)))] H := hP
    have hD : va_D (zlA s) [(rw, .inr (6, [.ref am, .ref q, .ref bq])), (am, zaL (G.2 0) 41 (fun _ => 0)), (mm, .inr (13, [.int (iz (0)), .int (iz (6)), .ref ma, .null, .ref mt, .ref ml, .int (iz (0)), .ref mw, .int (iz (0)), .ref mb, .ref mp, .int (iz (0))])), (ma, zaL (G.2 0) 41 (fun _ => 0)), (ou, zaL (G.2 0) 1 ((fun _ => 0)))] := hD
    have hw : kk = 1 := hw
    rw [show kk = 1 from hw]
    refine lv_istore (lv' := [(5, .int (iz (1))), (0, .ref b), (1, .ref x), (2, .ref mm), (3, .ref ou), (4, .int (iz (0)))]) hx hb dL_law_449 hl (by decide) rfl (fun ls hl => ?_)
    refine lv_aload_n hx hb dL_law_451 rfl (lv_at hl 3 rfl) ?_
    refine lv_aload_n hx hb dL_law_452 rfl (lv_at hl 1 rfl) ?_
    refine lv_iload hx hb dL_law_453 (lv_at hl 5 rfl) ?_
    refine lv_iconst (v := iz (1)) hx hb dL_law_455 rfl ?_
    refine zr_iadd hx hb dL_law_456 ?_
    refine zr_sld hx hb hX hbl hbA hS 1 (by omega) (by omega) (by omega) dL_law_457 ?_
    refine lv_aload_n hx hb dL_law_458 rfl (lv_at hl 1 rfl) ?_
    refine lv_iload hx hb dL_law_459 (lv_at hl 5 rfl) ?_
    refine lv_iconst (v := iz (2)) hx hb dL_law_461 rfl ?_
    refine zr_iadd hx hb dL_law_462 ?_
    refine zr_sld hx hb hX hbl hbA hS 2 (by omega) (by omega) (by omega) dL_law_463 ?_
    refine zr_i2l hx hb (x := zv xs 2) (⟨by omega, by omega⟩) dL_law_464 ?_
    refine lv_bipush (v := iz (32)) hx hb dL_law_465 rfl ?_
    refine zr_lshl32 hx hb dL_law_467 ?_
    refine lv_aload_n hx hb dL_law_468 rfl (lv_at hl 1 rfl) ?_
    refine lv_iload hx hb dL_law_469 (lv_at hl 5 rfl) ?_
    refine lv_iconst (v := iz (3)) hx hb dL_law_471 rfl ?_
    refine zr_iadd hx hb dL_law_472 ?_
    refine zr_sld hx hb hX hbl hbA hS 3 (by omega) (by omega) (by omega) dL_law_473 ?_
    refine zr_i2l hx hb (x := zv xs 3) (⟨by omega, by omega⟩) dL_law_474 ?_
    refine zr_ldc2 (z := 4294967295) hx hb hown (hts (.constantLong RL 137 (4294967295)) (by decide +kernel)) rfl dL_law_475 ?_
    refine zr_land32 hx hb dL_law_478 ?_
    refine zr_lor32 hx hb dL_law_479 ?_
    refine zc_l (wr := [(rw, .inr (6, [.ref am, .ref q, .ref bq])), (am, zaL (G.2 0) 41 (fun _ => 0)), (ou, zaL (G.2 0) 1 ((fun _ => 0)))]) (va_runV (As := [.int (iz (zv xs 1)), .long (lz (zlo (zv xs 2) (zv xs 3)))]) (rest := []) ⟨hx, hb, hml, hown, hts⟩ (c_X12_pay_x l G mm ma mt ml mw mb mp 0 (zv xs 1) (zlo (zv xs 2) (zv xs 3)) (by omega) (by omega) (by omega) H.size) (cwV 2 hts gL_law_X12_pay rfl rfl rfl (by decide +kernel) ⟨Nat.le_of_ble_eq_true rfl, Nat.le_of_ble_eq_true rfl⟩) (zpV hKX hP hD [2, 3] rfl rfl 2 13 rfl rfl) rfl rfl hl.1 rfl (lv_room (Nat.le_of_ble_eq_true rfl)) dL_law_480 ⟨(by show _ ≤ (600002 : Nat); omega), (by show _ ≤ (7302232 : Nat); omega)⟩) hP hD hS hA [2, 3] [0, 1, 4] rfl rfl rfl (by decide) (fun zm u_11 H locs hm hP hD hS => ?_)
    generalize u_11 = thm at hP hD hm
    have hP : va_P G.1 vwCl [(rw, .inr (6, [.ref am, .ref q, .ref bq])), (am, zaL (G.2 0) 41 (fun _ => 0)), (ou, zaL (G.2 0) 1 ((fun _ => 0))), (mm, .inr (13, [.int (iz (thm)), .int (iz (6)), .ref ma, .null, .ref mt, .ref ml, .int (iz (0)), .ref mw, .int (iz (0)), .ref mb, .ref mp, .int (iz (0))]))] H := hP
    have hD : va_D (zlA s) [(rw, .inr (6, [.ref am, .ref q, .ref bq])), (am, zaL (G.2 0) 41 (fun _ => 0)), (ou, zaL (G.2 0) 1 ((fun _ => 0))), (mm, .inr (13, [.int (iz (thm)), .int (iz (6)), .ref ma, .null, .ref mt, .ref ml, .int (iz (0)), .ref mw, .int (iz (0)), .ref mb, .ref mp, .int (iz (0))]))] := hD
    have hm : zm = 0 ∧ thm = 1 := hm
    have htp := hm.2
    refine lv_lstore (lv' := [(6, .long (lz (zm))), (5, .int (iz (1))), (0, .ref b), (1, .ref x), (2, .ref mm), (3, .ref ou), (4, .int (iz (0)))]) hx hb dL_law_483 hl (by decide) rfl (fun ls hl => ?_)
    refine lv_aload_n hx hb dL_law_485 rfl (lv_at hl 4 rfl) ?_
    refine zc_i (wr := [(rw, .inr (6, [.ref am, .ref q, .ref bq])), (am, zaL (G.2 0) 41 (fun _ => 0)), (ou, zaL (G.2 0) 1 ((fun _ => 0)))]) (va_runV (As := []) (rest := []) ⟨hx, hb, hml, hown, hts⟩ (c_X12_thrown_v l G mm thm (.ref ma) .null (.ref mt) (.ref ml) (.int (iz (0))) (.ref mw) (.int (iz (0))) (.ref mb) (.ref mp) (.int (iz (0))) 6  H.size) (cwV 0 hts gL_law_X12_thrown rfl rfl rfl (by decide +kernel) ⟨Nat.le_of_ble_eq_true rfl, Nat.le_of_ble_eq_true rfl⟩) (zpV hKX hP hD [3] rfl rfl 3 13 rfl rfl) rfl rfl hl.1 rfl (lv_room (Nat.le_of_ble_eq_true rfl)) dL_law_486 ⟨(by show _ ≤ (600002 : Nat); omega), (by show _ ≤ (7302232 : Nat); omega)⟩) hP hD hS hA [3] [0, 1, 2] rfl rfl rfl (by decide) (fun th9 u_13 H locs hth hP hD hS => ?_)
    have hP : va_P G.1 vwCl [(rw, .inr (6, [.ref am, .ref q, .ref bq])), (am, zaL (G.2 0) 41 (fun _ => 0)), (ou, zaL (G.2 0) 1 ((fun _ => 0))), (mm, .inr (13, [.int (iz (thm)), .int (iz ((6 : Int))), .ref ma, .null, .ref mt, .ref ml, .int (iz (0)), .ref mw, .int (iz (0)), .ref mb, .ref mp, .int (iz (0))]))] H := hP
    have hD : va_D (zlA s) [(rw, .inr (6, [.ref am, .ref q, .ref bq])), (am, zaL (G.2 0) 41 (fun _ => 0)), (ou, zaL (G.2 0) 1 ((fun _ => 0))), (mm, .inr (13, [.int (iz (thm)), .int (iz ((6 : Int))), .ref ma, .null, .ref mt, .ref ml, .int (iz (0)), .ref mw, .int (iz (0)), .ref mb, .ref mp, .int (iz (0))]))] := hD
    have hth : th9 = thm := hth
    rw [show th9 = 1 from hth.trans htp]
    refine lv_iload hx hb dL_law_489 (lv_at hl 1 rfl) ?_
    refine zr_icmp_eq (x := 1) (y := 1) (tgt := 496) hx hb (⟨by omega, by omega⟩) (⟨by omega, by omega⟩) dL_law_491 (by decide) (fun h_15 => ?_) (fun h_15 => ?_)
    ·
      refine lv_iload hx hb dL_law_496 (lv_at hl 1 rfl) ?_
      refine zr_if_ne (x := 1) (tgt := 512) hx hb (⟨by omega, by omega⟩) dL_law_498 (by decide) (fun h_16 => ?_) (fun h_16 => ?_)
      ·
        refine lv_goto (tgt := 3039) hx hb dL_law_512 (by decide) ?_
        exact zl_end hL8 C0 hS (lv_sub hl [2, 6] rfl) (by show _ ≤ (600002 : Nat); omega) (by show _ ≤ (7302232 : Nat); omega)
      · exact absurd h_16 (by omega)
    · exact absurd h_15 (by omega)

set_option maxHeartbeats 4000000 in
set_option maxRecDepth 100000 in
theorem zl_4 {p : Program} {e : Env} {s : State} {m : MethodId} {below : List Frame} {meth : Method} {c : Code} {l : Launch} (hl0 : l.stackTraces = false) {b L : Nat} {xs : Nat → Int32} (hL8 : L = 8) (C0 : lw_At p s m meth c b L xs) {G : zG} {nA nB nE s1 s2 s3 : Nat} (hKX : zK G s) (hEm : zE G nA nB nE (zlA s) s) (hEc : zXL s1 s2 s3 (zlA s) s) (x : Nat) (ro : Nat) (rw : Nat) (bo : Nat) (li : Nat) (sh : Nat) (tx : Nat) (lo : Nat) (nl : Nat) (am : Nat) (q : Nat) (bq : Nat) (ou : Nat) (mm : Nat) (ma : Nat) (mt : Nat) (ml : Nat) (mw : Nat) (mb : Nat) (mp : Nat) {H : Heap} {locs : List Loc} {ls : Array Slot} (hP : va_P G.1 vwCl [(x, .inr (10, [.ref ro, .ref rw, .ref bo, .ref li, .ref sh, .ref tx, .ref lo, .ref nl])), (rw, .inr (6, [.ref am, .ref q, .ref bq])), (am, zaL (G.2 0) 41 (fun _ => 0)), (ou, zaL (G.2 0) 1 (fun _ => 0)), (mm, .inr (13, [.int (iz (0)), .int (iz (6)), .ref ma, .null, .ref mt, .ref ml, .int (iz (0)), .ref mw, .int (iz (0)), .ref mb, .ref mp, .int (iz (0))])), (ma, zaL (G.2 0) 41 (fun _ => 0))] H) (hD : va_D (zlA s) [(x, .inr (10, [.ref ro, .ref rw, .ref bo, .ref li, .ref sh, .ref tx, .ref lo, .ref nl])), (rw, .inr (6, [.ref am, .ref q, .ref bq])), (am, zaL (G.2 0) 41 (fun _ => 0)), (ou, zaL (G.2 0) 1 (fun _ => 0)), (mm, .inr (13, [.int (iz (0)), .int (iz (6)), .ref ma, .null, .ref mt, .ref ml, .int (iz (0)), .ref mw, .int (iz (0)), .ref mb, .ref mp, .int (iz (0))])), (ma, zaL (G.2 0) 41 (fun _ => 0))]) (hS : va_S (zlA s) s.heap H locs) (hl : lv_has ls 9 [(0, .ref b), (1, .ref x), (2, .ref mm), (3, .ref ou), (4, .int (iz (0)))]) : W p l e room_1 s m #[Value.ref b] below meth c H locs 200 4000 (lw_Z below #[Value.ref b] s) (F0 m 515 ls []) := by
  obtain ⟨hx, hb, hr, hml, hown, hts, hX, hbl, hlocks, hgv⟩ := id C0
  have hbA : ¬ zlA s b := Nat.not_le.mpr hbl
  have hK := hKX.1
  have hts : ∀ w ∈ wsL_law, w.before #[Value.ref b] s = true := fun w h => hts w (wsL_law_in w h)
  have hown : s.vm.findClass RL = some m.cls := hown
  have hA : ∀ q : Nat, s.heap.size ≤ q → zlA s q := fun _ h => h
  have hE := hEm
  have hv1 := zv_rng xs 1
  have hv2 := zv_rng xs 2
  have hv3 := zv_rng xs 3
  have hv4 := zv_rng xs 4
  have hv5 := zv_rng xs 5
  have hv6 := zv_rng xs 6
  have hv7 := zv_rng xs 7
  have hw3 := zlo_rng (zv xs 3) (zv xs 4)
  have hw5 := zlo_rng (zv xs 5) (zv xs 6)
  by_cases hco0 : ¬ (0 ≤ (zv xs 1) ∧ (zv xs 1) ≤ 40 ∧ 1 ≤ (zv xs 2) ∧ (zv xs 2) ≤ 41 ∧ -1000000000 ≤ (zlo (zv xs 3) (zv xs 4)) ∧ (zlo (zv xs 3) (zv xs 4)) ≤ 1000000000 ∧ -1000000 ≤ (zlo (zv xs 5) (zv xs 6)) ∧ (zlo (zv xs 5) (zv xs 6)) ≤ 1000000 ∧ (zv xs 1) + (zv xs 2) ≤ 41)
  ·
    refine lv_aload_n hx hb dL_law_515 rfl (lv_at hl 1 rfl) ?_
    refine lv_aload_n hx hb dL_law_516 rfl (lv_at hl 0 rfl) ?_
    refine lv_iload hx hb dL_law_517 (lv_at hl 4 rfl) ?_
    refine lv_iconst (v := iz (1)) hx hb dL_law_519 rfl ?_
    refine zr_iadd hx hb dL_law_520 ?_
    refine zr_sld hx hb hX hbl hbA hS 1 (by omega) (by omega) (by omega) dL_law_521 ?_
    refine lv_aload_n hx hb dL_law_522 rfl (lv_at hl 0 rfl) ?_
    refine lv_iload hx hb dL_law_523 (lv_at hl 4 rfl) ?_
    refine lv_iconst (v := iz (2)) hx hb dL_law_525 rfl ?_
    refine zr_iadd hx hb dL_law_526 ?_
    refine zr_sld hx hb hX hbl hbA hS 2 (by omega) (by omega) (by omega) dL_law_527 ?_
    refine lv_aload_n hx hb dL_law_528 rfl (lv_at hl 0 rfl) ?_
    refine lv_iload hx hb dL_law_529 (lv_at hl 4 rfl) ?_
    refine lv_iconst (v := iz (3)) hx hb dL_law_531 rfl ?_
    refine zr_iadd hx hb dL_law_532 ?_
    refine zr_sld hx hb hX hbl hbA hS 3 (by omega) (by omega) (by omega) dL_law_533 ?_
    refine zr_i2l hx hb (x := zv xs 3) (⟨by omega, by omega⟩) dL_law_534 ?_
    refine lv_bipush (v := iz (32)) hx hb dL_law_535 rfl ?_
    refine zr_lshl32 hx hb dL_law_537 ?_
    refine lv_aload_n hx hb dL_law_538 rfl (lv_at hl 0 rfl) ?_
    refine lv_iload hx hb dL_law_539 (lv_at hl 4 rfl) ?_
    refine lv_iconst (v := iz (4)) hx hb dL_law_541 rfl ?_
    refine zr_iadd hx hb dL_law_542 ?_
    refine zr_sld hx hb hX hbl hbA hS 4 (by omega) (by omega) (by omega) dL_law_543 ?_
    refine zr_i2l hx hb (x := zv xs 4) (⟨by omega, by omega⟩) dL_law_544 ?_
    refine zr_ldc2 (z := 4294967295) hx hb hown (hts (.constantLong RL 137 (4294967295)) (by decide +kernel)) rfl dL_law_545 ?_
    refine zr_land32 hx hb dL_law_548 ?_
    refine zr_lor32 hx hb dL_law_549 ?_
    refine lv_aload_n hx hb dL_law_550 rfl (lv_at hl 0 rfl) ?_
    refine lv_iload hx hb dL_law_551 (lv_at hl 4 rfl) ?_
    refine lv_iconst (v := iz (5)) hx hb dL_law_553 rfl ?_
    refine zr_iadd hx hb dL_law_554 ?_
    refine zr_sld hx hb hX hbl hbA hS 5 (by omega) (by omega) (by omega) dL_law_555 ?_
    refine zr_i2l hx hb (x := zv xs 5) (⟨by omega, by omega⟩) dL_law_556 ?_
    refine lv_bipush (v := iz (32)) hx hb dL_law_557 rfl ?_
    refine zr_lshl32 hx hb dL_law_559 ?_
    refine lv_aload_n hx hb dL_law_560 rfl (lv_at hl 0 rfl) ?_
    refine lv_iload hx hb dL_law_561 (lv_at hl 4 rfl) ?_
    refine lv_bipush (v := iz (6)) hx hb dL_law_563 rfl ?_
    refine zr_iadd hx hb dL_law_565 ?_
    refine zr_sld hx hb hX hbl hbA hS 6 (by omega) (by omega) (by omega) dL_law_566 ?_
    refine zr_i2l hx hb (x := zv xs 6) (⟨by omega, by omega⟩) dL_law_567 ?_
    refine zr_ldc2 (z := 4294967295) hx hb hown (hts (.constantLong RL 137 (4294967295)) (by decide +kernel)) rfl dL_law_568 ?_
    refine zr_land32 hx hb dL_law_571 ?_
    refine zr_lor32 hx hb dL_law_572 ?_
    refine lv_aload_n hx hb dL_law_573 rfl (lv_at hl 3 rfl) ?_
    refine zc_i (wr := [(rw, .inr (6, [.ref am, .ref q, .ref bq])), (am, zaL (G.2 0) 41 (fun _ => 0)), (mm, .inr (13, [.int (iz (0)), .int (iz (6)), .ref ma, .null, .ref mt, .ref ml, .int (iz (0)), .ref mw, .int (iz (0)), .ref mb, .ref mp, .int (iz (0))])), (ma, zaL (G.2 0) 41 (fun _ => 0))]) (vx_runSW (As := [.ref x, .int (iz (zv xs 1)), .int (iz (zv xs 2)), .long (lz (zlo (zv xs 3) (zv xs 4))), .long (lz (zlo (zv xs 5) (zv xs 6))), .ref ou]) (rest := []) ⟨hx, hb, hml, hown, hts⟩ (c_L_payMany_x l G s1 s2 s3 x ro rw bo li sh tx lo nl (zv xs 1) (zv xs 2) (zlo (zv xs 3) (zv xs 4)) (zlo (zv xs 5) (zv xs 6)) ou (fun _ => 0) hl0 (by omega) (by omega) (by omega) (by omega) (by omega) H.size) (vx_cwSW 6 hts gL_law_L_payMany rfl rfl rfl (by decide +kernel) ⟨Nat.le_of_ble_eq_true rfl, Nat.le_of_ble_eq_true rfl⟩) (zpSe zXL_ok hEc hS hA hKX hP hD [0, 3] rfl rfl) rfl rfl hl.1 rfl (lv_room (Nat.le_of_ble_eq_true rfl)) dL_law_574 ⟨(by show _ ≤ (600002 : Nat); omega), (by show _ ≤ (7302232 : Nat); omega)⟩) hP hD hS hA [0, 3] [1, 2, 4, 5] rfl rfl rfl (by decide) (fun kk u_1 H locs hw hP hD hS => ?_)
    have hP : va_P G.1 vwCl [(rw, .inr (6, [.ref am, .ref q, .ref bq])), (am, zaL (G.2 0) 41 (fun _ => 0)), (mm, .inr (13, [.int (iz (0)), .int (iz (6)), .ref ma, .null, .ref mt, .ref ml, .int (iz (0)), .ref mw, .int (iz (0)), .ref mb, .ref mp, .int (iz (0))])), (ma, zaL (G.2 0) 41 (fun _ => 0)), (ou, zaL (G.2 0) 1 ((fun _ => 0)))] H := hP
    have hD : va_D (zlA s) [(rw, .inr (6, [.ref am, .ref q, .ref bq])), (am, zaL (G.2 0) 41 (fun _ => 0)), (mm, .inr (13, [.int (iz (0)), .int (iz (6)), .ref ma, .null, .ref mt, .ref ml, .int (iz (0)), .ref mw, .int (iz (0)), .ref mb, .ref mp, .int (iz (0))])), (ma, zaL (G.2 0) 41 (fun _ => 0)), (ou, zaL (G.2 0) 1 ((fun _ => 0)))] := hD
    have hw : kk = 1 := hw
    rw [show kk = 1 from hw]
    refine lv_istore (lv' := [(5, .int (iz (1))), (0, .ref b), (1, .ref x), (2, .ref mm), (3, .ref ou), (4, .int (iz (0)))]) hx hb dL_law_577 hl (by decide) rfl (fun ls hl => ?_)
    refine lv_aload_n hx hb dL_law_579 rfl (lv_at hl 3 rfl) ?_
    refine lv_aload_n hx hb dL_law_580 rfl (lv_at hl 1 rfl) ?_
    refine lv_iload hx hb dL_law_581 (lv_at hl 5 rfl) ?_
    refine lv_iconst (v := iz (1)) hx hb dL_law_583 rfl ?_
    refine zr_iadd hx hb dL_law_584 ?_
    refine zr_sld hx hb hX hbl hbA hS 1 (by omega) (by omega) (by omega) dL_law_585 ?_
    refine lv_aload_n hx hb dL_law_586 rfl (lv_at hl 1 rfl) ?_
    refine lv_iload hx hb dL_law_587 (lv_at hl 5 rfl) ?_
    refine lv_iconst (v := iz (2)) hx hb dL_law_589 rfl ?_
    refine zr_iadd hx hb dL_law_590 ?_
    refine zr_sld hx hb hX hbl hbA hS 2 (by omega) (by omega) (by omega) dL_law_591 ?_
    refine lv_aload_n hx hb dL_law_592 rfl (lv_at hl 1 rfl) ?_
    refine lv_iload hx hb dL_law_593 (lv_at hl 5 rfl) ?_
    refine lv_iconst (v := iz (3)) hx hb dL_law_595 rfl ?_
    refine zr_iadd hx hb dL_law_596 ?_
    refine zr_sld hx hb hX hbl hbA hS 3 (by omega) (by omega) (by omega) dL_law_597 ?_
    refine zr_i2l hx hb (x := zv xs 3) (⟨by omega, by omega⟩) dL_law_598 ?_
    refine lv_bipush (v := iz (32)) hx hb dL_law_599 rfl ?_
    refine zr_lshl32 hx hb dL_law_601 ?_
    refine lv_aload_n hx hb dL_law_602 rfl (lv_at hl 1 rfl) ?_
    refine lv_iload hx hb dL_law_603 (lv_at hl 5 rfl) ?_
    refine lv_iconst (v := iz (4)) hx hb dL_law_605 rfl ?_
    refine zr_iadd hx hb dL_law_606 ?_
    refine zr_sld hx hb hX hbl hbA hS 4 (by omega) (by omega) (by omega) dL_law_607 ?_
    refine zr_i2l hx hb (x := zv xs 4) (⟨by omega, by omega⟩) dL_law_608 ?_
    refine zr_ldc2 (z := 4294967295) hx hb hown (hts (.constantLong RL 137 (4294967295)) (by decide +kernel)) rfl dL_law_609 ?_
    refine zr_land32 hx hb dL_law_612 ?_
    refine zr_lor32 hx hb dL_law_613 ?_
    refine lv_aload_n hx hb dL_law_614 rfl (lv_at hl 1 rfl) ?_
    refine lv_iload hx hb dL_law_615 (lv_at hl 5 rfl) ?_
    refine lv_iconst (v := iz (5)) hx hb dL_law_617 rfl ?_
    refine zr_iadd hx hb dL_law_618 ?_
    refine zr_sld hx hb hX hbl hbA hS 5 (by omega) (by omega) (by omega) dL_law_619 ?_
    refine zr_i2l hx hb (x := zv xs 5) (⟨by omega, by omega⟩) dL_law_620 ?_
    refine lv_bipush (v := iz (32)) hx hb dL_law_621 rfl ?_
    refine zr_lshl32 hx hb dL_law_623 ?_
    refine lv_aload_n hx hb dL_law_624 rfl (lv_at hl 1 rfl) ?_
    refine lv_iload hx hb dL_law_625 (lv_at hl 5 rfl) ?_
    refine lv_bipush (v := iz (6)) hx hb dL_law_627 rfl ?_
    refine zr_iadd hx hb dL_law_629 ?_
    refine zr_sld hx hb hX hbl hbA hS 6 (by omega) (by omega) (by omega) dL_law_630 ?_
    refine zr_i2l hx hb (x := zv xs 6) (⟨by omega, by omega⟩) dL_law_631 ?_
    refine zr_ldc2 (z := 4294967295) hx hb hown (hts (.constantLong RL 137 (4294967295)) (by decide +kernel)) rfl dL_law_632 ?_
    refine zr_land32 hx hb dL_law_635 ?_
    refine zr_lor32 hx hb dL_law_636 ?_
    refine zc_i (wr := [(rw, .inr (6, [.ref am, .ref q, .ref bq])), (am, zaL (G.2 0) 41 (fun _ => 0)), (ou, zaL (G.2 0) 1 ((fun _ => 0)))]) (va_runV (As := [.int (iz (zv xs 1)), .int (iz (zv xs 2)), .long (lz (zlo (zv xs 3) (zv xs 4))), .long (lz (zlo (zv xs 5) (zv xs 6)))]) (rest := []) ⟨hx, hb, hml, hown, hts⟩ (c_X12_payMany_x l G mm ma mt ml mw mb mp 0 (zv xs 1) (zv xs 2) (zlo (zv xs 3) (zv xs 4)) (zlo (zv xs 5) (zv xs 6)) (by omega) (by omega) (by omega) (by omega) (by omega) H.size) (cwV 4 hts gL_law_X12_payMany rfl rfl rfl (by decide +kernel) ⟨Nat.le_of_ble_eq_true rfl, Nat.le_of_ble_eq_true rfl⟩) (zpV hKX hP hD [2, 3] rfl rfl 2 13 rfl rfl) rfl rfl hl.1 rfl (lv_room (Nat.le_of_ble_eq_true rfl)) dL_law_637 ⟨(by show _ ≤ (600002 : Nat); omega), (by show _ ≤ (7302232 : Nat); omega)⟩) hP hD hS hA [2, 3] [0, 1, 4] rfl rfl rfl (by decide) (fun zm u_3 H locs hm hP hD hS => ?_)
    generalize u_3 = thm at hP hD hm
    have hP : va_P G.1 vwCl [(rw, .inr (6, [.ref am, .ref q, .ref bq])), (am, zaL (G.2 0) 41 (fun _ => 0)), (ou, zaL (G.2 0) 1 ((fun _ => 0))), (mm, .inr (13, [.int (iz (thm)), .int (iz (6)), .ref ma, .null, .ref mt, .ref ml, .int (iz (0)), .ref mw, .int (iz (0)), .ref mb, .ref mp, .int (iz (0))]))] H := hP
    have hD : va_D (zlA s) [(rw, .inr (6, [.ref am, .ref q, .ref bq])), (am, zaL (G.2 0) 41 (fun _ => 0)), (ou, zaL (G.2 0) 1 ((fun _ => 0))), (mm, .inr (13, [.int (iz (thm)), .int (iz (6)), .ref ma, .null, .ref mt, .ref ml, .int (iz (0)), .ref mw, .int (iz (0)), .ref mb, .ref mp, .int (iz (0))]))] := hD
    have hm : zm = 0 ∧ thm = 1 := hm
    have htp := hm.2
    refine lv_istore (lv' := [(6, .int (iz (zm))), (5, .int (iz (1))), (0, .ref b), (1, .ref x), (2, .ref mm), (3, .ref ou), (4, .int (iz (0)))]) hx hb dL_law_640 hl (by decide) rfl (fun ls hl => ?_)
    refine lv_aload_n hx hb dL_law_642 rfl (lv_at hl 4 rfl) ?_
    refine zc_i (wr := [(rw, .inr (6, [.ref am, .ref q, .ref bq])), (am, zaL (G.2 0) 41 (fun _ => 0)), (ou, zaL (G.2 0) 1 ((fun _ => 0)))]) (va_runV (As := []) (rest := []) ⟨hx, hb, hml, hown, hts⟩ (c_X12_thrown_v l G mm thm (.ref ma) .null (.ref mt) (.ref ml) (.int (iz (0))) (.ref mw) (.int (iz (0))) (.ref mb) (.ref mp) (.int (iz (0))) 6  H.size) (cwV 0 hts gL_law_X12_thrown rfl rfl rfl (by decide +kernel) ⟨Nat.le_of_ble_eq_true rfl, Nat.le_of_ble_eq_true rfl⟩) (zpV hKX hP hD [3] rfl rfl 3 13 rfl rfl) rfl rfl hl.1 rfl (lv_room (Nat.le_of_ble_eq_true rfl)) dL_law_643 ⟨(by show _ ≤ (600002 : Nat); omega), (by show _ ≤ (7302232 : Nat); omega)⟩) hP hD hS hA [3] [0, 1, 2] rfl rfl rfl (by decide) (fun th9 u_5 H locs hth hP hD hS => ?_)
    have hP : va_P G.1 vwCl [(rw, .inr (6, [.ref am, .ref q, .ref bq])), (am, zaL (G.2 0) 41 (fun _ => 0)), (ou, zaL (G.2 0) 1 ((fun _ => 0))), (mm, .inr (13, [.int (iz (thm)), .int (iz ((6 : Int))), .ref ma, .null, .ref mt, .ref ml, .int (iz (0)), .ref mw, .int (iz (0)), .ref mb, .ref mp, .int (iz (0))]))] H := hP
    have hD : va_D (zlA s) [(rw, .inr (6, [.ref am, .ref q, .ref bq])), (am, zaL (G.2 0) 41 (fun _ => 0)), (ou, zaL (G.2 0) 1 ((fun _ => 0))), (mm, .inr (13, [.int (iz (thm)), .int (iz ((6 : Int))), .ref ma, .null, .ref mt, .ref ml, .int (iz (0)), .ref mw, .int (iz (0)), .ref mb, .ref mp, .int (iz (0))]))] := hD
    have hth : th9 = thm := hth
    rw [show th9 = 1 from hth.trans htp]
    refine lv_iload hx hb dL_law_646 (lv_at hl 1 rfl) ?_
    refine zr_icmp_eq (x := 1) (y := 1) (tgt := 653) hx hb (⟨by omega, by omega⟩) (⟨by omega, by omega⟩) dL_law_648 (by decide) (fun h_7 => ?_) (fun h_7 => ?_)
    ·
      refine lv_iload hx hb dL_law_653 (lv_at hl 1 rfl) ?_
      refine zr_if_ne (x := 1) (tgt := 670) hx hb (⟨by omega, by omega⟩) dL_law_655 (by decide) (fun h_8 => ?_) (fun h_8 => ?_)
      ·
        refine lv_goto (tgt := 3039) hx hb dL_law_670 (by decide) ?_
        exact zl_end hL8 C0 hS (lv_sub hl [2, 6] rfl) (by show _ ≤ (600002 : Nat); omega) (by show _ ≤ (7302232 : Nat); omega)
      · exact absurd h_8 (by omega)
    · exact absurd h_7 (by omega)
  ·
    by_cases hco1 : ∀ j : Int, 0 ≤ j → j < (zv xs 2) → zamt ((zlo (zv xs 3) (zv xs 4)) + j * (zlo (zv xs 5) (zv xs 6)))
    ·
      refine lv_aload_n hx hb dL_law_515 rfl (lv_at hl 1 rfl) ?_
      refine lv_aload_n hx hb dL_law_516 rfl (lv_at hl 0 rfl) ?_
      refine lv_iload hx hb dL_law_517 (lv_at hl 4 rfl) ?_
      refine lv_iconst (v := iz (1)) hx hb dL_law_519 rfl ?_
      refine zr_iadd hx hb dL_law_520 ?_
      refine zr_sld hx hb hX hbl hbA hS 1 (by omega) (by omega) (by omega) dL_law_521 ?_
      refine lv_aload_n hx hb dL_law_522 rfl (lv_at hl 0 rfl) ?_
      refine lv_iload hx hb dL_law_523 (lv_at hl 4 rfl) ?_
      refine lv_iconst (v := iz (2)) hx hb dL_law_525 rfl ?_
      refine zr_iadd hx hb dL_law_526 ?_
      refine zr_sld hx hb hX hbl hbA hS 2 (by omega) (by omega) (by omega) dL_law_527 ?_
      refine lv_aload_n hx hb dL_law_528 rfl (lv_at hl 0 rfl) ?_
      refine lv_iload hx hb dL_law_529 (lv_at hl 4 rfl) ?_
      refine lv_iconst (v := iz (3)) hx hb dL_law_531 rfl ?_
      refine zr_iadd hx hb dL_law_532 ?_
      refine zr_sld hx hb hX hbl hbA hS 3 (by omega) (by omega) (by omega) dL_law_533 ?_
      refine zr_i2l hx hb (x := zv xs 3) (⟨by omega, by omega⟩) dL_law_534 ?_
      refine lv_bipush (v := iz (32)) hx hb dL_law_535 rfl ?_
      refine zr_lshl32 hx hb dL_law_537 ?_
      refine lv_aload_n hx hb dL_law_538 rfl (lv_at hl 0 rfl) ?_
      refine lv_iload hx hb dL_law_539 (lv_at hl 4 rfl) ?_
      refine lv_iconst (v := iz (4)) hx hb dL_law_541 rfl ?_
      refine zr_iadd hx hb dL_law_542 ?_
      refine zr_sld hx hb hX hbl hbA hS 4 (by omega) (by omega) (by omega) dL_law_543 ?_
      refine zr_i2l hx hb (x := zv xs 4) (⟨by omega, by omega⟩) dL_law_544 ?_
      refine zr_ldc2 (z := 4294967295) hx hb hown (hts (.constantLong RL 137 (4294967295)) (by decide +kernel)) rfl dL_law_545 ?_
      refine zr_land32 hx hb dL_law_548 ?_
      refine zr_lor32 hx hb dL_law_549 ?_
      refine lv_aload_n hx hb dL_law_550 rfl (lv_at hl 0 rfl) ?_
      refine lv_iload hx hb dL_law_551 (lv_at hl 4 rfl) ?_
      refine lv_iconst (v := iz (5)) hx hb dL_law_553 rfl ?_
      refine zr_iadd hx hb dL_law_554 ?_
      refine zr_sld hx hb hX hbl hbA hS 5 (by omega) (by omega) (by omega) dL_law_555 ?_
      refine zr_i2l hx hb (x := zv xs 5) (⟨by omega, by omega⟩) dL_law_556 ?_
      refine lv_bipush (v := iz (32)) hx hb dL_law_557 rfl ?_
      refine zr_lshl32 hx hb dL_law_559 ?_
      refine lv_aload_n hx hb dL_law_560 rfl (lv_at hl 0 rfl) ?_
      refine lv_iload hx hb dL_law_561 (lv_at hl 4 rfl) ?_
      refine lv_bipush (v := iz (6)) hx hb dL_law_563 rfl ?_
      refine zr_iadd hx hb dL_law_565 ?_
      refine zr_sld hx hb hX hbl hbA hS 6 (by omega) (by omega) (by omega) dL_law_566 ?_
      refine zr_i2l hx hb (x := zv xs 6) (⟨by omega, by omega⟩) dL_law_567 ?_
      refine zr_ldc2 (z := 4294967295) hx hb hown (hts (.constantLong RL 137 (4294967295)) (by decide +kernel)) rfl dL_law_568 ?_
      refine zr_land32 hx hb dL_law_571 ?_
      refine zr_lor32 hx hb dL_law_572 ?_
      refine lv_aload_n hx hb dL_law_573 rfl (lv_at hl 3 rfl) ?_
      refine zc_i (wr := [(mm, .inr (13, [.int (iz (0)), .int (iz (6)), .ref ma, .null, .ref mt, .ref ml, .int (iz (0)), .ref mw, .int (iz (0)), .ref mb, .ref mp, .int (iz (0))])), (ma, zaL (G.2 0) 41 (fun _ => 0))]) (vx_runSW (As := [.ref x, .int (iz (zv xs 1)), .int (iz (zv xs 2)), .long (lz (zlo (zv xs 3) (zv xs 4))), .long (lz (zlo (zv xs 5) (zv xs 6))), .ref ou]) (rest := []) ⟨hx, hb, hml, hown, hts⟩ (c_L_payMany_o l G x ro rw bo li sh tx lo nl am q bq (zv xs 1) (zv xs 2) (zlo (zv xs 3) (zv xs 4)) (zlo (zv xs 5) (zv xs 6)) ou (fun _ => 0) (by omega) (by omega) (by omega) (by omega) (by omega) (hco1) H.size) (vx_cwSW 6 hts gL_law_L_payMany rfl rfl rfl (by decide +kernel) ⟨Nat.le_of_ble_eq_true rfl, Nat.le_of_ble_eq_true rfl⟩) (zpS hKX hP hD [0, 1, 2, 3] rfl rfl) rfl rfl hl.1 rfl (lv_room (Nat.le_of_ble_eq_true rfl)) dL_law_574 ⟨(by show _ ≤ (600002 : Nat); omega), (by show _ ≤ (7302232 : Nat); omega)⟩) hP hD hS hA [0, 1, 2, 3] [4, 5] rfl rfl rfl (by decide) (fun kk u_9 H locs hw hP hD hS => ?_)
      generalize u_9 = fz at hP hD hw
      have hP : va_P G.1 vwCl [(mm, .inr (13, [.int (iz (0)), .int (iz (6)), .ref ma, .null, .ref mt, .ref ml, .int (iz (0)), .ref mw, .int (iz (0)), .ref mb, .ref mp, .int (iz (0))])), (ma, zaL (G.2 0) 41 (fun _ => 0)), (ou, zaL (G.2 0) 1 (fz))] H := hP
      have hD : va_D (zlA s) [(mm, .inr (13, [.int (iz (0)), .int (iz (6)), .ref ma, .null, .ref mt, .ref ml, .int (iz (0)), .ref mw, .int (iz (0)), .ref mb, .ref mp, .int (iz (0))])), (ma, zaL (G.2 0) 41 (fun _ => 0)), (ou, zaL (G.2 0) 1 (fz))] := hD
      have hw : kk = 0 ∧ (fz 0) = zcnt (zpmf (zv xs 1) (zv xs 2) (zlo (zv xs 3) (zv xs 4)) (zlo (zv xs 5) (zv xs 6))) 41 := hw
      rw [show kk = 0 from hw.1]
      refine lv_istore (lv' := [(5, .int (iz (0))), (0, .ref b), (1, .ref x), (2, .ref mm), (3, .ref ou), (4, .int (iz (0)))]) hx hb dL_law_577 hl (by decide) rfl (fun ls hl => ?_)
      refine lv_aload_n hx hb dL_law_579 rfl (lv_at hl 3 rfl) ?_
      refine lv_aload_n hx hb dL_law_580 rfl (lv_at hl 1 rfl) ?_
      refine lv_iload hx hb dL_law_581 (lv_at hl 5 rfl) ?_
      refine lv_iconst (v := iz (1)) hx hb dL_law_583 rfl ?_
      refine zr_iadd hx hb dL_law_584 ?_
      refine zr_sld hx hb hX hbl hbA hS 1 (by omega) (by omega) (by omega) dL_law_585 ?_
      refine lv_aload_n hx hb dL_law_586 rfl (lv_at hl 1 rfl) ?_
      refine lv_iload hx hb dL_law_587 (lv_at hl 5 rfl) ?_
      refine lv_iconst (v := iz (2)) hx hb dL_law_589 rfl ?_
      refine zr_iadd hx hb dL_law_590 ?_
      refine zr_sld hx hb hX hbl hbA hS 2 (by omega) (by omega) (by omega) dL_law_591 ?_
      refine lv_aload_n hx hb dL_law_592 rfl (lv_at hl 1 rfl) ?_
      refine lv_iload hx hb dL_law_593 (lv_at hl 5 rfl) ?_
      refine lv_iconst (v := iz (3)) hx hb dL_law_595 rfl ?_
      refine zr_iadd hx hb dL_law_596 ?_
      refine zr_sld hx hb hX hbl hbA hS 3 (by omega) (by omega) (by omega) dL_law_597 ?_
      refine zr_i2l hx hb (x := zv xs 3) (⟨by omega, by omega⟩) dL_law_598 ?_
      refine lv_bipush (v := iz (32)) hx hb dL_law_599 rfl ?_
      refine zr_lshl32 hx hb dL_law_601 ?_
      refine lv_aload_n hx hb dL_law_602 rfl (lv_at hl 1 rfl) ?_
      refine lv_iload hx hb dL_law_603 (lv_at hl 5 rfl) ?_
      refine lv_iconst (v := iz (4)) hx hb dL_law_605 rfl ?_
      refine zr_iadd hx hb dL_law_606 ?_
      refine zr_sld hx hb hX hbl hbA hS 4 (by omega) (by omega) (by omega) dL_law_607 ?_
      refine zr_i2l hx hb (x := zv xs 4) (⟨by omega, by omega⟩) dL_law_608 ?_
      refine zr_ldc2 (z := 4294967295) hx hb hown (hts (.constantLong RL 137 (4294967295)) (by decide +kernel)) rfl dL_law_609 ?_
      refine zr_land32 hx hb dL_law_612 ?_
      refine zr_lor32 hx hb dL_law_613 ?_
      refine lv_aload_n hx hb dL_law_614 rfl (lv_at hl 1 rfl) ?_
      refine lv_iload hx hb dL_law_615 (lv_at hl 5 rfl) ?_
      refine lv_iconst (v := iz (5)) hx hb dL_law_617 rfl ?_
      refine zr_iadd hx hb dL_law_618 ?_
      refine zr_sld hx hb hX hbl hbA hS 5 (by omega) (by omega) (by omega) dL_law_619 ?_
      refine zr_i2l hx hb (x := zv xs 5) (⟨by omega, by omega⟩) dL_law_620 ?_
      refine lv_bipush (v := iz (32)) hx hb dL_law_621 rfl ?_
      refine zr_lshl32 hx hb dL_law_623 ?_
      refine lv_aload_n hx hb dL_law_624 rfl (lv_at hl 1 rfl) ?_
      refine lv_iload hx hb dL_law_625 (lv_at hl 5 rfl) ?_
      refine lv_bipush (v := iz (6)) hx hb dL_law_627 rfl ?_
      refine zr_iadd hx hb dL_law_629 ?_
      refine zr_sld hx hb hX hbl hbA hS 6 (by omega) (by omega) (by omega) dL_law_630 ?_
      refine zr_i2l hx hb (x := zv xs 6) (⟨by omega, by omega⟩) dL_law_631 ?_
      refine zr_ldc2 (z := 4294967295) hx hb hown (hts (.constantLong RL 137 (4294967295)) (by decide +kernel)) rfl dL_law_632 ?_
      refine zr_land32 hx hb dL_law_635 ?_
      refine zr_lor32 hx hb dL_law_636 ?_
      refine zc_i (wr := [(ou, zaL (G.2 0) 1 (fz))]) (va_runV (As := [.int (iz (zv xs 1)), .int (iz (zv xs 2)), .long (lz (zlo (zv xs 3) (zv xs 4))), .long (lz (zlo (zv xs 5) (zv xs 6)))]) (rest := []) ⟨hx, hb, hml, hown, hts⟩ (c_X12_payMany_o l G mm ma mt ml mw mb mp 0 (zv xs 1) (zv xs 2) (zlo (zv xs 3) (zv xs 4)) (zlo (zv xs 5) (zv xs 6)) (by omega) (by omega) (by omega) (by omega) (by omega) (hco1) H.size) (cwV 4 hts gL_law_X12_payMany rfl rfl rfl (by decide +kernel) ⟨Nat.le_of_ble_eq_true rfl, Nat.le_of_ble_eq_true rfl⟩) (zpV hKX hP hD [0, 1] rfl rfl 0 13 rfl rfl) rfl rfl hl.1 rfl (lv_room (Nat.le_of_ble_eq_true rfl)) dL_law_637 ⟨(by show _ ≤ (600002 : Nat); omega), (by show _ ≤ (7302232 : Nat); omega)⟩) hP hD hS hA [0, 1] [2] rfl rfl rfl (by decide) (fun zm u_11 H locs hm hP hD hS => ?_)
      generalize u_11 = thm at hP hD hm
      have hP : va_P G.1 vwCl [(ou, zaL (G.2 0) 1 (fz)), (mm, .inr (13, [.int (iz (thm)), .int (iz (6)), .ref ma, .null, .ref mt, .ref ml, .int (iz (0)), .ref mw, .int (iz (0)), .ref mb, .ref mp, .int (iz (0))]))] H := hP
      have hD : va_D (zlA s) [(ou, zaL (G.2 0) 1 (fz)), (mm, .inr (13, [.int (iz (thm)), .int (iz (6)), .ref ma, .null, .ref mt, .ref ml, .int (iz (0)), .ref mw, .int (iz (0)), .ref mb, .ref mp, .int (iz (0))]))] := hD
      have hm : zm = zcnt (zpmf (zv xs 1) (zv xs 2) (zlo (zv xs 3) (zv xs 4)) (zlo (zv xs 5) (zv xs 6))) 41 ∧ thm = 0 := hm
      have htp := hm.2
      have hrz := zcnt_rng (zpmf (zv xs 1) (zv xs 2) (zlo (zv xs 3) (zv xs 4)) (zlo (zv xs 5) (zv xs 6))) 41
      have hval := hw.2.trans hm.1.symm
      refine lv_istore (lv' := [(6, .int (iz (zm))), (5, .int (iz (0))), (0, .ref b), (1, .ref x), (2, .ref mm), (3, .ref ou), (4, .int (iz (0)))]) hx hb dL_law_640 hl (by decide) rfl (fun ls hl => ?_)
      refine lv_aload_n hx hb dL_law_642 rfl (lv_at hl 4 rfl) ?_
      refine zc_i (wr := [(ou, zaL (G.2 0) 1 (fz))]) (va_runV (As := []) (rest := []) ⟨hx, hb, hml, hown, hts⟩ (c_X12_thrown_v l G mm thm (.ref ma) .null (.ref mt) (.ref ml) (.int (iz (0))) (.ref mw) (.int (iz (0))) (.ref mb) (.ref mp) (.int (iz (0))) 6  H.size) (cwV 0 hts gL_law_X12_thrown rfl rfl rfl (by decide +kernel) ⟨Nat.le_of_ble_eq_true rfl, Nat.le_of_ble_eq_true rfl⟩) (zpV hKX hP hD [1] rfl rfl 1 13 rfl rfl) rfl rfl hl.1 rfl (lv_room (Nat.le_of_ble_eq_true rfl)) dL_law_643 ⟨(by show _ ≤ (600002 : Nat); omega), (by show _ ≤ (7302232 : Nat); omega)⟩) hP hD hS hA [1] [0] rfl rfl rfl (by decide) (fun th9 u_13 H locs hth hP hD hS => ?_)
      have hP : va_P G.1 vwCl [(ou, zaL (G.2 0) 1 (fz)), (mm, .inr (13, [.int (iz (thm)), .int (iz ((6 : Int))), .ref ma, .null, .ref mt, .ref ml, .int (iz (0)), .ref mw, .int (iz (0)), .ref mb, .ref mp, .int (iz (0))]))] H := hP
      have hD : va_D (zlA s) [(ou, zaL (G.2 0) 1 (fz)), (mm, .inr (13, [.int (iz (thm)), .int (iz ((6 : Int))), .ref ma, .null, .ref mt, .ref ml, .int (iz (0)), .ref mw, .int (iz (0)), .ref mb, .ref mp, .int (iz (0))]))] := hD
      have hth : th9 = thm := hth
      rw [show th9 = 0 from hth.trans htp]
      refine lv_iload hx hb dL_law_646 (lv_at hl 1 rfl) ?_
      refine zr_icmp_eq (x := 0) (y := 0) (tgt := 653) hx hb (⟨by omega, by omega⟩) (⟨by omega, by omega⟩) dL_law_648 (by decide) (fun h_15 => ?_) (fun h_15 => ?_)
      ·
        refine lv_iload hx hb dL_law_653 (lv_at hl 1 rfl) ?_
        refine zr_if_ne (x := 0) (tgt := 670) hx hb (⟨by omega, by omega⟩) dL_law_655 (by decide) (fun h_16 => ?_) (fun h_16 => ?_)
        · exact absurd h_16 (by omega)
        ·
          refine lv_aload_n hx hb dL_law_658 rfl (lv_at hl 5 rfl) ?_
          refine lv_iconst (v := iz (0)) hx hb dL_law_659 rfl ?_
          refine zr_lald hx hb hK hP 0 0 rfl rfl (i := 0) (⟨by omega, by omega, by omega⟩) dL_law_660 ?_
          refine lv_iload hx hb dL_law_661 (lv_at hl 0 rfl) ?_
          refine zr_i2l hx hb (x := zm) (⟨by omega, by omega⟩) dL_law_663 ?_
          refine zr_lcmpS (x := fz 0) (y := zm) (tgt := 670) hx hb (by first | exact hval | exact hval.symm) dL_law_664 dL_law_665 (by decide) ?_
          refine lv_goto (tgt := 3039) hx hb dL_law_670 (by decide) ?_
          exact zl_end hL8 C0 hS (lv_sub hl [2, 6] rfl) (by show _ ≤ (600002 : Nat); omega) (by show _ ≤ (7302232 : Nat); omega)
      · exact absurd h_15 (by omega)
    ·
      refine lv_aload_n hx hb dL_law_515 rfl (lv_at hl 1 rfl) ?_
      refine lv_aload_n hx hb dL_law_516 rfl (lv_at hl 0 rfl) ?_
      refine lv_iload hx hb dL_law_517 (lv_at hl 4 rfl) ?_
      refine lv_iconst (v := iz (1)) hx hb dL_law_519 rfl ?_
      refine zr_iadd hx hb dL_law_520 ?_
      refine zr_sld hx hb hX hbl hbA hS 1 (by omega) (by omega) (by omega) dL_law_521 ?_
      refine lv_aload_n hx hb dL_law_522 rfl (lv_at hl 0 rfl) ?_
      refine lv_iload hx hb dL_law_523 (lv_at hl 4 rfl) ?_
      refine lv_iconst (v := iz (2)) hx hb dL_law_525 rfl ?_
      refine zr_iadd hx hb dL_law_526 ?_
      refine zr_sld hx hb hX hbl hbA hS 2 (by omega) (by omega) (by omega) dL_law_527 ?_
      refine lv_aload_n hx hb dL_law_528 rfl (lv_at hl 0 rfl) ?_
      refine lv_iload hx hb dL_law_529 (lv_at hl 4 rfl) ?_
      refine lv_iconst (v := iz (3)) hx hb dL_law_531 rfl ?_
      refine zr_iadd hx hb dL_law_532 ?_
      refine zr_sld hx hb hX hbl hbA hS 3 (by omega) (by omega) (by omega) dL_law_533 ?_
      refine zr_i2l hx hb (x := zv xs 3) (⟨by omega, by omega⟩) dL_law_534 ?_
      refine lv_bipush (v := iz (32)) hx hb dL_law_535 rfl ?_
      refine zr_lshl32 hx hb dL_law_537 ?_
      refine lv_aload_n hx hb dL_law_538 rfl (lv_at hl 0 rfl) ?_
      refine lv_iload hx hb dL_law_539 (lv_at hl 4 rfl) ?_
      refine lv_iconst (v := iz (4)) hx hb dL_law_541 rfl ?_
      refine zr_iadd hx hb dL_law_542 ?_
      refine zr_sld hx hb hX hbl hbA hS 4 (by omega) (by omega) (by omega) dL_law_543 ?_
      refine zr_i2l hx hb (x := zv xs 4) (⟨by omega, by omega⟩) dL_law_544 ?_
      refine zr_ldc2 (z := 4294967295) hx hb hown (hts (.constantLong RL 137 (4294967295)) (by decide +kernel)) rfl dL_law_545 ?_
      refine zr_land32 hx hb dL_law_548 ?_
      refine zr_lor32 hx hb dL_law_549 ?_
      refine lv_aload_n hx hb dL_law_550 rfl (lv_at hl 0 rfl) ?_
      refine lv_iload hx hb dL_law_551 (lv_at hl 4 rfl) ?_
      refine lv_iconst (v := iz (5)) hx hb dL_law_553 rfl ?_
      refine zr_iadd hx hb dL_law_554 ?_
      refine zr_sld hx hb hX hbl hbA hS 5 (by omega) (by omega) (by omega) dL_law_555 ?_
      refine zr_i2l hx hb (x := zv xs 5) (⟨by omega, by omega⟩) dL_law_556 ?_
      refine lv_bipush (v := iz (32)) hx hb dL_law_557 rfl ?_
      refine zr_lshl32 hx hb dL_law_559 ?_
      refine lv_aload_n hx hb dL_law_560 rfl (lv_at hl 0 rfl) ?_
      refine lv_iload hx hb dL_law_561 (lv_at hl 4 rfl) ?_
      refine lv_bipush (v := iz (6)) hx hb dL_law_563 rfl ?_
      refine zr_iadd hx hb dL_law_565 ?_
      refine zr_sld hx hb hX hbl hbA hS 6 (by omega) (by omega) (by omega) dL_law_566 ?_
      refine zr_i2l hx hb (x := zv xs 6) (⟨by omega, by omega⟩) dL_law_567 ?_
      refine zr_ldc2 (z := 4294967295) hx hb hown (hts (.constantLong RL 137 (4294967295)) (by decide +kernel)) rfl dL_law_568 ?_
      refine zr_land32 hx hb dL_law_571 ?_
      refine zr_lor32 hx hb dL_law_572 ?_
      refine lv_aload_n hx hb dL_law_573 rfl (lv_at hl 3 rfl) ?_
      refine zc_i (wr := [(mm, .inr (13, [.int (iz (0)), .int (iz (6)), .ref ma, .null, .ref mt, .ref ml, .int (iz (0)), .ref mw, .int (iz (0)), .ref mb, .ref mp, .int (iz (0))])), (ma, zaL (G.2 0) 41 (fun _ => 0))]) (vx_runSW (As := [.ref x, .int (iz (zv xs 1)), .int (iz (zv xs 2)), .long (lz (zlo (zv xs 3) (zv xs 4))), .long (lz (zlo (zv xs 5) (zv xs 6))), .ref ou]) (rest := []) ⟨hx, hb, hml, hown, hts⟩ (c_L_payMany_n l G s1 s2 s3 x ro rw bo li sh tx lo nl am q bq (zv xs 1) (zv xs 2) (zlo (zv xs 3) (zv xs 4)) (zlo (zv xs 5) (zv xs 6)) ou (fun _ => 0) hl0 (by omega) (by omega) (by omega) (by omega) (by omega) (hco1) H.size) (vx_cwSW 6 hts gL_law_L_payMany rfl rfl rfl (by decide +kernel) ⟨Nat.le_of_ble_eq_true rfl, Nat.le_of_ble_eq_true rfl⟩) (zpSe zXL_ok hEc hS hA hKX hP hD [0, 1, 2, 3] rfl rfl) rfl rfl hl.1 rfl (lv_room (Nat.le_of_ble_eq_true rfl)) dL_law_574 ⟨(by show _ ≤ (600002 : Nat); omega), (by show _ ≤ (7302232 : Nat); omega)⟩) hP hD hS hA [0, 1, 2, 3] [4, 5] rfl rfl rfl (by decide) (fun kk u_17 H locs hw hP hD hS => ?_)
      have hP : va_P G.1 vwCl [(mm, .inr (13, [.int (iz (0)), .int (iz (6)), .ref ma, .null, .ref mt, .ref ml, .int (iz (0)), .ref mw, .int (iz (0)), .ref mb, .ref mp, .int (iz (0))])), (ma, zaL (G.2 0) 41 (fun _ => 0)), (ou, zaL (G.2 0) 1 ((fun _ => 0)))] H := hP
      have hD : va_D (zlA s) [(mm, .inr (13, [.int (iz (0)), .int (iz (6)), .ref ma, .null, .ref mt, .ref ml, .int (iz (0)), .ref mw, .int (iz (0)), .ref mb, .ref mp, .int (iz (0))])), (ma, zaL (G.2 0) 41 (fun _ => 0)), (ou, zaL (G.2 0) 1 ((fun _ => 0)))] := hD
      have hw : kk = 2 := hw
      rw [show kk = 2 from hw]
      refine lv_istore (lv' := [(5, .int (iz (2))), (0, .ref b), (1, .ref x), (2, .ref mm), (3, .ref ou), (4, .int (iz (0)))]) hx hb dL_law_577 hl (by decide) rfl (fun ls hl => ?_)
      refine lv_aload_n hx hb dL_law_579 rfl (lv_at hl 3 rfl) ?_
      refine lv_aload_n hx hb dL_law_580 rfl (lv_at hl 1 rfl) ?_
      refine lv_iload hx hb dL_law_581 (lv_at hl 5 rfl) ?_
      refine lv_iconst (v := iz (1)) hx hb dL_law_583 rfl ?_
      refine zr_iadd hx hb dL_law_584 ?_
      refine zr_sld hx hb hX hbl hbA hS 1 (by omega) (by omega) (by omega) dL_law_585 ?_
      refine lv_aload_n hx hb dL_law_586 rfl (lv_at hl 1 rfl) ?_
      refine lv_iload hx hb dL_law_587 (lv_at hl 5 rfl) ?_
      refine lv_iconst (v := iz (2)) hx hb dL_law_589 rfl ?_
      refine zr_iadd hx hb dL_law_590 ?_
      refine zr_sld hx hb hX hbl hbA hS 2 (by omega) (by omega) (by omega) dL_law_591 ?_
      refine lv_aload_n hx hb dL_law_592 rfl (lv_at hl 1 rfl) ?_
      refine lv_iload hx hb dL_law_593 (lv_at hl 5 rfl) ?_
      refine lv_iconst (v := iz (3)) hx hb dL_law_595 rfl ?_
      refine zr_iadd hx hb dL_law_596 ?_
      refine zr_sld hx hb hX hbl hbA hS 3 (by omega) (by omega) (by omega) dL_law_597 ?_
      refine zr_i2l hx hb (x := zv xs 3) (⟨by omega, by omega⟩) dL_law_598 ?_
      refine lv_bipush (v := iz (32)) hx hb dL_law_599 rfl ?_
      refine zr_lshl32 hx hb dL_law_601 ?_
      refine lv_aload_n hx hb dL_law_602 rfl (lv_at hl 1 rfl) ?_
      refine lv_iload hx hb dL_law_603 (lv_at hl 5 rfl) ?_
      refine lv_iconst (v := iz (4)) hx hb dL_law_605 rfl ?_
      refine zr_iadd hx hb dL_law_606 ?_
      refine zr_sld hx hb hX hbl hbA hS 4 (by omega) (by omega) (by omega) dL_law_607 ?_
      refine zr_i2l hx hb (x := zv xs 4) (⟨by omega, by omega⟩) dL_law_608 ?_
      refine zr_ldc2 (z := 4294967295) hx hb hown (hts (.constantLong RL 137 (4294967295)) (by decide +kernel)) rfl dL_law_609 ?_
      refine zr_land32 hx hb dL_law_612 ?_
      refine zr_lor32 hx hb dL_law_613 ?_
      refine lv_aload_n hx hb dL_law_614 rfl (lv_at hl 1 rfl) ?_
      refine lv_iload hx hb dL_law_615 (lv_at hl 5 rfl) ?_
      refine lv_iconst (v := iz (5)) hx hb dL_law_617 rfl ?_
      refine zr_iadd hx hb dL_law_618 ?_
      refine zr_sld hx hb hX hbl hbA hS 5 (by omega) (by omega) (by omega) dL_law_619 ?_
      refine zr_i2l hx hb (x := zv xs 5) (⟨by omega, by omega⟩) dL_law_620 ?_
      refine lv_bipush (v := iz (32)) hx hb dL_law_621 rfl ?_
      refine zr_lshl32 hx hb dL_law_623 ?_
      refine lv_aload_n hx hb dL_law_624 rfl (lv_at hl 1 rfl) ?_
      refine lv_iload hx hb dL_law_625 (lv_at hl 5 rfl) ?_
      refine lv_bipush (v := iz (6)) hx hb dL_law_627 rfl ?_
      refine zr_iadd hx hb dL_law_629 ?_
      refine zr_sld hx hb hX hbl hbA hS 6 (by omega) (by omega) (by omega) dL_law_630 ?_
      refine zr_i2l hx hb (x := zv xs 6) (⟨by omega, by omega⟩) dL_law_631 ?_
      refine zr_ldc2 (z := 4294967295) hx hb hown (hts (.constantLong RL 137 (4294967295)) (by decide +kernel)) rfl dL_law_632 ?_
      refine zr_land32 hx hb dL_law_635 ?_
      refine zr_lor32 hx hb dL_law_636 ?_
      refine zc_i (wr := [(ou, zaL (G.2 0) 1 ((fun _ => 0)))]) (va_runV (As := [.int (iz (zv xs 1)), .int (iz (zv xs 2)), .long (lz (zlo (zv xs 3) (zv xs 4))), .long (lz (zlo (zv xs 5) (zv xs 6)))]) (rest := []) ⟨hx, hb, hml, hown, hts⟩ (c_X12_payMany_n l G mm ma mt ml mw mb mp 0 (zv xs 1) (zv xs 2) (zlo (zv xs 3) (zv xs 4)) (zlo (zv xs 5) (zv xs 6)) (by omega) (by omega) (by omega) (by omega) (by omega) (hco1) H.size) (cwV 4 hts gL_law_X12_payMany rfl rfl rfl (by decide +kernel) ⟨Nat.le_of_ble_eq_true rfl, Nat.le_of_ble_eq_true rfl⟩) (zpV hKX hP hD [0, 1] rfl rfl 0 13 rfl rfl) rfl rfl hl.1 rfl (lv_room (Nat.le_of_ble_eq_true rfl)) dL_law_637 ⟨(by show _ ≤ (600002 : Nat); omega), (by show _ ≤ (7302232 : Nat); omega)⟩) hP hD hS hA [0, 1] [2] rfl rfl rfl (by decide) (fun zm u_19 H locs hm hP hD hS => ?_)
      generalize u_19 = thm at hP hD hm
      have hP : va_P G.1 vwCl [(ou, zaL (G.2 0) 1 ((fun _ => 0))), (mm, .inr (13, [.int (iz (thm)), .int (iz (6)), .ref ma, .null, .ref mt, .ref ml, .int (iz (0)), .ref mw, .int (iz (0)), .ref mb, .ref mp, .int (iz (0))]))] H := hP
      have hD : va_D (zlA s) [(ou, zaL (G.2 0) 1 ((fun _ => 0))), (mm, .inr (13, [.int (iz (thm)), .int (iz (6)), .ref ma, .null, .ref mt, .ref ml, .int (iz (0)), .ref mw, .int (iz (0)), .ref mb, .ref mp, .int (iz (0))]))] := hD
      have hm : zm = 0 ∧ thm = 2 := hm
      have htp := hm.2
      refine lv_istore (lv' := [(6, .int (iz (zm))), (5, .int (iz (2))), (0, .ref b), (1, .ref x), (2, .ref mm), (3, .ref ou), (4, .int (iz (0)))]) hx hb dL_law_640 hl (by decide) rfl (fun ls hl => ?_)
      refine lv_aload_n hx hb dL_law_642 rfl (lv_at hl 4 rfl) ?_
      refine zc_i (wr := [(ou, zaL (G.2 0) 1 ((fun _ => 0)))]) (va_runV (As := []) (rest := []) ⟨hx, hb, hml, hown, hts⟩ (c_X12_thrown_v l G mm thm (.ref ma) .null (.ref mt) (.ref ml) (.int (iz (0))) (.ref mw) (.int (iz (0))) (.ref mb) (.ref mp) (.int (iz (0))) 6  H.size) (cwV 0 hts gL_law_X12_thrown rfl rfl rfl (by decide +kernel) ⟨Nat.le_of_ble_eq_true rfl, Nat.le_of_ble_eq_true rfl⟩) (zpV hKX hP hD [1] rfl rfl 1 13 rfl rfl) rfl rfl hl.1 rfl (lv_room (Nat.le_of_ble_eq_true rfl)) dL_law_643 ⟨(by show _ ≤ (600002 : Nat); omega), (by show _ ≤ (7302232 : Nat); omega)⟩) hP hD hS hA [1] [0] rfl rfl rfl (by decide) (fun th9 u_21 H locs hth hP hD hS => ?_)
      have hP : va_P G.1 vwCl [(ou, zaL (G.2 0) 1 ((fun _ => 0))), (mm, .inr (13, [.int (iz (thm)), .int (iz ((6 : Int))), .ref ma, .null, .ref mt, .ref ml, .int (iz (0)), .ref mw, .int (iz (0)), .ref mb, .ref mp, .int (iz (0))]))] H := hP
      have hD : va_D (zlA s) [(ou, zaL (G.2 0) 1 ((fun _ => 0))), (mm, .inr (13, [.int (iz (thm)), .int (iz ((6 : Int))), .ref ma, .null, .ref mt, .ref ml, .int (iz (0)), .ref mw, .int (iz (0)), .ref mb, .ref mp, .int (iz (0))]))] := hD
      have hth : th9 = thm := hth
      rw [show th9 = 2 from hth.trans htp]
      refine lv_iload hx hb dL_law_646 (lv_at hl 1 rfl) ?_
      refine zr_icmp_eq (x := 2) (y := 2) (tgt := 653) hx hb (⟨by omega, by omega⟩) (⟨by omega, by omega⟩) dL_law_648 (by decide) (fun h_23 => ?_) (fun h_23 => ?_)
      ·
        refine lv_iload hx hb dL_law_653 (lv_at hl 1 rfl) ?_
        refine zr_if_ne (x := 2) (tgt := 670) hx hb (⟨by omega, by omega⟩) dL_law_655 (by decide) (fun h_24 => ?_) (fun h_24 => ?_)
        ·
          refine lv_goto (tgt := 3039) hx hb dL_law_670 (by decide) ?_
          exact zl_end hL8 C0 hS (lv_sub hl [2, 6] rfl) (by show _ ≤ (600002 : Nat); omega) (by show _ ≤ (7302232 : Nat); omega)
        · exact absurd h_24 (by omega)
      · exact absurd h_23 (by omega)

set_option maxHeartbeats 4000000 in
set_option maxRecDepth 100000 in
theorem zl_5 {p : Program} {e : Env} {s : State} {m : MethodId} {below : List Frame} {meth : Method} {c : Code} {l : Launch} (hl0 : l.stackTraces = false) {b L : Nat} {xs : Nat → Int32} (hL8 : L = 8) (C0 : lw_At p s m meth c b L xs) {G : zG} {nA nB nE s1 s2 s3 : Nat} (hKX : zK G s) (hEm : zE G nA nB nE (zlA s) s) (hEc : zXL s1 s2 s3 (zlA s) s) (x : Nat) (ro : Nat) (rw : Nat) (bo : Nat) (li : Nat) (sh : Nat) (tx : Nat) (lo : Nat) (nl : Nat) (am : Nat) (q : Nat) (bq : Nat) (ou : Nat) (mm : Nat) (ma : Nat) (mt : Nat) (ml : Nat) (mw : Nat) (mb : Nat) (mp : Nat) {H : Heap} {locs : List Loc} {ls : Array Slot} (hP : va_P G.1 vwCl [(x, .inr (10, [.ref ro, .ref rw, .ref bo, .ref li, .ref sh, .ref tx, .ref lo, .ref nl])), (rw, .inr (6, [.ref am, .ref q, .ref bq])), (am, zaL (G.2 0) 41 (fun _ => 0)), (ou, zaL (G.2 0) 1 (fun _ => 0)), (mm, .inr (13, [.int (iz (0)), .int (iz (6)), .ref ma, .null, .ref mt, .ref ml, .int (iz (0)), .ref mw, .int (iz (0)), .ref mb, .ref mp, .int (iz (0))])), (ma, zaL (G.2 0) 41 (fun _ => 0))] H) (hD : va_D (zlA s) [(x, .inr (10, [.ref ro, .ref rw, .ref bo, .ref li, .ref sh, .ref tx, .ref lo, .ref nl])), (rw, .inr (6, [.ref am, .ref q, .ref bq])), (am, zaL (G.2 0) 41 (fun _ => 0)), (ou, zaL (G.2 0) 1 (fun _ => 0)), (mm, .inr (13, [.int (iz (0)), .int (iz (6)), .ref ma, .null, .ref mt, .ref ml, .int (iz (0)), .ref mw, .int (iz (0)), .ref mb, .ref mp, .int (iz (0))])), (ma, zaL (G.2 0) 41 (fun _ => 0))]) (hS : va_S (zlA s) s.heap H locs) (hl : lv_has ls 9 [(0, .ref b), (1, .ref x), (2, .ref mm), (3, .ref ou), (4, .int (iz (0)))]) : W p l e room_1 s m #[Value.ref b] below meth c H locs 200 4000 (lw_Z below #[Value.ref b] s) (F0 m 673 ls []) := by
  obtain ⟨hx, hb, hr, hml, hown, hts, hX, hbl, hlocks, hgv⟩ := id C0
  have hbA : ¬ zlA s b := Nat.not_le.mpr hbl
  have hK := hKX.1
  have hts : ∀ w ∈ wsL_law, w.before #[Value.ref b] s = true := fun w h => hts w (wsL_law_in w h)
  have hown : s.vm.findClass RL = some m.cls := hown
  have hA : ∀ q : Nat, s.heap.size ≤ q → zlA s q := fun _ h => h
  have hE := hEm
  have hv1 := zv_rng xs 1
  have hv2 := zv_rng xs 2
  have hv3 := zv_rng xs 3
  have hv4 := zv_rng xs 4
  have hv5 := zv_rng xs 5
  have hv6 := zv_rng xs 6
  have hv7 := zv_rng xs 7
  refine lv_aload_n hx hb dL_law_673 rfl (lv_at hl 1 rfl) ?_
  refine zc_i (wr := [(ou, zaL (G.2 0) 1 (fun _ => 0)), (mm, .inr (13, [.int (iz (0)), .int (iz (6)), .ref ma, .null, .ref mt, .ref ml, .int (iz (0)), .ref mw, .int (iz (0)), .ref mb, .ref mp, .int (iz (0))])), (ma, zaL (G.2 0) 41 (fun _ => 0))]) (va_runV (As := []) (rest := []) ⟨hx, hb, hml, hown, hts⟩ (c_X9_clearRow l G x ro rw bo li sh tx lo nl am q bq  H.size) (cwV 0 hts gL_law_X9_clearRow rfl rfl rfl (by decide +kernel) ⟨Nat.le_of_ble_eq_true rfl, Nat.le_of_ble_eq_true rfl⟩) (zpV hKX hP hD [0, 1, 2] rfl rfl 0 10 rfl rfl) rfl rfl hl.1 rfl (lv_room (Nat.le_of_ble_eq_true rfl)) dL_law_674 ⟨(by show _ ≤ (600002 : Nat); omega), (by show _ ≤ (7302232 : Nat); omega)⟩) hP hD hS hA [0, 1, 2] [3, 4, 5] rfl rfl rfl (by decide) (fun zw u_1 H locs hw hP hD hS => ?_)
  generalize u_1 = vu0_ at hP hD hw
  have hP : va_P G.1 vwCl [(ou, zaL (G.2 0) 1 (fun _ => 0)), (mm, .inr (13, [.int (iz (0)), .int (iz (6)), .ref ma, .null, .ref mt, .ref ml, .int (iz (0)), .ref mw, .int (iz (0)), .ref mb, .ref mp, .int (iz (0))])), (ma, zaL (G.2 0) 41 (fun _ => 0)), (x, .inr (10, [.ref ro, .ref rw, .ref bo, .ref li, .ref sh, .ref tx, .ref lo, .ref nl])), (rw, .inr (6, [.ref am, .ref q, .ref bq])), (am, zaL (G.2 0) 41 (vu0_))] H := hP
  have hD : va_D (zlA s) [(ou, zaL (G.2 0) 1 (fun _ => 0)), (mm, .inr (13, [.int (iz (0)), .int (iz (6)), .ref ma, .null, .ref mt, .ref ml, .int (iz (0)), .ref mw, .int (iz (0)), .ref mb, .ref mp, .int (iz (0))])), (ma, zaL (G.2 0) 41 (fun _ => 0)), (x, .inr (10, [.ref ro, .ref rw, .ref bo, .ref li, .ref sh, .ref tx, .ref lo, .ref nl])), (rw, .inr (6, [.ref am, .ref q, .ref bq])), (am, zaL (G.2 0) 41 (vu0_))] := hD
  have hw : zw = 0 := hw
  refine lv_aload_n hx hb dL_law_677 rfl (lv_at hl 2 rfl) ?_
  refine zc_i (wr := [(ou, zaL (G.2 0) 1 (fun _ => 0)), (x, .inr (10, [.ref ro, .ref rw, .ref bo, .ref li, .ref sh, .ref tx, .ref lo, .ref nl])), (rw, .inr (6, [.ref am, .ref q, .ref bq])), (am, zaL (G.2 0) 41 (vu0_))]) (va_runV (As := []) (rest := [.int (iz (zw))]) ⟨hx, hb, hml, hown, hts⟩ (c_X12_clearRow l G mm ma mt ml mw mb mp 0  H.size) (cwV 0 hts gL_law_X12_clearRow rfl rfl rfl (by decide +kernel) ⟨Nat.le_of_ble_eq_true rfl, Nat.le_of_ble_eq_true rfl⟩) (zpV hKX hP hD [1, 2] rfl rfl 1 13 rfl rfl) rfl rfl hl.1 rfl (lv_room (Nat.le_of_ble_eq_true rfl)) dL_law_678 ⟨(by show _ ≤ (600002 : Nat); omega), (by show _ ≤ (7302232 : Nat); omega)⟩) hP hD hS hA [1, 2] [0, 3, 4, 5] rfl rfl rfl (by decide) (fun zm u_3 H locs hm hP hD hS => ?_)
  generalize u_3 = thm at hP hD hm
  have hP : va_P G.1 vwCl [(ou, zaL (G.2 0) 1 (fun _ => 0)), (x, .inr (10, [.ref ro, .ref rw, .ref bo, .ref li, .ref sh, .ref tx, .ref lo, .ref nl])), (rw, .inr (6, [.ref am, .ref q, .ref bq])), (am, zaL (G.2 0) 41 (vu0_)), (mm, .inr (13, [.int (iz (thm)), .int (iz (6)), .ref ma, .null, .ref mt, .ref ml, .int (iz (0)), .ref mw, .int (iz (0)), .ref mb, .ref mp, .int (iz (0))]))] H := hP
  have hD : va_D (zlA s) [(ou, zaL (G.2 0) 1 (fun _ => 0)), (x, .inr (10, [.ref ro, .ref rw, .ref bo, .ref li, .ref sh, .ref tx, .ref lo, .ref nl])), (rw, .inr (6, [.ref am, .ref q, .ref bq])), (am, zaL (G.2 0) 41 (vu0_)), (mm, .inr (13, [.int (iz (thm)), .int (iz (6)), .ref ma, .null, .ref mt, .ref ml, .int (iz (0)), .ref mw, .int (iz (0)), .ref mb, .ref mp, .int (iz (0))]))] := hD
  have hm : zm = 0 ∧ thm = 0 := hm
  have htp := hm.2
  have hval := hw.trans hm.1.symm
  refine zr_icmpS (x := zw) (y := zm) (tgt := 3039) hx hb (by first | exact hval | exact hval.symm) dL_law_681 (by decide) ?_
  exact zl_end hL8 C0 hS (lv_sub hl [0, 4] rfl) (by show _ ≤ (600002 : Nat); omega) (by show _ ≤ (7302232 : Nat); omega)

set_option maxHeartbeats 4000000 in
set_option maxRecDepth 100000 in
theorem zl_6 {p : Program} {e : Env} {s : State} {m : MethodId} {below : List Frame} {meth : Method} {c : Code} {l : Launch} (hl0 : l.stackTraces = false) {b L : Nat} {xs : Nat → Int32} (hL8 : L = 8) (C0 : lw_At p s m meth c b L xs) {G : zG} {nA nB nE s1 s2 s3 : Nat} (hKX : zK G s) (hEm : zE G nA nB nE (zlA s) s) (hEc : zXL s1 s2 s3 (zlA s) s) (x : Nat) (ro : Nat) (rw : Nat) (bo : Nat) (li : Nat) (sh : Nat) (tx : Nat) (lo : Nat) (nl : Nat) (am : Nat) (q : Nat) (bq : Nat) (ou : Nat) (mm : Nat) (ma : Nat) (mt : Nat) (ml : Nat) (mw : Nat) (mb : Nat) (mp : Nat) {H : Heap} {locs : List Loc} {ls : Array Slot} (hP : va_P G.1 vwCl [(x, .inr (10, [.ref ro, .ref rw, .ref bo, .ref li, .ref sh, .ref tx, .ref lo, .ref nl])), (rw, .inr (6, [.ref am, .ref q, .ref bq])), (am, zaL (G.2 0) 41 (fun _ => 0)), (ou, zaL (G.2 0) 1 (fun _ => 0)), (mm, .inr (13, [.int (iz (0)), .int (iz (6)), .ref ma, .null, .ref mt, .ref ml, .int (iz (0)), .ref mw, .int (iz (0)), .ref mb, .ref mp, .int (iz (0))])), (ma, zaL (G.2 0) 41 (fun _ => 0))] H) (hD : va_D (zlA s) [(x, .inr (10, [.ref ro, .ref rw, .ref bo, .ref li, .ref sh, .ref tx, .ref lo, .ref nl])), (rw, .inr (6, [.ref am, .ref q, .ref bq])), (am, zaL (G.2 0) 41 (fun _ => 0)), (ou, zaL (G.2 0) 1 (fun _ => 0)), (mm, .inr (13, [.int (iz (0)), .int (iz (6)), .ref ma, .null, .ref mt, .ref ml, .int (iz (0)), .ref mw, .int (iz (0)), .ref mb, .ref mp, .int (iz (0))])), (ma, zaL (G.2 0) 41 (fun _ => 0))]) (hS : va_S (zlA s) s.heap H locs) (hl : lv_has ls 9 [(0, .ref b), (1, .ref x), (2, .ref mm), (3, .ref ou), (4, .int (iz (0)))]) : W p l e room_1 s m #[Value.ref b] below meth c H locs 200 4000 (lw_Z below #[Value.ref b] s) (F0 m 686 ls []) := by
  obtain ⟨hx, hb, hr, hml, hown, hts, hX, hbl, hlocks, hgv⟩ := id C0
  have hbA : ¬ zlA s b := Nat.not_le.mpr hbl
  have hK := hKX.1
  have hts : ∀ w ∈ wsL_law, w.before #[Value.ref b] s = true := fun w h => hts w (wsL_law_in w h)
  have hown : s.vm.findClass RL = some m.cls := hown
  have hA : ∀ q : Nat, s.heap.size ≤ q → zlA s q := fun _ h => h
  have hE := hEm
  have hv1 := zv_rng xs 1
  have hv2 := zv_rng xs 2
  have hv3 := zv_rng xs 3
  have hv4 := zv_rng xs 4
  have hv5 := zv_rng xs 5
  have hv6 := zv_rng xs 6
  have hv7 := zv_rng xs 7
  by_cases hco0 : 0 ≤ (zv xs 1) ∧ (zv xs 1) ≤ 40
  ·
    refine lv_aload_n hx hb dL_law_686 rfl (lv_at hl 1 rfl) ?_
    refine lv_aload_n hx hb dL_law_687 rfl (lv_at hl 0 rfl) ?_
    refine lv_iload hx hb dL_law_688 (lv_at hl 4 rfl) ?_
    refine lv_iconst (v := iz (1)) hx hb dL_law_690 rfl ?_
    refine zr_iadd hx hb dL_law_691 ?_
    refine zr_sld hx hb hX hbl hbA hS 1 (by omega) (by omega) (by omega) dL_law_692 ?_
    refine lv_aload_n hx hb dL_law_693 rfl (lv_at hl 3 rfl) ?_
    refine zc_i (wr := [(mm, .inr (13, [.int (iz (0)), .int (iz (6)), .ref ma, .null, .ref mt, .ref ml, .int (iz (0)), .ref mw, .int (iz (0)), .ref mb, .ref mp, .int (iz (0))])), (ma, zaL (G.2 0) 41 (fun _ => 0))]) (vx_runSW (As := [.ref x, .int (iz (zv xs 1)), .ref ou]) (rest := []) ⟨hx, hb, hml, hown, hts⟩ (c_L_amount_o l G x ro rw bo li sh tx lo nl am q bq (zv xs 1) ou (fun _ => 0) (by omega) (by omega) H.size) (vx_cwSW 3 hts gL_law_L_amount rfl rfl rfl (by decide +kernel) ⟨Nat.le_of_ble_eq_true rfl, Nat.le_of_ble_eq_true rfl⟩) (zpS hKX hP hD [0, 1, 2, 3] rfl rfl) rfl rfl hl.1 rfl (lv_room (Nat.le_of_ble_eq_true rfl)) dL_law_694 ⟨(by show _ ≤ (600002 : Nat); omega), (by show _ ≤ (7302232 : Nat); omega)⟩) hP hD hS hA [0, 1, 2, 3] [4, 5] rfl rfl rfl (by decide) (fun kk u_1 H locs hw hP hD hS => ?_)
    generalize u_1 = fz at hP hD hw
    have hP : va_P G.1 vwCl [(mm, .inr (13, [.int (iz (0)), .int (iz (6)), .ref ma, .null, .ref mt, .ref ml, .int (iz (0)), .ref mw, .int (iz (0)), .ref mb, .ref mp, .int (iz (0))])), (ma, zaL (G.2 0) 41 (fun _ => 0)), (ou, zaL (G.2 0) 1 (fz))] H := hP
    have hD : va_D (zlA s) [(mm, .inr (13, [.int (iz (0)), .int (iz (6)), .ref ma, .null, .ref mt, .ref ml, .int (iz (0)), .ref mw, .int (iz (0)), .ref mb, .ref mp, .int (iz (0))])), (ma, zaL (G.2 0) 41 (fun _ => 0)), (ou, zaL (G.2 0) 1 (fz))] := hD
    have hw : kk = 0 ∧ (fz 0) = 0 := hw
    rw [show kk = 0 from hw.1]
    refine lv_istore (lv' := [(5, .int (iz (0))), (0, .ref b), (1, .ref x), (2, .ref mm), (3, .ref ou), (4, .int (iz (0)))]) hx hb dL_law_697 hl (by decide) rfl (fun ls hl => ?_)
    refine lv_aload_n hx hb dL_law_699 rfl (lv_at hl 3 rfl) ?_
    refine lv_aload_n hx hb dL_law_700 rfl (lv_at hl 1 rfl) ?_
    refine lv_iload hx hb dL_law_701 (lv_at hl 5 rfl) ?_
    refine lv_iconst (v := iz (1)) hx hb dL_law_703 rfl ?_
    refine zr_iadd hx hb dL_law_704 ?_
    refine zr_sld hx hb hX hbl hbA hS 1 (by omega) (by omega) (by omega) dL_law_705 ?_
    refine zc_l (wr := [(ou, zaL (G.2 0) 1 (fz))]) (va_runV (As := [.int (iz (zv xs 1))]) (rest := []) ⟨hx, hb, hml, hown, hts⟩ (c_X12_amount_o l G mm ma mt ml mw mb mp 0 (zv xs 1) (by omega) (by omega) H.size) (cwV 1 hts gL_law_X12_amount rfl rfl rfl (by decide +kernel) ⟨Nat.le_of_ble_eq_true rfl, Nat.le_of_ble_eq_true rfl⟩) (zpV hKX hP hD [0, 1] rfl rfl 0 13 rfl rfl) rfl rfl hl.1 rfl (lv_room (Nat.le_of_ble_eq_true rfl)) dL_law_706 ⟨(by show _ ≤ (600002 : Nat); omega), (by show _ ≤ (7302232 : Nat); omega)⟩) hP hD hS hA [0, 1] [2] rfl rfl rfl (by decide) (fun zm u_3 H locs hm hP hD hS => ?_)
    generalize u_3 = thm at hP hD hm
    have hP : va_P G.1 vwCl [(ou, zaL (G.2 0) 1 (fz)), (mm, .inr (13, [.int (iz (thm)), .int (iz (6)), .ref ma, .null, .ref mt, .ref ml, .int (iz (0)), .ref mw, .int (iz (0)), .ref mb, .ref mp, .int (iz (0))]))] H := hP
    have hD : va_D (zlA s) [(ou, zaL (G.2 0) 1 (fz)), (mm, .inr (13, [.int (iz (thm)), .int (iz (6)), .ref ma, .null, .ref mt, .ref ml, .int (iz (0)), .ref mw, .int (iz (0)), .ref mb, .ref mp, .int (iz (0))]))] := hD
    have hm : zm = 0 ∧ thm = 0 := hm
    have htp := hm.2
    have hval := hw.2.trans hm.1.symm
    refine lv_lstore (lv' := [(6, .long (lz (zm))), (5, .int (iz (0))), (0, .ref b), (1, .ref x), (2, .ref mm), (3, .ref ou), (4, .int (iz (0)))]) hx hb dL_law_709 hl (by decide) rfl (fun ls hl => ?_)
    refine lv_aload_n hx hb dL_law_711 rfl (lv_at hl 4 rfl) ?_
    refine zc_i (wr := [(ou, zaL (G.2 0) 1 (fz))]) (va_runV (As := []) (rest := []) ⟨hx, hb, hml, hown, hts⟩ (c_X12_thrown_v l G mm thm (.ref ma) .null (.ref mt) (.ref ml) (.int (iz (0))) (.ref mw) (.int (iz (0))) (.ref mb) (.ref mp) (.int (iz (0))) 6  H.size) (cwV 0 hts gL_law_X12_thrown rfl rfl rfl (by decide +kernel) ⟨Nat.le_of_ble_eq_true rfl, Nat.le_of_ble_eq_true rfl⟩) (zpV hKX hP hD [1] rfl rfl 1 13 rfl rfl) rfl rfl hl.1 rfl (lv_room (Nat.le_of_ble_eq_true rfl)) dL_law_712 ⟨(by show _ ≤ (600002 : Nat); omega), (by show _ ≤ (7302232 : Nat); omega)⟩) hP hD hS hA [1] [0] rfl rfl rfl (by decide) (fun th9 u_5 H locs hth hP hD hS => ?_)
    have hP : va_P G.1 vwCl [(ou, zaL (G.2 0) 1 (fz)), (mm, .inr (13, [.int (iz (thm)), .int (iz ((6 : Int))), .ref ma, .null, .ref mt, .ref ml, .int (iz (0)), .ref mw, .int (iz (0)), .ref mb, .ref mp, .int (iz (0))]))] H := hP
    have hD : va_D (zlA s) [(ou, zaL (G.2 0) 1 (fz)), (mm, .inr (13, [.int (iz (thm)), .int (iz ((6 : Int))), .ref ma, .null, .ref mt, .ref ml, .int (iz (0)), .ref mw, .int (iz (0)), .ref mb, .ref mp, .int (iz (0))]))] := hD
    have hth : th9 = thm := hth
    rw [show th9 = 0 from hth.trans htp]
    refine lv_iload hx hb dL_law_715 (lv_at hl 1 rfl) ?_
    refine zr_icmp_eq (x := 0) (y := 0) (tgt := 722) hx hb (⟨by omega, by omega⟩) (⟨by omega, by omega⟩) dL_law_717 (by decide) (fun h_7 => ?_) (fun h_7 => ?_)
    ·
      refine lv_iload hx hb dL_law_722 (lv_at hl 1 rfl) ?_
      refine zr_if_ne (x := 0) (tgt := 738) hx hb (⟨by omega, by omega⟩) dL_law_724 (by decide) (fun h_8 => ?_) (fun h_8 => ?_)
      · exact absurd h_8 (by omega)
      ·
        refine lv_aload_n hx hb dL_law_727 rfl (lv_at hl 5 rfl) ?_
        refine lv_iconst (v := iz (0)) hx hb dL_law_728 rfl ?_
        refine zr_lald hx hb hK hP 0 0 rfl rfl (i := 0) (⟨by omega, by omega, by omega⟩) dL_law_729 ?_
        refine lv_lload hx hb dL_law_730 (lv_at hl 0 rfl) ?_
        refine zr_lcmpS (x := fz 0) (y := zm) (tgt := 738) hx hb (by first | exact hval | exact hval.symm) dL_law_732 dL_law_733 (by decide) ?_
        refine lv_goto (tgt := 3039) hx hb dL_law_738 (by decide) ?_
        exact zl_end hL8 C0 hS (lv_sub hl [2, 6] rfl) (by show _ ≤ (600002 : Nat); omega) (by show _ ≤ (7302232 : Nat); omega)
    · exact absurd h_7 (by omega)
  ·
    refine lv_aload_n hx hb dL_law_686 rfl (lv_at hl 1 rfl) ?_
    refine lv_aload_n hx hb dL_law_687 rfl (lv_at hl 0 rfl) ?_
    refine lv_iload hx hb dL_law_688 (lv_at hl 4 rfl) ?_
    refine lv_iconst (v := iz (1)) hx hb dL_law_690 rfl ?_
    refine zr_iadd hx hb dL_law_691 ?_
    refine zr_sld hx hb hX hbl hbA hS 1 (by omega) (by omega) (by omega) dL_law_692 ?_
    refine lv_aload_n hx hb dL_law_693 rfl (lv_at hl 3 rfl) ?_
    refine zc_i (wr := [(rw, .inr (6, [.ref am, .ref q, .ref bq])), (am, zaL (G.2 0) 41 (fun _ => 0)), (mm, .inr (13, [.int (iz (0)), .int (iz (6)), .ref ma, .null, .ref mt, .ref ml, .int (iz (0)), .ref mw, .int (iz (0)), .ref mb, .ref mp, .int (iz (0))])), (ma, zaL (G.2 0) 41 (fun _ => 0))]) (vx_runSW (As := [.ref x, .int (iz (zv xs 1)), .ref ou]) (rest := []) ⟨hx, hb, hml, hown, hts⟩ (c_L_amount_x l G s1 s2 s3 x ro rw bo li sh tx lo nl (zv xs 1) ou (fun _ => 0) hl0 (by omega) (by omega) H.size) (vx_cwSW 3 hts gL_law_L_amount rfl rfl rfl (by decide +kernel) ⟨Nat.le_of_ble_eq_true rfl, Nat.le_of_ble_eq_true rfl⟩) (zpSe zXL_ok hEc hS hA hKX hP hD [0, 3] rfl rfl) rfl rfl hl.1 rfl (lv_room (Nat.le_of_ble_eq_true rfl)) dL_law_694 ⟨(by show _ ≤ (600002 : Nat); omega), (by show _ ≤ (7302232 : Nat); omega)⟩) hP hD hS hA [0, 3] [1, 2, 4, 5] rfl rfl rfl (by decide) (fun kk u_9 H locs hw hP hD hS => ?_)
    have hP : va_P G.1 vwCl [(rw, .inr (6, [.ref am, .ref q, .ref bq])), (am, zaL (G.2 0) 41 (fun _ => 0)), (mm, .inr (13, [.int (iz (0)), .int (iz (6)), .ref ma, .null, .ref mt, .ref ml, .int (iz (0)), .ref mw, .int (iz (0)), .ref mb, .ref mp, .int (iz (0))])), (ma, zaL (G.2 0) 41 (fun _ => 0)), (ou, zaL (G.2 0) 1 ((fun _ => 0)))] H := hP
    have hD : va_D (zlA s) [(rw, .inr (6, [.ref am, .ref q, .ref bq])), (am, zaL (G.2 0) 41 (fun _ => 0)), (mm, .inr (13, [.int (iz (0)), .int (iz (6)), .ref ma, .null, .ref mt, .ref ml, .int (iz (0)), .ref mw, .int (iz (0)), .ref mb, .ref mp, .int (iz (0))])), (ma, zaL (G.2 0) 41 (fun _ => 0)), (ou, zaL (G.2 0) 1 ((fun _ => 0)))] := hD
    have hw : kk = 1 := hw
    rw [show kk = 1 from hw]
    refine lv_istore (lv' := [(5, .int (iz (1))), (0, .ref b), (1, .ref x), (2, .ref mm), (3, .ref ou), (4, .int (iz (0)))]) hx hb dL_law_697 hl (by decide) rfl (fun ls hl => ?_)
    refine lv_aload_n hx hb dL_law_699 rfl (lv_at hl 3 rfl) ?_
    refine lv_aload_n hx hb dL_law_700 rfl (lv_at hl 1 rfl) ?_
    refine lv_iload hx hb dL_law_701 (lv_at hl 5 rfl) ?_
    refine lv_iconst (v := iz (1)) hx hb dL_law_703 rfl ?_
    refine zr_iadd hx hb dL_law_704 ?_
    refine zr_sld hx hb hX hbl hbA hS 1 (by omega) (by omega) (by omega) dL_law_705 ?_
    refine zc_l (wr := [(rw, .inr (6, [.ref am, .ref q, .ref bq])), (am, zaL (G.2 0) 41 (fun _ => 0)), (ou, zaL (G.2 0) 1 ((fun _ => 0)))]) (va_runV (As := [.int (iz (zv xs 1))]) (rest := []) ⟨hx, hb, hml, hown, hts⟩ (c_X12_amount_x l G mm ma mt ml mw mb mp 0 (zv xs 1) (by omega) (by omega) H.size) (cwV 1 hts gL_law_X12_amount rfl rfl rfl (by decide +kernel) ⟨Nat.le_of_ble_eq_true rfl, Nat.le_of_ble_eq_true rfl⟩) (zpV hKX hP hD [2, 3] rfl rfl 2 13 rfl rfl) rfl rfl hl.1 rfl (lv_room (Nat.le_of_ble_eq_true rfl)) dL_law_706 ⟨(by show _ ≤ (600002 : Nat); omega), (by show _ ≤ (7302232 : Nat); omega)⟩) hP hD hS hA [2, 3] [0, 1, 4] rfl rfl rfl (by decide) (fun zm u_11 H locs hm hP hD hS => ?_)
    generalize u_11 = thm at hP hD hm
    have hP : va_P G.1 vwCl [(rw, .inr (6, [.ref am, .ref q, .ref bq])), (am, zaL (G.2 0) 41 (fun _ => 0)), (ou, zaL (G.2 0) 1 ((fun _ => 0))), (mm, .inr (13, [.int (iz (thm)), .int (iz (6)), .ref ma, .null, .ref mt, .ref ml, .int (iz (0)), .ref mw, .int (iz (0)), .ref mb, .ref mp, .int (iz (0))]))] H := hP
    have hD : va_D (zlA s) [(rw, .inr (6, [.ref am, .ref q, .ref bq])), (am, zaL (G.2 0) 41 (fun _ => 0)), (ou, zaL (G.2 0) 1 ((fun _ => 0))), (mm, .inr (13, [.int (iz (thm)), .int (iz (6)), .ref ma, .null, .ref mt, .ref ml, .int (iz (0)), .ref mw, .int (iz (0)), .ref mb, .ref mp, .int (iz (0))]))] := hD
    have hm : zm = 0 ∧ thm = 1 := hm
    have htp := hm.2
    refine lv_lstore (lv' := [(6, .long (lz (zm))), (5, .int (iz (1))), (0, .ref b), (1, .ref x), (2, .ref mm), (3, .ref ou), (4, .int (iz (0)))]) hx hb dL_law_709 hl (by decide) rfl (fun ls hl => ?_)
    refine lv_aload_n hx hb dL_law_711 rfl (lv_at hl 4 rfl) ?_
    refine zc_i (wr := [(rw, .inr (6, [.ref am, .ref q, .ref bq])), (am, zaL (G.2 0) 41 (fun _ => 0)), (ou, zaL (G.2 0) 1 ((fun _ => 0)))]) (va_runV (As := []) (rest := []) ⟨hx, hb, hml, hown, hts⟩ (c_X12_thrown_v l G mm thm (.ref ma) .null (.ref mt) (.ref ml) (.int (iz (0))) (.ref mw) (.int (iz (0))) (.ref mb) (.ref mp) (.int (iz (0))) 6  H.size) (cwV 0 hts gL_law_X12_thrown rfl rfl rfl (by decide +kernel) ⟨Nat.le_of_ble_eq_true rfl, Nat.le_of_ble_eq_true rfl⟩) (zpV hKX hP hD [3] rfl rfl 3 13 rfl rfl) rfl rfl hl.1 rfl (lv_room (Nat.le_of_ble_eq_true rfl)) dL_law_712 ⟨(by show _ ≤ (600002 : Nat); omega), (by show _ ≤ (7302232 : Nat); omega)⟩) hP hD hS hA [3] [0, 1, 2] rfl rfl rfl (by decide) (fun th9 u_13 H locs hth hP hD hS => ?_)
    have hP : va_P G.1 vwCl [(rw, .inr (6, [.ref am, .ref q, .ref bq])), (am, zaL (G.2 0) 41 (fun _ => 0)), (ou, zaL (G.2 0) 1 ((fun _ => 0))), (mm, .inr (13, [.int (iz (thm)), .int (iz ((6 : Int))), .ref ma, .null, .ref mt, .ref ml, .int (iz (0)), .ref mw, .int (iz (0)), .ref mb, .ref mp, .int (iz (0))]))] H := hP
    have hD : va_D (zlA s) [(rw, .inr (6, [.ref am, .ref q, .ref bq])), (am, zaL (G.2 0) 41 (fun _ => 0)), (ou, zaL (G.2 0) 1 ((fun _ => 0))), (mm, .inr (13, [.int (iz (thm)), .int (iz ((6 : Int))), .ref ma, .null, .ref mt, .ref ml, .int (iz (0)), .ref mw, .int (iz (0)), .ref mb, .ref mp, .int (iz (0))]))] := hD
    have hth : th9 = thm := hth
    rw [show th9 = 1 from hth.trans htp]
    refine lv_iload hx hb dL_law_715 (lv_at hl 1 rfl) ?_
    refine zr_icmp_eq (x := 1) (y := 1) (tgt := 722) hx hb (⟨by omega, by omega⟩) (⟨by omega, by omega⟩) dL_law_717 (by decide) (fun h_15 => ?_) (fun h_15 => ?_)
    ·
      refine lv_iload hx hb dL_law_722 (lv_at hl 1 rfl) ?_
      refine zr_if_ne (x := 1) (tgt := 738) hx hb (⟨by omega, by omega⟩) dL_law_724 (by decide) (fun h_16 => ?_) (fun h_16 => ?_)
      ·
        refine lv_goto (tgt := 3039) hx hb dL_law_738 (by decide) ?_
        exact zl_end hL8 C0 hS (lv_sub hl [2, 6] rfl) (by show _ ≤ (600002 : Nat); omega) (by show _ ≤ (7302232 : Nat); omega)
      · exact absurd h_16 (by omega)
    · exact absurd h_15 (by omega)

set_option maxHeartbeats 4000000 in
set_option maxRecDepth 100000 in
theorem zl_7 {p : Program} {e : Env} {s : State} {m : MethodId} {below : List Frame} {meth : Method} {c : Code} {l : Launch} (hl0 : l.stackTraces = false) {b L : Nat} {xs : Nat → Int32} (hL8 : L = 8) (C0 : lw_At p s m meth c b L xs) {G : zG} {nA nB nE s1 s2 s3 : Nat} (hKX : zK G s) (hEm : zE G nA nB nE (zlA s) s) (hEc : zXL s1 s2 s3 (zlA s) s) (x : Nat) (ro : Nat) (rw : Nat) (bo : Nat) (li : Nat) (sh : Nat) (tx : Nat) (lo : Nat) (nl : Nat) (am : Nat) (q : Nat) (bq : Nat) (sa : Nat) (da : Nat) (wa : Nat) (sb : Nat) (db : Nat) (wb : Nat) (ou : Nat) (mm : Nat) (ma : Nat) (mt : Nat) (ml : Nat) (mw : Nat) (mb : Nat) (mp : Nat) {H : Heap} {locs : List Loc} {ls : Array Slot} (hP : va_P G.1 vwCl [(x, .inr (10, [.ref ro, .ref rw, .ref bo, .ref li, .ref sh, .ref tx, .ref lo, .ref nl])), (rw, .inr (6, [.ref am, .ref q, .ref bq])), (am, zaL (G.2 0) 41 (fun _ => 0)), (q, .inr (2, [.ref sa, .ref da, .ref wa, .long (lz (1)), .long (lz (1)), .int (iz (0))])), (sa, .inr (9, [.ref sb, .int (iz (0)), .long (lz (0))])), (sb, zaL (G.2 0) 40 (fun _ => 0)), (da, .inr (9, [.ref db, .int (iz (0)), .long (lz (0))])), (db, zaL (G.2 0) 40 (fun _ => 0)), (wa, .inr (9, [.ref wb, .int (iz (0)), .long (lz (0))])), (wb, zaL (G.2 0) 40 (fun _ => 0)), (ro, .inr (5, [.int (iz (6))])), (ou, zaL (G.2 0) 1 (fun _ => 0)), (mm, .inr (13, [.int (iz (0)), .int (iz (6)), .ref ma, .null, .ref mt, .ref ml, .int (iz (0)), .ref mw, .int (iz (0)), .ref mb, .ref mp, .int (iz (0))])), (ma, zaL (G.2 0) 41 (fun _ => 0))] H) (hD : va_D (zlA s) [(x, .inr (10, [.ref ro, .ref rw, .ref bo, .ref li, .ref sh, .ref tx, .ref lo, .ref nl])), (rw, .inr (6, [.ref am, .ref q, .ref bq])), (am, zaL (G.2 0) 41 (fun _ => 0)), (q, .inr (2, [.ref sa, .ref da, .ref wa, .long (lz (1)), .long (lz (1)), .int (iz (0))])), (sa, .inr (9, [.ref sb, .int (iz (0)), .long (lz (0))])), (sb, zaL (G.2 0) 40 (fun _ => 0)), (da, .inr (9, [.ref db, .int (iz (0)), .long (lz (0))])), (db, zaL (G.2 0) 40 (fun _ => 0)), (wa, .inr (9, [.ref wb, .int (iz (0)), .long (lz (0))])), (wb, zaL (G.2 0) 40 (fun _ => 0)), (ro, .inr (5, [.int (iz (6))])), (ou, zaL (G.2 0) 1 (fun _ => 0)), (mm, .inr (13, [.int (iz (0)), .int (iz (6)), .ref ma, .null, .ref mt, .ref ml, .int (iz (0)), .ref mw, .int (iz (0)), .ref mb, .ref mp, .int (iz (0))])), (ma, zaL (G.2 0) 41 (fun _ => 0))]) (hS : va_S (zlA s) s.heap H locs) (hl : lv_has ls 9 [(0, .ref b), (1, .ref x), (2, .ref mm), (3, .ref ou), (4, .int (iz (0)))]) : W p l e room_1 s m #[Value.ref b] below meth c H locs 200 4000 (lw_Z below #[Value.ref b] s) (F0 m 741 ls []) := by
  obtain ⟨hx, hb, hr, hml, hown, hts, hX, hbl, hlocks, hgv⟩ := id C0
  have hbA : ¬ zlA s b := Nat.not_le.mpr hbl
  have hK := hKX.1
  have hts : ∀ w ∈ wsL_law, w.before #[Value.ref b] s = true := fun w h => hts w (wsL_law_in w h)
  have hown : s.vm.findClass RL = some m.cls := hown
  have hA : ∀ q : Nat, s.heap.size ≤ q → zlA s q := fun _ h => h
  have hE := hEm
  have hv1 := zv_rng xs 1
  have hv2 := zv_rng xs 2
  have hv3 := zv_rng xs 3
  have hv4 := zv_rng xs 4
  have hv5 := zv_rng xs 5
  have hv6 := zv_rng xs 6
  have hv7 := zv_rng xs 7
  by_cases hco0 : 0 ≤ (zv xs 1) ∧ (zv xs 1) ≤ 40 ∧ 0 ≤ (zv xs 2) ∧ (zv xs 2) ≤ 20000
  ·
    refine lv_aload_n hx hb dL_law_741 rfl (lv_at hl 1 rfl) ?_
    refine lv_aload_n hx hb dL_law_742 rfl (lv_at hl 0 rfl) ?_
    refine lv_iload hx hb dL_law_743 (lv_at hl 4 rfl) ?_
    refine lv_iconst (v := iz (1)) hx hb dL_law_745 rfl ?_
    refine zr_iadd hx hb dL_law_746 ?_
    refine zr_sld hx hb hX hbl hbA hS 1 (by omega) (by omega) (by omega) dL_law_747 ?_
    refine lv_aload_n hx hb dL_law_748 rfl (lv_at hl 0 rfl) ?_
    refine lv_iload hx hb dL_law_749 (lv_at hl 4 rfl) ?_
    refine lv_iconst (v := iz (2)) hx hb dL_law_751 rfl ?_
    refine zr_iadd hx hb dL_law_752 ?_
    refine zr_sld hx hb hX hbl hbA hS 2 (by omega) (by omega) (by omega) dL_law_753 ?_
    refine lv_aload_n hx hb dL_law_754 rfl (lv_at hl 3 rfl) ?_
    refine zc_i (wr := [(mm, .inr (13, [.int (iz (0)), .int (iz (6)), .ref ma, .null, .ref mt, .ref ml, .int (iz (0)), .ref mw, .int (iz (0)), .ref mb, .ref mp, .int (iz (0))])), (ma, zaL (G.2 0) 41 (fun _ => 0))]) (vx_runSW (As := [.ref x, .int (iz (zv xs 1)), .int (iz (zv xs 2)), .ref ou]) (rest := []) ⟨hx, hb, hml, hown, hts⟩ (c_L_worth_o l G x ro rw bo li sh tx lo nl am q bq sa sb da db wa wb (zv xs 1) (zv xs 2) ou (fun _ => 0) (by omega) (by omega) (by omega) H.size) (vx_cwSW 4 hts gL_law_L_worth rfl rfl rfl (by decide +kernel) ⟨Nat.le_of_ble_eq_true rfl, Nat.le_of_ble_eq_true rfl⟩) (zpS hKX hP hD [0, 1, 2, 3, 4, 5, 6, 7, 8, 9, 10, 11] rfl rfl) rfl rfl hl.1 rfl (lv_room (Nat.le_of_ble_eq_true rfl)) dL_law_755 ⟨(by show _ ≤ (600002 : Nat); omega), (by show _ ≤ (7302232 : Nat); omega)⟩) hP hD hS hA [0, 1, 2, 3, 4, 5, 6, 7, 8, 9, 10, 11] [12, 13] rfl rfl rfl (by decide) (fun kk u_1 H locs hw hP hD hS => ?_)
    generalize u_1 = fz at hP hD hw
    have hP : va_P G.1 vwCl [(mm, .inr (13, [.int (iz (0)), .int (iz (6)), .ref ma, .null, .ref mt, .ref ml, .int (iz (0)), .ref mw, .int (iz (0)), .ref mb, .ref mp, .int (iz (0))])), (ma, zaL (G.2 0) 41 (fun _ => 0)), (ou, zaL (G.2 0) 1 (fz))] H := hP
    have hD : va_D (zlA s) [(mm, .inr (13, [.int (iz (0)), .int (iz (6)), .ref ma, .null, .ref mt, .ref ml, .int (iz (0)), .ref mw, .int (iz (0)), .ref mb, .ref mp, .int (iz (0))])), (ma, zaL (G.2 0) 41 (fun _ => 0)), (ou, zaL (G.2 0) 1 (fz))] := hD
    have hw : kk = 0 ∧ (fz 0) = 0 := hw
    rw [show kk = 0 from hw.1]
    refine lv_istore (lv' := [(5, .int (iz (0))), (0, .ref b), (1, .ref x), (2, .ref mm), (3, .ref ou), (4, .int (iz (0)))]) hx hb dL_law_758 hl (by decide) rfl (fun ls hl => ?_)
    refine lv_aload_n hx hb dL_law_760 rfl (lv_at hl 3 rfl) ?_
    refine lv_aload_n hx hb dL_law_761 rfl (lv_at hl 1 rfl) ?_
    refine lv_iload hx hb dL_law_762 (lv_at hl 5 rfl) ?_
    refine lv_iconst (v := iz (1)) hx hb dL_law_764 rfl ?_
    refine zr_iadd hx hb dL_law_765 ?_
    refine zr_sld hx hb hX hbl hbA hS 1 (by omega) (by omega) (by omega) dL_law_766 ?_
    refine lv_aload_n hx hb dL_law_767 rfl (lv_at hl 1 rfl) ?_
    refine lv_iload hx hb dL_law_768 (lv_at hl 5 rfl) ?_
    refine lv_iconst (v := iz (2)) hx hb dL_law_770 rfl ?_
    refine zr_iadd hx hb dL_law_771 ?_
    refine zr_sld hx hb hX hbl hbA hS 2 (by omega) (by omega) (by omega) dL_law_772 ?_
    refine zc_l (wr := [(ou, zaL (G.2 0) 1 (fz))]) (va_runV (As := [.int (iz (zv xs 1)), .int (iz (zv xs 2))]) (rest := []) ⟨hx, hb, hml, hown, hts⟩ (c_X12_worth_o l G nA nB nE mm ma mt ml mw mb mp 0 (zv xs 1) (zv xs 2) (by omega) (by omega) (by omega) H.size) (cwV 2 hts gL_law_X12_worth rfl rfl rfl (by decide +kernel) ⟨Nat.le_of_ble_eq_true rfl, Nat.le_of_ble_eq_true rfl⟩) (zpVe zE_ok hE hS hA hKX hP hD [0, 1] rfl rfl (va_recv hK hP (ci := 13) (q0 := 0) rfl rfl)) rfl rfl hl.1 rfl (lv_room (Nat.le_of_ble_eq_true rfl)) dL_law_773 ⟨(by show _ ≤ (600002 : Nat); omega), (by show _ ≤ (7302232 : Nat); omega)⟩) hP hD hS hA [0, 1] [2] rfl rfl rfl (by decide) (fun zm u_3 H locs hm hP hD hS => ?_)
    generalize u_3 = thm at hP hD hm
    have hP : va_P G.1 vwCl [(ou, zaL (G.2 0) 1 (fz)), (mm, .inr (13, [.int (iz (thm)), .int (iz (6)), .ref ma, .null, .ref mt, .ref ml, .int (iz (0)), .ref mw, .int (iz (0)), .ref mb, .ref mp, .int (iz (0))]))] H := hP
    have hD : va_D (zlA s) [(ou, zaL (G.2 0) 1 (fz)), (mm, .inr (13, [.int (iz (thm)), .int (iz (6)), .ref ma, .null, .ref mt, .ref ml, .int (iz (0)), .ref mw, .int (iz (0)), .ref mb, .ref mp, .int (iz (0))]))] := hD
    have hm : zm = 0 ∧ thm = 0 := hm
    have htp := hm.2
    have hval := hw.2.trans hm.1.symm
    refine lv_lstore (lv' := [(6, .long (lz (zm))), (5, .int (iz (0))), (0, .ref b), (1, .ref x), (2, .ref mm), (3, .ref ou), (4, .int (iz (0)))]) hx hb dL_law_776 hl (by decide) rfl (fun ls hl => ?_)
    refine lv_aload_n hx hb dL_law_778 rfl (lv_at hl 4 rfl) ?_
    refine zc_i (wr := [(ou, zaL (G.2 0) 1 (fz))]) (va_runV (As := []) (rest := []) ⟨hx, hb, hml, hown, hts⟩ (c_X12_thrown_v l G mm thm (.ref ma) .null (.ref mt) (.ref ml) (.int (iz (0))) (.ref mw) (.int (iz (0))) (.ref mb) (.ref mp) (.int (iz (0))) 6  H.size) (cwV 0 hts gL_law_X12_thrown rfl rfl rfl (by decide +kernel) ⟨Nat.le_of_ble_eq_true rfl, Nat.le_of_ble_eq_true rfl⟩) (zpV hKX hP hD [1] rfl rfl 1 13 rfl rfl) rfl rfl hl.1 rfl (lv_room (Nat.le_of_ble_eq_true rfl)) dL_law_779 ⟨(by show _ ≤ (600002 : Nat); omega), (by show _ ≤ (7302232 : Nat); omega)⟩) hP hD hS hA [1] [0] rfl rfl rfl (by decide) (fun th9 u_5 H locs hth hP hD hS => ?_)
    have hP : va_P G.1 vwCl [(ou, zaL (G.2 0) 1 (fz)), (mm, .inr (13, [.int (iz (thm)), .int (iz ((6 : Int))), .ref ma, .null, .ref mt, .ref ml, .int (iz (0)), .ref mw, .int (iz (0)), .ref mb, .ref mp, .int (iz (0))]))] H := hP
    have hD : va_D (zlA s) [(ou, zaL (G.2 0) 1 (fz)), (mm, .inr (13, [.int (iz (thm)), .int (iz ((6 : Int))), .ref ma, .null, .ref mt, .ref ml, .int (iz (0)), .ref mw, .int (iz (0)), .ref mb, .ref mp, .int (iz (0))]))] := hD
    have hth : th9 = thm := hth
    rw [show th9 = 0 from hth.trans htp]
    refine lv_iload hx hb dL_law_782 (lv_at hl 1 rfl) ?_
    refine zr_icmp_eq (x := 0) (y := 0) (tgt := 789) hx hb (⟨by omega, by omega⟩) (⟨by omega, by omega⟩) dL_law_784 (by decide) (fun h_7 => ?_) (fun h_7 => ?_)
    ·
      refine lv_iload hx hb dL_law_789 (lv_at hl 1 rfl) ?_
      refine zr_if_ne (x := 0) (tgt := 805) hx hb (⟨by omega, by omega⟩) dL_law_791 (by decide) (fun h_8 => ?_) (fun h_8 => ?_)
      · exact absurd h_8 (by omega)
      ·
        refine lv_aload_n hx hb dL_law_794 rfl (lv_at hl 5 rfl) ?_
        refine lv_iconst (v := iz (0)) hx hb dL_law_795 rfl ?_
        refine zr_lald hx hb hK hP 0 0 rfl rfl (i := 0) (⟨by omega, by omega, by omega⟩) dL_law_796 ?_
        refine lv_lload hx hb dL_law_797 (lv_at hl 0 rfl) ?_
        refine zr_lcmpS (x := fz 0) (y := zm) (tgt := 805) hx hb (by first | exact hval | exact hval.symm) dL_law_799 dL_law_800 (by decide) ?_
        refine lv_goto (tgt := 3039) hx hb dL_law_805 (by decide) ?_
        exact zl_end hL8 C0 hS (lv_sub hl [2, 6] rfl) (by show _ ≤ (600002 : Nat); omega) (by show _ ≤ (7302232 : Nat); omega)
    · exact absurd h_7 (by omega)
  ·
    refine lv_aload_n hx hb dL_law_741 rfl (lv_at hl 1 rfl) ?_
    refine lv_aload_n hx hb dL_law_742 rfl (lv_at hl 0 rfl) ?_
    refine lv_iload hx hb dL_law_743 (lv_at hl 4 rfl) ?_
    refine lv_iconst (v := iz (1)) hx hb dL_law_745 rfl ?_
    refine zr_iadd hx hb dL_law_746 ?_
    refine zr_sld hx hb hX hbl hbA hS 1 (by omega) (by omega) (by omega) dL_law_747 ?_
    refine lv_aload_n hx hb dL_law_748 rfl (lv_at hl 0 rfl) ?_
    refine lv_iload hx hb dL_law_749 (lv_at hl 4 rfl) ?_
    refine lv_iconst (v := iz (2)) hx hb dL_law_751 rfl ?_
    refine zr_iadd hx hb dL_law_752 ?_
    refine zr_sld hx hb hX hbl hbA hS 2 (by omega) (by omega) (by omega) dL_law_753 ?_
    refine lv_aload_n hx hb dL_law_754 rfl (lv_at hl 3 rfl) ?_
    refine zc_i (wr := [(rw, .inr (6, [.ref am, .ref q, .ref bq])), (am, zaL (G.2 0) 41 (fun _ => 0)), (q, .inr (2, [.ref sa, .ref da, .ref wa, .long (lz (1)), .long (lz (1)), .int (iz (0))])), (sa, .inr (9, [.ref sb, .int (iz (0)), .long (lz (0))])), (sb, zaL (G.2 0) 40 (fun _ => 0)), (da, .inr (9, [.ref db, .int (iz (0)), .long (lz (0))])), (db, zaL (G.2 0) 40 (fun _ => 0)), (wa, .inr (9, [.ref wb, .int (iz (0)), .long (lz (0))])), (wb, zaL (G.2 0) 40 (fun _ => 0)), (ro, .inr (5, [.int (iz (6))])), (mm, .inr (13, [.int (iz (0)), .int (iz (6)), .ref ma, .null, .ref mt, .ref ml, .int (iz (0)), .ref mw, .int (iz (0)), .ref mb, .ref mp, .int (iz (0))])), (ma, zaL (G.2 0) 41 (fun _ => 0))]) (vx_runSW (As := [.ref x, .int (iz (zv xs 1)), .int (iz (zv xs 2)), .ref ou]) (rest := []) ⟨hx, hb, hml, hown, hts⟩ (c_L_worth_x l G s1 s2 s3 x ro rw bo li sh tx lo nl (zv xs 1) (zv xs 2) ou (fun _ => 0) hl0 (by omega) (by omega) (by omega) H.size) (vx_cwSW 4 hts gL_law_L_worth rfl rfl rfl (by decide +kernel) ⟨Nat.le_of_ble_eq_true rfl, Nat.le_of_ble_eq_true rfl⟩) (zpSe zXL_ok hEc hS hA hKX hP hD [0, 11] rfl rfl) rfl rfl hl.1 rfl (lv_room (Nat.le_of_ble_eq_true rfl)) dL_law_755 ⟨(by show _ ≤ (600002 : Nat); omega), (by show _ ≤ (7302232 : Nat); omega)⟩) hP hD hS hA [0, 11] [1, 2, 3, 4, 5, 6, 7, 8, 9, 10, 12, 13] rfl rfl rfl (by decide) (fun kk u_9 H locs hw hP hD hS => ?_)
    have hP : va_P G.1 vwCl [(rw, .inr (6, [.ref am, .ref q, .ref bq])), (am, zaL (G.2 0) 41 (fun _ => 0)), (q, .inr (2, [.ref sa, .ref da, .ref wa, .long (lz (1)), .long (lz (1)), .int (iz (0))])), (sa, .inr (9, [.ref sb, .int (iz (0)), .long (lz (0))])), (sb, zaL (G.2 0) 40 (fun _ => 0)), (da, .inr (9, [.ref db, .int (iz (0)), .long (lz (0))])), (db, zaL (G.2 0) 40 (fun _ => 0)), (wa, .inr (9, [.ref wb, .int (iz (0)), .long (lz (0))])), (wb, zaL (G.2 0) 40 (fun _ => 0)), (ro, .inr (5, [.int (iz (6))])), (mm, .inr (13, [.int (iz (0)), .int (iz (6)), .ref ma, .null, .ref mt, .ref ml, .int (iz (0)), .ref mw, .int (iz (0)), .ref mb, .ref mp, .int (iz (0))])), (ma, zaL (G.2 0) 41 (fun _ => 0)), (ou, zaL (G.2 0) 1 ((fun _ => 0)))] H := hP
    have hD : va_D (zlA s) [(rw, .inr (6, [.ref am, .ref q, .ref bq])), (am, zaL (G.2 0) 41 (fun _ => 0)), (q, .inr (2, [.ref sa, .ref da, .ref wa, .long (lz (1)), .long (lz (1)), .int (iz (0))])), (sa, .inr (9, [.ref sb, .int (iz (0)), .long (lz (0))])), (sb, zaL (G.2 0) 40 (fun _ => 0)), (da, .inr (9, [.ref db, .int (iz (0)), .long (lz (0))])), (db, zaL (G.2 0) 40 (fun _ => 0)), (wa, .inr (9, [.ref wb, .int (iz (0)), .long (lz (0))])), (wb, zaL (G.2 0) 40 (fun _ => 0)), (ro, .inr (5, [.int (iz (6))])), (mm, .inr (13, [.int (iz (0)), .int (iz (6)), .ref ma, .null, .ref mt, .ref ml, .int (iz (0)), .ref mw, .int (iz (0)), .ref mb, .ref mp, .int (iz (0))])), (ma, zaL (G.2 0) 41 (fun _ => 0)), (ou, zaL (G.2 0) 1 ((fun _ => 0)))] := hD
    have hw : kk = 1 := hw
    rw [show kk = 1 from hw]
    refine lv_istore (lv' := [(5, .int (iz (1))), (0, .ref b), (1, .ref x), (2, .ref mm), (3, .ref ou), (4, .int (iz (0)))]) hx hb dL_law_758 hl (by decide) rfl (fun ls hl => ?_)
    refine lv_aload_n hx hb dL_law_760 rfl (lv_at hl 3 rfl) ?_
    refine lv_aload_n hx hb dL_law_761 rfl (lv_at hl 1 rfl) ?_
    refine lv_iload hx hb dL_law_762 (lv_at hl 5 rfl) ?_
    refine lv_iconst (v := iz (1)) hx hb dL_law_764 rfl ?_
    refine zr_iadd hx hb dL_law_765 ?_
    refine zr_sld hx hb hX hbl hbA hS 1 (by omega) (by omega) (by omega) dL_law_766 ?_
    refine lv_aload_n hx hb dL_law_767 rfl (lv_at hl 1 rfl) ?_
    refine lv_iload hx hb dL_law_768 (lv_at hl 5 rfl) ?_
    refine lv_iconst (v := iz (2)) hx hb dL_law_770 rfl ?_
    refine zr_iadd hx hb dL_law_771 ?_
    refine zr_sld hx hb hX hbl hbA hS 2 (by omega) (by omega) (by omega) dL_law_772 ?_
    refine zc_l (wr := [(rw, .inr (6, [.ref am, .ref q, .ref bq])), (am, zaL (G.2 0) 41 (fun _ => 0)), (q, .inr (2, [.ref sa, .ref da, .ref wa, .long (lz (1)), .long (lz (1)), .int (iz (0))])), (sa, .inr (9, [.ref sb, .int (iz (0)), .long (lz (0))])), (sb, zaL (G.2 0) 40 (fun _ => 0)), (da, .inr (9, [.ref db, .int (iz (0)), .long (lz (0))])), (db, zaL (G.2 0) 40 (fun _ => 0)), (wa, .inr (9, [.ref wb, .int (iz (0)), .long (lz (0))])), (wb, zaL (G.2 0) 40 (fun _ => 0)), (ro, .inr (5, [.int (iz (6))])), (ou, zaL (G.2 0) 1 ((fun _ => 0)))]) (va_runV (As := [.int (iz (zv xs 1)), .int (iz (zv xs 2))]) (rest := []) ⟨hx, hb, hml, hown, hts⟩ (c_X12_worth_x l G nA nB nE mm ma mt ml mw mb mp 0 (zv xs 1) (zv xs 2) (by omega) (by omega) (by omega) H.size) (cwV 2 hts gL_law_X12_worth rfl rfl rfl (by decide +kernel) ⟨Nat.le_of_ble_eq_true rfl, Nat.le_of_ble_eq_true rfl⟩) (zpVe zE_ok hE hS hA hKX hP hD [10, 11] rfl rfl (va_recv hK hP (ci := 13) (q0 := 10) rfl rfl)) rfl rfl hl.1 rfl (lv_room (Nat.le_of_ble_eq_true rfl)) dL_law_773 ⟨(by show _ ≤ (600002 : Nat); omega), (by show _ ≤ (7302232 : Nat); omega)⟩) hP hD hS hA [10, 11] [0, 1, 2, 3, 4, 5, 6, 7, 8, 9, 12] rfl rfl rfl (by decide) (fun zm u_11 H locs hm hP hD hS => ?_)
    generalize u_11 = thm at hP hD hm
    have hP : va_P G.1 vwCl [(rw, .inr (6, [.ref am, .ref q, .ref bq])), (am, zaL (G.2 0) 41 (fun _ => 0)), (q, .inr (2, [.ref sa, .ref da, .ref wa, .long (lz (1)), .long (lz (1)), .int (iz (0))])), (sa, .inr (9, [.ref sb, .int (iz (0)), .long (lz (0))])), (sb, zaL (G.2 0) 40 (fun _ => 0)), (da, .inr (9, [.ref db, .int (iz (0)), .long (lz (0))])), (db, zaL (G.2 0) 40 (fun _ => 0)), (wa, .inr (9, [.ref wb, .int (iz (0)), .long (lz (0))])), (wb, zaL (G.2 0) 40 (fun _ => 0)), (ro, .inr (5, [.int (iz (6))])), (ou, zaL (G.2 0) 1 ((fun _ => 0))), (mm, .inr (13, [.int (iz (thm)), .int (iz (6)), .ref ma, .null, .ref mt, .ref ml, .int (iz (0)), .ref mw, .int (iz (0)), .ref mb, .ref mp, .int (iz (0))]))] H := hP
    have hD : va_D (zlA s) [(rw, .inr (6, [.ref am, .ref q, .ref bq])), (am, zaL (G.2 0) 41 (fun _ => 0)), (q, .inr (2, [.ref sa, .ref da, .ref wa, .long (lz (1)), .long (lz (1)), .int (iz (0))])), (sa, .inr (9, [.ref sb, .int (iz (0)), .long (lz (0))])), (sb, zaL (G.2 0) 40 (fun _ => 0)), (da, .inr (9, [.ref db, .int (iz (0)), .long (lz (0))])), (db, zaL (G.2 0) 40 (fun _ => 0)), (wa, .inr (9, [.ref wb, .int (iz (0)), .long (lz (0))])), (wb, zaL (G.2 0) 40 (fun _ => 0)), (ro, .inr (5, [.int (iz (6))])), (ou, zaL (G.2 0) 1 ((fun _ => 0))), (mm, .inr (13, [.int (iz (thm)), .int (iz (6)), .ref ma, .null, .ref mt, .ref ml, .int (iz (0)), .ref mw, .int (iz (0)), .ref mb, .ref mp, .int (iz (0))]))] := hD
    have hm : zm = 0 ∧ thm = 1 := hm
    have htp := hm.2
    refine lv_lstore (lv' := [(6, .long (lz (zm))), (5, .int (iz (1))), (0, .ref b), (1, .ref x), (2, .ref mm), (3, .ref ou), (4, .int (iz (0)))]) hx hb dL_law_776 hl (by decide) rfl (fun ls hl => ?_)
    refine lv_aload_n hx hb dL_law_778 rfl (lv_at hl 4 rfl) ?_
    refine zc_i (wr := [(rw, .inr (6, [.ref am, .ref q, .ref bq])), (am, zaL (G.2 0) 41 (fun _ => 0)), (q, .inr (2, [.ref sa, .ref da, .ref wa, .long (lz (1)), .long (lz (1)), .int (iz (0))])), (sa, .inr (9, [.ref sb, .int (iz (0)), .long (lz (0))])), (sb, zaL (G.2 0) 40 (fun _ => 0)), (da, .inr (9, [.ref db, .int (iz (0)), .long (lz (0))])), (db, zaL (G.2 0) 40 (fun _ => 0)), (wa, .inr (9, [.ref wb, .int (iz (0)), .long (lz (0))])), (wb, zaL (G.2 0) 40 (fun _ => 0)), (ro, .inr (5, [.int (iz (6))])), (ou, zaL (G.2 0) 1 ((fun _ => 0)))]) (va_runV (As := []) (rest := []) ⟨hx, hb, hml, hown, hts⟩ (c_X12_thrown_v l G mm thm (.ref ma) .null (.ref mt) (.ref ml) (.int (iz (0))) (.ref mw) (.int (iz (0))) (.ref mb) (.ref mp) (.int (iz (0))) 6  H.size) (cwV 0 hts gL_law_X12_thrown rfl rfl rfl (by decide +kernel) ⟨Nat.le_of_ble_eq_true rfl, Nat.le_of_ble_eq_true rfl⟩) (zpV hKX hP hD [11] rfl rfl 11 13 rfl rfl) rfl rfl hl.1 rfl (lv_room (Nat.le_of_ble_eq_true rfl)) dL_law_779 ⟨(by show _ ≤ (600002 : Nat); omega), (by show _ ≤ (7302232 : Nat); omega)⟩) hP hD hS hA [11] [0, 1, 2, 3, 4, 5, 6, 7, 8, 9, 10] rfl rfl rfl (by decide) (fun th9 u_13 H locs hth hP hD hS => ?_)
    have hP : va_P G.1 vwCl [(rw, .inr (6, [.ref am, .ref q, .ref bq])), (am, zaL (G.2 0) 41 (fun _ => 0)), (q, .inr (2, [.ref sa, .ref da, .ref wa, .long (lz (1)), .long (lz (1)), .int (iz (0))])), (sa, .inr (9, [.ref sb, .int (iz (0)), .long (lz (0))])), (sb, zaL (G.2 0) 40 (fun _ => 0)), (da, .inr (9, [.ref db, .int (iz (0)), .long (lz (0))])), (db, zaL (G.2 0) 40 (fun _ => 0)), (wa, .inr (9, [.ref wb, .int (iz (0)), .long (lz (0))])), (wb, zaL (G.2 0) 40 (fun _ => 0)), (ro, .inr (5, [.int (iz (6))])), (ou, zaL (G.2 0) 1 ((fun _ => 0))), (mm, .inr (13, [.int (iz (thm)), .int (iz ((6 : Int))), .ref ma, .null, .ref mt, .ref ml, .int (iz (0)), .ref mw, .int (iz (0)), .ref mb, .ref mp, .int (iz (0))]))] H := hP
    have hD : va_D (zlA s) [(rw, .inr (6, [.ref am, .ref q, .ref bq])), (am, zaL (G.2 0) 41 (fun _ => 0)), (q, .inr (2, [.ref sa, .ref da, .ref wa, .long (lz (1)), .long (lz (1)), .int (iz (0))])), (sa, .inr (9, [.ref sb, .int (iz (0)), .long (lz (0))])), (sb, zaL (G.2 0) 40 (fun _ => 0)), (da, .inr (9, [.ref db, .int (iz (0)), .long (lz (0))])), (db, zaL (G.2 0) 40 (fun _ => 0)), (wa, .inr (9, [.ref wb, .int (iz (0)), .long (lz (0))])), (wb, zaL (G.2 0) 40 (fun _ => 0)), (ro, .inr (5, [.int (iz (6))])), (ou, zaL (G.2 0) 1 ((fun _ => 0))), (mm, .inr (13, [.int (iz (thm)), .int (iz ((6 : Int))), .ref ma, .null, .ref mt, .ref ml, .int (iz (0)), .ref mw, .int (iz (0)), .ref mb, .ref mp, .int (iz (0))]))] := hD
    have hth : th9 = thm := hth
    rw [show th9 = 1 from hth.trans htp]
    refine lv_iload hx hb dL_law_782 (lv_at hl 1 rfl) ?_
    refine zr_icmp_eq (x := 1) (y := 1) (tgt := 789) hx hb (⟨by omega, by omega⟩) (⟨by omega, by omega⟩) dL_law_784 (by decide) (fun h_15 => ?_) (fun h_15 => ?_)
    ·
      refine lv_iload hx hb dL_law_789 (lv_at hl 1 rfl) ?_
      refine zr_if_ne (x := 1) (tgt := 805) hx hb (⟨by omega, by omega⟩) dL_law_791 (by decide) (fun h_16 => ?_) (fun h_16 => ?_)
      ·
        refine lv_goto (tgt := 3039) hx hb dL_law_805 (by decide) ?_
        exact zl_end hL8 C0 hS (lv_sub hl [2, 6] rfl) (by show _ ≤ (600002 : Nat); omega) (by show _ ≤ (7302232 : Nat); omega)
      · exact absurd h_16 (by omega)
    · exact absurd h_15 (by omega)

set_option maxHeartbeats 4000000 in
set_option maxRecDepth 100000 in
theorem zl_8 {p : Program} {e : Env} {s : State} {m : MethodId} {below : List Frame} {meth : Method} {c : Code} {l : Launch} (hl0 : l.stackTraces = false) {b L : Nat} {xs : Nat → Int32} (hL8 : L = 8) (C0 : lw_At p s m meth c b L xs) {G : zG} {nA nB nE s1 s2 s3 : Nat} (hKX : zK G s) (hEm : zE G nA nB nE (zlA s) s) (hEc : zXL s1 s2 s3 (zlA s) s) (x : Nat) (ro : Nat) (rw : Nat) (bo : Nat) (li : Nat) (sh : Nat) (tx : Nat) (lo : Nat) (nl : Nat) (am : Nat) (q : Nat) (bq : Nat) (sa : Nat) (da : Nat) (wa : Nat) (sb : Nat) (db : Nat) (ou : Nat) (mm : Nat) (ma : Nat) (mt : Nat) (ml : Nat) (mw : Nat) (mb : Nat) (mp : Nat) {H : Heap} {locs : List Loc} {ls : Array Slot} (hP : va_P G.1 vwCl [(x, .inr (10, [.ref ro, .ref rw, .ref bo, .ref li, .ref sh, .ref tx, .ref lo, .ref nl])), (rw, .inr (6, [.ref am, .ref q, .ref bq])), (am, zaL (G.2 0) 41 (fun _ => 0)), (q, .inr (2, [.ref sa, .ref da, .ref wa, .long (lz (1)), .long (lz (1)), .int (iz (0))])), (sa, .inr (9, [.ref sb, .int (iz (0)), .long (lz (0))])), (sb, zaL (G.2 0) 40 (fun _ => 0)), (da, .inr (9, [.ref db, .int (iz (0)), .long (lz (0))])), (db, zaL (G.2 0) 40 (fun _ => 0)), (ou, zaL (G.2 0) 1 (fun _ => 0)), (mm, .inr (13, [.int (iz (0)), .int (iz (6)), .ref ma, .null, .ref mt, .ref ml, .int (iz (0)), .ref mw, .int (iz (0)), .ref mb, .ref mp, .int (iz (0))])), (ma, zaL (G.2 0) 41 (fun _ => 0))] H) (hD : va_D (zlA s) [(x, .inr (10, [.ref ro, .ref rw, .ref bo, .ref li, .ref sh, .ref tx, .ref lo, .ref nl])), (rw, .inr (6, [.ref am, .ref q, .ref bq])), (am, zaL (G.2 0) 41 (fun _ => 0)), (q, .inr (2, [.ref sa, .ref da, .ref wa, .long (lz (1)), .long (lz (1)), .int (iz (0))])), (sa, .inr (9, [.ref sb, .int (iz (0)), .long (lz (0))])), (sb, zaL (G.2 0) 40 (fun _ => 0)), (da, .inr (9, [.ref db, .int (iz (0)), .long (lz (0))])), (db, zaL (G.2 0) 40 (fun _ => 0)), (ou, zaL (G.2 0) 1 (fun _ => 0)), (mm, .inr (13, [.int (iz (0)), .int (iz (6)), .ref ma, .null, .ref mt, .ref ml, .int (iz (0)), .ref mw, .int (iz (0)), .ref mb, .ref mp, .int (iz (0))])), (ma, zaL (G.2 0) 41 (fun _ => 0))]) (hS : va_S (zlA s) s.heap H locs) (hl : lv_has ls 9 [(0, .ref b), (1, .ref x), (2, .ref mm), (3, .ref ou), (4, .int (iz (0)))]) : W p l e room_1 s m #[Value.ref b] below meth c H locs 200 4000 (lw_Z below #[Value.ref b] s) (F0 m 808 ls []) := by
  obtain ⟨hx, hb, hr, hml, hown, hts, hX, hbl, hlocks, hgv⟩ := id C0
  have hbA : ¬ zlA s b := Nat.not_le.mpr hbl
  have hK := hKX.1
  have hts : ∀ w ∈ wsL_law, w.before #[Value.ref b] s = true := fun w h => hts w (wsL_law_in w h)
  have hown : s.vm.findClass RL = some m.cls := hown
  have hA : ∀ q : Nat, s.heap.size ≤ q → zlA s q := fun _ h => h
  have hE := hEm
  have hv1 := zv_rng xs 1
  have hv2 := zv_rng xs 2
  have hv3 := zv_rng xs 3
  have hv4 := zv_rng xs 4
  have hv5 := zv_rng xs 5
  have hv6 := zv_rng xs 6
  have hv7 := zv_rng xs 7
  by_cases hco0 : 0 ≤ (zv xs 1) ∧ (zv xs 1) ≤ 20000
  ·
    refine lv_aload_n hx hb dL_law_808 rfl (lv_at hl 1 rfl) ?_
    refine lv_aload_n hx hb dL_law_809 rfl (lv_at hl 0 rfl) ?_
    refine lv_iload hx hb dL_law_810 (lv_at hl 4 rfl) ?_
    refine lv_iconst (v := iz (1)) hx hb dL_law_812 rfl ?_
    refine zr_iadd hx hb dL_law_813 ?_
    refine zr_sld hx hb hX hbl hbA hS 1 (by omega) (by omega) (by omega) dL_law_814 ?_
    refine lv_aload_n hx hb dL_law_815 rfl (lv_at hl 3 rfl) ?_
    refine zc_i (wr := [(mm, .inr (13, [.int (iz (0)), .int (iz (6)), .ref ma, .null, .ref mt, .ref ml, .int (iz (0)), .ref mw, .int (iz (0)), .ref mb, .ref mp, .int (iz (0))])), (ma, zaL (G.2 0) 41 (fun _ => 0))]) (vx_runSW (As := [.ref x, .int (iz (zv xs 1)), .ref ou]) (rest := []) ⟨hx, hb, hml, hown, hts⟩ (c_L_signAt_o l G x ro rw bo li sh tx lo nl am q bq wa sa sb da db (zv xs 1) ou (fun _ => 0) (by omega) (by omega) H.size) (vx_cwSW 3 hts gL_law_L_signAt rfl rfl rfl (by decide +kernel) ⟨Nat.le_of_ble_eq_true rfl, Nat.le_of_ble_eq_true rfl⟩) (zpS hKX hP hD [0, 1, 2, 3, 4, 5, 6, 7, 8] rfl rfl) rfl rfl hl.1 rfl (lv_room (Nat.le_of_ble_eq_true rfl)) dL_law_816 ⟨(by show _ ≤ (600002 : Nat); omega), (by show _ ≤ (7302232 : Nat); omega)⟩) hP hD hS hA [0, 1, 2, 3, 4, 5, 6, 7, 8] [9, 10] rfl rfl rfl (by decide) (fun kk u_1 H locs hw hP hD hS => ?_)
    generalize u_1 = fz at hP hD hw
    have hP : va_P G.1 vwCl [(mm, .inr (13, [.int (iz (0)), .int (iz (6)), .ref ma, .null, .ref mt, .ref ml, .int (iz (0)), .ref mw, .int (iz (0)), .ref mb, .ref mp, .int (iz (0))])), (ma, zaL (G.2 0) 41 (fun _ => 0)), (ou, zaL (G.2 0) 1 (fz))] H := hP
    have hD : va_D (zlA s) [(mm, .inr (13, [.int (iz (0)), .int (iz (6)), .ref ma, .null, .ref mt, .ref ml, .int (iz (0)), .ref mw, .int (iz (0)), .ref mb, .ref mp, .int (iz (0))])), (ma, zaL (G.2 0) 41 (fun _ => 0)), (ou, zaL (G.2 0) 1 (fz))] := hD
    have hw : kk = 0 ∧ (fz 0) = 0 := hw
    rw [show kk = 0 from hw.1]
    refine lv_istore (lv' := [(5, .int (iz (0))), (0, .ref b), (1, .ref x), (2, .ref mm), (3, .ref ou), (4, .int (iz (0)))]) hx hb dL_law_819 hl (by decide) rfl (fun ls hl => ?_)
    refine lv_aload_n hx hb dL_law_821 rfl (lv_at hl 3 rfl) ?_
    refine lv_aload_n hx hb dL_law_822 rfl (lv_at hl 1 rfl) ?_
    refine lv_iload hx hb dL_law_823 (lv_at hl 5 rfl) ?_
    refine lv_iconst (v := iz (1)) hx hb dL_law_825 rfl ?_
    refine zr_iadd hx hb dL_law_826 ?_
    refine zr_sld hx hb hX hbl hbA hS 1 (by omega) (by omega) (by omega) dL_law_827 ?_
    refine zc_i (wr := [(ou, zaL (G.2 0) 1 (fz))]) (va_runV (As := [.int (iz (zv xs 1))]) (rest := []) ⟨hx, hb, hml, hown, hts⟩ (c_X12_signAt_o l G nA nB nE mm ma mt ml mw mb mp 0 (zv xs 1) (by omega) (by omega) H.size) (cwV 1 hts gL_law_X12_signAt rfl rfl rfl (by decide +kernel) ⟨Nat.le_of_ble_eq_true rfl, Nat.le_of_ble_eq_true rfl⟩) (zpVe zE_ok hE hS hA hKX hP hD [0, 1] rfl rfl (va_recv hK hP (ci := 13) (q0 := 0) rfl rfl)) rfl rfl hl.1 rfl (lv_room (Nat.le_of_ble_eq_true rfl)) dL_law_828 ⟨(by show _ ≤ (600002 : Nat); omega), (by show _ ≤ (7302232 : Nat); omega)⟩) hP hD hS hA [0, 1] [2] rfl rfl rfl (by decide) (fun zm u_3 H locs hm hP hD hS => ?_)
    generalize u_3 = thm at hP hD hm
    have hP : va_P G.1 vwCl [(ou, zaL (G.2 0) 1 (fz)), (mm, .inr (13, [.int (iz (thm)), .int (iz (6)), .ref ma, .null, .ref mt, .ref ml, .int (iz (0)), .ref mw, .int (iz (0)), .ref mb, .ref mp, .int (iz (0))]))] H := hP
    have hD : va_D (zlA s) [(ou, zaL (G.2 0) 1 (fz)), (mm, .inr (13, [.int (iz (thm)), .int (iz (6)), .ref ma, .null, .ref mt, .ref ml, .int (iz (0)), .ref mw, .int (iz (0)), .ref mb, .ref mp, .int (iz (0))]))] := hD
    have hm : zm = 0 ∧ thm = 0 := hm
    have htp := hm.2
    have hval := hw.2.trans hm.1.symm
    refine lv_istore (lv' := [(6, .int (iz (zm))), (5, .int (iz (0))), (0, .ref b), (1, .ref x), (2, .ref mm), (3, .ref ou), (4, .int (iz (0)))]) hx hb dL_law_831 hl (by decide) rfl (fun ls hl => ?_)
    refine lv_aload_n hx hb dL_law_833 rfl (lv_at hl 4 rfl) ?_
    refine zc_i (wr := [(ou, zaL (G.2 0) 1 (fz))]) (va_runV (As := []) (rest := []) ⟨hx, hb, hml, hown, hts⟩ (c_X12_thrown_v l G mm thm (.ref ma) .null (.ref mt) (.ref ml) (.int (iz (0))) (.ref mw) (.int (iz (0))) (.ref mb) (.ref mp) (.int (iz (0))) 6  H.size) (cwV 0 hts gL_law_X12_thrown rfl rfl rfl (by decide +kernel) ⟨Nat.le_of_ble_eq_true rfl, Nat.le_of_ble_eq_true rfl⟩) (zpV hKX hP hD [1] rfl rfl 1 13 rfl rfl) rfl rfl hl.1 rfl (lv_room (Nat.le_of_ble_eq_true rfl)) dL_law_834 ⟨(by show _ ≤ (600002 : Nat); omega), (by show _ ≤ (7302232 : Nat); omega)⟩) hP hD hS hA [1] [0] rfl rfl rfl (by decide) (fun th9 u_5 H locs hth hP hD hS => ?_)
    have hP : va_P G.1 vwCl [(ou, zaL (G.2 0) 1 (fz)), (mm, .inr (13, [.int (iz (thm)), .int (iz ((6 : Int))), .ref ma, .null, .ref mt, .ref ml, .int (iz (0)), .ref mw, .int (iz (0)), .ref mb, .ref mp, .int (iz (0))]))] H := hP
    have hD : va_D (zlA s) [(ou, zaL (G.2 0) 1 (fz)), (mm, .inr (13, [.int (iz (thm)), .int (iz ((6 : Int))), .ref ma, .null, .ref mt, .ref ml, .int (iz (0)), .ref mw, .int (iz (0)), .ref mb, .ref mp, .int (iz (0))]))] := hD
    have hth : th9 = thm := hth
    rw [show th9 = 0 from hth.trans htp]
    refine lv_iload hx hb dL_law_837 (lv_at hl 1 rfl) ?_
    refine zr_icmp_eq (x := 0) (y := 0) (tgt := 844) hx hb (⟨by omega, by omega⟩) (⟨by omega, by omega⟩) dL_law_839 (by decide) (fun h_7 => ?_) (fun h_7 => ?_)
    ·
      refine lv_iload hx hb dL_law_844 (lv_at hl 1 rfl) ?_
      refine zr_if_ne (x := 0) (tgt := 861) hx hb (⟨by omega, by omega⟩) dL_law_846 (by decide) (fun h_8 => ?_) (fun h_8 => ?_)
      · exact absurd h_8 (by omega)
      ·
        refine lv_aload_n hx hb dL_law_849 rfl (lv_at hl 5 rfl) ?_
        refine lv_iconst (v := iz (0)) hx hb dL_law_850 rfl ?_
        refine zr_lald hx hb hK hP 0 0 rfl rfl (i := 0) (⟨by omega, by omega, by omega⟩) dL_law_851 ?_
        refine lv_iload hx hb dL_law_852 (lv_at hl 0 rfl) ?_
        refine zr_i2l hx hb (x := zm) (⟨by omega, by omega⟩) dL_law_854 ?_
        refine zr_lcmpS (x := fz 0) (y := zm) (tgt := 861) hx hb (by first | exact hval | exact hval.symm) dL_law_855 dL_law_856 (by decide) ?_
        refine lv_goto (tgt := 3039) hx hb dL_law_861 (by decide) ?_
        exact zl_end hL8 C0 hS (lv_sub hl [2, 6] rfl) (by show _ ≤ (600002 : Nat); omega) (by show _ ≤ (7302232 : Nat); omega)
    · exact absurd h_7 (by omega)
  ·
    refine lv_aload_n hx hb dL_law_808 rfl (lv_at hl 1 rfl) ?_
    refine lv_aload_n hx hb dL_law_809 rfl (lv_at hl 0 rfl) ?_
    refine lv_iload hx hb dL_law_810 (lv_at hl 4 rfl) ?_
    refine lv_iconst (v := iz (1)) hx hb dL_law_812 rfl ?_
    refine zr_iadd hx hb dL_law_813 ?_
    refine zr_sld hx hb hX hbl hbA hS 1 (by omega) (by omega) (by omega) dL_law_814 ?_
    refine lv_aload_n hx hb dL_law_815 rfl (lv_at hl 3 rfl) ?_
    refine zc_i (wr := [(rw, .inr (6, [.ref am, .ref q, .ref bq])), (am, zaL (G.2 0) 41 (fun _ => 0)), (q, .inr (2, [.ref sa, .ref da, .ref wa, .long (lz (1)), .long (lz (1)), .int (iz (0))])), (sa, .inr (9, [.ref sb, .int (iz (0)), .long (lz (0))])), (sb, zaL (G.2 0) 40 (fun _ => 0)), (da, .inr (9, [.ref db, .int (iz (0)), .long (lz (0))])), (db, zaL (G.2 0) 40 (fun _ => 0)), (mm, .inr (13, [.int (iz (0)), .int (iz (6)), .ref ma, .null, .ref mt, .ref ml, .int (iz (0)), .ref mw, .int (iz (0)), .ref mb, .ref mp, .int (iz (0))])), (ma, zaL (G.2 0) 41 (fun _ => 0))]) (vx_runSW (As := [.ref x, .int (iz (zv xs 1)), .ref ou]) (rest := []) ⟨hx, hb, hml, hown, hts⟩ (c_L_signAt_x l G s1 s2 s3 x ro rw bo li sh tx lo nl (zv xs 1) ou (fun _ => 0) hl0 (by omega) (by omega) H.size) (vx_cwSW 3 hts gL_law_L_signAt rfl rfl rfl (by decide +kernel) ⟨Nat.le_of_ble_eq_true rfl, Nat.le_of_ble_eq_true rfl⟩) (zpSe zXL_ok hEc hS hA hKX hP hD [0, 8] rfl rfl) rfl rfl hl.1 rfl (lv_room (Nat.le_of_ble_eq_true rfl)) dL_law_816 ⟨(by show _ ≤ (600002 : Nat); omega), (by show _ ≤ (7302232 : Nat); omega)⟩) hP hD hS hA [0, 8] [1, 2, 3, 4, 5, 6, 7, 9, 10] rfl rfl rfl (by decide) (fun kk u_9 H locs hw hP hD hS => ?_)
    have hP : va_P G.1 vwCl [(rw, .inr (6, [.ref am, .ref q, .ref bq])), (am, zaL (G.2 0) 41 (fun _ => 0)), (q, .inr (2, [.ref sa, .ref da, .ref wa, .long (lz (1)), .long (lz (1)), .int (iz (0))])), (sa, .inr (9, [.ref sb, .int (iz (0)), .long (lz (0))])), (sb, zaL (G.2 0) 40 (fun _ => 0)), (da, .inr (9, [.ref db, .int (iz (0)), .long (lz (0))])), (db, zaL (G.2 0) 40 (fun _ => 0)), (mm, .inr (13, [.int (iz (0)), .int (iz (6)), .ref ma, .null, .ref mt, .ref ml, .int (iz (0)), .ref mw, .int (iz (0)), .ref mb, .ref mp, .int (iz (0))])), (ma, zaL (G.2 0) 41 (fun _ => 0)), (ou, zaL (G.2 0) 1 ((fun _ => 0)))] H := hP
    have hD : va_D (zlA s) [(rw, .inr (6, [.ref am, .ref q, .ref bq])), (am, zaL (G.2 0) 41 (fun _ => 0)), (q, .inr (2, [.ref sa, .ref da, .ref wa, .long (lz (1)), .long (lz (1)), .int (iz (0))])), (sa, .inr (9, [.ref sb, .int (iz (0)), .long (lz (0))])), (sb, zaL (G.2 0) 40 (fun _ => 0)), (da, .inr (9, [.ref db, .int (iz (0)), .long (lz (0))])), (db, zaL (G.2 0) 40 (fun _ => 0)), (mm, .inr (13, [.int (iz (0)), .int (iz (6)), .ref ma, .null, .ref mt, .ref ml, .int (iz (0)), .ref mw, .int (iz (0)), .ref mb, .ref mp, .int (iz (0))])), (ma, zaL (G.2 0) 41 (fun _ => 0)), (ou, zaL (G.2 0) 1 ((fun _ => 0)))] := hD
    have hw : kk = 1 := hw
    rw [show kk = 1 from hw]
    refine lv_istore (lv' := [(5, .int (iz (1))), (0, .ref b), (1, .ref x), (2, .ref mm), (3, .ref ou), (4, .int (iz (0)))]) hx hb dL_law_819 hl (by decide) rfl (fun ls hl => ?_)
    refine lv_aload_n hx hb dL_law_821 rfl (lv_at hl 3 rfl) ?_
    refine lv_aload_n hx hb dL_law_822 rfl (lv_at hl 1 rfl) ?_
    refine lv_iload hx hb dL_law_823 (lv_at hl 5 rfl) ?_
    refine lv_iconst (v := iz (1)) hx hb dL_law_825 rfl ?_
    refine zr_iadd hx hb dL_law_826 ?_
    refine zr_sld hx hb hX hbl hbA hS 1 (by omega) (by omega) (by omega) dL_law_827 ?_
    refine zc_i (wr := [(rw, .inr (6, [.ref am, .ref q, .ref bq])), (am, zaL (G.2 0) 41 (fun _ => 0)), (q, .inr (2, [.ref sa, .ref da, .ref wa, .long (lz (1)), .long (lz (1)), .int (iz (0))])), (sa, .inr (9, [.ref sb, .int (iz (0)), .long (lz (0))])), (sb, zaL (G.2 0) 40 (fun _ => 0)), (da, .inr (9, [.ref db, .int (iz (0)), .long (lz (0))])), (db, zaL (G.2 0) 40 (fun _ => 0)), (ou, zaL (G.2 0) 1 ((fun _ => 0)))]) (va_runV (As := [.int (iz (zv xs 1))]) (rest := []) ⟨hx, hb, hml, hown, hts⟩ (c_X12_signAt_x l G nA nB nE mm ma mt ml mw mb mp 0 (zv xs 1) (by omega) (by omega) H.size) (cwV 1 hts gL_law_X12_signAt rfl rfl rfl (by decide +kernel) ⟨Nat.le_of_ble_eq_true rfl, Nat.le_of_ble_eq_true rfl⟩) (zpVe zE_ok hE hS hA hKX hP hD [7, 8] rfl rfl (va_recv hK hP (ci := 13) (q0 := 7) rfl rfl)) rfl rfl hl.1 rfl (lv_room (Nat.le_of_ble_eq_true rfl)) dL_law_828 ⟨(by show _ ≤ (600002 : Nat); omega), (by show _ ≤ (7302232 : Nat); omega)⟩) hP hD hS hA [7, 8] [0, 1, 2, 3, 4, 5, 6, 9] rfl rfl rfl (by decide) (fun zm u_11 H locs hm hP hD hS => ?_)
    generalize u_11 = thm at hP hD hm
    have hP : va_P G.1 vwCl [(rw, .inr (6, [.ref am, .ref q, .ref bq])), (am, zaL (G.2 0) 41 (fun _ => 0)), (q, .inr (2, [.ref sa, .ref da, .ref wa, .long (lz (1)), .long (lz (1)), .int (iz (0))])), (sa, .inr (9, [.ref sb, .int (iz (0)), .long (lz (0))])), (sb, zaL (G.2 0) 40 (fun _ => 0)), (da, .inr (9, [.ref db, .int (iz (0)), .long (lz (0))])), (db, zaL (G.2 0) 40 (fun _ => 0)), (ou, zaL (G.2 0) 1 ((fun _ => 0))), (mm, .inr (13, [.int (iz (thm)), .int (iz (6)), .ref ma, .null, .ref mt, .ref ml, .int (iz (0)), .ref mw, .int (iz (0)), .ref mb, .ref mp, .int (iz (0))]))] H := hP
    have hD : va_D (zlA s) [(rw, .inr (6, [.ref am, .ref q, .ref bq])), (am, zaL (G.2 0) 41 (fun _ => 0)), (q, .inr (2, [.ref sa, .ref da, .ref wa, .long (lz (1)), .long (lz (1)), .int (iz (0))])), (sa, .inr (9, [.ref sb, .int (iz (0)), .long (lz (0))])), (sb, zaL (G.2 0) 40 (fun _ => 0)), (da, .inr (9, [.ref db, .int (iz (0)), .long (lz (0))])), (db, zaL (G.2 0) 40 (fun _ => 0)), (ou, zaL (G.2 0) 1 ((fun _ => 0))), (mm, .inr (13, [.int (iz (thm)), .int (iz (6)), .ref ma, .null, .ref mt, .ref ml, .int (iz (0)), .ref mw, .int (iz (0)), .ref mb, .ref mp, .int (iz (0))]))] := hD
    have hm : zm = 0 ∧ thm = 1 := hm
    have htp := hm.2
    refine lv_istore (lv' := [(6, .int (iz (zm))), (5, .int (iz (1))), (0, .ref b), (1, .ref x), (2, .ref mm), (3, .ref ou), (4, .int (iz (0)))]) hx hb dL_law_831 hl (by decide) rfl (fun ls hl => ?_)
    refine lv_aload_n hx hb dL_law_833 rfl (lv_at hl 4 rfl) ?_
    refine zc_i (wr := [(rw, .inr (6, [.ref am, .ref q, .ref bq])), (am, zaL (G.2 0) 41 (fun _ => 0)), (q, .inr (2, [.ref sa, .ref da, .ref wa, .long (lz (1)), .long (lz (1)), .int (iz (0))])), (sa, .inr (9, [.ref sb, .int (iz (0)), .long (lz (0))])), (sb, zaL (G.2 0) 40 (fun _ => 0)), (da, .inr (9, [.ref db, .int (iz (0)), .long (lz (0))])), (db, zaL (G.2 0) 40 (fun _ => 0)), (ou, zaL (G.2 0) 1 ((fun _ => 0)))]) (va_runV (As := []) (rest := []) ⟨hx, hb, hml, hown, hts⟩ (c_X12_thrown_v l G mm thm (.ref ma) .null (.ref mt) (.ref ml) (.int (iz (0))) (.ref mw) (.int (iz (0))) (.ref mb) (.ref mp) (.int (iz (0))) 6  H.size) (cwV 0 hts gL_law_X12_thrown rfl rfl rfl (by decide +kernel) ⟨Nat.le_of_ble_eq_true rfl, Nat.le_of_ble_eq_true rfl⟩) (zpV hKX hP hD [8] rfl rfl 8 13 rfl rfl) rfl rfl hl.1 rfl (lv_room (Nat.le_of_ble_eq_true rfl)) dL_law_834 ⟨(by show _ ≤ (600002 : Nat); omega), (by show _ ≤ (7302232 : Nat); omega)⟩) hP hD hS hA [8] [0, 1, 2, 3, 4, 5, 6, 7] rfl rfl rfl (by decide) (fun th9 u_13 H locs hth hP hD hS => ?_)
    have hP : va_P G.1 vwCl [(rw, .inr (6, [.ref am, .ref q, .ref bq])), (am, zaL (G.2 0) 41 (fun _ => 0)), (q, .inr (2, [.ref sa, .ref da, .ref wa, .long (lz (1)), .long (lz (1)), .int (iz (0))])), (sa, .inr (9, [.ref sb, .int (iz (0)), .long (lz (0))])), (sb, zaL (G.2 0) 40 (fun _ => 0)), (da, .inr (9, [.ref db, .int (iz (0)), .long (lz (0))])), (db, zaL (G.2 0) 40 (fun _ => 0)), (ou, zaL (G.2 0) 1 ((fun _ => 0))), (mm, .inr (13, [.int (iz (thm)), .int (iz ((6 : Int))), .ref ma, .null, .ref mt, .ref ml, .int (iz (0)), .ref mw, .int (iz (0)), .ref mb, .ref mp, .int (iz (0))]))] H := hP
    have hD : va_D (zlA s) [(rw, .inr (6, [.ref am, .ref q, .ref bq])), (am, zaL (G.2 0) 41 (fun _ => 0)), (q, .inr (2, [.ref sa, .ref da, .ref wa, .long (lz (1)), .long (lz (1)), .int (iz (0))])), (sa, .inr (9, [.ref sb, .int (iz (0)), .long (lz (0))])), (sb, zaL (G.2 0) 40 (fun _ => 0)), (da, .inr (9, [.ref db, .int (iz (0)), .long (lz (0))])), (db, zaL (G.2 0) 40 (fun _ => 0)), (ou, zaL (G.2 0) 1 ((fun _ => 0))), (mm, .inr (13, [.int (iz (thm)), .int (iz ((6 : Int))), .ref ma, .null, .ref mt, .ref ml, .int (iz (0)), .ref mw, .int (iz (0)), .ref mb, .ref mp, .int (iz (0))]))] := hD
    have hth : th9 = thm := hth
    rw [show th9 = 1 from hth.trans htp]
    refine lv_iload hx hb dL_law_837 (lv_at hl 1 rfl) ?_
    refine zr_icmp_eq (x := 1) (y := 1) (tgt := 844) hx hb (⟨by omega, by omega⟩) (⟨by omega, by omega⟩) dL_law_839 (by decide) (fun h_15 => ?_) (fun h_15 => ?_)
    ·
      refine lv_iload hx hb dL_law_844 (lv_at hl 1 rfl) ?_
      refine zr_if_ne (x := 1) (tgt := 861) hx hb (⟨by omega, by omega⟩) dL_law_846 (by decide) (fun h_16 => ?_) (fun h_16 => ?_)
      ·
        refine lv_goto (tgt := 3039) hx hb dL_law_861 (by decide) ?_
        exact zl_end hL8 C0 hS (lv_sub hl [2, 6] rfl) (by show _ ≤ (600002 : Nat); omega) (by show _ ≤ (7302232 : Nat); omega)
      · exact absurd h_16 (by omega)
    · exact absurd h_15 (by omega)

set_option maxHeartbeats 4000000 in
set_option maxRecDepth 100000 in
theorem zl_9 {p : Program} {e : Env} {s : State} {m : MethodId} {below : List Frame} {meth : Method} {c : Code} {l : Launch} (hl0 : l.stackTraces = false) {b L : Nat} {xs : Nat → Int32} (hL8 : L = 8) (C0 : lw_At p s m meth c b L xs) {G : zG} {nA nB nE s1 s2 s3 : Nat} (hKX : zK G s) (hEm : zE G nA nB nE (zlA s) s) (hEc : zXL s1 s2 s3 (zlA s) s) (x : Nat) (ro : Nat) (rw : Nat) (bo : Nat) (li : Nat) (sh : Nat) (tx : Nat) (lo : Nat) (nl : Nat) (am : Nat) (q : Nat) (bq : Nat) (ou : Nat) (mm : Nat) (ma : Nat) (mt : Nat) (ml : Nat) (mw : Nat) (mb : Nat) (mp : Nat) {H : Heap} {locs : List Loc} {ls : Array Slot} (hP : va_P G.1 vwCl [(x, .inr (10, [.ref ro, .ref rw, .ref bo, .ref li, .ref sh, .ref tx, .ref lo, .ref nl])), (rw, .inr (6, [.ref am, .ref q, .ref bq])), (am, zaL (G.2 0) 41 (fun _ => 0)), (ou, zaL (G.2 0) 1 (fun _ => 0)), (mm, .inr (13, [.int (iz (0)), .int (iz (6)), .ref ma, .null, .ref mt, .ref ml, .int (iz (0)), .ref mw, .int (iz (0)), .ref mb, .ref mp, .int (iz (0))])), (ma, zaL (G.2 0) 41 (fun _ => 0))] H) (hD : va_D (zlA s) [(x, .inr (10, [.ref ro, .ref rw, .ref bo, .ref li, .ref sh, .ref tx, .ref lo, .ref nl])), (rw, .inr (6, [.ref am, .ref q, .ref bq])), (am, zaL (G.2 0) 41 (fun _ => 0)), (ou, zaL (G.2 0) 1 (fun _ => 0)), (mm, .inr (13, [.int (iz (0)), .int (iz (6)), .ref ma, .null, .ref mt, .ref ml, .int (iz (0)), .ref mw, .int (iz (0)), .ref mb, .ref mp, .int (iz (0))])), (ma, zaL (G.2 0) 41 (fun _ => 0))]) (hS : va_S (zlA s) s.heap H locs) (hl : lv_has ls 9 [(0, .ref b), (1, .ref x), (2, .ref mm), (3, .ref ou), (4, .int (iz (0)))]) : W p l e room_1 s m #[Value.ref b] below meth c H locs 200 4000 (lw_Z below #[Value.ref b] s) (F0 m 864 ls []) := by
  obtain ⟨hx, hb, hr, hml, hown, hts, hX, hbl, hlocks, hgv⟩ := id C0
  have hbA : ¬ zlA s b := Nat.not_le.mpr hbl
  have hK := hKX.1
  have hts : ∀ w ∈ wsL_law, w.before #[Value.ref b] s = true := fun w h => hts w (wsL_law_in w h)
  have hown : s.vm.findClass RL = some m.cls := hown
  have hA : ∀ q : Nat, s.heap.size ≤ q → zlA s q := fun _ h => h
  have hE := hEm
  have hv1 := zv_rng xs 1
  have hv2 := zv_rng xs 2
  have hv3 := zv_rng xs 3
  have hv4 := zv_rng xs 4
  have hv5 := zv_rng xs 5
  have hv6 := zv_rng xs 6
  have hv7 := zv_rng xs 7
  refine lv_aload_n hx hb dL_law_864 rfl (lv_at hl 1 rfl) ?_
  refine zc_i (wr := [(ou, zaL (G.2 0) 1 (fun _ => 0)), (mm, .inr (13, [.int (iz (0)), .int (iz (6)), .ref ma, .null, .ref mt, .ref ml, .int (iz (0)), .ref mw, .int (iz (0)), .ref mb, .ref mp, .int (iz (0))])), (ma, zaL (G.2 0) 41 (fun _ => 0))]) (va_runV (As := []) (rest := []) ⟨hx, hb, hml, hown, hts⟩ (c_X9_changes l G x ro rw bo li sh tx lo nl am q bq  H.size) (cwV 0 hts gL_law_X9_changes rfl rfl rfl (by decide +kernel) ⟨Nat.le_of_ble_eq_true rfl, Nat.le_of_ble_eq_true rfl⟩) (zpV hKX hP hD [0, 1, 2] rfl rfl 0 10 rfl rfl) rfl rfl hl.1 rfl (lv_room (Nat.le_of_ble_eq_true rfl)) dL_law_865 ⟨(by show _ ≤ (600002 : Nat); omega), (by show _ ≤ (7302232 : Nat); omega)⟩) hP hD hS hA [0, 1, 2] [3, 4, 5] rfl rfl rfl (by decide) (fun zw u_1 H locs hw hP hD hS => ?_)
  have hP : va_P G.1 vwCl [(ou, zaL (G.2 0) 1 (fun _ => 0)), (mm, .inr (13, [.int (iz (0)), .int (iz (6)), .ref ma, .null, .ref mt, .ref ml, .int (iz (0)), .ref mw, .int (iz (0)), .ref mb, .ref mp, .int (iz (0))])), (ma, zaL (G.2 0) 41 (fun _ => 0)), (x, .inr (10, [.ref ro, .ref rw, .ref bo, .ref li, .ref sh, .ref tx, .ref lo, .ref nl])), (rw, .inr (6, [.ref am, .ref q, .ref bq])), (am, zaL (G.2 0) 41 (fun _ => 0))] H := hP
  have hD : va_D (zlA s) [(ou, zaL (G.2 0) 1 (fun _ => 0)), (mm, .inr (13, [.int (iz (0)), .int (iz (6)), .ref ma, .null, .ref mt, .ref ml, .int (iz (0)), .ref mw, .int (iz (0)), .ref mb, .ref mp, .int (iz (0))])), (ma, zaL (G.2 0) 41 (fun _ => 0)), (x, .inr (10, [.ref ro, .ref rw, .ref bo, .ref li, .ref sh, .ref tx, .ref lo, .ref nl])), (rw, .inr (6, [.ref am, .ref q, .ref bq])), (am, zaL (G.2 0) 41 (fun _ => 0))] := hD
  have hw : zw = 0 := hw
  refine lv_aload_n hx hb dL_law_868 rfl (lv_at hl 2 rfl) ?_
  refine zc_i (wr := [(ou, zaL (G.2 0) 1 (fun _ => 0)), (x, .inr (10, [.ref ro, .ref rw, .ref bo, .ref li, .ref sh, .ref tx, .ref lo, .ref nl])), (rw, .inr (6, [.ref am, .ref q, .ref bq])), (am, zaL (G.2 0) 41 (fun _ => 0))]) (va_runV (As := []) (rest := [.int (iz (zw))]) ⟨hx, hb, hml, hown, hts⟩ (c_X12_changes l G mm ma mt ml mw mb mp 0  H.size) (cwV 0 hts gL_law_X12_changes rfl rfl rfl (by decide +kernel) ⟨Nat.le_of_ble_eq_true rfl, Nat.le_of_ble_eq_true rfl⟩) (zpV hKX hP hD [1, 2] rfl rfl 1 13 rfl rfl) rfl rfl hl.1 rfl (lv_room (Nat.le_of_ble_eq_true rfl)) dL_law_869 ⟨(by show _ ≤ (600002 : Nat); omega), (by show _ ≤ (7302232 : Nat); omega)⟩) hP hD hS hA [1, 2] [0, 3, 4, 5] rfl rfl rfl (by decide) (fun zm u_3 H locs hm hP hD hS => ?_)
  generalize u_3 = thm at hP hD hm
  have hP : va_P G.1 vwCl [(ou, zaL (G.2 0) 1 (fun _ => 0)), (x, .inr (10, [.ref ro, .ref rw, .ref bo, .ref li, .ref sh, .ref tx, .ref lo, .ref nl])), (rw, .inr (6, [.ref am, .ref q, .ref bq])), (am, zaL (G.2 0) 41 (fun _ => 0)), (mm, .inr (13, [.int (iz (thm)), .int (iz (6)), .ref ma, .null, .ref mt, .ref ml, .int (iz (0)), .ref mw, .int (iz (0)), .ref mb, .ref mp, .int (iz (0))])), (ma, zaL (G.2 0) 41 (fun _ => 0))] H := hP
  have hD : va_D (zlA s) [(ou, zaL (G.2 0) 1 (fun _ => 0)), (x, .inr (10, [.ref ro, .ref rw, .ref bo, .ref li, .ref sh, .ref tx, .ref lo, .ref nl])), (rw, .inr (6, [.ref am, .ref q, .ref bq])), (am, zaL (G.2 0) 41 (fun _ => 0)), (mm, .inr (13, [.int (iz (thm)), .int (iz (6)), .ref ma, .null, .ref mt, .ref ml, .int (iz (0)), .ref mw, .int (iz (0)), .ref mb, .ref mp, .int (iz (0))])), (ma, zaL (G.2 0) 41 (fun _ => 0))] := hD
  have hm : zm = 0 ∧ thm = 0 := hm
  have htp := hm.2
  have hval := hw.trans hm.1.symm
  refine zr_icmpS (x := zw) (y := zm) (tgt := 3039) hx hb (by first | exact hval | exact hval.symm) dL_law_872 (by decide) ?_
  exact zl_end hL8 C0 hS (lv_sub hl [0, 4] rfl) (by show _ ≤ (600002 : Nat); omega) (by show _ ≤ (7302232 : Nat); omega)

set_option maxHeartbeats 4000000 in
set_option maxRecDepth 100000 in
theorem zl_10 {p : Program} {e : Env} {s : State} {m : MethodId} {below : List Frame} {meth : Method} {c : Code} {l : Launch} (hl0 : l.stackTraces = false) {b L : Nat} {xs : Nat → Int32} (hL8 : L = 8) (C0 : lw_At p s m meth c b L xs) {G : zG} {nA nB nE s1 s2 s3 : Nat} (hKX : zK G s) (hEm : zE G nA nB nE (zlA s) s) (hEc : zXL s1 s2 s3 (zlA s) s) (x : Nat) (ro : Nat) (rw : Nat) (bo : Nat) (li : Nat) (sh : Nat) (tx : Nat) (lo : Nat) (nl : Nat) (am : Nat) (q : Nat) (bq : Nat) (ou : Nat) (mm : Nat) (ma : Nat) (mt : Nat) (ml : Nat) (mw : Nat) (mb : Nat) (mp : Nat) {H : Heap} {locs : List Loc} {ls : Array Slot} (hP : va_P G.1 vwCl [(x, .inr (10, [.ref ro, .ref rw, .ref bo, .ref li, .ref sh, .ref tx, .ref lo, .ref nl])), (rw, .inr (6, [.ref am, .ref q, .ref bq])), (am, zaL (G.2 0) 41 (fun _ => 0)), (ou, zaL (G.2 0) 1 (fun _ => 0)), (mm, .inr (13, [.int (iz (0)), .int (iz (6)), .ref ma, .null, .ref mt, .ref ml, .int (iz (0)), .ref mw, .int (iz (0)), .ref mb, .ref mp, .int (iz (0))])), (ma, zaL (G.2 0) 41 (fun _ => 0))] H) (hD : va_D (zlA s) [(x, .inr (10, [.ref ro, .ref rw, .ref bo, .ref li, .ref sh, .ref tx, .ref lo, .ref nl])), (rw, .inr (6, [.ref am, .ref q, .ref bq])), (am, zaL (G.2 0) 41 (fun _ => 0)), (ou, zaL (G.2 0) 1 (fun _ => 0)), (mm, .inr (13, [.int (iz (0)), .int (iz (6)), .ref ma, .null, .ref mt, .ref ml, .int (iz (0)), .ref mw, .int (iz (0)), .ref mb, .ref mp, .int (iz (0))])), (ma, zaL (G.2 0) 41 (fun _ => 0))]) (hS : va_S (zlA s) s.heap H locs) (hl : lv_has ls 9 [(0, .ref b), (1, .ref x), (2, .ref mm), (3, .ref ou), (4, .int (iz (0)))]) : W p l e room_1 s m #[Value.ref b] below meth c H locs 200 4000 (lw_Z below #[Value.ref b] s) (F0 m 877 ls []) := by
  obtain ⟨hx, hb, hr, hml, hown, hts, hX, hbl, hlocks, hgv⟩ := id C0
  have hbA : ¬ zlA s b := Nat.not_le.mpr hbl
  have hK := hKX.1
  have hts : ∀ w ∈ wsL_law, w.before #[Value.ref b] s = true := fun w h => hts w (wsL_law_in w h)
  have hown : s.vm.findClass RL = some m.cls := hown
  have hA : ∀ q : Nat, s.heap.size ≤ q → zlA s q := fun _ h => h
  have hE := hEm
  have hv1 := zv_rng xs 1
  have hv2 := zv_rng xs 2
  have hv3 := zv_rng xs 3
  have hv4 := zv_rng xs 4
  have hv5 := zv_rng xs 5
  have hv6 := zv_rng xs 6
  have hv7 := zv_rng xs 7
  refine lv_aload_n hx hb dL_law_877 rfl (lv_at hl 1 rfl) ?_
  refine lv_aload_n hx hb dL_law_878 rfl (lv_at hl 3 rfl) ?_
  refine zc_i (wr := [(mm, .inr (13, [.int (iz (0)), .int (iz (6)), .ref ma, .null, .ref mt, .ref ml, .int (iz (0)), .ref mw, .int (iz (0)), .ref mb, .ref mp, .int (iz (0))])), (ma, zaL (G.2 0) 41 (fun _ => 0))]) (vx_runSW (As := [.ref x, .ref ou]) (rest := []) ⟨hx, hb, hml, hown, hts⟩ (c_L_rowYield l G s1 s2 s3 x ro rw bo li sh tx lo nl am q bq ou (fun _ => 0) hl0 H.size) (vx_cwSW 2 hts gL_law_L_rowYield rfl rfl rfl (by decide +kernel) ⟨Nat.le_of_ble_eq_true rfl, Nat.le_of_ble_eq_true rfl⟩) (zpSe zXL_ok hEc hS hA hKX hP hD [0, 1, 2, 3] rfl rfl) rfl rfl hl.1 rfl (lv_room (Nat.le_of_ble_eq_true rfl)) dL_law_879 ⟨(by show _ ≤ (600002 : Nat); omega), (by show _ ≤ (7302232 : Nat); omega)⟩) hP hD hS hA [0, 1, 2, 3] [4, 5] rfl rfl rfl (by decide) (fun kk u_1 H locs hw hP hD hS => ?_)
  have hP : va_P G.1 vwCl [(mm, .inr (13, [.int (iz (0)), .int (iz (6)), .ref ma, .null, .ref mt, .ref ml, .int (iz (0)), .ref mw, .int (iz (0)), .ref mb, .ref mp, .int (iz (0))])), (ma, zaL (G.2 0) 41 (fun _ => 0)), (ou, zaL (G.2 0) 1 ((fun _ => 0)))] H := hP
  have hD : va_D (zlA s) [(mm, .inr (13, [.int (iz (0)), .int (iz (6)), .ref ma, .null, .ref mt, .ref ml, .int (iz (0)), .ref mw, .int (iz (0)), .ref mb, .ref mp, .int (iz (0))])), (ma, zaL (G.2 0) 41 (fun _ => 0)), (ou, zaL (G.2 0) 1 ((fun _ => 0)))] := hD
  have hw : kk = 1 := hw
  rw [show kk = 1 from hw]
  refine lv_istore (lv' := [(5, .int (iz (1))), (0, .ref b), (1, .ref x), (2, .ref mm), (3, .ref ou), (4, .int (iz (0)))]) hx hb dL_law_882 hl (by decide) rfl (fun ls hl => ?_)
  refine lv_aload_n hx hb dL_law_884 rfl (lv_at hl 3 rfl) ?_
  refine zc_i (wr := [(ou, zaL (G.2 0) 1 ((fun _ => 0)))]) (va_runV (As := []) (rest := []) ⟨hx, hb, hml, hown, hts⟩ (c_X12_rowYield l G mm ma mt ml mw mb mp 0  H.size) (cwV 0 hts gL_law_X12_rowYield rfl rfl rfl (by decide +kernel) ⟨Nat.le_of_ble_eq_true rfl, Nat.le_of_ble_eq_true rfl⟩) (zpV hKX hP hD [0, 1] rfl rfl 0 13 rfl rfl) rfl rfl hl.1 rfl (lv_room (Nat.le_of_ble_eq_true rfl)) dL_law_885 ⟨(by show _ ≤ (600002 : Nat); omega), (by show _ ≤ (7302232 : Nat); omega)⟩) hP hD hS hA [0, 1] [2] rfl rfl rfl (by decide) (fun zm u_3 H locs hm hP hD hS => ?_)
  generalize u_3 = thm at hP hD hm
  have hP : va_P G.1 vwCl [(ou, zaL (G.2 0) 1 ((fun _ => 0))), (mm, .inr (13, [.int (iz (thm)), .int (iz (6)), .ref ma, .null, .ref mt, .ref ml, .int (iz (0)), .ref mw, .int (iz (0)), .ref mb, .ref mp, .int (iz (0))]))] H := hP
  have hD : va_D (zlA s) [(ou, zaL (G.2 0) 1 ((fun _ => 0))), (mm, .inr (13, [.int (iz (thm)), .int (iz (6)), .ref ma, .null, .ref mt, .ref ml, .int (iz (0)), .ref mw, .int (iz (0)), .ref mb, .ref mp, .int (iz (0))]))] := hD
  have hm : zm = 0 ∧ thm = 1 := hm
  have htp := hm.2
  refine lv_istore (lv' := [(6, .int (iz (zm))), (5, .int (iz (1))), (0, .ref b), (1, .ref x), (2, .ref mm), (3, .ref ou), (4, .int (iz (0)))]) hx hb dL_law_888 hl (by decide) rfl (fun ls hl => ?_)
  refine lv_aload_n hx hb dL_law_890 rfl (lv_at hl 4 rfl) ?_
  refine zc_i (wr := [(ou, zaL (G.2 0) 1 ((fun _ => 0)))]) (va_runV (As := []) (rest := []) ⟨hx, hb, hml, hown, hts⟩ (c_X12_thrown_v l G mm thm (.ref ma) .null (.ref mt) (.ref ml) (.int (iz (0))) (.ref mw) (.int (iz (0))) (.ref mb) (.ref mp) (.int (iz (0))) 6  H.size) (cwV 0 hts gL_law_X12_thrown rfl rfl rfl (by decide +kernel) ⟨Nat.le_of_ble_eq_true rfl, Nat.le_of_ble_eq_true rfl⟩) (zpV hKX hP hD [1] rfl rfl 1 13 rfl rfl) rfl rfl hl.1 rfl (lv_room (Nat.le_of_ble_eq_true rfl)) dL_law_891 ⟨(by show _ ≤ (600002 : Nat); omega), (by show _ ≤ (7302232 : Nat); omega)⟩) hP hD hS hA [1] [0] rfl rfl rfl (by decide) (fun th9 u_5 H locs hth hP hD hS => ?_)
  have hP : va_P G.1 vwCl [(ou, zaL (G.2 0) 1 ((fun _ => 0))), (mm, .inr (13, [.int (iz (thm)), .int (iz ((6 : Int))), .ref ma, .null, .ref mt, .ref ml, .int (iz (0)), .ref mw, .int (iz (0)), .ref mb, .ref mp, .int (iz (0))]))] H := hP
  have hD : va_D (zlA s) [(ou, zaL (G.2 0) 1 ((fun _ => 0))), (mm, .inr (13, [.int (iz (thm)), .int (iz ((6 : Int))), .ref ma, .null, .ref mt, .ref ml, .int (iz (0)), .ref mw, .int (iz (0)), .ref mb, .ref mp, .int (iz (0))]))] := hD
  have hth : th9 = thm := hth
  rw [show th9 = 1 from hth.trans htp]
  refine lv_iload hx hb dL_law_894 (lv_at hl 1 rfl) ?_
  refine zr_icmp_eq (x := 1) (y := 1) (tgt := 901) hx hb (⟨by omega, by omega⟩) (⟨by omega, by omega⟩) dL_law_896 (by decide) (fun h_7 => ?_) (fun h_7 => ?_)
  ·
    refine lv_iload hx hb dL_law_901 (lv_at hl 1 rfl) ?_
    refine zr_if_ne (x := 1) (tgt := 918) hx hb (⟨by omega, by omega⟩) dL_law_903 (by decide) (fun h_8 => ?_) (fun h_8 => ?_)
    ·
      refine lv_goto (tgt := 3039) hx hb dL_law_918 (by decide) ?_
      exact zl_end hL8 C0 hS (lv_sub hl [2, 6] rfl) (by show _ ≤ (600002 : Nat); omega) (by show _ ≤ (7302232 : Nat); omega)
    · exact absurd h_8 (by omega)
  · exact absurd h_7 (by omega)

set_option maxHeartbeats 4000000 in
set_option maxRecDepth 100000 in
theorem zl_12 {p : Program} {e : Env} {s : State} {m : MethodId} {below : List Frame} {meth : Method} {c : Code} {l : Launch} (hl0 : l.stackTraces = false) {b L : Nat} {xs : Nat → Int32} (hL8 : L = 8) (C0 : lw_At p s m meth c b L xs) {G : zG} {nA nB nE s1 s2 s3 : Nat} (hKX : zK G s) (hEm : zE G nA nB nE (zlA s) s) (hEc : zXL s1 s2 s3 (zlA s) s) (x : Nat) (ro : Nat) (rw : Nat) (bo : Nat) (li : Nat) (sh : Nat) (tx : Nat) (lo : Nat) (nl : Nat) (lw0 : Value) (lw1 : Value) (lw2 : Value) (lw3 : Value) (lw4 : Value) (lw5 : Value) (rws : Int) (ou : Nat) (mm : Nat) (ma : Nat) (mt : Nat) (ml : Nat) (mw : Nat) (mb : Nat) (mp : Nat) {H : Heap} {locs : List Loc} {ls : Array Slot} (hP : va_P G.1 vwCl [(x, .inr (10, [.ref ro, .ref rw, .ref bo, .ref li, .ref sh, .ref tx, .ref lo, .ref nl])), (lo, .inr (4, [lw0, lw1, lw2, lw3, lw4, lw5, .int (iz (0)), .int (iz (rws))])), (ou, zaL (G.2 0) 1 (fun _ => 0)), (mm, .inr (13, [.int (iz (0)), .int (iz (6)), .ref ma, .null, .ref mt, .ref ml, .int (iz (0)), .ref mw, .int (iz (0)), .ref mb, .ref mp, .int (iz (0))]))] H) (hD : va_D (zlA s) [(x, .inr (10, [.ref ro, .ref rw, .ref bo, .ref li, .ref sh, .ref tx, .ref lo, .ref nl])), (lo, .inr (4, [lw0, lw1, lw2, lw3, lw4, lw5, .int (iz (0)), .int (iz (rws))])), (ou, zaL (G.2 0) 1 (fun _ => 0)), (mm, .inr (13, [.int (iz (0)), .int (iz (6)), .ref ma, .null, .ref mt, .ref ml, .int (iz (0)), .ref mw, .int (iz (0)), .ref mb, .ref mp, .int (iz (0))]))]) (hS : va_S (zlA s) s.heap H locs) (hl : lv_has ls 9 [(0, .ref b), (1, .ref x), (2, .ref mm), (3, .ref ou), (4, .int (iz (0)))]) : W p l e room_1 s m #[Value.ref b] below meth c H locs 200 4000 (lw_Z below #[Value.ref b] s) (F0 m 1032 ls []) := by
  obtain ⟨hx, hb, hr, hml, hown, hts, hX, hbl, hlocks, hgv⟩ := id C0
  have hbA : ¬ zlA s b := Nat.not_le.mpr hbl
  have hK := hKX.1
  have hts : ∀ w ∈ wsL_law, w.before #[Value.ref b] s = true := fun w h => hts w (wsL_law_in w h)
  have hown : s.vm.findClass RL = some m.cls := hown
  have hA : ∀ q : Nat, s.heap.size ≤ q → zlA s q := fun _ h => h
  have hE := hEm
  have hv1 := zv_rng xs 1
  have hv2 := zv_rng xs 2
  have hv3 := zv_rng xs 3
  have hv4 := zv_rng xs 4
  have hv5 := zv_rng xs 5
  have hv6 := zv_rng xs 6
  have hv7 := zv_rng xs 7
  refine lv_aload_n hx hb dL_law_1032 rfl (lv_at hl 1 rfl) ?_
  refine lv_aload_n hx hb dL_law_1033 rfl (lv_at hl 0 rfl) ?_
  refine lv_iload hx hb dL_law_1034 (lv_at hl 4 rfl) ?_
  refine lv_iconst (v := iz (1)) hx hb dL_law_1036 rfl ?_
  refine zr_iadd hx hb dL_law_1037 ?_
  refine zr_sld hx hb hX hbl hbA hS 1 (by omega) (by omega) (by omega) dL_law_1038 ?_
  refine lv_aload_n hx hb dL_law_1039 rfl (lv_at hl 3 rfl) ?_
  refine zc_i (wr := [(mm, .inr (13, [.int (iz (0)), .int (iz (6)), .ref ma, .null, .ref mt, .ref ml, .int (iz (0)), .ref mw, .int (iz (0)), .ref mb, .ref mp, .int (iz (0))]))]) (vx_runSW (As := [.ref x, .int (iz (zv xs 1)), .ref ou]) (rest := []) ⟨hx, hb, hml, hown, hts⟩ (c_L_holiday l G s1 s2 s3 x ro rw bo li sh tx lo nl lw0 lw1 lw2 lw3 lw4 lw5 rws (zv xs 1) ou (fun _ => 0) hl0 H.size) (vx_cwSW 3 hts gL_law_L_holiday rfl rfl rfl (by decide +kernel) ⟨Nat.le_of_ble_eq_true rfl, Nat.le_of_ble_eq_true rfl⟩) (zpSe zXL_ok hEc hS hA hKX hP hD [0, 1, 2] rfl rfl) rfl rfl hl.1 rfl (lv_room (Nat.le_of_ble_eq_true rfl)) dL_law_1040 ⟨(by show _ ≤ (600002 : Nat); omega), (by show _ ≤ (7302232 : Nat); omega)⟩) hP hD hS hA [0, 1, 2] [3] rfl rfl rfl (by decide) (fun kk u_1 H locs hw hP hD hS => ?_)
  have hP : va_P G.1 vwCl [(mm, .inr (13, [.int (iz (0)), .int (iz (6)), .ref ma, .null, .ref mt, .ref ml, .int (iz (0)), .ref mw, .int (iz (0)), .ref mb, .ref mp, .int (iz (0))])), (ou, zaL (G.2 0) 1 ((fun _ => 0)))] H := hP
  have hD : va_D (zlA s) [(mm, .inr (13, [.int (iz (0)), .int (iz (6)), .ref ma, .null, .ref mt, .ref ml, .int (iz (0)), .ref mw, .int (iz (0)), .ref mb, .ref mp, .int (iz (0))])), (ou, zaL (G.2 0) 1 ((fun _ => 0)))] := hD
  have hw : kk = 2 := hw
  rw [show kk = 2 from hw]
  refine lv_istore (lv' := [(5, .int (iz (2))), (0, .ref b), (1, .ref x), (2, .ref mm), (3, .ref ou), (4, .int (iz (0)))]) hx hb dL_law_1043 hl (by decide) rfl (fun ls hl => ?_)
  refine lv_aload_n hx hb dL_law_1045 rfl (lv_at hl 3 rfl) ?_
  refine lv_aload_n hx hb dL_law_1046 rfl (lv_at hl 1 rfl) ?_
  refine lv_iload hx hb dL_law_1047 (lv_at hl 5 rfl) ?_
  refine lv_iconst (v := iz (1)) hx hb dL_law_1049 rfl ?_
  refine zr_iadd hx hb dL_law_1050 ?_
  refine zr_sld hx hb hX hbl hbA hS 1 (by omega) (by omega) (by omega) dL_law_1051 ?_
  refine zc_z (wr := [(ou, zaL (G.2 0) 1 ((fun _ => 0)))]) (va_runV (As := [.int (iz (zv xs 1))]) (rest := []) ⟨hx, hb, hml, hown, hts⟩ (c_X12_holiday l G mm ma mt ml mw mb mp 0 (zv xs 1)  H.size) (cwV 1 hts gL_law_X12_holiday rfl rfl rfl (by decide +kernel) ⟨Nat.le_of_ble_eq_true rfl, Nat.le_of_ble_eq_true rfl⟩) (zpV hKX hP hD [0] rfl rfl 0 13 rfl rfl) rfl rfl hl.1 rfl (lv_room (Nat.le_of_ble_eq_true rfl)) dL_law_1052 ⟨(by show _ ≤ (600002 : Nat); omega), (by show _ ≤ (7302232 : Nat); omega)⟩) hP hD hS hA [0] [1] rfl rfl rfl (by decide) (fun zm u_3 H locs hm hP hD hS => ?_)
  generalize u_3 = thm at hP hD hm
  have hP : va_P G.1 vwCl [(ou, zaL (G.2 0) 1 ((fun _ => 0))), (mm, .inr (13, [.int (iz (thm)), .int (iz (6)), .ref ma, .null, .ref mt, .ref ml, .int (iz (0)), .ref mw, .int (iz (0)), .ref mb, .ref mp, .int (iz (0))]))] H := hP
  have hD : va_D (zlA s) [(ou, zaL (G.2 0) 1 ((fun _ => 0))), (mm, .inr (13, [.int (iz (thm)), .int (iz (6)), .ref ma, .null, .ref mt, .ref ml, .int (iz (0)), .ref mw, .int (iz (0)), .ref mb, .ref mp, .int (iz (0))]))] := hD
  have hm : zm = false ∧ thm = 2 := hm
  have htp := hm.2
  refine lv_istore (lv' := [(6, .int (iz (zbb zm))), (5, .int (iz (2))), (0, .ref b), (1, .ref x), (2, .ref mm), (3, .ref ou), (4, .int (iz (0)))]) hx hb dL_law_1055 hl (by decide) rfl (fun ls hl => ?_)
  refine lv_aload_n hx hb dL_law_1057 rfl (lv_at hl 4 rfl) ?_
  refine zc_i (wr := [(ou, zaL (G.2 0) 1 ((fun _ => 0)))]) (va_runV (As := []) (rest := []) ⟨hx, hb, hml, hown, hts⟩ (c_X12_thrown_v l G mm thm (.ref ma) .null (.ref mt) (.ref ml) (.int (iz (0))) (.ref mw) (.int (iz (0))) (.ref mb) (.ref mp) (.int (iz (0))) 6  H.size) (cwV 0 hts gL_law_X12_thrown rfl rfl rfl (by decide +kernel) ⟨Nat.le_of_ble_eq_true rfl, Nat.le_of_ble_eq_true rfl⟩) (zpV hKX hP hD [1] rfl rfl 1 13 rfl rfl) rfl rfl hl.1 rfl (lv_room (Nat.le_of_ble_eq_true rfl)) dL_law_1058 ⟨(by show _ ≤ (600002 : Nat); omega), (by show _ ≤ (7302232 : Nat); omega)⟩) hP hD hS hA [1] [0] rfl rfl rfl (by decide) (fun th9 u_5 H locs hth hP hD hS => ?_)
  have hP : va_P G.1 vwCl [(ou, zaL (G.2 0) 1 ((fun _ => 0))), (mm, .inr (13, [.int (iz (thm)), .int (iz ((6 : Int))), .ref ma, .null, .ref mt, .ref ml, .int (iz (0)), .ref mw, .int (iz (0)), .ref mb, .ref mp, .int (iz (0))]))] H := hP
  have hD : va_D (zlA s) [(ou, zaL (G.2 0) 1 ((fun _ => 0))), (mm, .inr (13, [.int (iz (thm)), .int (iz ((6 : Int))), .ref ma, .null, .ref mt, .ref ml, .int (iz (0)), .ref mw, .int (iz (0)), .ref mb, .ref mp, .int (iz (0))]))] := hD
  have hth : th9 = thm := hth
  rw [show th9 = 2 from hth.trans htp]
  refine lv_iload hx hb dL_law_1061 (lv_at hl 1 rfl) ?_
  refine zr_icmp_eq (x := 2) (y := 2) (tgt := 1068) hx hb (⟨by omega, by omega⟩) (⟨by omega, by omega⟩) dL_law_1063 (by decide) (fun h_7 => ?_) (fun h_7 => ?_)
  ·
    refine lv_iload hx hb dL_law_1068 (lv_at hl 1 rfl) ?_
    refine zr_if_ne (x := 2) (tgt := 1092) hx hb (⟨by omega, by omega⟩) dL_law_1070 (by decide) (fun h_8 => ?_) (fun h_8 => ?_)
    ·
      refine lv_goto (tgt := 3039) hx hb dL_law_1092 (by decide) ?_
      exact zl_end hL8 C0 hS (lv_sub hl [2, 6] rfl) (by show _ ≤ (600002 : Nat); omega) (by show _ ≤ (7302232 : Nat); omega)
    · exact absurd h_8 (by omega)
  · exact absurd h_7 (by omega)
