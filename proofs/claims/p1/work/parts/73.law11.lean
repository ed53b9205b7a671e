-- THE LAW'S CASE 11 (laid by wip/walk/xlaw11.py)
set_option maxHeartbeats 4000000 in
set_option maxRecDepth 100000 in
theorem zl_11 {p : Program} {e : Env} {s : State} {m : MethodId} {below : List Frame} {meth : Method} {c : Code} {l : Launch} (hl0 : l.stackTraces = false) {b L : Nat} {xs : Nat → Int32} (hL8 : L = 8) (C0 : lw_At p s m meth c b L xs) {G : zG} {nA nB nE mi s1 s2 s3 : Nat} (hKX : zK G s) (hEm : zEG G nA nB nE mi (zlA s) s) (hEc : zXL s1 s2 s3 (zlA s) s) (x : Nat) (ro : Nat) (rw : Nat) (bo : Nat) (li : Nat) (sh : Nat) (tx : Nat) (lo : Nat) (nl : Nat) (nr : Nat) (ne : Nat) (nh : Nat) (tb : Nat) (q : Nat) (tr : Nat → Nat) (sa : Nat) (da : Nat) (wa : Nat) (sb : Nat) (db : Nat) (wb : Nat) (ou : Nat) (mm : Nat) (ma : Nat) (mt : Nat) (ml : Nat) (mw : Nat) (mb : Nat) (mp : Nat) {H : Heap} {locs : List Loc} {ls : Array Slot} (hP : va_P G.1 vwCl [(x, .inr (10, [.ref ro, .ref rw, .ref bo, .ref li, .ref sh, .ref tx, .ref lo, .ref nl])), (nl, .inr (4, [.ref nr, .ref ne, .ref nh, .ref tb, .ref q, .long (lz (0)), .int (iz (0)), .int (iz (0))])), (nr, zaI (G.2 1) 61 (fun _ => 0)), (ne, zaL (G.2 0) 61 (fun _ => 0)), (nh, zaZ (G.2 2) 61 (fun _ => 0)), (tb, zaR (G.2 3) 7 (ztb tr)), ((tr 0), zaL (G.2 0) 61 (fun _ => 0)), ((tr 1), zaL (G.2 0) 61 (fun _ => 0)), ((tr 2), zaL (G.2 0) 61 (fun _ => 0)), ((tr 3), zaL (G.2 0) 61 (fun _ => 0)), ((tr 4), zaL (G.2 0) 61 (fun _ => 0)), ((tr 5), zaL (G.2 0) 61 (fun _ => 0)), ((tr 6), zaL (G.2 0) 61 (fun _ => 0)), (q, .inr (2, [.ref sa, .ref da, .ref wa, .long (lz (1)), .long (lz (1)), .int (iz (0))])), (sa, .inr (9, [.ref sb, .int (iz (0)), .long (lz (0))])), (sb, zaL (G.2 0) 40 (fun _ => 0)), (da, .inr (9, [.ref db, .int (iz (0)), .long (lz (0))])), (db, zaL (G.2 0) 40 (fun _ => 0)), (wa, .inr (9, [.ref wb, .int (iz (0)), .long (lz (0))])), (wb, zaL (G.2 0) 40 (fun _ => 0)), (ro, .inr (5, [.int (iz (6))])), (ou, zaL (G.2 0) 1 (fun _ => 0)), (mm, .inr (13, [.int (iz (0)), .int (iz (6)), .ref ma, .null, .ref mt, .ref ml, .int (iz (0)), .ref mw, .int (iz (0)), .ref mb, .ref mp, .int (iz (0))]))] H) (hD : va_D (zlA s) [(x, .inr (10, [.ref ro, .ref rw, .ref bo, .ref li, .ref sh, .ref tx, .ref lo, .ref nl])), (nl, .inr (4, [.ref nr, .ref ne, .ref nh, .ref tb, .ref q, .long (lz (0)), .int (iz (0)), .int (iz (0))])), (nr, zaI (G.2 1) 61 (fun _ => 0)), (ne, zaL (G.2 0) 61 (fun _ => 0)), (nh, zaZ (G.2 2) 61 (fun _ => 0)), (tb, zaR (G.2 3) 7 (ztb tr)), ((tr 0), zaL (G.2 0) 61 (fun _ => 0)), ((tr 1), zaL (G.2 0) 61 (fun _ => 0)), ((tr 2), zaL (G.2 0) 61 (fun _ => 0)), ((tr 3), zaL (G.2 0) 61 (fun _ => 0)), ((tr 4), zaL (G.2 0) 61 (fun _ => 0)), ((tr 5), zaL (G.2 0) 61 (fun _ => 0)), ((tr 6), zaL (G.2 0) 61 (fun _ => 0)), (q, .inr (2, [.ref sa, .ref da, .ref wa, .long (lz (1)), .long (lz (1)), .int (iz (0))])), (sa, .inr (9, [.ref sb, .int (iz (0)), .long (lz (0))])), (sb, zaL (G.2 0) 40 (fun _ => 0)), (da, .inr (9, [.ref db, .int (iz (0)), .long (lz (0))])), (db, zaL (G.2 0) 40 (fun _ => 0)), (wa, .inr (9, [.ref wb, .int (iz (0)), .long (lz (0))])), (wb, zaL (G.2 0) 40 (fun _ => 0)), (ro, .inr (5, [.int (iz (6))])), (ou, zaL (G.2 0) 1 (fun _ => 0)), (mm, .inr (13, [.int (iz (0)), .int (iz (6)), .ref ma, .null, .ref mt, .ref ml, .int (iz (0)), .ref mw, .int (iz (0)), .ref mb, .ref mp, .int (iz (0))]))]) (hS : va_S (zlA s) s.heap H locs) (hl : lv_has ls 9 [(0, .ref b), (1, .ref x), (2, .ref mm), (3, .ref ou), (4, .int (iz (0)))]) : W p l e room_1 s m #[Value.ref b] below meth c H locs 200 4000 (lw_Z below #[Value.ref b] s) (F0 m 921 ls []) := by
  obtain ⟨hx, hb, hr, hml, hown, hts, hX, hbl, hlocks, hgv⟩ := id C0
  have hbA : ¬ zlA s b := Nat.not_le.mpr hbl
  have hK := hKX.1
  have hts : ∀ w ∈ wsL_law, w.before #[Value.ref b] s = true := fun w h => hts w (wsL_law_in w h)
  have hown : s.vm.findClass RL = some m.cls := hown
  have hA : ∀ q : Nat, s.heap.size ≤ q → zlA s q := fun _ h => h
  have hE := hEm
  have hv1 := zv_rng xs 1
  have hv2 := zv_rng xs 2
  have hv3 := zv_rng xs 3
  have hv4 := zv_rng xs 4
  have hv5 := zv_rng xs 5
  have hv6 := zv_rng xs 6
  have hv7 := zv_rng xs 7
  have hw1 := zlo_rng (zv xs 1) (zv xs 2)
  by_cases hco0 : 1 ≤ (zlo (zv xs 1) (zv xs 2)) ∧ (zlo (zv xs 1) (zv xs 2)) ≤ 1000000000 ∧ 0 ≤ (zv xs 3) ∧ (zv xs 3) ≤ 20000 ∧ 1 ≤ (zv xs 4) ∧ (zv xs 4) ≤ 60
  ·
    refine lv_aload_n hx hb dL_law_921 rfl (lv_at hl 1 rfl) ?_
    refine lv_aload_n hx hb dL_law_922 rfl (lv_at hl 0 rfl) ?_
    refine lv_iload hx hb dL_law_923 (lv_at hl 4 rfl) ?_
    refine lv_iconst (v := iz (1)) hx hb dL_law_925 rfl ?_
    refine zr_iadd hx hb dL_law_926 ?_
    refine zr_sld hx hb hX hbl hbA hS 1 (by omega) (by omega) (by omega) dL_law_927 ?_
    refine zr_i2l hx hb (x := zv xs 1) (⟨by omega, by omega⟩) dL_law_928 ?_
    refine lv_bipush (v := iz (32)) hx hb dL_law_929 rfl ?_
    refine zr_lshl32 hx hb dL_law_931 ?_
    refine lv_aload_n hx hb dL_law_932 rfl (lv_at hl 0 rfl) ?_
    refine lv_iload hx hb dL_law_933 (lv_at hl 4 rfl) ?_
    refine lv_iconst (v := iz (2)) hx hb dL_law_935 rfl ?_
    refine zr_iadd hx hb dL_law_936 ?_
    refine zr_sld hx hb hX hbl hbA hS 2 (by omega) (by omega) (by omega) dL_law_937 ?_
    refine zr_i2l hx hb (x := zv xs 2) (⟨by omega, by omega⟩) dL_law_938 ?_
    refine zr_ldc2 (z := 4294967295) hx hb hown (hts (.constantLong RL 137 (4294967295)) (by decide +kernel)) rfl dL_law_939 ?_
    refine zr_land32 hx hb dL_law_942 ?_
    refine zr_lor32 hx hb dL_law_943 ?_
    refine lv_aload_n hx hb dL_law_944 rfl (lv_at hl 0 rfl) ?_
    refine lv_iload hx hb dL_law_945 (lv_at hl 4 rfl) ?_
    refine lv_iconst (v := iz (3)) hx hb dL_law_947 rfl ?_
    refine zr_iadd hx hb dL_law_948 ?_
    refine zr_sld hx hb hX hbl hbA hS 3 (by omega) (by omega) (by omega) dL_law_949 ?_
    refine lv_aload_n hx hb dL_law_950 rfl (lv_at hl 0 rfl) ?_
    refine lv_iload hx hb dL_law_951 (lv_at hl 4 rfl) ?_
    refine lv_iconst (v := iz (4)) hx hb dL_law_953 rfl ?_
    refine zr_iadd hx hb dL_law_954 ?_
    refine zr_sld hx hb hX hbl hbA hS 4 (by omega) (by omega) (by omega) dL_law_955 ?_
    refine lv_aload_n hx hb dL_law_956 rfl (lv_at hl 3 rfl) ?_
    refine zc_i (wr := [(mm, .inr (13, [.int (iz (0)), .int (iz (6)), .ref ma, .null, .ref mt, .ref ml, .int (iz (0)), .ref mw, .int (iz (0)), .ref mb, .ref mp, .int (iz (0))]))]) (vx_runSW (As := [.ref x, .long (lz (zlo (zv xs 1) (zv xs 2))), .int (iz (zv xs 3)), .int (iz (zv xs 4)), .ref ou]) (rest := []) ⟨hx, hb, hml, hown, hts⟩ (c_L_lend_o l G x ro rw bo li sh tx lo nl nr ne nh tb q tr sa sb da db wa wb (zlo (zv xs 1) (zv xs 2)) (zv xs 3) (zv xs 4) ou (fun _ => 0) (by omega) (by omega) (by omega) (by omega) H.size) (vx_cwSW 5 hts gL_law_L_lend rfl rfl rfl (by decide +kernel) ⟨Nat.le_of_ble_eq_true rfl, Nat.le_of_ble_eq_true rfl⟩) (zpS hKX hP hD [0, 1, 2, 3, 4, 5, 6, 7, 8, 9, 10, 11, 12, 13, 14, 15, 16, 17, 18, 19, 20, 21] rfl rfl) rfl rfl hl.1 rfl (lv_room (Nat.le_of_ble_eq_true rfl)) dL_law_957 ⟨(by show _ ≤ (600002 : Nat); omega), (by show _ ≤ (7302232 : Nat); omega)⟩) hP hD hS hA [0, 1, 2, 3, 4, 5, 6, 7, 8, 9, 10, 11, 12, 13, 14, 15, 16, 17, 18, 19, 20, 21] [22] rfl rfl rfl (by decide) (fun kk u_1 H locs hw hP hD hS => ?_)
    generalize u_1 = fz at hP hD hw
    have hP : va_P G.1 vwCl [(mm, .inr (13, [.int (iz (0)), .int (iz (6)), .ref ma, .null, .ref mt, .ref ml, .int (iz (0)), .ref mw, .int (iz (0)), .ref mb, .ref mp, .int (iz (0))])), (ou, zaL (G.2 0) 1 (fz))] H := hP
    have hD : va_D (zlA s) [(mm, .inr (13, [.int (iz (0)), .int (iz (6)), .ref ma, .null, .ref mt, .ref ml, .int (iz (0)), .ref mw, .int (iz (0)), .ref mb, .ref mp, .int (iz (0))])), (ou, zaL (G.2 0) 1 (fz))] := hD
    have hw : kk = 0 ∧ (fz 0) = zinst (zlo (zv xs 1) (zv xs 2)) (zv xs 3) (zv xs 4) := hw
    rw [show kk = 0 from hw.1]
    refine lv_istore (lv' := [(5, .int (iz (0))), (0, .ref b), (1, .ref x), (2, .ref mm), (3, .ref ou), (4, .int (iz (0)))]) hx hb dL_law_960 hl (by decide) rfl (fun ls hl => ?_)
    refine lv_aload_n hx hb dL_law_962 rfl (lv_at hl 3 rfl) ?_
    refine lv_aload_n hx hb dL_law_963 rfl (lv_at hl 1 rfl) ?_
    refine lv_iload hx hb dL_law_964 (lv_at hl 5 rfl) ?_
    refine lv_iconst (v := iz (1)) hx hb dL_law_966 rfl ?_
    refine zr_iadd hx hb dL_law_967 ?_
    refine zr_sld hx hb hX hbl hbA hS 1 (by omega) (by omega) (by omega) dL_law_968 ?_
    refine zr_i2l hx hb (x := zv xs 1) (⟨by omega, by omega⟩) dL_law_969 ?_
    refine lv_bipush (v := iz (32)) hx hb dL_law_970 rfl ?_
    refine zr_lshl32 hx hb dL_law_972 ?_
    refine lv_aload_n hx hb dL_law_973 rfl (lv_at hl 1 rfl) ?_
    refine lv_iload hx hb dL_law_974 (lv_at hl 5 rfl) ?_
    refine lv_iconst (v := iz (2)) hx hb dL_law_976 rfl ?_
    refine zr_iadd hx hb dL_law_977 ?_
    refine zr_sld hx hb hX hbl hbA hS 2 (by omega) (by omega) (by omega) dL_law_978 ?_
    refine zr_i2l hx hb (x := zv xs 2) (⟨by omega, by omega⟩) dL_law_979 ?_
    refine zr_ldc2 (z := 4294967295) hx hb hown (hts (.constantLong RL 137 (4294967295)) (by decide +kernel)) rfl dL_law_980 ?_
    refine zr_land32 hx hb dL_law_983 ?_
    refine zr_lor32 hx hb dL_law_984 ?_
    refine lv_aload_n hx hb dL_law_985 rfl (lv_at hl 1 rfl) ?_
    refine lv_iload hx hb dL_law_986 (lv_at hl 5 rfl) ?_
    refine lv_iconst (v := iz (3)) hx hb dL_law_988 rfl ?_
    refine zr_iadd hx hb dL_law_989 ?_
    refine zr_sld hx hb hX hbl hbA hS 3 (by omega) (by omega) (by omega) dL_law_990 ?_
    refine lv_aload_n hx hb dL_law_991 rfl (lv_at hl 1 rfl) ?_
    refine lv_iload hx hb dL_law_992 (lv_at hl 5 rfl) ?_
    refine lv_iconst (v := iz (4)) hx hb dL_law_994 rfl ?_
    refine zr_iadd hx hb dL_law_995 ?_
    refine zr_sld hx hb hX hbl hbA hS 4 (by omega) (by omega) (by omega) dL_law_996 ?_
    refine zc_l (wr := [(ou, zaL (G.2 0) 1 (fz))]) (va_runV (As := [.long (lz (zlo (zv xs 1) (zv xs 2))), .int (iz (zv xs 3)), .int (iz (zv xs 4))]) (rest := []) ⟨hx, hb, hml, hown, hts⟩ (c_X12_lend_o_z l G nA nB nE mi mm ma mt ml mw mb mp 0 (zlo (zv xs 1) (zv xs 2)) (zv xs 3) (zv xs 4) (by omega) (by omega) (by omega) (by omega) H.size) (cwV 3 hts gL_law_X12_lend rfl rfl rfl (by decide +kernel) ⟨Nat.le_of_ble_eq_true rfl, Nat.le_of_ble_eq_true rfl⟩) (zpVe zEG_ok hE hS hA hKX hP hD [0] rfl rfl (va_recv hK hP (ci := 13) (q0 := 0) rfl rfl)) rfl rfl hl.1 rfl (lv_room (Nat.le_of_ble_eq_true rfl)) dL_law_997 ⟨(by show _ ≤ (600002 : Nat); omega), (by show _ ≤ (7302232 : Nat); omega)⟩) hP hD hS hA [0] [1] rfl rfl rfl (by decide) (fun zm u_3 H locs hm hP hD hS => ?_)
    obtain ⟨thm, mu0_, mu1_⟩ := u_3
    have hP : va_P G.1 vwCl [(ou, zaL (G.2 0) 1 (fz)), (mm, .inr (13, [.int (iz (thm)), .int (iz (6)), .ref ma, .ref mu0_, .ref mu1_, .ref ml, .int (iz (0)), .ref mw, .int (iz (0)), .ref mb, .ref mp, .int (iz (0))]))] H := hP
    have hD : va_D (zlA s) [(ou, zaL (G.2 0) 1 (fz)), (mm, .inr (13, [.int (iz (thm)), .int (iz (6)), .ref ma, .ref mu0_, .ref mu1_, .ref ml, .int (iz (0)), .ref mw, .int (iz (0)), .ref mb, .ref mp, .int (iz (0))]))] := hD
    have hm : zm = zinst (zlo (zv xs 1) (zv xs 2)) (zv xs 3) (zv xs 4) ∧ thm = 0 := hm
    have htp := hm.2
    have hval := hw.2.trans hm.1.symm
    refine lv_lstore (lv' := [(6, .long (lz (zm))), (5, .int (iz (0))), (0, .ref b), (1, .ref x), (2, .ref mm), (3, .ref ou), (4, .int (iz (0)))]) hx hb dL_law_1000 hl (by decide) rfl (fun ls hl => ?_)
    refine lv_aload_n hx hb dL_law_1002 rfl (lv_at hl 4 rfl) ?_
    refine zc_i (wr := [(ou, zaL (G.2 0) 1 (fz))]) (va_runV (As := []) (rest := []) ⟨hx, hb, hml, hown, hts⟩ (c_X12_thrown_v l G mm thm (.ref ma) (.ref mu0_) (.ref mu1_) (.ref ml) (.int (iz (0))) (.ref mw) (.int (iz (0))) (.ref mb) (.ref mp) (.int (iz (0))) 6  H.size) (cwV 0 hts gL_law_X12_thrown rfl rfl rfl (by decide +kernel) ⟨Nat.le_of_ble_eq_true rfl, Nat.le_of_ble_eq_true rfl⟩) (zpV hKX hP hD [1] rfl rfl 1 13 rfl rfl) rfl rfl hl.1 rfl (lv_room (Nat.le_of_ble_eq_true rfl)) dL_law_1003 ⟨(by show _ ≤ (600002 : Nat); omega), (by show _ ≤ (7302232 : Nat); omega)⟩) hP hD hS hA [1] [0] rfl rfl rfl (by decide) (fun th9 u_5 H locs hth hP hD hS => ?_)
    have hP : va_P G.1 vwCl [(ou, zaL (G.2 0) 1 (fz)), (mm, .inr (13, [.int (iz (thm)), .int (iz ((6 : Int))), .ref ma, .ref mu0_, .ref mu1_, .ref ml, .int (iz (0)), .ref mw, .int (iz (0)), .ref mb, .ref mp, .int (iz (0))]))] H := hP
    have hD : va_D (zlA s) [(ou, zaL (G.2 0) 1 (fz)), (mm, .inr (13, [.int (iz (thm)), .int (iz ((6 : Int))), .ref ma, .ref mu0_, .ref mu1_, .ref ml, .int (iz (0)), .ref mw, .int (iz (0)), .ref mb, .ref mp, .int (iz (0))]))] := hD
    have hth : th9 = thm := hth
    rw [show th9 = 0 from hth.trans htp]
    refine lv_iload hx hb dL_law_1006 (lv_at hl 1 rfl) ?_
    refine zr_icmp_eq (x := 0) (y := 0) (tgt := 1013) hx hb (⟨by omega, by omega⟩) (⟨by omega, by omega⟩) dL_law_1008 (by decide) (fun h_7 => ?_) (fun h_7 => ?_)
    ·
      refine lv_iload hx hb dL_law_1013 (lv_at hl 1 rfl) ?_
      refine zr_if_ne (x := 0) (tgt := 1029) hx hb (⟨by omega, by omega⟩) dL_law_1015 (by decide) (fun h_8 => ?_) (fun h_8 => ?_)
      · exact absurd h_8 (by omega)
      ·
        refine lv_aload_n hx hb dL_law_1018 rfl (lv_at hl 5 rfl) ?_
        refine lv_iconst (v := iz (0)) hx hb dL_law_1019 rfl ?_
        refine zr_lald hx hb hK hP 0 0 rfl rfl (i := 0) (⟨by omega, by omega, by omega⟩) dL_law_1020 ?_
        refine lv_lload hx hb dL_law_1021 (lv_at hl 0 rfl) ?_
        refine zr_lcmpS (x := fz 0) (y := zm) (tgt := 1029) hx hb (by first | exact hval | exact hval.symm) dL_law_1023 dL_law_1024 (by decide) ?_
        refine lv_goto (tgt := 3039) hx hb dL_law_1029 (by decide) ?_
        exact zl_end hL8 C0 hS (lv_sub hl [2, 6] rfl) (by show _ ≤ (600002 : Nat); omega) (by show _ ≤ (7302232 : Nat); omega)
    · exact absurd h_7 (by omega)
  ·
    refine lv_aload_n hx hb dL_law_921 rfl (lv_at hl 1 rfl) ?_
    refine lv_aload_n hx hb dL_law_922 rfl (lv_at hl 0 rfl) ?_
    refine lv_iload hx hb dL_law_923 (lv_at hl 4 rfl) ?_
    refine lv_iconst (v := iz (1)) hx hb dL_law_925 rfl ?_
    refine zr_iadd hx hb dL_law_926 ?_
    refine zr_sld hx hb hX hbl hbA hS 1 (by omega) (by omega) (by omega) dL_law_927 ?_
    refine zr_i2l hx hb (x := zv xs 1) (⟨by omega, by omega⟩) dL_law_928 ?_
    refine lv_bipush (v := iz (32)) hx hb dL_law_929 rfl ?_
    refine zr_lshl32 hx hb dL_law_931 ?_
    refine lv_aload_n hx hb dL_law_932 rfl (lv_at hl 0 rfl) ?_
    refine lv_iload hx hb dL_law_933 (lv_at hl 4 rfl) ?_
    refine lv_iconst (v := iz (2)) hx hb dL_law_935 rfl ?_
    refine zr_iadd hx hb dL_law_936 ?_
    refine zr_sld hx hb hX hbl hbA hS 2 (by omega) (by omega) (by omega) dL_law_937 ?_
    refine zr_i2l hx hb (x := zv xs 2) (⟨by omega, by omega⟩) dL_law_938 ?_
    refine zr_ldc2 (z := 4294967295) hx hb hown (hts (.constantLong RL 137 (4294967295)) (by decide +kernel)) rfl dL_law_939 ?_
    refine zr_land32 hx hb dL_law_942 ?_
    refine zr_lor32 hx hb dL_law_943 ?_
    refine lv_aload_n hx hb dL_law_944 rfl (lv_at hl 0 rfl) ?_
    refine lv_iload hx hb dL_law_945 (lv_at hl 4 rfl) ?_
    refine lv_iconst (v := iz (3)) hx hb dL_law_947 rfl ?_
    refine zr_iadd hx hb dL_law_948 ?_
    refine zr_sld hx hb hX hbl hbA hS 3 (by omega) (by omega) (by omega) dL_law_949 ?_
    refine lv_aload_n hx hb dL_law_950 rfl (lv_at hl 0 rfl) ?_
    refine lv_iload hx hb dL_law_951 (lv_at hl 4 rfl) ?_
    refine lv_iconst (v := iz (4)) hx hb dL_law_953 rfl ?_
    refine zr_iadd hx hb dL_law_954 ?_
    refine zr_sld hx hb hX hbl hbA hS 4 (by omega) (by omega) (by omega) dL_law_955 ?_
    refine lv_aload_n hx hb dL_law_956 rfl (lv_at hl 3 rfl) ?_
    refine zc_i (wr := [(nl, .inr (4, [.ref nr, .ref ne, .ref nh, .ref tb, .ref q, .long (lz (0)), .int (iz (0)), .int (iz (0))])), (nr, zaI (G.2 1) 61 (fun _ => 0)), (ne, zaL (G.2 0) 61 (fun _ => 0)), (nh, zaZ (G.2 2) 61 (fun _ => 0)), (tb, zaR (G.2 3) 7 (ztb tr)), ((tr 0), zaL (G.2 0) 61 (fun _ => 0)), ((tr 1), zaL (G.2 0) 61 (fun _ => 0)), ((tr 2), zaL (G.2 0) 61 (fun _ => 0)), ((tr 3), zaL (G.2 0) 61 (fun _ => 0)), ((tr 4), zaL (G.2 0) 61 (fun _ => 0)), ((tr 5), zaL (G.2 0) 61 (fun _ => 0)), ((tr 6), zaL (G.2 0) 61 (fun _ => 0)), (q, .inr (2, [.ref sa, .ref da, .ref wa, .long (lz (1)), .long (lz (1)), .int (iz (0))])), (sa, .inr (9, [.ref sb, .int (iz (0)), .long (lz (0))])), (sb, zaL (G.2 0) 40 (fun _ => 0)), (da, .inr (9, [.ref db, .int (iz (0)), .long (lz (0))])), (db, zaL (G.2 0) 40 (fun _ => 0)), (wa, .inr (9, [.ref wb, .int (iz (0)), .long (lz (0))])), (wb, zaL (G.2 0) 40 (fun _ => 0)), (ro, .inr (5, [.int (iz (6))])), (mm, .inr (13, [.int (iz (0)), .int (iz (6)), .ref ma, .null, .ref mt, .ref ml, .int (iz (0)), .ref mw, .int (iz (0)), .ref mb, .ref mp, .int (iz (0))]))]) (vx_runSW (As := [.ref x, .long (lz (zlo (zv xs 1) (zv xs 2))), .int (iz (zv xs 3)), .int (iz (zv xs 4)), .ref ou]) (rest := []) ⟨hx, hb, hml, hown, hts⟩ (c_L_lend_x l G s1 s2 s3 x ro rw bo li sh tx lo nl (zlo (zv xs 1) (zv xs 2)) (zv xs 3) (zv xs 4) ou (fun _ => 0) hl0 (by omega) (by omega) (by omega) (by omega) H.size) (vx_cwSW 5 hts gL_law_L_lend rfl rfl rfl (by decide +kernel) ⟨Nat.le_of_ble_eq_true rfl, Nat.le_of_ble_eq_true rfl⟩) (zpSe zXL_ok hEc hS hA hKX hP hD [0, 21] rfl rfl) rfl rfl hl.1 rfl (lv_room (Nat.le_of_ble_eq_true rfl)) dL_law_957 ⟨(by show _ ≤ (600002 : Nat); omega), (by show _ ≤ (7302232 : Nat); omega)⟩) hP hD hS hA [0, 21] [1, 2, 3, 4, 5, 6, 7, 8, 9, 10, 11, 12, 13, 14, 15, 16, 17, 18, 19, 20, 22] rfl rfl rfl (by decide) (fun kk u_9 H locs hw hP hD hS => ?_)
    have hP : va_P G.1 vwCl [(nl, .inr (4, [.ref nr, .ref ne, .ref nh, .ref tb, .ref q, .long (lz (0)), .int (iz (0)), .int (iz (0))])), (nr, zaI (G.2 1) 61 (fun _ => 0)), (ne, zaL (G.2 0) 61 (fun _ => 0)), (nh, zaZ (G.2 2) 61 (fun _ => 0)), (tb, zaR (G.2 3) 7 (ztb tr)), ((tr 0), zaL (G.2 0) 61 (fun _ => 0)), ((tr 1), zaL (G.2 0) 61 (fun _ => 0)), ((tr 2), zaL (G.2 0) 61 (fun _ => 0)), ((tr 3), zaL (G.2 0) 61 (fun _ => 0)), ((tr 4), zaL (G.2 0) 61 (fun _ => 0)), ((tr 5), zaL (G.2 0) 61 (fun _ => 0)), ((tr 6), zaL (G.2 0) 61 (fun _ => 0)), (q, .inr (2, [.ref sa, .ref da, .ref wa, .long (lz (1)), .long (lz (1)), .int (iz (0))])), (sa, .inr (9, [.ref sb, .int (iz (0)), .long (lz (0))])), (sb, zaL (G.2 0) 40 (fun _ => 0)), (da, .inr (9, [.ref db, .int (iz (0)), .long (lz (0))])), (db, zaL (G.2 0) 40 (fun _ => 0)), (wa, .inr (9, [.ref wb, .int (iz (0)), .long (lz (0))])), (wb, zaL (G.2 0) 40 (fun _ => 0)), (ro, .inr (5, [.int (iz (6))])), (mm, .inr (13, [.int (iz (0)), .int (iz (6)), .ref ma, .null, .ref mt, .ref ml, .int (iz (0)), .ref mw, .int (iz (0)), .ref mb, .ref mp, .int (iz (0))])), (ou, zaL (G.2 0) 1 ((fun _ => 0)))] H := hP
    have hD : va_D (zlA s) [(nl, .inr (4, [.ref nr, .ref ne, .ref nh, .ref tb, .ref q, .long (lz (0)), .int (iz (0)), .int (iz (0))])), (nr, zaI (G.2 1) 61 (fun _ => 0)), (ne, zaL (G.2 0) 61 (fun _ => 0)), (nh, zaZ (G.2 2) 61 (fun _ => 0)), (tb, zaR (G.2 3) 7 (ztb tr)), ((tr 0), zaL (G.2 0) 61 (fun _ => 0)), ((tr 1), zaL (G.2 0) 61 (fun _ => 0)), ((tr 2), zaL (G.2 0) 61 (fun _ => 0)), ((tr 3), zaL (G.2 0) 61 (fun _ => 0)), ((tr 4), zaL (G.2 0) 61 (fun _ => 0)), ((tr 5), zaL (G.2 0) 61 (fun _ => 0)), ((tr 6), zaL (G.2 0) 61 (fun _ => 0)), (q, .inr (2, [.ref sa, .ref da, .ref wa, .long (lz (1)), .long (lz (1)), .int (iz (0))])), (sa, .inr (9, [.ref sb, .int (iz (0)), .long (lz (0))])), (sb, zaL (G.2 0) 40 (fun _ => 0)), (da, .inr (9, [.ref db, .int (iz (0)), .long (lz (0))])), (db, zaL (G.2 0) 40 (fun _ => 0)), (wa, .inr (9, [.ref wb, .int (iz (0)), .long (lz (0))])), (wb, zaL (G.2 0) 40 (fun _ => 0)), (ro, .inr (5, [.int (iz (6))])), (mm, .inr (13, [.int (iz (0)), .int (iz (6)), .ref ma, .null, .ref mt, .ref ml, .int (iz (0)), .ref mw, .int (iz (0)), .ref mb, .ref mp, .int (iz (0))])), (ou, zaL (G.2 0) 1 ((fun _ => 0)))] := hD
    have hw : kk = 1 := hw
    rw [show kk = 1 from hw]
    refine lv_istore (lv' := [(5, .int (iz (1))), (0, .ref b), (1, .ref x), (2, .ref mm), (3, .ref ou), (4, .int (iz (0)))]) hx hb dL_law_960 hl (by decide) rfl (fun ls hl => ?_)
    refine lv_aload_n hx hb dL_law_962 rfl (lv_at hl 3 rfl) ?_
    refine lv_aload_n hx hb dL_law_963 rfl (lv_at hl 1 rfl) ?_
    refine lv_iload hx hb dL_law_964 (lv_at hl 5 rfl) ?_
    refine lv_iconst (v := iz (1)) hx hb dL_law_966 rfl ?_
    refine zr_iadd hx hb dL_law_967 ?_
    refine zr_sld hx hb hX hbl hbA hS 1 (by omega) (by omega) (by omega) dL_law_968 ?_
    refine zr_i2l hx hb (x := zv xs 1) (⟨by omega, by omega⟩) dL_law_969 ?_
    refine lv_bipush (v := iz (32)) hx hb dL_law_970 rfl ?_
    refine zr_lshl32 hx hb dL_law_972 ?_
    refine lv_aload_n hx hb dL_law_973 rfl (lv_at hl 1 rfl) ?_
    refine lv_iload hx hb dL_law_974 (lv_at hl 5 rfl) ?_
    refine lv_iconst (v := iz (2)) hx hb dL_law_976 rfl ?_
    refine zr_iadd hx hb dL_law_977 ?_
    refine zr_sld hx hb hX hbl hbA hS 2 (by omega) (by omega) (by omega) dL_law_978 ?_
    refine zr_i2l hx hb (x := zv xs 2) (⟨by omega, by omega⟩) dL_law_979 ?_
    refine zr_ldc2 (z := 4294967295) hx hb hown (hts (.constantLong RL 137 (4294967295)) (by decide +kernel)) rfl dL_law_980 ?_
    refine zr_land32 hx hb dL_law_983 ?_
    refine zr_lor32 hx hb dL_law_984 ?_
    refine lv_aload_n hx hb dL_law_985 rfl (lv_at hl 1 rfl) ?_
    refine lv_iload hx hb dL_law_986 (lv_at hl 5 rfl) ?_
    refine lv_iconst (v := iz (3)) hx hb dL_law_988 rfl ?_
    refine zr_iadd hx hb dL_law_989 ?_
    refine zr_sld hx hb hX hbl hbA hS 3 (by omega) (by omega) (by omega) dL_law_990 ?_
    refine lv_aload_n hx hb dL_law_991 rfl (lv_at hl 1 rfl) ?_
    refine lv_iload hx hb dL_law_992 (lv_at hl 5 rfl) ?_
    refine lv_iconst (v := iz (4)) hx hb dL_law_994 rfl ?_
    refine zr_iadd hx hb dL_law_995 ?_
    refine zr_sld hx hb hX hbl hbA hS 4 (by omega) (by omega) (by omega) dL_law_996 ?_
    refine zc_l (wr := [(nl, .inr (4, [.ref nr, .ref ne, .ref nh, .ref tb, .ref q, .long (lz (0)), .int (iz (0)), .int (iz (0))])), (nr, zaI (G.2 1) 61 (fun _ => 0)), (ne, zaL (G.2 0) 61 (fun _ => 0)), (nh, zaZ (G.2 2) 61 (fun _ => 0)), (tb, zaR (G.2 3) 7 (ztb tr)), ((tr 0), zaL (G.2 0) 61 (fun _ => 0)), ((tr 1), zaL (G.2 0) 61 (fun _ => 0)), ((tr 2), zaL (G.2 0) 61 (fun _ => 0)), ((tr 3), zaL (G.2 0) 61 (fun _ => 0)), ((tr 4), zaL (G.2 0) 61 (fun _ => 0)), ((tr 5), zaL (G.2 0) 61 (fun _ => 0)), ((tr 6), zaL (G.2 0) 61 (fun _ => 0)), (q, .inr (2, [.ref sa, .ref da, .ref wa, .long (lz (1)), .long (lz (1)), .int (iz (0))])), (sa, .inr (9, [.ref sb, .int (iz (0)), .long (lz (0))])), (sb, zaL (G.2 0) 40 (fun _ => 0)), (da, .inr (9, [.ref db, .int (iz (0)), .long (lz (0))])), (db, zaL (G.2 0) 40 (fun _ => 0)), (wa, .inr (9, [.ref wb, .int (iz (0)), .long (lz (0))])), (wb, zaL (G.2 0) 40 (fun _ => 0)), (ro, .inr (5, [.int (iz (6))])), (ou, zaL (G.2 0) 1 ((fun _ => 0)))]) (va_runV (As := [.long (lz (zlo (zv xs 1) (zv xs 2))), .int (iz (zv xs 3)), .int (iz (zv xs 4))]) (rest := []) ⟨hx, hb, hml, hown, hts⟩ (c_X12_lend_x l G mm ma mt ml mw mb mp 0 (zlo (zv xs 1) (zv xs 2)) (zv xs 3) (zv xs 4) (by omega) (by omega) (by omega) (by omega) H.size) (cwV 3 hts gL_law_X12_lend rfl rfl rfl (by decide +kernel) ⟨Nat.le_of_ble_eq_true rfl, Nat.le_of_ble_eq_true rfl⟩) (zpV hKX hP hD [20] rfl rfl 20 13 rfl rfl) rfl rfl hl.1 rfl (lv_room (Nat.le_of_ble_eq_true rfl)) dL_law_997 ⟨(by show _ ≤ (600002 : Nat); omega), (by show _ ≤ (7302232 : Nat); omega)⟩) hP hD hS hA [20] [0, 1, 2, 3, 4, 5, 6, 7, 8, 9, 10, 11, 12, 13, 14, 15, 16, 17, 18, 19, 21] rfl rfl rfl (by decide) (fun zm u_11 H locs hm hP hD hS => ?_)
    generalize u_11 = thm at hP hD hm
    have hP : va_P G.1 vwCl [(nl, .inr (4, [.ref nr, .ref ne, .ref nh, .ref tb, .ref q, .long (lz (0)), .int (iz (0)), .int (iz (0))])), (nr, zaI (G.2 1) 61 (fun _ => 0)), (ne, zaL (G.2 0) 61 (fun _ => 0)), (nh, zaZ (G.2 2) 61 (fun _ => 0)), (tb, zaR (G.2 3) 7 (ztb tr)), ((tr 0), zaL (G.2 0) 61 (fun _ => 0)), ((tr 1), zaL (G.2 0) 61 (fun _ => 0)), ((tr 2), zaL (G.2 0) 61 (fun _ => 0)), ((tr 3), zaL (G.2 0) 61 (fun _ => 0)), ((tr 4), zaL (G.2 0) 61 (fun _ => 0)), ((tr 5), zaL (G.2 0) 61 (fun _ => 0)), ((tr 6), zaL (G.2 0) 61 (fun _ => 0)), (q, .inr (2, [.ref sa, .ref da, .ref wa, .long (lz (1)), .long (lz (1)), .int (iz (0))])), (sa, .inr (9, [.ref sb, .int (iz (0)), .long (lz (0))])), (sb, zaL (G.2 0) 40 (fun _ => 0)), (da, .inr (9, [.ref db, .int (iz (0)), .long (lz (0))])), (db, zaL (G.2 0) 40 (fun _ => 0)), (wa, .inr (9, [.ref wb, .int (iz (0)), .long (lz (0))])), (wb, zaL (G.2 0) 40 (fun _ => 0)), (ro, .inr (5, [.int (iz (6))])), (ou, zaL (G.2 0) 1 ((fun _ => 0))), (mm, .inr (13, [.int (iz (thm)), .int (iz (6)), .ref ma, .null, .ref mt, .ref ml, .int (iz (0)), .ref mw, .int (iz (0)), .ref mb, .ref mp, .int (iz (0))]))] H := hP
    have hD : va_D (zlA s) [(nl, .inr (4, [.ref nr, .ref ne, .ref nh, .ref tb, .ref q, .long (lz (0)), .int (iz (0)), .int (iz (0))])), (nr, zaI (G.2 1) 61 (fun _ => 0)), (ne, zaL (G.2 0) 61 (fun _ => 0)), (nh, zaZ (G.2 2) 61 (fun _ => 0)), (tb, zaR (G.2 3) 7 (ztb tr)), ((tr 0), zaL (G.2 0) 61 (fun _ => 0)), ((tr 1), zaL (G.2 0) 61 (fun _ => 0)), ((tr 2), zaL (G.2 0) 61 (fun _ => 0)), ((tr 3), zaL (G.2 0) 61 (fun _ => 0)), ((tr 4), zaL (G.2 0) 61 (fun _ => 0)), ((tr 5), zaL (G.2 0) 61 (fun _ => 0)), ((tr 6), zaL (G.2 0) 61 (fun _ => 0)), (q, .inr (2, [.ref sa, .ref da, .ref wa, .long (lz (1)), .long (lz (1)), .int (iz (0))])), (sa, .inr (9, [.ref sb, .int (iz (0)), .long (lz (0))])), (sb, zaL (G.2 0) 40 (fun _ => 0)), (da, .inr (9, [.ref db, .int (iz (0)), .long (lz (0))])), (db, zaL (G.2 0) 40 (fun _ => 0)), (wa, .inr (9, [.ref wb, .int (iz (0)), .long (lz (0))])), (wb, zaL (G.2 0) 40 (fun _ => 0)), (ro, .inr (5, [.int (iz (6))])), (ou, zaL (G.2 0) 1 ((fun _ => 0))), (mm, .inr (13, [.int (iz (thm)), .int (iz (6)), .ref ma, .null, .ref mt, .ref ml, .int (iz (0)), .ref mw, .int (iz (0)), .ref mb, .ref mp, .int (iz (0))]))] := hD
    have hm : zm = 0 ∧ thm = 1 := hm
    have htp := hm.2
    refine lv_lstore (lv' := [(6, .long (lz (zm))), (5, .int (iz (1))), (0, .ref b), (1, .ref x), (2, .ref mm), (3, .ref ou), (4, .int (iz (0)))]) hx hb dL_law_1000 hl (by decide) rfl (fun ls hl => ?_)
    refine lv_aload_n hx hb dL_law_1002 rfl (lv_at hl 4 rfl) ?_
    refine zc_i (wr := [(nl, .inr (4, [.ref nr, .ref ne, .ref nh, .ref tb, .ref q, .long (lz (0)), .int (iz (0)), .int (iz (0))])), (nr, zaI (G.2 1) 61 (fun _ => 0)), (ne, zaL (G.2 0) 61 (fun _ => 0)), (nh, zaZ (G.2 2) 61 (fun _ => 0)), (tb, zaR (G.2 3) 7 (ztb tr)), ((tr 0), zaL (G.2 0) 61 (fun _ => 0)), ((tr 1), zaL (G.2 0) 61 (fun _ => 0)), ((tr 2), zaL (G.2 0) 61 (fun _ => 0)), ((tr 3), zaL (G.2 0) 61 (fun _ => 0)), ((tr 4), zaL (G.2 0) 61 (fun _ => 0)), ((tr 5), zaL (G.2 0) 61 (fun _ => 0)), ((tr 6), zaL (G.2 0) 61 (fun _ => 0)), (q, .inr (2, [.ref sa, .ref da, .ref wa, .long (lz (1)), .long (lz (1)), .int (iz (0))])), (sa, .inr (9, [.ref sb, .int (iz (0)), .long (lz (0))])), (sb, zaL (G.2 0) 40 (fun _ => 0)), (da, .inr (9, [.ref db, .int (iz (0)), .long (lz (0))])), (db, zaL (G.2 0) 40 (fun _ => 0)), (wa, .inr (9, [.ref wb, .int (iz (0)), .long (lz (0))])), (wb, zaL (G.2 0) 40 (fun _ => 0)), (ro, .inr (5, [.int (iz (6))])), (ou, zaL (G.2 0) 1 ((fun _ => 0)))]) (va_runV (As := []) (rest := []) ⟨hx, hb, hml, hown, hts⟩ (c_X12_thrown_v l G mm thm (.ref ma) .null (.ref mt) (.ref ml) (.int (iz (0))) (.ref mw) (.int (iz (0))) (.ref mb) (.ref mp) (.int (iz (0))) 6  H.size) (cwV 0 hts gL_law_X12_thrown rfl rfl rfl (by decide +kernel) ⟨Nat.le_of_ble_eq_true rfl, Nat.le_of_ble_eq_true rfl⟩) (zpV hKX hP hD [21] rfl rfl 21 13 rfl rfl) rfl rfl hl.1 rfl (lv_room (Nat.le_of_ble_eq_true rfl)) dL_law_1003 ⟨(by show _ ≤ (600002 : Nat); omega), (by show _ ≤ (7302232 : Nat); omega)⟩) hP hD hS hA [21] [0, 1, 2, 3, 4, 5, 6, 7, 8, 9, 10, 11, 12, 13, 14, 15, 16, 17, 18, 19, 20] rfl rfl rfl (by decide) (fun th9 u_13 H locs hth hP hD hS => ?_)
    have hP : va_P G.1 vwCl [(nl, .inr (4, [.ref nr, .ref ne, .ref nh, .ref tb, .ref q, .long (lz (0)), .int (iz (0)), .int (iz (0))])), (nr, zaI (G.2 1) 61 (fun _ => 0)), (ne, zaL (G.2 0) 61 (fun _ => 0)), (nh, zaZ (G.2 2) 61 (fun _ => 0)), (tb, zaR (G.2 3) 7 (ztb tr)), ((tr 0), zaL (G.2 0) 61 (fun _ => 0)), ((tr 1), zaL (G.2 0) 61 (fun _ => 0)), ((tr 2), zaL (G.2 0) 61 (fun _ => 0)), ((tr 3), zaL (G.2 0) 61 (fun _ => 0)), ((tr 4), zaL (G.2 0) 61 (fun _ => 0)), ((tr 5), zaL (G.2 0) 61 (fun _ => 0)), ((tr 6), zaL (G.2 0) 61 (fun _ => 0)), (q, .inr (2, [.ref sa, .ref da, .ref wa, .long (lz (1)), .long (lz (1)), .int (iz (0))])), (sa, .inr (9, [.ref sb, .int (iz (0)), .long (lz (0))])), (sb, zaL (G.2 0) 40 (fun _ => 0)), (da, .inr (9, [.ref db, .int (iz (0)), .long (lz (0))])), (db, zaL (G.2 0) 40 (fun _ => 0)), (wa, .inr (9, [.ref wb, .int (iz (0)), .long (lz (0))])), (wb, zaL (G.2 0) 40 (fun _ => 0)), (ro, .inr (5, [.int (iz (6))])), (ou, zaL (G.2 0) 1 ((fun _ => 0))), (mm, .inr (13, [.int (iz (thm)), .int (iz ((6 : Int))), .ref ma, .null, .ref mt, .ref ml, .int (iz (0)), .ref mw, .int (iz (0)), .ref mb, .ref mp, .int (iz (0))]))] H := hP
    have hD : va_D (zlA s) [(nl, .inr (4, [.ref nr, .ref ne, .ref nh, .ref tb, .ref q, .long (lz (0)), .int (iz (0)), .int (iz (0))])), (nr, zaI (G.2 1) 61 (fun _ => 0)), (ne, zaL (G.2 0) 61 (fun _ => 0)), (nh, zaZ (G.2 2) 61 (fun _ => 0)), (tb, zaR (G.2 3) 7 (ztb tr)), ((tr 0), zaL (G.2 0) 61 (fun _ => 0)), ((tr 1), zaL (G.2 0) 61 (fun _ => 0)), ((tr 2), zaL (G.2 0) 61 (fun _ => 0)), ((tr 3), zaL (G.2 0) 61 (fun _ => 0)), ((tr 4), zaL (G.2 0) 61 (fun _ => 0)), ((tr 5), zaL (G.2 0) 61 (fun _ => 0)), ((tr 6), zaL (G.2 0) 61 (fun _ => 0)), (q, .inr (2, [.ref sa, .ref da, .ref wa, .long (lz (1)), .long (lz (1)), .int (iz (0))])), (sa, .inr (9, [.ref sb, .int (iz (0)), .long (lz (0))])), (sb, zaL (G.2 0) 40 (fun _ => 0)), (da, .inr (9, [.ref db, .int (iz (0)), .long (lz (0))])), (db, zaL (G.2 0) 40 (fun _ => 0)), (wa, .inr (9, [.ref wb, .int (iz (0)), .long (lz (0))])), (wb, zaL (G.2 0) 40 (fun _ => 0)), (ro, .inr (5, [.int (iz (6))])), (ou, zaL (G.2 0) 1 ((fun _ => 0))), (mm, .inr (13, [.int (iz (thm)), .int (iz ((6 : Int))), .ref ma, .null, .ref mt, .ref ml, .int (iz (0)), .ref mw, .int (iz (0)), .ref mb, .ref mp, .int (iz (0))]))] := hD
    have hth : th9 = thm := hth
    rw [show th9 = 1 from hth.trans htp]
    refine lv_iload hx hb dL_law_1006 (lv_at hl 1 rfl) ?_
    refine zr_icmp_eq (x := 1) (y := 1) (tgt := 1013) hx hb (⟨by omega, by omega⟩) (⟨by omega, by omega⟩) dL_law_1008 (by decide) (fun h_15 => ?_) (fun h_15 => ?_)
    ·
      refine lv_iload hx hb dL_law_1013 (lv_at hl 1 rfl) ?_
      refine zr_if_ne (x := 1) (tgt := 1029) hx hb (⟨by omega, by omega⟩) dL_law_1015 (by decide) (fun h_16 => ?_) (fun h_16 => ?_)
      ·
        refine lv_goto (tgt := 3039) hx hb dL_law_1029 (by decide) ?_
        exact zl_end hL8 C0 hS (lv_sub hl [2, 6] rfl) (by show _ ≤ (600002 : Nat); omega) (by show _ ≤ (7302232 : Nat); omega)
      · exact absurd h_16 (by omega)
    · exact absurd h_15 (by omega)
