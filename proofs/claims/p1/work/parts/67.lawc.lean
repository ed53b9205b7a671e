-- THE LAW'S CASES (laid by wip/walk/xlaw.py)
set_option maxHeartbeats 4000000 in
set_option maxRecDepth 100000 in
theorem zl_25 {p : Program} {e : Env} {s : State} {m : MethodId} {below : List Frame} {meth : Method} {c : Code} {l : Launch} (hl0 : l.stackTraces = false) {b L : Nat} {xs : Nat → Int32} (hL8 : L = 8) (C0 : lw_At p s m meth c b L xs) {G : zG} {nA nB nE s1 s2 s3 : Nat} (hKX : zK G s) (hEm : zE G nA nB nE (zlA s) s) (hEc : zXL s1 s2 s3 (zlA s) s) (x : Nat) (ro : Nat) (rw : Nat) (bo : Nat) (li : Nat) (sh : Nat) (tx : Nat) (lo : Nat) (nl : Nat) (lx0 : Value) (lx1 : Value) (lx2 : Value) (ou : Nat) (mm : Nat) (ma : Nat) (mt : Nat) (ml : Nat) (mw : Nat) (mb : Nat) (mp : Nat) {H : Heap} {locs : List Loc} {ls : Array Slot} (hP : va_P G.1 vwCl [(x, .inr (10, [.ref ro, .ref rw, .ref bo, .ref li, .ref sh, .ref tx, .ref lo, .ref nl])), (li, .inr (3, [lx0, lx1, lx2, .int (iz (0))])), (ou, zaL (G.2 0) 1 (fun _ => 0)), (mm, .inr (13, [.int (iz (0)), .int (iz (6)), .ref ma, .null, .ref mt, .ref ml, .int (iz (0)), .ref mw, .int (iz (0)), .ref mb, .ref mp, .int (iz (0))]))] H) (hD : va_D (zlA s) [(x, .inr (10, [.ref ro, .ref rw, .ref bo, .ref li, .ref sh, .ref tx, .ref lo, .ref nl])), (li, .inr (3, [lx0, lx1, lx2, .int (iz (0))])), (ou, zaL (G.2 0) 1 (fun _ => 0)), (mm, .inr (13, [.int (iz (0)), .int (iz (6)), .ref ma, .null, .ref mt, .ref ml, .int (iz (0)), .ref mw, .int (iz (0)), .ref mb, .ref mp, .int (iz (0))]))]) (hS : va_S (zlA s) s.heap H locs) (hl : lv_has ls 9 [(0, .ref b), (1, .ref x), (2, .ref mm), (3, .ref ou), (4, .int (iz (0)))]) : W p l e room_1 s m #[Value.ref b] below meth c H locs 200 4000 (lw_Z below #[Value.ref b] s) (F0 m 2180 ls []) := by
  obtain ⟨hx, hb, hr, hml, hown, hts, hX, hbl, hlocks, hgv⟩ := id C0
  have hbA : ¬ zlA s b := Nat.not_le.mpr hbl
  have hK := hKX.1
  have hts : ∀ w ∈ wsL_law, w.before #[Value.ref b] s = true := fun w h => hts w (wsL_law_in w h)
  have hown : s.vm.findClass RL = some m.cls := hown
  have hA : ∀ q : Nat, s.heap.size ≤ q → zlA s q := fun _ h => h
  have hE := hEm
  have hv1 := zv_rng xs 1
  have hv2 := zv_rng xs 2
  have hv3 := zv_rng xs 3
  have hv4 := zv_rng xs 4
  have hv5 := zv_rng xs 5
  have hv6 := zv_rng xs 6
  have hv7 := zv_rng xs 7
  have hw2 := zlo_rng (zv xs 2) (zv xs 3)
  by_cases hco0 : 0 ≤ (zlo (zv xs 2) (zv xs 3)) ∧ (zlo (zv xs 2) (zv xs 3)) ≤ 1000000000 ∧ 0 ≤ (zv xs 4) ∧ (zv xs 4) ≤ 20000
  ·
    refine lv_aload_n hx hb dL_law_2180 rfl (lv_at hl 1 rfl) ?_
    refine lv_aload_n hx hb dL_law_2181 rfl (lv_at hl 0 rfl) ?_
    refine lv_iload hx hb dL_law_2182 (lv_at hl 4 rfl) ?_
    refine lv_iconst (v := iz (1)) hx hb dL_law_2184 rfl ?_
    refine zr_iadd hx hb dL_law_2185 ?_
    refine zr_sld hx hb hX hbl hbA hS 1 (by omega) (by omega) (by omega) dL_law_2186 ?_
    refine lv_aload_n hx hb dL_law_2187 rfl (lv_at hl 0 rfl) ?_
    refine lv_iload hx hb dL_law_2188 (lv_at hl 4 rfl) ?_
    refine lv_iconst (v := iz (2)) hx hb dL_law_2190 rfl ?_
    refine zr_iadd hx hb dL_law_2191 ?_
    refine zr_sld hx hb hX hbl hbA hS 2 (by omega) (by omega) (by omega) dL_law_2192 ?_
    refine zr_i2l hx hb (x := zv xs 2) (⟨by omega, by omega⟩) dL_law_2193 ?_
    refine lv_bipush (v := iz (32)) hx hb dL_law_2194 rfl ?_
    refine zr_lshl32 hx hb dL_law_2196 ?_
    refine lv_aload_n hx hb dL_law_2197 rfl (lv_at hl 0 rfl) ?_
    refine lv_iload hx hb dL_law_2198 (lv_at hl 4 rfl) ?_
    refine lv_iconst (v := iz (3)) hx hb dL_law_2200 rfl ?_
    refine zr_iadd hx hb dL_law_2201 ?_
    refine zr_sld hx hb hX hbl hbA hS 3 (by omega) (by omega) (by omega) dL_law_2202 ?_
    refine zr_i2l hx hb (x := zv xs 3) (⟨by omega, by omega⟩) dL_law_2203 ?_
    refine zr_ldc2 (z := 4294967295) hx hb hown (hts (.constantLong RL 137 (4294967295)) (by decide +kernel)) rfl dL_law_2204 ?_
    refine zr_land32 hx hb dL_law_2207 ?_
    refine zr_lor32 hx hb dL_law_2208 ?_
    refine lv_aload_n hx hb dL_law_2209 rfl (lv_at hl 0 rfl) ?_
    refine lv_iload hx hb dL_law_2210 (lv_at hl 4 rfl) ?_
    refine lv_iconst (v := iz (4)) hx hb dL_law_2212 rfl ?_
    refine zr_iadd hx hb dL_law_2213 ?_
    refine zr_sld hx hb hX hbl hbA hS 4 (by omega) (by omega) (by omega) dL_law_2214 ?_
    refine lv_aload_n hx hb dL_law_2215 rfl (lv_at hl 3 rfl) ?_
    refine zc_i (wr := [(mm, .inr (13, [.int (iz (0)), .int (iz (6)), .ref ma, .null, .ref mt, .ref ml, .int (iz (0)), .ref mw, .int (iz (0)), .ref mb, .ref mp, .int (iz (0))]))]) (vx_runSW (As := [.ref x, .int (iz (zv xs 1)), .long (lz (zlo (zv xs 2) (zv xs 3))), .int (iz (zv xs 4)), .ref ou]) (rest := []) ⟨hx, hb, hml, hown, hts⟩ (c_L_premium_x2 l G s1 s2 s3 x ro rw bo li sh tx lo nl lx0 lx1 lx2 (zv xs 1) (zlo (zv xs 2) (zv xs 3)) (zv xs 4) ou (fun _ => 0) hl0 (by omega) (by omega) (by omega) (by omega) H.size) (vx_cwSW 5 hts gL_law_L_premium rfl rfl rfl (by decide +kernel) ⟨Nat.le_of_ble_eq_true rfl, Nat.le_of_ble_eq_true rfl⟩) (zpSe zXL_ok hEc hS hA hKX hP hD [0, 1, 2] rfl rfl) rfl rfl hl.1 rfl (lv_room (Nat.le_of_ble_eq_true rfl)) dL_law_2216 ⟨(by show _ ≤ (600002 : Nat); omega), (by show _ ≤ (7302232 : Nat); omega)⟩) hP hD hS hA [0, 1, 2] [3] rfl rfl rfl (by decide) (fun kk u_1 H locs hw hP hD hS => ?_)
    have hP : va_P G.1 vwCl [(mm, .inr (13, [.int (iz (0)), .int (iz (6)), .ref ma, .null, .ref mt, .ref ml, .int (iz (0)), .ref mw, .int (iz (0)), .ref mb, .ref mp, .int (iz (0))])), (ou, zaL (G.2 0) 1 ((fun _ => 0)))] H := hP
    have hD : va_D (zlA s) [(mm, .inr (13, [.int (iz (0)), .int (iz (6)), .ref ma, .null, .ref mt, .ref ml, .int (iz (0)), .ref mw, .int (iz (0)), .ref mb, .ref mp, .int (iz (0))])), (ou, zaL (G.2 0) 1 ((fun _ => 0)))] := hD
    have hw : kk = 2 := hw
    rw [show kk = 2 from hw]
    refine lv_istore (lv' := [(5, .int (iz (2))), (0, .ref b), (1, .ref x), (2, .ref mm), (3, .ref ou), (4, .int (iz (0)))]) hx hb dL_law_2219 hl (by decide) rfl (fun ls hl => ?_)
    refine lv_aload_n hx hb dL_law_2221 rfl (lv_at hl 3 rfl) ?_
    refine lv_aload_n hx hb dL_law_2222 rfl (lv_at hl 1 rfl) ?_
    refine lv_iload hx hb dL_law_2223 (lv_at hl 5 rfl) ?_
    refine lv_iconst (v := iz (1)) hx hb dL_law_2225 rfl ?_
    refine zr_iadd hx hb dL_law_2226 ?_
    refine zr_sld hx hb hX hbl hbA hS 1 (by omega) (by omega) (by omega) dL_law_2227 ?_
    refine lv_aload_n hx hb dL_law_2228 rfl (lv_at hl 1 rfl) ?_
    refine lv_iload hx hb dL_law_2229 (lv_at hl 5 rfl) ?_
    refine lv_iconst (v := iz (2)) hx hb dL_law_2231 rfl ?_
    refine zr_iadd hx hb dL_law_2232 ?_
    refine zr_sld hx hb hX hbl hbA hS 2 (by omega) (by omega) (by omega) dL_law_2233 ?_
    refine zr_i2l hx hb (x := zv xs 2) (⟨by omega, by omega⟩) dL_law_2234 ?_
    refine lv_bipush (v := iz (32)) hx hb dL_law_2235 rfl ?_
    refine zr_lshl32 hx hb dL_law_2237 ?_
    refine lv_aload_n hx hb dL_law_2238 rfl (lv_at hl 1 rfl) ?_
    refine lv_iload hx hb dL_law_2239 (lv_at hl 5 rfl) ?_
    refine lv_iconst (v := iz (3)) hx hb dL_law_2241 rfl ?_
    refine zr_iadd hx hb dL_law_2242 ?_
    refine zr_sld hx hb hX hbl hbA hS 3 (by omega) (by omega) (by omega) dL_law_2243 ?_
    refine zr_i2l hx hb (x := zv xs 3) (⟨by omega, by omega⟩) dL_law_2244 ?_
    refine zr_ldc2 (z := 4294967295) hx hb hown (hts (.constantLong RL 137 (4294967295)) (by decide +kernel)) rfl dL_law_2245 ?_
    refine zr_land32 hx hb dL_law_2248 ?_
    refine zr_lor32 hx hb dL_law_2249 ?_
    refine lv_aload_n hx hb dL_law_2250 rfl (lv_at hl 1 rfl) ?_
    refine lv_iload hx hb dL_law_2251 (lv_at hl 5 rfl) ?_
    refine lv_iconst (v := iz (4)) hx hb dL_law_2253 rfl ?_
    refine zr_iadd hx hb dL_law_2254 ?_
    refine zr_sld hx hb hX hbl hbA hS 4 (by omega) (by omega) (by omega) dL_law_2255 ?_
    refine zc_l (wr := [(ou, zaL (G.2 0) 1 ((fun _ => 0)))]) (va_runV (As := [.int (iz (zv xs 1)), .long (lz (zlo (zv xs 2) (zv xs 3))), .int (iz (zv xs 4))]) (rest := []) ⟨hx, hb, hml, hown, hts⟩ (c_X12_premium_o l G mm ma mt ml mw mb mp 0 (zv xs 1) (zlo (zv xs 2) (zv xs 3)) (zv xs 4) (by omega) (by omega) (by omega) (by omega) H.size) (cwV 3 hts gL_law_X12_premium rfl rfl rfl (by decide +kernel) ⟨Nat.le_of_ble_eq_true rfl, Nat.le_of_ble_eq_true rfl⟩) (zpV hKX hP hD [0] rfl rfl 0 13 rfl rfl) rfl rfl hl.1 rfl (lv_room (Nat.le_of_ble_eq_true rfl)) dL_law_2256 ⟨(by show _ ≤ (600002 : Nat); omega), (by show _ ≤ (7302232 : Nat); omega)⟩) hP hD hS hA [0] [1] rfl rfl rfl (by decide) (fun zm u_3 H locs hm hP hD hS => ?_)
    generalize u_3 = thm at hP hD hm
    have hP : va_P G.1 vwCl [(ou, zaL (G.2 0) 1 ((fun _ => 0))), (mm, .inr (13, [.int (iz (thm)), .int (iz (6)), .ref ma, .null, .ref mt, .ref ml, .int (iz (0)), .ref mw, .int (iz (0)), .ref mb, .ref mp, .int (iz (0))]))] H := hP
    have hD : va_D (zlA s) [(ou, zaL (G.2 0) 1 ((fun _ => 0))), (mm, .inr (13, [.int (iz (thm)), .int (iz (6)), .ref ma, .null, .ref mt, .ref ml, .int (iz (0)), .ref mw, .int (iz (0)), .ref mb, .ref mp, .int (iz (0))]))] := hD
    have hm : zm = 0 ∧ thm = 2 := hm
    have htp := hm.2
    refine lv_lstore (lv' := [(6, .long (lz (zm))), (5, .int (iz (2))), (0, .ref b), (1, .ref x), (2, .ref mm), (3, .ref ou), (4, .int (iz (0)))]) hx hb dL_law_2259 hl (by decide) rfl (fun ls hl => ?_)
    refine lv_aload_n hx hb dL_law_2261 rfl (lv_at hl 4 rfl) ?_
    refine zc_i (wr := [(ou, zaL (G.2 0) 1 ((fun _ => 0)))]) (va_runV (As := []) (rest := []) ⟨hx, hb, hml, hown, hts⟩ (c_X12_thrown_v l G mm thm (.ref ma) .null (.ref mt) (.ref ml) (.int (iz (0))) (.ref mw) (.int (iz (0))) (.ref mb) (.ref mp) (.int (iz (0))) 6  H.size) (cwV 0 hts gL_law_X12_thrown rfl rfl rfl (by decide +kernel) ⟨Nat.le_of_ble_eq_true rfl, Nat.le_of_ble_eq_true rfl⟩) (zpV hKX hP hD [1] rfl rfl 1 13 rfl rfl) rfl rfl hl.1 rfl (lv_room (Nat.le_of_ble_eq_true rfl)) dL_law_2262 ⟨(by show _ ≤ (600002 : Nat); omega), (by show _ ≤ (7302232 : Nat); omega)⟩) hP hD hS hA [1] [0] rfl rfl rfl (by decide) (fun th9 u_5 H locs hth hP hD hS => ?_)
    have hP : va_P G.1 vwCl [(ou, zaL (G.2 0) 1 ((fun _ => 0))), (mm, .inr (13, [.int (iz (thm)), .int (iz ((6 : Int))), .ref ma, .null, .ref mt, .ref ml, .int (iz (0)), .ref mw, .int (iz (0)), .ref mb, .ref mp, .int (iz (0))]))] H := hP
    have hD : va_D (zlA s) [(ou, zaL (G.2 0) 1 ((fun _ => 0))), (mm, .inr (13, [.int (iz (thm)), .int (iz ((6 : Int))), .ref ma, .null, .ref mt, .ref ml, .int (iz (0)), .ref mw, .int (iz (0)), .ref mb, .ref mp, .int (iz (0))]))] := hD
    have hth : th9 = thm := hth
    rw [show th9 = 2 from hth.trans htp]
    refine lv_iload hx hb dL_law_2265 (lv_at hl 1 rfl) ?_
    refine zr_icmp_eq (x := 2) (y := 2) (tgt := 2272) hx hb (⟨by omega, by omega⟩) (⟨by omega, by omega⟩) dL_law_2267 (by decide) (fun h_7 => ?_) (fun h_7 => ?_)
    ·
      refine lv_iload hx hb dL_law_2272 (lv_at hl 1 rfl) ?_
      refine zr_if_ne (x := 2) (tgt := 2288) hx hb (⟨by omega, by omega⟩) dL_law_2274 (by decide) (fun h_8 => ?_) (fun h_8 => ?_)
      ·
        refine lv_goto (tgt := 3039) hx hb dL_law_2288 (by decide) ?_
        exact zl_end hL8 C0 hS (lv_sub hl [2, 6] rfl) (by show _ ≤ (600002 : Nat); omega) (by show _ ≤ (7302232 : Nat); omega)
      · exact absurd h_8 (by omega)
    · exact absurd h_7 (by omega)
  ·
    refine lv_aload_n hx hb dL_law_2180 rfl (lv_at hl 1 rfl) ?_
    refine lv_aload_n hx hb dL_law_2181 rfl (lv_at hl 0 rfl) ?_
    refine lv_iload hx hb dL_law_2182 (lv_at hl 4 rfl) ?_
    refine lv_iconst (v := iz (1)) hx hb dL_law_2184 rfl ?_
    refine zr_iadd hx hb dL_law_2185 ?_
    refine zr_sld hx hb hX hbl hbA hS 1 (by omega) (by omega) (by omega) dL_law_2186 ?_
    refine lv_aload_n hx hb dL_law_2187 rfl (lv_at hl 0 rfl) ?_
    refine lv_iload hx hb dL_law_2188 (lv_at hl 4 rfl) ?_
    refine lv_iconst (v := iz (2)) hx hb dL_law_2190 rfl ?_
    refine zr_iadd hx hb dL_law_2191 ?_
    refine zr_sld hx hb hX hbl hbA hS 2 (by omega) (by omega) (by omega) dL_law_2192 ?_
    refine zr_i2l hx hb (x := zv xs 2) (⟨by omega, by omega⟩) dL_law_2193 ?_
    refine lv_bipush (v := iz (32)) hx hb dL_law_2194 rfl ?_
    refine zr_lshl32 hx hb dL_law_2196 ?_
    refine lv_aload_n hx hb dL_law_2197 rfl (lv_at hl 0 rfl) ?_
    refine lv_iload hx hb dL_law_2198 (lv_at hl 4 rfl) ?_
    refine lv_iconst (v := iz (3)) hx hb dL_law_2200 rfl ?_
    refine zr_iadd hx hb dL_law_2201 ?_
    refine zr_sld hx hb hX hbl hbA hS 3 (by omega) (by omega) (by omega) dL_law_2202 ?_
    refine zr_i2l hx hb (x := zv xs 3) (⟨by omega, by omega⟩) dL_law_2203 ?_
    refine zr_ldc2 (z := 4294967295) hx hb hown (hts (.constantLong RL 137 (4294967295)) (by decide +kernel)) rfl dL_law_2204 ?_
    refine zr_land32 hx hb dL_law_2207 ?_
    refine zr_lor32 hx hb dL_law_2208 ?_
    refine lv_aload_n hx hb dL_law_2209 rfl (lv_at hl 0 rfl) ?_
    refine lv_iload hx hb dL_law_2210 (lv_at hl 4 rfl) ?_
    refine lv_iconst (v := iz (4)) hx hb dL_law_2212 rfl ?_
    refine zr_iadd hx hb dL_law_2213 ?_
    refine zr_sld hx hb hX hbl hbA hS 4 (by omega) (by omega) (by omega) dL_law_2214 ?_
    refine lv_aload_n hx hb dL_law_2215 rfl (lv_at hl 3 rfl) ?_
    refine zc_i (wr := [(mm, .inr (13, [.int (iz (0)), .int (iz (6)), .ref ma, .null, .ref mt, .ref ml, .int (iz (0)), .ref mw, .int (iz (0)), .ref mb, .ref mp, .int (iz (0))]))]) (vx_runSW (As := [.ref x, .int (iz (zv xs 1)), .long (lz (zlo (zv xs 2) (zv xs 3))), .int (iz (zv xs 4)), .ref ou]) (rest := []) ⟨hx, hb, hml, hown, hts⟩ (c_L_premium_x1 l G s1 s2 s3 x ro rw bo li sh tx lo nl lx0 lx1 lx2 (zv xs 1) (zlo (zv xs 2) (zv xs 3)) (zv xs 4) ou (fun _ => 0) hl0 (by omega) (by omega) (by omega) (by omega) H.size) (vx_cwSW 5 hts gL_law_L_premium rfl rfl rfl (by decide +kernel) ⟨Nat.le_of_ble_eq_true rfl, Nat.le_of_ble_eq_true rfl⟩) (zpSe zXL_ok hEc hS hA hKX hP hD [0, 1, 2] rfl rfl) rfl rfl hl.1 rfl (lv_room (Nat.le_of_ble_eq_true rfl)) dL_law_2216 ⟨(by show _ ≤ (600002 : Nat); omega), (by show _ ≤ (7302232 : Nat); omega)⟩) hP hD hS hA [0, 1, 2] [3] rfl rfl rfl (by decide) (fun kk u_9 H locs hw hP hD hS => ?_)
    have hP : va_P G.1 vwCl [(mm, .inr (13, [.int (iz (0)), .int (iz (6)), .ref ma, .null, .ref mt, .ref ml, .int (iz (0)), .ref mw, .int (iz (0)), .ref mb, .ref mp, .int (iz (0))])), (ou, zaL (G.2 0) 1 ((fun _ => 0)))] H := hP
    have hD : va_D (zlA s) [(mm, .inr (13, [.int (iz (0)), .int (iz (6)), .ref ma, .null, .ref mt, .ref ml, .int (iz (0)), .ref mw, .int (iz (0)), .ref mb, .ref mp, .int (iz (0))])), (ou, zaL (G.2 0) 1 ((fun _ => 0)))] := hD
    have hw : kk = 1 := hw
    rw [show kk = 1 from hw]
    refine lv_istore (lv' := [(5, .int (iz (1))), (0, .ref b), (1, .ref x), (2, .ref mm), (3, .ref ou), (4, .int (iz (0)))]) hx hb dL_law_2219 hl (by decide) rfl (fun ls hl => ?_)
    refine lv_aload_n hx hb dL_law_2221 rfl (lv_at hl 3 rfl) ?_
    refine lv_aload_n hx hb dL_law_2222 rfl (lv_at hl 1 rfl) ?_
    refine lv_iload hx hb dL_law_2223 (lv_at hl 5 rfl) ?_
    refine lv_iconst (v := iz (1)) hx hb dL_law_2225 rfl ?_
    refine zr_iadd hx hb dL_law_2226 ?_
    refine zr_sld hx hb hX hbl hbA hS 1 (by omega) (by omega) (by omega) dL_law_2227 ?_
    refine lv_aload_n hx hb dL_law_2228 rfl (lv_at hl 1 rfl) ?_
    refine lv_iload hx hb dL_law_2229 (lv_at hl 5 rfl) ?_
    refine lv_iconst (v := iz (2)) hx hb dL_law_2231 rfl ?_
    refine zr_iadd hx hb dL_law_2232 ?_
    refine zr_sld hx hb hX hbl hbA hS 2 (by omega) (by omega) (by omega) dL_law_2233 ?_
    refine zr_i2l hx hb (x := zv xs 2) (⟨by omega, by omega⟩) dL_law_2234 ?_
    refine lv_bipush (v := iz (32)) hx hb dL_law_2235 rfl ?_
    refine zr_lshl32 hx hb dL_law_2237 ?_
    refine lv_aload_n hx hb dL_law_2238 rfl (lv_at hl 1 rfl) ?_
    refine lv_iload hx hb dL_law_2239 (lv_at hl 5 rfl) ?_
    refine lv_iconst (v := iz (3)) hx hb dL_law_2241 rfl ?_
    refine zr_iadd hx hb dL_law_2242 ?_
    refine zr_sld hx hb hX hbl hbA hS 3 (by omega) (by omega) (by omega) dL_law_2243 ?_
    refine zr_i2l hx hb (x := zv xs 3) (⟨by omega, by omega⟩) dL_law_2244 ?_
    refine zr_ldc2 (z := 4294967295) hx hb hown (hts (.constantLong RL 137 (4294967295)) (by decide +kernel)) rfl dL_law_2245 ?_
    refine zr_land32 hx hb dL_law_2248 ?_
    refine zr_lor32 hx hb dL_law_2249 ?_
    refine lv_aload_n hx hb dL_law_2250 rfl (lv_at hl 1 rfl) ?_
    refine lv_iload hx hb dL_law_2251 (lv_at hl 5 rfl) ?_
    refine lv_iconst (v := iz (4)) hx hb dL_law_2253 rfl ?_
    refine zr_iadd hx hb dL_law_2254 ?_
    refine zr_sld hx hb hX hbl hbA hS 4 (by omega) (by omega) (by omega) dL_law_2255 ?_
    refine zc_l (wr := [(ou, zaL (G.2 0) 1 ((fun _ => 0)))]) (va_runV (As := [.int (iz (zv xs 1)), .long (lz (zlo (zv xs 2) (zv xs 3))), .int (iz (zv xs 4))]) (rest := []) ⟨hx, hb, hml, hown, hts⟩ (c_X12_premium_x l G mm ma mt ml mw mb mp 0 (zv xs 1) (zlo (zv xs 2) (zv xs 3)) (zv xs 4) (by omega) (by omega) (by omega) (by omega) H.size) (cwV 3 hts gL_law_X12_premium rfl rfl rfl (by decide +kernel) ⟨Nat.le_of_ble_eq_true rfl, Nat.le_of_ble_eq_true rfl⟩) (zpV hKX hP hD [0] rfl rfl 0 13 rfl rfl) rfl rfl hl.1 rfl (lv_room (Nat.le_of_ble_eq_true rfl)) dL_law_2256 ⟨(by show _ ≤ (600002 : Nat); omega), (by show _ ≤ (7302232 : Nat); omega)⟩) hP hD hS hA [0] [1] rfl rfl rfl (by decide) (fun zm u_11 H locs hm hP hD hS => ?_)
    generalize u_11 = thm at hP hD hm
    have hP : va_P G.1 vwCl [(ou, zaL (G.2 0) 1 ((fun _ => 0))), (mm, .inr (13, [.int (iz (thm)), .int (iz (6)), .ref ma, .null, .ref mt, .ref ml, .int (iz (0)), .ref mw, .int (iz (0)), .ref mb, .ref mp, .int (iz (0))]))] H := hP
    have hD : va_D (zlA s) [(ou, zaL (G.2 0) 1 ((fun _ => 0))), (mm, .inr (13, [.int (iz (thm)), .int (iz (6)), .ref ma, .null, .ref mt, .ref ml, .int (iz (0)), .ref mw, .int (iz (0)), .ref mb, .ref mp, .int (iz (0))]))] := hD
    have hm : zm = 0 ∧ thm = 1 := hm
    have htp := hm.2
    refine lv_lstore (lv' := [(6, .long (lz (zm))), (5, .int (iz (1))), (0, .ref b), (1, .ref x), (2, .ref mm), (3, .ref ou), (4, .int (iz (0)))]) hx hb dL_law_2259 hl (by decide) rfl (fun ls hl => ?_)
    refine lv_aload_n hx hb dL_law_2261 rfl (lv_at hl 4 rfl) ?_
    refine zc_i (wr := [(ou, zaL (G.2 0) 1 ((fun _ => 0)))]) (va_runV (As := []) (rest := []) ⟨hx, hb, hml, hown, hts⟩ (c_X12_thrown_v l G mm thm (.ref ma) .null (.ref mt) (.ref ml) (.int (iz (0))) (.ref mw) (.int (iz (0))) (.ref mb) (.ref mp) (.int (iz (0))) 6  H.size) (cwV 0 hts gL_law_X12_thrown rfl rfl rfl (by decide +kernel) ⟨Nat.le_of_ble_eq_true rfl, Nat.le_of_ble_eq_true rfl⟩) (zpV hKX hP hD [1] rfl rfl 1 13 rfl rfl) rfl rfl hl.1 rfl (lv_room (Nat.le_of_ble_eq_true rfl)) dL_law_2262 ⟨(by show _ ≤ (600002 : Nat); omega), (by show _ ≤ (7302232 : Nat); omega)⟩) hP hD hS hA [1] [0] rfl rfl rfl (by decide) (fun th9 u_13 H locs hth hP hD hS => ?_)
    have hP : va_P G.1 vwCl [(ou, zaL (G.2 0) 1 ((fun _ => 0))), (mm, .inr (13, [.int (iz (thm)), .int (iz ((6 : Int))), .ref ma, .null, .ref mt, .ref ml, .int (iz (0)), .ref mw, .int (iz (0)), .ref mb, .ref mp, .int (iz (0))]))] H := hP
    have hD : va_D (zlA s) [(ou, zaL (G.2 0) 1 ((fun _ => 0))), (mm, .inr (13, [.int (iz (thm)), .int (iz ((6 : Int))), .ref ma, .null, .ref mt, .ref ml, .int (iz (0)), .ref mw, .int (iz (0)), .ref mb, .ref mp, .int (iz (0))]))] := hD
    have hth : th9 = thm := hth
    rw [show th9 = 1 from hth.trans htp]
    refine lv_iload hx hb dL_law_2265 (lv_at hl 1 rfl) ?_
    refine zr_icmp_eq (x := 1) (y := 1) (tgt := 2272) hx hb (⟨by omega, by omega⟩) (⟨by omega, by omega⟩) dL_law_2267 (by decide) (fun h_15 => ?_) (fun h_15 => ?_)
    ·
      refine lv_iload hx hb dL_law_2272 (lv_at hl 1 rfl) ?_
      refine zr_if_ne (x := 1) (tgt := 2288) hx hb (⟨by omega, by omega⟩) dL_law_2274 (by decide) (fun h_16 => ?_) (fun h_16 => ?_)
      ·
        refine lv_goto (tgt := 3039) hx hb dL_law_2288 (by decide) ?_
        exact zl_end hL8 C0 hS (lv_sub hl [2, 6] rfl) (by show _ ≤ (600002 : Nat); omega) (by show _ ≤ (7302232 : Nat); omega)
      · exact absurd h_16 (by omega)
    · exact absurd h_15 (by omega)

set_option maxHeartbeats 4000000 in
set_option maxRecDepth 100000 in
theorem zl_26 {p : Program} {e : Env} {s : State} {m : MethodId} {below : List Frame} {meth : Method} {c : Code} {l : Launch} (hl0 : l.stackTraces = false) {b L : Nat} {xs : Nat → Int32} (hL8 : L = 8) (C0 : lw_At p s m meth c b L xs) {G : zG} {nA nB nE s1 s2 s3 : Nat} (hKX : zK G s) (hEm : zE G nA nB nE (zlA s) s) (hEc : zXL s1 s2 s3 (zlA s) s) (x : Nat) (ro : Nat) (rw : Nat) (bo : Nat) (li : Nat) (sh : Nat) (tx : Nat) (lo : Nat) (nl : Nat) (lx0 : Value) (lx1 : Value) (lx2 : Value) (ou : Nat) (mm : Nat) (ma : Nat) (mt : Nat) (ml : Nat) (mw : Nat) (mb : Nat) (mp : Nat) {H : Heap} {locs : List Loc} {ls : Array Slot} (hP : va_P G.1 vwCl [(x, .inr (10, [.ref ro, .ref rw, .ref bo, .ref li, .ref sh, .ref tx, .ref lo, .ref nl])), (li, .inr (3, [lx0, lx1, lx2, .int (iz (0))])), (ou, zaL (G.2 0) 1 (fun _ => 0)), (mm, .inr (13, [.int (iz (0)), .int (iz (6)), .ref ma, .null, .ref mt, .ref ml, .int (iz (0)), .ref mw, .int (iz (0)), .ref mb, .ref mp, .int (iz (0))]))] H) (hD : va_D (zlA s) [(x, .inr (10, [.ref ro, .ref rw, .ref bo, .ref li, .ref sh, .ref tx, .ref lo, .ref nl])), (li, .inr (3, [lx0, lx1, lx2, .int (iz (0))])), (ou, zaL (G.2 0) 1 (fun _ => 0)), (mm, .inr (13, [.int (iz (0)), .int (iz (6)), .ref ma, .null, .ref mt, .ref ml, .int (iz (0)), .ref mw, .int (iz (0)), .ref mb, .ref mp, .int (iz (0))]))]) (hS : va_S (zlA s) s.heap H locs) (hl : lv_has ls 9 [(0, .ref b), (1, .ref x), (2, .ref mm), (3, .ref ou), (4, .int (iz (0)))]) : W p l e room_1 s m #[Value.ref b] below meth c H locs 200 4000 (lw_Z below #[Value.ref b] s) (F0 m 2291 ls []) := by
  obtain ⟨hx, hb, hr, hml, hown, hts, hX, hbl, hlocks, hgv⟩ := id C0
  have hbA : ¬ zlA s b := Nat.not_le.mpr hbl
  have hK := hKX.1
  have hts : ∀ w ∈ wsL_law, w.before #[Value.ref b] s = true := fun w h => hts w (wsL_law_in w h)
  have hown : s.vm.findClass RL = some m.cls := hown
  have hA : ∀ q : Nat, s.heap.size ≤ q → zlA s q := fun _ h => h
  have hE := hEm
  have hv1 := zv_rng xs 1
  have hv2 := zv_rng xs 2
  have hv3 := zv_rng xs 3
  have hv4 := zv_rng xs 4
  have hv5 := zv_rng xs 5
  have hv6 := zv_rng xs 6
  have hv7 := zv_rng xs 7
  have hw3 := zlo_rng (zv xs 3) (zv xs 4)
  by_cases hco0 : 0 ≤ zv xs 2 ∧ 0 ≤ (zlo (zv xs 3) (zv xs 4)) ∧ (zlo (zv xs 3) (zv xs 4)) ≤ 1000000000 ∧ 0 ≤ (zv xs 5) ∧ (zv xs 5) ≤ 20000
  ·
    refine lv_aload_n hx hb dL_law_2291 rfl (lv_at hl 1 rfl) ?_
    refine lv_aload_n hx hb dL_law_2292 rfl (lv_at hl 0 rfl) ?_
    refine lv_iload hx hb dL_law_2293 (lv_at hl 4 rfl) ?_
    refine lv_iconst (v := iz (1)) hx hb dL_law_2295 rfl ?_
    refine zr_iadd hx hb dL_law_2296 ?_
    refine zr_sld hx hb hX hbl hbA hS 1 (by omega) (by omega) (by omega) dL_law_2297 ?_
    refine lv_aload_n hx hb dL_law_2298 rfl (lv_at hl 0 rfl) ?_
    refine lv_iload hx hb dL_law_2299 (lv_at hl 4 rfl) ?_
    refine lv_iconst (v := iz (2)) hx hb dL_law_2301 rfl ?_
    refine zr_iadd hx hb dL_law_2302 ?_
    refine zr_sld hx hb hX hbl hbA hS 2 (by omega) (by omega) (by omega) dL_law_2303 ?_
    refine lv_aload_n hx hb dL_law_2304 rfl (lv_at hl 0 rfl) ?_
    refine lv_iload hx hb dL_law_2305 (lv_at hl 4 rfl) ?_
    refine lv_iconst (v := iz (3)) hx hb dL_law_2307 rfl ?_
    refine zr_iadd hx hb dL_law_2308 ?_
    refine zr_sld hx hb hX hbl hbA hS 3 (by omega) (by omega) (by omega) dL_law_2309 ?_
    refine zr_i2l hx hb (x := zv xs 3) (⟨by omega, by omega⟩) dL_law_2310 ?_
    refine lv_bipush (v := iz (32)) hx hb dL_law_2311 rfl ?_
    refine zr_lshl32 hx hb dL_law_2313 ?_
    refine lv_aload_n hx hb dL_law_2314 rfl (lv_at hl 0 rfl) ?_
    refine lv_iload hx hb dL_law_2315 (lv_at hl 4 rfl) ?_
    refine lv_iconst (v := iz (4)) hx hb dL_law_2317 rfl ?_
    refine zr_iadd hx hb dL_law_2318 ?_
    refine zr_sld hx hb hX hbl hbA hS 4 (by omega) (by omega) (by omega) dL_law_2319 ?_
    refine zr_i2l hx hb (x := zv xs 4) (⟨by omega, by omega⟩) dL_law_2320 ?_
    refine zr_ldc2 (z := 4294967295) hx hb hown (hts (.constantLong RL 137 (4294967295)) (by decide +kernel)) rfl dL_law_2321 ?_
    refine zr_land32 hx hb dL_law_2324 ?_
    refine zr_lor32 hx hb dL_law_2325 ?_
    refine lv_aload_n hx hb dL_law_2326 rfl (lv_at hl 0 rfl) ?_
    refine lv_iload hx hb dL_law_2327 (lv_at hl 4 rfl) ?_
    refine lv_iconst (v := iz (5)) hx hb dL_law_2329 rfl ?_
    refine zr_iadd hx hb dL_law_2330 ?_
    refine zr_sld hx hb hX hbl hbA hS 5 (by omega) (by omega) (by omega) dL_law_2331 ?_
    refine lv_aload_n hx hb dL_law_2332 rfl (lv_at hl 0 rfl) ?_
    refine lv_iload hx hb dL_law_2333 (lv_at hl 4 rfl) ?_
    refine lv_bipush (v := iz (6)) hx hb dL_law_2335 rfl ?_
    refine zr_iadd hx hb dL_law_2337 ?_
    refine zr_sld hx hb hX hbl hbA hS 6 (by omega) (by omega) (by omega) dL_law_2338 ?_
    refine zr_if_eq (x := zv xs 6) (tgt := 2346) hx hb (⟨by omega, by omega⟩) dL_law_2339 (by decide) (fun h_1 => ?_) (fun h_1 => ?_)
    ·
      refine lv_iconst (v := iz (0)) hx hb dL_law_2346 rfl ?_
      refine lv_aload_n hx hb dL_law_2347 rfl (lv_at hl 3 rfl) ?_
      refine zc_i (wr := [(mm, .inr (13, [.int (iz (0)), .int (iz (6)), .ref ma, .null, .ref mt, .ref ml, .int (iz (0)), .ref mw, .int (iz (0)), .ref mb, .ref mp, .int (iz (0))]))]) (vx_runSW (As := [.ref x, .int (iz (zv xs 1)), .int (iz (zv xs 2)), .long (lz (zlo (zv xs 3) (zv xs 4))), .int (iz (zv xs 5)), .int (iz (0)), .ref ou]) (rest := []) ⟨hx, hb, hml, hown, hts⟩ (c_L_reserve_x2 l G s1 s2 s3 x ro rw bo li sh tx lo nl lx0 lx1 lx2 (zv xs 1) (zv xs 2) (zlo (zv xs 3) (zv xs 4)) (zv xs 5) false ou (fun _ => 0) hl0 (by omega) (by omega) (by omega) (by omega) (by omega) H.size) (vx_cwSW 7 hts gL_law_L_reserve rfl rfl rfl (by decide +kernel) ⟨Nat.le_of_ble_eq_true rfl, Nat.le_of_ble_eq_true rfl⟩) (zpSe zXL_ok hEc hS hA hKX hP hD [0, 1, 2] rfl rfl) rfl rfl hl.1 rfl (lv_room (Nat.le_of_ble_eq_true rfl)) dL_law_2348 ⟨(by show _ ≤ (600002 : Nat); omega), (by show _ ≤ (7302232 : Nat); omega)⟩) hP hD hS hA [0, 1, 2] [3] rfl rfl rfl (by decide) (fun kk u_2 H locs hw hP hD hS => ?_)
      have hP : va_P G.1 vwCl [(mm, .inr (13, [.int (iz (0)), .int (iz (6)), .ref ma, .null, .ref mt, .ref ml, .int (iz (0)), .ref mw, .int (iz (0)), .ref mb, .ref mp, .int (iz (0))])), (ou, zaL (G.2 0) 1 ((fun _ => 0)))] H := hP
      have hD : va_D (zlA s) [(mm, .inr (13, [.int (iz (0)), .int (iz (6)), .ref ma, .null, .ref mt, .ref ml, .int (iz (0)), .ref mw, .int (iz (0)), .ref mb, .ref mp, .int (iz (0))])), (ou, zaL (G.2 0) 1 ((fun _ => 0)))] := hD
      have hw : kk = 2 := hw
      rw [show kk = 2 from hw]
      refine lv_istore (lv' := [(5, .int (iz (2))), (0, .ref b), (1, .ref x), (2, .ref mm), (3, .ref ou), (4, .int (iz (0)))]) hx hb dL_law_2351 hl (by decide) rfl (fun ls hl => ?_)
      refine lv_aload_n hx hb dL_law_2353 rfl (lv_at hl 3 rfl) ?_
      refine lv_aload_n hx hb dL_law_2354 rfl (lv_at hl 1 rfl) ?_
      refine lv_iload hx hb dL_law_2355 (lv_at hl 5 rfl) ?_
      refine lv_iconst (v := iz (1)) hx hb dL_law_2357 rfl ?_
      refine zr_iadd hx hb dL_law_2358 ?_
      refine zr_sld hx hb hX hbl hbA hS 1 (by omega) (by omega) (by omega) dL_law_2359 ?_
      refine lv_aload_n hx hb dL_law_2360 rfl (lv_at hl 1 rfl) ?_
      refine lv_iload hx hb dL_law_2361 (lv_at hl 5 rfl) ?_
      refine lv_iconst (v := iz (2)) hx hb dL_law_2363 rfl ?_
      refine zr_iadd hx hb dL_law_2364 ?_
      refine zr_sld hx hb hX hbl hbA hS 2 (by omega) (by omega) (by omega) dL_law_2365 ?_
      refine lv_aload_n hx hb dL_law_2366 rfl (lv_at hl 1 rfl) ?_
      refine lv_iload hx hb dL_law_2367 (lv_at hl 5 rfl) ?_
      refine lv_iconst (v := iz (3)) hx hb dL_law_2369 rfl ?_
      refine zr_iadd hx hb dL_law_2370 ?_
      refine zr_sld hx hb hX hbl hbA hS 3 (by omega) (by omega) (by omega) dL_law_2371 ?_
      refine zr_i2l hx hb (x := zv xs 3) (⟨by omega, by omega⟩) dL_law_2372 ?_
      refine lv_bipush (v := iz (32)) hx hb dL_law_2373 rfl ?_
      refine zr_lshl32 hx hb dL_law_2375 ?_
      refine lv_aload_n hx hb dL_law_2376 rfl (lv_at hl 1 rfl) ?_
      refine lv_iload hx hb dL_law_2377 (lv_at hl 5 rfl) ?_
      refine lv_iconst (v := iz (4)) hx hb dL_law_2379 rfl ?_
      refine zr_iadd hx hb dL_law_2380 ?_
      refine zr_sld hx hb hX hbl hbA hS 4 (by omega) (by omega) (by omega) dL_law_2381 ?_
      refine zr_i2l hx hb (x := zv xs 4) (⟨by omega, by omega⟩) dL_law_2382 ?_
      refine zr_ldc2 (z := 4294967295) hx hb hown (hts (.constantLong RL 137 (4294967295)) (by decide +kernel)) rfl dL_law_2383 ?_
      refine zr_land32 hx hb dL_law_2386 ?_
      refine zr_lor32 hx hb dL_law_2387 ?_
      refine lv_aload_n hx hb dL_law_2388 rfl (lv_at hl 1 rfl) ?_
      refine lv_iload hx hb dL_law_2389 (lv_at hl 5 rfl) ?_
      refine lv_iconst (v := iz (5)) hx hb dL_law_2391 rfl ?_
      refine zr_iadd hx hb dL_law_2392 ?_
      refine zr_sld hx hb hX hbl hbA hS 5 (by omega) (by omega) (by omega) dL_law_2393 ?_
      refine lv_aload_n hx hb dL_law_2394 rfl (lv_at hl 1 rfl) ?_
      refine lv_iload hx hb dL_law_2395 (lv_at hl 5 rfl) ?_
      refine lv_bipush (v := iz (6)) hx hb dL_law_2397 rfl ?_
      refine zr_iadd hx hb dL_law_2399 ?_
      refine zr_sld hx hb hX hbl hbA hS 6 (by omega) (by omega) (by omega) dL_law_2400 ?_
      refine zr_if_eq (x := zv xs 6) (tgt := 2408) hx hb (⟨by omega, by omega⟩) dL_law_2401 (by decide) (fun h_4 => ?_) (fun h_4 => ?_)
      ·
        refine lv_iconst (v := iz (0)) hx hb dL_law_2408 rfl ?_
        refine zc_l (wr := [(ou, zaL (G.2 0) 1 ((fun _ => 0)))]) (va_runV (As := [.int (iz (zv xs 1)), .int (iz (zv xs 2)), .long (lz (zlo (zv xs 3) (zv xs 4))), .int (iz (zv xs 5)), .int (iz (0))]) (rest := []) ⟨hx, hb, hml, hown, hts⟩ (c_X12_reserve_o l G mm ma mt ml mw mb mp 0 (zv xs 1) (zv xs 2) (zlo (zv xs 3) (zv xs 4)) (zv xs 5) false (by omega) (by omega) (by omega) (by omega) (by omega) H.size) (cwV 5 hts gL_law_X12_reserve rfl rfl rfl (by decide +kernel) ⟨Nat.le_of_ble_eq_true rfl, Nat.le_of_ble_eq_true rfl⟩) (zpV hKX hP hD [0] rfl rfl 0 13 rfl rfl) rfl rfl hl.1 rfl (lv_room (Nat.le_of_ble_eq_true rfl)) dL_law_2409 ⟨(by show _ ≤ (600002 : Nat); omega), (by show _ ≤ (7302232 : Nat); omega)⟩) hP hD hS hA [0] [1] rfl rfl rfl (by decide) (fun zm u_5 H locs hm hP hD hS => ?_)
        generalize u_5 = thm at hP hD hm
        have hP : va_P G.1 vwCl [(ou, zaL (G.2 0) 1 ((fun _ => 0))), (mm, .inr (13, [.int (iz (thm)), .int (iz (6)), .ref ma, .null, .ref mt, .ref ml, .int (iz (0)), .ref mw, .int (iz (0)), .ref mb, .ref mp, .int (iz (0))]))] H := hP
        have hD : va_D (zlA s) [(ou, zaL (G.2 0) 1 ((fun _ => 0))), (mm, .inr (13, [.int (iz (thm)), .int (iz (6)), .ref ma, .null, .ref mt, .ref ml, .int (iz (0)), .ref mw, .int (iz (0)), .ref mb, .ref mp, .int (iz (0))]))] := hD
        have hm : zm = 0 ∧ thm = 2 := hm
        have htp := hm.2
        refine lv_lstore (lv' := [(6, .long (lz (zm))), (5, .int (iz (2))), (0, .ref b), (1, .ref x), (2, .ref mm), (3, .ref ou), (4, .int (iz (0)))]) hx hb dL_law_2412 hl (by decide) rfl (fun ls hl => ?_)
        refine lv_aload_n hx hb dL_law_2414 rfl (lv_at hl 4 rfl) ?_
        refine zc_i (wr := [(ou, zaL (G.2 0) 1 ((fun _ => 0)))]) (va_runV (As := []) (rest := []) ⟨hx, hb, hml, hown, hts⟩ (c_X12_thrown_v l G mm thm (.ref ma) .null (.ref mt) (.ref ml) (.int (iz (0))) (.ref mw) (.int (iz (0))) (.ref mb) (.ref mp) (.int (iz (0))) 6  H.size) (cwV 0 hts gL_law_X12_thrown rfl rfl rfl (by decide +kernel) ⟨Nat.le_of_ble_eq_true rfl, Nat.le_of_ble_eq_true rfl⟩) (zpV hKX hP hD [1] rfl rfl 1 13 rfl rfl) rfl rfl hl.1 rfl (lv_room (Nat.le_of_ble_eq_true rfl)) dL_law_2415 ⟨(by show _ ≤ (600002 : Nat); omega), (by show _ ≤ (7302232 : Nat); omega)⟩) hP hD hS hA [1] [0] rfl rfl rfl (by decide) (fun th9 u_7 H locs hth hP hD hS => ?_)
        have hP : va_P G.1 vwCl [(ou, zaL (G.2 0) 1 ((fun _ => 0))), (mm, .inr (13, [.int (iz (thm)), .int (iz ((6 : Int))), .ref ma, .null, .ref mt, .ref ml, .int (iz (0)), .ref mw, .int (iz (0)), .ref mb, .ref mp, .int (iz (0))]))] H := hP
        have hD : va_D (zlA s) [(ou, zaL (G.2 0) 1 ((fun _ => 0))), (mm, .inr (13, [.int (iz (thm)), .int (iz ((6 : Int))), .ref ma, .null, .ref mt, .ref ml, .int (iz (0)), .ref mw, .int (iz (0)), .ref mb, .ref mp, .int (iz (0))]))] := hD
        have hth : th9 = thm := hth
        rw [show th9 = 2 from hth.trans htp]
        refine lv_iload hx hb dL_law_2418 (lv_at hl 1 rfl) ?_
        refine zr_icmp_eq (x := 2) (y := 2) (tgt := 2425) hx hb (⟨by omega, by omega⟩) (⟨by omega, by omega⟩) dL_law_2420 (by decide) (fun h_9 => ?_) (fun h_9 => ?_)
        ·
          refine lv_iload hx hb dL_law_2425 (lv_at hl 1 rfl) ?_
          refine zr_if_ne (x := 2) (tgt := 2441) hx hb (⟨by omega, by omega⟩) dL_law_2427 (by decide) (fun h_10 => ?_) (fun h_10 => ?_)
          ·
            refine lv_goto (tgt := 3039) hx hb dL_law_2441 (by decide) ?_
            exact zl_end hL8 C0 hS (lv_sub hl [2, 6] rfl) (by show _ ≤ (600002 : Nat); omega) (by show _ ≤ (7302232 : Nat); omega)
          · exact absurd h_10 (by omega)
        · exact absurd h_9 (by omega)
      ·
        refine lv_iconst (v := iz (1)) hx hb dL_law_2404 rfl ?_
        refine lv_goto (tgt := 2409) hx hb dL_law_2405 (by decide) ?_
        refine zc_l (wr := [(ou, zaL (G.2 0) 1 ((fun _ => 0)))]) (va_runV (As := [.int (iz (zv xs 1)), .int (iz (zv xs 2)), .long (lz (zlo (zv xs 3) (zv xs 4))), .int (iz (zv xs 5)), .int (iz (1))]) (rest := []) ⟨hx, hb, hml, hown, hts⟩ (c_X12_reserve_o l G mm ma mt ml mw mb mp 0 (zv xs 1) (zv xs 2) (zlo (zv xs 3) (zv xs 4)) (zv xs 5) true (by omega) (by omega) (by omega) (by omega) (by omega) H.size) (cwV 5 hts gL_law_X12_reserve rfl rfl rfl (by decide +kernel) ⟨Nat.le_of_ble_eq_true rfl, Nat.le_of_ble_eq_true rfl⟩) (zpV hKX hP hD [0] rfl rfl 0 13 rfl rfl) rfl rfl hl.1 rfl (lv_room (Nat.le_of_ble_eq_true rfl)) dL_law_2409 ⟨(by show _ ≤ (600002 : Nat); omega), (by show _ ≤ (7302232 : Nat); omega)⟩) hP hD hS hA [0] [1] rfl rfl rfl (by decide) (fun zm u_11 H locs hm hP hD hS => ?_)
        generalize u_11 = thm at hP hD hm
        have hP : va_P G.1 vwCl [(ou, zaL (G.2 0) 1 ((fun _ => 0))), (mm, .inr (13, [.int (iz (thm)), .int (iz (6)), .ref ma, .null, .ref mt, .ref ml, .int (iz (0)), .ref mw, .int (iz (0)), .ref mb, .ref mp, .int (iz (0))]))] H := hP
        have hD : va_D (zlA s) [(ou, zaL (G.2 0) 1 ((fun _ => 0))), (mm, .inr (13, [.int (iz (thm)), .int (iz (6)), .ref ma, .null, .ref mt, .ref ml, .int (iz (0)), .ref mw, .int (iz (0)), .ref mb, .ref mp, .int (iz (0))]))] := hD
        have hm : zm = 0 ∧ thm = 2 := hm
        have htp := hm.2
        refine lv_lstore (lv' := [(6, .long (lz (zm))), (5, .int (iz (2))), (0, .ref b), (1, .ref x), (2, .ref mm), (3, .ref ou), (4, .int (iz (0)))]) hx hb dL_law_2412 hl (by decide) rfl (fun ls hl => ?_)
        refine lv_aload_n hx hb dL_law_2414 rfl (lv_at hl 4 rfl) ?_
        refine zc_i (wr := [(ou, zaL (G.2 0) 1 ((fun _ => 0)))]) (va_runV (As := []) (rest := []) ⟨hx, hb, hml, hown, hts⟩ (c_X12_thrown_v l G mm thm (.ref ma) .null (.ref mt) (.ref ml) (.int (iz (0))) (.ref mw) (.int (iz (0))) (.ref mb) (.ref mp) (.int (iz (0))) 6  H.size) (cwV 0 hts gL_law_X12_thrown rfl rfl rfl (by decide +kernel) ⟨Nat.le_of_ble_eq_true rfl, Nat.le_of_ble_eq_true rfl⟩) (zpV hKX hP hD [1] rfl rfl 1 13 rfl rfl) rfl rfl hl.1 rfl (lv_room (Nat.le_of_ble_eq_true rfl)) dL_law_2415 ⟨(by show _ ≤ (600002 : Nat); omega), (by show _ ≤ (7302232 : Nat); omega)⟩) hP hD hS hA [1] [0] rfl rfl rfl (by decide) (fun th9 u_13 H locs hth hP hD hS => ?_)
        have hP : va_P G.1 vwCl [(ou, zaL (G.2 0) 1 ((fun _ => 0))), (mm, .inr (13, [.int (iz (thm)), .int (iz ((6 : Int))), .ref ma, .null, .ref mt, .ref ml, .int (iz (0)), .ref mw, .int (iz (0)), .ref mb, .ref mp, .int (iz (0))]))] H := hP
        have hD : va_D (zlA s) [(ou, zaL (G.2 0) 1 ((fun _ => 0))), (mm, .inr (13, [.int (iz (thm)), .int (iz ((6 : Int))), .ref ma, .null, .ref mt, .ref ml, .int (iz (0)), .ref mw, .int (iz (0)), .ref mb, .ref mp, .int (iz (0))]))] := hD
        have hth : th9 = thm := hth
        rw [show th9 = 2 from hth.trans htp]
        refine lv_iload hx hb dL_law_2418 (lv_at hl 1 rfl) ?_
        refine zr_icmp_eq (x := 2) (y := 2) (tgt := 2425) hx hb (⟨by omega, by omega⟩) (⟨by omega, by omega⟩) dL_law_2420 (by decide) (fun h_15 => ?_) (fun h_15 => ?_)
        ·
          refine lv_iload hx hb dL_law_2425 (lv_at hl 1 rfl) ?_
          refine zr_if_ne (x := 2) (tgt := 2441) hx hb (⟨by omega, by omega⟩) dL_law_2427 (by decide) (fun h_16 => ?_) (fun h_16 => ?_)
          ·
            refine lv_goto (tgt := 3039) hx hb dL_law_2441 (by decide) ?_
            exact zl_end hL8 C0 hS (lv_sub hl [2, 6] rfl) (by show _ ≤ (600002 : Nat); omega) (by show _ ≤ (7302232 : Nat); omega)
          · exact absurd h_16 (by omega)
        · exact absurd h_15 (by omega)
    ·
      refine lv_iconst (v := iz (1)) hx hb dL_law_2342 rfl ?_
      refine lv_goto (tgt := 2347) hx hb dL_law_2343 (by decide) ?_
      refine lv_aload_n hx hb dL_law_2347 rfl (lv_at hl 3 rfl) ?_
      refine zc_i (wr := [(mm, .inr (13, [.int (iz (0)), .int (iz (6)), .ref ma, .null, .ref mt, .ref ml, .int (iz (0)), .ref mw, .int (iz (0)), .ref mb, .ref mp, .int (iz (0))]))]) (vx_runSW (As := [.ref x, .int (iz (zv xs 1)), .int (iz (zv xs 2)), .long (lz (zlo (zv xs 3) (zv xs 4))), .int (iz (zv xs 5)), .int (iz (1)), .ref ou]) (rest := []) ⟨hx, hb, hml, hown, hts⟩ (c_L_reserve_x2 l G s1 s2 s3 x ro rw bo li sh tx lo nl lx0 lx1 lx2 (zv xs 1) (zv xs 2) (zlo (zv xs 3) (zv xs 4)) (zv xs 5) true ou (fun _ => 0) hl0 (by omega) (by omega) (by omega) (by omega) (by omega) H.size) (vx_cwSW 7 hts gL_law_L_reserve rfl rfl rfl (by decide +kernel) ⟨Nat.le_of_ble_eq_true rfl, Nat.le_of_ble_eq_true rfl⟩) (zpSe zXL_ok hEc hS hA hKX hP hD [0, 1, 2] rfl rfl) rfl rfl hl.1 rfl (lv_room (Nat.le_of_ble_eq_true rfl)) dL_law_2348 ⟨(by show _ ≤ (600002 : Nat); omega), (by show _ ≤ (7302232 : Nat); omega)⟩) hP hD hS hA [0, 1, 2] [3] rfl rfl rfl (by decide) (fun kk u_17 H locs hw hP hD hS => ?_)
      have hP : va_P G.1 vwCl [(mm, .inr (13, [.int (iz (0)), .int (iz (6)), .ref ma, .null, .ref mt, .ref ml, .int (iz (0)), .ref mw, .int (iz (0)), .ref mb, .ref mp, .int (iz (0))])), (ou, zaL (G.2 0) 1 ((fun _ => 0)))] H := hP
      have hD : va_D (zlA s) [(mm, .inr (13, [.int (iz (0)), .int (iz (6)), .ref ma, .null, .ref mt, .ref ml, .int (iz (0)), .ref mw, .int (iz (0)), .ref mb, .ref mp, .int (iz (0))])), (ou, zaL (G.2 0) 1 ((fun _ => 0)))] := hD
      have hw : kk = 2 := hw
      rw [show kk = 2 from hw]
      refine lv_istore (lv' := [(5, .int (iz (2))), (0, .ref b), (1, .ref x), (2, .ref mm), (3, .ref ou), (4, .int (iz (0)))]) hx hb dL_law_2351 hl (by decide) rfl (fun ls hl => ?_)
      refine lv_aload_n hx hb dL_law_2353 rfl (lv_at hl 3 rfl) ?_
      refine lv_aload_n hx hb dL_law_2354 rfl (lv_at hl 1 rfl) ?_
      refine lv_iload hx hb dL_law_2355 (lv_at hl 5 rfl) ?_
      refine lv_iconst (v := iz (1)) hx hb dL_law_2357 rfl ?_
      refine zr_iadd hx hb dL_law_2358 ?_
      refine zr_sld hx hb hX hbl hbA hS 1 (by omega) (by omega) (by omega) dL_law_2359 ?_
      refine lv_aload_n hx hb dL_law_2360 rfl (lv_at hl 1 rfl) ?_
      refine lv_iload hx hb dL_law_2361 (lv_at hl 5 rfl) ?_
      refine lv_iconst (v := iz (2)) hx hb dL_law_2363 rfl ?_
      refine zr_iadd hx hb dL_law_2364 ?_
      refine zr_sld hx hb hX hbl hbA hS 2 (by omega) (by omega) (by omega) dL_law_2365 ?_
      refine lv_aload_n hx hb dL_law_2366 rfl (lv_at hl 1 rfl) ?_
      refine lv_iload hx hb dL_law_2367 (lv_at hl 5 rfl) ?_
      refine lv_iconst (v := iz (3)) hx hb dL_law_2369 rfl ?_
      refine zr_iadd hx hb dL_law_2370 ?_
      refine zr_sld hx hb hX hbl hbA hS 3 (by omega) (by omega) (by omega) dL_law_2371 ?_
      refine zr_i2l hx hb (x := zv xs 3) (⟨by omega, by omega⟩) dL_law_2372 ?_
      refine lv_bipush (v := iz (32)) hx hb dL_law_2373 rfl ?_
      refine zr_lshl32 hx hb dL_law_2375 ?_
      refine lv_aload_n hx hb dL_law_2376 rfl (lv_at hl 1 rfl) ?_
      refine lv_iload hx hb dL_law_2377 (lv_at hl 5 rfl) ?_
      refine lv_iconst (v := iz (4)) hx hb dL_law_2379 rfl ?_
      refine zr_iadd hx hb dL_law_2380 ?_
      refine zr_sld hx hb hX hbl hbA hS 4 (by omega) (by omega) (by omega) dL_law_2381 ?_
      refine zr_i2l hx hb (x := zv xs 4) (⟨by omega, by omega⟩) dL_law_2382 ?_
      refine zr_ldc2 (z := 4294967295) hx hb hown (hts (.constantLong RL 137 (4294967295)) (by decide +kernel)) rfl dL_law_2383 ?_
      refine zr_land32 hx hb dL_law_2386 ?_
      refine zr_lor32 hx hb dL_law_2387 ?_
      refine lv_aload_n hx hb dL_law_2388 rfl (lv_at hl 1 rfl) ?_
      refine lv_iload hx hb dL_law_2389 (lv_at hl 5 rfl) ?_
      refine lv_iconst (v := iz (5)) hx hb dL_law_2391 rfl ?_
      refine zr_iadd hx hb dL_law_2392 ?_
      refine zr_sld hx hb hX hbl hbA hS 5 (by omega) (by omega) (by omega) dL_law_2393 ?_
      refine lv_aload_n hx hb dL_law_2394 rfl (lv_at hl 1 rfl) ?_
      refine lv_iload hx hb dL_law_2395 (lv_at hl 5 rfl) ?_
      refine lv_bipush (v := iz (6)) hx hb dL_law_2397 rfl ?_
      refine zr_iadd hx hb dL_law_2399 ?_
      refine zr_sld hx hb hX hbl hbA hS 6 (by omega) (by omega) (by omega) dL_law_2400 ?_
      refine zr_if_eq (x := zv xs 6) (tgt := 2408) hx hb (⟨by omega, by omega⟩) dL_law_2401 (by decide) (fun h_19 => ?_) (fun h_19 => ?_)
      ·
        refine lv_iconst (v := iz (0)) hx hb dL_law_2408 rfl ?_
        refine zc_l (wr := [(ou, zaL (G.2 0) 1 ((fun _ => 0)))]) (va_runV (As := [.int (iz (zv xs 1)), .int (iz (zv xs 2)), .long (lz (zlo (zv xs 3) (zv xs 4))), .int (iz (zv xs 5)), .int (iz (0))]) (rest := []) ⟨hx, hb, hml, hown, hts⟩ (c_X12_reserve_o l G mm ma mt ml mw mb mp 0 (zv xs 1) (zv xs 2) (zlo (zv xs 3) (zv xs 4)) (zv xs 5) false (by omega) (by omega) (by omega) (by omega) (by omega) H.size) (cwV 5 hts gL_law_X12_reserve rfl rfl rfl (by decide +kernel) ⟨Nat.le_of_ble_eq_true rfl, Nat.le_of_ble_eq_true rfl⟩) (zpV hKX hP hD [0] rfl rfl 0 13 rfl rfl) rfl rfl hl.1 rfl (lv_room (Nat.le_of_ble_eq_true rfl)) dL_law_2409 ⟨(by show _ ≤ (600002 : Nat); omega), (by show _ ≤ (7302232 : Nat); omega)⟩) hP hD hS hA [0] [1] rfl rfl rfl (by decide) (fun zm u_20 H locs hm hP hD hS => ?_)
        generalize u_20 = thm at hP hD hm
        have hP : va_P G.1 vwCl [(ou, zaL (G.2 0) 1 ((fun _ => 0))), (mm, .inr (13, [.int (iz (thm)), .int (iz (6)), .ref ma, .null, .ref mt, .ref ml, .int (iz (0)), .ref mw, .int (iz (0)), .ref mb, .ref mp, .int (iz (0))]))] H := hP
        have hD : va_D (zlA s) [(ou, zaL (G.2 0) 1 ((fun _ => 0))), (mm, .inr (13, [.int (iz (thm)), .int (iz (6)), .ref ma, .null, .ref mt, .ref ml, .int (iz (0)), .ref mw, .int (iz (0)), .ref mb, .ref mp, .int (iz (0))]))] := hD
        have hm : zm = 0 ∧ thm = 2 := hm
        have htp := hm.2
        refine lv_lstore (lv' := [(6, .long (lz (zm))), (5, .int (iz (2))), (0, .ref b), (1, .ref x), (2, .ref mm), (3, .ref ou), (4, .int (iz (0)))]) hx hb dL_law_2412 hl (by decide) rfl (fun ls hl => ?_)
        refine lv_aload_n hx hb dL_law_2414 rfl (lv_at hl 4 rfl) ?_
        refine zc_i (wr := [(ou, zaL (G.2 0) 1 ((fun _ => 0)))]) (va_runV (As := []) (rest := []) ⟨hx, hb, hml, hown, hts⟩ (c_X12_thrown_v l G mm thm (.ref ma) .null (.ref mt) (.ref ml) (.int (iz (0))) (.ref mw) (.int (iz (0))) (.ref mb) (.ref mp) (.int (iz (0))) 6  H.size) (cwV 0 hts gL_law_X12_thrown rfl rfl rfl (by decide +kernel) ⟨Nat.le_of_ble_eq_true rfl, Nat.le_of_ble_eq_true rfl⟩) (zpV hKX hP hD [1] rfl rfl 1 13 rfl rfl) rfl rfl hl.1 rfl (lv_room (Nat.le_of_ble_eq_true rfl)) dL_law_2415 ⟨(by show _ ≤ (600002 : Nat); omega), (by show _ ≤ (7302232 : Nat); omega)⟩) hP hD hS hA [1] [0] rfl rfl rfl (by decide) (fun th9 u_22 H locs hth hP hD hS => ?_)
        have hP : va_P G.1 vwCl [(ou, zaL (G.2 0) 1 ((fun _ => 0))), (mm, .inr (13, [.int (iz (thm)), .int (iz ((6 : Int))), .ref ma, .null, .ref mt, .ref ml, .int (iz (0)), .ref mw, .int (iz (0)), .ref mb, .ref mp, .int (iz (0))]))] H := hP
        have hD : va_D (zlA s) [(ou, zaL (G.2 0) 1 ((fun _ => 0))), (mm, .inr (13, [.int (iz (thm)), .int (iz ((6 : Int))), .ref ma, .null, .ref mt, .ref ml, .int (iz (0)), .ref mw, .int (iz (0)), .ref mb, .ref mp, .int (iz (0))]))] := hD
        have hth : th9 = thm := hth
        rw [show th9 = 2 from hth.trans htp]
        refine lv_iload hx hb dL_law_2418 (lv_at hl 1 rfl) ?_
        refine zr_icmp_eq (x := 2) (y := 2) (tgt := 2425) hx hb (⟨by omega, by omega⟩) (⟨by omega, by omega⟩) dL_law_2420 (by decide) (fun h_24 => ?_) (fun h_24 => ?_)
        ·
          refine lv_iload hx hb dL_law_2425 (lv_at hl 1 rfl) ?_
          refine zr_if_ne (x := 2) (tgt := 2441) hx hb (⟨by omega, by omega⟩) dL_law_2427 (by decide) (fun h_25 => ?_) (fun h_25 => ?_)
          ·
            refine lv_goto (tgt := 3039) hx hb dL_law_2441 (by decide) ?_
            exact zl_end hL8 C0 hS (lv_sub hl [2, 6] rfl) (by show _ ≤ (600002 : Nat); omega) (by show _ ≤ (7302232 : Nat); omega)
          · exact absurd h_25 (by omega)
        · exact absurd h_24 (by omega)
      ·
        refine lv_iconst (v := iz (1)) hx hb dL_law_2404 rfl ?_
        refine lv_goto (tgt := 2409) hx hb dL_law_2405 (by decide) ?_
        refine zc_l (wr := [(ou, zaL (G.2 0) 1 ((fun _ => 0)))]) (va_runV (As := [.int (iz (zv xs 1)), .int (iz (zv xs 2)), .long (lz (zlo (zv xs 3) (zv xs 4))), .int (iz (zv xs 5)), .int (iz (1))]) (rest := []) ⟨hx, hb, hml, hown, hts⟩ (c_X12_reserve_o l G mm ma mt ml mw mb mp 0 (zv xs 1) (zv xs 2) (zlo (zv xs 3) (zv xs 4)) (zv xs 5) true (by omega) (by omega) (by omega) (by omega) (by omega) H.size) (cwV 5 hts gL_law_X12_reserve rfl rfl rfl (by decide +kernel) ⟨Nat.le_of_ble_eq_true rfl, Nat.le_of_ble_eq_true rfl⟩) (zpV hKX hP hD [0] rfl rfl 0 13 rfl rfl) rfl rfl hl.1 rfl (lv_room (Nat.le_of_ble_eq_true rfl)) dL_law_2409 ⟨(by show _ ≤ (600002 : Nat); omega), (by show _ ≤ (7302232 : Nat); omega)⟩) hP hD hS hA [0] [1] rfl rfl rfl (by decide) (fun zm u_26 H locs hm hP hD hS => ?_)
        generalize u_26 = thm at hP hD hm
        have hP : va_P G.1 vwCl [(ou, zaL (G.2 0) 1 ((fun _ => 0))), (mm, .inr (13, [.int (iz (thm)), .int (iz (6)), .ref ma, .null, .ref mt, .ref ml, .int (iz (0)), .ref mw, .int (iz (0)), .ref mb, .ref mp, .int (iz (0))]))] H := hP
        have hD : va_D (zlA s) [(ou, zaL (G.2 0) 1 ((fun _ => 0))), (mm, .inr (13, [.int (iz (thm)), .int (iz (6)), .ref ma, .null, .ref mt, .ref ml, .int (iz (0)), .ref mw, .int (iz (0)), .ref mb, .ref mp, .int (iz (0))]))] := hD
        have hm : zm = 0 ∧ thm = 2 := hm
        have htp := hm.2
        refine lv_lstore (lv' := [(6, .long (lz (zm))), (5, .int (iz (2))), (0, .ref b), (1, .ref x), (2, .ref mm), (3, .ref ou), (4, .int (iz (0)))]) hx hb dL_law_2412 hl (by decide) rfl (fun ls hl => ?_)
        refine lv_aload_n hx hb dL_law_2414 rfl (lv_at hl 4 rfl) ?_
        refine zc_i (wr := [(ou, zaL (G.2 0) 1 ((fun _ => 0)))]) (va_runV (As := []) (rest := []) ⟨hx, hb, hml, hown, hts⟩ (c_X12_thrown_v l G mm thm (.ref ma) .null (.ref mt) (.ref ml) (.int (iz (0))) (.ref mw) (.int (iz (0))) (.ref mb) (.ref mp) (.int (iz (0))) 6  H.size) (cwV 0 hts gL_law_X12_thrown rfl rfl rfl (by decide +kernel) ⟨Nat.le_of_ble_eq_true rfl, Nat.le_of_ble_eq_true rfl⟩) (zpV hKX hP hD [1] rfl rfl 1 13 rfl rfl) rfl rfl hl.1 rfl (lv_room (Nat.le_of_ble_eq_true rfl)) dL_law_2415 ⟨(by show _ ≤ (600002 : Nat); omega), (by show _ ≤ (7302232 : Nat); omega)⟩) hP hD hS hA [1] [0] rfl rfl rfl (by decide) (fun th9 u_28 H locs hth hP hD hS => ?_)
        have hP : va_P G.1 vwCl [(ou, zaL (G.2 0) 1 ((fun _ => 0))), (mm, .inr (13, [.int (iz (thm)), .int (iz ((6 : Int))), .ref ma, .null, .ref mt, .ref ml, .int (iz (0)), .ref mw, .int (iz (0)), .ref mb, .ref mp, .int (iz (0))]))] H := hP
        have hD : va_D (zlA s) [(ou, zaL (G.2 0) 1 ((fun _ => 0))), (mm, .inr (13, [.int (iz (thm)), .int (iz ((6 : Int))), .ref ma, .null, .ref mt, .ref ml, .int (iz (0)), .ref mw, .int (iz (0)), .ref mb, .ref mp, .int (iz (0))]))] := hD
        have hth : th9 = thm := hth
        rw [show th9 = 2 from hth.trans htp]
        refine lv_iload hx hb dL_law_2418 (lv_at hl 1 rfl) ?_
        refine zr_icmp_eq (x := 2) (y := 2) (tgt := 2425) hx hb (⟨by omega, by omega⟩) (⟨by omega, by omega⟩) dL_law_2420 (by decide) (fun h_30 => ?_) (fun h_30 => ?_)
        ·
          refine lv_iload hx hb dL_law_2425 (lv_at hl 1 rfl) ?_
          refine zr_if_ne (x := 2) (tgt := 2441) hx hb (⟨by omega, by omega⟩) dL_law_2427 (by decide) (fun h_31 => ?_) (fun h_31 => ?_)
          ·
            refine lv_goto (tgt := 3039) hx hb dL_law_2441 (by decide) ?_
            exact zl_end hL8 C0 hS (lv_sub hl [2, 6] rfl) (by show _ ≤ (600002 : Nat); omega) (by show _ ≤ (7302232 : Nat); omega)
          · exact absurd h_31 (by omega)
        · exact absurd h_30 (by omega)
  ·
    refine lv_aload_n hx hb dL_law_2291 rfl (lv_at hl 1 rfl) ?_
    refine lv_aload_n hx hb dL_law_2292 rfl (lv_at hl 0 rfl) ?_
    refine lv_iload hx hb dL_law_2293 (lv_at hl 4 rfl) ?_
    refine lv_iconst (v := iz (1)) hx hb dL_law_2295 rfl ?_
    refine zr_iadd hx hb dL_law_2296 ?_
    refine zr_sld hx hb hX hbl hbA hS 1 (by omega) (by omega) (by omega) dL_law_2297 ?_
    refine lv_aload_n hx hb dL_law_2298 rfl (lv_at hl 0 rfl) ?_
    refine lv_iload hx hb dL_law_2299 (lv_at hl 4 rfl) ?_
    refine lv_iconst (v := iz (2)) hx hb dL_law_2301 rfl ?_
    refine zr_iadd hx hb dL_law_2302 ?_
    refine zr_sld hx hb hX hbl hbA hS 2 (by omega) (by omega) (by omega) dL_law_2303 ?_
    refine lv_aload_n hx hb dL_law_2304 rfl (lv_at hl 0 rfl) ?_
    refine lv_iload hx hb dL_law_2305 (lv_at hl 4 rfl) ?_
    refine lv_iconst (v := iz (3)) hx hb dL_law_2307 rfl ?_
    refine zr_iadd hx hb dL_law_2308 ?_
    refine zr_sld hx hb hX hbl hbA hS 3 (by omega) (by omega) (by omega) dL_law_2309 ?_
    refine zr_i2l hx hb (x := zv xs 3) (⟨by omega, by omega⟩) dL_law_2310 ?_
    refine lv_bipush (v := iz (32)) hx hb dL_law_2311 rfl ?_
    refine zr_lshl32 hx hb dL_law_2313 ?_
    refine lv_aload_n hx hb dL_law_2314 rfl (lv_at hl 0 rfl) ?_
    refine lv_iload hx hb dL_law_2315 (lv_at hl 4 rfl) ?_
    refine lv_iconst (v := iz (4)) hx hb dL_law_2317 rfl ?_
    refine zr_iadd hx hb dL_law_2318 ?_
    refine zr_sld hx hb hX hbl hbA hS 4 (by omega) (by omega) (by omega) dL_law_2319 ?_
    refine zr_i2l hx hb (x := zv xs 4) (⟨by omega, by omega⟩) dL_law_2320 ?_
    refine zr_ldc2 (z := 4294967295) hx hb hown (hts (.constantLong RL 137 (4294967295)) (by decide +kernel)) rfl dL_law_2321 ?_
    refine zr_land32 hx hb dL_law_2324 ?_
    refine zr_lor32 hx hb dL_law_2325 ?_
    refine lv_aload_n hx hb dL_law_2326 rfl (lv_at hl 0 rfl) ?_
    refine lv_iload hx hb dL_law_2327 (lv_at hl 4 rfl) ?_
    refine lv_iconst (v := iz (5)) hx hb dL_law_2329 rfl ?_
    refine zr_iadd hx hb dL_law_2330 ?_
    refine zr_sld hx hb hX hbl hbA hS 5 (by omega) (by omega) (by omega) dL_law_2331 ?_
    refine lv_aload_n hx hb dL_law_2332 rfl (lv_at hl 0 rfl) ?_
    refine lv_iload hx hb dL_law_2333 (lv_at hl 4 rfl) ?_
    refine lv_bipush (v := iz (6)) hx hb dL_law_2335 rfl ?_
    refine zr_iadd hx hb dL_law_2337 ?_
    refine zr_sld hx hb hX hbl hbA hS 6 (by omega) (by omega) (by omega) dL_law_2338 ?_
    refine zr_if_eq (x := zv xs 6) (tgt := 2346) hx hb (⟨by omega, by omega⟩) dL_law_2339 (by decide) (fun h_32 => ?_) (fun h_32 => ?_)
    ·
      refine lv_iconst (v := iz (0)) hx hb dL_law_2346 rfl ?_
      refine lv_aload_n hx hb dL_law_2347 rfl (lv_at hl 3 rfl) ?_
      refine zc_i (wr := [(mm, .inr (13, [.int (iz (0)), .int (iz (6)), .ref ma, .null, .ref mt, .ref ml, .int (iz (0)), .ref mw, .int (iz (0)), .ref mb, .ref mp, .int (iz (0))]))]) (vx_runSW (As := [.ref x, .int (iz (zv xs 1)), .int (iz (zv xs 2)), .long (lz (zlo (zv xs 3) (zv xs 4))), .int (iz (zv xs 5)), .int (iz (0)), .ref ou]) (rest := []) ⟨hx, hb, hml, hown, hts⟩ (c_L_reserve_x1 l G s1 s2 s3 x ro rw bo li sh tx lo nl lx0 lx1 lx2 (zv xs 1) (zv xs 2) (zlo (zv xs 3) (zv xs 4)) (zv xs 5) false ou (fun _ => 0) hl0 (by omega) (by omega) (by omega) (by omega) (by omega) H.size) (vx_cwSW 7 hts gL_law_L_reserve rfl rfl rfl (by decide +kernel) ⟨Nat.le_of_ble_eq_true rfl, Nat.le_of_ble_eq_true rfl⟩) (zpSe zXL_ok hEc hS hA hKX hP hD [0, 1, 2] rfl rfl) rfl rfl hl.1 rfl (lv_room (Nat.le_of_ble_eq_true rfl)) dL_law_2348 ⟨(by show _ ≤ (600002 : Nat); omega), (by show _ ≤ (7302232 : Nat); omega)⟩) hP hD hS hA [0, 1, 2] [3] rfl rfl rfl (by decide) (fun kk u_33 H locs hw hP hD hS => ?_)
      have hP : va_P G.1 vwCl [(mm, .inr (13, [.int (iz (0)), .int (iz (6)), .ref ma, .null, .ref mt, .ref ml, .int (iz (0)), .ref mw, .int (iz (0)), .ref mb, .ref mp, .int (iz (0))])), (ou, zaL (G.2 0) 1 ((fun _ => 0)))] H := hP
      have hD : va_D (zlA s) [(mm, .inr (13, [.int (iz (0)), .int (iz (6)), .ref ma, .null, .ref mt, .ref ml, .int (iz (0)), .ref mw, .int (iz (0)), .ref mb, .ref mp, .int (iz (0))])), (ou, zaL (G.2 0) 1 ((fun _ => 0)))] := hD
      have hw : kk = 1 := hw
      rw [show kk = 1 from hw]
      refine lv_istore (lv' := [(5, .int (iz (1))), (0, .ref b), (1, .ref x), (2, .ref mm), (3, .ref ou), (4, .int (iz (0)))]) hx hb dL_law_2351 hl (by decide) rfl (fun ls hl => ?_)
      refine lv_aload_n hx hb dL_law_2353 rfl (lv_at hl 3 rfl) ?_
      refine lv_aload_n hx hb dL_law_2354 rfl (lv_at hl 1 rfl) ?_
      refine lv_iload hx hb dL_law_2355 (lv_at hl 5 rfl) ?_
      refine lv_iconst (v := iz (1)) hx hb dL_law_2357 rfl ?_
      refine zr_iadd hx hb dL_law_2358 ?_
      refine zr_sld hx hb hX hbl hbA hS 1 (by omega) (by omega) (by omega) dL_law_2359 ?_
      refine lv_aload_n hx hb dL_law_2360 rfl (lv_at hl 1 rfl) ?_
      refine lv_iload hx hb dL_law_2361 (lv_at hl 5 rfl) ?_
      refine lv_iconst (v := iz (2)) hx hb dL_law_2363 rfl ?_
      refine zr_iadd hx hb dL_law_2364 ?_
      refine zr_sld hx hb hX hbl hbA hS 2 (by omega) (by omega) (by omega) dL_law_2365 ?_
      refine lv_aload_n hx hb dL_law_2366 rfl (lv_at hl 1 rfl) ?_
      refine lv_iload hx hb dL_law_2367 (lv_at hl 5 rfl) ?_
      refine lv_iconst (v := iz (3)) hx hb dL_law_2369 rfl ?_
      refine zr_iadd hx hb dL_law_2370 ?_
      refine zr_sld hx hb hX hbl hbA hS 3 (by omega) (by omega) (by omega) dL_law_2371 ?_
      refine zr_i2l hx hb (x := zv xs 3) (⟨by omega, by omega⟩) dL_law_2372 ?_
      refine lv_bipush (v := iz (32)) hx hb dL_law_2373 rfl ?_
      refine zr_lshl32 hx hb dL_law_2375 ?_
      refine lv_aload_n hx hb dL_law_2376 rfl (lv_at hl 1 rfl) ?_
      refine lv_iload hx hb dL_law_2377 (lv_at hl 5 rfl) ?_
      refine lv_iconst (v := iz (4)) hx hb dL_law_2379 rfl ?_
      refine zr_iadd hx hb dL_law_2380 ?_
      refine zr_sld hx hb hX hbl hbA hS 4 (by omega) (by omega) (by omega) dL_law_2381 ?_
      refine zr_i2l hx hb (x := zv xs 4) (⟨by omega, by omega⟩) dL_law_2382 ?_
      refine zr_ldc2 (z := 4294967295) hx hb hown (hts (.constantLong RL 137 (4294967295)) (by decide +kernel)) rfl dL_law_2383 ?_
      refine zr_land32 hx hb dL_law_2386 ?_
      refine zr_lor32 hx hb dL_law_2387 ?_
      refine lv_aload_n hx hb dL_law_2388 rfl (lv_at hl 1 rfl) ?_
      refine lv_iload hx hb dL_law_2389 (lv_at hl 5 rfl) ?_
      refine lv_iconst (v := iz (5)) hx hb dL_law_2391 rfl ?_
      refine zr_iadd hx hb dL_law_2392 ?_
      refine zr_sld hx hb hX hbl hbA hS 5 (by omega) (by omega) (by omega) dL_law_2393 ?_
      refine lv_aload_n hx hb dL_law_2394 rfl (lv_at hl 1 rfl) ?_
      refine lv_iload hx hb dL_law_2395 (lv_at hl 5 rfl) ?_
      refine lv_bipush (v := iz (6)) hx hb dL_law_2397 rfl ?_
      refine zr_iadd hx hb dL_law_2399 ?_
      refine zr_sld hx hb hX hbl hbA hS 6 (by omega) (by omega) (by omega) dL_law_2400 ?_
      refine zr_if_eq (x := zv xs 6) (tgt := 2408) hx hb (⟨by omega, by omega⟩) dL_law_2401 (by decide) (fun h_35 => ?_) (fun h_35 => ?_)
      ·
        refine lv_iconst (v := iz (0)) hx hb dL_law_2408 rfl ?_
        refine zc_l (wr := [(ou, zaL (G.2 0) 1 ((fun _ => 0)))]) (va_runV (As := [.int (iz (zv xs 1)), .int (iz (zv xs 2)), .long (lz (zlo (zv xs 3) (zv xs 4))), .int (iz (zv xs 5)), .int (iz (0))]) (rest := []) ⟨hx, hb, hml, hown, hts⟩ (c_X12_reserve_x l G mm ma mt ml mw mb mp 0 (zv xs 1) (zv xs 2) (zlo (zv xs 3) (zv xs 4)) (zv xs 5) false (by omega) (by omega) (by omega) (by omega) (by omega) H.size) (cwV 5 hts gL_law_X12_reserve rfl rfl rfl (by decide +kernel) ⟨Nat.le_of_ble_eq_true rfl, Nat.le_of_ble_eq_true rfl⟩) (zpV hKX hP hD [0] rfl rfl 0 13 rfl rfl) rfl rfl hl.1 rfl (lv_room (Nat.le_of_ble_eq_true rfl)) dL_law_2409 ⟨(by show _ ≤ (600002 : Nat); omega), (by show _ ≤ (7302232 : Nat); omega)⟩) hP hD hS hA [0] [1] rfl rfl rfl (by decide) (fun zm u_36 H locs hm hP hD hS => ?_)
        generalize u_36 = thm at hP hD hm
        have hP : va_P G.1 vwCl [(ou, zaL (G.2 0) 1 ((fun _ => 0))), (mm, .inr (13, [.int (iz (thm)), .int (iz (6)), .ref ma, .null, .ref mt, .ref ml, .int (iz (0)), .ref mw, .int (iz (0)), .ref mb, .ref mp, .int (iz (0))]))] H := hP
        have hD : va_D (zlA s) [(ou, zaL (G.2 0) 1 ((fun _ => 0))), (mm, .inr (13, [.int (iz (thm)), .int (iz (6)), .ref ma, .null, .ref mt, .ref ml, .int (iz (0)), .ref mw, .int (iz (0)), .ref mb, .ref mp, .int (iz (0))]))] := hD
        have hm : zm = 0 ∧ thm = 1 := hm
        have htp := hm.2
        refine lv_lstore (lv' := [(6, .long (lz (zm))), (5, .int (iz (1))), (0, .ref b), (1, .ref x), (2, .ref mm), (3, .ref ou), (4, .int (iz (0)))]) hx hb dL_law_2412 hl (by decide) rfl (fun ls hl => ?_)
        refine lv_aload_n hx hb dL_law_2414 rfl (lv_at hl 4 rfl) ?_
        refine zc_i (wr := [(ou, zaL (G.2 0) 1 ((fun _ => 0)))]) (va_runV (As := []) (rest := []) ⟨hx, hb, hml, hown, hts⟩ (c_X12_thrown_v l G mm thm (.ref ma) .null (.ref mt) (.ref ml) (.int (iz (0))) (.ref mw) (.int (iz (0))) (.ref mb) (.ref mp) (.int (iz (0))) 6  H.size) (cwV 0 hts gL_law_X12_thrown rfl rfl rfl (by decide +kernel) ⟨Nat.le_of_ble_eq_true rfl, Nat.le_of_ble_eq_true rfl⟩) (zpV hKX hP hD [1] rfl rfl 1 13 rfl rfl) rfl rfl hl.1 rfl (lv_room (Nat.le_of_ble_eq_true rfl)) dL_law_2415 ⟨(by show _ ≤ (600002 : Nat); omega), (by show _ ≤ (7302232 : Nat); omega)⟩) hP hD hS hA [1] [0] rfl rfl rfl (by decide) (fun th9 u_38 H locs hth hP hD hS => ?_)
        have hP : va_P G.1 vwCl [(ou, zaL (G.2 0) 1 ((fun _ => 0))), (mm, .inr (13, [.int (iz (thm)), .int (iz ((6 : Int))), .ref ma, .null, .ref mt, .ref ml, .int (iz (0)), .ref mw, .int (iz (0)), .ref mb, .ref mp, .int (iz (0))]))] H := hP
        have hD : va_D (zlA s) [(ou, zaL (G.2 0) 1 ((fun _ => 0))), (mm, .inr (13, [.int (iz (thm)), .int (iz ((6 : Int))), .ref ma, .null, .ref mt, .ref ml, .int (iz (0)), .ref mw, .int (iz (0)), .ref mb, .ref mp, .int (iz (0))]))] := hD
        have hth : th9 = thm := hth
        rw [show th9 = 1 from hth.trans htp]
        refine lv_iload hx hb dL_law_2418 (lv_at hl 1 rfl) ?_
        refine zr_icmp_eq (x := 1) (y := 1) (tgt := 2425) hx hb (⟨by omega, by omega⟩) (⟨by omega, by omega⟩) dL_law_2420 (by decide) (fun h_40 => ?_) (fun h_40 => ?_)
        ·
          refine lv_iload hx hb dL_law_2425 (lv_at hl 1 rfl) ?_
          refine zr_if_ne (x := 1) (tgt := 2441) hx hb (⟨by omega, by omega⟩) dL_law_2427 (by decide) (fun h_41 => ?_) (fun h_41 => ?_)
          ·
            refine lv_goto (tgt := 3039) hx hb dL_law_2441 (by decide) ?_
            exact zl_end hL8 C0 hS (lv_sub hl [2, 6] rfl) (by show _ ≤ (600002 : Nat); omega) (by show _ ≤ (7302232 : Nat); omega)
          · exact absurd h_41 (by omega)
        · exact absurd h_40 (by omega)
      ·
        refine lv_iconst (v := iz (1)) hx hb dL_law_2404 rfl ?_
        refine lv_goto (tgt := 2409) hx hb dL_law_2405 (by decide) ?_
        refine zc_l (wr := [(ou, zaL (G.2 0) 1 ((fun _ => 0)))]) (va_runV (As := [.int (iz (zv xs 1)), .int (iz (zv xs 2)), .long (lz (zlo (zv xs 3) (zv xs 4))), .int (iz (zv xs 5)), .int (iz (1))]) (rest := []) ⟨hx, hb, hml, hown, hts⟩ (c_X12_reserve_x l G mm ma mt ml mw mb mp 0 (zv xs 1) (zv xs 2) (zlo (zv xs 3) (zv xs 4)) (zv xs 5) true (by omega) (by omega) (by omega) (by omega) (by omega) H.size) (cwV 5 hts gL_law_X12_reserve rfl rfl rfl (by decide +kernel) ⟨Nat.le_of_ble_eq_true rfl, Nat.le_of_ble_eq_true rfl⟩) (zpV hKX hP hD [0] rfl rfl 0 13 rfl rfl) rfl rfl hl.1 rfl (lv_room (Nat.le_of_ble_eq_true rfl)) dL_law_2409 ⟨(by show _ ≤ (600002 : Nat); omega), (by show _ ≤ (7302232 : Nat); omega)⟩) hP hD hS hA [0] [1] rfl rfl rfl (by decide) (fun zm u_42 H locs hm hP hD hS => ?_)
        generalize u_42 = thm at hP hD hm
        have hP : va_P G.1 vwCl [(ou, zaL (G.2 0) 1 ((fun _ => 0))), (mm, .inr (13, [.int (iz (thm)), .int (iz (6)), .ref ma, .null, .ref mt, .ref ml, .int (iz (0)), .ref mw, .int (iz (0)), .ref mb, .ref mp, .int (iz (0))]))] H := hP
        have hD : va_D (zlA s) [(ou, zaL (G.2 0) 1 ((fun _ => 0))), (mm, .inr (13, [.int (iz (thm)), .int (iz (6)), .ref ma, .null, .ref mt, .ref ml, .int (iz (0)), .ref mw, .int (iz (0)), .ref mb, .ref mp, .int (iz (0))]))] := hD
        have hm : zm = 0 ∧ thm = 1 := hm
        have htp := hm.2
        refine lv_lstore (lv' := [(6, .long (lz (zm))), (5, .int (iz (1))), (0, .ref b), (1, .ref x), (2, .ref mm), (3, .ref ou), (4, .int (iz (0)))]) hx hb dL_law_2412 hl (by decide) rfl (fun ls hl => ?_)
        refine lv_aload_n hx hb dL_law_2414 rfl (lv_at hl 4 rfl) ?_
        refine zc_i (wr := [(ou, zaL (G.2 0) 1 ((fun _ => 0)))]) (va_runV (As := []) (rest := []) ⟨hx, hb, hml, hown, hts⟩ (c_X12_thrown_v l G mm thm (.ref ma) .null (.ref mt) (.ref ml) (.int (iz (0))) (.ref mw) (.int (iz (0))) (.ref mb) (.ref mp) (.int (iz (0))) 6  H.size) (cwV 0 hts gL_law_X12_thrown rfl rfl rfl (by decide +kernel) ⟨Nat.le_of_ble_eq_true rfl, Nat.le_of_ble_eq_true rfl⟩) (zpV hKX hP hD [1] rfl rfl 1 13 rfl rfl) rfl rfl hl.1 rfl (lv_room (Nat.le_of_ble_eq_true rfl)) dL_law_2415 ⟨(by show _ ≤ (600002 : Nat); omega), (by show _ ≤ (7302232 : Nat); omega)⟩) hP hD hS hA [1] [0] rfl rfl rfl (by decide) (fun th9 u_44 H locs hth hP hD hS => ?_)
        have hP : va_P G.1 vwCl [(ou, zaL (G.2 0) 1 ((fun _ => 0))), (mm, .inr (13, [.int (iz (thm)), .int (iz ((6 : Int))), .ref ma, .null, .ref mt, .ref ml, .int (iz (0)), .ref mw, .int (iz (0)), .ref mb, .ref mp, .int (iz (0))]))] H := hP
        have hD : va_D (zlA s) [(ou, zaL (G.2 0) 1 ((fun _ => 0))), (mm, .inr (13, [.int (iz (thm)), .int (iz ((6 : Int))), .ref ma, .null, .ref mt, .ref ml, .int (iz (0)), .ref mw, .int (iz (0)), .ref mb, .ref mp, .int (iz (0))]))] := hD
        have hth : th9 = thm := hth
        rw [show th9 = 1 from hth.trans htp]
        refine lv_iload hx hb dL_law_2418 (lv_at hl 1 rfl) ?_
        refine zr_icmp_eq (x := 1) (y := 1) (tgt := 2425) hx hb (⟨by omega, by omega⟩) (⟨by omega, by omega⟩) dL_law_2420 (by decide) (fun h_46 => ?_) (fun h_46 => ?_)
        ·
          refine lv_iload hx hb dL_law_2425 (lv_at hl 1 rfl) ?_
          refine zr_if_ne (x := 1) (tgt := 2441) hx hb (⟨by omega, by omega⟩) dL_law_2427 (by decide) (fun h_47 => ?_) (fun h_47 => ?_)
          ·
            refine lv_goto (tgt := 3039) hx hb dL_law_2441 (by decide) ?_
            exact zl_end hL8 C0 hS (lv_sub hl [2, 6] rfl) (by show _ ≤ (600002 : Nat); omega) (by show _ ≤ (7302232 : Nat); omega)
          · exact absurd h_47 (by omega)
        · exact absurd h_46 (by omega)
    ·
      refine lv_iconst (v := iz (1)) hx hb dL_law_2342 rfl ?_
      refine lv_goto (tgt := 2347) hx hb dL_law_2343 (by decide) ?_
      refine lv_aload_n hx hb dL_law_2347 rfl (lv_at hl 3 rfl) ?_
      refine zc_i (wr := [(mm, .inr (13, [.int (iz (0)), .int (iz (6)), .ref ma, .null, .ref mt, .ref ml, .int (iz (0)), .ref mw, .int (iz (0)), .ref mb, .ref mp, .int (iz (0))]))]) (vx_runSW (As := [.ref x, .int (iz (zv xs 1)), .int (iz (zv xs 2)), .long (lz (zlo (zv xs 3) (zv xs 4))), .int (iz (zv xs 5)), .int (iz (1)), .ref ou]) (rest := []) ⟨hx, hb, hml, hown, hts⟩ (c_L_reserve_x1 l G s1 s2 s3 x ro rw bo li sh tx lo nl lx0 lx1 lx2 (zv xs 1) (zv xs 2) (zlo (zv xs 3) (zv xs 4)) (zv xs 5) true ou (fun _ => 0) hl0 (by omega) (by omega) (by omega) (by omega) (by omega) H.size) (vx_cwSW 7 hts gL_law_L_reserve rfl rfl rfl (by decide +kernel) ⟨Nat.le_of_ble_eq_true rfl, Nat.le_of_ble_eq_true rfl⟩) (zpSe zXL_ok hEc hS hA hKX hP hD [0, 1, 2] rfl rfl) rfl rfl hl.1 rfl (lv_room (Nat.le_of_ble_eq_true rfl)) dL_law_2348 ⟨(by show _ ≤ (600002 : Nat); omega), (by show _ ≤ (7302232 : Nat); omega)⟩) hP hD hS hA [0, 1, 2] [3] rfl rfl rfl (by decide) (fun kk u_48 H locs hw hP hD hS => ?_)
      have hP : va_P G.1 vwCl [(mm, .inr (13, [.int (iz (0)), .int (iz (6)), .ref ma, .null, .ref mt, .ref ml, .int (iz (0)), .ref mw, .int (iz (0)), .ref mb, .ref mp, .int (iz (0))])), (ou, zaL (G.2 0) 1 ((fun _ => 0)))] H := hP
      have hD : va_D (zlA s) [(mm, .inr (13, [.int (iz (0)), .int (iz (6)), .ref ma, .null, .ref mt, .ref ml, .int (iz (0)), .ref mw, .int (iz (0)), .ref mb, .ref mp, .int (iz (0))])), (ou, zaL (G.2 0) 1 ((fun _ => 0)))] := hD
      have hw : kk = 1 := hw
      rw [show kk = 1 from hw]
      refine lv_istore (lv' := [(5, .int (iz (1))), (0, .ref b), (1, .ref x), (2, .ref mm), (3, .ref ou), (4, .int (iz (0)))]) hx hb dL_law_2351 hl (by decide) rfl (fun ls hl => ?_)
      refine lv_aload_n hx hb dL_law_2353 rfl (lv_at hl 3 rfl) ?_
      refine lv_aload_n hx hb dL_law_2354 rfl (lv_at hl 1 rfl) ?_
      refine lv_iload hx hb dL_law_2355 (lv_at hl 5 rfl) ?_
      refine lv_iconst (v := iz (1)) hx hb dL_law_2357 rfl ?_
      refine zr_iadd hx hb dL_law_2358 ?_
      refine zr_sld hx hb hX hbl hbA hS 1 (by omega) (by omega) (by omega) dL_law_2359 ?_
      refine lv_aload_n hx hb dL_law_2360 rfl (lv_at hl 1 rfl) ?_
      refine lv_iload hx hb dL_law_2361 (lv_at hl 5 rfl) ?_
      refine lv_iconst (v := iz (2)) hx hb dL_law_2363 rfl ?_
      refine zr_iadd hx hb dL_law_2364 ?_
      refine zr_sld hx hb hX hbl hbA hS 2 (by omega) (by omega) (by omega) dL_law_2365 ?_
      refine lv_aload_n hx hb dL_law_2366 rfl (lv_at hl 1 rfl) ?_
      refine lv_iload hx hb dL_law_2367 (lv_at hl 5 rfl) ?_
      refine lv_iconst (v := iz (3)) hx hb dL_law_2369 rfl ?_
      refine zr_iadd hx hb dL_law_2370 ?_
      refine zr_sld hx hb hX hbl hbA hS 3 (by omega) (by omega) (by omega) dL_law_2371 ?_
      refine zr_i2l hx hb (x := zv xs 3) (⟨by omega, by omega⟩) dL_law_2372 ?_
      refine lv_bipush (v := iz (32)) hx hb dL_law_2373 rfl ?_
      refine zr_lshl32 hx hb dL_law_2375 ?_
      refine lv_aload_n hx hb dL_law_2376 rfl (lv_at hl 1 rfl) ?_
      refine lv_iload hx hb dL_law_2377 (lv_at hl 5 rfl) ?_
      refine lv_iconst (v := iz (4)) hx hb dL_law_2379 rfl ?_
      refine zr_iadd hx hb dL_law_2380 ?_
      refine zr_sld hx hb hX hbl hbA hS 4 (by omega) (by omega) (by omega) dL_law_2381 ?_
      refine zr_i2l hx hb (x := zv xs 4) (⟨by omega, by omega⟩) dL_law_2382 ?_
      refine zr_ldc2 (z := 4294967295) hx hb hown (hts (.constantLong RL 137 (4294967295)) (by decide +kernel)) rfl dL_law_2383 ?_
      refine zr_land32 hx hb dL_law_2386 ?_
      refine zr_lor32 hx hb dL_law_2387 ?_
      refine lv_aload_n hx hb dL_law_2388 rfl (lv_at hl 1 rfl) ?_
      refine lv_iload hx hb dL_law_2389 (lv_at hl 5 rfl) ?_
      refine lv_iconst (v := iz (5)) hx hb dL_law_2391 rfl ?_
      refine zr_iadd hx hb dL_law_2392 ?_
      refine zr_sld hx hb hX hbl hbA hS 5 (by omega) (by omega) (by omega) dL_law_2393 ?_
      refine lv_aload_n hx hb dL_law_2394 rfl (lv_at hl 1 rfl) ?_
      refine lv_iload hx hb dL_law_2395 (lv_at hl 5 rfl) ?_
      refine lv_bipush (v := iz (6)) hx hb dL_law_2397 rfl ?_
      refine zr_iadd hx hb dL_law_2399 ?_
      refine zr_sld hx hb hX hbl hbA hS 6 (by omega) (by omega) (by omega) dL_law_2400 ?_
      refine zr_if_eq (x := zv xs 6) (tgt := 2408) hx hb (⟨by omega, by omega⟩) dL_law_2401 (by decide) (fun h_50 => ?_) (fun h_50 => ?_)
      ·
        refine lv_iconst (v := iz (0)) hx hb dL_law_2408 rfl ?_
        refine zc_l (wr := [(ou, zaL (G.2 0) 1 ((fun _ => 0)))]) (va_runV (As := [.int (iz (zv xs 1)), .int (iz (zv xs 2)), .long (lz (zlo (zv xs 3) (zv xs 4))), .int (iz (zv xs 5)), .int (iz (0))]) (rest := []) ⟨hx, hb, hml, hown, hts⟩ (c_X12_reserve_x l G mm ma mt ml mw mb mp 0 (zv xs 1) (zv xs 2) (zlo (zv xs 3) (zv xs 4)) (zv xs 5) false (by omega) (by omega) (by omega) (by omega) (by omega) H.size) (cwV 5 hts gL_law_X12_reserve rfl rfl rfl (by decide +kernel) ⟨Nat.le_of_ble_eq_true rfl, Nat.le_of_ble_eq_true rfl⟩) (zpV hKX hP hD [0] rfl rfl 0 13 rfl rfl) rfl rfl hl.1 rfl (lv_room (Nat.le_of_ble_eq_true rfl)) dL_law_2409 ⟨(by show _ ≤ (600002 : Nat); omega), (by show _ ≤ (7302232 : Nat); omega)⟩) hP hD hS hA [0] [1] rfl rfl rfl (by decide) (fun zm u_51 H locs hm hP hD hS => ?_)
        generalize u_51 = thm at hP hD hm
        have hP : va_P G.1 vwCl [(ou, zaL (G.2 0) 1 ((fun _ => 0))), (mm, .inr (13, [.int (iz (thm)), .int (iz (6)), .ref ma, .null, .ref mt, .ref ml, .int (iz (0)), .ref mw, .int (iz (0)), .ref mb, .ref mp, .int (iz (0))]))] H := hP
        have hD : va_D (zlA s) [(ou, zaL (G.2 0) 1 ((fun _ => 0))), (mm, .inr (13, [.int (iz (thm)), .int (iz (6)), .ref ma, .null, .ref mt, .ref ml, .int (iz (0)), .ref mw, .int (iz (0)), .ref mb, .ref mp, .int (iz (0))]))] := hD
        have hm : zm = 0 ∧ thm = 1 := hm
        have htp := hm.2
        refine lv_lstore (lv' := [(6, .long (lz (zm))), (5, .int (iz (1))), (0, .ref b), (1, .ref x), (2, .ref mm), (3, .ref ou), (4, .int (iz (0)))]) hx hb dL_law_2412 hl (by decide) rfl (fun ls hl => ?_)
        refine lv_aload_n hx hb dL_law_2414 rfl (lv_at hl 4 rfl) ?_
        refine zc_i (wr := [(ou, zaL (G.2 0) 1 ((fun _ => 0)))]) (va_runV (As := []) (rest := []) ⟨hx, hb, hml, hown, hts⟩ (c_X12_thrown_v l G mm thm (.ref ma) .null (.ref mt) (.ref ml) (.int (iz (0))) (.ref mw) (.int (iz (0))) (.ref mb) (.ref mp) (.int (iz (0))) 6  H.size) (cwV 0 hts gL_law_X12_thrown rfl rfl rfl (by decide +kernel) ⟨Nat.le_of_ble_eq_true rfl, Nat.le_of_ble_eq_true rfl⟩) (zpV hKX hP hD [1] rfl rfl 1 13 rfl rfl) rfl rfl hl.1 rfl (lv_room (Nat.le_of_ble_eq_true rfl)) dL_law_2415 ⟨(by show _ ≤ (600002 : Nat); omega), (by show _ ≤ (7302232 : Nat); omega)⟩) hP hD hS hA [1] [0] rfl rfl rfl (by decide) (fun th9 u_53 H locs hth hP hD hS => ?_)
        have hP : va_P G.1 vwCl [(ou, zaL (G.2 0) 1 ((fun _ => 0))), (mm, .inr (13, [.int (iz (thm)), .int (iz ((6 : Int))), .ref ma, .null, .ref mt, .ref ml, .int (iz (0)), .ref mw, .int (iz (0)), .ref mb, .ref mp, .int (iz (0))]))] H := hP
        have hD : va_D (zlA s) [(ou, zaL (G.2 0) 1 ((fun _ => 0))), (mm, .inr (13, [.int (iz (thm)), .int (iz ((6 : Int))), .ref ma, .null, .ref mt, .ref ml, .int (iz (0)), .ref mw, .int (iz (0)), .ref mb, .ref mp, .int (iz (0))]))] := hD
        have hth : th9 = thm := hth
        rw [show th9 = 1 from hth.trans htp]
        refine lv_iload hx hb dL_law_2418 (lv_at hl 1 rfl) ?_
        refine zr_icmp_eq (x := 1) (y := 1) (tgt := 2425) hx hb (⟨by omega, by omega⟩) (⟨by omega, by omega⟩) dL_law_2420 (by decide) (fun h_55 => ?_) (fun h_55 => ?_)
        ·
          refine lv_iload hx hb dL_law_2425 (lv_at hl 1 rfl) ?_
          refine zr_if_ne (x := 1) (tgt := 2441) hx hb (⟨by omega, by omega⟩) dL_law_2427 (by decide) (fun h_56 => ?_) (fun h_56 => ?_)
          ·
            refine lv_goto (tgt := 3039) hx hb dL_law_2441 (by decide) ?_
            exact zl_end hL8 C0 hS (lv_sub hl [2, 6] rfl) (by show _ ≤ (600002 : Nat); omega) (by show _ ≤ (7302232 : Nat); omega)
          · exact absurd h_56 (by omega)
        · exact absurd h_55 (by omega)
      ·
        refine lv_iconst (v := iz (1)) hx hb dL_law_2404 rfl ?_
        refine lv_goto (tgt := 2409) hx hb dL_law_2405 (by decide) ?_
        refine zc_l (wr := [(ou, zaL (G.2 0) 1 ((fun _ => 0)))]) (va_runV (As := [.int (iz (zv xs 1)), .int (iz (zv xs 2)), .long (lz (zlo (zv xs 3) (zv xs 4))), .int (iz (zv xs 5)), .int (iz (1))]) (rest := []) ⟨hx, hb, hml, hown, hts⟩ (c_X12_reserve_x l G mm ma mt ml mw mb mp 0 (zv xs 1) (zv xs 2) (zlo (zv xs 3) (zv xs 4)) (zv xs 5) true (by omega) (by omega) (by omega) (by omega) (by omega) H.size) (cwV 5 hts gL_law_X12_reserve rfl rfl rfl (by decide +kernel) ⟨Nat.le_of_ble_eq_true rfl, Nat.le_of_ble_eq_true rfl⟩) (zpV hKX hP hD [0] rfl rfl 0 13 rfl rfl) rfl rfl hl.1 rfl (lv_room (Nat.le_of_ble_eq_true rfl)) dL_law_2409 ⟨(by show _ ≤ (600002 : Nat); omega), (by show _ ≤ (7302232 : Nat); omega)⟩) hP hD hS hA [0] [1] rfl rfl rfl (by decide) (fun zm u_57 H locs hm hP hD hS => ?_)
        generalize u_57 = thm at hP hD hm
        have hP : va_P G.1 vwCl [(ou, zaL (G.2 0) 1 ((fun _ => 0))), (mm, .inr (13, [.int (iz (thm)), .int (iz (6)), .ref ma, .null, .ref mt, .ref ml, .int (iz (0)), .ref mw, .int (iz (0)), .ref mb, .ref mp, .int (iz (0))]))] H := hP
        have hD : va_D (zlA s) [(ou, zaL (G.2 0) 1 ((fun _ => 0))), (mm, .inr (13, [.int (iz (thm)), .int (iz (6)), .ref ma, .null, .ref mt, .ref ml, .int (iz (0)), .ref mw, .int (iz (0)), .ref mb, .ref mp, .int (iz (0))]))] := hD
        have hm : zm = 0 ∧ thm = 1 := hm
        have htp := hm.2
        refine lv_lstore (lv' := [(6, .long (lz (zm))), (5, .int (iz (1))), (0, .ref b), (1, .ref x), (2, .ref mm), (3, .ref ou), (4, .int (iz (0)))]) hx hb dL_law_2412 hl (by decide) rfl (fun ls hl => ?_)
        refine lv_aload_n hx hb dL_law_2414 rfl (lv_at hl 4 rfl) ?_
        refine zc_i (wr := [(ou, zaL (G.2 0) 1 ((fun _ => 0)))]) (va_runV (As := []) (rest := []) ⟨hx, hb, hml, hown, hts⟩ (c_X12_thrown_v l G mm thm (.ref ma) .null (.ref mt) (.ref ml) (.int (iz (0))) (.ref mw) (.int (iz (0))) (.ref mb) (.ref mp) (.int (iz (0))) 6  H.size) (cwV 0 hts gL_law_X12_thrown rfl rfl rfl (by decide +kernel) ⟨Nat.le_of_ble_eq_true rfl, Nat.le_of_ble_eq_true rfl⟩) (zpV hKX hP hD [1] rfl rfl 1 13 rfl rfl) rfl rfl hl.1 rfl (lv_room (Nat.le_of_ble_eq_true rfl)) dL_law_2415 ⟨(by show _ ≤ (600002 : Nat); omega), (by show _ ≤ (7302232 : Nat); omega)⟩) hP hD hS hA [1] [0] rfl rfl rfl (by decide) (fun th9 u_59 H locs hth hP hD hS => ?_)
        have hP : va_P G.1 vwCl [(ou, zaL (G.2 0) 1 ((fun _ => 0))), (mm, .inr (13, [.int (iz (thm)), .int (iz ((6 : Int))), .ref ma, .null, .ref mt, .ref ml, .int (iz (0)), .ref mw, .int (iz (0)), .ref mb, .ref mp, .int (iz (0))]))] H := hP
        have hD : va_D (zlA s) [(ou, zaL (G.2 0) 1 ((fun _ => 0))), (mm, .inr (13, [.int (iz (thm)), .int (iz ((6 : Int))), .ref ma, .null, .ref mt, .ref ml, .int (iz (0)), .ref mw, .int (iz (0)), .ref mb, .ref mp, .int (iz (0))]))] := hD
        have hth : th9 = thm := hth
        rw [show th9 = 1 from hth.trans htp]
        refine lv_iload hx hb dL_law_2418 (lv_at hl 1 rfl) ?_
        refine zr_icmp_eq (x := 1) (y := 1) (tgt := 2425) hx hb (⟨by omega, by omega⟩) (⟨by omega, by omega⟩) dL_law_2420 (by decide) (fun h_61 => ?_) (fun h_61 => ?_)
        ·
          refine lv_iload hx hb dL_law_2425 (lv_at hl 1 rfl) ?_
          refine zr_if_ne (x := 1) (tgt := 2441) hx hb (⟨by omega, by omega⟩) dL_law_2427 (by decide) (fun h_62 => ?_) (fun h_62 => ?_)
          ·
            refine lv_goto (tgt := 3039) hx hb dL_law_2441 (by decide) ?_
            exact zl_end hL8 C0 hS (lv_sub hl [2, 6] rfl) (by show _ ≤ (600002 : Nat); omega) (by show _ ≤ (7302232 : Nat); omega)
          · exact absurd h_62 (by omega)
        · exact absurd h_61 (by omega)

set_option maxHeartbeats 4000000 in
set_option maxRecDepth 100000 in
theorem zl_27 {p : Program} {e : Env} {s : State} {m : MethodId} {below : List Frame} {meth : Method} {c : Code} {l : Launch} (hl0 : l.stackTraces = false) {b L : Nat} {xs : Nat → Int32} (hL8 : L = 8) (C0 : lw_At p s m meth c b L xs) {G : zG} {nA nB nE s1 s2 s3 : Nat} (hKX : zK G s) (hEm : zE G nA nB nE (zlA s) s) (hEc : zXL s1 s2 s3 (zlA s) s) (x : Nat) (ro : Nat) (rw : Nat) (bo : Nat) (li : Nat) (sh : Nat) (tx : Nat) (lo : Nat) (nl : Nat) (wt : Nat) (ou : Nat) (mm : Nat) (ma : Nat) (mt : Nat) (ml : Nat) (mw : Nat) (mb : Nat) (mp : Nat) {H : Heap} {locs : List Loc} {ls : Array Slot} (hP : va_P G.1 vwCl [(x, .inr (10, [.ref ro, .ref rw, .ref bo, .ref li, .ref sh, .ref tx, .ref lo, .ref nl])), (sh, .inr (7, [.ref wt, .int (iz (0))])), (wt, zaI (G.2 1) 12 (fun _ => 0)), (ou, zaL (G.2 0) 1 (fun _ => 0)), (mm, .inr (13, [.int (iz (0)), .int (iz (6)), .ref ma, .null, .ref mt, .ref ml, .int (iz (0)), .ref mw, .int (iz (0)), .ref mb, .ref mp, .int (iz (0))])), (mw, zaI (G.2 1) 12 (fun _ => 0))] H) (hD : va_D (zlA s) [(x, .inr (10, [.ref ro, .ref rw, .ref bo, .ref li, .ref sh, .ref tx, .ref lo, .ref nl])), (sh, .inr (7, [.ref wt, .int (iz (0))])), (wt, zaI (G.2 1) 12 (fun _ => 0)), (ou, zaL (G.2 0) 1 (fun _ => 0)), (mm, .inr (13, [.int (iz (0)), .int (iz (6)), .ref ma, .null, .ref mt, .ref ml, .int (iz (0)), .ref mw, .int (iz (0)), .ref mb, .ref mp, .int (iz (0))])), (mw, zaI (G.2 1) 12 (fun _ => 0))]) (hS : va_S (zlA s) s.heap H locs) (hl : lv_has ls 9 [(0, .ref b), (1, .ref x), (2, .ref mm), (3, .ref ou), (4, .int (iz (0)))]) : W p l e room_1 s m #[Value.ref b] below meth c H locs 200 4000 (lw_Z below #[Value.ref b] s) (F0 m 2444 ls []) := by
  obtain ⟨hx, hb, hr, hml, hown, hts, hX, hbl, hlocks, hgv⟩ := id C0
  have hbA : ¬ zlA s b := Nat.not_le.mpr hbl
  have hK := hKX.1
  have hts : ∀ w ∈ wsL_law, w.before #[Value.ref b] s = true := fun w h => hts w (wsL_law_in w h)
  have hown : s.vm.findClass RL = some m.cls := hown
  have hA : ∀ q : Nat, s.heap.size ≤ q → zlA s q := fun _ h => h
  have hE := hEm
  have hv1 := zv_rng xs 1
  have hv2 := zv_rng xs 2
  have hv3 := zv_rng xs 3
  have hv4 := zv_rng xs 4
  have hv5 := zv_rng xs 5
  have hv6 := zv_rng xs 6
  have hv7 := zv_rng xs 7
  by_cases hco0 : 0 ≤ (zv xs 1) ∧ (zv xs 1) ≤ 1000000
  ·
    refine lv_aload_n hx hb dL_law_2444 rfl (lv_at hl 1 rfl) ?_
    refine lv_aload_n hx hb dL_law_2445 rfl (lv_at hl 0 rfl) ?_
    refine lv_iload hx hb dL_law_2446 (lv_at hl 4 rfl) ?_
    refine lv_iconst (v := iz (1)) hx hb dL_law_2448 rfl ?_
    refine zr_iadd hx hb dL_law_2449 ?_
    refine zr_sld hx hb hX hbl hbA hS 1 (by omega) (by omega) (by omega) dL_law_2450 ?_
    refine lv_aload_n hx hb dL_law_2451 rfl (lv_at hl 3 rfl) ?_
    refine zc_i (wr := [(mm, .inr (13, [.int (iz (0)), .int (iz (6)), .ref ma, .null, .ref mt, .ref ml, .int (iz (0)), .ref mw, .int (iz (0)), .ref mb, .ref mp, .int (iz (0))])), (mw, zaI (G.2 1) 12 (fun _ => 0))]) (vx_runSW (As := [.ref x, .int (iz (zv xs 1)), .ref ou]) (rest := []) ⟨hx, hb, hml, hown, hts⟩ (c_L_weigh_o l G x ro rw bo li sh tx lo nl wt (zv xs 1) ou (fun _ => 0) (by omega) (by omega) H.size) (vx_cwSW 3 hts gL_law_L_weigh rfl rfl rfl (by decide +kernel) ⟨Nat.le_of_ble_eq_true rfl, Nat.le_of_ble_eq_true rfl⟩) (zpS hKX hP hD [0, 1, 2, 3] rfl rfl) rfl rfl hl.1 rfl (lv_room (Nat.le_of_ble_eq_true rfl)) dL_law_2452 ⟨(by show _ ≤ (600002 : Nat); omega), (by show _ ≤ (7302232 : Nat); omega)⟩) hP hD hS hA [0, 1, 2, 3] [4, 5] rfl rfl rfl (by decide) (fun kk u_1 H locs hw hP hD hS => ?_)
    generalize u_1 = fz at hP hD hw
    have hP : va_P G.1 vwCl [(mm, .inr (13, [.int (iz (0)), .int (iz (6)), .ref ma, .null, .ref mt, .ref ml, .int (iz (0)), .ref mw, .int (iz (0)), .ref mb, .ref mp, .int (iz (0))])), (mw, zaI (G.2 1) 12 (fun _ => 0)), (ou, zaL (G.2 0) 1 (fz))] H := hP
    have hD : va_D (zlA s) [(mm, .inr (13, [.int (iz (0)), .int (iz (6)), .ref ma, .null, .ref mt, .ref ml, .int (iz (0)), .ref mw, .int (iz (0)), .ref mb, .ref mp, .int (iz (0))])), (mw, zaI (G.2 1) 12 (fun _ => 0)), (ou, zaL (G.2 0) 1 (fz))] := hD
    have hw : kk = 0 ∧ (fz 0) = 1 := hw
    rw [show kk = 0 from hw.1]
    refine lv_istore (lv' := [(5, .int (iz (0))), (0, .ref b), (1, .ref x), (2, .ref mm), (3, .ref ou), (4, .int (iz (0)))]) hx hb dL_law_2455 hl (by decide) rfl (fun ls hl => ?_)
    refine lv_aload_n hx hb dL_law_2457 rfl (lv_at hl 3 rfl) ?_
    refine lv_aload_n hx hb dL_law_2458 rfl (lv_at hl 1 rfl) ?_
    refine lv_iload hx hb dL_law_2459 (lv_at hl 5 rfl) ?_
    refine lv_iconst (v := iz (1)) hx hb dL_law_2461 rfl ?_
    refine zr_iadd hx hb dL_law_2462 ?_
    refine zr_sld hx hb hX hbl hbA hS 1 (by omega) (by omega) (by omega) dL_law_2463 ?_
    refine zc_i (wr := [(ou, zaL (G.2 0) 1 (fz))]) (va_runV (As := [.int (iz (zv xs 1))]) (rest := []) ⟨hx, hb, hml, hown, hts⟩ (c_X12_weigh_o l G mm ma mt ml mw mb mp 0 (zv xs 1) (by omega) (by omega) H.size) (cwV 1 hts gL_law_X12_weigh rfl rfl rfl (by decide +kernel) ⟨Nat.le_of_ble_eq_true rfl, Nat.le_of_ble_eq_true rfl⟩) (zpV hKX hP hD [0, 1] rfl rfl 0 13 rfl rfl) rfl rfl hl.1 rfl (lv_room (Nat.le_of_ble_eq_true rfl)) dL_law_2464 ⟨(by show _ ≤ (600002 : Nat); omega), (by show _ ≤ (7302232 : Nat); omega)⟩) hP hD hS hA [0, 1] [2] rfl rfl rfl (by decide) (fun zm u_3 H locs hm hP hD hS => ?_)
    generalize u_3 = thm at hP hD hm
    have hP : va_P G.1 vwCl [(ou, zaL (G.2 0) 1 (fz)), (mm, .inr (13, [.int (iz (thm)), .int (iz (6)), .ref ma, .null, .ref mt, .ref ml, .int (iz (0)), .ref mw, .int (iz (0 + 1)), .ref mb, .ref mp, .int (iz (0))]))] H := hP
    have hD : va_D (zlA s) [(ou, zaL (G.2 0) 1 (fz)), (mm, .inr (13, [.int (iz (thm)), .int (iz (6)), .ref ma, .null, .ref mt, .ref ml, .int (iz (0)), .ref mw, .int (iz (0 + 1)), .ref mb, .ref mp, .int (iz (0))]))] := hD
    have hm : zm = 1 ∧ thm = 0 := hm
    have htp := hm.2
    have hval := hw.2.trans hm.1.symm
    refine lv_istore (lv' := [(6, .int (iz (zm))), (5, .int (iz (0))), (0, .ref b), (1, .ref x), (2, .ref mm), (3, .ref ou), (4, .int (iz (0)))]) hx hb dL_law_2467 hl (by decide) rfl (fun ls hl => ?_)
    refine lv_aload_n hx hb dL_law_2469 rfl (lv_at hl 4 rfl) ?_
    refine zc_i (wr := [(ou, zaL (G.2 0) 1 (fz))]) (va_runV (As := []) (rest := []) ⟨hx, hb, hml, hown, hts⟩ (c_X12_thrown_v l G mm thm (.ref ma) .null (.ref mt) (.ref ml) (.int (iz (0))) (.ref mw) (.int (iz (0 + 1))) (.ref mb) (.ref mp) (.int (iz (0))) 6  H.size) (cwV 0 hts gL_law_X12_thrown rfl rfl rfl (by decide +kernel) ⟨Nat.le_of_ble_eq_true rfl, Nat.le_of_ble_eq_true rfl⟩) (zpV hKX hP hD [1] rfl rfl 1 13 rfl rfl) rfl rfl hl.1 rfl (lv_room (Nat.le_of_ble_eq_true rfl)) dL_law_2470 ⟨(by show _ ≤ (600002 : Nat); omega), (by show _ ≤ (7302232 : Nat); omega)⟩) hP hD hS hA [1] [0] rfl rfl rfl (by decide) (fun th9 u_5 H locs hth hP hD hS => ?_)
    have hP : va_P G.1 vwCl [(ou, zaL (G.2 0) 1 (fz)), (mm, .inr (13, [.int (iz (thm)), .int (iz ((6 : Int))), .ref ma, .null, .ref mt, .ref ml, .int (iz (0)), .ref mw, .int (iz (0 + 1)), .ref mb, .ref mp, .int (iz (0))]))] H := hP
    have hD : va_D (zlA s) [(ou, zaL (G.2 0) 1 (fz)), (mm, .inr (13, [.int (iz (thm)), .int (iz ((6 : Int))), .ref ma, .null, .ref mt, .ref ml, .int (iz (0)), .ref mw, .int (iz (0 + 1)), .ref mb, .ref mp, .int (iz (0))]))] := hD
    have hth : th9 = thm := hth
    rw [show th9 = 0 from hth.trans htp]
    refine lv_iload hx hb dL_law_2473 (lv_at hl 1 rfl) ?_
    refine zr_icmp_eq (x := 0) (y := 0) (tgt := 2480) hx hb (⟨by omega, by omega⟩) (⟨by omega, by omega⟩) dL_law_2475 (by decide) (fun h_7 => ?_) (fun h_7 => ?_)
    ·
      refine lv_iload hx hb dL_law_2480 (lv_at hl 1 rfl) ?_
      refine zr_if_ne (x := 0) (tgt := 2497) hx hb (⟨by omega, by omega⟩) dL_law_2482 (by decide) (fun h_8 => ?_) (fun h_8 => ?_)
      · exact absurd h_8 (by omega)
      ·
        refine lv_aload_n hx hb dL_law_2485 rfl (lv_at hl 5 rfl) ?_
        refine lv_iconst (v := iz (0)) hx hb dL_law_2486 rfl ?_
        refine zr_lald hx hb hK hP 0 0 rfl rfl (i := 0) (⟨by omega, by omega, by omega⟩) dL_law_2487 ?_
        refine lv_iload hx hb dL_law_2488 (lv_at hl 0 rfl) ?_
        refine zr_i2l hx hb (x := zm) (⟨by omega, by omega⟩) dL_law_2490 ?_
        refine zr_lcmpS (x := fz 0) (y := zm) (tgt := 2497) hx hb (by first | exact hval | exact hval.symm) dL_law_2491 dL_law_2492 (by decide) ?_
        refine lv_goto (tgt := 3039) hx hb dL_law_2497 (by decide) ?_
        exact zl_end hL8 C0 hS (lv_sub hl [2, 6] rfl) (by show _ ≤ (600002 : Nat); omega) (by show _ ≤ (7302232 : Nat); omega)
    · exact absurd h_7 (by omega)
  ·
    refine lv_aload_n hx hb dL_law_2444 rfl (lv_at hl 1 rfl) ?_
    refine lv_aload_n hx hb dL_law_2445 rfl (lv_at hl 0 rfl) ?_
    refine lv_iload hx hb dL_law_2446 (lv_at hl 4 rfl) ?_
    refine lv_iconst (v := iz (1)) hx hb dL_law_2448 rfl ?_
    refine zr_iadd hx hb dL_law_2449 ?_
    refine zr_sld hx hb hX hbl hbA hS 1 (by omega) (by omega) (by omega) dL_law_2450 ?_
    refine lv_aload_n hx hb dL_law_2451 rfl (lv_at hl 3 rfl) ?_
    refine zc_i (wr := [(sh, .inr (7, [.ref wt, .int (iz (0))])), (wt, zaI (G.2 1) 12 (fun _ => 0)), (mm, .inr (13, [.int (iz (0)), .int (iz (6)), .ref ma, .null, .ref mt, .ref ml, .int (iz (0)), .ref mw, .int (iz (0)), .ref mb, .ref mp, .int (iz (0))])), (mw, zaI (G.2 1) 12 (fun _ => 0))]) (vx_runSW (As := [.ref x, .int (iz (zv xs 1)), .ref ou]) (rest := []) ⟨hx, hb, hml, hown, hts⟩ (c_L_weigh_x l G s1 s2 s3 x ro rw bo li sh tx lo nl (zv xs 1) ou (fun _ => 0) hl0 (by omega) (by omega) H.size) (vx_cwSW 3 hts gL_law_L_weigh rfl rfl rfl (by decide +kernel) ⟨Nat.le_of_ble_eq_true rfl, Nat.le_of_ble_eq_true rfl⟩) (zpSe zXL_ok hEc hS hA hKX hP hD [0, 3] rfl rfl) rfl rfl hl.1 rfl (lv_room (Nat.le_of_ble_eq_true rfl)) dL_law_2452 ⟨(by show _ ≤ (600002 : Nat); omega), (by show _ ≤ (7302232 : Nat); omega)⟩) hP hD hS hA [0, 3] [1, 2, 4, 5] rfl rfl rfl (by decide) (fun kk u_9 H locs hw hP hD hS => ?_)
    have hP : va_P G.1 vwCl [(sh, .inr (7, [.ref wt, .int (iz (0))])), (wt, zaI (G.2 1) 12 (fun _ => 0)), (mm, .inr (13, [.int (iz (0)), .int (iz (6)), .ref ma, .null, .ref mt, .ref ml, .int (iz (0)), .ref mw, .int (iz (0)), .ref mb, .ref mp, .int (iz (0))])), (mw, zaI (G.2 1) 12 (fun _ => 0)), (ou, zaL (G.2 0) 1 ((fun _ => 0)))] H := hP
    have hD : va_D (zlA s) [(sh, .inr (7, [.ref wt, .int (iz (0))])), (wt, zaI (G.2 1) 12 (fun _ => 0)), (mm, .inr (13, [.int (iz (0)), .int (iz (6)), .ref ma, .null, .ref mt, .ref ml, .int (iz (0)), .ref mw, .int (iz (0)), .ref mb, .ref mp, .int (iz (0))])), (mw, zaI (G.2 1) 12 (fun _ => 0)), (ou, zaL (G.2 0) 1 ((fun _ => 0)))] := hD
    have hw : kk = 1 := hw
    rw [show kk = 1 from hw]
    refine lv_istore (lv' := [(5, .int (iz (1))), (0, .ref b), (1, .ref x), (2, .ref mm), (3, .ref ou), (4, .int (iz (0)))]) hx hb dL_law_2455 hl (by decide) rfl (fun ls hl => ?_)
    refine lv_aload_n hx hb dL_law_2457 rfl (lv_at hl 3 rfl) ?_
    refine lv_aload_n hx hb dL_law_2458 rfl (lv_at hl 1 rfl) ?_
    refine lv_iload hx hb dL_law_2459 (lv_at hl 5 rfl) ?_
    refine lv_iconst (v := iz (1)) hx hb dL_law_2461 rfl ?_
    refine zr_iadd hx hb dL_law_2462 ?_
    refine zr_sld hx hb hX hbl hbA hS 1 (by omega) (by omega) (by omega) dL_law_2463 ?_
    refine zc_i (wr := [(sh, .inr (7, [.ref wt, .int (iz (0))])), (wt, zaI (G.2 1) 12 (fun _ => 0)), (ou, zaL (G.2 0) 1 ((fun _ => 0)))]) (va_runV (As := [.int (iz (zv xs 1))]) (rest := []) ⟨hx, hb, hml, hown, hts⟩ (c_X12_weigh_x l G mm ma mt ml mw mb mp 0 (zv xs 1) (by omega) (by omega) H.size) (cwV 1 hts gL_law_X12_weigh rfl rfl rfl (by decide +kernel) ⟨Nat.le_of_ble_eq_true rfl, Nat.le_of_ble_eq_true rfl⟩) (zpV hKX hP hD [2, 3] rfl rfl 2 13 rfl rfl) rfl rfl hl.1 rfl (lv_room (Nat.le_of_ble_eq_true rfl)) dL_law_2464 ⟨(by show _ ≤ (600002 : Nat); omega), (by show _ ≤ (7302232 : Nat); omega)⟩) hP hD hS hA [2, 3] [0, 1, 4] rfl rfl rfl (by decide) (fun zm u_11 H locs hm hP hD hS => ?_)
    generalize u_11 = thm at hP hD hm
    have hP : va_P G.1 vwCl [(sh, .inr (7, [.ref wt, .int (iz (0))])), (wt, zaI (G.2 1) 12 (fun _ => 0)), (ou, zaL (G.2 0) 1 ((fun _ => 0))), (mm, .inr (13, [.int (iz (thm)), .int (iz (6)), .ref ma, .null, .ref mt, .ref ml, .int (iz (0)), .ref mw, .int (iz (0)), .ref mb, .ref mp, .int (iz (0))]))] H := hP
    have hD : va_D (zlA s) [(sh, .inr (7, [.ref wt, .int (iz (0))])), (wt, zaI (G.2 1) 12 (fun _ => 0)), (ou, zaL (G.2 0) 1 ((fun _ => 0))), (mm, .inr (13, [.int (iz (thm)), .int (iz (6)), .ref ma, .null, .ref mt, .ref ml, .int (iz (0)), .ref mw, .int (iz (0)), .ref mb, .ref mp, .int (iz (0))]))] := hD
    have hm : zm = 0 ∧ thm = 1 := hm
    have htp := hm.2
    refine lv_istore (lv' := [(6, .int (iz (zm))), (5, .int (iz (1))), (0, .ref b), (1, .ref x), (2, .ref mm), (3, .ref ou), (4, .int (iz (0)))]) hx hb dL_law_2467 hl (by decide) rfl (fun ls hl => ?_)
    refine lv_aload_n hx hb dL_law_2469 rfl (lv_at hl 4 rfl) ?_
    refine zc_i (wr := [(sh, .inr (7, [.ref wt, .int (iz (0))])), (wt, zaI (G.2 1) 12 (fun _ => 0)), (ou, zaL (G.2 0) 1 ((fun _ => 0)))]) (va_runV (As := []) (rest := []) ⟨hx, hb, hml, hown, hts⟩ (c_X12_thrown_v l G mm thm (.ref ma) .null (.ref mt) (.ref ml) (.int (iz (0))) (.ref mw) (.int (iz (0))) (.ref mb) (.ref mp) (.int (iz (0))) 6  H.size) (cwV 0 hts gL_law_X12_thrown rfl rfl rfl (by decide +kernel) ⟨Nat.le_of_ble_eq_true rfl, Nat.le_of_ble_eq_true rfl⟩) (zpV hKX hP hD [3] rfl rfl 3 13 rfl rfl) rfl rfl hl.1 rfl (lv_room (Nat.le_of_ble_eq_true rfl)) dL_law_2470 ⟨(by show _ ≤ (600002 : Nat); omega), (by show _ ≤ (7302232 : Nat); omega)⟩) hP hD hS hA [3] [0, 1, 2] rfl rfl rfl (by decide) (fun th9 u_13 H locs hth hP hD hS => ?_)
    have hP : va_P G.1 vwCl [(sh, .inr (7, [.ref wt, .int (iz (0))])), (wt, zaI (G.2 1) 12 (fun _ => 0)), (ou, zaL (G.2 0) 1 ((fun _ => 0))), (mm, .inr (13, [.int (iz (thm)), .int (iz ((6 : Int))), .ref ma, .null, .ref mt, .ref ml, .int (iz (0)), .ref mw, .int (iz (0)), .ref mb, .ref mp, .int (iz (0))]))] H := hP
    have hD : va_D (zlA s) [(sh, .inr (7, [.ref wt, .int (iz (0))])), (wt, zaI (G.2 1) 12 (fun _ => 0)), (ou, zaL (G.2 0) 1 ((fun _ => 0))), (mm, .inr (13, [.int (iz (thm)), .int (iz ((6 : Int))), .ref ma, .null, .ref mt, .ref ml, .int (iz (0)), .ref mw, .int (iz (0)), .ref mb, .ref mp, .int (iz (0))]))] := hD
    have hth : th9 = thm := hth
    rw [show th9 = 1 from hth.trans htp]
    refine lv_iload hx hb dL_law_2473 (lv_at hl 1 rfl) ?_
    refine zr_icmp_eq (x := 1) (y := 1) (tgt := 2480) hx hb (⟨by omega, by omega⟩) (⟨by omega, by omega⟩) dL_law_2475 (by decide) (fun h_15 => ?_) (fun h_15 => ?_)
    ·
      refine lv_iload hx hb dL_law_2480 (lv_at hl 1 rfl) ?_
      refine zr_if_ne (x := 1) (tgt := 2497) hx hb (⟨by omega, by omega⟩) dL_law_2482 (by decide) (fun h_16 => ?_) (fun h_16 => ?_)
      ·
        refine lv_goto (tgt := 3039) hx hb dL_law_2497 (by decide) ?_
        exact zl_end hL8 C0 hS (lv_sub hl [2, 6] rfl) (by show _ ≤ (600002 : Nat); omega) (by show _ ≤ (7302232 : Nat); omega)
      · exact absurd h_16 (by omega)
    · exact absurd h_15 (by omega)

set_option maxHeartbeats 4000000 in
set_option maxRecDepth 100000 in
theorem zl_28 {p : Program} {e : Env} {s : State} {m : MethodId} {below : List Frame} {meth : Method} {c : Code} {l : Launch} (hl0 : l.stackTraces = false) {b L : Nat} {xs : Nat → Int32} (hL8 : L = 8) (C0 : lw_At p s m meth c b L xs) {G : zG} {nA nB nE s1 s2 s3 : Nat} (hKX : zK G s) (hEm : zE G nA nB nE (zlA s) s) (hEc : zXL s1 s2 s3 (zlA s) s) (x : Nat) (ro : Nat) (rw : Nat) (bo : Nat) (li : Nat) (sh : Nat) (tx : Nat) (lo : Nat) (nl : Nat) (wt : Nat) (ou : Nat) (mm : Nat) (ma : Nat) (mt : Nat) (ml : Nat) (mw : Nat) (mb : Nat) (mp : Nat) {H : Heap} {locs : List Loc} {ls : Array Slot} (hP : va_P G.1 vwCl [(x, .inr (10, [.ref ro, .ref rw, .ref bo, .ref li, .ref sh, .ref tx, .ref lo, .ref nl])), (sh, .inr (7, [.ref wt, .int (iz (0))])), (ou, zaL (G.2 0) 1 (fun _ => 0)), (mm, .inr (13, [.int (iz (0)), .int (iz (6)), .ref ma, .null, .ref mt, .ref ml, .int (iz (0)), .ref mw, .int (iz (0)), .ref mb, .ref mp, .int (iz (0))]))] H) (hD : va_D (zlA s) [(x, .inr (10, [.ref ro, .ref rw, .ref bo, .ref li, .ref sh, .ref tx, .ref lo, .ref nl])), (sh, .inr (7, [.ref wt, .int (iz (0))])), (ou, zaL (G.2 0) 1 (fun _ => 0)), (mm, .inr (13, [.int (iz (0)), .int (iz (6)), .ref ma, .null, .ref mt, .ref ml, .int (iz (0)), .ref mw, .int (iz (0)), .ref mb, .ref mp, .int (iz (0))]))]) (hS : va_S (zlA s) s.heap H locs) (hl : lv_has ls 9 [(0, .ref b), (1, .ref x), (2, .ref mm), (3, .ref ou), (4, .int (iz (0)))]) : W p l e room_1 s m #[Value.ref b] below meth c H locs 200 4000 (lw_Z below #[Value.ref b] s) (F0 m 2500 ls []) := by
  obtain ⟨hx, hb, hr, hml, hown, hts, hX, hbl, hlocks, hgv⟩ := id C0
  have hbA : ¬ zlA s b := Nat.not_le.mpr hbl
  have hK := hKX.1
  have hts : ∀ w ∈ wsL_law, w.before #[Value.ref b] s = true := fun w h => hts w (wsL_law_in w h)
  have hown : s.vm.findClass RL = some m.cls := hown
  have hA : ∀ q : Nat, s.heap.size ≤ q → zlA s q := fun _ h => h
  have hE := hEm
  have hv1 := zv_rng xs 1
  have hv2 := zv_rng xs 2
  have hv3 := zv_rng xs 3
  have hv4 := zv_rng xs 4
  have hv5 := zv_rng xs 5
  have hv6 := zv_rng xs 6
  have hv7 := zv_rng xs 7
  refine lv_aload_n hx hb dL_law_2500 rfl (lv_at hl 1 rfl) ?_
  refine zc_i (wr := [(ou, zaL (G.2 0) 1 (fun _ => 0)), (mm, .inr (13, [.int (iz (0)), .int (iz (6)), .ref ma, .null, .ref mt, .ref ml, .int (iz (0)), .ref mw, .int (iz (0)), .ref mb, .ref mp, .int (iz (0))]))]) (va_runV (As := []) (rest := []) ⟨hx, hb, hml, hown, hts⟩ (c_X9_clearWeights l G x ro rw bo li sh tx lo nl wt  H.size) (cwV 0 hts gL_law_X9_clearWeights rfl rfl rfl (by decide +kernel) ⟨Nat.le_of_ble_eq_true rfl, Nat.le_of_ble_eq_true rfl⟩) (zpV hKX hP hD [0, 1] rfl rfl 0 10 rfl rfl) rfl rfl hl.1 rfl (lv_room (Nat.le_of_ble_eq_true rfl)) dL_law_2501 ⟨(by show _ ≤ (600002 : Nat); omega), (by show _ ≤ (7302232 : Nat); omega)⟩) hP hD hS hA [0, 1] [2, 3] rfl rfl rfl (by decide) (fun zw u_1 H locs hw hP hD hS => ?_)
  have hP : va_P G.1 vwCl [(ou, zaL (G.2 0) 1 (fun _ => 0)), (mm, .inr (13, [.int (iz (0)), .int (iz (6)), .ref ma, .null, .ref mt, .ref ml, .int (iz (0)), .ref mw, .int (iz (0)), .ref mb, .ref mp, .int (iz (0))])), (x, .inr (10, [.ref ro, .ref rw, .ref bo, .ref li, .ref sh, .ref tx, .ref lo, .ref nl])), (sh, .inr (7, [.ref wt, .int (iz (0))]))] H := hP
  have hD : va_D (zlA s) [(ou, zaL (G.2 0) 1 (fun _ => 0)), (mm, .inr (13, [.int (iz (0)), .int (iz (6)), .ref ma, .null, .ref mt, .ref ml, .int (iz (0)), .ref mw, .int (iz (0)), .ref mb, .ref mp, .int (iz (0))])), (x, .inr (10, [.ref ro, .ref rw, .ref bo, .ref li, .ref sh, .ref tx, .ref lo, .ref nl])), (sh, .inr (7, [.ref wt, .int (iz (0))]))] := hD
  have hw : zw = 0 := hw
  refine lv_aload_n hx hb dL_law_2504 rfl (lv_at hl 2 rfl) ?_
  refine zc_i (wr := [(ou, zaL (G.2 0) 1 (fun _ => 0)), (x, .inr (10, [.ref ro, .ref rw, .ref bo, .ref li, .ref sh, .ref tx, .ref lo, .ref nl])), (sh, .inr (7, [.ref wt, .int (iz (0))]))]) (va_runV (As := []) (rest := [.int (iz (zw))]) ⟨hx, hb, hml, hown, hts⟩ (c_X12_clearWeights l G mm ma mt ml mw mb mp 0  H.size) (cwV 0 hts gL_law_X12_clearWeights rfl rfl rfl (by decide +kernel) ⟨Nat.le_of_ble_eq_true rfl, Nat.le_of_ble_eq_true rfl⟩) (zpV hKX hP hD [1] rfl rfl 1 13 rfl rfl) rfl rfl hl.1 rfl (lv_room (Nat.le_of_ble_eq_true rfl)) dL_law_2505 ⟨(by show _ ≤ (600002 : Nat); omega), (by show _ ≤ (7302232 : Nat); omega)⟩) hP hD hS hA [1] [0, 2, 3] rfl rfl rfl (by decide) (fun zm u_3 H locs hm hP hD hS => ?_)
  generalize u_3 = thm at hP hD hm
  have hP : va_P G.1 vwCl [(ou, zaL (G.2 0) 1 (fun _ => 0)), (x, .inr (10, [.ref ro, .ref rw, .ref bo, .ref li, .ref sh, .ref tx, .ref lo, .ref nl])), (sh, .inr (7, [.ref wt, .int (iz (0))])), (mm, .inr (13, [.int (iz (thm)), .int (iz (6)), .ref ma, .null, .ref mt, .ref ml, .int (iz (0)), .ref mw, .int (iz (0)), .ref mb, .ref mp, .int (iz (0))]))] H := hP
  have hD : va_D (zlA s) [(ou, zaL (G.2 0) 1 (fun _ => 0)), (x, .inr (10, [.ref ro, .ref rw, .ref bo, .ref li, .ref sh, .ref tx, .ref lo, .ref nl])), (sh, .inr (7, [.ref wt, .int (iz (0))])), (mm, .inr (13, [.int (iz (thm)), .int (iz (6)), .ref ma, .null, .ref mt, .ref ml, .int (iz (0)), .ref mw, .int (iz (0)), .ref mb, .ref mp, .int (iz (0))]))] := hD
  have hm : zm = 0 ∧ thm = 0 := hm
  have htp := hm.2
  have hval := hw.trans hm.1.symm
  refine zr_icmpS (x := zw) (y := zm) (tgt := 3039) hx hb (by first | exact hval | exact hval.symm) dL_law_2508 (by decide) ?_
  exact zl_end hL8 C0 hS (lv_sub hl [0, 4] rfl) (by show _ ≤ (600002 : Nat); omega) (by show _ ≤ (7302232 : Nat); omega)

set_option maxHeartbeats 4000000 in
set_option maxRecDepth 100000 in
theorem zl_29 {p : Program} {e : Env} {s : State} {m : MethodId} {below : List Frame} {meth : Method} {c : Code} {l : Launch} (hl0 : l.stackTraces = false) {b L : Nat} {xs : Nat → Int32} (hL8 : L = 8) (C0 : lw_At p s m meth c b L xs) {G : zG} {nA nB nE s1 s2 s3 : Nat} (hKX : zK G s) (hEm : zE G nA nB nE (zlA s) s) (hEc : zXL s1 s2 s3 (zlA s) s) (x : Nat) (ro : Nat) (rw : Nat) (bo : Nat) (li : Nat) (sh : Nat) (tx : Nat) (lo : Nat) (nl : Nat) (wt : Nat) (ou : Nat) (mm : Nat) (ma : Nat) (mt : Nat) (ml : Nat) (mw : Nat) (mb : Nat) (mp : Nat) {H : Heap} {locs : List Loc} {ls : Array Slot} (hP : va_P G.1 vwCl [(x, .inr (10, [.ref ro, .ref rw, .ref bo, .ref li, .ref sh, .ref tx, .ref lo, .ref nl])), (sh, .inr (7, [.ref wt, .int (iz (0))])), (ou, zaL (G.2 0) 1 (fun _ => 0)), (mm, .inr (13, [.int (iz (0)), .int (iz (6)), .ref ma, .null, .ref mt, .ref ml, .int (iz (0)), .ref mw, .int (iz (0)), .ref mb, .ref mp, .int (iz (0))]))] H) (hD : va_D (zlA s) [(x, .inr (10, [.ref ro, .ref rw, .ref bo, .ref li, .ref sh, .ref tx, .ref lo, .ref nl])), (sh, .inr (7, [.ref wt, .int (iz (0))])), (ou, zaL (G.2 0) 1 (fun _ => 0)), (mm, .inr (13, [.int (iz (0)), .int (iz (6)), .ref ma, .null, .ref mt, .ref ml, .int (iz (0)), .ref mw, .int (iz (0)), .ref mb, .ref mp, .int (iz (0))]))]) (hS : va_S (zlA s) s.heap H locs) (hl : lv_has ls 9 [(0, .ref b), (1, .ref x), (2, .ref mm), (3, .ref ou), (4, .int (iz (0)))]) : W p l e room_1 s m #[Value.ref b] below meth c H locs 200 4000 (lw_Z below #[Value.ref b] s) (F0 m 2513 ls []) := by
  obtain ⟨hx, hb, hr, hml, hown, hts, hX, hbl, hlocks, hgv⟩ := id C0
  have hbA : ¬ zlA s b := Nat.not_le.mpr hbl
  have hK := hKX.1
  have hts : ∀ w ∈ wsL_law, w.before #[Value.ref b] s = true := fun w h => hts w (wsL_law_in w h)
  have hown : s.vm.findClass RL = some m.cls := hown
  have hA : ∀ q : Nat, s.heap.size ≤ q → zlA s q := fun _ h => h
  have hE := hEm
  have hv1 := zv_rng xs 1
  have hv2 := zv_rng xs 2
  have hv3 := zv_rng xs 3
  have hv4 := zv_rng xs 4
  have hv5 := zv_rng xs 5
  have hv6 := zv_rng xs 6
  have hv7 := zv_rng xs 7
  have hw1 := zlo_rng (zv xs 1) (zv xs 2)
  by_cases hco0 : 0 ≤ (zlo (zv xs 1) (zv xs 2)) ∧ (zlo (zv xs 1) (zv xs 2)) ≤ 1000000000000
  ·
    refine lv_aload_n hx hb dL_law_2513 rfl (lv_at hl 1 rfl) ?_
    refine lv_aload_n hx hb dL_law_2514 rfl (lv_at hl 0 rfl) ?_
    refine lv_iload hx hb dL_law_2515 (lv_at hl 4 rfl) ?_
    refine lv_iconst (v := iz (1)) hx hb dL_law_2517 rfl ?_
    refine zr_iadd hx hb dL_law_2518 ?_
    refine zr_sld hx hb hX hbl hbA hS 1 (by omega) (by omega) (by omega) dL_law_2519 ?_
    refine zr_i2l hx hb (x := zv xs 1) (⟨by omega, by omega⟩) dL_law_2520 ?_
    refine lv_bipush (v := iz (32)) hx hb dL_law_2521 rfl ?_
    refine zr_lshl32 hx hb dL_law_2523 ?_
    refine lv_aload_n hx hb dL_law_2524 rfl (lv_at hl 0 rfl) ?_
    refine lv_iload hx hb dL_law_2525 (lv_at hl 4 rfl) ?_
    refine lv_iconst (v := iz (2)) hx hb dL_law_2527 rfl ?_
    refine zr_iadd hx hb dL_law_2528 ?_
    refine zr_sld hx hb hX hbl hbA hS 2 (by omega) (by omega) (by omega) dL_law_2529 ?_
    refine zr_i2l hx hb (x := zv xs 2) (⟨by omega, by omega⟩) dL_law_2530 ?_
    refine zr_ldc2 (z := 4294967295) hx hb hown (hts (.constantLong RL 137 (4294967295)) (by decide +kernel)) rfl dL_law_2531 ?_
    refine zr_land32 hx hb dL_law_2534 ?_
    refine zr_lor32 hx hb dL_law_2535 ?_
    refine lv_aload_n hx hb dL_law_2536 rfl (lv_at hl 0 rfl) ?_
    refine lv_iload hx hb dL_law_2537 (lv_at hl 4 rfl) ?_
    refine lv_iconst (v := iz (3)) hx hb dL_law_2539 rfl ?_
    refine zr_iadd hx hb dL_law_2540 ?_
    refine zr_sld hx hb hX hbl hbA hS 3 (by omega) (by omega) (by omega) dL_law_2541 ?_
    refine lv_aload_n hx hb dL_law_2542 rfl (lv_at hl 3 rfl) ?_
    refine zc_i (wr := [(mm, .inr (13, [.int (iz (0)), .int (iz (6)), .ref ma, .null, .ref mt, .ref ml, .int (iz (0)), .ref mw, .int (iz (0)), .ref mb, .ref mp, .int (iz (0))]))]) (vx_runSW (As := [.ref x, .long (lz (zlo (zv xs 1) (zv xs 2))), .int (iz (zv xs 3)), .ref ou]) (rest := []) ⟨hx, hb, hml, hown, hts⟩ (c_L_part_o l G s1 s2 s3 x ro rw bo li sh tx lo nl wt (zlo (zv xs 1) (zv xs 2)) (zv xs 3) ou (fun _ => 0) hl0 (by omega) (by omega) (by omega) H.size) (vx_cwSW 4 hts gL_law_L_part rfl rfl rfl (by decide +kernel) ⟨Nat.le_of_ble_eq_true rfl, Nat.le_of_ble_eq_true rfl⟩) (zpSe zXL_ok hEc hS hA hKX hP hD [0, 1, 2] rfl rfl) rfl rfl hl.1 rfl (lv_room (Nat.le_of_ble_eq_true rfl)) dL_law_2543 ⟨(by show _ ≤ (600002 : Nat); omega), (by show _ ≤ (7302232 : Nat); omega)⟩) hP hD hS hA [0, 1, 2] [3] rfl rfl rfl (by decide) (fun kk u_1 H locs hw hP hD hS => ?_)
    have hP : va_P G.1 vwCl [(mm, .inr (13, [.int (iz (0)), .int (iz (6)), .ref ma, .null, .ref mt, .ref ml, .int (iz (0)), .ref mw, .int (iz (0)), .ref mb, .ref mp, .int (iz (0))])), (ou, zaL (G.2 0) 1 ((fun _ => 0)))] H := hP
    have hD : va_D (zlA s) [(mm, .inr (13, [.int (iz (0)), .int (iz (6)), .ref ma, .null, .ref mt, .ref ml, .int (iz (0)), .ref mw, .int (iz (0)), .ref mb, .ref mp, .int (iz (0))])), (ou, zaL (G.2 0) 1 ((fun _ => 0)))] := hD
    have hw : kk = 2 := hw
    rw [show kk = 2 from hw]
    refine lv_istore (lv' := [(5, .int (iz (2))), (0, .ref b), (1, .ref x), (2, .ref mm), (3, .ref ou), (4, .int (iz (0)))]) hx hb dL_law_2546 hl (by decide) rfl (fun ls hl => ?_)
    refine lv_aload_n hx hb dL_law_2548 rfl (lv_at hl 3 rfl) ?_
    refine lv_aload_n hx hb dL_law_2549 rfl (lv_at hl 1 rfl) ?_
    refine lv_iload hx hb dL_law_2550 (lv_at hl 5 rfl) ?_
    refine lv_iconst (v := iz (1)) hx hb dL_law_2552 rfl ?_
    refine zr_iadd hx hb dL_law_2553 ?_
    refine zr_sld hx hb hX hbl hbA hS 1 (by omega) (by omega) (by omega) dL_law_2554 ?_
    refine zr_i2l hx hb (x := zv xs 1) (⟨by omega, by omega⟩) dL_law_2555 ?_
    refine lv_bipush (v := iz (32)) hx hb dL_law_2556 rfl ?_
    refine zr_lshl32 hx hb dL_law_2558 ?_
    refine lv_aload_n hx hb dL_law_2559 rfl (lv_at hl 1 rfl) ?_
    refine lv_iload hx hb dL_law_2560 (lv_at hl 5 rfl) ?_
    refine lv_iconst (v := iz (2)) hx hb dL_law_2562 rfl ?_
    refine zr_iadd hx hb dL_law_2563 ?_
    refine zr_sld hx hb hX hbl hbA hS 2 (by omega) (by omega) (by omega) dL_law_2564 ?_
    refine zr_i2l hx hb (x := zv xs 2) (⟨by omega, by omega⟩) dL_law_2565 ?_
    refine zr_ldc2 (z := 4294967295) hx hb hown (hts (.constantLong RL 137 (4294967295)) (by decide +kernel)) rfl dL_law_2566 ?_
    refine zr_land32 hx hb dL_law_2569 ?_
    refine zr_lor32 hx hb dL_law_2570 ?_
    refine lv_aload_n hx hb dL_law_2571 rfl (lv_at hl 1 rfl) ?_
    refine lv_iload hx hb dL_law_2572 (lv_at hl 5 rfl) ?_
    refine lv_iconst (v := iz (3)) hx hb dL_law_2574 rfl ?_
    refine zr_iadd hx hb dL_law_2575 ?_
    refine zr_sld hx hb hX hbl hbA hS 3 (by omega) (by omega) (by omega) dL_law_2576 ?_
    refine zc_l (wr := [(ou, zaL (G.2 0) 1 ((fun _ => 0)))]) (va_runV (As := [.long (lz (zlo (zv xs 1) (zv xs 2))), .int (iz (zv xs 3))]) (rest := []) ⟨hx, hb, hml, hown, hts⟩ (c_X12_part_o l G mm ma mt ml mw mb mp 0 (zlo (zv xs 1) (zv xs 2)) (zv xs 3) (by omega) (by omega) (by omega) H.size) (cwV 2 hts gL_law_X12_part rfl rfl rfl (by decide +kernel) ⟨Nat.le_of_ble_eq_true rfl, Nat.le_of_ble_eq_true rfl⟩) (zpV hKX hP hD [0] rfl rfl 0 13 rfl rfl) rfl rfl hl.1 rfl (lv_room (Nat.le_of_ble_eq_true rfl)) dL_law_2577 ⟨(by show _ ≤ (600002 : Nat); omega), (by show _ ≤ (7302232 : Nat); omega)⟩) hP hD hS hA [0] [1] rfl rfl rfl (by decide) (fun zm u_3 H locs hm hP hD hS => ?_)
    generalize u_3 = thm at hP hD hm
    have hP : va_P G.1 vwCl [(ou, zaL (G.2 0) 1 ((fun _ => 0))), (mm, .inr (13, [.int (iz (thm)), .int (iz (6)), .ref ma, .null, .ref mt, .ref ml, .int (iz (0)), .ref mw, .int (iz (0)), .ref mb, .ref mp, .int (iz (0))]))] H := hP
    have hD : va_D (zlA s) [(ou, zaL (G.2 0) 1 ((fun _ => 0))), (mm, .inr (13, [.int (iz (thm)), .int (iz (6)), .ref ma, .null, .ref mt, .ref ml, .int (iz (0)), .ref mw, .int (iz (0)), .ref mb, .ref mp, .int (iz (0))]))] := hD
    have hm : zm = 0 ∧ thm = 2 := hm
    have htp := hm.2
    refine lv_lstore (lv' := [(6, .long (lz (zm))), (5, .int (iz (2))), (0, .ref b), (1, .ref x), (2, .ref mm), (3, .ref ou), (4, .int (iz (0)))]) hx hb dL_law_2580 hl (by decide) rfl (fun ls hl => ?_)
    refine lv_aload_n hx hb dL_law_2582 rfl (lv_at hl 4 rfl) ?_
    refine zc_i (wr := [(ou, zaL (G.2 0) 1 ((fun _ => 0)))]) (va_runV (As := []) (rest := []) ⟨hx, hb, hml, hown, hts⟩ (c_X12_thrown_v l G mm thm (.ref ma) .null (.ref mt) (.ref ml) (.int (iz (0))) (.ref mw) (.int (iz (0))) (.ref mb) (.ref mp) (.int (iz (0))) 6  H.size) (cwV 0 hts gL_law_X12_thrown rfl rfl rfl (by decide +kernel) ⟨Nat.le_of_ble_eq_true rfl, Nat.le_of_ble_eq_true rfl⟩) (zpV hKX hP hD [1] rfl rfl 1 13 rfl rfl) rfl rfl hl.1 rfl (lv_room (Nat.le_of_ble_eq_true rfl)) dL_law_2583 ⟨(by show _ ≤ (600002 : Nat); omega), (by show _ ≤ (7302232 : Nat); omega)⟩) hP hD hS hA [1] [0] rfl rfl rfl (by decide) (fun th9 u_5 H locs hth hP hD hS => ?_)
    have hP : va_P G.1 vwCl [(ou, zaL (G.2 0) 1 ((fun _ => 0))), (mm, .inr (13, [.int (iz (thm)), .int (iz ((6 : Int))), .ref ma, .null, .ref mt, .ref ml, .int (iz (0)), .ref mw, .int (iz (0)), .ref mb, .ref mp, .int (iz (0))]))] H := hP
    have hD : va_D (zlA s) [(ou, zaL (G.2 0) 1 ((fun _ => 0))), (mm, .inr (13, [.int (iz (thm)), .int (iz ((6 : Int))), .ref ma, .null, .ref mt, .ref ml, .int (iz (0)), .ref mw, .int (iz (0)), .ref mb, .ref mp, .int (iz (0))]))] := hD
    have hth : th9 = thm := hth
    rw [show th9 = 2 from hth.trans htp]
    refine lv_iload hx hb dL_law_2586 (lv_at hl 1 rfl) ?_
    refine zr_icmp_eq (x := 2) (y := 2) (tgt := 2593) hx hb (⟨by omega, by omega⟩) (⟨by omega, by omega⟩) dL_law_2588 (by decide) (fun h_7 => ?_) (fun h_7 => ?_)
    ·
      refine lv_iload hx hb dL_law_2593 (lv_at hl 1 rfl) ?_
      refine zr_if_ne (x := 2) (tgt := 2609) hx hb (⟨by omega, by omega⟩) dL_law_2595 (by decide) (fun h_8 => ?_) (fun h_8 => ?_)
      ·
        refine lv_goto (tgt := 3039) hx hb dL_law_2609 (by decide) ?_
        exact zl_end hL8 C0 hS (lv_sub hl [2, 6] rfl) (by show _ ≤ (600002 : Nat); omega) (by show _ ≤ (7302232 : Nat); omega)
      · exact absurd h_8 (by omega)
    · exact absurd h_7 (by omega)
  ·
    refine lv_aload_n hx hb dL_law_2513 rfl (lv_at hl 1 rfl) ?_
    refine lv_aload_n hx hb dL_law_2514 rfl (lv_at hl 0 rfl) ?_
    refine lv_iload hx hb dL_law_2515 (lv_at hl 4 rfl) ?_
    refine lv_iconst (v := iz (1)) hx hb dL_law_2517 rfl ?_
    refine zr_iadd hx hb dL_law_2518 ?_
    refine zr_sld hx hb hX hbl hbA hS 1 (by omega) (by omega) (by omega) dL_law_2519 ?_
    refine zr_i2l hx hb (x := zv xs 1) (⟨by omega, by omega⟩) dL_law_2520 ?_
    refine lv_bipush (v := iz (32)) hx hb dL_law_2521 rfl ?_
    refine zr_lshl32 hx hb dL_law_2523 ?_
    refine lv_aload_n hx hb dL_law_2524 rfl (lv_at hl 0 rfl) ?_
    refine lv_iload hx hb dL_law_2525 (lv_at hl 4 rfl) ?_
    refine lv_iconst (v := iz (2)) hx hb dL_law_2527 rfl ?_
    refine zr_iadd hx hb dL_law_2528 ?_
    refine zr_sld hx hb hX hbl hbA hS 2 (by omega) (by omega) (by omega) dL_law_2529 ?_
    refine zr_i2l hx hb (x := zv xs 2) (⟨by omega, by omega⟩) dL_law_2530 ?_
    refine zr_ldc2 (z := 4294967295) hx hb hown (hts (.constantLong RL 137 (4294967295)) (by decide +kernel)) rfl dL_law_2531 ?_
    refine zr_land32 hx hb dL_law_2534 ?_
    refine zr_lor32 hx hb dL_law_2535 ?_
    refine lv_aload_n hx hb dL_law_2536 rfl (lv_at hl 0 rfl) ?_
    refine lv_iload hx hb dL_law_2537 (lv_at hl 4 rfl) ?_
    refine lv_iconst (v := iz (3)) hx hb dL_law_2539 rfl ?_
    refine zr_iadd hx hb dL_law_2540 ?_
    refine zr_sld hx hb hX hbl hbA hS 3 (by omega) (by omega) (by omega) dL_law_2541 ?_
    refine lv_aload_n hx hb dL_law_2542 rfl (lv_at hl 3 rfl) ?_
    refine zc_i (wr := [(sh, .inr (7, [.ref wt, .int (iz (0))])), (mm, .inr (13, [.int (iz (0)), .int (iz (6)), .ref ma, .null, .ref mt, .ref ml, .int (iz (0)), .ref mw, .int (iz (0)), .ref mb, .ref mp, .int (iz (0))]))]) (vx_runSW (As := [.ref x, .long (lz (zlo (zv xs 1) (zv xs 2))), .int (iz (zv xs 3)), .ref ou]) (rest := []) ⟨hx, hb, hml, hown, hts⟩ (c_L_part_x l G s1 s2 s3 x ro rw bo li sh tx lo nl (zlo (zv xs 1) (zv xs 2)) (zv xs 3) ou (fun _ => 0) hl0 (by omega) (by omega) (by omega) H.size) (vx_cwSW 4 hts gL_law_L_part rfl rfl rfl (by decide +kernel) ⟨Nat.le_of_ble_eq_true rfl, Nat.le_of_ble_eq_true rfl⟩) (zpSe zXL_ok hEc hS hA hKX hP hD [0, 2] rfl rfl) rfl rfl hl.1 rfl (lv_room (Nat.le_of_ble_eq_true rfl)) dL_law_2543 ⟨(by show _ ≤ (600002 : Nat); omega), (by show _ ≤ (7302232 : Nat); omega)⟩) hP hD hS hA [0, 2] [1, 3] rfl rfl rfl (by decide) (fun kk u_9 H locs hw hP hD hS => ?_)
    have hP : va_P G.1 vwCl [(sh, .inr (7, [.ref wt, .int (iz (0))])), (mm, .inr (13, [.int (iz (0)), .int (iz (6)), .ref ma, .null, .ref mt, .ref ml, .int (iz (0)), .ref mw, .int (iz (0)), .ref mb, .ref mp, .int (iz (0))])), (ou, zaL (G.2 0) 1 ((fun _ => 0)))] H := hP
    have hD : va_D (zlA s) [(sh, .inr (7, [.ref wt, .int (iz (0))])), (mm, .inr (13, [.int (iz (0)), .int (iz (6)), .ref ma, .null, .ref mt, .ref ml, .int (iz (0)), .ref mw, .int (iz (0)), .ref mb, .ref mp, .int (iz (0))])), (ou, zaL (G.2 0) 1 ((fun _ => 0)))] := hD
    have hw : kk = 1 := hw
    rw [show kk = 1 from hw]
    refine lv_istore (lv' := [(5, .int (iz (1))), (0, .ref b), (1, .ref x), (2, .ref mm), (3, .ref ou), (4, .int (iz (0)))]) hx hb dL_law_2546 hl (by decide) rfl (fun ls hl => ?_)
    refine lv_aload_n hx hb dL_law_2548 rfl (lv_at hl 3 rfl) ?_
    refine lv_aload_n hx hb dL_law_2549 rfl (lv_at hl 1 rfl) ?_
    refine lv_iload hx hb dL_law_2550 (lv_at hl 5 rfl) ?_
    refine lv_iconst (v := iz (1)) hx hb dL_law_2552 rfl ?_
    refine zr_iadd hx hb dL_law_2553 ?_
    refine zr_sld hx hb hX hbl hbA hS 1 (by omega) (by omega) (by omega) dL_law_2554 ?_
    refine zr_i2l hx hb (x := zv xs 1) (⟨by omega, by omega⟩) dL_law_2555 ?_
    refine lv_bipush (v := iz (32)) hx hb dL_law_2556 rfl ?_
    refine zr_lshl32 hx hb dL_law_2558 ?_
    refine lv_aload_n hx hb dL_law_2559 rfl (lv_at hl 1 rfl) ?_
    refine lv_iload hx hb dL_law_2560 (lv_at hl 5 rfl) ?_
    refine lv_iconst (v := iz (2)) hx hb dL_law_2562 rfl ?_
    refine zr_iadd hx hb dL_law_2563 ?_
    refine zr_sld hx hb hX hbl hbA hS 2 (by omega) (by omega) (by omega) dL_law_2564 ?_
    refine zr_i2l hx hb (x := zv xs 2) (⟨by omega, by omega⟩) dL_law_2565 ?_
    refine zr_ldc2 (z := 4294967295) hx hb hown (hts (.constantLong RL 137 (4294967295)) (by decide +kernel)) rfl dL_law_2566 ?_
    refine zr_land32 hx hb dL_law_2569 ?_
    refine zr_lor32 hx hb dL_law_2570 ?_
    refine lv_aload_n hx hb dL_law_2571 rfl (lv_at hl 1 rfl) ?_
    refine lv_iload hx hb dL_law_2572 (lv_at hl 5 rfl) ?_
    refine lv_iconst (v := iz (3)) hx hb dL_law_2574 rfl ?_
    refine zr_iadd hx hb dL_law_2575 ?_
    refine zr_sld hx hb hX hbl hbA hS 3 (by omega) (by omega) (by omega) dL_law_2576 ?_
    refine zc_l (wr := [(sh, .inr (7, [.ref wt, .int (iz (0))])), (ou, zaL (G.2 0) 1 ((fun _ => 0)))]) (va_runV (As := [.long (lz (zlo (zv xs 1) (zv xs 2))), .int (iz (zv xs 3))]) (rest := []) ⟨hx, hb, hml, hown, hts⟩ (c_X12_part_x l G mm ma mt ml mw mb mp 0 (zlo (zv xs 1) (zv xs 2)) (zv xs 3) (by omega) (by omega) (by omega) H.size) (cwV 2 hts gL_law_X12_part rfl rfl rfl (by decide +kernel) ⟨Nat.le_of_ble_eq_true rfl, Nat.le_of_ble_eq_true rfl⟩) (zpV hKX hP hD [1] rfl rfl 1 13 rfl rfl) rfl rfl hl.1 rfl (lv_room (Nat.le_of_ble_eq_true rfl)) dL_law_2577 ⟨(by show _ ≤ (600002 : Nat); omega), (by show _ ≤ (7302232 : Nat); omega)⟩) hP hD hS hA [1] [0, 2] rfl rfl rfl (by decide) (fun zm u_11 H locs hm hP hD hS => ?_)
    generalize u_11 = thm at hP hD hm
    have hP : va_P G.1 vwCl [(sh, .inr (7, [.ref wt, .int (iz (0))])), (ou, zaL (G.2 0) 1 ((fun _ => 0))), (mm, .inr (13, [.int (iz (thm)), .int (iz (6)), .ref ma, .null, .ref mt, .ref ml, .int (iz (0)), .ref mw, .int (iz (0)), .ref mb, .ref mp, .int (iz (0))]))] H := hP
    have hD : va_D (zlA s) [(sh, .inr (7, [.ref wt, .int (iz (0))])), (ou, zaL (G.2 0) 1 ((fun _ => 0))), (mm, .inr (13, [.int (iz (thm)), .int (iz (6)), .ref ma, .null, .ref mt, .ref ml, .int (iz (0)), .ref mw, .int (iz (0)), .ref mb, .ref mp, .int (iz (0))]))] := hD
    have hm : zm = 0 ∧ thm = 1 := hm
    have htp := hm.2
    refine lv_lstore (lv' := [(6, .long (lz (zm))), (5, .int (iz (1))), (0, .ref b), (1, .ref x), (2, .ref mm), (3, .ref ou), (4, .int (iz (0)))]) hx hb dL_law_2580 hl (by decide) rfl (fun ls hl => ?_)
    refine lv_aload_n hx hb dL_law_2582 rfl (lv_at hl 4 rfl) ?_
    refine zc_i (wr := [(sh, .inr (7, [.ref wt, .int (iz (0))])), (ou, zaL (G.2 0) 1 ((fun _ => 0)))]) (va_runV (As := []) (rest := []) ⟨hx, hb, hml, hown, hts⟩ (c_X12_thrown_v l G mm thm (.ref ma) .null (.ref mt) (.ref ml) (.int (iz (0))) (.ref mw) (.int (iz (0))) (.ref mb) (.ref mp) (.int (iz (0))) 6  H.size) (cwV 0 hts gL_law_X12_thrown rfl rfl rfl (by decide +kernel) ⟨Nat.le_of_ble_eq_true rfl, Nat.le_of_ble_eq_true rfl⟩) (zpV hKX hP hD [2] rfl rfl 2 13 rfl rfl) rfl rfl hl.1 rfl (lv_room (Nat.le_of_ble_eq_true rfl)) dL_law_2583 ⟨(by show _ ≤ (600002 : Nat); omega), (by show _ ≤ (7302232 : Nat); omega)⟩) hP hD hS hA [2] [0, 1] rfl rfl rfl (by decide) (fun th9 u_13 H locs hth hP hD hS => ?_)
    have hP : va_P G.1 vwCl [(sh, .inr (7, [.ref wt, .int (iz (0))])), (ou, zaL (G.2 0) 1 ((fun _ => 0))), (mm, .inr (13, [.int (iz (thm)), .int (iz ((6 : Int))), .ref ma, .null, .ref mt, .ref ml, .int (iz (0)), .ref mw, .int (iz (0)), .ref mb, .ref mp, .int (iz (0))]))] H := hP
    have hD : va_D (zlA s) [(sh, .inr (7, [.ref wt, .int (iz (0))])), (ou, zaL (G.2 0) 1 ((fun _ => 0))), (mm, .inr (13, [.int (iz (thm)), .int (iz ((6 : Int))), .ref ma, .null, .ref mt, .ref ml, .int (iz (0)), .ref mw, .int (iz (0)), .ref mb, .ref mp, .int (iz (0))]))] := hD
    have hth : th9 = thm := hth
    rw [show th9 = 1 from hth.trans htp]
    refine lv_iload hx hb dL_law_2586 (lv_at hl 1 rfl) ?_
    refine zr_icmp_eq (x := 1) (y := 1) (tgt := 2593) hx hb (⟨by omega, by omega⟩) (⟨by omega, by omega⟩) dL_law_2588 (by decide) (fun h_15 => ?_) (fun h_15 => ?_)
    ·
      refine lv_iload hx hb dL_law_2593 (lv_at hl 1 rfl) ?_
      refine zr_if_ne (x := 1) (tgt := 2609) hx hb (⟨by omega, by omega⟩) dL_law_2595 (by decide) (fun h_16 => ?_) (fun h_16 => ?_)
      ·
        refine lv_goto (tgt := 3039) hx hb dL_law_2609 (by decide) ?_
        exact zl_end hL8 C0 hS (lv_sub hl [2, 6] rfl) (by show _ ≤ (600002 : Nat); omega) (by show _ ≤ (7302232 : Nat); omega)
      · exact absurd h_16 (by omega)
    · exact absurd h_15 (by omega)

set_option maxHeartbeats 4000000 in
set_option maxRecDepth 100000 in
theorem zl_30 {p : Program} {e : Env} {s : State} {m : MethodId} {below : List Frame} {meth : Method} {c : Code} {l : Launch} (hl0 : l.stackTraces = false) {b L : Nat} {xs : Nat → Int32} (hL8 : L = 8) (C0 : lw_At p s m meth c b L xs) {G : zG} {nA nB nE s1 s2 s3 : Nat} (hKX : zK G s) (hEm : zE G nA nB nE (zlA s) s) (hEc : zXL s1 s2 s3 (zlA s) s) (x : Nat) (ro : Nat) (rw : Nat) (bo : Nat) (li : Nat) (sh : Nat) (tx : Nat) (lo : Nat) (nl : Nat) (fm : Nat) (pm : Nat) (ou : Nat) (mm : Nat) (ma : Nat) (mt : Nat) (ml : Nat) (mw : Nat) (mb : Nat) (mp : Nat) {H : Heap} {locs : List Loc} {ls : Array Slot} (hP : va_P G.1 vwCl [(x, .inr (10, [.ref ro, .ref rw, .ref bo, .ref li, .ref sh, .ref tx, .ref lo, .ref nl])), (tx, .inr (8, [.ref fm, .ref pm, .int (iz (0))])), (fm, zaL (G.2 0) 8 (fun _ => 0)), (pm, zaI (G.2 1) 8 (fun _ => 0)), (ou, zaL (G.2 0) 1 (fun _ => 0)), (mm, .inr (13, [.int (iz (0)), .int (iz (6)), .ref ma, .null, .ref mt, .ref ml, .int (iz (0)), .ref mw, .int (iz (0)), .ref mb, .ref mp, .int (iz (0))])), (mb, zaL (G.2 0) 8 (fun _ => 0)), (mp, zaI (G.2 1) 8 (fun _ => 0))] H) (hD : va_D (zlA s) [(x, .inr (10, [.ref ro, .ref rw, .ref bo, .ref li, .ref sh, .ref tx, .ref lo, .ref nl])), (tx, .inr (8, [.ref fm, .ref pm, .int (iz (0))])), (fm, zaL (G.2 0) 8 (fun _ => 0)), (pm, zaI (G.2 1) 8 (fun _ => 0)), (ou, zaL (G.2 0) 1 (fun _ => 0)), (mm, .inr (13, [.int (iz (0)), .int (iz (6)), .ref ma, .null, .ref mt, .ref ml, .int (iz (0)), .ref mw, .int (iz (0)), .ref mb, .ref mp, .int (iz (0))])), (mb, zaL (G.2 0) 8 (fun _ => 0)), (mp, zaI (G.2 1) 8 (fun _ => 0))]) (hS : va_S (zlA s) s.heap H locs) (hl : lv_has ls 9 [(0, .ref b), (1, .ref x), (2, .ref mm), (3, .ref ou), (4, .int (iz (0)))]) : W p l e room_1 s m #[Value.ref b] below meth c H locs 200 4000 (lw_Z below #[Value.ref b] s) (F0 m 2612 ls []) := by
  obtain ⟨hx, hb, hr, hml, hown, hts, hX, hbl, hlocks, hgv⟩ := id C0
  have hbA : ¬ zlA s b := Nat.not_le.mpr hbl
  have hK := hKX.1
  have hts : ∀ w ∈ wsL_law, w.before #[Value.ref b] s = true := fun w h => hts w (wsL_law_in w h)
  have hown : s.vm.findClass RL = some m.cls := hown
  have hA : ∀ q : Nat, s.heap.size ≤ q → zlA s q := fun _ h => h
  have hE := hEm
  have hv1 := zv_rng xs 1
  have hv2 := zv_rng xs 2
  have hv3 := zv_rng xs 3
  have hv4 := zv_rng xs 4
  have hv5 := zv_rng xs 5
  have hv6 := zv_rng xs 6
  have hv7 := zv_rng xs 7
  have hw1 := zlo_rng (zv xs 1) (zv xs 2)
  by_cases hco0 : 0 ≤ (zlo (zv xs 1) (zv xs 2)) ∧ (zlo (zv xs 1) (zv xs 2)) ≤ 1000000000 ∧ 0 ≤ (zv xs 3) ∧ (zv xs 3) ≤ 1000
  ·
    refine lv_aload_n hx hb dL_law_2612 rfl (lv_at hl 1 rfl) ?_
    refine lv_aload_n hx hb dL_law_2613 rfl (lv_at hl 0 rfl) ?_
    refine lv_iload hx hb dL_law_2614 (lv_at hl 4 rfl) ?_
    refine lv_iconst (v := iz (1)) hx hb dL_law_2616 rfl ?_
    refine zr_iadd hx hb dL_law_2617 ?_
    refine zr_sld hx hb hX hbl hbA hS 1 (by omega) (by omega) (by omega) dL_law_2618 ?_
    refine zr_i2l hx hb (x := zv xs 1) (⟨by omega, by omega⟩) dL_law_2619 ?_
    refine lv_bipush (v := iz (32)) hx hb dL_law_2620 rfl ?_
    refine zr_lshl32 hx hb dL_law_2622 ?_
    refine lv_aload_n hx hb dL_law_2623 rfl (lv_at hl 0 rfl) ?_
    refine lv_iload hx hb dL_law_2624 (lv_at hl 4 rfl) ?_
    refine lv_iconst (v := iz (2)) hx hb dL_law_2626 rfl ?_
    refine zr_iadd hx hb dL_law_2627 ?_
    refine zr_sld hx hb hX hbl hbA hS 2 (by omega) (by omega) (by omega) dL_law_2628 ?_
    refine zr_i2l hx hb (x := zv xs 2) (⟨by omega, by omega⟩) dL_law_2629 ?_
    refine zr_ldc2 (z := 4294967295) hx hb hown (hts (.constantLong RL 137 (4294967295)) (by decide +kernel)) rfl dL_law_2630 ?_
    refine zr_land32 hx hb dL_law_2633 ?_
    refine zr_lor32 hx hb dL_law_2634 ?_
    refine lv_aload_n hx hb dL_law_2635 rfl (lv_at hl 0 rfl) ?_
    refine lv_iload hx hb dL_law_2636 (lv_at hl 4 rfl) ?_
    refine lv_iconst (v := iz (3)) hx hb dL_law_2638 rfl ?_
    refine zr_iadd hx hb dL_law_2639 ?_
    refine zr_sld hx hb hX hbl hbA hS 3 (by omega) (by omega) (by omega) dL_law_2640 ?_
    refine lv_aload_n hx hb dL_law_2641 rfl (lv_at hl 3 rfl) ?_
    refine zc_i (wr := [(mm, .inr (13, [.int (iz (0)), .int (iz (6)), .ref ma, .null, .ref mt, .ref ml, .int (iz (0)), .ref mw, .int (iz (0)), .ref mb, .ref mp, .int (iz (0))])), (mb, zaL (G.2 0) 8 (fun _ => 0)), (mp, zaI (G.2 1) 8 (fun _ => 0))]) (vx_runSW (As := [.ref x, .long (lz (zlo (zv xs 1) (zv xs 2))), .int (iz (zv xs 3)), .ref ou]) (rest := []) ⟨hx, hb, hml, hown, hts⟩ (c_L_step_o l G x ro rw bo li sh tx lo nl fm pm (zlo (zv xs 1) (zv xs 2)) (zv xs 3) ou (fun _ => 0) (by omega) (by omega) (by omega) H.size) (vx_cwSW 4 hts gL_law_L_step rfl rfl rfl (by decide +kernel) ⟨Nat.le_of_ble_eq_true rfl, Nat.le_of_ble_eq_true rfl⟩) (zpS hKX hP hD [0, 1, 2, 3, 4] rfl rfl) rfl rfl hl.1 rfl (lv_room (Nat.le_of_ble_eq_true rfl)) dL_law_2642 ⟨(by show _ ≤ (600002 : Nat); omega), (by show _ ≤ (7302232 : Nat); omega)⟩) hP hD hS hA [0, 1, 2, 3, 4] [5, 6, 7] rfl rfl rfl (by decide) (fun kk u_1 H locs hw hP hD hS => ?_)
    generalize u_1 = fz at hP hD hw
    have hP : va_P G.1 vwCl [(mm, .inr (13, [.int (iz (0)), .int (iz (6)), .ref ma, .null, .ref mt, .ref ml, .int (iz (0)), .ref mw, .int (iz (0)), .ref mb, .ref mp, .int (iz (0))])), (mb, zaL (G.2 0) 8 (fun _ => 0)), (mp, zaI (G.2 1) 8 (fun _ => 0)), (ou, zaL (G.2 0) 1 (fz))] H := hP
    have hD : va_D (zlA s) [(mm, .inr (13, [.int (iz (0)), .int (iz (6)), .ref ma, .null, .ref mt, .ref ml, .int (iz (0)), .ref mw, .int (iz (0)), .ref mb, .ref mp, .int (iz (0))])), (mb, zaL (G.2 0) 8 (fun _ => 0)), (mp, zaI (G.2 1) 8 (fun _ => 0)), (ou, zaL (G.2 0) 1 (fz))] := hD
    have hw : kk = 0 ∧ (fz 0) = 1 := hw
    rw [show kk = 0 from hw.1]
    refine lv_istore (lv' := [(5, .int (iz (0))), (0, .ref b), (1, .ref x), (2, .ref mm), (3, .ref ou), (4, .int (iz (0)))]) hx hb dL_law_2645 hl (by decide) rfl (fun ls hl => ?_)
    refine lv_aload_n hx hb dL_law_2647 rfl (lv_at hl 3 rfl) ?_
    refine lv_aload_n hx hb dL_law_2648 rfl (lv_at hl 1 rfl) ?_
    refine lv_iload hx hb dL_law_2649 (lv_at hl 5 rfl) ?_
    refine lv_iconst (v := iz (1)) hx hb dL_law_2651 rfl ?_
    refine zr_iadd hx hb dL_law_2652 ?_
    refine zr_sld hx hb hX hbl hbA hS 1 (by omega) (by omega) (by omega) dL_law_2653 ?_
    refine zr_i2l hx hb (x := zv xs 1) (⟨by omega, by omega⟩) dL_law_2654 ?_
    refine lv_bipush (v := iz (32)) hx hb dL_law_2655 rfl ?_
    refine zr_lshl32 hx hb dL_law_2657 ?_
    refine lv_aload_n hx hb dL_law_2658 rfl (lv_at hl 1 rfl) ?_
    refine lv_iload hx hb dL_law_2659 (lv_at hl 5 rfl) ?_
    refine lv_iconst (v := iz (2)) hx hb dL_law_2661 rfl ?_
    refine zr_iadd hx hb dL_law_2662 ?_
    refine zr_sld hx hb hX hbl hbA hS 2 (by omega) (by omega) (by omega) dL_law_2663 ?_
    refine zr_i2l hx hb (x := zv xs 2) (⟨by omega, by omega⟩) dL_law_2664 ?_
    refine zr_ldc2 (z := 4294967295) hx hb hown (hts (.constantLong RL 137 (4294967295)) (by decide +kernel)) rfl dL_law_2665 ?_
    refine zr_land32 hx hb dL_law_2668 ?_
    refine zr_lor32 hx hb dL_law_2669 ?_
    refine lv_aload_n hx hb dL_law_2670 rfl (lv_at hl 1 rfl) ?_
    refine lv_iload hx hb dL_law_2671 (lv_at hl 5 rfl) ?_
    refine lv_iconst (v := iz (3)) hx hb dL_law_2673 rfl ?_
    refine zr_iadd hx hb dL_law_2674 ?_
    refine zr_sld hx hb hX hbl hbA hS 3 (by omega) (by omega) (by omega) dL_law_2675 ?_
    refine zc_i (wr := [(ou, zaL (G.2 0) 1 (fz))]) (va_runV (As := [.long (lz (zlo (zv xs 1) (zv xs 2))), .int (iz (zv xs 3))]) (rest := []) ⟨hx, hb, hml, hown, hts⟩ (c_X12_step_o l G mm ma mt ml mw mb mp 0 (zlo (zv xs 1) (zv xs 2)) (zv xs 3) (by omega) (by omega) (by omega) H.size) (cwV 2 hts gL_law_X12_step rfl rfl rfl (by decide +kernel) ⟨Nat.le_of_ble_eq_true rfl, Nat.le_of_ble_eq_true rfl⟩) (zpV hKX hP hD [0, 1, 2] rfl rfl 0 13 rfl rfl) rfl rfl hl.1 rfl (lv_room (Nat.le_of_ble_eq_true rfl)) dL_law_2676 ⟨(by show _ ≤ (600002 : Nat); omega), (by show _ ≤ (7302232 : Nat); omega)⟩) hP hD hS hA [0, 1, 2] [3] rfl rfl rfl (by decide) (fun zm u_3 H locs hm hP hD hS => ?_)
    generalize u_3 = thm at hP hD hm
    have hP : va_P G.1 vwCl [(ou, zaL (G.2 0) 1 (fz)), (mm, .inr (13, [.int (iz (thm)), .int (iz (6)), .ref ma, .null, .ref mt, .ref ml, .int (iz (0)), .ref mw, .int (iz (0)), .ref mb, .ref mp, .int (iz (0 + 1))]))] H := hP
    have hD : va_D (zlA s) [(ou, zaL (G.2 0) 1 (fz)), (mm, .inr (13, [.int (iz (thm)), .int (iz (6)), .ref ma, .null, .ref mt, .ref ml, .int (iz (0)), .ref mw, .int (iz (0)), .ref mb, .ref mp, .int (iz (0 + 1))]))] := hD
    have hm : zm = 1 ∧ thm = 0 := hm
    have htp := hm.2
    have hval := hw.2.trans hm.1.symm
    refine lv_istore (lv' := [(6, .int (iz (zm))), (5, .int (iz (0))), (0, .ref b), (1, .ref x), (2, .ref mm), (3, .ref ou), (4, .int (iz (0)))]) hx hb dL_law_2679 hl (by decide) rfl (fun ls hl => ?_)
    refine lv_aload_n hx hb dL_law_2681 rfl (lv_at hl 4 rfl) ?_
    refine zc_i (wr := [(ou, zaL (G.2 0) 1 (fz))]) (va_runV (As := []) (rest := []) ⟨hx, hb, hml, hown, hts⟩ (c_X12_thrown_v l G mm thm (.ref ma) .null (.ref mt) (.ref ml) (.int (iz (0))) (.ref mw) (.int (iz (0))) (.ref mb) (.ref mp) (.int (iz (0 + 1))) 6  H.size) (cwV 0 hts gL_law_X12_thrown rfl rfl rfl (by decide +kernel) ⟨Nat.le_of_ble_eq_true rfl, Nat.le_of_ble_eq_true rfl⟩) (zpV hKX hP hD [1] rfl rfl 1 13 rfl rfl) rfl rfl hl.1 rfl (lv_room (Nat.le_of_ble_eq_true rfl)) dL_law_2682 ⟨(by show _ ≤ (600002 : Nat); omega), (by show _ ≤ (7302232 : Nat); omega)⟩) hP hD hS hA [1] [0] rfl rfl rfl (by decide) (fun th9 u_5 H locs hth hP hD hS => ?_)
    have hP : va_P G.1 vwCl [(ou, zaL (G.2 0) 1 (fz)), (mm, .inr (13, [.int (iz (thm)), .int (iz ((6 : Int))), .ref ma, .null, .ref mt, .ref ml, .int (iz (0)), .ref mw, .int (iz (0)), .ref mb, .ref mp, .int (iz (0 + 1))]))] H := hP
    have hD : va_D (zlA s) [(ou, zaL (G.2 0) 1 (fz)), (mm, .inr (13, [.int (iz (thm)), .int (iz ((6 : Int))), .ref ma, .null, .ref mt, .ref ml, .int (iz (0)), .ref mw, .int (iz (0)), .ref mb, .ref mp, .int (iz (0 + 1))]))] := hD
    have hth : th9 = thm := hth
    rw [show th9 = 0 from hth.trans htp]
    refine lv_iload hx hb dL_law_2685 (lv_at hl 1 rfl) ?_
    refine zr_icmp_eq (x := 0) (y := 0) (tgt := 2692) hx hb (⟨by omega, by omega⟩) (⟨by omega, by omega⟩) dL_law_2687 (by decide) (fun h_7 => ?_) (fun h_7 => ?_)
    ·
      refine lv_iload hx hb dL_law_2692 (lv_at hl 1 rfl) ?_
      refine zr_if_ne (x := 0) (tgt := 2709) hx hb (⟨by omega, by omega⟩) dL_law_2694 (by decide) (fun h_8 => ?_) (fun h_8 => ?_)
      · exact absurd h_8 (by omega)
      ·
        refine lv_aload_n hx hb dL_law_2697 rfl (lv_at hl 5 rfl) ?_
        refine lv_iconst (v := iz (0)) hx hb dL_law_2698 rfl ?_
        refine zr_lald hx hb hK hP 0 0 rfl rfl (i := 0) (⟨by omega, by omega, by omega⟩) dL_law_2699 ?_
        refine lv_iload hx hb dL_law_2700 (lv_at hl 0 rfl) ?_
        refine zr_i2l hx hb (x := zm) (⟨by omega, by omega⟩) dL_law_2702 ?_
        refine zr_lcmpS (x := fz 0) (y := zm) (tgt := 2709) hx hb (by first | exact hval | exact hval.symm) dL_law_2703 dL_law_2704 (by decide) ?_
        refine lv_goto (tgt := 3039) hx hb dL_law_2709 (by decide) ?_
        exact zl_end hL8 C0 hS (lv_sub hl [2, 6] rfl) (by show _ ≤ (600002 : Nat); omega) (by show _ ≤ (7302232 : Nat); omega)
    · exact absurd h_7 (by omega)
  ·
    refine lv_aload_n hx hb dL_law_2612 rfl (lv_at hl 1 rfl) ?_
    refine lv_aload_n hx hb dL_law_2613 rfl (lv_at hl 0 rfl) ?_
    refine lv_iload hx hb dL_law_2614 (lv_at hl 4 rfl) ?_
    refine lv_iconst (v := iz (1)) hx hb dL_law_2616 rfl ?_
    refine zr_iadd hx hb dL_law_2617 ?_
    refine zr_sld hx hb hX hbl hbA hS 1 (by omega) (by omega) (by omega) dL_law_2618 ?_
    refine zr_i2l hx hb (x := zv xs 1) (⟨by omega, by omega⟩) dL_law_2619 ?_
    refine lv_bipush (v := iz (32)) hx hb dL_law_2620 rfl ?_
    refine zr_lshl32 hx hb dL_law_2622 ?_
    refine lv_aload_n hx hb dL_law_2623 rfl (lv_at hl 0 rfl) ?_
    refine lv_iload hx hb dL_law_2624 (lv_at hl 4 rfl) ?_
    refine lv_iconst (v := iz (2)) hx hb dL_law_2626 rfl ?_
    refine zr_iadd hx hb dL_law_2627 ?_
    refine zr_sld hx hb hX hbl hbA hS 2 (by omega) (by omega) (by omega) dL_law_2628 ?_
    refine zr_i2l hx hb (x := zv xs 2) (⟨by omega, by omega⟩) dL_law_2629 ?_
    refine zr_ldc2 (z := 4294967295) hx hb hown (hts (.constantLong RL 137 (4294967295)) (by decide +kernel)) rfl dL_law_2630 ?_
    refine zr_land32 hx hb dL_law_2633 ?_
    refine zr_lor32 hx hb dL_law_2634 ?_
    refine lv_aload_n hx hb dL_law_2635 rfl (lv_at hl 0 rfl) ?_
    refine lv_iload hx hb dL_law_2636 (lv_at hl 4 rfl) ?_
    refine lv_iconst (v := iz (3)) hx hb dL_law_2638 rfl ?_
    refine zr_iadd hx hb dL_law_2639 ?_
    refine zr_sld hx hb hX hbl hbA hS 3 (by omega) (by omega) (by omega) dL_law_2640 ?_
    refine lv_aload_n hx hb dL_law_2641 rfl (lv_at hl 3 rfl) ?_
    refine zc_i (wr := [(fm, zaL (G.2 0) 8 (fun _ => 0)), (pm, zaI (G.2 1) 8 (fun _ => 0)), (mm, .inr (13, [.int (iz (0)), .int (iz (6)), .ref ma, .null, .ref mt, .ref ml, .int (iz (0)), .ref mw, .int (iz (0)), .ref mb, .ref mp, .int (iz (0))])), (mb, zaL (G.2 0) 8 (fun _ => 0)), (mp, zaI (G.2 1) 8 (fun _ => 0))]) (vx_runSW (As := [.ref x, .long (lz (zlo (zv xs 1) (zv xs 2))), .int (iz (zv xs 3)), .ref ou]) (rest := []) ⟨hx, hb, hml, hown, hts⟩ (c_L_step_x l G s1 s2 s3 x ro rw bo li sh tx lo nl fm pm (zlo (zv xs 1) (zv xs 2)) (zv xs 3) ou (fun _ => 0) hl0 (by omega) (by omega) (by omega) H.size) (vx_cwSW 4 hts gL_law_L_step rfl rfl rfl (by decide +kernel) ⟨Nat.le_of_ble_eq_true rfl, Nat.le_of_ble_eq_true rfl⟩) (zpSe zXL_ok hEc hS hA hKX hP hD [0, 1, 4] rfl rfl) rfl rfl hl.1 rfl (lv_room (Nat.le_of_ble_eq_true rfl)) dL_law_2642 ⟨(by show _ ≤ (600002 : Nat); omega), (by show _ ≤ (7302232 : Nat); omega)⟩) hP hD hS hA [0, 1, 4] [2, 3, 5, 6, 7] rfl rfl rfl (by decide) (fun kk u_9 H locs hw hP hD hS => ?_)
    have hP : va_P G.1 vwCl [(fm, zaL (G.2 0) 8 (fun _ => 0)), (pm, zaI (G.2 1) 8 (fun _ => 0)), (mm, .inr (13, [.int (iz (0)), .int (iz (6)), .ref ma, .null, .ref mt, .ref ml, .int (iz (0)), .ref mw, .int (iz (0)), .ref mb, .ref mp, .int (iz (0))])), (mb, zaL (G.2 0) 8 (fun _ => 0)), (mp, zaI (G.2 1) 8 (fun _ => 0)), (ou, zaL (G.2 0) 1 ((fun _ => 0)))] H := hP
    have hD : va_D (zlA s) [(fm, zaL (G.2 0) 8 (fun _ => 0)), (pm, zaI (G.2 1) 8 (fun _ => 0)), (mm, .inr (13, [.int (iz (0)), .int (iz (6)), .ref ma, .null, .ref mt, .ref ml, .int (iz (0)), .ref mw, .int (iz (0)), .ref mb, .ref mp, .int (iz (0))])), (mb, zaL (G.2 0) 8 (fun _ => 0)), (mp, zaI (G.2 1) 8 (fun _ => 0)), (ou, zaL (G.2 0) 1 ((fun _ => 0)))] := hD
    have hw : kk = 1 := hw
    rw [show kk = 1 from hw]
    refine lv_istore (lv' := [(5, .int (iz (1))), (0, .ref b), (1, .ref x), (2, .ref mm), (3, .ref ou), (4, .int (iz (0)))]) hx hb dL_law_2645 hl (by decide) rfl (fun ls hl => ?_)
    refine lv_aload_n hx hb dL_law_2647 rfl (lv_at hl 3 rfl) ?_
    refine lv_aload_n hx hb dL_law_2648 rfl (lv_at hl 1 rfl) ?_
    refine lv_iload hx hb dL_law_2649 (lv_at hl 5 rfl) ?_
    refine lv_iconst (v := iz (1)) hx hb dL_law_2651 rfl ?_
    refine zr_iadd hx hb dL_law_2652 ?_
    refine zr_sld hx hb hX hbl hbA hS 1 (by omega) (by omega) (by omega) dL_law_2653 ?_
    refine zr_i2l hx hb (x := zv xs 1) (⟨by omega, by omega⟩) dL_law_2654 ?_
    refine lv_bipush (v := iz (32)) hx hb dL_law_2655 rfl ?_
    refine zr_lshl32 hx hb dL_law_2657 ?_
    refine lv_aload_n hx hb dL_law_2658 rfl (lv_at hl 1 rfl) ?_
    refine lv_iload hx hb dL_law_2659 (lv_at hl 5 rfl) ?_
    refine lv_iconst (v := iz (2)) hx hb dL_law_2661 rfl ?_
    refine zr_iadd hx hb dL_law_2662 ?_
    refine zr_sld hx hb hX hbl hbA hS 2 (by omega) (by omega) (by omega) dL_law_2663 ?_
    refine zr_i2l hx hb (x := zv xs 2) (⟨by omega, by omega⟩) dL_law_2664 ?_
    refine zr_ldc2 (z := 4294967295) hx hb hown (hts (.constantLong RL 137 (4294967295)) (by decide +kernel)) rfl dL_law_2665 ?_
    refine zr_land32 hx hb dL_law_2668 ?_
    refine zr_lor32 hx hb dL_law_2669 ?_
    refine lv_aload_n hx hb dL_law_2670 rfl (lv_at hl 1 rfl) ?_
    refine lv_iload hx hb dL_law_2671 (lv_at hl 5 rfl) ?_
    refine lv_iconst (v := iz (3)) hx hb dL_law_2673 rfl ?_
    refine zr_iadd hx hb dL_law_2674 ?_
    refine zr_sld hx hb hX hbl hbA hS 3 (by omega) (by omega) (by omega) dL_law_2675 ?_
    refine zc_i (wr := [(fm, zaL (G.2 0) 8 (fun _ => 0)), (pm, zaI (G.2 1) 8 (fun _ => 0)), (ou, zaL (G.2 0) 1 ((fun _ => 0)))]) (va_runV (As := [.long (lz (zlo (zv xs 1) (zv xs 2))), .int (iz (zv xs 3))]) (rest := []) ⟨hx, hb, hml, hown, hts⟩ (c_X12_step_x l G mm ma mt ml mw mb mp 0 (zlo (zv xs 1) (zv xs 2)) (zv xs 3) (by omega) (by omega) (by omega) H.size) (cwV 2 hts gL_law_X12_step rfl rfl rfl (by decide +kernel) ⟨Nat.le_of_ble_eq_true rfl, Nat.le_of_ble_eq_true rfl⟩) (zpV hKX hP hD [2, 3, 4] rfl rfl 2 13 rfl rfl) rfl rfl hl.1 rfl (lv_room (Nat.le_of_ble_eq_true rfl)) dL_law_2676 ⟨(by show _ ≤ (600002 : Nat); omega), (by show _ ≤ (7302232 : Nat); omega)⟩) hP hD hS hA [2, 3, 4] [0, 1, 5] rfl rfl rfl (by decide) (fun zm u_11 H locs hm hP hD hS => ?_)
    generalize u_11 = thm at hP hD hm
    have hP : va_P G.1 vwCl [(fm, zaL (G.2 0) 8 (fun _ => 0)), (pm, zaI (G.2 1) 8 (fun _ => 0)), (ou, zaL (G.2 0) 1 ((fun _ => 0))), (mm, .inr (13, [.int (iz (thm)), .int (iz (6)), .ref ma, .null, .ref mt, .ref ml, .int (iz (0)), .ref mw, .int (iz (0)), .ref mb, .ref mp, .int (iz (0))]))] H := hP
    have hD : va_D (zlA s) [(fm, zaL (G.2 0) 8 (fun _ => 0)), (pm, zaI (G.2 1) 8 (fun _ => 0)), (ou, zaL (G.2 0) 1 ((fun _ => 0))), (mm, .inr (13, [.int (iz (thm)), .int (iz (6)), .ref ma, .null, .ref mt, .ref ml, .int (iz (0)), .ref mw, .int (iz (0)), .ref mb, .ref mp, .int (iz (0))]))] := hD
    have hm : zm = 0 ∧ thm = 1 := hm
    have htp := hm.2
    refine lv_istore (lv' := [(6, .int (iz (zm))), (5, .int (iz (1))), (0, .ref b), (1, .ref x), (2, .ref mm), (3, .ref ou), (4, .int (iz (0)))]) hx hb dL_law_2679 hl (by decide) rfl (fun ls hl => ?_)
    refine lv_aload_n hx hb dL_law_2681 rfl (lv_at hl 4 rfl) ?_
    refine zc_i (wr := [(fm, zaL (G.2 0) 8 (fun _ => 0)), (pm, zaI (G.2 1) 8 (fun _ => 0)), (ou, zaL (G.2 0) 1 ((fun _ => 0)))]) (va_runV (As := []) (rest := []) ⟨hx, hb, hml, hown, hts⟩ (c_X12_thrown_v l G mm thm (.ref ma) .null (.ref mt) (.ref ml) (.int (iz (0))) (.ref mw) (.int (iz (0))) (.ref mb) (.ref mp) (.int (iz (0))) 6  H.size) (cwV 0 hts gL_law_X12_thrown rfl rfl rfl (by decide +kernel) ⟨Nat.le_of_ble_eq_true rfl, Nat.le_of_ble_eq_true rfl⟩) (zpV hKX hP hD [3] rfl rfl 3 13 rfl rfl) rfl rfl hl.1 rfl (lv_room (Nat.le_of_ble_eq_true rfl)) dL_law_2682 ⟨(by show _ ≤ (600002 : Nat); omega), (by show _ ≤ (7302232 : Nat); omega)⟩) hP hD hS hA [3] [0, 1, 2] rfl rfl rfl (by decide) (fun th9 u_13 H locs hth hP hD hS => ?_)
    have hP : va_P G.1 vwCl [(fm, zaL (G.2 0) 8 (fun _ => 0)), (pm, zaI (G.2 1) 8 (fun _ => 0)), (ou, zaL (G.2 0) 1 ((fun _ => 0))), (mm, .inr (13, [.int (iz (thm)), .int (iz ((6 : Int))), .ref ma, .null, .ref mt, .ref ml, .int (iz (0)), .ref mw, .int (iz (0)), .ref mb, .ref mp, .int (iz (0))]))] H := hP
    have hD : va_D (zlA s) [(fm, zaL (G.2 0) 8 (fun _ => 0)), (pm, zaI (G.2 1) 8 (fun _ => 0)), (ou, zaL (G.2 0) 1 ((fun _ => 0))), (mm, .inr (13, [.int (iz (thm)), .int (iz ((6 : Int))), .ref ma, .null, .ref mt, .ref ml, .int (iz (0)), .ref mw, .int (iz (0)), .ref mb, .ref mp, .int (iz (0))]))] := hD
    have hth : th9 = thm := hth
    rw [show th9 = 1 from hth.trans htp]
    refine lv_iload hx hb dL_law_2685 (lv_at hl 1 rfl) ?_
    refine zr_icmp_eq (x := 1) (y := 1) (tgt := 2692) hx hb (⟨by omega, by omega⟩) (⟨by omega, by omega⟩) dL_law_2687 (by decide) (fun h_15 => ?_) (fun h_15 => ?_)
    ·
      refine lv_iload hx hb dL_law_2692 (lv_at hl 1 rfl) ?_
      refine zr_if_ne (x := 1) (tgt := 2709) hx hb (⟨by omega, by omega⟩) dL_law_2694 (by decide) (fun h_16 => ?_) (fun h_16 => ?_)
      ·
        refine lv_goto (tgt := 3039) hx hb dL_law_2709 (by decide) ?_
        exact zl_end hL8 C0 hS (lv_sub hl [2, 6] rfl) (by show _ ≤ (600002 : Nat); omega) (by show _ ≤ (7302232 : Nat); omega)
      · exact absurd h_16 (by omega)
    · exact absurd h_15 (by omega)

set_option maxHeartbeats 4000000 in
set_option maxRecDepth 100000 in
theorem zl_31 {p : Program} {e : Env} {s : State} {m : MethodId} {below : List Frame} {meth : Method} {c : Code} {l : Launch} (hl0 : l.stackTraces = false) {b L : Nat} {xs : Nat → Int32} (hL8 : L = 8) (C0 : lw_At p s m meth c b L xs) {G : zG} {nA nB nE s1 s2 s3 : Nat} (hKX : zK G s) (hEm : zE G nA nB nE (zlA s) s) (hEc : zXL s1 s2 s3 (zlA s) s) (x : Nat) (ro : Nat) (rw : Nat) (bo : Nat) (li : Nat) (sh : Nat) (tx : Nat) (lo : Nat) (nl : Nat) (fm : Nat) (pm : Nat) (ou : Nat) (mm : Nat) (ma : Nat) (mt : Nat) (ml : Nat) (mw : Nat) (mb : Nat) (mp : Nat) {H : Heap} {locs : List Loc} {ls : Array Slot} (hP : va_P G.1 vwCl [(x, .inr (10, [.ref ro, .ref rw, .ref bo, .ref li, .ref sh, .ref tx, .ref lo, .ref nl])), (tx, .inr (8, [.ref fm, .ref pm, .int (iz (0))])), (ou, zaL (G.2 0) 1 (fun _ => 0)), (mm, .inr (13, [.int (iz (0)), .int (iz (6)), .ref ma, .null, .ref mt, .ref ml, .int (iz (0)), .ref mw, .int (iz (0)), .ref mb, .ref mp, .int (iz (0))]))] H) (hD : va_D (zlA s) [(x, .inr (10, [.ref ro, .ref rw, .ref bo, .ref li, .ref sh, .ref tx, .ref lo, .ref nl])), (tx, .inr (8, [.ref fm, .ref pm, .int (iz (0))])), (ou, zaL (G.2 0) 1 (fun _ => 0)), (mm, .inr (13, [.int (iz (0)), .int (iz (6)), .ref ma, .null, .ref mt, .ref ml, .int (iz (0)), .ref mw, .int (iz (0)), .ref mb, .ref mp, .int (iz (0))]))]) (hS : va_S (zlA s) s.heap H locs) (hl : lv_has ls 9 [(0, .ref b), (1, .ref x), (2, .ref mm), (3, .ref ou), (4, .int (iz (0)))]) : W p l e room_1 s m #[Value.ref b] below meth c H locs 200 4000 (lw_Z below #[Value.ref b] s) (F0 m 2712 ls []) := by
  obtain ⟨hx, hb, hr, hml, hown, hts, hX, hbl, hlocks, hgv⟩ := id C0
  have hbA : ¬ zlA s b := Nat.not_le.mpr hbl
  have hK := hKX.1
  have hts : ∀ w ∈ wsL_law, w.before #[Value.ref b] s = true := fun w h => hts w (wsL_law_in w h)
  have hown : s.vm.findClass RL = some m.cls := hown
  have hA : ∀ q : Nat, s.heap.size ≤ q → zlA s q := fun _ h => h
  have hE := hEm
  have hv1 := zv_rng xs 1
  have hv2 := zv_rng xs 2
  have hv3 := zv_rng xs 3
  have hv4 := zv_rng xs 4
  have hv5 := zv_rng xs 5
  have hv6 := zv_rng xs 6
  have hv7 := zv_rng xs 7
  refine lv_aload_n hx hb dL_law_2712 rfl (lv_at hl 1 rfl) ?_
  refine zc_i (wr := [(ou, zaL (G.2 0) 1 (fun _ => 0)), (mm, .inr (13, [.int (iz (0)), .int (iz (6)), .ref ma, .null, .ref mt, .ref ml, .int (iz (0)), .ref mw, .int (iz (0)), .ref mb, .ref mp, .int (iz (0))]))]) (va_runV (As := []) (rest := []) ⟨hx, hb, hml, hown, hts⟩ (c_X9_clearSteps l G x ro rw bo li sh tx lo nl fm pm  H.size) (cwV 0 hts gL_law_X9_clearSteps rfl rfl rfl (by decide +kernel) ⟨Nat.le_of_ble_eq_true rfl, Nat.le_of_ble_eq_true rfl⟩) (zpV hKX hP hD [0, 1] rfl rfl 0 10 rfl rfl) rfl rfl hl.1 rfl (lv_room (Nat.le_of_ble_eq_true rfl)) dL_law_2713 ⟨(by show _ ≤ (600002 : Nat); omega), (by show _ ≤ (7302232 : Nat); omega)⟩) hP hD hS hA [0, 1] [2, 3] rfl rfl rfl (by decide) (fun zw u_1 H locs hw hP hD hS => ?_)
  have hP : va_P G.1 vwCl [(ou, zaL (G.2 0) 1 (fun _ => 0)), (mm, .inr (13, [.int (iz (0)), .int (iz (6)), .ref ma, .null, .ref mt, .ref ml, .int (iz (0)), .ref mw, .int (iz (0)), .ref mb, .ref mp, .int (iz (0))])), (x, .inr (10, [.ref ro, .ref rw, .ref bo, .ref li, .ref sh, .ref tx, .ref lo, .ref nl])), (tx, .inr (8, [.ref fm, .ref pm, .int (iz (0))]))] H := hP
  have hD : va_D (zlA s) [(ou, zaL (G.2 0) 1 (fun _ => 0)), (mm, .inr (13, [.int (iz (0)), .int (iz (6)), .ref ma, .null, .ref mt, .ref ml, .int (iz (0)), .ref mw, .int (iz (0)), .ref mb, .ref mp, .int (iz (0))])), (x, .inr (10, [.ref ro, .ref rw, .ref bo, .ref li, .ref sh, .ref tx, .ref lo, .ref nl])), (tx, .inr (8, [.ref fm, .ref pm, .int (iz (0))]))] := hD
  have hw : zw = 0 := hw
  refine lv_aload_n hx hb dL_law_2716 rfl (lv_at hl 2 rfl) ?_
  refine zc_i (wr := [(ou, zaL (G.2 0) 1 (fun _ => 0)), (x, .inr (10, [.ref ro, .ref rw, .ref bo, .ref li, .ref sh, .ref tx, .ref lo, .ref nl])), (tx, .inr (8, [.ref fm, .ref pm, .int (iz (0))]))]) (va_runV (As := []) (rest := [.int (iz (zw))]) ⟨hx, hb, hml, hown, hts⟩ (c_X12_clearSteps l G mm ma mt ml mw mb mp 0  H.size) (cwV 0 hts gL_law_X12_clearSteps rfl rfl rfl (by decide +kernel) ⟨Nat.le_of_ble_eq_true rfl, Nat.le_of_ble_eq_true rfl⟩) (zpV hKX hP hD [1] rfl rfl 1 13 rfl rfl) rfl rfl hl.1 rfl (lv_room (Nat.le_of_ble_eq_true rfl)) dL_law_2717 ⟨(by show _ ≤ (600002 : Nat); omega), (by show _ ≤ (7302232 : Nat); omega)⟩) hP hD hS hA [1] [0, 2, 3] rfl rfl rfl (by decide) (fun zm u_3 H locs hm hP hD hS => ?_)
  generalize u_3 = thm at hP hD hm
  have hP : va_P G.1 vwCl [(ou, zaL (G.2 0) 1 (fun _ => 0)), (x, .inr (10, [.ref ro, .ref rw, .ref bo, .ref li, .ref sh, .ref tx, .ref lo, .ref nl])), (tx, .inr (8, [.ref fm, .ref pm, .int (iz (0))])), (mm, .inr (13, [.int (iz (thm)), .int (iz (6)), .ref ma, .null, .ref mt, .ref ml, .int (iz (0)), .ref mw, .int (iz (0)), .ref mb, .ref mp, .int (iz (0))]))] H := hP
  have hD : va_D (zlA s) [(ou, zaL (G.2 0) 1 (fun _ => 0)), (x, .inr (10, [.ref ro, .ref rw, .ref bo, .ref li, .ref sh, .ref tx, .ref lo, .ref nl])), (tx, .inr (8, [.ref fm, .ref pm, .int (iz (0))])), (mm, .inr (13, [.int (iz (thm)), .int (iz (6)), .ref ma, .null, .ref mt, .ref ml, .int (iz (0)), .ref mw, .int (iz (0)), .ref mb, .ref mp, .int (iz (0))]))] := hD
  have hm : zm = 0 ∧ thm = 0 := hm
  have htp := hm.2
  have hval := hw.trans hm.1.symm
  refine zr_icmpS (x := zw) (y := zm) (tgt := 3039) hx hb (by first | exact hval | exact hval.symm) dL_law_2720 (by decide) ?_
  exact zl_end hL8 C0 hS (lv_sub hl [0, 4] rfl) (by show _ ≤ (600002 : Nat); omega) (by show _ ≤ (7302232 : Nat); omega)

set_option maxHeartbeats 4000000 in
set_option maxRecDepth 100000 in
theorem zl_32 {p : Program} {e : Env} {s : State} {m : MethodId} {below : List Frame} {meth : Method} {c : Code} {l : Launch} (hl0 : l.stackTraces = false) {b L : Nat} {xs : Nat → Int32} (hL8 : L = 8) (C0 : lw_At p s m meth c b L xs) {G : zG} {nA nB nE s1 s2 s3 : Nat} (hKX : zK G s) (hEm : zE G nA nB nE (zlA s) s) (hEc : zXL s1 s2 s3 (zlA s) s) (x : Nat) (ro : Nat) (rw : Nat) (bo : Nat) (li : Nat) (sh : Nat) (tx : Nat) (lo : Nat) (nl : Nat) (fm : Nat) (pm : Nat) (ou : Nat) (mm : Nat) (ma : Nat) (mt : Nat) (ml : Nat) (mw : Nat) (mb : Nat) (mp : Nat) {H : Heap} {locs : List Loc} {ls : Array Slot} (hP : va_P G.1 vwCl [(x, .inr (10, [.ref ro, .ref rw, .ref bo, .ref li, .ref sh, .ref tx, .ref lo, .ref nl])), (tx, .inr (8, [.ref fm, .ref pm, .int (iz (0))])), (ro, .inr (5, [.int (iz (6))])), (ou, zaL (G.2 0) 1 (fun _ => 0)), (mm, .inr (13, [.int (iz (0)), .int (iz (6)), .ref ma, .null, .ref mt, .ref ml, .int (iz (0)), .ref mw, .int (iz (0)), .ref mb, .ref mp, .int (iz (0))]))] H) (hD : va_D (zlA s) [(x, .inr (10, [.ref ro, .ref rw, .ref bo, .ref li, .ref sh, .ref tx, .ref lo, .ref nl])), (tx, .inr (8, [.ref fm, .ref pm, .int (iz (0))])), (ro, .inr (5, [.int (iz (6))])), (ou, zaL (G.2 0) 1 (fun _ => 0)), (mm, .inr (13, [.int (iz (0)), .int (iz (6)), .ref ma, .null, .ref mt, .ref ml, .int (iz (0)), .ref mw, .int (iz (0)), .ref mb, .ref mp, .int (iz (0))]))]) (hS : va_S (zlA s) s.heap H locs) (hl : lv_has ls 9 [(0, .ref b), (1, .ref x), (2, .ref mm), (3, .ref ou), (4, .int (iz (0)))]) : W p l e room_1 s m #[Value.ref b] below meth c H locs 200 4000 (lw_Z below #[Value.ref b] s) (F0 m 2725 ls []) := by
  obtain ⟨hx, hb, hr, hml, hown, hts, hX, hbl, hlocks, hgv⟩ := id C0
  have hbA : ¬ zlA s b := Nat.not_le.mpr hbl
  have hK := hKX.1
  have hts : ∀ w ∈ wsL_law, w.before #[Value.ref b] s = true := fun w h => hts w (wsL_law_in w h)
  have hown : s.vm.findClass RL = some m.cls := hown
  have hA : ∀ q : Nat, s.heap.size ≤ q → zlA s q := fun _ h => h
  have hE := hEm
  have hv1 := zv_rng xs 1
  have hv2 := zv_rng xs 2
  have hv3 := zv_rng xs 3
  have hv4 := zv_rng xs 4
  have hv5 := zv_rng xs 5
  have hv6 := zv_rng xs 6
  have hv7 := zv_rng xs 7
  have hw1 := zlo_rng (zv xs 1) (zv xs 2)
  by_cases hco0 : 0 ≤ (zlo (zv xs 1) (zv xs 2)) ∧ (zlo (zv xs 1) (zv xs 2)) ≤ 1000000000000
  ·
    refine lv_aload_n hx hb dL_law_2725 rfl (lv_at hl 1 rfl) ?_
    refine lv_aload_n hx hb dL_law_2726 rfl (lv_at hl 0 rfl) ?_
    refine lv_iload hx hb dL_law_2727 (lv_at hl 4 rfl) ?_
    refine lv_iconst (v := iz (1)) hx hb dL_law_2729 rfl ?_
    refine zr_iadd hx hb dL_law_2730 ?_
    refine zr_sld hx hb hX hbl hbA hS 1 (by omega) (by omega) (by omega) dL_law_2731 ?_
    refine zr_i2l hx hb (x := zv xs 1) (⟨by omega, by omega⟩) dL_law_2732 ?_
    refine lv_bipush (v := iz (32)) hx hb dL_law_2733 rfl ?_
    refine zr_lshl32 hx hb dL_law_2735 ?_
    refine lv_aload_n hx hb dL_law_2736 rfl (lv_at hl 0 rfl) ?_
    refine lv_iload hx hb dL_law_2737 (lv_at hl 4 rfl) ?_
    refine lv_iconst (v := iz (2)) hx hb dL_law_2739 rfl ?_
    refine zr_iadd hx hb dL_law_2740 ?_
    refine zr_sld hx hb hX hbl hbA hS 2 (by omega) (by omega) (by omega) dL_law_2741 ?_
    refine zr_i2l hx hb (x := zv xs 2) (⟨by omega, by omega⟩) dL_law_2742 ?_
    refine zr_ldc2 (z := 4294967295) hx hb hown (hts (.constantLong RL 137 (4294967295)) (by decide +kernel)) rfl dL_law_2743 ?_
    refine zr_land32 hx hb dL_law_2746 ?_
    refine zr_lor32 hx hb dL_law_2747 ?_
    refine lv_aload_n hx hb dL_law_2748 rfl (lv_at hl 3 rfl) ?_
    refine zc_i (wr := [(mm, .inr (13, [.int (iz (0)), .int (iz (6)), .ref ma, .null, .ref mt, .ref ml, .int (iz (0)), .ref mw, .int (iz (0)), .ref mb, .ref mp, .int (iz (0))]))]) (vx_runSW (As := [.ref x, .long (lz (zlo (zv xs 1) (zv xs 2))), .ref ou]) (rest := []) ⟨hx, hb, hml, hown, hts⟩ (c_L_tax_o l G x ro rw bo li sh tx lo nl fm pm (zlo (zv xs 1) (zv xs 2)) ou (fun _ => 0) (by omega) (by omega) H.size) (vx_cwSW 3 hts gL_law_L_tax rfl rfl rfl (by decide +kernel) ⟨Nat.le_of_ble_eq_true rfl, Nat.le_of_ble_eq_true rfl⟩) (zpS hKX hP hD [0, 1, 2, 3] rfl rfl) rfl rfl hl.1 rfl (lv_room (Nat.le_of_ble_eq_true rfl)) dL_law_2749 ⟨(by show _ ≤ (600002 : Nat); omega), (by show _ ≤ (7302232 : Nat); omega)⟩) hP hD hS hA [0, 1, 2, 3] [4] rfl rfl rfl (by decide) (fun kk u_1 H locs hw hP hD hS => ?_)
    generalize u_1 = fz at hP hD hw
    have hP : va_P G.1 vwCl [(mm, .inr (13, [.int (iz (0)), .int (iz (6)), .ref ma, .null, .ref mt, .ref ml, .int (iz (0)), .ref mw, .int (iz (0)), .ref mb, .ref mp, .int (iz (0))])), (ou, zaL (G.2 0) 1 (fz))] H := hP
    have hD : va_D (zlA s) [(mm, .inr (13, [.int (iz (0)), .int (iz (6)), .ref ma, .null, .ref mt, .ref ml, .int (iz (0)), .ref mw, .int (iz (0)), .ref mb, .ref mp, .int (iz (0))])), (ou, zaL (G.2 0) 1 (fz))] := hD
    have hw : kk = 0 ∧ (fz 0) = 0 := hw
    rw [show kk = 0 from hw.1]
    refine lv_istore (lv' := [(5, .int (iz (0))), (0, .ref b), (1, .ref x), (2, .ref mm), (3, .ref ou), (4, .int (iz (0)))]) hx hb dL_law_2752 hl (by decide) rfl (fun ls hl => ?_)
    refine lv_aload_n hx hb dL_law_2754 rfl (lv_at hl 3 rfl) ?_
    refine lv_aload_n hx hb dL_law_2755 rfl (lv_at hl 1 rfl) ?_
    refine lv_iload hx hb dL_law_2756 (lv_at hl 5 rfl) ?_
    refine lv_iconst (v := iz (1)) hx hb dL_law_2758 rfl ?_
    refine zr_iadd hx hb dL_law_2759 ?_
    refine zr_sld hx hb hX hbl hbA hS 1 (by omega) (by omega) (by omega) dL_law_2760 ?_
    refine zr_i2l hx hb (x := zv xs 1) (⟨by omega, by omega⟩) dL_law_2761 ?_
    refine lv_bipush (v := iz (32)) hx hb dL_law_2762 rfl ?_
    refine zr_lshl32 hx hb dL_law_2764 ?_
    refine lv_aload_n hx hb dL_law_2765 rfl (lv_at hl 1 rfl) ?_
    refine lv_iload hx hb dL_law_2766 (lv_at hl 5 rfl) ?_
    refine lv_iconst (v := iz (2)) hx hb dL_law_2768 rfl ?_
    refine zr_iadd hx hb dL_law_2769 ?_
    refine zr_sld hx hb hX hbl hbA hS 2 (by omega) (by omega) (by omega) dL_law_2770 ?_
    refine zr_i2l hx hb (x := zv xs 2) (⟨by omega, by omega⟩) dL_law_2771 ?_
    refine zr_ldc2 (z := 4294967295) hx hb hown (hts (.constantLong RL 137 (4294967295)) (by decide +kernel)) rfl dL_law_2772 ?_
    refine zr_land32 hx hb dL_law_2775 ?_
    refine zr_lor32 hx hb dL_law_2776 ?_
    refine zc_l (wr := [(ou, zaL (G.2 0) 1 (fz))]) (va_runV (As := [.long (lz (zlo (zv xs 1) (zv xs 2)))]) (rest := []) ⟨hx, hb, hml, hown, hts⟩ (c_X12_tax_o l G mm ma mt ml mw mb mp 0 (zlo (zv xs 1) (zv xs 2)) (by omega) (by omega) H.size) (cwV 1 hts gL_law_X12_tax rfl rfl rfl (by decide +kernel) ⟨Nat.le_of_ble_eq_true rfl, Nat.le_of_ble_eq_true rfl⟩) (zpV hKX hP hD [0] rfl rfl 0 13 rfl rfl) rfl rfl hl.1 rfl (lv_room (Nat.le_of_ble_eq_true rfl)) dL_law_2777 ⟨(by show _ ≤ (600002 : Nat); omega), (by show _ ≤ (7302232 : Nat); omega)⟩) hP hD hS hA [0] [1] rfl rfl rfl (by decide) (fun zm u_3 H locs hm hP hD hS => ?_)
    generalize u_3 = thm at hP hD hm
    have hP : va_P G.1 vwCl [(ou, zaL (G.2 0) 1 (fz)), (mm, .inr (13, [.int (iz (thm)), .int (iz (6)), .ref ma, .null, .ref mt, .ref ml, .int (iz (0)), .ref mw, .int (iz (0)), .ref mb, .ref mp, .int (iz (0))]))] H := hP
    have hD : va_D (zlA s) [(ou, zaL (G.2 0) 1 (fz)), (mm, .inr (13, [.int (iz (thm)), .int (iz (6)), .ref ma, .null, .ref mt, .ref ml, .int (iz (0)), .ref mw, .int (iz (0)), .ref mb, .ref mp, .int (iz (0))]))] := hD
    have hm : zm = 0 ∧ thm = 0 := hm
    have htp := hm.2
    have hval := hw.2.trans hm.1.symm
    refine lv_lstore (lv' := [(6, .long (lz (zm))), (5, .int (iz (0))), (0, .ref b), (1, .ref x), (2, .ref mm), (3, .ref ou), (4, .int (iz (0)))]) hx hb dL_law_2780 hl (by decide) rfl (fun ls hl => ?_)
    refine lv_aload_n hx hb dL_law_2782 rfl (lv_at hl 4 rfl) ?_
    refine zc_i (wr := [(ou, zaL (G.2 0) 1 (fz))]) (va_runV (As := []) (rest := []) ⟨hx, hb, hml, hown, hts⟩ (c_X12_thrown_v l G mm thm (.ref ma) .null (.ref mt) (.ref ml) (.int (iz (0))) (.ref mw) (.int (iz (0))) (.ref mb) (.ref mp) (.int (iz (0))) 6  H.size) (cwV 0 hts gL_law_X12_thrown rfl rfl rfl (by decide +kernel) ⟨Nat.le_of_ble_eq_true rfl, Nat.le_of_ble_eq_true rfl⟩) (zpV hKX hP hD [1] rfl rfl 1 13 rfl rfl) rfl rfl hl.1 rfl (lv_room (Nat.le_of_ble_eq_true rfl)) dL_law_2783 ⟨(by show _ ≤ (600002 : Nat); omega), (by show _ ≤ (7302232 : Nat); omega)⟩) hP hD hS hA [1] [0] rfl rfl rfl (by decide) (fun th9 u_5 H locs hth hP hD hS => ?_)
    have hP : va_P G.1 vwCl [(ou, zaL (G.2 0) 1 (fz)), (mm, .inr (13, [.int (iz (thm)), .int (iz ((6 : Int))), .ref ma, .null, .ref mt, .ref ml, .int (iz (0)), .ref mw, .int (iz (0)), .ref mb, .ref mp, .int (iz (0))]))] H := hP
    have hD : va_D (zlA s) [(ou, zaL (G.2 0) 1 (fz)), (mm, .inr (13, [.int (iz (thm)), .int (iz ((6 : Int))), .ref ma, .null, .ref mt, .ref ml, .int (iz (0)), .ref mw, .int (iz (0)), .ref mb, .ref mp, .int (iz (0))]))] := hD
    have hth : th9 = thm := hth
    rw [show th9 = 0 from hth.trans htp]
    refine lv_iload hx hb dL_law_2786 (lv_at hl 1 rfl) ?_
    refine zr_icmp_eq (x := 0) (y := 0) (tgt := 2793) hx hb (⟨by omega, by omega⟩) (⟨by omega, by omega⟩) dL_law_2788 (by decide) (fun h_7 => ?_) (fun h_7 => ?_)
    ·
      refine lv_iload hx hb dL_law_2793 (lv_at hl 1 rfl) ?_
      refine zr_if_ne (x := 0) (tgt := 2809) hx hb (⟨by omega, by omega⟩) dL_law_2795 (by decide) (fun h_8 => ?_) (fun h_8 => ?_)
      · exact absurd h_8 (by omega)
      ·
        refine lv_aload_n hx hb dL_law_2798 rfl (lv_at hl 5 rfl) ?_
        refine lv_iconst (v := iz (0)) hx hb dL_law_2799 rfl ?_
        refine zr_lald hx hb hK hP 0 0 rfl rfl (i := 0) (⟨by omega, by omega, by omega⟩) dL_law_2800 ?_
        refine lv_lload hx hb dL_law_2801 (lv_at hl 0 rfl) ?_
        refine zr_lcmpS (x := fz 0) (y := zm) (tgt := 2809) hx hb (by first | exact hval | exact hval.symm) dL_law_2803 dL_law_2804 (by decide) ?_
        refine lv_goto (tgt := 3039) hx hb dL_law_2809 (by decide) ?_
        exact zl_end hL8 C0 hS (lv_sub hl [2, 6] rfl) (by show _ ≤ (600002 : Nat); omega) (by show _ ≤ (7302232 : Nat); omega)
    · exact absurd h_7 (by omega)
  ·
    refine lv_aload_n hx hb dL_law_2725 rfl (lv_at hl 1 rfl) ?_
    refine lv_aload_n hx hb dL_law_2726 rfl (lv_at hl 0 rfl) ?_
    refine lv_iload hx hb dL_law_2727 (lv_at hl 4 rfl) ?_
    refine lv_iconst (v := iz (1)) hx hb dL_law_2729 rfl ?_
    refine zr_iadd hx hb dL_law_2730 ?_
    refine zr_sld hx hb hX hbl hbA hS 1 (by omega) (by omega) (by omega) dL_law_2731 ?_
    refine zr_i2l hx hb (x := zv xs 1) (⟨by omega, by omega⟩) dL_law_2732 ?_
    refine lv_bipush (v := iz (32)) hx hb dL_law_2733 rfl ?_
    refine zr_lshl32 hx hb dL_law_2735 ?_
    refine lv_aload_n hx hb dL_law_2736 rfl (lv_at hl 0 rfl) ?_
    refine lv_iload hx hb dL_law_2737 (lv_at hl 4 rfl) ?_
    refine lv_iconst (v := iz (2)) hx hb dL_law_2739 rfl ?_
    refine zr_iadd hx hb dL_law_2740 ?_
    refine zr_sld hx hb hX hbl hbA hS 2 (by omega) (by omega) (by omega) dL_law_2741 ?_
    refine zr_i2l hx hb (x := zv xs 2) (⟨by omega, by omega⟩) dL_law_2742 ?_
    refine zr_ldc2 (z := 4294967295) hx hb hown (hts (.constantLong RL 137 (4294967295)) (by decide +kernel)) rfl dL_law_2743 ?_
    refine zr_land32 hx hb dL_law_2746 ?_
    refine zr_lor32 hx hb dL_law_2747 ?_
    refine lv_aload_n hx hb dL_law_2748 rfl (lv_at hl 3 rfl) ?_
    refine zc_i (wr := [(tx, .inr (8, [.ref fm, .ref pm, .int (iz (0))])), (ro, .inr (5, [.int (iz (6))])), (mm, .inr (13, [.int (iz (0)), .int (iz (6)), .ref ma, .null, .ref mt, .ref ml, .int (iz (0)), .ref mw, .int (iz (0)), .ref mb, .ref mp, .int (iz (0))]))]) (vx_runSW (As := [.ref x, .long (lz (zlo (zv xs 1) (zv xs 2))), .ref ou]) (rest := []) ⟨hx, hb, hml, hown, hts⟩ (c_L_tax_x l G s1 s2 s3 x ro rw bo li sh tx lo nl (zlo (zv xs 1) (zv xs 2)) ou (fun _ => 0) hl0 (by omega) (by omega) H.size) (vx_cwSW 3 hts gL_law_L_tax rfl rfl rfl (by decide +kernel) ⟨Nat.le_of_ble_eq_true rfl, Nat.le_of_ble_eq_true rfl⟩) (zpSe zXL_ok hEc hS hA hKX hP hD [0, 3] rfl rfl) rfl rfl hl.1 rfl (lv_room (Nat.le_of_ble_eq_true rfl)) dL_law_2749 ⟨(by show _ ≤ (600002 : Nat); omega), (by show _ ≤ (7302232 : Nat); omega)⟩) hP hD hS hA [0, 3] [1, 2, 4] rfl rfl rfl (by decide) (fun kk u_9 H locs hw hP hD hS => ?_)
    have hP : va_P G.1 vwCl [(tx, .inr (8, [.ref fm, .ref pm, .int (iz (0))])), (ro, .inr (5, [.int (iz (6))])), (mm, .inr (13, [.int (iz (0)), .int (iz (6)), .ref ma, .null, .ref mt, .ref ml, .int (iz (0)), .ref mw, .int (iz (0)), .ref mb, .ref mp, .int (iz (0))])), (ou, zaL (G.2 0) 1 ((fun _ => 0)))] H := hP
    have hD : va_D (zlA s) [(tx, .inr (8, [.ref fm, .ref pm, .int (iz (0))])), (ro, .inr (5, [.int (iz (6))])), (mm, .inr (13, [.int (iz (0)), .int (iz (6)), .ref ma, .null, .ref mt, .ref ml, .int (iz (0)), .ref mw, .int (iz (0)), .ref mb, .ref mp, .int (iz (0))])), (ou, zaL (G.2 0) 1 ((fun _ => 0)))] := hD
    have hw : kk = 1 := hw
    rw [show kk = 1 from hw]
    refine lv_istore (lv' := [(5, .int (iz (1))), (0, .ref b), (1, .ref x), (2, .ref mm), (3, .ref ou), (4, .int (iz (0)))]) hx hb dL_law_2752 hl (by decide) rfl (fun ls hl => ?_)
    refine lv_aload_n hx hb dL_law_2754 rfl (lv_at hl 3 rfl) ?_
    refine lv_aload_n hx hb dL_law_2755 rfl (lv_at hl 1 rfl) ?_
    refine lv_iload hx hb dL_law_2756 (lv_at hl 5 rfl) ?_
    refine lv_iconst (v := iz (1)) hx hb dL_law_2758 rfl ?_
    refine zr_iadd hx hb dL_law_2759 ?_
    refine zr_sld hx hb hX hbl hbA hS 1 (by omega) (by omega) (by omega) dL_law_2760 ?_
    refine zr_i2l hx hb (x := zv xs 1) (⟨by omega, by omega⟩) dL_law_2761 ?_
    refine lv_bipush (v := iz (32)) hx hb dL_law_2762 rfl ?_
    refine zr_lshl32 hx hb dL_law_2764 ?_
    refine lv_aload_n hx hb dL_law_2765 rfl (lv_at hl 1 rfl) ?_
    refine lv_iload hx hb dL_law_2766 (lv_at hl 5 rfl) ?_
    refine lv_iconst (v := iz (2)) hx hb dL_law_2768 rfl ?_
    refine zr_iadd hx hb dL_law_2769 ?_
    refine zr_sld hx hb hX hbl hbA hS 2 (by omega) (by omega) (by omega) dL_law_2770 ?_
    refine zr_i2l hx hb (x := zv xs 2) (⟨by omega, by omega⟩) dL_law_2771 ?_
    refine zr_ldc2 (z := 4294967295) hx hb hown (hts (.constantLong RL 137 (4294967295)) (by decide +kernel)) rfl dL_law_2772 ?_
    refine zr_land32 hx hb dL_law_2775 ?_
    refine zr_lor32 hx hb dL_law_2776 ?_
    refine zc_l (wr := [(tx, .inr (8, [.ref fm, .ref pm, .int (iz (0))])), (ro, .inr (5, [.int (iz (6))])), (ou, zaL (G.2 0) 1 ((fun _ => 0)))]) (va_runV (As := [.long (lz (zlo (zv xs 1) (zv xs 2)))]) (rest := []) ⟨hx, hb, hml, hown, hts⟩ (c_X12_tax_x l G mm ma mt ml mw mb mp 0 (zlo (zv xs 1) (zv xs 2)) (by omega) (by omega) H.size) (cwV 1 hts gL_law_X12_tax rfl rfl rfl (by decide +kernel) ⟨Nat.le_of_ble_eq_true rfl, Nat.le_of_ble_eq_true rfl⟩) (zpV hKX hP hD [2] rfl rfl 2 13 rfl rfl) rfl rfl hl.1 rfl (lv_room (Nat.le_of_ble_eq_true rfl)) dL_law_2777 ⟨(by show _ ≤ (600002 : Nat); omega), (by show _ ≤ (7302232 : Nat); omega)⟩) hP hD hS hA [2] [0, 1, 3] rfl rfl rfl (by decide) (fun zm u_11 H locs hm hP hD hS => ?_)
    generalize u_11 = thm at hP hD hm
    have hP : va_P G.1 vwCl [(tx, .inr (8, [.ref fm, .ref pm, .int (iz (0))])), (ro, .inr (5, [.int (iz (6))])), (ou, zaL (G.2 0) 1 ((fun _ => 0))), (mm, .inr (13, [.int (iz (thm)), .int (iz (6)), .ref ma, .null, .ref mt, .ref ml, .int (iz (0)), .ref mw, .int (iz (0)), .ref mb, .ref mp, .int (iz (0))]))] H := hP
    have hD : va_D (zlA s) [(tx, .inr (8, [.ref fm, .ref pm, .int (iz (0))])), (ro, .inr (5, [.int (iz (6))])), (ou, zaL (G.2 0) 1 ((fun _ => 0))), (mm, .inr (13, [.int (iz (thm)), .int (iz (6)), .ref ma, .null, .ref mt, .ref ml, .int (iz (0)), .ref mw, .int (iz (0)), .ref mb, .ref mp, .int (iz (0))]))] := hD
    have hm : zm = 0 ∧ thm = 1 := hm
    have htp := hm.2
    refine lv_lstore (lv' := [(6, .long (lz (zm))), (5, .int (iz (1))), (0, .ref b), (1, .ref x), (2, .ref mm), (3, .ref ou), (4, .int (iz (0)))]) hx hb dL_law_2780 hl (by decide) rfl (fun ls hl => ?_)
    refine lv_aload_n hx hb dL_law_2782 rfl (lv_at hl 4 rfl) ?_
    refine zc_i (wr := [(tx, .inr (8, [.ref fm, .ref pm, .int (iz (0))])), (ro, .inr (5, [.int (iz (6))])), (ou, zaL (G.2 0) 1 ((fun _ => 0)))]) (va_runV (As := []) (rest := []) ⟨hx, hb, hml, hown, hts⟩ (c_X12_thrown_v l G mm thm (.ref ma) .null (.ref mt) (.ref ml) (.int (iz (0))) (.ref mw) (.int (iz (0))) (.ref mb) (.ref mp) (.int (iz (0))) 6  H.size) (cwV 0 hts gL_law_X12_thrown rfl rfl rfl (by decide +kernel) ⟨Nat.le_of_ble_eq_true rfl, Nat.le_of_ble_eq_true rfl⟩) (zpV hKX hP hD [3] rfl rfl 3 13 rfl rfl) rfl rfl hl.1 rfl (lv_room (Nat.le_of_ble_eq_true rfl)) dL_law_2783 ⟨(by show _ ≤ (600002 : Nat); omega), (by show _ ≤ (7302232 : Nat); omega)⟩) hP hD hS hA [3] [0, 1, 2] rfl rfl rfl (by decide) (fun th9 u_13 H locs hth hP hD hS => ?_)
    have hP : va_P G.1 vwCl [(tx, .inr (8, [.ref fm, .ref pm, .int (iz (0))])), (ro, .inr (5, [.int (iz (6))])), (ou, zaL (G.2 0) 1 ((fun _ => 0))), (mm, .inr (13, [.int (iz (thm)), .int (iz ((6 : Int))), .ref ma, .null, .ref mt, .ref ml, .int (iz (0)), .ref mw, .int (iz (0)), .ref mb, .ref mp, .int (iz (0))]))] H := hP
    have hD : va_D (zlA s) [(tx, .inr (8, [.ref fm, .ref pm, .int (iz (0))])), (ro, .inr (5, [.int (iz (6))])), (ou, zaL (G.2 0) 1 ((fun _ => 0))), (mm, .inr (13, [.int (iz (thm)), .int (iz ((6 : Int))), .ref ma, .null, .ref mt, .ref ml, .int (iz (0)), .ref mw, .int (iz (0)), .ref mb, .ref mp, .int (iz (0))]))] := hD
    have hth : th9 = thm := hth
    rw [show th9 = 1 from hth.trans htp]
    refine lv_iload hx hb dL_law_2786 (lv_at hl 1 rfl) ?_
    refine zr_icmp_eq (x := 1) (y := 1) (tgt := 2793) hx hb (⟨by omega, by omega⟩) (⟨by omega, by omega⟩) dL_law_2788 (by decide) (fun h_15 => ?_) (fun h_15 => ?_)
    ·
      refine lv_iload hx hb dL_law_2793 (lv_at hl 1 rfl) ?_
      refine zr_if_ne (x := 1) (tgt := 2809) hx hb (⟨by omega, by omega⟩) dL_law_2795 (by decide) (fun h_16 => ?_) (fun h_16 => ?_)
      ·
        refine lv_goto (tgt := 3039) hx hb dL_law_2809 (by decide) ?_
        exact zl_end hL8 C0 hS (lv_sub hl [2, 6] rfl) (by show _ ≤ (600002 : Nat); omega) (by show _ ≤ (7302232 : Nat); omega)
      · exact absurd h_16 (by omega)
    · exact absurd h_15 (by omega)

set_option maxHeartbeats 4000000 in
set_option maxRecDepth 100000 in
theorem zl_33 {p : Program} {e : Env} {s : State} {m : MethodId} {below : List Frame} {meth : Method} {c : Code} {l : Launch} (hl0 : l.stackTraces = false) {b L : Nat} {xs : Nat → Int32} (hL8 : L = 8) (C0 : lw_At p s m meth c b L xs) {G : zG} {nA nB nE s1 s2 s3 : Nat} (hKX : zK G s) (hEm : zE G nA nB nE (zlA s) s) (hEc : zXL s1 s2 s3 (zlA s) s) (x : Nat) (ro : Nat) (rw : Nat) (bo : Nat) (li : Nat) (sh : Nat) (tx : Nat) (lo : Nat) (nl : Nat) (fm : Nat) (pm : Nat) (ou : Nat) (mm : Nat) (ma : Nat) (mt : Nat) (ml : Nat) (mw : Nat) (mb : Nat) (mp : Nat) {H : Heap} {locs : List Loc} {ls : Array Slot} (hP : va_P G.1 vwCl [(x, .inr (10, [.ref ro, .ref rw, .ref bo, .ref li, .ref sh, .ref tx, .ref lo, .ref nl])), (tx, .inr (8, [.ref fm, .ref pm, .int (iz (0))])), (ou, zaL (G.2 0) 1 (fun _ => 0)), (mm, .inr (13, [.int (iz (0)), .int (iz (6)), .ref ma, .null, .ref mt, .ref ml, .int (iz (0)), .ref mw, .int (iz (0)), .ref mb, .ref mp, .int (iz (0))]))] H) (hD : va_D (zlA s) [(x, .inr (10, [.ref ro, .ref rw, .ref bo, .ref li, .ref sh, .ref tx, .ref lo, .ref nl])), (tx, .inr (8, [.ref fm, .ref pm, .int (iz (0))])), (ou, zaL (G.2 0) 1 (fun _ => 0)), (mm, .inr (13, [.int (iz (0)), .int (iz (6)), .ref ma, .null, .ref mt, .ref ml, .int (iz (0)), .ref mw, .int (iz (0)), .ref mb, .ref mp, .int (iz (0))]))]) (hS : va_S (zlA s) s.heap H locs) (hl : lv_has ls 9 [(0, .ref b), (1, .ref x), (2, .ref mm), (3, .ref ou), (4, .int (iz (0)))]) : W p l e room_1 s m #[Value.ref b] below meth c H locs 200 4000 (lw_Z below #[Value.ref b] s) (F0 m 2812 ls []) := by
  obtain ⟨hx, hb, hr, hml, hown, hts, hX, hbl, hlocks, hgv⟩ := id C0
  have hbA : ¬ zlA s b := Nat.not_le.mpr hbl
  have hK := hKX.1
  have hts : ∀ w ∈ wsL_law, w.before #[Value.ref b] s = true := fun w h => hts w (wsL_law_in w h)
  have hown : s.vm.findClass RL = some m.cls := hown
  have hA : ∀ q : Nat, s.heap.size ≤ q → zlA s q := fun _ h => h
  have hE := hEm
  have hv1 := zv_rng xs 1
  have hv2 := zv_rng xs 2
  have hv3 := zv_rng xs 3
  have hv4 := zv_rng xs 4
  have hv5 := zv_rng xs 5
  have hv6 := zv_rng xs 6
  have hv7 := zv_rng xs 7
  have hw1 := zlo_rng (zv xs 1) (zv xs 2)
  by_cases hco0 : 0 ≤ (zlo (zv xs 1) (zv xs 2)) ∧ (zlo (zv xs 1) (zv xs 2)) ≤ 1000000000
  ·
    refine lv_aload_n hx hb dL_law_2812 rfl (lv_at hl 1 rfl) ?_
    refine lv_aload_n hx hb dL_law_2813 rfl (lv_at hl 0 rfl) ?_
    refine lv_iload hx hb dL_law_2814 (lv_at hl 4 rfl) ?_
    refine lv_iconst (v := iz (1)) hx hb dL_law_2816 rfl ?_
    refine zr_iadd hx hb dL_law_2817 ?_
    refine zr_sld hx hb hX hbl hbA hS 1 (by omega) (by omega) (by omega) dL_law_2818 ?_
    refine zr_i2l hx hb (x := zv xs 1) (⟨by omega, by omega⟩) dL_law_2819 ?_
    refine lv_bipush (v := iz (32)) hx hb dL_law_2820 rfl ?_
    refine zr_lshl32 hx hb dL_law_2822 ?_
    refine lv_aload_n hx hb dL_law_2823 rfl (lv_at hl 0 rfl) ?_
    refine lv_iload hx hb dL_law_2824 (lv_at hl 4 rfl) ?_
    refine lv_iconst (v := iz (2)) hx hb dL_law_2826 rfl ?_
    refine zr_iadd hx hb dL_law_2827 ?_
    refine zr_sld hx hb hX hbl hbA hS 2 (by omega) (by omega) (by omega) dL_law_2828 ?_
    refine zr_i2l hx hb (x := zv xs 2) (⟨by omega, by omega⟩) dL_law_2829 ?_
    refine zr_ldc2 (z := 4294967295) hx hb hown (hts (.constantLong RL 137 (4294967295)) (by decide +kernel)) rfl dL_law_2830 ?_
    refine zr_land32 hx hb dL_law_2833 ?_
    refine zr_lor32 hx hb dL_law_2834 ?_
    refine lv_aload_n hx hb dL_law_2835 rfl (lv_at hl 3 rfl) ?_
    refine zc_i (wr := [(mm, .inr (13, [.int (iz (0)), .int (iz (6)), .ref ma, .null, .ref mt, .ref ml, .int (iz (0)), .ref mw, .int (iz (0)), .ref mb, .ref mp, .int (iz (0))]))]) (vx_runSW (As := [.ref x, .long (lz (zlo (zv xs 1) (zv xs 2))), .ref ou]) (rest := []) ⟨hx, hb, hml, hown, hts⟩ (c_L_untaxed_o l G x ro rw bo li sh tx lo nl fm pm (zlo (zv xs 1) (zv xs 2)) ou (fun _ => 0) (by omega) (by omega) H.size) (vx_cwSW 3 hts gL_law_L_untaxed rfl rfl rfl (by decide +kernel) ⟨Nat.le_of_ble_eq_true rfl, Nat.le_of_ble_eq_true rfl⟩) (zpS hKX hP hD [0, 1, 2] rfl rfl) rfl rfl hl.1 rfl (lv_room (Nat.le_of_ble_eq_true rfl)) dL_law_2836 ⟨(by show _ ≤ (600002 : Nat); omega), (by show _ ≤ (7302232 : Nat); omega)⟩) hP hD hS hA [0, 1, 2] [3] rfl rfl rfl (by decide) (fun kk u_1 H locs hw hP hD hS => ?_)
    generalize u_1 = fz at hP hD hw
    have hP : va_P G.1 vwCl [(mm, .inr (13, [.int (iz (0)), .int (iz (6)), .ref ma, .null, .ref mt, .ref ml, .int (iz (0)), .ref mw, .int (iz (0)), .ref mb, .ref mp, .int (iz (0))])), (ou, zaL (G.2 0) 1 (fz))] H := hP
    have hD : va_D (zlA s) [(mm, .inr (13, [.int (iz (0)), .int (iz (6)), .ref ma, .null, .ref mt, .ref ml, .int (iz (0)), .ref mw, .int (iz (0)), .ref mb, .ref mp, .int (iz (0))])), (ou, zaL (G.2 0) 1 (fz))] := hD
    have hw : kk = 0 ∧ (fz 0) = (zlo (zv xs 1) (zv xs 2)) := hw
    rw [show kk = 0 from hw.1]
    refine lv_istore (lv' := [(5, .int (iz (0))), (0, .ref b), (1, .ref x), (2, .ref mm), (3, .ref ou), (4, .int (iz (0)))]) hx hb dL_law_2839 hl (by decide) rfl (fun ls hl => ?_)
    refine lv_aload_n hx hb dL_law_2841 rfl (lv_at hl 3 rfl) ?_
    refine lv_aload_n hx hb dL_law_2842 rfl (lv_at hl 1 rfl) ?_
    refine lv_iload hx hb dL_law_2843 (lv_at hl 5 rfl) ?_
    refine lv_iconst (v := iz (1)) hx hb dL_law_2845 rfl ?_
    refine zr_iadd hx hb dL_law_2846 ?_
    refine zr_sld hx hb hX hbl hbA hS 1 (by omega) (by omega) (by omega) dL_law_2847 ?_
    refine zr_i2l hx hb (x := zv xs 1) (⟨by omega, by omega⟩) dL_law_2848 ?_
    refine lv_bipush (v := iz (32)) hx hb dL_law_2849 rfl ?_
    refine zr_lshl32 hx hb dL_law_2851 ?_
    refine lv_aload_n hx hb dL_law_2852 rfl (lv_at hl 1 rfl) ?_
    refine lv_iload hx hb dL_law_2853 (lv_at hl 5 rfl) ?_
    refine lv_iconst (v := iz (2)) hx hb dL_law_2855 rfl ?_
    refine zr_iadd hx hb dL_law_2856 ?_
    refine zr_sld hx hb hX hbl hbA hS 2 (by omega) (by omega) (by omega) dL_law_2857 ?_
    refine zr_i2l hx hb (x := zv xs 2) (⟨by omega, by omega⟩) dL_law_2858 ?_
    refine zr_ldc2 (z := 4294967295) hx hb hown (hts (.constantLong RL 137 (4294967295)) (by decide +kernel)) rfl dL_law_2859 ?_
    refine zr_land32 hx hb dL_law_2862 ?_
    refine zr_lor32 hx hb dL_law_2863 ?_
    refine zc_l (wr := [(ou, zaL (G.2 0) 1 (fz))]) (va_runV (As := [.long (lz (zlo (zv xs 1) (zv xs 2)))]) (rest := []) ⟨hx, hb, hml, hown, hts⟩ (c_X12_untaxed_o l G mm ma mt ml mw mb mp 0 (zlo (zv xs 1) (zv xs 2)) (by omega) (by omega) H.size) (cwV 1 hts gL_law_X12_untaxed rfl rfl rfl (by decide +kernel) ⟨Nat.le_of_ble_eq_true rfl, Nat.le_of_ble_eq_true rfl⟩) (zpV hKX hP hD [0] rfl rfl 0 13 rfl rfl) rfl rfl hl.1 rfl (lv_room (Nat.le_of_ble_eq_true rfl)) dL_law_2864 ⟨(by show _ ≤ (600002 : Nat); omega), (by show _ ≤ (7302232 : Nat); omega)⟩) hP hD hS hA [0] [1] rfl rfl rfl (by decide) (fun zm u_3 H locs hm hP hD hS => ?_)
    generalize u_3 = thm at hP hD hm
    have hP : va_P G.1 vwCl [(ou, zaL (G.2 0) 1 (fz)), (mm, .inr (13, [.int (iz (thm)), .int (iz (6)), .ref ma, .null, .ref mt, .ref ml, .int (iz (0)), .ref mw, .int (iz (0)), .ref mb, .ref mp, .int (iz (0))]))] H := hP
    have hD : va_D (zlA s) [(ou, zaL (G.2 0) 1 (fz)), (mm, .inr (13, [.int (iz (thm)), .int (iz (6)), .ref ma, .null, .ref mt, .ref ml, .int (iz (0)), .ref mw, .int (iz (0)), .ref mb, .ref mp, .int (iz (0))]))] := hD
    have hm : zm = (zlo (zv xs 1) (zv xs 2)) ∧ thm = 0 := hm
    have htp := hm.2
    have hval := hw.2.trans hm.1.symm
    refine lv_lstore (lv' := [(6, .long (lz (zm))), (5, .int (iz (0))), (0, .ref b), (1, .ref x), (2, .ref mm), (3, .ref ou), (4, .int (iz (0)))]) hx hb dL_law_2867 hl (by decide) rfl (fun ls hl => ?_)
    refine lv_aload_n hx hb dL_law_2869 rfl (lv_at hl 4 rfl) ?_
    refine zc_i (wr := [(ou, zaL (G.2 0) 1 (fz))]) (va_runV (As := []) (rest := []) ⟨hx, hb, hml, hown, hts⟩ (c_X12_thrown_v l G mm thm (.ref ma) .null (.ref mt) (.ref ml) (.int (iz (0))) (.ref mw) (.int (iz (0))) (.ref mb) (.ref mp) (.int (iz (0))) 6  H.size) (cwV 0 hts gL_law_X12_thrown rfl rfl rfl (by decide +kernel) ⟨Nat.le_of_ble_eq_true rfl, Nat.le_of_ble_eq_true rfl⟩) (zpV hKX hP hD [1] rfl rfl 1 13 rfl rfl) rfl rfl hl.1 rfl (lv_room (Nat.le_of_ble_eq_true rfl)) dL_law_2870 ⟨(by show _ ≤ (600002 : Nat); omega), (by show _ ≤ (7302232 : Nat); omega)⟩) hP hD hS hA [1] [0] rfl rfl rfl (by decide) (fun th9 u_5 H locs hth hP hD hS => ?_)
    have hP : va_P G.1 vwCl [(ou, zaL (G.2 0) 1 (fz)), (mm, .inr (13, [.int (iz (thm)), .int (iz ((6 : Int))), .ref ma, .null, .ref mt, .ref ml, .int (iz (0)), .ref mw, .int (iz (0)), .ref mb, .ref mp, .int (iz (0))]))] H := hP
    have hD : va_D (zlA s) [(ou, zaL (G.2 0) 1 (fz)), (mm, .inr (13, [.int (iz (thm)), .int (iz ((6 : Int))), .ref ma, .null, .ref mt, .ref ml, .int (iz (0)), .ref mw, .int (iz (0)), .ref mb, .ref mp, .int (iz (0))]))] := hD
    have hth : th9 = thm := hth
    rw [show th9 = 0 from hth.trans htp]
    refine lv_iload hx hb dL_law_2873 (lv_at hl 1 rfl) ?_
    refine zr_icmp_eq (x := 0) (y := 0) (tgt := 2880) hx hb (⟨by omega, by omega⟩) (⟨by omega, by omega⟩) dL_law_2875 (by decide) (fun h_7 => ?_) (fun h_7 => ?_)
    ·
      refine lv_iload hx hb dL_law_2880 (lv_at hl 1 rfl) ?_
      refine zr_if_ne (x := 0) (tgt := 2896) hx hb (⟨by omega, by omega⟩) dL_law_2882 (by decide) (fun h_8 => ?_) (fun h_8 => ?_)
      · exact absurd h_8 (by omega)
      ·
        refine lv_aload_n hx hb dL_law_2885 rfl (lv_at hl 5 rfl) ?_
        refine lv_iconst (v := iz (0)) hx hb dL_law_2886 rfl ?_
        refine zr_lald hx hb hK hP 0 0 rfl rfl (i := 0) (⟨by omega, by omega, by omega⟩) dL_law_2887 ?_
        refine lv_lload hx hb dL_law_2888 (lv_at hl 0 rfl) ?_
        refine zr_lcmpS (x := fz 0) (y := zm) (tgt := 2896) hx hb (by first | exact hval | exact hval.symm) dL_law_2890 dL_law_2891 (by decide) ?_
        refine lv_goto (tgt := 3039) hx hb dL_law_2896 (by decide) ?_
        exact zl_end hL8 C0 hS (lv_sub hl [2, 6] rfl) (by show _ ≤ (600002 : Nat); omega) (by show _ ≤ (7302232 : Nat); omega)
    · exact absurd h_7 (by omega)
  ·
    refine lv_aload_n hx hb dL_law_2812 rfl (lv_at hl 1 rfl) ?_
    refine lv_aload_n hx hb dL_law_2813 rfl (lv_at hl 0 rfl) ?_
    refine lv_iload hx hb dL_law_2814 (lv_at hl 4 rfl) ?_
    refine lv_iconst (v := iz (1)) hx hb dL_law_2816 rfl ?_
    refine zr_iadd hx hb dL_law_2817 ?_
    refine zr_sld hx hb hX hbl hbA hS 1 (by omega) (by omega) (by omega) dL_law_2818 ?_
    refine zr_i2l hx hb (x := zv xs 1) (⟨by omega, by omega⟩) dL_law_2819 ?_
    refine lv_bipush (v := iz (32)) hx hb dL_law_2820 rfl ?_
    refine zr_lshl32 hx hb dL_law_2822 ?_
    refine lv_aload_n hx hb dL_law_2823 rfl (lv_at hl 0 rfl) ?_
    refine lv_iload hx hb dL_law_2824 (lv_at hl 4 rfl) ?_
    refine lv_iconst (v := iz (2)) hx hb dL_law_2826 rfl ?_
    refine zr_iadd hx hb dL_law_2827 ?_
    refine zr_sld hx hb hX hbl hbA hS 2 (by omega) (by omega) (by omega) dL_law_2828 ?_
    refine zr_i2l hx hb (x := zv xs 2) (⟨by omega, by omega⟩) dL_law_2829 ?_
    refine zr_ldc2 (z := 4294967295) hx hb hown (hts (.constantLong RL 137 (4294967295)) (by decide +kernel)) rfl dL_law_2830 ?_
    refine zr_land32 hx hb dL_law_2833 ?_
    refine zr_lor32 hx hb dL_law_2834 ?_
    refine lv_aload_n hx hb dL_law_2835 rfl (lv_at hl 3 rfl) ?_
    refine zc_i (wr := [(tx, .inr (8, [.ref fm, .ref pm, .int (iz (0))])), (mm, .inr (13, [.int (iz (0)), .int (iz (6)), .ref ma, .null, .ref mt, .ref ml, .int (iz (0)), .ref mw, .int (iz (0)), .ref mb, .ref mp, .int (iz (0))]))]) (vx_runSW (As := [.ref x, .long (lz (zlo (zv xs 1) (zv xs 2))), .ref ou]) (rest := []) ⟨hx, hb, hml, hown, hts⟩ (c_L_untaxed_x l G s1 s2 s3 x ro rw bo li sh tx lo nl (zlo (zv xs 1) (zv xs 2)) ou (fun _ => 0) hl0 (by omega) (by omega) H.size) (vx_cwSW 3 hts gL_law_L_untaxed rfl rfl rfl (by decide +kernel) ⟨Nat.le_of_ble_eq_true rfl, Nat.le_of_ble_eq_true rfl⟩) (zpSe zXL_ok hEc hS hA hKX hP hD [0, 2] rfl rfl) rfl rfl hl.1 rfl (lv_room (Nat.le_of_ble_eq_true rfl)) dL_law_2836 ⟨(by show _ ≤ (600002 : Nat); omega), (by show _ ≤ (7302232 : Nat); omega)⟩) hP hD hS hA [0, 2] [1, 3] rfl rfl rfl (by decide) (fun kk u_9 H locs hw hP hD hS => ?_)
    have hP : va_P G.1 vwCl [(tx, .inr (8, [.ref fm, .ref pm, .int (iz (0))])), (mm, .inr (13, [.int (iz (0)), .int (iz (6)), .ref ma, .null, .ref mt, .ref ml, .int (iz (0)), .ref mw, .int (iz (0)), .ref mb, .ref mp, .int (iz (0))])), (ou, zaL (G.2 0) 1 ((fun _ => 0)))] H := hP
    have hD : va_D (zlA s) [(tx, .inr (8, [.ref fm, .ref pm, .int (iz (0))])), (mm, .inr (13, [.int (iz (0)), .int (iz (6)), .ref ma, .null, .ref mt, .ref ml, .int (iz (0)), .ref mw, .int (iz (0)), .ref mb, .ref mp, .int (iz (0))])), (ou, zaL (G.2 0) 1 ((fun _ => 0)))] := hD
    have hw : kk = 1 := hw
    rw [show kk = 1 from hw]
    refine lv_istore (lv' := [(5, .int (iz (1))), (0, .ref b), (1, .ref x), (2, .ref mm), (3, .ref ou), (4, .int (iz (0)))]) hx hb dL_law_2839 hl (by decide) rfl (fun ls hl => ?_)
    refine lv_aload_n hx hb dL_law_2841 rfl (lv_at hl 3 rfl) ?_
    refine lv_aload_n hx hb dL_law_2842 rfl (lv_at hl 1 rfl) ?_
    refine lv_iload hx hb dL_law_2843 (lv_at hl 5 rfl) ?_
    refine lv_iconst (v := iz (1)) hx hb dL_law_2845 rfl ?_
    refine zr_iadd hx hb dL_law_2846 ?_
    refine zr_sld hx hb hX hbl hbA hS 1 (by omega) (by omega) (by omega) dL_law_2847 ?_
    refine zr_i2l hx hb (x := zv xs 1) (⟨by omega, by omega⟩) dL_law_2848 ?_
    refine lv_bipush (v := iz (32)) hx hb dL_law_2849 rfl ?_
    refine zr_lshl32 hx hb dL_law_2851 ?_
    refine lv_aload_n hx hb dL_law_2852 rfl (lv_at hl 1 rfl) ?_
    refine lv_iload hx hb dL_law_2853 (lv_at hl 5 rfl) ?_
    refine lv_iconst (v := iz (2)) hx hb dL_law_2855 rfl ?_
    refine zr_iadd hx hb dL_law_2856 ?_
    refine zr_sld hx hb hX hbl hbA hS 2 (by omega) (by omega) (by omega) dL_law_2857 ?_
    refine zr_i2l hx hb (x := zv xs 2) (⟨by omega, by omega⟩) dL_law_2858 ?_
    refine zr_ldc2 (z := 4294967295) hx hb hown (hts (.constantLong RL 137 (4294967295)) (by decide +kernel)) rfl dL_law_2859 ?_
    refine zr_land32 hx hb dL_law_2862 ?_
    refine zr_lor32 hx hb dL_law_2863 ?_
    refine zc_l (wr := [(tx, .inr (8, [.ref fm, .ref pm, .int (iz (0))])), (ou, zaL (G.2 0) 1 ((fun _ => 0)))]) (va_runV (As := [.long (lz (zlo (zv xs 1) (zv xs 2)))]) (rest := []) ⟨hx, hb, hml, hown, hts⟩ (c_X12_untaxed_x l G mm ma mt ml mw mb mp 0 (zlo (zv xs 1) (zv xs 2)) (by omega) (by omega) H.size) (cwV 1 hts gL_law_X12_untaxed rfl rfl rfl (by decide +kernel) ⟨Nat.le_of_ble_eq_true rfl, Nat.le_of_ble_eq_true rfl⟩) (zpV hKX hP hD [1] rfl rfl 1 13 rfl rfl) rfl rfl hl.1 rfl (lv_room (Nat.le_of_ble_eq_true rfl)) dL_law_2864 ⟨(by show _ ≤ (600002 : Nat); omega), (by show _ ≤ (7302232 : Nat); omega)⟩) hP hD hS hA [1] [0, 2] rfl rfl rfl (by decide) (fun zm u_11 H locs hm hP hD hS => ?_)
    generalize u_11 = thm at hP hD hm
    have hP : va_P G.1 vwCl [(tx, .inr (8, [.ref fm, .ref pm, .int (iz (0))])), (ou, zaL (G.2 0) 1 ((fun _ => 0))), (mm, .inr (13, [.int (iz (thm)), .int (iz (6)), .ref ma, .null, .ref mt, .ref ml, .int (iz (0)), .ref mw, .int (iz (0)), .ref mb, .ref mp, .int (iz (0))]))] H := hP
    have hD : va_D (zlA s) [(tx, .inr (8, [.ref fm, .ref pm, .int (iz (0))])), (ou, zaL (G.2 0) 1 ((fun _ => 0))), (mm, .inr (13, [.int (iz (thm)), .int (iz (6)), .ref ma, .null, .ref mt, .ref ml, .int (iz (0)), .ref mw, .int (iz (0)), .ref mb, .ref mp, .int (iz (0))]))] := hD
    have hm : zm = 0 ∧ thm = 1 := hm
    have htp := hm.2
    refine lv_lstore (lv' := [(6, .long (lz (zm))), (5, .int (iz (1))), (0, .ref b), (1, .ref x), (2, .ref mm), (3, .ref ou), (4, .int (iz (0)))]) hx hb dL_law_2867 hl (by decide) rfl (fun ls hl => ?_)
    refine lv_aload_n hx hb dL_law_2869 rfl (lv_at hl 4 rfl) ?_
    refine zc_i (wr := [(tx, .inr (8, [.ref fm, .ref pm, .int (iz (0))])), (ou, zaL (G.2 0) 1 ((fun _ => 0)))]) (va_runV (As := []) (rest := []) ⟨hx, hb, hml, hown, hts⟩ (c_X12_thrown_v l G mm thm (.ref ma) .null (.ref mt) (.ref ml) (.int (iz (0))) (.ref mw) (.int (iz (0))) (.ref mb) (.ref mp) (.int (iz (0))) 6  H.size) (cwV 0 hts gL_law_X12_thrown rfl rfl rfl (by decide +kernel) ⟨Nat.le_of_ble_eq_true rfl, Nat.le_of_ble_eq_true rfl⟩) (zpV hKX hP hD [2] rfl rfl 2 13 rfl rfl) rfl rfl hl.1 rfl (lv_room (Nat.le_of_ble_eq_true rfl)) dL_law_2870 ⟨(by show _ ≤ (600002 : Nat); omega), (by show _ ≤ (7302232 : Nat); omega)⟩) hP hD hS hA [2] [0, 1] rfl rfl rfl (by decide) (fun th9 u_13 H locs hth hP hD hS => ?_)
    have hP : va_P G.1 vwCl [(tx, .inr (8, [.ref fm, .ref pm, .int (iz (0))])), (ou, zaL (G.2 0) 1 ((fun _ => 0))), (mm, .inr (13, [.int (iz (thm)), .int (iz ((6 : Int))), .ref ma, .null, .ref mt, .ref ml, .int (iz (0)), .ref mw, .int (iz (0)), .ref mb, .ref mp, .int (iz (0))]))] H := hP
    have hD : va_D (zlA s) [(tx, .inr (8, [.ref fm, .ref pm, .int (iz (0))])), (ou, zaL (G.2 0) 1 ((fun _ => 0))), (mm, .inr (13, [.int (iz (thm)), .int (iz ((6 : Int))), .ref ma, .null, .ref mt, .ref ml, .int (iz (0)), .ref mw, .int (iz (0)), .ref mb, .ref mp, .int (iz (0))]))] := hD
    have hth : th9 = thm := hth
    rw [show th9 = 1 from hth.trans htp]
    refine lv_iload hx hb dL_law_2873 (lv_at hl 1 rfl) ?_
    refine zr_icmp_eq (x := 1) (y := 1) (tgt := 2880) hx hb (⟨by omega, by omega⟩) (⟨by omega, by omega⟩) dL_law_2875 (by decide) (fun h_15 => ?_) (fun h_15 => ?_)
    ·
      refine lv_iload hx hb dL_law_2880 (lv_at hl 1 rfl) ?_
      refine zr_if_ne (x := 1) (tgt := 2896) hx hb (⟨by omega, by omega⟩) dL_law_2882 (by decide) (fun h_16 => ?_) (fun h_16 => ?_)
      ·
        refine lv_goto (tgt := 3039) hx hb dL_law_2896 (by decide) ?_
        exact zl_end hL8 C0 hS (lv_sub hl [2, 6] rfl) (by show _ ≤ (600002 : Nat); omega) (by show _ ≤ (7302232 : Nat); omega)
      · exact absurd h_16 (by omega)
    · exact absurd h_15 (by omega)

set_option maxHeartbeats 4000000 in
set_option maxRecDepth 100000 in
theorem zl_34 {p : Program} {e : Env} {s : State} {m : MethodId} {below : List Frame} {meth : Method} {c : Code} {l : Launch} (hl0 : l.stackTraces = false) {b L : Nat} {xs : Nat → Int32} (hL8 : L = 8) (C0 : lw_At p s m meth c b L xs) {G : zG} {nA nB nE s1 s2 s3 : Nat} (hKX : zK G s) (hEm : zE G nA nB nE (zlA s) s) (hEc : zXL s1 s2 s3 (zlA s) s) (x : Nat) (ro : Nat) (rw : Nat) (bo : Nat) (li : Nat) (sh : Nat) (tx : Nat) (lo : Nat) (nl : Nat) (am : Nat) (q : Nat) (bq : Nat) (sa : Nat) (da : Nat) (wa : Nat) (sb : Nat) (db : Nat) (bsa : Nat) (bda : Nat) (bwa : Nat) (bsb : Nat) (bdb : Nat) (nr : Nat) (ne : Nat) (nh : Nat) (tb : Nat) (lq : Nat) (lv : Nat) (lf : Nat) (lg : Nat) (wt : Nat) (ou : Nat) (mm : Nat) (ma : Nat) (mt : Nat) (ml : Nat) (mw : Nat) (mb : Nat) (mp : Nat) {H : Heap} {locs : List Loc} {ls : Array Slot} (hP : va_P G.1 vwCl [(x, .inr (10, [.ref ro, .ref rw, .ref bo, .ref li, .ref sh, .ref tx, .ref lo, .ref nl])), (rw, .inr (6, [.ref am, .ref q, .ref bq])), (am, zaL (G.2 0) 41 (fun _ => 0)), (q, .inr (2, [.ref sa, .ref da, .ref wa, .long (lz (1)), .long (lz (1)), .int (iz (0))])), (sa, .inr (9, [.ref sb, .int (iz (0)), .long (lz (0))])), (sb, zaL (G.2 0) 40 (fun _ => 0)), (da, .inr (9, [.ref db, .int (iz (0)), .long (lz (0))])), (db, zaL (G.2 0) 40 (fun _ => 0)), (bq, .inr (2, [.ref bsa, .ref bda, .ref bwa, .long (lz (1)), .long (lz (1)), .int (iz (0))])), (bsa, .inr (9, [.ref bsb, .int (iz (0)), .long (lz (0))])), (bsb, zaL (G.2 0) 40 (fun _ => 0)), (bda, .inr (9, [.ref bdb, .int (iz (0)), .long (lz (0))])), (bdb, zaL (G.2 0) 40 (fun _ => 0)), (lo, .inr (4, [.ref nr, .ref ne, .ref nh, .ref tb, .ref lq, .long (lz (0)), .int (iz (0)), .int (iz (0))])), (li, .inr (3, [.ref lv, .ref lf, .ref lg, .int (iz (0))])), (sh, .inr (7, [.ref wt, .int (iz (0))])), (ou, zaL (G.2 0) 1 (fun _ => 0)), (mm, .inr (13, [.int (iz (0)), .int (iz (6)), .ref ma, .null, .ref mt, .ref ml, .int (iz (0)), .ref mw, .int (iz (0)), .ref mb, .ref mp, .int (iz (0))])), (ma, zaL (G.2 0) 41 (fun _ => 0))] H) (hD : va_D (zlA s) [(x, .inr (10, [.ref ro, .ref rw, .ref bo, .ref li, .ref sh, .ref tx, .ref lo, .ref nl])), (rw, .inr (6, [.ref am, .ref q, .ref bq])), (am, zaL (G.2 0) 41 (fun _ => 0)), (q, .inr (2, [.ref sa, .ref da, .ref wa, .long (lz (1)), .long (lz (1)), .int (iz (0))])), (sa, .inr (9, [.ref sb, .int (iz (0)), .long (lz (0))])), (sb, zaL (G.2 0) 40 (fun _ => 0)), (da, .inr (9, [.ref db, .int (iz (0)), .long (lz (0))])), (db, zaL (G.2 0) 40 (fun _ => 0)), (bq, .inr (2, [.ref bsa, .ref bda, .ref bwa, .long (lz (1)), .long (lz (1)), .int (iz (0))])), (bsa, .inr (9, [.ref bsb, .int (iz (0)), .long (lz (0))])), (bsb, zaL (G.2 0) 40 (fun _ => 0)), (bda, .inr (9, [.ref bdb, .int (iz (0)), .long (lz (0))])), (bdb, zaL (G.2 0) 40 (fun _ => 0)), (lo, .inr (4, [.ref nr, .ref ne, .ref nh, .ref tb, .ref lq, .long (lz (0)), .int (iz (0)), .int (iz (0))])), (li, .inr (3, [.ref lv, .ref lf, .ref lg, .int (iz (0))])), (sh, .inr (7, [.ref wt, .int (iz (0))])), (ou, zaL (G.2 0) 1 (fun _ => 0)), (mm, .inr (13, [.int (iz (0)), .int (iz (6)), .ref ma, .null, .ref mt, .ref ml, .int (iz (0)), .ref mw, .int (iz (0)), .ref mb, .ref mp, .int (iz (0))])), (ma, zaL (G.2 0) 41 (fun _ => 0))]) (hS : va_S (zlA s) s.heap H locs) (hl : lv_has ls 9 [(0, .ref b), (1, .ref x), (2, .ref mm), (3, .ref ou), (4, .int (iz (0)))]) : W p l e room_1 s m #[Value.ref b] below meth c H locs 200 4000 (lw_Z below #[Value.ref b] s) (F0 m 2899 ls []) := by
  obtain ⟨hx, hb, hr, hml, hown, hts, hX, hbl, hlocks, hgv⟩ := id C0
  have hbA : ¬ zlA s b := Nat.not_le.mpr hbl
  have hK := hKX.1
  have hts : ∀ w ∈ wsL_law, w.before #[Value.ref b] s = true := fun w h => hts w (wsL_law_in w h)
  have hown : s.vm.findClass RL = some m.cls := hown
  have hA : ∀ q : Nat, s.heap.size ≤ q → zlA s q := fun _ h => h
  have hE := hEm
  have hv1 := zv_rng xs 1
  have hv2 := zv_rng xs 2
  have hv3 := zv_rng xs 3
  have hv4 := zv_rng xs 4
  have hv5 := zv_rng xs 5
  have hv6 := zv_rng xs 6
  have hv7 := zv_rng xs 7
  by_cases hco0 : 0 ≤ (zv xs 1) ∧ (zv xs 1) ≤ 20000
  ·
    refine lv_aload_n hx hb dL_law_2899 rfl (lv_at hl 1 rfl) ?_
    refine lv_aload_n hx hb dL_law_2900 rfl (lv_at hl 0 rfl) ?_
    refine lv_iload hx hb dL_law_2901 (lv_at hl 4 rfl) ?_
    refine lv_iconst (v := iz (1)) hx hb dL_law_2903 rfl ?_
    refine zr_iadd hx hb dL_law_2904 ?_
    refine zr_sld hx hb hX hbl hbA hS 1 (by omega) (by omega) (by omega) dL_law_2905 ?_
    refine lv_aload_n hx hb dL_law_2906 rfl (lv_at hl 3 rfl) ?_
    refine zc_i (wr := [(mm, .inr (13, [.int (iz (0)), .int (iz (6)), .ref ma, .null, .ref mt, .ref ml, .int (iz (0)), .ref mw, .int (iz (0)), .ref mb, .ref mp, .int (iz (0))])), (ma, zaL (G.2 0) 41 (fun _ => 0))]) (vx_runSW (As := [.ref x, .int (iz (zv xs 1)), .ref ou]) (rest := []) ⟨hx, hb, hml, hown, hts⟩ (c_L_errors_o l G x ro rw bo li sh tx lo nl am q bq wa bwa sa sb da db bsa bsb bda bdb nr ne nh tb lq lv lf lg wt (zv xs 1) ou (fun _ => 0) (by omega) (by omega) H.size) (vx_cwSW 3 hts gL_law_L_errors rfl rfl rfl (by decide +kernel) ⟨Nat.le_of_ble_eq_true rfl, Nat.le_of_ble_eq_true rfl⟩) (zpS hKX hP hD [0, 1, 2, 3, 4, 5, 6, 7, 8, 9, 10, 11, 12, 13, 14, 15, 16] rfl rfl) rfl rfl hl.1 rfl (lv_room (Nat.le_of_ble_eq_true rfl)) dL_law_2907 ⟨(by show _ ≤ (600002 : Nat); omega), (by show _ ≤ (7302232 : Nat); omega)⟩) hP hD hS hA [0, 1, 2, 3, 4, 5, 6, 7, 8, 9, 10, 11, 12, 13, 14, 15, 16] [17, 18] rfl rfl rfl (by decide) (fun kk u_1 H locs hw hP hD hS => ?_)
    generalize u_1 = fz at hP hD hw
    have hP : va_P G.1 vwCl [(mm, .inr (13, [.int (iz (0)), .int (iz (6)), .ref ma, .null, .ref mt, .ref ml, .int (iz (0)), .ref mw, .int (iz (0)), .ref mb, .ref mp, .int (iz (0))])), (ma, zaL (G.2 0) 41 (fun _ => 0)), (ou, zaL (G.2 0) 1 (fz))] H := hP
    have hD : va_D (zlA s) [(mm, .inr (13, [.int (iz (0)), .int (iz (6)), .ref ma, .null, .ref mt, .ref ml, .int (iz (0)), .ref mw, .int (iz (0)), .ref mb, .ref mp, .int (iz (0))])), (ma, zaL (G.2 0) 41 (fun _ => 0)), (ou, zaL (G.2 0) 1 (fz))] := hD
    have hw : kk = 0 ∧ (fz 0) = 0 := hw
    rw [show kk = 0 from hw.1]
    refine lv_istore (lv' := [(5, .int (iz (0))), (0, .ref b), (1, .ref x), (2, .ref mm), (3, .ref ou), (4, .int (iz (0)))]) hx hb dL_law_2910 hl (by decide) rfl (fun ls hl => ?_)
    refine lv_aload_n hx hb dL_law_2912 rfl (lv_at hl 3 rfl) ?_
    refine lv_aload_n hx hb dL_law_2913 rfl (lv_at hl 1 rfl) ?_
    refine lv_iload hx hb dL_law_2914 (lv_at hl 5 rfl) ?_
    refine lv_iconst (v := iz (1)) hx hb dL_law_2916 rfl ?_
    refine zr_iadd hx hb dL_law_2917 ?_
    refine zr_sld hx hb hX hbl hbA hS 1 (by omega) (by omega) (by omega) dL_law_2918 ?_
    refine zc_i (wr := [(ou, zaL (G.2 0) 1 (fz))]) (va_runV (As := [.int (iz (zv xs 1))]) (rest := []) ⟨hx, hb, hml, hown, hts⟩ (c_X12_errors_o l G mm ma mt ml mw mb mp 0 (zv xs 1) (by omega) (by omega) H.size) (cwV 1 hts gL_law_X12_errors rfl rfl rfl (by decide +kernel) ⟨Nat.le_of_ble_eq_true rfl, Nat.le_of_ble_eq_true rfl⟩) (zpV hKX hP hD [0, 1] rfl rfl 0 13 rfl rfl) rfl rfl hl.1 rfl (lv_room (Nat.le_of_ble_eq_true rfl)) dL_law_2919 ⟨(by show _ ≤ (600002 : Nat); omega), (by show _ ≤ (7302232 : Nat); omega)⟩) hP hD hS hA [0, 1] [2] rfl rfl rfl (by decide) (fun zm u_3 H locs hm hP hD hS => ?_)
    generalize u_3 = thm at hP hD hm
    have hP : va_P G.1 vwCl [(ou, zaL (G.2 0) 1 (fz)), (mm, .inr (13, [.int (iz (thm)), .int (iz (6)), .ref ma, .null, .ref mt, .ref ml, .int (iz (0)), .ref mw, .int (iz (0)), .ref mb, .ref mp, .int (iz (0))]))] H := hP
    have hD : va_D (zlA s) [(ou, zaL (G.2 0) 1 (fz)), (mm, .inr (13, [.int (iz (thm)), .int (iz (6)), .ref ma, .null, .ref mt, .ref ml, .int (iz (0)), .ref mw, .int (iz (0)), .ref mb, .ref mp, .int (iz (0))]))] := hD
    have hm : zm = 0 ∧ thm = 0 := hm
    have htp := hm.2
    have hval := hw.2.trans hm.1.symm
    refine lv_istore (lv' := [(6, .int (iz (zm))), (5, .int (iz (0))), (0, .ref b), (1, .ref x), (2, .ref mm), (3, .ref ou), (4, .int (iz (0)))]) hx hb dL_law_2922 hl (by decide) rfl (fun ls hl => ?_)
    refine lv_aload_n hx hb dL_law_2924 rfl (lv_at hl 4 rfl) ?_
    refine zc_i (wr := [(ou, zaL (G.2 0) 1 (fz))]) (va_runV (As := []) (rest := []) ⟨hx, hb, hml, hown, hts⟩ (c_X12_thrown_v l G mm thm (.ref ma) .null (.ref mt) (.ref ml) (.int (iz (0))) (.ref mw) (.int (iz (0))) (.ref mb) (.ref mp) (.int (iz (0))) 6  H.size) (cwV 0 hts gL_law_X12_thrown rfl rfl rfl (by decide +kernel) ⟨Nat.le_of_ble_eq_true rfl, Nat.le_of_ble_eq_true rfl⟩) (zpV hKX hP hD [1] rfl rfl 1 13 rfl rfl) rfl rfl hl.1 rfl (lv_room (Nat.le_of_ble_eq_true rfl)) dL_law_2925 ⟨(by show _ ≤ (600002 : Nat); omega), (by show _ ≤ (7302232 : Nat); omega)⟩) hP hD hS hA [1] [0] rfl rfl rfl (by decide) (fun th9 u_5 H locs hth hP hD hS => ?_)
    have hP : va_P G.1 vwCl [(ou, zaL (G.2 0) 1 (fz)), (mm, .inr (13, [.int (iz (thm)), .int (iz ((6 : Int))), .ref ma, .null, .ref mt, .ref ml, .int (iz (0)), .ref mw, .int (iz (0)), .ref mb, .ref mp, .int (iz (0))]))] H := hP
    have hD : va_D (zlA s) [(ou, zaL (G.2 0) 1 (fz)), (mm, .inr (13, [.int (iz (thm)), .int (iz ((6 : Int))), .ref ma, .null, .ref mt, .ref ml, .int (iz (0)), .ref mw, .int (iz (0)), .ref mb, .ref mp, .int (iz (0))]))] := hD
    have hth : th9 = thm := hth
    rw [show th9 = 0 from hth.trans htp]
    refine lv_iload hx hb dL_law_2928 (lv_at hl 1 rfl) ?_
    refine zr_icmp_eq (x := 0) (y := 0) (tgt := 2935) hx hb (⟨by omega, by omega⟩) (⟨by omega, by omega⟩) dL_law_2930 (by decide) (fun h_7 => ?_) (fun h_7 => ?_)
    ·
      refine lv_iload hx hb dL_law_2935 (lv_at hl 1 rfl) ?_
      refine zr_if_ne (x := 0) (tgt := 2952) hx hb (⟨by omega, by omega⟩) dL_law_2937 (by decide) (fun h_8 => ?_) (fun h_8 => ?_)
      · exact absurd h_8 (by omega)
      ·
        refine lv_aload_n hx hb dL_law_2940 rfl (lv_at hl 5 rfl) ?_
        refine lv_iconst (v := iz (0)) hx hb dL_law_2941 rfl ?_
        refine zr_lald hx hb hK hP 0 0 rfl rfl (i := 0) (⟨by omega, by omega, by omega⟩) dL_law_2942 ?_
        refine lv_iload hx hb dL_law_2943 (lv_at hl 0 rfl) ?_
        refine zr_i2l hx hb (x := zm) (⟨by omega, by omega⟩) dL_law_2945 ?_
        refine zr_lcmpS (x := fz 0) (y := zm) (tgt := 2952) hx hb (by first | exact hval | exact hval.symm) dL_law_2946 dL_law_2947 (by decide) ?_
        refine lv_goto (tgt := 3039) hx hb dL_law_2952 (by decide) ?_
        exact zl_end hL8 C0 hS (lv_sub hl [2, 6] rfl) (by show _ ≤ (600002 : Nat); omega) (by show _ ≤ (7302232 : Nat); omega)
    · exact absurd h_7 (by omega)
  ·
    refine lv_aload_n hx hb dL_law_2899 rfl (lv_at hl 1 rfl) ?_
    refine lv_aload_n hx hb dL_law_2900 rfl (lv_at hl 0 rfl) ?_
    refine lv_iload hx hb dL_law_2901 (lv_at hl 4 rfl) ?_
    refine lv_iconst (v := iz (1)) hx hb dL_law_2903 rfl ?_
    refine zr_iadd hx hb dL_law_2904 ?_
    refine zr_sld hx hb hX hbl hbA hS 1 (by omega) (by omega) (by omega) dL_law_2905 ?_
    refine lv_aload_n hx hb dL_law_2906 rfl (lv_at hl 3 rfl) ?_
    refine zc_i (wr := [(rw, .inr (6, [.ref am, .ref q, .ref bq])), (am, zaL (G.2 0) 41 (fun _ => 0)), (q, .inr (2, [.ref sa, .ref da, .ref wa, .long (lz (1)), .long (lz (1)), .int (iz (0))])), (sa, .inr (9, [.ref sb, .int (iz (0)), .long (lz (0))])), (sb, zaL (G.2 0) 40 (fun _ => 0)), (da, .inr (9, [.ref db, .int (iz (0)), .long (lz (0))])), (db, zaL (G.2 0) 40 (fun _ => 0)), (bq, .inr (2, [.ref bsa, .ref bda, .ref bwa, .long (lz (1)), .long (lz (1)), .int (iz (0))])), (bsa, .inr (9, [.ref bsb, .int (iz (0)), .long (lz (0))])), (bsb, zaL (G.2 0) 40 (fun _ => 0)), (bda, .inr (9, [.ref bdb, .int (iz (0)), .long (lz (0))])), (bdb, zaL (G.2 0) 40 (fun _ => 0)), (lo, .inr (4, [.ref nr, .ref ne, .ref nh, .ref tb, .ref lq, .long (lz (0)), .int (iz (0)), .int (iz (0))])), (li, .inr (3, [.ref lv, .ref lf, .ref lg, .int (iz (0))])), (sh, .inr (7, [.ref wt, .int (iz (0))])), (mm, .inr (13, [.int (iz (0)), .int (iz (6)), .ref ma, .null, .ref mt, .ref ml, .int (iz (0)), .ref mw, .int (iz (0)), .ref mb, .ref mp, .int (iz (0))])), (ma, zaL (G.2 0) 41 (fun _ => 0))]) (vx_runSW (As := [.ref x, .int (iz (zv xs 1)), .ref ou]) (rest := []) ⟨hx, hb, hml, hown, hts⟩ (c_L_errors_x l G s1 s2 s3 x ro rw bo li sh tx lo nl (zv xs 1) ou (fun _ => 0) hl0 (by omega) (by omega) H.size) (vx_cwSW 3 hts gL_law_L_errors rfl rfl rfl (by decide +kernel) ⟨Nat.le_of_ble_eq_true rfl, Nat.le_of_ble_eq_true rfl⟩) (zpSe zXL_ok hEc hS hA hKX hP hD [0, 16] rfl rfl) rfl rfl hl.1 rfl (lv_room (Nat.le_of_ble_eq_true rfl)) dL_law_2907 ⟨(by show _ ≤ (600002 : Nat); omega), (by show _ ≤ (7302232 : Nat); omega)⟩) hP hD hS hA [0, 16] [1, 2, 3, 4, 5, 6, 7, 8, 9, 10, 11, 12, 13, 14, 15, 17, 18] rfl rfl rfl (by decide) (fun kk u_9 H locs hw hP hD hS => ?_)
    have hP : va_P G.1 vwCl [(rw, .inr (6, [.ref am, .ref q, .ref bq])), (am, zaL (G.2 0) 41 (fun _ => 0)), (q, .inr (2, [.ref sa, .ref da, .ref wa, .long (lz (1)), .long (lz (1)), .int (iz (0))])), (sa, .inr (9, [.ref sb, .int (iz (0)), .long (lz (0))])), (sb, zaL (G.2 0) 40 (fun _ => 0)), (da, .inr (9, [.ref db, .int (iz (0)), .long (lz (0))])), (db, zaL (G.2 0) 40 (fun _ => 0)), (bq, .inr (2, [.ref bsa, .ref bda, .ref bwa, .long (lz (1)), .long (lz (1)), .int (iz (0))])), (bsa, .inr (9, [.ref bsb, .int (iz (0)), .long (lz (0))])), (bsb, zaL (G.2 0) 40 (fun _ => 0)), (bda, .inr (9, [.ref bdb, .int (iz (0)), .long (lz (0))])), (bdb, zaL (G.2 0) 40 (fun _ => 0)), (lo, .inr (4, [.ref nr, .ref ne, .ref nh, .ref tb, .ref lq, .long (lz (0)), .int (iz (0)), .int (iz (0))])), (li, .inr (3, [.ref lv, .ref lf, .ref lg, .int (iz (0))])), (sh, .inr (7, [.ref wt, .int (iz (0))])), (mm, .inr (13, [.int (iz (0)), .int (iz (6)), .ref ma, .null, .ref mt, .ref ml, .int (iz (0)), .ref mw, .int (iz (0)), .ref mb, .ref mp, .int (iz (0))])), (ma, zaL (G.2 0) 41 (fun _ => 0)), (ou, zaL (G.2 0) 1 ((fun _ => 0)))] H := hP
    have hD : va_D (zlA s) [(rw, .inr (6, [.ref am, .ref q, .ref bq])), (am, zaL (G.2 0) 41 (fun _ => 0)), (q, .inr (2, [.ref sa, .ref da, .ref wa, .long (lz (1)), .long (lz (1)), .int (iz (0))])), (sa, .inr (9, [.ref sb, .int (iz (0)), .long (lz (0))])), (sb, zaL (G.2 0) 40 (fun _ => 0)), (da, .inr (9, [.ref db, .int (iz (0)), .long (lz (0))])), (db, zaL (G.2 0) 40 (fun _ => 0)), (bq, .inr (2, [.ref bsa, .ref bda, .ref bwa, .long (lz (1)), .long (lz (1)), .int (iz (0))])), (bsa, .inr (9, [.ref bsb, .int (iz (0)), .long (lz (0))])), (bsb, zaL (G.2 0) 40 (fun _ => 0)), (bda, .inr (9, [.ref bdb, .int (iz (0)), .long (lz (0))])), (bdb, zaL (G.2 0) 40 (fun _ => 0)), (lo, .inr (4, [.ref nr, .ref ne, .ref nh, .ref tb, .ref lq, .long (lz (0)), .int (iz (0)), .int (iz (0))])), (li, .inr (3, [.ref lv, .ref lf, .ref lg, .int (iz (0))])), (sh, .inr (7, [.ref wt, .int (iz (0))])), (mm, .inr (13, [.int (iz (0)), .int (iz (6)), .ref ma, .null, .ref mt, .ref ml, .int (iz (0)), .ref mw, .int (iz (0)), .ref mb, .ref mp, .int (iz (0))])), (ma, zaL (G.2 0) 41 (fun _ => 0)), (ou, zaL (G.2 0) 1 ((fun _ => 0)))] := hD
    have hw : kk = 1 := hw
    rw [show kk = 1 from hw]
    refine lv_istore (lv' := [(5, .int (iz (1))), (0, .ref b), (1, .ref x), (2, .ref mm), (3, .ref ou), (4, .int (iz (0)))]) hx hb dL_law_2910 hl (by decide) rfl (fun ls hl => ?_)
    refine lv_aload_n hx hb dL_law_2912 rfl (lv_at hl 3 rfl) ?_
    refine lv_aload_n hx hb dL_law_2913 rfl (lv_at hl 1 rfl) ?_
    refine lv_iload hx hb dL_law_2914 (lv_at hl 5 rfl) ?_
    refine lv_iconst (v := iz (1)) hx hb dL_law_2916 rfl ?_
    refine zr_iadd hx hb dL_law_2917 ?_
    refine zr_sld hx hb hX hbl hbA hS 1 (by omega) (by omega) (by omega) dL_law_2918 ?_
    refine zc_i (wr := [(rw, .inr (6, [.ref am, .ref q, .ref bq])), (am, zaL (G.2 0) 41 (fun _ => 0)), (q, .inr (2, [.ref sa, .ref da, .ref wa, .long (lz (1)), .long (lz (1)), .int (iz (0))])), (sa, .inr (9, [.ref sb, .int (iz (0)), .long (lz (0))])), (sb, zaL (G.2 0) 40 (fun _ => 0)), (da, .inr (9, [.ref db, .int (iz (0)), .long (lz (0))])), (db, zaL (G.2 0) 40 (fun _ => 0)), (bq, .inr (2, [.ref bsa, .ref bda, .ref bwa, .long (lz (1)), .long (lz (1)), .int (iz (0))])), (bsa, .inr (9, [.ref bsb, .int (iz (0)), .long (lz (0))])), (bsb, zaL (G.2 0) 40 (fun _ => 0)), (bda, .inr (9, [.ref bdb, .int (iz (0)), .long (lz (0))])), (bdb, zaL (G.2 0) 40 (fun _ => 0)), (lo, .inr (4, [.ref nr, .ref ne, .ref nh, .ref tb, .ref lq, .long (lz (0)), .int (iz (0)), .int (iz (0))])), (li, .inr (3, [.ref lv, .ref lf, .ref lg, .int (iz (0))])), (sh, .inr (7, [.ref wt, .int (iz (0))])), (ou, zaL (G.2 0) 1 ((fun _ => 0)))]) (va_runV (As := [.int (iz (zv xs 1))]) (rest := []) ⟨hx, hb, hml, hown, hts⟩ (c_X12_errors_x l G mm ma mt ml mw mb mp 0 (zv xs 1) (by omega) (by omega) H.size) (cwV 1 hts gL_law_X12_errors rfl rfl rfl (by decide +kernel) ⟨Nat.le_of_ble_eq_true rfl, Nat.le_of_ble_eq_true rfl⟩) (zpV hKX hP hD [15, 16] rfl rfl 15 13 rfl rfl) rfl rfl hl.1 rfl (lv_room (Nat.le_of_ble_eq_true rfl)) dL_law_2919 ⟨(by show _ ≤ (600002 : Nat); omega), (by show _ ≤ (7302232 : Nat); omega)⟩) hP hD hS hA [15, 16] [0, 1, 2, 3, 4, 5, 6, 7, 8, 9, 10, 11, 12, 13, 14, 17] rfl rfl rfl (by decide) (fun zm u_11 H locs hm hP hD hS => ?_)
    generalize u_11 = thm at hP hD hm
    have hP : va_P G.1 vwCl [(rw, .inr (6, [.ref am, .ref q, .ref bq])), (am, zaL (G.2 0) 41 (fun _ => 0)), (q, .inr (2, [.ref sa, .ref da, .ref wa, .long (lz (1)), .long (lz (1)), .int (iz (0))])), (sa, .inr (9, [.ref sb, .int (iz (0)), .long (lz (0))])), (sb, zaL (G.2 0) 40 (fun _ => 0)), (da, .inr (9, [.ref db, .int (iz (0)), .long (lz (0))])), (db, zaL (G.2 0) 40 (fun _ => 0)), (bq, .inr (2, [.ref bsa, .ref bda, .ref bwa, .long (lz (1)), .long (lz (1)), .int (iz (0))])), (bsa, .inr (9, [.ref bsb, .int (iz (0)), .long (lz (0))])), (bsb, zaL (G.2 0) 40 (fun _ => 0)), (bda, .inr (9, [.ref bdb, .int (iz (0)), .long (lz (0))])), (bdb, zaL (G.2 0) 40 (fun _ => 0)), (lo, .inr (4, [.ref nr, .ref ne, .ref nh, .ref tb, .ref lq, .long (lz (0)), .int (iz (0)), .int (iz (0))])), (li, .inr (3, [.ref lv, .ref lf, .ref lg, .int (iz (0))])), (sh, .inr (7, [.ref wt, .int (iz (0))])), (ou, zaL (G.2 0) 1 ((fun _ => 0))), (mm, .inr (13, [.int (iz (thm)), .int (iz (6)), .ref ma, .null, .ref mt, .ref ml, .int (iz (0)), .ref mw, .int (iz (0)), .ref mb, .ref mp, .int (iz (0))]))] H := hP
    have hD : va_D (zlA s) [(rw, .inr (6, [.ref am, .ref q, .ref bq])), (am, zaL (G.2 0) 41 (fun _ => 0)), (q, .inr (2, [.ref sa, .ref da, .ref wa, .long (lz (1)), .long (lz (1)), .int (iz (0))])), (sa, .inr (9, [.ref sb, .int (iz (0)), .long (lz (0))])), (sb, zaL (G.2 0) 40 (fun _ => 0)), (da, .inr (9, [.ref db, .int (iz (0)), .long (lz (0))])), (db, zaL (G.2 0) 40 (fun _ => 0)), (bq, .inr (2, [.ref bsa, .ref bda, .ref bwa, .long (lz (1)), .long (lz (1)), .int (iz (0))])), (bsa, .inr (9, [.ref bsb, .int (iz (0)), .long (lz (0))])), (bsb, zaL (G.2 0) 40 (fun _ => 0)), (bda, .inr (9, [.ref bdb, .int (iz (0)), .long (lz (0))])), (bdb, zaL (G.2 0) 40 (fun _ => 0)), (lo, .inr (4, [.ref nr, .ref ne, .ref nh, .ref tb, .ref lq, .long (lz (0)), .int (iz (0)), .int (iz (0))])), (li, .inr (3, [.ref lv, .ref lf, .ref lg, .int (iz (0))])), (sh, .inr (7, [.ref wt, .int (iz (0))])), (ou, zaL (G.2 0) 1 ((fun _ => 0))), (mm, .inr (13, [.int (iz (thm)), .int (iz (6)), .ref ma, .null, .ref mt, .ref ml, .int (iz (0)), .ref mw, .int (iz (0)), .ref mb, .ref mp, .int (iz (0))]))] := hD
    have hm : zm = 0 ∧ thm = 1 := hm
    have htp := hm.2
    refine lv_istore (lv' := [(6, .int (iz (zm))), (5, .int (iz (1))), (0, .ref b), (1, .ref x), (2, .ref mm), (3, .ref ou), (4, .int (iz (0)))]) hx hb dL_law_2922 hl (by decide) rfl (fun ls hl => ?_)
    refine lv_aload_n hx hb dL_law_2924 rfl (lv_at hl 4 rfl) ?_
    refine zc_i (wr := [(rw, .inr (6, [.ref am, .ref q, .ref bq])), (am, zaL (G.2 0) 41 (fun _ => 0)), (q, .inr (2, [.ref sa, .ref da, .ref wa, .long (lz (1)), .long (lz (1)), .int (iz (0))])), (sa, .inr (9, [.ref sb, .int (iz (0)), .long (lz (0))])), (sb, zaL (G.2 0) 40 (fun _ => 0)), (da, .inr (9, [.ref db, .int (iz (0)), .long (lz (0))])), (db, zaL (G.2 0) 40 (fun _ => 0)), (bq, .inr (2, [.ref bsa, .ref bda, .ref bwa, .long (lz (1)), .long (lz (1)), .int (iz (0))])), (bsa, .inr (9, [.ref bsb, .int (iz (0)), .long (lz (0))])), (bsb, zaL (G.2 0) 40 (fun _ => 0)), (bda, .inr (9, [.ref bdb, .int (iz (0)), .long (lz (0))])), (bdb, zaL (G.2 0) 40 (fun _ => 0)), (lo, .inr (4, [.ref nr, .ref ne, .ref nh, .ref tb, .ref lq, .long (lz (0)), .int (iz (0)), .int (iz (0))])), (li, .inr (3, [.ref lv, .ref lf, .ref lg, .int (iz (0))])), (sh, .inr (7, [.ref wt, .int (iz (0))])), (ou, zaL (G.2 0) 1 ((fun _ => 0)))]) (va_runV (As := []) (rest := []) ⟨hx, hb, hml, hown, hts⟩ (c_X12_thrown_v l G mm thm (.ref ma) .null (.ref mt) (.ref ml) (.int (iz (0))) (.ref mw) (.int (iz (0))) (.ref mb) (.ref mp) (.int (iz (0))) 6  H.size) (cwV 0 hts gL_law_X12_thrown rfl rfl rfl (by decide +kernel) ⟨Nat.le_of_ble_eq_true rfl, Nat.le_of_ble_eq_true rfl⟩) (zpV hKX hP hD [16] rfl rfl 16 13 rfl rfl) rfl rfl hl.1 rfl (lv_room (Nat.le_of_ble_eq_true rfl)) dL_law_2925 ⟨(by show _ ≤ (600002 : Nat); omega), (by show _ ≤ (7302232 : Nat); omega)⟩) hP hD hS hA [16] [0, 1, 2, 3, 4, 5, 6, 7, 8, 9, 10, 11, 12, 13, 14, 15] rfl rfl rfl (by decide) (fun th9 u_13 H locs hth hP hD hS => ?_)
    have hP : va_P G.1 vwCl [(rw, .inr (6, [.ref am, .ref q, .ref bq])), (am, zaL (G.2 0) 41 (fun _ => 0)), (q, .inr (2, [.ref sa, .ref da, .ref wa, .long (lz (1)), .long (lz (1)), .int (iz (0))])), (sa, .inr (9, [.ref sb, .int (iz (0)), .long (lz (0))])), (sb, zaL (G.2 0) 40 (fun _ => 0)), (da, .inr (9, [.ref db, .int (iz (0)), .long (lz (0))])), (db, zaL (G.2 0) 40 (fun _ => 0)), (bq, .inr (2, [.ref bsa, .ref bda, .ref bwa, .long (lz (1)), .long (lz (1)), .int (iz (0))])), (bsa, .inr (9, [.ref bsb, .int (iz (0)), .long (lz (0))])), (bsb, zaL (G.2 0) 40 (fun _ => 0)), (bda, .inr (9, [.ref bdb, .int (iz (0)), .long (lz (0))])), (bdb, zaL (G.2 0) 40 (fun _ => 0)), (lo, .inr (4, [.ref nr, .ref ne, .ref nh, .ref tb, .ref lq, .long (lz (0)), .int (iz (0)), .int (iz (0))])), (li, .inr (3, [.ref lv, .ref lf, .ref lg, .int (iz (0))])), (sh, .inr (7, [.ref wt, .int (iz (0))])), (ou, zaL (G.2 0) 1 ((fun _ => 0))), (mm, .inr (13, [.int (iz (thm)), .int (iz ((6 : Int))), .ref ma, .null, .ref mt, .ref ml, .int (iz (0)), .ref mw, .int (iz (0)), .ref mb, .ref mp, .int (iz (0))]))] H := hP
    have hD : va_D (zlA s) [(rw, .inr (6, [.ref am, .ref q, .ref bq])), (am, zaL (G.2 0) 41 (fun _ => 0)), (q, .inr (2, [.ref sa, .ref da, .ref wa, .long (lz (1)), .long (lz (1)), .int (iz (0))])), (sa, .inr (9, [.ref sb, .int (iz (0)), .long (lz (0))])), (sb, zaL (G.2 0) 40 (fun _ => 0)), (da, .inr (9, [.ref db, .int (iz (0)), .long (lz (0))])), (db, zaL (G.2 0) 40 (fun _ => 0)), (bq, .inr (2, [.ref bsa, .ref bda, .ref bwa, .long (lz (1)), .long (lz (1)), .int (iz (0))])), (bsa, .inr (9, [.ref bsb, .int (iz (0)), .long (lz (0))])), (bsb, zaL (G.2 0) 40 (fun _ => 0)), (bda, .inr (9, [.ref bdb, .int (iz (0)), .long (lz (0))])), (bdb, zaL (G.2 0) 40 (fun _ => 0)), (lo, .inr (4, [.ref nr, .ref ne, .ref nh, .ref tb, .ref lq, .long (lz (0)), .int (iz (0)), .int (iz (0))])), (li, .inr (3, [.ref lv, .ref lf, .ref lg, .int (iz (0))])), (sh, .inr (7, [.ref wt, .int (iz (0))])), (ou, zaL (G.2 0) 1 ((fun _ => 0))), (mm, .inr (13, [.int (iz (thm)), .int (iz ((6 : Int))), .ref ma, .null, .ref mt, .ref ml, .int (iz (0)), .ref mw, .int (iz (0)), .ref mb, .ref mp, .int (iz (0))]))] := hD
    have hth : th9 = thm := hth
    rw [show th9 = 1 from hth.trans htp]
    refine lv_iload hx hb dL_law_2928 (lv_at hl 1 rfl) ?_
    refine zr_icmp_eq (x := 1) (y := 1) (tgt := 2935) hx hb (⟨by omega, by omega⟩) (⟨by omega, by omega⟩) dL_law_2930 (by decide) (fun h_15 => ?_) (fun h_15 => ?_)
    ·
      refine lv_iload hx hb dL_law_2935 (lv_at hl 1 rfl) ?_
      refine zr_if_ne (x := 1) (tgt := 2952) hx hb (⟨by omega, by omega⟩) dL_law_2937 (by decide) (fun h_16 => ?_) (fun h_16 => ?_)
      ·
        refine lv_goto (tgt := 3039) hx hb dL_law_2952 (by decide) ?_
        exact zl_end hL8 C0 hS (lv_sub hl [2, 6] rfl) (by show _ ≤ (600002 : Nat); omega) (by show _ ≤ (7302232 : Nat); omega)
      · exact absurd h_16 (by omega)
    · exact absurd h_15 (by omega)

set_option maxHeartbeats 4000000 in
set_option maxRecDepth 100000 in
theorem zl_35 {p : Program} {e : Env} {s : State} {m : MethodId} {below : List Frame} {meth : Method} {c : Code} {l : Launch} (hl0 : l.stackTraces = false) {b L : Nat} {xs : Nat → Int32} (hL8 : L = 8) (C0 : lw_At p s m meth c b L xs) {G : zG} {nA nB nE s1 s2 s3 : Nat} (hKX : zK G s) (hEm : zE G nA nB nE (zlA s) s) (hEc : zXL s1 s2 s3 (zlA s) s) (x : Nat) (ro : Nat) (rw : Nat) (bo : Nat) (li : Nat) (sh : Nat) (tx : Nat) (lo : Nat) (nl : Nat) (am : Nat) (q : Nat) (bq : Nat) (ou : Nat) (mm : Nat) (ma : Nat) (mt : Nat) (ml : Nat) (mw : Nat) (mb : Nat) (mp : Nat) {H : Heap} {locs : List Loc} {ls : Array Slot} (hP : va_P G.1 vwCl [(x, .inr (10, [.ref ro, .ref rw, .ref bo, .ref li, .ref sh, .ref tx, .ref lo, .ref nl])), (rw, .inr (6, [.ref am, .ref q, .ref bq])), (am, zaL (G.2 0) 41 (fun _ => 0)), (ou, zaL (G.2 0) 1 (fun _ => 0)), (mm, .inr (13, [.int (iz (0)), .int (iz (6)), .ref ma, .null, .ref mt, .ref ml, .int (iz (0)), .ref mw, .int (iz (0)), .ref mb, .ref mp, .int (iz (0))])), (ma, zaL (G.2 0) 41 (fun _ => 0))] H) (hD : va_D (zlA s) [(x, .inr (10, [.ref ro, .ref rw, .ref bo, .ref li, .ref sh, .ref tx, .ref lo, .ref nl])), (rw, .inr (6, [.ref am, .ref q, .ref bq])), (am, zaL (G.2 0) 41 (fun _ => 0)), (ou, zaL (G.2 0) 1 (fun _ => 0)), (mm, .inr (13, [.int (iz (0)), .int (iz (6)), .ref ma, .null, .ref mt, .ref ml, .int (iz (0)), .ref mw, .int (iz (0)), .ref mb, .ref mp, .int (iz (0))])), (ma, zaL (G.2 0) 41 (fun _ => 0))]) (hS : va_S (zlA s) s.heap H locs) (hl : lv_has ls 9 [(0, .ref b), (1, .ref x), (2, .ref mm), (3, .ref ou), (4, .int (iz (0)))]) : W p l e room_1 s m #[Value.ref b] below meth c H locs 200 4000 (lw_Z below #[Value.ref b] s) (F0 m 2955 ls []) := by
  obtain ⟨hx, hb, hr, hml, hown, hts, hX, hbl, hlocks, hgv⟩ := id C0
  have hbA : ¬ zlA s b := Nat.not_le.mpr hbl
  have hK := hKX.1
  have hts : ∀ w ∈ wsL_law, w.before #[Value.ref b] s = true := fun w h => hts w (wsL_law_in w h)
  have hown : s.vm.findClass RL = some m.cls := hown
  have hA : ∀ q : Nat, s.heap.size ≤ q → zlA s q := fun _ h => h
  have hE := hEm
  have hv1 := zv_rng xs 1
  have hv2 := zv_rng xs 2
  have hv3 := zv_rng xs 3
  have hv4 := zv_rng xs 4
  have hv5 := zv_rng xs 5
  have hv6 := zv_rng xs 6
  have hv7 := zv_rng xs 7
  refine lv_aload_n hx hb dL_law_2955 rfl (lv_at hl 1 rfl) ?_
  refine zc_d (wr := [(ou, zaL (G.2 0) 1 (fun _ => 0)), (mm, .inr (13, [.int (iz (0)), .int (iz (6)), .ref ma, .null, .ref mt, .ref ml, .int (iz (0)), .ref mw, .int (iz (0)), .ref mb, .ref mp, .int (iz (0))])), (ma, zaL (G.2 0) 41 (fun _ => 0))]) (va_runV (As := []) (rest := []) ⟨hx, hb, hml, hown, hts⟩ (c_X9_meanAmount l G x ro rw bo li sh tx lo nl am q bq  H.size) (cwV 0 hts gL_law_X9_meanAmount rfl rfl rfl (by decide +kernel) ⟨Nat.le_of_ble_eq_true rfl, Nat.le_of_ble_eq_true rfl⟩) (zpV hKX hP hD [0, 1, 2] rfl rfl 0 10 rfl rfl) rfl rfl hl.1 rfl (lv_room (Nat.le_of_ble_eq_true rfl)) dL_law_2956 ⟨(by show _ ≤ (600002 : Nat); omega), (by show _ ≤ (7302232 : Nat); omega)⟩) hP hD hS hA [0, 1, 2] [3, 4, 5] rfl rfl rfl (by decide) (fun zw u_1 H locs hw hP hD hS => ?_)
  have hP : va_P G.1 vwCl [(ou, zaL (G.2 0) 1 (fun _ => 0)), (mm, .inr (13, [.int (iz (0)), .int (iz (6)), .ref ma, .null, .ref mt, .ref ml, .int (iz (0)), .ref mw, .int (iz (0)), .ref mb, .ref mp, .int (iz (0))])), (ma, zaL (G.2 0) 41 (fun _ => 0)), (x, .inr (10, [.ref ro, .ref rw, .ref bo, .ref li, .ref sh, .ref tx, .ref lo, .ref nl])), (rw, .inr (6, [.ref am, .ref q, .ref bq])), (am, zaL (G.2 0) 41 (fun _ => 0))] H := hP
  have hD : va_D (zlA s) [(ou, zaL (G.2 0) 1 (fun _ => 0)), (mm, .inr (13, [.int (iz (0)), .int (iz (6)), .ref ma, .null, .ref mt, .ref ml, .int (iz (0)), .ref mw, .int (iz (0)), .ref mb, .ref mp, .int (iz (0))])), (ma, zaL (G.2 0) 41 (fun _ => 0)), (x, .inr (10, [.ref ro, .ref rw, .ref bo, .ref li, .ref sh, .ref tx, .ref lo, .ref nl])), (rw, .inr (6, [.ref am, .ref q, .ref bq])), (am, zaL (G.2 0) 41 (fun _ => 0))] := hD
  have hw : zw = FP.dconst0 := hw
  rw [show zw = FP.dconst0 from hw]
  refine lv_dstore (lv' := [(5, .double FP.dconst0), (0, .ref b), (1, .ref x), (2, .ref mm), (3, .ref ou), (4, .int (iz (0)))]) hx hb dL_law_2959 hl (by decide) rfl (fun ls hl => ?_)
  refine lv_aload_n hx hb dL_law_2961 rfl (lv_at hl 3 rfl) ?_
  refine zc_d (wr := [(ou, zaL (G.2 0) 1 (fun _ => 0)), (x, .inr (10, [.ref ro, .ref rw, .ref bo, .ref li, .ref sh, .ref tx, .ref lo, .ref nl])), (rw, .inr (6, [.ref am, .ref q, .ref bq])), (am, zaL (G.2 0) 41 (fun _ => 0))]) (va_runV (As := []) (rest := []) ⟨hx, hb, hml, hown, hts⟩ (c_X12_meanAmount l G mm ma mt ml mw mb mp 0  H.size) (cwV 0 hts gL_law_X12_meanAmount rfl rfl rfl (by decide +kernel) ⟨Nat.le_of_ble_eq_true rfl, Nat.le_of_ble_eq_true rfl⟩) (zpV hKX hP hD [1, 2] rfl rfl 1 13 rfl rfl) rfl rfl hl.1 rfl (lv_room (Nat.le_of_ble_eq_true rfl)) dL_law_2962 ⟨(by show _ ≤ (600002 : Nat); omega), (by show _ ≤ (7302232 : Nat); omega)⟩) hP hD hS hA [1, 2] [0, 3, 4, 5] rfl rfl rfl (by decide) (fun zm u_3 H locs hm hP hD hS => ?_)
  generalize u_3 = thm at hP hD hm
  have hP : va_P G.1 vwCl [(ou, zaL (G.2 0) 1 (fun _ => 0)), (x, .inr (10, [.ref ro, .ref rw, .ref bo, .ref li, .ref sh, .ref tx, .ref lo, .ref nl])), (rw, .inr (6, [.ref am, .ref q, .ref bq])), (am, zaL (G.2 0) 41 (fun _ => 0)), (mm, .inr (13, [.int (iz (thm)), .int (iz (6)), .ref ma, .null, .ref mt, .ref ml, .int (iz (0)), .ref mw, .int (iz (0)), .ref mb, .ref mp, .int (iz (0))]))] H := hP
  have hD : va_D (zlA s) [(ou, zaL (G.2 0) 1 (fun _ => 0)), (x, .inr (10, [.ref ro, .ref rw, .ref bo, .ref li, .ref sh, .ref tx, .ref lo, .ref nl])), (rw, .inr (6, [.ref am, .ref q, .ref bq])), (am, zaL (G.2 0) 41 (fun _ => 0)), (mm, .inr (13, [.int (iz (thm)), .int (iz (6)), .ref ma, .null, .ref mt, .ref ml, .int (iz (0)), .ref mw, .int (iz (0)), .ref mb, .ref mp, .int (iz (0))]))] := hD
  have hm : zm = FP.dconst0 ∧ thm = 0 := hm
  have htp := hm.2
  rw [show zm = FP.dconst0 from hm.1]
  refine lv_dstore (lv' := [(7, .double FP.dconst0), (5, .double FP.dconst0), (0, .ref b), (1, .ref x), (2, .ref mm), (3, .ref ou), (4, .int (iz (0)))]) hx hb dL_law_2965 hl (by decide) rfl (fun ls hl => ?_)
  refine lv_dload hx hb dL_law_2967 (lv_at hl 1 rfl) ?_
  refine lv_dload hx hb dL_law_2969 (lv_at hl 0 rfl) ?_
  refine zr_dcmp0 hx hb dL_law_2971 (by decide +kernel) ?_
  refine zr_if_eq (x := 0) (tgt := 2993) hx hb (⟨by omega, by omega⟩) dL_law_2972 (by decide) (fun h_5 => ?_) (fun h_5 => ?_)
  ·
    refine lv_goto (tgt := 3039) hx hb dL_law_2993 (by decide) ?_
    exact zl_end hL8 C0 hS (lv_sub hl [2, 6] rfl) (by show _ ≤ (600002 : Nat); omega) (by show _ ≤ (7302232 : Nat); omega)
  · exact absurd h_5 (by omega)

set_option maxHeartbeats 4000000 in
set_option maxRecDepth 100000 in
theorem zl_36 {p : Program} {e : Env} {s : State} {m : MethodId} {below : List Frame} {meth : Method} {c : Code} {l : Launch} (hl0 : l.stackTraces = false) {b L : Nat} {xs : Nat → Int32} (hL8 : L = 8) (C0 : lw_At p s m meth c b L xs) {G : zG} {nA nB nE s1 s2 s3 : Nat} (hKX : zK G s) (hEm : zE G nA nB nE (zlA s) s) (hEc : zXL s1 s2 s3 (zlA s) s) (x : Nat) (ro : Nat) (rw : Nat) (bo : Nat) (li : Nat) (sh : Nat) (tx : Nat) (lo : Nat) (nl : Nat) (nr : Nat) (ne : Nat) (nh : Nat) (tb : Nat) (lq : Nat) (ou : Nat) (mm : Nat) (ma : Nat) (mt : Nat) (ml : Nat) (mw : Nat) (mb : Nat) (mp : Nat) {H : Heap} {locs : List Loc} {ls : Array Slot} (hP : va_P G.1 vwCl [(x, .inr (10, [.ref ro, .ref rw, .ref bo, .ref li, .ref sh, .ref tx, .ref lo, .ref nl])), (lo, .inr (4, [.ref nr, .ref ne, .ref nh, .ref tb, .ref lq, .long (lz (0)), .int (iz (0)), .int (iz (0))])), (ou, zaL (G.2 0) 1 (fun _ => 0)), (mm, .inr (13, [.int (iz (0)), .int (iz (6)), .ref ma, .null, .ref mt, .ref ml, .int (iz (0)), .ref mw, .int (iz (0)), .ref mb, .ref mp, .int (iz (0))]))] H) (hD : va_D (zlA s) [(x, .inr (10, [.ref ro, .ref rw, .ref bo, .ref li, .ref sh, .ref tx, .ref lo, .ref nl])), (lo, .inr (4, [.ref nr, .ref ne, .ref nh, .ref tb, .ref lq, .long (lz (0)), .int (iz (0)), .int (iz (0))])), (ou, zaL (G.2 0) 1 (fun _ => 0)), (mm, .inr (13, [.int (iz (0)), .int (iz (6)), .ref ma, .null, .ref mt, .ref ml, .int (iz (0)), .ref mw, .int (iz (0)), .ref mb, .ref mp, .int (iz (0))]))]) (hS : va_S (zlA s) s.heap H locs) (hl : lv_has ls 9 [(0, .ref b), (1, .ref x), (2, .ref mm), (3, .ref ou), (4, .int (iz (0)))]) : W p l e room_1 s m #[Value.ref b] below meth c H locs 200 4000 (lw_Z below #[Value.ref b] s) (F0 m 2996 ls []) := by
  obtain ⟨hx, hb, hr, hml, hown, hts, hX, hbl, hlocks, hgv⟩ := id C0
  have hbA : ¬ zlA s b := Nat.not_le.mpr hbl
  have hK := hKX.1
  have hts : ∀ w ∈ wsL_law, w.before #[Value.ref b] s = true := fun w h => hts w (wsL_law_in w h)
  have hown : s.vm.findClass RL = some m.cls := hown
  have hA : ∀ q : Nat, s.heap.size ≤ q → zlA s q := fun _ h => h
  have hE := hEm
  have hv1 := zv_rng xs 1
  have hv2 := zv_rng xs 2
  have hv3 := zv_rng xs 3
  have hv4 := zv_rng xs 4
  have hv5 := zv_rng xs 5
  have hv6 := zv_rng xs 6
  have hv7 := zv_rng xs 7
  refine lv_aload_n hx hb dL_law_2996 rfl (lv_at hl 1 rfl) ?_
  refine zc_f (wr := [(ou, zaL (G.2 0) 1 (fun _ => 0)), (mm, .inr (13, [.int (iz (0)), .int (iz (6)), .ref ma, .null, .ref mt, .ref ml, .int (iz (0)), .ref mw, .int (iz (0)), .ref mb, .ref mp, .int (iz (0))]))]) (va_runV (As := []) (rest := []) ⟨hx, hb, hml, hown, hts⟩ (c_X9_interestShare l G x ro rw bo li sh tx lo nl nr ne nh tb lq  H.size) (cwV 0 hts gL_law_X9_interestShare rfl rfl rfl (by decide +kernel) ⟨Nat.le_of_ble_eq_true rfl, Nat.le_of_ble_eq_true rfl⟩) (zpV hKX hP hD [0, 1] rfl rfl 0 10 rfl rfl) rfl rfl hl.1 rfl (lv_room (Nat.le_of_ble_eq_true rfl)) dL_law_2997 ⟨(by show _ ≤ (600002 : Nat); omega), (by show _ ≤ (7302232 : Nat); omega)⟩) hP hD hS hA [0, 1] [2, 3] rfl rfl rfl (by decide) (fun zw u_1 H locs hw hP hD hS => ?_)
  have hP : va_P G.1 vwCl [(ou, zaL (G.2 0) 1 (fun _ => 0)), (mm, .inr (13, [.int (iz (0)), .int (iz (6)), .ref ma, .null, .ref mt, .ref ml, .int (iz (0)), .ref mw, .int (iz (0)), .ref mb, .ref mp, .int (iz (0))])), (x, .inr (10, [.ref ro, .ref rw, .ref bo, .ref li, .ref sh, .ref tx, .ref lo, .ref nl])), (lo, .inr (4, [.ref nr, .ref ne, .ref nh, .ref tb, .ref lq, .long (lz (0)), .int (iz (0)), .int (iz (0))]))] H := hP
  have hD : va_D (zlA s) [(ou, zaL (G.2 0) 1 (fun _ => 0)), (mm, .inr (13, [.int (iz (0)), .int (iz (6)), .ref ma, .null, .ref mt, .ref ml, .int (iz (0)), .ref mw, .int (iz (0)), .ref mb, .ref mp, .int (iz (0))])), (x, .inr (10, [.ref ro, .ref rw, .ref bo, .ref li, .ref sh, .ref tx, .ref lo, .ref nl])), (lo, .inr (4, [.ref nr, .ref ne, .ref nh, .ref tb, .ref lq, .long (lz (0)), .int (iz (0)), .int (iz (0))]))] := hD
  have hw : zw = FP.fconst0 := hw
  rw [show zw = FP.fconst0 from hw]
  refine zr_f2d0 hx hb dL_law_3000 ?_
  refine lv_dstore (lv' := [(5, .double FP.dconst0), (0, .ref b), (1, .ref x), (2, .ref mm), (3, .ref ou), (4, .int (iz (0)))]) hx hb dL_law_3001 hl (by decide) rfl (fun ls hl => ?_)
  refine lv_aload_n hx hb dL_law_3003 rfl (lv_at hl 3 rfl) ?_
  refine zc_f (wr := [(ou, zaL (G.2 0) 1 (fun _ => 0)), (x, .inr (10, [.ref ro, .ref rw, .ref bo, .ref li, .ref sh, .ref tx, .ref lo, .ref nl])), (lo, .inr (4, [.ref nr, .ref ne, .ref nh, .ref tb, .ref lq, .long (lz (0)), .int (iz (0)), .int (iz (0))]))]) (va_runV (As := []) (rest := []) ⟨hx, hb, hml, hown, hts⟩ (c_X12_interestShare l G mm ma mt ml mw mb mp 0  H.size) (cwV 0 hts gL_law_X12_interestShare rfl rfl rfl (by decide +kernel) ⟨Nat.le_of_ble_eq_true rfl, Nat.le_of_ble_eq_true rfl⟩) (zpV hKX hP hD [1] rfl rfl 1 13 rfl rfl) rfl rfl hl.1 rfl (lv_room (Nat.le_of_ble_eq_true rfl)) dL_law_3004 ⟨(by show _ ≤ (600002 : Nat); omega), (by show _ ≤ (7302232 : Nat); omega)⟩) hP hD hS hA [1] [0, 2, 3] rfl rfl rfl (by decide) (fun zm u_3 H locs hm hP hD hS => ?_)
  generalize u_3 = thm at hP hD hm
  have hP : va_P G.1 vwCl [(ou, zaL (G.2 0) 1 (fun _ => 0)), (x, .inr (10, [.ref ro, .ref rw, .ref bo, .ref li, .ref sh, .ref tx, .ref lo, .ref nl])), (lo, .inr (4, [.ref nr, .ref ne, .ref nh, .ref tb, .ref lq, .long (lz (0)), .int (iz (0)), .int (iz (0))])), (mm, .inr (13, [.int (iz (thm)), .int (iz (6)), .ref ma, .null, .ref mt, .ref ml, .int (iz (0)), .ref mw, .int (iz (0)), .ref mb, .ref mp, .int (iz (0))]))] H := hP
  have hD : va_D (zlA s) [(ou, zaL (G.2 0) 1 (fun _ => 0)), (x, .inr (10, [.ref ro, .ref rw, .ref bo, .ref li, .ref sh, .ref tx, .ref lo, .ref nl])), (lo, .inr (4, [.ref nr, .ref ne, .ref nh, .ref tb, .ref lq, .long (lz (0)), .int (iz (0)), .int (iz (0))])), (mm, .inr (13, [.int (iz (thm)), .int (iz (6)), .ref ma, .null, .ref mt, .ref ml, .int (iz (0)), .ref mw, .int (iz (0)), .ref mb, .ref mp, .int (iz (0))]))] := hD
  have hm : zm = FP.fconst0 ∧ thm = 0 := hm
  have htp := hm.2
  rw [show zm = FP.fconst0 from hm.1]
  refine zr_f2d0 hx hb dL_law_3007 ?_
  refine lv_dstore (lv' := [(7, .double FP.dconst0), (5, .double FP.dconst0), (0, .ref b), (1, .ref x), (2, .ref mm), (3, .ref ou), (4, .int (iz (0)))]) hx hb dL_law_3008 hl (by decide) rfl (fun ls hl => ?_)
  refine lv_dload hx hb dL_law_3010 (lv_at hl 1 rfl) ?_
  refine lv_dload hx hb dL_law_3012 (lv_at hl 0 rfl) ?_
  refine zr_dcmp0 hx hb dL_law_3014 (by decide +kernel) ?_
  refine zr_if_eq (x := 0) (tgt := 3036) hx hb (⟨by omega, by omega⟩) dL_law_3015 (by decide) (fun h_5 => ?_) (fun h_5 => ?_)
  ·
    refine lv_goto (tgt := 3039) hx hb dL_law_3036 (by decide) ?_
    exact zl_end hL8 C0 hS (lv_sub hl [2, 6] rfl) (by show _ ≤ (600002 : Nat); omega) (by show _ ≤ (7302232 : Nat); omega)
  · exact absurd h_5 (by omega)
