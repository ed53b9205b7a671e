-- THE LAW: against (laid by wip/p40/yS.py)
/-- the row of a loan against its instalments -/
def zagn (f : Int → Int) (lf pr tw : Int) : Prop := ∀ j : Int, 0 ≤ j → j ≤ 40 → f j = if j = 0 then -2 * lf else if j ≤ pr then tw else 0
theorem zagn_fit {f : Int → Int} {lf pr tw : Int} (h : ∀ j : Int, 0 ≤ j → j ≤ 40 → f j = if j = 0 then -2 * lf else 0) (hp : 1 ≤ pr ∧ pr ≤ 40) (ht : -1000000000 ≤ tw ∧ tw ≤ 1000000000) : ∀ j : Int, 0 ≤ j → j < pr → zamt (f (1 + j) + tw + j * 0) := fun j a b => by
  rw [h (1 + j) (by omega) (by omega), if_neg (by omega), Int.mul_zero]
  unfold zamt
  omega
theorem zagn_of {f g : Int → Int} {lf pr tw : Int} (h : ∀ j : Int, 0 ≤ j → j ≤ 40 → f j = if j = 0 then -2 * lf else 0) (hp : 1 ≤ pr ∧ pr ≤ 40) (e : g = zadd f 1 pr tw 0) : zagn g lf pr tw := fun j a b => by
  rw [e]
  unfold zadd
  rw [h j a b]
  by_cases c : j = 0
  · rw [if_neg (by omega), if_pos c, if_pos c]
  · rw [if_neg c, if_neg c]
    by_cases d : j ≤ pr
    · rw [if_pos (by omega), if_pos d]; omega
    · rw [if_neg (by omega), if_neg d]
theorem zagn.rok {f : Int → Int} {lf pr tw : Int} (h : zagn f lf pr tw) (hl : 0 ≤ lf ∧ lf ≤ 400000000) (ht : -1000000000 ≤ tw ∧ tw ≤ 1000000000) : zrok f := fun j a b => by
  rw [h j a b]
  split
  · omega
  · split <;> omega
def rm_c_L_against : Room := { frames := 9, cells := 92, slots := 552, locals := 164 }
set_option maxHeartbeats 1000000 in
set_option maxRecDepth 100000 in
theorem c_L_against (l : Launch) (G : zG) (s1 : Nat) (s2 : Nat) (s3 : Nat) (x : Nat) (ro : Nat) (rw : Nat) (bo : Nat) (li : Nat) (sh : Nat) (tx : Nat) (lo : Nat) (nl : Nat) (am : Nat) (q : Nat) (bq : Nat) (f : Int → Int) (wa : Nat) (sa : Nat) (sb : Nat) (sf : Int → Int) (sn : Int) (st : Int) (da : Nat) (db : Nat) (df : Int → Int) (dn : Int) (dt : Int) (u0 : Int) (d0 : Int) (p0 : Int) (lf : Int) (po : Int) (pr : Int) (tw : Int) (hl0 : l.stackTraces = false) (hf : zrok f) (h_lf : 0 ≤ lf ∧ lf ≤ 400000000) (h_po : 0 ≤ po ∧ po ≤ 20000) (h_pr : 1 ≤ pr ∧ pr ≤ 40) (h_tw : -1000000000 ≤ tw ∧ tw ≤ 1000000000) : zMe l (zXM s1 s2 s3) G yL_against wsL_against rm_c_L_against [.ref x, .long (lz (lf)), .int (iz (po)), .int (iz (pr)), .long (lz (tw))] [(x, .inr (10, [.ref ro, .ref rw, .ref bo, .ref li, .ref sh, .ref tx, .ref lo, .ref nl])), (rw, .inr (6, [.ref am, .ref q, .ref bq])), (am, zaL (G.2 0) 41 (f)), (q, .inr (2, [.ref sa, .ref da, .ref wa, .long (lz (u0)), .long (lz (d0)), .int (iz (p0))])), (sa, .inr (9, [.ref sb, .int (iz (sn)), .long (lz (st))])), (sb, zaL (G.2 0) 40 (sf)), (da, .inr (9, [.ref db, .int (iz (dn)), .long (lz (dt))])), (db, zaL (G.2 0) 40 (df))] (fun A => zQi G (fun (z : Int) (u : (Int → Int) × Int × Int × (Int → Int) × Int × Int × Int × Int × Int × (Int → Int)) => z = (znm u.2.2.2.2.2.2.2.2.2 po).sign ∧ zagn u.2.2.2.2.2.2.2.2.2 lf pr tw) (fun (u : (Int → Int) × Int × Int × (Int → Int) × Int × Int × Int × Int × Int × (Int → Int)) => [(x, .inr (10, [.ref ro, .ref rw, .ref bo, .ref li, .ref sh, .ref tx, .ref lo, .ref nl])), (rw, .inr (6, [.ref am, .ref q, .ref bq])), (am, zaL (G.2 0) 41 (u.2.2.2.2.2.2.2.2.2)), (q, .inr (2, [.ref sa, .ref da, .ref wa, .long (lz (u.2.2.2.2.2.2.2.1)), .long (lz (u.2.2.2.2.2.2.2.2.1)), .int (iz (u.2.2.2.2.2.2.1))])), (sa, .inr (9, [.ref sb, .int (iz (u.2.1)), .long (lz (u.2.2.1))])), (sb, zaL (G.2 0) 40 (u.1)), (da, .inr (9, [.ref db, .int (iz (u.2.2.2.2.1)), .long (lz (u.2.2.2.2.2.1))])), (db, zaL (G.2 0) 40 (u.2.2.2.1))]) A) 92 552 := by
  refine zMe_of (cc := cL_against) (maxL := 10) (ret := (some .int)) (by decide) rfl (Nat.le_of_ble_eq_true rfl) ?_
  intro p e s m below meth c ls A Q hQ hx hb hr hts hown hlocks hml hnm hKX hE hP hD hA hS hl
  have hK := hKX.1
  obtain ⟨H, hH⟩ : ∃ h, h = s.heap := ⟨_, rfl⟩
  obtain ⟨locs, hlo⟩ : ∃ h : List Loc, h = [] := ⟨_, rfl⟩
  have hS : va_S A s.heap H locs := by rw [hH, hlo]; exact hS
  have hP : va_P G.1 vwCl [(x, .inr (10, [.ref ro, .ref rw, .ref bo, .ref li, .ref sh, .ref tx, .ref lo, .ref nl])), (rw, .inr (6, [.ref am, .ref q, .ref bq])), (am, zaL (G.2 0) 41 (f)), (q, .inr (2, [.ref sa, .ref da, .ref wa, .long (lz (u0)), .long (lz (d0)), .int (iz (p0))])), (sa, .inr (9, [.ref sb, .int (iz (sn)), .long (lz (st))])), (sb, zaL (G.2 0) 40 (sf)), (da, .inr (9, [.ref db, .int (iz (dn)), .long (lz (dt))])), (db, zaL (G.2 0) 40 (df))] H := by rw [hH]; exact hP
  have hD : va_D A [(x, .inr (10, [.ref ro, .ref rw, .ref bo, .ref li, .ref sh, .ref tx, .ref lo, .ref nl])), (rw, .inr (6, [.ref am, .ref q, .ref bq])), (am, zaL (G.2 0) 41 (f)), (q, .inr (2, [.ref sa, .ref da, .ref wa, .long (lz (u0)), .long (lz (d0)), .int (iz (p0))])), (sa, .inr (9, [.ref sb, .int (iz (sn)), .long (lz (st))])), (sb, zaL (G.2 0) 40 (sf)), (da, .inr (9, [.ref db, .int (iz (dn)), .long (lz (dt))])), (db, zaL (G.2 0) 40 (df))] := hD
  have hl : lv_has ls 10 [(0, .ref x), (1, .long (lz (lf))), (3, .int (iz (po))), (4, .int (iz (pr))), (5, .long (lz (tw)))] := hl
  rw [← hH, ← hlo]
  refine lv_aload_n hx hb dL_against_0 rfl (lv_at hl 0 rfl) ?_
  refine zc_i (wr := [(q, .inr (2, [.ref sa, .ref da, .ref wa, .long (lz (u0)), .long (lz (d0)), .int (iz (p0))])), (sa, .inr (9, [.ref sb, .int (iz (sn)), .long (lz (st))])), (sb, zaL (G.2 0) 40 (sf)), (da, .inr (9, [.ref db, .int (iz (dn)), .long (lz (dt))])), (db, zaL (G.2 0) 40 (df))]) (va_runV (As := []) (rest := []) ⟨hx, hb, hml, hown, hts⟩ (c_X9_clearRow l G x ro rw bo li sh tx lo nl am q bq f (by omega) H.size) (cwV 0 hts gL_against_X9_clearRow rfl rfl rfl (by decide +kernel) ⟨Nat.le_of_ble_eq_true rfl, Nat.le_of_ble_eq_true rfl⟩) (zpV hKX hP hD [0, 1, 2] rfl rfl 0 10 rfl rfl) rfl rfl hl.1 rfl (lv_room (Nat.le_of_ble_eq_true rfl)) dL_against_1 ⟨(by first | exact Nat.le_of_ble_eq_true rfl | (show _ ≤ (92 : Nat); omega)), (by first | exact Nat.le_of_ble_eq_true rfl | (show _ ≤ (552 : Nat); omega))⟩) hP hD hS hA [0, 1, 2] [3, 4, 5, 6, 7] rfl rfl rfl (by decide) (fun z1 u_1 H locs h1 hP hD hS => ?_)
  generalize u_1 = f1 at hP hD h1
  have hP : va_P G.1 vwCl [(q, .inr (2, [.ref sa, .ref da, .ref wa, .long (lz (u0)), .long (lz (d0)), .int (iz (p0))])), (sa, .inr (9, [.ref sb, .int (iz (sn)), .long (lz (st))])), (sb, zaL (G.2 0) 40 (sf)), (da, .inr (9, [.ref db, .int (iz (dn)), .long (lz (dt))])), (db, zaL (G.2 0) 40 (df)), (x, .inr (10, [.ref ro, .ref rw, .ref bo, .ref li, .ref sh, .ref tx, .ref lo, .ref nl])), (rw, .inr (6, [.ref am, .ref q, .ref bq])), (am, zaL (G.2 0) 41 (f1))] H := hP
  have hD : va_D A [(q, .inr (2, [.ref sa, .ref da, .ref wa, .long (lz (u0)), .long (lz (d0)), .int (iz (p0))])), (sa, .inr (9, [.ref sb, .int (iz (sn)), .long (lz (st))])), (sb, zaL (G.2 0) 40 (sf)), (da, .inr (9, [.ref db, .int (iz (dn)), .long (lz (dt))])), (db, zaL (G.2 0) 40 (df)), (x, .inr (10, [.ref ro, .ref rw, .ref bo, .ref li, .ref sh, .ref tx, .ref lo, .ref nl])), (rw, .inr (6, [.ref am, .ref q, .ref bq])), (am, zaL (G.2 0) 41 (f1))] := hD
  have h1 : z1 = zcnt f 41 ∧ ∀ i : Int, 0 ≤ i → i ≤ 40 → f1 i = 0 := h1
  have hz1 : ∀ j : Int, 0 ≤ j → j ≤ 40 → f1 j = 0 := h1.2
  have hk1 : zrok f1 := fun j a b => by rw [hz1 j a b]; omega
  have h10 := hz1 0 (by omega) (by omega)
  refine lv_istore (lv' := [(7, .int (iz (z1))), (0, .ref x), (1, .long (lz (lf))), (3, .int (iz (po))), (4, .int (iz (pr))), (5, .long (lz (tw)))]) hx hb dL_against_4 hl (by decide) rfl (fun ls hl => ?_)
  refine lv_aload_n hx hb dL_against_6 rfl (lv_at hl 1 rfl) ?_
  refine lv_iconst (v := iz (0)) hx hb dL_against_7 rfl ?_
  refine zr_ldc2 (z := -2) hx hb hown (hts (.constantLong RL 205 (-2)) (by decide +kernel)) rfl dL_against_8 ?_
  refine lv_lload_n hx hb dL_against_11 rfl (lv_at hl 2 rfl) ?_
  refine zr_lmul hx hb dL_against_12 ?_
  refine zct_l (wr := [(q, .inr (2, [.ref sa, .ref da, .ref wa, .long (lz (u0)), .long (lz (d0)), .int (iz (p0))])), (sa, .inr (9, [.ref sb, .int (iz (sn)), .long (lz (st))])), (sb, zaL (G.2 0) 40 (sf)), (da, .inr (9, [.ref db, .int (iz (dn)), .long (lz (dt))])), (db, zaL (G.2 0) 40 (df))]) (vx_runV (As := [.int (iz (0)), .long (lz ((-2) * lf))]) (rest := []) ⟨hx, hb, hml, hown, hts⟩ (c_X9_pay l G s1 s2 s3 x ro rw bo li sh tx lo nl am q bq f1 0 ((-2) * lf) hl0 (by omega) (by omega) (hk1) H.size) (cwV 2 hts gL_against_X9_pay rfl rfl rfl (by decide +kernel) ⟨Nat.le_of_ble_eq_true rfl, Nat.le_of_ble_eq_true rfl⟩) (zpVe zXE_ok hE.1 hS hA hKX hP hD [5, 6, 7] rfl rfl (va_recv hK hP (ci := 10) (q0 := 5) rfl rfl)) rfl rfl hl.1 rfl (lv_room (Nat.le_of_ble_eq_true rfl)) dL_against_13 ⟨(by first | exact Nat.le_of_ble_eq_true rfl | (show _ ≤ (92 : Nat); omega)), (by first | exact Nat.le_of_ble_eq_true rfl | (show _ ≤ (552 : Nat); omega))⟩) hP hD hS hA [5, 6, 7] [0, 1, 2, 3, 4] rfl rfl rfl (by decide) (fun E9 ce9 q9 ux_4 H locs hx9_5 hP hD hS hce9 hcv9 hcl9 => ?_) (fun z2 u_3 H locs h3 hP hD hS => ?_)
  ·
    have hP : va_P G.1 vwCl [(q, .inr (2, [.ref sa, .ref da, .ref wa, .long (lz (u0)), .long (lz (d0)), .int (iz (p0))])), (sa, .inr (9, [.ref sb, .int (iz (sn)), .long (lz (st))])), (sb, zaL (G.2 0) 40 (sf)), (da, .inr (9, [.ref db, .int (iz (dn)), .long (lz (dt))])), (db, zaL (G.2 0) 40 (df)), (x, .inr (10, [.ref ro, .ref rw, .ref bo, .ref li, .ref sh, .ref tx, .ref lo, .ref nl])), (rw, .inr (6, [.ref am, .ref q, .ref bq])), (am, zaL (G.2 0) 41 (f1))] H := hP
    have hD : va_D A [(q, .inr (2, [.ref sa, .ref da, .ref wa, .long (lz (u0)), .long (lz (d0)), .int (iz (p0))])), (sa, .inr (9, [.ref sb, .int (iz (sn)), .long (lz (st))])), (sb, zaL (G.2 0) 40 (sf)), (da, .inr (9, [.ref db, .int (iz (dn)), .long (lz (dt))])), (db, zaL (G.2 0) 40 (df)), (x, .inr (10, [.ref ro, .ref rw, .ref bo, .ref li, .ref sh, .ref tx, .ref lo, .ref nl])), (rw, .inr (6, [.ref am, .ref q, .ref bq])), (am, zaL (G.2 0) 41 (f1))] := hD
    rcases hx9_5 with ⟨rfl, hxc⟩ | ⟨rfl, hxc⟩
    ·
      have hxc : ¬ (0 ≤ (0 : Int) ∧ (0 : Int) ≤ 40 ∧ -1000000000 ≤ ((-2) * lf) ∧ ((-2) * lf) ≤ 1000000000) := hxc
      exact absurd hxc (by omega)
    ·
      have hxc : (0 ≤ (0 : Int) ∧ (0 : Int) ≤ 40 ∧ -1000000000 ≤ ((-2) * lf) ∧ ((-2) * lf) ≤ 1000000000) ∧ ¬ zamt (f1 (0 : Int) + ((-2) * lf)) := hxc
      exact absurd hxc (by unfold zamt; omega)
  generalize u_3 = f3 at hP hD h3
  have hP : va_P G.1 vwCl [(q, .inr (2, [.ref sa, .ref da, .ref wa, .long (lz (u0)), .long (lz (d0)), .int (iz (p0))])), (sa, .inr (9, [.ref sb, .int (iz (sn)), .long (lz (st))])), (sb, zaL (G.2 0) 40 (sf)), (da, .inr (9, [.ref db, .int (iz (dn)), .long (lz (dt))])), (db, zaL (G.2 0) 40 (df)), (x, .inr (10, [.ref ro, .ref rw, .ref bo, .ref li, .ref sh, .ref tx, .ref lo, .ref nl])), (rw, .inr (6, [.ref am, .ref q, .ref bq])), (am, zaL (G.2 0) 41 (f3))] H := hP
  have hD : va_D A [(q, .inr (2, [.ref sa, .ref da, .ref wa, .long (lz (u0)), .long (lz (d0)), .int (iz (p0))])), (sa, .inr (9, [.ref sb, .int (iz (sn)), .long (lz (st))])), (sb, zaL (G.2 0) 40 (sf)), (da, .inr (9, [.ref db, .int (iz (dn)), .long (lz (dt))])), (db, zaL (G.2 0) 40 (df)), (x, .inr (10, [.ref ro, .ref rw, .ref bo, .ref li, .ref sh, .ref tx, .ref lo, .ref nl])), (rw, .inr (6, [.ref am, .ref q, .ref bq])), (am, zaL (G.2 0) 41 (f3))] := hD
  have h3 : (0 ≤ (0 : Int) ∧ (0 : Int) ≤ 40 ∧ -1000000000 ≤ ((-2) * lf) ∧ ((-2) * lf) ≤ 1000000000) ∧ zamt (f1 (0 : Int) + ((-2) * lf)) ∧ z2 = f1 (0 : Int) + ((-2) * lf) ∧ f3 = zup f1 (0 : Int) (f1 (0 : Int) + ((-2) * lf)) := h3
  have hz3 : ∀ j : Int, 0 ≤ j → j ≤ 40 → f3 j = if j = 0 then -2 * lf else 0 := fun j a b => by rw [h3.2.2.2]; by_cases q : j = 0; (rw [q, zup_s, if_pos rfl, h10]; omega); (rw [zup_n q, if_neg q]; exact hz1 j a b)
  have hk3 : zrok f3 := fun j a b => by rw [hz3 j a b]; split <;> omega
  refine lv_lstore (lv' := [(8, .long (lz (z2))), (7, .int (iz (z1))), (0, .ref x), (1, .long (lz (lf))), (3, .int (iz (po))), (4, .int (iz (pr))), (5, .long (lz (tw)))]) hx hb dL_against_16 hl (by decide) rfl (fun ls hl => ?_)
  refine lv_aload_n hx hb dL_against_18 rfl (lv_at hl 2 rfl) ?_
  refine lv_iconst (v := iz (1)) hx hb dL_against_19 rfl ?_
  refine lv_iload hx hb dL_against_20 (lv_at hl 5 rfl) ?_
  refine lv_lload hx hb dL_against_22 (lv_at hl 6 rfl) ?_
  refine lv_lconst (v := lz (0)) hx hb dL_against_24 rfl ?_
  refine zct_i (wr := [(q, .inr (2, [.ref sa, .ref da, .ref wa, .long (lz (u0)), .long (lz (d0)), .int (iz (p0))])), (sa, .inr (9, [.ref sb, .int (iz (sn)), .long (lz (st))])), (sb, zaL (G.2 0) 40 (sf)), (da, .inr (9, [.ref db, .int (iz (dn)), .long (lz (dt))])), (db, zaL (G.2 0) 40 (df))]) (vx_runV (As := [.int (iz (1)), .int (iz (pr)), .long (lz (tw)), .long (lz (0))]) (rest := []) ⟨hx, hb, hml, hown, hts⟩ (c_X9_payMany l G s1 s2 s3 x ro rw bo li sh tx lo nl am q bq f3 1 pr tw 0 hl0 (by omega) (by omega) (by omega) (by omega) (hk3) H.size) (cwV 4 hts gL_against_X9_payMany rfl rfl rfl (by decide +kernel) ⟨Nat.le_of_ble_eq_true rfl, Nat.le_of_ble_eq_true rfl⟩) (zpVe zXE_ok hE.1 hS hA hKX hP hD [5, 6, 7] rfl rfl (va_recv hK hP (ci := 10) (q0 := 5) rfl rfl)) rfl rfl hl.1 rfl (lv_room (Nat.le_of_ble_eq_true rfl)) dL_against_25 ⟨(by first | exact Nat.le_of_ble_eq_true rfl | (show _ ≤ (92 : Nat); omega)), (by first | exact Nat.le_of_ble_eq_true rfl | (show _ ≤ (552 : Nat); omega))⟩) hP hD hS hA [5, 6, 7] [0, 1, 2, 3, 4] rfl rfl rfl (by decide) (fun E9 ce9 q9 ux_7 H locs hx9_8 hP hD hS hce9 hcv9 hcl9 => ?_) (fun z3 u_6 H locs h4 hP hD hS => ?_)
  ·
    have hP : va_P G.1 vwCl [(q, .inr (2, [.ref sa, .ref da, .ref wa, .long (lz (u0)), .long (lz (d0)), .int (iz (p0))])), (sa, .inr (9, [.ref sb, .int (iz (sn)), .long (lz (st))])), (sb, zaL (G.2 0) 40 (sf)), (da, .inr (9, [.ref db, .int (iz (dn)), .long (lz (dt))])), (db, zaL (G.2 0) 40 (df)), (x, .inr (10, [.ref ro, .ref rw, .ref bo, .ref li, .ref sh, .ref tx, .ref lo, .ref nl])), (rw, .inr (6, [.ref am, .ref q, .ref bq])), (am, zaL (G.2 0) 41 (f3))] H := hP
    have hD : va_D A [(q, .inr (2, [.ref sa, .ref da, .ref wa, .long (lz (u0)), .long (lz (d0)), .int (iz (p0))])), (sa, .inr (9, [.ref sb, .int (iz (sn)), .long (lz (st))])), (sb, zaL (G.2 0) 40 (sf)), (da, .inr (9, [.ref db, .int (iz (dn)), .long (lz (dt))])), (db, zaL (G.2 0) 40 (df)), (x, .inr (10, [.ref ro, .ref rw, .ref bo, .ref li, .ref sh, .ref tx, .ref lo, .ref nl])), (rw, .inr (6, [.ref am, .ref q, .ref bq])), (am, zaL (G.2 0) 41 (f3))] := hD
    rcases hx9_8 with ⟨rfl, hxc⟩ | ⟨rfl, hxc⟩
    ·
      have hxc : ¬ (0 ≤ (1 : Int) ∧ (1 : Int) ≤ 40 ∧ 1 ≤ pr ∧ pr ≤ 41 ∧ -1000000000 ≤ tw ∧ tw ≤ 1000000000 ∧ -1000000 ≤ (0 : Int) ∧ (0 : Int) ≤ 1000000 ∧ (1 : Int) + pr ≤ 41) := hxc
      exact absurd hxc (by omega)
    ·
      have hxc : (0 ≤ (1 : Int) ∧ (1 : Int) ≤ 40 ∧ 1 ≤ pr ∧ pr ≤ 41 ∧ -1000000000 ≤ tw ∧ tw ≤ 1000000000 ∧ -1000000 ≤ (0 : Int) ∧ (0 : Int) ≤ 1000000 ∧ (1 : Int) + pr ≤ 41) ∧ ¬ (∀ j : Int, 0 ≤ j → j < pr → zamt (f3 ((1 : Int) + j) + tw + j * (0 : Int))) := hxc
      exact absurd hxc (fun q => q.2 (zagn_fit hz3 (by omega) (by omega)))
  generalize u_6 = f4 at hP hD h4
  have hP : va_P G.1 vwCl [(q, .inr (2, [.ref sa, .ref da, .ref wa, .long (lz (u0)), .long (lz (d0)), .int (iz (p0))])), (sa, .inr (9, [.ref sb, .int (iz (sn)), .long (lz (st))])), (sb, zaL (G.2 0) 40 (sf)), (da, .inr (9, [.ref db, .int (iz (dn)), .long (lz (dt))])), (db, zaL (G.2 0) 40 (df)), (x, .inr (10, [.ref ro, .ref rw, .ref bo, .ref li, .ref sh, .ref tx, .ref lo, .ref nl])), (rw, .inr (6, [.ref am, .ref q, .ref bq])), (am, zaL (G.2 0) 41 (f4))] H := hP
  have hD : va_D A [(q, .inr (2, [.ref sa, .ref da, .ref wa, .long (lz (u0)), .long (lz (d0)), .int (iz (p0))])), (sa, .inr (9, [.ref sb, .int (iz (sn)), .long (lz (st))])), (sb, zaL (G.2 0) 40 (sf)), (da, .inr (9, [.ref db, .int (iz (dn)), .long (lz (dt))])), (db, zaL (G.2 0) 40 (df)), (x, .inr (10, [.ref ro, .ref rw, .ref bo, .ref li, .ref sh, .ref tx, .ref lo, .ref nl])), (rw, .inr (6, [.ref am, .ref q, .ref bq])), (am, zaL (G.2 0) 41 (f4))] := hD
  have h4 : (0 ≤ (1 : Int) ∧ (1 : Int) ≤ 40 ∧ 1 ≤ pr ∧ pr ≤ 41 ∧ -1000000000 ≤ tw ∧ tw ≤ 1000000000 ∧ -1000000 ≤ (0 : Int) ∧ (0 : Int) ≤ 1000000 ∧ (1 : Int) + pr ≤ 41) ∧ (∀ j : Int, 0 ≤ j → j < pr → zamt (f3 ((1 : Int) + j) + tw + j * (0 : Int))) ∧ f4 = zadd f3 (1 : Int) pr tw (0 : Int) ∧ z3 = zcnt f4 41 := h4
  have hz4 : zagn f4 lf pr tw := zagn_of hz3 (by omega) h4.2.2.1
  have hk4 := hz4.rok (by omega) (by omega)
  refine lv_istore (lv' := [(7, .int (iz (z3))), (8, .long (lz (z2))), (0, .ref x), (1, .long (lz (lf))), (3, .int (iz (po))), (4, .int (iz (pr))), (5, .long (lz (tw)))]) hx hb dL_against_28 hl (by decide) rfl (fun ls hl => ?_)
  refine lv_aload_n hx hb dL_against_30 rfl (lv_at hl 2 rfl) ?_
  refine lv_iload_n hx hb dL_against_31 rfl (lv_at hl 4 rfl) ?_
  refine zct_i (wr := []) (vx_runV (As := [.int (iz (po))]) (rest := []) ⟨hx, hb, hml, hown, hts⟩ (c_X9_signAt l G s1 s2 s3 x ro rw bo li sh tx lo nl am q bq f4 wa sa sb sf sn st da db df dn dt u0 d0 p0 po hl0 (by omega) (hk4) H.size) (cwV 1 hts gL_against_X9_signAt rfl rfl rfl (by decide +kernel) ⟨Nat.le_of_ble_eq_true rfl, Nat.le_of_ble_eq_true rfl⟩) (zpVe zXE_ok hE.1 hS hA hKX hP hD [5, 6, 7, 0, 1, 2, 3, 4] rfl rfl (va_recv hK hP (ci := 10) (q0 := 5) rfl rfl)) rfl rfl hl.1 rfl (lv_room (Nat.le_of_ble_eq_true rfl)) dL_against_32 ⟨(by first | exact Nat.le_of_ble_eq_true rfl | (show _ ≤ (92 : Nat); omega)), (by first | exact Nat.le_of_ble_eq_true rfl | (show _ ≤ (552 : Nat); omega))⟩) hP hD hS hA [5, 6, 7, 0, 1, 2, 3, 4] [] rfl rfl rfl (by decide) (fun E9 ce9 q9 ux_28 H locs hx9_29 hP hD hS hce9 hcv9 hcl9 => ?_) (fun zs u_27 H locs hzs hP hD hS => ?_)
  ·
    obtain ⟨sf2_18, sn2_19, st2_20, df2_21, dn2_22, dt2_23, pq_24, ru_25, rd_26⟩ := ux_28
    have hP : va_P G.1 vwCl [(x, .inr (10, [.ref ro, .ref rw, .ref bo, .ref li, .ref sh, .ref tx, .ref lo, .ref nl])), (rw, .inr (6, [.ref am, .ref q, .ref bq])), (am, zaL (G.2 0) 41 (f4)), (q, .inr (2, [.ref sa, .ref da, .ref wa, .long (lz (ru_25)), .long (lz (rd_26)), .int (iz (pq_24))])), (sa, .inr (9, [.ref sb, .int (iz (sn2_19)), .long (lz (st2_20))])), (sb, zaL (G.2 0) 40 (sf2_18)), (da, .inr (9, [.ref db, .int (iz (dn2_22)), .long (lz (dt2_23))])), (db, zaL (G.2 0) 40 (df2_21))] H := hP
    have hD : va_D A [(x, .inr (10, [.ref ro, .ref rw, .ref bo, .ref li, .ref sh, .ref tx, .ref lo, .ref nl])), (rw, .inr (6, [.ref am, .ref q, .ref bq])), (am, zaL (G.2 0) 41 (f4)), (q, .inr (2, [.ref sa, .ref da, .ref wa, .long (lz (ru_25)), .long (lz (rd_26)), .int (iz (pq_24))])), (sa, .inr (9, [.ref sb, .int (iz (sn2_19)), .long (lz (st2_20))])), (sb, zaL (G.2 0) 40 (sf2_18)), (da, .inr (9, [.ref db, .int (iz (dn2_22)), .long (lz (dt2_23))])), (db, zaL (G.2 0) 40 (df2_21))] := hD
    rcases hx9_29 with ⟨rfl, hxc⟩
    ·
      have hxc : ¬ (0 ≤ po ∧ po ≤ 20000) := hxc
      exact absurd hxc (by omega)
  obtain ⟨sf2_9, sn2_10, st2_11, df2_12, dn2_13, dt2_14, pq_15, ru_16, rd_17⟩ := u_27
  have hP : va_P G.1 vwCl [(x, .inr (10, [.ref ro, .ref rw, .ref bo, .ref li, .ref sh, .ref tx, .ref lo, .ref nl])), (rw, .inr (6, [.ref am, .ref q, .ref bq])), (am, zaL (G.2 0) 41 (f4)), (q, .inr (2, [.ref sa, .ref da, .ref wa, .long (lz (ru_16)), .long (lz (rd_17)), .int (iz (pq_15))])), (sa, .inr (9, [.ref sb, .int (iz (sn2_10)), .long (lz (st2_11))])), (sb, zaL (G.2 0) 40 (sf2_9)), (da, .inr (9, [.ref db, .int (iz (dn2_13)), .long (lz (dt2_14))])), (db, zaL (G.2 0) 40 (df2_12))] H := hP
  have hD : va_D A [(x, .inr (10, [.ref ro, .ref rw, .ref bo, .ref li, .ref sh, .ref tx, .ref lo, .ref nl])), (rw, .inr (6, [.ref am, .ref q, .ref bq])), (am, zaL (G.2 0) 41 (f4)), (q, .inr (2, [.ref sa, .ref da, .ref wa, .long (lz (ru_16)), .long (lz (rd_17)), .int (iz (pq_15))])), (sa, .inr (9, [.ref sb, .int (iz (sn2_10)), .long (lz (st2_11))])), (sb, zaL (G.2 0) 40 (sf2_9)), (da, .inr (9, [.ref db, .int (iz (dn2_13)), .long (lz (dt2_14))])), (db, zaL (G.2 0) 40 (df2_12))] := hD
  have hzs : (0 ≤ po ∧ po ≤ 20000) ∧ zs = (znm f4 po).sign := hzs
  rw [hQ]
  exact zr_iret (z := zs) (u := (sf2_9, sn2_10, st2_11, df2_12, dn2_13, dt2_14, pq_15, ru_16, rd_17, f4)) hx hb hr hlocks hP hD hS (by first | exact Nat.le_of_ble_eq_true rfl | omega) (by first | exact Nat.le_of_ble_eq_true rfl | omega) dL_against_35 (show zs = (znm f4 po).sign ∧ zagn f4 lf pr tw from ⟨hzs.2, hz4⟩)
