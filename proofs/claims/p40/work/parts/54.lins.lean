-- THE LAW: isInstalment (laid by wip/p40/yT.py)
-- AN INSTALMENT BY SIGNS OF ROWS
theorem zs3 {z v : Int} (h : z = v.sign) : (z = -1 ∧ v < 0) ∨ (z = 0 ∧ v = 0) ∨ (z = 1 ∧ 0 < v) := by
  rcases Int.lt_trichotomy v 0 with c | c | c
  · exact Or.inl ⟨h.trans (Int.sign_eq_neg_one_of_neg c), c⟩
  · exact Or.inr (Or.inl ⟨by rw [h, c]; rfl, c⟩)
  · exact Or.inr (Or.inr ⟨h.trans (Int.sign_eq_one_of_pos c), c⟩)
theorem zagn_key {f : Int → Int} {lf n tw U : Int} (hz : zagn f lf n tw) (hn : 1 ≤ n ∧ n ≤ 40) : ∀ m : Nat, (m : Int) ≤ n → zrow U 100000 f m = tw * zrow U 100000 zun m - 2 * (lf * U ^ m)
  | 0, _ => by
    show f 0 = tw * zun 0 - 2 * (lf * U ^ 0)
    rw [hz 0 (by omega) (by omega), if_pos rfl, show zun 0 = 0 from rfl, Int.mul_zero, Int.pow_zero, Int.mul_one]
    omega
  | m + 1, hm => by
    rw [zrow_s, zrow_s, zagn_key hz hn m (by omega), hz ((m : Int) + 1) (by omega) (by omega), if_neg (by omega), if_pos (by omega), zun_1 (by omega), Int.sub_mul, Int.mul_add, Int.mul_one, Int.pow_succ U m]
    have e1 : tw * zrow U 100000 zun m * U = tw * (zrow U 100000 zun m * U) := Int.mul_assoc _ _ _
    have e2 : 2 * (lf * U ^ m) * U = 2 * (lf * (U ^ m * U)) := by rw [Int.mul_assoc, Int.mul_assoc]
    have e3 : (100000 : Int) ^ (m + 1) * tw = tw * 100000 ^ (m + 1) := Int.mul_comm _ _
    rw [e1, e2, e3]
    omega
theorem zagn_row {f : Int → Int} {lf n tw po : Int} (hz : zagn f lf n tw) (hn : 1 ≤ n ∧ n ≤ 40) : znm f po = (tw * zap po n - 2 * (lf * (100000 + po) ^ n.toNat)) * (100000 + po) ^ (40 - n).toNat := by
  unfold znm zap
  have e : (40 : Nat) = n.toNat + (40 - n).toNat := by omega
  conv => lhs; rw [e]
  rw [zrow_pad _ (fun i a b => by rw [hz i (by omega) (by omega), if_neg (by omega), if_neg (by omega)]), zagn_key hz hn n.toNat (by omega)]
theorem zagS {f : Int → Int} {lf n tw po z : Int} (h : z = (znm f po).sign ∧ zagn f lf n tw) (hp : 0 ≤ po) (hn : 1 ≤ n ∧ n ≤ 40) :
    (z = -1 ∧ tw * zap po n < 2 * (lf * (100000 + po) ^ n.toNat)) ∨ (z = 0 ∧ tw * zap po n = 2 * (lf * (100000 + po) ^ n.toNat)) ∨ (z = 1 ∧ 2 * (lf * (100000 + po) ^ n.toNat) < tw * zap po n) := by
  have h1 := h.1
  rw [zagn_row h.2 hn, zsg_c (by have := zpow_pos (x := 100000 + po) (by omega) (40 - n).toNat; omega)] at h1
  rcases zs3 h1 with ⟨a, b⟩ | ⟨a, b⟩ | ⟨a, b⟩
  · exact Or.inl ⟨a, by omega⟩
  · exact Or.inr (Or.inl ⟨a, by omega⟩)
  · exact Or.inr (Or.inr ⟨a, by omega⟩)
/-- an instalment, exactly rounded, against half cents: X is the instalment times what payments of 1 come to -/
theorem zinsN {md lf po n its : Int} (hi : its = zins md lf po n) (hl : 0 ≤ lf) (hp : 0 ≤ po) (hn : 1 ≤ n) (hmd : 0 ≤ md ∧ md ≤ 7) (hx : md ≠ 7 ∨ zinx lf po n) :
    ∃ X V u : Int, 0 < u ∧ u = zap po n ∧ X = its * u ∧ V = lf * (100000 + po) ^ n.toNat ∧ ((md = 0 ∨ md = 2) → V ≤ X ∧ X - u < V) ∧ ((md = 1 ∨ md = 3) → X ≤ V ∧ V < X + u) ∧ (md = 4 → 2 * V < 2 * X + u ∧ 2 * X - u ≤ 2 * V) ∧ (md = 5 → 2 * V ≤ 2 * X + u ∧ 2 * X - u < 2 * V) ∧ (md = 6 → (its % 2 = 0 → 2 * V ≤ 2 * X + u ∧ 2 * X - u ≤ 2 * V) ∧ (its % 2 ≠ 0 → 2 * V < 2 * X + u ∧ 2 * X - u < 2 * V)) ∧ (md = 7 → X = V) := by
  have hu := zap_pos hp hn
  have hv : 0 ≤ lf * (100000 + po) ^ n.toNat := Int.mul_nonneg hl (Int.pow_nonneg (by omega))
  refine ⟨its * zap po n, lf * (100000 + po) ^ n.toNat, zap po n, hu, rfl, rfl, rfl, ?_⟩
  unfold zins at hi
  have e1 : (its - 1) * zap po n = its * zap po n - zap po n := by rw [Int.sub_mul, Int.one_mul]
  have e2 : (its + 1) * zap po n = its * zap po n + zap po n := by rw [Int.add_mul, Int.one_mul]
  have e3 : (2 * its + 1) * zap po n = 2 * (its * zap po n) + zap po n := by rw [Int.add_mul, Int.one_mul, Int.mul_assoc]
  have e4 : (2 * its - 1) * zap po n = 2 * (its * zap po n) - zap po n := by rw [Int.sub_mul, Int.one_mul, Int.mul_assoc]
  by_cases c : md = 7
  · subst c
    have hz : lf * (100000 + po) ^ n.toNat % zap po n = 0 := hx.resolve_left (by decide)
    unfold zrd at hi
    rw [if_pos hz] at hi
    have e := Int.ediv_mul_cancel (Int.dvd_of_emod_eq_zero hz)
    rw [← hi] at e
    exact ⟨by omega, by omega, by omega, by omega, by omega, fun _ => e⟩
  · obtain ⟨n1, n2, n3, n4, n5⟩ := zrd_near hv hu (by omega) hi
    rw [e1] at n1; rw [e2] at n2; rw [e3, e4] at n3 n4 n5
    refine ⟨n1, n2, n3, n4, fun q => ⟨fun w => ?_, fun w => ?_⟩, fun q => absurd q c⟩
    · have := n5 q; rw [if_pos w] at this; exact this
    · have := n5 q; rw [if_neg w] at this; exact this
theorem ztwo (its u k : Int) : (2 * its + k) * u = 2 * (its * u) + k * u ∧ (2 * its - k) * u = 2 * (its * u) - k * u ∧ 2 * its * u = 2 * (its * u) := ⟨by rw [Int.add_mul, Int.mul_assoc], by rw [Int.sub_mul, Int.mul_assoc], Int.mul_assoc _ _ _⟩
/-- without interest -/
theorem zins0 (md lf : Int) {n : Int} (hn : 1 ≤ n) : zins md lf 0 n = zrd md lf n ∧ (zinx lf 0 n ↔ lf % n = 0) := by
  have hc := zpow_pos (x := 100000) (by decide) n.toNat
  have e : zap 0 n = n * 100000 ^ n.toNat := by
    unfold zap
    rw [show (100000 : Int) + 0 = 100000 from rfl, zrow_1, Int.mul_comm]
    congr 1
    have h : ∀ m : Nat, zsm zun (m + 1) = (m : Int) := by
      intro m
      induction m with
      | zero => rfl
      | succ m ih => rw [zsm_s, ih, show zun ((m + 1 : Nat) : Int) = 1 from zun_1 (by omega)]; omega
    rw [h]; omega
  unfold zins zinx
  rw [e, show (100000 : Int) + 0 = 100000 from rfl]
  exact ⟨zrd_g md lf (by omega) (by omega), zex_g lf (by omega) (by omega)⟩
theorem zins0x {md lf n : Int} (hn : 1 ≤ n) (hx : md ≠ 7 ∨ zinx lf 0 n) : zins md lf 0 n = zrx md lf n := by
  rw [(zins0 md lf hn).1]
  unfold zrx
  rw [if_neg]
  intro q
  rcases hx with h | h
  · exact h q.1
  · exact q.2 ((zins0 md lf hn).2.mp h)
theorem zins0y {md lf n po : Int} (h0 : po = 0) (hn : 1 ≤ n) (hx : md ≠ 7 ∨ zinx lf po n) : zins md lf po n = zrx md lf n := by
  subst h0
  exact zins0x hn hx
abbrev ztr3 (z x y : Int) : Prop := (z = -1 ∧ x < y) ∨ (z = 0 ∧ x = y) ∨ (z = 1 ∧ y < x)
/-- what the five signs are, by the way -/
theorem zins_sg {md lf po n its zA zB zC zD zE : Int} (hi : its = zins md lf po n) (hl : 0 ≤ lf) (hp : 0 ≤ po) (hn : 1 ≤ n) (hmd : 0 ≤ md ∧ md ≤ 7) (hx : md ≠ 7 ∨ zinx lf po n)
    (hA : ztr3 zA (2 * its * zap po n) (2 * (lf * (100000 + po) ^ n.toNat))) (hB : ztr3 zB ((2 * its + 1) * zap po n) (2 * (lf * (100000 + po) ^ n.toNat))) (hC : ztr3 zC ((2 * its - 1) * zap po n) (2 * (lf * (100000 + po) ^ n.toNat))) (hD : ztr3 zD ((2 * its + 2) * zap po n) (2 * (lf * (100000 + po) ^ n.toNat))) (hE : ztr3 zE ((2 * its - 2) * zap po n) (2 * (lf * (100000 + po) ^ n.toNat))) :
    ((md = 0 ∨ md = 2) → 0 ≤ zA ∧ zE < 0) ∧ ((md = 1 ∨ md = 3) → zA ≤ 0 ∧ 0 < zD) ∧ (md = 4 → 0 < zB ∧ zC ≤ 0) ∧ (md = 5 → 0 ≤ zB ∧ zC < 0) ∧ (md = 6 → (its % 2 = 0 → 0 ≤ zB ∧ zC ≤ 0) ∧ (its % 2 ≠ 0 → 0 < zB ∧ zC < 0)) ∧ (md = 7 → zA = 0) := by
  obtain ⟨X, V, u, hu, hue, hX, hV, nA, nB, nC, nD, nE, nF⟩ := zinsN hi hl hp hn hmd hx
  have tw1 := ztwo its (zap po n) 1
  have tw2 := ztwo its (zap po n) 2
  rw [Int.one_mul] at tw1
  rw [tw1.2.2] at hA; rw [tw1.1] at hB; rw [tw1.2.1] at hC; rw [tw2.1] at hD; rw [tw2.2.1] at hE
  rw [← hue, ← hX, ← hV] at hA hB hC hD hE
  clear hi hx tw1 tw2 hue hX hV
  refine ⟨fun q => ?_, fun q => ?_, fun q => ?_, fun q => ?_, fun q => ⟨fun w => ?_, fun w => ?_⟩, fun q => ?_⟩
  · have := nA q; clear nA nB nC nD nE nF hB hC hD; omega
  · have := nB q; clear nA nB nC nD nE nF hB hC hE; omega
  · have := nC q; clear nA nB nC nD nE nF hA hD hE; omega
  · have := nD q; clear nA nB nC nD nE nF hA hD hE; omega
  · have := (nE q).1 w; clear nA nB nC nD nE nF hA hD hE; omega
  · have := (nE q).2 w; clear nA nB nC nD nE nF hA hD hE; omega
  · have := nF q; clear nA nB nC nD nE nF hB hC hD hE; omega
def rm_c_J9_floorDivW : Room := { frames := 0, cells := 0, slots := 0, locals := 0 }
set_option maxHeartbeats 1000000 in
set_option maxRecDepth 100000 in
theorem c_J9_floorDivW (l : Launch) (G : zG) (x : Int) (y : Int) (h1 : -9000000000000000000 < x ∧ x < 9000000000000000000) (h2 : 1 ≤ y ∧ y < 200000000000000000) : zM l G yJ9_floorDiv_f86c9 wsJ9_floorDiv_f86c9 rm_c_J9_floorDivW [.long (lz (x)), .long (lz (y))] [] (fun A => zQl G (fun (z : Int) (_ : Unit) => z = x / y) (fun (_ : Unit) => []) A) 0 0 := by
  refine zM_ofF (cc := cJ9_floorDiv_f86c9) (maxL := 6) (ret := (some .long)) (by decide +kernel) rfl (Nat.le_of_ble_eq_true rfl) ?_
  intro p e s m below meth c ls A Q hQ hx hb hr hts hown hlocks hml hnm hKX hP hD hA hS hl
  have hK := hKX.1
  obtain ⟨H, hH⟩ : ∃ h, h = s.heap := ⟨_, rfl⟩
  obtain ⟨locs, hlo⟩ : ∃ h : List Loc, h = [] := ⟨_, rfl⟩
  have hS : va_S A s.heap H locs := by rw [hH, hlo]; exact hS
  have hP : va_P G.1 vwCl [] H := by rw [hH]; exact hP
  have hD : va_D A [] := hD
  have hl : lv_has ls 6 [(0, .long (lz (x))), (2, .long (lz (y)))] := hl
  rw [← hH, ← hlo]
  refine lv_lload_n hx hb dJ9_floorDiv_f86c9_0 rfl (lv_at hl 0 rfl) ?_
  refine lv_lload_n hx hb dJ9_floorDiv_f86c9_1 rfl (lv_at hl 1 rfl) ?_
  refine zr_ldivT hx hb (x := x) (y := y) ⟨by omega, by omega⟩ ⟨by omega, by omega⟩ (by omega) dJ9_floorDiv_f86c9_2 ?_
  refine zr_namel (fun q eq => ?_)
  refine lv_lstore (lv' := [(4, .long (lz (q))), (0, .long (lz (x))), (2, .long (lz (y)))]) hx hb dJ9_floorDiv_f86c9_3 hl (by decide) rfl (fun ls hl => ?_)
  refine lv_lload_n hx hb dJ9_floorDiv_f86c9_5 rfl (lv_at hl 1 rfl) ?_
  refine lv_lload_n hx hb dJ9_floorDiv_f86c9_6 rfl (lv_at hl 2 rfl) ?_
  refine zr_lxorS hx hb (x := x) (y := y) (⟨by omega, by omega⟩) (⟨by omega, by omega⟩) dJ9_floorDiv_f86c9_7 (fun xr_1 hxr_1 hsxr_1 => ?_)
  refine zr_namel (fun xr exr => ?_)
  refine lv_lconst (v := lz (0)) hx hb dJ9_floorDiv_f86c9_8 rfl ?_
  refine zr_lcmp_ge (x := xr) (y := 0) (tgt := 27) hx hb (⟨by omega, by omega⟩) (⟨by omega, by omega⟩) dJ9_floorDiv_f86c9_9 dJ9_floorDiv_f86c9_10 (by decide) (fun h_2 => ?_) (fun h_2 => ?_)
  ·
    have hx0 : 0 ≤ x := by have := hsxr_1; omega
    refine lv_lload hx hb dJ9_floorDiv_f86c9_27 (lv_at hl 0 rfl) ?_
    rw [hQ]
    exact zr_lret (z := q) (u := ()) hx hb hr hlocks hP hD hS (by first | exact Nat.le_of_ble_eq_true rfl | omega) (by first | exact Nat.le_of_ble_eq_true rfl | omega) dJ9_floorDiv_f86c9_29 (show q = x / y from by first | exact (eq.trans (tfd_pos hx0)) | exact hn.1 (by omega))
  ·
    have hx0 : x < 0 := by have := hsxr_1; omega
    have hn := tfd_neg hx0 h2.1
    rw [← eq] at hn
    refine lv_lload hx hb dJ9_floorDiv_f86c9_13 (lv_at hl 0 rfl) ?_
    refine lv_lload_n hx hb dJ9_floorDiv_f86c9_15 rfl (lv_at hl 2 rfl) ?_
    refine zr_lmul hx hb dJ9_floorDiv_f86c9_16 ?_
    refine lv_lload_n hx hb dJ9_floorDiv_f86c9_17 rfl (lv_at hl 1 rfl) ?_
    refine zr_lcmp_eq (x := q * y) (y := x) (tgt := 27) hx hb (⟨by omega, by omega⟩) (⟨by omega, by omega⟩) dJ9_floorDiv_f86c9_18 dJ9_floorDiv_f86c9_19 (by decide) (fun h_3 => ?_) (fun h_3 => ?_)
    ·
      refine lv_lload hx hb dJ9_floorDiv_f86c9_27 (lv_at hl 0 rfl) ?_
      rw [hQ]
      exact zr_lret (z := q) (u := ()) hx hb hr hlocks hP hD hS (by first | exact Nat.le_of_ble_eq_true rfl | omega) (by first | exact Nat.le_of_ble_eq_true rfl | omega) dJ9_floorDiv_f86c9_29 (show q = x / y from by first | exact (eq.trans (tfd_pos hx0)) | exact hn.1 (by omega))
    ·
      refine lv_lload hx hb dJ9_floorDiv_f86c9_22 (lv_at hl 0 rfl) ?_
      refine lv_lconst (v := lz (1)) hx hb dJ9_floorDiv_f86c9_24 rfl ?_
      refine zr_lsub hx hb dJ9_floorDiv_f86c9_25 ?_
      rw [hQ]
      exact zr_lret (z := q - 1) (u := ()) hx hb hr hlocks hP hD hS (by first | exact Nat.le_of_ble_eq_true rfl | omega) (by first | exact Nat.le_of_ble_eq_true rfl | omega) dJ9_floorDiv_f86c9_26 (show (q - 1) = x / y from hn.2.1 (by omega))

def rm_c_L_roundedW : Room := { frames := 1, cells := 0, slots := 0, locals := 25 }
set_option maxHeartbeats 1000000 in
set_option maxRecDepth 100000 in
theorem c_L_roundedW (l : Launch) (G : zG) (ov : Int) (un : Int) (md : Int) (hmd : 0 ≤ md ∧ md ≤ 7) (h1 : -9000000000000000000 < ov ∧ ov < 9000000000000000000) (h2 : 1 ≤ un ∧ un < 200000000000000000) : zM l G yL_rounded wsL_rounded rm_c_L_roundedW [.long (lz (ov)), .long (lz (un)), .int (iz (md))] [] (fun A => zQl G (fun (z : Int) (_ : Unit) => z = zrx md ov un) (fun (_ : Unit) => []) A) 0 0 := by
  refine zM_of (cc := cL_rounded) (maxL := 12) (ret := (some .long)) (by decide) rfl (Nat.le_of_ble_eq_true rfl) ?_
  intro p e s m below meth c ls A Q hQ hx hb hr hts hown hlocks hml hnm hKX hP hD hA hS hl
  have hK := hKX.1
  obtain ⟨H, hH⟩ : ∃ h, h = s.heap := ⟨_, rfl⟩
  obtain ⟨locs, hlo⟩ : ∃ h : List Loc, h = [] := ⟨_, rfl⟩
  have hS : va_S A s.heap H locs := by rw [hH, hlo]; exact hS
  have hP : va_P G.1 vwCl [] H := by rw [hH]; exact hP
  have hD : va_D A [] := hD
  have hl : lv_has ls 12 [(0, .long (lz (ov))), (2, .long (lz (un))), (4, .int (iz (md)))] := hl
  rw [← hH, ← hlo]
  refine lv_lload_n hx hb dL_rounded_0 rfl (lv_at hl 0 rfl) ?_
  refine lv_lload_n hx hb dL_rounded_1 rfl (lv_at hl 1 rfl) ?_
  refine zc_l (wr := []) (va_runS (As := [.long (lz (ov)), .long (lz (un))]) (rest := []) ⟨hx, hb, hml, hown, hts⟩ (c_J9_floorDivW l G ov un (by omega) (by omega) H.size) (va_cwS 2 hts gL_rounded_J9_floorDiv_f86c9 rfl rfl rfl (by decide +kernel) ⟨Nat.le_of_ble_eq_true rfl, Nat.le_of_ble_eq_true rfl⟩) (zpS hKX hP hD [] rfl rfl) rfl rfl hl.1 rfl (lv_room (Nat.le_of_ble_eq_true rfl)) dL_rounded_2 ⟨(by first | exact Nat.le_of_ble_eq_true rfl | (show _ ≤ (0 : Nat); omega)), (by first | exact Nat.le_of_ble_eq_true rfl | (show _ ≤ (0 : Nat); omega))⟩) hP hD hS hA [] [] rfl rfl rfl (by decide) (fun dn u_1 H locs hdn hP hD hS => ?_)
  have hP : va_P G.1 vwCl [] H := hP
  have hD : va_D A [] := hD
  have hdn : dn = ov / un := hdn
  have hdr := zfd_rng (v := ov) (u := un) (B := 9000000000000000000) (by omega) ⟨by omega, by omega⟩
  rw [← hdn] at hdr
  refine lv_lstore (lv' := [(5, .long (lz (dn))), (0, .long (lz (ov))), (2, .long (lz (un))), (4, .int (iz (md)))]) hx hb dL_rounded_5 hl (by decide) rfl (fun ls hl => ?_)
  refine lv_lload_n hx hb dL_rounded_7 rfl (lv_at hl 1 rfl) ?_
  refine lv_lload hx hb dL_rounded_8 (lv_at hl 0 rfl) ?_
  refine lv_lload_n hx hb dL_rounded_10 rfl (lv_at hl 2 rfl) ?_
  refine zr_lmul hx hb dL_rounded_11 ?_
  refine zr_lsub hx hb dL_rounded_12 ?_
  refine zr_namel (fun rs ers => ?_)
  have hrs : rs = ov % un := by have := zdm ov (show 0 < un by omega); rw [ers, hdn, Int.mul_comm]; omega
  have hrb := zdm ov (show 0 < un by omega)
  refine lv_lstore (lv' := [(7, .long (lz (rs))), (5, .long (lz (dn))), (0, .long (lz (ov))), (2, .long (lz (un))), (4, .int (iz (md)))]) hx hb dL_rounded_13 hl (by decide) rfl (fun ls hl => ?_)
  refine lv_lload hx hb dL_rounded_15 (lv_at hl 0 rfl) ?_
  refine lv_lconst (v := lz (0)) hx hb dL_rounded_17 rfl ?_
  refine zr_lcmp_ne (x := rs) (y := 0) (tgt := 25) hx hb (⟨by omega, by omega⟩) (⟨by omega, by omega⟩) dL_rounded_18 dL_rounded_19 (by decide) (fun h_3 => ?_) (fun h_3 => ?_)
  ·
    have hr0 : ¬ rs = 0 := h_3
    refine lv_lload hx hb dL_rounded_25 (lv_at hl 0 rfl) ?_
    refine lv_lload_n hx hb dL_rounded_27 rfl (lv_at hl 3 rfl) ?_
    refine lv_lload hx hb dL_rounded_28 (lv_at hl 0 rfl) ?_
    refine zr_lsub hx hb dL_rounded_30 ?_
    refine zc_i (wr := []) (va_runS (As := [.long (lz (rs)), .long (lz (un - rs))]) (rest := []) ⟨hx, hb, hml, hown, hts⟩ (c_J13_compare l G rs (un - rs) (by omega) (by omega) H.size) (va_cwS 2 hts gL_rounded_J13_compare_74951 rfl rfl rfl (by decide +kernel) ⟨Nat.le_of_ble_eq_true rfl, Nat.le_of_ble_eq_true rfl⟩) (zpS hKX hP hD [] rfl rfl) rfl rfl hl.1 rfl (lv_room (Nat.le_of_ble_eq_true rfl)) dL_rounded_31 ⟨(by first | exact Nat.le_of_ble_eq_true rfl | (show _ ≤ (0 : Nat); omega)), (by first | exact Nat.le_of_ble_eq_true rfl | (show _ ≤ (0 : Nat); omega))⟩) hP hD hS hA [] [] rfl rfl rfl (by decide) (fun hf u_4 H locs hhf hP hD hS => ?_)
    have hP : va_P G.1 vwCl [] H := hP
    have hD : va_D A [] := hD
    have hhf : hf = if rs < (un - rs) then -1 else if rs = (un - rs) then 0 else 1 := hhf
    have hf3 := zcmp3 hhf
    refine zr_i2l hx hb (x := hf) (⟨by omega, by omega⟩) dL_rounded_34 ?_
    refine lv_lstore (lv' := [(9, .long (lz (hf))), (7, .long (lz (rs))), (5, .long (lz (dn))), (0, .long (lz (ov))), (2, .long (lz (un))), (4, .int (iz (md)))]) hx hb dL_rounded_35 hl (by decide) rfl (fun ls hl => ?_)
    have hl_48 : ∀ (bl : Bool) (H : Heap) (locs : List Loc) (ls : Array Slot), (bl = decide (ov < 0)) → va_P G.1 vwCl [] H → va_D A [] → va_S A s.heap H locs → lv_has ls 12 [(9, .long (lz (hf))), (7, .long (lz (rs))), (5, .long (lz (dn))), (0, .long (lz (ov))), (2, .long (lz (un))), (4, .int (iz (md)))] → W p l e rm_c_L_roundedW s m ([.long (lz (ov)), .long (lz (un)), .int (iz (md))] : List Value).toArray below meth c H locs (0 + 0 + 0) (0 + 0 + 0) Q (F0 m 48 ls [.int (iz (zbb bl))]) := by
      intro bl H locs ls jb hP hD hS hl
      refine lv_istore (lv' := [(11, .int (iz (zbb bl))), (9, .long (lz (hf))), (7, .long (lz (rs))), (5, .long (lz (dn))), (0, .long (lz (ov))), (2, .long (lz (un))), (4, .int (iz (md)))]) hx hb dL_rounded_48 hl (by decide) rfl (fun ls hl => ?_)
      refine lv_iload hx hb dL_rounded_50 (lv_at hl 6 rfl) ?_
      have hsi_52 := iz_toInt (z := md) (⟨by omega, by omega⟩)
      by_cases hsw_52_0 : md = 0
      ·
        refine lv_tableIn (tgt := 96) hx hb dL_rounded_52 (by omega) (by omega) (off := 44) (by rw [hsi_52, hsw_52_0]; rfl) (by decide) ?_
        refine lv_iload hx hb dL_rounded_96 (lv_at hl 0 rfl) ?_
        refine zr_ifz_eq (tgt := 106) hx hb dL_rounded_98 (by decide) (fun h_6 => ?_) (fun h_6 => ?_)
        ·
          have hzbl := of_decide_eq_false (jb.symm.trans h_6)
          refine lv_lload hx hb dL_rounded_106 (lv_at hl 3 rfl) ?_
          refine lv_lconst (v := lz (1)) hx hb dL_rounded_108 rfl ?_
          refine zr_ladd hx hb dL_rounded_109 ?_
          rw [hQ]
          exact zr_lret (z := dn + 1) (u := ()) hx hb hr hlocks hP hD hS (by first | exact Nat.le_of_ble_eq_true rfl | omega) (by first | exact Nat.le_of_ble_eq_true rfl | omega) dL_rounded_110 (show (dn + 1) = zrx md ov un from by first | (rw [hdn]; exact (zrx_e (by omega)).symm) | (unfold zrx; rw [if_pos ⟨by omega, by rw [← hrs]; exact hr0⟩]) | (unfold zrx; rw [if_neg (by omega)]; unfold zrd; rw [← hrs, ← hdn, if_neg hr0]; first | exact (if_pos (by omega)).symm | exact (if_neg (by omega)).symm))
        ·
          have hzbl := of_decide_eq_true (jb.symm.trans h_6)
          refine lv_lload hx hb dL_rounded_101 (lv_at hl 3 rfl) ?_
          refine lv_goto (tgt := 110) hx hb dL_rounded_103 (by decide) ?_
          rw [hQ]
          exact zr_lret (z := dn) (u := ()) hx hb hr hlocks hP hD hS (by first | exact Nat.le_of_ble_eq_true rfl | omega) (by first | exact Nat.le_of_ble_eq_true rfl | omega) dL_rounded_110 (show dn = zrx md ov un from by first | (rw [hdn]; exact (zrx_e (by omega)).symm) | (unfold zrx; rw [if_pos ⟨by omega, by rw [← hrs]; exact hr0⟩]) | (unfold zrx; rw [if_neg (by omega)]; unfold zrd; rw [← hrs, ← hdn, if_neg hr0]; first | exact (if_pos (by omega)).symm | exact (if_neg (by omega)).symm))
      by_cases hsw_52_1 : md = 1
      ·
        refine lv_tableIn (tgt := 111) hx hb dL_rounded_52 (by omega) (by omega) (off := 59) (by rw [hsi_52, hsw_52_1]; rfl) (by decide) ?_
        refine lv_iload hx hb dL_rounded_111 (lv_at hl 0 rfl) ?_
        refine zr_ifz_eq (tgt := 123) hx hb dL_rounded_113 (by decide) (fun h_7 => ?_) (fun h_7 => ?_)
        ·
          have hzbl := of_decide_eq_false (jb.symm.trans h_7)
          refine lv_lload hx hb dL_rounded_123 (lv_at hl 3 rfl) ?_
          rw [hQ]
          exact zr_lret (z := dn) (u := ()) hx hb hr hlocks hP hD hS (by first | exact Nat.le_of_ble_eq_true rfl | omega) (by first | exact Nat.le_of_ble_eq_true rfl | omega) dL_rounded_125 (show dn = zrx md ov un from by first | (rw [hdn]; exact (zrx_e (by omega)).symm) | (unfold zrx; rw [if_pos ⟨by omega, by rw [← hrs]; exact hr0⟩]) | (unfold zrx; rw [if_neg (by omega)]; unfold zrd; rw [← hrs, ← hdn, if_neg hr0]; first | exact (if_pos (by omega)).symm | exact (if_neg (by omega)).symm))
        ·
          have hzbl := of_decide_eq_true (jb.symm.trans h_7)
          refine lv_lload hx hb dL_rounded_116 (lv_at hl 3 rfl) ?_
          refine lv_lconst (v := lz (1)) hx hb dL_rounded_118 rfl ?_
          refine zr_ladd hx hb dL_rounded_119 ?_
          refine lv_goto (tgt := 125) hx hb dL_rounded_120 (by decide) ?_
          rw [hQ]
          exact zr_lret (z := dn + 1) (u := ()) hx hb hr hlocks hP hD hS (by first | exact Nat.le_of_ble_eq_true rfl | omega) (by first | exact Nat.le_of_ble_eq_true rfl | omega) dL_rounded_125 (show (dn + 1) = zrx md ov un from by first | (rw [hdn]; exact (zrx_e (by omega)).symm) | (unfold zrx; rw [if_pos ⟨by omega, by rw [← hrs]; exact hr0⟩]) | (unfold zrx; rw [if_neg (by omega)]; unfold zrd; rw [← hrs, ← hdn, if_neg hr0]; first | exact (if_pos (by omega)).symm | exact (if_neg (by omega)).symm))
      by_cases hsw_52_2 : md = 2
      ·
        refine lv_tableIn (tgt := 126) hx hb dL_rounded_52 (by omega) (by omega) (off := 74) (by rw [hsi_52, hsw_52_2]; rfl) (by decide) ?_
        refine lv_lload hx hb dL_rounded_126 (lv_at hl 3 rfl) ?_
        refine lv_lconst (v := lz (1)) hx hb dL_rounded_128 rfl ?_
        refine zr_ladd hx hb dL_rounded_129 ?_
        rw [hQ]
        exact zr_lret (z := dn + 1) (u := ()) hx hb hr hlocks hP hD hS (by first | exact Nat.le_of_ble_eq_true rfl | omega) (by first | exact Nat.le_of_ble_eq_true rfl | omega) dL_rounded_130 (show (dn + 1) = zrx md ov un from by first | (rw [hdn]; exact (zrx_e (by omega)).symm) | (unfold zrx; rw [if_pos ⟨by omega, by rw [← hrs]; exact hr0⟩]) | (unfold zrx; rw [if_neg (by omega)]; unfold zrd; rw [← hrs, ← hdn, if_neg hr0]; first | exact (if_pos (by omega)).symm | exact (if_neg (by omega)).symm))
      by_cases hsw_52_3 : md = 3
      ·
        refine lv_tableIn (tgt := 131) hx hb dL_rounded_52 (by omega) (by omega) (off := 79) (by rw [hsi_52, hsw_52_3]; rfl) (by decide) ?_
        refine lv_lload hx hb dL_rounded_131 (lv_at hl 3 rfl) ?_
        rw [hQ]
        exact zr_lret (z := dn) (u := ()) hx hb hr hlocks hP hD hS (by first | exact Nat.le_of_ble_eq_true rfl | omega) (by first | exact Nat.le_of_ble_eq_true rfl | omega) dL_rounded_133 (show dn = zrx md ov un from by first | (rw [hdn]; exact (zrx_e (by omega)).symm) | (unfold zrx; rw [if_pos ⟨by omega, by rw [← hrs]; exact hr0⟩]) | (unfold zrx; rw [if_neg (by omega)]; unfold zrd; rw [← hrs, ← hdn, if_neg hr0]; first | exact (if_pos (by omega)).symm | exact (if_neg (by omega)).symm))
      by_cases hsw_52_4 : md = 4
      ·
        refine lv_tableIn (tgt := 134) hx hb dL_rounded_52 (by omega) (by omega) (off := 82) (by rw [hsi_52, hsw_52_4]; rfl) (by decide) ?_
        refine lv_lload hx hb dL_rounded_134 (lv_at hl 1 rfl) ?_
        refine lv_lconst (v := lz (0)) hx hb dL_rounded_136 rfl ?_
        refine zr_lcmp_gt (x := hf) (y := 0) (tgt := 153) hx hb (⟨by omega, by omega⟩) (⟨by omega, by omega⟩) dL_rounded_137 dL_rounded_138 (by decide) (fun h_8 => ?_) (fun h_8 => ?_)
        ·
          refine lv_lload hx hb dL_rounded_153 (lv_at hl 3 rfl) ?_
          refine lv_lconst (v := lz (1)) hx hb dL_rounded_155 rfl ?_
          refine zr_ladd hx hb dL_rounded_156 ?_
          refine lv_goto (tgt := 162) hx hb dL_rounded_157 (by decide) ?_
          rw [hQ]
          exact zr_lret (z := dn + 1) (u := ()) hx hb hr hlocks hP hD hS (by first | exact Nat.le_of_ble_eq_true rfl | omega) (by first | exact Nat.le_of_ble_eq_true rfl | omega) dL_rounded_162 (show (dn + 1) = zrx md ov un from by first | (rw [hdn]; exact (zrx_e (by omega)).symm) | (unfold zrx; rw [if_pos ⟨by omega, by rw [← hrs]; exact hr0⟩]) | (unfold zrx; rw [if_neg (by omega)]; unfold zrd; rw [← hrs, ← hdn, if_neg hr0]; first | exact (if_pos (by omega)).symm | exact (if_neg (by omega)).symm))
        ·
          refine lv_lload hx hb dL_rounded_141 (lv_at hl 1 rfl) ?_
          refine lv_lconst (v := lz (0)) hx hb dL_rounded_143 rfl ?_
          refine zr_lcmp_ne (x := hf) (y := 0) (tgt := 160) hx hb (⟨by omega, by omega⟩) (⟨by omega, by omega⟩) dL_rounded_144 dL_rounded_145 (by decide) (fun h_9 => ?_) (fun h_9 => ?_)
          ·
            refine lv_lload hx hb dL_rounded_160 (lv_at hl 3 rfl) ?_
            rw [hQ]
            exact zr_lret (z := dn) (u := ()) hx hb hr hlocks hP hD hS (by first | exact Nat.le_of_ble_eq_true rfl | omega) (by first | exact Nat.le_of_ble_eq_true rfl | omega) dL_rounded_162 (show dn = zrx md ov un from by first | (rw [hdn]; exact (zrx_e (by omega)).symm) | (unfold zrx; rw [if_pos ⟨by omega, by rw [← hrs]; exact hr0⟩]) | (unfold zrx; rw [if_neg (by omega)]; unfold zrd; rw [← hrs, ← hdn, if_neg hr0]; first | exact (if_pos (by omega)).symm | exact (if_neg (by omega)).symm))
          ·
            refine lv_iload hx hb dL_rounded_148 (lv_at hl 0 rfl) ?_
            refine zr_ifz_ne (tgt := 160) hx hb dL_rounded_150 (by decide) (fun h_10 => ?_) (fun h_10 => ?_)
            ·
              have hzbl := of_decide_eq_true (jb.symm.trans h_10)
              refine lv_lload hx hb dL_rounded_160 (lv_at hl 3 rfl) ?_
              rw [hQ]
              exact zr_lret (z := dn) (u := ()) hx hb hr hlocks hP hD hS (by first | exact Nat.le_of_ble_eq_true rfl | omega) (by first | exact Nat.le_of_ble_eq_true rfl | omega) dL_rounded_162 (show dn = zrx md ov un from by first | (rw [hdn]; exact (zrx_e (by omega)).symm) | (unfold zrx; rw [if_pos ⟨by omega, by rw [← hrs]; exact hr0⟩]) | (unfold zrx; rw [if_neg (by omega)]; unfold zrd; rw [← hrs, ← hdn, if_neg hr0]; first | exact (if_pos (by omega)).symm | exact (if_neg (by omega)).symm))
            ·
              have hzbl := of_decide_eq_false (jb.symm.trans h_10)
              refine lv_lload hx hb dL_rounded_153 (lv_at hl 3 rfl) ?_
              refine lv_lconst (v := lz (1)) hx hb dL_rounded_155 rfl ?_
              refine zr_ladd hx hb dL_rounded_156 ?_
              refine lv_goto (tgt := 162) hx hb dL_rounded_157 (by decide) ?_
              rw [hQ]
              exact zr_lret (z := dn + 1) (u := ()) hx hb hr hlocks hP hD hS (by first | exact Nat.le_of_ble_eq_true rfl | omega) (by first | exact Nat.le_of_ble_eq_true rfl | omega) dL_rounded_162 (show (dn + 1) = zrx md ov un from by first | (rw [hdn]; exact (zrx_e (by omega)).symm) | (unfold zrx; rw [if_pos ⟨by omega, by rw [← hrs]; exact hr0⟩]) | (unfold zrx; rw [if_neg (by omega)]; unfold zrd; rw [← hrs, ← hdn, if_neg hr0]; first | exact (if_pos (by omega)).symm | exact (if_neg (by omega)).symm))
      by_cases hsw_52_5 : md = 5
      ·
        refine lv_tableIn (tgt := 163) hx hb dL_rounded_52 (by omega) (by omega) (off := 111) (by rw [hsi_52, hsw_52_5]; rfl) (by decide) ?_
        refine lv_lload hx hb dL_rounded_163 (lv_at hl 1 rfl) ?_
        refine lv_lconst (v := lz (0)) hx hb dL_rounded_165 rfl ?_
        refine zr_lcmp_gt (x := hf) (y := 0) (tgt := 182) hx hb (⟨by omega, by omega⟩) (⟨by omega, by omega⟩) dL_rounded_166 dL_rounded_167 (by decide) (fun h_11 => ?_) (fun h_11 => ?_)
        ·
          refine lv_lload hx hb dL_rounded_182 (lv_at hl 3 rfl) ?_
          refine lv_lconst (v := lz (1)) hx hb dL_rounded_184 rfl ?_
          refine zr_ladd hx hb dL_rounded_185 ?_
          refine lv_goto (tgt := 191) hx hb dL_rounded_186 (by decide) ?_
          rw [hQ]
          exact zr_lret (z := dn + 1) (u := ()) hx hb hr hlocks hP hD hS (by first | exact Nat.le_of_ble_eq_true rfl | omega) (by first | exact Nat.le_of_ble_eq_true rfl | omega) dL_rounded_191 (show (dn + 1) = zrx md ov un from by first | (rw [hdn]; exact (zrx_e (by omega)).symm) | (unfold zrx; rw [if_pos ⟨by omega, by rw [← hrs]; exact hr0⟩]) | (unfold zrx; rw [if_neg (by omega)]; unfold zrd; rw [← hrs, ← hdn, if_neg hr0]; first | exact (if_pos (by omega)).symm | exact (if_neg (by omega)).symm))
        ·
          refine lv_lload hx hb dL_rounded_170 (lv_at hl 1 rfl) ?_
          refine lv_lconst (v := lz (0)) hx hb dL_rounded_172 rfl ?_
          refine zr_lcmp_ne (x := hf) (y := 0) (tgt := 189) hx hb (⟨by omega, by omega⟩) (⟨by omega, by omega⟩) dL_rounded_173 dL_rounded_174 (by decide) (fun h_12 => ?_) (fun h_12 => ?_)
          ·
            refine lv_lload hx hb dL_rounded_189 (lv_at hl 3 rfl) ?_
            rw [hQ]
            exact zr_lret (z := dn) (u := ()) hx hb hr hlocks hP hD hS (by first | exact Nat.le_of_ble_eq_true rfl | omega) (by first | exact Nat.le_of_ble_eq_true rfl | omega) dL_rounded_191 (show dn = zrx md ov un from by first | (rw [hdn]; exact (zrx_e (by omega)).symm) | (unfold zrx; rw [if_pos ⟨by omega, by rw [← hrs]; exact hr0⟩]) | (unfold zrx; rw [if_neg (by omega)]; unfold zrd; rw [← hrs, ← hdn, if_neg hr0]; first | exact (if_pos (by omega)).symm | exact (if_neg (by omega)).symm))
          ·
            refine lv_iload hx hb dL_rounded_177 (lv_at hl 0 rfl) ?_
            refine zr_ifz_eq (tgt := 189) hx hb dL_rounded_179 (by decide) (fun h_13 => ?_) (fun h_13 => ?_)
            ·
              have hzbl := of_decide_eq_false (jb.symm.trans h_13)
              refine lv_lload hx hb dL_rounded_189 (lv_at hl 3 rfl) ?_
              rw [hQ]
              exact zr_lret (z := dn) (u := ()) hx hb hr hlocks hP hD hS (by first | exact Nat.le_of_ble_eq_true rfl | omega) (by first | exact Nat.le_of_ble_eq_true rfl | omega) dL_rounded_191 (show dn = zrx md ov un from by first | (rw [hdn]; exact (zrx_e (by omega)).symm) | (unfold zrx; rw [if_pos ⟨by omega, by rw [← hrs]; exact hr0⟩]) | (unfold zrx; rw [if_neg (by omega)]; unfold zrd; rw [← hrs, ← hdn, if_neg hr0]; first | exact (if_pos (by omega)).symm | exact (if_neg (by omega)).symm))
            ·
              have hzbl := of_decide_eq_true (jb.symm.trans h_13)
              refine lv_lload hx hb dL_rounded_182 (lv_at hl 3 rfl) ?_
              refine lv_lconst (v := lz (1)) hx hb dL_rounded_184 rfl ?_
              refine zr_ladd hx hb dL_rounded_185 ?_
              refine lv_goto (tgt := 191) hx hb dL_rounded_186 (by decide) ?_
              rw [hQ]
              exact zr_lret (z := dn + 1) (u := ()) hx hb hr hlocks hP hD hS (by first | exact Nat.le_of_ble_eq_true rfl | omega) (by first | exact Nat.le_of_ble_eq_true rfl | omega) dL_rounded_191 (show (dn + 1) = zrx md ov un from by first | (rw [hdn]; exact (zrx_e (by omega)).symm) | (unfold zrx; rw [if_pos ⟨by omega, by rw [← hrs]; exact hr0⟩]) | (unfold zrx; rw [if_neg (by omega)]; unfold zrd; rw [← hrs, ← hdn, if_neg hr0]; first | exact (if_pos (by omega)).symm | exact (if_neg (by omega)).symm))
      by_cases hsw_52_6 : md = 6
      ·
        refine lv_tableIn (tgt := 192) hx hb dL_rounded_52 (by omega) (by omega) (off := 140) (by rw [hsi_52, hsw_52_6]; rfl) (by decide) ?_
        refine lv_lload hx hb dL_rounded_192 (lv_at hl 1 rfl) ?_
        refine lv_lconst (v := lz (0)) hx hb dL_rounded_194 rfl ?_
        refine zr_lcmp_gt (x := hf) (y := 0) (tgt := 217) hx hb (⟨by omega, by omega⟩) (⟨by omega, by omega⟩) dL_rounded_195 dL_rounded_196 (by decide) (fun h_14 => ?_) (fun h_14 => ?_)
        ·
          refine lv_lload hx hb dL_rounded_217 (lv_at hl 3 rfl) ?_
          refine lv_lconst (v := lz (1)) hx hb dL_rounded_219 rfl ?_
          refine zr_ladd hx hb dL_rounded_220 ?_
          refine lv_goto (tgt := 226) hx hb dL_rounded_221 (by decide) ?_
          rw [hQ]
          exact zr_lret (z := dn + 1) (u := ()) hx hb hr hlocks hP hD hS (by first | exact Nat.le_of_ble_eq_true rfl | omega) (by first | exact Nat.le_of_ble_eq_true rfl | omega) dL_rounded_226 (show (dn + 1) = zrx md ov un from by first | (rw [hdn]; exact (zrx_e (by omega)).symm) | (unfold zrx; rw [if_pos ⟨by omega, by rw [← hrs]; exact hr0⟩]) | (unfold zrx; rw [if_neg (by omega)]; unfold zrd; rw [← hrs, ← hdn, if_neg hr0]; first | exact (if_pos (by omega)).symm | exact (if_neg (by omega)).symm))
        ·
          refine lv_lload hx hb dL_rounded_199 (lv_at hl 1 rfl) ?_
          refine lv_lconst (v := lz (0)) hx hb dL_rounded_201 rfl ?_
          refine zr_lcmp_ne (x := hf) (y := 0) (tgt := 224) hx hb (⟨by omega, by omega⟩) (⟨by omega, by omega⟩) dL_rounded_202 dL_rounded_203 (by decide) (fun h_15 => ?_) (fun h_15 => ?_)
          ·
            refine lv_lload hx hb dL_rounded_224 (lv_at hl 3 rfl) ?_
            rw [hQ]
            exact zr_lret (z := dn) (u := ()) hx hb hr hlocks hP hD hS (by first | exact Nat.le_of_ble_eq_true rfl | omega) (by first | exact Nat.le_of_ble_eq_true rfl | omega) dL_rounded_226 (show dn = zrx md ov un from by first | (rw [hdn]; exact (zrx_e (by omega)).symm) | (unfold zrx; rw [if_pos ⟨by omega, by rw [← hrs]; exact hr0⟩]) | (unfold zrx; rw [if_neg (by omega)]; unfold zrd; rw [← hrs, ← hdn, if_neg hr0]; first | exact (if_pos (by omega)).symm | exact (if_neg (by omega)).symm))
          ·
            refine lv_lload hx hb dL_rounded_206 (lv_at hl 3 rfl) ?_
            refine zr_ldc2 (z := 2) hx hb hown (hts (.constantLong RL 145 (2)) (by decide +kernel)) rfl dL_rounded_208 ?_
            refine zr_lremT hx hb (x := dn) (y := 2) ⟨by omega, by omega⟩ ⟨by omega, by omega⟩ (by omega) dL_rounded_211 ?_
            refine zr_namel (fun tm etm => ?_)
            have htm := ztm2 dn
            rw [← etm] at htm
            refine lv_lconst (v := lz (0)) hx hb dL_rounded_212 rfl ?_
            refine zr_lcmp_eq (x := tm) (y := 0) (tgt := 224) hx hb (⟨by omega, by omega⟩) (⟨by omega, by omega⟩) dL_rounded_213 dL_rounded_214 (by decide) (fun h_16 => ?_) (fun h_16 => ?_)
            ·
              refine lv_lload hx hb dL_rounded_224 (lv_at hl 3 rfl) ?_
              rw [hQ]
              exact zr_lret (z := dn) (u := ()) hx hb hr hlocks hP hD hS (by first | exact Nat.le_of_ble_eq_true rfl | omega) (by first | exact Nat.le_of_ble_eq_true rfl | omega) dL_rounded_226 (show dn = zrx md ov un from by first | (rw [hdn]; exact (zrx_e (by omega)).symm) | (unfold zrx; rw [if_pos ⟨by omega, by rw [← hrs]; exact hr0⟩]) | (unfold zrx; rw [if_neg (by omega)]; unfold zrd; rw [← hrs, ← hdn, if_neg hr0]; first | exact (if_pos (by omega)).symm | exact (if_neg (by omega)).symm))
            ·
              refine lv_lload hx hb dL_rounded_217 (lv_at hl 3 rfl) ?_
              refine lv_lconst (v := lz (1)) hx hb dL_rounded_219 rfl ?_
              refine zr_ladd hx hb dL_rounded_220 ?_
              refine lv_goto (tgt := 226) hx hb dL_rounded_221 (by decide) ?_
              rw [hQ]
              exact zr_lret (z := dn + 1) (u := ()) hx hb hr hlocks hP hD hS (by first | exact Nat.le_of_ble_eq_true rfl | omega) (by first | exact Nat.le_of_ble_eq_true rfl | omega) dL_rounded_226 (show (dn + 1) = zrx md ov un from by first | (rw [hdn]; exact (zrx_e (by omega)).symm) | (unfold zrx; rw [if_pos ⟨by omega, by rw [← hrs]; exact hr0⟩]) | (unfold zrx; rw [if_neg (by omega)]; unfold zrd; rw [← hrs, ← hdn, if_neg hr0]; first | exact (if_pos (by omega)).symm | exact (if_neg (by omega)).symm))
      refine lv_tableOut (tgt := 227) hx hb dL_rounded_52 (by omega) (by decide) ?_
      refine zr_ldc2 (z := -4000000000000000004) hx hb hown (hts (.constantLong RL 131 (-4000000000000000004)) (by decide +kernel)) rfl dL_rounded_227 ?_
      rw [hQ]
      exact zr_lret (z := -4000000000000000004) (u := ()) hx hb hr hlocks hP hD hS (by first | exact Nat.le_of_ble_eq_true rfl | omega) (by first | exact Nat.le_of_ble_eq_true rfl | omega) dL_rounded_230 (show (-4000000000000000004) = zrx md ov un from by first | (rw [hdn]; exact (zrx_e (by omega)).symm) | (unfold zrx; rw [if_pos ⟨by omega, by rw [← hrs]; exact hr0⟩]) | (unfold zrx; rw [if_neg (by omega)]; unfold zrd; rw [← hrs, ← hdn, if_neg hr0]; first | exact (if_pos (by omega)).symm | exact (if_neg (by omega)).symm))
    refine lv_lload_n hx hb dL_rounded_37 rfl (lv_at hl 3 rfl) ?_
    refine lv_lconst (v := lz (0)) hx hb dL_rounded_38 rfl ?_
    refine zr_lcmp_ge (x := ov) (y := 0) (tgt := 47) hx hb (⟨by omega, by omega⟩) (⟨by omega, by omega⟩) dL_rounded_39 dL_rounded_40 (by decide) (fun h_17 => ?_) (fun h_17 => ?_)
    ·
      refine lv_iconst (v := iz (0)) hx hb dL_rounded_47 rfl ?_
      exact hl_48 false _ _ _ (by first | exact (decide_eq_true (by omega)).symm | exact (decide_eq_false (by omega)).symm) (hP) (hD) hS (hl)
    ·
      refine lv_iconst (v := iz (1)) hx hb dL_rounded_43 rfl ?_
      refine lv_goto (tgt := 48) hx hb dL_rounded_44 (by decide) ?_
      exact hl_48 true _ _ _ (by first | exact (decide_eq_true (by omega)).symm | exact (decide_eq_false (by omega)).symm) (hP) (hD) hS (hl)
  ·
    have hr00 : rs = 0 := by omega
    refine lv_lload hx hb dL_rounded_22 (lv_at hl 1 rfl) ?_
    rw [hQ]
    exact zr_lret (z := dn) (u := ()) hx hb hr hlocks hP hD hS (by first | exact Nat.le_of_ble_eq_true rfl | omega) (by first | exact Nat.le_of_ble_eq_true rfl | omega) dL_rounded_24 (show dn = zrx md ov un from by first | (rw [hdn]; exact (zrx_e (by omega)).symm) | (unfold zrx; rw [if_pos ⟨by omega, by rw [← hrs]; exact hr0⟩]) | (unfold zrx; rw [if_neg (by omega)]; unfold zrd; rw [← hrs, ← hdn, if_neg hr0]; first | exact (if_pos (by omega)).symm | exact (if_neg (by omega)).symm))

def rm_c_L_isInstalment : Room := { frames := 10, cells := 460, slots := 2760, locals := 193 }
set_option maxHeartbeats 4000000 in
set_option maxRecDepth 100000 in
theorem c_L_isInstalment (l : Launch) (G : zG) (s1 : Nat) (s2 : Nat) (s3 : Nat) (x : Nat) (ro : Nat) (rw : Nat) (bo : Nat) (li : Nat) (sh : Nat) (tx : Nat) (lo : Nat) (nl : Nat) (am : Nat) (q : Nat) (bq : Nat) (f : Int → Int) (wa : Nat) (sa : Nat) (sb : Nat) (sf : Int → Int) (sn : Int) (st : Int) (da : Nat) (db : Nat) (df : Int → Int) (dn : Int) (dt : Int) (u0 : Int) (d0 : Int) (p0 : Int) (md : Int) (lf : Int) (po : Int) (n : Int) (its : Int) (hl0 : l.stackTraces = false) (hmd : 0 ≤ md ∧ md ≤ 7) (hf : zrok f) (h_lf : 0 ≤ lf ∧ lf ≤ 60000000300000) (h_po : 0 ≤ po ∧ po ≤ 20000) (h_n : 1 ≤ n ∧ n ≤ 60) (hir9 : 0 ≤ its ∧ its ≤ 200000000000000) (hi : its = zins md lf po n) (hx9 : md ≠ 7 ∨ zinx lf po n) : zMe l (zXM s1 s2 s3) G yL_isInstalment wsL_isInstalment rm_c_L_isInstalment [.ref x, .long (lz (lf)), .int (iz (po)), .int (iz (n)), .long (lz (its)), .int (iz (md))] [(x, .inr (10, [.ref ro, .ref rw, .ref bo, .ref li, .ref sh, .ref tx, .ref lo, .ref nl])), (rw, .inr (6, [.ref am, .ref q, .ref bq])), (am, zaL (G.2 0) 41 (f)), (q, .inr (2, [.ref sa, .ref da, .ref wa, .long (lz (u0)), .long (lz (d0)), .int (iz (p0))])), (sa, .inr (9, [.ref sb, .int (iz (sn)), .long (lz (st))])), (sb, zaL (G.2 0) 40 (sf)), (da, .inr (9, [.ref db, .int (iz (dn)), .long (lz (dt))])), (db, zaL (G.2 0) 40 (df))] (fun A => zQz G (fun (z : Bool) (u : (Int → Int) × Int × Int × (Int → Int) × Int × Int × Int × Int × Int × (Int → Int)) => z = true ∧ zrok u.2.2.2.2.2.2.2.2.2) (fun (u : (Int → Int) × Int × Int × (Int → Int) × Int × Int × Int × Int × Int × (Int → Int)) => [(x, .inr (10, [.ref ro, .ref rw, .ref bo, .ref li, .ref sh, .ref tx, .ref lo, .ref nl])), (rw, .inr (6, [.ref am, .ref q, .ref bq])), (am, zaL (G.2 0) 41 (u.2.2.2.2.2.2.2.2.2)), (q, .inr (2, [.ref sa, .ref da, .ref wa, .long (lz (u.2.2.2.2.2.2.2.1)), .long (lz (u.2.2.2.2.2.2.2.2.1)), .int (iz (u.2.2.2.2.2.2.1))])), (sa, .inr (9, [.ref sb, .int (iz (u.2.1)), .long (lz (u.2.2.1))])), (sb, zaL (G.2 0) 40 (u.1)), (da, .inr (9, [.ref db, .int (iz (u.2.2.2.2.1)), .long (lz (u.2.2.2.2.2.1))])), (db, zaL (G.2 0) 40 (u.2.2.2.1))]) A) 460 2760 := by
  refine zMe_of (cc := cL_isInstalment) (maxL := 13) (ret := (some .boolean)) (by decide) rfl (Nat.le_of_ble_eq_true rfl) ?_
  intro p e s m below meth c ls A Q hQ hx hb hr hts hown hlocks hml hnm hKX hE hP hD hA hS hl
  have hK := hKX.1
  obtain ⟨H, hH⟩ : ∃ h, h = s.heap := ⟨_, rfl⟩
  obtain ⟨locs, hlo⟩ : ∃ h : List Loc, h = [] := ⟨_, rfl⟩
  have hS : va_S A s.heap H locs := by rw [hH, hlo]; exact hS
  have hP : va_P G.1 vwCl [(x, .inr (10, [.ref ro, .ref rw, .ref bo, .ref li, .ref sh, .ref tx, .ref lo, .ref nl])), (rw, .inr (6, [.ref am, .ref q, .ref bq])), (am, zaL (G.2 0) 41 (f)), (q, .inr (2, [.ref sa, .ref da, .ref wa, .long (lz (u0)), .long (lz (d0)), .int (iz (p0))])), (sa, .inr (9, [.ref sb, .int (iz (sn)), .long (lz (st))])), (sb, zaL (G.2 0) 40 (sf)), (da, .inr (9, [.ref db, .int (iz (dn)), .long (lz (dt))])), (db, zaL (G.2 0) 40 (df))] H := by rw [hH]; exact hP
  have hD : va_D A [(x, .inr (10, [.ref ro, .ref rw, .ref bo, .ref li, .ref sh, .ref tx, .ref lo, .ref nl])), (rw, .inr (6, [.ref am, .ref q, .ref bq])), (am, zaL (G.2 0) 41 (f)), (q, .inr (2, [.ref sa, .ref da, .ref wa, .long (lz (u0)), .long (lz (d0)), .int (iz (p0))])), (sa, .inr (9, [.ref sb, .int (iz (sn)), .long (lz (st))])), (sb, zaL (G.2 0) 40 (sf)), (da, .inr (9, [.ref db, .int (iz (dn)), .long (lz (dt))])), (db, zaL (G.2 0) 40 (df))] := hD
  have hl : lv_has ls 13 [(0, .ref x), (1, .long (lz (lf))), (3, .int (iz (po))), (4, .int (iz (n))), (5, .long (lz (its))), (7, .int (iz (md)))] := hl
  rw [← hH, ← hlo]
  refine lv_iload_n hx hb dL_isInstalment_0 rfl (lv_at hl 2 rfl) ?_
  refine zr_if_ne (x := po) (tgt := 25) hx hb (⟨by omega, by omega⟩) dL_isInstalment_1 (by decide) (fun h_1 => ?_) (fun h_1 => ?_)
  ·
    refine lv_iload hx hb dL_isInstalment_25 (lv_at hl 3 rfl) ?_
    refine lv_bipush (v := iz (40)) hx hb dL_isInstalment_27 rfl ?_
    refine zr_icmp_gt (x := n) (y := 40) (tgt := 49) hx hb (⟨by omega, by omega⟩) (⟨by omega, by omega⟩) dL_isInstalment_29 (by decide) (fun h_2 => ?_) (fun h_2 => ?_)
    ·
      refine lv_iconst (v := iz (1)) hx hb dL_isInstalment_49 rfl ?_
      rw [hQ]
      exact zr_zret (z := true) (rfl) (u := (sf, sn, st, df, dn, dt, p0, u0, d0, f)) hx hb hr hlocks hP hD hS (by first | exact Nat.le_of_ble_eq_true rfl | omega) (by first | exact Nat.le_of_ble_eq_true rfl | omega) dL_isInstalment_50 (show true = true ∧ zrok f from ⟨rfl, by first | exact hf | exact hkE⟩)
    ·
      refine lv_lload_n hx hb dL_isInstalment_32 rfl (lv_at hl 1 rfl) ?_
      refine zr_ldc2 (z := 400000000) hx hb hown (hts (.constantLong RL 199 (400000000)) (by decide +kernel)) rfl dL_isInstalment_33 ?_
      refine zr_lcmp_gt (x := lf) (y := 400000000) (tgt := 49) hx hb (⟨by omega, by omega⟩) (⟨by omega, by omega⟩) dL_isInstalment_36 dL_isInstalment_37 (by decide) (fun h_3 => ?_) (fun h_3 => ?_)
      ·
        refine lv_iconst (v := iz (1)) hx hb dL_isInstalment_49 rfl ?_
        rw [hQ]
        exact zr_zret (z := true) (rfl) (u := (sf, sn, st, df, dn, dt, p0, u0, d0, f)) hx hb hr hlocks hP hD hS (by first | exact Nat.le_of_ble_eq_true rfl | omega) (by first | exact Nat.le_of_ble_eq_true rfl | omega) dL_isInstalment_50 (show true = true ∧ zrok f from ⟨rfl, by first | exact hf | exact hkE⟩)
      ·
        refine lv_lload hx hb dL_isInstalment_40 (lv_at hl 4 rfl) ?_
        refine zr_ldc2 (z := 400000000) hx hb hown (hts (.constantLong RL 199 (400000000)) (by decide +kernel)) rfl dL_isInstalment_42 ?_
        refine zr_lcmp_le (x := its) (y := 400000000) (tgt := 51) hx hb (⟨by omega, by omega⟩) (⟨by omega, by omega⟩) dL_isInstalment_45 dL_isInstalment_46 (by decide) (fun h_4 => ?_) (fun h_4 => ?_)
        ·
          refine lv_aload_n hx hb dL_isInstalment_51 rfl (lv_at hl 0 rfl) ?_
          refine lv_lload_n hx hb dL_isInstalment_52 rfl (lv_at hl 1 rfl) ?_
          refine lv_iload_n hx hb dL_isInstalment_53 rfl (lv_at hl 2 rfl) ?_
          refine lv_iload hx hb dL_isInstalment_54 (lv_at hl 3 rfl) ?_
          refine zr_ldc2 (z := 2) hx hb hown (hts (.constantLong RL 145 (2)) (by decide +kernel)) rfl dL_isInstalment_56 ?_
          refine lv_lload hx hb dL_isInstalment_59 (lv_at hl 4 rfl) ?_
          refine zr_lmul hx hb dL_isInstalment_61 ?_
          refine zc_i (wr := []) (va_runS (As := [.ref x, .long (lz (lf)), .int (iz (po)), .int (iz (n)), .long (lz (2 * its))]) (rest := []) ⟨hx, hb, hml, hown, hts⟩ (c_L_against l G s1 s2 s3 x ro rw bo li sh tx lo nl am q bq f wa sa sb sf sn st da db df dn dt u0 d0 p0 lf po n (2 * its) hl0 (hf) (by omega) (by omega) (by omega) (by omega) H.size) (va_cwS 5 hts gL_isInstalment_L_against rfl rfl rfl (by decide +kernel) ⟨Nat.le_of_ble_eq_true rfl, Nat.le_of_ble_eq_true rfl⟩) (zpSe zXM_ok hE hS hA hKX hP hD [0, 1, 2, 3, 4, 5, 6, 7] rfl rfl) rfl rfl hl.1 rfl (lv_room (Nat.le_of_ble_eq_true rfl)) dL_isInstalment_62 ⟨(by first | exact Nat.le_of_ble_eq_true rfl | (show _ ≤ (460 : Nat); omega)), (by first | exact Nat.le_of_ble_eq_true rfl | (show _ ≤ (2760 : Nat); omega))⟩) hP hD hS hA [0, 1, 2, 3, 4, 5, 6, 7] [] rfl rfl rfl (by decide) (fun zA u_5 H locs hzA hP hD hS => ?_)
          obtain ⟨sf_A, sn_A, st_A, df_A, dn_A, dt_A, pq_A, ru_A, rd_A, f_A⟩ := u_5
          have hP : va_P G.1 vwCl [(x, .inr (10, [.ref ro, .ref rw, .ref bo, .ref li, .ref sh, .ref tx, .ref lo, .ref nl])), (rw, .inr (6, [.ref am, .ref q, .ref bq])), (am, zaL (G.2 0) 41 (f_A)), (q, .inr (2, [.ref sa, .ref da, .ref wa, .long (lz (ru_A)), .long (lz (rd_A)), .int (iz (pq_A))])), (sa, .inr (9, [.ref sb, .int (iz (sn_A)), .long (lz (st_A))])), (sb, zaL (G.2 0) 40 (sf_A)), (da, .inr (9, [.ref db, .int (iz (dn_A)), .long (lz (dt_A))])), (db, zaL (G.2 0) 40 (df_A))] H := hP
          have hD : va_D A [(x, .inr (10, [.ref ro, .ref rw, .ref bo, .ref li, .ref sh, .ref tx, .ref lo, .ref nl])), (rw, .inr (6, [.ref am, .ref q, .ref bq])), (am, zaL (G.2 0) 41 (f_A)), (q, .inr (2, [.ref sa, .ref da, .ref wa, .long (lz (ru_A)), .long (lz (rd_A)), .int (iz (pq_A))])), (sa, .inr (9, [.ref sb, .int (iz (sn_A)), .long (lz (st_A))])), (sb, zaL (G.2 0) 40 (sf_A)), (da, .inr (9, [.ref db, .int (iz (dn_A)), .long (lz (dt_A))])), (db, zaL (G.2 0) 40 (df_A))] := hD
          have hzA : zA = (znm f_A po).sign ∧ zagn f_A lf n (2 * its) := hzA
          have hsA := zagS hzA (by omega) (by omega)
          have hkA := hzA.2.rok (by omega) (by omega)
          refine lv_istore (lv' := [(8, .int (iz (zA))), (0, .ref x), (1, .long (lz (lf))), (3, .int (iz (po))), (4, .int (iz (n))), (5, .long (lz (its))), (7, .int (iz (md)))]) hx hb dL_isInstalment_65 hl (by decide) rfl (fun ls hl => ?_)
          refine lv_aload_n hx hb dL_isInstalment_67 rfl (lv_at hl 1 rfl) ?_
          refine lv_lload_n hx hb dL_isInstalment_68 rfl (lv_at hl 2 rfl) ?_
          refine lv_iload_n hx hb dL_isInstalment_69 rfl (lv_at hl 3 rfl) ?_
          refine lv_iload hx hb dL_isInstalment_70 (lv_at hl 4 rfl) ?_
          refine zr_ldc2 (z := 2) hx hb hown (hts (.constantLong RL 145 (2)) (by decide +kernel)) rfl dL_isInstalment_72 ?_
          refine lv_lload hx hb dL_isInstalment_75 (lv_at hl 5 rfl) ?_
          refine zr_lmul hx hb dL_isInstalment_77 ?_
          refine lv_lconst (v := lz (1)) hx hb dL_isInstalment_78 rfl ?_
          refine zr_ladd hx hb dL_isInstalment_79 ?_
          refine zc_i (wr := []) (va_runS (As := [.ref x, .long (lz (lf)), .int (iz (po)), .int (iz (n)), .long (lz ((2 * its) + 1))]) (rest := []) ⟨hx, hb, hml, hown, hts⟩ (c_L_against l G s1 s2 s3 x ro rw bo li sh tx lo nl am q bq f_A wa sa sb sf_A sn_A st_A da db df_A dn_A dt_A ru_A rd_A pq_A lf po n ((2 * its) + 1) hl0 (hkA) (by omega) (by omega) (by omega) (by omega) H.size) (va_cwS 5 hts gL_isInstalment_L_against rfl rfl rfl (by decide +kernel) ⟨Nat.le_of_ble_eq_true rfl, Nat.le_of_ble_eq_true rfl⟩) (zpSe zXM_ok hE hS hA hKX hP hD [0, 1, 2, 3, 4, 5, 6, 7] rfl rfl) rfl rfl hl.1 rfl (lv_room (Nat.le_of_ble_eq_true rfl)) dL_isInstalment_80 ⟨(by first | exact Nat.le_of_ble_eq_true rfl | (show _ ≤ (460 : Nat); omega)), (by first | exact Nat.le_of_ble_eq_true rfl | (show _ ≤ (2760 : Nat); omega))⟩) hP hD hS hA [0, 1, 2, 3, 4, 5, 6, 7] [] rfl rfl rfl (by decide) (fun zB u_7 H locs hzB hP hD hS => ?_)
          obtain ⟨sf_B, sn_B, st_B, df_B, dn_B, dt_B, pq_B, ru_B, rd_B, f_B⟩ := u_7
          have hP : va_P G.1 vwCl [(x, .inr (10, [.ref ro, .ref rw, .ref bo, .ref li, .ref sh, .ref tx, .ref lo, .ref nl])), (rw, .inr (6, [.ref am, .ref q, .ref bq])), (am, zaL (G.2 0) 41 (f_B)), (q, .inr (2, [.ref sa, .ref da, .ref wa, .long (lz (ru_B)), .long (lz (rd_B)), .int (iz (pq_B))])), (sa, .inr (9, [.ref sb, .int (iz (sn_B)), .long (lz (st_B))])), (sb, zaL (G.2 0) 40 (sf_B)), (da, .inr (9, [.ref db, .int (iz (dn_B)), .long (lz (dt_B))])), (db, zaL (G.2 0) 40 (df_B))] H := hP
          have hD : va_D A [(x, .inr (10, [.ref ro, .ref rw, .ref bo, .ref li, .ref sh, .ref tx, .ref lo, .ref nl])), (rw, .inr (6, [.ref am, .ref q, .ref bq])), (am, zaL (G.2 0) 41 (f_B)), (q, .inr (2, [.ref sa, .ref da, .ref wa, .long (lz (ru_B)), .long (lz (rd_B)), .int (iz (pq_B))])), (sa, .inr (9, [.ref sb, .int (iz (sn_B)), .long (lz (st_B))])), (sb, zaL (G.2 0) 40 (sf_B)), (da, .inr (9, [.ref db, .int (iz (dn_B)), .long (lz (dt_B))])), (db, zaL (G.2 0) 40 (df_B))] := hD
          have hzB : zB = (znm f_B po).sign ∧ zagn f_B lf n ((2 * its) + 1) := hzB
          have hsB := zagS hzB (by omega) (by omega)
          have hkB := hzB.2.rok (by omega) (by omega)
          refine lv_istore (lv' := [(9, .int (iz (zB))), (8, .int (iz (zA))), (0, .ref x), (1, .long (lz (lf))), (3, .int (iz (po))), (4, .int (iz (n))), (5, .long (lz (its))), (7, .int (iz (md)))]) hx hb dL_isInstalment_83 hl (by decide) rfl (fun ls hl => ?_)
          refine lv_aload_n hx hb dL_isInstalment_85 rfl (lv_at hl 2 rfl) ?_
          refine lv_lload_n hx hb dL_isInstalment_86 rfl (lv_at hl 3 rfl) ?_
          refine lv_iload_n hx hb dL_isInstalment_87 rfl (lv_at hl 4 rfl) ?_
          refine lv_iload hx hb dL_isInstalment_88 (lv_at hl 5 rfl) ?_
          refine zr_ldc2 (z := 2) hx hb hown (hts (.constantLong RL 145 (2)) (by decide +kernel)) rfl dL_isInstalment_90 ?_
          refine lv_lload hx hb dL_isInstalment_93 (lv_at hl 6 rfl) ?_
          refine zr_lmul hx hb dL_isInstalment_95 ?_
          refine lv_lconst (v := lz (1)) hx hb dL_isInstalment_96 rfl ?_
          refine zr_lsub hx hb dL_isInstalment_97 ?_
          refine zc_i (wr := []) (va_runS (As := [.ref x, .long (lz (lf)), .int (iz (po)), .int (iz (n)), .long (lz ((2 * its) - 1))]) (rest := []) ⟨hx, hb, hml, hown, hts⟩ (c_L_against l G s1 s2 s3 x ro rw bo li sh tx lo nl am q bq f_B wa sa sb sf_B sn_B st_B da db df_B dn_B dt_B ru_B rd_B pq_B lf po n ((2 * its) - 1) hl0 (hkB) (by omega) (by omega) (by omega) (by omega) H.size) (va_cwS 5 hts gL_isInstalment_L_against rfl rfl rfl (by decide +kernel) ⟨Nat.le_of_ble_eq_true rfl, Nat.le_of_ble_eq_true rfl⟩) (zpSe zXM_ok hE hS hA hKX hP hD [0, 1, 2, 3, 4, 5, 6, 7] rfl rfl) rfl rfl hl.1 rfl (lv_room (Nat.le_of_ble_eq_true rfl)) dL_isInstalment_98 ⟨(by first | exact Nat.le_of_ble_eq_true rfl | (show _ ≤ (460 : Nat); omega)), (by first | exact Nat.le_of_ble_eq_true rfl | (show _ ≤ (2760 : Nat); omega))⟩) hP hD hS hA [0, 1, 2, 3, 4, 5, 6, 7] [] rfl rfl rfl (by decide) (fun zC u_9 H locs hzC hP hD hS => ?_)
          obtain ⟨sf_C, sn_C, st_C, df_C, dn_C, dt_C, pq_C, ru_C, rd_C, f_C⟩ := u_9
          have hP : va_P G.1 vwCl [(x, .inr (10, [.ref ro, .ref rw, .ref bo, .ref li, .ref sh, .ref tx, .ref lo, .ref nl])), (rw, .inr (6, [.ref am, .ref q, .ref bq])), (am, zaL (G.2 0) 41 (f_C)), (q, .inr (2, [.ref sa, .ref da, .ref wa, .long (lz (ru_C)), .long (lz (rd_C)), .int (iz (pq_C))])), (sa, .inr (9, [.ref sb, .int (iz (sn_C)), .long (lz (st_C))])), (sb, zaL (G.2 0) 40 (sf_C)), (da, .inr (9, [.ref db, .int (iz (dn_C)), .long (lz (dt_C))])), (db, zaL (G.2 0) 40 (df_C))] H := hP
          have hD : va_D A [(x, .inr (10, [.ref ro, .ref rw, .ref bo, .ref li, .ref sh, .ref tx, .ref lo, .ref nl])), (rw, .inr (6, [.ref am, .ref q, .ref bq])), (am, zaL (G.2 0) 41 (f_C)), (q, .inr (2, [.ref sa, .ref da, .ref wa, .long (lz (ru_C)), .long (lz (rd_C)), .int (iz (pq_C))])), (sa, .inr (9, [.ref sb, .int (iz (sn_C)), .long (lz (st_C))])), (sb, zaL (G.2 0) 40 (sf_C)), (da, .inr (9, [.ref db, .int (iz (dn_C)), .long (lz (dt_C))])), (db, zaL (G.2 0) 40 (df_C))] := hD
          have hzC : zC = (znm f_C po).sign ∧ zagn f_C lf n ((2 * its) - 1) := hzC
          have hsC := zagS hzC (by omega) (by omega)
          have hkC := hzC.2.rok (by omega) (by omega)
          refine lv_istore (lv' := [(10, .int (iz (zC))), (9, .int (iz (zB))), (8, .int (iz (zA))), (0, .ref x), (1, .long (lz (lf))), (3, .int (iz (po))), (4, .int (iz (n))), (5, .long (lz (its))), (7, .int (iz (md)))]) hx hb dL_isInstalment_101 hl (by decide) rfl (fun ls hl => ?_)
          refine lv_aload_n hx hb dL_isInstalment_103 rfl (lv_at hl 3 rfl) ?_
          refine lv_lload_n hx hb dL_isInstalment_104 rfl (lv_at hl 4 rfl) ?_
          refine lv_iload_n hx hb dL_isInstalment_105 rfl (lv_at hl 5 rfl) ?_
          refine lv_iload hx hb dL_isInstalment_106 (lv_at hl 6 rfl) ?_
          refine zr_ldc2 (z := 2) hx hb hown (hts (.constantLong RL 145 (2)) (by decide +kernel)) rfl dL_isInstalment_108 ?_
          refine lv_lload hx hb dL_isInstalment_111 (lv_at hl 7 rfl) ?_
          refine zr_lmul hx hb dL_isInstalment_113 ?_
          refine zr_ldc2 (z := 2) hx hb hown (hts (.constantLong RL 145 (2)) (by decide +kernel)) rfl dL_isInstalment_114 ?_
          refine zr_ladd hx hb dL_isInstalment_117 ?_
          refine zc_i (wr := []) (va_runS (As := [.ref x, .long (lz (lf)), .int (iz (po)), .int (iz (n)), .long (lz ((2 * its) + 2))]) (rest := []) ⟨hx, hb, hml, hown, hts⟩ (c_L_against l G s1 s2 s3 x ro rw bo li sh tx lo nl am q bq f_C wa sa sb sf_C sn_C st_C da db df_C dn_C dt_C ru_C rd_C pq_C lf po n ((2 * its) + 2) hl0 (hkC) (by omega) (by omega) (by omega) (by omega) H.size) (va_cwS 5 hts gL_isInstalment_L_against rfl rfl rfl (by decide +kernel) ⟨Nat.le_of_ble_eq_true rfl, Nat.le_of_ble_eq_true rfl⟩) (zpSe zXM_ok hE hS hA hKX hP hD [0, 1, 2, 3, 4, 5, 6, 7] rfl rfl) rfl rfl hl.1 rfl (lv_room (Nat.le_of_ble_eq_true rfl)) dL_isInstalment_118 ⟨(by first | exact Nat.le_of_ble_eq_true rfl | (show _ ≤ (460 : Nat); omega)), (by first | exact Nat.le_of_ble_eq_true rfl | (show _ ≤ (2760 : Nat); omega))⟩) hP hD hS hA [0, 1, 2, 3, 4, 5, 6, 7] [] rfl rfl rfl (by decide) (fun zD u_11 H locs hzD hP hD hS => ?_)
          obtain ⟨sf_D, sn_D, st_D, df_D, dn_D, dt_D, pq_D, ru_D, rd_D, f_D⟩ := u_11
          have hP : va_P G.1 vwCl [(x, .inr (10, [.ref ro, .ref rw, .ref bo, .ref li, .ref sh, .ref tx, .ref lo, .ref nl])), (rw, .inr (6, [.ref am, .ref q, .ref bq])), (am, zaL (G.2 0) 41 (f_D)), (q, .inr (2, [.ref sa, .ref da, .ref wa, .long (lz (ru_D)), .long (lz (rd_D)), .int (iz (pq_D))])), (sa, .inr (9, [.ref sb, .int (iz (sn_D)), .long (lz (st_D))])), (sb, zaL (G.2 0) 40 (sf_D)), (da, .inr (9, [.ref db, .int (iz (dn_D)), .long (lz (dt_D))])), (db, zaL (G.2 0) 40 (df_D))] H := hP
          have hD : va_D A [(x, .inr (10, [.ref ro, .ref rw, .ref bo, .ref li, .ref sh, .ref tx, .ref lo, .ref nl])), (rw, .inr (6, [.ref am, .ref q, .ref bq])), (am, zaL (G.2 0) 41 (f_D)), (q, .inr (2, [.ref sa, .ref da, .ref wa, .long (lz (ru_D)), .long (lz (rd_D)), .int (iz (pq_D))])), (sa, .inr (9, [.ref sb, .int (iz (sn_D)), .long (lz (st_D))])), (sb, zaL (G.2 0) 40 (sf_D)), (da, .inr (9, [.ref db, .int (iz (dn_D)), .long (lz (dt_D))])), (db, zaL (G.2 0) 40 (df_D))] := hD
          have hzD : zD = (znm f_D po).sign ∧ zagn f_D lf n ((2 * its) + 2) := hzD
          have hsD := zagS hzD (by omega) (by omega)
          have hkD := hzD.2.rok (by omega) (by omega)
          refine lv_istore (lv' := [(11, .int (iz (zD))), (10, .int (iz (zC))), (9, .int (iz (zB))), (8, .int (iz (zA))), (0, .ref x), (1, .long (lz (lf))), (3, .int (iz (po))), (4, .int (iz (n))), (5, .long (lz (its))), (7, .int (iz (md)))]) hx hb dL_isInstalment_121 hl (by decide) rfl (fun ls hl => ?_)
          refine lv_aload_n hx hb dL_isInstalment_123 rfl (lv_at hl 4 rfl) ?_
          refine lv_lload_n hx hb dL_isInstalment_124 rfl (lv_at hl 5 rfl) ?_
          refine lv_iload_n hx hb dL_isInstalment_125 rfl (lv_at hl 6 rfl) ?_
          refine lv_iload hx hb dL_isInstalment_126 (lv_at hl 7 rfl) ?_
          refine zr_ldc2 (z := 2) hx hb hown (hts (.constantLong RL 145 (2)) (by decide +kernel)) rfl dL_isInstalment_128 ?_
          refine lv_lload hx hb dL_isInstalment_131 (lv_at hl 8 rfl) ?_
          refine zr_lmul hx hb dL_isInstalment_133 ?_
          refine zr_ldc2 (z := 2) hx hb hown (hts (.constantLong RL 145 (2)) (by decide +kernel)) rfl dL_isInstalment_134 ?_
          refine zr_lsub hx hb dL_isInstalment_137 ?_
          refine zc_i (wr := []) (va_runS (As := [.ref x, .long (lz (lf)), .int (iz (po)), .int (iz (n)), .long (lz ((2 * its) - 2))]) (rest := []) ⟨hx, hb, hml, hown, hts⟩ (c_L_against l G s1 s2 s3 x ro rw bo li sh tx lo nl am q bq f_D wa sa sb sf_D sn_D st_D da db df_D dn_D dt_D ru_D rd_D pq_D lf po n ((2 * its) - 2) hl0 (hkD) (by omega) (by omega) (by omega) (by omega) H.size) (va_cwS 5 hts gL_isInstalment_L_against rfl rfl rfl (by decide +kernel) ⟨Nat.le_of_ble_eq_true rfl, Nat.le_of_ble_eq_true rfl⟩) (zpSe zXM_ok hE hS hA hKX hP hD [0, 1, 2, 3, 4, 5, 6, 7] rfl rfl) rfl rfl hl.1 rfl (lv_room (Nat.le_of_ble_eq_true rfl)) dL_isInstalment_138 ⟨(by first | exact Nat.le_of_ble_eq_true rfl | (show _ ≤ (460 : Nat); omega)), (by first | exact Nat.le_of_ble_eq_true rfl | (show _ ≤ (2760 : Nat); omega))⟩) hP hD hS hA [0, 1, 2, 3, 4, 5, 6, 7] [] rfl rfl rfl (by decide) (fun zE u_13 H locs hzE hP hD hS => ?_)
          obtain ⟨sf_E, sn_E, st_E, df_E, dn_E, dt_E, pq_E, ru_E, rd_E, f_E⟩ := u_13
          have hP : va_P G.1 vwCl [(x, .inr (10, [.ref ro, .ref rw, .ref bo, .ref li, .ref sh, .ref tx, .ref lo, .ref nl])), (rw, .inr (6, [.ref am, .ref q, .ref bq])), (am, zaL (G.2 0) 41 (f_E)), (q, .inr (2, [.ref sa, .ref da, .ref wa, .long (lz (ru_E)), .long (lz (rd_E)), .int (iz (pq_E))])), (sa, .inr (9, [.ref sb, .int (iz (sn_E)), .long (lz (st_E))])), (sb, zaL (G.2 0) 40 (sf_E)), (da, .inr (9, [.ref db, .int (iz (dn_E)), .long (lz (dt_E))])), (db, zaL (G.2 0) 40 (df_E))] H := hP
          have hD : va_D A [(x, .inr (10, [.ref ro, .ref rw, .ref bo, .ref li, .ref sh, .ref tx, .ref lo, .ref nl])), (rw, .inr (6, [.ref am, .ref q, .ref bq])), (am, zaL (G.2 0) 41 (f_E)), (q, .inr (2, [.ref sa, .ref da, .ref wa, .long (lz (ru_E)), .long (lz (rd_E)), .int (iz (pq_E))])), (sa, .inr (9, [.ref sb, .int (iz (sn_E)), .long (lz (st_E))])), (sb, zaL (G.2 0) 40 (sf_E)), (da, .inr (9, [.ref db, .int (iz (dn_E)), .long (lz (dt_E))])), (db, zaL (G.2 0) 40 (df_E))] := hD
          have hzE : zE = (znm f_E po).sign ∧ zagn f_E lf n ((2 * its) - 2) := hzE
          have hsE := zagS hzE (by omega) (by omega)
          have hkE := hzE.2.rok (by omega) (by omega)
          have fin := zins_sg hi (by omega) (by omega) (by omega) (by omega) hx9 hsA hsB hsC hsD hsE
          clear hsA hsB hsC hsD hsE hi hx9
          have hrA : -1 ≤ zA ∧ zA ≤ 1 ∧ -1 ≤ zB ∧ zB ≤ 1 ∧ -1 ≤ zC ∧ zC ≤ 1 ∧ -1 ≤ zD ∧ zD ≤ 1 ∧ -1 ≤ zE ∧ zE ≤ 1 := by rw [hzA.1, hzB.1, hzC.1, hzD.1, hzE.1]; exact ⟨(zsgr _).1, (zsgr _).2, (zsgr _).1, (zsgr _).2, (zsgr _).1, (zsgr _).2, (zsgr _).1, (zsgr _).2, zsgr _⟩
          refine lv_istore (lv' := [(12, .int (iz (zE))), (11, .int (iz (zD))), (10, .int (iz (zC))), (9, .int (iz (zB))), (8, .int (iz (zA))), (0, .ref x), (1, .long (lz (lf))), (3, .int (iz (po))), (4, .int (iz (n))), (5, .long (lz (its))), (7, .int (iz (md)))]) hx hb dL_isInstalment_141 hl (by decide) rfl (fun ls hl => ?_)
          refine lv_iload hx hb dL_isInstalment_143 (lv_at hl 10 rfl) ?_
          have hsi_145 := iz_toInt (z := md) (⟨by omega, by omega⟩)
          by_cases hsw_145_0 : md = 0
          ·
            refine lv_tableIn (tgt := 188) hx hb dL_isInstalment_145 (by omega) (by omega) (off := 43) (by rw [hsi_145, hsw_145_0]; rfl) (by decide) ?_
            have hfi := fin.1 (Or.inl hsw_145_0)
            clear fin
            refine lv_iload hx hb dL_isInstalment_188 (lv_at hl 4 rfl) ?_
            refine zr_if_lt (x := zA) (tgt := 202) hx hb (⟨by omega, by omega⟩) dL_isInstalment_190 (by decide) (fun h_15 => ?_) (fun h_15 => ?_)
            · exact absurd h_15 (by omega)
            ·
              refine lv_iload hx hb dL_isInstalment_193 (lv_at hl 0 rfl) ?_
              refine zr_if_ge (x := zE) (tgt := 202) hx hb (⟨by omega, by omega⟩) dL_isInstalment_195 (by decide) (fun h_16 => ?_) (fun h_16 => ?_)
              · exact absurd h_16 (by omega)
              ·
                refine lv_iconst (v := iz (1)) hx hb dL_isInstalment_198 rfl ?_
                refine lv_goto (tgt := 203) hx hb dL_isInstalment_199 (by decide) ?_
                rw [hQ]
                exact zr_zret (z := true) (rfl) (u := (sf_E, sn_E, st_E, df_E, dn_E, dt_E, pq_E, ru_E, rd_E, f_E)) hx hb hr hlocks hP hD hS (by first | exact Nat.le_of_ble_eq_true rfl | omega) (by first | exact Nat.le_of_ble_eq_true rfl | omega) dL_isInstalment_203 (show true = true ∧ zrok f_E from ⟨rfl, by first | exact hf | exact hkE⟩)
          by_cases hsw_145_1 : md = 1
          ·
            refine lv_tableIn (tgt := 220) hx hb dL_isInstalment_145 (by omega) (by omega) (off := 75) (by rw [hsi_145, hsw_145_1]; rfl) (by decide) ?_
            have hfi := fin.2.1 (Or.inl hsw_145_1)
            clear fin
            refine lv_iload hx hb dL_isInstalment_220 (lv_at hl 4 rfl) ?_
            refine zr_if_gt (x := zA) (tgt := 234) hx hb (⟨by omega, by omega⟩) dL_isInstalment_222 (by decide) (fun h_17 => ?_) (fun h_17 => ?_)
            · exact absurd h_17 (by omega)
            ·
              refine lv_iload hx hb dL_isInstalment_225 (lv_at hl 1 rfl) ?_
              refine zr_if_le (x := zD) (tgt := 234) hx hb (⟨by omega, by omega⟩) dL_isInstalment_227 (by decide) (fun h_18 => ?_) (fun h_18 => ?_)
              · exact absurd h_18 (by omega)
              ·
                refine lv_iconst (v := iz (1)) hx hb dL_isInstalment_230 rfl ?_
                refine lv_goto (tgt := 235) hx hb dL_isInstalment_231 (by decide) ?_
                rw [hQ]
                exact zr_zret (z := true) (rfl) (u := (sf_E, sn_E, st_E, df_E, dn_E, dt_E, pq_E, ru_E, rd_E, f_E)) hx hb hr hlocks hP hD hS (by first | exact Nat.le_of_ble_eq_true rfl | omega) (by first | exact Nat.le_of_ble_eq_true rfl | omega) dL_isInstalment_235 (show true = true ∧ zrok f_E from ⟨rfl, by first | exact hf | exact hkE⟩)
          by_cases hsw_145_2 : md = 2
          ·
            refine lv_tableIn (tgt := 204) hx hb dL_isInstalment_145 (by omega) (by omega) (off := 59) (by rw [hsi_145, hsw_145_2]; rfl) (by decide) ?_
            have hfi := fin.1 (Or.inr hsw_145_2)
            clear fin
            refine lv_iload hx hb dL_isInstalment_204 (lv_at hl 4 rfl) ?_
            refine zr_if_lt (x := zA) (tgt := 218) hx hb (⟨by omega, by omega⟩) dL_isInstalment_206 (by decide) (fun h_19 => ?_) (fun h_19 => ?_)
            · exact absurd h_19 (by omega)
            ·
              refine lv_iload hx hb dL_isInstalment_209 (lv_at hl 0 rfl) ?_
              refine zr_if_ge (x := zE) (tgt := 218) hx hb (⟨by omega, by omega⟩) dL_isInstalment_211 (by decide) (fun h_20 => ?_) (fun h_20 => ?_)
              · exact absurd h_20 (by omega)
              ·
                refine lv_iconst (v := iz (1)) hx hb dL_isInstalment_214 rfl ?_
                refine lv_goto (tgt := 219) hx hb dL_isInstalment_215 (by decide) ?_
                rw [hQ]
                exact zr_zret (z := true) (rfl) (u := (sf_E, sn_E, st_E, df_E, dn_E, dt_E, pq_E, ru_E, rd_E, f_E)) hx hb hr hlocks hP hD hS (by first | exact Nat.le_of_ble_eq_true rfl | omega) (by first | exact Nat.le_of_ble_eq_true rfl | omega) dL_isInstalment_219 (show true = true ∧ zrok f_E from ⟨rfl, by first | exact hf | exact hkE⟩)
          by_cases hsw_145_3 : md = 3
          ·
            refine lv_tableIn (tgt := 236) hx hb dL_isInstalment_145 (by omega) (by omega) (off := 91) (by rw [hsi_145, hsw_145_3]; rfl) (by decide) ?_
            have hfi := fin.2.1 (Or.inr hsw_145_3)
            clear fin
            refine lv_iload hx hb dL_isInstalment_236 (lv_at hl 4 rfl) ?_
            refine zr_if_gt (x := zA) (tgt := 250) hx hb (⟨by omega, by omega⟩) dL_isInstalment_238 (by decide) (fun h_21 => ?_) (fun h_21 => ?_)
            · exact absurd h_21 (by omega)
            ·
              refine lv_iload hx hb dL_isInstalment_241 (lv_at hl 1 rfl) ?_
              refine zr_if_le (x := zD) (tgt := 250) hx hb (⟨by omega, by omega⟩) dL_isInstalment_243 (by decide) (fun h_22 => ?_) (fun h_22 => ?_)
              · exact absurd h_22 (by omega)
              ·
                refine lv_iconst (v := iz (1)) hx hb dL_isInstalment_246 rfl ?_
                refine lv_goto (tgt := 251) hx hb dL_isInstalment_247 (by decide) ?_
                rw [hQ]
                exact zr_zret (z := true) (rfl) (u := (sf_E, sn_E, st_E, df_E, dn_E, dt_E, pq_E, ru_E, rd_E, f_E)) hx hb hr hlocks hP hD hS (by first | exact Nat.le_of_ble_eq_true rfl | omega) (by first | exact Nat.le_of_ble_eq_true rfl | omega) dL_isInstalment_251 (show true = true ∧ zrok f_E from ⟨rfl, by first | exact hf | exact hkE⟩)
          by_cases hsw_145_4 : md = 4
          ·
            refine lv_tableIn (tgt := 252) hx hb dL_isInstalment_145 (by omega) (by omega) (off := 107) (by rw [hsi_145, hsw_145_4]; rfl) (by decide) ?_
            have hfi := fin.2.2.1 hsw_145_4
            clear fin
            refine lv_iload hx hb dL_isInstalment_252 (lv_at hl 3 rfl) ?_
            refine zr_if_le (x := zB) (tgt := 266) hx hb (⟨by omega, by omega⟩) dL_isInstalment_254 (by decide) (fun h_23 => ?_) (fun h_23 => ?_)
            · exact absurd h_23 (by omega)
            ·
              refine lv_iload hx hb dL_isInstalment_257 (lv_at hl 2 rfl) ?_
              refine zr_if_gt (x := zC) (tgt := 266) hx hb (⟨by omega, by omega⟩) dL_isInstalment_259 (by decide) (fun h_24 => ?_) (fun h_24 => ?_)
              · exact absurd h_24 (by omega)
              ·
                refine lv_iconst (v := iz (1)) hx hb dL_isInstalment_262 rfl ?_
                refine lv_goto (tgt := 267) hx hb dL_isInstalment_263 (by decide) ?_
                rw [hQ]
                exact zr_zret (z := true) (rfl) (u := (sf_E, sn_E, st_E, df_E, dn_E, dt_E, pq_E, ru_E, rd_E, f_E)) hx hb hr hlocks hP hD hS (by first | exact Nat.le_of_ble_eq_true rfl | omega) (by first | exact Nat.le_of_ble_eq_true rfl | omega) dL_isInstalment_267 (show true = true ∧ zrok f_E from ⟨rfl, by first | exact hf | exact hkE⟩)
          by_cases hsw_145_5 : md = 5
          ·
            refine lv_tableIn (tgt := 268) hx hb dL_isInstalment_145 (by omega) (by omega) (off := 123) (by rw [hsi_145, hsw_145_5]; rfl) (by decide) ?_
            have hfi := fin.2.2.2.1 hsw_145_5
            clear fin
            refine lv_iload hx hb dL_isInstalment_268 (lv_at hl 3 rfl) ?_
            refine zr_if_lt (x := zB) (tgt := 282) hx hb (⟨by omega, by omega⟩) dL_isInstalment_270 (by decide) (fun h_25 => ?_) (fun h_25 => ?_)
            · exact absurd h_25 (by omega)
            ·
              refine lv_iload hx hb dL_isInstalment_273 (lv_at hl 2 rfl) ?_
              refine zr_if_ge (x := zC) (tgt := 282) hx hb (⟨by omega, by omega⟩) dL_isInstalment_275 (by decide) (fun h_26 => ?_) (fun h_26 => ?_)
              · exact absurd h_26 (by omega)
              ·
                refine lv_iconst (v := iz (1)) hx hb dL_isInstalment_278 rfl ?_
                refine lv_goto (tgt := 283) hx hb dL_isInstalment_279 (by decide) ?_
                rw [hQ]
                exact zr_zret (z := true) (rfl) (u := (sf_E, sn_E, st_E, df_E, dn_E, dt_E, pq_E, ru_E, rd_E, f_E)) hx hb hr hlocks hP hD hS (by first | exact Nat.le_of_ble_eq_true rfl | omega) (by first | exact Nat.le_of_ble_eq_true rfl | omega) dL_isInstalment_283 (show true = true ∧ zrok f_E from ⟨rfl, by first | exact hf | exact hkE⟩)
          by_cases hsw_145_6 : md = 6
          ·
            refine lv_tableIn (tgt := 284) hx hb dL_isInstalment_145 (by omega) (by omega) (off := 139) (by rw [hsi_145, hsw_145_6]; rfl) (by decide) ?_
            have hfi := fin.2.2.2.2.1 hsw_145_6
            clear fin
            refine lv_lload hx hb dL_isInstalment_284 (lv_at hl 9 rfl) ?_
            refine zr_ldc2 (z := 2) hx hb hown (hts (.constantLong RL 145 (2)) (by decide +kernel)) rfl dL_isInstalment_286 ?_
            refine zr_lrem hx hb (x := its) (y := 2) ⟨by omega, by omega⟩ ⟨by omega, by omega⟩ (by omega) (by omega) dL_isInstalment_289 ?_
            refine lv_lconst (v := lz (0)) hx hb dL_isInstalment_290 rfl ?_
            refine zr_lcmp_ne (x := its % 2) (y := 0) (tgt := 313) hx hb (⟨by omega, by omega⟩) (⟨by omega, by omega⟩) dL_isInstalment_291 dL_isInstalment_292 (by decide) (fun h_27 => ?_) (fun h_27 => ?_)
            ·
              have hfj := hfi.2 (by omega)
              clear hfi
              refine lv_iload hx hb dL_isInstalment_313 (lv_at hl 3 rfl) ?_
              refine zr_if_le (x := zB) (tgt := 327) hx hb (⟨by omega, by omega⟩) dL_isInstalment_315 (by decide) (fun h_28 => ?_) (fun h_28 => ?_)
              · exact absurd h_28 (by omega)
              ·
                refine lv_iload hx hb dL_isInstalment_318 (lv_at hl 2 rfl) ?_
                refine zr_if_ge (x := zC) (tgt := 327) hx hb (⟨by omega, by omega⟩) dL_isInstalment_320 (by decide) (fun h_29 => ?_) (fun h_29 => ?_)
                · exact absurd h_29 (by omega)
                ·
                  refine lv_iconst (v := iz (1)) hx hb dL_isInstalment_323 rfl ?_
                  refine lv_goto (tgt := 328) hx hb dL_isInstalment_324 (by decide) ?_
                  rw [hQ]
                  exact zr_zret (z := true) (rfl) (u := (sf_E, sn_E, st_E, df_E, dn_E, dt_E, pq_E, ru_E, rd_E, f_E)) hx hb hr hlocks hP hD hS (by first | exact Nat.le_of_ble_eq_true rfl | omega) (by first | exact Nat.le_of_ble_eq_true rfl | omega) dL_isInstalment_328 (show true = true ∧ zrok f_E from ⟨rfl, by first | exact hf | exact hkE⟩)
            ·
              have hfj := hfi.1 (by omega)
              clear hfi
              refine lv_iload hx hb dL_isInstalment_295 (lv_at hl 3 rfl) ?_
              refine zr_if_lt (x := zB) (tgt := 309) hx hb (⟨by omega, by omega⟩) dL_isInstalment_297 (by decide) (fun h_30 => ?_) (fun h_30 => ?_)
              · exact absurd h_30 (by omega)
              ·
                refine lv_iload hx hb dL_isInstalment_300 (lv_at hl 2 rfl) ?_
                refine zr_if_gt (x := zC) (tgt := 309) hx hb (⟨by omega, by omega⟩) dL_isInstalment_302 (by decide) (fun h_31 => ?_) (fun h_31 => ?_)
                · exact absurd h_31 (by omega)
                ·
                  refine lv_iconst (v := iz (1)) hx hb dL_isInstalment_305 rfl ?_
                  refine lv_goto (tgt := 328) hx hb dL_isInstalment_306 (by decide) ?_
                  rw [hQ]
                  exact zr_zret (z := true) (rfl) (u := (sf_E, sn_E, st_E, df_E, dn_E, dt_E, pq_E, ru_E, rd_E, f_E)) hx hb hr hlocks hP hD hS (by first | exact Nat.le_of_ble_eq_true rfl | omega) (by first | exact Nat.le_of_ble_eq_true rfl | omega) dL_isInstalment_328 (show true = true ∧ zrok f_E from ⟨rfl, by first | exact hf | exact hkE⟩)
          refine lv_tableOut (tgt := 329) hx hb dL_isInstalment_145 (by omega) (by decide) ?_
          have hfi := fin.2.2.2.2.2 (by omega)
          clear fin
          refine lv_iload hx hb dL_isInstalment_329 (lv_at hl 4 rfl) ?_
          refine zr_if_ne (x := zA) (tgt := 338) hx hb (⟨by omega, by omega⟩) dL_isInstalment_331 (by decide) (fun h_32 => ?_) (fun h_32 => ?_)
          · exact absurd h_32 (by omega)
          ·
            refine lv_iconst (v := iz (1)) hx hb dL_isInstalment_334 rfl ?_
            refine lv_goto (tgt := 339) hx hb dL_isInstalment_335 (by decide) ?_
            rw [hQ]
            exact zr_zret (z := true) (rfl) (u := (sf_E, sn_E, st_E, df_E, dn_E, dt_E, pq_E, ru_E, rd_E, f_E)) hx hb hr hlocks hP hD hS (by first | exact Nat.le_of_ble_eq_true rfl | omega) (by first | exact Nat.le_of_ble_eq_true rfl | omega) dL_isInstalment_339 (show true = true ∧ zrok f_E from ⟨rfl, by first | exact hf | exact hkE⟩)
        ·
          refine lv_iconst (v := iz (1)) hx hb dL_isInstalment_49 rfl ?_
          rw [hQ]
          exact zr_zret (z := true) (rfl) (u := (sf, sn, st, df, dn, dt, p0, u0, d0, f)) hx hb hr hlocks hP hD hS (by first | exact Nat.le_of_ble_eq_true rfl | omega) (by first | exact Nat.le_of_ble_eq_true rfl | omega) dL_isInstalment_50 (show true = true ∧ zrok f from ⟨rfl, by first | exact hf | exact hkE⟩)
  ·
    refine lv_lload hx hb dL_isInstalment_4 (lv_at hl 4 rfl) ?_
    refine lv_lload_n hx hb dL_isInstalment_6 rfl (lv_at hl 1 rfl) ?_
    refine lv_iload hx hb dL_isInstalment_7 (lv_at hl 3 rfl) ?_
    refine zr_i2l hx hb (x := n) (⟨by omega, by omega⟩) dL_isInstalment_9 ?_
    refine lv_iload hx hb dL_isInstalment_10 (lv_at hl 5 rfl) ?_
    have hi0 : its = zrx md lf n := by rw [hi]; exact zins0y (by omega) (by omega) hx9
    refine zc_l (wr := [(x, .inr (10, [.ref ro, .ref rw, .ref bo, .ref li, .ref sh, .ref tx, .ref lo, .ref nl])), (rw, .inr (6, [.ref am, .ref q, .ref bq])), (am, zaL (G.2 0) 41 (f)), (q, .inr (2, [.ref sa, .ref da, .ref wa, .long (lz (u0)), .long (lz (d0)), .int (iz (p0))])), (sa, .inr (9, [.ref sb, .int (iz (sn)), .long (lz (st))])), (sb, zaL (G.2 0) 40 (sf)), (da, .inr (9, [.ref db, .int (iz (dn)), .long (lz (dt))])), (db, zaL (G.2 0) 40 (df))]) (va_runS (As := [.long (lz (lf)), .long (lz (n)), .int (iz (md))]) (rest := [.long (lz (its))]) ⟨hx, hb, hml, hown, hts⟩ (c_L_rounded l G lf n md (by omega) (by omega) (by omega) H.size) (va_cwS 3 hts gL_isInstalment_L_rounded rfl rfl rfl (by decide +kernel) ⟨Nat.le_of_ble_eq_true rfl, Nat.le_of_ble_eq_true rfl⟩) (zpS hKX hP hD [] rfl rfl) rfl rfl hl.1 rfl (lv_room (Nat.le_of_ble_eq_true rfl)) dL_isInstalment_12 ⟨(by first | exact Nat.le_of_ble_eq_true rfl | (show _ ≤ (460 : Nat); omega)), (by first | exact Nat.le_of_ble_eq_true rfl | (show _ ≤ (2760 : Nat); omega))⟩) hP hD hS hA [] [0, 1, 2, 3, 4, 5, 6, 7] rfl rfl rfl (by decide) (fun rd u_33 H locs hrd hP hD hS => ?_)
    have hP : va_P G.1 vwCl [(x, .inr (10, [.ref ro, .ref rw, .ref bo, .ref li, .ref sh, .ref tx, .ref lo, .ref nl])), (rw, .inr (6, [.ref am, .ref q, .ref bq])), (am, zaL (G.2 0) 41 (f)), (q, .inr (2, [.ref sa, .ref da, .ref wa, .long (lz (u0)), .long (lz (d0)), .int (iz (p0))])), (sa, .inr (9, [.ref sb, .int (iz (sn)), .long (lz (st))])), (sb, zaL (G.2 0) 40 (sf)), (da, .inr (9, [.ref db, .int (iz (dn)), .long (lz (dt))])), (db, zaL (G.2 0) 40 (df))] H := hP
    have hD : va_D A [(x, .inr (10, [.ref ro, .ref rw, .ref bo, .ref li, .ref sh, .ref tx, .ref lo, .ref nl])), (rw, .inr (6, [.ref am, .ref q, .ref bq])), (am, zaL (G.2 0) 41 (f)), (q, .inr (2, [.ref sa, .ref da, .ref wa, .long (lz (u0)), .long (lz (d0)), .int (iz (p0))])), (sa, .inr (9, [.ref sb, .int (iz (sn)), .long (lz (st))])), (sb, zaL (G.2 0) 40 (sf)), (da, .inr (9, [.ref db, .int (iz (dn)), .long (lz (dt))])), (db, zaL (G.2 0) 40 (df))] := hD
    have hrd : rd = zrx md lf n := hrd
    have hir : its = rd := by rw [hrd]; exact hi0
    have hrr := zrx_rng (md := md) (v := lf) (u := n) (by omega) (by omega)
    rw [← hrd] at hrr
    refine zr_lcmp_ne (x := its) (y := rd) (tgt := 23) hx hb (⟨by omega, by omega⟩) (⟨by omega, by omega⟩) dL_isInstalment_15 dL_isInstalment_16 (by decide) (fun h_35 => ?_) (fun h_35 => ?_)
    · exact absurd h_35 (by omega)
    ·
      refine lv_iconst (v := iz (1)) hx hb dL_isInstalment_19 rfl ?_
      refine lv_goto (tgt := 24) hx hb dL_isInstalment_20 (by decide) ?_
      rw [hQ]
      exact zr_zret (z := true) (rfl) (u := (sf, sn, st, df, dn, dt, p0, u0, d0, f)) hx hb hr hlocks hP hD hS (by first | exact Nat.le_of_ble_eq_true rfl | omega) (by first | exact Nat.le_of_ble_eq_true rfl | omega) dL_isInstalment_24 (show true = true ∧ zrok f from ⟨rfl, by first | exact hf | exact hkE⟩)
