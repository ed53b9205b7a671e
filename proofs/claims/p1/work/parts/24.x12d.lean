-- THE REFERENCE ON A FRESH OBJECT: bonds (laid by wip/walk/x12d.py)
theorem zbond_eq {cp fa : Int} {n k : Nat} (h : k = n) : cp + fa = zbond cp fa n k := by unfold zbond; rw [if_pos h]
theorem zbond_ne {cp fa : Int} {n k : Nat} (h : k ≠ n) : cp + 0 = zbond cp fa n k := by unfold zbond; rw [if_neg h]
theorem zpt_first {cp fa po yy : Int} {m n : Nat} (hn : n = 1) (h : yy = zbond cp fa m 1) : 0 + 1 * 100000 * yy = zflow (100000 + po) 100000 (zbond cp fa m) n := by
  subst hn
  rw [zflow_s, ← h]
  simp [zflow]
theorem zpt_pow1 {n : Nat} (hn : n = 1) : (1 : Int) * 100000 = 100000 ^ n := by
  subst hn; rfl
theorem zpt_step {cp fa po yy i : Int} {m : Nat} (h : 2 ≤ i) (hb : yy = zbond cp fa m i.toNat) : zflow (100000 + po) 100000 (zbond cp fa m) (i - 1).toNat * (100000 + po) + 100000 ^ (i - 1).toNat * 100000 * yy = zflow (100000 + po) 100000 (zbond cp fa m) (i + 1 - 1).toNat := by
  obtain ⟨k, hk⟩ : ∃ k : Nat, i = (k : Int) + 1 := ⟨(i - 1).toNat, by omega⟩
  subst hk
  rw [show ((k : Int) + 1 - 1).toNat = k by omega, show ((k : Int) + 1 + 1 - 1).toNat = k + 1 by omega, zflow_s, hb, show ((k : Int) + 1).toNat = k + 1 by omega, Int.pow_succ]
theorem zpt_pows {i : Int} (h : 2 ≤ i) : (100000 : Int) ^ (i - 1).toNat * 100000 = 100000 ^ (i + 1 - 1).toNat := by
  rw [show (i + 1 - 1).toNat = (i - 1).toNat + 1 by omega, Int.pow_succ]
theorem zpw_rng {i : Int} (h : 0 ≤ i ∧ i ≤ 41) : 0 ≤ (100000 : Int) ^ i.toNat ∧ (100000 : Int) ^ i.toNat ≤ 10000 ^ 70 := by
  have a := zpow_le (b := 100000) (by decide) (show i.toNat ≤ 41 by omega)
  have b : (100000 : Int) ^ 41 ≤ 10000 ^ 60 := by decide +kernel
  have d : (10000 : Int) ^ 60 ≤ 10000 ^ 70 := by decide +kernel
  have c := zpow_pos (x := 100000) (by decide) i.toNat
  exact ⟨by omega, by omega⟩
theorem zpw_rng2 {i : Int} (h : 0 ≤ i ∧ i ≤ 41) : 0 ≤ (100000 : Int) ^ i.toNat * 100000 ∧ (100000 : Int) ^ i.toNat * 100000 ≤ 10000 ^ 70 := by
  have a := zpow_le (b := 100000) (by decide) (show i.toNat ≤ 41 by omega)
  have b : (100000 : Int) ^ 41 * 100000 ≤ 10000 ^ 70 := by decide +kernel
  have c := zpow_pos (x := 100000) (by decide) i.toNat
  exact ⟨by omega, by omega⟩
theorem zrt {po : Int} (h : 0 ≤ po ∧ po ≤ 20000) : 0 ≤ 100000 + po ∧ 100000 + po ≤ 10000 ^ 8 := by
  have : (10000 : Int) ^ 8 = 100000000000000000000000000000000 := by decide +kernel
  omega
theorem zyy {y : Int} (h : 0 ≤ y ∧ y ≤ 2000000000) : 0 ≤ y ∧ y ≤ 10000 ^ 8 := by
  have : (10000 : Int) ^ 8 = 100000000000000000000000000000000 := by decide +kernel
  omega
theorem zup_100 {x : Int} (h : 1 ≤ x ∧ x ≤ 10000 ^ 62) : x < 10000 ^ 100 := by
  have : (10000 : Int) ^ 62 < 10000 ^ 100 := by decide +kernel
  omega
theorem zup_120 {x : Int} (h : 1 ≤ x ∧ x ≤ 10000 ^ 62) : x < 10000 ^ 120 := by
  have : (10000 : Int) ^ 62 < 10000 ^ 120 := by decide +kernel
  omega
theorem zup_70 {x : Int} (h : 1 ≤ x ∧ x ≤ 10000 ^ 62) : 0 ≤ x ∧ x ≤ 10000 ^ 70 := by
  have : (10000 : Int) ^ 62 < 10000 ^ 70 := by decide +kernel
  omega
theorem zbt_78 {x : Int} (h : 0 ≤ x ∧ x ≤ 10000 ^ 70) : 0 ≤ x ∧ x ≤ 10000 ^ 78 := by
  have : (10000 : Int) ^ 70 < 10000 ^ 78 := by decide +kernel
  omega
theorem zbt_120 {x : Int} (h : 0 ≤ x ∧ x ≤ 10000 ^ 70) : (x.natAbs : Int) < 10000 ^ 120 := by
  have : (10000 : Int) ^ 70 < 10000 ^ 120 := by decide +kernel
  omega
/-- it is worth not more than this, as a truth -/
def zchb (cp fa pr mo po : Int) : Bool := decide (zbt cp fa pr po ≤ mo * (100000 + po) ^ pr.toNat)
theorem zchb_t {cp fa pr mo po : Int} (h : zchb cp fa pr mo po = true) : zcheap cp fa pr mo po := (of_decide_eq_true h : zbt cp fa pr po ≤ mo * (100000 + po) ^ pr.toNat)
theorem zchb_f {cp fa pr mo po : Int} (h : zchb cp fa pr mo po = false) : ¬ zcheap cp fa pr mo po := (of_decide_eq_false h : ¬ (zbt cp fa pr po ≤ mo * (100000 + po) ^ pr.toNat))
theorem zch_t {cp fa pr mo po s : Int} (e : s = (zbt cp fa pr po - (100000 + po) ^ pr.toNat * mo).sign) (h : s ≤ 0) : zchb cp fa pr mo po = true := by
  refine decide_eq_true ?_
  rw [Int.mul_comm]
  by_cases c : zbt cp fa pr po ≤ (100000 + po) ^ pr.toNat * mo
  · exact c
  · have := Int.sign_eq_one_of_pos (show 0 < zbt cp fa pr po - (100000 + po) ^ pr.toNat * mo by omega)
    omega
theorem zch_f {cp fa pr mo po s : Int} (e : s = (zbt cp fa pr po - (100000 + po) ^ pr.toNat * mo).sign) (h : 0 < s) : zchb cp fa pr mo po = false := by
  refine decide_eq_false ?_
  rw [Int.mul_comm]
  intro c
  have := (Int.sign_pos_iff (x := zbt cp fa pr po - (100000 + po) ^ pr.toNat * mo)).mp (by omega)
  omega
theorem zhalf {x y d : Int} (hd : 0 ≤ d ∧ d ≤ 15) (h : x ≤ 2 ^ (15 - d).toNat) (h2 : 2 ≤ x) (hy : 2 * y ≤ x + 1) : y ≤ 2 ^ (15 - (d + 1)).toNat ∧ d ≤ 14 := by
  by_cases c : d = 15
  · subst c
    have : (2 : Int) ^ (15 - 15 : Int).toNat = 1 := by decide
    omega
  · rw [show (15 - d).toNat = (15 - (d + 1)).toNat + 1 by omega, Int.pow_succ] at h
    exact ⟨by omega, by omega⟩
theorem zby_end {cp fa pr mo lo hi : Int} (h : 0 ≤ cp ∧ cp ≤ 1000000000 ∧ 0 ≤ fa ∧ fa ≤ 1000000000) (k1 : -1 ≤ lo ∧ lo < hi ∧ hi ≤ 20000) (he : hi - lo ≤ 1) (k2 : zcheap cp fa pr mo hi) (k3 : lo = -1 ∨ ¬ zcheap cp fa pr mo lo) : 0 ≤ hi ∧ hi ≤ 20000 ∧ zcheap cp fa pr mo hi ∧ ∀ p : Int, 0 ≤ p → p < hi → ¬ zcheap cp fa pr mo p := by
  refine ⟨by omega, by omega, k2, fun p h0 h1 hc => ?_⟩
  rcases k3 with e | e
  · omega
  · exact e (zcheap_mono h h0 (by omega) hc)
def rm_c_X11_times_n : Room := { frames := 2, cells := 3, slots := 387, locals := 36 }
set_option maxHeartbeats 1000000 in
set_option maxRecDepth 100000 in
theorem c_X11_times_n (l : Launch) (G : zG) (nA : Nat) (nB : Nat) (nE : Nat) (a2 : Nat) (b2 : Nat) (f2 : Int → Int) (N2 : Nat) (sg2 : Int) (v2 : Int) (h2 : tmw f2 N2 sg2 v2) : zMe l (zE G nA nB nE) G yX11_times wsX11_times rm_c_X11_times_n [.ref nA, .ref a2] [(a2, .inr (12, [.int (iz (sg2)), .ref b2])), (b2, zaI (G.2 1) N2 (f2))] (fun A => zQr G (fun (u : (Nat × (Int → Int) × Nat × Int)) (ra : Nat) => tmw u.2.1 u.2.2.1 u.2.2.2 0) (fun (u : (Nat × (Int → Int) × Nat × Int)) (ra : Nat) => [(a2, .inr (12, [.int (iz (sg2)), .ref b2])), (b2, zaI (G.2 1) N2 (f2)), (ra, .inr (12, [.int (iz (u.2.2.2)), .ref u.1])), (u.1, zaI (G.2 1) u.2.2.1 (u.2.1))]) A) 3 387 := by
  refine zMe_of (cc := cX11_times) (maxL := 7) (ret := (some (.object "AnnuityHouseModel$Whole"))) (by decide) rfl (Nat.le_of_ble_eq_true rfl) ?_
  intro p e s m below meth c ls A Q hQ hx hb hr hts hown hlocks hml hnm hKX hE hP hD hA hS hl
  have hK := hKX.1
  have iwX11 := iw_X11_times_X11
  obtain ⟨H, hH⟩ : ∃ h, h = s.heap := ⟨_, rfl⟩
  obtain ⟨locs, hlo⟩ : ∃ h : List Loc, h = [] := ⟨_, rfl⟩
  have hS : va_S A s.heap H locs := by rw [hH, hlo]; exact hS
  have hP : va_P G.1 vwCl [(a2, .inr (12, [.int (iz (sg2)), .ref b2])), (b2, zaI (G.2 1) N2 (f2))] H := by rw [hH]; exact hP
  have hD : va_D A [(a2, .inr (12, [.int (iz (sg2)), .ref b2])), (b2, zaI (G.2 1) N2 (f2))] := hD
  have hl : lv_has ls 7 [(0, .ref nA), (1, .ref a2)] := hl
  rw [← hH, ← hlo]
  have n2 := h2.n
  refine lv_aload_n hx hb dX11_times_0 rfl (lv_at hl 0 rfl) ?_
  refine zr_getO hx hb hE.2.2.2.1 hS hown (hts (.fieldLink RX11 13 "AnnuityHouseModel$Whole" "limbs" "[I") (by decide +kernel)) (fun _ h9 => h9) dX11_times_1 ?_
  refine va_tlen hx hb hE.2.2.2.2.1 hS (v := iz 0) rfl dX11_times_4 ?_
  refine lv_aload_n hx hb dX11_times_5 rfl (lv_at hl 1 rfl) ?_
  refine va_get (D := G.1) (ci := 12) (v := .ref b2) (C := RX11) (T := TX11) (N := 2) hx hb hts iwX11 hown hK hP 0 rfl rfl 1 (by decide) (hts (.fieldLink RX11 13 "AnnuityHouseModel$Whole" "limbs" "[I") (by decide +kernel)) (fun _ h9 => h9) rfl dX11_times_6 ?_
  refine zr_alenI hx hb hK hP 1 1 rfl rfl dX11_times_9 ?_
  refine zr_iadd hx hb dX11_times_10 ?_
  refine lv_iconst (v := iz (1)) hx hb dX11_times_11 rfl ?_
  refine zr_iadd hx hb dX11_times_12 ?_
  refine zr_namei (fun R eR => ?_)
  refine zr_newaI (G := G) (n := R) (N := (R).toNat) hx hb (hts (.arrayClass .int) (by decide +kernel)) hK hP hD hS hA (by omega) (by omega) (by omega) (by first | exact Nat.le_of_ble_eq_true rfl | (show _ ≤ (3 : Nat); omega)) (by first | exact Nat.le_of_ble_eq_true rfl | (show _ ≤ (387 : Nat); omega)) dX11_times_13 (fun rr H hP hD hS => ?_)
  have hP : va_P G.1 vwCl [(a2, .inr (12, [.int (iz (sg2)), .ref b2])), (b2, zaI (G.2 1) N2 (f2)), (rr, zaI (G.2 1) ((R).toNat) (fun _ => 0))] H := hP
  have hD : va_D A [(a2, .inr (12, [.int (iz (sg2)), .ref b2])), (b2, zaI (G.2 1) N2 (f2)), (rr, zaI (G.2 1) ((R).toNat) (fun _ => 0))] := hD
  refine lv_astore_n (lv' := [(2, .ref rr), (0, .ref nA), (1, .ref a2)]) hx hb dX11_times_15 rfl hl (by decide) rfl (fun ls hl => ?_)
  refine lv_iconst (v := iz (0)) hx hb dX11_times_16 rfl ?_
  refine lv_istore_n (lv' := [(3, .int (iz (0))), (2, .ref rr), (0, .ref nA), (1, .ref a2)]) hx hb dX11_times_17 rfl hl (by decide) rfl (fun ls hl => ?_)
  refine lv_iload_n hx hb dX11_times_18 rfl (lv_at hl 0 rfl) ?_
  refine lv_aload_n hx hb dX11_times_19 rfl (lv_at hl 2 rfl) ?_
  refine zr_getO hx hb hE.2.2.2.1 hS hown (hts (.fieldLink RX11 13 "AnnuityHouseModel$Whole" "limbs" "[I") (by decide +kernel)) (fun _ h9 => h9) dX11_times_20 ?_
  refine va_tlen hx hb hE.2.2.2.2.1 hS (v := iz 0) rfl dX11_times_23 ?_
  refine zr_icmp_ge (x := 0) (y := 0) (tgt := 100) hx hb (⟨by omega, by omega⟩) (⟨by omega, by omega⟩) dX11_times_24 (by decide) (fun h_2 => ?_) (fun h_2 => ?_)
  ·
    refine va_new (D := G.1) (ci := 12) (fs := [.int 0, .null]) (C := RX11) (T := TX11) (N := 2) hx hb hts iwX11 tyX11 tyX11_ok hown (hts (.classLink RX11 8 RX11) (by decide +kernel)) (hts (.instantiable RX11 2) (by decide +kernel)) (hts (.initialized RX11) (by decide +kernel)) hK hP hD hS hA rfl (by decide +kernel) (by first | exact Nat.le_of_ble_eq_true rfl | (show _ ≤ (3 : Nat); omega)) (by first | exact Nat.le_of_ble_eq_true rfl | (show _ ≤ (387 : Nat); omega)) dX11_times_100 (fun ra H hP hD hS => ?_)
    have hP : va_P G.1 vwCl [(a2, .inr (12, [.int (iz (sg2)), .ref b2])), (b2, zaI (G.2 1) N2 (f2)), (rr, zaI (G.2 1) ((R).toNat) (fun _ => 0)), (ra, .inr (12, [.int (iz (0)), .null]))] H := hP
    have hD : va_D A [(a2, .inr (12, [.int (iz (sg2)), .ref b2])), (b2, zaI (G.2 1) N2 (f2)), (rr, zaI (G.2 1) ((R).toNat) (fun _ => 0)), (ra, .inr (12, [.int (iz (0)), .null]))] := hD
    refine lv_dup hx hb dX11_times_103 rfl ?_
    refine lv_aload_n hx hb dX11_times_104 rfl (lv_at hl 2 rfl) ?_
    refine zr_getO hx hb hE.2.2.1 hS hown (hts (.fieldLink RX11 7 "AnnuityHouseModel$Whole" "sign" "I") (by decide +kernel)) (fun _ h9 => h9) dX11_times_105 ?_
    refine lv_aload_n hx hb dX11_times_108 rfl (lv_at hl 3 rfl) ?_
    refine va_get (D := G.1) (ci := 12) (v := .int (iz (sg2))) (C := RX11) (T := TX11) (N := 2) hx hb hts iwX11 hown hK hP 0 rfl rfl 0 (by decide) (hts (.fieldLink RX11 7 "AnnuityHouseModel$Whole" "sign" "I") (by decide +kernel)) (fun _ h9 => h9) rfl dX11_times_109 ?_
    refine zr_imul hx hb dX11_times_112 ?_
    refine lv_aload_n hx hb dX11_times_113 rfl (lv_at hl 1 rfl) ?_
    refine zc_v (wr := [(a2, .inr (12, [.int (iz (sg2)), .ref b2])), (b2, zaI (G.2 1) N2 (f2))]) (va_runI (As := [.int (iz (0 * sg2)), .ref rr]) (rest := [.ref ra]) ⟨hx, hb, hml, hown, hts⟩ (c_X11_init l G ra rr (fun _ => 0) ((R).toNat) (0 * sg2) (fun i a b => ⟨Int.le_refl 0, by show (0 : Int) < 10000; decide⟩) (by omega) (by omega) (by rw [tsum_zeros (fun _ _ _ => rfl)]; exact tB_pos 128) (fun _ => tsum_zeros (fun _ _ _ => rfl)) H.size) (cwI 2 hts gX11_times_X11_init rfl rfl rfl (hts (.initialized RX11) (by decide +kernel)) (hts (.methodLink RX11 25 yX11_init) (by decide +kernel)) (hts (.instanceMethod yX11_init) (by decide +kernel)) rfl (by decide +kernel) ⟨Nat.le_of_ble_eq_true rfl, Nat.le_of_ble_eq_true rfl⟩) (zpS hKX hP hD [3, 2] rfl rfl) rfl rfl hl.1 rfl (lv_room (Nat.le_of_ble_eq_true rfl)) dX11_times_114 ⟨(by first | exact Nat.le_of_ble_eq_true rfl | (show _ ≤ (3 : Nat); omega)), (by first | exact Nat.le_of_ble_eq_true rfl | (show _ ≤ (387 : Nat); omega))⟩) hP hD hS hA [3, 2] [0, 1] rfl rfl rfl (by decide) (fun u_3 H locs hq hP hD hS => ?_)
    obtain ⟨b1, f1, N1, s1⟩ := u_3
    have hP : va_P G.1 vwCl [(a2, .inr (12, [.int (iz (sg2)), .ref b2])), (b2, zaI (G.2 1) N2 (f2)), (ra, .inr (12, [.int (iz (s1)), .ref b1])), (b1, zaI (G.2 1) N1 (f1)), (rr, zaI (G.2 1) (((R).toNat)) ((fun _ => 0)))] H := hP
    have hD : va_D A [(a2, .inr (12, [.int (iz (sg2)), .ref b2])), (b2, zaI (G.2 1) N2 (f2)), (ra, .inr (12, [.int (iz (s1)), .ref b1])), (b1, zaI (G.2 1) N1 (f1)), (rr, zaI (G.2 1) (((R).toNat)) ((fun _ => 0)))] := hD
    have hq : tmw f1 N1 s1 ((0 * sg2) * tsum (fun _ => 0) ((R).toNat)) := hq
    rw [hQ]
    exact zr_aret (ra := ra) (Or.inl ⟨_, rfl⟩) (u := (b1, f1, N1, s1)) hx hb hr hlocks (hP.sub [0, 1, 2, 3] rfl) (hD.sub [0, 1, 2, 3] (by decide) rfl) hS (by first | exact Nat.le_of_ble_eq_true rfl | omega) (by first | exact Nat.le_of_ble_eq_true rfl | omega) dX11_times_117 (show tmw f1 N1 s1 0 from tpost hq (by rw [tsum_zeros (fun _ _ _ => rfl)]; omega))
  · exact absurd h_2 (by omega)

def rm_c_X12_priceTop : Room := { frames := 3, cells := 870, slots := 80000, locals := 68 }
set_option maxHeartbeats 1000000 in
set_option maxRecDepth 100000 in
theorem c_X12_priceTop (l : Launch) (G : zG) (nA : Nat) (nB : Nat) (nE : Nat) (cp : Int) (fa : Int) (pr : Int) (po : Int) (h1 : 0 ≤ cp ∧ cp ≤ 1000000000 ∧ 0 ≤ fa ∧ fa ≤ 1000000000 ∧ 1 ≤ pr ∧ pr ≤ 40) (h2 : 0 ≤ po ∧ po ≤ 20000) : zMe l (zE G nA nB nE) G yX12_priceTop wsX12_priceTop rm_c_X12_priceTop [.long (lz (cp)), .long (lz (fa)), .int (iz (pr)), .int (iz (po))] [] (fun A => zQr G (fun (u : (Nat × (Int → Int) × Nat × Int)) (ra : Nat) => tmw u.2.1 u.2.2.1 u.2.2.2 (zbt cp fa pr po)) (fun (u : (Nat × (Int → Int) × Nat × Int)) (ra : Nat) => [(ra, .inr (12, [.int (iz (u.2.2.2)), .ref u.1])), (u.1, zaI (G.2 1) u.2.2.1 (u.2.1))]) A) 870 80000 := by
  refine zMe_of (cc := cX12_priceTop) (maxL := 9) (ret := (some (.object "AnnuityHouseModel$Whole"))) (by decide) rfl (Nat.le_of_ble_eq_true rfl) ?_
  intro p e s m below meth c ls A Q hQ hx hb hr hts hown hlocks hml hnm hKX hE hP hD hA hS hl
  have hK := hKX.1
  obtain ⟨H, hH⟩ : ∃ h, h = s.heap := ⟨_, rfl⟩
  obtain ⟨locs, hlo⟩ : ∃ h : List Loc, h = [] := ⟨_, rfl⟩
  have hS : va_S A s.heap H locs := by rw [hH, hlo]; exact hS
  have hP : va_P G.1 vwCl [] H := by rw [hH]; exact hP
  have hD : va_D A [] := hD
  have hl : lv_has ls 9 [(0, .long (lz (cp))), (2, .long (lz (fa))), (4, .int (iz (pr))), (5, .int (iz (po)))] := hl
  rw [← hH, ← hlo]
  have h1b : 0 ≤ cp ∧ cp ≤ 1000000000 ∧ 0 ≤ fa ∧ fa ≤ 1000000000 := ⟨h1.1, h1.2.1, h1.2.2.1, h1.2.2.2.1⟩
  refine va_gets hx hb hE.1.1 hS hown (hts (.fieldLink RX12 141 "AnnuityHouseModel" "NOTHING" "LAnnuityHouseModel$Whole;") (by decide +kernel)) (fun _ h9 => h9) dX12_priceTop_0 ?_
  refine lv_astore (lv' := [(6, .ref nA), (0, .long (lz (cp))), (2, .long (lz (fa))), (4, .int (iz (pr))), (5, .int (iz (po)))]) hx hb dX12_priceTop_3 hl (by decide) rfl (fun ls hl => ?_)
  refine lv_lconst (v := lz (1)) hx hb dX12_priceTop_5 rfl ?_
  refine zc_r (wr := []) (va_runS (As := [.long (lz (1))]) (rest := []) ⟨hx, hb, hml, hown, hts⟩ (c_X11_of l G 1 (by omega) H.size) (va_cwS 1 hts gX12_priceTop_X11_of rfl rfl rfl (by decide +kernel) ⟨Nat.le_of_ble_eq_true rfl, Nat.le_of_ble_eq_true rfl⟩) (zpS hKX hP hD [] rfl rfl) rfl rfl hl.1 rfl (lv_room (Nat.le_of_ble_eq_true rfl)) dX12_priceTop_6 ⟨(by first | exact Nat.le_of_ble_eq_true rfl | (show _ ≤ (870 : Nat); omega)), (by show _ ≤ (80000 : Nat); omega)⟩) hP hD hS hA [] [] rfl rfl rfl (by decide) (fun u_1 r1 H locs q1 hP hD hS => ?_)
  obtain ⟨b1, f1, N1, s1⟩ := u_1
  have hP : va_P G.1 vwCl [(r1, .inr (12, [.int (iz (s1)), .ref b1])), (b1, zaI (G.2 1) N1 (f1))] H := hP
  have hD : va_D A [(r1, .inr (12, [.int (iz (s1)), .ref b1])), (b1, zaI (G.2 1) N1 (f1))] := hD
  have q1 : tmw f1 N1 s1 (1 : Int) := q1
  refine lv_astore (lv' := [(7, .ref r1), (6, .ref nA), (0, .long (lz (cp))), (2, .long (lz (fa))), (4, .int (iz (pr))), (5, .int (iz (po)))]) hx hb dX12_priceTop_9 hl (by decide) rfl (fun ls hl => ?_)
  refine lv_iconst (v := iz (1)) hx hb dX12_priceTop_11 rfl ?_
  refine lv_istore (lv' := [(8, .int (iz (1))), (7, .ref r1), (6, .ref nA), (0, .long (lz (cp))), (2, .long (lz (fa))), (4, .int (iz (pr))), (5, .int (iz (po)))]) hx hb dX12_priceTop_12 hl (by decide) rfl (fun ls hl => ?_)
  refine lv_iload hx hb dX12_priceTop_14 (lv_at hl 0 rfl) ?_
  refine lv_iload hx hb dX12_priceTop_16 (lv_at hl 5 rfl) ?_
  refine zr_icmp_gt (x := 1) (y := pr) (tgt := 82) hx hb (⟨by omega, by omega⟩) (⟨by omega, by omega⟩) dX12_priceTop_18 (by decide) (fun h_3 => ?_) (fun h_3 => ?_)
  · exact absurd h_3 (by omega)
  ·
    refine lv_aload hx hb dX12_priceTop_21 (lv_at hl 1 rfl) ?_
    refine zr_ldc2 (z := 100000) hx hb hown (hts (.constantLong RX12 145 (100000)) (by decide +kernel)) rfl dX12_priceTop_23 ?_
    refine zc_r (wr := [(r1, .inr (12, [.int (iz (s1)), .ref b1])), (b1, zaI (G.2 1) N1 (f1))]) (va_runS (As := [.long (lz (100000))]) (rest := [.ref r1]) ⟨hx, hb, hml, hown, hts⟩ (c_X11_of l G 100000 (by omega) H.size) (va_cwS 1 hts gX12_priceTop_X11_of rfl rfl rfl (by decide +kernel) ⟨Nat.le_of_ble_eq_true rfl, Nat.le_of_ble_eq_true rfl⟩) (zpS hKX hP hD [] rfl rfl) rfl rfl hl.1 rfl (lv_room (Nat.le_of_ble_eq_true rfl)) dX12_priceTop_26 ⟨(by first | exact Nat.le_of_ble_eq_true rfl | (show _ ≤ (870 : Nat); omega)), (by show _ ≤ (80000 : Nat); omega)⟩) hP hD hS hA [] [0, 1] rfl rfl rfl (by decide) (fun u_4 r2 H locs q2 hP hD hS => ?_)
    obtain ⟨b2, f2, N2, s2⟩ := u_4
    have hP : va_P G.1 vwCl [(r1, .inr (12, [.int (iz (s1)), .ref b1])), (b1, zaI (G.2 1) N1 (f1)), (r2, .inr (12, [.int (iz (s2)), .ref b2])), (b2, zaI (G.2 1) N2 (f2))] H := hP
    have hD : va_D A [(r1, .inr (12, [.int (iz (s1)), .ref b1])), (b1, zaI (G.2 1) N1 (f1)), (r2, .inr (12, [.int (iz (s2)), .ref b2])), (b2, zaI (G.2 1) N2 (f2))] := hD
    have q2 : tmw f2 N2 s2 (100000 : Int) := q2
    refine zc_r (wr := []) (va_runV (As := [.ref r2]) (rest := []) ⟨hx, hb, hml, hown, hts⟩ (c_X11_times l G r1 b1 f1 N1 s1 r2 b2 f2 N2 s2 1 100000 (q1) (q2) (by decide +kernel) H.size) (cwV 1 hts gX12_priceTop_X11_times rfl rfl rfl (by decide +kernel) ⟨Nat.le_of_ble_eq_true rfl, Nat.le_of_ble_eq_true rfl⟩) (zpV hKX hP hD [0, 1, 2, 3] rfl rfl 0 12 rfl rfl) rfl rfl hl.1 rfl (lv_room (Nat.le_of_ble_eq_true rfl)) dX12_priceTop_29 ⟨(by first | exact Nat.le_of_ble_eq_true rfl | (show _ ≤ (870 : Nat); omega)), (by show _ ≤ (80000 : Nat); omega)⟩) hP hD hS hA [0, 1, 2, 3] [] rfl rfl rfl (by decide) (fun u_6 r3 H locs hp hP hD hS => ?_)
    obtain ⟨b3, f3, N3, s3⟩ := u_6
    have hP : va_P G.1 vwCl [(r1, .inr (12, [.int (iz (s1)), .ref b1])), (b1, zaI (G.2 1) N1 (f1)), (r2, .inr (12, [.int (iz (s2)), .ref b2])), (b2, zaI (G.2 1) N2 (f2)), (r3, .inr (12, [.int (iz (s3)), .ref b3])), (b3, zaI (G.2 1) N3 (f3))] H := hP
    have hD : va_D A [(r1, .inr (12, [.int (iz (s1)), .ref b1])), (b1, zaI (G.2 1) N1 (f1)), (r2, .inr (12, [.int (iz (s2)), .ref b2])), (b2, zaI (G.2 1) N2 (f2)), (r3, .inr (12, [.int (iz (s3)), .ref b3])), (b3, zaI (G.2 1) N3 (f3))] := hD
    have hp : tmw f3 N3 s3 ((1 : Int) * (100000 : Int)) := hp
    refine lv_astore (lv' := [(7, .ref r3), (8, .int (iz (1))), (6, .ref nA), (0, .long (lz (cp))), (2, .long (lz (fa))), (4, .int (iz (pr))), (5, .int (iz (po)))]) hx hb dX12_priceTop_32 hl (by decide) rfl (fun ls hl => ?_)
    refine lv_aload hx hb dX12_priceTop_34 (lv_at hl 2 rfl) ?_
    refine zr_ldc2 (z := 100000) hx hb hown (hts (.constantLong RX12 145 (100000)) (by decide +kernel)) rfl dX12_priceTop_36 ?_
    refine lv_iload hx hb dX12_priceTop_39 (lv_at hl 6 rfl) ?_
    refine zr_i2l hx hb (x := po) (⟨by omega, by omega⟩) dX12_priceTop_41 ?_
    refine zr_ladd hx hb dX12_priceTop_42 ?_
    refine zc_r (wr := [(r1, .inr (12, [.int (iz (s1)), .ref b1])), (b1, zaI (G.2 1) N1 (f1)), (r2, .inr (12, [.int (iz (s2)), .ref b2])), (b2, zaI (G.2 1) N2 (f2)), (r3, .inr (12, [.int (iz (s3)), .ref b3])), (b3, zaI (G.2 1) N3 (f3))]) (va_runS (As := [.long (lz (100000 + po))]) (rest := [.ref nA]) ⟨hx, hb, hml, hown, hts⟩ (c_X11_of l G (100000 + po) (by omega) H.size) (va_cwS 1 hts gX12_priceTop_X11_of rfl rfl rfl (by decide +kernel) ⟨Nat.le_of_ble_eq_true rfl, Nat.le_of_ble_eq_true rfl⟩) (zpS hKX hP hD [] rfl rfl) rfl rfl hl.1 rfl (lv_room (Nat.le_of_ble_eq_true rfl)) dX12_priceTop_43 ⟨(by first | exact Nat.le_of_ble_eq_true rfl | (show _ ≤ (870 : Nat); omega)), (by show _ ≤ (80000 : Nat); omega)⟩) hP hD hS hA [] [0, 1, 2, 3, 4, 5] rfl rfl rfl (by decide) (fun u_8 r4 H locs q4 hP hD hS => ?_)
    obtain ⟨b4, f4, N4, s4⟩ := u_8
    have hP : va_P G.1 vwCl [(r1, .inr (12, [.int (iz (s1)), .ref b1])), (b1, zaI (G.2 1) N1 (f1)), (r2, .inr (12, [.int (iz (s2)), .ref b2])), (b2, zaI (G.2 1) N2 (f2)), (r3, .inr (12, [.int (iz (s3)), .ref b3])), (b3, zaI (G.2 1) N3 (f3)), (r4, .inr (12, [.int (iz (s4)), .ref b4])), (b4, zaI (G.2 1) N4 (f4))] H := hP
    have hD : va_D A [(r1, .inr (12, [.int (iz (s1)), .ref b1])), (b1, zaI (G.2 1) N1 (f1)), (r2, .inr (12, [.int (iz (s2)), .ref b2])), (b2, zaI (G.2 1) N2 (f2)), (r3, .inr (12, [.int (iz (s3)), .ref b3])), (b3, zaI (G.2 1) N3 (f3)), (r4, .inr (12, [.int (iz (s4)), .ref b4])), (b4, zaI (G.2 1) N4 (f4))] := hD
    have q4 : tmw f4 N4 s4 (100000 + po) := q4
    refine zc_r (wr := [(r1, .inr (12, [.int (iz (s1)), .ref b1])), (b1, zaI (G.2 1) N1 (f1)), (r2, .inr (12, [.int (iz (s2)), .ref b2])), (b2, zaI (G.2 1) N2 (f2)), (r3, .inr (12, [.int (iz (s3)), .ref b3])), (b3, zaI (G.2 1) N3 (f3))]) (va_runV (As := [.ref r4]) (rest := []) ⟨hx, hb, hml, hown, hts⟩ (c_X11_times_n l G nA nB nE r4 b4 f4 N4 s4 (100000 + po) (q4) H.size) (cwV 1 hts gX12_priceTop_X11_times rfl rfl rfl (by decide +kernel) ⟨Nat.le_of_ble_eq_true rfl, Nat.le_of_ble_eq_true rfl⟩) (zpVe zE_ok hE hS hA hKX hP hD [6, 7] rfl rfl (zE_recv hE hS)) rfl rfl hl.1 rfl (lv_room (Nat.le_of_ble_eq_true rfl)) dX12_priceTop_46 ⟨(by first | exact Nat.le_of_ble_eq_true rfl | (show _ ≤ (870 : Nat); omega)), (by show _ ≤ (80000 : Nat); omega)⟩) hP hD hS hA [6, 7] [0, 1, 2, 3, 4, 5] rfl rfl rfl (by decide) (fun u_10 r5 H locs hs hP hD hS => ?_)
    obtain ⟨b5, f5, N5, s5⟩ := u_10
    have hP : va_P G.1 vwCl [(r1, .inr (12, [.int (iz (s1)), .ref b1])), (b1, zaI (G.2 1) N1 (f1)), (r2, .inr (12, [.int (iz (s2)), .ref b2])), (b2, zaI (G.2 1) N2 (f2)), (r3, .inr (12, [.int (iz (s3)), .ref b3])), (b3, zaI (G.2 1) N3 (f3)), (r4, .inr (12, [.int (iz (s4)), .ref b4])), (b4, zaI (G.2 1) N4 (f4)), (r5, .inr (12, [.int (iz (s5)), .ref b5])), (b5, zaI (G.2 1) N5 (f5))] H := hP
    have hD : va_D A [(r1, .inr (12, [.int (iz (s1)), .ref b1])), (b1, zaI (G.2 1) N1 (f1)), (r2, .inr (12, [.int (iz (s2)), .ref b2])), (b2, zaI (G.2 1) N2 (f2)), (r3, .inr (12, [.int (iz (s3)), .ref b3])), (b3, zaI (G.2 1) N3 (f3)), (r4, .inr (12, [.int (iz (s4)), .ref b4])), (b4, zaI (G.2 1) N4 (f4)), (r5, .inr (12, [.int (iz (s5)), .ref b5])), (b5, zaI (G.2 1) N5 (f5))] := hD
    have hs : tmw f5 N5 s5 0 := hs
    refine lv_aload hx hb dX12_priceTop_49 (lv_at hl 0 rfl) ?_
    refine lv_lload_n hx hb dX12_priceTop_51 rfl (lv_at hl 3 rfl) ?_
    refine lv_iload hx hb dX12_priceTop_52 (lv_at hl 1 rfl) ?_
    refine lv_iload hx hb dX12_priceTop_54 (lv_at hl 5 rfl) ?_
    refine zr_icmp_ne (x := 1) (y := pr) (tgt := 63) hx hb (⟨by omega, by omega⟩) (⟨by omega, by omega⟩) dX12_priceTop_56 (by decide) (fun h_12 => ?_) (fun h_12 => ?_)
    ·
      refine lv_lconst (v := lz (0)) hx hb dX12_priceTop_63 rfl ?_
      refine zr_ladd hx hb dX12_priceTop_64 ?_
      refine zr_namel (fun yy eyy => ?_)
      have hyr : 0 ≤ yy ∧ yy ≤ 2000000000 := by omega
      have hbd : yy = zbond cp fa pr.toNat 1 := by rw [eyy]; first | exact zbond_eq (by omega) | exact zbond_ne (by omega)
      refine zc_r (wr := [(r1, .inr (12, [.int (iz (s1)), .ref b1])), (b1, zaI (G.2 1) N1 (f1)), (r2, .inr (12, [.int (iz (s2)), .ref b2])), (b2, zaI (G.2 1) N2 (f2)), (r3, .inr (12, [.int (iz (s3)), .ref b3])), (b3, zaI (G.2 1) N3 (f3)), (r4, .inr (12, [.int (iz (s4)), .ref b4])), (b4, zaI (G.2 1) N4 (f4)), (r5, .inr (12, [.int (iz (s5)), .ref b5])), (b5, zaI (G.2 1) N5 (f5))]) (va_runS (As := [.long (lz (yy))]) (rest := [.ref r3, .ref r5]) ⟨hx, hb, hml, hown, hts⟩ (c_X11_of l G yy (by omega) H.size) (va_cwS 1 hts gX12_priceTop_X11_of rfl rfl rfl (by decide +kernel) ⟨Nat.le_of_ble_eq_true rfl, Nat.le_of_ble_eq_true rfl⟩) (zpS hKX hP hD [] rfl rfl) rfl rfl hl.1 rfl (lv_room (Nat.le_of_ble_eq_true rfl)) dX12_priceTop_65 ⟨(by first | exact Nat.le_of_ble_eq_true rfl | (show _ ≤ (870 : Nat); omega)), (by show _ ≤ (80000 : Nat); omega)⟩) hP hD hS hA [] [0, 1, 2, 3, 4, 5, 6, 7, 8, 9] rfl rfl rfl (by decide) (fun u_13 r6 H locs q6 hP hD hS => ?_)
      obtain ⟨b6, f6, N6, s6⟩ := u_13
      have hP : va_P G.1 vwCl [(r1, .inr (12, [.int (iz (s1)), .ref b1])), (b1, zaI (G.2 1) N1 (f1)), (r2, .inr (12, [.int (iz (s2)), .ref b2])), (b2, zaI (G.2 1) N2 (f2)), (r3, .inr (12, [.int (iz (s3)), .ref b3])), (b3, zaI (G.2 1) N3 (f3)), (r4, .inr (12, [.int (iz (s4)), .ref b4])), (b4, zaI (G.2 1) N4 (f4)), (r5, .inr (12, [.int (iz (s5)), .ref b5])), (b5, zaI (G.2 1) N5 (f5)), (r6, .inr (12, [.int (iz (s6)), .ref b6])), (b6, zaI (G.2 1) N6 (f6))] H := hP
      have hD : va_D A [(r1, .inr (12, [.int (iz (s1)), .ref b1])), (b1, zaI (G.2 1) N1 (f1)), (r2, .inr (12, [.int (iz (s2)), .ref b2])), (b2, zaI (G.2 1) N2 (f2)), (r3, .inr (12, [.int (iz (s3)), .ref b3])), (b3, zaI (G.2 1) N3 (f3)), (r4, .inr (12, [.int (iz (s4)), .ref b4])), (b4, zaI (G.2 1) N4 (f4)), (r5, .inr (12, [.int (iz (s5)), .ref b5])), (b5, zaI (G.2 1) N5 (f5)), (r6, .inr (12, [.int (iz (s6)), .ref b6])), (b6, zaI (G.2 1) N6 (f6))] := hD
      have q6 : tmw f6 N6 s6 yy := q6
      refine zc_r (wr := [(r1, .inr (12, [.int (iz (s1)), .ref b1])), (b1, zaI (G.2 1) N1 (f1)), (r2, .inr (12, [.int (iz (s2)), .ref b2])), (b2, zaI (G.2 1) N2 (f2)), (r4, .inr (12, [.int (iz (s4)), .ref b4])), (b4, zaI (G.2 1) N4 (f4)), (r5, .inr (12, [.int (iz (s5)), .ref b5])), (b5, zaI (G.2 1) N5 (f5))]) (va_runV (As := [.ref r6]) (rest := [.ref r5]) ⟨hx, hb, hml, hown, hts⟩ (c_X11_times l G r3 b3 f3 N3 s3 r6 b6 f6 N6 s6 (1 * 100000) yy (hp) (q6) ((zbig ⟨by decide, by decide +kernel⟩ (zyy hyr)).1) H.size) (cwV 1 hts gX12_priceTop_X11_times rfl rfl rfl (by decide +kernel) ⟨Nat.le_of_ble_eq_true rfl, Nat.le_of_ble_eq_true rfl⟩) (zpV hKX hP hD [4, 5, 10, 11] rfl rfl 4 12 rfl rfl) rfl rfl hl.1 rfl (lv_room (Nat.le_of_ble_eq_true rfl)) dX12_priceTop_68 ⟨(by first | exact Nat.le_of_ble_eq_true rfl | (show _ ≤ (870 : Nat); omega)), (by show _ ≤ (80000 : Nat); omega)⟩) hP hD hS hA [4, 5, 10, 11] [0, 1, 2, 3, 6, 7, 8, 9] rfl rfl rfl (by decide) (fun u_15 r7 H locs hm hP hD hS => ?_)
      obtain ⟨b7, f7, N7, s7⟩ := u_15
      have hP : va_P G.1 vwCl [(r1, .inr (12, [.int (iz (s1)), .ref b1])), (b1, zaI (G.2 1) N1 (f1)), (r2, .inr (12, [.int (iz (s2)), .ref b2])), (b2, zaI (G.2 1) N2 (f2)), (r4, .inr (12, [.int (iz (s4)), .ref b4])), (b4, zaI (G.2 1) N4 (f4)), (r5, .inr (12, [.int (iz (s5)), .ref b5])), (b5, zaI (G.2 1) N5 (f5)), (r3, .inr (12, [.int (iz (s3)), .ref b3])), (b3, zaI (G.2 1) N3 (f3)), (r6, .inr (12, [.int (iz (s6)), .ref b6])), (b6, zaI (G.2 1) N6 (f6)), (r7, .inr (12, [.int (iz (s7)), .ref b7])), (b7, zaI (G.2 1) N7 (f7))] H := hP
      have hD : va_D A [(r1, .inr (12, [.int (iz (s1)), .ref b1])), (b1, zaI (G.2 1) N1 (f1)), (r2, .inr (12, [.int (iz (s2)), .ref b2])), (b2, zaI (G.2 1) N2 (f2)), (r4, .inr (12, [.int (iz (s4)), .ref b4])), (b4, zaI (G.2 1) N4 (f4)), (r5, .inr (12, [.int (iz (s5)), .ref b5])), (b5, zaI (G.2 1) N5 (f5)), (r3, .inr (12, [.int (iz (s3)), .ref b3])), (b3, zaI (G.2 1) N3 (f3)), (r6, .inr (12, [.int (iz (s6)), .ref b6])), (b6, zaI (G.2 1) N6 (f6)), (r7, .inr (12, [.int (iz (s7)), .ref b7])), (b7, zaI (G.2 1) N7 (f7))] := hD
      have hm : tmw f7 N7 s7 ((1 * 100000) * yy) := hm
      refine zc_r (wr := [(r1, .inr (12, [.int (iz (s1)), .ref b1])), (b1, zaI (G.2 1) N1 (f1)), (r2, .inr (12, [.int (iz (s2)), .ref b2])), (b2, zaI (G.2 1) N2 (f2)), (r4, .inr (12, [.int (iz (s4)), .ref b4])), (b4, zaI (G.2 1) N4 (f4)), (r3, .inr (12, [.int (iz (s3)), .ref b3])), (b3, zaI (G.2 1) N3 (f3)), (r6, .inr (12, [.int (iz (s6)), .ref b6])), (b6, zaI (G.2 1) N6 (f6))]) (va_runV (As := [.ref r7]) (rest := []) ⟨hx, hb, hml, hown, hts⟩ (c_X11_plus l G r5 b5 f5 N5 s5 r7 b7 f7 N7 s7 0 (1 * 100000 * yy) (hs) (hm) (zbig_add ⟨Int.le_refl 0, by decide +kernel⟩ (zbig ⟨by decide, by decide +kernel⟩ (zyy hyr)).2) H.size) (cwV 1 hts gX12_priceTop_X11_plus rfl rfl rfl (by decide +kernel) ⟨Nat.le_of_ble_eq_true rfl, Nat.le_of_ble_eq_true rfl⟩) (zpV hKX hP hD [6, 7, 12, 13] rfl rfl 6 12 rfl rfl) rfl rfl hl.1 rfl (lv_room (Nat.le_of_ble_eq_true rfl)) dX12_priceTop_71 ⟨(by first | exact Nat.le_of_ble_eq_true rfl | (show _ ≤ (870 : Nat); omega)), (by show _ ≤ (80000 : Nat); omega)⟩) hP hD hS hA [6, 7, 12, 13] [0, 1, 2, 3, 4, 5, 8, 9, 10, 11] rfl rfl rfl (by decide) (fun u_17 r8 H locs hpl hP hD hS => ?_)
      obtain ⟨b8, f8, N8, s8⟩ := u_17
      have hP : va_P G.1 vwCl [(r1, .inr (12, [.int (iz (s1)), .ref b1])), (b1, zaI (G.2 1) N1 (f1)), (r2, .inr (12, [.int (iz (s2)), .ref b2])), (b2, zaI (G.2 1) N2 (f2)), (r4, .inr (12, [.int (iz (s4)), .ref b4])), (b4, zaI (G.2 1) N4 (f4)), (r3, .inr (12, [.int (iz (s3)), .ref b3])), (b3, zaI (G.2 1) N3 (f3)), (r6, .inr (12, [.int (iz (s6)), .ref b6])), (b6, zaI (G.2 1) N6 (f6)), (r8, .inr (12, [.int (iz (s8)), .ref b8])), (b8, zaI (G.2 1) N8 (f8))] H := hP
      have hD : va_D A [(r1, .inr (12, [.int (iz (s1)), .ref b1])), (b1, zaI (G.2 1) N1 (f1)), (r2, .inr (12, [.int (iz (s2)), .ref b2])), (b2, zaI (G.2 1) N2 (f2)), (r4, .inr (12, [.int (iz (s4)), .ref b4])), (b4, zaI (G.2 1) N4 (f4)), (r3, .inr (12, [.int (iz (s3)), .ref b3])), (b3, zaI (G.2 1) N3 (f3)), (r6, .inr (12, [.int (iz (s6)), .ref b6])), (b6, zaI (G.2 1) N6 (f6)), (r8, .inr (12, [.int (iz (s8)), .ref b8])), (b8, zaI (G.2 1) N8 (f8))] := hD
      have hpl : tmw f8 N8 s8 ((0 : Int) + (1 * 100000 * yy)) := hpl
      refine lv_astore (lv' := [(6, .ref r8), (7, .ref r3), (8, .int (iz (1))), (0, .long (lz (cp))), (2, .long (lz (fa))), (4, .int (iz (pr))), (5, .int (iz (po)))]) hx hb dX12_priceTop_74 hl (by decide) rfl (fun ls hl => ?_)
      refine lv_iinc (v := iz (1 + 1)) (lv' := [(8, .int (iz (1 + 1))), (6, .ref r8), (7, .ref r3), (0, .long (lz (cp))), (2, .long (lz (fa))), (4, .int (iz (pr))), (5, .int (iz (po)))]) hx hb dX12_priceTop_76 hl (k := 2) rfl (by rw [show Int32.ofInt (1) = iz (1) from rfl, iz_add]) (by decide) rfl (fun ls hl => ?_)
      refine lv_goto (tgt := 14) hx hb dX12_priceTop_79 (by decide) ?_
      have hl_14 : ∀ (zn_14 : Nat) (i : Int) (rs : Nat) (bs : Nat) (fs : Int → Int) (Ns : Nat) (ss : Int) (rp : Nat) (bp : Nat) (fp : Int → Int) (Np : Nat) (sp : Int) (H : Heap) (locs : List Loc) (ls : Array Slot), (pr + 1 - i).toNat < zn_14 → (2 ≤ i ∧ i ≤ pr + 1) → (tmw fs Ns ss (zflow (100000 + po) 100000 (zbond cp fa pr.toNat) (i - 1).toNat)) → (tmw fp Np sp (100000 ^ (i - 1).toNat)) → va_P G.1 vwCl [(rs, .inr (12, [.int (iz (ss)), .ref bs])), (bs, zaI (G.2 1) Ns (fs)), (rp, .inr (12, [.int (iz (sp)), .ref bp])), (bp, zaI (G.2 1) Np (fp))] H → va_D A [(rs, .inr (12, [.int (iz (ss)), .ref bs])), (bs, zaI (G.2 1) Ns (fs)), (rp, .inr (12, [.int (iz (sp)), .ref bp])), (bp, zaI (G.2 1) Np (fp))] → va_S A s.heap H locs → lv_has ls 9 [(8, .int (iz (i))), (6, .ref rs), (7, .ref rp), (0, .long (lz (cp))), (2, .long (lz (fa))), (4, .int (iz (pr))), (5, .int (iz (po)))] → W p l e rm_c_X12_priceTop s m ([.long (lz (cp)), .long (lz (fa)), .int (iz (pr)), .int (iz (po))] : List Value).toArray below meth c H locs (3 + 21 * (i - 1).toNat) (135 + 1900 * (i - 1).toNat) Q (F0 m 14 ls []) := by
        intro zn_14
        induction zn_14 with
        | zero => intro i rs bs fs Ns ss rp bp fp Np sp H locs ls hm; exact absurd hm (Nat.not_lt_zero _)
        | succ zn_14 ih_14 =>
          intro i rs bs fs Ns ss rp bp fp Np sp H locs ls hm_14 k1 k2 k3 hP hD hS hl
          refine lv_iload hx hb dX12_priceTop_14 (lv_at hl 0 rfl) ?_
          refine lv_iload hx hb dX12_priceTop_16 (lv_at hl 5 rfl) ?_
          refine zr_icmp_gt (x := i) (y := pr) (tgt := 82) hx hb (⟨by omega, by omega⟩) (⟨by omega, by omega⟩) dX12_priceTop_18 (by decide) (fun h_19 => ?_) (fun h_19 => ?_)
          ·
            refine lv_aload hx hb dX12_priceTop_82 (lv_at hl 1 rfl) ?_
            rw [hQ]
            exact zr_aret (ra := rs) (Or.inl ⟨_, rfl⟩) (u := (bs, fs, Ns, ss)) hx hb hr hlocks (hP.sub [0, 1] rfl) (hD.sub [0, 1] (by decide) rfl) hS (by first | exact Nat.le_of_ble_eq_true rfl | omega) (by first | exact Nat.le_of_ble_eq_true rfl | omega) dX12_priceTop_84 (show tmw fs Ns ss (zbt cp fa pr po) from tpost k2 (by rw [show i - 1 = pr by omega]; rfl))
          ·
            refine lv_aload hx hb dX12_priceTop_21 (lv_at hl 2 rfl) ?_
            refine zr_ldc2 (z := 100000) hx hb hown (hts (.constantLong RX12 145 (100000)) (by decide +kernel)) rfl dX12_priceTop_23 ?_
            refine zc_r (wr := [(rs, .inr (12, [.int (iz (ss)), .ref bs])), (bs, zaI (G.2 1) Ns (fs)), (rp, .inr (12, [.int (iz (sp)), .ref bp])), (bp, zaI (G.2 1) Np (fp))]) (va_runS (As := [.long (lz (100000))]) (rest := [.ref rp]) ⟨hx, hb, hml, hown, hts⟩ (c_X11_of l G 100000 (by omega) H.size) (va_cwS 1 hts gX12_priceTop_X11_of rfl rfl rfl (by decide +kernel) ⟨Nat.le_of_ble_eq_true rfl, Nat.le_of_ble_eq_true rfl⟩) (zpS hKX hP hD [] rfl rfl) rfl rfl hl.1 rfl (lv_room (Nat.le_of_ble_eq_true rfl)) dX12_priceTop_26 ⟨(by first | exact Nat.le_of_ble_eq_true rfl | (show _ ≤ (870 : Nat); omega)), (by show _ ≤ (80000 : Nat); omega)⟩) hP hD hS hA [] [0, 1, 2, 3] rfl rfl rfl (by decide) (fun u_20 r2 H locs q2 hP hD hS => ?_)
            obtain ⟨b2, f2, N2, s2⟩ := u_20
            have hP : va_P G.1 vwCl [(rs, .inr (12, [.int (iz (ss)), .ref bs])), (bs, zaI (G.2 1) Ns (fs)), (rp, .inr (12, [.int (iz (sp)), .ref bp])), (bp, zaI (G.2 1) Np (fp)), (r2, .inr (12, [.int (iz (s2)), .ref b2])), (b2, zaI (G.2 1) N2 (f2))] H := hP
            have hD : va_D A [(rs, .inr (12, [.int (iz (ss)), .ref bs])), (bs, zaI (G.2 1) Ns (fs)), (rp, .inr (12, [.int (iz (sp)), .ref bp])), (bp, zaI (G.2 1) Np (fp)), (r2, .inr (12, [.int (iz (s2)), .ref b2])), (b2, zaI (G.2 1) N2 (f2))] := hD
            have q2 : tmw f2 N2 s2 (100000 : Int) := q2
            refine zc_r (wr := [(rs, .inr (12, [.int (iz (ss)), .ref bs])), (bs, zaI (G.2 1) Ns (fs))]) (va_runV (As := [.ref r2]) (rest := []) ⟨hx, hb, hml, hown, hts⟩ (c_X11_times l G rp bp fp Np sp r2 b2 f2 N2 s2 (100000 ^ (i - 1).toNat) 100000 (k3) (q2) ((zbig (zpw_rng ⟨by omega, by omega⟩) ⟨by decide, by decide +kernel⟩).1) H.size) (cwV 1 hts gX12_priceTop_X11_times rfl rfl rfl (by decide +kernel) ⟨Nat.le_of_ble_eq_true rfl, Nat.le_of_ble_eq_true rfl⟩) (zpV hKX hP hD [2, 3, 4, 5] rfl rfl 2 12 rfl rfl) rfl rfl hl.1 rfl (lv_room (Nat.le_of_ble_eq_true rfl)) dX12_priceTop_29 ⟨(by first | exact Nat.le_of_ble_eq_true rfl | (show _ ≤ (870 : Nat); omega)), (by show _ ≤ (80000 : Nat); omega)⟩) hP hD hS hA [2, 3, 4, 5] [0, 1] rfl rfl rfl (by decide) (fun u_22 r3 H locs hp hP hD hS => ?_)
            obtain ⟨b3, f3, N3, s3⟩ := u_22
            have hP : va_P G.1 vwCl [(rs, .inr (12, [.int (iz (ss)), .ref bs])), (bs, zaI (G.2 1) Ns (fs)), (rp, .inr (12, [.int (iz (sp)), .ref bp])), (bp, zaI (G.2 1) Np (fp)), (r2, .inr (12, [.int (iz (s2)), .ref b2])), (b2, zaI (G.2 1) N2 (f2)), (r3, .inr (12, [.int (iz (s3)), .ref b3])), (b3, zaI (G.2 1) N3 (f3))] H := hP
            have hD : va_D A [(rs, .inr (12, [.int (iz (ss)), .ref bs])), (bs, zaI (G.2 1) Ns (fs)), (rp, .inr (12, [.int (iz (sp)), .ref bp])), (bp, zaI (G.2 1) Np (fp)), (r2, .inr (12, [.int (iz (s2)), .ref b2])), (b2, zaI (G.2 1) N2 (f2)), (r3, .inr (12, [.int (iz (s3)), .ref b3])), (b3, zaI (G.2 1) N3 (f3))] := hD
            have hp : tmw f3 N3 s3 ((100000 ^ (i - 1).toNat) * (100000 : Int)) := hp
            refine lv_astore (lv' := [(7, .ref r3), (8, .int (iz (i))), (6, .ref rs), (0, .long (lz (cp))), (2, .long (lz (fa))), (4, .int (iz (pr))), (5, .int (iz (po)))]) hx hb dX12_priceTop_32 hl (by decide) rfl (fun ls hl => ?_)
            refine lv_aload hx hb dX12_priceTop_34 (lv_at hl 2 rfl) ?_
            refine zr_ldc2 (z := 100000) hx hb hown (hts (.constantLong RX12 145 (100000)) (by decide +kernel)) rfl dX12_priceTop_36 ?_
            refine lv_iload hx hb dX12_priceTop_39 (lv_at hl 6 rfl) ?_
            refine zr_i2l hx hb (x := po) (⟨by omega, by omega⟩) dX12_priceTop_41 ?_
            refine zr_ladd hx hb dX12_priceTop_42 ?_
            refine zc_r (wr := [(rs, .inr (12, [.int (iz (ss)), .ref bs])), (bs, zaI (G.2 1) Ns (fs)), (rp, .inr (12, [.int (iz (sp)), .ref bp])), (bp, zaI (G.2 1) Np (fp)), (r2, .inr (12, [.int (iz (s2)), .ref b2])), (b2, zaI (G.2 1) N2 (f2)), (r3, .inr (12, [.int (iz (s3)), .ref b3])), (b3, zaI (G.2 1) N3 (f3))]) (va_runS (As := [.long (lz (100000 + po))]) (rest := [.ref rs]) ⟨hx, hb, hml, hown, hts⟩ (c_X11_of l G (100000 + po) (by omega) H.size) (va_cwS 1 hts gX12_priceTop_X11_of rfl rfl rfl (by decide +kernel) ⟨Nat.le_of_ble_eq_true rfl, Nat.le_of_ble_eq_true rfl⟩) (zpS hKX hP hD [] rfl rfl) rfl rfl hl.1 rfl (lv_room (Nat.le_of_ble_eq_true rfl)) dX12_priceTop_43 ⟨(by first | exact Nat.le_of_ble_eq_true rfl | (show _ ≤ (870 : Nat); omega)), (by show _ ≤ (80000 : Nat); omega)⟩) hP hD hS hA [] [0, 1, 2, 3, 4, 5, 6, 7] rfl rfl rfl (by decide) (fun u_24 r4 H locs q4 hP hD hS => ?_)
            obtain ⟨b4, f4, N4, s4⟩ := u_24
            have hP : va_P G.1 vwCl [(rs, .inr (12, [.int (iz (ss)), .ref bs])), (bs, zaI (G.2 1) Ns (fs)), (rp, .inr (12, [.int (iz (sp)), .ref bp])), (bp, zaI (G.2 1) Np (fp)), (r2, .inr (12, [.int (iz (s2)), .ref b2])), (b2, zaI (G.2 1) N2 (f2)), (r3, .inr (12, [.int (iz (s3)), .ref b3])), (b3, zaI (G.2 1) N3 (f3)), (r4, .inr (12, [.int (iz (s4)), .ref b4])), (b4, zaI (G.2 1) N4 (f4))] H := hP
            have hD : va_D A [(rs, .inr (12, [.int (iz (ss)), .ref bs])), (bs, zaI (G.2 1) Ns (fs)), (rp, .inr (12, [.int (iz (sp)), .ref bp])), (bp, zaI (G.2 1) Np (fp)), (r2, .inr (12, [.int (iz (s2)), .ref b2])), (b2, zaI (G.2 1) N2 (f2)), (r3, .inr (12, [.int (iz (s3)), .ref b3])), (b3, zaI (G.2 1) N3 (f3)), (r4, .inr (12, [.int (iz (s4)), .ref b4])), (b4, zaI (G.2 1) N4 (f4))] := hD
            have q4 : tmw f4 N4 s4 (100000 + po) := q4
            refine zc_r (wr := [(rp, .inr (12, [.int (iz (sp)), .ref bp])), (bp, zaI (G.2 1) Np (fp)), (r2, .inr (12, [.int (iz (s2)), .ref b2])), (b2, zaI (G.2 1) N2 (f2)), (r3, .inr (12, [.int (iz (s3)), .ref b3])), (b3, zaI (G.2 1) N3 (f3))]) (va_runV (As := [.ref r4]) (rest := []) ⟨hx, hb, hml, hown, hts⟩ (c_X11_times l G rs bs fs Ns ss r4 b4 f4 N4 s4 (zflow (100000 + po) 100000 (zbond cp fa pr.toNat) (i - 1).toNat) (100000 + po) (k2) (q4) ((zbig (zpt_rng h1b h2 ⟨by omega, by omega⟩) (zrt h2)).1) H.size) (cwV 1 hts gX12_priceTop_X11_times rfl rfl rfl (by decide +kernel) ⟨Nat.le_of_ble_eq_true rfl, Nat.le_of_ble_eq_true rfl⟩) (zpV hKX hP hD [0, 1, 8, 9] rfl rfl 0 12 rfl rfl) rfl rfl hl.1 rfl (lv_room (Nat.le_of_ble_eq_true rfl)) dX12_priceTop_46 ⟨(by first | exact Nat.le_of_ble_eq_true rfl | (show _ ≤ (870 : Nat); omega)), (by show _ ≤ (80000 : Nat); omega)⟩) hP hD hS hA [0, 1, 8, 9] [2, 3, 4, 5, 6, 7] rfl rfl rfl (by decide) (fun u_26 r5 H locs hs hP hD hS => ?_)
            obtain ⟨b5, f5, N5, s5⟩ := u_26
            have hP : va_P G.1 vwCl [(rp, .inr (12, [.int (iz (sp)), .ref bp])), (bp, zaI (G.2 1) Np (fp)), (r2, .inr (12, [.int (iz (s2)), .ref b2])), (b2, zaI (G.2 1) N2 (f2)), (r3, .inr (12, [.int (iz (s3)), .ref b3])), (b3, zaI (G.2 1) N3 (f3)), (rs, .inr (12, [.int (iz (ss)), .ref bs])), (bs, zaI (G.2 1) Ns (fs)), (r4, .inr (12, [.int (iz (s4)), .ref b4])), (b4, zaI (G.2 1) N4 (f4)), (r5, .inr (12, [.int (iz (s5)), .ref b5])), (b5, zaI (G.2 1) N5 (f5))] H := hP
            have hD : va_D A [(rp, .inr (12, [.int (iz (sp)), .ref bp])), (bp, zaI (G.2 1) Np (fp)), (r2, .inr (12, [.int (iz (s2)), .ref b2])), (b2, zaI (G.2 1) N2 (f2)), (r3, .inr (12, [.int (iz (s3)), .ref b3])), (b3, zaI (G.2 1) N3 (f3)), (rs, .inr (12, [.int (iz (ss)), .ref bs])), (bs, zaI (G.2 1) Ns (fs)), (r4, .inr (12, [.int (iz (s4)), .ref b4])), (b4, zaI (G.2 1) N4 (f4)), (r5, .inr (12, [.int (iz (s5)), .ref b5])), (b5, zaI (G.2 1) N5 (f5))] := hD
            have hs : tmw f5 N5 s5 ((zflow (100000 + po) 100000 (zbond cp fa pr.toNat) (i - 1).toNat) * (100000 + po)) := hs
            refine lv_aload hx hb dX12_priceTop_49 (lv_at hl 0 rfl) ?_
            refine lv_lload_n hx hb dX12_priceTop_51 rfl (lv_at hl 3 rfl) ?_
            refine lv_iload hx hb dX12_priceTop_52 (lv_at hl 1 rfl) ?_
            refine lv_iload hx hb dX12_priceTop_54 (lv_at hl 5 rfl) ?_
            refine zr_icmp_ne (x := i) (y := pr) (tgt := 63) hx hb (⟨by omega, by omega⟩) (⟨by omega, by omega⟩) dX12_priceTop_56 (by decide) (fun h_28 => ?_) (fun h_28 => ?_)
            ·
              refine lv_lconst (v := lz (0)) hx hb dX12_priceTop_63 rfl ?_
              refine zr_ladd hx hb dX12_priceTop_64 ?_
              refine zr_namel (fun yy eyy => ?_)
              have hyr : 0 ≤ yy ∧ yy ≤ 2000000000 := by omega
              have hbd : yy = zbond cp fa pr.toNat (i).toNat := by rw [eyy]; first | exact zbond_eq (by omega) | exact zbond_ne (by omega)
              refine zc_r (wr := [(rp, .inr (12, [.int (iz (sp)), .ref bp])), (bp, zaI (G.2 1) Np (fp)), (r2, .inr (12, [.int (iz (s2)), .ref b2])), (b2, zaI (G.2 1) N2 (f2)), (r3, .inr (12, [.int (iz (s3)), .ref b3])), (b3, zaI (G.2 1) N3 (f3)), (rs, .inr (12, [.int (iz (ss)), .ref bs])), (bs, zaI (G.2 1) Ns (fs)), (r4, .inr (12, [.int (iz (s4)), .ref b4])), (b4, zaI (G.2 1) N4 (f4)), (r5, .inr (12, [.int (iz (s5)), .ref b5])), (b5, zaI (G.2 1) N5 (f5))]) (va_runS (As := [.long (lz (yy))]) (rest := [.ref r3, .ref r5]) ⟨hx, hb, hml, hown, hts⟩ (c_X11_of l G yy (by omega) H.size) (va_cwS 1 hts gX12_priceTop_X11_of rfl rfl rfl (by decide +kernel) ⟨Nat.le_of_ble_eq_true rfl, Nat.le_of_ble_eq_true rfl⟩) (zpS hKX hP hD [] rfl rfl) rfl rfl hl.1 rfl (lv_room (Nat.le_of_ble_eq_true rfl)) dX12_priceTop_65 ⟨(by first | exact Nat.le_of_ble_eq_true rfl | (show _ ≤ (870 : Nat); omega)), (by show _ ≤ (80000 : Nat); omega)⟩) hP hD hS hA [] [0, 1, 2, 3, 4, 5, 6, 7, 8, 9, 10, 11] rfl rfl rfl (by decide) (fun u_29 r6 H locs q6 hP hD hS => ?_)
              obtain ⟨b6, f6, N6, s6⟩ := u_29
              have hP : va_P G.1 vwCl [(rp, .inr (12, [.int (iz (sp)), .ref bp])), (bp, zaI (G.2 1) Np (fp)), (r2, .inr (12, [.int (iz (s2)), .ref b2])), (b2, zaI (G.2 1) N2 (f2)), (r3, .inr (12, [.int (iz (s3)), .ref b3])), (b3, zaI (G.2 1) N3 (f3)), (rs, .inr (12, [.int (iz (ss)), .ref bs])), (bs, zaI (G.2 1) Ns (fs)), (r4, .inr (12, [.int (iz (s4)), .ref b4])), (b4, zaI (G.2 1) N4 (f4)), (r5, .inr (12, [.int (iz (s5)), .ref b5])), (b5, zaI (G.2 1) N5 (f5)), (r6, .inr (12, [.int (iz (s6)), .ref b6])), (b6, zaI (G.2 1) N6 (f6))] H := hP
              have hD : va_D A [(rp, .inr (12, [.int (iz (sp)), .ref bp])), (bp, zaI (G.2 1) Np (fp)), (r2, .inr (12, [.int (iz (s2)), .ref b2])), (b2, zaI (G.2 1) N2 (f2)), (r3, .inr (12, [.int (iz (s3)), .ref b3])), (b3, zaI (G.2 1) N3 (f3)), (rs, .inr (12, [.int (iz (ss)), .ref bs])), (bs, zaI (G.2 1) Ns (fs)), (r4, .inr (12, [.int (iz (s4)), .ref b4])), (b4, zaI (G.2 1) N4 (f4)), (r5, .inr (12, [.int (iz (s5)), .ref b5])), (b5, zaI (G.2 1) N5 (f5)), (r6, .inr (12, [.int (iz (s6)), .ref b6])), (b6, zaI (G.2 1) N6 (f6))] := hD
              have q6 : tmw f6 N6 s6 yy := q6
              refine zc_r (wr := [(rp, .inr (12, [.int (iz (sp)), .ref bp])), (bp, zaI (G.2 1) Np (fp)), (r2, .inr (12, [.int (iz (s2)), .ref b2])), (b2, zaI (G.2 1) N2 (f2)), (rs, .inr (12, [.int (iz (ss)), .ref bs])), (bs, zaI (G.2 1) Ns (fs)), (r4, .inr (12, [.int (iz (s4)), .ref b4])), (b4, zaI (G.2 1) N4 (f4)), (r5, .inr (12, [.int (iz (s5)), .ref b5])), (b5, zaI (G.2 1) N5 (f5))]) (va_runV (As := [.ref r6]) (rest := [.ref r5]) ⟨hx, hb, hml, hown, hts⟩ (c_X11_times l G r3 b3 f3 N3 s3 r6 b6 f6 N6 s6 (100000 ^ (i - 1).toNat * 100000) yy (hp) (q6) ((zbig (zpw_rng2 ⟨by omega, by omega⟩) (zyy hyr)).1) H.size) (cwV 1 hts gX12_priceTop_X11_times rfl rfl rfl (by decide +kernel) ⟨Nat.le_of_ble_eq_true rfl, Nat.le_of_ble_eq_true rfl⟩) (zpV hKX hP hD [4, 5, 12, 13] rfl rfl 4 12 rfl rfl) rfl rfl hl.1 rfl (lv_room (Nat.le_of_ble_eq_true rfl)) dX12_priceTop_68 ⟨(by first | exact Nat.le_of_ble_eq_true rfl | (show _ ≤ (870 : Nat); omega)), (by show _ ≤ (80000 : Nat); omega)⟩) hP hD hS hA [4, 5, 12, 13] [0, 1, 2, 3, 6, 7, 8, 9, 10, 11] rfl rfl rfl (by decide) (fun u_31 r7 H locs hm hP hD hS => ?_)
              obtain ⟨b7, f7, N7, s7⟩ := u_31
              have hP : va_P G.1 vwCl [(rp, .inr (12, [.int (iz (sp)), .ref bp])), (bp, zaI (G.2 1) Np (fp)), (r2, .inr (12, [.int (iz (s2)), .ref b2])), (b2, zaI (G.2 1) N2 (f2)), (rs, .inr (12, [.int (iz (ss)), .ref bs])), (bs, zaI (G.2 1) Ns (fs)), (r4, .inr (12, [.int (iz (s4)), .ref b4])), (b4, zaI (G.2 1) N4 (f4)), (r5, .inr (12, [.int (iz (s5)), .ref b5])), (b5, zaI (G.2 1) N5 (f5)), (r3, .inr (12, [.int (iz (s3)), .ref b3])), (b3, zaI (G.2 1) N3 (f3)), (r6, .inr (12, [.int (iz (s6)), .ref b6])), (b6, zaI (G.2 1) N6 (f6)), (r7, .inr (12, [.int (iz (s7)), .ref b7])), (b7, zaI (G.2 1) N7 (f7))] H := hP
              have hD : va_D A [(rp, .inr (12, [.int (iz (sp)), .ref bp])), (bp, zaI (G.2 1) Np (fp)), (r2, .inr (12, [.int (iz (s2)), .ref b2])), (b2, zaI (G.2 1) N2 (f2)), (rs, .inr (12, [.int (iz (ss)), .ref bs])), (bs, zaI (G.2 1) Ns (fs)), (r4, .inr (12, [.int (iz (s4)), .ref b4])), (b4, zaI (G.2 1) N4 (f4)), (r5, .inr (12, [.int (iz (s5)), .ref b5])), (b5, zaI (G.2 1) N5 (f5)), (r3, .inr (12, [.int (iz (s3)), .ref b3])), (b3, zaI (G.2 1) N3 (f3)), (r6, .inr (12, [.int (iz (s6)), .ref b6])), (b6, zaI (G.2 1) N6 (f6)), (r7, .inr (12, [.int (iz (s7)), .ref b7])), (b7, zaI (G.2 1) N7 (f7))] := hD
              have hm : tmw f7 N7 s7 ((100000 ^ (i - 1).toNat * 100000) * yy) := hm
              refine zc_r (wr := [(rp, .inr (12, [.int (iz (sp)), .ref bp])), (bp, zaI (G.2 1) Np (fp)), (r2, .inr (12, [.int (iz (s2)), .ref b2])), (b2, zaI (G.2 1) N2 (f2)), (rs, .inr (12, [.int (iz (ss)), .ref bs])), (bs, zaI (G.2 1) Ns (fs)), (r4, .inr (12, [.int (iz (s4)), .ref b4])), (b4, zaI (G.2 1) N4 (f4)), (r3, .inr (12, [.int (iz (s3)), .ref b3])), (b3, zaI (G.2 1) N3 (f3)), (r6, .inr (12, [.int (iz (s6)), .ref b6])), (b6, zaI (G.2 1) N6 (f6))]) (va_runV (As := [.ref r7]) (rest := []) ⟨hx, hb, hml, hown, hts⟩ (c_X11_plus l G r5 b5 f5 N5 s5 r7 b7 f7 N7 s7 (zflow (100000 + po) 100000 (zbond cp fa pr.toNat) (i - 1).toNat * (100000 + po)) (100000 ^ (i - 1).toNat * 100000 * yy) (hs) (hm) (zbig_add (zbig (zpt_rng h1b h2 ⟨by omega, by omega⟩) (zrt h2)).2 (zbig (zpw_rng2 ⟨by omega, by omega⟩) (zyy hyr)).2) H.size) (cwV 1 hts gX12_priceTop_X11_plus rfl rfl rfl (by decide +kernel) ⟨Nat.le_of_ble_eq_true rfl, Nat.le_of_ble_eq_true rfl⟩) (zpV hKX hP hD [8, 9, 14, 15] rfl rfl 8 12 rfl rfl) rfl rfl hl.1 rfl (lv_room (Nat.le_of_ble_eq_true rfl)) dX12_priceTop_71 ⟨(by first | exact Nat.le_of_ble_eq_true rfl | (show _ ≤ (870 : Nat); omega)), (by show _ ≤ (80000 : Nat); omega)⟩) hP hD hS hA [8, 9, 14, 15] [0, 1, 2, 3, 4, 5, 6, 7, 10, 11, 12, 13] rfl rfl rfl (by decide) (fun u_33 r8 H locs hpl hP hD hS => ?_)
              obtain ⟨b8, f8, N8, s8⟩ := u_33
              have hP : va_P G.1 vwCl [(rp, .inr (12, [.int (iz (sp)), .ref bp])), (bp, zaI (G.2 1) Np (fp)), (r2, .inr (12, [.int (iz (s2)), .ref b2])), (b2, zaI (G.2 1) N2 (f2)), (rs, .inr (12, [.int (iz (ss)), .ref bs])), (bs, zaI (G.2 1) Ns (fs)), (r4, .inr (12, [.int (iz (s4)), .ref b4])), (b4, zaI (G.2 1) N4 (f4)), (r3, .inr (12, [.int (iz (s3)), .ref b3])), (b3, zaI (G.2 1) N3 (f3)), (r6, .inr (12, [.int (iz (s6)), .ref b6])), (b6, zaI (G.2 1) N6 (f6)), (r8, .inr (12, [.int (iz (s8)), .ref b8])), (b8, zaI (G.2 1) N8 (f8))] H := hP
              have hD : va_D A [(rp, .inr (12, [.int (iz (sp)), .ref bp])), (bp, zaI (G.2 1) Np (fp)), (r2, .inr (12, [.int (iz (s2)), .ref b2])), (b2, zaI (G.2 1) N2 (f2)), (rs, .inr (12, [.int (iz (ss)), .ref bs])), (bs, zaI (G.2 1) Ns (fs)), (r4, .inr (12, [.int (iz (s4)), .ref b4])), (b4, zaI (G.2 1) N4 (f4)), (r3, .inr (12, [.int (iz (s3)), .ref b3])), (b3, zaI (G.2 1) N3 (f3)), (r6, .inr (12, [.int (iz (s6)), .ref b6])), (b6, zaI (G.2 1) N6 (f6)), (r8, .inr (12, [.int (iz (s8)), .ref b8])), (b8, zaI (G.2 1) N8 (f8))] := hD
              have hpl : tmw f8 N8 s8 ((zflow (100000 + po) 100000 (zbond cp fa pr.toNat) (i - 1).toNat * (100000 + po)) + (100000 ^ (i - 1).toNat * 100000 * yy)) := hpl
              refine lv_astore (lv' := [(6, .ref r8), (7, .ref r3), (8, .int (iz (i))), (0, .long (lz (cp))), (2, .long (lz (fa))), (4, .int (iz (pr))), (5, .int (iz (po)))]) hx hb dX12_priceTop_74 hl (by decide) rfl (fun ls hl => ?_)
              refine lv_iinc (v := iz (i + 1)) (lv' := [(8, .int (iz (i + 1))), (6, .ref r8), (7, .ref r3), (0, .long (lz (cp))), (2, .long (lz (fa))), (4, .int (iz (pr))), (5, .int (iz (po)))]) hx hb dX12_priceTop_76 hl (k := 2) rfl (by rw [show Int32.ofInt (1) = iz (1) from rfl, iz_add]) (by decide) rfl (fun ls hl => ?_)
              refine lv_goto (tgt := 14) hx hb dX12_priceTop_79 (by decide) ?_
              refine W.widen (k := 3 + 21 * ((i + 1) - 1).toNat) (n := 135 + 1900 * ((i + 1) - 1).toNat) (by omega) (by omega) ?_
              exact ih_14 (i + 1) r8 b8 f8 N8 s8 r3 b3 f3 N3 s3 _ _ _ (by omega) (by omega) (tpost hpl (zpt_step k1.1 hbd)) (tpost hp (zpt_pows k1.1)) (hP.sub [12, 13, 8, 9] rfl) (hD.sub [12, 13, 8, 9] (by decide) rfl) hS (hl)
            ·
              refine lv_lload_n hx hb dX12_priceTop_59 rfl (lv_at hl 4 rfl) ?_
              refine lv_goto (tgt := 64) hx hb dX12_priceTop_60 (by decide) ?_
              refine zr_ladd hx hb dX12_priceTop_64 ?_
              refine zr_namel (fun yy eyy => ?_)
              have hyr : 0 ≤ yy ∧ yy ≤ 2000000000 := by omega
              have hbd : yy = zbond cp fa pr.toNat (i).toNat := by rw [eyy]; first | exact zbond_eq (by omega) | exact zbond_ne (by omega)
              refine zc_r (wr := [(rp, .inr (12, [.int (iz (sp)), .ref bp])), (bp, zaI (G.2 1) Np (fp)), (r2, .inr (12, [.int (iz (s2)), .ref b2])), (b2, zaI (G.2 1) N2 (f2)), (r3, .inr (12, [.int (iz (s3)), .ref b3])), (b3, zaI (G.2 1) N3 (f3)), (rs, .inr (12, [.int (iz (ss)), .ref bs])), (bs, zaI (G.2 1) Ns (fs)), (r4, .inr (12, [.int (iz (s4)), .ref b4])), (b4, zaI (G.2 1) N4 (f4)), (r5, .inr (12, [.int (iz (s5)), .ref b5])), (b5, zaI (G.2 1) N5 (f5))]) (va_runS (As := [.long (lz (yy))]) (rest := [.ref r3, .ref r5]) ⟨hx, hb, hml, hown, hts⟩ (c_X11_of l G yy (by omega) H.size) (va_cwS 1 hts gX12_priceTop_X11_of rfl rfl rfl (by decide +kernel) ⟨Nat.le_of_ble_eq_true rfl, Nat.le_of_ble_eq_true rfl⟩) (zpS hKX hP hD [] rfl rfl) rfl rfl hl.1 rfl (lv_room (Nat.le_of_ble_eq_true rfl)) dX12_priceTop_65 ⟨(by first | exact Nat.le_of_ble_eq_true rfl | (show _ ≤ (870 : Nat); omega)), (by show _ ≤ (80000 : Nat); omega)⟩) hP hD hS hA [] [0, 1, 2, 3, 4, 5, 6, 7, 8, 9, 10, 11] rfl rfl rfl (by decide) (fun u_35 r6 H locs q6 hP hD hS => ?_)
              obtain ⟨b6, f6, N6, s6⟩ := u_35
              have hP : va_P G.1 vwCl [(rp, .inr (12, [.int (iz (sp)), .ref bp])), (bp, zaI (G.2 1) Np (fp)), (r2, .inr (12, [.int (iz (s2)), .ref b2])), (b2, zaI (G.2 1) N2 (f2)), (r3, .inr (12, [.int (iz (s3)), .ref b3])), (b3, zaI (G.2 1) N3 (f3)), (rs, .inr (12, [.int (iz (ss)), .ref bs])), (bs, zaI (G.2 1) Ns (fs)), (r4, .inr (12, [.int (iz (s4)), .ref b4])), (b4, zaI (G.2 1) N4 (f4)), (r5, .inr (12, [.int (iz (s5)), .ref b5])), (b5, zaI (G.2 1) N5 (f5)), (r6, .inr (12, [.int (iz (s6)), .ref b6])), (b6, zaI (G.2 1) N6 (f6))] H := hP
              have hD : va_D A [(rp, .inr (12, [.int (iz (sp)), .ref bp])), (bp, zaI (G.2 1) Np (fp)), (r2, .inr (12, [.int (iz (s2)), .ref b2])), (b2, zaI (G.2 1) N2 (f2)), (r3, .inr (12, [.int (iz (s3)), .ref b3])), (b3, zaI (G.2 1) N3 (f3)), (rs, .inr (12, [.int (iz (ss)), .ref bs])), (bs, zaI (G.2 1) Ns (fs)), (r4, .inr (12, [.int (iz (s4)), .ref b4])), (b4, zaI (G.2 1) N4 (f4)), (r5, .inr (12, [.int (iz (s5)), .ref b5])), (b5, zaI (G.2 1) N5 (f5)), (r6, .inr (12, [.int (iz (s6)), .ref b6])), (b6, zaI (G.2 1) N6 (f6))] := hD
              have q6 : tmw f6 N6 s6 yy := q6
              refine zc_r (wr := [(rp, .inr (12, [.int (iz (sp)), .ref bp])), (bp, zaI (G.2 1) Np (fp)), (r2, .inr (12, [.int (iz (s2)), .ref b2])), (b2, zaI (G.2 1) N2 (f2)), (rs, .inr (12, [.int (iz (ss)), .ref bs])), (bs, zaI (G.2 1) Ns (fs)), (r4, .inr (12, [.int (iz (s4)), .ref b4])), (b4, zaI (G.2 1) N4 (f4)), (r5, .inr (12, [.int (iz (s5)), .ref b5])), (b5, zaI (G.2 1) N5 (f5))]) (va_runV (As := [.ref r6]) (rest := [.ref r5]) ⟨hx, hb, hml, hown, hts⟩ (c_X11_times l G r3 b3 f3 N3 s3 r6 b6 f6 N6 s6 (100000 ^ (i - 1).toNat * 100000) yy (hp) (q6) ((zbig (zpw_rng2 ⟨by omega, by omega⟩) (zyy hyr)).1) H.size) (cwV 1 hts gX12_priceTop_X11_times rfl rfl rfl (by decide +kernel) ⟨Nat.le_of_ble_eq_true rfl, Nat.le_of_ble_eq_true rfl⟩) (zpV hKX hP hD [4, 5, 12, 13] rfl rfl 4 12 rfl rfl) rfl rfl hl.1 rfl (lv_room (Nat.le_of_ble_eq_true rfl)) dX12_priceTop_68 ⟨(by first | exact Nat.le_of_ble_eq_true rfl | (show _ ≤ (870 : Nat); omega)), (by show _ ≤ (80000 : Nat); omega)⟩) hP hD hS hA [4, 5, 12, 13] [0, 1, 2, 3, 6, 7, 8, 9, 10, 11] rfl rfl rfl (by decide) (fun u_37 r7 H locs hm hP hD hS => ?_)
              obtain ⟨b7, f7, N7, s7⟩ := u_37
              have hP : va_P G.1 vwCl [(rp, .inr (12, [.int (iz (sp)), .ref bp])), (bp, zaI (G.2 1) Np (fp)), (r2, .inr (12, [.int (iz (s2)), .ref b2])), (b2, zaI (G.2 1) N2 (f2)), (rs, .inr (12, [.int (iz (ss)), .ref bs])), (bs, zaI (G.2 1) Ns (fs)), (r4, .inr (12, [.int (iz (s4)), .ref b4])), (b4, zaI (G.2 1) N4 (f4)), (r5, .inr (12, [.int (iz (s5)), .ref b5])), (b5, zaI (G.2 1) N5 (f5)), (r3, .inr (12, [.int (iz (s3)), .ref b3])), (b3, zaI (G.2 1) N3 (f3)), (r6, .inr (12, [.int (iz (s6)), .ref b6])), (b6, zaI (G.2 1) N6 (f6)), (r7, .inr (12, [.int (iz (s7)), .ref b7])), (b7, zaI (G.2 1) N7 (f7))] H := hP
              have hD : va_D A [(rp, .inr (12, [.int (iz (sp)), .ref bp])), (bp, zaI (G.2 1) Np (fp)), (r2, .inr (12, [.int (iz (s2)), .ref b2])), (b2, zaI (G.2 1) N2 (f2)), (rs, .inr (12, [.int (iz (ss)), .ref bs])), (bs, zaI (G.2 1) Ns (fs)), (r4, .inr (12, [.int (iz (s4)), .ref b4])), (b4, zaI (G.2 1) N4 (f4)), (r5, .inr (12, [.int (iz (s5)), .ref b5])), (b5, zaI (G.2 1) N5 (f5)), (r3, .inr (12, [.int (iz (s3)), .ref b3])), (b3, zaI (G.2 1) N3 (f3)), (r6, .inr (12, [.int (iz (s6)), .ref b6])), (b6, zaI (G.2 1) N6 (f6)), (r7, .inr (12, [.int (iz (s7)), .ref b7])), (b7, zaI (G.2 1) N7 (f7))] := hD
              have hm : tmw f7 N7 s7 ((100000 ^ (i - 1).toNat * 100000) * yy) := hm
              refine zc_r (wr := [(rp, .inr (12, [.int (iz (sp)), .ref bp])), (bp, zaI (G.2 1) Np (fp)), (r2, .inr (12, [.int (iz (s2)), .ref b2])), (b2, zaI (G.2 1) N2 (f2)), (rs, .inr (12, [.int (iz (ss)), .ref bs])), (bs, zaI (G.2 1) Ns (fs)), (r4, .inr (12, [.int (iz (s4)), .ref b4])), (b4, zaI (G.2 1) N4 (f4)), (r3, .inr (12, [.int (iz (s3)), .ref b3])), (b3, zaI (G.2 1) N3 (f3)), (r6, .inr (12, [.int (iz (s6)), .ref b6])), (b6, zaI (G.2 1) N6 (f6))]) (va_runV (As := [.ref r7]) (rest := []) ⟨hx, hb, hml, hown, hts⟩ (c_X11_plus l G r5 b5 f5 N5 s5 r7 b7 f7 N7 s7 (zflow (100000 + po) 100000 (zbond cp fa pr.toNat) (i - 1).toNat * (100000 + po)) (100000 ^ (i - 1).toNat * 100000 * yy) (hs) (hm) (zbig_add (zbig (zpt_rng h1b h2 ⟨by omega, by omega⟩) (zrt h2)).2 (zbig (zpw_rng2 ⟨by omega, by omega⟩) (zyy hyr)).2) H.size) (cwV 1 hts gX12_priceTop_X11_plus rfl rfl rfl (by decide +kernel) ⟨Nat.le_of_ble_eq_true rfl, Nat.le_of_ble_eq_true rfl⟩) (zpV hKX hP hD [8, 9, 14, 15] rfl rfl 8 12 rfl rfl) rfl rfl hl.1 rfl (lv_room (Nat.le_of_ble_eq_true rfl)) dX12_priceTop_71 ⟨(by first | exact Nat.le_of_ble_eq_true rfl | (show _ ≤ (870 : Nat); omega)), (by show _ ≤ (80000 : Nat); omega)⟩) hP hD hS hA [8, 9, 14, 15] [0, 1, 2, 3, 4, 5, 6, 7, 10, 11, 12, 13] rfl rfl rfl (by decide) (fun u_39 r8 H locs hpl hP hD hS => ?_)
              obtain ⟨b8, f8, N8, s8⟩ := u_39
              have hP : va_P G.1 vwCl [(rp, .inr (12, [.int (iz (sp)), .ref bp])), (bp, zaI (G.2 1) Np (fp)), (r2, .inr (12, [.int (iz (s2)), .ref b2])), (b2, zaI (G.2 1) N2 (f2)), (rs, .inr (12, [.int (iz (ss)), .ref bs])), (bs, zaI (G.2 1) Ns (fs)), (r4, .inr (12, [.int (iz (s4)), .ref b4])), (b4, zaI (G.2 1) N4 (f4)), (r3, .inr (12, [.int (iz (s3)), .ref b3])), (b3, zaI (G.2 1) N3 (f3)), (r6, .inr (12, [.int (iz (s6)), .ref b6])), (b6, zaI (G.2 1) N6 (f6)), (r8, .inr (12, [.int (iz (s8)), .ref b8])), (b8, zaI (G.2 1) N8 (f8))] H := hP
              have hD : va_D A [(rp, .inr (12, [.int (iz (sp)), .ref bp])), (bp, zaI (G.2 1) Np (fp)), (r2, .inr (12, [.int (iz (s2)), .ref b2])), (b2, zaI (G.2 1) N2 (f2)), (rs, .inr (12, [.int (iz (ss)), .ref bs])), (bs, zaI (G.2 1) Ns (fs)), (r4, .inr (12, [.int (iz (s4)), .ref b4])), (b4, zaI (G.2 1) N4 (f4)), (r3, .inr (12, [.int (iz (s3)), .ref b3])), (b3, zaI (G.2 1) N3 (f3)), (r6, .inr (12, [.int (iz (s6)), .ref b6])), (b6, zaI (G.2 1) N6 (f6)), (r8, .inr (12, [.int (iz (s8)), .ref b8])), (b8, zaI (G.2 1) N8 (f8))] := hD
              have hpl : tmw f8 N8 s8 ((zflow (100000 + po) 100000 (zbond cp fa pr.toNat) (i - 1).toNat * (100000 + po)) + (100000 ^ (i - 1).toNat * 100000 * yy)) := hpl
              refine lv_astore (lv' := [(6, .ref r8), (7, .ref r3), (8, .int (iz (i))), (0, .long (lz (cp))), (2, .long (lz (fa))), (4, .int (iz (pr))), (5, .int (iz (po)))]) hx hb dX12_priceTop_74 hl (by decide) rfl (fun ls hl => ?_)
              refine lv_iinc (v := iz (i + 1)) (lv' := [(8, .int (iz (i + 1))), (6, .ref r8), (7, .ref r3), (0, .long (lz (cp))), (2, .long (lz (fa))), (4, .int (iz (pr))), (5, .int (iz (po)))]) hx hb dX12_priceTop_76 hl (k := 2) rfl (by rw [show Int32.ofInt (1) = iz (1) from rfl, iz_add]) (by decide) rfl (fun ls hl => ?_)
              refine lv_goto (tgt := 14) hx hb dX12_priceTop_79 (by decide) ?_
              refine W.widen (k := 3 + 21 * ((i + 1) - 1).toNat) (n := 135 + 1900 * ((i + 1) - 1).toNat) (by omega) (by omega) ?_
              exact ih_14 (i + 1) r8 b8 f8 N8 s8 r3 b3 f3 N3 s3 _ _ _ (by omega) (by omega) (tpost hpl (zpt_step k1.1 hbd)) (tpost hp (zpt_pows k1.1)) (hP.sub [12, 13, 8, 9] rfl) (hD.sub [12, 13, 8, 9] (by decide) rfl) hS (hl)
      refine W.widen (k := 3 + 21 * ((1 + 1 : Int) - 1).toNat) (n := 135 + 1900 * ((1 + 1 : Int) - 1).toNat) (by omega) (by omega) ?_
      exact hl_14 ((pr + 1 - (1 + 1) : Int).toNat + 1) (1 + 1) r8 b8 f8 N8 s8 r3 b3 f3 N3 s3 _ _ _ (Nat.lt_succ_self _) (by omega) (tpost hpl (zpt_first (by decide) hbd)) (tpost hp (zpt_pow1 (by decide))) (hP.sub [10, 11, 6, 7] rfl) (hD.sub [10, 11, 6, 7] (by decide) rfl) hS (hl)
    ·
      refine lv_lload_n hx hb dX12_priceTop_59 rfl (lv_at hl 4 rfl) ?_
      refine lv_goto (tgt := 64) hx hb dX12_priceTop_60 (by decide) ?_
      refine zr_ladd hx hb dX12_priceTop_64 ?_
      refine zr_namel (fun yy eyy => ?_)
      have hyr : 0 ≤ yy ∧ yy ≤ 2000000000 := by omega
      have hbd : yy = zbond cp fa pr.toNat 1 := by rw [eyy]; first | exact zbond_eq (by omega) | exact zbond_ne (by omega)
      refine zc_r (wr := [(r1, .inr (12, [.int (iz (s1)), .ref b1])), (b1, zaI (G.2 1) N1 (f1)), (r2, .inr (12, [.int (iz (s2)), .ref b2])), (b2, zaI (G.2 1) N2 (f2)), (r3, .inr (12, [.int (iz (s3)), .ref b3])), (b3, zaI (G.2 1) N3 (f3)), (r4, .inr (12, [.int (iz (s4)), .ref b4])), (b4, zaI (G.2 1) N4 (f4)), (r5, .inr (12, [.int (iz (s5)), .ref b5])), (b5, zaI (G.2 1) N5 (f5))]) (va_runS (As := [.long (lz (yy))]) (rest := [.ref r3, .ref r5]) ⟨hx, hb, hml, hown, hts⟩ (c_X11_of l G yy (by omega) H.size) (va_cwS 1 hts gX12_priceTop_X11_of rfl rfl rfl (by decide +kernel) ⟨Nat.le_of_ble_eq_true rfl, Nat.le_of_ble_eq_true rfl⟩) (zpS hKX hP hD [] rfl rfl) rfl rfl hl.1 rfl (lv_room (Nat.le_of_ble_eq_true rfl)) dX12_priceTop_65 ⟨(by first | exact Nat.le_of_ble_eq_true rfl | (show _ ≤ (870 : Nat); omega)), (by show _ ≤ (80000 : Nat); omega)⟩) hP hD hS hA [] [0, 1, 2, 3, 4, 5, 6, 7, 8, 9] rfl rfl rfl (by decide) (fun u_41 r6 H locs q6 hP hD hS => ?_)
      obtain ⟨b6, f6, N6, s6⟩ := u_41
      have hP : va_P G.1 vwCl [(r1, .inr (12, [.int (iz (s1)), .ref b1])), (b1, zaI (G.2 1) N1 (f1)), (r2, .inr (12, [.int (iz (s2)), .ref b2])), (b2, zaI (G.2 1) N2 (f2)), (r3, .inr (12, [.int (iz (s3)), .ref b3])), (b3, zaI (G.2 1) N3 (f3)), (r4, .inr (12, [.int (iz (s4)), .ref b4])), (b4, zaI (G.2 1) N4 (f4)), (r5, .inr (12, [.int (iz (s5)), .ref b5])), (b5, zaI (G.2 1) N5 (f5)), (r6, .inr (12, [.int (iz (s6)), .ref b6])), (b6, zaI (G.2 1) N6 (f6))] H := hP
      have hD : va_D A [(r1, .inr (12, [.int (iz (s1)), .ref b1])), (b1, zaI (G.2 1) N1 (f1)), (r2, .inr (12, [.int (iz (s2)), .ref b2])), (b2, zaI (G.2 1) N2 (f2)), (r3, .inr (12, [.int (iz (s3)), .ref b3])), (b3, zaI (G.2 1) N3 (f3)), (r4, .inr (12, [.int (iz (s4)), .ref b4])), (b4, zaI (G.2 1) N4 (f4)), (r5, .inr (12, [.int (iz (s5)), .ref b5])), (b5, zaI (G.2 1) N5 (f5)), (r6, .inr (12, [.int (iz (s6)), .ref b6])), (b6, zaI (G.2 1) N6 (f6))] := hD
      have q6 : tmw f6 N6 s6 yy := q6
      refine zc_r (wr := [(r1, .inr (12, [.int (iz (s1)), .ref b1])), (b1, zaI (G.2 1) N1 (f1)), (r2, .inr (12, [.int (iz (s2)), .ref b2])), (b2, zaI (G.2 1) N2 (f2)), (r4, .inr (12, [.int (iz (s4)), .ref b4])), (b4, zaI (G.2 1) N4 (f4)), (r5, .inr (12, [.int (iz (s5)), .ref b5])), (b5, zaI (G.2 1) N5 (f5))]) (va_runV (As := [.ref r6]) (rest := [.ref r5]) ⟨hx, hb, hml, hown, hts⟩ (c_X11_times l G r3 b3 f3 N3 s3 r6 b6 f6 N6 s6 (1 * 100000) yy (hp) (q6) ((zbig ⟨by decide, by decide +kernel⟩ (zyy hyr)).1) H.size) (cwV 1 hts gX12_priceTop_X11_times rfl rfl rfl (by decide +kernel) ⟨Nat.le_of_ble_eq_true rfl, Nat.le_of_ble_eq_true rfl⟩) (zpV hKX hP hD [4, 5, 10, 11] rfl rfl 4 12 rfl rfl) rfl rfl hl.1 rfl (lv_room (Nat.le_of_ble_eq_true rfl)) dX12_priceTop_68 ⟨(by first | exact Nat.le_of_ble_eq_true rfl | (show _ ≤ (870 : Nat); omega)), (by show _ ≤ (80000 : Nat); omega)⟩) hP hD hS hA [4, 5, 10, 11] [0, 1, 2, 3, 6, 7, 8, 9] rfl rfl rfl (by decide) (fun u_43 r7 H locs hm hP hD hS => ?_)
      obtain ⟨b7, f7, N7, s7⟩ := u_43
      have hP : va_P G.1 vwCl [(r1, .inr (12, [.int (iz (s1)), .ref b1])), (b1, zaI (G.2 1) N1 (f1)), (r2, .inr (12, [.int (iz (s2)), .ref b2])), (b2, zaI (G.2 1) N2 (f2)), (r4, .inr (12, [.int (iz (s4)), .ref b4])), (b4, zaI (G.2 1) N4 (f4)), (r5, .inr (12, [.int (iz (s5)), .ref b5])), (b5, zaI (G.2 1) N5 (f5)), (r3, .inr (12, [.int (iz (s3)), .ref b3])), (b3, zaI (G.2 1) N3 (f3)), (r6, .inr (12, [.int (iz (s6)), .ref b6])), (b6, zaI (G.2 1) N6 (f6)), (r7, .inr (12, [.int (iz (s7)), .ref b7])), (b7, zaI (G.2 1) N7 (f7))] H := hP
      have hD : va_D A [(r1, .inr (12, [.int (iz (s1)), .ref b1])), (b1, zaI (G.2 1) N1 (f1)), (r2, .inr (12, [.int (iz (s2)), .ref b2])), (b2, zaI (G.2 1) N2 (f2)), (r4, .inr (12, [.int (iz (s4)), .ref b4])), (b4, zaI (G.2 1) N4 (f4)), (r5, .inr (12, [.int (iz (s5)), .ref b5])), (b5, zaI (G.2 1) N5 (f5)), (r3, .inr (12, [.int (iz (s3)), .ref b3])), (b3, zaI (G.2 1) N3 (f3)), (r6, .inr (12, [.int (iz (s6)), .ref b6])), (b6, zaI (G.2 1) N6 (f6)), (r7, .inr (12, [.int (iz (s7)), .ref b7])), (b7, zaI (G.2 1) N7 (f7))] := hD
      have hm : tmw f7 N7 s7 ((1 * 100000) * yy) := hm
      refine zc_r (wr := [(r1, .inr (12, [.int (iz (s1)), .ref b1])), (b1, zaI (G.2 1) N1 (f1)), (r2, .inr (12, [.int (iz (s2)), .ref b2])), (b2, zaI (G.2 1) N2 (f2)), (r4, .inr (12, [.int (iz (s4)), .ref b4])), (b4, zaI (G.2 1) N4 (f4)), (r3, .inr (12, [.int (iz (s3)), .ref b3])), (b3, zaI (G.2 1) N3 (f3)), (r6, .inr (12, [.int (iz (s6)), .ref b6])), (b6, zaI (G.2 1) N6 (f6))]) (va_runV (As := [.ref r7]) (rest := []) ⟨hx, hb, hml, hown, hts⟩ (c_X11_plus l G r5 b5 f5 N5 s5 r7 b7 f7 N7 s7 0 (1 * 100000 * yy) (hs) (hm) (zbig_add ⟨Int.le_refl 0, by decide +kernel⟩ (zbig ⟨by decide, by decide +kernel⟩ (zyy hyr)).2) H.size) (cwV 1 hts gX12_priceTop_X11_plus rfl rfl rfl (by decide +kernel) ⟨Nat.le_of_ble_eq_true rfl, Nat.le_of_ble_eq_true rfl⟩) (zpV hKX hP hD [6, 7, 12, 13] rfl rfl 6 12 rfl rfl) rfl rfl hl.1 rfl (lv_room (Nat.le_of_ble_eq_true rfl)) dX12_priceTop_71 ⟨(by first | exact Nat.le_of_ble_eq_true rfl | (show _ ≤ (870 : Nat); omega)), (by show _ ≤ (80000 : Nat); omega)⟩) hP hD hS hA [6, 7, 12, 13] [0, 1, 2, 3, 4, 5, 8, 9, 10, 11] rfl rfl rfl (by decide) (fun u_45 r8 H locs hpl hP hD hS => ?_)
      obtain ⟨b8, f8, N8, s8⟩ := u_45
      have hP : va_P G.1 vwCl [(r1, .inr (12, [.int (iz (s1)), .ref b1])), (b1, zaI (G.2 1) N1 (f1)), (r2, .inr (12, [.int (iz (s2)), .ref b2])), (b2, zaI (G.2 1) N2 (f2)), (r4, .inr (12, [.int (iz (s4)), .ref b4])), (b4, zaI (G.2 1) N4 (f4)), (r3, .inr (12, [.int (iz (s3)), .ref b3])), (b3, zaI (G.2 1) N3 (f3)), (r6, .inr (12, [.int (iz (s6)), .ref b6])), (b6, zaI (G.2 1) N6 (f6)), (r8, .inr (12, [.int (iz (s8)), .ref b8])), (b8, zaI (G.2 1) N8 (f8))] H := hP
      have hD : va_D A [(r1, .inr (12, [.int (iz (s1)), .ref b1])), (b1, zaI (G.2 1) N1 (f1)), (r2, .inr (12, [.int (iz (s2)), .ref b2])), (b2, zaI (G.2 1) N2 (f2)), (r4, .inr (12, [.int (iz (s4)), .ref b4])), (b4, zaI (G.2 1) N4 (f4)), (r3, .inr (12, [.int (iz (s3)), .ref b3])), (b3, zaI (G.2 1) N3 (f3)), (r6, .inr (12, [.int (iz (s6)), .ref b6])), (b6, zaI (G.2 1) N6 (f6)), (r8, .inr (12, [.int (iz (s8)), .ref b8])), (b8, zaI (G.2 1) N8 (f8))] := hD
      have hpl : tmw f8 N8 s8 ((0 : Int) + (1 * 100000 * yy)) := hpl
      refine lv_astore (lv' := [(6, .ref r8), (7, .ref r3), (8, .int (iz (1))), (0, .long (lz (cp))), (2, .long (lz (fa))), (4, .int (iz (pr))), (5, .int (iz (po)))]) hx hb dX12_priceTop_74 hl (by decide) rfl (fun ls hl => ?_)
      refine lv_iinc (v := iz (1 + 1)) (lv' := [(8, .int (iz (1 + 1))), (6, .ref r8), (7, .ref r3), (0, .long (lz (cp))), (2, .long (lz (fa))), (4, .int (iz (pr))), (5, .int (iz (po)))]) hx hb dX12_priceTop_76 hl (k := 2) rfl (by rw [show Int32.ofInt (1) = iz (1) from rfl, iz_add]) (by decide) rfl (fun ls hl => ?_)
      refine lv_goto (tgt := 14) hx hb dX12_priceTop_79 (by decide) ?_
      have hl_14 : ∀ (zn_14 : Nat) (i : Int) (rs : Nat) (bs : Nat) (fs : Int → Int) (Ns : Nat) (ss : Int) (rp : Nat) (bp : Nat) (fp : Int → Int) (Np : Nat) (sp : Int) (H : Heap) (locs : List Loc) (ls : Array Slot), (pr + 1 - i).toNat < zn_14 → (2 ≤ i ∧ i ≤ pr + 1) → (tmw fs Ns ss (zflow (100000 + po) 100000 (zbond cp fa pr.toNat) (i - 1).toNat)) → (tmw fp Np sp (100000 ^ (i - 1).toNat)) → va_P G.1 vwCl [(rs, .inr (12, [.int (iz (ss)), .ref bs])), (bs, zaI (G.2 1) Ns (fs)), (rp, .inr (12, [.int (iz (sp)), .ref bp])), (bp, zaI (G.2 1) Np (fp))] H → va_D A [(rs, .inr (12, [.int (iz (ss)), .ref bs])), (bs, zaI (G.2 1) Ns (fs)), (rp, .inr (12, [.int (iz (sp)), .ref bp])), (bp, zaI (G.2 1) Np (fp))] → va_S A s.heap H locs → lv_has ls 9 [(8, .int (iz (i))), (6, .ref rs), (7, .ref rp), (0, .long (lz (cp))), (2, .long (lz (fa))), (4, .int (iz (pr))), (5, .int (iz (po)))] → W p l e rm_c_X12_priceTop s m ([.long (lz (cp)), .long (lz (fa)), .int (iz (pr)), .int (iz (po))] : List Value).toArray below meth c H locs (3 + 21 * (i - 1).toNat) (135 + 1900 * (i - 1).toNat) Q (F0 m 14 ls []) := by
        intro zn_14
        induction zn_14 with
        | zero => intro i rs bs fs Ns ss rp bp fp Np sp H locs ls hm; exact absurd hm (Nat.not_lt_zero _)
        | succ zn_14 ih_14 =>
          intro i rs bs fs Ns ss rp bp fp Np sp H locs ls hm_14 k1 k2 k3 hP hD hS hl
          refine lv_iload hx hb dX12_priceTop_14 (lv_at hl 0 rfl) ?_
          refine lv_iload hx hb dX12_priceTop_16 (lv_at hl 5 rfl) ?_
          refine zr_icmp_gt (x := i) (y := pr) (tgt := 82) hx hb (⟨by omega, by omega⟩) (⟨by omega, by omega⟩) dX12_priceTop_18 (by decide) (fun h_47 => ?_) (fun h_47 => ?_)
          ·
            refine lv_aload hx hb dX12_priceTop_82 (lv_at hl 1 rfl) ?_
            rw [hQ]
            exact zr_aret (ra := rs) (Or.inl ⟨_, rfl⟩) (u := (bs, fs, Ns, ss)) hx hb hr hlocks (hP.sub [0, 1] rfl) (hD.sub [0, 1] (by decide) rfl) hS (by first | exact Nat.le_of_ble_eq_true rfl | omega) (by first | exact Nat.le_of_ble_eq_true rfl | omega) dX12_priceTop_84 (show tmw fs Ns ss (zbt cp fa pr po) from tpost k2 (by rw [show i - 1 = pr by omega]; rfl))
          ·
            refine lv_aload hx hb dX12_priceTop_21 (lv_at hl 2 rfl) ?_
            refine zr_ldc2 (z := 100000) hx hb hown (hts (.constantLong RX12 145 (100000)) (by decide +kernel)) rfl dX12_priceTop_23 ?_
            refine zc_r (wr := [(rs, .inr (12, [.int (iz (ss)), .ref bs])), (bs, zaI (G.2 1) Ns (fs)), (rp, .inr (12, [.int (iz (sp)), .ref bp])), (bp, zaI (G.2 1) Np (fp))]) (va_runS (As := [.long (lz (100000))]) (rest := [.ref rp]) ⟨hx, hb, hml, hown, hts⟩ (c_X11_of l G 100000 (by omega) H.size) (va_cwS 1 hts gX12_priceTop_X11_of rfl rfl rfl (by decide +kernel) ⟨Nat.le_of_ble_eq_true rfl, Nat.le_of_ble_eq_true rfl⟩) (zpS hKX hP hD [] rfl rfl) rfl rfl hl.1 rfl (lv_room (Nat.le_of_ble_eq_true rfl)) dX12_priceTop_26 ⟨(by first | exact Nat.le_of_ble_eq_true rfl | (show _ ≤ (870 : Nat); omega)), (by show _ ≤ (80000 : Nat); omega)⟩) hP hD hS hA [] [0, 1, 2, 3] rfl rfl rfl (by decide) (fun u_48 r2 H locs q2 hP hD hS => ?_)
            obtain ⟨b2, f2, N2, s2⟩ := u_48
            have hP : va_P G.1 vwCl [(rs, .inr (12, [.int (iz (ss)), .ref bs])), (bs, zaI (G.2 1) Ns (fs)), (rp, .inr (12, [.int (iz (sp)), .ref bp])), (bp, zaI (G.2 1) Np (fp)), (r2, .inr (12, [.int (iz (s2)), .ref b2])), (b2, zaI (G.2 1) N2 (f2))] H := hP
            have hD : va_D A [(rs, .inr (12, [.int (iz (ss)), .ref bs])), (bs, zaI (G.2 1) Ns (fs)), (rp, .inr (12, [.int (iz (sp)), .ref bp])), (bp, zaI (G.2 1) Np (fp)), (r2, .inr (12, [.int (iz (s2)), .ref b2])), (b2, zaI (G.2 1) N2 (f2))] := hD
            have q2 : tmw f2 N2 s2 (100000 : Int) := q2
            refine zc_r (wr := [(rs, .inr (12, [.int (iz (ss)), .ref bs])), (bs, zaI (G.2 1) Ns (fs))]) (va_runV (As := [.ref r2]) (rest := []) ⟨hx, hb, hml, hown, hts⟩ (c_X11_times l G rp bp fp Np sp r2 b2 f2 N2 s2 (100000 ^ (i - 1).toNat) 100000 (k3) (q2) ((zbig (zpw_rng ⟨by omega, by omega⟩) ⟨by decide, by decide +kernel⟩).1) H.size) (cwV 1 hts gX12_priceTop_X11_times rfl rfl rfl (by decide +kernel) ⟨Nat.le_of_ble_eq_true rfl, Nat.le_of_ble_eq_true rfl⟩) (zpV hKX hP hD [2, 3, 4, 5] rfl rfl 2 12 rfl rfl) rfl rfl hl.1 rfl (lv_room (Nat.le_of_ble_eq_true rfl)) dX12_priceTop_29 ⟨(by first | exact Nat.le_of_ble_eq_true rfl | (show _ ≤ (870 : Nat); omega)), (by show _ ≤ (80000 : Nat); omega)⟩) hP hD hS hA [2, 3, 4, 5] [0, 1] rfl rfl rfl (by decide) (fun u_50 r3 H locs hp hP hD hS => ?_)
            obtain ⟨b3, f3, N3, s3⟩ := u_50
            have hP : va_P G.1 vwCl [(rs, .inr (12, [.int (iz (ss)), .ref bs])), (bs, zaI (G.2 1) Ns (fs)), (rp, .inr (12, [.int (iz (sp)), .ref bp])), (bp, zaI (G.2 1) Np (fp)), (r2, .inr (12, [.int (iz (s2)), .ref b2])), (b2, zaI (G.2 1) N2 (f2)), (r3, .inr (12, [.int (iz (s3)), .ref b3])), (b3, zaI (G.2 1) N3 (f3))] H := hP
            have hD : va_D A [(rs, .inr (12, [.int (iz (ss)), .ref bs])), (bs, zaI (G.2 1) Ns (fs)), (rp, .inr (12, [.int (iz (sp)), .ref bp])), (bp, zaI (G.2 1) Np (fp)), (r2, .inr (12, [.int (iz (s2)), .ref b2])), (b2, zaI (G.2 1) N2 (f2)), (r3, .inr (12, [.int (iz (s3)), .ref b3])), (b3, zaI (G.2 1) N3 (f3))] := hD
            have hp : tmw f3 N3 s3 ((100000 ^ (i - 1).toNat) * (100000 : Int)) := hp
            refine lv_astore (lv' := [(7, .ref r3), (8, .int (iz (i))), (6, .ref rs), (0, .long (lz (cp))), (2, .long (lz (fa))), (4, .int (iz (pr))), (5, .int (iz (po)))]) hx hb dX12_priceTop_32 hl (by decide) rfl (fun ls hl => ?_)
            refine lv_aload hx hb dX12_priceTop_34 (lv_at hl 2 rfl) ?_
            refine zr_ldc2 (z := 100000) hx hb hown (hts (.constantLong RX12 145 (100000)) (by decide +kernel)) rfl dX12_priceTop_36 ?_
            refine lv_iload hx hb dX12_priceTop_39 (lv_at hl 6 rfl) ?_
            refine zr_i2l hx hb (x := po) (⟨by omega, by omega⟩) dX12_priceTop_41 ?_
            refine zr_ladd hx hb dX12_priceTop_42 ?_
            refine zc_r (wr := [(rs, .inr (12, [.int (iz (ss)), .ref bs])), (bs, zaI (G.2 1) Ns (fs)), (rp, .inr (12, [.int (iz (sp)), .ref bp])), (bp, zaI (G.2 1) Np (fp)), (r2, .inr (12, [.int (iz (s2)), .ref b2])), (b2, zaI (G.2 1) N2 (f2)), (r3, .inr (12, [.int (iz (s3)), .ref b3])), (b3, zaI (G.2 1) N3 (f3))]) (va_runS (As := [.long (lz (100000 + po))]) (rest := [.ref rs]) ⟨hx, hb, hml, hown, hts⟩ (c_X11_of l G (100000 + po) (by omega) H.size) (va_cwS 1 hts gX12_priceTop_X11_of rfl rfl rfl (by decide +kernel) ⟨Nat.le_of_ble_eq_true rfl, Nat.le_of_ble_eq_true rfl⟩) (zpS hKX hP hD [] rfl rfl) rfl rfl hl.1 rfl (lv_room (Nat.le_of_ble_eq_true rfl)) dX12_priceTop_43 ⟨(by first | exact Nat.le_of_ble_eq_true rfl | (show _ ≤ (870 : Nat); omega)), (by show _ ≤ (80000 : Nat); omega)⟩) hP hD hS hA [] [0, 1, 2, 3, 4, 5, 6, 7] rfl rfl rfl (by decide) (fun u_52 r4 H locs q4 hP hD hS => ?_)
            obtain ⟨b4, f4, N4, s4⟩ := u_52
            have hP : va_P G.1 vwCl [(rs, .inr (12, [.int (iz (ss)), .ref bs])), (bs, zaI (G.2 1) Ns (fs)), (rp, .inr (12, [.int (iz (sp)), .ref bp])), (bp, zaI (G.2 1) Np (fp)), (r2, .inr (12, [.int (iz (s2)), .ref b2])), (b2, zaI (G.2 1) N2 (f2)), (r3, .inr (12, [.int (iz (s3)), .ref b3])), (b3, zaI (G.2 1) N3 (f3)), (r4, .inr (12, [.int (iz (s4)), .ref b4])), (b4, zaI (G.2 1) N4 (f4))] H := hP
            have hD : va_D A [(rs, .inr (12, [.int (iz (ss)), .ref bs])), (bs, zaI (G.2 1) Ns (fs)), (rp, .inr (12, [.int (iz (sp)), .ref bp])), (bp, zaI (G.2 1) Np (fp)), (r2, .inr (12, [.int (iz (s2)), .ref b2])), (b2, zaI (G.2 1) N2 (f2)), (r3, .inr (12, [.int (iz (s3)), .ref b3])), (b3, zaI (G.2 1) N3 (f3)), (r4, .inr (12, [.int (iz (s4)), .ref b4])), (b4, zaI (G.2 1) N4 (f4))] := hD
            have q4 : tmw f4 N4 s4 (100000 + po) := q4
            refine zc_r (wr := [(rp, .inr (12, [.int (iz (sp)), .ref bp])), (bp, zaI (G.2 1) Np (fp)), (r2, .inr (12, [.int (iz (s2)), .ref b2])), (b2, zaI (G.2 1) N2 (f2)), (r3, .inr (12, [.int (iz (s3)), .ref b3])), (b3, zaI (G.2 1) N3 (f3))]) (va_runV (As := [.ref r4]) (rest := []) ⟨hx, hb, hml, hown, hts⟩ (c_X11_times l G rs bs fs Ns ss r4 b4 f4 N4 s4 (zflow (100000 + po) 100000 (zbond cp fa pr.toNat) (i - 1).toNat) (100000 + po) (k2) (q4) ((zbig (zpt_rng h1b h2 ⟨by omega, by omega⟩) (zrt h2)).1) H.size) (cwV 1 hts gX12_priceTop_X11_times rfl rfl rfl (by decide +kernel) ⟨Nat.le_of_ble_eq_true rfl, Nat.le_of_ble_eq_true rfl⟩) (zpV hKX hP hD [0, 1, 8, 9] rfl rfl 0 12 rfl rfl) rfl rfl hl.1 rfl (lv_room (Nat.le_of_ble_eq_true rfl)) dX12_priceTop_46 ⟨(by first | exact Nat.le_of_ble_eq_true rfl | (show _ ≤ (870 : Nat); omega)), (by show _ ≤ (80000 : Nat); omega)⟩) hP hD hS hA [0, 1, 8, 9] [2, 3, 4, 5, 6, 7] rfl rfl rfl (by decide) (fun u_54 r5 H locs hs hP hD hS => ?_)
            obtain ⟨b5, f5, N5, s5⟩ := u_54
            have hP : va_P G.1 vwCl [(rp, .inr (12, [.int (iz (sp)), .ref bp])), (bp, zaI (G.2 1) Np (fp)), (r2, .inr (12, [.int (iz (s2)), .ref b2])), (b2, zaI (G.2 1) N2 (f2)), (r3, .inr (12, [.int (iz (s3)), .ref b3])), (b3, zaI (G.2 1) N3 (f3)), (rs, .inr (12, [.int (iz (ss)), .ref bs])), (bs, zaI (G.2 1) Ns (fs)), (r4, .inr (12, [.int (iz (s4)), .ref b4])), (b4, zaI (G.2 1) N4 (f4)), (r5, .inr (12, [.int (iz (s5)), .ref b5])), (b5, zaI (G.2 1) N5 (f5))] H := hP
            have hD : va_D A [(rp, .inr (12, [.int (iz (sp)), .ref bp])), (bp, zaI (G.2 1) Np (fp)), (r2, .inr (12, [.int (iz (s2)), .ref b2])), (b2, zaI (G.2 1) N2 (f2)), (r3, .inr (12, [.int (iz (s3)), .ref b3])), (b3, zaI (G.2 1) N3 (f3)), (rs, .inr (12, [.int (iz (ss)), .ref bs])), (bs, zaI (G.2 1) Ns (fs)), (r4, .inr (12, [.int (iz (s4)), .ref b4])), (b4, zaI (G.2 1) N4 (f4)), (r5, .inr (12, [.int (iz (s5)), .ref b5])), (b5, zaI (G.2 1) N5 (f5))] := hD
            have hs : tmw f5 N5 s5 ((zflow (100000 + po) 100000 (zbond cp fa pr.toNat) (i - 1).toNat) * (100000 + po)) := hs
            refine lv_aload hx hb dX12_priceTop_49 (lv_at hl 0 rfl) ?_
            refine lv_lload_n hx hb dX12_priceTop_51 rfl (lv_at hl 3 rfl) ?_
            refine lv_iload hx hb dX12_priceTop_52 (lv_at hl 1 rfl) ?_
            refine lv_iload hx hb dX12_priceTop_54 (lv_at hl 5 rfl) ?_
            refine zr_icmp_ne (x := i) (y := pr) (tgt := 63) hx hb (⟨by omega, by omega⟩) (⟨by omega, by omega⟩) dX12_priceTop_56 (by decide) (fun h_56 => ?_) (fun h_56 => ?_)
            ·
              refine lv_lconst (v := lz (0)) hx hb dX12_priceTop_63 rfl ?_
              refine zr_ladd hx hb dX12_priceTop_64 ?_
              refine zr_namel (fun yy eyy => ?_)
              have hyr : 0 ≤ yy ∧ yy ≤ 2000000000 := by omega
              have hbd : yy = zbond cp fa pr.toNat (i).toNat := by rw [eyy]; first | exact zbond_eq (by omega) | exact zbond_ne (by omega)
              refine zc_r (wr := [(rp, .inr (12, [.int (iz (sp)), .ref bp])), (bp, zaI (G.2 1) Np (fp)), (r2, .inr (12, [.int (iz (s2)), .ref b2])), (b2, zaI (G.2 1) N2 (f2)), (r3, .inr (12, [.int (iz (s3)), .ref b3])), (b3, zaI (G.2 1) N3 (f3)), (rs, .inr (12, [.int (iz (ss)), .ref bs])), (bs, zaI (G.2 1) Ns (fs)), (r4, .inr (12, [.int (iz (s4)), .ref b4])), (b4, zaI (G.2 1) N4 (f4)), (r5, .inr (12, [.int (iz (s5)), .ref b5])), (b5, zaI (G.2 1) N5 (f5))]) (va_runS (As := [.long (lz (yy))]) (rest := [.ref r3, .ref r5]) ⟨hx, hb, hml, hown, hts⟩ (c_X11_of l G yy (by omega) H.size) (va_cwS 1 hts gX12_priceTop_X11_of rfl rfl rfl (by decide +kernel) ⟨Nat.le_of_ble_eq_true rfl, Nat.le_of_ble_eq_true rfl⟩) (zpS hKX hP hD [] rfl rfl) rfl rfl hl.1 rfl (lv_room (Nat.le_of_ble_eq_true rfl)) dX12_priceTop_65 ⟨(by first | exact Nat.le_of_ble_eq_true rfl | (show _ ≤ (870 : Nat); omega)), (by show _ ≤ (80000 : Nat); omega)⟩) hP hD hS hA [] [0, 1, 2, 3, 4, 5, 6, 7, 8, 9, 10, 11] rfl rfl rfl (by decide) (fun u_57 r6 H locs q6 hP hD hS => ?_)
              obtain ⟨b6, f6, N6, s6⟩ := u_57
              have hP : va_P G.1 vwCl [(rp, .inr (12, [.int (iz (sp)), .ref bp])), (bp, zaI (G.2 1) Np (fp)), (r2, .inr (12, [.int (iz (s2)), .ref b2])), (b2, zaI (G.2 1) N2 (f2)), (r3, .inr (12, [.int (iz (s3)), .ref b3])), (b3, zaI (G.2 1) N3 (f3)), (rs, .inr (12, [.int (iz (ss)), .ref bs])), (bs, zaI (G.2 1) Ns (fs)), (r4, .inr (12, [.int (iz (s4)), .ref b4])), (b4, zaI (G.2 1) N4 (f4)), (r5, .inr (12, [.int (iz (s5)), .ref b5])), (b5, zaI (G.2 1) N5 (f5)), (r6, .inr (12, [.int (iz (s6)), .ref b6])), (b6, zaI (G.2 1) N6 (f6))] H := hP
              have hD : va_D A [(rp, .inr (12, [.int (iz (sp)), .ref bp])), (bp, zaI (G.2 1) Np (fp)), (r2, .inr (12, [.int (iz (s2)), .ref b2])), (b2, zaI (G.2 1) N2 (f2)), (r3, .inr (12, [.int (iz (s3)), .ref b3])), (b3, zaI (G.2 1) N3 (f3)), (rs, .inr (12, [.int (iz (ss)), .ref bs])), (bs, zaI (G.2 1) Ns (fs)), (r4, .inr (12, [.int (iz (s4)), .ref b4])), (b4, zaI (G.2 1) N4 (f4)), (r5, .inr (12, [.int (iz (s5)), .ref b5])), (b5, zaI (G.2 1) N5 (f5)), (r6, .inr (12, [.int (iz (s6)), .ref b6])), (b6, zaI (G.2 1) N6 (f6))] := hD
              have q6 : tmw f6 N6 s6 yy := q6
              refine zc_r (wr := [(rp, .inr (12, [.int (iz (sp)), .ref bp])), (bp, zaI (G.2 1) Np (fp)), (r2, .inr (12, [.int (iz (s2)), .ref b2])), (b2, zaI (G.2 1) N2 (f2)), (rs, .inr (12, [.int (iz (ss)), .ref bs])), (bs, zaI (G.2 1) Ns (fs)), (r4, .inr (12, [.int (iz (s4)), .ref b4])), (b4, zaI (G.2 1) N4 (f4)), (r5, .inr (12, [.int (iz (s5)), .ref b5])), (b5, zaI (G.2 1) N5 (f5))]) (va_runV (As := [.ref r6]) (rest := [.ref r5]) ⟨hx, hb, hml, hown, hts⟩ (c_X11_times l G r3 b3 f3 N3 s3 r6 b6 f6 N6 s6 (100000 ^ (i - 1).toNat * 100000) yy (hp) (q6) ((zbig (zpw_rng2 ⟨by omega, by omega⟩) (zyy hyr)).1) H.size) (cwV 1 hts gX12_priceTop_X11_times rfl rfl rfl (by decide +kernel) ⟨Nat.le_of_ble_eq_true rfl, Nat.le_of_ble_eq_true rfl⟩) (zpV hKX hP hD [4, 5, 12, 13] rfl rfl 4 12 rfl rfl) rfl rfl hl.1 rfl (lv_room (Nat.le_of_ble_eq_true rfl)) dX12_priceTop_68 ⟨(by first | exact Nat.le_of_ble_eq_true rfl | (show _ ≤ (870 : Nat); omega)), (by show _ ≤ (80000 : Nat); omega)⟩) hP hD hS hA [4, 5, 12, 13] [0, 1, 2, 3, 6, 7, 8, 9, 10, 11] rfl rfl rfl (by decide) (fun u_59 r7 H locs hm hP hD hS => ?_)
              obtain ⟨b7, f7, N7, s7⟩ := u_59
              have hP : va_P G.1 vwCl [(rp, .inr (12, [.int (iz (sp)), .ref bp])), (bp, zaI (G.2 1) Np (fp)), (r2, .inr (12, [.int (iz (s2)), .ref b2])), (b2, zaI (G.2 1) N2 (f2)), (rs, .inr (12, [.int (iz (ss)), .ref bs])), (bs, zaI (G.2 1) Ns (fs)), (r4, .inr (12, [.int (iz (s4)), .ref b4])), (b4, zaI (G.2 1) N4 (f4)), (r5, .inr (12, [.int (iz (s5)), .ref b5])), (b5, zaI (G.2 1) N5 (f5)), (r3, .inr (12, [.int (iz (s3)), .ref b3])), (b3, zaI (G.2 1) N3 (f3)), (r6, .inr (12, [.int (iz (s6)), .ref b6])), (b6, zaI (G.2 1) N6 (f6)), (r7, .inr (12, [.int (iz (s7)), .ref b7])), (b7, zaI (G.2 1) N7 (f7))] H := hP
              have hD : va_D A [(rp, .inr (12, [.int (iz (sp)), .ref bp])), (bp, zaI (G.2 1) Np (fp)), (r2, .inr (12, [.int (iz (s2)), .ref b2])), (b2, zaI (G.2 1) N2 (f2)), (rs, .inr (12, [.int (iz (ss)), .ref bs])), (bs, zaI (G.2 1) Ns (fs)), (r4, .inr (12, [.int (iz (s4)), .ref b4])), (b4, zaI (G.2 1) N4 (f4)), (r5, .inr (12, [.int (iz (s5)), .ref b5])), (b5, zaI (G.2 1) N5 (f5)), (r3, .inr (12, [.int (iz (s3)), .ref b3])), (b3, zaI (G.2 1) N3 (f3)), (r6, .inr (12, [.int (iz (s6)), .ref b6])), (b6, zaI (G.2 1) N6 (f6)), (r7, .inr (12, [.int (iz (s7)), .ref b7])), (b7, zaI (G.2 1) N7 (f7))] := hD
              have hm : tmw f7 N7 s7 ((100000 ^ (i - 1).toNat * 100000) * yy) := hm
              refine zc_r (wr := [(rp, .inr (12, [.int (iz (sp)), .ref bp])), (bp, zaI (G.2 1) Np (fp)), (r2, .inr (12, [.int (iz (s2)), .ref b2])), (b2, zaI (G.2 1) N2 (f2)), (rs, .inr (12, [.int (iz (ss)), .ref bs])), (bs, zaI (G.2 1) Ns (fs)), (r4, .inr (12, [.int (iz (s4)), .ref b4])), (b4, zaI (G.2 1) N4 (f4)), (r3, .inr (12, [.int (iz (s3)), .ref b3])), (b3, zaI (G.2 1) N3 (f3)), (r6, .inr (12, [.int (iz (s6)), .ref b6])), (b6, zaI (G.2 1) N6 (f6))]) (va_runV (As := [.ref r7]) (rest := []) ⟨hx, hb, hml, hown, hts⟩ (c_X11_plus l G r5 b5 f5 N5 s5 r7 b7 f7 N7 s7 (zflow (100000 + po) 100000 (zbond cp fa pr.toNat) (i - 1).toNat * (100000 + po)) (100000 ^ (i - 1).toNat * 100000 * yy) (hs) (hm) (zbig_add (zbig (zpt_rng h1b h2 ⟨by omega, by omega⟩) (zrt h2)).2 (zbig (zpw_rng2 ⟨by omega, by omega⟩) (zyy hyr)).2) H.size) (cwV 1 hts gX12_priceTop_X11_plus rfl rfl rfl (by decide +kernel) ⟨Nat.le_of_ble_eq_true rfl, Nat.le_of_ble_eq_true rfl⟩) (zpV hKX hP hD [8, 9, 14, 15] rfl rfl 8 12 rfl rfl) rfl rfl hl.1 rfl (lv_room (Nat.le_of_ble_eq_true rfl)) dX12_priceTop_71 ⟨(by first | exact Nat.le_of_ble_eq_true rfl | (show _ ≤ (870 : Nat); omega)), (by show _ ≤ (80000 : Nat); omega)⟩) hP hD hS hA [8, 9, 14, 15] [0, 1, 2, 3, 4, 5, 6, 7, 10, 11, 12, 13] rfl rfl rfl (by decide) (fun u_61 r8 H locs hpl hP hD hS => ?_)
              obtain ⟨b8, f8, N8, s8⟩ := u_61
              have hP : va_P G.1 vwCl [(rp, .inr (12, [.int (iz (sp)), .ref bp])), (bp, zaI (G.2 1) Np (fp)), (r2, .inr (12, [.int (iz (s2)), .ref b2])), (b2, zaI (G.2 1) N2 (f2)), (rs, .inr (12, [.int (iz (ss)), .ref bs])), (bs, zaI (G.2 1) Ns (fs)), (r4, .inr (12, [.int (iz (s4)), .ref b4])), (b4, zaI (G.2 1) N4 (f4)), (r3, .inr (12, [.int (iz (s3)), .ref b3])), (b3, zaI (G.2 1) N3 (f3)), (r6, .inr (12, [.int (iz (s6)), .ref b6])), (b6, zaI (G.2 1) N6 (f6)), (r8, .inr (12, [.int (iz (s8)), .ref b8])), (b8, zaI (G.2 1) N8 (f8))] H := hP
              have hD : va_D A [(rp, .inr (12, [.int (iz (sp)), .ref bp])), (bp, zaI (G.2 1) Np (fp)), (r2, .inr (12, [.int (iz (s2)), .ref b2])), (b2, zaI (G.2 1) N2 (f2)), (rs, .inr (12, [.int (iz (ss)), .ref bs])), (bs, zaI (G.2 1) Ns (fs)), (r4, .inr (12, [.int (iz (s4)), .ref b4])), (b4, zaI (G.2 1) N4 (f4)), (r3, .inr (12, [.int (iz (s3)), .ref b3])), (b3, zaI (G.2 1) N3 (f3)), (r6, .inr (12, [.int (iz (s6)), .ref b6])), (b6, zaI (G.2 1) N6 (f6)), (r8, .inr (12, [.int (iz (s8)), .ref b8])), (b8, zaI (G.2 1) N8 (f8))] := hD
              have hpl : tmw f8 N8 s8 ((zflow (100000 + po) 100000 (zbond cp fa pr.toNat) (i - 1).toNat * (100000 + po)) + (100000 ^ (i - 1).toNat * 100000 * yy)) := hpl
              refine lv_astore (lv' := [(6, .ref r8), (7, .ref r3), (8, .int (iz (i))), (0, .long (lz (cp))), (2, .long (lz (fa))), (4, .int (iz (pr))), (5, .int (iz (po)))]) hx hb dX12_priceTop_74 hl (by decide) rfl (fun ls hl => ?_)
              refine lv_iinc (v := iz (i + 1)) (lv' := [(8, .int (iz (i + 1))), (6, .ref r8), (7, .ref r3), (0, .long (lz (cp))), (2, .long (lz (fa))), (4, .int (iz (pr))), (5, .int (iz (po)))]) hx hb dX12_priceTop_76 hl (k := 2) rfl (by rw [show Int32.ofInt (1) = iz (1) from rfl, iz_add]) (by decide) rfl (fun ls hl => ?_)
              refine lv_goto (tgt := 14) hx hb dX12_priceTop_79 (by decide) ?_
              refine W.widen (k := 3 + 21 * ((i + 1) - 1).toNat) (n := 135 + 1900 * ((i + 1) - 1).toNat) (by omega) (by omega) ?_
              exact ih_14 (i + 1) r8 b8 f8 N8 s8 r3 b3 f3 N3 s3 _ _ _ (by omega) (by omega) (tpost hpl (zpt_step k1.1 hbd)) (tpost hp (zpt_pows k1.1)) (hP.sub [12, 13, 8, 9] rfl) (hD.sub [12, 13, 8, 9] (by decide) rfl) hS (hl)
            ·
              refine lv_lload_n hx hb dX12_priceTop_59 rfl (lv_at hl 4 rfl) ?_
              refine lv_goto (tgt := 64) hx hb dX12_priceTop_60 (by decide) ?_
              refine zr_ladd hx hb dX12_priceTop_64 ?_
              refine zr_namel (fun yy eyy => ?_)
              have hyr : 0 ≤ yy ∧ yy ≤ 2000000000 := by omega
              have hbd : yy = zbond cp fa pr.toNat (i).toNat := by rw [eyy]; first | exact zbond_eq (by omega) | exact zbond_ne (by omega)
              refine zc_r (wr := [(rp, .inr (12, [.int (iz (sp)), .ref bp])), (bp, zaI (G.2 1) Np (fp)), (r2, .inr (12, [.int (iz (s2)), .ref b2])), (b2, zaI (G.2 1) N2 (f2)), (r3, .inr (12, [.int (iz (s3)), .ref b3])), (b3, zaI (G.2 1) N3 (f3)), (rs, .inr (12, [.int (iz (ss)), .ref bs])), (bs, zaI (G.2 1) Ns (fs)), (r4, .inr (12, [.int (iz (s4)), .ref b4])), (b4, zaI (G.2 1) N4 (f4)), (r5, .inr (12, [.int (iz (s5)), .ref b5])), (b5, zaI (G.2 1) N5 (f5))]) (va_runS (As := [.long (lz (yy))]) (rest := [.ref r3, .ref r5]) ⟨hx, hb, hml, hown, hts⟩ (c_X11_of l G yy (by omega) H.size) (va_cwS 1 hts gX12_priceTop_X11_of rfl rfl rfl (by decide +kernel) ⟨Nat.le_of_ble_eq_true rfl, Nat.le_of_ble_eq_true rfl⟩) (zpS hKX hP hD [] rfl rfl) rfl rfl hl.1 rfl (lv_room (Nat.le_of_ble_eq_true rfl)) dX12_priceTop_65 ⟨(by first | exact Nat.le_of_ble_eq_true rfl | (show _ ≤ (870 : Nat); omega)), (by show _ ≤ (80000 : Nat); omega)⟩) hP hD hS hA [] [0, 1, 2, 3, 4, 5, 6, 7, 8, 9, 10, 11] rfl rfl rfl (by decide) (fun u_63 r6 H locs q6 hP hD hS => ?_)
              obtain ⟨b6, f6, N6, s6⟩ := u_63
              have hP : va_P G.1 vwCl [(rp, .inr (12, [.int (iz (sp)), .ref bp])), (bp, zaI (G.2 1) Np (fp)), (r2, .inr (12, [.int (iz (s2)), .ref b2])), (b2, zaI (G.2 1) N2 (f2)), (r3, .inr (12, [.int (iz (s3)), .ref b3])), (b3, zaI (G.2 1) N3 (f3)), (rs, .inr (12, [.int (iz (ss)), .ref bs])), (bs, zaI (G.2 1) Ns (fs)), (r4, .inr (12, [.int (iz (s4)), .ref b4])), (b4, zaI (G.2 1) N4 (f4)), (r5, .inr (12, [.int (iz (s5)), .ref b5])), (b5, zaI (G.2 1) N5 (f5)), (r6, .inr (12, [.int (iz (s6)), .ref b6])), (b6, zaI (G.2 1) N6 (f6))] H := hP
              have hD : va_D A [(rp, .inr (12, [.int (iz (sp)), .ref bp])), (bp, zaI (G.2 1) Np (fp)), (r2, .inr (12, [.int (iz (s2)), .ref b2])), (b2, zaI (G.2 1) N2 (f2)), (r3, .inr (12, [.int (iz (s3)), .ref b3])), (b3, zaI (G.2 1) N3 (f3)), (rs, .inr (12, [.int (iz (ss)), .ref bs])), (bs, zaI (G.2 1) Ns (fs)), (r4, .inr (12, [.int (iz (s4)), .ref b4])), (b4, zaI (G.2 1) N4 (f4)), (r5, .inr (12, [.int (iz (s5)), .ref b5])), (b5, zaI (G.2 1) N5 (f5)), (r6, .inr (12, [.int (iz (s6)), .ref b6])), (b6, zaI (G.2 1) N6 (f6))] := hD
              have q6 : tmw f6 N6 s6 yy := q6
              refine zc_r (wr := [(rp, .inr (12, [.int (iz (sp)), .ref bp])), (bp, zaI (G.2 1) Np (fp)), (r2, .inr (12, [.int (iz (s2)), .ref b2])), (b2, zaI (G.2 1) N2 (f2)), (rs, .inr (12, [.int (iz (ss)), .ref bs])), (bs, zaI (G.2 1) Ns (fs)), (r4, .inr (12, [.int (iz (s4)), .ref b4])), (b4, zaI (G.2 1) N4 (f4)), (r5, .inr (12, [.int (iz (s5)), .ref b5])), (b5, zaI (G.2 1) N5 (f5))]) (va_runV (As := [.ref r6]) (rest := [.ref r5]) ⟨hx, hb, hml, hown, hts⟩ (c_X11_times l G r3 b3 f3 N3 s3 r6 b6 f6 N6 s6 (100000 ^ (i - 1).toNat * 100000) yy (hp) (q6) ((zbig (zpw_rng2 ⟨by omega, by omega⟩) (zyy hyr)).1) H.size) (cwV 1 hts gX12_priceTop_X11_times rfl rfl rfl (by decide +kernel) ⟨Nat.le_of_ble_eq_true rfl, Nat.le_of_ble_eq_true rfl⟩) (zpV hKX hP hD [4, 5, 12, 13] rfl rfl 4 12 rfl rfl) rfl rfl hl.1 rfl (lv_room (Nat.le_of_ble_eq_true rfl)) dX12_priceTop_68 ⟨(by first | exact Nat.le_of_ble_eq_true rfl | (show _ ≤ (870 : Nat); omega)), (by show _ ≤ (80000 : Nat); omega)⟩) hP hD hS hA [4, 5, 12, 13] [0, 1, 2, 3, 6, 7, 8, 9, 10, 11] rfl rfl rfl (by decide) (fun u_65 r7 H locs hm hP hD hS => ?_)
              obtain ⟨b7, f7, N7, s7⟩ := u_65
              have hP : va_P G.1 vwCl [(rp, .inr (12, [.int (iz (sp)), .ref bp])), (bp, zaI (G.2 1) Np (fp)), (r2, .inr (12, [.int (iz (s2)), .ref b2])), (b2, zaI (G.2 1) N2 (f2)), (rs, .inr (12, [.int (iz (ss)), .ref bs])), (bs, zaI (G.2 1) Ns (fs)), (r4, .inr (12, [.int (iz (s4)), .ref b4])), (b4, zaI (G.2 1) N4 (f4)), (r5, .inr (12, [.int (iz (s5)), .ref b5])), (b5, zaI (G.2 1) N5 (f5)), (r3, .inr (12, [.int (iz (s3)), .ref b3])), (b3, zaI (G.2 1) N3 (f3)), (r6, .inr (12, [.int (iz (s6)), .ref b6])), (b6, zaI (G.2 1) N6 (f6)), (r7, .inr (12, [.int (iz (s7)), .ref b7])), (b7, zaI (G.2 1) N7 (f7))] H := hP
              have hD : va_D A [(rp, .inr (12, [.int (iz (sp)), .ref bp])), (bp, zaI (G.2 1) Np (fp)), (r2, .inr (12, [.int (iz (s2)), .ref b2])), (b2, zaI (G.2 1) N2 (f2)), (rs, .inr (12, [.int (iz (ss)), .ref bs])), (bs, zaI (G.2 1) Ns (fs)), (r4, .inr (12, [.int (iz (s4)), .ref b4])), (b4, zaI (G.2 1) N4 (f4)), (r5, .inr (12, [.int (iz (s5)), .ref b5])), (b5, zaI (G.2 1) N5 (f5)), (r3, .inr (12, [.int (iz (s3)), .ref b3])), (b3, zaI (G.2 1) N3 (f3)), (r6, .inr (12, [.int (iz (s6)), .ref b6])), (b6, zaI (G.2 1) N6 (f6)), (r7, .inr (12, [.int (iz (s7)), .ref b7])), (b7, zaI (G.2 1) N7 (f7))] := hD
              have hm : tmw f7 N7 s7 ((100000 ^ (i - 1).toNat * 100000) * yy) := hm
              refine zc_r (wr := [(rp, .inr (12, [.int (iz (sp)), .ref bp])), (bp, zaI (G.2 1) Np (fp)), (r2, .inr (12, [.int (iz (s2)), .ref b2])), (b2, zaI (G.2 1) N2 (f2)), (rs, .inr (12, [.int (iz (ss)), .ref bs])), (bs, zaI (G.2 1) Ns (fs)), (r4, .inr (12, [.int (iz (s4)), .ref b4])), (b4, zaI (G.2 1) N4 (f4)), (r3, .inr (12, [.int (iz (s3)), .ref b3])), (b3, zaI (G.2 1) N3 (f3)), (r6, .inr (12, [.int (iz (s6)), .ref b6])), (b6, zaI (G.2 1) N6 (f6))]) (va_runV (As := [.ref r7]) (rest := []) ⟨hx, hb, hml, hown, hts⟩ (c_X11_plus l G r5 b5 f5 N5 s5 r7 b7 f7 N7 s7 (zflow (100000 + po) 100000 (zbond cp fa pr.toNat) (i - 1).toNat * (100000 + po)) (100000 ^ (i - 1).toNat * 100000 * yy) (hs) (hm) (zbig_add (zbig (zpt_rng h1b h2 ⟨by omega, by omega⟩) (zrt h2)).2 (zbig (zpw_rng2 ⟨by omega, by omega⟩) (zyy hyr)).2) H.size) (cwV 1 hts gX12_priceTop_X11_plus rfl rfl rfl (by decide +kernel) ⟨Nat.le_of_ble_eq_true rfl, Nat.le_of_ble_eq_true rfl⟩) (zpV hKX hP hD [8, 9, 14, 15] rfl rfl 8 12 rfl rfl) rfl rfl hl.1 rfl (lv_room (Nat.le_of_ble_eq_true rfl)) dX12_priceTop_71 ⟨(by first | exact Nat.le_of_ble_eq_true rfl | (show _ ≤ (870 : Nat); omega)), (by show _ ≤ (80000 : Nat); omega)⟩) hP hD hS hA [8, 9, 14, 15] [0, 1, 2, 3, 4, 5, 6, 7, 10, 11, 12, 13] rfl rfl rfl (by decide) (fun u_67 r8 H locs hpl hP hD hS => ?_)
              obtain ⟨b8, f8, N8, s8⟩ := u_67
              have hP : va_P G.1 vwCl [(rp, .inr (12, [.int (iz (sp)), .ref bp])), (bp, zaI (G.2 1) Np (fp)), (r2, .inr (12, [.int (iz (s2)), .ref b2])), (b2, zaI (G.2 1) N2 (f2)), (rs, .inr (12, [.int (iz (ss)), .ref bs])), (bs, zaI (G.2 1) Ns (fs)), (r4, .inr (12, [.int (iz (s4)), .ref b4])), (b4, zaI (G.2 1) N4 (f4)), (r3, .inr (12, [.int (iz (s3)), .ref b3])), (b3, zaI (G.2 1) N3 (f3)), (r6, .inr (12, [.int (iz (s6)), .ref b6])), (b6, zaI (G.2 1) N6 (f6)), (r8, .inr (12, [.int (iz (s8)), .ref b8])), (b8, zaI (G.2 1) N8 (f8))] H := hP
              have hD : va_D A [(rp, .inr (12, [.int (iz (sp)), .ref bp])), (bp, zaI (G.2 1) Np (fp)), (r2, .inr (12, [.int (iz (s2)), .ref b2])), (b2, zaI (G.2 1) N2 (f2)), (rs, .inr (12, [.int (iz (ss)), .ref bs])), (bs, zaI (G.2 1) Ns (fs)), (r4, .inr (12, [.int (iz (s4)), .ref b4])), (b4, zaI (G.2 1) N4 (f4)), (r3, .inr (12, [.int (iz (s3)), .ref b3])), (b3, zaI (G.2 1) N3 (f3)), (r6, .inr (12, [.int (iz (s6)), .ref b6])), (b6, zaI (G.2 1) N6 (f6)), (r8, .inr (12, [.int (iz (s8)), .ref b8])), (b8, zaI (G.2 1) N8 (f8))] := hD
              have hpl : tmw f8 N8 s8 ((zflow (100000 + po) 100000 (zbond cp fa pr.toNat) (i - 1).toNat * (100000 + po)) + (100000 ^ (i - 1).toNat * 100000 * yy)) := hpl
              refine lv_astore (lv' := [(6, .ref r8), (7, .ref r3), (8, .int (iz (i))), (0, .long (lz (cp))), (2, .long (lz (fa))), (4, .int (iz (pr))), (5, .int (iz (po)))]) hx hb dX12_priceTop_74 hl (by decide) rfl (fun ls hl => ?_)
              refine lv_iinc (v := iz (i + 1)) (lv' := [(8, .int (iz (i + 1))), (6, .ref r8), (7, .ref r3), (0, .long (lz (cp))), (2, .long (lz (fa))), (4, .int (iz (pr))), (5, .int (iz (po)))]) hx hb dX12_priceTop_76 hl (k := 2) rfl (by rw [show Int32.ofInt (1) = iz (1) from rfl, iz_add]) (by decide) rfl (fun ls hl => ?_)
              refine lv_goto (tgt := 14) hx hb dX12_priceTop_79 (by decide) ?_
              refine W.widen (k := 3 + 21 * ((i + 1) - 1).toNat) (n := 135 + 1900 * ((i + 1) - 1).toNat) (by omega) (by omega) ?_
              exact ih_14 (i + 1) r8 b8 f8 N8 s8 r3 b3 f3 N3 s3 _ _ _ (by omega) (by omega) (tpost hpl (zpt_step k1.1 hbd)) (tpost hp (zpt_pows k1.1)) (hP.sub [12, 13, 8, 9] rfl) (hD.sub [12, 13, 8, 9] (by decide) rfl) hS (hl)
      refine W.widen (k := 3 + 21 * ((1 + 1 : Int) - 1).toNat) (n := 135 + 1900 * ((1 + 1 : Int) - 1).toNat) (by omega) (by omega) ?_
      exact hl_14 ((pr + 1 - (1 + 1) : Int).toNat + 1) (1 + 1) r8 b8 f8 N8 s8 r3 b3 f3 N3 s3 _ _ _ (Nat.lt_succ_self _) (by omega) (tpost hpl (zpt_first (by decide) hbd)) (tpost hp (zpt_pow1 (by decide))) (hP.sub [10, 11, 6, 7] rfl) (hD.sub [10, 11, 6, 7] (by decide) rfl) hS (hl)

def rm_c_X12_isCheap : Room := { frames := 4, cells := 1300, slots := 120000, locals := 96 }
theorem iw_X12_isCheap_X11 : ∀ w ∈ wsX110, w ∈ wsX12_isCheap := by decide +kernel
set_option maxHeartbeats 1000000 in
set_option maxRecDepth 100000 in
theorem c_X12_isCheap (l : Launch) (G : zG) (nA : Nat) (nB : Nat) (nE : Nat) (cp : Int) (fa : Int) (pr : Int) (po : Int) (mo : Int) (h1 : 0 ≤ cp ∧ cp ≤ 1000000000 ∧ 0 ≤ fa ∧ fa ≤ 1000000000 ∧ 1 ≤ pr ∧ pr ≤ 40) (h2 : 0 ≤ po ∧ po ≤ 20000) (h3 : 0 ≤ mo ∧ mo ≤ 1000000000000) : zMe l (zE G nA nB nE) G yX12_isCheap wsX12_isCheap rm_c_X12_isCheap [.long (lz (cp)), .long (lz (fa)), .int (iz (pr)), .int (iz (po)), .long (lz (mo))] [] (fun A => zQz G (fun (z : Bool) (_ : Unit) => z = zchb cp fa pr mo po) (fun (_ : Unit) => []) A) 1300 120000 := by
  refine zMe_of (cc := cX12_isCheap) (maxL := 8) (ret := (some .boolean)) (by decide) rfl (Nat.le_of_ble_eq_true rfl) ?_
  intro p e s m below meth c ls A Q hQ hx hb hr hts hown hlocks hml hnm hKX hE hP hD hA hS hl
  have hK := hKX.1
  have iwX11 := iw_X12_isCheap_X11
  obtain ⟨H, hH⟩ : ∃ h, h = s.heap := ⟨_, rfl⟩
  obtain ⟨locs, hlo⟩ : ∃ h : List Loc, h = [] := ⟨_, rfl⟩
  have hS : va_S A s.heap H locs := by rw [hH, hlo]; exact hS
  have hP : va_P G.1 vwCl [] H := by rw [hH]; exact hP
  have hD : va_D A [] := hD
  have hl : lv_has ls 8 [(0, .long (lz (cp))), (2, .long (lz (fa))), (4, .int (iz (pr))), (5, .int (iz (po))), (6, .long (lz (mo)))] := hl
  rw [← hH, ← hlo]
  have h1b : 0 ≤ cp ∧ cp ≤ 1000000000 ∧ 0 ≤ fa ∧ fa ≤ 1000000000 := ⟨h1.1, h1.2.1, h1.2.2.1, h1.2.2.2.1⟩
  have hup := zrate_pow h2 (show 0 ≤ pr ∧ pr ≤ 41 by omega)
  have hzr := zpt_rng (n := pr.toNat) h1b h2 (show 0 ≤ pr ∧ pr ≤ 41 by omega)
  have h8 : (10000 : Int) ^ 8 = 100000000000000000000000000000000 := by decide +kernel
  refine lv_lload_n hx hb dX12_isCheap_0 rfl (lv_at hl 0 rfl) ?_
  refine lv_lload_n hx hb dX12_isCheap_1 rfl (lv_at hl 1 rfl) ?_
  refine lv_iload hx hb dX12_isCheap_2 (lv_at hl 2 rfl) ?_
  refine lv_iload hx hb dX12_isCheap_4 (lv_at hl 3 rfl) ?_
  refine zc_r (wr := []) (va_runS (As := [.long (lz (cp)), .long (lz (fa)), .int (iz (pr)), .int (iz (po))]) (rest := []) ⟨hx, hb, hml, hown, hts⟩ (c_X12_priceTop l G nA nB nE cp fa pr po (by omega) (by omega) H.size) (va_cwS 4 hts gX12_isCheap_X12_priceTop rfl rfl rfl (by decide +kernel) ⟨Nat.le_of_ble_eq_true rfl, Nat.le_of_ble_eq_true rfl⟩) (zpSe zE_ok hE hS hA hKX hP hD [] rfl rfl) rfl rfl hl.1 rfl (lv_room (Nat.le_of_ble_eq_true rfl)) dX12_isCheap_6 ⟨(by first | exact Nat.le_of_ble_eq_true rfl | (show _ ≤ (1300 : Nat); omega)), (by show _ ≤ (120000 : Nat); omega)⟩) hP hD hS hA [] [] rfl rfl rfl (by decide) (fun u_1 r1 H locs q1 hP hD hS => ?_)
  obtain ⟨b1, f1, N1, s1⟩ := u_1
  have hP : va_P G.1 vwCl [(r1, .inr (12, [.int (iz (s1)), .ref b1])), (b1, zaI (G.2 1) N1 (f1))] H := hP
  have hD : va_D A [(r1, .inr (12, [.int (iz (s1)), .ref b1])), (b1, zaI (G.2 1) N1 (f1))] := hD
  have q1 : tmw f1 N1 s1 (zbt cp fa pr po) := q1
  refine zr_ldc2 (z := 100000) hx hb hown (hts (.constantLong RX12 145 (100000)) (by decide +kernel)) rfl dX12_isCheap_9 ?_
  refine lv_iload hx hb dX12_isCheap_12 (lv_at hl 3 rfl) ?_
  refine zr_i2l hx hb (x := po) (⟨by omega, by omega⟩) dX12_isCheap_14 ?_
  refine zr_ladd hx hb dX12_isCheap_15 ?_
  refine lv_iload hx hb dX12_isCheap_16 (lv_at hl 2 rfl) ?_
  refine zc_r (wr := [(r1, .inr (12, [.int (iz (s1)), .ref b1])), (b1, zaI (G.2 1) N1 (f1))]) (va_runS (As := [.long (lz (100000 + po)), .int (iz (pr))]) (rest := [.ref r1]) ⟨hx, hb, hml, hown, hts⟩ (c_X12_raised l G (100000 + po) pr (by omega) (by omega) (zup_100 hup) H.size) (va_cwS 2 hts gX12_isCheap_X12_raised rfl rfl rfl (by decide +kernel) ⟨Nat.le_of_ble_eq_true rfl, Nat.le_of_ble_eq_true rfl⟩) (zpS hKX hP hD [] rfl rfl) rfl rfl hl.1 rfl (lv_room (Nat.le_of_ble_eq_true rfl)) dX12_isCheap_18 ⟨(by first | exact Nat.le_of_ble_eq_true rfl | (show _ ≤ (1300 : Nat); omega)), (by show _ ≤ (120000 : Nat); omega)⟩) hP hD hS hA [] [0, 1] rfl rfl rfl (by decide) (fun u_3 r2 H locs q2 hP hD hS => ?_)
  obtain ⟨b2, f2, N2, s2⟩ := u_3
  have hP : va_P G.1 vwCl [(r1, .inr (12, [.int (iz (s1)), .ref b1])), (b1, zaI (G.2 1) N1 (f1)), (r2, .inr (12, [.int (iz (s2)), .ref b2])), (b2, zaI (G.2 1) N2 (f2))] H := hP
  have hD : va_D A [(r1, .inr (12, [.int (iz (s1)), .ref b1])), (b1, zaI (G.2 1) N1 (f1)), (r2, .inr (12, [.int (iz (s2)), .ref b2])), (b2, zaI (G.2 1) N2 (f2))] := hD
  have q2 : tmw f2 N2 s2 ((100000 + po) ^ pr.toNat) := q2
  refine lv_lload hx hb dX12_isCheap_21 (lv_at hl 4 rfl) ?_
  refine zc_r (wr := [(r1, .inr (12, [.int (iz (s1)), .ref b1])), (b1, zaI (G.2 1) N1 (f1)), (r2, .inr (12, [.int (iz (s2)), .ref b2])), (b2, zaI (G.2 1) N2 (f2))]) (va_runS (As := [.long (lz (mo))]) (rest := [.ref r2, .ref r1]) ⟨hx, hb, hml, hown, hts⟩ (c_X11_of l G mo (by omega) H.size) (va_cwS 1 hts gX12_isCheap_X11_of rfl rfl rfl (by decide +kernel) ⟨Nat.le_of_ble_eq_true rfl, Nat.le_of_ble_eq_true rfl⟩) (zpS hKX hP hD [] rfl rfl) rfl rfl hl.1 rfl (lv_room (Nat.le_of_ble_eq_true rfl)) dX12_isCheap_23 ⟨(by first | exact Nat.le_of_ble_eq_true rfl | (show _ ≤ (1300 : Nat); omega)), (by show _ ≤ (120000 : Nat); omega)⟩) hP hD hS hA [] [0, 1, 2, 3] rfl rfl rfl (by decide) (fun u_5 r3 H locs q3 hP hD hS => ?_)
  obtain ⟨b3, f3, N3, s3⟩ := u_5
  have hP : va_P G.1 vwCl [(r1, .inr (12, [.int (iz (s1)), .ref b1])), (b1, zaI (G.2 1) N1 (f1)), (r2, .inr (12, [.int (iz (s2)), .ref b2])), (b2, zaI (G.2 1) N2 (f2)), (r3, .inr (12, [.int (iz (s3)), .ref b3])), (b3, zaI (G.2 1) N3 (f3))] H := hP
  have hD : va_D A [(r1, .inr (12, [.int (iz (s1)), .ref b1])), (b1, zaI (G.2 1) N1 (f1)), (r2, .inr (12, [.int (iz (s2)), .ref b2])), (b2, zaI (G.2 1) N2 (f2)), (r3, .inr (12, [.int (iz (s3)), .ref b3])), (b3, zaI (G.2 1) N3 (f3))] := hD
  have q3 : tmw f3 N3 s3 mo := q3
  refine zc_r (wr := [(r1, .inr (12, [.int (iz (s1)), .ref b1])), (b1, zaI (G.2 1) N1 (f1))]) (va_runV (As := [.ref r3]) (rest := [.ref r1]) ⟨hx, hb, hml, hown, hts⟩ (c_X11_times l G r2 b2 f2 N2 s2 r3 b3 f3 N3 s3 ((100000 + po) ^ pr.toNat) mo (q2) (q3) ((zbig (zup_70 hup) ⟨by omega, by omega⟩).1) H.size) (cwV 1 hts gX12_isCheap_X11_times rfl rfl rfl (by decide +kernel) ⟨Nat.le_of_ble_eq_true rfl, Nat.le_of_ble_eq_true rfl⟩) (zpV hKX hP hD [2, 3, 4, 5] rfl rfl 2 12 rfl rfl) rfl rfl hl.1 rfl (lv_room (Nat.le_of_ble_eq_true rfl)) dX12_isCheap_26 ⟨(by first | exact Nat.le_of_ble_eq_true rfl | (show _ ≤ (1300 : Nat); omega)), (by show _ ≤ (120000 : Nat); omega)⟩) hP hD hS hA [2, 3, 4, 5] [0, 1] rfl rfl rfl (by decide) (fun u_7 r4 H locs q4 hP hD hS => ?_)
  obtain ⟨b4, f4, N4, s4⟩ := u_7
  have hP : va_P G.1 vwCl [(r1, .inr (12, [.int (iz (s1)), .ref b1])), (b1, zaI (G.2 1) N1 (f1)), (r2, .inr (12, [.int (iz (s2)), .ref b2])), (b2, zaI (G.2 1) N2 (f2)), (r3, .inr (12, [.int (iz (s3)), .ref b3])), (b3, zaI (G.2 1) N3 (f3)), (r4, .inr (12, [.int (iz (s4)), .ref b4])), (b4, zaI (G.2 1) N4 (f4))] H := hP
  have hD : va_D A [(r1, .inr (12, [.int (iz (s1)), .ref b1])), (b1, zaI (G.2 1) N1 (f1)), (r2, .inr (12, [.int (iz (s2)), .ref b2])), (b2, zaI (G.2 1) N2 (f2)), (r3, .inr (12, [.int (iz (s3)), .ref b3])), (b3, zaI (G.2 1) N3 (f3)), (r4, .inr (12, [.int (iz (s4)), .ref b4])), (b4, zaI (G.2 1) N4 (f4))] := hD
  have q4 : tmw f4 N4 s4 (((100000 + po) ^ pr.toNat) * mo) := q4
  refine zc_r (wr := [(r2, .inr (12, [.int (iz (s2)), .ref b2])), (b2, zaI (G.2 1) N2 (f2)), (r3, .inr (12, [.int (iz (s3)), .ref b3])), (b3, zaI (G.2 1) N3 (f3))]) (va_runV (As := [.ref r4]) (rest := []) ⟨hx, hb, hml, hown, hts⟩ (c_X11_less l G r1 b1 f1 N1 s1 r4 b4 f4 N4 s4 (zbt cp fa pr po) ((100000 + po) ^ pr.toNat * mo) (q1) (q4) (zbig_add (zbt_78 hzr) (zbig (zup_70 hup) ⟨by omega, by omega⟩).2) H.size) (cwV 1 hts gX12_isCheap_X11_less rfl rfl rfl (by decide +kernel) ⟨Nat.le_of_ble_eq_true rfl, Nat.le_of_ble_eq_true rfl⟩) (zpV hKX hP hD [0, 1, 6, 7] rfl rfl 0 12 rfl rfl) rfl rfl hl.1 rfl (lv_room (Nat.le_of_ble_eq_true rfl)) dX12_isCheap_29 ⟨(by first | exact Nat.le_of_ble_eq_true rfl | (show _ ≤ (1300 : Nat); omega)), (by show _ ≤ (120000 : Nat); omega)⟩) hP hD hS hA [0, 1, 6, 7] [2, 3, 4, 5] rfl rfl rfl (by decide) (fun u_9 r5 H locs q5 hP hD hS => ?_)
  obtain ⟨b5, f5, N5, s5⟩ := u_9
  have hP : va_P G.1 vwCl [(r2, .inr (12, [.int (iz (s2)), .ref b2])), (b2, zaI (G.2 1) N2 (f2)), (r3, .inr (12, [.int (iz (s3)), .ref b3])), (b3, zaI (G.2 1) N3 (f3)), (r5, .inr (12, [.int (iz (s5)), .ref b5])), (b5, zaI (G.2 1) N5 (f5))] H := hP
  have hD : va_D A [(r2, .inr (12, [.int (iz (s2)), .ref b2])), (b2, zaI (G.2 1) N2 (f2)), (r3, .inr (12, [.int (iz (s3)), .ref b3])), (b3, zaI (G.2 1) N3 (f3)), (r5, .inr (12, [.int (iz (s5)), .ref b5])), (b5, zaI (G.2 1) N5 (f5))] := hD
  have q5 : tmw f5 N5 s5 ((zbt cp fa pr po) - ((100000 + po) ^ pr.toNat * mo)) := q5
  have g5 := q5.sgi
  have e5 := q5.sgn
  refine va_getN (D := G.1) (host := "AnnuityHouseModel") (ci := 12) (v := .int (iz (s5))) (C := RX11) (T := TX11) (N := 2) hx hb hts iwX11 hown hK hP 4 rfl rfl 0 (by decide) (va_Nw.use rfl (hKX.2.2.2 (.fieldLinkNest "AnnuityHouseModel" 39 "AnnuityHouseModel$Whole" "sign" "I" "AnnuityHouseModel") (by decide +kernel))) (fun _ h9 => h9) rfl dX12_isCheap_32 ?_
  refine zr_if_gt (x := s5) (tgt := 42) hx hb (⟨by omega, by omega⟩) dX12_isCheap_35 (by decide) (fun h_11 => ?_) (fun h_11 => ?_)
  ·
    refine lv_iconst (v := iz (0)) hx hb dX12_isCheap_42 rfl ?_
    rw [hQ]
    exact zr_zret (z := false) (rfl) (u := ()) hx hb hr hlocks (hP.sub [] rfl) (hD.sub [] (by decide) rfl) hS (by first | exact Nat.le_of_ble_eq_true rfl | omega) (by first | exact Nat.le_of_ble_eq_true rfl | omega) dX12_isCheap_43 (show false = zchb cp fa pr mo po from by first | exact (zch_t e5 (by omega)).symm | exact (zch_f e5 (by omega)).symm)
  ·
    refine lv_iconst (v := iz (1)) hx hb dX12_isCheap_38 rfl ?_
    refine lv_goto (tgt := 43) hx hb dX12_isCheap_39 (by decide) ?_
    rw [hQ]
    exact zr_zret (z := true) (rfl) (u := ()) hx hb hr hlocks (hP.sub [] rfl) (hD.sub [] (by decide) rfl) hS (by first | exact Nat.le_of_ble_eq_true rfl | omega) (by first | exact Nat.le_of_ble_eq_true rfl | omega) dX12_isCheap_43 (show true = zchb cp fa pr mo po from by first | exact (zch_t e5 (by omega)).symm | exact (zch_f e5 (by omega)).symm)

def rm_c_X12_price_o : Room := { frames := 13, cells := 1400, slots := 130000, locals := 526 }
set_option maxHeartbeats 1000000 in
set_option maxRecDepth 100000 in
theorem c_X12_price_o (l : Launch) (G : zG) (nA : Nat) (nB : Nat) (nE : Nat) (x : Nat) (am : Nat) (tb : Nat) (lv : Nat) (wt : Nat) (bg : Nat) (pm : Nat) (th : Int) (cp : Int) (fa : Int) (pr : Int) (po : Int) (h0 : -9223372036854775808 ≤ cp ∧ cp < 9223372036854775808) (h01 : -9223372036854775808 ≤ fa ∧ fa < 9223372036854775808) (h02 : -2147483648 ≤ pr ∧ pr < 2147483648) (h03 : -2147483648 ≤ po ∧ po < 2147483648) (h1 : 0 ≤ cp ∧ cp ≤ 1000000000 ∧ 0 ≤ fa ∧ fa ≤ 1000000000 ∧ 1 ≤ pr ∧ pr ≤ 40 ∧ 0 ≤ po ∧ po ≤ 20000) : zMe l (zE G nA nB nE) G yX12_price wsX12_price rm_c_X12_price_o [.ref x, .long (lz (cp)), .long (lz (fa)), .int (iz (pr)), .int (iz (po))] [(x, .inr (13, [.int (iz (th)), .int (iz (6)), .ref am, .null, .ref tb, .ref lv, .int (iz (0)), .ref wt, .int (iz (0)), .ref bg, .ref pm, .int (iz (0))]))] (fun A => zQl G (fun (z : Int) (th2 : Int) => z = zr6 (zbt cp fa pr po) ((100000 + po) ^ pr.toNat) ∧ th2 = 0) (fun (th2 : Int) => [(x, .inr (13, [.int (iz (th2)), .int (iz (6)), .ref am, .null, .ref tb, .ref lv, .int (iz (0)), .ref wt, .int (iz (0)), .ref bg, .ref pm, .int (iz (0))]))]) A) 1400 130000 := by
  refine zMe_of (cc := cX12_price) (maxL := 9) (ret := (some .long)) (by decide) rfl (Nat.le_of_ble_eq_true rfl) ?_
  intro p e s m below meth c ls A Q hQ hx hb hr hts hown hlocks hml hnm hKX hE hP hD hA hS hl
  have hK := hKX.1
  obtain ⟨H, hH⟩ : ∃ h, h = s.heap := ⟨_, rfl⟩
  obtain ⟨locs, hlo⟩ : ∃ h : List Loc, h = [] := ⟨_, rfl⟩
  have hS : va_S A s.heap H locs := by rw [hH, hlo]; exact hS
  have hP : va_P G.1 vwCl [(x, .inr (13, [.int (iz (th)), .int (iz (6)), .ref am, .null, .ref tb, .ref lv, .int (iz (0)), .ref wt, .int (iz (0)), .ref bg, .ref pm, .int (iz (0))]))] H := by rw [hH]; exact hP
  have hD : va_D A [(x, .inr (13, [.int (iz (th)), .int (iz (6)), .ref am, .null, .ref tb, .ref lv, .int (iz (0)), .ref wt, .int (iz (0)), .ref bg, .ref pm, .int (iz (0))]))] := hD
  have hl : lv_has ls 9 [(0, .ref x), (1, .long (lz (cp))), (3, .long (lz (fa))), (5, .int (iz (pr))), (6, .int (iz (po)))] := hl
  rw [← hH, ← hlo]
  have h1b : 0 ≤ cp ∧ cp ≤ 1000000000 ∧ 0 ≤ fa ∧ fa ≤ 1000000000 := ⟨h1.1, h1.2.1, h1.2.2.1, h1.2.2.2.1⟩
  have h2 : 0 ≤ po ∧ po ≤ 20000 := by omega
  have hup := zrate_pow h2 (show 0 ≤ pr ∧ pr ≤ 41 by omega)
  have hzr := zpt_rng (n := pr.toNat) h1b h2 (show 0 ≤ pr ∧ pr ≤ 41 by omega)
  refine lv_lload_n hx hb dX12_price_0 rfl (lv_at hl 1 rfl) ?_
  refine lv_lload_n hx hb dX12_price_1 rfl (lv_at hl 2 rfl) ?_
  refine lv_iload hx hb dX12_price_2 (lv_at hl 3 rfl) ?_
  refine zc_z (wr := [(x, .inr (13, [.int (iz (th)), .int (iz (6)), .ref am, .null, .ref tb, .ref lv, .int (iz (0)), .ref wt, .int (iz (0)), .ref bg, .ref pm, .int (iz (0))]))]) (va_runS (As := [.long (lz (cp)), .long (lz (fa)), .int (iz (pr))]) (rest := []) ⟨hx, hb, hml, hown, hts⟩ (c_X12_isBond l G cp fa pr (by omega) (by omega) (by omega) H.size) (va_cwS 3 hts gX12_price_X12_isBond rfl rfl rfl (by decide +kernel) ⟨Nat.le_of_ble_eq_true rfl, Nat.le_of_ble_eq_true rfl⟩) (zpS hKX hP hD [] rfl rfl) rfl rfl hl.1 rfl (lv_room (Nat.le_of_ble_eq_true rfl)) dX12_price_4 ⟨(by first | exact Nat.le_of_ble_eq_true rfl | (show _ ≤ (1400 : Nat); omega)), (by show _ ≤ (130000 : Nat); omega)⟩) hP hD hS hA [] [0] rfl rfl rfl (by decide) (fun y1 u_1 H locs hy1 hP hD hS => ?_)
  have hP : va_P G.1 vwCl [(x, .inr (13, [.int (iz (th)), .int (iz (6)), .ref am, .null, .ref tb, .ref lv, .int (iz (0)), .ref wt, .int (iz (0)), .ref bg, .ref pm, .int (iz (0))]))] H := hP
  have hD : va_D A [(x, .inr (13, [.int (iz (th)), .int (iz (6)), .ref am, .null, .ref tb, .ref lv, .int (iz (0)), .ref wt, .int (iz (0)), .ref bg, .ref pm, .int (iz (0))]))] := hD
  have hy1 : y1 = decide (0 ≤ cp ∧ cp ≤ 1000000000 ∧ 0 ≤ fa ∧ fa ≤ 1000000000 ∧ 1 ≤ pr ∧ pr ≤ 40) := hy1
  rw [show y1 = true from hy1.trans (decide_eq_true (by omega))]
  refine zr_ifz_eq (tgt := 22) hx hb dX12_price_7 (by decide) (fun h_3 => ?_) (fun h_3 => ?_)
  · exact absurd h_3 (by decide)
  ·
    refine lv_iload hx hb dX12_price_10 (lv_at hl 4 rfl) ?_
    refine zc_z (wr := [(x, .inr (13, [.int (iz (th)), .int (iz (6)), .ref am, .null, .ref tb, .ref lv, .int (iz (0)), .ref wt, .int (iz (0)), .ref bg, .ref pm, .int (iz (0))]))]) (va_runS (As := [.int (iz (po))]) (rest := []) ⟨hx, hb, hml, hown, hts⟩ (c_X12_isRate l G po (by omega) H.size) (va_cwS 1 hts gX12_price_X12_isRate rfl rfl rfl (by decide +kernel) ⟨Nat.le_of_ble_eq_true rfl, Nat.le_of_ble_eq_true rfl⟩) (zpS hKX hP hD [] rfl rfl) rfl rfl hl.1 rfl (lv_room (Nat.le_of_ble_eq_true rfl)) dX12_price_12 ⟨(by first | exact Nat.le_of_ble_eq_true rfl | (show _ ≤ (1400 : Nat); omega)), (by show _ ≤ (130000 : Nat); omega)⟩) hP hD hS hA [] [0] rfl rfl rfl (by decide) (fun y2 u_4 H locs hy2 hP hD hS => ?_)
    have hP : va_P G.1 vwCl [(x, .inr (13, [.int (iz (th)), .int (iz (6)), .ref am, .null, .ref tb, .ref lv, .int (iz (0)), .ref wt, .int (iz (0)), .ref bg, .ref pm, .int (iz (0))]))] H := hP
    have hD : va_D A [(x, .inr (13, [.int (iz (th)), .int (iz (6)), .ref am, .null, .ref tb, .ref lv, .int (iz (0)), .ref wt, .int (iz (0)), .ref bg, .ref pm, .int (iz (0))]))] := hD
    have hy2 : y2 = decide (0 ≤ po ∧ po ≤ 20000) := hy2
    rw [show y2 = true from hy2.trans (decide_eq_true (by omega))]
    refine zr_ifz_eq (tgt := 22) hx hb dX12_price_15 (by decide) (fun h_6 => ?_) (fun h_6 => ?_)
    · exact absurd h_6 (by decide)
    ·
      refine lv_iconst (v := iz (1)) hx hb dX12_price_18 rfl ?_
      refine lv_goto (tgt := 23) hx hb dX12_price_19 (by decide) ?_
      refine lv_istore (lv' := [(7, .int (iz (1))), (0, .ref x), (1, .long (lz (cp))), (3, .long (lz (fa))), (5, .int (iz (pr))), (6, .int (iz (po)))]) hx hb dX12_price_23 hl (by decide) rfl (fun ls hl => ?_)
      refine lv_iload hx hb dX12_price_25 (lv_at hl 0 rfl) ?_
      refine zr_if_eq (x := 1) (tgt := 58) hx hb (⟨by omega, by omega⟩) dX12_price_27 (by decide) (fun h_7 => ?_) (fun h_7 => ?_)
      · exact absurd h_7 (by omega)
      ·
        refine lv_aload_n hx hb dX12_price_30 rfl (lv_at hl 1 rfl) ?_
        refine lv_lload_n hx hb dX12_price_31 rfl (lv_at hl 2 rfl) ?_
        refine lv_lload_n hx hb dX12_price_32 rfl (lv_at hl 3 rfl) ?_
        refine lv_iload hx hb dX12_price_33 (lv_at hl 4 rfl) ?_
        refine lv_iload hx hb dX12_price_35 (lv_at hl 5 rfl) ?_
        refine zc_r (wr := [(x, .inr (13, [.int (iz (th)), .int (iz (6)), .ref am, .null, .ref tb, .ref lv, .int (iz (0)), .ref wt, .int (iz (0)), .ref bg, .ref pm, .int (iz (0))]))]) (va_runS (As := [.long (lz (cp)), .long (lz (fa)), .int (iz (pr)), .int (iz (po))]) (rest := [.ref x]) ⟨hx, hb, hml, hown, hts⟩ (c_X12_priceTop l G nA nB nE cp fa pr po (by omega) (by omega) H.size) (va_cwS 4 hts gX12_price_X12_priceTop rfl rfl rfl (by decide +kernel) ⟨Nat.le_of_ble_eq_true rfl, Nat.le_of_ble_eq_true rfl⟩) (zpSe zE_ok hE hS hA hKX hP hD [] rfl rfl) rfl rfl hl.1 rfl (lv_room (Nat.le_of_ble_eq_true rfl)) dX12_price_37 ⟨(by first | exact Nat.le_of_ble_eq_true rfl | (show _ ≤ (1400 : Nat); omega)), (by show _ ≤ (130000 : Nat); omega)⟩) hP hD hS hA [] [0] rfl rfl rfl (by decide) (fun u_8 r1 H locs q1 hP hD hS => ?_)
        obtain ⟨b1, f1, N1, s1⟩ := u_8
        have hP : va_P G.1 vwCl [(x, .inr (13, [.int (iz (th)), .int (iz (6)), .ref am, .null, .ref tb, .ref lv, .int (iz (0)), .ref wt, .int (iz (0)), .ref bg, .ref pm, .int (iz (0))])), (r1, .inr (12, [.int (iz (s1)), .ref b1])), (b1, zaI (G.2 1) N1 (f1))] H := hP
        have hD : va_D A [(x, .inr (13, [.int (iz (th)), .int (iz (6)), .ref am, .null, .ref tb, .ref lv, .int (iz (0)), .ref wt, .int (iz (0)), .ref bg, .ref pm, .int (iz (0))])), (r1, .inr (12, [.int (iz (s1)), .ref b1])), (b1, zaI (G.2 1) N1 (f1))] := hD
        have q1 : tmw f1 N1 s1 (zbt cp fa pr po) := q1
        refine zr_ldc2 (z := 100000) hx hb hown (hts (.constantLong RX12 145 (100000)) (by decide +kernel)) rfl dX12_price_40 ?_
        refine lv_iload hx hb dX12_price_43 (lv_at hl 5 rfl) ?_
        refine zr_i2l hx hb (x := po) (⟨by omega, by omega⟩) dX12_price_45 ?_
        refine zr_ladd hx hb dX12_price_46 ?_
        refine lv_iload hx hb dX12_price_47 (lv_at hl 4 rfl) ?_
        refine zc_r (wr := [(x, .inr (13, [.int (iz (th)), .int (iz (6)), .ref am, .null, .ref tb, .ref lv, .int (iz (0)), .ref wt, .int (iz (0)), .ref bg, .ref pm, .int (iz (0))])), (r1, .inr (12, [.int (iz (s1)), .ref b1])), (b1, zaI (G.2 1) N1 (f1))]) (va_runS (As := [.long (lz (100000 + po)), .int (iz (pr))]) (rest := [.ref r1, .ref x]) ⟨hx, hb, hml, hown, hts⟩ (c_X12_raised l G (100000 + po) pr (by omega) (by omega) (zup_100 hup) H.size) (va_cwS 2 hts gX12_price_X12_raised rfl rfl rfl (by decide +kernel) ⟨Nat.le_of_ble_eq_true rfl, Nat.le_of_ble_eq_true rfl⟩) (zpS hKX hP hD [] rfl rfl) rfl rfl hl.1 rfl (lv_room (Nat.le_of_ble_eq_true rfl)) dX12_price_49 ⟨(by first | exact Nat.le_of_ble_eq_true rfl | (show _ ≤ (1400 : Nat); omega)), (by show _ ≤ (130000 : Nat); omega)⟩) hP hD hS hA [] [0, 1, 2] rfl rfl rfl (by decide) (fun u_10 r2 H locs q2 hP hD hS => ?_)
        obtain ⟨b2, f2, N2, s2⟩ := u_10
        have hP : va_P G.1 vwCl [(x, .inr (13, [.int (iz (th)), .int (iz (6)), .ref am, .null, .ref tb, .ref lv, .int (iz (0)), .ref wt, .int (iz (0)), .ref bg, .ref pm, .int (iz (0))])), (r1, .inr (12, [.int (iz (s1)), .ref b1])), (b1, zaI (G.2 1) N1 (f1)), (r2, .inr (12, [.int (iz (s2)), .ref b2])), (b2, zaI (G.2 1) N2 (f2))] H := hP
        have hD : va_D A [(x, .inr (13, [.int (iz (th)), .int (iz (6)), .ref am, .null, .ref tb, .ref lv, .int (iz (0)), .ref wt, .int (iz (0)), .ref bg, .ref pm, .int (iz (0))])), (r1, .inr (12, [.int (iz (s1)), .ref b1])), (b1, zaI (G.2 1) N1 (f1)), (r2, .inr (12, [.int (iz (s2)), .ref b2])), (b2, zaI (G.2 1) N2 (f2))] := hD
        have q2 : tmw f2 N2 s2 ((100000 + po) ^ pr.toNat) := q2
        refine zc_r (wr := []) (va_runV (As := [.ref r1, .ref r2]) (rest := []) ⟨hx, hb, hml, hown, hts⟩ (c_X12_rounded l G x th (.ref am) .null (.ref tb) (.ref lv) (.int (iz (0))) (.ref wt) (.int (iz (0))) (.ref bg) (.ref pm) (.int (iz (0))) r1 b1 f1 N1 s1 r2 b2 f2 N2 s2 (zbt cp fa pr po) ((100000 + po) ^ pr.toNat) (q1) (q2) (by omega) (zbt_120 hzr) (zup_120 hup) H.size) (cwV 2 hts gX12_price_X12_rounded rfl rfl rfl (by decide +kernel) ⟨Nat.le_of_ble_eq_true rfl, Nat.le_of_ble_eq_true rfl⟩) (zpV hKX hP hD [0, 1, 2, 3, 4] rfl rfl 0 13 rfl rfl) rfl rfl hl.1 rfl (lv_room (Nat.le_of_ble_eq_true rfl)) dX12_price_52 ⟨(by first | exact Nat.le_of_ble_eq_true rfl | (show _ ≤ (1400 : Nat); omega)), (by show _ ≤ (130000 : Nat); omega)⟩) hP hD hS hA [0, 1, 2, 3, 4] [] rfl rfl rfl (by decide) (fun u_12 r5 H locs q5 hP hD hS => ?_)
        obtain ⟨b5, f5, N5, s5⟩ := u_12
        have hP : va_P G.1 vwCl [(x, .inr (13, [.int (iz (th)), .int (iz (6)), .ref am, .null, .ref tb, .ref lv, .int (iz (0)), .ref wt, .int (iz (0)), .ref bg, .ref pm, .int (iz (0))])), (r5, .inr (12, [.int (iz (s5)), .ref b5])), (b5, zaI (G.2 1) N5 (f5))] H := hP
        have hD : va_D A [(x, .inr (13, [.int (iz (th)), .int (iz (6)), .ref am, .null, .ref tb, .ref lv, .int (iz (0)), .ref wt, .int (iz (0)), .ref bg, .ref pm, .int (iz (0))])), (r5, .inr (12, [.int (iz (s5)), .ref b5])), (b5, zaI (G.2 1) N5 (f5))] := hD
        have q5 : tmw f5 N5 s5 (zr6 (zbt cp fa pr po) ((100000 + po) ^ pr.toNat)) := q5
        refine lv_goto (tgt := 59) hx hb dX12_price_55 (by decide) ?_
        refine lv_astore (lv' := [(8, .ref r5), (7, .int (iz (1))), (0, .ref x), (1, .long (lz (cp))), (3, .long (lz (fa))), (5, .int (iz (pr))), (6, .int (iz (po)))]) hx hb dX12_price_59 hl (by decide) rfl (fun ls hl => ?_)
        refine lv_aload_n hx hb dX12_price_61 rfl (lv_at hl 2 rfl) ?_
        refine lv_iload hx hb dX12_price_62 (lv_at hl 1 rfl) ?_
        refine lv_aload hx hb dX12_price_64 (lv_at hl 0 rfl) ?_
        refine lv_ifnull hx hb dX12_price_66 ?_
        refine lv_iconst (v := iz (1)) hx hb dX12_price_69 rfl ?_
        refine lv_goto (tgt := 74) hx hb dX12_price_70 (by decide) ?_
        refine lv_iconst (v := iz (1)) hx hb dX12_price_74 rfl ?_
        refine zc_z (wr := [(r5, .inr (12, [.int (iz (s5)), .ref b5])), (b5, zaI (G.2 1) N5 (f5))]) (va_runV (As := [.int (iz (1)), .int (iz (1)), .int (iz (1))]) (rest := []) ⟨hx, hb, hml, hown, hts⟩ (c_X12_passes l G x th (.ref am) .null (.ref tb) (.ref lv) (.int (iz (0))) (.ref wt) (.int (iz (0))) (.ref bg) (.ref pm) (.int (iz (0))) 6 true true true  H.size) (cwV 3 hts gX12_price_X12_passes rfl rfl rfl (by decide +kernel) ⟨Nat.le_of_ble_eq_true rfl, Nat.le_of_ble_eq_true rfl⟩) (zpV hKX hP hD [0] rfl rfl 0 13 rfl rfl) rfl rfl hl.1 rfl (lv_room (Nat.le_of_ble_eq_true rfl)) dX12_price_75 ⟨(by first | exact Nat.le_of_ble_eq_true rfl | (show _ ≤ (1400 : Nat); omega)), (by show _ ≤ (130000 : Nat); omega)⟩) hP hD hS hA [0] [1, 2] rfl rfl rfl (by decide) (fun pz u_14 H locs hp hP hD hS => ?_)
        generalize u_14 = thp at hP hD hp
        have hP : va_P G.1 vwCl [(r5, .inr (12, [.int (iz (s5)), .ref b5])), (b5, zaI (G.2 1) N5 (f5)), (x, .inr (13, [.int (iz (thp)), .int (iz ((6 : Int))), .ref am, .null, .ref tb, .ref lv, .int (iz (0)), .ref wt, .int (iz (0)), .ref bg, .ref pm, .int (iz (0))]))] H := hP
        have hD : va_D A [(r5, .inr (12, [.int (iz (s5)), .ref b5])), (b5, zaI (G.2 1) N5 (f5)), (x, .inr (13, [.int (iz (thp)), .int (iz ((6 : Int))), .ref am, .null, .ref tb, .ref lv, .int (iz (0)), .ref wt, .int (iz (0)), .ref bg, .ref pm, .int (iz (0))]))] := hD
        have hp : pz = (true && true && true) ∧ thp = zcode true true true := hp
        rw [show pz = true from hp.1]
        have htp := hp.2
        refine zr_ifz_eq (tgt := 90) hx hb dX12_price_78 (by decide) (fun h_16 => ?_) (fun h_16 => ?_)
        · exact absurd h_16 (by decide)
        ·
          refine lv_aload_n hx hb dX12_price_81 rfl (lv_at hl 2 rfl) ?_
          refine lv_aload hx hb dX12_price_82 (lv_at hl 0 rfl) ?_
          refine zc_l (wr := []) (va_runV (As := [.ref r5]) (rest := []) ⟨hx, hb, hml, hown, hts⟩ (c_X12_tells l G x thp (.ref am) .null (.ref tb) (.ref lv) (.int (iz (0))) (.ref wt) (.int (iz (0))) (.ref bg) (.ref pm) (.int (iz (0))) r5 b5 f5 N5 s5 (zr6 (zbt cp fa pr po) ((100000 + po) ^ pr.toNat)) (q5) H.size) (cwV 1 hts gX12_price_X12_tells rfl rfl rfl (by decide +kernel) ⟨Nat.le_of_ble_eq_true rfl, Nat.le_of_ble_eq_true rfl⟩) (zpV hKX hP hD [2, 0, 1] rfl rfl 2 13 rfl rfl) rfl rfl hl.1 rfl (lv_room (Nat.le_of_ble_eq_true rfl)) dX12_price_84 ⟨(by first | exact Nat.le_of_ble_eq_true rfl | (show _ ≤ (1400 : Nat); omega)), (by show _ ≤ (130000 : Nat); omega)⟩) hP hD hS hA [2, 0, 1] [] rfl rfl rfl (by decide) (fun zz u_17 H locs hzz hP hD hS => ?_)
          have hP : va_P G.1 vwCl [(x, .inr (13, [.int (iz (thp)), .int (iz (6)), .ref am, .null, .ref tb, .ref lv, .int (iz (0)), .ref wt, .int (iz (0)), .ref bg, .ref pm, .int (iz (0))])), (r5, .inr (12, [.int (iz (s5)), .ref b5])), (b5, zaI (G.2 1) N5 (f5))] H := hP
          have hD : va_D A [(x, .inr (13, [.int (iz (thp)), .int (iz (6)), .ref am, .null, .ref tb, .ref lv, .int (iz (0)), .ref wt, .int (iz (0)), .ref bg, .ref pm, .int (iz (0))])), (r5, .inr (12, [.int (iz (s5)), .ref b5])), (b5, zaI (G.2 1) N5 (f5))] := hD
          have hzz : zz = (zr6 (zbt cp fa pr po) ((100000 + po) ^ pr.toNat)) := hzz
          refine lv_goto (tgt := 91) hx hb dX12_price_87 (by decide) ?_
          rw [hQ]
          exact zr_lret (z := zz) (u := (thp)) hx hb hr hlocks (hP.sub [0] rfl) (hD.sub [0] (by decide) rfl) hS (by first | exact Nat.le_of_ble_eq_true rfl | omega) (by first | exact Nat.le_of_ble_eq_true rfl | omega) dX12_price_91 (show zz = zr6 (zbt cp fa pr po) ((100000 + po) ^ pr.toNat) ∧ thp = 0 from ⟨hzz, htp⟩)

def rm_c_X12_price_x : Room := { frames := 2, cells := 0, slots := 0, locals := 49 }
set_option maxHeartbeats 1000000 in
set_option maxRecDepth 100000 in
theorem c_X12_price_x (l : Launch) (G : zG) (nA : Nat) (nB : Nat) (nE : Nat) (x : Nat) (am : Nat) (tb : Nat) (lv : Nat) (wt : Nat) (bg : Nat) (pm : Nat) (th : Int) (cp : Int) (fa : Int) (pr : Int) (po : Int) (h0 : -9223372036854775808 ≤ cp ∧ cp < 9223372036854775808) (h01 : -9223372036854775808 ≤ fa ∧ fa < 9223372036854775808) (h02 : -2147483648 ≤ pr ∧ pr < 2147483648) (h03 : -2147483648 ≤ po ∧ po < 2147483648) (h1 : ¬ (0 ≤ cp ∧ cp ≤ 1000000000 ∧ 0 ≤ fa ∧ fa ≤ 1000000000 ∧ 1 ≤ pr ∧ pr ≤ 40 ∧ 0 ≤ po ∧ po ≤ 20000)) : zMe l (zE G nA nB nE) G yX12_price wsX12_price rm_c_X12_price_x [.ref x, .long (lz (cp)), .long (lz (fa)), .int (iz (pr)), .int (iz (po))] [(x, .inr (13, [.int (iz (th)), .int (iz (6)), .ref am, .null, .ref tb, .ref lv, .int (iz (0)), .ref wt, .int (iz (0)), .ref bg, .ref pm, .int (iz (0))]))] (fun A => zQl G (fun (z : Int) (th2 : Int) => z = 0 ∧ th2 = 1) (fun (th2 : Int) => [(x, .inr (13, [.int (iz (th2)), .int (iz (6)), .ref am, .null, .ref tb, .ref lv, .int (iz (0)), .ref wt, .int (iz (0)), .ref bg, .ref pm, .int (iz (0))]))]) A) 0 0 := by
  refine zMe_of (cc := cX12_price) (maxL := 9) (ret := (some .long)) (by decide) rfl (Nat.le_of_ble_eq_true rfl) ?_
  intro p e s m below meth c ls A Q hQ hx hb hr hts hown hlocks hml hnm hKX hE hP hD hA hS hl
  have hK := hKX.1
  obtain ⟨H, hH⟩ : ∃ h, h = s.heap := ⟨_, rfl⟩
  obtain ⟨locs, hlo⟩ : ∃ h : List Loc, h = [] := ⟨_, rfl⟩
  have hS : va_S A s.heap H locs := by rw [hH, hlo]; exact hS
  have hP : va_P G.1 vwCl [(x, .inr (13, [.int (iz (th)), .int (iz (6)), .ref am, .null, .ref tb, .ref lv, .int (iz (0)), .ref wt, .int (iz (0)), .ref bg, .ref pm, .int (iz (0))]))] H := by rw [hH]; exact hP
  have hD : va_D A [(x, .inr (13, [.int (iz (th)), .int (iz (6)), .ref am, .null, .ref tb, .ref lv, .int (iz (0)), .ref wt, .int (iz (0)), .ref bg, .ref pm, .int (iz (0))]))] := hD
  have hl : lv_has ls 9 [(0, .ref x), (1, .long (lz (cp))), (3, .long (lz (fa))), (5, .int (iz (pr))), (6, .int (iz (po)))] := hl
  rw [← hH, ← hlo]
  refine lv_lload_n hx hb dX12_price_0 rfl (lv_at hl 1 rfl) ?_
  refine lv_lload_n hx hb dX12_price_1 rfl (lv_at hl 2 rfl) ?_
  refine lv_iload hx hb dX12_price_2 (lv_at hl 3 rfl) ?_
  refine zc_z (wr := [(x, .inr (13, [.int (iz (th)), .int (iz (6)), .ref am, .null, .ref tb, .ref lv, .int (iz (0)), .ref wt, .int (iz (0)), .ref bg, .ref pm, .int (iz (0))]))]) (va_runS (As := [.long (lz (cp)), .long (lz (fa)), .int (iz (pr))]) (rest := []) ⟨hx, hb, hml, hown, hts⟩ (c_X12_isBond l G cp fa pr (by omega) (by omega) (by omega) H.size) (va_cwS 3 hts gX12_price_X12_isBond rfl rfl rfl (by decide +kernel) ⟨Nat.le_of_ble_eq_true rfl, Nat.le_of_ble_eq_true rfl⟩) (zpS hKX hP hD [] rfl rfl) rfl rfl hl.1 rfl (lv_room (Nat.le_of_ble_eq_true rfl)) dX12_price_4 ⟨(by first | exact Nat.le_of_ble_eq_true rfl | (show _ ≤ (0 : Nat); omega)), (by first | exact Nat.le_of_ble_eq_true rfl | (show _ ≤ (0 : Nat); omega))⟩) hP hD hS hA [] [0] rfl rfl rfl (by decide) (fun y1 u_1 H locs hy1 hP hD hS => ?_)
  have hP : va_P G.1 vwCl [(x, .inr (13, [.int (iz (th)), .int (iz (6)), .ref am, .null, .ref tb, .ref lv, .int (iz (0)), .ref wt, .int (iz (0)), .ref bg, .ref pm, .int (iz (0))]))] H := hP
  have hD : va_D A [(x, .inr (13, [.int (iz (th)), .int (iz (6)), .ref am, .null, .ref tb, .ref lv, .int (iz (0)), .ref wt, .int (iz (0)), .ref bg, .ref pm, .int (iz (0))]))] := hD
  have hy1 : y1 = decide (0 ≤ cp ∧ cp ≤ 1000000000 ∧ 0 ≤ fa ∧ fa ≤ 1000000000 ∧ 1 ≤ pr ∧ pr ≤ 40) := hy1
  refine zr_ifz_eq (tgt := 22) hx hb dX12_price_7 (by decide) (fun h_3 => ?_) (fun h_3 => ?_)
  ·
    have hzy1 := of_decide_eq_false (hy1.symm.trans h_3)
    refine lv_iconst (v := iz (0)) hx hb dX12_price_22 rfl ?_
    refine lv_istore (lv' := [(7, .int (iz (0))), (0, .ref x), (1, .long (lz (cp))), (3, .long (lz (fa))), (5, .int (iz (pr))), (6, .int (iz (po)))]) hx hb dX12_price_23 hl (by decide) rfl (fun ls hl => ?_)
    refine lv_iload hx hb dX12_price_25 (lv_at hl 0 rfl) ?_
    refine zr_if_eq (x := 0) (tgt := 58) hx hb (⟨by omega, by omega⟩) dX12_price_27 (by decide) (fun h_4 => ?_) (fun h_4 => ?_)
    ·
      refine lv_null hx hb dX12_price_58 ?_
      refine lv_astoreN (lv' := [(8, .null), (7, .int (iz (0))), (0, .ref x), (1, .long (lz (cp))), (3, .long (lz (fa))), (5, .int (iz (pr))), (6, .int (iz (po)))]) hx hb dX12_price_59 hl (by decide) rfl (fun ls hl => ?_)
      refine lv_aload_n hx hb dX12_price_61 rfl (lv_at hl 2 rfl) ?_
      refine lv_iload hx hb dX12_price_62 (lv_at hl 1 rfl) ?_
      refine lv_aloadN hx hb dX12_price_64 (lv_at hl 0 rfl) ?_
      refine lv_ifnullN (tgt := 73) hx hb dX12_price_66 (by decide) ?_
      refine lv_iconst (v := iz (0)) hx hb dX12_price_73 rfl ?_
      refine lv_iconst (v := iz (1)) hx hb dX12_price_74 rfl ?_
      refine zc_z (wr := []) (va_runV (As := [.int (iz (0)), .int (iz (0)), .int (iz (1))]) (rest := []) ⟨hx, hb, hml, hown, hts⟩ (c_X12_passes l G x th (.ref am) .null (.ref tb) (.ref lv) (.int (iz (0))) (.ref wt) (.int (iz (0))) (.ref bg) (.ref pm) (.int (iz (0))) 6 false false true  H.size) (cwV 3 hts gX12_price_X12_passes rfl rfl rfl (by decide +kernel) ⟨Nat.le_of_ble_eq_true rfl, Nat.le_of_ble_eq_true rfl⟩) (zpV hKX hP hD [0] rfl rfl 0 13 rfl rfl) rfl rfl hl.1 rfl (lv_room (Nat.le_of_ble_eq_true rfl)) dX12_price_75 ⟨(by first | exact Nat.le_of_ble_eq_true rfl | (show _ ≤ (0 : Nat); omega)), (by first | exact Nat.le_of_ble_eq_true rfl | (show _ ≤ (0 : Nat); omega))⟩) hP hD hS hA [0] [] rfl rfl rfl (by decide) (fun pz u_5 H locs hp hP hD hS => ?_)
      generalize u_5 = thp at hP hD hp
      have hP : va_P G.1 vwCl [(x, .inr (13, [.int (iz (thp)), .int (iz ((6 : Int))), .ref am, .null, .ref tb, .ref lv, .int (iz (0)), .ref wt, .int (iz (0)), .ref bg, .ref pm, .int (iz (0))]))] H := hP
      have hD : va_D A [(x, .inr (13, [.int (iz (thp)), .int (iz ((6 : Int))), .ref am, .null, .ref tb, .ref lv, .int (iz (0)), .ref wt, .int (iz (0)), .ref bg, .ref pm, .int (iz (0))]))] := hD
      have hp : pz = (false && false && true) ∧ thp = zcode false false true := hp
      rw [show pz = false from hp.1]
      have htp := hp.2
      refine zr_ifz_eq (tgt := 90) hx hb dX12_price_78 (by decide) (fun h_7 => ?_) (fun h_7 => ?_)
      ·
        refine lv_lconst (v := lz (0)) hx hb dX12_price_90 rfl ?_
        rw [hQ]
        exact zr_lret (z := 0) (u := (thp)) hx hb hr hlocks hP hD hS (by first | exact Nat.le_of_ble_eq_true rfl | omega) (by first | exact Nat.le_of_ble_eq_true rfl | omega) dX12_price_91 (show 0 = 0 ∧ thp = 1 from ⟨rfl, htp⟩)
      · exact absurd h_7 (by decide)
    · exact absurd h_4 (by omega)
  ·
    have hzy1 := of_decide_eq_true (hy1.symm.trans h_3)
    refine lv_iload hx hb dX12_price_10 (lv_at hl 4 rfl) ?_
    refine zc_z (wr := [(x, .inr (13, [.int (iz (th)), .int (iz (6)), .ref am, .null, .ref tb, .ref lv, .int (iz (0)), .ref wt, .int (iz (0)), .ref bg, .ref pm, .int (iz (0))]))]) (va_runS (As := [.int (iz (po))]) (rest := []) ⟨hx, hb, hml, hown, hts⟩ (c_X12_isRate l G po (by omega) H.size) (va_cwS 1 hts gX12_price_X12_isRate rfl rfl rfl (by decide +kernel) ⟨Nat.le_of_ble_eq_true rfl, Nat.le_of_ble_eq_true rfl⟩) (zpS hKX hP hD [] rfl rfl) rfl rfl hl.1 rfl (lv_room (Nat.le_of_ble_eq_true rfl)) dX12_price_12 ⟨(by first | exact Nat.le_of_ble_eq_true rfl | (show _ ≤ (0 : Nat); omega)), (by first | exact Nat.le_of_ble_eq_true rfl | (show _ ≤ (0 : Nat); omega))⟩) hP hD hS hA [] [0] rfl rfl rfl (by decide) (fun y2 u_8 H locs hy2 hP hD hS => ?_)
    have hP : va_P G.1 vwCl [(x, .inr (13, [.int (iz (th)), .int (iz (6)), .ref am, .null, .ref tb, .ref lv, .int (iz (0)), .ref wt, .int (iz (0)), .ref bg, .ref pm, .int (iz (0))]))] H := hP
    have hD : va_D A [(x, .inr (13, [.int (iz (th)), .int (iz (6)), .ref am, .null, .ref tb, .ref lv, .int (iz (0)), .ref wt, .int (iz (0)), .ref bg, .ref pm, .int (iz (0))]))] := hD
    have hy2 : y2 = decide (0 ≤ po ∧ po ≤ 20000) := hy2
    refine zr_ifz_eq (tgt := 22) hx hb dX12_price_15 (by decide) (fun h_10 => ?_) (fun h_10 => ?_)
    ·
      have hzy2 := of_decide_eq_false (hy2.symm.trans h_10)
      refine lv_iconst (v := iz (0)) hx hb dX12_price_22 rfl ?_
      refine lv_istore (lv' := [(7, .int (iz (0))), (0, .ref x), (1, .long (lz (cp))), (3, .long (lz (fa))), (5, .int (iz (pr))), (6, .int (iz (po)))]) hx hb dX12_price_23 hl (by decide) rfl (fun ls hl => ?_)
      refine lv_iload hx hb dX12_price_25 (lv_at hl 0 rfl) ?_
      refine zr_if_eq (x := 0) (tgt := 58) hx hb (⟨by omega, by omega⟩) dX12_price_27 (by decide) (fun h_11 => ?_) (fun h_11 => ?_)
      ·
        refine lv_null hx hb dX12_price_58 ?_
        refine lv_astoreN (lv' := [(8, .null), (7, .int (iz (0))), (0, .ref x), (1, .long (lz (cp))), (3, .long (lz (fa))), (5, .int (iz (pr))), (6, .int (iz (po)))]) hx hb dX12_price_59 hl (by decide) rfl (fun ls hl => ?_)
        refine lv_aload_n hx hb dX12_price_61 rfl (lv_at hl 2 rfl) ?_
        refine lv_iload hx hb dX12_price_62 (lv_at hl 1 rfl) ?_
        refine lv_aloadN hx hb dX12_price_64 (lv_at hl 0 rfl) ?_
        refine lv_ifnullN (tgt := 73) hx hb dX12_price_66 (by decide) ?_
        refine lv_iconst (v := iz (0)) hx hb dX12_price_73 rfl ?_
        refine lv_iconst (v := iz (1)) hx hb dX12_price_74 rfl ?_
        refine zc_z (wr := []) (va_runV (As := [.int (iz (0)), .int (iz (0)), .int (iz (1))]) (rest := []) ⟨hx, hb, hml, hown, hts⟩ (c_X12_passes l G x th (.ref am) .null (.ref tb) (.ref lv) (.int (iz (0))) (.ref wt) (.int (iz (0))) (.ref bg) (.ref pm) (.int (iz (0))) 6 false false true  H.size) (cwV 3 hts gX12_price_X12_passes rfl rfl rfl (by decide +kernel) ⟨Nat.le_of_ble_eq_true rfl, Nat.le_of_ble_eq_true rfl⟩) (zpV hKX hP hD [0] rfl rfl 0 13 rfl rfl) rfl rfl hl.1 rfl (lv_room (Nat.le_of_ble_eq_true rfl)) dX12_price_75 ⟨(by first | exact Nat.le_of_ble_eq_true rfl | (show _ ≤ (0 : Nat); omega)), (by first | exact Nat.le_of_ble_eq_true rfl | (show _ ≤ (0 : Nat); omega))⟩) hP hD hS hA [0] [] rfl rfl rfl (by decide) (fun pz u_12 H locs hp hP hD hS => ?_)
        generalize u_12 = thp at hP hD hp
        have hP : va_P G.1 vwCl [(x, .inr (13, [.int (iz (thp)), .int (iz ((6 : Int))), .ref am, .null, .ref tb, .ref lv, .int (iz (0)), .ref wt, .int (iz (0)), .ref bg, .ref pm, .int (iz (0))]))] H := hP
        have hD : va_D A [(x, .inr (13, [.int (iz (thp)), .int (iz ((6 : Int))), .ref am, .null, .ref tb, .ref lv, .int (iz (0)), .ref wt, .int (iz (0)), .ref bg, .ref pm, .int (iz (0))]))] := hD
        have hp : pz = (false && false && true) ∧ thp = zcode false false true := hp
        rw [show pz = false from hp.1]
        have htp := hp.2
        refine zr_ifz_eq (tgt := 90) hx hb dX12_price_78 (by decide) (fun h_14 => ?_) (fun h_14 => ?_)
        ·
          refine lv_lconst (v := lz (0)) hx hb dX12_price_90 rfl ?_
          rw [hQ]
          exact zr_lret (z := 0) (u := (thp)) hx hb hr hlocks hP hD hS (by first | exact Nat.le_of_ble_eq_true rfl | omega) (by first | exact Nat.le_of_ble_eq_true rfl | omega) dX12_price_91 (show 0 = 0 ∧ thp = 1 from ⟨rfl, htp⟩)
        · exact absurd h_14 (by decide)
      · exact absurd h_11 (by omega)
    ·
      have hzy2 := of_decide_eq_true (hy2.symm.trans h_10)
      exact absurd h1 (by omega)

def rm_c_X12_bondYield_o : Room := { frames := 5, cells := 25000, slots := 2400000, locals := 123 }
set_option maxHeartbeats 1000000 in
set_option maxRecDepth 100000 in
theorem c_X12_bondYield_o (l : Launch) (G : zG) (nA : Nat) (nB : Nat) (nE : Nat) (x : Nat) (am : Nat) (tb : Nat) (lv : Nat) (wt : Nat) (bg : Nat) (pm : Nat) (th : Int) (cp : Int) (fa : Int) (pr : Int) (mo : Int) (h0 : -9223372036854775808 ≤ cp ∧ cp < 9223372036854775808) (h01 : -9223372036854775808 ≤ fa ∧ fa < 9223372036854775808) (h02 : -2147483648 ≤ pr ∧ pr < 2147483648) (h03 : -9223372036854775808 ≤ mo ∧ mo < 9223372036854775808) (h1 : 0 ≤ cp ∧ cp ≤ 1000000000 ∧ 0 ≤ fa ∧ fa ≤ 1000000000 ∧ 1 ≤ pr ∧ pr ≤ 40 ∧ 0 ≤ mo ∧ mo ≤ 1000000000000) : zMe l (zE G nA nB nE) G yX12_bondYield wsX12_bondYield rm_c_X12_bondYield_o [.ref x, .long (lz (cp)), .long (lz (fa)), .int (iz (pr)), .long (lz (mo))] [(x, .inr (13, [.int (iz (th)), .int (iz (6)), .ref am, .null, .ref tb, .ref lv, .int (iz (0)), .ref wt, .int (iz (0)), .ref bg, .ref pm, .int (iz (0))]))] (fun A => zQi G (fun (z : Int) (th2 : Int) => ((z = -1 ∧ ¬ zcheap cp fa pr mo (20000)) ∨ (0 ≤ z ∧ z ≤ 20000 ∧ zcheap cp fa pr mo (z) ∧ ∀ p : Int, 0 ≤ p → p < z → ¬ zcheap cp fa pr mo (p))) ∧ th2 = 0) (fun (th2 : Int) => [(x, .inr (13, [.int (iz (th2)), .int (iz (6)), .ref am, .null, .ref tb, .ref lv, .int (iz (0)), .ref wt, .int (iz (0)), .ref bg, .ref pm, .int (iz (0))]))]) A) 25000 2400000 := by
  refine zMe_of (cc := cX12_bondYield) (maxL := 12) (ret := (some .int)) (by decide) rfl (Nat.le_of_ble_eq_true rfl) ?_
  intro p e s m below meth c ls A Q hQ hx hb hr hts hown hlocks hml hnm hKX hE hP hD hA hS hl
  have hK := hKX.1
  obtain ⟨H, hH⟩ : ∃ h, h = s.heap := ⟨_, rfl⟩
  obtain ⟨locs, hlo⟩ : ∃ h : List Loc, h = [] := ⟨_, rfl⟩
  have hS : va_S A s.heap H locs := by rw [hH, hlo]; exact hS
  have hP : va_P G.1 vwCl [(x, .inr (13, [.int (iz (th)), .int (iz (6)), .ref am, .null, .ref tb, .ref lv, .int (iz (0)), .ref wt, .int (iz (0)), .ref bg, .ref pm, .int (iz (0))]))] H := by rw [hH]; exact hP
  have hD : va_D A [(x, .inr (13, [.int (iz (th)), .int (iz (6)), .ref am, .null, .ref tb, .ref lv, .int (iz (0)), .ref wt, .int (iz (0)), .ref bg, .ref pm, .int (iz (0))]))] := hD
  have hl : lv_has ls 12 [(0, .ref x), (1, .long (lz (cp))), (3, .long (lz (fa))), (5, .int (iz (pr))), (6, .long (lz (mo)))] := hl
  rw [← hH, ← hlo]
  have h1b : 0 ≤ cp ∧ cp ≤ 1000000000 ∧ 0 ≤ fa ∧ fa ≤ 1000000000 := ⟨h1.1, h1.2.1, h1.2.2.1, h1.2.2.2.1⟩
  refine lv_aload_n hx hb dX12_bondYield_0 rfl (lv_at hl 0 rfl) ?_
  refine lv_lload_n hx hb dX12_bondYield_1 rfl (lv_at hl 1 rfl) ?_
  refine lv_lload_n hx hb dX12_bondYield_2 rfl (lv_at hl 2 rfl) ?_
  refine lv_iload hx hb dX12_bondYield_3 (lv_at hl 3 rfl) ?_
  refine zc_z (wr := [(x, .inr (13, [.int (iz (th)), .int (iz (6)), .ref am, .null, .ref tb, .ref lv, .int (iz (0)), .ref wt, .int (iz (0)), .ref bg, .ref pm, .int (iz (0))]))]) (va_runS (As := [.long (lz (cp)), .long (lz (fa)), .int (iz (pr))]) (rest := [.ref x]) ⟨hx, hb, hml, hown, hts⟩ (c_X12_isBond l G cp fa pr (by omega) (by omega) (by omega) H.size) (va_cwS 3 hts gX12_bondYield_X12_isBond rfl rfl rfl (by decide +kernel) ⟨Nat.le_of_ble_eq_true rfl, Nat.le_of_ble_eq_true rfl⟩) (zpS hKX hP hD [] rfl rfl) rfl rfl hl.1 rfl (lv_room (Nat.le_of_ble_eq_true rfl)) dX12_bondYield_5 ⟨(by show _ ≤ (25000 : Nat); omega), (by show _ ≤ (2400000 : Nat); omega)⟩) hP hD hS hA [] [0] rfl rfl rfl (by decide) (fun y1 u_1 H locs hy1 hP hD hS => ?_)
  have hP : va_P G.1 vwCl [(x, .inr (13, [.int (iz (th)), .int (iz (6)), .ref am, .null, .ref tb, .ref lv, .int (iz (0)), .ref wt, .int (iz (0)), .ref bg, .ref pm, .int (iz (0))]))] H := hP
  have hD : va_D A [(x, .inr (13, [.int (iz (th)), .int (iz (6)), .ref am, .null, .ref tb, .ref lv, .int (iz (0)), .ref wt, .int (iz (0)), .ref bg, .ref pm, .int (iz (0))]))] := hD
  have hy1 : y1 = decide (0 ≤ cp ∧ cp ≤ 1000000000 ∧ 0 ≤ fa ∧ fa ≤ 1000000000 ∧ 1 ≤ pr ∧ pr ≤ 40) := hy1
  rw [show y1 = true from hy1.trans (decide_eq_true (by omega))]
  refine zr_ifz_eq (tgt := 27) hx hb dX12_bondYield_8 (by decide) (fun h_3 => ?_) (fun h_3 => ?_)
  · exact absurd h_3 (by decide)
  ·
    refine lv_lload hx hb dX12_bondYield_11 (lv_at hl 4 rfl) ?_
    refine lv_lconst (v := lz (0)) hx hb dX12_bondYield_13 rfl ?_
    refine zr_ldc2 (z := 1000000000000) hx hb hown (hts (.constantLong RX12 101 (1000000000000)) (by decide +kernel)) rfl dX12_bondYield_14 ?_
    refine zc_z (wr := [(x, .inr (13, [.int (iz (th)), .int (iz (6)), .ref am, .null, .ref tb, .ref lv, .int (iz (0)), .ref wt, .int (iz (0)), .ref bg, .ref pm, .int (iz (0))]))]) (va_runS (As := [.long (lz (mo)), .long (lz (0)), .long (lz (1000000000000))]) (rest := [.ref x]) ⟨hx, hb, hml, hown, hts⟩ (c_X12_in l G mo 0 1000000000000 (by omega) (by omega) (by omega) H.size) (va_cwS 3 hts gX12_bondYield_X12_in rfl rfl rfl (by decide +kernel) ⟨Nat.le_of_ble_eq_true rfl, Nat.le_of_ble_eq_true rfl⟩) (zpS hKX hP hD [] rfl rfl) rfl rfl hl.1 rfl (lv_room (Nat.le_of_ble_eq_true rfl)) dX12_bondYield_17 ⟨(by show _ ≤ (25000 : Nat); omega), (by show _ ≤ (2400000 : Nat); omega)⟩) hP hD hS hA [] [0] rfl rfl rfl (by decide) (fun y2 u_4 H locs hy2 hP hD hS => ?_)
    have hP : va_P G.1 vwCl [(x, .inr (13, [.int (iz (th)), .int (iz (6)), .ref am, .null, .ref tb, .ref lv, .int (iz (0)), .ref wt, .int (iz (0)), .ref bg, .ref pm, .int (iz (0))]))] H := hP
    have hD : va_D A [(x, .inr (13, [.int (iz (th)), .int (iz (6)), .ref am, .null, .ref tb, .ref lv, .int (iz (0)), .ref wt, .int (iz (0)), .ref bg, .ref pm, .int (iz (0))]))] := hD
    have hy2 : y2 = decide ((0 : Int) ≤ mo ∧ mo ≤ (1000000000000 : Int)) := hy2
    rw [show y2 = true from hy2.trans (decide_eq_true (by omega))]
    refine zr_ifz_eq (tgt := 27) hx hb dX12_bondYield_20 (by decide) (fun h_6 => ?_) (fun h_6 => ?_)
    · exact absurd h_6 (by decide)
    ·
      refine lv_iconst (v := iz (1)) hx hb dX12_bondYield_23 rfl ?_
      refine lv_goto (tgt := 28) hx hb dX12_bondYield_24 (by decide) ?_
      refine lv_iconst (v := iz (1)) hx hb dX12_bondYield_28 rfl ?_
      refine lv_iconst (v := iz (1)) hx hb dX12_bondYield_29 rfl ?_
      refine zc_z (wr := []) (va_runV (As := [.int (iz (1)), .int (iz (1)), .int (iz (1))]) (rest := []) ⟨hx, hb, hml, hown, hts⟩ (c_X12_passes l G x th (.ref am) .null (.ref tb) (.ref lv) (.int (iz (0))) (.ref wt) (.int (iz (0))) (.ref bg) (.ref pm) (.int (iz (0))) 6 true true true  H.size) (cwV 3 hts gX12_bondYield_X12_passes rfl rfl rfl (by decide +kernel) ⟨Nat.le_of_ble_eq_true rfl, Nat.le_of_ble_eq_true rfl⟩) (zpV hKX hP hD [0] rfl rfl 0 13 rfl rfl) rfl rfl hl.1 rfl (lv_room (Nat.le_of_ble_eq_true rfl)) dX12_bondYield_30 ⟨(by show _ ≤ (25000 : Nat); omega), (by show _ ≤ (2400000 : Nat); omega)⟩) hP hD hS hA [0] [] rfl rfl rfl (by decide) (fun pz u_7 H locs hp hP hD hS => ?_)
      generalize u_7 = thp at hP hD hp
      have hP : va_P G.1 vwCl [(x, .inr (13, [.int (iz (thp)), .int (iz ((6 : Int))), .ref am, .null, .ref tb, .ref lv, .int (iz (0)), .ref wt, .int (iz (0)), .ref bg, .ref pm, .int (iz (0))]))] H := hP
      have hD : va_D A [(x, .inr (13, [.int (iz (thp)), .int (iz ((6 : Int))), .ref am, .null, .ref tb, .ref lv, .int (iz (0)), .ref wt, .int (iz (0)), .ref bg, .ref pm, .int (iz (0))]))] := hD
      have hp : pz = (true && true && true) ∧ thp = zcode true true true := hp
      rw [show pz = true from hp.1]
      have htp := hp.2
      refine zr_ifz_ne (tgt := 38) hx hb dX12_bondYield_33 (by decide) (fun h_9 => ?_) (fun h_9 => ?_)
      ·
        refine lv_lload_n hx hb dX12_bondYield_38 rfl (lv_at hl 1 rfl) ?_
        refine lv_lload_n hx hb dX12_bondYield_39 rfl (lv_at hl 2 rfl) ?_
        refine lv_iload hx hb dX12_bondYield_40 (lv_at hl 3 rfl) ?_
        refine lv_sipush (v := iz (20000)) hx hb dX12_bondYield_42 rfl ?_
        refine lv_lload hx hb dX12_bondYield_45 (lv_at hl 4 rfl) ?_
        refine zc_z (wr := [(x, .inr (13, [.int (iz (thp)), .int (iz ((6 : Int))), .ref am, .null, .ref tb, .ref lv, .int (iz (0)), .ref wt, .int (iz (0)), .ref bg, .ref pm, .int (iz (0))]))]) (va_runS (As := [.long (lz (cp)), .long (lz (fa)), .int (iz (pr)), .int (iz (20000)), .long (lz (mo))]) (rest := []) ⟨hx, hb, hml, hown, hts⟩ (c_X12_isCheap l G nA nB nE cp fa pr 20000 mo (by omega) (by omega) (by omega) H.size) (va_cwS 5 hts gX12_bondYield_X12_isCheap rfl rfl rfl (by decide +kernel) ⟨Nat.le_of_ble_eq_true rfl, Nat.le_of_ble_eq_true rfl⟩) (zpSe zE_ok hE hS hA hKX hP hD [] rfl rfl) rfl rfl hl.1 rfl (lv_room (Nat.le_of_ble_eq_true rfl)) dX12_bondYield_47 ⟨(by show _ ≤ (25000 : Nat); omega), (by show _ ≤ (2400000 : Nat); omega)⟩) hP hD hS hA [] [0] rfl rfl rfl (by decide) (fun c1 u_10 H locs hc1 hP hD hS => ?_)
        have hP : va_P G.1 vwCl [(x, .inr (13, [.int (iz (thp)), .int (iz ((6 : Int))), .ref am, .null, .ref tb, .ref lv, .int (iz (0)), .ref wt, .int (iz (0)), .ref bg, .ref pm, .int (iz (0))]))] H := hP
        have hD : va_D A [(x, .inr (13, [.int (iz (thp)), .int (iz ((6 : Int))), .ref am, .null, .ref tb, .ref lv, .int (iz (0)), .ref wt, .int (iz (0)), .ref bg, .ref pm, .int (iz (0))]))] := hD
        have hc1 : c1 = zchb cp fa pr mo (20000 : Int) := hc1
        refine zr_ifz_ne (tgt := 55) hx hb dX12_bondYield_50 (by decide) (fun h_12 => ?_) (fun h_12 => ?_)
        ·
          have hcc : zcheap cp fa pr mo (20000) := zchb_t (hc1.symm.trans h_12)
          refine lv_iconst (v := iz (-1)) hx hb dX12_bondYield_55 rfl ?_
          refine lv_istore (lv' := [(8, .int (iz (-1))), (0, .ref x), (1, .long (lz (cp))), (3, .long (lz (fa))), (5, .int (iz (pr))), (6, .long (lz (mo)))]) hx hb dX12_bondYield_56 hl (by decide) rfl (fun ls hl => ?_)
          refine lv_sipush (v := iz (20000)) hx hb dX12_bondYield_58 rfl ?_
          refine lv_istore (lv' := [(9, .int (iz (20000))), (8, .int (iz (-1))), (0, .ref x), (1, .long (lz (cp))), (3, .long (lz (fa))), (5, .int (iz (pr))), (6, .long (lz (mo)))]) hx hb dX12_bondYield_61 hl (by decide) rfl (fun ls hl => ?_)
          have hl_63 : ∀ (zn_63 : Nat) (d : Int) (lo : Int) (hi : Int) (H : Heap) (locs : List Loc) (ls : Array Slot), (15 - d).toNat < zn_63 → (-1 ≤ lo ∧ lo < hi ∧ hi ≤ 20000) → (zcheap cp fa pr mo (hi)) → (lo = -1 ∨ ¬ zcheap cp fa pr mo (lo)) → (0 ≤ d ∧ d ≤ 15) → (hi - lo ≤ 2 ^ (15 - d).toNat) → va_P G.1 vwCl [(x, .inr (13, [.int (iz (thp)), .int (iz ((6 : Int))), .ref am, .null, .ref tb, .ref lv, .int (iz (0)), .ref wt, .int (iz (0)), .ref bg, .ref pm, .int (iz (0))]))] H → va_D A [(x, .inr (13, [.int (iz (thp)), .int (iz ((6 : Int))), .ref am, .null, .ref tb, .ref lv, .int (iz (0)), .ref wt, .int (iz (0)), .ref bg, .ref pm, .int (iz (0))]))] → va_S A s.heap H locs → lv_has ls 12 [(9, .int (iz (hi))), (8, .int (iz (lo))), (0, .ref x), (1, .long (lz (cp))), (3, .long (lz (fa))), (5, .int (iz (pr))), (6, .long (lz (mo)))] → W p l e rm_c_X12_bondYield_o s m ([.ref x, .long (lz (cp)), .long (lz (fa)), .int (iz (pr)), .long (lz (mo))] : List Value).toArray below meth c H locs (1300 + 1300 * (d).toNat) (120000 + 120000 * (d).toNat) Q (F0 m 63 ls []) := by
            intro zn_63
            induction zn_63 with
            | zero => intro d lo hi H locs ls hm; exact absurd hm (Nat.not_lt_zero _)
            | succ zn_63 ih_63 =>
              intro d lo hi H locs ls hm_63 k1 k2 k3 k4 k5 hP hD hS hl
              refine lv_iload hx hb dX12_bondYield_63 (lv_at hl 0 rfl) ?_
              refine lv_iload hx hb dX12_bondYield_65 (lv_at hl 1 rfl) ?_
              refine zr_isub hx hb dX12_bondYield_67 ?_
              refine lv_iconst (v := iz (1)) hx hb dX12_bondYield_68 rfl ?_
              refine zr_icmp_le (x := hi - lo) (y := 1) (tgt := 125) hx hb (⟨by omega, by omega⟩) (⟨by omega, by omega⟩) dX12_bondYield_69 (by decide) (fun h_13 => ?_) (fun h_13 => ?_)
              ·
                refine lv_iload hx hb dX12_bondYield_125 (lv_at hl 0 rfl) ?_
                rw [hQ]
                exact zr_iret (z := hi) (u := (thp)) hx hb hr hlocks hP hD hS (by first | exact Nat.le_of_ble_eq_true rfl | omega) (by first | exact Nat.le_of_ble_eq_true rfl | omega) dX12_bondYield_127 (show ((hi = -1 ∧ ¬ zcheap cp fa pr mo (20000)) ∨ (0 ≤ hi ∧ hi ≤ 20000 ∧ zcheap cp fa pr mo (hi) ∧ ∀ p : Int, 0 ≤ p → p < hi → ¬ zcheap cp fa pr mo (p))) ∧ thp = 0 from ⟨Or.inr (zby_end h1b k1 (by omega) k2 k3), htp⟩)
              ·
                refine lv_iload hx hb dX12_bondYield_72 (lv_at hl 1 rfl) ?_
                refine lv_iload hx hb dX12_bondYield_74 (lv_at hl 0 rfl) ?_
                refine zr_iadd hx hb dX12_bondYield_76 ?_
                refine lv_iconst (v := iz (2)) hx hb dX12_bondYield_77 rfl ?_
                refine zr_idiv hx hb (x := lo + hi) (y := 2) ⟨by omega, by omega⟩ ⟨by omega, by omega⟩ (by omega) (by omega) dX12_bondYield_78 ?_
                refine zr_namei (fun mid emid => ?_)
                refine lv_istore (lv' := [(10, .int (iz (mid))), (9, .int (iz (hi))), (8, .int (iz (lo))), (0, .ref x), (1, .long (lz (cp))), (3, .long (lz (fa))), (5, .int (iz (pr))), (6, .long (lz (mo)))]) hx hb dX12_bondYield_79 hl (by decide) rfl (fun ls hl => ?_)
                refine lv_lload_n hx hb dX12_bondYield_81 rfl (lv_at hl 4 rfl) ?_
                refine lv_lload_n hx hb dX12_bondYield_82 rfl (lv_at hl 5 rfl) ?_
                refine lv_iload hx hb dX12_bondYield_83 (lv_at hl 6 rfl) ?_
                refine lv_iload hx hb dX12_bondYield_85 (lv_at hl 0 rfl) ?_
                refine lv_lload hx hb dX12_bondYield_87 (lv_at hl 7 rfl) ?_
                refine zc_z (wr := [(x, .inr (13, [.int (iz (thp)), .int (iz ((6 : Int))), .ref am, .null, .ref tb, .ref lv, .int (iz (0)), .ref wt, .int (iz (0)), .ref bg, .ref pm, .int (iz (0))]))]) (va_runS (As := [.long (lz (cp)), .long (lz (fa)), .int (iz (pr)), .int (iz (mid)), .long (lz (mo))]) (rest := []) ⟨hx, hb, hml, hown, hts⟩ (c_X12_isCheap l G nA nB nE cp fa pr mid mo (by omega) (by omega) (by omega) H.size) (va_cwS 5 hts gX12_bondYield_X12_isCheap rfl rfl rfl (by decide +kernel) ⟨Nat.le_of_ble_eq_true rfl, Nat.le_of_ble_eq_true rfl⟩) (zpSe zE_ok hE hS hA hKX hP hD [] rfl rfl) rfl rfl hl.1 rfl (lv_room (Nat.le_of_ble_eq_true rfl)) dX12_bondYield_89 ⟨(by show _ ≤ (25000 : Nat); omega), (by show _ ≤ (2400000 : Nat); omega)⟩) hP hD hS hA [] [0] rfl rfl rfl (by decide) (fun c2 u_14 H locs hc2 hP hD hS => ?_)
                have hP : va_P G.1 vwCl [(x, .inr (13, [.int (iz (thp)), .int (iz ((6 : Int))), .ref am, .null, .ref tb, .ref lv, .int (iz (0)), .ref wt, .int (iz (0)), .ref bg, .ref pm, .int (iz (0))]))] H := hP
                have hD : va_D A [(x, .inr (13, [.int (iz (thp)), .int (iz ((6 : Int))), .ref am, .null, .ref tb, .ref lv, .int (iz (0)), .ref wt, .int (iz (0)), .ref bg, .ref pm, .int (iz (0))]))] := hD
                have hc2 : c2 = zchb cp fa pr mo mid := hc2
                refine lv_istore (lv' := [(11, .int (iz (zbb c2))), (10, .int (iz (mid))), (9, .int (iz (hi))), (8, .int (iz (lo))), (0, .ref x), (1, .long (lz (cp))), (3, .long (lz (fa))), (5, .int (iz (pr))), (6, .long (lz (mo)))]) hx hb dX12_bondYield_92 hl (by decide) rfl (fun ls hl => ?_)
                refine lv_iload hx hb dX12_bondYield_94 (lv_at hl 0 rfl) ?_
                refine zr_ifz_eq (tgt := 104) hx hb dX12_bondYield_96 (by decide) (fun h_16 => ?_) (fun h_16 => ?_)
                ·
                  have hm0 : ¬ zcheap cp fa pr mo (mid) := zchb_f (hc2.symm.trans h_16)
                  have e96 := h_16
                  refine lv_iload hx hb dX12_bondYield_104 (lv_at hl 2 rfl) ?_
                  refine lv_istore (lv' := [(9, .int (iz (hi))), (11, .int (iz (zbb c2))), (10, .int (iz (mid))), (8, .int (iz (lo))), (0, .ref x), (1, .long (lz (cp))), (3, .long (lz (fa))), (5, .int (iz (pr))), (6, .long (lz (mo)))]) hx hb dX12_bondYield_106 hl (by decide) rfl (fun ls hl => ?_)
                  refine lv_iload hx hb dX12_bondYield_108 (lv_at hl 1 rfl) ?_
                  refine zr_ifz_eq (tgt := 118) hx hb dX12_bondYield_110 (by decide) (fun h_17 => ?_) (fun h_17 => ?_)
                  ·
                    refine lv_iload hx hb dX12_bondYield_118 (lv_at hl 2 rfl) ?_
                    refine lv_istore (lv' := [(8, .int (iz (mid))), (9, .int (iz (hi))), (11, .int (iz (zbb c2))), (10, .int (iz (mid))), (0, .ref x), (1, .long (lz (cp))), (3, .long (lz (fa))), (5, .int (iz (pr))), (6, .long (lz (mo)))]) hx hb dX12_bondYield_120 hl (by decide) rfl (fun ls hl => ?_)
                    refine lv_goto (tgt := 63) hx hb dX12_bondYield_122 (by decide) ?_
                    have hh := zhalf (y := hi - mid) k4 k5 (by omega) (by omega)
                    refine W.widen (k := 1300 + 1300 * ((d + 1)).toNat) (n := 120000 + 120000 * ((d + 1)).toNat) (by omega) (by omega) ?_
                    exact ih_63 (d + 1) mid hi _ _ _ (by omega) (by omega) (by first | exact hm1 | exact k2) (by first | exact Or.inr hm0 | exact k3) (by omega) (hh.1) (hP) (hD) hS (lv_sub hl [1, 0, 4, 5, 6, 7, 8] rfl)
                  · exact absurd h_17 (by rw [e96]; decide)
                ·
                  have hm1 : zcheap cp fa pr mo (mid) := zchb_t (hc2.symm.trans h_16)
                  have e96 := h_16
                  refine lv_iload hx hb dX12_bondYield_99 (lv_at hl 1 rfl) ?_
                  refine lv_goto (tgt := 106) hx hb dX12_bondYield_101 (by decide) ?_
                  refine lv_istore (lv' := [(9, .int (iz (mid))), (11, .int (iz (zbb c2))), (10, .int (iz (mid))), (8, .int (iz (lo))), (0, .ref x), (1, .long (lz (cp))), (3, .long (lz (fa))), (5, .int (iz (pr))), (6, .long (lz (mo)))]) hx hb dX12_bondYield_106 hl (by decide) rfl (fun ls hl => ?_)
                  refine lv_iload hx hb dX12_bondYield_108 (lv_at hl 1 rfl) ?_
                  refine zr_ifz_eq (tgt := 118) hx hb dX12_bondYield_110 (by decide) (fun h_18 => ?_) (fun h_18 => ?_)
                  · exact absurd h_18 (by rw [e96]; decide)
                  ·
                    refine lv_iload hx hb dX12_bondYield_113 (lv_at hl 3 rfl) ?_
                    refine lv_goto (tgt := 120) hx hb dX12_bondYield_115 (by decide) ?_
                    refine lv_istore (lv' := [(8, .int (iz (lo))), (9, .int (iz (mid))), (11, .int (iz (zbb c2))), (10, .int (iz (mid))), (0, .ref x), (1, .long (lz (cp))), (3, .long (lz (fa))), (5, .int (iz (pr))), (6, .long (lz (mo)))]) hx hb dX12_bondYield_120 hl (by decide) rfl (fun ls hl => ?_)
                    refine lv_goto (tgt := 63) hx hb dX12_bondYield_122 (by decide) ?_
                    have hh := zhalf (y := mid - lo) k4 k5 (by omega) (by omega)
                    refine W.widen (k := 1300 + 1300 * ((d + 1)).toNat) (n := 120000 + 120000 * ((d + 1)).toNat) (by omega) (by omega) ?_
                    exact ih_63 (d + 1) lo mid _ _ _ (by omega) (by omega) (by first | exact hm1 | exact k2) (by first | exact Or.inr hm0 | exact k3) (by omega) (hh.1) (hP) (hD) hS (lv_sub hl [1, 0, 4, 5, 6, 7, 8] rfl)
          refine W.widen (k := 1300 + 1300 * ((0 : Int)).toNat) (n := 120000 + 120000 * ((0 : Int)).toNat) (by omega) (by omega) ?_
          exact hl_63 ((15 - 0 : Int).toNat + 1) 0 (-1) 20000 _ _ _ (Nat.lt_succ_self _) (by omega) (hcc) (Or.inl rfl) (by omega) (by decide) (hP) (hD) hS (hl)
        ·
          have hcn : ¬ zcheap cp fa pr mo (20000) := zchb_f (hc1.symm.trans h_12)
          refine lv_iconst (v := iz (-1)) hx hb dX12_bondYield_53 rfl ?_
          rw [hQ]
          exact zr_iret (z := -1) (u := (thp)) hx hb hr hlocks hP hD hS (by first | exact Nat.le_of_ble_eq_true rfl | omega) (by first | exact Nat.le_of_ble_eq_true rfl | omega) dX12_bondYield_54 (show (((-1) = -1 ∧ ¬ zcheap cp fa pr mo (20000)) ∨ (0 ≤ (-1) ∧ (-1) ≤ 20000 ∧ zcheap cp fa pr mo ((-1)) ∧ ∀ p : Int, 0 ≤ p → p < (-1) → ¬ zcheap cp fa pr mo (p))) ∧ thp = 0 from ⟨Or.inl ⟨rfl, hcn⟩, htp⟩)
      · exact absurd h_9 (by decide)

def rm_c_X12_bondYield_x : Room := { frames := 2, cells := 0, slots := 0, locals := 49 }
set_option maxHeartbeats 1000000 in
set_option maxRecDepth 100000 in
theorem c_X12_bondYield_x (l : Launch) (G : zG) (nA : Nat) (nB : Nat) (nE : Nat) (x : Nat) (am : Nat) (tb : Nat) (lv : Nat) (wt : Nat) (bg : Nat) (pm : Nat) (th : Int) (cp : Int) (fa : Int) (pr : Int) (mo : Int) (h0 : -9223372036854775808 ≤ cp ∧ cp < 9223372036854775808) (h01 : -9223372036854775808 ≤ fa ∧ fa < 9223372036854775808) (h02 : -2147483648 ≤ pr ∧ pr < 2147483648) (h03 : -9223372036854775808 ≤ mo ∧ mo < 9223372036854775808) (h1 : ¬ (0 ≤ cp ∧ cp ≤ 1000000000 ∧ 0 ≤ fa ∧ fa ≤ 1000000000 ∧ 1 ≤ pr ∧ pr ≤ 40 ∧ 0 ≤ mo ∧ mo ≤ 1000000000000)) : zMe l (zE G nA nB nE) G yX12_bondYield wsX12_bondYield rm_c_X12_bondYield_x [.ref x, .long (lz (cp)), .long (lz (fa)), .int (iz (pr)), .long (lz (mo))] [(x, .inr (13, [.int (iz (th)), .int (iz (6)), .ref am, .null, .ref tb, .ref lv, .int (iz (0)), .ref wt, .int (iz (0)), .ref bg, .ref pm, .int (iz (0))]))] (fun A => zQi G (fun (z : Int) (th2 : Int) => z = 0 ∧ th2 = 1) (fun (th2 : Int) => [(x, .inr (13, [.int (iz (th2)), .int (iz (6)), .ref am, .null, .ref tb, .ref lv, .int (iz (0)), .ref wt, .int (iz (0)), .ref bg, .ref pm, .int (iz (0))]))]) A) 0 0 := by
  refine zMe_of (cc := cX12_bondYield) (maxL := 12) (ret := (some .int)) (by decide) rfl (Nat.le_of_ble_eq_true rfl) ?_
  intro p e s m below meth c ls A Q hQ hx hb hr hts hown hlocks hml hnm hKX hE hP hD hA hS hl
  have hK := hKX.1
  obtain ⟨H, hH⟩ : ∃ h, h = s.heap := ⟨_, rfl⟩
  obtain ⟨locs, hlo⟩ : ∃ h : List Loc, h = [] := ⟨_, rfl⟩
  have hS : va_S A s.heap H locs := by rw [hH, hlo]; exact hS
  have hP : va_P G.1 vwCl [(x, .inr (13, [.int (iz (th)), .int (iz (6)), .ref am, .null, .ref tb, .ref lv, .int (iz (0)), .ref wt, .int (iz (0)), .ref bg, .ref pm, .int (iz (0))]))] H := by rw [hH]; exact hP
  have hD : va_D A [(x, .inr (13, [.int (iz (th)), .int (iz (6)), .ref am, .null, .ref tb, .ref lv, .int (iz (0)), .ref wt, .int (iz (0)), .ref bg, .ref pm, .int (iz (0))]))] := hD
  have hl : lv_has ls 12 [(0, .ref x), (1, .long (lz (cp))), (3, .long (lz (fa))), (5, .int (iz (pr))), (6, .long (lz (mo)))] := hl
  rw [← hH, ← hlo]
  refine lv_aload_n hx hb dX12_bondYield_0 rfl (lv_at hl 0 rfl) ?_
  refine lv_lload_n hx hb dX12_bondYield_1 rfl (lv_at hl 1 rfl) ?_
  refine lv_lload_n hx hb dX12_bondYield_2 rfl (lv_at hl 2 rfl) ?_
  refine lv_iload hx hb dX12_bondYield_3 (lv_at hl 3 rfl) ?_
  refine zc_z (wr := [(x, .inr (13, [.int (iz (th)), .int (iz (6)), .ref am, .null, .ref tb, .ref lv, .int (iz (0)), .ref wt, .int (iz (0)), .ref bg, .ref pm, .int (iz (0))]))]) (va_runS (As := [.long (lz (cp)), .long (lz (fa)), .int (iz (pr))]) (rest := [.ref x]) ⟨hx, hb, hml, hown, hts⟩ (c_X12_isBond l G cp fa pr (by omega) (by omega) (by omega) H.size) (va_cwS 3 hts gX12_bondYield_X12_isBond rfl rfl rfl (by decide +kernel) ⟨Nat.le_of_ble_eq_true rfl, Nat.le_of_ble_eq_true rfl⟩) (zpS hKX hP hD [] rfl rfl) rfl rfl hl.1 rfl (lv_room (Nat.le_of_ble_eq_true rfl)) dX12_bondYield_5 ⟨(by first | exact Nat.le_of_ble_eq_true rfl | (show _ ≤ (0 : Nat); omega)), (by first | exact Nat.le_of_ble_eq_true rfl | (show _ ≤ (0 : Nat); omega))⟩) hP hD hS hA [] [0] rfl rfl rfl (by decide) (fun y1 u_1 H locs hy1 hP hD hS => ?_)
  have hP : va_P G.1 vwCl [(x, .inr (13, [.int (iz (th)), .int (iz (6)), .ref am, .null, .ref tb, .ref lv, .int (iz (0)), .ref wt, .int (iz (0)), .ref bg, .ref pm, .int (iz (0))]))] H := hP
  have hD : va_D A [(x, .inr (13, [.int (iz (th)), .int (iz (6)), .ref am, .null, .ref tb, .ref lv, .int (iz (0)), .ref wt, .int (iz (0)), .ref bg, .ref pm, .int (iz (0))]))] := hD
  have hy1 : y1 = decide (0 ≤ cp ∧ cp ≤ 1000000000 ∧ 0 ≤ fa ∧ fa ≤ 1000000000 ∧ 1 ≤ pr ∧ pr ≤ 40) := hy1
  refine zr_ifz_eq (tgt := 27) hx hb dX12_bondYield_8 (by decide) (fun h_3 => ?_) (fun h_3 => ?_)
  ·
    have hzy1 := of_decide_eq_false (hy1.symm.trans h_3)
    refine lv_iconst (v := iz (0)) hx hb dX12_bondYield_27 rfl ?_
    refine lv_iconst (v := iz (1)) hx hb dX12_bondYield_28 rfl ?_
    refine lv_iconst (v := iz (1)) hx hb dX12_bondYield_29 rfl ?_
    refine zc_z (wr := []) (va_runV (As := [.int (iz (0)), .int (iz (1)), .int (iz (1))]) (rest := []) ⟨hx, hb, hml, hown, hts⟩ (c_X12_passes l G x th (.ref am) .null (.ref tb) (.ref lv) (.int (iz (0))) (.ref wt) (.int (iz (0))) (.ref bg) (.ref pm) (.int (iz (0))) 6 false true true  H.size) (cwV 3 hts gX12_bondYield_X12_passes rfl rfl rfl (by decide +kernel) ⟨Nat.le_of_ble_eq_true rfl, Nat.le_of_ble_eq_true rfl⟩) (zpV hKX hP hD [0] rfl rfl 0 13 rfl rfl) rfl rfl hl.1 rfl (lv_room (Nat.le_of_ble_eq_true rfl)) dX12_bondYield_30 ⟨(by first | exact Nat.le_of_ble_eq_true rfl | (show _ ≤ (0 : Nat); omega)), (by first | exact Nat.le_of_ble_eq_true rfl | (show _ ≤ (0 : Nat); omega))⟩) hP hD hS hA [0] [] rfl rfl rfl (by decide) (fun pz u_4 H locs hp hP hD hS => ?_)
    generalize u_4 = thp at hP hD hp
    have hP : va_P G.1 vwCl [(x, .inr (13, [.int (iz (thp)), .int (iz ((6 : Int))), .ref am, .null, .ref tb, .ref lv, .int (iz (0)), .ref wt, .int (iz (0)), .ref bg, .ref pm, .int (iz (0))]))] H := hP
    have hD : va_D A [(x, .inr (13, [.int (iz (thp)), .int (iz ((6 : Int))), .ref am, .null, .ref tb, .ref lv, .int (iz (0)), .ref wt, .int (iz (0)), .ref bg, .ref pm, .int (iz (0))]))] := hD
    have hp : pz = (false && true && true) ∧ thp = zcode false true true := hp
    rw [show pz = false from hp.1]
    have htp := hp.2
    refine zr_ifz_ne (tgt := 38) hx hb dX12_bondYield_33 (by decide) (fun h_6 => ?_) (fun h_6 => ?_)
    · exact absurd h_6 (by decide)
    ·
      refine lv_iconst (v := iz (0)) hx hb dX12_bondYield_36 rfl ?_
      rw [hQ]
      exact zr_iret (z := 0) (u := (thp)) hx hb hr hlocks hP hD hS (by first | exact Nat.le_of_ble_eq_true rfl | omega) (by first | exact Nat.le_of_ble_eq_true rfl | omega) dX12_bondYield_37 (show 0 = 0 ∧ thp = 1 from ⟨rfl, htp⟩)
  ·
    have hzy1 := of_decide_eq_true (hy1.symm.trans h_3)
    refine lv_lload hx hb dX12_bondYield_11 (lv_at hl 4 rfl) ?_
    refine lv_lconst (v := lz (0)) hx hb dX12_bondYield_13 rfl ?_
    refine zr_ldc2 (z := 1000000000000) hx hb hown (hts (.constantLong RX12 101 (1000000000000)) (by decide +kernel)) rfl dX12_bondYield_14 ?_
    refine zc_z (wr := [(x, .inr (13, [.int (iz (th)), .int (iz (6)), .ref am, .null, .ref tb, .ref lv, .int (iz (0)), .ref wt, .int (iz (0)), .ref bg, .ref pm, .int (iz (0))]))]) (va_runS (As := [.long (lz (mo)), .long (lz (0)), .long (lz (1000000000000))]) (rest := [.ref x]) ⟨hx, hb, hml, hown, hts⟩ (c_X12_in l G mo 0 1000000000000 (by omega) (by omega) (by omega) H.size) (va_cwS 3 hts gX12_bondYield_X12_in rfl rfl rfl (by decide +kernel) ⟨Nat.le_of_ble_eq_true rfl, Nat.le_of_ble_eq_true rfl⟩) (zpS hKX hP hD [] rfl rfl) rfl rfl hl.1 rfl (lv_room (Nat.le_of_ble_eq_true rfl)) dX12_bondYield_17 ⟨(by first | exact Nat.le_of_ble_eq_true rfl | (show _ ≤ (0 : Nat); omega)), (by first | exact Nat.le_of_ble_eq_true rfl | (show _ ≤ (0 : Nat); omega))⟩) hP hD hS hA [] [0] rfl rfl rfl (by decide) (fun y2 u_7 H locs hy2 hP hD hS => ?_)
    have hP : va_P G.1 vwCl [(x, .inr (13, [.int (iz (th)), .int (iz (6)), .ref am, .null, .ref tb, .ref lv, .int (iz (0)), .ref wt, .int (iz (0)), .ref bg, .ref pm, .int (iz (0))]))] H := hP
    have hD : va_D A [(x, .inr (13, [.int (iz (th)), .int (iz (6)), .ref am, .null, .ref tb, .ref lv, .int (iz (0)), .ref wt, .int (iz (0)), .ref bg, .ref pm, .int (iz (0))]))] := hD
    have hy2 : y2 = decide ((0 : Int) ≤ mo ∧ mo ≤ (1000000000000 : Int)) := hy2
    refine zr_ifz_eq (tgt := 27) hx hb dX12_bondYield_20 (by decide) (fun h_9 => ?_) (fun h_9 => ?_)
    ·
      have hzy2 := of_decide_eq_false (hy2.symm.trans h_9)
      refine lv_iconst (v := iz (0)) hx hb dX12_bondYield_27 rfl ?_
      refine lv_iconst (v := iz (1)) hx hb dX12_bondYield_28 rfl ?_
      refine lv_iconst (v := iz (1)) hx hb dX12_bondYield_29 rfl ?_
      refine zc_z (wr := []) (va_runV (As := [.int (iz (0)), .int (iz (1)), .int (iz (1))]) (rest := []) ⟨hx, hb, hml, hown, hts⟩ (c_X12_passes l G x th (.ref am) .null (.ref tb) (.ref lv) (.int (iz (0))) (.ref wt) (.int (iz (0))) (.ref bg) (.ref pm) (.int (iz (0))) 6 false true true  H.size) (cwV 3 hts gX12_bondYield_X12_passes rfl rfl rfl (by decide +kernel) ⟨Nat.le_of_ble_eq_true rfl, Nat.le_of_ble_eq_true rfl⟩) (zpV hKX hP hD [0] rfl rfl 0 13 rfl rfl) rfl rfl hl.1 rfl (lv_room (Nat.le_of_ble_eq_true rfl)) dX12_bondYield_30 ⟨(by first | exact Nat.le_of_ble_eq_true rfl | (show _ ≤ (0 : Nat); omega)), (by first | exact Nat.le_of_ble_eq_true rfl | (show _ ≤ (0 : Nat); omega))⟩) hP hD hS hA [0] [] rfl rfl rfl (by decide) (fun pz u_10 H locs hp hP hD hS => ?_)
      generalize u_10 = thp at hP hD hp
      have hP : va_P G.1 vwCl [(x, .inr (13, [.int (iz (thp)), .int (iz ((6 : Int))), .ref am, .null, .ref tb, .ref lv, .int (iz (0)), .ref wt, .int (iz (0)), .ref bg, .ref pm, .int (iz (0))]))] H := hP
      have hD : va_D A [(x, .inr (13, [.int (iz (thp)), .int (iz ((6 : Int))), .ref am, .null, .ref tb, .ref lv, .int (iz (0)), .ref wt, .int (iz (0)), .ref bg, .ref pm, .int (iz (0))]))] := hD
      have hp : pz = (false && true && true) ∧ thp = zcode false true true := hp
      rw [show pz = false from hp.1]
      have htp := hp.2
      refine zr_ifz_ne (tgt := 38) hx hb dX12_bondYield_33 (by decide) (fun h_12 => ?_) (fun h_12 => ?_)
      · exact absurd h_12 (by decide)
      ·
        refine lv_iconst (v := iz (0)) hx hb dX12_bondYield_36 rfl ?_
        rw [hQ]
        exact zr_iret (z := 0) (u := (thp)) hx hb hr hlocks hP hD hS (by first | exact Nat.le_of_ble_eq_true rfl | omega) (by first | exact Nat.le_of_ble_eq_true rfl | omega) dX12_bondYield_37 (show 0 = 0 ∧ thp = 1 from ⟨rfl, htp⟩)
    ·
      have hzy2 := of_decide_eq_true (hy2.symm.trans h_9)
      exact absurd h1 (by omega)
