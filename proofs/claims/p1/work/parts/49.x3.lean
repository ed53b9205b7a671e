-- THE CLASS: Loan (laid by wip/walk/x3.py)
-- arrays of arrays of longs; arrays of boolean written
section ZA3
variable {p : Program} {l : Launch} {e : Env} {R : Room} {s : State} {m : MethodId} {args : Array Value} {below : List Frame} {meth : Method} {c : Code} {H : Heap} {locs : List Loc} {cells slots : Nat} {Q : State → Prop}
variable {cc : ByteArray} {pc : Nat} {ls : Array Slot} {rest st0 : List Value} {G : zG} {A : Nat → Prop} {ws W0 wr : va_W} {H0 : Heap} {mc ms : Nat} {av : Array Value} {S : Type}
/-- a table of seven rows -/
def ztb (tr : Nat → Nat) : Nat → Option Nat := fun i => if i < 7 then some (tr i) else none
theorem ztb_at {tr : Nat → Nat} {i : Nat} (h : i < 7) : ztb tr i = some (tr i) := if_pos h
theorem zr_aldA (hexec : p.tables.exec = Jvm.exec) (hb : c.code = cc) (hK : va_K G.1 vwCl (zT G.2) s) (hP : va_P G.1 vwCl ws H) (q0 : Nat) {n a v : Nat} {f : Nat → Option Nat} (ha : ws[q0]? = some (a, zaR (G.2 3) n f)) {i : Int} (hi : 0 ≤ i ∧ i < n ∧ n < 2147483648) (hf : f i.toNat = some v) (hdg : decode cc pc = .ok (.aaload, 1)) (kk : W p l e R s m args below meth c H locs cells slots Q (F0 m (pc + 1) ls (.ref v :: rest))) : W p l e R s m args below meth c H locs cells slots Q (F0 m pc ls (.int (iz i) :: .ref a :: rest)) := by
  have hin : vp_in (iz i) n := iz_in hi.1 hi.2.1 hi.2.2
  have hlt : (iz i).toNatClampNeg < n := by rw [iz_cl hi.1 (by omega)]; omega
  refine W.aald (v := .ref v) (ty := .array .long) hexec hb (hP q0 _ ha) ((hK.2 3 _ rfl).1 n (fun j => va_rf (f j))) rfl (fun q => by cases q) ?_ ?_ rfl rfl hdg kk
  · show ¬ (iz i < 0 ∨ (arrV _ _ _).slots.size ≤ _)
    rw [arrV_size]; exact hin
  · show (arrV _ _ _).slots[_]? = _
    rw [arrV_read _ _ hlt, iz_cl hi.1 (by omega), hf]; rfl
theorem zr_zast {D : va_G} {cl : List vw_C} {tys : List (ClassId × FieldType)} {a : Nat} (hexec : p.tables.exec = Jvm.exec) (hb : c.code = cc) (hK : va_K D cl tys s) (hP : va_P D cl ws H) (hD : va_D A ws) (hS : va_S A H0 H locs) (q0 t0 : Nat) {cA : ClassId} {n : Nat} {f : Int → Int} (ha : ws[q0]? = some (a, zaZ cA n f)) (ht : tys[t0]? = some (cA, .boolean)) {i x : Int} (hi : 0 ≤ i ∧ i < n ∧ n < 2147483648) (hx : vp_nar .boolean (iz x) = iz x) (hdg : decode cc pc = .ok (.bastore, 1)) (kk : ∀ (H1 : Heap) (locs1 : List Loc), va_P D cl (ws.set q0 (a, zaZ cA n (zup f i x))) H1 → va_D A (ws.set q0 (a, zaZ cA n (zup f i x))) → va_S A H0 H1 locs1 → W p l e R s m args below meth c H1 locs1 cells slots Q (F0 m (pc + 1) ls rest)) : W p l e R s m args below meth c H locs cells slots Q (F0 m pc ls (.int (iz x) :: .int (iz i) :: .ref a :: rest)) := va_zast hexec hb hK hP hD hS q0 t0 ha ht (iz_in hi.1 hi.2.1 hi.2.2) hdg (by rw [hx, zrowI_up f x hi.1 (by omega)]; exact kk)
end ZA3
theorem zr6_1 {t b : Int} (ht : 0 ≤ t) (hb : 0 < b) {c : Int} (h : t ≤ c * b) : zr6 t b ≤ c := by
  obtain ⟨h1, -, -⟩ := zr6_spec ht hb
  rcases Int.lt_or_le c (zr6 t b) with q | q
  · have := Int.mul_le_mul_of_nonneg_right (show c + 1 ≤ zr6 t b by omega) (show 0 ≤ b by omega)
    rw [Int.add_mul, Int.one_mul] at this
    omega
  · exact q
/-- one after another: what payments of 1 come to -/
abbrev zone : Nat → Int := fun _ => 1
theorem zone_rng (j : Nat) : 0 ≤ zone j ∧ zone j ≤ 1 := ⟨by show (0 : Int) ≤ 1; decide, by show (1 : Int) ≤ 1; decide⟩
theorem zgeo (U P : Int) : ∀ n : Nat, zflow U P zone n * (U - P) = P * (U ^ n - P ^ n)
  | 0 => by simp [zflow]
  | n + 1 => by
    have ih := zgeo U P n
    rw [zflow_s, Int.add_mul, Int.pow_succ U n, Int.pow_succ P n, Int.mul_one]
    have e1 : zflow U P zone n * U * (U - P) = zflow U P zone n * (U - P) * U := by ac_rfl
    rw [e1, ih, Int.mul_sub, Int.mul_sub, Int.mul_sub, Int.sub_mul]
    have e2 : P * U ^ n * U = P * (U ^ n * U) := Int.mul_assoc _ _ _
    have e3 : P * P ^ n * U = P ^ n * P * U := by ac_rfl
    have e4 : P ^ n * P * P = P * (P ^ n * P) := Int.mul_comm _ _
    omega
theorem zflow_eq (P : Int) : ∀ n : Nat, zflow P P zone n = n * P ^ n
  | 0 => by simp [zflow]
  | n + 1 => by
    rw [zflow_s, zflow_eq P n, Int.pow_succ, show ((n + 1 : Nat) : Int) = (n : Int) + 1 by omega, Int.add_mul, Int.one_mul, Int.mul_one, Int.mul_assoc]
theorem zflow_low {U P : Int} (hP : 0 ≤ P) (hU : 0 ≤ U) : ∀ n : Nat, P * U ^ n ≤ zflow U P zone (n + 1)
  | 0 => by
    show P * U ^ 0 ≤ 0 * U + P ^ (0 + 1) * 1
    rw [Int.pow_succ, Int.pow_zero, Int.pow_zero]; omega
  | n + 1 => by
    have ih := zflow_low hP hU n
    have a := Int.mul_le_mul_of_nonneg_right ih hU
    have b : 0 ≤ P ^ (n + 1 + 1) * 1 := by rw [Int.mul_one]; exact Int.pow_nonneg hP
    rw [zflow_s]
    rw [Int.pow_succ, ← Int.mul_assoc]
    show _ ≤ zflow U P zone (n + 1) * U + P ^ (n + 1 + 1) * 1
    omega
/-- what a loan's instalment stands on -/
theorem zln {g ru rd po mo pn : Int} (h : zfr g ru rd po) (hm : 0 ≤ mo ∧ mo ≤ 1000000000) (hp : 0 ≤ po ∧ po ≤ 20000) (hn : 1 ≤ pn ∧ pn ≤ 60) :
    0 ≤ mo * ru ^ pn.toNat ∧ mo * ru ^ pn.toNat < 1073741824 ^ 35 ∧ 0 < zflow ru rd zone pn.toNat ∧ zflow ru rd zone pn.toNat < 1073741824 ^ 35 ∧ mo * ru ^ pn.toNat ≤ 2000000000 * zflow ru rd zone pn.toNat := by
  have r := h.rng hp
  obtain ⟨k, hk⟩ : ∃ k : Nat, pn.toNat = k + 1 := ⟨pn.toNat - 1, by omega⟩
  have up := zpow_pos (x := ru) (by omega) pn.toNat
  have ub := zpw_le (a := ru) (b := 120000) (by omega) r.2.2.2 pn.toNat
  have ub2 := zpow_le (b := 120000) (by decide) (show pn.toNat ≤ 60 by omega)
  have m0 : 0 ≤ mo * ru ^ pn.toNat := Int.mul_nonneg hm.1 (by omega)
  have m1 : mo * ru ^ pn.toNat ≤ 1000000000 * ru ^ pn.toNat := Int.mul_le_mul_of_nonneg_right hm.2 (by omega)
  have c : (1000000000 : Int) * 120000 ^ 60 < 1073741824 ^ 35 := by decide +kernel
  have fb := zfl_b (k := pn) (U := ru) (P := rd) (A := 1) (am := zone) ⟨r.1, r.2.2.1⟩ r.2.2.2 zone_rng (by omega)
  have lo := zflow_low (U := ru) (P := rd) (by omega) (by omega) k
  have g2 : ru ≤ 2 * rd := by
    obtain ⟨g1, e1, e2⟩ := h
    rcases Int.lt_or_le (2 * rd) ru with q | q
    · have := Int.mul_le_mul_of_nonneg_right (show 2 * rd + 1 ≤ ru by omega) (show 0 ≤ g by omega)
      rw [Int.add_mul, Int.mul_assoc, e1, e2] at this
      omega
    · exact q
  have uk := zpow_pos (x := ru) (by omega) k
  have e3 : ru ^ pn.toNat ≤ 2 * (rd * ru ^ k) := by
    rw [hk, Int.pow_succ, Int.mul_comm (ru ^ k), ← Int.mul_assoc]
    exact Int.mul_le_mul_of_nonneg_right g2 (by omega)
  have rk : 1 ≤ rd * ru ^ k := Int.mul_pos (by omega) (by omega)
  rw [hk] at *
  exact ⟨m0, by omega, by omega, fb.2, by omega⟩
theorem zln_7 {x y : Int} (h0 : 0 < y) (h : x ≤ 2000000000 * y) : x < y * 1073741824 ^ 2 := by
  have e : (1073741824 : Int) ^ 2 = 1152921504606846976 := by decide +kernel
  rw [e]; omega
/-- the two ways to an instalment -/
theorem zinst_c {g ru rd po mo pn : Int} (h : zfr g ru rd po) (hm : 0 ≤ mo ∧ mo ≤ 1000000000) (hp : 0 ≤ po ∧ po ≤ 20000) (hn : 1 ≤ pn ∧ pn ≤ 60) : zr6 (mo * ru ^ pn.toNat) (zflow ru rd zone pn.toNat) = zinst mo po pn := by
  have z := zln h hm hp hn
  have r := h.rng hp
  have gp := zpow_pos (x := g) h.1 pn.toNat
  unfold zinst
  by_cases c : po = 0
  · rw [if_pos c]
    have e : ru = rd := by
      have e1 := h.2.1
      have e2 := h.2.2
      have : ru * g = rd * g := by omega
      exact Int.eq_of_mul_eq_mul_right (by have := h.1; omega) this
    have rp := zpow_pos (x := rd) r.1 pn.toNat
    rw [e, zflow_eq, show ((pn.toNat : Nat) : Int) = pn by omega, zr6_g hm.1 (by omega) (by omega)]
  · rw [if_neg c]
    have e1 : mo * (100000 + po) ^ pn.toNat = mo * ru ^ pn.toNat * g ^ pn.toNat := by rw [zup_g h, Int.mul_assoc]
    have e2 : zflow (100000 + po) 100000 zone pn.toNat = zflow ru rd zone pn.toNat * g ^ pn.toNat := by rw [← h.2.1, ← zflow_g, h.2.2]
    have e3 := zgeo (100000 + po) 100000 pn.toNat
    rw [show (100000 + po) - 100000 = po by omega, Int.mul_comm 100000] at e3
    have e4 : mo * po * (100000 + po) ^ pn.toNat = mo * ru ^ pn.toNat * (g ^ pn.toNat * po) := by
      have : mo * po * (100000 + po) ^ pn.toNat = mo * (100000 + po) ^ pn.toNat * po := by ac_rfl
      rw [this, e1, Int.mul_assoc]
    rw [← e3, e4, e2, Int.mul_assoc (zflow ru rd zone pn.toNat)]
    exact (zr6_g z.1 z.2.2.1 (Int.mul_pos (by omega) (by omega))).symm
theorem zinst_b {g ru rd po mo pn : Int} (h : zfr g ru rd po) (hm : 0 ≤ mo ∧ mo ≤ 1000000000) (hp : 0 ≤ po ∧ po ≤ 20000) (hn : 1 ≤ pn ∧ pn ≤ 60) : zinst mo po pn ≤ 2000000000 := by
  have z := zln h hm hp hn
  rw [← zinst_c h hm hp hn]
  exact zr6_1 z.1 z.2.2.1 z.2.2.2.2
theorem zlp {lf po : Int} (h : 0 ≤ lf ∧ lf ≤ 1000000000) (hp : 0 ≤ po ∧ po ≤ 20000) : 0 ≤ lf * po ∧ lf * po ≤ 20000000000000 := by
  have a := Int.mul_nonneg h.1 hp.1
  have b := Int.mul_le_mul_of_nonneg_right h.2 hp.1
  omega
def rm_c_X3_begin : Room := { frames := 0, cells := 0, slots := 0, locals := 0 }
theorem iw_X3_begin_X3 : ∀ w ∈ wsX30, w ∈ wsX3_begin := by decide +kernel
set_option maxHeartbeats 1000000 in
set_option maxRecDepth 100000 in
theorem c_X3_begin (l : Launch) (G : zG) (y : Nat) (nr : Nat) (ne : Nat) (nh : Nat) (tb : Nat) (q : Nat) (fr : Int → Int) (fe : Int → Int) (fh : Int → Int) (m0 : Int) (n0 : Int) (rws : Int) (mo : Int) (po : Int) (pn : Int)  : zM l G yX3_begin wsX3_begin rm_c_X3_begin [.ref y, .long (lz (mo)), .int (iz (po)), .int (iz (pn))] [(y, .inr (4, [.ref nr, .ref ne, .ref nh, .ref tb, .ref q, .long (lz (m0)), .int (iz (n0)), .int (iz (rws))])), (nr, zaI (G.2 1) 61 (fr)), (ne, zaL (G.2 0) 61 (fe)), (nh, zaZ (G.2 2) 61 (fh))] (fun A => zQv G (fun (u : (Int → Int) × (Int → Int) × (Int → Int)) => ∀ k : Int, 1 ≤ k → k ≤ 60 → u.1 k = (if k = 1 then po else -1) ∧ u.2.1 k = 0 ∧ u.2.2 k = 0) (fun (u : (Int → Int) × (Int → Int) × (Int → Int)) => [(y, .inr (4, [.ref nr, .ref ne, .ref nh, .ref tb, .ref q, .long (lz (mo)), .int (iz (pn)), .int (iz (rws))])), (nr, zaI (G.2 1) 61 (u.1)), (ne, zaL (G.2 0) 61 (u.2.1)), (nh, zaZ (G.2 2) 61 (u.2.2))]) A) 0 0 := by
  refine zM_of (cc := cX3_begin) (maxL := 6) (ret := none) (by decide) rfl (Nat.le_of_ble_eq_true rfl) ?_
  intro p e s m below meth c ls A Q hQ hx hb hr hts hown hlocks hml hnm hKX hP hD hA hS hl
  have hK := hKX.1
  have iwX3 := iw_X3_begin_X3
  obtain ⟨H, hH⟩ : ∃ h, h = s.heap := ⟨_, rfl⟩
  obtain ⟨locs, hlo⟩ : ∃ h : List Loc, h = [] := ⟨_, rfl⟩
  have hS : va_S A s.heap H locs := by rw [hH, hlo]; exact hS
  have hP : va_P G.1 vwCl [(y, .inr (4, [.ref nr, .ref ne, .ref nh, .ref tb, .ref q, .long (lz (m0)), .int (iz (n0)), .int (iz (rws))])), (nr, zaI (G.2 1) 61 (fr)), (ne, zaL (G.2 0) 61 (fe)), (nh, zaZ (G.2 2) 61 (fh))] H := by rw [hH]; exact hP
  have hD : va_D A [(y, .inr (4, [.ref nr, .ref ne, .ref nh, .ref tb, .ref q, .long (lz (m0)), .int (iz (n0)), .int (iz (rws))])), (nr, zaI (G.2 1) 61 (fr)), (ne, zaL (G.2 0) 61 (fe)), (nh, zaZ (G.2 2) 61 (fh))] := hD
  have hl : lv_has ls 6 [(0, .ref y), (1, .long (lz (mo))), (3, .int (iz (po))), (4, .int (iz (pn)))] := hl
  rw [← hH, ← hlo]
  refine lv_aload_n hx hb dX3_begin_0 rfl (lv_at hl 0 rfl) ?_
  refine lv_lload_n hx hb dX3_begin_1 rfl (lv_at hl 1 rfl) ?_
  refine va_put (D := G.1) (ci := 4) (v := .long (lz (mo))) (ty := .long) (C := RX3) (T := TX3) (N := 8) hx hb hts iwX3 tyX3 tyX3_ok nmX3 hown hK hP hD hS 0 rfl rfl 5 (by decide) (hts (.fieldLink RX3 35 "AnnuityHouse$Loan" "lent" "J") (by decide +kernel)) (fun _ h9 => h9) rfl (by decide +kernel) rfl rfl (Nat.le_of_ble_eq_true rfl) dX3_begin_2 (fun H locs hP hD hS => ?_)
  have hP : va_P G.1 vwCl [(y, .inr (4, [.ref nr, .ref ne, .ref nh, .ref tb, .ref q, .long (lz (mo)), .int (iz (n0)), .int (iz (rws))])), (nr, zaI (G.2 1) 61 (fr)), (ne, zaL (G.2 0) 61 (fe)), (nh, zaZ (G.2 2) 61 (fh))] H := hP
  have hD : va_D A [(y, .inr (4, [.ref nr, .ref ne, .ref nh, .ref tb, .ref q, .long (lz (mo)), .int (iz (n0)), .int (iz (rws))])), (nr, zaI (G.2 1) 61 (fr)), (ne, zaL (G.2 0) 61 (fe)), (nh, zaZ (G.2 2) 61 (fh))] := hD
  refine lv_aload_n hx hb dX3_begin_5 rfl (lv_at hl 0 rfl) ?_
  refine lv_iload hx hb dX3_begin_6 (lv_at hl 3 rfl) ?_
  refine va_put (D := G.1) (ci := 4) (v := .int (iz (pn))) (ty := .int) (C := RX3) (T := TX3) (N := 8) hx hb hts iwX3 tyX3 tyX3_ok nmX3 hown hK hP hD hS 0 rfl rfl 6 (by decide) (hts (.fieldLink RX3 39 "AnnuityHouse$Loan" "periods" "I") (by decide +kernel)) (fun _ h9 => h9) rfl (by decide +kernel) rfl rfl (Nat.le_of_ble_eq_true rfl) dX3_begin_8 (fun H locs hP hD hS => ?_)
  have hP : va_P G.1 vwCl [(y, .inr (4, [.ref nr, .ref ne, .ref nh, .ref tb, .ref q, .long (lz (mo)), .int (iz (pn)), .int (iz (rws))])), (nr, zaI (G.2 1) 61 (fr)), (ne, zaL (G.2 0) 61 (fe)), (nh, zaZ (G.2 2) 61 (fh))] H := hP
  have hD : va_D A [(y, .inr (4, [.ref nr, .ref ne, .ref nh, .ref tb, .ref q, .long (lz (mo)), .int (iz (pn)), .int (iz (rws))])), (nr, zaI (G.2 1) 61 (fr)), (ne, zaL (G.2 0) 61 (fe)), (nh, zaZ (G.2 2) 61 (fh))] := hD
  refine lv_iconst (v := iz (1)) hx hb dX3_begin_11 rfl ?_
  refine lv_istore (lv' := [(5, .int (iz (1))), (0, .ref y), (1, .long (lz (mo))), (3, .int (iz (po))), (4, .int (iz (pn)))]) hx hb dX3_begin_12 hl (by decide) rfl (fun ls hl => ?_)
  have hl_14 : ∀ (zn_14 : Nat) (i : Int) (gr : Int → Int) (ge : Int → Int) (gh : Int → Int) (H : Heap) (locs : List Loc) (ls : Array Slot), (61 - i).toNat < zn_14 → (1 ≤ i ∧ i ≤ 61) → (∀ k : Int, 1 ≤ k → k < i → gr k = (if k = 1 then po else -1) ∧ ge k = 0 ∧ gh k = 0) → va_P G.1 vwCl [(y, .inr (4, [.ref nr, .ref ne, .ref nh, .ref tb, .ref q, .long (lz (mo)), .int (iz (pn)), .int (iz (rws))])), (nr, zaI (G.2 1) 61 (gr)), (ne, zaL (G.2 0) 61 (ge)), (nh, zaZ (G.2 2) 61 (gh))] H → va_D A [(y, .inr (4, [.ref nr, .ref ne, .ref nh, .ref tb, .ref q, .long (lz (mo)), .int (iz (pn)), .int (iz (rws))])), (nr, zaI (G.2 1) 61 (gr)), (ne, zaL (G.2 0) 61 (ge)), (nh, zaZ (G.2 2) 61 (gh))] → va_S A s.heap H locs → lv_has ls 6 [(5, .int (iz (i))), (0, .ref y), (1, .long (lz (mo))), (3, .int (iz (po))), (4, .int (iz (pn)))] → W p l e rm_c_X3_begin s m ([.ref y, .long (lz (mo)), .int (iz (po)), .int (iz (pn))] : List Value).toArray below meth c H locs 0 0 Q (F0 m 14 ls []) := by
    intro zn_14
    induction zn_14 with
    | zero => intro i gr ge gh H locs ls hm; exact absurd hm (Nat.not_lt_zero _)
    | succ zn_14 ih_14 =>
      intro i gr ge gh H locs ls hm_14 k1 k2 hP hD hS hl
      refine lv_iload hx hb dX3_begin_14 (lv_at hl 0 rfl) ?_
      refine lv_bipush (v := iz (60)) hx hb dX3_begin_16 rfl ?_
      refine zr_icmp_gt (x := i) (y := 60) (tgt := 61) hx hb (⟨by omega, by omega⟩) (⟨by omega, by omega⟩) dX3_begin_18 (by decide) (fun h_1 => ?_) (fun h_1 => ?_)
      ·
        rw [hQ]
        exact zr_vret (u := (gr, ge, gh)) hx hb hr hlocks hP hD hS (by first | exact Nat.le_of_ble_eq_true rfl | omega) (by first | exact Nat.le_of_ble_eq_true rfl | omega) dX3_begin_61 (show ∀ k : Int, 1 ≤ k → k ≤ 60 → gr k = (if k = 1 then po else -1) ∧ ge k = 0 ∧ gh k = 0 from fun k a b => k2 k a (by omega))
      ·
        refine lv_aload_n hx hb dX3_begin_21 rfl (lv_at hl 1 rfl) ?_
        refine va_get (D := G.1) (ci := 4) (v := .ref nr) (C := RX3) (T := TX3) (N := 8) hx hb hts iwX3 hown hK hP 0 rfl rfl 0 (by decide) (hts (.fieldLink RX3 9 "AnnuityHouse$Loan" "rates" "[I") (by decide +kernel)) (fun _ h9 => h9) rfl dX3_begin_22 ?_
        refine lv_iload hx hb dX3_begin_25 (lv_at hl 0 rfl) ?_
        refine lv_iload hx hb dX3_begin_27 (lv_at hl 0 rfl) ?_
        refine lv_iconst (v := iz (1)) hx hb dX3_begin_29 rfl ?_
        refine zr_icmp_ne (x := i) (y := 1) (tgt := 37) hx hb (⟨by omega, by omega⟩) (⟨by omega, by omega⟩) dX3_begin_30 (by decide) (fun h_2 => ?_) (fun h_2 => ?_)
        ·
          refine lv_iconst (v := iz (-1)) hx hb dX3_begin_37 rfl ?_
          refine zr_iast hx hb hK hP hD hS 1 1 rfl rfl (i := i) (x := -1) (⟨by omega, by omega, by omega⟩) dX3_begin_38 (fun H locs hP hD hS => ?_)
          have hP : va_P G.1 vwCl [(y, .inr (4, [.ref nr, .ref ne, .ref nh, .ref tb, .ref q, .long (lz (mo)), .int (iz (pn)), .int (iz (rws))])), (nr, zaI (G.2 1) 61 (zup gr i (-1))), (ne, zaL (G.2 0) 61 (ge)), (nh, zaZ (G.2 2) 61 (gh))] H := hP
          have hD : va_D A [(y, .inr (4, [.ref nr, .ref ne, .ref nh, .ref tb, .ref q, .long (lz (mo)), .int (iz (pn)), .int (iz (rws))])), (nr, zaI (G.2 1) 61 (zup gr i (-1))), (ne, zaL (G.2 0) 61 (ge)), (nh, zaZ (G.2 2) 61 (gh))] := hD
          refine lv_aload_n hx hb dX3_begin_39 rfl (lv_at hl 1 rfl) ?_
          refine va_get (D := G.1) (ci := 4) (v := .ref ne) (C := RX3) (T := TX3) (N := 8) hx hb hts iwX3 hown hK hP 0 rfl rfl 1 (by decide) (hts (.fieldLink RX3 15 "AnnuityHouse$Loan" "earlies" "[J") (by decide +kernel)) (fun _ h9 => h9) rfl dX3_begin_40 ?_
          refine lv_iload hx hb dX3_begin_43 (lv_at hl 0 rfl) ?_
          refine lv_lconst (v := lz (0)) hx hb dX3_begin_45 rfl ?_
          refine zr_last hx hb hK hP hD hS 2 0 rfl rfl (i := i) (x := 0) (⟨by omega, by omega, by omega⟩) dX3_begin_46 (fun H locs hP hD hS => ?_)
          have hP : va_P G.1 vwCl [(y, .inr (4, [.ref nr, .ref ne, .ref nh, .ref tb, .ref q, .long (lz (mo)), .int (iz (pn)), .int (iz (rws))])), (nr, zaI (G.2 1) 61 (zup gr i (-1))), (ne, zaL (G.2 0) 61 (zup ge i 0)), (nh, zaZ (G.2 2) 61 (gh))] H := hP
          have hD : va_D A [(y, .inr (4, [.ref nr, .ref ne, .ref nh, .ref tb, .ref q, .long (lz (mo)), .int (iz (pn)), .int (iz (rws))])), (nr, zaI (G.2 1) 61 (zup gr i (-1))), (ne, zaL (G.2 0) 61 (zup ge i 0)), (nh, zaZ (G.2 2) 61 (gh))] := hD
          refine lv_aload_n hx hb dX3_begin_47 rfl (lv_at hl 1 rfl) ?_
          refine va_get (D := G.1) (ci := 4) (v := .ref nh) (C := RX3) (T := TX3) (N := 8) hx hb hts iwX3 hown hK hP 0 rfl rfl 2 (by decide) (hts (.fieldLink RX3 19 "AnnuityHouse$Loan" "holidays" "[Z") (by decide +kernel)) (fun _ h9 => h9) rfl dX3_begin_48 ?_
          refine lv_iload hx hb dX3_begin_51 (lv_at hl 0 rfl) ?_
          refine lv_iconst (v := iz (0)) hx hb dX3_begin_53 rfl ?_
          refine zr_zast hx hb hK hP hD hS 3 2 rfl rfl (i := i) (x := 0) (⟨by omega, by omega, by omega⟩) (by decide +kernel) dX3_begin_54 (fun H locs hP hD hS => ?_)
          have hP : va_P G.1 vwCl [(y, .inr (4, [.ref nr, .ref ne, .ref nh, .ref tb, .ref q, .long (lz (mo)), .int (iz (pn)), .int (iz (rws))])), (nr, zaI (G.2 1) 61 (zup gr i (-1))), (ne, zaL (G.2 0) 61 (zup ge i 0)), (nh, zaZ (G.2 2) 61 (zup gh i 0))] H := hP
          have hD : va_D A [(y, .inr (4, [.ref nr, .ref ne, .ref nh, .ref tb, .ref q, .long (lz (mo)), .int (iz (pn)), .int (iz (rws))])), (nr, zaI (G.2 1) 61 (zup gr i (-1))), (ne, zaL (G.2 0) 61 (zup ge i 0)), (nh, zaZ (G.2 2) 61 (zup gh i 0))] := hD
          refine lv_iinc (v := iz (i + 1)) (lv' := [(5, .int (iz (i + 1))), (0, .ref y), (1, .long (lz (mo))), (3, .int (iz (po))), (4, .int (iz (pn)))]) hx hb dX3_begin_55 hl (k := 0) rfl (by rw [show Int32.ofInt (1) = iz (1) from rfl, iz_add]) (by decide) rfl (fun ls hl => ?_)
          refine lv_goto (tgt := 14) hx hb dX3_begin_58 (by decide) ?_
          exact ih_14 (i + 1) (zup gr i (-1)) (zup ge i 0) (zup gh i 0) _ _ _ (by omega) (by omega) (fun k a b => (show k = i ∨ k < i by omega).elim (fun q => by rw [q]; exact ⟨(zup_s _ _ _).trans (by first | rw [if_pos (by omega)] | rw [if_neg (by omega)]), zup_s _ _ _, zup_s _ _ _⟩) (fun q => ⟨(zup_n (by omega)).trans (k2 k a q).1, (zup_n (by omega)).trans (k2 k a q).2.1, (zup_n (by omega)).trans (k2 k a q).2.2⟩)) (hP) (hD) hS (hl)
        ·
          refine lv_iload_n hx hb dX3_begin_33 rfl (lv_at hl 3 rfl) ?_
          refine lv_goto (tgt := 38) hx hb dX3_begin_34 (by decide) ?_
          refine zr_iast hx hb hK hP hD hS 1 1 rfl rfl (i := i) (x := po) (⟨by omega, by omega, by omega⟩) dX3_begin_38 (fun H locs hP hD hS => ?_)
          have hP : va_P G.1 vwCl [(y, .inr (4, [.ref nr, .ref ne, .ref nh, .ref tb, .ref q, .long (lz (mo)), .int (iz (pn)), .int (iz (rws))])), (nr, zaI (G.2 1) 61 (zup gr i po)), (ne, zaL (G.2 0) 61 (ge)), (nh, zaZ (G.2 2) 61 (gh))] H := hP
          have hD : va_D A [(y, .inr (4, [.ref nr, .ref ne, .ref nh, .ref tb, .ref q, .long (lz (mo)), .int (iz (pn)), .int (iz (rws))])), (nr, zaI (G.2 1) 61 (zup gr i po)), (ne, zaL (G.2 0) 61 (ge)), (nh, zaZ (G.2 2) 61 (gh))] := hD
          refine lv_aload_n hx hb dX3_begin_39 rfl (lv_at hl 1 rfl) ?_
          refine va_get (D := G.1) (ci := 4) (v := .ref ne) (C := RX3) (T := TX3) (N := 8) hx hb hts iwX3 hown hK hP 0 rfl rfl 1 (by decide) (hts (.fieldLink RX3 15 "AnnuityHouse$Loan" "earlies" "[J") (by decide +kernel)) (fun _ h9 => h9) rfl dX3_begin_40 ?_
          refine lv_iload hx hb dX3_begin_43 (lv_at hl 0 rfl) ?_
          refine lv_lconst (v := lz (0)) hx hb dX3_begin_45 rfl ?_
          refine zr_last hx hb hK hP hD hS 2 0 rfl rfl (i := i) (x := 0) (⟨by omega, by omega, by omega⟩) dX3_begin_46 (fun H locs hP hD hS => ?_)
          have hP : va_P G.1 vwCl [(y, .inr (4, [.ref nr, .ref ne, .ref nh, .ref tb, .ref q, .long (lz (mo)), .int (iz (pn)), .int (iz (rws))])), (nr, zaI (G.2 1) 61 (zup gr i po)), (ne, zaL (G.2 0) 61 (zup ge i 0)), (nh, zaZ (G.2 2) 61 (gh))] H := hP
          have hD : va_D A [(y, .inr (4, [.ref nr, .ref ne, .ref nh, .ref tb, .ref q, .long (lz (mo)), .int (iz (pn)), .int (iz (rws))])), (nr, zaI (G.2 1) 61 (zup gr i po)), (ne, zaL (G.2 0) 61 (zup ge i 0)), (nh, zaZ (G.2 2) 61 (gh))] := hD
          refine lv_aload_n hx hb dX3_begin_47 rfl (lv_at hl 1 rfl) ?_
          refine va_get (D := G.1) (ci := 4) (v := .ref nh) (C := RX3) (T := TX3) (N := 8) hx hb hts iwX3 hown hK hP 0 rfl rfl 2 (by decide) (hts (.fieldLink RX3 19 "AnnuityHouse$Loan" "holidays" "[Z") (by decide +kernel)) (fun _ h9 => h9) rfl dX3_begin_48 ?_
          refine lv_iload hx hb dX3_begin_51 (lv_at hl 0 rfl) ?_
          refine lv_iconst (v := iz (0)) hx hb dX3_begin_53 rfl ?_
          refine zr_zast hx hb hK hP hD hS 3 2 rfl rfl (i := i) (x := 0) (⟨by omega, by omega, by omega⟩) (by decide +kernel) dX3_begin_54 (fun H locs hP hD hS => ?_)
          have hP : va_P G.1 vwCl [(y, .inr (4, [.ref nr, .ref ne, .ref nh, .ref tb, .ref q, .long (lz (mo)), .int (iz (pn)), .int (iz (rws))])), (nr, zaI (G.2 1) 61 (zup gr i po)), (ne, zaL (G.2 0) 61 (zup ge i 0)), (nh, zaZ (G.2 2) 61 (zup gh i 0))] H := hP
          have hD : va_D A [(y, .inr (4, [.ref nr, .ref ne, .ref nh, .ref tb, .ref q, .long (lz (mo)), .int (iz (pn)), .int (iz (rws))])), (nr, zaI (G.2 1) 61 (zup gr i po)), (ne, zaL (G.2 0) 61 (zup ge i 0)), (nh, zaZ (G.2 2) 61 (zup gh i 0))] := hD
          refine lv_iinc (v := iz (i + 1)) (lv' := [(5, .int (iz (i + 1))), (0, .ref y), (1, .long (lz (mo))), (3, .int (iz (po))), (4, .int (iz (pn)))]) hx hb dX3_begin_55 hl (k := 0) rfl (by rw [show Int32.ofInt (1) = iz (1) from rfl, iz_add]) (by decide) rfl (fun ls hl => ?_)
          refine lv_goto (tgt := 14) hx hb dX3_begin_58 (by decide) ?_
          exact ih_14 (i + 1) (zup gr i po) (zup ge i 0) (zup gh i 0) _ _ _ (by omega) (by omega) (fun k a b => (show k = i ∨ k < i by omega).elim (fun q => by rw [q]; exact ⟨(zup_s _ _ _).trans (by first | rw [if_pos (by omega)] | rw [if_neg (by omega)]), zup_s _ _ _, zup_s _ _ _⟩) (fun q => ⟨(zup_n (by omega)).trans (k2 k a q).1, (zup_n (by omega)).trans (k2 k a q).2.1, (zup_n (by omega)).trans (k2 k a q).2.2⟩)) (hP) (hD) hS (hl)
  exact hl_14 ((61 - 1 : Int).toNat + 1) 1 fr fe fh _ _ _ (Nat.lt_succ_self _) (by omega) (fun k a b => absurd b (by omega)) (hP) (hD) hS (hl)

def rm_c_X3_instalmentFor : Room := { frames := 4, cells := 0, slots := 0, locals := 118 }
theorem iw_X3_instalmentFor_X1 : ∀ w ∈ wsX10, w ∈ wsX3_instalmentFor := by decide +kernel
theorem iw_X3_instalmentFor_X3 : ∀ w ∈ wsX30, w ∈ wsX3_instalmentFor := by decide +kernel
set_option maxHeartbeats 1000000 in
set_option maxRecDepth 100000 in
theorem c_X3_instalmentFor (l : Launch) (G : zG) (y : Nat) (q : Nat) (r : Nat) (vv0 : Value) (vv1 : Value) (vv2 : Value) (vv3 : Value) (le : Int) (pp : Int) (rws : Int) (sa : Nat) (sb : Nat) (sf : Int → Int) (sn : Int) (st : Int) (da : Nat) (db : Nat) (df : Int → Int) (dn : Int) (dt : Int) (wa : Nat) (wb : Nat) (wf : Int → Int) (wn : Int) (wt : Int) (u0 : Int) (d0 : Int) (p0 : Int) (mo : Int) (po : Int) (pn : Int) (h1 : 1 ≤ mo ∧ mo ≤ 1000000000 ∧ 0 ≤ po ∧ po ≤ 20000 ∧ 1 ≤ pn ∧ pn ≤ 60) : zM l G yX3_instalmentFor wsX3_instalmentFor rm_c_X3_instalmentFor [.ref y, .long (lz (mo)), .int (iz (po)), .int (iz (pn)), .ref r] [(y, .inr (4, [vv0, vv1, vv2, vv3, .ref q, .long (lz (le)), .int (iz (pp)), .int (iz (rws))])), (q, .inr (2, [.ref sa, .ref da, .ref wa, .long (lz (u0)), .long (lz (d0)), .int (iz (p0))])), (sa, .inr (9, [.ref sb, .int (iz (sn)), .long (lz (st))])), (sb, zaL (G.2 0) 40 (sf)), (da, .inr (9, [.ref db, .int (iz (dn)), .long (lz (dt))])), (db, zaL (G.2 0) 40 (df)), (wa, .inr (9, [.ref wb, .int (iz (wn)), .long (lz (wt))])), (wb, zaL (G.2 0) 40 (wf)), (r, .inr (5, [.int (iz (6))]))] (fun A => zQl G (fun (z : Int) (u : (Int → Int) × Int × Int × (Int → Int) × Int × Int × (Int → Int) × Int × Int × Int × Int × Int) => z = zinst mo po pn ∧ zinst mo po pn ≤ 2000000000) (fun (u : (Int → Int) × Int × Int × (Int → Int) × Int × Int × (Int → Int) × Int × Int × Int × Int × Int) => [(y, .inr (4, [vv0, vv1, vv2, vv3, .ref q, .long (lz (le)), .int (iz (pp)), .int (iz (rws))])), (q, .inr (2, [.ref sa, .ref da, .ref wa, .long (lz (u.2.2.2.2.2.2.2.2.2.1)), .long (lz (u.2.2.2.2.2.2.2.2.2.2.1)), .int (iz (u.2.2.2.2.2.2.2.2.2.2.2))])), (sa, .inr (9, [.ref sb, .int (iz (u.2.1)), .long (lz (u.2.2.1))])), (sb, zaL (G.2 0) 40 (u.1)), (da, .inr (9, [.ref db, .int (iz (u.2.2.2.2.1)), .long (lz (u.2.2.2.2.2.1))])), (db, zaL (G.2 0) 40 (u.2.2.2.1)), (wa, .inr (9, [.ref wb, .int (iz (u.2.2.2.2.2.2.2.1)), .long (lz (u.2.2.2.2.2.2.2.2.1))])), (wb, zaL (G.2 0) 40 (u.2.2.2.2.2.2.1)), (r, .inr (5, [.int (iz (6))]))]) A) 0 0 := by
  refine zM_of (cc := cX3_instalmentFor) (maxL := 7) (ret := (some .long)) (by decide) rfl (Nat.le_of_ble_eq_true rfl) ?_
  intro p e s m below meth c ls A Q hQ hx hb hr hts hown hlocks hml hnm hKX hP hD hA hS hl
  have hK := hKX.1
  have iwX1 := iw_X3_instalmentFor_X1
  have iwX3 := iw_X3_instalmentFor_X3
  obtain ⟨H, hH⟩ : ∃ h, h = s.heap := ⟨_, rfl⟩
  obtain ⟨locs, hlo⟩ : ∃ h : List Loc, h = [] := ⟨_, rfl⟩
  have hS : va_S A s.heap H locs := by rw [hH, hlo]; exact hS
  have hP : va_P G.1 vwCl [(y, .inr (4, [vv0, vv1, vv2, vv3, .ref q, .long (lz (le)), .int (iz (pp)), .int (iz (rws))])), (q, .inr (2, [.ref sa, .ref da, .ref wa, .long (lz (u0)), .long (lz (d0)), .int (iz (p0))])), (sa, .inr (9, [.ref sb, .int (iz (sn)), .long (lz (st))])), (sb, zaL (G.2 0) 40 (sf)), (da, .inr (9, [.ref db, .int (iz (dn)), .long (lz (dt))])), (db, zaL (G.2 0) 40 (df)), (wa, .inr (9, [.ref wb, .int (iz (wn)), .long (lz (wt))])), (wb, zaL (G.2 0) 40 (wf)), (r, .inr (5, [.int (iz (6))]))] H := by rw [hH]; exact hP
  have hD : va_D A [(y, .inr (4, [vv0, vv1, vv2, vv3, .ref q, .long (lz (le)), .int (iz (pp)), .int (iz (rws))])), (q, .inr (2, [.ref sa, .ref da, .ref wa, .long (lz (u0)), .long (lz (d0)), .int (iz (p0))])), (sa, .inr (9, [.ref sb, .int (iz (sn)), .long (lz (st))])), (sb, zaL (G.2 0) 40 (sf)), (da, .inr (9, [.ref db, .int (iz (dn)), .long (lz (dt))])), (db, zaL (G.2 0) 40 (df)), (wa, .inr (9, [.ref wb, .int (iz (wn)), .long (lz (wt))])), (wb, zaL (G.2 0) 40 (wf)), (r, .inr (5, [.int (iz (6))]))] := hD
  have hl : lv_has ls 7 [(0, .ref y), (1, .long (lz (mo))), (3, .int (iz (po))), (4, .int (iz (pn))), (5, .ref r)] := hl
  rw [← hH, ← hlo]
  have h3 : 0 ≤ po ∧ po ≤ 20000 := by omega
  refine lv_aload_n hx hb dX3_instalmentFor_0 rfl (lv_at hl 0 rfl) ?_
  refine va_get (D := G.1) (ci := 4) (v := .ref q) (C := RX3) (T := TX3) (N := 8) hx hb hts iwX3 hown hK hP 0 rfl rfl 4 (by decide) (hts (.fieldLink RX3 31 "AnnuityHouse$Loan" "flow" "LAnnuityHouse$Flow;") (by decide +kernel)) (fun _ h9 => h9) rfl dX3_instalmentFor_1 ?_
  refine lv_iload_n hx hb dX3_instalmentFor_4 rfl (lv_at hl 2 rfl) ?_
  refine lv_lconst (v := lz (0)) hx hb dX3_instalmentFor_5 rfl ?_
  refine zc_v (wr := [(y, .inr (4, [vv0, vv1, vv2, vv3, .ref q, .long (lz (le)), .int (iz (pp)), .int (iz (rws))])), (wa, .inr (9, [.ref wb, .int (iz (wn)), .long (lz (wt))])), (wb, zaL (G.2 0) 40 (wf)), (r, .inr (5, [.int (iz (6))]))]) (va_runV (As := [.int (iz (po)), .long (lz (0))]) (rest := []) ⟨hx, hb, hml, hown, hts⟩ (c_X1_begin l G q wa sa sb sf sn st da db df dn dt u0 d0 p0 po 0 (by omega) (by omega) H.size) (cwV 2 hts gX3_instalmentFor_X1_begin rfl rfl rfl (by decide +kernel) ⟨Nat.le_of_ble_eq_true rfl, Nat.le_of_ble_eq_true rfl⟩) (zpV hKX hP hD [1, 2, 3, 4, 5] rfl rfl 1 2 rfl rfl) rfl rfl hl.1 rfl (lv_room (Nat.le_of_ble_eq_true rfl)) dX3_instalmentFor_6 ⟨(by first | exact Nat.le_of_ble_eq_true rfl | (show _ ≤ (0 : Nat); omega)), (by first | exact Nat.le_of_ble_eq_true rfl | (show _ ≤ (0 : Nat); omega))⟩) hP hD hS hA [1, 2, 3, 4, 5] [0, 6, 7, 8] rfl rfl rfl (by decide) (fun u_1 H locs hbg hP hD hS => ?_)
  obtain ⟨sf1, sn1, st1, df1, dn1, dt1, ru, rd, g⟩ := u_1
  have hP : va_P G.1 vwCl [(y, .inr (4, [vv0, vv1, vv2, vv3, .ref q, .long (lz (le)), .int (iz (pp)), .int (iz (rws))])), (wa, .inr (9, [.ref wb, .int (iz (wn)), .long (lz (wt))])), (wb, zaL (G.2 0) 40 (wf)), (r, .inr (5, [.int (iz (6))])), (q, .inr (2, [.ref sa, .ref da, .ref wa, .long (lz (ru)), .long (lz (rd)), .int (iz (0))])), (sa, .inr (9, [.ref sb, .int (iz (sn1)), .long (lz (st1))])), (sb, zaL (G.2 0) 40 (sf1)), (da, .inr (9, [.ref db, .int (iz (dn1)), .long (lz (dt1))])), (db, zaL (G.2 0) 40 (df1))] H := hP
  have hD : va_D A [(y, .inr (4, [vv0, vv1, vv2, vv3, .ref q, .long (lz (le)), .int (iz (pp)), .int (iz (rws))])), (wa, .inr (9, [.ref wb, .int (iz (wn)), .long (lz (wt))])), (wb, zaL (G.2 0) 40 (wf)), (r, .inr (5, [.int (iz (6))])), (q, .inr (2, [.ref sa, .ref da, .ref wa, .long (lz (ru)), .long (lz (rd)), .int (iz (0))])), (sa, .inr (9, [.ref sb, .int (iz (sn1)), .long (lz (st1))])), (sb, zaL (G.2 0) 40 (sf1)), (da, .inr (9, [.ref db, .int (iz (dn1)), .long (lz (dt1))])), (db, zaL (G.2 0) 40 (df1))] := hD
  have hbg : zwv sf1 sn1 st1 (0 : Int) ∧ zwv df1 dn1 dt1 1 ∧ zfr g ru rd po := hbg
  have hfr := hbg.2.2
  have hrg := hfr.rng h3
  refine lv_iconst (v := iz (1)) hx hb dX3_instalmentFor_9 rfl ?_
  refine lv_istore (lv' := [(6, .int (iz (1))), (0, .ref y), (1, .long (lz (mo))), (3, .int (iz (po))), (4, .int (iz (pn))), (5, .ref r)]) hx hb dX3_instalmentFor_10 hl (by decide) rfl (fun ls hl => ?_)
  have hl_12 : ∀ (zn_12 : Nat) (i : Int) (pq : Int) (sg : Int → Int) (sm : Int) (su : Int) (dg : Int → Int) (dm : Int) (du : Int) (H : Heap) (locs : List Loc) (ls : Array Slot), (pn + 1 - i).toNat < zn_12 → (1 ≤ i ∧ i ≤ pn + 1) → (zwv sg sm su (zflow ru rd zone (i - 1).toNat)) → (zwv dg dm du (rd ^ (i - 1).toNat)) → va_P G.1 vwCl [(y, .inr (4, [vv0, vv1, vv2, vv3, .ref q, .long (lz (le)), .int (iz (pp)), .int (iz (rws))])), (wa, .inr (9, [.ref wb, .int (iz (wn)), .long (lz (wt))])), (wb, zaL (G.2 0) 40 (wf)), (r, .inr (5, [.int (iz (6))])), (q, .inr (2, [.ref sa, .ref da, .ref wa, .long (lz (ru)), .long (lz (rd)), .int (iz (pq))])), (sa, .inr (9, [.ref sb, .int (iz (sm)), .long (lz (su))])), (sb, zaL (G.2 0) 40 (sg)), (da, .inr (9, [.ref db, .int (iz (dm)), .long (lz (du))])), (db, zaL (G.2 0) 40 (dg))] H → va_D A [(y, .inr (4, [vv0, vv1, vv2, vv3, .ref q, .long (lz (le)), .int (iz (pp)), .int (iz (rws))])), (wa, .inr (9, [.ref wb, .int (iz (wn)), .long (lz (wt))])), (wb, zaL (G.2 0) 40 (wf)), (r, .inr (5, [.int (iz (6))])), (q, .inr (2, [.ref sa, .ref da, .ref wa, .long (lz (ru)), .long (lz (rd)), .int (iz (pq))])), (sa, .inr (9, [.ref sb, .int (iz (sm)), .long (lz (su))])), (sb, zaL (G.2 0) 40 (sg)), (da, .inr (9, [.ref db, .int (iz (dm)), .long (lz (du))])), (db, zaL (G.2 0) 40 (dg))] → va_S A s.heap H locs → lv_has ls 7 [(6, .int (iz (i))), (0, .ref y), (1, .long (lz (mo))), (3, .int (iz (po))), (4, .int (iz (pn))), (5, .ref r)] → W p l e rm_c_X3_instalmentFor s m ([.ref y, .long (lz (mo)), .int (iz (po)), .int (iz (pn)), .ref r] : List Value).toArray below meth c H locs (0 + 0) (0 + 0) Q (F0 m 12 ls []) := by
    intro zn_12
    induction zn_12 with
    | zero => intro i pq sg sm su dg dm du H locs ls hm; exact absurd hm (Nat.not_lt_zero _)
    | succ zn_12 ih_12 =>
      intro i pq sg sm su dg dm du H locs ls hm_12 k1 k2 k3 hP hD hS hl
      refine lv_iload hx hb dX3_instalmentFor_12 (lv_at hl 0 rfl) ?_
      refine lv_iload hx hb dX3_instalmentFor_14 (lv_at hl 4 rfl) ?_
      refine zr_icmp_gt (x := i) (y := pn) (tgt := 33) hx hb (⟨by omega, by omega⟩) (⟨by omega, by omega⟩) dX3_instalmentFor_16 (by decide) (fun h_4 => ?_) (fun h_4 => ?_)
      ·
        refine lv_aload hx hb dX3_instalmentFor_33 (lv_at hl 5 rfl) ?_
        refine lv_aload_n hx hb dX3_instalmentFor_35 rfl (lv_at hl 1 rfl) ?_
        refine va_get (D := G.1) (ci := 4) (v := .ref q) (C := RX3) (T := TX3) (N := 8) hx hb hts iwX3 hown hK hP 0 rfl rfl 4 (by decide) (hts (.fieldLink RX3 31 "AnnuityHouse$Loan" "flow" "LAnnuityHouse$Flow;") (by decide +kernel)) (fun _ h9 => h9) rfl dX3_instalmentFor_36 ?_
        refine lv_lload_n hx hb dX3_instalmentFor_39 rfl (lv_at hl 2 rfl) ?_
        refine lv_iload hx hb dX3_instalmentFor_40 (lv_at hl 4 rfl) ?_
        have hz := zln hfr (show 0 ≤ mo ∧ mo ≤ 1000000000 by omega) h3 (show 1 ≤ pn ∧ pn ≤ 60 by omega)
        have k2e : zwv sg sm su (zflow ru rd zone (pn).toNat) := by rw [show pn = i - 1 by omega]; exact k2
        have hb5 := zB35_37 ⟨hz.1, hz.2.1⟩
        refine zc_r (wr := [(y, .inr (4, [vv0, vv1, vv2, vv3, .ref q, .long (lz (le)), .int (iz (pp)), .int (iz (rws))])), (r, .inr (5, [.int (iz (6))])), (sa, .inr (9, [.ref sb, .int (iz (sm)), .long (lz (su))])), (sb, zaL (G.2 0) 40 (sg)), (da, .inr (9, [.ref db, .int (iz (dm)), .long (lz (du))])), (db, zaL (G.2 0) 40 (dg))]) (va_runV (As := [.long (lz (mo)), .int (iz (pn))]) (rest := [.ref r]) ⟨hx, hb, hml, hown, hts⟩ (c_X1_upPower l G q sa da wa wb wf wn wt ru rd pq mo pn (by omega) (by omega) (by omega) (⟨hb5.1, hb5.2.1⟩) H.size) (cwV 2 hts gX3_instalmentFor_X1_upPower rfl rfl rfl (by decide +kernel) ⟨Nat.le_of_ble_eq_true rfl, Nat.le_of_ble_eq_true rfl⟩) (zpV hKX hP hD [4, 1, 2] rfl rfl 4 2 rfl rfl) rfl rfl hl.1 rfl (lv_room (Nat.le_of_ble_eq_true rfl)) dX3_instalmentFor_42 ⟨(by first | exact Nat.le_of_ble_eq_true rfl | (show _ ≤ (0 : Nat); omega)), (by first | exact Nat.le_of_ble_eq_true rfl | (show _ ≤ (0 : Nat); omega))⟩) hP hD hS hA [4, 1, 2] [0, 3, 5, 6, 7, 8] rfl rfl rfl (by decide) (fun u_5 rw_ H locs hw hP hD hS => ?_)
        obtain ⟨wf1, wn1, wt1⟩ := u_5
        have hP : va_P G.1 vwCl [(y, .inr (4, [vv0, vv1, vv2, vv3, .ref q, .long (lz (le)), .int (iz (pp)), .int (iz (rws))])), (r, .inr (5, [.int (iz (6))])), (sa, .inr (9, [.ref sb, .int (iz (sm)), .long (lz (su))])), (sb, zaL (G.2 0) 40 (sg)), (da, .inr (9, [.ref db, .int (iz (dm)), .long (lz (du))])), (db, zaL (G.2 0) 40 (dg)), (q, .inr (2, [.ref sa, .ref da, .ref wa, .long (lz (ru)), .long (lz (rd)), .int (iz (pq))])), (wa, .inr (9, [.ref wb, .int (iz (wn1)), .long (lz (wt1))])), (wb, zaL (G.2 0) 40 (wf1))] H := hP
        have hD : va_D A [(y, .inr (4, [vv0, vv1, vv2, vv3, .ref q, .long (lz (le)), .int (iz (pp)), .int (iz (rws))])), (r, .inr (5, [.int (iz (6))])), (sa, .inr (9, [.ref sb, .int (iz (sm)), .long (lz (su))])), (sb, zaL (G.2 0) 40 (sg)), (da, .inr (9, [.ref db, .int (iz (dm)), .long (lz (du))])), (db, zaL (G.2 0) 40 (dg)), (q, .inr (2, [.ref sa, .ref da, .ref wa, .long (lz (ru)), .long (lz (rd)), .int (iz (pq))])), (wa, .inr (9, [.ref wb, .int (iz (wn1)), .long (lz (wt1))])), (wb, zaL (G.2 0) 40 (wf1))] := hD
        have hw : rw_ = wa ∧ zwv wf1 wn1 wt1 (mo * ru ^ pn.toNat) := hw
        rw [show rw_ = wa from hw.1]
        refine lv_aload_n hx hb dX3_instalmentFor_45 rfl (lv_at hl 1 rfl) ?_
        refine va_get (D := G.1) (ci := 4) (v := .ref q) (C := RX3) (T := TX3) (N := 8) hx hb hts iwX3 hown hK hP 0 rfl rfl 4 (by decide) (hts (.fieldLink RX3 31 "AnnuityHouse$Loan" "flow" "LAnnuityHouse$Flow;") (by decide +kernel)) (fun _ h9 => h9) rfl dX3_instalmentFor_46 ?_
        refine va_get (D := G.1) (ci := 2) (v := .ref sa) (C := RX1) (T := TX1) (N := 6) hx hb hts iwX1 hown hK hP 6 rfl rfl 0 (by decide) (hts (.fieldLink RX3 74 "AnnuityHouse$Flow" "sum" "LAnnuityHouse$Whole;") (by decide +kernel)) (fun _ h9 => h9) rfl dX3_instalmentFor_49 ?_
        refine zc_l (wr := [(y, .inr (4, [vv0, vv1, vv2, vv3, .ref q, .long (lz (le)), .int (iz (pp)), .int (iz (rws))])), (da, .inr (9, [.ref db, .int (iz (dm)), .long (lz (du))])), (db, zaL (G.2 0) 40 (dg)), (q, .inr (2, [.ref sa, .ref da, .ref wa, .long (lz (ru)), .long (lz (rd)), .int (iz (pq))]))]) (va_runV (As := [.ref wa, .ref sa]) (rest := []) ⟨hx, hb, hml, hown, hts⟩ (c_X4_ratio_ l G r wa wb wf1 wn1 wt1 sa sb sg sm su (mo * ru ^ pn.toNat) (zflow ru rd zone (pn).toNat) (hw.2) (k2e) (hz.1) (hz.2.2.1) (hz.2.1) (hz.2.2.2.1) (zln_7 hz.2.2.1 hz.2.2.2.2) H.size) (cwV 2 hts gX3_instalmentFor_X4_ratio_ rfl rfl rfl (by decide +kernel) ⟨Nat.le_of_ble_eq_true rfl, Nat.le_of_ble_eq_true rfl⟩) (zpV hKX hP hD [1, 7, 8, 2, 3] rfl rfl 1 5 rfl rfl) rfl rfl hl.1 rfl (lv_room (Nat.le_of_ble_eq_true rfl)) dX3_instalmentFor_52 ⟨(by first | exact Nat.le_of_ble_eq_true rfl | (show _ ≤ (0 : Nat); omega)), (by first | exact Nat.le_of_ble_eq_true rfl | (show _ ≤ (0 : Nat); omega))⟩) hP hD hS hA [1, 7, 8, 2, 3] [0, 4, 5, 6] rfl rfl rfl (by decide) (fun zz u_7 H locs hq hP hD hS => ?_)
        obtain ⟨wf2, wn2, wt2, sf2, sn2, st2⟩ := u_7
        have hP : va_P G.1 vwCl [(y, .inr (4, [vv0, vv1, vv2, vv3, .ref q, .long (lz (le)), .int (iz (pp)), .int (iz (rws))])), (da, .inr (9, [.ref db, .int (iz (dm)), .long (lz (du))])), (db, zaL (G.2 0) 40 (dg)), (q, .inr (2, [.ref sa, .ref da, .ref wa, .long (lz (ru)), .long (lz (rd)), .int (iz (pq))])), (r, .inr (5, [.int (iz (6))])), (wa, .inr (9, [.ref wb, .int (iz (wn2)), .long (lz (wt2))])), (wb, zaL (G.2 0) 40 (wf2)), (sa, .inr (9, [.ref sb, .int (iz (sn2)), .long (lz (st2))])), (sb, zaL (G.2 0) 40 (sf2))] H := hP
        have hD : va_D A [(y, .inr (4, [vv0, vv1, vv2, vv3, .ref q, .long (lz (le)), .int (iz (pp)), .int (iz (rws))])), (da, .inr (9, [.ref db, .int (iz (dm)), .long (lz (du))])), (db, zaL (G.2 0) 40 (dg)), (q, .inr (2, [.ref sa, .ref da, .ref wa, .long (lz (ru)), .long (lz (rd)), .int (iz (pq))])), (r, .inr (5, [.int (iz (6))])), (wa, .inr (9, [.ref wb, .int (iz (wn2)), .long (lz (wt2))])), (wb, zaL (G.2 0) 40 (wf2)), (sa, .inr (9, [.ref sb, .int (iz (sn2)), .long (lz (st2))])), (sb, zaL (G.2 0) 40 (sf2))] := hD
        have hq : zz = zr6 (mo * ru ^ pn.toNat) (zflow ru rd zone (pn).toNat) := hq
        rw [hQ]
        exact zr_lret (z := zz) (u := (sf2, sn2, st2, dg, dm, du, wf2, wn2, wt2, ru, rd, pq)) hx hb hr hlocks (hP.sub [0, 3, 7, 8, 1, 2, 5, 6, 4] rfl) (hD.sub [0, 3, 7, 8, 1, 2, 5, 6, 4] (by decide) rfl) hS (by first | exact Nat.le_of_ble_eq_true rfl | omega) (by first | exact Nat.le_of_ble_eq_true rfl | omega) dX3_instalmentFor_55 (show zz = zinst mo po pn ∧ zinst mo po pn ≤ 2000000000 from ⟨hq.trans (zinst_c hfr (by omega) h3 (by omega)), zinst_b hfr (by omega) h3 (by omega)⟩)
      ·
        refine lv_aload_n hx hb dX3_instalmentFor_19 rfl (lv_at hl 1 rfl) ?_
        refine va_get (D := G.1) (ci := 4) (v := .ref q) (C := RX3) (T := TX3) (N := 8) hx hb hts iwX3 hown hK hP 0 rfl rfl 4 (by decide) (hts (.fieldLink RX3 31 "AnnuityHouse$Loan" "flow" "LAnnuityHouse$Flow;") (by decide +kernel)) (fun _ h9 => h9) rfl dX3_instalmentFor_20 ?_
        refine lv_lconst (v := lz (1)) hx hb dX3_instalmentFor_23 rfl ?_
        have hb1 := zfl_b (k := i - 1) (A := 1) (am := zone) ⟨hrg.1, hrg.2.2.1⟩ hrg.2.2.2 zone_rng (by omega)
        have hs1 := zwv_small k2 (k := 37) (zB35_37 hb1).2.2 (zB35_37 hb1).2.1
        have hb2 := zrp (P := rd) (k := i - 1) (by omega) (by omega)
        have hs2 := zwv_small k3 (k := 37) (zB35_37 ⟨by omega, hb2.2⟩).2.2 (zB35_37 ⟨by omega, hb2.2⟩).2.1
        have hb3 := zrp (P := rd) (k := i + 1 - 1) (by omega) (by omega)
        rw [← zfl_pow k1.1] at hb3
        have hb4 := zB35_37 ⟨by omega, hb3.2⟩
        refine zc_v (wr := [(y, .inr (4, [vv0, vv1, vv2, vv3, .ref q, .long (lz (le)), .int (iz (pp)), .int (iz (rws))])), (wa, .inr (9, [.ref wb, .int (iz (wn)), .long (lz (wt))])), (wb, zaL (G.2 0) 40 (wf)), (r, .inr (5, [.int (iz (6))]))]) (va_runV (As := [.long (lz (1))]) (rest := []) ⟨hx, hb, hml, hown, hts⟩ (c_X1_next l G q wa sa sb sg sm su da db dg dm du ru rd pq (zflow ru rd zone (i - 1).toNat) (rd ^ (i - 1).toNat) 1 (k2) (k3) (by omega) (by omega) (by omega) (⟨hb4.2.2, hb4.2.1⟩) H.size) (cwV 1 hts gX3_instalmentFor_X1_next rfl rfl rfl (by decide +kernel) ⟨Nat.le_of_ble_eq_true rfl, Nat.le_of_ble_eq_true rfl⟩) (zpV hKX hP hD [4, 5, 6, 7, 8] rfl rfl 4 2 rfl rfl) rfl rfl hl.1 rfl (lv_room (Nat.le_of_ble_eq_true rfl)) dX3_instalmentFor_24 ⟨(by first | exact Nat.le_of_ble_eq_true rfl | (show _ ≤ (0 : Nat); omega)), (by first | exact Nat.le_of_ble_eq_true rfl | (show _ ≤ (0 : Nat); omega))⟩) hP hD hS hA [4, 5, 6, 7, 8] [0, 1, 2, 3] rfl rfl rfl (by decide) (fun u_9 H locs qn hP hD hS => ?_)
        obtain ⟨sf3, sn3, st3, df3, dn3, dt3⟩ := u_9
        have hP : va_P G.1 vwCl [(y, .inr (4, [vv0, vv1, vv2, vv3, .ref q, .long (lz (le)), .int (iz (pp)), .int (iz (rws))])), (wa, .inr (9, [.ref wb, .int (iz (wn)), .long (lz (wt))])), (wb, zaL (G.2 0) 40 (wf)), (r, .inr (5, [.int (iz (6))])), (q, .inr (2, [.ref sa, .ref da, .ref wa, .long (lz (ru)), .long (lz (rd)), .int (iz (pq + 1))])), (sa, .inr (9, [.ref sb, .int (iz (sn3)), .long (lz (st3))])), (sb, zaL (G.2 0) 40 (sf3)), (da, .inr (9, [.ref db, .int (iz (dn3)), .long (lz (dt3))])), (db, zaL (G.2 0) 40 (df3))] H := hP
        have hD : va_D A [(y, .inr (4, [vv0, vv1, vv2, vv3, .ref q, .long (lz (le)), .int (iz (pp)), .int (iz (rws))])), (wa, .inr (9, [.ref wb, .int (iz (wn)), .long (lz (wt))])), (wb, zaL (G.2 0) 40 (wf)), (r, .inr (5, [.int (iz (6))])), (q, .inr (2, [.ref sa, .ref da, .ref wa, .long (lz (ru)), .long (lz (rd)), .int (iz (pq + 1))])), (sa, .inr (9, [.ref sb, .int (iz (sn3)), .long (lz (st3))])), (sb, zaL (G.2 0) 40 (sf3)), (da, .inr (9, [.ref db, .int (iz (dn3)), .long (lz (dt3))])), (db, zaL (G.2 0) 40 (df3))] := hD
        have qn : zwv sf3 sn3 st3 ((zflow ru rd zone (i - 1).toNat) * ru + (rd ^ (i - 1).toNat) * rd * (1 : Int)) ∧ zwv df3 dn3 dt3 ((rd ^ (i - 1).toNat) * rd) := qn
        have qs := qn.1
        rw [zfl_next (am := zone) k1.1 rfl] at qs
        have qd := qn.2
        rw [zfl_pow k1.1] at qd
        refine lv_iinc (v := iz (i + 1)) (lv' := [(6, .int (iz (i + 1))), (0, .ref y), (1, .long (lz (mo))), (3, .int (iz (po))), (4, .int (iz (pn))), (5, .ref r)]) hx hb dX3_instalmentFor_27 hl (k := 0) rfl (by rw [show Int32.ofInt (1) = iz (1) from rfl, iz_add]) (by decide) rfl (fun ls hl => ?_)
        refine lv_goto (tgt := 12) hx hb dX3_instalmentFor_30 (by decide) ?_
        refine W.widen (k := 0 + 0) (n := 0 + 0) (by omega) (by omega) ?_
        exact ih_12 (i + 1) (pq + 1) sf3 sn3 st3 df3 dn3 dt3 _ _ _ (by omega) (by omega) (qs) (qd) (hP) (hD) hS (hl)
  exact hl_12 ((pn + 1 - 1 : Int).toNat + 1) 1 0 sf1 sn1 st1 df1 dn1 dt1 _ _ _ (Nat.lt_succ_self _) (by omega) (hbg.1) (by simpa using hbg.2.1) (hP) (hD) hS (hl)

def rm_c_X3_paidIn : Room := { frames := 1, cells := 0, slots := 0, locals := 23 }
theorem iw_X3_paidIn_X3 : ∀ w ∈ wsX30, w ∈ wsX3_paidIn := by decide +kernel
set_option maxHeartbeats 1000000 in
set_option maxRecDepth 100000 in
theorem c_X3_paidIn (l : Launch) (G : zG) (y : Nat) (nr : Nat) (ne : Nat) (nh : Nat) (tb : Nat) (q : Nat) (fe : Int → Int) (fh : Int → Int) (mo : Int) (pn : Int) (rws : Int) (i : Int) (ow : Int) (ins : Int) (h1 : 1 ≤ i ∧ i ≤ 60 ∧ 0 ≤ ow ∧ ow ≤ 100000000000 ∧ 0 ≤ ins ∧ ins ≤ 2000000000) (h2 : fh i = 0) (h3 : fe i = 0) (h4 : 1 ≤ pn ∧ pn ≤ 60) : zM l G yX3_paidIn wsX3_paidIn rm_c_X3_paidIn [.ref y, .int (iz (i)), .long (lz (ow)), .long (lz (ins))] [(y, .inr (4, [.ref nr, .ref ne, .ref nh, .ref tb, .ref q, .long (lz (mo)), .int (iz (pn)), .int (iz (rws))])), (ne, zaL (G.2 0) 61 (fe)), (nh, zaZ (G.2 2) 61 (fh))] (fun A => zQl G (fun (z : Int) (_ : Unit) => z = if i = pn ∨ ow ≤ ins then ow else ins) (fun (_ : Unit) => [(y, .inr (4, [.ref nr, .ref ne, .ref nh, .ref tb, .ref q, .long (lz (mo)), .int (iz (pn)), .int (iz (rws))])), (ne, zaL (G.2 0) 61 (fe)), (nh, zaZ (G.2 2) 61 (fh))]) A) 0 0 := by
  refine zM_of (cc := cX3_paidIn) (maxL := 6) (ret := (some .long)) (by decide) rfl (Nat.le_of_ble_eq_true rfl) ?_
  intro p e s m below meth c ls A Q hQ hx hb hr hts hown hlocks hml hnm hKX hP hD hA hS hl
  have hK := hKX.1
  have iwX3 := iw_X3_paidIn_X3
  obtain ⟨H, hH⟩ : ∃ h, h = s.heap := ⟨_, rfl⟩
  obtain ⟨locs, hlo⟩ : ∃ h : List Loc, h = [] := ⟨_, rfl⟩
  have hS : va_S A s.heap H locs := by rw [hH, hlo]; exact hS
  have hP : va_P G.1 vwCl [(y, .inr (4, [.ref nr, .ref ne, .ref nh, .ref tb, .ref q, .long (lz (mo)), .int (iz (pn)), .int (iz (rws))])), (ne, zaL (G.2 0) 61 (fe)), (nh, zaZ (G.2 2) 61 (fh))] H := by rw [hH]; exact hP
  have hD : va_D A [(y, .inr (4, [.ref nr, .ref ne, .ref nh, .ref tb, .ref q, .long (lz (mo)), .int (iz (pn)), .int (iz (rws))])), (ne, zaL (G.2 0) 61 (fe)), (nh, zaZ (G.2 2) 61 (fh))] := hD
  have hl : lv_has ls 6 [(0, .ref y), (1, .int (iz (i))), (2, .long (lz (ow))), (4, .long (lz (ins)))] := hl
  rw [← hH, ← hlo]
  refine lv_aload_n hx hb dX3_paidIn_0 rfl (lv_at hl 0 rfl) ?_
  refine va_get (D := G.1) (ci := 4) (v := .ref nh) (C := RX3) (T := TX3) (N := 8) hx hb hts iwX3 hown hK hP 0 rfl rfl 2 (by decide) (hts (.fieldLink RX3 19 "AnnuityHouse$Loan" "holidays" "[Z") (by decide +kernel)) (fun _ h9 => h9) rfl dX3_paidIn_1 ?_
  refine lv_iload_n hx hb dX3_paidIn_4 rfl (lv_at hl 1 rfl) ?_
  refine zr_zald hx hb hK hP 2 2 rfl rfl (i := i) (⟨by omega, by omega, by omega⟩) dX3_paidIn_5 ?_
  have ehp : fh i = 0 := h2
  refine zr_if_eq (x := fh i) (tgt := 11) hx hb (⟨by omega, by omega⟩) dX3_paidIn_6 (by decide) (fun h_1 => ?_) (fun h_1 => ?_)
  ·
    refine lv_iload_n hx hb dX3_paidIn_11 rfl (lv_at hl 1 rfl) ?_
    refine lv_aload_n hx hb dX3_paidIn_12 rfl (lv_at hl 0 rfl) ?_
    refine va_get (D := G.1) (ci := 4) (v := .int (iz (pn))) (C := RX3) (T := TX3) (N := 8) hx hb hts iwX3 hown hK hP 0 rfl rfl 6 (by decide) (hts (.fieldLink RX3 39 "AnnuityHouse$Loan" "periods" "I") (by decide +kernel)) (fun _ h9 => h9) rfl dX3_paidIn_13 ?_
    refine zr_icmp_eq (x := i) (y := pn) (tgt := 26) hx hb (⟨by omega, by omega⟩) (⟨by omega, by omega⟩) dX3_paidIn_16 (by decide) (fun h_2 => ?_) (fun h_2 => ?_)
    ·
      refine lv_lload_n hx hb dX3_paidIn_26 rfl (lv_at hl 2 rfl) ?_
      rw [hQ]
      exact zr_lret (z := ow) (u := ()) hx hb hr hlocks hP hD hS (by first | exact Nat.le_of_ble_eq_true rfl | omega) (by first | exact Nat.le_of_ble_eq_true rfl | omega) dX3_paidIn_27 (show ow = if i = pn ∨ ow ≤ ins then ow else ins from by first | exact (if_pos (by omega)).symm | (rw [if_pos (by omega)]))
    ·
      refine lv_lload_n hx hb dX3_paidIn_19 rfl (lv_at hl 2 rfl) ?_
      refine lv_lload hx hb dX3_paidIn_20 (lv_at hl 3 rfl) ?_
      refine zr_lcmp_gt (x := ow) (y := ins) (tgt := 28) hx hb (⟨by omega, by omega⟩) (⟨by omega, by omega⟩) dX3_paidIn_22 dX3_paidIn_23 (by decide) (fun h_3 => ?_) (fun h_3 => ?_)
      ·
        refine lv_lload hx hb dX3_paidIn_28 (lv_at hl 3 rfl) ?_
        refine lv_aload_n hx hb dX3_paidIn_30 rfl (lv_at hl 0 rfl) ?_
        refine va_get (D := G.1) (ci := 4) (v := .ref ne) (C := RX3) (T := TX3) (N := 8) hx hb hts iwX3 hown hK hP 0 rfl rfl 1 (by decide) (hts (.fieldLink RX3 15 "AnnuityHouse$Loan" "earlies" "[J") (by decide +kernel)) (fun _ h9 => h9) rfl dX3_paidIn_31 ?_
        refine lv_iload_n hx hb dX3_paidIn_34 rfl (lv_at hl 1 rfl) ?_
        refine zr_lald hx hb hK hP 1 0 rfl rfl (i := i) (⟨by omega, by omega, by omega⟩) dX3_paidIn_35 ?_
        refine lv_lload_n hx hb dX3_paidIn_36 rfl (lv_at hl 2 rfl) ?_
        refine lv_lload hx hb dX3_paidIn_37 (lv_at hl 3 rfl) ?_
        refine zr_lsub hx hb dX3_paidIn_39 ?_
        refine zr_mminL (x := fe i) (y := ow - ins) hx hb (hml.trans hl.1.symm) hown (hts (.methodLink RX3 81 Lib.MathLoose.min_long.x) (by decide +kernel)) (hts (.static Lib.MathLoose.min_long.x) (by decide +kernel)) (hts (.initialized "java/lang/Math") (by decide +kernel)) (hts (.code Lib.MathLoose.min_long.x Lib.MathLoose.min_long.code 4 (some .long)) (by decide +kernel)) (Nat.le_of_ble_eq_true rfl) (Nat.le_of_ble_eq_true rfl) (by first | exact Nat.le_of_ble_eq_true rfl | (show _ ≤ (0 : Nat); omega)) (by first | exact Nat.le_of_ble_eq_true rfl | (show _ ≤ (0 : Nat); omega)) (⟨by omega, by omega⟩) (⟨by omega, by omega⟩) dX3_paidIn_40 ?_
        refine zr_ladd hx hb dX3_paidIn_43 ?_
        rw [hQ]
        exact zr_lret (z := ins + (min (fe i) (ow - ins))) (u := ()) hx hb hr hlocks hP hD hS (by first | exact Nat.le_of_ble_eq_true rfl | omega) (by first | exact Nat.le_of_ble_eq_true rfl | omega) dX3_paidIn_44 (show (ins + (min (fe i) (ow - ins))) = if i = pn ∨ ow ≤ ins then ow else ins from by rw [if_neg (by omega), h3]; omega)
      ·
        refine lv_lload_n hx hb dX3_paidIn_26 rfl (lv_at hl 2 rfl) ?_
        rw [hQ]
        exact zr_lret (z := ow) (u := ()) hx hb hr hlocks hP hD hS (by first | exact Nat.le_of_ble_eq_true rfl | omega) (by first | exact Nat.le_of_ble_eq_true rfl | omega) dX3_paidIn_27 (show ow = if i = pn ∨ ow ≤ ins then ow else ins from by first | exact (if_pos (by omega)).symm | (rw [if_pos (by omega)]))
  · exact absurd h_1 (by omega)

def rm_c_X3_cell : Room := { frames := 0, cells := 0, slots := 0, locals := 0 }
theorem iw_X3_cell_X3 : ∀ w ∈ wsX30, w ∈ wsX3_cell := by decide +kernel
set_option maxHeartbeats 1000000 in
set_option maxRecDepth 100000 in
theorem c_X3_cell (l : Launch) (G : zG) (y : Nat) (nr : Nat) (ne : Nat) (nh : Nat) (tb : Nat) (q : Nat) (tr : Nat → Nat) (t6 : Int → Int) (mo : Int) (pn : Int) (rws : Int)  : zM l G yX3_cell wsX3_cell rm_c_X3_cell [.ref y, .int (iz (1)), .int (iz (6))] [(y, .inr (4, [.ref nr, .ref ne, .ref nh, .ref tb, .ref q, .long (lz (mo)), .int (iz (pn)), .int (iz (rws))])), (tb, zaR (G.2 3) 7 (ztb tr)), ((tr 6), zaL (G.2 0) 61 (t6))] (fun A => zQl G (fun (z : Int) (_ : Unit) => z = t6 1) (fun (_ : Unit) => [(y, .inr (4, [.ref nr, .ref ne, .ref nh, .ref tb, .ref q, .long (lz (mo)), .int (iz (pn)), .int (iz (rws))])), (tb, zaR (G.2 3) 7 (ztb tr)), ((tr 6), zaL (G.2 0) 61 (t6))]) A) 0 0 := by
  refine zM_of (cc := cX3_cell) (maxL := 3) (ret := (some .long)) (by decide) rfl (Nat.le_of_ble_eq_true rfl) ?_
  intro p e s m below meth c ls A Q hQ hx hb hr hts hown hlocks hml hnm hKX hP hD hA hS hl
  have hK := hKX.1
  have iwX3 := iw_X3_cell_X3
  obtain ⟨H, hH⟩ : ∃ h, h = s.heap := ⟨_, rfl⟩
  obtain ⟨locs, hlo⟩ : ∃ h : List Loc, h = [] := ⟨_, rfl⟩
  have hS : va_S A s.heap H locs := by rw [hH, hlo]; exact hS
  have hP : va_P G.1 vwCl [(y, .inr (4, [.ref nr, .ref ne, .ref nh, .ref tb, .ref q, .long (lz (mo)), .int (iz (pn)), .int (iz (rws))])), (tb, zaR (G.2 3) 7 (ztb tr)), ((tr 6), zaL (G.2 0) 61 (t6))] H := by rw [hH]; exact hP
  have hD : va_D A [(y, .inr (4, [.ref nr, .ref ne, .ref nh, .ref tb, .ref q, .long (lz (mo)), .int (iz (pn)), .int (iz (rws))])), (tb, zaR (G.2 3) 7 (ztb tr)), ((tr 6), zaL (G.2 0) 61 (t6))] := hD
  have hl : lv_has ls 3 [(0, .ref y), (1, .int (iz (1))), (2, .int (iz (6)))] := hl
  rw [← hH, ← hlo]
  refine lv_aload_n hx hb dX3_cell_0 rfl (lv_at hl 0 rfl) ?_
  refine va_get (D := G.1) (ci := 4) (v := .ref tb) (C := RX3) (T := TX3) (N := 8) hx hb hts iwX3 hown hK hP 0 rfl rfl 3 (by decide) (hts (.fieldLink RX3 25 "AnnuityHouse$Loan" "table" "[[J") (by decide +kernel)) (fun _ h9 => h9) rfl dX3_cell_1 ?_
  refine lv_iload_n hx hb dX3_cell_4 rfl (lv_at hl 2 rfl) ?_
  refine zr_aldA (v := (tr 6)) hx hb hK hP 1 rfl (i := 6) (⟨by omega, by omega, by omega⟩) (ztb_at (by decide)) dX3_cell_5 ?_
  refine lv_iload_n hx hb dX3_cell_6 rfl (lv_at hl 1 rfl) ?_
  refine zr_lald hx hb hK hP 2 0 rfl rfl (i := 1) (⟨by omega, by omega, by omega⟩) dX3_cell_7 ?_
  rw [hQ]
  exact zr_lret (z := t6 1) (u := ()) hx hb hr hlocks hP hD hS (by first | exact Nat.le_of_ble_eq_true rfl | omega) (by first | exact Nat.le_of_ble_eq_true rfl | omega) dX3_cell_8 (show (t6 1) = t6 1 from rfl)

def rm_c_X3_sumOf : Room := { frames := 0, cells := 0, slots := 0, locals := 0 }
theorem iw_X3_sumOf_X3 : ∀ w ∈ wsX30, w ∈ wsX3_sumOf := by decide +kernel
set_option maxHeartbeats 1000000 in
set_option maxRecDepth 100000 in
theorem c_X3_sumOf (l : Launch) (G : zG) (y : Nat) (nr : Nat) (ne : Nat) (nh : Nat) (tb : Nat) (q : Nat) (mo : Int) (pn : Int) (wh : Int)  : zM l G yX3_sumOf wsX3_sumOf rm_c_X3_sumOf [.ref y, .int (iz (wh))] [(y, .inr (4, [.ref nr, .ref ne, .ref nh, .ref tb, .ref q, .long (lz (mo)), .int (iz (pn)), .int (iz (0))]))] (fun A => zQl G (fun (z : Int) (_ : Unit) => z = 0) (fun (_ : Unit) => [(y, .inr (4, [.ref nr, .ref ne, .ref nh, .ref tb, .ref q, .long (lz (mo)), .int (iz (pn)), .int (iz (0))]))]) A) 0 0 := by
  refine zM_of (cc := cX3_sumOf) (maxL := 5) (ret := (some .long)) (by decide) rfl (Nat.le_of_ble_eq_true rfl) ?_
  intro p e s m below meth c ls A Q hQ hx hb hr hts hown hlocks hml hnm hKX hP hD hA hS hl
  have hK := hKX.1
  have iwX3 := iw_X3_sumOf_X3
  obtain ⟨H, hH⟩ : ∃ h, h = s.heap := ⟨_, rfl⟩
  obtain ⟨locs, hlo⟩ : ∃ h : List Loc, h = [] := ⟨_, rfl⟩
  have hS : va_S A s.heap H locs := by rw [hH, hlo]; exact hS
  have hP : va_P G.1 vwCl [(y, .inr (4, [.ref nr, .ref ne, .ref nh, .ref tb, .ref q, .long (lz (mo)), .int (iz (pn)), .int (iz (0))]))] H := by rw [hH]; exact hP
  have hD : va_D A [(y, .inr (4, [.ref nr, .ref ne, .ref nh, .ref tb, .ref q, .long (lz (mo)), .int (iz (pn)), .int (iz (0))]))] := hD
  have hl : lv_has ls 5 [(0, .ref y), (1, .int (iz (wh)))] := hl
  rw [← hH, ← hlo]
  refine lv_lconst (v := lz (0)) hx hb dX3_sumOf_0 rfl ?_
  refine lv_lstore_n (lv' := [(2, .long (lz (0))), (0, .ref y), (1, .int (iz (wh)))]) hx hb dX3_sumOf_1 rfl hl (by decide) rfl (fun ls hl => ?_)
  refine lv_iconst (v := iz (1)) hx hb dX3_sumOf_2 rfl ?_
  refine lv_istore (lv' := [(4, .int (iz (1))), (2, .long (lz (0))), (0, .ref y), (1, .int (iz (wh)))]) hx hb dX3_sumOf_3 hl (by decide) rfl (fun ls hl => ?_)
  refine lv_iload hx hb dX3_sumOf_5 (lv_at hl 0 rfl) ?_
  refine lv_aload_n hx hb dX3_sumOf_7 rfl (lv_at hl 2 rfl) ?_
  refine va_get (D := G.1) (ci := 4) (v := .int (iz (0))) (C := RX3) (T := TX3) (N := 8) hx hb hts iwX3 hown hK hP 0 rfl rfl 7 (by decide) (hts (.fieldLink RX3 43 "AnnuityHouse$Loan" "tableRows" "I") (by decide +kernel)) (fun _ h9 => h9) rfl dX3_sumOf_8 ?_
  refine zr_icmp_gt (x := 1) (y := 0) (tgt := 32) hx hb (⟨by omega, by omega⟩) (⟨by omega, by omega⟩) dX3_sumOf_11 (by decide) (fun h_1 => ?_) (fun h_1 => ?_)
  ·
    refine lv_lload_n hx hb dX3_sumOf_32 rfl (lv_at hl 1 rfl) ?_
    rw [hQ]
    exact zr_lret (z := 0) (u := ()) hx hb hr hlocks hP hD hS (by first | exact Nat.le_of_ble_eq_true rfl | omega) (by first | exact Nat.le_of_ble_eq_true rfl | omega) dX3_sumOf_33 (show 0 = 0 from rfl)
  · exact absurd h_1 (by omega)

def rm_c_X3_isRepaid : Room := { frames := 1, cells := 0, slots := 0, locals := 24 }
theorem iw_X3_isRepaid_X3 : ∀ w ∈ wsX30, w ∈ wsX3_isRepaid := by decide +kernel
set_option maxHeartbeats 1000000 in
set_option maxRecDepth 100000 in
theorem c_X3_isRepaid (l : Launch) (G : zG) (y : Nat) (nr : Nat) (ne : Nat) (nh : Nat) (tb : Nat) (q : Nat) (pn : Int)  : zM l G yX3_isRepaid wsX3_isRepaid rm_c_X3_isRepaid [.ref y] [(y, .inr (4, [.ref nr, .ref ne, .ref nh, .ref tb, .ref q, .long (lz (0)), .int (iz (pn)), .int (iz (0))]))] (fun A => zQz G (fun (z : Bool) (_ : Unit) => z = true) (fun (_ : Unit) => [(y, .inr (4, [.ref nr, .ref ne, .ref nh, .ref tb, .ref q, .long (lz (0)), .int (iz (pn)), .int (iz (0))]))]) A) 0 0 := by
  refine zM_of (cc := cX3_isRepaid) (maxL := 1) (ret := (some .boolean)) (by decide) rfl (Nat.le_of_ble_eq_true rfl) ?_
  intro p e s m below meth c ls A Q hQ hx hb hr hts hown hlocks hml hnm hKX hP hD hA hS hl
  have hK := hKX.1
  have iwX3 := iw_X3_isRepaid_X3
  obtain ⟨H, hH⟩ : ∃ h, h = s.heap := ⟨_, rfl⟩
  obtain ⟨locs, hlo⟩ : ∃ h : List Loc, h = [] := ⟨_, rfl⟩
  have hS : va_S A s.heap H locs := by rw [hH, hlo]; exact hS
  have hP : va_P G.1 vwCl [(y, .inr (4, [.ref nr, .ref ne, .ref nh, .ref tb, .ref q, .long (lz (0)), .int (iz (pn)), .int (iz (0))]))] H := by rw [hH]; exact hP
  have hD : va_D A [(y, .inr (4, [.ref nr, .ref ne, .ref nh, .ref tb, .ref q, .long (lz (0)), .int (iz (pn)), .int (iz (0))]))] := hD
  have hl : lv_has ls 1 [(0, .ref y)] := hl
  rw [← hH, ← hlo]
  refine lv_aload_n hx hb dX3_isRepaid_0 rfl (lv_at hl 0 rfl) ?_
  refine lv_iconst (v := iz (3)) hx hb dX3_isRepaid_1 rfl ?_
  refine zc_l (wr := []) (va_runV (As := [.int (iz (3))]) (rest := []) ⟨hx, hb, hml, hown, hts⟩ (c_X3_sumOf l G y nr ne nh tb q 0 pn 3  H.size) (cwV 1 hts gX3_isRepaid_X3_sumOf rfl rfl rfl (by decide +kernel) ⟨Nat.le_of_ble_eq_true rfl, Nat.le_of_ble_eq_true rfl⟩) (zpV hKX hP hD [0] rfl rfl 0 4 rfl rfl) rfl rfl hl.1 rfl (lv_room (Nat.le_of_ble_eq_true rfl)) dX3_isRepaid_2 ⟨(by first | exact Nat.le_of_ble_eq_true rfl | (show _ ≤ (0 : Nat); omega)), (by first | exact Nat.le_of_ble_eq_true rfl | (show _ ≤ (0 : Nat); omega))⟩) hP hD hS hA [0] [] rfl rfl rfl (by decide) (fun z1 u_1 H locs hz1 hP hD hS => ?_)
  have hP : va_P G.1 vwCl [(y, .inr (4, [.ref nr, .ref ne, .ref nh, .ref tb, .ref q, .long (lz ((0 : Int))), .int (iz (pn)), .int (iz (0))]))] H := hP
  have hD : va_D A [(y, .inr (4, [.ref nr, .ref ne, .ref nh, .ref tb, .ref q, .long (lz ((0 : Int))), .int (iz (pn)), .int (iz (0))]))] := hD
  have hz1 : z1 = 0 := hz1
  rw [show z1 = 0 from hz1]
  refine lv_aload_n hx hb dX3_isRepaid_5 rfl (lv_at hl 0 rfl) ?_
  refine va_get (D := G.1) (ci := 4) (v := .long (lz ((0 : Int)))) (C := RX3) (T := TX3) (N := 8) hx hb hts iwX3 hown hK hP 0 rfl rfl 5 (by decide) (hts (.fieldLink RX3 35 "AnnuityHouse$Loan" "lent" "J") (by decide +kernel)) (fun _ h9 => h9) rfl dX3_isRepaid_6 ?_
  refine zr_lcmp_ne (x := 0) (y := (0 : Int)) (tgt := 36) hx hb (⟨by omega, by omega⟩) (⟨by omega, by omega⟩) dX3_isRepaid_9 dX3_isRepaid_10 (by decide) (fun h_3 => ?_) (fun h_3 => ?_)
  · exact absurd h_3 (by omega)
  ·
    refine lv_aload_n hx hb dX3_isRepaid_13 rfl (lv_at hl 0 rfl) ?_
    refine lv_iconst (v := iz (2)) hx hb dX3_isRepaid_14 rfl ?_
    refine zc_l (wr := []) (va_runV (As := [.int (iz (2))]) (rest := []) ⟨hx, hb, hml, hown, hts⟩ (c_X3_sumOf l G y nr ne nh tb q 0 pn 2  H.size) (cwV 1 hts gX3_isRepaid_X3_sumOf rfl rfl rfl (by decide +kernel) ⟨Nat.le_of_ble_eq_true rfl, Nat.le_of_ble_eq_true rfl⟩) (zpV hKX hP hD [0] rfl rfl 0 4 rfl rfl) rfl rfl hl.1 rfl (lv_room (Nat.le_of_ble_eq_true rfl)) dX3_isRepaid_15 ⟨(by first | exact Nat.le_of_ble_eq_true rfl | (show _ ≤ (0 : Nat); omega)), (by first | exact Nat.le_of_ble_eq_true rfl | (show _ ≤ (0 : Nat); omega))⟩) hP hD hS hA [0] [] rfl rfl rfl (by decide) (fun z2 u_4 H locs hz2 hP hD hS => ?_)
    have hP : va_P G.1 vwCl [(y, .inr (4, [.ref nr, .ref ne, .ref nh, .ref tb, .ref q, .long (lz ((0 : Int))), .int (iz (pn)), .int (iz (0))]))] H := hP
    have hD : va_D A [(y, .inr (4, [.ref nr, .ref ne, .ref nh, .ref tb, .ref q, .long (lz ((0 : Int))), .int (iz (pn)), .int (iz (0))]))] := hD
    have hz2 : z2 = 0 := hz2
    rw [show z2 = 0 from hz2]
    refine lv_aload_n hx hb dX3_isRepaid_18 rfl (lv_at hl 0 rfl) ?_
    refine va_get (D := G.1) (ci := 4) (v := .long (lz ((0 : Int)))) (C := RX3) (T := TX3) (N := 8) hx hb hts iwX3 hown hK hP 0 rfl rfl 5 (by decide) (hts (.fieldLink RX3 35 "AnnuityHouse$Loan" "lent" "J") (by decide +kernel)) (fun _ h9 => h9) rfl dX3_isRepaid_19 ?_
    refine lv_aload_n hx hb dX3_isRepaid_22 rfl (lv_at hl 0 rfl) ?_
    refine lv_iconst (v := iz (1)) hx hb dX3_isRepaid_23 rfl ?_
    refine zc_l (wr := []) (va_runV (As := [.int (iz (1))]) (rest := [.long (lz ((0 : Int))), .long (lz (0))]) ⟨hx, hb, hml, hown, hts⟩ (c_X3_sumOf l G y nr ne nh tb q 0 pn 1  H.size) (cwV 1 hts gX3_isRepaid_X3_sumOf rfl rfl rfl (by decide +kernel) ⟨Nat.le_of_ble_eq_true rfl, Nat.le_of_ble_eq_true rfl⟩) (zpV hKX hP hD [0] rfl rfl 0 4 rfl rfl) rfl rfl hl.1 rfl (lv_room (Nat.le_of_ble_eq_true rfl)) dX3_isRepaid_24 ⟨(by first | exact Nat.le_of_ble_eq_true rfl | (show _ ≤ (0 : Nat); omega)), (by first | exact Nat.le_of_ble_eq_true rfl | (show _ ≤ (0 : Nat); omega))⟩) hP hD hS hA [0] [] rfl rfl rfl (by decide) (fun z3 u_6 H locs hz3 hP hD hS => ?_)
    have hP : va_P G.1 vwCl [(y, .inr (4, [.ref nr, .ref ne, .ref nh, .ref tb, .ref q, .long (lz ((0 : Int))), .int (iz (pn)), .int (iz (0))]))] H := hP
    have hD : va_D A [(y, .inr (4, [.ref nr, .ref ne, .ref nh, .ref tb, .ref q, .long (lz ((0 : Int))), .int (iz (pn)), .int (iz (0))]))] := hD
    have hz3 : z3 = 0 := hz3
    rw [show z3 = 0 from hz3]
    refine zr_ladd hx hb dX3_isRepaid_27 ?_
    refine zr_lcmp_ne (x := 0) (y := 0 + 0) (tgt := 36) hx hb (⟨by omega, by omega⟩) (⟨by omega, by omega⟩) dX3_isRepaid_28 dX3_isRepaid_29 (by decide) (fun h_8 => ?_) (fun h_8 => ?_)
    · exact absurd h_8 (by omega)
    ·
      refine lv_iconst (v := iz (1)) hx hb dX3_isRepaid_32 rfl ?_
      refine lv_goto (tgt := 37) hx hb dX3_isRepaid_33 (by decide) ?_
      rw [hQ]
      exact zr_zret (z := true) (rfl) (u := ()) hx hb hr hlocks hP hD hS (by first | exact Nat.le_of_ble_eq_true rfl | omega) (by first | exact Nat.le_of_ble_eq_true rfl | omega) dX3_isRepaid_37 (show true = true from rfl)

def rm_c_X3_workOut : Room := { frames := 5, cells := 0, slots := 0, locals := 144 }
theorem iw_X3_workOut_X3 : ∀ w ∈ wsX30, w ∈ wsX3_workOut := by decide +kernel
set_option maxHeartbeats 1000000 in
set_option maxRecDepth 100000 in
theorem c_X3_workOut (l : Launch) (G : zG) (y : Nat) (nr : Nat) (ne : Nat) (nh : Nat) (tb : Nat) (q : Nat) (r : Nat) (tr : Nat → Nat) (t0 : Int → Int) (t1 : Int → Int) (t2 : Int → Int) (t3 : Int → Int) (t4 : Int → Int) (t5 : Int → Int) (t6 : Int → Int) (fr : Int → Int) (fe : Int → Int) (fh : Int → Int) (mo : Int) (po : Int) (pn : Int) (rws : Int) (sa : Nat) (sb : Nat) (sf : Int → Int) (sn : Int) (st : Int) (da : Nat) (db : Nat) (df : Int → Int) (dn : Int) (dt : Int) (wa : Nat) (wb : Nat) (wf : Int → Int) (wn : Int) (wt : Int) (u0 : Int) (d0 : Int) (p0 : Int) (h1 : 1 ≤ mo ∧ mo ≤ 1000000000 ∧ 0 ≤ po ∧ po ≤ 20000 ∧ 1 ≤ pn ∧ pn ≤ 60) (hf : ∀ k : Int, 1 ≤ k → k ≤ 60 → fr k = (if k = 1 then po else -1) ∧ fe k = 0 ∧ fh k = 0) : zM l G yX3_workOut wsX3_workOut rm_c_X3_workOut [.ref y, .ref r] [(y, .inr (4, [.ref nr, .ref ne, .ref nh, .ref tb, .ref q, .long (lz (mo)), .int (iz (pn)), .int (iz (rws))])), (nr, zaI (G.2 1) 61 (fr)), (ne, zaL (G.2 0) 61 (fe)), (nh, zaZ (G.2 2) 61 (fh)), (tb, zaR (G.2 3) 7 (ztb tr)), ((tr 0), zaL (G.2 0) 61 (t0)), ((tr 1), zaL (G.2 0) 61 (t1)), ((tr 2), zaL (G.2 0) 61 (t2)), ((tr 3), zaL (G.2 0) 61 (t3)), ((tr 4), zaL (G.2 0) 61 (t4)), ((tr 5), zaL (G.2 0) 61 (t5)), ((tr 6), zaL (G.2 0) 61 (t6)), (q, .inr (2, [.ref sa, .ref da, .ref wa, .long (lz (u0)), .long (lz (d0)), .int (iz (p0))])), (sa, .inr (9, [.ref sb, .int (iz (sn)), .long (lz (st))])), (sb, zaL (G.2 0) 40 (sf)), (da, .inr (9, [.ref db, .int (iz (dn)), .long (lz (dt))])), (db, zaL (G.2 0) 40 (df)), (wa, .inr (9, [.ref wb, .int (iz (wn)), .long (lz (wt))])), (wb, zaL (G.2 0) 40 (wf)), (r, .inr (5, [.int (iz (6))]))] (fun A => zQv G (fun (u : (Int → Int) × (Int → Int) × (Int → Int) × (Int → Int) × (Int → Int) × (Int → Int) × (Int → Int) × Int × (Int → Int) × Int × Int × (Int → Int) × Int × Int × (Int → Int) × Int × Int × Int × Int × Int) => u.2.2.2.2.2.2.1 1 = zinst mo po pn) (fun (u : (Int → Int) × (Int → Int) × (Int → Int) × (Int → Int) × (Int → Int) × (Int → Int) × (Int → Int) × Int × (Int → Int) × Int × Int × (Int → Int) × Int × Int × (Int → Int) × Int × Int × Int × Int × Int) => [(y, .inr (4, [.ref nr, .ref ne, .ref nh, .ref tb, .ref q, .long (lz (mo)), .int (iz (pn)), .int (iz (u.2.2.2.2.2.2.2.1))])), (nr, zaI (G.2 1) 61 (fr)), (ne, zaL (G.2 0) 61 (fe)), (nh, zaZ (G.2 2) 61 (fh)), (tb, zaR (G.2 3) 7 (ztb tr)), ((tr 0), zaL (G.2 0) 61 (u.1)), ((tr 1), zaL (G.2 0) 61 (u.2.1)), ((tr 2), zaL (G.2 0) 61 (u.2.2.1)), ((tr 3), zaL (G.2 0) 61 (u.2.2.2.1)), ((tr 4), zaL (G.2 0) 61 (u.2.2.2.2.1)), ((tr 5), zaL (G.2 0) 61 (u.2.2.2.2.2.1)), ((tr 6), zaL (G.2 0) 61 (u.2.2.2.2.2.2.1)), (q, .inr (2, [.ref sa, .ref da, .ref wa, .long (lz (u.2.2.2.2.2.2.2.2.2.2.2.2.2.2.2.2.2.1)), .long (lz (u.2.2.2.2.2.2.2.2.2.2.2.2.2.2.2.2.2.2.1)), .int (iz (u.2.2.2.2.2.2.2.2.2.2.2.2.2.2.2.2.2.2.2))])), (sa, .inr (9, [.ref sb, .int (iz (u.2.2.2.2.2.2.2.2.2.1)), .long (lz (u.2.2.2.2.2.2.2.2.2.2.1))])), (sb, zaL (G.2 0) 40 (u.2.2.2.2.2.2.2.2.1)), (da, .inr (9, [.ref db, .int (iz (u.2.2.2.2.2.2.2.2.2.2.2.2.1)), .long (lz (u.2.2.2.2.2.2.2.2.2.2.2.2.2.1))])), (db, zaL (G.2 0) 40 (u.2.2.2.2.2.2.2.2.2.2.2.1)), (wa, .inr (9, [.ref wb, .int (iz (u.2.2.2.2.2.2.2.2.2.2.2.2.2.2.2.1)), .long (lz (u.2.2.2.2.2.2.2.2.2.2.2.2.2.2.2.2.1))])), (wb, zaL (G.2 0) 40 (u.2.2.2.2.2.2.2.2.2.2.2.2.2.2.1)), (r, .inr (5, [.int (iz (6))]))]) A) 0 0 := by
  refine zM_of (cc := cX3_workOut) (maxL := 12) (ret := none) (by decide) rfl (Nat.le_of_ble_eq_true rfl) ?_
  intro p e s m below meth c ls A Q hQ hx hb hr hts hown hlocks hml hnm hKX hP hD hA hS hl
  have hK := hKX.1
  have iwX3 := iw_X3_workOut_X3
  obtain ⟨H, hH⟩ : ∃ h, h = s.heap := ⟨_, rfl⟩
  obtain ⟨locs, hlo⟩ : ∃ h : List Loc, h = [] := ⟨_, rfl⟩
  have hS : va_S A s.heap H locs := by rw [hH, hlo]; exact hS
  have hP : va_P G.1 vwCl [(y, .inr (4, [.ref nr, .ref ne, .ref nh, .ref tb, .ref q, .long (lz (mo)), .int (iz (pn)), .int (iz (rws))])), (nr, zaI (G.2 1) 61 (fr)), (ne, zaL (G.2 0) 61 (fe)), (nh, zaZ (G.2 2) 61 (fh)), (tb, zaR (G.2 3) 7 (ztb tr)), ((tr 0), zaL (G.2 0) 61 (t0)), ((tr 1), zaL (G.2 0) 61 (t1)), ((tr 2), zaL (G.2 0) 61 (t2)), ((tr 3), zaL (G.2 0) 61 (t3)), ((tr 4), zaL (G.2 0) 61 (t4)), ((tr 5), zaL (G.2 0) 61 (t5)), ((tr 6), zaL (G.2 0) 61 (t6)), (q, .inr (2, [.ref sa, .ref da, .ref wa, .long (lz (u0)), .long (lz (d0)), .int (iz (p0))])), (sa, .inr (9, [.ref sb, .int (iz (sn)), .long (lz (st))])), (sb, zaL (G.2 0) 40 (sf)), (da, .inr (9, [.ref db, .int (iz (dn)), .long (lz (dt))])), (db, zaL (G.2 0) 40 (df)), (wa, .inr (9, [.ref wb, .int (iz (wn)), .long (lz (wt))])), (wb, zaL (G.2 0) 40 (wf)), (r, .inr (5, [.int (iz (6))]))] H := by rw [hH]; exact hP
  have hD : va_D A [(y, .inr (4, [.ref nr, .ref ne, .ref nh, .ref tb, .ref q, .long (lz (mo)), .int (iz (pn)), .int (iz (rws))])), (nr, zaI (G.2 1) 61 (fr)), (ne, zaL (G.2 0) 61 (fe)), (nh, zaZ (G.2 2) 61 (fh)), (tb, zaR (G.2 3) 7 (ztb tr)), ((tr 0), zaL (G.2 0) 61 (t0)), ((tr 1), zaL (G.2 0) 61 (t1)), ((tr 2), zaL (G.2 0) 61 (t2)), ((tr 3), zaL (G.2 0) 61 (t3)), ((tr 4), zaL (G.2 0) 61 (t4)), ((tr 5), zaL (G.2 0) 61 (t5)), ((tr 6), zaL (G.2 0) 61 (t6)), (q, .inr (2, [.ref sa, .ref da, .ref wa, .long (lz (u0)), .long (lz (d0)), .int (iz (p0))])), (sa, .inr (9, [.ref sb, .int (iz (sn)), .long (lz (st))])), (sb, zaL (G.2 0) 40 (sf)), (da, .inr (9, [.ref db, .int (iz (dn)), .long (lz (dt))])), (db, zaL (G.2 0) 40 (df)), (wa, .inr (9, [.ref wb, .int (iz (wn)), .long (lz (wt))])), (wb, zaL (G.2 0) 40 (wf)), (r, .inr (5, [.int (iz (6))]))] := hD
  have hl : lv_has ls 12 [(0, .ref y), (1, .ref r)] := hl
  rw [← hH, ← hlo]
  have hf1 := (hf 1 (by omega) (by omega)).1.trans (if_pos rfl)
  refine lv_aload_n hx hb dX3_workOut_0 rfl (lv_at hl 0 rfl) ?_
  refine va_get (D := G.1) (ci := 4) (v := .long (lz (mo))) (C := RX3) (T := TX3) (N := 8) hx hb hts iwX3 hown hK hP 0 rfl rfl 5 (by decide) (hts (.fieldLink RX3 35 "AnnuityHouse$Loan" "lent" "J") (by decide +kernel)) (fun _ h9 => h9) rfl dX3_workOut_1 ?_
  refine lv_lstore_n (lv' := [(2, .long (lz (mo))), (0, .ref y), (1, .ref r)]) hx hb dX3_workOut_4 rfl hl (by decide) rfl (fun ls hl => ?_)
  refine lv_lconst (v := lz (0)) hx hb dX3_workOut_5 rfl ?_
  refine lv_lstore (lv' := [(4, .long (lz (0))), (2, .long (lz (mo))), (0, .ref y), (1, .ref r)]) hx hb dX3_workOut_6 hl (by decide) rfl (fun ls hl => ?_)
  refine lv_iconst (v := iz (0)) hx hb dX3_workOut_8 rfl ?_
  refine lv_istore (lv' := [(6, .int (iz (0))), (4, .long (lz (0))), (2, .long (lz (mo))), (0, .ref y), (1, .ref r)]) hx hb dX3_workOut_9 hl (by decide) rfl (fun ls hl => ?_)
  refine lv_aload_n hx hb dX3_workOut_11 rfl (lv_at hl 3 rfl) ?_
  refine lv_iconst (v := iz (0)) hx hb dX3_workOut_12 rfl ?_
  refine va_put (D := G.1) (ci := 4) (v := .int (iz (0))) (ty := .int) (C := RX3) (T := TX3) (N := 8) hx hb hts iwX3 tyX3 tyX3_ok nmX3 hown hK hP hD hS 0 rfl rfl 7 (by decide) (hts (.fieldLink RX3 43 "AnnuityHouse$Loan" "tableRows" "I") (by decide +kernel)) (fun _ h9 => h9) rfl (by decide +kernel) rfl rfl (Nat.le_of_ble_eq_true rfl) dX3_workOut_13 (fun H locs hP hD hS => ?_)
  have hP : va_P G.1 vwCl [(y, .inr (4, [.ref nr, .ref ne, .ref nh, .ref tb, .ref q, .long (lz (mo)), .int (iz (pn)), .int (iz (0))])), (nr, zaI (G.2 1) 61 (fr)), (ne, zaL (G.2 0) 61 (fe)), (nh, zaZ (G.2 2) 61 (fh)), (tb, zaR (G.2 3) 7 (ztb tr)), ((tr 0), zaL (G.2 0) 61 (t0)), ((tr 1), zaL (G.2 0) 61 (t1)), ((tr 2), zaL (G.2 0) 61 (t2)), ((tr 3), zaL (G.2 0) 61 (t3)), ((tr 4), zaL (G.2 0) 61 (t4)), ((tr 5), zaL (G.2 0) 61 (t5)), ((tr 6), zaL (G.2 0) 61 (t6)), (q, .inr (2, [.ref sa, .ref da, .ref wa, .long (lz (u0)), .long (lz (d0)), .int (iz (p0))])), (sa, .inr (9, [.ref sb, .int (iz (sn)), .long (lz (st))])), (sb, zaL (G.2 0) 40 (sf)), (da, .inr (9, [.ref db, .int (iz (dn)), .long (lz (dt))])), (db, zaL (G.2 0) 40 (df)), (wa, .inr (9, [.ref wb, .int (iz (wn)), .long (lz (wt))])), (wb, zaL (G.2 0) 40 (wf)), (r, .inr (5, [.int (iz (6))]))] H := hP
  have hD : va_D A [(y, .inr (4, [.ref nr, .ref ne, .ref nh, .ref tb, .ref q, .long (lz (mo)), .int (iz (pn)), .int (iz (0))])), (nr, zaI (G.2 1) 61 (fr)), (ne, zaL (G.2 0) 61 (fe)), (nh, zaZ (G.2 2) 61 (fh)), (tb, zaR (G.2 3) 7 (ztb tr)), ((tr 0), zaL (G.2 0) 61 (t0)), ((tr 1), zaL (G.2 0) 61 (t1)), ((tr 2), zaL (G.2 0) 61 (t2)), ((tr 3), zaL (G.2 0) 61 (t3)), ((tr 4), zaL (G.2 0) 61 (t4)), ((tr 5), zaL (G.2 0) 61 (t5)), ((tr 6), zaL (G.2 0) 61 (t6)), (q, .inr (2, [.ref sa, .ref da, .ref wa, .long (lz (u0)), .long (lz (d0)), .int (iz (p0))])), (sa, .inr (9, [.ref sb, .int (iz (sn)), .long (lz (st))])), (sb, zaL (G.2 0) 40 (sf)), (da, .inr (9, [.ref db, .int (iz (dn)), .long (lz (dt))])), (db, zaL (G.2 0) 40 (df)), (wa, .inr (9, [.ref wb, .int (iz (wn)), .long (lz (wt))])), (wb, zaL (G.2 0) 40 (wf)), (r, .inr (5, [.int (iz (6))]))] := hD
  refine lv_iconst (v := iz (1)) hx hb dX3_workOut_16 rfl ?_
  refine lv_istore (lv' := [(7, .int (iz (1))), (6, .int (iz (0))), (4, .long (lz (0))), (2, .long (lz (mo))), (0, .ref y), (1, .ref r)]) hx hb dX3_workOut_17 hl (by decide) rfl (fun ls hl => ?_)
  refine lv_iload hx hb dX3_workOut_19 (lv_at hl 0 rfl) ?_
  refine lv_aload_n hx hb dX3_workOut_21 rfl (lv_at hl 4 rfl) ?_
  refine va_get (D := G.1) (ci := 4) (v := .int (iz (pn))) (C := RX3) (T := TX3) (N := 8) hx hb hts iwX3 hown hK hP 0 rfl rfl 6 (by decide) (hts (.fieldLink RX3 39 "AnnuityHouse$Loan" "periods" "I") (by decide +kernel)) (fun _ h9 => h9) rfl dX3_workOut_22 ?_
  refine zr_icmp_gt (x := 1) (y := pn) (tgt := 201) hx hb (⟨by omega, by omega⟩) (⟨by omega, by omega⟩) dX3_workOut_25 (by decide) (fun h_1 => ?_) (fun h_1 => ?_)
  · exact absurd h_1 (by omega)
  ·
    refine lv_lload_n hx hb dX3_workOut_28 rfl (lv_at hl 3 rfl) ?_
    refine lv_lconst (v := lz (0)) hx hb dX3_workOut_29 rfl ?_
    refine zr_lcmp_le (x := mo) (y := 0) (tgt := 201) hx hb (⟨by omega, by omega⟩) (⟨by omega, by omega⟩) dX3_workOut_30 dX3_workOut_31 (by decide) (fun h_2 => ?_) (fun h_2 => ?_)
    · exact absurd h_2 (by omega)
    ·
      refine lv_aload_n hx hb dX3_workOut_34 rfl (lv_at hl 4 rfl) ?_
      refine va_get (D := G.1) (ci := 4) (v := .ref nr) (C := RX3) (T := TX3) (N := 8) hx hb hts iwX3 hown hK hP 0 rfl rfl 0 (by decide) (hts (.fieldLink RX3 9 "AnnuityHouse$Loan" "rates" "[I") (by decide +kernel)) (fun _ h9 => h9) rfl dX3_workOut_35 ?_
      refine lv_iload hx hb dX3_workOut_38 (lv_at hl 0 rfl) ?_
      refine zr_iald hx hb hK hP 1 1 rfl rfl (i := 1) (⟨by omega, by omega, by omega⟩) dX3_workOut_40 ?_
      refine zr_eqi (y := po) (hf1) ?_
      refine lv_iconst (v := iz (-1)) hx hb dX3_workOut_41 rfl ?_
      refine zr_icmp_eq (x := po) (y := -1) (tgt := 73) hx hb (⟨by omega, by omega⟩) (⟨by omega, by omega⟩) dX3_workOut_42 (by decide) (fun h_3 => ?_) (fun h_3 => ?_)
      · exact absurd h_3 (by omega)
      ·
        refine lv_aload_n hx hb dX3_workOut_45 rfl (lv_at hl 4 rfl) ?_
        refine va_get (D := G.1) (ci := 4) (v := .ref nr) (C := RX3) (T := TX3) (N := 8) hx hb hts iwX3 hown hK hP 0 rfl rfl 0 (by decide) (hts (.fieldLink RX3 9 "AnnuityHouse$Loan" "rates" "[I") (by decide +kernel)) (fun _ h9 => h9) rfl dX3_workOut_46 ?_
        refine lv_iload hx hb dX3_workOut_49 (lv_at hl 0 rfl) ?_
        refine zr_iald hx hb hK hP 1 1 rfl rfl (i := 1) (⟨by omega, by omega, by omega⟩) dX3_workOut_51 ?_
        refine zr_eqi (y := po) (hf1) ?_
        refine lv_istore (lv' := [(6, .int (iz (po))), (7, .int (iz (1))), (4, .long (lz (0))), (2, .long (lz (mo))), (0, .ref y), (1, .ref r)]) hx hb dX3_workOut_52 hl (by decide) rfl (fun ls hl => ?_)
        refine lv_aload_n hx hb dX3_workOut_54 rfl (lv_at hl 4 rfl) ?_
        refine lv_lload_n hx hb dX3_workOut_55 rfl (lv_at hl 3 rfl) ?_
        refine lv_iload hx hb dX3_workOut_56 (lv_at hl 0 rfl) ?_
        refine lv_aload_n hx hb dX3_workOut_58 rfl (lv_at hl 4 rfl) ?_
        refine va_get (D := G.1) (ci := 4) (v := .int (iz (pn))) (C := RX3) (T := TX3) (N := 8) hx hb hts iwX3 hown hK hP 0 rfl rfl 6 (by decide) (hts (.fieldLink RX3 39 "AnnuityHouse$Loan" "periods" "I") (by decide +kernel)) (fun _ h9 => h9) rfl dX3_workOut_59 ?_
        refine lv_iload hx hb dX3_workOut_62 (lv_at hl 1 rfl) ?_
        refine zr_isub hx hb dX3_workOut_64 ?_
        refine lv_iconst (v := iz (1)) hx hb dX3_workOut_65 rfl ?_
        refine zr_iadd hx hb dX3_workOut_66 ?_
        refine lv_aload_n hx hb dX3_workOut_67 rfl (lv_at hl 5 rfl) ?_
        refine zc_l (wr := [(nr, zaI (G.2 1) 61 (fr)), (ne, zaL (G.2 0) 61 (fe)), (nh, zaZ (G.2 2) 61 (fh)), (tb, zaR (G.2 3) 7 (ztb tr)), ((tr 0), zaL (G.2 0) 61 (t0)), ((tr 1), zaL (G.2 0) 61 (t1)), ((tr 2), zaL (G.2 0) 61 (t2)), ((tr 3), zaL (G.2 0) 61 (t3)), ((tr 4), zaL (G.2 0) 61 (t4)), ((tr 5), zaL (G.2 0) 61 (t5)), ((tr 6), zaL (G.2 0) 61 (t6))]) (va_runV (As := [.long (lz (mo)), .int (iz (po)), .int (iz ((pn - 1) + 1)), .ref r]) (rest := []) ⟨hx, hb, hml, hown, hts⟩ (c_X3_instalmentFor l G y q r (.ref nr) (.ref ne) (.ref nh) (.ref tb) mo pn 0 sa sb sf sn st da db df dn dt wa wb wf wn wt u0 d0 p0 mo po ((pn - 1) + 1) (by omega) H.size) (cwV 4 hts gX3_workOut_X3_instalmentFor rfl rfl rfl (by decide +kernel) ⟨Nat.le_of_ble_eq_true rfl, Nat.le_of_ble_eq_true rfl⟩) (zpV hKX hP hD [0, 12, 13, 14, 15, 16, 17, 18, 19] rfl rfl 0 4 rfl rfl) rfl rfl hl.1 rfl (lv_room (Nat.le_of_ble_eq_true rfl)) dX3_workOut_68 ⟨(by first | exact Nat.le_of_ble_eq_true rfl | (show _ ≤ (0 : Nat); omega)), (by first | exact Nat.le_of_ble_eq_true rfl | (show _ ≤ (0 : Nat); omega))⟩) hP hD hS hA [0, 12, 13, 14, 15, 16, 17, 18, 19] [1, 2, 3, 4, 5, 6, 7, 8, 9, 10, 11] rfl rfl rfl (by decide) (fun zi u_4 H locs hzi hP hD hS => ?_)
        obtain ⟨sf1, sn1, st1, df1, dn1, dt1, wf1, wn1, wt1, ru, rd, pe1⟩ := u_4
        have hP : va_P G.1 vwCl [(nr, zaI (G.2 1) 61 (fr)), (ne, zaL (G.2 0) 61 (fe)), (nh, zaZ (G.2 2) 61 (fh)), (tb, zaR (G.2 3) 7 (ztb tr)), ((tr 0), zaL (G.2 0) 61 (t0)), ((tr 1), zaL (G.2 0) 61 (t1)), ((tr 2), zaL (G.2 0) 61 (t2)), ((tr 3), zaL (G.2 0) 61 (t3)), ((tr 4), zaL (G.2 0) 61 (t4)), ((tr 5), zaL (G.2 0) 61 (t5)), ((tr 6), zaL (G.2 0) 61 (t6)), (y, .inr (4, [.ref nr, .ref ne, .ref nh, .ref tb, .ref q, .long (lz (mo)), .int (iz (pn)), .int (iz ((0 : Int)))])), (q, .inr (2, [.ref sa, .ref da, .ref wa, .long (lz (ru)), .long (lz (rd)), .int (iz (pe1))])), (sa, .inr (9, [.ref sb, .int (iz (sn1)), .long (lz (st1))])), (sb, zaL (G.2 0) 40 (sf1)), (da, .inr (9, [.ref db, .int (iz (dn1)), .long (lz (dt1))])), (db, zaL (G.2 0) 40 (df1)), (wa, .inr (9, [.ref wb, .int (iz (wn1)), .long (lz (wt1))])), (wb, zaL (G.2 0) 40 (wf1)), (r, .inr (5, [.int (iz (6))]))] H := hP
        have hD : va_D A [(nr, zaI (G.2 1) 61 (fr)), (ne, zaL (G.2 0) 61 (fe)), (nh, zaZ (G.2 2) 61 (fh)), (tb, zaR (G.2 3) 7 (ztb tr)), ((tr 0), zaL (G.2 0) 61 (t0)), ((tr 1), zaL (G.2 0) 61 (t1)), ((tr 2), zaL (G.2 0) 61 (t2)), ((tr 3), zaL (G.2 0) 61 (t3)), ((tr 4), zaL (G.2 0) 61 (t4)), ((tr 5), zaL (G.2 0) 61 (t5)), ((tr 6), zaL (G.2 0) 61 (t6)), (y, .inr (4, [.ref nr, .ref ne, .ref nh, .ref tb, .ref q, .long (lz (mo)), .int (iz (pn)), .int (iz ((0 : Int)))])), (q, .inr (2, [.ref sa, .ref da, .ref wa, .long (lz (ru)), .long (lz (rd)), .int (iz (pe1))])), (sa, .inr (9, [.ref sb, .int (iz (sn1)), .long (lz (st1))])), (sb, zaL (G.2 0) 40 (sf1)), (da, .inr (9, [.ref db, .int (iz (dn1)), .long (lz (dt1))])), (db, zaL (G.2 0) 40 (df1)), (wa, .inr (9, [.ref wb, .int (iz (wn1)), .long (lz (wt1))])), (wb, zaL (G.2 0) 40 (wf1)), (r, .inr (5, [.int (iz (6))]))] := hD
        have hzi : zi = zinst mo po ((pn - 1) + 1) ∧ zinst mo po ((pn - 1) + 1) ≤ 2000000000 := hzi
        rw [show pn - 1 + 1 = pn by omega] at hzi
        refine lv_lstore (lv' := [(4, .long (lz (zi))), (6, .int (iz (po))), (7, .int (iz (1))), (2, .long (lz (mo))), (0, .ref y), (1, .ref r)]) hx hb dX3_workOut_71 hl (by decide) rfl (fun ls hl => ?_)
        refine lv_aload_n hx hb dX3_workOut_73 rfl (lv_at hl 5 rfl) ?_
        refine lv_lload_n hx hb dX3_workOut_74 rfl (lv_at hl 3 rfl) ?_
        refine lv_iload hx hb dX3_workOut_75 (lv_at hl 1 rfl) ?_
        refine zr_i2l hx hb (x := po) (⟨by omega, by omega⟩) dX3_workOut_77 ?_
        refine zr_lmul hx hb dX3_workOut_78 ?_
        refine zr_ldc2 (z := 100000) hx hb hown (hts (.constantLong RX3 50 (100000)) (by decide +kernel)) rfl dX3_workOut_79 ?_
        have hlp := zlp (lf := mo) (po := po) (by omega) (by omega)
        refine zc_l (wr := [(nr, zaI (G.2 1) 61 (fr)), (ne, zaL (G.2 0) 61 (fe)), (nh, zaZ (G.2 2) 61 (fh)), (tb, zaR (G.2 3) 7 (ztb tr)), ((tr 0), zaL (G.2 0) 61 (t0)), ((tr 1), zaL (G.2 0) 61 (t1)), ((tr 2), zaL (G.2 0) 61 (t2)), ((tr 3), zaL (G.2 0) 61 (t3)), ((tr 4), zaL (G.2 0) 61 (t4)), ((tr 5), zaL (G.2 0) 61 (t5)), ((tr 6), zaL (G.2 0) 61 (t6)), (y, .inr (4, [.ref nr, .ref ne, .ref nh, .ref tb, .ref q, .long (lz (mo)), .int (iz (pn)), .int (iz ((0 : Int)))])), (q, .inr (2, [.ref sa, .ref da, .ref wa, .long (lz (ru)), .long (lz (rd)), .int (iz (pe1))])), (sa, .inr (9, [.ref sb, .int (iz (sn1)), .long (lz (st1))])), (sb, zaL (G.2 0) 40 (sf1)), (da, .inr (9, [.ref db, .int (iz (dn1)), .long (lz (dt1))])), (db, zaL (G.2 0) 40 (df1)), (wa, .inr (9, [.ref wb, .int (iz (wn1)), .long (lz (wt1))])), (wb, zaL (G.2 0) 40 (wf1))]) (va_runV (As := [.long (lz (mo * po)), .long (lz (100000))]) (rest := []) ⟨hx, hb, hml, hown, hts⟩ (c_X4_ratio l G r (mo * po) 100000 (by omega) (by omega) H.size) (cwV 2 hts gX3_workOut_X4_ratio rfl rfl rfl (by decide +kernel) ⟨Nat.le_of_ble_eq_true rfl, Nat.le_of_ble_eq_true rfl⟩) (zpV hKX hP hD [19] rfl rfl 19 5 rfl rfl) rfl rfl hl.1 rfl (lv_room (Nat.le_of_ble_eq_true rfl)) dX3_workOut_82 ⟨(by first | exact Nat.le_of_ble_eq_true rfl | (show _ ≤ (0 : Nat); omega)), (by first | exact Nat.le_of_ble_eq_true rfl | (show _ ≤ (0 : Nat); omega))⟩) hP hD hS hA [19] [0, 1, 2, 3, 4, 5, 6, 7, 8, 9, 10, 11, 12, 13, 14, 15, 16, 17, 18] rfl rfl rfl (by decide) (fun it u_6 H locs hit hP hD hS => ?_)
        have hP : va_P G.1 vwCl [(nr, zaI (G.2 1) 61 (fr)), (ne, zaL (G.2 0) 61 (fe)), (nh, zaZ (G.2 2) 61 (fh)), (tb, zaR (G.2 3) 7 (ztb tr)), ((tr 0), zaL (G.2 0) 61 (t0)), ((tr 1), zaL (G.2 0) 61 (t1)), ((tr 2), zaL (G.2 0) 61 (t2)), ((tr 3), zaL (G.2 0) 61 (t3)), ((tr 4), zaL (G.2 0) 61 (t4)), ((tr 5), zaL (G.2 0) 61 (t5)), ((tr 6), zaL (G.2 0) 61 (t6)), (y, .inr (4, [.ref nr, .ref ne, .ref nh, .ref tb, .ref q, .long (lz (mo)), .int (iz (pn)), .int (iz ((0 : Int)))])), (q, .inr (2, [.ref sa, .ref da, .ref wa, .long (lz (ru)), .long (lz (rd)), .int (iz (pe1))])), (sa, .inr (9, [.ref sb, .int (iz (sn1)), .long (lz (st1))])), (sb, zaL (G.2 0) 40 (sf1)), (da, .inr (9, [.ref db, .int (iz (dn1)), .long (lz (dt1))])), (db, zaL (G.2 0) 40 (df1)), (wa, .inr (9, [.ref wb, .int (iz (wn1)), .long (lz (wt1))])), (wb, zaL (G.2 0) 40 (wf1)), (r, .inr (5, [.int (iz (6))]))] H := hP
        have hD : va_D A [(nr, zaI (G.2 1) 61 (fr)), (ne, zaL (G.2 0) 61 (fe)), (nh, zaZ (G.2 2) 61 (fh)), (tb, zaR (G.2 3) 7 (ztb tr)), ((tr 0), zaL (G.2 0) 61 (t0)), ((tr 1), zaL (G.2 0) 61 (t1)), ((tr 2), zaL (G.2 0) 61 (t2)), ((tr 3), zaL (G.2 0) 61 (t3)), ((tr 4), zaL (G.2 0) 61 (t4)), ((tr 5), zaL (G.2 0) 61 (t5)), ((tr 6), zaL (G.2 0) 61 (t6)), (y, .inr (4, [.ref nr, .ref ne, .ref nh, .ref tb, .ref q, .long (lz (mo)), .int (iz (pn)), .int (iz ((0 : Int)))])), (q, .inr (2, [.ref sa, .ref da, .ref wa, .long (lz (ru)), .long (lz (rd)), .int (iz (pe1))])), (sa, .inr (9, [.ref sb, .int (iz (sn1)), .long (lz (st1))])), (sb, zaL (G.2 0) 40 (sf1)), (da, .inr (9, [.ref db, .int (iz (dn1)), .long (lz (dt1))])), (db, zaL (G.2 0) 40 (df1)), (wa, .inr (9, [.ref wb, .int (iz (wn1)), .long (lz (wt1))])), (wb, zaL (G.2 0) 40 (wf1)), (r, .inr (5, [.int (iz (6))]))] := hD
        have hit : it = zr6 (mo * po) (100000 : Int) := hit
        have hii := zinst_int (mo := mo) (po := po) (n := pn) (lf := mo) (by omega) (by omega) (by omega) (by omega)
        rw [← hit, ← hzi.1] at hii
        have hzb : zi ≤ 2000000000 := by omega
        refine lv_lstore (lv' := [(8, .long (lz (it))), (4, .long (lz (zi))), (6, .int (iz (po))), (7, .int (iz (1))), (2, .long (lz (mo))), (0, .ref y), (1, .ref r)]) hx hb dX3_workOut_85 hl (by decide) rfl (fun ls hl => ?_)
        refine lv_aload_n hx hb dX3_workOut_87 rfl (lv_at hl 5 rfl) ?_
        refine lv_iload hx hb dX3_workOut_88 (lv_at hl 3 rfl) ?_
        refine lv_lload_n hx hb dX3_workOut_90 rfl (lv_at hl 4 rfl) ?_
        refine lv_lload hx hb dX3_workOut_91 (lv_at hl 0 rfl) ?_
        refine zr_ladd hx hb dX3_workOut_93 ?_
        refine lv_lload hx hb dX3_workOut_94 (lv_at hl 1 rfl) ?_
        refine zc_l (wr := [(nr, zaI (G.2 1) 61 (fr)), (tb, zaR (G.2 3) 7 (ztb tr)), ((tr 0), zaL (G.2 0) 61 (t0)), ((tr 1), zaL (G.2 0) 61 (t1)), ((tr 2), zaL (G.2 0) 61 (t2)), ((tr 3), zaL (G.2 0) 61 (t3)), ((tr 4), zaL (G.2 0) 61 (t4)), ((tr 5), zaL (G.2 0) 61 (t5)), ((tr 6), zaL (G.2 0) 61 (t6)), (q, .inr (2, [.ref sa, .ref da, .ref wa, .long (lz (ru)), .long (lz (rd)), .int (iz (pe1))])), (sa, .inr (9, [.ref sb, .int (iz (sn1)), .long (lz (st1))])), (sb, zaL (G.2 0) 40 (sf1)), (da, .inr (9, [.ref db, .int (iz (dn1)), .long (lz (dt1))])), (db, zaL (G.2 0) 40 (df1)), (wa, .inr (9, [.ref wb, .int (iz (wn1)), .long (lz (wt1))])), (wb, zaL (G.2 0) 40 (wf1)), (r, .inr (5, [.int (iz (6))]))]) (va_runV (As := [.int (iz (1)), .long (lz (mo + it)), .long (lz (zi))]) (rest := []) ⟨hx, hb, hml, hown, hts⟩ (c_X3_paidIn l G y nr ne nh tb q fe fh mo pn 0 1 (mo + it) zi (by omega) ((hf 1 (by omega) (by omega)).2.2) ((hf 1 (by omega) (by omega)).2.1) (by omega) H.size) (cwV 3 hts gX3_workOut_X3_paidIn rfl rfl rfl (by decide +kernel) ⟨Nat.le_of_ble_eq_true rfl, Nat.le_of_ble_eq_true rfl⟩) (zpV hKX hP hD [11, 1, 2] rfl rfl 11 4 rfl rfl) rfl rfl hl.1 rfl (lv_room (Nat.le_of_ble_eq_true rfl)) dX3_workOut_96 ⟨(by first | exact Nat.le_of_ble_eq_true rfl | (show _ ≤ (0 : Nat); omega)), (by first | exact Nat.le_of_ble_eq_true rfl | (show _ ≤ (0 : Nat); omega))⟩) hP hD hS hA [11, 1, 2] [0, 3, 4, 5, 6, 7, 8, 9, 10, 12, 13, 14, 15, 16, 17, 18, 19] rfl rfl rfl (by decide) (fun pd u_8 H locs hpd hP hD hS => ?_)
        have hP : va_P G.1 vwCl [(nr, zaI (G.2 1) 61 (fr)), (tb, zaR (G.2 3) 7 (ztb tr)), ((tr 0), zaL (G.2 0) 61 (t0)), ((tr 1), zaL (G.2 0) 61 (t1)), ((tr 2), zaL (G.2 0) 61 (t2)), ((tr 3), zaL (G.2 0) 61 (t3)), ((tr 4), zaL (G.2 0) 61 (t4)), ((tr 5), zaL (G.2 0) 61 (t5)), ((tr 6), zaL (G.2 0) 61 (t6)), (q, .inr (2, [.ref sa, .ref da, .ref wa, .long (lz (ru)), .long (lz (rd)), .int (iz (pe1))])), (sa, .inr (9, [.ref sb, .int (iz (sn1)), .long (lz (st1))])), (sb, zaL (G.2 0) 40 (sf1)), (da, .inr (9, [.ref db, .int (iz (dn1)), .long (lz (dt1))])), (db, zaL (G.2 0) 40 (df1)), (wa, .inr (9, [.ref wb, .int (iz (wn1)), .long (lz (wt1))])), (wb, zaL (G.2 0) 40 (wf1)), (r, .inr (5, [.int (iz (6))])), (y, .inr (4, [.ref nr, .ref ne, .ref nh, .ref tb, .ref q, .long (lz (mo)), .int (iz (pn)), .int (iz ((0 : Int)))])), (ne, zaL (G.2 0) 61 (fe)), (nh, zaZ (G.2 2) 61 (fh))] H := hP
        have hD : va_D A [(nr, zaI (G.2 1) 61 (fr)), (tb, zaR (G.2 3) 7 (ztb tr)), ((tr 0), zaL (G.2 0) 61 (t0)), ((tr 1), zaL (G.2 0) 61 (t1)), ((tr 2), zaL (G.2 0) 61 (t2)), ((tr 3), zaL (G.2 0) 61 (t3)), ((tr 4), zaL (G.2 0) 61 (t4)), ((tr 5), zaL (G.2 0) 61 (t5)), ((tr 6), zaL (G.2 0) 61 (t6)), (q, .inr (2, [.ref sa, .ref da, .ref wa, .long (lz (ru)), .long (lz (rd)), .int (iz (pe1))])), (sa, .inr (9, [.ref sb, .int (iz (sn1)), .long (lz (st1))])), (sb, zaL (G.2 0) 40 (sf1)), (da, .inr (9, [.ref db, .int (iz (dn1)), .long (lz (dt1))])), (db, zaL (G.2 0) 40 (df1)), (wa, .inr (9, [.ref wb, .int (iz (wn1)), .long (lz (wt1))])), (wb, zaL (G.2 0) 40 (wf1)), (r, .inr (5, [.int (iz (6))])), (y, .inr (4, [.ref nr, .ref ne, .ref nh, .ref tb, .ref q, .long (lz (mo)), .int (iz (pn)), .int (iz ((0 : Int)))])), (ne, zaL (G.2 0) 61 (fe)), (nh, zaZ (G.2 2) 61 (fh))] := hD
        have hpd : pd = if (1 : Int) = pn ∨ (mo + it) ≤ zi then (mo + it) else zi := hpd
        have hpr : 0 ≤ pd ∧ pd ≤ 100000000000 ∧ it ≤ pd := by rw [hpd]; split <;> omega
        refine lv_lstore (lv' := [(10, .long (lz (pd))), (8, .long (lz (it))), (4, .long (lz (zi))), (6, .int (iz (po))), (7, .int (iz (1))), (2, .long (lz (mo))), (0, .ref y), (1, .ref r)]) hx hb dX3_workOut_99 hl (by decide) rfl (fun ls hl => ?_)
        refine lv_aload_n hx hb dX3_workOut_101 rfl (lv_at hl 6 rfl) ?_
        refine va_get (D := G.1) (ci := 4) (v := .ref tb) (C := RX3) (T := TX3) (N := 8) hx hb hts iwX3 hown hK hP 17 rfl rfl 3 (by decide) (hts (.fieldLink RX3 25 "AnnuityHouse$Loan" "table" "[[J") (by decide +kernel)) (fun _ h9 => h9) rfl dX3_workOut_102 ?_
        refine lv_iconst (v := iz (0)) hx hb dX3_workOut_105 rfl ?_
        refine zr_aldA (v := (tr 0)) hx hb hK hP 1 rfl (i := 0) (⟨by omega, by omega, by omega⟩) (ztb_at (by decide)) dX3_workOut_106 ?_
        refine lv_iload hx hb dX3_workOut_107 (lv_at hl 4 rfl) ?_
        refine lv_lload_n hx hb dX3_workOut_109 rfl (lv_at hl 5 rfl) ?_
        refine zr_last hx hb hK hP hD hS 2 0 rfl rfl (i := 1) (x := mo) (⟨by omega, by omega, by omega⟩) dX3_workOut_110 (fun H locs hP hD hS => ?_)
        have hP : va_P G.1 vwCl [(nr, zaI (G.2 1) 61 (fr)), (tb, zaR (G.2 3) 7 (ztb tr)), ((tr 0), zaL (G.2 0) 61 (zup t0 1 mo)), ((tr 1), zaL (G.2 0) 61 (t1)), ((tr 2), zaL (G.2 0) 61 (t2)), ((tr 3), zaL (G.2 0) 61 (t3)), ((tr 4), zaL (G.2 0) 61 (t4)), ((tr 5), zaL (G.2 0) 61 (t5)), ((tr 6), zaL (G.2 0) 61 (t6)), (q, .inr (2, [.ref sa, .ref da, .ref wa, .long (lz (ru)), .long (lz (rd)), .int (iz (pe1))])), (sa, .inr (9, [.ref sb, .int (iz (sn1)), .long (lz (st1))])), (sb, zaL (G.2 0) 40 (sf1)), (da, .inr (9, [.ref db, .int (iz (dn1)), .long (lz (dt1))])), (db, zaL (G.2 0) 40 (df1)), (wa, .inr (9, [.ref wb, .int (iz (wn1)), .long (lz (wt1))])), (wb, zaL (G.2 0) 40 (wf1)), (r, .inr (5, [.int (iz (6))])), (y, .inr (4, [.ref nr, .ref ne, .ref nh, .ref tb, .ref q, .long (lz (mo)), .int (iz (pn)), .int (iz ((0 : Int)))])), (ne, zaL (G.2 0) 61 (fe)), (nh, zaZ (G.2 2) 61 (fh))] H := hP
        have hD : va_D A [(nr, zaI (G.2 1) 61 (fr)), (tb, zaR (G.2 3) 7 (ztb tr)), ((tr 0), zaL (G.2 0) 61 (zup t0 1 mo)), ((tr 1), zaL (G.2 0) 61 (t1)), ((tr 2), zaL (G.2 0) 61 (t2)), ((tr 3), zaL (G.2 0) 61 (t3)), ((tr 4), zaL (G.2 0) 61 (t4)), ((tr 5), zaL (G.2 0) 61 (t5)), ((tr 6), zaL (G.2 0) 61 (t6)), (q, .inr (2, [.ref sa, .ref da, .ref wa, .long (lz (ru)), .long (lz (rd)), .int (iz (pe1))])), (sa, .inr (9, [.ref sb, .int (iz (sn1)), .long (lz (st1))])), (sb, zaL (G.2 0) 40 (sf1)), (da, .inr (9, [.ref db, .int (iz (dn1)), .long (lz (dt1))])), (db, zaL (G.2 0) 40 (df1)), (wa, .inr (9, [.ref wb, .int (iz (wn1)), .long (lz (wt1))])), (wb, zaL (G.2 0) 40 (wf1)), (r, .inr (5, [.int (iz (6))])), (y, .inr (4, [.ref nr, .ref ne, .ref nh, .ref tb, .ref q, .long (lz (mo)), .int (iz (pn)), .int (iz ((0 : Int)))])), (ne, zaL (G.2 0) 61 (fe)), (nh, zaZ (G.2 2) 61 (fh))] := hD
        refine lv_aload_n hx hb dX3_workOut_111 rfl (lv_at hl 6 rfl) ?_
        refine va_get (D := G.1) (ci := 4) (v := .ref tb) (C := RX3) (T := TX3) (N := 8) hx hb hts iwX3 hown hK hP 17 rfl rfl 3 (by decide) (hts (.fieldLink RX3 25 "AnnuityHouse$Loan" "table" "[[J") (by decide +kernel)) (fun _ h9 => h9) rfl dX3_workOut_112 ?_
        refine lv_iconst (v := iz (1)) hx hb dX3_workOut_115 rfl ?_
        refine zr_aldA (v := (tr 1)) hx hb hK hP 1 rfl (i := 1) (⟨by omega, by omega, by omega⟩) (ztb_at (by decide)) dX3_workOut_116 ?_
        refine lv_iload hx hb dX3_workOut_117 (lv_at hl 4 rfl) ?_
        refine lv_lload hx hb dX3_workOut_119 (lv_at hl 1 rfl) ?_
        refine zr_last hx hb hK hP hD hS 3 0 rfl rfl (i := 1) (x := it) (⟨by omega, by omega, by omega⟩) dX3_workOut_121 (fun H locs hP hD hS => ?_)
        have hP : va_P G.1 vwCl [(nr, zaI (G.2 1) 61 (fr)), (tb, zaR (G.2 3) 7 (ztb tr)), ((tr 0), zaL (G.2 0) 61 (zup t0 1 mo)), ((tr 1), zaL (G.2 0) 61 (zup t1 1 it)), ((tr 2), zaL (G.2 0) 61 (t2)), ((tr 3), zaL (G.2 0) 61 (t3)), ((tr 4), zaL (G.2 0) 61 (t4)), ((tr 5), zaL (G.2 0) 61 (t5)), ((tr 6), zaL (G.2 0) 61 (t6)), (q, .inr (2, [.ref sa, .ref da, .ref wa, .long (lz (ru)), .long (lz (rd)), .int (iz (pe1))])), (sa, .inr (9, [.ref sb, .int (iz (sn1)), .long (lz (st1))])), (sb, zaL (G.2 0) 40 (sf1)), (da, .inr (9, [.ref db, .int (iz (dn1)), .long (lz (dt1))])), (db, zaL (G.2 0) 40 (df1)), (wa, .inr (9, [.ref wb, .int (iz (wn1)), .long (lz (wt1))])), (wb, zaL (G.2 0) 40 (wf1)), (r, .inr (5, [.int (iz (6))])), (y, .inr (4, [.ref nr, .ref ne, .ref nh, .ref tb, .ref q, .long (lz (mo)), .int (iz (pn)), .int (iz ((0 : Int)))])), (ne, zaL (G.2 0) 61 (fe)), (nh, zaZ (G.2 2) 61 (fh))] H := hP
        have hD : va_D A [(nr, zaI (G.2 1) 61 (fr)), (tb, zaR (G.2 3) 7 (ztb tr)), ((tr 0), zaL (G.2 0) 61 (zup t0 1 mo)), ((tr 1), zaL (G.2 0) 61 (zup t1 1 it)), ((tr 2), zaL (G.2 0) 61 (t2)), ((tr 3), zaL (G.2 0) 61 (t3)), ((tr 4), zaL (G.2 0) 61 (t4)), ((tr 5), zaL (G.2 0) 61 (t5)), ((tr 6), zaL (G.2 0) 61 (t6)), (q, .inr (2, [.ref sa, .ref da, .ref wa, .long (lz (ru)), .long (lz (rd)), .int (iz (pe1))])), (sa, .inr (9, [.ref sb, .int (iz (sn1)), .long (lz (st1))])), (sb, zaL (G.2 0) 40 (sf1)), (da, .inr (9, [.ref db, .int (iz (dn1)), .long (lz (dt1))])), (db, zaL (G.2 0) 40 (df1)), (wa, .inr (9, [.ref wb, .int (iz (wn1)), .long (lz (wt1))])), (wb, zaL (G.2 0) 40 (wf1)), (r, .inr (5, [.int (iz (6))])), (y, .inr (4, [.ref nr, .ref ne, .ref nh, .ref tb, .ref q, .long (lz (mo)), .int (iz (pn)), .int (iz ((0 : Int)))])), (ne, zaL (G.2 0) 61 (fe)), (nh, zaZ (G.2 2) 61 (fh))] := hD
        refine lv_aload_n hx hb dX3_workOut_122 rfl (lv_at hl 6 rfl) ?_
        refine va_get (D := G.1) (ci := 4) (v := .ref tb) (C := RX3) (T := TX3) (N := 8) hx hb hts iwX3 hown hK hP 17 rfl rfl 3 (by decide) (hts (.fieldLink RX3 25 "AnnuityHouse$Loan" "table" "[[J") (by decide +kernel)) (fun _ h9 => h9) rfl dX3_workOut_123 ?_
        refine lv_iconst (v := iz (2)) hx hb dX3_workOut_126 rfl ?_
        refine zr_aldA (v := (tr 2)) hx hb hK hP 1 rfl (i := 2) (⟨by omega, by omega, by omega⟩) (ztb_at (by decide)) dX3_workOut_127 ?_
        refine lv_iload hx hb dX3_workOut_128 (lv_at hl 4 rfl) ?_
        refine lv_lload hx hb dX3_workOut_130 (lv_at hl 0 rfl) ?_
        refine zr_last hx hb hK hP hD hS 4 0 rfl rfl (i := 1) (x := pd) (⟨by omega, by omega, by omega⟩) dX3_workOut_132 (fun H locs hP hD hS => ?_)
        have hP : va_P G.1 vwCl [(nr, zaI (G.2 1) 61 (fr)), (tb, zaR (G.2 3) 7 (ztb tr)), ((tr 0), zaL (G.2 0) 61 (zup t0 1 mo)), ((tr 1), zaL (G.2 0) 61 (zup t1 1 it)), ((tr 2), zaL (G.2 0) 61 (zup t2 1 pd)), ((tr 3), zaL (G.2 0) 61 (t3)), ((tr 4), zaL (G.2 0) 61 (t4)), ((tr 5), zaL (G.2 0) 61 (t5)), ((tr 6), zaL (G.2 0) 61 (t6)), (q, .inr (2, [.ref sa, .ref da, .ref wa, .long (lz (ru)), .long (lz (rd)), .int (iz (pe1))])), (sa, .inr (9, [.ref sb, .int (iz (sn1)), .long (lz (st1))])), (sb, zaL (G.2 0) 40 (sf1)), (da, .inr (9, [.ref db, .int (iz (dn1)), .long (lz (dt1))])), (db, zaL (G.2 0) 40 (df1)), (wa, .inr (9, [.ref wb, .int (iz (wn1)), .long (lz (wt1))])), (wb, zaL (G.2 0) 40 (wf1)), (r, .inr (5, [.int (iz (6))])), (y, .inr (4, [.ref nr, .ref ne, .ref nh, .ref tb, .ref q, .long (lz (mo)), .int (iz (pn)), .int (iz ((0 : Int)))])), (ne, zaL (G.2 0) 61 (fe)), (nh, zaZ (G.2 2) 61 (fh))] H := hP
        have hD : va_D A [(nr, zaI (G.2 1) 61 (fr)), (tb, zaR (G.2 3) 7 (ztb tr)), ((tr 0), zaL (G.2 0) 61 (zup t0 1 mo)), ((tr 1), zaL (G.2 0) 61 (zup t1 1 it)), ((tr 2), zaL (G.2 0) 61 (zup t2 1 pd)), ((tr 3), zaL (G.2 0) 61 (t3)), ((tr 4), zaL (G.2 0) 61 (t4)), ((tr 5), zaL (G.2 0) 61 (t5)), ((tr 6), zaL (G.2 0) 61 (t6)), (q, .inr (2, [.ref sa, .ref da, .ref wa, .long (lz (ru)), .long (lz (rd)), .int (iz (pe1))])), (sa, .inr (9, [.ref sb, .int (iz (sn1)), .long (lz (st1))])), (sb, zaL (G.2 0) 40 (sf1)), (da, .inr (9, [.ref db, .int (iz (dn1)), .long (lz (dt1))])), (db, zaL (G.2 0) 40 (df1)), (wa, .inr (9, [.ref wb, .int (iz (wn1)), .long (lz (wt1))])), (wb, zaL (G.2 0) 40 (wf1)), (r, .inr (5, [.int (iz (6))])), (y, .inr (4, [.ref nr, .ref ne, .ref nh, .ref tb, .ref q, .long (lz (mo)), .int (iz (pn)), .int (iz ((0 : Int)))])), (ne, zaL (G.2 0) 61 (fe)), (nh, zaZ (G.2 2) 61 (fh))] := hD
        refine lv_aload_n hx hb dX3_workOut_133 rfl (lv_at hl 6 rfl) ?_
        refine va_get (D := G.1) (ci := 4) (v := .ref tb) (C := RX3) (T := TX3) (N := 8) hx hb hts iwX3 hown hK hP 17 rfl rfl 3 (by decide) (hts (.fieldLink RX3 25 "AnnuityHouse$Loan" "table" "[[J") (by decide +kernel)) (fun _ h9 => h9) rfl dX3_workOut_134 ?_
        refine lv_iconst (v := iz (3)) hx hb dX3_workOut_137 rfl ?_
        refine zr_aldA (v := (tr 3)) hx hb hK hP 1 rfl (i := 3) (⟨by omega, by omega, by omega⟩) (ztb_at (by decide)) dX3_workOut_138 ?_
        refine lv_iload hx hb dX3_workOut_139 (lv_at hl 4 rfl) ?_
        refine lv_lload hx hb dX3_workOut_141 (lv_at hl 0 rfl) ?_
        refine lv_lload hx hb dX3_workOut_143 (lv_at hl 1 rfl) ?_
        refine zr_lsub hx hb dX3_workOut_145 ?_
        refine zr_last hx hb hK hP hD hS 5 0 rfl rfl (i := 1) (x := pd - it) (⟨by omega, by omega, by omega⟩) dX3_workOut_146 (fun H locs hP hD hS => ?_)
        have hP : va_P G.1 vwCl [(nr, zaI (G.2 1) 61 (fr)), (tb, zaR (G.2 3) 7 (ztb tr)), ((tr 0), zaL (G.2 0) 61 (zup t0 1 mo)), ((tr 1), zaL (G.2 0) 61 (zup t1 1 it)), ((tr 2), zaL (G.2 0) 61 (zup t2 1 pd)), ((tr 3), zaL (G.2 0) 61 (zup t3 1 (pd - it))), ((tr 4), zaL (G.2 0) 61 (t4)), ((tr 5), zaL (G.2 0) 61 (t5)), ((tr 6), zaL (G.2 0) 61 (t6)), (q, .inr (2, [.ref sa, .ref da, .ref wa, .long (lz (ru)), .long (lz (rd)), .int (iz (pe1))])), (sa, .inr (9, [.ref sb, .int (iz (sn1)), .long (lz (st1))])), (sb, zaL (G.2 0) 40 (sf1)), (da, .inr (9, [.ref db, .int (iz (dn1)), .long (lz (dt1))])), (db, zaL (G.2 0) 40 (df1)), (wa, .inr (9, [.ref wb, .int (iz (wn1)), .long (lz (wt1))])), (wb, zaL (G.2 0) 40 (wf1)), (r, .inr (5, [.int (iz (6))])), (y, .inr (4, [.ref nr, .ref ne, .ref nh, .ref tb, .ref q, .long (lz (mo)), .int (iz (pn)), .int (iz ((0 : Int)))])), (ne, zaL (G.2 0) 61 (fe)), (nh, zaZ (G.2 2) 61 (fh))] H := hP
        have hD : va_D A [(nr, zaI (G.2 1) 61 (fr)), (tb, zaR (G.2 3) 7 (ztb tr)), ((tr 0), zaL (G.2 0) 61 (zup t0 1 mo)), ((tr 1), zaL (G.2 0) 61 (zup t1 1 it)), ((tr 2), zaL (G.2 0) 61 (zup t2 1 pd)), ((tr 3), zaL (G.2 0) 61 (zup t3 1 (pd - it))), ((tr 4), zaL (G.2 0) 61 (t4)), ((tr 5), zaL (G.2 0) 61 (t5)), ((tr 6), zaL (G.2 0) 61 (t6)), (q, .inr (2, [.ref sa, .ref da, .ref wa, .long (lz (ru)), .long (lz (rd)), .int (iz (pe1))])), (sa, .inr (9, [.ref sb, .int (iz (sn1)), .long (lz (st1))])), (sb, zaL (G.2 0) 40 (sf1)), (da, .inr (9, [.ref db, .int (iz (dn1)), .long (lz (dt1))])), (db, zaL (G.2 0) 40 (df1)), (wa, .inr (9, [.ref wb, .int (iz (wn1)), .long (lz (wt1))])), (wb, zaL (G.2 0) 40 (wf1)), (r, .inr (5, [.int (iz (6))])), (y, .inr (4, [.ref nr, .ref ne, .ref nh, .ref tb, .ref q, .long (lz (mo)), .int (iz (pn)), .int (iz ((0 : Int)))])), (ne, zaL (G.2 0) 61 (fe)), (nh, zaZ (G.2 2) 61 (fh))] := hD
        refine lv_lload_n hx hb dX3_workOut_147 rfl (lv_at hl 5 rfl) ?_
        refine lv_lload hx hb dX3_workOut_148 (lv_at hl 1 rfl) ?_
        refine lv_lload hx hb dX3_workOut_150 (lv_at hl 0 rfl) ?_
        refine zr_lsub hx hb dX3_workOut_152 ?_
        refine zr_ladd hx hb dX3_workOut_153 ?_
        refine zr_namel (fun lf2 elf2 => ?_)
        have hlf2 : 0 ≤ lf2 ∧ lf2 ≤ mo := by rw [elf2, hpd]; split <;> omega
        refine lv_lstore_n (lv' := [(2, .long (lz (lf2))), (10, .long (lz (pd))), (8, .long (lz (it))), (4, .long (lz (zi))), (6, .int (iz (po))), (7, .int (iz (1))), (0, .ref y), (1, .ref r)]) hx hb dX3_workOut_154 rfl hl (by decide) rfl (fun ls hl => ?_)
        refine lv_aload_n hx hb dX3_workOut_155 rfl (lv_at hl 6 rfl) ?_
        refine va_get (D := G.1) (ci := 4) (v := .ref tb) (C := RX3) (T := TX3) (N := 8) hx hb hts iwX3 hown hK hP 17 rfl rfl 3 (by decide) (hts (.fieldLink RX3 25 "AnnuityHouse$Loan" "table" "[[J") (by decide +kernel)) (fun _ h9 => h9) rfl dX3_workOut_156 ?_
        refine lv_iconst (v := iz (4)) hx hb dX3_workOut_159 rfl ?_
        refine zr_aldA (v := (tr 4)) hx hb hK hP 1 rfl (i := 4) (⟨by omega, by omega, by omega⟩) (ztb_at (by decide)) dX3_workOut_160 ?_
        refine lv_iload hx hb dX3_workOut_161 (lv_at hl 5 rfl) ?_
        refine lv_lload_n hx hb dX3_workOut_163 rfl (lv_at hl 0 rfl) ?_
        refine zr_last hx hb hK hP hD hS 6 0 rfl rfl (i := 1) (x := lf2) (⟨by omega, by omega, by omega⟩) dX3_workOut_164 (fun H locs hP hD hS => ?_)
        have hP : va_P G.1 vwCl [(nr, zaI (G.2 1) 61 (fr)), (tb, zaR (G.2 3) 7 (ztb tr)), ((tr 0), zaL (G.2 0) 61 (zup t0 1 mo)), ((tr 1), zaL (G.2 0) 61 (zup t1 1 it)), ((tr 2), zaL (G.2 0) 61 (zup t2 1 pd)), ((tr 3), zaL (G.2 0) 61 (zup t3 1 (pd - it))), ((tr 4), zaL (G.2 0) 61 (zup t4 1 lf2)), ((tr 5), zaL (G.2 0) 61 (t5)), ((tr 6), zaL (G.2 0) 61 (t6)), (q, .inr (2, [.ref sa, .ref da, .ref wa, .long (lz (ru)), .long (lz (rd)), .int (iz (pe1))])), (sa, .inr (9, [.ref sb, .int (iz (sn1)), .long (lz (st1))])), (sb, zaL (G.2 0) 40 (sf1)), (da, .inr (9, [.ref db, .int (iz (dn1)), .long (lz (dt1))])), (db, zaL (G.2 0) 40 (df1)), (wa, .inr (9, [.ref wb, .int (iz (wn1)), .long (lz (wt1))])), (wb, zaL (G.2 0) 40 (wf1)), (r, .inr (5, [.int (iz (6))])), (y, .inr (4, [.ref nr, .ref ne, .ref nh, .ref tb, .ref q, .long (lz (mo)), .int (iz (pn)), .int (iz ((0 : Int)))])), (ne, zaL (G.2 0) 61 (fe)), (nh, zaZ (G.2 2) 61 (fh))] H := hP
        have hD : va_D A [(nr, zaI (G.2 1) 61 (fr)), (tb, zaR (G.2 3) 7 (ztb tr)), ((tr 0), zaL (G.2 0) 61 (zup t0 1 mo)), ((tr 1), zaL (G.2 0) 61 (zup t1 1 it)), ((tr 2), zaL (G.2 0) 61 (zup t2 1 pd)), ((tr 3), zaL (G.2 0) 61 (zup t3 1 (pd - it))), ((tr 4), zaL (G.2 0) 61 (zup t4 1 lf2)), ((tr 5), zaL (G.2 0) 61 (t5)), ((tr 6), zaL (G.2 0) 61 (t6)), (q, .inr (2, [.ref sa, .ref da, .ref wa, .long (lz (ru)), .long (lz (rd)), .int (iz (pe1))])), (sa, .inr (9, [.ref sb, .int (iz (sn1)), .long (lz (st1))])), (sb, zaL (G.2 0) 40 (sf1)), (da, .inr (9, [.ref db, .int (iz (dn1)), .long (lz (dt1))])), (db, zaL (G.2 0) 40 (df1)), (wa, .inr (9, [.ref wb, .int (iz (wn1)), .long (lz (wt1))])), (wb, zaL (G.2 0) 40 (wf1)), (r, .inr (5, [.int (iz (6))])), (y, .inr (4, [.ref nr, .ref ne, .ref nh, .ref tb, .ref q, .long (lz (mo)), .int (iz (pn)), .int (iz ((0 : Int)))])), (ne, zaL (G.2 0) 61 (fe)), (nh, zaZ (G.2 2) 61 (fh))] := hD
        refine lv_aload_n hx hb dX3_workOut_165 rfl (lv_at hl 6 rfl) ?_
        refine va_get (D := G.1) (ci := 4) (v := .ref tb) (C := RX3) (T := TX3) (N := 8) hx hb hts iwX3 hown hK hP 17 rfl rfl 3 (by decide) (hts (.fieldLink RX3 25 "AnnuityHouse$Loan" "table" "[[J") (by decide +kernel)) (fun _ h9 => h9) rfl dX3_workOut_166 ?_
        refine lv_iconst (v := iz (5)) hx hb dX3_workOut_169 rfl ?_
        refine zr_aldA (v := (tr 5)) hx hb hK hP 1 rfl (i := 5) (⟨by omega, by omega, by omega⟩) (ztb_at (by decide)) dX3_workOut_170 ?_
        refine lv_iload hx hb dX3_workOut_171 (lv_at hl 5 rfl) ?_
        refine lv_iload hx hb dX3_workOut_173 (lv_at hl 4 rfl) ?_
        refine zr_i2l hx hb (x := po) (⟨by omega, by omega⟩) dX3_workOut_175 ?_
        refine zr_last hx hb hK hP hD hS 7 0 rfl rfl (i := 1) (x := po) (⟨by omega, by omega, by omega⟩) dX3_workOut_176 (fun H locs hP hD hS => ?_)
        have hP : va_P G.1 vwCl [(nr, zaI (G.2 1) 61 (fr)), (tb, zaR (G.2 3) 7 (ztb tr)), ((tr 0), zaL (G.2 0) 61 (zup t0 1 mo)), ((tr 1), zaL (G.2 0) 61 (zup t1 1 it)), ((tr 2), zaL (G.2 0) 61 (zup t2 1 pd)), ((tr 3), zaL (G.2 0) 61 (zup t3 1 (pd - it))), ((tr 4), zaL (G.2 0) 61 (zup t4 1 lf2)), ((tr 5), zaL (G.2 0) 61 (zup t5 1 po)), ((tr 6), zaL (G.2 0) 61 (t6)), (q, .inr (2, [.ref sa, .ref da, .ref wa, .long (lz (ru)), .long (lz (rd)), .int (iz (pe1))])), (sa, .inr (9, [.ref sb, .int (iz (sn1)), .long (lz (st1))])), (sb, zaL (G.2 0) 40 (sf1)), (da, .inr (9, [.ref db, .int (iz (dn1)), .long (lz (dt1))])), (db, zaL (G.2 0) 40 (df1)), (wa, .inr (9, [.ref wb, .int (iz (wn1)), .long (lz (wt1))])), (wb, zaL (G.2 0) 40 (wf1)), (r, .inr (5, [.int (iz (6))])), (y, .inr (4, [.ref nr, .ref ne, .ref nh, .ref tb, .ref q, .long (lz (mo)), .int (iz (pn)), .int (iz ((0 : Int)))])), (ne, zaL (G.2 0) 61 (fe)), (nh, zaZ (G.2 2) 61 (fh))] H := hP
        have hD : va_D A [(nr, zaI (G.2 1) 61 (fr)), (tb, zaR (G.2 3) 7 (ztb tr)), ((tr 0), zaL (G.2 0) 61 (zup t0 1 mo)), ((tr 1), zaL (G.2 0) 61 (zup t1 1 it)), ((tr 2), zaL (G.2 0) 61 (zup t2 1 pd)), ((tr 3), zaL (G.2 0) 61 (zup t3 1 (pd - it))), ((tr 4), zaL (G.2 0) 61 (zup t4 1 lf2)), ((tr 5), zaL (G.2 0) 61 (zup t5 1 po)), ((tr 6), zaL (G.2 0) 61 (t6)), (q, .inr (2, [.ref sa, .ref da, .ref wa, .long (lz (ru)), .long (lz (rd)), .int (iz (pe1))])), (sa, .inr (9, [.ref sb, .int (iz (sn1)), .long (lz (st1))])), (sb, zaL (G.2 0) 40 (sf1)), (da, .inr (9, [.ref db, .int (iz (dn1)), .long (lz (dt1))])), (db, zaL (G.2 0) 40 (df1)), (wa, .inr (9, [.ref wb, .int (iz (wn1)), .long (lz (wt1))])), (wb, zaL (G.2 0) 40 (wf1)), (r, .inr (5, [.int (iz (6))])), (y, .inr (4, [.ref nr, .ref ne, .ref nh, .ref tb, .ref q, .long (lz (mo)), .int (iz (pn)), .int (iz ((0 : Int)))])), (ne, zaL (G.2 0) 61 (fe)), (nh, zaZ (G.2 2) 61 (fh))] := hD
        refine lv_aload_n hx hb dX3_workOut_177 rfl (lv_at hl 6 rfl) ?_
        refine va_get (D := G.1) (ci := 4) (v := .ref tb) (C := RX3) (T := TX3) (N := 8) hx hb hts iwX3 hown hK hP 17 rfl rfl 3 (by decide) (hts (.fieldLink RX3 25 "AnnuityHouse$Loan" "table" "[[J") (by decide +kernel)) (fun _ h9 => h9) rfl dX3_workOut_178 ?_
        refine lv_bipush (v := iz (6)) hx hb dX3_workOut_181 rfl ?_
        refine zr_aldA (v := (tr 6)) hx hb hK hP 1 rfl (i := 6) (⟨by omega, by omega, by omega⟩) (ztb_at (by decide)) dX3_workOut_183 ?_
        refine lv_iload hx hb dX3_workOut_184 (lv_at hl 5 rfl) ?_
        refine lv_lload hx hb dX3_workOut_186 (lv_at hl 3 rfl) ?_
        refine zr_last hx hb hK hP hD hS 8 0 rfl rfl (i := 1) (x := zi) (⟨by omega, by omega, by omega⟩) dX3_workOut_188 (fun H locs hP hD hS => ?_)
        have hP : va_P G.1 vwCl [(nr, zaI (G.2 1) 61 (fr)), (tb, zaR (G.2 3) 7 (ztb tr)), ((tr 0), zaL (G.2 0) 61 (zup t0 1 mo)), ((tr 1), zaL (G.2 0) 61 (zup t1 1 it)), ((tr 2), zaL (G.2 0) 61 (zup t2 1 pd)), ((tr 3), zaL (G.2 0) 61 (zup t3 1 (pd - it))), ((tr 4), zaL (G.2 0) 61 (zup t4 1 lf2)), ((tr 5), zaL (G.2 0) 61 (zup t5 1 po)), ((tr 6), zaL (G.2 0) 61 (zup t6 1 zi)), (q, .inr (2, [.ref sa, .ref da, .ref wa, .long (lz (ru)), .long (lz (rd)), .int (iz (pe1))])), (sa, .inr (9, [.ref sb, .int (iz (sn1)), .long (lz (st1))])), (sb, zaL (G.2 0) 40 (sf1)), (da, .inr (9, [.ref db, .int (iz (dn1)), .long (lz (dt1))])), (db, zaL (G.2 0) 40 (df1)), (wa, .inr (9, [.ref wb, .int (iz (wn1)), .long (lz (wt1))])), (wb, zaL (G.2 0) 40 (wf1)), (r, .inr (5, [.int (iz (6))])), (y, .inr (4, [.ref nr, .ref ne, .ref nh, .ref tb, .ref q, .long (lz (mo)), .int (iz (pn)), .int (iz ((0 : Int)))])), (ne, zaL (G.2 0) 61 (fe)), (nh, zaZ (G.2 2) 61 (fh))] H := hP
        have hD : va_D A [(nr, zaI (G.2 1) 61 (fr)), (tb, zaR (G.2 3) 7 (ztb tr)), ((tr 0), zaL (G.2 0) 61 (zup t0 1 mo)), ((tr 1), zaL (G.2 0) 61 (zup t1 1 it)), ((tr 2), zaL (G.2 0) 61 (zup t2 1 pd)), ((tr 3), zaL (G.2 0) 61 (zup t3 1 (pd - it))), ((tr 4), zaL (G.2 0) 61 (zup t4 1 lf2)), ((tr 5), zaL (G.2 0) 61 (zup t5 1 po)), ((tr 6), zaL (G.2 0) 61 (zup t6 1 zi)), (q, .inr (2, [.ref sa, .ref da, .ref wa, .long (lz (ru)), .long (lz (rd)), .int (iz (pe1))])), (sa, .inr (9, [.ref sb, .int (iz (sn1)), .long (lz (st1))])), (sb, zaL (G.2 0) 40 (sf1)), (da, .inr (9, [.ref db, .int (iz (dn1)), .long (lz (dt1))])), (db, zaL (G.2 0) 40 (df1)), (wa, .inr (9, [.ref wb, .int (iz (wn1)), .long (lz (wt1))])), (wb, zaL (G.2 0) 40 (wf1)), (r, .inr (5, [.int (iz (6))])), (y, .inr (4, [.ref nr, .ref ne, .ref nh, .ref tb, .ref q, .long (lz (mo)), .int (iz (pn)), .int (iz ((0 : Int)))])), (ne, zaL (G.2 0) 61 (fe)), (nh, zaZ (G.2 2) 61 (fh))] := hD
        refine lv_aload_n hx hb dX3_workOut_189 rfl (lv_at hl 6 rfl) ?_
        refine lv_iload hx hb dX3_workOut_190 (lv_at hl 5 rfl) ?_
        refine va_put (D := G.1) (ci := 4) (v := .int (iz (1))) (ty := .int) (C := RX3) (T := TX3) (N := 8) hx hb hts iwX3 tyX3 tyX3_ok nmX3 hown hK hP hD hS 17 rfl rfl 7 (by decide) (hts (.fieldLink RX3 43 "AnnuityHouse$Loan" "tableRows" "I") (by decide +kernel)) (fun _ h9 => h9) rfl (by decide +kernel) rfl rfl (Nat.le_of_ble_eq_true rfl) dX3_workOut_192 (fun H locs hP hD hS => ?_)
        have hP : va_P G.1 vwCl [(nr, zaI (G.2 1) 61 (fr)), (tb, zaR (G.2 3) 7 (ztb tr)), ((tr 0), zaL (G.2 0) 61 (zup t0 1 mo)), ((tr 1), zaL (G.2 0) 61 (zup t1 1 it)), ((tr 2), zaL (G.2 0) 61 (zup t2 1 pd)), ((tr 3), zaL (G.2 0) 61 (zup t3 1 (pd - it))), ((tr 4), zaL (G.2 0) 61 (zup t4 1 lf2)), ((tr 5), zaL (G.2 0) 61 (zup t5 1 po)), ((tr 6), zaL (G.2 0) 61 (zup t6 1 zi)), (q, .inr (2, [.ref sa, .ref da, .ref wa, .long (lz (ru)), .long (lz (rd)), .int (iz (pe1))])), (sa, .inr (9, [.ref sb, .int (iz (sn1)), .long (lz (st1))])), (sb, zaL (G.2 0) 40 (sf1)), (da, .inr (9, [.ref db, .int (iz (dn1)), .long (lz (dt1))])), (db, zaL (G.2 0) 40 (df1)), (wa, .inr (9, [.ref wb, .int (iz (wn1)), .long (lz (wt1))])), (wb, zaL (G.2 0) 40 (wf1)), (r, .inr (5, [.int (iz (6))])), (y, .inr (4, [.ref nr, .ref ne, .ref nh, .ref tb, .ref q, .long (lz (mo)), .int (iz (pn)), .int (iz (1))])), (ne, zaL (G.2 0) 61 (fe)), (nh, zaZ (G.2 2) 61 (fh))] H := hP
        have hD : va_D A [(nr, zaI (G.2 1) 61 (fr)), (tb, zaR (G.2 3) 7 (ztb tr)), ((tr 0), zaL (G.2 0) 61 (zup t0 1 mo)), ((tr 1), zaL (G.2 0) 61 (zup t1 1 it)), ((tr 2), zaL (G.2 0) 61 (zup t2 1 pd)), ((tr 3), zaL (G.2 0) 61 (zup t3 1 (pd - it))), ((tr 4), zaL (G.2 0) 61 (zup t4 1 lf2)), ((tr 5), zaL (G.2 0) 61 (zup t5 1 po)), ((tr 6), zaL (G.2 0) 61 (zup t6 1 zi)), (q, .inr (2, [.ref sa, .ref da, .ref wa, .long (lz (ru)), .long (lz (rd)), .int (iz (pe1))])), (sa, .inr (9, [.ref sb, .int (iz (sn1)), .long (lz (st1))])), (sb, zaL (G.2 0) 40 (sf1)), (da, .inr (9, [.ref db, .int (iz (dn1)), .long (lz (dt1))])), (db, zaL (G.2 0) 40 (df1)), (wa, .inr (9, [.ref wb, .int (iz (wn1)), .long (lz (wt1))])), (wb, zaL (G.2 0) 40 (wf1)), (r, .inr (5, [.int (iz (6))])), (y, .inr (4, [.ref nr, .ref ne, .ref nh, .ref tb, .ref q, .long (lz (mo)), .int (iz (pn)), .int (iz (1))])), (ne, zaL (G.2 0) 61 (fe)), (nh, zaZ (G.2 2) 61 (fh))] := hD
        refine lv_iinc (v := iz (1 + 1)) (lv' := [(7, .int (iz (1 + 1))), (2, .long (lz (lf2))), (10, .long (lz (pd))), (8, .long (lz (it))), (4, .long (lz (zi))), (6, .int (iz (po))), (0, .ref y), (1, .ref r)]) hx hb dX3_workOut_195 hl (k := 5) rfl (by rw [show Int32.ofInt (1) = iz (1) from rfl, iz_add]) (by decide) rfl (fun ls hl => ?_)
        refine lv_goto (tgt := 19) hx hb dX3_workOut_198 (by decide) ?_
        have hl_19 : ∀ (zn_19 : Nat) (i : Int) (lf : Int) (ins : Int) (rw2 : Int) (g0 : Int → Int) (g1 : Int → Int) (g2 : Int → Int) (g3 : Int → Int) (g4 : Int → Int) (g5 : Int → Int) (g6 : Int → Int) (H : Heap) (locs : List Loc) (ls : Array Slot), (pn + 1 - i).toNat < zn_19 → (2 ≤ i ∧ i ≤ pn + 1) → (0 ≤ lf ∧ lf ≤ mo) → (ins = zinst mo po pn) → (0 ≤ ins ∧ ins ≤ 2000000000) → (g6 1 = zinst mo po pn) → va_P G.1 vwCl [(nr, zaI (G.2 1) 61 (fr)), (tb, zaR (G.2 3) 7 (ztb tr)), ((tr 0), zaL (G.2 0) 61 (g0)), ((tr 1), zaL (G.2 0) 61 (g1)), ((tr 2), zaL (G.2 0) 61 (g2)), ((tr 3), zaL (G.2 0) 61 (g3)), ((tr 4), zaL (G.2 0) 61 (g4)), ((tr 5), zaL (G.2 0) 61 (g5)), ((tr 6), zaL (G.2 0) 61 (g6)), (q, .inr (2, [.ref sa, .ref da, .ref wa, .long (lz (ru)), .long (lz (rd)), .int (iz (pe1))])), (sa, .inr (9, [.ref sb, .int (iz (sn1)), .long (lz (st1))])), (sb, zaL (G.2 0) 40 (sf1)), (da, .inr (9, [.ref db, .int (iz (dn1)), .long (lz (dt1))])), (db, zaL (G.2 0) 40 (df1)), (wa, .inr (9, [.ref wb, .int (iz (wn1)), .long (lz (wt1))])), (wb, zaL (G.2 0) 40 (wf1)), (r, .inr (5, [.int (iz (6))])), (y, .inr (4, [.ref nr, .ref ne, .ref nh, .ref tb, .ref q, .long (lz (mo)), .int (iz (pn)), .int (iz (rw2))])), (ne, zaL (G.2 0) 61 (fe)), (nh, zaZ (G.2 2) 61 (fh))] H → va_D A [(nr, zaI (G.2 1) 61 (fr)), (tb, zaR (G.2 3) 7 (ztb tr)), ((tr 0), zaL (G.2 0) 61 (g0)), ((tr 1), zaL (G.2 0) 61 (g1)), ((tr 2), zaL (G.2 0) 61 (g2)), ((tr 3), zaL (G.2 0) 61 (g3)), ((tr 4), zaL (G.2 0) 61 (g4)), ((tr 5), zaL (G.2 0) 61 (g5)), ((tr 6), zaL (G.2 0) 61 (g6)), (q, .inr (2, [.ref sa, .ref da, .ref wa, .long (lz (ru)), .long (lz (rd)), .int (iz (pe1))])), (sa, .inr (9, [.ref sb, .int (iz (sn1)), .long (lz (st1))])), (sb, zaL (G.2 0) 40 (sf1)), (da, .inr (9, [.ref db, .int (iz (dn1)), .long (lz (dt1))])), (db, zaL (G.2 0) 40 (df1)), (wa, .inr (9, [.ref wb, .int (iz (wn1)), .long (lz (wt1))])), (wb, zaL (G.2 0) 40 (wf1)), (r, .inr (5, [.int (iz (6))])), (y, .inr (4, [.ref nr, .ref ne, .ref nh, .ref tb, .ref q, .long (lz (mo)), .int (iz (pn)), .int (iz (rw2))])), (ne, zaL (G.2 0) 61 (fe)), (nh, zaZ (G.2 2) 61 (fh))] → va_S A s.heap H locs → lv_has ls 12 [(7, .int (iz (i))), (2, .long (lz (lf))), (4, .long (lz (ins))), (6, .int (iz (po))), (0, .ref y), (1, .ref r)] → W p l e rm_c_X3_workOut s m ([.ref y, .ref r] : List Value).toArray below meth c H locs (0 + 0 + 0 + 0) (0 + 0 + 0 + 0) Q (F0 m 19 ls []) := by
          intro zn_19
          induction zn_19 with
          | zero => intro i lf ins rw2 g0 g1 g2 g3 g4 g5 g6 H locs ls hm; exact absurd hm (Nat.not_lt_zero _)
          | succ zn_19 ih_19 =>
            intro i lf ins rw2 g0 g1 g2 g3 g4 g5 g6 H locs ls hm_19 k1 k2 k4 k6 k5 hP hD hS hl
            refine lv_iload hx hb dX3_workOut_19 (lv_at hl 0 rfl) ?_
            refine lv_aload_n hx hb dX3_workOut_21 rfl (lv_at hl 4 rfl) ?_
            refine va_get (D := G.1) (ci := 4) (v := .int (iz (pn))) (C := RX3) (T := TX3) (N := 8) hx hb hts iwX3 hown hK hP 17 rfl rfl 6 (by decide) (hts (.fieldLink RX3 39 "AnnuityHouse$Loan" "periods" "I") (by decide +kernel)) (fun _ h9 => h9) rfl dX3_workOut_22 ?_
            refine zr_icmp_gt (x := i) (y := pn) (tgt := 201) hx hb (⟨by omega, by omega⟩) (⟨by omega, by omega⟩) dX3_workOut_25 (by decide) (fun h_10 => ?_) (fun h_10 => ?_)
            ·
              rw [hQ]
              exact zr_vret (u := (g0, g1, g2, g3, g4, g5, g6, rw2, sf1, sn1, st1, df1, dn1, dt1, wf1, wn1, wt1, ru, rd, pe1)) hx hb hr hlocks (hP.sub [17, 0, 18, 19, 1, 2, 3, 4, 5, 6, 7, 8, 9, 10, 11, 12, 13, 14, 15, 16] rfl) (hD.sub [17, 0, 18, 19, 1, 2, 3, 4, 5, 6, 7, 8, 9, 10, 11, 12, 13, 14, 15, 16] (by decide) rfl) hS (by first | exact Nat.le_of_ble_eq_true rfl | omega) (by first | exact Nat.le_of_ble_eq_true rfl | omega) dX3_workOut_201 (show g6 1 = zinst mo po pn from k5)
            ·
              refine lv_lload_n hx hb dX3_workOut_28 rfl (lv_at hl 1 rfl) ?_
              refine lv_lconst (v := lz (0)) hx hb dX3_workOut_29 rfl ?_
              refine zr_lcmp_le (x := lf) (y := 0) (tgt := 201) hx hb (⟨by omega, by omega⟩) (⟨by omega, by omega⟩) dX3_workOut_30 dX3_workOut_31 (by decide) (fun h_11 => ?_) (fun h_11 => ?_)
              ·
                rw [hQ]
                exact zr_vret (u := (g0, g1, g2, g3, g4, g5, g6, rw2, sf1, sn1, st1, df1, dn1, dt1, wf1, wn1, wt1, ru, rd, pe1)) hx hb hr hlocks (hP.sub [17, 0, 18, 19, 1, 2, 3, 4, 5, 6, 7, 8, 9, 10, 11, 12, 13, 14, 15, 16] rfl) (hD.sub [17, 0, 18, 19, 1, 2, 3, 4, 5, 6, 7, 8, 9, 10, 11, 12, 13, 14, 15, 16] (by decide) rfl) hS (by first | exact Nat.le_of_ble_eq_true rfl | omega) (by first | exact Nat.le_of_ble_eq_true rfl | omega) dX3_workOut_201 (show g6 1 = zinst mo po pn from k5)
              ·
                refine lv_aload_n hx hb dX3_workOut_34 rfl (lv_at hl 4 rfl) ?_
                refine va_get (D := G.1) (ci := 4) (v := .ref nr) (C := RX3) (T := TX3) (N := 8) hx hb hts iwX3 hown hK hP 17 rfl rfl 0 (by decide) (hts (.fieldLink RX3 9 "AnnuityHouse$Loan" "rates" "[I") (by decide +kernel)) (fun _ h9 => h9) rfl dX3_workOut_35 ?_
                refine lv_iload hx hb dX3_workOut_38 (lv_at hl 0 rfl) ?_
                refine zr_iald hx hb hK hP 0 1 rfl rfl (i := i) (⟨by omega, by omega, by omega⟩) dX3_workOut_40 ?_
                refine zr_eqi (y := -1) ((hf i (by omega) (by omega)).1.trans (if_neg (by omega))) ?_
                refine lv_iconst (v := iz (-1)) hx hb dX3_workOut_41 rfl ?_
                refine zr_icmp_eq (x := -1) (y := -1) (tgt := 73) hx hb (⟨by omega, by omega⟩) (⟨by omega, by omega⟩) dX3_workOut_42 (by decide) (fun h_12 => ?_) (fun h_12 => ?_)
                ·
                  refine lv_aload_n hx hb dX3_workOut_73 rfl (lv_at hl 5 rfl) ?_
                  refine lv_lload_n hx hb dX3_workOut_74 rfl (lv_at hl 1 rfl) ?_
                  refine lv_iload hx hb dX3_workOut_75 (lv_at hl 3 rfl) ?_
                  refine zr_i2l hx hb (x := po) (⟨by omega, by omega⟩) dX3_workOut_77 ?_
                  refine zr_lmul hx hb dX3_workOut_78 ?_
                  refine zr_ldc2 (z := 100000) hx hb hown (hts (.constantLong RX3 50 (100000)) (by decide +kernel)) rfl dX3_workOut_79 ?_
                  have hlp := zlp (lf := lf) (po := po) (by omega) (by omega)
                  refine zc_l (wr := [(nr, zaI (G.2 1) 61 (fr)), (tb, zaR (G.2 3) 7 (ztb tr)), ((tr 0), zaL (G.2 0) 61 (g0)), ((tr 1), zaL (G.2 0) 61 (g1)), ((tr 2), zaL (G.2 0) 61 (g2)), ((tr 3), zaL (G.2 0) 61 (g3)), ((tr 4), zaL (G.2 0) 61 (g4)), ((tr 5), zaL (G.2 0) 61 (g5)), ((tr 6), zaL (G.2 0) 61 (g6)), (q, .inr (2, [.ref sa, .ref da, .ref wa, .long (lz (ru)), .long (lz (rd)), .int (iz (pe1))])), (sa, .inr (9, [.ref sb, .int (iz (sn1)), .long (lz (st1))])), (sb, zaL (G.2 0) 40 (sf1)), (da, .inr (9, [.ref db, .int (iz (dn1)), .long (lz (dt1))])), (db, zaL (G.2 0) 40 (df1)), (wa, .inr (9, [.ref wb, .int (iz (wn1)), .long (lz (wt1))])), (wb, zaL (G.2 0) 40 (wf1)), (y, .inr (4, [.ref nr, .ref ne, .ref nh, .ref tb, .ref q, .long (lz (mo)), .int (iz (pn)), .int (iz (rw2))])), (ne, zaL (G.2 0) 61 (fe)), (nh, zaZ (G.2 2) 61 (fh))]) (va_runV (As := [.long (lz (lf * po)), .long (lz (100000))]) (rest := []) ⟨hx, hb, hml, hown, hts⟩ (c_X4_ratio l G r (lf * po) 100000 (by omega) (by omega) H.size) (cwV 2 hts gX3_workOut_X4_ratio rfl rfl rfl (by decide +kernel) ⟨Nat.le_of_ble_eq_true rfl, Nat.le_of_ble_eq_true rfl⟩) (zpV hKX hP hD [16] rfl rfl 16 5 rfl rfl) rfl rfl hl.1 rfl (lv_room (Nat.le_of_ble_eq_true rfl)) dX3_workOut_82 ⟨(by first | exact Nat.le_of_ble_eq_true rfl | (show _ ≤ (0 : Nat); omega)), (by first | exact Nat.le_of_ble_eq_true rfl | (show _ ≤ (0 : Nat); omega))⟩) hP hD hS hA [16] [0, 1, 2, 3, 4, 5, 6, 7, 8, 9, 10, 11, 12, 13, 14, 15, 17, 18, 19] rfl rfl rfl (by decide) (fun it u_13 H locs hit hP hD hS => ?_)
                  have hP : va_P G.1 vwCl [(nr, zaI (G.2 1) 61 (fr)), (tb, zaR (G.2 3) 7 (ztb tr)), ((tr 0), zaL (G.2 0) 61 (g0)), ((tr 1), zaL (G.2 0) 61 (g1)), ((tr 2), zaL (G.2 0) 61 (g2)), ((tr 3), zaL (G.2 0) 61 (g3)), ((tr 4), zaL (G.2 0) 61 (g4)), ((tr 5), zaL (G.2 0) 61 (g5)), ((tr 6), zaL (G.2 0) 61 (g6)), (q, .inr (2, [.ref sa, .ref da, .ref wa, .long (lz (ru)), .long (lz (rd)), .int (iz (pe1))])), (sa, .inr (9, [.ref sb, .int (iz (sn1)), .long (lz (st1))])), (sb, zaL (G.2 0) 40 (sf1)), (da, .inr (9, [.ref db, .int (iz (dn1)), .long (lz (dt1))])), (db, zaL (G.2 0) 40 (df1)), (wa, .inr (9, [.ref wb, .int (iz (wn1)), .long (lz (wt1))])), (wb, zaL (G.2 0) 40 (wf1)), (y, .inr (4, [.ref nr, .ref ne, .ref nh, .ref tb, .ref q, .long (lz (mo)), .int (iz (pn)), .int (iz (rw2))])), (ne, zaL (G.2 0) 61 (fe)), (nh, zaZ (G.2 2) 61 (fh)), (r, .inr (5, [.int (iz (6))]))] H := hP
                  have hD : va_D A [(nr, zaI (G.2 1) 61 (fr)), (tb, zaR (G.2 3) 7 (ztb tr)), ((tr 0), zaL (G.2 0) 61 (g0)), ((tr 1), zaL (G.2 0) 61 (g1)), ((tr 2), zaL (G.2 0) 61 (g2)), ((tr 3), zaL (G.2 0) 61 (g3)), ((tr 4), zaL (G.2 0) 61 (g4)), ((tr 5), zaL (G.2 0) 61 (g5)), ((tr 6), zaL (G.2 0) 61 (g6)), (q, .inr (2, [.ref sa, .ref da, .ref wa, .long (lz (ru)), .long (lz (rd)), .int (iz (pe1))])), (sa, .inr (9, [.ref sb, .int (iz (sn1)), .long (lz (st1))])), (sb, zaL (G.2 0) 40 (sf1)), (da, .inr (9, [.ref db, .int (iz (dn1)), .long (lz (dt1))])), (db, zaL (G.2 0) 40 (df1)), (wa, .inr (9, [.ref wb, .int (iz (wn1)), .long (lz (wt1))])), (wb, zaL (G.2 0) 40 (wf1)), (y, .inr (4, [.ref nr, .ref ne, .ref nh, .ref tb, .ref q, .long (lz (mo)), .int (iz (pn)), .int (iz (rw2))])), (ne, zaL (G.2 0) 61 (fe)), (nh, zaZ (G.2 2) 61 (fh)), (r, .inr (5, [.int (iz (6))]))] := hD
                  have hit : it = zr6 (lf * po) (100000 : Int) := hit
                  have hii := zinst_int (mo := mo) (po := po) (n := pn) (lf := lf) (by omega) (by omega) (by omega) (by omega)
                  rw [← hit, ← k4] at hii
                  refine lv_lstore (lv' := [(8, .long (lz (it))), (7, .int (iz (i))), (2, .long (lz (lf))), (4, .long (lz (ins))), (6, .int (iz (po))), (0, .ref y), (1, .ref r)]) hx hb dX3_workOut_85 hl (by decide) rfl (fun ls hl => ?_)
                  refine lv_aload_n hx hb dX3_workOut_87 rfl (lv_at hl 5 rfl) ?_
                  refine lv_iload hx hb dX3_workOut_88 (lv_at hl 1 rfl) ?_
                  refine lv_lload_n hx hb dX3_workOut_90 rfl (lv_at hl 2 rfl) ?_
                  refine lv_lload hx hb dX3_workOut_91 (lv_at hl 0 rfl) ?_
                  refine zr_ladd hx hb dX3_workOut_93 ?_
                  refine lv_lload hx hb dX3_workOut_94 (lv_at hl 3 rfl) ?_
                  refine zc_l (wr := [(nr, zaI (G.2 1) 61 (fr)), (tb, zaR (G.2 3) 7 (ztb tr)), ((tr 0), zaL (G.2 0) 61 (g0)), ((tr 1), zaL (G.2 0) 61 (g1)), ((tr 2), zaL (G.2 0) 61 (g2)), ((tr 3), zaL (G.2 0) 61 (g3)), ((tr 4), zaL (G.2 0) 61 (g4)), ((tr 5), zaL (G.2 0) 61 (g5)), ((tr 6), zaL (G.2 0) 61 (g6)), (q, .inr (2, [.ref sa, .ref da, .ref wa, .long (lz (ru)), .long (lz (rd)), .int (iz (pe1))])), (sa, .inr (9, [.ref sb, .int (iz (sn1)), .long (lz (st1))])), (sb, zaL (G.2 0) 40 (sf1)), (da, .inr (9, [.ref db, .int (iz (dn1)), .long (lz (dt1))])), (db, zaL (G.2 0) 40 (df1)), (wa, .inr (9, [.ref wb, .int (iz (wn1)), .long (lz (wt1))])), (wb, zaL (G.2 0) 40 (wf1)), (r, .inr (5, [.int (iz (6))]))]) (va_runV (As := [.int (iz (i)), .long (lz (lf + it)), .long (lz (ins))]) (rest := []) ⟨hx, hb, hml, hown, hts⟩ (c_X3_paidIn l G y nr ne nh tb q fe fh mo pn rw2 i (lf + it) ins (by omega) ((hf i (by omega) (by omega)).2.2) ((hf i (by omega) (by omega)).2.1) (by omega) H.size) (cwV 3 hts gX3_workOut_X3_paidIn rfl rfl rfl (by decide +kernel) ⟨Nat.le_of_ble_eq_true rfl, Nat.le_of_ble_eq_true rfl⟩) (zpV hKX hP hD [16, 17, 18] rfl rfl 16 4 rfl rfl) rfl rfl hl.1 rfl (lv_room (Nat.le_of_ble_eq_true rfl)) dX3_workOut_96 ⟨(by first | exact Nat.le_of_ble_eq_true rfl | (show _ ≤ (0 : Nat); omega)), (by first | exact Nat.le_of_ble_eq_true rfl | (show _ ≤ (0 : Nat); omega))⟩) hP hD hS hA [16, 17, 18] [0, 1, 2, 3, 4, 5, 6, 7, 8, 9, 10, 11, 12, 13, 14, 15, 19] rfl rfl rfl (by decide) (fun pd u_15 H locs hpd hP hD hS => ?_)
                  have hP : va_P G.1 vwCl [(nr, zaI (G.2 1) 61 (fr)), (tb, zaR (G.2 3) 7 (ztb tr)), ((tr 0), zaL (G.2 0) 61 (g0)), ((tr 1), zaL (G.2 0) 61 (g1)), ((tr 2), zaL (G.2 0) 61 (g2)), ((tr 3), zaL (G.2 0) 61 (g3)), ((tr 4), zaL (G.2 0) 61 (g4)), ((tr 5), zaL (G.2 0) 61 (g5)), ((tr 6), zaL (G.2 0) 61 (g6)), (q, .inr (2, [.ref sa, .ref da, .ref wa, .long (lz (ru)), .long (lz (rd)), .int (iz (pe1))])), (sa, .inr (9, [.ref sb, .int (iz (sn1)), .long (lz (st1))])), (sb, zaL (G.2 0) 40 (sf1)), (da, .inr (9, [.ref db, .int (iz (dn1)), .long (lz (dt1))])), (db, zaL (G.2 0) 40 (df1)), (wa, .inr (9, [.ref wb, .int (iz (wn1)), .long (lz (wt1))])), (wb, zaL (G.2 0) 40 (wf1)), (r, .inr (5, [.int (iz (6))])), (y, .inr (4, [.ref nr, .ref ne, .ref nh, .ref tb, .ref q, .long (lz (mo)), .int (iz (pn)), .int (iz (rw2))])), (ne, zaL (G.2 0) 61 (fe)), (nh, zaZ (G.2 2) 61 (fh))] H := hP
                  have hD : va_D A [(nr, zaI (G.2 1) 61 (fr)), (tb, zaR (G.2 3) 7 (ztb tr)), ((tr 0), zaL (G.2 0) 61 (g0)), ((tr 1), zaL (G.2 0) 61 (g1)), ((tr 2), zaL (G.2 0) 61 (g2)), ((tr 3), zaL (G.2 0) 61 (g3)), ((tr 4), zaL (G.2 0) 61 (g4)), ((tr 5), zaL (G.2 0) 61 (g5)), ((tr 6), zaL (G.2 0) 61 (g6)), (q, .inr (2, [.ref sa, .ref da, .ref wa, .long (lz (ru)), .long (lz (rd)), .int (iz (pe1))])), (sa, .inr (9, [.ref sb, .int (iz (sn1)), .long (lz (st1))])), (sb, zaL (G.2 0) 40 (sf1)), (da, .inr (9, [.ref db, .int (iz (dn1)), .long (lz (dt1))])), (db, zaL (G.2 0) 40 (df1)), (wa, .inr (9, [.ref wb, .int (iz (wn1)), .long (lz (wt1))])), (wb, zaL (G.2 0) 40 (wf1)), (r, .inr (5, [.int (iz (6))])), (y, .inr (4, [.ref nr, .ref ne, .ref nh, .ref tb, .ref q, .long (lz (mo)), .int (iz (pn)), .int (iz (rw2))])), (ne, zaL (G.2 0) 61 (fe)), (nh, zaZ (G.2 2) 61 (fh))] := hD
                  have hpd : pd = if i = pn ∨ (lf + it) ≤ ins then (lf + it) else ins := hpd
                  have hpr : 0 ≤ pd ∧ pd ≤ 100000000000 ∧ it ≤ pd := by rw [hpd]; split <;> omega
                  refine lv_lstore (lv' := [(10, .long (lz (pd))), (8, .long (lz (it))), (7, .int (iz (i))), (2, .long (lz (lf))), (4, .long (lz (ins))), (6, .int (iz (po))), (0, .ref y), (1, .ref r)]) hx hb dX3_workOut_99 hl (by decide) rfl (fun ls hl => ?_)
                  refine lv_aload_n hx hb dX3_workOut_101 rfl (lv_at hl 6 rfl) ?_
                  refine va_get (D := G.1) (ci := 4) (v := .ref tb) (C := RX3) (T := TX3) (N := 8) hx hb hts iwX3 hown hK hP 17 rfl rfl 3 (by decide) (hts (.fieldLink RX3 25 "AnnuityHouse$Loan" "table" "[[J") (by decide +kernel)) (fun _ h9 => h9) rfl dX3_workOut_102 ?_
                  refine lv_iconst (v := iz (0)) hx hb dX3_workOut_105 rfl ?_
                  refine zr_aldA (v := (tr 0)) hx hb hK hP 1 rfl (i := 0) (⟨by omega, by omega, by omega⟩) (ztb_at (by decide)) dX3_workOut_106 ?_
                  refine lv_iload hx hb dX3_workOut_107 (lv_at hl 2 rfl) ?_
                  refine lv_lload_n hx hb dX3_workOut_109 rfl (lv_at hl 3 rfl) ?_
                  refine zr_last hx hb hK hP hD hS 2 0 rfl rfl (i := i) (x := lf) (⟨by omega, by omega, by omega⟩) dX3_workOut_110 (fun H locs hP hD hS => ?_)
                  have hP : va_P G.1 vwCl [(nr, zaI (G.2 1) 61 (fr)), (tb, zaR (G.2 3) 7 (ztb tr)), ((tr 0), zaL (G.2 0) 61 (zup g0 i lf)), ((tr 1), zaL (G.2 0) 61 (g1)), ((tr 2), zaL (G.2 0) 61 (g2)), ((tr 3), zaL (G.2 0) 61 (g3)), ((tr 4), zaL (G.2 0) 61 (g4)), ((tr 5), zaL (G.2 0) 61 (g5)), ((tr 6), zaL (G.2 0) 61 (g6)), (q, .inr (2, [.ref sa, .ref da, .ref wa, .long (lz (ru)), .long (lz (rd)), .int (iz (pe1))])), (sa, .inr (9, [.ref sb, .int (iz (sn1)), .long (lz (st1))])), (sb, zaL (G.2 0) 40 (sf1)), (da, .inr (9, [.ref db, .int (iz (dn1)), .long (lz (dt1))])), (db, zaL (G.2 0) 40 (df1)), (wa, .inr (9, [.ref wb, .int (iz (wn1)), .long (lz (wt1))])), (wb, zaL (G.2 0) 40 (wf1)), (r, .inr (5, [.int (iz (6))])), (y, .inr (4, [.ref nr, .ref ne, .ref nh, .ref tb, .ref q, .long (lz (mo)), .int (iz (pn)), .int (iz (rw2))])), (ne, zaL (G.2 0) 61 (fe)), (nh, zaZ (G.2 2) 61 (fh))] H := hP
                  have hD : va_D A [(nr, zaI (G.2 1) 61 (fr)), (tb, zaR (G.2 3) 7 (ztb tr)), ((tr 0), zaL (G.2 0) 61 (zup g0 i lf)), ((tr 1), zaL (G.2 0) 61 (g1)), ((tr 2), zaL (G.2 0) 61 (g2)), ((tr 3), zaL (G.2 0) 61 (g3)), ((tr 4), zaL (G.2 0) 61 (g4)), ((tr 5), zaL (G.2 0) 61 (g5)), ((tr 6), zaL (G.2 0) 61 (g6)), (q, .inr (2, [.ref sa, .ref da, .ref wa, .long (lz (ru)), .long (lz (rd)), .int (iz (pe1))])), (sa, .inr (9, [.ref sb, .int (iz (sn1)), .long (lz (st1))])), (sb, zaL (G.2 0) 40 (sf1)), (da, .inr (9, [.ref db, .int (iz (dn1)), .long (lz (dt1))])), (db, zaL (G.2 0) 40 (df1)), (wa, .inr (9, [.ref wb, .int (iz (wn1)), .long (lz (wt1))])), (wb, zaL (G.2 0) 40 (wf1)), (r, .inr (5, [.int (iz (6))])), (y, .inr (4, [.ref nr, .ref ne, .ref nh, .ref tb, .ref q, .long (lz (mo)), .int (iz (pn)), .int (iz (rw2))])), (ne, zaL (G.2 0) 61 (fe)), (nh, zaZ (G.2 2) 61 (fh))] := hD
                  refine lv_aload_n hx hb dX3_workOut_111 rfl (lv_at hl 6 rfl) ?_
                  refine va_get (D := G.1) (ci := 4) (v := .ref tb) (C := RX3) (T := TX3) (N := 8) hx hb hts iwX3 hown hK hP 17 rfl rfl 3 (by decide) (hts (.fieldLink RX3 25 "AnnuityHouse$Loan" "table" "[[J") (by decide +kernel)) (fun _ h9 => h9) rfl dX3_workOut_112 ?_
                  refine lv_iconst (v := iz (1)) hx hb dX3_workOut_115 rfl ?_
                  refine zr_aldA (v := (tr 1)) hx hb hK hP 1 rfl (i := 1) (⟨by omega, by omega, by omega⟩) (ztb_at (by decide)) dX3_workOut_116 ?_
                  refine lv_iload hx hb dX3_workOut_117 (lv_at hl 2 rfl) ?_
                  refine lv_lload hx hb dX3_workOut_119 (lv_at hl 1 rfl) ?_
                  refine zr_last hx hb hK hP hD hS 3 0 rfl rfl (i := i) (x := it) (⟨by omega, by omega, by omega⟩) dX3_workOut_121 (fun H locs hP hD hS => ?_)
                  have hP : va_P G.1 vwCl [(nr, zaI (G.2 1) 61 (fr)), (tb, zaR (G.2 3) 7 (ztb tr)), ((tr 0), zaL (G.2 0) 61 (zup g0 i lf)), ((tr 1), zaL (G.2 0) 61 (zup g1 i it)), ((tr 2), zaL (G.2 0) 61 (g2)), ((tr 3), zaL (G.2 0) 61 (g3)), ((tr 4), zaL (G.2 0) 61 (g4)), ((tr 5), zaL (G.2 0) 61 (g5)), ((tr 6), zaL (G.2 0) 61 (g6)), (q, .inr (2, [.ref sa, .ref da, .ref wa, .long (lz (ru)), .long (lz (rd)), .int (iz (pe1))])), (sa, .inr (9, [.ref sb, .int (iz (sn1)), .long (lz (st1))])), (sb, zaL (G.2 0) 40 (sf1)), (da, .inr (9, [.ref db, .int (iz (dn1)), .long (lz (dt1))])), (db, zaL (G.2 0) 40 (df1)), (wa, .inr (9, [.ref wb, .int (iz (wn1)), .long (lz (wt1))])), (wb, zaL (G.2 0) 40 (wf1)), (r, .inr (5, [.int (iz (6))])), (y, .inr (4, [.ref nr, .ref ne, .ref nh, .ref tb, .ref q, .long (lz (mo)), .int (iz (pn)), .int (iz (rw2))])), (ne, zaL (G.2 0) 61 (fe)), (nh, zaZ (G.2 2) 61 (fh))] H := hP
                  have hD : va_D A [(nr, zaI (G.2 1) 61 (fr)), (tb, zaR (G.2 3) 7 (ztb tr)), ((tr 0), zaL (G.2 0) 61 (zup g0 i lf)), ((tr 1), zaL (G.2 0) 61 (zup g1 i it)), ((tr 2), zaL (G.2 0) 61 (g2)), ((tr 3), zaL (G.2 0) 61 (g3)), ((tr 4), zaL (G.2 0) 61 (g4)), ((tr 5), zaL (G.2 0) 61 (g5)), ((tr 6), zaL (G.2 0) 61 (g6)), (q, .inr (2, [.ref sa, .ref da, .ref wa, .long (lz (ru)), .long (lz (rd)), .int (iz (pe1))])), (sa, .inr (9, [.ref sb, .int (iz (sn1)), .long (lz (st1))])), (sb, zaL (G.2 0) 40 (sf1)), (da, .inr (9, [.ref db, .int (iz (dn1)), .long (lz (dt1))])), (db, zaL (G.2 0) 40 (df1)), (wa, .inr (9, [.ref wb, .int (iz (wn1)), .long (lz (wt1))])), (wb, zaL (G.2 0) 40 (wf1)), (r, .inr (5, [.int (iz (6))])), (y, .inr (4, [.ref nr, .ref ne, .ref nh, .ref tb, .ref q, .long (lz (mo)), .int (iz (pn)), .int (iz (rw2))])), (ne, zaL (G.2 0) 61 (fe)), (nh, zaZ (G.2 2) 61 (fh))] := hD
                  refine lv_aload_n hx hb dX3_workOut_122 rfl (lv_at hl 6 rfl) ?_
                  refine va_get (D := G.1) (ci := 4) (v := .ref tb) (C := RX3) (T := TX3) (N := 8) hx hb hts iwX3 hown hK hP 17 rfl rfl 3 (by decide) (hts (.fieldLink RX3 25 "AnnuityHouse$Loan" "table" "[[J") (by decide +kernel)) (fun _ h9 => h9) rfl dX3_workOut_123 ?_
                  refine lv_iconst (v := iz (2)) hx hb dX3_workOut_126 rfl ?_
                  refine zr_aldA (v := (tr 2)) hx hb hK hP 1 rfl (i := 2) (⟨by omega, by omega, by omega⟩) (ztb_at (by decide)) dX3_workOut_127 ?_
                  refine lv_iload hx hb dX3_workOut_128 (lv_at hl 2 rfl) ?_
                  refine lv_lload hx hb dX3_workOut_130 (lv_at hl 0 rfl) ?_
                  refine zr_last hx hb hK hP hD hS 4 0 rfl rfl (i := i) (x := pd) (⟨by omega, by omega, by omega⟩) dX3_workOut_132 (fun H locs hP hD hS => ?_)
                  have hP : va_P G.1 vwCl [(nr, zaI (G.2 1) 61 (fr)), (tb, zaR (G.2 3) 7 (ztb tr)), ((tr 0), zaL (G.2 0) 61 (zup g0 i lf)), ((tr 1), zaL (G.2 0) 61 (zup g1 i it)), ((tr 2), zaL (G.2 0) 61 (zup g2 i pd)), ((tr 3), zaL (G.2 0) 61 (g3)), ((tr 4), zaL (G.2 0) 61 (g4)), ((tr 5), zaL (G.2 0) 61 (g5)), ((tr 6), zaL (G.2 0) 61 (g6)), (q, .inr (2, [.ref sa, .ref da, .ref wa, .long (lz (ru)), .long (lz (rd)), .int (iz (pe1))])), (sa, .inr (9, [.ref sb, .int (iz (sn1)), .long (lz (st1))])), (sb, zaL (G.2 0) 40 (sf1)), (da, .inr (9, [.ref db, .int (iz (dn1)), .long (lz (dt1))])), (db, zaL (G.2 0) 40 (df1)), (wa, .inr (9, [.ref wb, .int (iz (wn1)), .long (lz (wt1))])), (wb, zaL (G.2 0) 40 (wf1)), (r, .inr (5, [.int (iz (6))])), (y, .inr (4, [.ref nr, .ref ne, .ref nh, .ref tb, .ref q, .long (lz (mo)), .int (iz (pn)), .int (iz (rw2))])), (ne, zaL (G.2 0) 61 (fe)), (nh, zaZ (G.2 2) 61 (fh))] H := hP
                  have hD : va_D A [(nr, zaI (G.2 1) 61 (fr)), (tb, zaR (G.2 3) 7 (ztb tr)), ((tr 0), zaL (G.2 0) 61 (zup g0 i lf)), ((tr 1), zaL (G.2 0) 61 (zup g1 i it)), ((tr 2), zaL (G.2 0) 61 (zup g2 i pd)), ((tr 3), zaL (G.2 0) 61 (g3)), ((tr 4), zaL (G.2 0) 61 (g4)), ((tr 5), zaL (G.2 0) 61 (g5)), ((tr 6), zaL (G.2 0) 61 (g6)), (q, .inr (2, [.ref sa, .ref da, .ref wa, .long (lz (ru)), .long (lz (rd)), .int (iz (pe1))])), (sa, .inr (9, [.ref sb, .int (iz (sn1)), .long (lz (st1))])), (sb, zaL (G.2 0) 40 (sf1)), (da, .inr (9, [.ref db, .int (iz (dn1)), .long (lz (dt1))])), (db, zaL (G.2 0) 40 (df1)), (wa, .inr (9, [.ref wb, .int (iz (wn1)), .long (lz (wt1))])), (wb, zaL (G.2 0) 40 (wf1)), (r, .inr (5, [.int (iz (6))])), (y, .inr (4, [.ref nr, .ref ne, .ref nh, .ref tb, .ref q, .long (lz (mo)), .int (iz (pn)), .int (iz (rw2))])), (ne, zaL (G.2 0) 61 (fe)), (nh, zaZ (G.2 2) 61 (fh))] := hD
                  refine lv_aload_n hx hb dX3_workOut_133 rfl (lv_at hl 6 rfl) ?_
                  refine va_get (D := G.1) (ci := 4) (v := .ref tb) (C := RX3) (T := TX3) (N := 8) hx hb hts iwX3 hown hK hP 17 rfl rfl 3 (by decide) (hts (.fieldLink RX3 25 "AnnuityHouse$Loan" "table" "[[J") (by decide +kernel)) (fun _ h9 => h9) rfl dX3_workOut_134 ?_
                  refine lv_iconst (v := iz (3)) hx hb dX3_workOut_137 rfl ?_
                  refine zr_aldA (v := (tr 3)) hx hb hK hP 1 rfl (i := 3) (⟨by omega, by omega, by omega⟩) (ztb_at (by decide)) dX3_workOut_138 ?_
                  refine lv_iload hx hb dX3_workOut_139 (lv_at hl 2 rfl) ?_
                  refine lv_lload hx hb dX3_workOut_141 (lv_at hl 0 rfl) ?_
                  refine lv_lload hx hb dX3_workOut_143 (lv_at hl 1 rfl) ?_
                  refine zr_lsub hx hb dX3_workOut_145 ?_
                  refine zr_last hx hb hK hP hD hS 5 0 rfl rfl (i := i) (x := pd - it) (⟨by omega, by omega, by omega⟩) dX3_workOut_146 (fun H locs hP hD hS => ?_)
                  have hP : va_P G.1 vwCl [(nr, zaI (G.2 1) 61 (fr)), (tb, zaR (G.2 3) 7 (ztb tr)), ((tr 0), zaL (G.2 0) 61 (zup g0 i lf)), ((tr 1), zaL (G.2 0) 61 (zup g1 i it)), ((tr 2), zaL (G.2 0) 61 (zup g2 i pd)), ((tr 3), zaL (G.2 0) 61 (zup g3 i (pd - it))), ((tr 4), zaL (G.2 0) 61 (g4)), ((tr 5), zaL (G.2 0) 61 (g5)), ((tr 6), zaL (G.2 0) 61 (g6)), (q, .inr (2, [.ref sa, .ref da, .ref wa, .long (lz (ru)), .long (lz (rd)), .int (iz (pe1))])), (sa, .inr (9, [.ref sb, .int (iz (sn1)), .long (lz (st1))])), (sb, zaL (G.2 0) 40 (sf1)), (da, .inr (9, [.ref db, .int (iz (dn1)), .long (lz (dt1))])), (db, zaL (G.2 0) 40 (df1)), (wa, .inr (9, [.ref wb, .int (iz (wn1)), .long (lz (wt1))])), (wb, zaL (G.2 0) 40 (wf1)), (r, .inr (5, [.int (iz (6))])), (y, .inr (4, [.ref nr, .ref ne, .ref nh, .ref tb, .ref q, .long (lz (mo)), .int (iz (pn)), .int (iz (rw2))])), (ne, zaL (G.2 0) 61 (fe)), (nh, zaZ (G.2 2) 61 (fh))] H := hP
                  have hD : va_D A [(nr, zaI (G.2 1) 61 (fr)), (tb, zaR (G.2 3) 7 (ztb tr)), ((tr 0), zaL (G.2 0) 61 (zup g0 i lf)), ((tr 1), zaL (G.2 0) 61 (zup g1 i it)), ((tr 2), zaL (G.2 0) 61 (zup g2 i pd)), ((tr 3), zaL (G.2 0) 61 (zup g3 i (pd - it))), ((tr 4), zaL (G.2 0) 61 (g4)), ((tr 5), zaL (G.2 0) 61 (g5)), ((tr 6), zaL (G.2 0) 61 (g6)), (q, .inr (2, [.ref sa, .ref da, .ref wa, .long (lz (ru)), .long (lz (rd)), .int (iz (pe1))])), (sa, .inr (9, [.ref sb, .int (iz (sn1)), .long (lz (st1))])), (sb, zaL (G.2 0) 40 (sf1)), (da, .inr (9, [.ref db, .int (iz (dn1)), .long (lz (dt1))])), (db, zaL (G.2 0) 40 (df1)), (wa, .inr (9, [.ref wb, .int (iz (wn1)), .long (lz (wt1))])), (wb, zaL (G.2 0) 40 (wf1)), (r, .inr (5, [.int (iz (6))])), (y, .inr (4, [.ref nr, .ref ne, .ref nh, .ref tb, .ref q, .long (lz (mo)), .int (iz (pn)), .int (iz (rw2))])), (ne, zaL (G.2 0) 61 (fe)), (nh, zaZ (G.2 2) 61 (fh))] := hD
                  refine lv_lload_n hx hb dX3_workOut_147 rfl (lv_at hl 3 rfl) ?_
                  refine lv_lload hx hb dX3_workOut_148 (lv_at hl 1 rfl) ?_
                  refine lv_lload hx hb dX3_workOut_150 (lv_at hl 0 rfl) ?_
                  refine zr_lsub hx hb dX3_workOut_152 ?_
                  refine zr_ladd hx hb dX3_workOut_153 ?_
                  refine zr_namel (fun lf2 elf2 => ?_)
                  have hlf2 : 0 ≤ lf2 ∧ lf2 ≤ lf := by rw [elf2, hpd]; split <;> omega
                  refine lv_lstore_n (lv' := [(2, .long (lz (lf2))), (10, .long (lz (pd))), (8, .long (lz (it))), (7, .int (iz (i))), (4, .long (lz (ins))), (6, .int (iz (po))), (0, .ref y), (1, .ref r)]) hx hb dX3_workOut_154 rfl hl (by decide) rfl (fun ls hl => ?_)
                  refine lv_aload_n hx hb dX3_workOut_155 rfl (lv_at hl 6 rfl) ?_
                  refine va_get (D := G.1) (ci := 4) (v := .ref tb) (C := RX3) (T := TX3) (N := 8) hx hb hts iwX3 hown hK hP 17 rfl rfl 3 (by decide) (hts (.fieldLink RX3 25 "AnnuityHouse$Loan" "table" "[[J") (by decide +kernel)) (fun _ h9 => h9) rfl dX3_workOut_156 ?_
                  refine lv_iconst (v := iz (4)) hx hb dX3_workOut_159 rfl ?_
                  refine zr_aldA (v := (tr 4)) hx hb hK hP 1 rfl (i := 4) (⟨by omega, by omega, by omega⟩) (ztb_at (by decide)) dX3_workOut_160 ?_
                  refine lv_iload hx hb dX3_workOut_161 (lv_at hl 3 rfl) ?_
                  refine lv_lload_n hx hb dX3_workOut_163 rfl (lv_at hl 0 rfl) ?_
                  refine zr_last hx hb hK hP hD hS 6 0 rfl rfl (i := i) (x := lf2) (⟨by omega, by omega, by omega⟩) dX3_workOut_164 (fun H locs hP hD hS => ?_)
                  have hP : va_P G.1 vwCl [(nr, zaI (G.2 1) 61 (fr)), (tb, zaR (G.2 3) 7 (ztb tr)), ((tr 0), zaL (G.2 0) 61 (zup g0 i lf)), ((tr 1), zaL (G.2 0) 61 (zup g1 i it)), ((tr 2), zaL (G.2 0) 61 (zup g2 i pd)), ((tr 3), zaL (G.2 0) 61 (zup g3 i (pd - it))), ((tr 4), zaL (G.2 0) 61 (zup g4 i lf2)), ((tr 5), zaL (G.2 0) 61 (g5)), ((tr 6), zaL (G.2 0) 61 (g6)), (q, .inr (2, [.ref sa, .ref da, .ref wa, .long (lz (ru)), .long (lz (rd)), .int (iz (pe1))])), (sa, .inr (9, [.ref sb, .int (iz (sn1)), .long (lz (st1))])), (sb, zaL (G.2 0) 40 (sf1)), (da, .inr (9, [.ref db, .int (iz (dn1)), .long (lz (dt1))])), (db, zaL (G.2 0) 40 (df1)), (wa, .inr (9, [.ref wb, .int (iz (wn1)), .long (lz (wt1))])), (wb, zaL (G.2 0) 40 (wf1)), (r, .inr (5, [.int (iz (6))])), (y, .inr (4, [.ref nr, .ref ne, .ref nh, .ref tb, .ref q, .long (lz (mo)), .int (iz (pn)), .int (iz (rw2))])), (ne, zaL (G.2 0) 61 (fe)), (nh, zaZ (G.2 2) 61 (fh))] H := hP
                  have hD : va_D A [(nr, zaI (G.2 1) 61 (fr)), (tb, zaR (G.2 3) 7 (ztb tr)), ((tr 0), zaL (G.2 0) 61 (zup g0 i lf)), ((tr 1), zaL (G.2 0) 61 (zup g1 i it)), ((tr 2), zaL (G.2 0) 61 (zup g2 i pd)), ((tr 3), zaL (G.2 0) 61 (zup g3 i (pd - it))), ((tr 4), zaL (G.2 0) 61 (zup g4 i lf2)), ((tr 5), zaL (G.2 0) 61 (g5)), ((tr 6), zaL (G.2 0) 61 (g6)), (q, .inr (2, [.ref sa, .ref da, .ref wa, .long (lz (ru)), .long (lz (rd)), .int (iz (pe1))])), (sa, .inr (9, [.ref sb, .int (iz (sn1)), .long (lz (st1))])), (sb, zaL (G.2 0) 40 (sf1)), (da, .inr (9, [.ref db, .int (iz (dn1)), .long (lz (dt1))])), (db, zaL (G.2 0) 40 (df1)), (wa, .inr (9, [.ref wb, .int (iz (wn1)), .long (lz (wt1))])), (wb, zaL (G.2 0) 40 (wf1)), (r, .inr (5, [.int (iz (6))])), (y, .inr (4, [.ref nr, .ref ne, .ref nh, .ref tb, .ref q, .long (lz (mo)), .int (iz (pn)), .int (iz (rw2))])), (ne, zaL (G.2 0) 61 (fe)), (nh, zaZ (G.2 2) 61 (fh))] := hD
                  refine lv_aload_n hx hb dX3_workOut_165 rfl (lv_at hl 6 rfl) ?_
                  refine va_get (D := G.1) (ci := 4) (v := .ref tb) (C := RX3) (T := TX3) (N := 8) hx hb hts iwX3 hown hK hP 17 rfl rfl 3 (by decide) (hts (.fieldLink RX3 25 "AnnuityHouse$Loan" "table" "[[J") (by decide +kernel)) (fun _ h9 => h9) rfl dX3_workOut_166 ?_
                  refine lv_iconst (v := iz (5)) hx hb dX3_workOut_169 rfl ?_
                  refine zr_aldA (v := (tr 5)) hx hb hK hP 1 rfl (i := 5) (⟨by omega, by omega, by omega⟩) (ztb_at (by decide)) dX3_workOut_170 ?_
                  refine lv_iload hx hb dX3_workOut_171 (lv_at hl 3 rfl) ?_
                  refine lv_iload hx hb dX3_workOut_173 (lv_at hl 5 rfl) ?_
                  refine zr_i2l hx hb (x := po) (⟨by omega, by omega⟩) dX3_workOut_175 ?_
                  refine zr_last hx hb hK hP hD hS 7 0 rfl rfl (i := i) (x := po) (⟨by omega, by omega, by omega⟩) dX3_workOut_176 (fun H locs hP hD hS => ?_)
                  have hP : va_P G.1 vwCl [(nr, zaI (G.2 1) 61 (fr)), (tb, zaR (G.2 3) 7 (ztb tr)), ((tr 0), zaL (G.2 0) 61 (zup g0 i lf)), ((tr 1), zaL (G.2 0) 61 (zup g1 i it)), ((tr 2), zaL (G.2 0) 61 (zup g2 i pd)), ((tr 3), zaL (G.2 0) 61 (zup g3 i (pd - it))), ((tr 4), zaL (G.2 0) 61 (zup g4 i lf2)), ((tr 5), zaL (G.2 0) 61 (zup g5 i po)), ((tr 6), zaL (G.2 0) 61 (g6)), (q, .inr (2, [.ref sa, .ref da, .ref wa, .long (lz (ru)), .long (lz (rd)), .int (iz (pe1))])), (sa, .inr (9, [.ref sb, .int (iz (sn1)), .long (lz (st1))])), (sb, zaL (G.2 0) 40 (sf1)), (da, .inr (9, [.ref db, .int (iz (dn1)), .long (lz (dt1))])), (db, zaL (G.2 0) 40 (df1)), (wa, .inr (9, [.ref wb, .int (iz (wn1)), .long (lz (wt1))])), (wb, zaL (G.2 0) 40 (wf1)), (r, .inr (5, [.int (iz (6))])), (y, .inr (4, [.ref nr, .ref ne, .ref nh, .ref tb, .ref q, .long (lz (mo)), .int (iz (pn)), .int (iz (rw2))])), (ne, zaL (G.2 0) 61 (fe)), (nh, zaZ (G.2 2) 61 (fh))] H := hP
                  have hD : va_D A [(nr, zaI (G.2 1) 61 (fr)), (tb, zaR (G.2 3) 7 (ztb tr)), ((tr 0), zaL (G.2 0) 61 (zup g0 i lf)), ((tr 1), zaL (G.2 0) 61 (zup g1 i it)), ((tr 2), zaL (G.2 0) 61 (zup g2 i pd)), ((tr 3), zaL (G.2 0) 61 (zup g3 i (pd - it))), ((tr 4), zaL (G.2 0) 61 (zup g4 i lf2)), ((tr 5), zaL (G.2 0) 61 (zup g5 i po)), ((tr 6), zaL (G.2 0) 61 (g6)), (q, .inr (2, [.ref sa, .ref da, .ref wa, .long (lz (ru)), .long (lz (rd)), .int (iz (pe1))])), (sa, .inr (9, [.ref sb, .int (iz (sn1)), .long (lz (st1))])), (sb, zaL (G.2 0) 40 (sf1)), (da, .inr (9, [.ref db, .int (iz (dn1)), .long (lz (dt1))])), (db, zaL (G.2 0) 40 (df1)), (wa, .inr (9, [.ref wb, .int (iz (wn1)), .long (lz (wt1))])), (wb, zaL (G.2 0) 40 (wf1)), (r, .inr (5, [.int (iz (6))])), (y, .inr (4, [.ref nr, .ref ne, .ref nh, .ref tb, .ref q, .long (lz (mo)), .int (iz (pn)), .int (iz (rw2))])), (ne, zaL (G.2 0) 61 (fe)), (nh, zaZ (G.2 2) 61 (fh))] := hD
                  refine lv_aload_n hx hb dX3_workOut_177 rfl (lv_at hl 6 rfl) ?_
                  refine va_get (D := G.1) (ci := 4) (v := .ref tb) (C := RX3) (T := TX3) (N := 8) hx hb hts iwX3 hown hK hP 17 rfl rfl 3 (by decide) (hts (.fieldLink RX3 25 "AnnuityHouse$Loan" "table" "[[J") (by decide +kernel)) (fun _ h9 => h9) rfl dX3_workOut_178 ?_
                  refine lv_bipush (v := iz (6)) hx hb dX3_workOut_181 rfl ?_
                  refine zr_aldA (v := (tr 6)) hx hb hK hP 1 rfl (i := 6) (⟨by omega, by omega, by omega⟩) (ztb_at (by decide)) dX3_workOut_183 ?_
                  refine lv_iload hx hb dX3_workOut_184 (lv_at hl 3 rfl) ?_
                  refine lv_lload hx hb dX3_workOut_186 (lv_at hl 4 rfl) ?_
                  refine zr_last hx hb hK hP hD hS 8 0 rfl rfl (i := i) (x := ins) (⟨by omega, by omega, by omega⟩) dX3_workOut_188 (fun H locs hP hD hS => ?_)
                  have hP : va_P G.1 vwCl [(nr, zaI (G.2 1) 61 (fr)), (tb, zaR (G.2 3) 7 (ztb tr)), ((tr 0), zaL (G.2 0) 61 (zup g0 i lf)), ((tr 1), zaL (G.2 0) 61 (zup g1 i it)), ((tr 2), zaL (G.2 0) 61 (zup g2 i pd)), ((tr 3), zaL (G.2 0) 61 (zup g3 i (pd - it))), ((tr 4), zaL (G.2 0) 61 (zup g4 i lf2)), ((tr 5), zaL (G.2 0) 61 (zup g5 i po)), ((tr 6), zaL (G.2 0) 61 (zup g6 i ins)), (q, .inr (2, [.ref sa, .ref da, .ref wa, .long (lz (ru)), .long (lz (rd)), .int (iz (pe1))])), (sa, .inr (9, [.ref sb, .int (iz (sn1)), .long (lz (st1))])), (sb, zaL (G.2 0) 40 (sf1)), (da, .inr (9, [.ref db, .int (iz (dn1)), .long (lz (dt1))])), (db, zaL (G.2 0) 40 (df1)), (wa, .inr (9, [.ref wb, .int (iz (wn1)), .long (lz (wt1))])), (wb, zaL (G.2 0) 40 (wf1)), (r, .inr (5, [.int (iz (6))])), (y, .inr (4, [.ref nr, .ref ne, .ref nh, .ref tb, .ref q, .long (lz (mo)), .int (iz (pn)), .int (iz (rw2))])), (ne, zaL (G.2 0) 61 (fe)), (nh, zaZ (G.2 2) 61 (fh))] H := hP
                  have hD : va_D A [(nr, zaI (G.2 1) 61 (fr)), (tb, zaR (G.2 3) 7 (ztb tr)), ((tr 0), zaL (G.2 0) 61 (zup g0 i lf)), ((tr 1), zaL (G.2 0) 61 (zup g1 i it)), ((tr 2), zaL (G.2 0) 61 (zup g2 i pd)), ((tr 3), zaL (G.2 0) 61 (zup g3 i (pd - it))), ((tr 4), zaL (G.2 0) 61 (zup g4 i lf2)), ((tr 5), zaL (G.2 0) 61 (zup g5 i po)), ((tr 6), zaL (G.2 0) 61 (zup g6 i ins)), (q, .inr (2, [.ref sa, .ref da, .ref wa, .long (lz (ru)), .long (lz (rd)), .int (iz (pe1))])), (sa, .inr (9, [.ref sb, .int (iz (sn1)), .long (lz (st1))])), (sb, zaL (G.2 0) 40 (sf1)), (da, .inr (9, [.ref db, .int (iz (dn1)), .long (lz (dt1))])), (db, zaL (G.2 0) 40 (df1)), (wa, .inr (9, [.ref wb, .int (iz (wn1)), .long (lz (wt1))])), (wb, zaL (G.2 0) 40 (wf1)), (r, .inr (5, [.int (iz (6))])), (y, .inr (4, [.ref nr, .ref ne, .ref nh, .ref tb, .ref q, .long (lz (mo)), .int (iz (pn)), .int (iz (rw2))])), (ne, zaL (G.2 0) 61 (fe)), (nh, zaZ (G.2 2) 61 (fh))] := hD
                  refine lv_aload_n hx hb dX3_workOut_189 rfl (lv_at hl 6 rfl) ?_
                  refine lv_iload hx hb dX3_workOut_190 (lv_at hl 3 rfl) ?_
                  refine va_put (D := G.1) (ci := 4) (v := .int (iz (i))) (ty := .int) (C := RX3) (T := TX3) (N := 8) hx hb hts iwX3 tyX3 tyX3_ok nmX3 hown hK hP hD hS 17 rfl rfl 7 (by decide) (hts (.fieldLink RX3 43 "AnnuityHouse$Loan" "tableRows" "I") (by decide +kernel)) (fun _ h9 => h9) rfl (by decide +kernel) rfl rfl (Nat.le_of_ble_eq_true rfl) dX3_workOut_192 (fun H locs hP hD hS => ?_)
                  have hP : va_P G.1 vwCl [(nr, zaI (G.2 1) 61 (fr)), (tb, zaR (G.2 3) 7 (ztb tr)), ((tr 0), zaL (G.2 0) 61 (zup g0 i lf)), ((tr 1), zaL (G.2 0) 61 (zup g1 i it)), ((tr 2), zaL (G.2 0) 61 (zup g2 i pd)), ((tr 3), zaL (G.2 0) 61 (zup g3 i (pd - it))), ((tr 4), zaL (G.2 0) 61 (zup g4 i lf2)), ((tr 5), zaL (G.2 0) 61 (zup g5 i po)), ((tr 6), zaL (G.2 0) 61 (zup g6 i ins)), (q, .inr (2, [.ref sa, .ref da, .ref wa, .long (lz (ru)), .long (lz (rd)), .int (iz (pe1))])), (sa, .inr (9, [.ref sb, .int (iz (sn1)), .long (lz (st1))])), (sb, zaL (G.2 0) 40 (sf1)), (da, .inr (9, [.ref db, .int (iz (dn1)), .long (lz (dt1))])), (db, zaL (G.2 0) 40 (df1)), (wa, .inr (9, [.ref wb, .int (iz (wn1)), .long (lz (wt1))])), (wb, zaL (G.2 0) 40 (wf1)), (r, .inr (5, [.int (iz (6))])), (y, .inr (4, [.ref nr, .ref ne, .ref nh, .ref tb, .ref q, .long (lz (mo)), .int (iz (pn)), .int (iz (i))])), (ne, zaL (G.2 0) 61 (fe)), (nh, zaZ (G.2 2) 61 (fh))] H := hP
                  have hD : va_D A [(nr, zaI (G.2 1) 61 (fr)), (tb, zaR (G.2 3) 7 (ztb tr)), ((tr 0), zaL (G.2 0) 61 (zup g0 i lf)), ((tr 1), zaL (G.2 0) 61 (zup g1 i it)), ((tr 2), zaL (G.2 0) 61 (zup g2 i pd)), ((tr 3), zaL (G.2 0) 61 (zup g3 i (pd - it))), ((tr 4), zaL (G.2 0) 61 (zup g4 i lf2)), ((tr 5), zaL (G.2 0) 61 (zup g5 i po)), ((tr 6), zaL (G.2 0) 61 (zup g6 i ins)), (q, .inr (2, [.ref sa, .ref da, .ref wa, .long (lz (ru)), .long (lz (rd)), .int (iz (pe1))])), (sa, .inr (9, [.ref sb, .int (iz (sn1)), .long (lz (st1))])), (sb, zaL (G.2 0) 40 (sf1)), (da, .inr (9, [.ref db, .int (iz (dn1)), .long (lz (dt1))])), (db, zaL (G.2 0) 40 (df1)), (wa, .inr (9, [.ref wb, .int (iz (wn1)), .long (lz (wt1))])), (wb, zaL (G.2 0) 40 (wf1)), (r, .inr (5, [.int (iz (6))])), (y, .inr (4, [.ref nr, .ref ne, .ref nh, .ref tb, .ref q, .long (lz (mo)), .int (iz (pn)), .int (iz (i))])), (ne, zaL (G.2 0) 61 (fe)), (nh, zaZ (G.2 2) 61 (fh))] := hD
                  refine lv_iinc (v := iz (i + 1)) (lv' := [(7, .int (iz (i + 1))), (2, .long (lz (lf2))), (10, .long (lz (pd))), (8, .long (lz (it))), (4, .long (lz (ins))), (6, .int (iz (po))), (0, .ref y), (1, .ref r)]) hx hb dX3_workOut_195 hl (k := 3) rfl (by rw [show Int32.ofInt (1) = iz (1) from rfl, iz_add]) (by decide) rfl (fun ls hl => ?_)
                  refine lv_goto (tgt := 19) hx hb dX3_workOut_198 (by decide) ?_
                  refine W.widen (k := 0 + 0 + 0 + 0) (n := 0 + 0 + 0 + 0) (by omega) (by omega) ?_
                  exact ih_19 (i + 1) lf2 ins i (zup g0 i lf) (zup g1 i it) (zup g2 i pd) (zup g3 i (pd - it)) (zup g4 i lf2) (zup g5 i po) (zup g6 i ins) _ _ _ (by omega) (by omega) (by omega) (k4) (by omega) ((zup_n (by omega)).trans k5) (hP) (hD) hS (lv_sub hl [0, 1, 4, 5, 6, 7] rfl)
                · exact absurd h_12 (by omega)
        exact hl_19 ((pn + 1 - (1 + 1) : Int).toNat + 1) (1 + 1) lf2 zi 1 (zup t0 1 mo) (zup t1 1 it) (zup t2 1 pd) (zup t3 1 (pd - it)) (zup t4 1 lf2) (zup t5 1 po) (zup t6 1 zi) _ _ _ (Nat.lt_succ_self _) (by omega) (by omega) (hzi.1) (by omega) ((zup_s _ _ _).trans hzi.1) (hP) (hD) hS (lv_sub hl [0, 1, 4, 5, 6, 7] rfl)
