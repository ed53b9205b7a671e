-- THE CLASS: Bond (laid by wip/p40/y0.py)
/-- what a bond pays -/
def zbf (cp fa pr : Int) : Int → Int := fun j => if j ≤ 0 ∨ pr < j then 0 else if j = pr then cp + fa else cp
theorem zbf_rng {cp fa pr : Int} (h : 0 ≤ cp ∧ cp ≤ 1000000000 ∧ 0 ≤ fa ∧ fa ≤ 1000000000) (j : Int) : -2000000000 ≤ zbf cp fa pr j ∧ zbf cp fa pr j ≤ 2000000000 := by
  unfold zbf
  split
  · omega
  · split <;> omega
theorem zbf_nn {cp fa pr : Int} (h : 0 ≤ cp ∧ 0 ≤ fa) (j : Int) : 0 ≤ zbf cp fa pr j := by
  unfold zbf
  split
  · omega
  · split <;> omega
theorem zrow_nn {U P : Int} {f : Int → Int} (hU : 0 ≤ U) (hP : 0 ≤ P) : ∀ n : Nat, (∀ i : Int, 0 ≤ i → i ≤ n → 0 ≤ f i) → 0 ≤ zrow U P f n
  | 0, h => h 0 (by omega) (by omega)
  | n + 1, h => by
    have a := Int.mul_nonneg (zrow_nn hU hP n (fun i x y => h i x (by omega))) hU
    have b := Int.mul_nonneg (show 0 ≤ P ^ (n + 1) from Int.pow_nonneg hP) (h ((n : Int) + 1) (by omega) (by omega))
    rw [zrow_s]; omega
/-- whether a bond is worth at most some money -/
def zchp (cp fa pr mo po : Int) : Prop := znm (zbf cp fa pr) po ≤ mo * (100000 + po) ^ 40
theorem zchp_d {cp fa pr mo po : Int} (hp : 0 ≤ po ∧ po ≤ 20000) (hpr : 1 ≤ pr ∧ pr ≤ 40) : zrow (zqu po) (zqd po) (zbf cp fa pr) pr.toNat * 1073741824 ^ (0 : Int).toNat ≤ mo * zqu po ^ pr.toNat ↔ zchp cp fa pr mo po := by
  obtain ⟨c, h0, h1, h2⟩ := zworth (f := zbf cp fa pr) (pe := 0) (la := pr) hp (by omega) hpr.2 (fun i a b => if_pos (Or.inr a))
  have e2 : (100000 + po) ^ 40 = zqu po ^ pr.toNat * c := by
    have e : (100000 + po) ^ (40 - (0 : Int)).toNat * 100000 ^ (0 : Int).toNat = (100000 + po) ^ 40 := by
      show (100000 + po) ^ 40 * 100000 ^ 0 = _
      rw [Int.pow_zero, Int.mul_one]
    rw [← e, h2, show (pr - 0).toNat = pr.toNat by omega]
    show zqu po ^ pr.toNat * zqd po ^ 0 * c = _
    rw [Int.pow_zero, Int.mul_one]
  unfold zchp
  rw [h1, e2, ← Int.mul_assoc]
  show _ * 1073741824 ^ 0 ≤ _ ↔ _
  rw [Int.pow_zero, Int.mul_one]
  exact ⟨fun q => Int.mul_le_mul_of_nonneg_right q (by omega), fun q => Int.le_of_mul_le_mul_right q h0⟩
theorem zmo_b {mo po k : Int} (h : 0 ≤ mo ∧ mo ≤ 1000000000000) (hp : 0 ≤ po ∧ po ≤ 20000) (hk : 0 ≤ k ∧ k ≤ 41) : 0 ≤ mo * zqu po ^ k.toNat ∧ -(1073741824 ^ 37) < mo * zqu po ^ k.toNat ∧ mo * zqu po ^ k.toNat < 1073741824 ^ 37 := by
  have r := zq_rng hp
  have b := zrp (P := zqu po) (k := k) (by omega) (by omega)
  have a1 : 0 ≤ mo * zqu po ^ k.toNat := Int.mul_nonneg h.1 (by omega)
  have a2 : mo * zqu po ^ k.toNat ≤ 1000000000000 * zqu po ^ k.toNat := Int.mul_le_mul_of_nonneg_right h.2 (by omega)
  have c : (1000000000000 : Int) * 1073741824 ^ 35 < 1073741824 ^ 37 := by decide +kernel
  have := zB_pos 37
  exact ⟨a1, by omega, by omega⟩
theorem zprice_e {cp fa pr po md : Int} (hp : 0 ≤ po ∧ po ≤ 20000) (hpr : 1 ≤ pr ∧ pr ≤ 40) : zrd md (zrow (zqu po) (zqd po) (zbf cp fa pr) pr.toNat) (1 * zqu po ^ pr.toNat) = zrd md (znm (zbf cp fa pr) po) (zqq po 0) ∧ (zrow (zqu po) (zqd po) (zbf cp fa pr) pr.toNat % (1 * zqu po ^ pr.toNat) = 0 ↔ znm (zbf cp fa pr) po % zqq po 0 = 0) := by
  have h := zworth_r (f := zbf cp fa pr) (md := md) (pe := 0) (la := pr) hp (by omega) hpr.2 (fun i a b => if_pos (Or.inr a))
  have e : 1 * zqu po ^ (pr - 0).toNat * zqd po ^ (0 : Int).toNat = 1 * zqu po ^ pr.toNat := by
    rw [show (pr - 0).toNat = pr.toNat by omega]
    show _ * zqd po ^ 0 = _
    rw [Int.pow_zero, Int.mul_one]
  rw [e] at h
  exact h
theorem zwr_b {cp fa pr po : Int} (hp : 0 ≤ po ∧ po ≤ 20000) (hpr : 1 ≤ pr ∧ pr ≤ 40) (hb : 0 ≤ cp ∧ cp ≤ 1000000000 ∧ 0 ≤ fa ∧ fa ≤ 1000000000) :
    0 < 1 * zqu po ^ pr.toNat ∧ 1 * zqu po ^ pr.toNat < 1073741824 ^ 35 ∧ ((zrow (zqu po) (zqd po) (zbf cp fa pr) pr.toNat).natAbs : Int) < 1073741824 ^ 35 ∧ ((zrow (zqu po) (zqd po) (zbf cp fa pr) pr.toNat).natAbs : Int) < 1 * zqu po ^ pr.toNat * 1073741824 ^ 2 := by
  have h := zwr (f := zbf cp fa pr) (pe := 0) (la := pr) hp (by omega) hpr.2 (fun i _ _ => zbf_rng hb i)
  have e : 1 * zqu po ^ (pr - 0).toNat * zqd po ^ (0 : Int).toNat = 1 * zqu po ^ pr.toNat := by
    rw [show (pr - 0).toNat = pr.toNat by omega]
    show _ * zqd po ^ 0 = _
    rw [Int.pow_zero, Int.mul_one]
  rw [e] at h
  exact h
theorem zchp_b {z : Bool} {cp fa pr mo po : Int} (hz : z = decide (zrow (zqu po) (zqd po) (zbf cp fa pr) pr.toNat * 1073741824 ^ (0 : Int).toNat ≤ mo * zqu po ^ pr.toNat)) (hp : 0 ≤ po ∧ po ≤ 20000) (hpr : 1 ≤ pr ∧ pr ≤ 40) : (z = true ∧ zchp cp fa pr mo po) ∨ (z = false ∧ ¬ zchp cp fa pr mo po) := by
  cases z
  · exact Or.inr ⟨rfl, fun q => of_decide_eq_false hz.symm ((zchp_d hp hpr).mpr q)⟩
  · exact Or.inl ⟨rfl, (zchp_d hp hpr).mp (of_decide_eq_true hz.symm)⟩
theorem zchp_t {z : Bool} {p : Prop} (h : (z = true ∧ p) ∨ (z = false ∧ ¬ p)) (hz : z = true) : p := by
  rcases h with ⟨-, q⟩ | ⟨q, -⟩
  · exact q
  · rw [q] at hz; cases hz
theorem zchp_f {z : Bool} {p : Prop} (h : (z = true ∧ p) ∨ (z = false ∧ ¬ p)) (hz : z = false) : ¬ p := by
  rcases h with ⟨q, -⟩ | ⟨-, q⟩
  · rw [q] at hz; cases hz
  · exact q
def rm_c_X0_init : Room := { frames := 3, cells := 7, slots := 135, locals := 52 }
theorem iw_X0_init_X0 : ∀ w ∈ wsX00, w ∈ wsX0_init := by decide +kernel
theorem iw_X0_init_X1 : ∀ w ∈ wsX10, w ∈ wsX0_init := by decide +kernel
set_option maxHeartbeats 1000000 in
set_option maxRecDepth 100000 in
theorem c_X0_init (l : Launch) (G : zG) (y : Nat)  : zM l G yX0_init wsX0_init rm_c_X0_init [.ref y] [(y, .inr (1, [.null]))] (fun A => zQv G (fun (u : (Nat × Nat × Nat × Nat × Nat × Nat × Nat)) => True) (fun (u : (Nat × Nat × Nat × Nat × Nat × Nat × Nat)) => [(y, .inr (1, [.ref u.1])), (u.1, .inr (2, [.ref u.2.1, .ref u.2.2.2.1, .ref u.2.2.2.2.2.1, .long (lz (1)), .long (lz (1)), .int (iz (0))])), (u.2.1, .inr (9, [.ref u.2.2.1, .int (iz (0)), .long (lz (0))])), (u.2.2.1, zaL (G.2 0) 40 (fun _ => 0)), (u.2.2.2.1, .inr (9, [.ref u.2.2.2.2.1, .int (iz (0)), .long (lz (0))])), (u.2.2.2.2.1, zaL (G.2 0) 40 (fun _ => 0)), (u.2.2.2.2.2.1, .inr (9, [.ref u.2.2.2.2.2.2, .int (iz (0)), .long (lz (0))])), (u.2.2.2.2.2.2, zaL (G.2 0) 40 (fun _ => 0))]) A) 7 135 := by
  refine zM_of (cc := cX0_init) (maxL := 1) (ret := none) (by decide) rfl (Nat.le_of_ble_eq_true rfl) ?_
  intro p e s m below meth c ls A Q hQ hx hb hr hts hown hlocks hml hnm hKX hP hD hA hS hl
  have hK := hKX.1
  have iwX0 := iw_X0_init_X0
  have iwX1 := iw_X0_init_X1
  obtain ⟨H, hH⟩ : ∃ h, h = s.heap := ⟨_, rfl⟩
  obtain ⟨locs, hlo⟩ : ∃ h : List Loc, h = [] := ⟨_, rfl⟩
  have hS : va_S A s.heap H locs := by rw [hH, hlo]; exact hS
  have hP : va_P G.1 vwCl [(y, .inr (1, [.null]))] H := by rw [hH]; exact hP
  have hD : va_D A [(y, .inr (1, [.null]))] := hD
  have hl : lv_has ls 1 [(0, .ref y)] := hl
  rw [← hH, ← hlo]
  refine lv_aload_n hx hb dX0_init_0 rfl (lv_at hl 0 rfl) ?_
  refine W.objInit hx hb hown (hts (.methodLink RX0 3 objectInit) (by decide +kernel)) (hts (.instanceMethod objectInit) (by decide +kernel)) (hts (.code objectInit ⟨#[0xb1]⟩ 1 none) (by decide +kernel)) rfl (by rw [hml]; exact hl.1) rfl dX0_init_1 (Nat.le_of_ble_eq_true rfl) (Nat.le_of_ble_eq_true rfl) ?_
  refine lv_aload_n hx hb dX0_init_4 rfl (lv_at hl 0 rfl) ?_
  refine va_new (D := G.1) (ci := 2) (fs := [.null, .null, .null, .long 0, .long 0, .int 0]) (C := RX1) (T := TX1) (N := 6) hx hb hts iwX1 tyX1 tyX1_ok hown (hts (.classLink RX0 9 RX1) (by decide +kernel)) (hts (.instantiable RX1 6) (by decide +kernel)) (hts (.initialized RX1) (by decide +kernel)) hK hP hD hS hA rfl (by decide +kernel) (by first | exact Nat.le_of_ble_eq_true rfl | (show _ ≤ (7 : Nat); omega)) (by first | exact Nat.le_of_ble_eq_true rfl | (show _ ≤ (135 : Nat); omega)) dX0_init_5 (fun q H hP hD hS => ?_)
  have hP : va_P G.1 vwCl [(y, .inr (1, [.null])), (q, .inr (2, [.null, .null, .null, .long (lz (0)), .long (lz (0)), .int (iz (0))]))] H := hP
  have hD : va_D A [(y, .inr (1, [.null])), (q, .inr (2, [.null, .null, .null, .long (lz (0)), .long (lz (0)), .int (iz (0))]))] := hD
  refine lv_dup hx hb dX0_init_8 rfl ?_
  refine zc_v (wr := [(y, .inr (1, [.null]))]) (va_runIN (As := []) (rest := [.ref q, .ref y]) ⟨hx, hb, hml, hown, hts⟩ (c_X1_init l G q  H.size) ⟨va_cnB 0 hts gX0_init_X1_init_n11 rfl rfl rfl (hKX.2.2.2 (.methodLinkNest "AnnuityHouse$Bond" 11 ⟨"AnnuityHouse$Flow", "<init>", "()V"⟩ "AnnuityHouse") (by decide +kernel)) (hts (.initialized RX1) (by decide +kernel)) (by decide +kernel) ⟨Nat.le_of_ble_eq_true rfl, Nat.le_of_ble_eq_true rfl⟩, rfl, hts (.instanceMethod yX1_init) (by decide +kernel)⟩ (zpS hKX hP hD [1] rfl rfl) rfl rfl hl.1 rfl (lv_room (Nat.le_of_ble_eq_true rfl)) dX0_init_9 ⟨(by first | exact Nat.le_of_ble_eq_true rfl | (show _ ≤ (7 : Nat); omega)), (by first | exact Nat.le_of_ble_eq_true rfl | (show _ ≤ (135 : Nat); omega))⟩) hP hD hS hA [1] [0] rfl rfl rfl (by decide) (fun u_1 H locs t1 hP hD hS => ?_)
  obtain ⟨sa, sb, da, db, wa, wb⟩ := u_1
  have hP : va_P G.1 vwCl [(y, .inr (1, [.null])), (q, .inr (2, [.ref sa, .ref da, .ref wa, .long (lz (1)), .long (lz (1)), .int (iz (0))])), (sa, .inr (9, [.ref sb, .int (iz (0)), .long (lz (0))])), (sb, zaL (G.2 0) 40 (fun _ => 0)), (da, .inr (9, [.ref db, .int (iz (0)), .long (lz (0))])), (db, zaL (G.2 0) 40 (fun _ => 0)), (wa, .inr (9, [.ref wb, .int (iz (0)), .long (lz (0))])), (wb, zaL (G.2 0) 40 (fun _ => 0))] H := hP
  have hD : va_D A [(y, .inr (1, [.null])), (q, .inr (2, [.ref sa, .ref da, .ref wa, .long (lz (1)), .long (lz (1)), .int (iz (0))])), (sa, .inr (9, [.ref sb, .int (iz (0)), .long (lz (0))])), (sb, zaL (G.2 0) 40 (fun _ => 0)), (da, .inr (9, [.ref db, .int (iz (0)), .long (lz (0))])), (db, zaL (G.2 0) 40 (fun _ => 0)), (wa, .inr (9, [.ref wb, .int (iz (0)), .long (lz (0))])), (wb, zaL (G.2 0) 40 (fun _ => 0))] := hD
  refine va_putF (D := G.1) (ci := 1) (v := .ref q) (ty := (.object "AnnuityHouse$Flow")) (C := RX0) (T := TX0) (N := 1) hx hb hts iwX0 tyX0 tyX0_ok nmX0 hown hK hP hD hS 0 rfl rfl 0 (by decide) (hts (.fieldLink RX0 12 "AnnuityHouse$Bond" "flow" "LAnnuityHouse$Flow;") (by decide +kernel)) (fun _ h9 => h9) rfl hnm rfl (by decide +kernel) rfl rfl (Nat.le_of_ble_eq_true rfl) dX0_init_12 (fun H locs hP hD hS => ?_)
  have hP : va_P G.1 vwCl [(y, .inr (1, [.ref q])), (q, .inr (2, [.ref sa, .ref da, .ref wa, .long (lz (1)), .long (lz (1)), .int (iz (0))])), (sa, .inr (9, [.ref sb, .int (iz (0)), .long (lz (0))])), (sb, zaL (G.2 0) 40 (fun _ => 0)), (da, .inr (9, [.ref db, .int (iz (0)), .long (lz (0))])), (db, zaL (G.2 0) 40 (fun _ => 0)), (wa, .inr (9, [.ref wb, .int (iz (0)), .long (lz (0))])), (wb, zaL (G.2 0) 40 (fun _ => 0))] H := hP
  have hD : va_D A [(y, .inr (1, [.ref q])), (q, .inr (2, [.ref sa, .ref da, .ref wa, .long (lz (1)), .long (lz (1)), .int (iz (0))])), (sa, .inr (9, [.ref sb, .int (iz (0)), .long (lz (0))])), (sb, zaL (G.2 0) 40 (fun _ => 0)), (da, .inr (9, [.ref db, .int (iz (0)), .long (lz (0))])), (db, zaL (G.2 0) 40 (fun _ => 0)), (wa, .inr (9, [.ref wb, .int (iz (0)), .long (lz (0))])), (wb, zaL (G.2 0) 40 (fun _ => 0))] := hD
  rw [hQ]
  exact zr_vret (u := (q, sa, sb, da, db, wa, wb)) hx hb hr hlocks hP hD hS (by first | exact Nat.le_of_ble_eq_true rfl | omega) (by first | exact Nat.le_of_ble_eq_true rfl | omega) dX0_init_15 (show True from trivial)

def rm_c_X0_carry : Room := { frames := 4, cells := 0, slots := 0, locals := 99 }
theorem iw_X0_carry_X0 : ∀ w ∈ wsX00, w ∈ wsX0_carry := by decide +kernel
set_option maxHeartbeats 1000000 in
set_option maxRecDepth 100000 in
theorem c_X0_carry (l : Launch) (G : zG) (y : Nat) (q : Nat) (wa : Nat) (sa : Nat) (sb : Nat) (sf : Int → Int) (sn : Int) (st : Int) (da : Nat) (db : Nat) (df : Int → Int) (dn : Int) (dt : Int) (u0 : Int) (d0 : Int) (p0 : Int) (cp : Int) (fa : Int) (pr : Int) (po : Int) (h1 : 0 ≤ cp ∧ cp ≤ 1000000000 ∧ 0 ≤ fa ∧ fa ≤ 1000000000) (h2 : 1 ≤ pr ∧ pr ≤ 40) (h3 : 0 ≤ po ∧ po ≤ 20000) : zM l G yX0_carry wsX0_carry rm_c_X0_carry [.ref y, .long (lz (cp)), .long (lz (fa)), .int (iz (pr)), .int (iz (po))] [(y, .inr (1, [.ref q])), (q, .inr (2, [.ref sa, .ref da, .ref wa, .long (lz (u0)), .long (lz (d0)), .int (iz (p0))])), (sa, .inr (9, [.ref sb, .int (iz (sn)), .long (lz (st))])), (sb, zaL (G.2 0) 40 (sf)), (da, .inr (9, [.ref db, .int (iz (dn)), .long (lz (dt))])), (db, zaL (G.2 0) 40 (df))] (fun A => zQv G (fun (u : (Int → Int) × Int × Int × (Int → Int) × Int × Int × Int) => zwv u.1 u.2.1 u.2.2.1 (zrow (zqu po) (zqd po) (zbf cp fa pr) (pr).toNat)) (fun (u : (Int → Int) × Int × Int × (Int → Int) × Int × Int × Int) => [(y, .inr (1, [.ref q])), (q, .inr (2, [.ref sa, .ref da, .ref wa, .long (lz (zqu po)), .long (lz (zqd po)), .int (iz (u.2.2.2.2.2.2))])), (sa, .inr (9, [.ref sb, .int (iz (u.2.1)), .long (lz (u.2.2.1))])), (sb, zaL (G.2 0) 40 (u.1)), (da, .inr (9, [.ref db, .int (iz (u.2.2.2.2.1)), .long (lz (u.2.2.2.2.2.1))])), (db, zaL (G.2 0) 40 (u.2.2.2.1))]) A) 0 0 := by
  refine zM_of (cc := cX0_carry) (maxL := 8) (ret := none) (by decide) rfl (Nat.le_of_ble_eq_true rfl) ?_
  intro p e s m below meth c ls A Q hQ hx hb hr hts hown hlocks hml hnm hKX hP hD hA hS hl
  have hK := hKX.1
  have iwX0 := iw_X0_carry_X0
  obtain ⟨H, hH⟩ : ∃ h, h = s.heap := ⟨_, rfl⟩
  obtain ⟨locs, hlo⟩ : ∃ h : List Loc, h = [] := ⟨_, rfl⟩
  have hS : va_S A s.heap H locs := by rw [hH, hlo]; exact hS
  have hP : va_P G.1 vwCl [(y, .inr (1, [.ref q])), (q, .inr (2, [.ref sa, .ref da, .ref wa, .long (lz (u0)), .long (lz (d0)), .int (iz (p0))])), (sa, .inr (9, [.ref sb, .int (iz (sn)), .long (lz (st))])), (sb, zaL (G.2 0) 40 (sf)), (da, .inr (9, [.ref db, .int (iz (dn)), .long (lz (dt))])), (db, zaL (G.2 0) 40 (df))] H := by rw [hH]; exact hP
  have hD : va_D A [(y, .inr (1, [.ref q])), (q, .inr (2, [.ref sa, .ref da, .ref wa, .long (lz (u0)), .long (lz (d0)), .int (iz (p0))])), (sa, .inr (9, [.ref sb, .int (iz (sn)), .long (lz (st))])), (sb, zaL (G.2 0) 40 (sf)), (da, .inr (9, [.ref db, .int (iz (dn)), .long (lz (dt))])), (db, zaL (G.2 0) 40 (df))] := hD
  have hl : lv_has ls 8 [(0, .ref y), (1, .long (lz (cp))), (3, .long (lz (fa))), (5, .int (iz (pr))), (6, .int (iz (po)))] := hl
  rw [← hH, ← hlo]
  have hrg := zq_rng h3
  refine lv_aload_n hx hb dX0_carry_0 rfl (lv_at hl 0 rfl) ?_
  refine va_get (D := G.1) (ci := 1) (v := .ref q) (C := RX0) (T := TX0) (N := 1) hx hb hts iwX0 hown hK hP 0 rfl rfl 0 (by decide) (hts (.fieldLink RX0 12 "AnnuityHouse$Bond" "flow" "LAnnuityHouse$Flow;") (by decide +kernel)) (fun _ h9 => h9) rfl dX0_carry_1 ?_
  refine lv_iload hx hb dX0_carry_4 (lv_at hl 4 rfl) ?_
  refine lv_lconst (v := lz (0)) hx hb dX0_carry_6 rfl ?_
  refine zc_v (wr := [(y, .inr (1, [.ref q]))]) (va_runV (As := [.int (iz (po)), .long (lz (0))]) (rest := []) ⟨hx, hb, hml, hown, hts⟩ (c_X1_begin l G q wa sa sb sf sn st da db df dn dt u0 d0 p0 po 0 (by omega) (by omega) H.size) (cwV 2 hts gX0_carry_X1_begin rfl rfl rfl (by decide +kernel) ⟨Nat.le_of_ble_eq_true rfl, Nat.le_of_ble_eq_true rfl⟩) (zpV hKX hP hD [1, 2, 3, 4, 5] rfl rfl 1 2 rfl rfl) rfl rfl hl.1 rfl (lv_room (Nat.le_of_ble_eq_true rfl)) dX0_carry_7 ⟨(by first | exact Nat.le_of_ble_eq_true rfl | (show _ ≤ (0 : Nat); omega)), (by first | exact Nat.le_of_ble_eq_true rfl | (show _ ≤ (0 : Nat); omega))⟩) hP hD hS hA [1, 2, 3, 4, 5] [0] rfl rfl rfl (by decide) (fun u_1 H locs hbg hP hD hS => ?_)
  obtain ⟨sf1, sn1, st1, df1, dn1, dt1⟩ := u_1
  have hP : va_P G.1 vwCl [(y, .inr (1, [.ref q])), (q, .inr (2, [.ref sa, .ref da, .ref wa, .long (lz (zqu po)), .long (lz (zqd po)), .int (iz (0))])), (sa, .inr (9, [.ref sb, .int (iz (sn1)), .long (lz (st1))])), (sb, zaL (G.2 0) 40 (sf1)), (da, .inr (9, [.ref db, .int (iz (dn1)), .long (lz (dt1))])), (db, zaL (G.2 0) 40 (df1))] H := hP
  have hD : va_D A [(y, .inr (1, [.ref q])), (q, .inr (2, [.ref sa, .ref da, .ref wa, .long (lz (zqu po)), .long (lz (zqd po)), .int (iz (0))])), (sa, .inr (9, [.ref sb, .int (iz (sn1)), .long (lz (st1))])), (sb, zaL (G.2 0) 40 (sf1)), (da, .inr (9, [.ref db, .int (iz (dn1)), .long (lz (dt1))])), (db, zaL (G.2 0) 40 (df1))] := hD
  have hbg : zwv sf1 sn1 st1 (0 : Int) ∧ zwv df1 dn1 dt1 1 := hbg
  refine lv_iconst (v := iz (1)) hx hb dX0_carry_10 rfl ?_
  refine lv_istore (lv' := [(7, .int (iz (1))), (0, .ref y), (1, .long (lz (cp))), (3, .long (lz (fa))), (5, .int (iz (pr))), (6, .int (iz (po)))]) hx hb dX0_carry_11 hl (by decide) rfl (fun ls hl => ?_)
  have hl_13 : ∀ (zn_13 : Nat) (i : Int) (pq : Int) (sg : Int → Int) (sm : Int) (su : Int) (dg : Int → Int) (dm : Int) (du : Int) (H : Heap) (locs : List Loc) (ls : Array Slot), (pr - i).toNat < zn_13 → (1 ≤ i ∧ i ≤ pr) → (zwv sg sm su (zrow (zqu po) (zqd po) (zbf cp fa pr) (i - 1).toNat)) → (zwv dg dm du ((zqd po) ^ (i - 1).toNat)) → va_P G.1 vwCl [(y, .inr (1, [.ref q])), (q, .inr (2, [.ref sa, .ref da, .ref wa, .long (lz (zqu po)), .long (lz (zqd po)), .int (iz (pq))])), (sa, .inr (9, [.ref sb, .int (iz (sm)), .long (lz (su))])), (sb, zaL (G.2 0) 40 (sg)), (da, .inr (9, [.ref db, .int (iz (dm)), .long (lz (du))])), (db, zaL (G.2 0) 40 (dg))] H → va_D A [(y, .inr (1, [.ref q])), (q, .inr (2, [.ref sa, .ref da, .ref wa, .long (lz (zqu po)), .long (lz (zqd po)), .int (iz (pq))])), (sa, .inr (9, [.ref sb, .int (iz (sm)), .long (lz (su))])), (sb, zaL (G.2 0) 40 (sg)), (da, .inr (9, [.ref db, .int (iz (dm)), .long (lz (du))])), (db, zaL (G.2 0) 40 (dg))] → va_S A s.heap H locs → lv_has ls 8 [(7, .int (iz (i))), (0, .ref y), (1, .long (lz (cp))), (3, .long (lz (fa))), (5, .int (iz (pr))), (6, .int (iz (po)))] → W p l e rm_c_X0_carry s m ([.ref y, .long (lz (cp)), .long (lz (fa)), .int (iz (pr)), .int (iz (po))] : List Value).toArray below meth c H locs (0 + 0) (0 + 0) Q (F0 m 13 ls []) := by
    intro zn_13
    induction zn_13 with
    | zero => intro i pq sg sm su dg dm du H locs ls hm; exact absurd hm (Nat.not_lt_zero _)
    | succ zn_13 ih_13 =>
      intro i pq sg sm su dg dm du H locs ls hm_13 k1 k2 k3 hP hD hS hl
      refine lv_iload hx hb dX0_carry_13 (lv_at hl 0 rfl) ?_
      refine lv_iload hx hb dX0_carry_15 (lv_at hl 4 rfl) ?_
      refine zr_icmp_ge (x := i) (y := pr) (tgt := 34) hx hb (⟨by omega, by omega⟩) (⟨by omega, by omega⟩) dX0_carry_17 (by decide) (fun h_4 => ?_) (fun h_4 => ?_)
      ·
        refine lv_aload_n hx hb dX0_carry_34 rfl (lv_at hl 1 rfl) ?_
        refine va_get (D := G.1) (ci := 1) (v := .ref q) (C := RX0) (T := TX0) (N := 1) hx hb hts iwX0 hown hK hP 0 rfl rfl 0 (by decide) (hts (.fieldLink RX0 12 "AnnuityHouse$Bond" "flow" "LAnnuityHouse$Flow;") (by decide +kernel)) (fun _ h9 => h9) rfl dX0_carry_35 ?_
        refine lv_lload_n hx hb dX0_carry_38 rfl (lv_at hl 2 rfl) ?_
        refine lv_lload_n hx hb dX0_carry_39 rfl (lv_at hl 3 rfl) ?_
        refine zr_ladd hx hb dX0_carry_40 ?_
        have hb1 := zrow_35 (U := zqu po) (P := zqd po) (A := 2000000000) (f := zbf cp fa pr) (by omega) (by omega) (i - 1).toNat (fun j _ _ => zbf_rng h1 j) (by decide) (Or.inl ⟨by omega, by decide⟩)
        have hs1 := zwv_small k2 (k := 37) (by have := z35_37; omega) (by have := z35_37; omega)
        have hb2 := zrp (P := zqd po) (k := i - 1) (by omega) (by omega)
        have hs2 := zwv_small k3 (k := 37) (by have := z35_37; omega) (by have := z35_37; omega)
        have hb3 := zrp (P := zqd po) (k := i + 1 - 1) (by omega) (by omega)
        have ep : (zqd po) ^ (i - 1).toNat * zqd po = (zqd po) ^ (i + 1 - 1).toNat := by rw [show (i + 1 - 1).toNat = (i - 1).toNat + 1 by omega, Int.pow_succ]
        refine zc_v (wr := [(y, .inr (1, [.ref q]))]) (va_runV (As := [.long (lz (cp + fa))]) (rest := []) ⟨hx, hb, hml, hown, hts⟩ (c_X1_next l G q wa sa sb sg sm su da db dg dm du (zqu po) (zqd po) pq (zrow (zqu po) (zqd po) (zbf cp fa pr) (i - 1).toNat) ((zqd po) ^ (i - 1).toNat) (cp + fa) (k2) (k3) (by omega) (by omega) (by omega) (by rw [ep]; have := z35_37; omega) H.size) (cwV 1 hts gX0_carry_X1_next rfl rfl rfl (by decide +kernel) ⟨Nat.le_of_ble_eq_true rfl, Nat.le_of_ble_eq_true rfl⟩) (zpV hKX hP hD [1, 2, 3, 4, 5] rfl rfl 1 2 rfl rfl) rfl rfl hl.1 rfl (lv_room (Nat.le_of_ble_eq_true rfl)) dX0_carry_41 ⟨(by first | exact Nat.le_of_ble_eq_true rfl | (show _ ≤ (0 : Nat); omega)), (by first | exact Nat.le_of_ble_eq_true rfl | (show _ ≤ (0 : Nat); omega))⟩) hP hD hS hA [1, 2, 3, 4, 5] [0] rfl rfl rfl (by decide) (fun u_5 H locs qn hP hD hS => ?_)
        obtain ⟨sf3, sn3, st3, df3, dn3, dt3⟩ := u_5
        have hP : va_P G.1 vwCl [(y, .inr (1, [.ref q])), (q, .inr (2, [.ref sa, .ref da, .ref wa, .long (lz ((zqu po))), .long (lz ((zqd po))), .int (iz (pq + 1))])), (sa, .inr (9, [.ref sb, .int (iz (sn3)), .long (lz (st3))])), (sb, zaL (G.2 0) 40 (sf3)), (da, .inr (9, [.ref db, .int (iz (dn3)), .long (lz (dt3))])), (db, zaL (G.2 0) 40 (df3))] H := hP
        have hD : va_D A [(y, .inr (1, [.ref q])), (q, .inr (2, [.ref sa, .ref da, .ref wa, .long (lz ((zqu po))), .long (lz ((zqd po))), .int (iz (pq + 1))])), (sa, .inr (9, [.ref sb, .int (iz (sn3)), .long (lz (st3))])), (sb, zaL (G.2 0) 40 (sf3)), (da, .inr (9, [.ref db, .int (iz (dn3)), .long (lz (dt3))])), (db, zaL (G.2 0) 40 (df3))] := hD
        have qn : zwv sf3 sn3 st3 ((zrow (zqu po) (zqd po) (zbf cp fa pr) (i - 1).toNat) * (zqu po) + ((zqd po) ^ (i - 1).toNat) * (zqd po) * (cp + fa)) ∧ zwv df3 dn3 dt3 (((zqd po) ^ (i - 1).toNat) * (zqd po)) := qn
        have qs := qn.1
        have qd := qn.2
        rw [ep] at qd
        rw [zrw_next (U := zqu po) (P := zqd po) (f := zbf cp fa pr) k1.1 (by unfold zbf; rw [if_neg (by omega), if_pos (by omega)])] at qs
        rw [hQ]
        exact zr_vret (u := (sf3, sn3, st3, df3, dn3, dt3, pq + 1)) hx hb hr hlocks hP hD hS (by first | exact Nat.le_of_ble_eq_true rfl | omega) (by first | exact Nat.le_of_ble_eq_true rfl | omega) dX0_carry_44 (show zwv sf3 sn3 st3 (zrow (zqu po) (zqd po) (zbf cp fa pr) (pr).toNat) from by rw [show pr = i + 1 - 1 by omega] at qs ⊢; exact qs)
      ·
        refine lv_aload_n hx hb dX0_carry_20 rfl (lv_at hl 1 rfl) ?_
        refine va_get (D := G.1) (ci := 1) (v := .ref q) (C := RX0) (T := TX0) (N := 1) hx hb hts iwX0 hown hK hP 0 rfl rfl 0 (by decide) (hts (.fieldLink RX0 12 "AnnuityHouse$Bond" "flow" "LAnnuityHouse$Flow;") (by decide +kernel)) (fun _ h9 => h9) rfl dX0_carry_21 ?_
        refine lv_lload_n hx hb dX0_carry_24 rfl (lv_at hl 2 rfl) ?_
        have hb1 := zrow_35 (U := zqu po) (P := zqd po) (A := 2000000000) (f := zbf cp fa pr) (by omega) (by omega) (i - 1).toNat (fun j _ _ => zbf_rng h1 j) (by decide) (Or.inl ⟨by omega, by decide⟩)
        have hs1 := zwv_small k2 (k := 37) (by have := z35_37; omega) (by have := z35_37; omega)
        have hb2 := zrp (P := zqd po) (k := i - 1) (by omega) (by omega)
        have hs2 := zwv_small k3 (k := 37) (by have := z35_37; omega) (by have := z35_37; omega)
        have hb3 := zrp (P := zqd po) (k := i + 1 - 1) (by omega) (by omega)
        have ep : (zqd po) ^ (i - 1).toNat * zqd po = (zqd po) ^ (i + 1 - 1).toNat := by rw [show (i + 1 - 1).toNat = (i - 1).toNat + 1 by omega, Int.pow_succ]
        refine zc_v (wr := [(y, .inr (1, [.ref q]))]) (va_runV (As := [.long (lz (cp))]) (rest := []) ⟨hx, hb, hml, hown, hts⟩ (c_X1_next l G q wa sa sb sg sm su da db dg dm du (zqu po) (zqd po) pq (zrow (zqu po) (zqd po) (zbf cp fa pr) (i - 1).toNat) ((zqd po) ^ (i - 1).toNat) cp (k2) (k3) (by omega) (by omega) (by omega) (by rw [ep]; have := z35_37; omega) H.size) (cwV 1 hts gX0_carry_X1_next rfl rfl rfl (by decide +kernel) ⟨Nat.le_of_ble_eq_true rfl, Nat.le_of_ble_eq_true rfl⟩) (zpV hKX hP hD [1, 2, 3, 4, 5] rfl rfl 1 2 rfl rfl) rfl rfl hl.1 rfl (lv_room (Nat.le_of_ble_eq_true rfl)) dX0_carry_25 ⟨(by first | exact Nat.le_of_ble_eq_true rfl | (show _ ≤ (0 : Nat); omega)), (by first | exact Nat.le_of_ble_eq_true rfl | (show _ ≤ (0 : Nat); omega))⟩) hP hD hS hA [1, 2, 3, 4, 5] [0] rfl rfl rfl (by decide) (fun u_8 H locs qn hP hD hS => ?_)
        obtain ⟨sf3, sn3, st3, df3, dn3, dt3⟩ := u_8
        have hP : va_P G.1 vwCl [(y, .inr (1, [.ref q])), (q, .inr (2, [.ref sa, .ref da, .ref wa, .long (lz ((zqu po))), .long (lz ((zqd po))), .int (iz (pq + 1))])), (sa, .inr (9, [.ref sb, .int (iz (sn3)), .long (lz (st3))])), (sb, zaL (G.2 0) 40 (sf3)), (da, .inr (9, [.ref db, .int (iz (dn3)), .long (lz (dt3))])), (db, zaL (G.2 0) 40 (df3))] H := hP
        have hD : va_D A [(y, .inr (1, [.ref q])), (q, .inr (2, [.ref sa, .ref da, .ref wa, .long (lz ((zqu po))), .long (lz ((zqd po))), .int (iz (pq + 1))])), (sa, .inr (9, [.ref sb, .int (iz (sn3)), .long (lz (st3))])), (sb, zaL (G.2 0) 40 (sf3)), (da, .inr (9, [.ref db, .int (iz (dn3)), .long (lz (dt3))])), (db, zaL (G.2 0) 40 (df3))] := hD
        have qn : zwv sf3 sn3 st3 ((zrow (zqu po) (zqd po) (zbf cp fa pr) (i - 1).toNat) * (zqu po) + ((zqd po) ^ (i - 1).toNat) * (zqd po) * cp) ∧ zwv df3 dn3 dt3 (((zqd po) ^ (i - 1).toNat) * (zqd po)) := qn
        have qs := qn.1
        have qd := qn.2
        rw [ep] at qd
        rw [zrw_next (U := zqu po) (P := zqd po) (f := zbf cp fa pr) k1.1 (by unfold zbf; rw [if_neg (by omega), if_neg (by omega)])] at qs
        refine lv_iinc (v := iz (i + 1)) (lv' := [(7, .int (iz (i + 1))), (0, .ref y), (1, .long (lz (cp))), (3, .long (lz (fa))), (5, .int (iz (pr))), (6, .int (iz (po)))]) hx hb dX0_carry_28 hl (k := 0) rfl (by rw [show Int32.ofInt (1) = iz (1) from rfl, iz_add]) (by decide) rfl (fun ls hl => ?_)
        refine lv_goto (tgt := 13) hx hb dX0_carry_31 (by decide) ?_
        refine W.widen (k := 0 + 0) (n := 0 + 0) (by omega) (by omega) ?_
        exact ih_13 (i + 1) (pq + 1) sf3 sn3 st3 df3 dn3 dt3 _ _ _ (by omega) (by omega) (qs) (qd) (hP) (hD) hS (hl)
  exact hl_13 ((pr - 1 : Int).toNat + 1) 1 0 sf1 sn1 st1 df1 dn1 dt1 _ _ _ (Nat.lt_succ_self _) (by omega) (hbg.1) (by simpa using hbg.2) (hP) (hD) hS (hl)

def rm_c_X0_worthNow : Room := { frames := 9, cells := 1, slots := 6, locals := 162 }
theorem iw_X0_worthNow_X0 : ∀ w ∈ wsX00, w ∈ wsX0_worthNow := by decide +kernel
theorem iw_X0_worthNow_X1 : ∀ w ∈ wsX10, w ∈ wsX0_worthNow := by decide +kernel
set_option maxHeartbeats 1000000 in
set_option maxRecDepth 100000 in
theorem c_X0_worthNow (l : Launch) (G : zG) (s1 : Nat) (s2 : Nat) (s3 : Nat) (y : Nat) (q : Nat) (r : Nat) (md : Int) (sa : Nat) (sb : Nat) (sf : Int → Int) (sn : Int) (st : Int) (da : Nat) (db : Nat) (df : Int → Int) (dn : Int) (dt : Int) (wa : Nat) (wb : Nat) (wf : Int → Int) (wn : Int) (wt : Int) (u0 : Int) (d0 : Int) (p0 : Int) (cp : Int) (fa : Int) (pr : Int) (po : Int) (hl0 : l.stackTraces = false) (hmd : 0 ≤ md ∧ md ≤ 7) (h1 : 0 ≤ cp ∧ cp ≤ 1000000000 ∧ 0 ≤ fa ∧ fa ≤ 1000000000) (h2 : 1 ≤ pr ∧ pr ≤ 40) (h3 : 0 ≤ po ∧ po ≤ 20000) : zMt l (zXE s1 s2 s3) G yX0_worthNow wsX0_worthNow rm_c_X0_worthNow [.ref y, .long (lz (cp)), .long (lz (fa)), .int (iz (pr)), .int (iz (po)), .ref r] [(y, .inr (1, [.ref q])), (q, .inr (2, [.ref sa, .ref da, .ref wa, .long (lz (u0)), .long (lz (d0)), .int (iz (p0))])), (sa, .inr (9, [.ref sb, .int (iz (sn)), .long (lz (st))])), (sb, zaL (G.2 0) 40 (sf)), (da, .inr (9, [.ref db, .int (iz (dn)), .long (lz (dt))])), (db, zaL (G.2 0) 40 (df)), (wa, .inr (9, [.ref wb, .int (iz (wn)), .long (lz (wt))])), (wb, zaL (G.2 0) 40 (wf)), (r, .inr (5, [.int (iz (md))]))] (fun A => zQl G (fun (z : Int) (u : (Int → Int) × Int × Int × (Int → Int) × Int × Int × (Int → Int) × Int × Int × Int) => (znm (zbf cp fa pr) po % zqq po 0 = 0 ∨ md ≠ 7) ∧ z = zrd md (znm (zbf cp fa pr) po) (zqq po 0)) (fun (u : (Int → Int) × Int × Int × (Int → Int) × Int × Int × (Int → Int) × Int × Int × Int) => [(y, .inr (1, [.ref q])), (q, .inr (2, [.ref sa, .ref da, .ref wa, .long (lz (zqu po)), .long (lz (zqd po)), .int (iz (u.2.2.2.2.2.2.2.2.2))])), (sa, .inr (9, [.ref sb, .int (iz (u.2.1)), .long (lz (u.2.2.1))])), (sb, zaL (G.2 0) 40 (u.1)), (da, .inr (9, [.ref db, .int (iz (u.2.2.2.2.1)), .long (lz (u.2.2.2.2.2.1))])), (db, zaL (G.2 0) 40 (u.2.2.2.1)), (wa, .inr (9, [.ref wb, .int (iz (u.2.2.2.2.2.2.2.1)), .long (lz (u.2.2.2.2.2.2.2.2.1))])), (wb, zaL (G.2 0) 40 (u.2.2.2.2.2.2.1)), (r, .inr (5, [.int (iz (md))]))]) A) (SX := (Int → Int) × Int × Int × (Int → Int) × Int × Int × (Int → Int) × Int × Int × Int) (fun (E9 : String) (ux : (Int → Int) × Int × Int × (Int → Int) × Int × Int × (Int → Int) × Int × Int × Int) => (E9 = "java/lang/IllegalStateException" ∧ md = 7 ∧ znm (zbf cp fa pr) po % zqq po 0 ≠ 0)) (fun (ux : (Int → Int) × Int × Int × (Int → Int) × Int × Int × (Int → Int) × Int × Int × Int) => [(y, .inr (1, [.ref q])), (q, .inr (2, [.ref sa, .ref da, .ref wa, .long (lz (zqu po)), .long (lz (zqd po)), .int (iz (ux.2.2.2.2.2.2.2.2.2))])), (sa, .inr (9, [.ref sb, .int (iz (ux.2.1)), .long (lz (ux.2.2.1))])), (sb, zaL (G.2 0) 40 (ux.1)), (da, .inr (9, [.ref db, .int (iz (ux.2.2.2.2.1)), .long (lz (ux.2.2.2.2.2.1))])), (db, zaL (G.2 0) 40 (ux.2.2.2.1)), (wa, .inr (9, [.ref wb, .int (iz (ux.2.2.2.2.2.2.2.1)), .long (lz (ux.2.2.2.2.2.2.2.2.1))])), (wb, zaL (G.2 0) 40 (ux.2.2.2.2.2.2.1)), (r, .inr (5, [.int (iz (md))]))]) 1 6 := by
  refine zMt_of (cc := cX0_worthNow) (maxL := 8) (ret := (some .long)) (by decide) rfl (Nat.le_of_ble_eq_true rfl) ?_
  intro p e s m below meth c ls A Q hQ hx hb hr hts hown hlocks hml hout hKX hE hP hD hA hS hl
  have hK := hKX.1
  have iwX0 := iw_X0_worthNow_X0
  have iwX1 := iw_X0_worthNow_X1
  obtain ⟨H, hH⟩ : ∃ h, h = s.heap := ⟨_, rfl⟩
  obtain ⟨locs, hlo⟩ : ∃ h : List Loc, h = [] := ⟨_, rfl⟩
  have hS : va_S A s.heap H locs := by rw [hH, hlo]; exact hS
  have hP : va_P G.1 vwCl [(y, .inr (1, [.ref q])), (q, .inr (2, [.ref sa, .ref da, .ref wa, .long (lz (u0)), .long (lz (d0)), .int (iz (p0))])), (sa, .inr (9, [.ref sb, .int (iz (sn)), .long (lz (st))])), (sb, zaL (G.2 0) 40 (sf)), (da, .inr (9, [.ref db, .int (iz (dn)), .long (lz (dt))])), (db, zaL (G.2 0) 40 (df)), (wa, .inr (9, [.ref wb, .int (iz (wn)), .long (lz (wt))])), (wb, zaL (G.2 0) 40 (wf)), (r, .inr (5, [.int (iz (md))]))] H := by rw [hH]; exact hP
  have hD : va_D A [(y, .inr (1, [.ref q])), (q, .inr (2, [.ref sa, .ref da, .ref wa, .long (lz (u0)), .long (lz (d0)), .int (iz (p0))])), (sa, .inr (9, [.ref sb, .int (iz (sn)), .long (lz (st))])), (sb, zaL (G.2 0) 40 (sf)), (da, .inr (9, [.ref db, .int (iz (dn)), .long (lz (dt))])), (db, zaL (G.2 0) 40 (df)), (wa, .inr (9, [.ref wb, .int (iz (wn)), .long (lz (wt))])), (wb, zaL (G.2 0) 40 (wf)), (r, .inr (5, [.int (iz (md))]))] := hD
  have hl : lv_has ls 8 [(0, .ref y), (1, .long (lz (cp))), (3, .long (lz (fa))), (5, .int (iz (pr))), (6, .int (iz (po))), (7, .ref r)] := hl
  rw [← hH, ← hlo]
  have hrg := zq_rng h3
  refine lv_aload_n hx hb dX0_worthNow_0 rfl (lv_at hl 0 rfl) ?_
  refine lv_lload_n hx hb dX0_worthNow_1 rfl (lv_at hl 1 rfl) ?_
  refine lv_lload_n hx hb dX0_worthNow_2 rfl (lv_at hl 2 rfl) ?_
  refine lv_iload hx hb dX0_worthNow_3 (lv_at hl 3 rfl) ?_
  refine lv_iload hx hb dX0_worthNow_5 (lv_at hl 4 rfl) ?_
  refine zc_v (wr := [(wa, .inr (9, [.ref wb, .int (iz (wn)), .long (lz (wt))])), (wb, zaL (G.2 0) 40 (wf)), (r, .inr (5, [.int (iz (md))]))]) (va_runV (As := [.long (lz (cp)), .long (lz (fa)), .int (iz (pr)), .int (iz (po))]) (rest := []) ⟨hx, hb, hml, hown, hts⟩ (c_X0_carry l G y q wa sa sb sf sn st da db df dn dt u0 d0 p0 cp fa pr po (by omega) (by omega) (by omega) H.size) (cwV 4 hts gX0_worthNow_X0_carry rfl rfl rfl (by decide +kernel) ⟨Nat.le_of_ble_eq_true rfl, Nat.le_of_ble_eq_true rfl⟩) (zpV hKX hP hD [0, 1, 2, 3, 4, 5] rfl rfl 0 1 rfl rfl) rfl rfl hl.1 rfl (lv_room (Nat.le_of_ble_eq_true rfl)) dX0_worthNow_7 ⟨(by first | exact Nat.le_of_ble_eq_true rfl | (show _ ≤ (1 : Nat); omega)), (by first | exact Nat.le_of_ble_eq_true rfl | (show _ ≤ (6 : Nat); omega))⟩) hP hD hS hA [0, 1, 2, 3, 4, 5] [6, 7, 8] rfl rfl rfl (by decide) (fun u_1 H locs hc hP hD hS => ?_)
  obtain ⟨sf1, sn1, st1, df1, dn1, dt1, p1⟩ := u_1
  have hP : va_P G.1 vwCl [(wa, .inr (9, [.ref wb, .int (iz (wn)), .long (lz (wt))])), (wb, zaL (G.2 0) 40 (wf)), (r, .inr (5, [.int (iz (md))])), (y, .inr (1, [.ref q])), (q, .inr (2, [.ref sa, .ref da, .ref wa, .long (lz (zqu po)), .long (lz (zqd po)), .int (iz (p1))])), (sa, .inr (9, [.ref sb, .int (iz (sn1)), .long (lz (st1))])), (sb, zaL (G.2 0) 40 (sf1)), (da, .inr (9, [.ref db, .int (iz (dn1)), .long (lz (dt1))])), (db, zaL (G.2 0) 40 (df1))] H := hP
  have hD : va_D A [(wa, .inr (9, [.ref wb, .int (iz (wn)), .long (lz (wt))])), (wb, zaL (G.2 0) 40 (wf)), (r, .inr (5, [.int (iz (md))])), (y, .inr (1, [.ref q])), (q, .inr (2, [.ref sa, .ref da, .ref wa, .long (lz (zqu po)), .long (lz (zqd po)), .int (iz (p1))])), (sa, .inr (9, [.ref sb, .int (iz (sn1)), .long (lz (st1))])), (sb, zaL (G.2 0) 40 (sf1)), (da, .inr (9, [.ref db, .int (iz (dn1)), .long (lz (dt1))])), (db, zaL (G.2 0) 40 (df1))] := hD
  have hc : zwv sf1 sn1 st1 (zrow (zqu po) (zqd po) (zbf cp fa pr) (pr).toNat) := hc
  have hwr := zwr_b h3 h2 h1
  have hpe := fun md => zprice_e (cp := cp) (fa := fa) (md := md) h3 h2
  refine lv_aload hx hb dX0_worthNow_10 (lv_at hl 5 rfl) ?_
  refine lv_aload_n hx hb dX0_worthNow_12 rfl (lv_at hl 0 rfl) ?_
  refine va_get (D := G.1) (ci := 1) (v := .ref q) (C := RX0) (T := TX0) (N := 1) hx hb hts iwX0 hown hK hP 3 rfl rfl 0 (by decide) (hts (.fieldLink RX0 12 "AnnuityHouse$Bond" "flow" "LAnnuityHouse$Flow;") (by decide +kernel)) (fun _ h9 => h9) rfl dX0_worthNow_13 ?_
  refine va_get (D := G.1) (ci := 2) (v := .ref sa) (C := RX1) (T := TX1) (N := 6) hx hb hts iwX1 hown hK hP 4 rfl rfl 0 (by decide) (hts (.fieldLink RX0 22 "AnnuityHouse$Flow" "sum" "LAnnuityHouse$Whole;") (by decide +kernel)) (fun _ h9 => h9) rfl dX0_worthNow_16 ?_
  refine lv_aload_n hx hb dX0_worthNow_19 rfl (lv_at hl 0 rfl) ?_
  refine va_get (D := G.1) (ci := 1) (v := .ref q) (C := RX0) (T := TX0) (N := 1) hx hb hts iwX0 hown hK hP 3 rfl rfl 0 (by decide) (hts (.fieldLink RX0 12 "AnnuityHouse$Bond" "flow" "LAnnuityHouse$Flow;") (by decide +kernel)) (fun _ h9 => h9) rfl dX0_worthNow_20 ?_
  refine lv_lconst (v := lz (1)) hx hb dX0_worthNow_23 rfl ?_
  refine lv_iload hx hb dX0_worthNow_24 (lv_at hl 3 rfl) ?_
  refine zc_r (wr := [(r, .inr (5, [.int (iz (md))])), (y, .inr (1, [.ref q])), (sa, .inr (9, [.ref sb, .int (iz (sn1)), .long (lz (st1))])), (sb, zaL (G.2 0) 40 (sf1)), (da, .inr (9, [.ref db, .int (iz (dn1)), .long (lz (dt1))])), (db, zaL (G.2 0) 40 (df1))]) (va_runV (As := [.long (lz (1)), .int (iz (pr))]) (rest := [.ref sa, .ref r]) ⟨hx, hb, hml, hown, hts⟩ (c_X1_upPower l G q sa da wa wb wf wn wt (zqu po) (zqd po) p1 1 pr (by omega) (by omega) (by omega) (by have := z35_37; omega) H.size) (cwV 2 hts gX0_worthNow_X1_upPower rfl rfl rfl (by decide +kernel) ⟨Nat.le_of_ble_eq_true rfl, Nat.le_of_ble_eq_true rfl⟩) (zpV hKX hP hD [4, 0, 1] rfl rfl 4 2 rfl rfl) rfl rfl hl.1 rfl (lv_room (Nat.le_of_ble_eq_true rfl)) dX0_worthNow_26 ⟨(by first | exact Nat.le_of_ble_eq_true rfl | (show _ ≤ (1 : Nat); omega)), (by first | exact Nat.le_of_ble_eq_true rfl | (show _ ≤ (6 : Nat); omega))⟩) hP hD hS hA [4, 0, 1] [2, 3, 5, 6, 7, 8] rfl rfl rfl (by decide) (fun u_4 rw_ H locs hw hP hD hS => ?_)
  obtain ⟨wf1, wn1, wt1⟩ := u_4
  have hP : va_P G.1 vwCl [(r, .inr (5, [.int (iz (md))])), (y, .inr (1, [.ref q])), (sa, .inr (9, [.ref sb, .int (iz (sn1)), .long (lz (st1))])), (sb, zaL (G.2 0) 40 (sf1)), (da, .inr (9, [.ref db, .int (iz (dn1)), .long (lz (dt1))])), (db, zaL (G.2 0) 40 (df1)), (q, .inr (2, [.ref sa, .ref da, .ref wa, .long (lz ((zqu po))), .long (lz ((zqd po))), .int (iz (p1))])), (wa, .inr (9, [.ref wb, .int (iz (wn1)), .long (lz (wt1))])), (wb, zaL (G.2 0) 40 (wf1))] H := hP
  have hD : va_D A [(r, .inr (5, [.int (iz (md))])), (y, .inr (1, [.ref q])), (sa, .inr (9, [.ref sb, .int (iz (sn1)), .long (lz (st1))])), (sb, zaL (G.2 0) 40 (sf1)), (da, .inr (9, [.ref db, .int (iz (dn1)), .long (lz (dt1))])), (db, zaL (G.2 0) 40 (df1)), (q, .inr (2, [.ref sa, .ref da, .ref wa, .long (lz ((zqu po))), .long (lz ((zqd po))), .int (iz (p1))])), (wa, .inr (9, [.ref wb, .int (iz (wn1)), .long (lz (wt1))])), (wb, zaL (G.2 0) 40 (wf1))] := hD
  have hw : rw_ = wa ∧ zwv wf1 wn1 wt1 ((1 : Int) * (zqu po) ^ pr.toNat) := hw
  rw [show rw_ = wa from hw.1]
  refine zct_l (wr := [(y, .inr (1, [.ref q])), (da, .inr (9, [.ref db, .int (iz (dn1)), .long (lz (dt1))])), (db, zaL (G.2 0) 40 (df1)), (q, .inr (2, [.ref sa, .ref da, .ref wa, .long (lz ((zqu po))), .long (lz ((zqd po))), .int (iz (p1))]))]) (vx_runV (As := [.ref sa, .ref wa]) (rest := []) ⟨hx, hb, hml, hown, hts⟩ (c_X4_ratio_ l G s1 s2 s3 r md sa sb sf1 sn1 st1 wa wb wf1 wn1 wt1 (zrow (zqu po) (zqd po) (zbf cp fa pr) (pr).toNat) (1 * zqu po ^ pr.toNat) hl0 (by omega) (hc) (hw.2) (hwr.1) (hwr.2.2.1) (hwr.2.1) (hwr.2.2.2) H.size) (cwV 2 hts gX0_worthNow_X4_ratio_ rfl rfl rfl (by decide +kernel) ⟨Nat.le_of_ble_eq_true rfl, Nat.le_of_ble_eq_true rfl⟩) (zpVe zXE_ok hE hS hA hKX hP hD [0, 2, 3, 7, 8] rfl rfl (va_recv hK hP (ci := 5) (q0 := 0) rfl rfl)) rfl rfl hl.1 rfl (lv_room (Nat.le_of_ble_eq_true rfl)) dX0_worthNow_29 ⟨(by first | exact Nat.le_of_ble_eq_true rfl | (show _ ≤ (1 : Nat); omega)), (by first | exact Nat.le_of_ble_eq_true rfl | (show _ ≤ (6 : Nat); omega))⟩) hP hD hS hA [0, 2, 3, 7, 8] [1, 4, 5, 6] rfl rfl rfl (by decide) (fun E9 ce9 q9 ux_13 H locs hx9_14 hP hD hS hce9 hcv9 hcl9 => ?_) (fun zz u_12 H locs hz hP hD hS => ?_)
  ·
    obtain ⟨of2_6, on2_7, ot2_8, uf2_9, un2_10, ut2_11⟩ := ux_13
    have hP : va_P G.1 vwCl [(y, .inr (1, [.ref q])), (da, .inr (9, [.ref db, .int (iz (dn1)), .long (lz (dt1))])), (db, zaL (G.2 0) 40 (df1)), (q, .inr (2, [.ref sa, .ref da, .ref wa, .long (lz ((zqu po))), .long (lz ((zqd po))), .int (iz (p1))])), (r, .inr (5, [.int (iz (md))])), (sa, .inr (9, [.ref sb, .int (iz (on2_7)), .long (lz (ot2_8))])), (sb, zaL (G.2 0) 40 (of2_6)), (wa, .inr (9, [.ref wb, .int (iz (un2_10)), .long (lz (ut2_11))])), (wb, zaL (G.2 0) 40 (uf2_9))] H := hP
    have hD : va_D A [(y, .inr (1, [.ref q])), (da, .inr (9, [.ref db, .int (iz (dn1)), .long (lz (dt1))])), (db, zaL (G.2 0) 40 (df1)), (q, .inr (2, [.ref sa, .ref da, .ref wa, .long (lz ((zqu po))), .long (lz ((zqd po))), .int (iz (p1))])), (r, .inr (5, [.int (iz (md))])), (sa, .inr (9, [.ref sb, .int (iz (on2_7)), .long (lz (ot2_8))])), (sb, zaL (G.2 0) 40 (of2_6)), (wa, .inr (9, [.ref wb, .int (iz (un2_10)), .long (lz (ut2_11))])), (wb, zaL (G.2 0) 40 (uf2_9))] := hD
    rcases hx9_14 with ⟨rfl, hxc⟩
    ·
      have hxc : md = 7 ∧ ((zrow (zqu po) (zqd po) (zbf cp fa pr) (pr).toNat).natAbs : Int) % (1 * zqu po ^ pr.toNat) ≠ 0 := hxc
      rw [hQ]
      exact zt_out (of2_6, on2_7, ot2_8, df1, dn1, dt1, uf2_9, un2_10, ut2_11, p1) hout hlocks hce9 hcv9 hcl9 (hP.sub [0, 3, 5, 6, 1, 2, 7, 8, 4] rfl) (hD.sub [0, 3, 5, 6, 1, 2, 7, 8, 4] (by decide) rfl) hS ⟨rfl, (show md = 7 ∧ znm (zbf cp fa pr) po % zqq po 0 ≠ 0 from ⟨hxc.1, fun q => hxc.2 ((znz hwr.1).mpr ((hpe 0).2.mpr q))⟩)⟩ (by first | exact Nat.le_of_ble_eq_true rfl | omega) (by first | exact Nat.le_of_ble_eq_true rfl | omega)
  obtain ⟨sf2, sn2, st2, wf2, wn2, wt2⟩ := u_12
  have hP : va_P G.1 vwCl [(y, .inr (1, [.ref q])), (da, .inr (9, [.ref db, .int (iz (dn1)), .long (lz (dt1))])), (db, zaL (G.2 0) 40 (df1)), (q, .inr (2, [.ref sa, .ref da, .ref wa, .long (lz ((zqu po))), .long (lz ((zqd po))), .int (iz (p1))])), (r, .inr (5, [.int (iz (md))])), (sa, .inr (9, [.ref sb, .int (iz (sn2)), .long (lz (st2))])), (sb, zaL (G.2 0) 40 (sf2)), (wa, .inr (9, [.ref wb, .int (iz (wn2)), .long (lz (wt2))])), (wb, zaL (G.2 0) 40 (wf2))] H := hP
  have hD : va_D A [(y, .inr (1, [.ref q])), (da, .inr (9, [.ref db, .int (iz (dn1)), .long (lz (dt1))])), (db, zaL (G.2 0) 40 (df1)), (q, .inr (2, [.ref sa, .ref da, .ref wa, .long (lz ((zqu po))), .long (lz ((zqd po))), .int (iz (p1))])), (r, .inr (5, [.int (iz (md))])), (sa, .inr (9, [.ref sb, .int (iz (sn2)), .long (lz (st2))])), (sb, zaL (G.2 0) 40 (sf2)), (wa, .inr (9, [.ref wb, .int (iz (wn2)), .long (lz (wt2))])), (wb, zaL (G.2 0) 40 (wf2))] := hD
  have hz : (((zrow (zqu po) (zqd po) (zbf cp fa pr) (pr).toNat).natAbs : Int) % (1 * zqu po ^ pr.toNat) = 0 ∨ md ≠ 7) ∧ zz = zrd md (zrow (zqu po) (zqd po) (zbf cp fa pr) (pr).toNat) (1 * zqu po ^ pr.toNat) := hz
  rw [hQ]
  exact vx_ret (zr_lret (z := zz) (u := (sf2, sn2, st2, df1, dn1, dt1, wf2, wn2, wt2, p1)) hx hb hr hlocks (hP.sub [0, 3, 5, 6, 1, 2, 7, 8, 4] rfl) (hD.sub [0, 3, 5, 6, 1, 2, 7, 8, 4] (by decide) rfl) hS (by first | exact Nat.le_of_ble_eq_true rfl | omega) (by first | exact Nat.le_of_ble_eq_true rfl | omega) dX0_worthNow_32 (show (znm (zbf cp fa pr) po % zqq po 0 = 0 ∨ md ≠ 7) ∧ zz = zrd md (znm (zbf cp fa pr) po) (zqq po 0) from ⟨hz.1.elim (fun q => Or.inl ((hpe 0).2.mp ((znz hwr.1).mp q))) Or.inr, hz.2.trans (hpe md).1⟩))

def rm_c_X0_isWorthAtMost : Room := { frames := 5, cells := 0, slots := 0, locals := 126 }
theorem iw_X0_isWorthAtMost_X0 : ∀ w ∈ wsX00, w ∈ wsX0_isWorthAtMost := by decide +kernel
theorem iw_X0_isWorthAtMost_X1 : ∀ w ∈ wsX10, w ∈ wsX0_isWorthAtMost := by decide +kernel
set_option maxHeartbeats 1000000 in
set_option maxRecDepth 100000 in
theorem c_X0_isWorthAtMost (l : Launch) (G : zG) (y : Nat) (q : Nat) (sa : Nat) (sb : Nat) (sf : Int → Int) (sn : Int) (st : Int) (da : Nat) (db : Nat) (df : Int → Int) (dn : Int) (dt : Int) (wa : Nat) (wb : Nat) (wf : Int → Int) (wn : Int) (wt : Int) (u0 : Int) (d0 : Int) (p0 : Int) (cp : Int) (fa : Int) (pr : Int) (po : Int) (mo : Int) (h1 : 0 ≤ cp ∧ cp ≤ 1000000000 ∧ 0 ≤ fa ∧ fa ≤ 1000000000) (h2 : 1 ≤ pr ∧ pr ≤ 40) (h3 : 0 ≤ po ∧ po ≤ 20000) (h4 : 0 ≤ mo ∧ mo ≤ 1000000000000) : zM l G yX0_isWorthAtMost wsX0_isWorthAtMost rm_c_X0_isWorthAtMost [.ref y, .long (lz (cp)), .long (lz (fa)), .int (iz (pr)), .int (iz (po)), .long (lz (mo))] [(y, .inr (1, [.ref q])), (q, .inr (2, [.ref sa, .ref da, .ref wa, .long (lz (u0)), .long (lz (d0)), .int (iz (p0))])), (sa, .inr (9, [.ref sb, .int (iz (sn)), .long (lz (st))])), (sb, zaL (G.2 0) 40 (sf)), (da, .inr (9, [.ref db, .int (iz (dn)), .long (lz (dt))])), (db, zaL (G.2 0) 40 (df)), (wa, .inr (9, [.ref wb, .int (iz (wn)), .long (lz (wt))])), (wb, zaL (G.2 0) 40 (wf))] (fun A => zQz G (fun (z : Bool) (u : (Int → Int) × Int × Int × (Int → Int) × Int × Int × (Int → Int) × Int × Int × Int × Int × Int) => ((z = true ∧ zchp cp fa pr mo po) ∨ (z = false ∧ ¬ zchp cp fa pr mo po))) (fun (u : (Int → Int) × Int × Int × (Int → Int) × Int × Int × (Int → Int) × Int × Int × Int × Int × Int) => [(y, .inr (1, [.ref q])), (q, .inr (2, [.ref sa, .ref da, .ref wa, .long (lz (u.2.2.2.2.2.2.2.2.2.1)), .long (lz (u.2.2.2.2.2.2.2.2.2.2.1)), .int (iz (u.2.2.2.2.2.2.2.2.2.2.2))])), (sa, .inr (9, [.ref sb, .int (iz (u.2.1)), .long (lz (u.2.2.1))])), (sb, zaL (G.2 0) 40 (u.1)), (da, .inr (9, [.ref db, .int (iz (u.2.2.2.2.1)), .long (lz (u.2.2.2.2.2.1))])), (db, zaL (G.2 0) 40 (u.2.2.2.1)), (wa, .inr (9, [.ref wb, .int (iz (u.2.2.2.2.2.2.2.1)), .long (lz (u.2.2.2.2.2.2.2.2.1))])), (wb, zaL (G.2 0) 40 (u.2.2.2.2.2.2.1))]) A) 0 0 := by
  refine zM_of (cc := cX0_isWorthAtMost) (maxL := 9) (ret := (some .boolean)) (by decide) rfl (Nat.le_of_ble_eq_true rfl) ?_
  intro p e s m below meth c ls A Q hQ hx hb hr hts hown hlocks hml hnm hKX hP hD hA hS hl
  have hK := hKX.1
  have iwX0 := iw_X0_isWorthAtMost_X0
  have iwX1 := iw_X0_isWorthAtMost_X1
  obtain ⟨H, hH⟩ : ∃ h, h = s.heap := ⟨_, rfl⟩
  obtain ⟨locs, hlo⟩ : ∃ h : List Loc, h = [] := ⟨_, rfl⟩
  have hS : va_S A s.heap H locs := by rw [hH, hlo]; exact hS
  have hP : va_P G.1 vwCl [(y, .inr (1, [.ref q])), (q, .inr (2, [.ref sa, .ref da, .ref wa, .long (lz (u0)), .long (lz (d0)), .int (iz (p0))])), (sa, .inr (9, [.ref sb, .int (iz (sn)), .long (lz (st))])), (sb, zaL (G.2 0) 40 (sf)), (da, .inr (9, [.ref db, .int (iz (dn)), .long (lz (dt))])), (db, zaL (G.2 0) 40 (df)), (wa, .inr (9, [.ref wb, .int (iz (wn)), .long (lz (wt))])), (wb, zaL (G.2 0) 40 (wf))] H := by rw [hH]; exact hP
  have hD : va_D A [(y, .inr (1, [.ref q])), (q, .inr (2, [.ref sa, .ref da, .ref wa, .long (lz (u0)), .long (lz (d0)), .int (iz (p0))])), (sa, .inr (9, [.ref sb, .int (iz (sn)), .long (lz (st))])), (sb, zaL (G.2 0) 40 (sf)), (da, .inr (9, [.ref db, .int (iz (dn)), .long (lz (dt))])), (db, zaL (G.2 0) 40 (df)), (wa, .inr (9, [.ref wb, .int (iz (wn)), .long (lz (wt))])), (wb, zaL (G.2 0) 40 (wf))] := hD
  have hl : lv_has ls 9 [(0, .ref y), (1, .long (lz (cp))), (3, .long (lz (fa))), (5, .int (iz (pr))), (6, .int (iz (po))), (7, .long (lz (mo)))] := hl
  rw [← hH, ← hlo]
  have hrg := zq_rng h3
  refine lv_aload_n hx hb dX0_isWorthAtMost_0 rfl (lv_at hl 0 rfl) ?_
  refine lv_lload_n hx hb dX0_isWorthAtMost_1 rfl (lv_at hl 1 rfl) ?_
  refine lv_lload_n hx hb dX0_isWorthAtMost_2 rfl (lv_at hl 2 rfl) ?_
  refine lv_iload hx hb dX0_isWorthAtMost_3 (lv_at hl 3 rfl) ?_
  refine lv_iload hx hb dX0_isWorthAtMost_5 (lv_at hl 4 rfl) ?_
  refine zc_v (wr := [(wa, .inr (9, [.ref wb, .int (iz (wn)), .long (lz (wt))])), (wb, zaL (G.2 0) 40 (wf))]) (va_runV (As := [.long (lz (cp)), .long (lz (fa)), .int (iz (pr)), .int (iz (po))]) (rest := []) ⟨hx, hb, hml, hown, hts⟩ (c_X0_carry l G y q wa sa sb sf sn st da db df dn dt u0 d0 p0 cp fa pr po (by omega) (by omega) (by omega) H.size) (cwV 4 hts gX0_isWorthAtMost_X0_carry rfl rfl rfl (by decide +kernel) ⟨Nat.le_of_ble_eq_true rfl, Nat.le_of_ble_eq_true rfl⟩) (zpV hKX hP hD [0, 1, 2, 3, 4, 5] rfl rfl 0 1 rfl rfl) rfl rfl hl.1 rfl (lv_room (Nat.le_of_ble_eq_true rfl)) dX0_isWorthAtMost_7 ⟨(by first | exact Nat.le_of_ble_eq_true rfl | (show _ ≤ (0 : Nat); omega)), (by first | exact Nat.le_of_ble_eq_true rfl | (show _ ≤ (0 : Nat); omega))⟩) hP hD hS hA [0, 1, 2, 3, 4, 5] [6, 7] rfl rfl rfl (by decide) (fun u_1 H locs hc hP hD hS => ?_)
  obtain ⟨sf1, sn1, st1, df1, dn1, dt1, p1⟩ := u_1
  have hP : va_P G.1 vwCl [(wa, .inr (9, [.ref wb, .int (iz (wn)), .long (lz (wt))])), (wb, zaL (G.2 0) 40 (wf)), (y, .inr (1, [.ref q])), (q, .inr (2, [.ref sa, .ref da, .ref wa, .long (lz (zqu po)), .long (lz (zqd po)), .int (iz (p1))])), (sa, .inr (9, [.ref sb, .int (iz (sn1)), .long (lz (st1))])), (sb, zaL (G.2 0) 40 (sf1)), (da, .inr (9, [.ref db, .int (iz (dn1)), .long (lz (dt1))])), (db, zaL (G.2 0) 40 (df1))] H := hP
  have hD : va_D A [(wa, .inr (9, [.ref wb, .int (iz (wn)), .long (lz (wt))])), (wb, zaL (G.2 0) 40 (wf)), (y, .inr (1, [.ref q])), (q, .inr (2, [.ref sa, .ref da, .ref wa, .long (lz (zqu po)), .long (lz (zqd po)), .int (iz (p1))])), (sa, .inr (9, [.ref sb, .int (iz (sn1)), .long (lz (st1))])), (sb, zaL (G.2 0) 40 (sf1)), (da, .inr (9, [.ref db, .int (iz (dn1)), .long (lz (dt1))])), (db, zaL (G.2 0) 40 (df1))] := hD
  have hc : zwv sf1 sn1 st1 (zrow (zqu po) (zqd po) (zbf cp fa pr) (pr).toNat) := hc
  have hwr := zwr_b h3 h2 h1
  have hpe := fun md => zprice_e (cp := cp) (fa := fa) (md := md) h3 h2
  refine lv_aload_n hx hb dX0_isWorthAtMost_10 rfl (lv_at hl 0 rfl) ?_
  refine va_get (D := G.1) (ci := 1) (v := .ref q) (C := RX0) (T := TX0) (N := 1) hx hb hts iwX0 hown hK hP 2 rfl rfl 0 (by decide) (hts (.fieldLink RX0 12 "AnnuityHouse$Bond" "flow" "LAnnuityHouse$Flow;") (by decide +kernel)) (fun _ h9 => h9) rfl dX0_isWorthAtMost_11 ?_
  refine lv_lload hx hb dX0_isWorthAtMost_14 (lv_at hl 5 rfl) ?_
  refine lv_iload hx hb dX0_isWorthAtMost_16 (lv_at hl 3 rfl) ?_
  have hmo := zmo_b (k := pr) h4 h3 (by omega)
  refine zc_r (wr := [(y, .inr (1, [.ref q])), (sa, .inr (9, [.ref sb, .int (iz (sn1)), .long (lz (st1))])), (sb, zaL (G.2 0) 40 (sf1)), (da, .inr (9, [.ref db, .int (iz (dn1)), .long (lz (dt1))])), (db, zaL (G.2 0) 40 (df1))]) (va_runV (As := [.long (lz (mo)), .int (iz (pr))]) (rest := []) ⟨hx, hb, hml, hown, hts⟩ (c_X1_upPower l G q sa da wa wb wf wn wt (zqu po) (zqd po) p1 mo pr (by omega) (by omega) (by omega) (hmo.2) H.size) (cwV 2 hts gX0_isWorthAtMost_X1_upPower rfl rfl rfl (by decide +kernel) ⟨Nat.le_of_ble_eq_true rfl, Nat.le_of_ble_eq_true rfl⟩) (zpV hKX hP hD [3, 0, 1] rfl rfl 3 2 rfl rfl) rfl rfl hl.1 rfl (lv_room (Nat.le_of_ble_eq_true rfl)) dX0_isWorthAtMost_18 ⟨(by first | exact Nat.le_of_ble_eq_true rfl | (show _ ≤ (0 : Nat); omega)), (by first | exact Nat.le_of_ble_eq_true rfl | (show _ ≤ (0 : Nat); omega))⟩) hP hD hS hA [3, 0, 1] [2, 4, 5, 6, 7] rfl rfl rfl (by decide) (fun u_4 rw_ H locs hw hP hD hS => ?_)
  obtain ⟨wf1, wn1, wt1⟩ := u_4
  have hP : va_P G.1 vwCl [(y, .inr (1, [.ref q])), (sa, .inr (9, [.ref sb, .int (iz (sn1)), .long (lz (st1))])), (sb, zaL (G.2 0) 40 (sf1)), (da, .inr (9, [.ref db, .int (iz (dn1)), .long (lz (dt1))])), (db, zaL (G.2 0) 40 (df1)), (q, .inr (2, [.ref sa, .ref da, .ref wa, .long (lz ((zqu po))), .long (lz ((zqd po))), .int (iz (p1))])), (wa, .inr (9, [.ref wb, .int (iz (wn1)), .long (lz (wt1))])), (wb, zaL (G.2 0) 40 (wf1))] H := hP
  have hD : va_D A [(y, .inr (1, [.ref q])), (sa, .inr (9, [.ref sb, .int (iz (sn1)), .long (lz (st1))])), (sb, zaL (G.2 0) 40 (sf1)), (da, .inr (9, [.ref db, .int (iz (dn1)), .long (lz (dt1))])), (db, zaL (G.2 0) 40 (df1)), (q, .inr (2, [.ref sa, .ref da, .ref wa, .long (lz ((zqu po))), .long (lz ((zqd po))), .int (iz (p1))])), (wa, .inr (9, [.ref wb, .int (iz (wn1)), .long (lz (wt1))])), (wb, zaL (G.2 0) 40 (wf1))] := hD
  have hw : rw_ = wa ∧ zwv wf1 wn1 wt1 (mo * (zqu po) ^ pr.toNat) := hw
  rw [show rw_ = wa from hw.1]
  refine lv_aload_n hx hb dX0_isWorthAtMost_21 rfl (lv_at hl 0 rfl) ?_
  refine va_get (D := G.1) (ci := 1) (v := .ref q) (C := RX0) (T := TX0) (N := 1) hx hb hts iwX0 hown hK hP 0 rfl rfl 0 (by decide) (hts (.fieldLink RX0 12 "AnnuityHouse$Bond" "flow" "LAnnuityHouse$Flow;") (by decide +kernel)) (fun _ h9 => h9) rfl dX0_isWorthAtMost_22 ?_
  refine va_get (D := G.1) (ci := 2) (v := .ref sa) (C := RX1) (T := TX1) (N := 6) hx hb hts iwX1 hown hK hP 5 rfl rfl 0 (by decide) (hts (.fieldLink RX0 22 "AnnuityHouse$Flow" "sum" "LAnnuityHouse$Whole;") (by decide +kernel)) (fun _ h9 => h9) rfl dX0_isWorthAtMost_25 ?_
  refine lv_iconst (v := iz (0)) hx hb dX0_isWorthAtMost_28 rfl ?_
  have hs1 := zwv_small hc (k := 37) (by have := z35_37; omega) (by have := z35_37; omega)
  have hnn := zrow_nn (U := zqu po) (P := zqd po) (f := zbf cp fa pr) (by omega) (by omega) pr.toNat (fun i _ _ => zbf_nn ⟨h1.1, h1.2.2.1⟩ i)
  refine zc_z (wr := [(y, .inr (1, [.ref q])), (da, .inr (9, [.ref db, .int (iz (dn1)), .long (lz (dt1))])), (db, zaL (G.2 0) 40 (df1)), (q, .inr (2, [.ref sa, .ref da, .ref wa, .long (lz ((zqu po))), .long (lz ((zqd po))), .int (iz (p1))]))]) (va_runV (As := [.ref sa, .int (iz (0))]) (rest := []) ⟨hx, hb, hml, hown, hts⟩ (c_X8_isAtLeast l G wa wb wf1 wn1 wt1 sa sb sf1 sn1 st1 (mo * zqu po ^ pr.toNat) (zrow (zqu po) (zqd po) (zbf cp fa pr) (pr).toNat) 0 (hw.2) (hc) (⟨hmo.1, hnn⟩) (by omega) (Or.inr rfl) (by omega) H.size) (cwV 2 hts gX0_isWorthAtMost_X8_isAtLeast rfl rfl rfl (by decide +kernel) ⟨Nat.le_of_ble_eq_true rfl, Nat.le_of_ble_eq_true rfl⟩) (zpV hKX hP hD [6, 7, 1, 2] rfl rfl 6 9 rfl rfl) rfl rfl hl.1 rfl (lv_room (Nat.le_of_ble_eq_true rfl)) dX0_isWorthAtMost_29 ⟨(by first | exact Nat.le_of_ble_eq_true rfl | (show _ ≤ (0 : Nat); omega)), (by first | exact Nat.le_of_ble_eq_true rfl | (show _ ≤ (0 : Nat); omega))⟩) hP hD hS hA [6, 7, 1, 2] [0, 3, 4, 5] rfl rfl rfl (by decide) (fun zz u_6 H locs hz hP hD hS => ?_)
  have hP : va_P G.1 vwCl [(y, .inr (1, [.ref q])), (da, .inr (9, [.ref db, .int (iz (dn1)), .long (lz (dt1))])), (db, zaL (G.2 0) 40 (df1)), (q, .inr (2, [.ref sa, .ref da, .ref wa, .long (lz ((zqu po))), .long (lz ((zqd po))), .int (iz (p1))])), (wa, .inr (9, [.ref wb, .int (iz (wn1)), .long (lz (wt1))])), (wb, zaL (G.2 0) 40 (wf1)), (sa, .inr (9, [.ref sb, .int (iz (sn1)), .long (lz (st1))])), (sb, zaL (G.2 0) 40 (sf1))] H := hP
  have hD : va_D A [(y, .inr (1, [.ref q])), (da, .inr (9, [.ref db, .int (iz (dn1)), .long (lz (dt1))])), (db, zaL (G.2 0) 40 (df1)), (q, .inr (2, [.ref sa, .ref da, .ref wa, .long (lz ((zqu po))), .long (lz ((zqd po))), .int (iz (p1))])), (wa, .inr (9, [.ref wb, .int (iz (wn1)), .long (lz (wt1))])), (wb, zaL (G.2 0) 40 (wf1)), (sa, .inr (9, [.ref sb, .int (iz (sn1)), .long (lz (st1))])), (sb, zaL (G.2 0) 40 (sf1))] := hD
  have hz : zz = decide ((zrow (zqu po) (zqd po) (zbf cp fa pr) (pr).toNat) * 1073741824 ^ (0 : Int).toNat ≤ (mo * zqu po ^ pr.toNat)) := hz
  rw [hQ]
  exact zr_zret (z := zz) (rfl) (u := (sf1, sn1, st1, df1, dn1, dt1, wf1, wn1, wt1, zqu po, zqd po, p1)) hx hb hr hlocks (hP.sub [0, 3, 6, 7, 1, 2, 4, 5] rfl) (hD.sub [0, 3, 6, 7, 1, 2, 4, 5] (by decide) rfl) hS (by first | exact Nat.le_of_ble_eq_true rfl | omega) (by first | exact Nat.le_of_ble_eq_true rfl | omega) dX0_isWorthAtMost_32 (show ((zz = true ∧ zchp cp fa pr mo po) ∨ (zz = false ∧ ¬ zchp cp fa pr mo po)) from zchp_b hz h3 h2)

def rm_c_X0_yieldPoints : Room := { frames := 6, cells := 0, slots := 0, locals := 154 }
set_option maxHeartbeats 1000000 in
set_option maxRecDepth 100000 in
theorem c_X0_yieldPoints (l : Launch) (G : zG) (y : Nat) (q : Nat) (sa : Nat) (sb : Nat) (sf : Int → Int) (sn : Int) (st : Int) (da : Nat) (db : Nat) (df : Int → Int) (dn : Int) (dt : Int) (wa : Nat) (wb : Nat) (wf : Int → Int) (wn : Int) (wt : Int) (u0 : Int) (d0 : Int) (p0 : Int) (cp : Int) (fa : Int) (pr : Int) (mo : Int) (h1 : 0 ≤ cp ∧ cp ≤ 1000000000 ∧ 0 ≤ fa ∧ fa ≤ 1000000000) (h2 : 1 ≤ pr ∧ pr ≤ 40) (h4 : 0 ≤ mo ∧ mo ≤ 1000000000000) : zM l G yX0_yieldPoints wsX0_yieldPoints rm_c_X0_yieldPoints [.ref y, .long (lz (cp)), .long (lz (fa)), .int (iz (pr)), .long (lz (mo))] [(y, .inr (1, [.ref q])), (q, .inr (2, [.ref sa, .ref da, .ref wa, .long (lz (u0)), .long (lz (d0)), .int (iz (p0))])), (sa, .inr (9, [.ref sb, .int (iz (sn)), .long (lz (st))])), (sb, zaL (G.2 0) 40 (sf)), (da, .inr (9, [.ref db, .int (iz (dn)), .long (lz (dt))])), (db, zaL (G.2 0) 40 (df)), (wa, .inr (9, [.ref wb, .int (iz (wn)), .long (lz (wt))])), (wb, zaL (G.2 0) 40 (wf))] (fun A => zQi G (fun (z : Int) (u : (Int → Int) × Int × Int × (Int → Int) × Int × Int × (Int → Int) × Int × Int × Int × Int × Int) => ((z = -1 ∧ ¬ zchp cp fa pr mo (20000)) ∨ (0 ≤ z ∧ z ≤ 20000 ∧ zchp cp fa pr mo (z) ∧ (z = 0 ∨ ¬ zchp cp fa pr mo (z - 1))))) (fun (u : (Int → Int) × Int × Int × (Int → Int) × Int × Int × (Int → Int) × Int × Int × Int × Int × Int) => [(y, .inr (1, [.ref q])), (q, .inr (2, [.ref sa, .ref da, .ref wa, .long (lz (u.2.2.2.2.2.2.2.2.2.1)), .long (lz (u.2.2.2.2.2.2.2.2.2.2.1)), .int (iz (u.2.2.2.2.2.2.2.2.2.2.2))])), (sa, .inr (9, [.ref sb, .int (iz (u.2.1)), .long (lz (u.2.2.1))])), (sb, zaL (G.2 0) 40 (u.1)), (da, .inr (9, [.ref db, .int (iz (u.2.2.2.2.1)), .long (lz (u.2.2.2.2.2.1))])), (db, zaL (G.2 0) 40 (u.2.2.2.1)), (wa, .inr (9, [.ref wb, .int (iz (u.2.2.2.2.2.2.2.1)), .long (lz (u.2.2.2.2.2.2.2.2.1))])), (wb, zaL (G.2 0) 40 (u.2.2.2.2.2.2.1))]) A) 0 0 := by
  refine zM_of (cc := cX0_yieldPoints) (maxL := 12) (ret := (some .int)) (by decide) rfl (Nat.le_of_ble_eq_true rfl) ?_
  intro p e s m below meth c ls A Q hQ hx hb hr hts hown hlocks hml hnm hKX hP hD hA hS hl
  have hK := hKX.1
  obtain ⟨H, hH⟩ : ∃ h, h = s.heap := ⟨_, rfl⟩
  obtain ⟨locs, hlo⟩ : ∃ h : List Loc, h = [] := ⟨_, rfl⟩
  have hS : va_S A s.heap H locs := by rw [hH, hlo]; exact hS
  have hP : va_P G.1 vwCl [(y, .inr (1, [.ref q])), (q, .inr (2, [.ref sa, .ref da, .ref wa, .long (lz (u0)), .long (lz (d0)), .int (iz (p0))])), (sa, .inr (9, [.ref sb, .int (iz (sn)), .long (lz (st))])), (sb, zaL (G.2 0) 40 (sf)), (da, .inr (9, [.ref db, .int (iz (dn)), .long (lz (dt))])), (db, zaL (G.2 0) 40 (df)), (wa, .inr (9, [.ref wb, .int (iz (wn)), .long (lz (wt))])), (wb, zaL (G.2 0) 40 (wf))] H := by rw [hH]; exact hP
  have hD : va_D A [(y, .inr (1, [.ref q])), (q, .inr (2, [.ref sa, .ref da, .ref wa, .long (lz (u0)), .long (lz (d0)), .int (iz (p0))])), (sa, .inr (9, [.ref sb, .int (iz (sn)), .long (lz (st))])), (sb, zaL (G.2 0) 40 (sf)), (da, .inr (9, [.ref db, .int (iz (dn)), .long (lz (dt))])), (db, zaL (G.2 0) 40 (df)), (wa, .inr (9, [.ref wb, .int (iz (wn)), .long (lz (wt))])), (wb, zaL (G.2 0) 40 (wf))] := hD
  have hl : lv_has ls 12 [(0, .ref y), (1, .long (lz (cp))), (3, .long (lz (fa))), (5, .int (iz (pr))), (6, .long (lz (mo)))] := hl
  rw [← hH, ← hlo]
  refine lv_aload_n hx hb dX0_yieldPoints_0 rfl (lv_at hl 0 rfl) ?_
  refine lv_lload_n hx hb dX0_yieldPoints_1 rfl (lv_at hl 1 rfl) ?_
  refine lv_lload_n hx hb dX0_yieldPoints_2 rfl (lv_at hl 2 rfl) ?_
  refine lv_iload hx hb dX0_yieldPoints_3 (lv_at hl 3 rfl) ?_
  refine lv_sipush (v := iz (20000)) hx hb dX0_yieldPoints_5 rfl ?_
  refine lv_lload hx hb dX0_yieldPoints_8 (lv_at hl 4 rfl) ?_
  refine zc_z (wr := []) (va_runV (As := [.long (lz (cp)), .long (lz (fa)), .int (iz (pr)), .int (iz (20000)), .long (lz (mo))]) (rest := []) ⟨hx, hb, hml, hown, hts⟩ (c_X0_isWorthAtMost l G y q sa sb sf sn st da db df dn dt wa wb wf wn wt u0 d0 p0 cp fa pr 20000 mo (by omega) (by omega) (by omega) (by omega) H.size) (cwV 5 hts gX0_yieldPoints_X0_isWorthAtMost rfl rfl rfl (by decide +kernel) ⟨Nat.le_of_ble_eq_true rfl, Nat.le_of_ble_eq_true rfl⟩) (zpV hKX hP hD [0, 1, 2, 3, 4, 5, 6, 7] rfl rfl 0 1 rfl rfl) rfl rfl hl.1 rfl (lv_room (Nat.le_of_ble_eq_true rfl)) dX0_yieldPoints_10 ⟨(by first | exact Nat.le_of_ble_eq_true rfl | (show _ ≤ (0 : Nat); omega)), (by first | exact Nat.le_of_ble_eq_true rfl | (show _ ≤ (0 : Nat); omega))⟩) hP hD hS hA [0, 1, 2, 3, 4, 5, 6, 7] [] rfl rfl rfl (by decide) (fun c1 u_1 H locs hc1 hP hD hS => ?_)
  obtain ⟨sf3, sn3, st3, df3, dn3, dt3, wf3, wn3, wt3, ru3, rd3, pe3⟩ := u_1
  have hP : va_P G.1 vwCl [(y, .inr (1, [.ref q])), (q, .inr (2, [.ref sa, .ref da, .ref wa, .long (lz (ru3)), .long (lz (rd3)), .int (iz (pe3))])), (sa, .inr (9, [.ref sb, .int (iz (sn3)), .long (lz (st3))])), (sb, zaL (G.2 0) 40 (sf3)), (da, .inr (9, [.ref db, .int (iz (dn3)), .long (lz (dt3))])), (db, zaL (G.2 0) 40 (df3)), (wa, .inr (9, [.ref wb, .int (iz (wn3)), .long (lz (wt3))])), (wb, zaL (G.2 0) 40 (wf3))] H := hP
  have hD : va_D A [(y, .inr (1, [.ref q])), (q, .inr (2, [.ref sa, .ref da, .ref wa, .long (lz (ru3)), .long (lz (rd3)), .int (iz (pe3))])), (sa, .inr (9, [.ref sb, .int (iz (sn3)), .long (lz (st3))])), (sb, zaL (G.2 0) 40 (sf3)), (da, .inr (9, [.ref db, .int (iz (dn3)), .long (lz (dt3))])), (db, zaL (G.2 0) 40 (df3)), (wa, .inr (9, [.ref wb, .int (iz (wn3)), .long (lz (wt3))])), (wb, zaL (G.2 0) 40 (wf3))] := hD
  have hc1 : ((c1 = true ∧ zchp cp fa pr mo (20000 : Int)) ∨ (c1 = false ∧ ¬ zchp cp fa pr mo (20000 : Int))) := hc1
  refine zr_ifz_ne (tgt := 18) hx hb dX0_yieldPoints_13 (by decide) (fun h_3 => ?_) (fun h_3 => ?_)
  ·
    have hcc : zchp cp fa pr mo (20000) := zchp_t hc1 h_3
    refine lv_iconst (v := iz (0)) hx hb dX0_yieldPoints_18 rfl ?_
    refine lv_istore (lv' := [(8, .int (iz (0))), (0, .ref y), (1, .long (lz (cp))), (3, .long (lz (fa))), (5, .int (iz (pr))), (6, .long (lz (mo)))]) hx hb dX0_yieldPoints_19 hl (by decide) rfl (fun ls hl => ?_)
    refine lv_sipush (v := iz (20000)) hx hb dX0_yieldPoints_21 rfl ?_
    refine lv_istore (lv' := [(9, .int (iz (20000))), (8, .int (iz (0))), (0, .ref y), (1, .long (lz (cp))), (3, .long (lz (fa))), (5, .int (iz (pr))), (6, .long (lz (mo)))]) hx hb dX0_yieldPoints_24 hl (by decide) rfl (fun ls hl => ?_)
    refine lv_iconst (v := iz (0)) hx hb dX0_yieldPoints_26 rfl ?_
    refine lv_istore (lv' := [(10, .int (iz (0))), (9, .int (iz (20000))), (8, .int (iz (0))), (0, .ref y), (1, .long (lz (cp))), (3, .long (lz (fa))), (5, .int (iz (pr))), (6, .long (lz (mo)))]) hx hb dX0_yieldPoints_27 hl (by decide) rfl (fun ls hl => ?_)
    have hl_29 : ∀ (zn_29 : Nat) (tn : Int) (lo : Int) (hi : Int) (xu : Int) (xd : Int) (xp : Int) (sg : Int → Int) (sm : Int) (su : Int) (dg : Int → Int) (dm : Int) (du : Int) (wg : Int → Int) (wm : Int) (wu : Int) (H : Heap) (locs : List Loc) (ls : Array Slot), (hi - lo).toNat < zn_29 → (0 ≤ lo ∧ lo ≤ hi ∧ hi ≤ 20000 ∧ 0 ≤ tn ∧ tn + hi - lo ≤ 20000) → (zchp cp fa pr mo (hi)) → (lo = 0 ∨ ¬ zchp cp fa pr mo (lo - 1)) → va_P G.1 vwCl [(y, .inr (1, [.ref q])), (q, .inr (2, [.ref sa, .ref da, .ref wa, .long (lz (xu)), .long (lz (xd)), .int (iz (xp))])), (sa, .inr (9, [.ref sb, .int (iz (sm)), .long (lz (su))])), (sb, zaL (G.2 0) 40 (sg)), (da, .inr (9, [.ref db, .int (iz (dm)), .long (lz (du))])), (db, zaL (G.2 0) 40 (dg)), (wa, .inr (9, [.ref wb, .int (iz (wm)), .long (lz (wu))])), (wb, zaL (G.2 0) 40 (wg))] H → va_D A [(y, .inr (1, [.ref q])), (q, .inr (2, [.ref sa, .ref da, .ref wa, .long (lz (xu)), .long (lz (xd)), .int (iz (xp))])), (sa, .inr (9, [.ref sb, .int (iz (sm)), .long (lz (su))])), (sb, zaL (G.2 0) 40 (sg)), (da, .inr (9, [.ref db, .int (iz (dm)), .long (lz (du))])), (db, zaL (G.2 0) 40 (dg)), (wa, .inr (9, [.ref wb, .int (iz (wm)), .long (lz (wu))])), (wb, zaL (G.2 0) 40 (wg))] → va_S A s.heap H locs → lv_has ls 12 [(10, .int (iz (tn))), (9, .int (iz (hi))), (8, .int (iz (lo))), (0, .ref y), (1, .long (lz (cp))), (3, .long (lz (fa))), (5, .int (iz (pr))), (6, .long (lz (mo)))] → W p l e rm_c_X0_yieldPoints s m ([.ref y, .long (lz (cp)), .long (lz (fa)), .int (iz (pr)), .long (lz (mo))] : List Value).toArray below meth c H locs (0 + 0) (0 + 0) Q (F0 m 29 ls []) := by
      intro zn_29
      induction zn_29 with
      | zero => intro tn lo hi xu xd xp sg sm su dg dm du wg wm wu H locs ls hm; exact absurd hm (Nat.not_lt_zero _)
      | succ zn_29 ih_29 =>
        intro tn lo hi xu xd xp sg sm su dg dm du wg wm wu H locs ls hm_29 k1 k2 k3 hP hD hS hl
        refine lv_iload hx hb dX0_yieldPoints_29 (lv_at hl 0 rfl) ?_
        refine zr_ldc (z := 1000000) hx hb hown (hts (.constant RX0 40 (1000000)) (by decide +kernel)) rfl dX0_yieldPoints_31 ?_
        refine zr_icmp_ge (x := tn) (y := 1000000) (tgt := 86) hx hb (⟨by omega, by omega⟩) (⟨by omega, by omega⟩) dX0_yieldPoints_33 (by decide) (fun h_4 => ?_) (fun h_4 => ?_)
        · exact absurd h_4 (by omega)
        ·
          refine lv_iload hx hb dX0_yieldPoints_36 (lv_at hl 2 rfl) ?_
          refine lv_iload hx hb dX0_yieldPoints_38 (lv_at hl 1 rfl) ?_
          refine zr_icmp_ge (x := lo) (y := hi) (tgt := 86) hx hb (⟨by omega, by omega⟩) (⟨by omega, by omega⟩) dX0_yieldPoints_40 (by decide) (fun h_5 => ?_) (fun h_5 => ?_)
          ·
            refine lv_iload hx hb dX0_yieldPoints_86 (lv_at hl 2 rfl) ?_
            rw [hQ]
            exact zr_iret (z := lo) (u := (sg, sm, su, dg, dm, du, wg, wm, wu, xu, xd, xp)) hx hb hr hlocks hP hD hS (by first | exact Nat.le_of_ble_eq_true rfl | omega) (by first | exact Nat.le_of_ble_eq_true rfl | omega) dX0_yieldPoints_88 (show ((lo = -1 ∧ ¬ zchp cp fa pr mo (20000)) ∨ (0 ≤ lo ∧ lo ≤ 20000 ∧ zchp cp fa pr mo (lo) ∧ (lo = 0 ∨ ¬ zchp cp fa pr mo (lo - 1)))) from Or.inr ⟨by omega, by omega, by rw [show lo = hi by omega]; exact k2, k3⟩)
          ·
            refine lv_iload hx hb dX0_yieldPoints_43 (lv_at hl 2 rfl) ?_
            refine lv_iload hx hb dX0_yieldPoints_45 (lv_at hl 1 rfl) ?_
            refine zr_iadd hx hb dX0_yieldPoints_47 ?_
            refine lv_iconst (v := iz (2)) hx hb dX0_yieldPoints_48 rfl ?_
            refine zr_idiv hx hb (x := lo + hi) (y := 2) ⟨by omega, by omega⟩ ⟨by omega, by omega⟩ (by omega) (by omega) dX0_yieldPoints_49 ?_
            refine zr_namei (fun mid emid => ?_)
            refine lv_istore (lv' := [(11, .int (iz (mid))), (10, .int (iz (tn))), (9, .int (iz (hi))), (8, .int (iz (lo))), (0, .ref y), (1, .long (lz (cp))), (3, .long (lz (fa))), (5, .int (iz (pr))), (6, .long (lz (mo)))]) hx hb dX0_yieldPoints_50 hl (by decide) rfl (fun ls hl => ?_)
            refine lv_aload_n hx hb dX0_yieldPoints_52 rfl (lv_at hl 4 rfl) ?_
            refine lv_lload_n hx hb dX0_yieldPoints_53 rfl (lv_at hl 5 rfl) ?_
            refine lv_lload_n hx hb dX0_yieldPoints_54 rfl (lv_at hl 6 rfl) ?_
            refine lv_iload hx hb dX0_yieldPoints_55 (lv_at hl 7 rfl) ?_
            refine lv_iload hx hb dX0_yieldPoints_57 (lv_at hl 0 rfl) ?_
            refine lv_lload hx hb dX0_yieldPoints_59 (lv_at hl 8 rfl) ?_
            refine zc_z (wr := []) (va_runV (As := [.long (lz (cp)), .long (lz (fa)), .int (iz (pr)), .int (iz (mid)), .long (lz (mo))]) (rest := []) ⟨hx, hb, hml, hown, hts⟩ (c_X0_isWorthAtMost l G y q sa sb sg sm su da db dg dm du wa wb wg wm wu xu xd xp cp fa pr mid mo (by omega) (by omega) (by omega) (by omega) H.size) (cwV 5 hts gX0_yieldPoints_X0_isWorthAtMost rfl rfl rfl (by decide +kernel) ⟨Nat.le_of_ble_eq_true rfl, Nat.le_of_ble_eq_true rfl⟩) (zpV hKX hP hD [0, 1, 2, 3, 4, 5, 6, 7] rfl rfl 0 1 rfl rfl) rfl rfl hl.1 rfl (lv_room (Nat.le_of_ble_eq_true rfl)) dX0_yieldPoints_61 ⟨(by first | exact Nat.le_of_ble_eq_true rfl | (show _ ≤ (0 : Nat); omega)), (by first | exact Nat.le_of_ble_eq_true rfl | (show _ ≤ (0 : Nat); omega))⟩) hP hD hS hA [0, 1, 2, 3, 4, 5, 6, 7] [] rfl rfl rfl (by decide) (fun c2 u_6 H locs hc2 hP hD hS => ?_)
            obtain ⟨sf4, sn4, st4, df4, dn4, dt4, wf4, wn4, wt4, ru4, rd4, pe4⟩ := u_6
            have hP : va_P G.1 vwCl [(y, .inr (1, [.ref q])), (q, .inr (2, [.ref sa, .ref da, .ref wa, .long (lz (ru4)), .long (lz (rd4)), .int (iz (pe4))])), (sa, .inr (9, [.ref sb, .int (iz (sn4)), .long (lz (st4))])), (sb, zaL (G.2 0) 40 (sf4)), (da, .inr (9, [.ref db, .int (iz (dn4)), .long (lz (dt4))])), (db, zaL (G.2 0) 40 (df4)), (wa, .inr (9, [.ref wb, .int (iz (wn4)), .long (lz (wt4))])), (wb, zaL (G.2 0) 40 (wf4))] H := hP
            have hD : va_D A [(y, .inr (1, [.ref q])), (q, .inr (2, [.ref sa, .ref da, .ref wa, .long (lz (ru4)), .long (lz (rd4)), .int (iz (pe4))])), (sa, .inr (9, [.ref sb, .int (iz (sn4)), .long (lz (st4))])), (sb, zaL (G.2 0) 40 (sf4)), (da, .inr (9, [.ref db, .int (iz (dn4)), .long (lz (dt4))])), (db, zaL (G.2 0) 40 (df4)), (wa, .inr (9, [.ref wb, .int (iz (wn4)), .long (lz (wt4))])), (wb, zaL (G.2 0) 40 (wf4))] := hD
            have hc2 : ((c2 = true ∧ zchp cp fa pr mo mid) ∨ (c2 = false ∧ ¬ zchp cp fa pr mo mid)) := hc2
            refine zr_ifz_eq (tgt := 74) hx hb dX0_yieldPoints_64 (by decide) (fun h_8 => ?_) (fun h_8 => ?_)
            ·
              have hm0 : ¬ zchp cp fa pr mo (mid) := zchp_f hc2 h_8
              refine lv_iload hx hb dX0_yieldPoints_74 (lv_at hl 0 rfl) ?_
              refine lv_iconst (v := iz (1)) hx hb dX0_yieldPoints_76 rfl ?_
              refine zr_iadd hx hb dX0_yieldPoints_77 ?_
              refine lv_istore (lv' := [(8, .int (iz (mid + 1))), (11, .int (iz (mid))), (10, .int (iz (tn))), (9, .int (iz (hi))), (0, .ref y), (1, .long (lz (cp))), (3, .long (lz (fa))), (5, .int (iz (pr))), (6, .long (lz (mo)))]) hx hb dX0_yieldPoints_78 hl (by decide) rfl (fun ls hl => ?_)
              refine lv_iinc (v := iz (tn + 1)) (lv' := [(10, .int (iz (tn + 1))), (8, .int (iz (mid + 1))), (11, .int (iz (mid))), (9, .int (iz (hi))), (0, .ref y), (1, .long (lz (cp))), (3, .long (lz (fa))), (5, .int (iz (pr))), (6, .long (lz (mo)))]) hx hb dX0_yieldPoints_80 hl (k := 2) rfl (by rw [show Int32.ofInt (1) = iz (1) from rfl, iz_add]) (by decide) rfl (fun ls hl => ?_)
              refine lv_goto (tgt := 29) hx hb dX0_yieldPoints_83 (by decide) ?_
              refine W.widen (k := 0 + 0) (n := 0 + 0) (by omega) (by omega) ?_
              exact ih_29 (tn + 1) (mid + 1) hi ru4 rd4 pe4 sf4 sn4 st4 df4 dn4 dt4 wf4 wn4 wt4 _ _ _ (by omega) (by omega) (by first | exact hm1 | exact k2) (by first | exact Or.inr (by rw [show mid + 1 - 1 = mid by omega]; exact hm0) | exact k3) (hP) (hD) hS (lv_sub hl [0, 3, 1, 4, 5, 6, 7, 8] rfl)
            ·
              have hm1 : zchp cp fa pr mo (mid) := zchp_t hc2 h_8
              refine lv_iload hx hb dX0_yieldPoints_67 (lv_at hl 0 rfl) ?_
              refine lv_istore (lv' := [(9, .int (iz (mid))), (11, .int (iz (mid))), (10, .int (iz (tn))), (8, .int (iz (lo))), (0, .ref y), (1, .long (lz (cp))), (3, .long (lz (fa))), (5, .int (iz (pr))), (6, .long (lz (mo)))]) hx hb dX0_yieldPoints_69 hl (by decide) rfl (fun ls hl => ?_)
              refine lv_goto (tgt := 80) hx hb dX0_yieldPoints_71 (by decide) ?_
              refine lv_iinc (v := iz (tn + 1)) (lv' := [(10, .int (iz (tn + 1))), (9, .int (iz (mid))), (11, .int (iz (mid))), (8, .int (iz (lo))), (0, .ref y), (1, .long (lz (cp))), (3, .long (lz (fa))), (5, .int (iz (pr))), (6, .long (lz (mo)))]) hx hb dX0_yieldPoints_80 hl (k := 2) rfl (by rw [show Int32.ofInt (1) = iz (1) from rfl, iz_add]) (by decide) rfl (fun ls hl => ?_)
              refine lv_goto (tgt := 29) hx hb dX0_yieldPoints_83 (by decide) ?_
              refine W.widen (k := 0 + 0) (n := 0 + 0) (by omega) (by omega) ?_
              exact ih_29 (tn + 1) lo mid ru4 rd4 pe4 sf4 sn4 st4 df4 dn4 dt4 wf4 wn4 wt4 _ _ _ (by omega) (by omega) (by first | exact hm1 | exact k2) (by first | exact Or.inr (by rw [show mid + 1 - 1 = mid by omega]; exact hm0) | exact k3) (hP) (hD) hS (lv_sub hl [0, 1, 3, 4, 5, 6, 7, 8] rfl)
    exact hl_29 ((20000 - 0 : Int).toNat + 1) 0 0 20000 ru3 rd3 pe3 sf3 sn3 st3 df3 dn3 dt3 wf3 wn3 wt3 _ _ _ (Nat.lt_succ_self _) (by omega) (hcc) (Or.inl rfl) (hP) (hD) hS (hl)
  ·
    have hcn : ¬ zchp cp fa pr mo (20000) := zchp_f hc1 h_3
    refine lv_iconst (v := iz (-1)) hx hb dX0_yieldPoints_16 rfl ?_
    rw [hQ]
    exact zr_iret (z := -1) (u := (sf3, sn3, st3, df3, dn3, dt3, wf3, wn3, wt3, ru3, rd3, pe3)) hx hb hr hlocks hP hD hS (by first | exact Nat.le_of_ble_eq_true rfl | omega) (by first | exact Nat.le_of_ble_eq_true rfl | omega) dX0_yieldPoints_17 (show (((-1) = -1 ∧ ¬ zchp cp fa pr mo (20000)) ∨ (0 ≤ (-1) ∧ (-1) ≤ 20000 ∧ zchp cp fa pr mo ((-1)) ∧ ((-1) = 0 ∨ ¬ zchp cp fa pr mo ((-1) - 1)))) from Or.inl ⟨rfl, hcn⟩)
