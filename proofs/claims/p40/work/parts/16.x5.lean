-- THE CLASS: Row (laid by wip/p40/y5.py)
/-- an amount of the row -/
abbrev zamt (x : Int) : Prop := -1000000000 ≤ x ∧ x ≤ 1000000000
/-- a row as the house keeps it -/
def zrok (f : Int → Int) : Prop := ∀ i : Int, 0 ≤ i → i ≤ 40 → -1000000000 ≤ f i ∧ f i ≤ 1000000000
theorem zrok.two {f : Int → Int} (h : zrok f) : ∀ i : Int, 0 ≤ i → i ≤ 40 → -2000000000 ≤ f i ∧ f i ≤ 2000000000 := fun i a b => by have := h i a b; omega
theorem zse_rng {k se : Int} (hk : 0 ≤ k ∧ k ≤ 41) (hs : -1000000 ≤ se ∧ se ≤ 1000000) : -41000000 ≤ k * se ∧ k * se ≤ 41000000 := by
  have a := Int.mul_le_mul_of_nonneg_left hs.2 hk.1
  have b := Int.mul_le_mul_of_nonneg_left hs.1 hk.1
  omega
/-- some amounts more -/
def zadd (f : Int → Int) (fr mn mo se : Int) : Int → Int := fun i => if fr ≤ i ∧ i < fr + mn then f i + (mo + (i - fr) * se) else f i
theorem zadd_0 (f : Int → Int) (fr mo se : Int) : ∀ i, f i = zadd f fr 0 mo se i := fun i => (if_neg (by omega)).symm
theorem zadd_up {f g : Int → Int} {fr k mo se : Int} (h0 : 0 ≤ k) (h : ∀ i, g i = zadd f fr k mo se i) : ∀ i, zup g (fr + k) (g (fr + k) + (mo + k * se)) i = zadd f fr (k + 1) mo se i := fun i => by
  by_cases c : i = fr + k
  · subst c
    rw [zup_s, h]
    unfold zadd
    rw [if_neg (by omega), if_pos (by omega), show fr + k - fr = k by omega]
  · rw [zup_n c, h]
    unfold zadd
    by_cases d : fr ≤ i ∧ i < fr + k
    · rw [if_pos d, if_pos (by omega)]
    · rw [if_neg d, if_neg (by omega)]
/-- how many are not 0 -/
def zcnt (f : Int → Int) : Nat → Int
  | 0 => 0
  | n + 1 => zcnt f n + (if f (n : Int) = 0 then 0 else 1)
theorem ztn {i : Int} (h : 0 ≤ i) : (i + 1).toNat = i.toNat + 1 := by omega
theorem ztc {i : Int} (h : 0 ≤ i) : ((i.toNat : Nat) : Int) = i := by omega
theorem zcnt_t {f : Int → Int} {w i : Int} (h0 : 0 ≤ i) (h : w = zcnt f i.toNat) (hz : f i = 0) : w + 0 = zcnt f (i + 1).toNat := by
  rw [ztn h0]
  show _ = zcnt f i.toNat + (if f ((i.toNat : Nat) : Int) = 0 then 0 else 1)
  rw [ztc h0, if_pos hz, h]
theorem zcnt_f {f : Int → Int} {w i : Int} (h0 : 0 ≤ i) (h : w = zcnt f i.toNat) (hz : ¬ f i = 0) : w + 1 = zcnt f (i + 1).toNat := by
  rw [ztn h0]
  show _ = zcnt f i.toNat + (if f ((i.toNat : Nat) : Int) = 0 then 0 else 1)
  rw [ztc h0, if_neg hz, h]
theorem zsm_i {f : Int → Int} {w i : Int} (h0 : 0 ≤ i) (h : w = zsm f i.toNat) : w + f i = zsm f (i + 1).toNat := by
  rw [ztn h0, zsm_s, ztc h0, h]
/-- the last one that is not 0, and how often the sign changes -/
def zls (f : Int → Int) : Nat → Int
  | 0 => 0
  | n + 1 => if f (n : Int) = 0 then zls f n else f (n : Int)
def zch1 (b a : Int) : Int := if a = 0 ∨ b = 0 then 0 else if (b < 0 ∧ a < 0) ∨ (0 < b ∧ 0 < a) then 0 else 1
def zchg (f : Int → Int) : Nat → Int
  | 0 => 0
  | n + 1 => zchg f n + zch1 (zls f n) (f (n : Int))
theorem zls_i {f : Int → Int} {b i : Int} (h0 : 0 ≤ i) (h : b = zls f i.toNat) : zls f (i + 1).toNat = if f i = 0 then b else f i := by
  rw [ztn h0]
  show (if f ((i.toNat : Nat) : Int) = 0 then zls f i.toNat else f ((i.toNat : Nat) : Int)) = _
  rw [ztc h0, h]
theorem zchg_i {f : Int → Int} {w b i d : Int} (h0 : 0 ≤ i) (hw : w = zchg f i.toNat) (h : b = zls f i.toNat) (hd : d = zch1 b (f i)) : w + d = zchg f (i + 1).toNat := by
  rw [ztn h0]
  show _ = zchg f i.toNat + zch1 (zls f i.toNat) (f ((i.toNat : Nat) : Int))
  rw [ztc h0, hd, h, hw]
theorem zchg_z {f : Int → Int} {w b i : Int} (h0 : 0 ≤ i) (hw : w = zchg f i.toNat) (h : b = zls f i.toNat) (hd : f i = 0) : w = zchg f (i + 1).toNat := by
  have := zchg_i h0 hw h (d := 0) (by unfold zch1; rw [if_pos (Or.inl hd)])
  omega
/-- the sign of the first one that is not 0 -/
def zfs (f : Int → Int) : Nat → Int
  | 0 => 0
  | n + 1 => if zfs f n = 0 then (f (n : Int)).sign else zfs f n
theorem zfs_0 {f : Int → Int} : ∀ n : Nat, (∀ j : Int, 0 ≤ j → j < n → f j = 0) → zfs f n = 0
  | 0, _ => rfl
  | n + 1, h => by
    show (if zfs f n = 0 then (f (n : Int)).sign else zfs f n) = 0
    rw [if_pos (zfs_0 n (fun j a b => h j a (by omega))), h n (by omega) (by omega)]; rfl
theorem zfs_k {f : Int → Int} {n : Nat} (h : zfs f n ≠ 0) : ∀ k : Nat, zfs f (n + k) = zfs f n
  | 0 => rfl
  | k + 1 => by
    show (if zfs f (n + k) = 0 then _ else zfs f (n + k)) = _
    rw [zfs_k h k, if_neg h]
theorem zfs_at {f : Int → Int} {i : Int} (h0 : 0 ≤ i) (h1 : i < 41) (h : ∀ j : Int, 0 ≤ j → j < i → f j = 0) (hi : f i ≠ 0) : zfs f 41 = (f i).sign := by
  have e : zfs f (i.toNat + 1) = (f i).sign := by
    show (if zfs f i.toNat = 0 then (f ((i.toNat : Nat) : Int)).sign else zfs f i.toNat) = _
    rw [if_pos (zfs_0 _ (fun j a b => h j a (by omega))), ztc h0]
  have hn : zfs f (i.toNat + 1) ≠ 0 := by
    rw [e]; exact fun q => hi (Int.sign_eq_zero_iff_zero.mp q)
  have := zfs_k hn (40 - i.toNat)
  rw [show i.toNat + 1 + (40 - i.toNat) = 41 by omega] at this
  rw [this, e]
theorem z35_37 : (1073741824 : Int) ^ 35 < 1073741824 ^ 37 ∧ (0 : Int) < 1073741824 ^ 35 := by decide +kernel
theorem zfs_rng (f : Int → Int) : ∀ n : Nat, -1 ≤ zfs f n ∧ zfs f n ≤ 1
  | 0 => by show (-1 : Int) ≤ 0 ∧ (0 : Int) ≤ 1; decide
  | n + 1 => by
    show -1 ≤ (if zfs f n = 0 then (f (n : Int)).sign else zfs f n) ∧ (if zfs f n = 0 then (f (n : Int)).sign else zfs f n) ≤ 1
    split
    · exact zsgr _
    · exact zfs_rng f n
theorem zrw_back {U P i : Int} {f : Int → Int} (h : -1 ≤ i ∧ i ≤ 39) (h0 : 0 ≤ i) : zrow U P (fun j => f (40 - j)) (39 - i).toNat * U + P ^ (39 - i).toNat * P * f i = zrow U P (fun j => f (40 - j)) (39 - (i - 1)).toNat := by
  rw [show (39 - (i - 1)).toNat = (39 - i).toNat + 1 by omega, zrow_s, Int.pow_succ]
  show _ = _ + _ * f (40 - (((39 - i).toNat : Int) + 1))
  rw [show 40 - (((39 - i).toNat : Int) + 1) = i by omega]
theorem zalike {U P i : Int} {f : Int → Int} (h : i = -1) : zrow U P (fun j => f (40 - j)) (39 - i).toNat * 1 + zrow P U f (40 : Int).toNat * 1073741824 ^ (0 : Int).toNat * -1 = 0 := by
  have e := zrow_rev P U 40 f
  subst h
  show zrow U P (fun j => f (40 - j)) 40 * 1 + zrow P U f 40 * 1 * -1 = 0
  rw [show zrow U P (fun j => f (40 - j)) 40 = zrow P U f 40 from e]
  omega
def rm_c_X5_init : Room := { frames := 3, cells := 15, slots := 311, locals := 52 }
theorem iw_X5_init_X1 : ∀ w ∈ wsX10, w ∈ wsX5_init := by decide +kernel
theorem iw_X5_init_X5 : ∀ w ∈ wsX50, w ∈ wsX5_init := by decide +kernel
set_option maxHeartbeats 1000000 in
set_option maxRecDepth 100000 in
theorem c_X5_init (l : Launch) (G : zG) (y : Nat)  : zM l G yX5_init wsX5_init rm_c_X5_init [.ref y] [(y, .inr (6, [.null, .null, .null]))] (fun A => zQv G (fun (u : (Nat × Nat × Nat × Nat × Nat × Nat × Nat × Nat × Nat × Nat × Nat × Nat × Nat × Nat × Nat)) => True) (fun (u : (Nat × Nat × Nat × Nat × Nat × Nat × Nat × Nat × Nat × Nat × Nat × Nat × Nat × Nat × Nat)) => [(y, .inr (6, [.ref u.1, .ref u.2.1, .ref u.2.2.2.2.2.2.2.2.1])), (u.1, zaL (G.2 0) 41 (fun _ => 0)), (u.2.1, .inr (2, [.ref u.2.2.1, .ref u.2.2.2.2.1, .ref u.2.2.2.2.2.2.1, .long (lz (1)), .long (lz (1)), .int (iz (0))])), (u.2.2.1, .inr (9, [.ref u.2.2.2.1, .int (iz (0)), .long (lz (0))])), (u.2.2.2.1, zaL (G.2 0) 40 (fun _ => 0)), (u.2.2.2.2.1, .inr (9, [.ref u.2.2.2.2.2.1, .int (iz (0)), .long (lz (0))])), (u.2.2.2.2.2.1, zaL (G.2 0) 40 (fun _ => 0)), (u.2.2.2.2.2.2.1, .inr (9, [.ref u.2.2.2.2.2.2.2.1, .int (iz (0)), .long (lz (0))])), (u.2.2.2.2.2.2.2.1, zaL (G.2 0) 40 (fun _ => 0)), (u.2.2.2.2.2.2.2.2.1, .inr (2, [.ref u.2.2.2.2.2.2.2.2.2.1, .ref u.2.2.2.2.2.2.2.2.2.2.2.1, .ref u.2.2.2.2.2.2.2.2.2.2.2.2.2.1, .long (lz (1)), .long (lz (1)), .int (iz (0))])), (u.2.2.2.2.2.2.2.2.2.1, .inr (9, [.ref u.2.2.2.2.2.2.2.2.2.2.1, .int (iz (0)), .long (lz (0))])), (u.2.2.2.2.2.2.2.2.2.2.1, zaL (G.2 0) 40 (fun _ => 0)), (u.2.2.2.2.2.2.2.2.2.2.2.1, .inr (9, [.ref u.2.2.2.2.2.2.2.2.2.2.2.2.1, .int (iz (0)), .long (lz (0))])), (u.2.2.2.2.2.2.2.2.2.2.2.2.1, zaL (G.2 0) 40 (fun _ => 0)), (u.2.2.2.2.2.2.2.2.2.2.2.2.2.1, .inr (9, [.ref u.2.2.2.2.2.2.2.2.2.2.2.2.2.2, .int (iz (0)), .long (lz (0))])), (u.2.2.2.2.2.2.2.2.2.2.2.2.2.2, zaL (G.2 0) 40 (fun _ => 0))]) A) 15 311 := by
  refine zM_of (cc := cX5_init) (maxL := 1) (ret := none) (by decide) rfl (Nat.le_of_ble_eq_true rfl) ?_
  intro p e s m below meth c ls A Q hQ hx hb hr hts hown hlocks hml hnm hKX hP hD hA hS hl
  have hK := hKX.1
  have iwX1 := iw_X5_init_X1
  have iwX5 := iw_X5_init_X5
  obtain ⟨H, hH⟩ : ∃ h, h = s.heap := ⟨_, rfl⟩
  obtain ⟨locs, hlo⟩ : ∃ h : List Loc, h = [] := ⟨_, rfl⟩
  have hS : va_S A s.heap H locs := by rw [hH, hlo]; exact hS
  have hP : va_P G.1 vwCl [(y, .inr (6, [.null, .null, .null]))] H := by rw [hH]; exact hP
  have hD : va_D A [(y, .inr (6, [.null, .null, .null]))] := hD
  have hl : lv_has ls 1 [(0, .ref y)] := hl
  rw [← hH, ← hlo]
  refine lv_aload_n hx hb dX5_init_0 rfl (lv_at hl 0 rfl) ?_
  refine W.objInit hx hb hown (hts (.methodLink RX5 3 objectInit) (by decide +kernel)) (hts (.instanceMethod objectInit) (by decide +kernel)) (hts (.code objectInit ⟨#[0xb1]⟩ 1 none) (by decide +kernel)) rfl (by rw [hml]; exact hl.1) rfl dX5_init_1 (Nat.le_of_ble_eq_true rfl) (Nat.le_of_ble_eq_true rfl) ?_
  refine lv_aload_n hx hb dX5_init_4 rfl (lv_at hl 0 rfl) ?_
  refine lv_bipush (v := iz (41)) hx hb dX5_init_5 rfl ?_
  refine zr_newaL (G := G) (n := 41) (N := 41) hx hb (hts (.arrayClass .long) (by decide +kernel)) hK hP hD hS hA (by omega) (by omega) (by omega) (by first | exact Nat.le_of_ble_eq_true rfl | (show _ ≤ (15 : Nat); omega)) (by first | exact Nat.le_of_ble_eq_true rfl | (show _ ≤ (311 : Nat); omega)) dX5_init_7 (fun am H hP hD hS => ?_)
  have hP : va_P G.1 vwCl [(y, .inr (6, [.null, .null, .null])), (am, zaL (G.2 0) 41 (fun _ => 0))] H := hP
  have hD : va_D A [(y, .inr (6, [.null, .null, .null])), (am, zaL (G.2 0) 41 (fun _ => 0))] := hD
  refine va_putF (D := G.1) (ci := 6) (v := .ref am) (ty := (.array .long)) (C := RX5) (T := TX5) (N := 3) hx hb hts iwX5 tyX5 tyX5_ok nmX5 hown hK hP hD hS 0 rfl rfl 0 (by decide) (hts (.fieldLink RX5 9 "AnnuityHouse$Row" "amounts" "[J") (by decide +kernel)) (fun _ h9 => h9) rfl hnm rfl (by decide +kernel) rfl rfl (Nat.le_of_ble_eq_true rfl) dX5_init_9 (fun H locs hP hD hS => ?_)
  have hP : va_P G.1 vwCl [(y, .inr (6, [.ref am, .null, .null])), (am, zaL (G.2 0) 41 (fun _ => 0))] H := hP
  have hD : va_D A [(y, .inr (6, [.ref am, .null, .null])), (am, zaL (G.2 0) 41 (fun _ => 0))] := hD
  refine lv_aload_n hx hb dX5_init_12 rfl (lv_at hl 0 rfl) ?_
  refine va_new (D := G.1) (ci := 2) (fs := [.null, .null, .null, .long 0, .long 0, .int 0]) (C := RX1) (T := TX1) (N := 6) hx hb hts iwX1 tyX1 tyX1_ok hown (hts (.classLink RX5 15 RX1) (by decide +kernel)) (hts (.instantiable RX1 6) (by decide +kernel)) (hts (.initialized RX1) (by decide +kernel)) hK hP hD hS hA rfl (by decide +kernel) (by first | exact Nat.le_of_ble_eq_true rfl | (show _ ≤ (15 : Nat); omega)) (by first | exact Nat.le_of_ble_eq_true rfl | (show _ ≤ (311 : Nat); omega)) dX5_init_13 (fun q H hP hD hS => ?_)
  have hP : va_P G.1 vwCl [(y, .inr (6, [.ref am, .null, .null])), (am, zaL (G.2 0) 41 (fun _ => 0)), (q, .inr (2, [.null, .null, .null, .long (lz (0)), .long (lz (0)), .int (iz (0))]))] H := hP
  have hD : va_D A [(y, .inr (6, [.ref am, .null, .null])), (am, zaL (G.2 0) 41 (fun _ => 0)), (q, .inr (2, [.null, .null, .null, .long (lz (0)), .long (lz (0)), .int (iz (0))]))] := hD
  refine lv_dup hx hb dX5_init_16 rfl ?_
  refine zc_v (wr := [(y, .inr (6, [.ref am, .null, .null])), (am, zaL (G.2 0) 41 (fun _ => 0))]) (va_runIN (As := []) (rest := [.ref q, .ref y]) ⟨hx, hb, hml, hown, hts⟩ (c_X1_init l G q  H.size) ⟨va_cnB 0 hts gX5_init_X1_init_n17 rfl rfl rfl (hKX.2.2.2 (.methodLinkNest "AnnuityHouse$Row" 17 ⟨"AnnuityHouse$Flow", "<init>", "()V"⟩ "AnnuityHouse") (by decide +kernel)) (hts (.initialized RX1) (by decide +kernel)) (by decide +kernel) ⟨Nat.le_of_ble_eq_true rfl, Nat.le_of_ble_eq_true rfl⟩, rfl, hts (.instanceMethod yX1_init) (by decide +kernel)⟩ (zpS hKX hP hD [2] rfl rfl) rfl rfl hl.1 rfl (lv_room (Nat.le_of_ble_eq_true rfl)) dX5_init_17 ⟨(by first | exact Nat.le_of_ble_eq_true rfl | (show _ ≤ (15 : Nat); omega)), (by first | exact Nat.le_of_ble_eq_true rfl | (show _ ≤ (311 : Nat); omega))⟩) hP hD hS hA [2] [0, 1] rfl rfl rfl (by decide) (fun u_2 H locs t1 hP hD hS => ?_)
  obtain ⟨sa, sb, da, db, wa, wb⟩ := u_2
  have hP : va_P G.1 vwCl [(y, .inr (6, [.ref am, .null, .null])), (am, zaL (G.2 0) 41 (fun _ => 0)), (q, .inr (2, [.ref sa, .ref da, .ref wa, .long (lz (1)), .long (lz (1)), .int (iz (0))])), (sa, .inr (9, [.ref sb, .int (iz (0)), .long (lz (0))])), (sb, zaL (G.2 0) 40 (fun _ => 0)), (da, .inr (9, [.ref db, .int (iz (0)), .long (lz (0))])), (db, zaL (G.2 0) 40 (fun _ => 0)), (wa, .inr (9, [.ref wb, .int (iz (0)), .long (lz (0))])), (wb, zaL (G.2 0) 40 (fun _ => 0))] H := hP
  have hD : va_D A [(y, .inr (6, [.ref am, .null, .null])), (am, zaL (G.2 0) 41 (fun _ => 0)), (q, .inr (2, [.ref sa, .ref da, .ref wa, .long (lz (1)), .long (lz (1)), .int (iz (0))])), (sa, .inr (9, [.ref sb, .int (iz (0)), .long (lz (0))])), (sb, zaL (G.2 0) 40 (fun _ => 0)), (da, .inr (9, [.ref db, .int (iz (0)), .long (lz (0))])), (db, zaL (G.2 0) 40 (fun _ => 0)), (wa, .inr (9, [.ref wb, .int (iz (0)), .long (lz (0))])), (wb, zaL (G.2 0) 40 (fun _ => 0))] := hD
  refine va_putF (D := G.1) (ci := 6) (v := .ref q) (ty := (.object "AnnuityHouse$Flow")) (C := RX5) (T := TX5) (N := 3) hx hb hts iwX5 tyX5 tyX5_ok nmX5 hown hK hP hD hS 0 rfl rfl 1 (by decide) (hts (.fieldLink RX5 18 "AnnuityHouse$Row" "flow" "LAnnuityHouse$Flow;") (by decide +kernel)) (fun _ h9 => h9) rfl hnm rfl (by decide +kernel) rfl rfl (Nat.le_of_ble_eq_true rfl) dX5_init_20 (fun H locs hP hD hS => ?_)
  have hP : va_P G.1 vwCl [(y, .inr (6, [.ref am, .ref q, .null])), (am, zaL (G.2 0) 41 (fun _ => 0)), (q, .inr (2, [.ref sa, .ref da, .ref wa, .long (lz (1)), .long (lz (1)), .int (iz (0))])), (sa, .inr (9, [.ref sb, .int (iz (0)), .long (lz (0))])), (sb, zaL (G.2 0) 40 (fun _ => 0)), (da, .inr (9, [.ref db, .int (iz (0)), .long (lz (0))])), (db, zaL (G.2 0) 40 (fun _ => 0)), (wa, .inr (9, [.ref wb, .int (iz (0)), .long (lz (0))])), (wb, zaL (G.2 0) 40 (fun _ => 0))] H := hP
  have hD : va_D A [(y, .inr (6, [.ref am, .ref q, .null])), (am, zaL (G.2 0) 41 (fun _ => 0)), (q, .inr (2, [.ref sa, .ref da, .ref wa, .long (lz (1)), .long (lz (1)), .int (iz (0))])), (sa, .inr (9, [.ref sb, .int (iz (0)), .long (lz (0))])), (sb, zaL (G.2 0) 40 (fun _ => 0)), (da, .inr (9, [.ref db, .int (iz (0)), .long (lz (0))])), (db, zaL (G.2 0) 40 (fun _ => 0)), (wa, .inr (9, [.ref wb, .int (iz (0)), .long (lz (0))])), (wb, zaL (G.2 0) 40 (fun _ => 0))] := hD
  refine lv_aload_n hx hb dX5_init_23 rfl (lv_at hl 0 rfl) ?_
  refine va_new (D := G.1) (ci := 2) (fs := [.null, .null, .null, .long 0, .long 0, .int 0]) (C := RX1) (T := TX1) (N := 6) hx hb hts iwX1 tyX1 tyX1_ok hown (hts (.classLink RX5 15 RX1) (by decide +kernel)) (hts (.instantiable RX1 6) (by decide +kernel)) (hts (.initialized RX1) (by decide +kernel)) hK hP hD hS hA rfl (by decide +kernel) (by first | exact Nat.le_of_ble_eq_true rfl | (show _ ≤ (15 : Nat); omega)) (by first | exact Nat.le_of_ble_eq_true rfl | (show _ ≤ (311 : Nat); omega)) dX5_init_24 (fun bq H hP hD hS => ?_)
  have hP : va_P G.1 vwCl [(y, .inr (6, [.ref am, .ref q, .null])), (am, zaL (G.2 0) 41 (fun _ => 0)), (q, .inr (2, [.ref sa, .ref da, .ref wa, .long (lz (1)), .long (lz (1)), .int (iz (0))])), (sa, .inr (9, [.ref sb, .int (iz (0)), .long (lz (0))])), (sb, zaL (G.2 0) 40 (fun _ => 0)), (da, .inr (9, [.ref db, .int (iz (0)), .long (lz (0))])), (db, zaL (G.2 0) 40 (fun _ => 0)), (wa, .inr (9, [.ref wb, .int (iz (0)), .long (lz (0))])), (wb, zaL (G.2 0) 40 (fun _ => 0)), (bq, .inr (2, [.null, .null, .null, .long (lz (0)), .long (lz (0)), .int (iz (0))]))] H := hP
  have hD : va_D A [(y, .inr (6, [.ref am, .ref q, .null])), (am, zaL (G.2 0) 41 (fun _ => 0)), (q, .inr (2, [.ref sa, .ref da, .ref wa, .long (lz (1)), .long (lz (1)), .int (iz (0))])), (sa, .inr (9, [.ref sb, .int (iz (0)), .long (lz (0))])), (sb, zaL (G.2 0) 40 (fun _ => 0)), (da, .inr (9, [.ref db, .int (iz (0)), .long (lz (0))])), (db, zaL (G.2 0) 40 (fun _ => 0)), (wa, .inr (9, [.ref wb, .int (iz (0)), .long (lz (0))])), (wb, zaL (G.2 0) 40 (fun _ => 0)), (bq, .inr (2, [.null, .null, .null, .long (lz (0)), .long (lz (0)), .int (iz (0))]))] := hD
  refine lv_dup hx hb dX5_init_27 rfl ?_
  refine zc_v (wr := [(y, .inr (6, [.ref am, .ref q, .null])), (am, zaL (G.2 0) 41 (fun _ => 0)), (q, .inr (2, [.ref sa, .ref da, .ref wa, .long (lz (1)), .long (lz (1)), .int (iz (0))])), (sa, .inr (9, [.ref sb, .int (iz (0)), .long (lz (0))])), (sb, zaL (G.2 0) 40 (fun _ => 0)), (da, .inr (9, [.ref db, .int (iz (0)), .long (lz (0))])), (db, zaL (G.2 0) 40 (fun _ => 0)), (wa, .inr (9, [.ref wb, .int (iz (0)), .long (lz (0))])), (wb, zaL (G.2 0) 40 (fun _ => 0))]) (va_runIN (As := []) (rest := [.ref bq, .ref y]) ⟨hx, hb, hml, hown, hts⟩ (c_X1_init l G bq  H.size) ⟨va_cnB 0 hts gX5_init_X1_init_n17 rfl rfl rfl (hKX.2.2.2 (.methodLinkNest "AnnuityHouse$Row" 17 ⟨"AnnuityHouse$Flow", "<init>", "()V"⟩ "AnnuityHouse") (by decide +kernel)) (hts (.initialized RX1) (by decide +kernel)) (by decide +kernel) ⟨Nat.le_of_ble_eq_true rfl, Nat.le_of_ble_eq_true rfl⟩, rfl, hts (.instanceMethod yX1_init) (by decide +kernel)⟩ (zpS hKX hP hD [9] rfl rfl) rfl rfl hl.1 rfl (lv_room (Nat.le_of_ble_eq_true rfl)) dX5_init_28 ⟨(by first | exact Nat.le_of_ble_eq_true rfl | (show _ ≤ (15 : Nat); omega)), (by first | exact Nat.le_of_ble_eq_true rfl | (show _ ≤ (311 : Nat); omega))⟩) hP hD hS hA [9] [0, 1, 2, 3, 4, 5, 6, 7, 8] rfl rfl rfl (by decide) (fun u_5 H locs t2 hP hD hS => ?_)
  obtain ⟨bsa, bsb, bda, bdb, bwa, bwb⟩ := u_5
  have hP : va_P G.1 vwCl [(y, .inr (6, [.ref am, .ref q, .null])), (am, zaL (G.2 0) 41 (fun _ => 0)), (q, .inr (2, [.ref sa, .ref da, .ref wa, .long (lz (1)), .long (lz (1)), .int (iz (0))])), (sa, .inr (9, [.ref sb, .int (iz (0)), .long (lz (0))])), (sb, zaL (G.2 0) 40 (fun _ => 0)), (da, .inr (9, [.ref db, .int (iz (0)), .long (lz (0))])), (db, zaL (G.2 0) 40 (fun _ => 0)), (wa, .inr (9, [.ref wb, .int (iz (0)), .long (lz (0))])), (wb, zaL (G.2 0) 40 (fun _ => 0)), (bq, .inr (2, [.ref bsa, .ref bda, .ref bwa, .long (lz (1)), .long (lz (1)), .int (iz (0))])), (bsa, .inr (9, [.ref bsb, .int (iz (0)), .long (lz (0))])), (bsb, zaL (G.2 0) 40 (fun _ => 0)), (bda, .inr (9, [.ref bdb, .int (iz (0)), .long (lz (0))])), (bdb, zaL (G.2 0) 40 (fun _ => 0)), (bwa, .inr (9, [.ref bwb, .int (iz (0)), .long (lz (0))])), (bwb, zaL (G.2 0) 40 (fun _ => 0))] H := hP
  have hD : va_D A [(y, .inr (6, [.ref am, .ref q, .null])), (am, zaL (G.2 0) 41 (fun _ => 0)), (q, .inr (2, [.ref sa, .ref da, .ref wa, .long (lz (1)), .long (lz (1)), .int (iz (0))])), (sa, .inr (9, [.ref sb, .int (iz (0)), .long (lz (0))])), (sb, zaL (G.2 0) 40 (fun _ => 0)), (da, .inr (9, [.ref db, .int (iz (0)), .long (lz (0))])), (db, zaL (G.2 0) 40 (fun _ => 0)), (wa, .inr (9, [.ref wb, .int (iz (0)), .long (lz (0))])), (wb, zaL (G.2 0) 40 (fun _ => 0)), (bq, .inr (2, [.ref bsa, .ref bda, .ref bwa, .long (lz (1)), .long (lz (1)), .int (iz (0))])), (bsa, .inr (9, [.ref bsb, .int (iz (0)), .long (lz (0))])), (bsb, zaL (G.2 0) 40 (fun _ => 0)), (bda, .inr (9, [.ref bdb, .int (iz (0)), .long (lz (0))])), (bdb, zaL (G.2 0) 40 (fun _ => 0)), (bwa, .inr (9, [.ref bwb, .int (iz (0)), .long (lz (0))])), (bwb, zaL (G.2 0) 40 (fun _ => 0))] := hD
  refine va_putF (D := G.1) (ci := 6) (v := .ref bq) (ty := (.object "AnnuityHouse$Flow")) (C := RX5) (T := TX5) (N := 3) hx hb hts iwX5 tyX5 tyX5_ok nmX5 hown hK hP hD hS 0 rfl rfl 2 (by decide) (hts (.fieldLink RX5 22 "AnnuityHouse$Row" "backFlow" "LAnnuityHouse$Flow;") (by decide +kernel)) (fun _ h9 => h9) rfl hnm rfl (by decide +kernel) rfl rfl (Nat.le_of_ble_eq_true rfl) dX5_init_31 (fun H locs hP hD hS => ?_)
  have hP : va_P G.1 vwCl [(y, .inr (6, [.ref am, .ref q, .ref bq])), (am, zaL (G.2 0) 41 (fun _ => 0)), (q, .inr (2, [.ref sa, .ref da, .ref wa, .long (lz (1)), .long (lz (1)), .int (iz (0))])), (sa, .inr (9, [.ref sb, .int (iz (0)), .long (lz (0))])), (sb, zaL (G.2 0) 40 (fun _ => 0)), (da, .inr (9, [.ref db, .int (iz (0)), .long (lz (0))])), (db, zaL (G.2 0) 40 (fun _ => 0)), (wa, .inr (9, [.ref wb, .int (iz (0)), .long (lz (0))])), (wb, zaL (G.2 0) 40 (fun _ => 0)), (bq, .inr (2, [.ref bsa, .ref bda, .ref bwa, .long (lz (1)), .long (lz (1)), .int (iz (0))])), (bsa, .inr (9, [.ref bsb, .int (iz (0)), .long (lz (0))])), (bsb, zaL (G.2 0) 40 (fun _ => 0)), (bda, .inr (9, [.ref bdb, .int (iz (0)), .long (lz (0))])), (bdb, zaL (G.2 0) 40 (fun _ => 0)), (bwa, .inr (9, [.ref bwb, .int (iz (0)), .long (lz (0))])), (bwb, zaL (G.2 0) 40 (fun _ => 0))] H := hP
  have hD : va_D A [(y, .inr (6, [.ref am, .ref q, .ref bq])), (am, zaL (G.2 0) 41 (fun _ => 0)), (q, .inr (2, [.ref sa, .ref da, .ref wa, .long (lz (1)), .long (lz (1)), .int (iz (0))])), (sa, .inr (9, [.ref sb, .int (iz (0)), .long (lz (0))])), (sb, zaL (G.2 0) 40 (fun _ => 0)), (da, .inr (9, [.ref db, .int (iz (0)), .long (lz (0))])), (db, zaL (G.2 0) 40 (fun _ => 0)), (wa, .inr (9, [.ref wb, .int (iz (0)), .long (lz (0))])), (wb, zaL (G.2 0) 40 (fun _ => 0)), (bq, .inr (2, [.ref bsa, .ref bda, .ref bwa, .long (lz (1)), .long (lz (1)), .int (iz (0))])), (bsa, .inr (9, [.ref bsb, .int (iz (0)), .long (lz (0))])), (bsb, zaL (G.2 0) 40 (fun _ => 0)), (bda, .inr (9, [.ref bdb, .int (iz (0)), .long (lz (0))])), (bdb, zaL (G.2 0) 40 (fun _ => 0)), (bwa, .inr (9, [.ref bwb, .int (iz (0)), .long (lz (0))])), (bwb, zaL (G.2 0) 40 (fun _ => 0))] := hD
  rw [hQ]
  exact zr_vret (u := (am, q, sa, sb, da, db, wa, wb, bq, bsa, bsb, bda, bdb, bwa, bwb)) hx hb hr hlocks hP hD hS (by first | exact Nat.le_of_ble_eq_true rfl | omega) (by first | exact Nat.le_of_ble_eq_true rfl | omega) dX5_init_34 (show True from trivial)

def rm_c_X5_amountIn : Room := { frames := 0, cells := 0, slots := 0, locals := 0 }
theorem iw_X5_amountIn_X5 : ∀ w ∈ wsX50, w ∈ wsX5_amountIn := by decide +kernel
set_option maxHeartbeats 1000000 in
set_option maxRecDepth 100000 in
theorem c_X5_amountIn (l : Launch) (G : zG) (y : Nat) (am : Nat) (q : Nat) (bq : Nat) (f : Int → Int) (pe : Int) (h1 : 0 ≤ pe ∧ pe ≤ 40) : zM l G yX5_amountIn wsX5_amountIn rm_c_X5_amountIn [.ref y, .int (iz (pe))] [(y, .inr (6, [.ref am, .ref q, .ref bq])), (am, zaL (G.2 0) 41 (f))] (fun A => zQl G (fun (z : Int) (_ : Unit) => z = f pe) (fun (_ : Unit) => [(y, .inr (6, [.ref am, .ref q, .ref bq])), (am, zaL (G.2 0) 41 (f))]) A) 0 0 := by
  refine zM_of (cc := cX5_amountIn) (maxL := 2) (ret := (some .long)) (by decide) rfl (Nat.le_of_ble_eq_true rfl) ?_
  intro p e s m below meth c ls A Q hQ hx hb hr hts hown hlocks hml hnm hKX hP hD hA hS hl
  have hK := hKX.1
  have iwX5 := iw_X5_amountIn_X5
  obtain ⟨H, hH⟩ : ∃ h, h = s.heap := ⟨_, rfl⟩
  obtain ⟨locs, hlo⟩ : ∃ h : List Loc, h = [] := ⟨_, rfl⟩
  have hS : va_S A s.heap H locs := by rw [hH, hlo]; exact hS
  have hP : va_P G.1 vwCl [(y, .inr (6, [.ref am, .ref q, .ref bq])), (am, zaL (G.2 0) 41 (f))] H := by rw [hH]; exact hP
  have hD : va_D A [(y, .inr (6, [.ref am, .ref q, .ref bq])), (am, zaL (G.2 0) 41 (f))] := hD
  have hl : lv_has ls 2 [(0, .ref y), (1, .int (iz (pe)))] := hl
  rw [← hH, ← hlo]
  refine lv_aload_n hx hb dX5_amountIn_0 rfl (lv_at hl 0 rfl) ?_
  refine va_get (D := G.1) (ci := 6) (v := .ref am) (C := RX5) (T := TX5) (N := 3) hx hb hts iwX5 hown hK hP 0 rfl rfl 0 (by decide) (hts (.fieldLink RX5 9 "AnnuityHouse$Row" "amounts" "[J") (by decide +kernel)) (fun _ h9 => h9) rfl dX5_amountIn_1 ?_
  refine lv_iload_n hx hb dX5_amountIn_4 rfl (lv_at hl 1 rfl) ?_
  refine zr_lald hx hb hK hP 1 0 rfl rfl (i := pe) (⟨by omega, by omega, by omega⟩) dX5_amountIn_5 ?_
  rw [hQ]
  exact zr_lret (z := f pe) (u := ()) hx hb hr hlocks hP hD hS (by first | exact Nat.le_of_ble_eq_true rfl | omega) (by first | exact Nat.le_of_ble_eq_true rfl | omega) dX5_amountIn_6 (show (f pe) = f pe from rfl)

def rm_c_X5_add : Room := { frames := 7, cells := 42, slots := 252, locals := 110 }
theorem iw_X5_add_X5 : ∀ w ∈ wsX50, w ∈ wsX5_add := by decide +kernel
set_option maxHeartbeats 1000000 in
set_option maxRecDepth 100000 in
theorem c_X5_add (l : Launch) (G : zG) (s1 : Nat) (s2 : Nat) (s3 : Nat) (y : Nat) (am : Nat) (q : Nat) (bq : Nat) (f : Int → Int) (fr : Int) (mn : Int) (mo : Int) (se : Int) (hl0 : l.stackTraces = false) (hf : zrok f) (h1 : 0 ≤ fr ∧ 1 ≤ mn ∧ fr + mn ≤ 41 ∧ -1000000000 ≤ mo ∧ mo ≤ 1000000000 ∧ -1000000 ≤ se ∧ se ≤ 1000000) : zMt l (zXE s1 s2 s3) G yX5_add wsX5_add rm_c_X5_add [.ref y, .int (iz (fr)), .int (iz (mn)), .long (lz (mo)), .long (lz (se))] [(y, .inr (6, [.ref am, .ref q, .ref bq])), (am, zaL (G.2 0) 41 (f))] (fun A => zQv G (fun (f2 : (Int → Int)) => (∀ j : Int, 0 ≤ j → j < mn → zamt (f (fr + j) + mo + j * se)) ∧ ∀ i, f2 i = zadd f fr mn mo se i) (fun (f2 : (Int → Int)) => [(y, .inr (6, [.ref am, .ref q, .ref bq])), (am, zaL (G.2 0) 41 (f2))]) A) (SX := Unit) (fun (E9 : String) (ux : Unit) => (E9 = "java/lang/IllegalStateException" ∧ ¬ (∀ j : Int, 0 ≤ j → j < mn → zamt (f (fr + j) + mo + j * se)))) (fun (ux : Unit) => [(y, .inr (6, [.ref am, .ref q, .ref bq])), (am, zaL (G.2 0) 41 (f))]) 42 252 := by
  refine zMt_of (cc := cX5_add) (maxL := 8) (ret := none) (by decide) rfl (Nat.le_of_ble_eq_true rfl) ?_
  intro p e s m below meth c ls A Q hQ hx hb hr hts hown hlocks hml hout hKX hE hP hD hA hS hl
  have hK := hKX.1
  have iwX5 := iw_X5_add_X5
  obtain ⟨H, hH⟩ : ∃ h, h = s.heap := ⟨_, rfl⟩
  obtain ⟨locs, hlo⟩ : ∃ h : List Loc, h = [] := ⟨_, rfl⟩
  have hS : va_S A s.heap H locs := by rw [hH, hlo]; exact hS
  have hP : va_P G.1 vwCl [(y, .inr (6, [.ref am, .ref q, .ref bq])), (am, zaL (G.2 0) 41 (f))] H := by rw [hH]; exact hP
  have hD : va_D A [(y, .inr (6, [.ref am, .ref q, .ref bq])), (am, zaL (G.2 0) 41 (f))] := hD
  have hl : lv_has ls 8 [(0, .ref y), (1, .int (iz (fr))), (2, .int (iz (mn))), (3, .long (lz (mo))), (5, .long (lz (se)))] := hl
  rw [← hH, ← hlo]
  refine lv_iconst (v := iz (0)) hx hb dX5_add_0 rfl ?_
  refine lv_istore (lv' := [(7, .int (iz (0))), (0, .ref y), (1, .int (iz (fr))), (2, .int (iz (mn))), (3, .long (lz (mo))), (5, .long (lz (se)))]) hx hb dX5_add_1 hl (by decide) rfl (fun ls hl => ?_)
  have hl_3 : ∀ (zn_3 : Nat) (k : Int) (H : Heap) (locs : List Loc) (ls : Array Slot), (mn - k).toNat < zn_3 → (0 ≤ k ∧ k ≤ mn) → (∀ j : Int, 0 ≤ j → j < k → zamt (f (fr + j) + mo + j * se)) → va_P G.1 vwCl [(y, .inr (6, [.ref am, .ref q, .ref bq])), (am, zaL (G.2 0) 41 (f))] H → va_D A [(y, .inr (6, [.ref am, .ref q, .ref bq])), (am, zaL (G.2 0) 41 (f))] → va_S A s.heap H locs → lv_has ls 8 [(7, .int (iz (k))), (0, .ref y), (1, .int (iz (fr))), (2, .int (iz (mn))), (3, .long (lz (mo))), (5, .long (lz (se)))] → W p l e rm_c_X5_add s m ([.ref y, .int (iz (fr)), .int (iz (mn)), .long (lz (mo)), .long (lz (se))] : List Value).toArray below meth c H locs ((k).toNat) (6 * (k).toNat) Q (F0 m 3 ls []) := by
    intro zn_3
    induction zn_3 with
    | zero => intro k H locs ls hm; exact absurd hm (Nat.not_lt_zero _)
    | succ zn_3 ih_3 =>
      intro k H locs ls hm_3 k1 k2 hP hD hS hl
      refine lv_iload hx hb dX5_add_3 (lv_at hl 0 rfl) ?_
      refine lv_iload_n hx hb dX5_add_5 rfl (lv_at hl 3 rfl) ?_
      refine zr_icmp_ge (x := k) (y := mn) (tgt := 45) hx hb (⟨by omega, by omega⟩) (⟨by omega, by omega⟩) dX5_add_6 (by decide) (fun h_1 => ?_) (fun h_1 => ?_)
      ·
        have hfit : ∀ j : Int, 0 ≤ j → j < mn → zamt (f (fr + j) + mo + j * se) := fun j a b => k2 j a (by omega)
        refine lv_iconst (v := iz (0)) hx hb dX5_add_45 rfl ?_
        refine lv_istore (lv' := [(7, .int (iz (0))), (0, .ref y), (1, .int (iz (fr))), (2, .int (iz (mn))), (3, .long (lz (mo))), (5, .long (lz (se)))]) hx hb dX5_add_46 hl (by decide) rfl (fun ls hl => ?_)
        have hl_48 : ∀ (zn_48 : Nat) (k9 : Int) (g : Int → Int) (H : Heap) (locs : List Loc) (ls : Array Slot), (mn - k9).toNat < zn_48 → (0 ≤ k9 ∧ k9 ≤ mn) → (∀ i, g i = zadd f fr k9 mo se i) → va_P G.1 vwCl [(y, .inr (6, [.ref am, .ref q, .ref bq])), (am, zaL (G.2 0) 41 (g))] H → va_D A [(y, .inr (6, [.ref am, .ref q, .ref bq])), (am, zaL (G.2 0) 41 (g))] → va_S A s.heap H locs → lv_has ls 8 [(7, .int (iz (k9))), (0, .ref y), (1, .int (iz (fr))), (2, .int (iz (mn))), (3, .long (lz (mo))), (5, .long (lz (se)))] → W p l e rm_c_X5_add s m ([.ref y, .int (iz (fr)), .int (iz (mn)), .long (lz (mo)), .long (lz (se))] : List Value).toArray below meth c H locs ((k).toNat) (6 * (k).toNat) Q (F0 m 48 ls []) := by
          intro zn_48
          induction zn_48 with
          | zero => intro k9 g H locs ls hm; exact absurd hm (Nat.not_lt_zero _)
          | succ zn_48 ih_48 =>
            intro k9 g H locs ls hm_48 k8 k3 hP hD hS hl
            refine lv_iload hx hb dX5_add_48 (lv_at hl 0 rfl) ?_
            refine lv_iload_n hx hb dX5_add_50 rfl (lv_at hl 3 rfl) ?_
            refine zr_icmp_ge (x := k9) (y := mn) (tgt := 80) hx hb (⟨by omega, by omega⟩) (⟨by omega, by omega⟩) dX5_add_51 (by decide) (fun h_2 => ?_) (fun h_2 => ?_)
            ·
              rw [hQ]
              exact vx_ret (zr_vret (u := (g)) hx hb hr hlocks hP hD hS (by first | exact Nat.le_of_ble_eq_true rfl | omega) (by first | exact Nat.le_of_ble_eq_true rfl | omega) dX5_add_80 (show (∀ j : Int, 0 ≤ j → j < mn → zamt (f (fr + j) + mo + j * se)) ∧ ∀ i, g i = zadd f fr mn mo se i from ⟨hfit, fun i => by rw [k3 i, show k9 = mn by omega]⟩))
            ·
              refine lv_aload_n hx hb dX5_add_54 rfl (lv_at hl 1 rfl) ?_
              refine va_get (D := G.1) (ci := 6) (v := .ref am) (C := RX5) (T := TX5) (N := 3) hx hb hts iwX5 hown hK hP 0 rfl rfl 0 (by decide) (hts (.fieldLink RX5 9 "AnnuityHouse$Row" "amounts" "[J") (by decide +kernel)) (fun _ h9 => h9) rfl dX5_add_55 ?_
              refine lv_iload_n hx hb dX5_add_58 rfl (lv_at hl 2 rfl) ?_
              refine lv_iload hx hb dX5_add_59 (lv_at hl 0 rfl) ?_
              refine zr_iadd hx hb dX5_add_61 ?_
              refine lv_dup2_11 hx hb dX5_add_62 rfl rfl ?_
              refine zr_lald hx hb hK hP 1 0 rfl rfl (i := fr + k9) (⟨by omega, by omega, by omega⟩) dX5_add_63 ?_
              refine lv_lload_n hx hb dX5_add_64 rfl (lv_at hl 4 rfl) ?_
              refine lv_iload hx hb dX5_add_65 (lv_at hl 0 rfl) ?_
              refine zr_i2l hx hb (x := k9) (⟨by omega, by omega⟩) dX5_add_67 ?_
              refine lv_lload hx hb dX5_add_68 (lv_at hl 5 rfl) ?_
              refine zr_lmul hx hb dX5_add_70 ?_
              refine zr_ladd hx hb dX5_add_71 ?_
              refine zr_ladd hx hb dX5_add_72 ?_
              refine zr_last hx hb hK hP hD hS 1 0 rfl rfl (i := fr + k9) (x := (g (fr + k9)) + (mo + (k9 * se))) (⟨by omega, by omega, by omega⟩) dX5_add_73 (fun H locs hP hD hS => ?_)
              have hP : va_P G.1 vwCl [(y, .inr (6, [.ref am, .ref q, .ref bq])), (am, zaL (G.2 0) 41 (zup g (fr + k9) ((g (fr + k9)) + (mo + (k9 * se)))))] H := hP
              have hD : va_D A [(y, .inr (6, [.ref am, .ref q, .ref bq])), (am, zaL (G.2 0) 41 (zup g (fr + k9) ((g (fr + k9)) + (mo + (k9 * se)))))] := hD
              refine lv_iinc (v := iz (k9 + 1)) (lv' := [(7, .int (iz (k9 + 1))), (0, .ref y), (1, .int (iz (fr))), (2, .int (iz (mn))), (3, .long (lz (mo))), (5, .long (lz (se)))]) hx hb dX5_add_74 hl (k := 0) rfl (by rw [show Int32.ofInt (1) = iz (1) from rfl, iz_add]) (by decide) rfl (fun ls hl => ?_)
              refine lv_goto (tgt := 48) hx hb dX5_add_77 (by decide) ?_
              exact ih_48 (k9 + 1) (zup g (fr + k9) ((g (fr + k9)) + (mo + (k9 * se)))) _ _ _ (by omega) (by omega) (zadd_up k8.1 k3) (hP) (hD) hS (hl)
        exact hl_48 ((mn - 0 : Int).toNat + 1) 0 f _ _ _ (Nat.lt_succ_self _) (by omega) (zadd_0 f fr mo se) (hP) (hD) hS (hl)
      ·
        refine lv_aload_n hx hb dX5_add_9 rfl (lv_at hl 1 rfl) ?_
        refine va_get (D := G.1) (ci := 6) (v := .ref am) (C := RX5) (T := TX5) (N := 3) hx hb hts iwX5 hown hK hP 0 rfl rfl 0 (by decide) (hts (.fieldLink RX5 9 "AnnuityHouse$Row" "amounts" "[J") (by decide +kernel)) (fun _ h9 => h9) rfl dX5_add_10 ?_
        refine lv_iload_n hx hb dX5_add_13 rfl (lv_at hl 2 rfl) ?_
        refine lv_iload hx hb dX5_add_14 (lv_at hl 0 rfl) ?_
        refine zr_iadd hx hb dX5_add_16 ?_
        refine zr_lald hx hb hK hP 1 0 rfl rfl (i := fr + k) (⟨by omega, by omega, by omega⟩) dX5_add_17 ?_
        refine lv_lload_n hx hb dX5_add_18 rfl (lv_at hl 4 rfl) ?_
        refine zr_ladd hx hb dX5_add_19 ?_
        refine lv_iload hx hb dX5_add_20 (lv_at hl 0 rfl) ?_
        have hkr := zse_rng (k := k) (se := se) (by omega) (by omega)
        have hfk := hf (fr + k) (by omega) (by omega)
        refine zr_i2l hx hb (x := k) (⟨by omega, by omega⟩) dX5_add_22 ?_
        refine lv_lload hx hb dX5_add_23 (lv_at hl 5 rfl) ?_
        refine zr_lmul hx hb dX5_add_25 ?_
        refine zr_ladd hx hb dX5_add_26 ?_
        refine zr_ldc2 (z := -1000000000) hx hb hown (hts (.constantLong RX5 25 (-1000000000)) (by decide +kernel)) rfl dX5_add_27 ?_
        refine zr_ldc2 (z := 1000000000) hx hb hown (hts (.constantLong RX5 27 (1000000000)) (by decide +kernel)) rfl dX5_add_30 ?_
        refine zc_z (wr := [(y, .inr (6, [.ref am, .ref q, .ref bq])), (am, zaL (G.2 0) 41 (f))]) (va_runSN (As := [.long (lz (((f (fr + k)) + mo) + (k * se))), .long (lz (-1000000000)), .long (lz (1000000000))]) (rest := []) ⟨hx, hb, hml, hown, hts⟩ (c_X9_isWithin l G (((f (fr + k)) + mo) + (k * se)) (-1000000000) 1000000000 (by omega) (by omega) (by omega) H.size) ⟨va_cnB 3 hts gX5_add_X9_isWithin_n29 rfl rfl rfl (hKX.2.2.2 (.methodLinkNest "AnnuityHouse$Row" 29 ⟨"AnnuityHouse", "isWithin", "(JJJ)Z"⟩ "AnnuityHouse") (by decide +kernel)) (hts (.initialized RX9) (by decide +kernel)) (by decide +kernel) ⟨Nat.le_of_ble_eq_true rfl, Nat.le_of_ble_eq_true rfl⟩, hts (.static yX9_isWithin) (by decide +kernel), trivial⟩ (zpS hKX hP hD [] rfl rfl) rfl rfl hl.1 rfl (lv_room (Nat.le_of_ble_eq_true rfl)) dX5_add_33 ⟨(by first | exact Nat.le_of_ble_eq_true rfl | (show _ ≤ (42 : Nat); omega)), (by first | exact Nat.le_of_ble_eq_true rfl | (show _ ≤ (252 : Nat); omega))⟩) hP hD hS hA [] [0, 1] rfl rfl rfl (by decide) (fun y1 u_3 H locs hy1 hP hD hS => ?_)
        have hP : va_P G.1 vwCl [(y, .inr (6, [.ref am, .ref q, .ref bq])), (am, zaL (G.2 0) 41 (f))] H := hP
        have hD : va_D A [(y, .inr (6, [.ref am, .ref q, .ref bq])), (am, zaL (G.2 0) 41 (f))] := hD
        have hy1 : y1 = decide ((-1000000000 : Int) ≤ (((f (fr + k)) + mo) + (k * se)) ∧ (((f (fr + k)) + mo) + (k * se)) ≤ (1000000000 : Int)) := hy1
        refine zct_v (wr := [(y, .inr (6, [.ref am, .ref q, .ref bq])), (am, zaL (G.2 0) 41 (f))]) (vx_runSN (As := [.int (iz (zbb y1))]) (rest := []) ⟨hx, hb, hml, hown, hts⟩ (c_X9_demandState_t l G s1 s2 s3 y1 hl0 H.size) ⟨va_cnB 1 hts gX5_add_X9_demandState_n33 rfl rfl rfl (hKX.2.2.2 (.methodLinkNest "AnnuityHouse$Row" 33 ⟨"AnnuityHouse", "demandState", "(Z)V"⟩ "AnnuityHouse") (by decide +kernel)) (hts (.initialized RX9) (by decide +kernel)) (by decide +kernel) ⟨Nat.le_of_ble_eq_true rfl, Nat.le_of_ble_eq_true rfl⟩, hts (.static yX9_demandState) (by decide +kernel), trivial⟩ (zpSe zXE_ok hE hS hA hKX hP hD [] rfl rfl) rfl rfl hl.1 rfl (lv_room (Nat.le_of_ble_eq_true rfl)) dX5_add_36 ⟨(by first | exact Nat.le_of_ble_eq_true rfl | (show _ ≤ (42 : Nat); omega)), (by first | exact Nat.le_of_ble_eq_true rfl | (show _ ≤ (252 : Nat); omega))⟩) hP hD hS hA [] [0, 1] rfl rfl rfl (by decide) (fun E9 ce9 q9 ux_7 H locs hx9_8 hP hD hS hce9 hcv9 hcl9 => ?_) (fun u_6 H locs td hP hD hS => ?_)
        ·
          have hP : va_P G.1 vwCl [(y, .inr (6, [.ref am, .ref q, .ref bq])), (am, zaL (G.2 0) 41 (f))] H := hP
          have hD : va_D A [(y, .inr (6, [.ref am, .ref q, .ref bq])), (am, zaL (G.2 0) 41 (f))] := hD
          rcases hx9_8 with ⟨rfl, hxc⟩
          ·
            have hxc : y1 = false := hxc
            have hzy1 := of_decide_eq_false (hy1.symm.trans hxc)
            rw [hQ]
            exact zt_out () hout hlocks hce9 hcv9 hcl9 hP hD hS ⟨rfl, (show ¬ (∀ j : Int, 0 ≤ j → j < mn → zamt (f (fr + j) + mo + j * se)) from fun q => by have := q k (by omega) (by omega); unfold zamt at this; omega)⟩ (by first | exact Nat.le_of_ble_eq_true rfl | omega) (by first | exact Nat.le_of_ble_eq_true rfl | omega)
        have hP : va_P G.1 vwCl [(y, .inr (6, [.ref am, .ref q, .ref bq])), (am, zaL (G.2 0) 41 (f))] H := hP
        have hD : va_D A [(y, .inr (6, [.ref am, .ref q, .ref bq])), (am, zaL (G.2 0) 41 (f))] := hD
        have td : y1 = true := td
        have hzy1 := of_decide_eq_true (hy1.symm.trans td)
        have hz1 : zamt (f (fr + k) + mo + k * se) := by unfold zamt; omega
        refine lv_iinc (v := iz (k + 1)) (lv' := [(7, .int (iz (k + 1))), (0, .ref y), (1, .int (iz (fr))), (2, .int (iz (mn))), (3, .long (lz (mo))), (5, .long (lz (se)))]) hx hb dX5_add_39 hl (k := 0) rfl (by rw [show Int32.ofInt (1) = iz (1) from rfl, iz_add]) (by decide) rfl (fun ls hl => ?_)
        refine lv_goto (tgt := 3) hx hb dX5_add_42 (by decide) ?_
        refine W.widen (k := ((k + 1)).toNat) (n := 6 * ((k + 1)).toNat) (by omega) (by omega) ?_
        exact ih_3 (k + 1) _ _ _ (by omega) (by omega) (fun j a b => (show j < k ∨ j = k by omega).elim (fun q => k2 j a q) (fun q => by rw [q]; exact hz1)) (hP) (hD) hS (hl)
  refine W.widen (k := ((0 : Int)).toNat) (n := 6 * ((0 : Int)).toNat) (by omega) (by omega) ?_
  exact hl_3 ((mn - 0 : Int).toNat + 1) 0 _ _ _ (Nat.lt_succ_self _) (by omega) (fun j a b => absurd b (by omega)) (hP) (hD) hS (hl)

def rm_c_J7_fill : Room := { frames := 0, cells := 0, slots := 0, locals := 0 }
set_option maxHeartbeats 1000000 in
set_option maxRecDepth 100000 in
theorem c_J7_fill (l : Launch) (G : zG) (am : Nat) (f : Int → Int) (x : Int)  : zM l G yJ7_fill_d0a16 wsJ7_fill_d0a16 rm_c_J7_fill [.ref am, .long (lz (x))] [(am, zaL (G.2 0) 41 (f))] (fun A => zQv G (fun (f2 : (Int → Int)) => ∀ j : Int, 0 ≤ j → j < 41 → f2 j = x) (fun (f2 : (Int → Int)) => [(am, zaL (G.2 0) 41 (f2))]) A) 0 0 := by
  refine zM_ofF (cc := cJ7_fill_d0a16) (maxL := 5) (ret := none) (by decide +kernel) rfl (Nat.le_of_ble_eq_true rfl) ?_
  intro p e s m below meth c ls A Q hQ hx hb hr hts hown hlocks hml hnm hKX hP hD hA hS hl
  have hK := hKX.1
  obtain ⟨H, hH⟩ : ∃ h, h = s.heap := ⟨_, rfl⟩
  obtain ⟨locs, hlo⟩ : ∃ h : List Loc, h = [] := ⟨_, rfl⟩
  have hS : va_S A s.heap H locs := by rw [hH, hlo]; exact hS
  have hP : va_P G.1 vwCl [(am, zaL (G.2 0) 41 (f))] H := by rw [hH]; exact hP
  have hD : va_D A [(am, zaL (G.2 0) 41 (f))] := hD
  have hl : lv_has ls 5 [(0, .ref am), (1, .long (lz (x)))] := hl
  rw [← hH, ← hlo]
  refine lv_iconst (v := iz (0)) hx hb dJ7_fill_d0a16_0 rfl ?_
  refine lv_istore_n (lv' := [(3, .int (iz (0))), (0, .ref am), (1, .long (lz (x)))]) hx hb dJ7_fill_d0a16_1 rfl hl (by decide) rfl (fun ls hl => ?_)
  refine lv_aload_n hx hb dJ7_fill_d0a16_2 rfl (lv_at hl 1 rfl) ?_
  refine zr_alenL hx hb hK hP 0 0 rfl rfl dJ7_fill_d0a16_3 ?_
  refine lv_istore (lv' := [(4, .int (iz (41))), (3, .int (iz (0))), (0, .ref am), (1, .long (lz (x)))]) hx hb dJ7_fill_d0a16_4 hl (by decide) rfl (fun ls hl => ?_)
  have hl_6 : ∀ (zn_6 : Nat) (i : Int) (g : Int → Int) (H : Heap) (locs : List Loc) (ls : Array Slot), (41 - i).toNat < zn_6 → (0 ≤ i ∧ i ≤ 41) → (∀ j : Int, 0 ≤ j → j < i → g j = x) → va_P G.1 vwCl [(am, zaL (G.2 0) 41 (g))] H → va_D A [(am, zaL (G.2 0) 41 (g))] → va_S A s.heap H locs → lv_has ls 5 [(4, .int (iz (41))), (3, .int (iz (i))), (0, .ref am), (1, .long (lz (x)))] → W p l e rm_c_J7_fill s m ([.ref am, .long (lz (x))] : List Value).toArray below meth c H locs 0 0 Q (F0 m 6 ls []) := by
    intro zn_6
    induction zn_6 with
    | zero => intro i g H locs ls hm; exact absurd hm (Nat.not_lt_zero _)
    | succ zn_6 ih_6 =>
      intro i g H locs ls hm_6 k1 k2 hP hD hS hl
      refine lv_iload_n hx hb dJ7_fill_d0a16_6 rfl (lv_at hl 1 rfl) ?_
      refine lv_iload hx hb dJ7_fill_d0a16_7 (lv_at hl 0 rfl) ?_
      refine zr_icmp_ge (x := i) (y := 41) (tgt := 22) hx hb (⟨by omega, by omega⟩) (⟨by omega, by omega⟩) dJ7_fill_d0a16_9 (by decide) (fun h_1 => ?_) (fun h_1 => ?_)
      ·
        rw [hQ]
        exact zr_vret (u := (g)) hx hb hr hlocks hP hD hS (by first | exact Nat.le_of_ble_eq_true rfl | omega) (by first | exact Nat.le_of_ble_eq_true rfl | omega) dJ7_fill_d0a16_22 (show ∀ j : Int, 0 ≤ j → j < 41 → g j = x from fun j a b => k2 j a (by omega))
      ·
        refine lv_aload_n hx hb dJ7_fill_d0a16_12 rfl (lv_at hl 2 rfl) ?_
        refine lv_iload_n hx hb dJ7_fill_d0a16_13 rfl (lv_at hl 1 rfl) ?_
        refine lv_lload_n hx hb dJ7_fill_d0a16_14 rfl (lv_at hl 3 rfl) ?_
        refine zr_last hx hb hK hP hD hS 0 0 rfl rfl (i := i) (x := x) (⟨by omega, by omega, by omega⟩) dJ7_fill_d0a16_15 (fun H locs hP hD hS => ?_)
        have hP : va_P G.1 vwCl [(am, zaL (G.2 0) 41 (zup g i x))] H := hP
        have hD : va_D A [(am, zaL (G.2 0) 41 (zup g i x))] := hD
        refine lv_iinc (v := iz (i + 1)) (lv' := [(3, .int (iz (i + 1))), (4, .int (iz (41))), (0, .ref am), (1, .long (lz (x)))]) hx hb dJ7_fill_d0a16_16 hl (k := 1) rfl (by rw [show Int32.ofInt (1) = iz (1) from rfl, iz_add]) (by decide) rfl (fun ls hl => ?_)
        refine lv_goto (tgt := 6) hx hb dJ7_fill_d0a16_19 (by decide) ?_
        exact ih_6 (i + 1) (zup g i x) _ _ _ (by omega) (by omega) (fun j a b => (show j = i ∨ j < i by omega).elim (fun q => by rw [q]; exact zup_s _ _ _) (fun q => (zup_n (by omega)).trans (k2 j a q))) (hP) (hD) hS (lv_sub hl [1, 0, 2, 3] rfl)
  exact hl_6 ((41 - 0 : Int).toNat + 1) 0 f _ _ _ (Nat.lt_succ_self _) (by omega) (fun j a b => absurd b (by omega)) (hP) (hD) hS (hl)

def rm_c_X5_clear : Room := { frames := 1, cells := 0, slots := 0, locals := 24 }
theorem iw_X5_clear_X5 : ∀ w ∈ wsX50, w ∈ wsX5_clear := by decide +kernel
set_option maxHeartbeats 1000000 in
set_option maxRecDepth 100000 in
theorem c_X5_clear (l : Launch) (G : zG) (y : Nat) (am : Nat) (q : Nat) (bq : Nat) (f : Int → Int)  : zM l G yX5_clear wsX5_clear rm_c_X5_clear [.ref y] [(y, .inr (6, [.ref am, .ref q, .ref bq])), (am, zaL (G.2 0) 41 (f))] (fun A => zQv G (fun (f2 : (Int → Int)) => ∀ i : Int, 0 ≤ i → i ≤ 40 → f2 i = 0) (fun (f2 : (Int → Int)) => [(y, .inr (6, [.ref am, .ref q, .ref bq])), (am, zaL (G.2 0) 41 (f2))]) A) 0 0 := by
  refine zM_of (cc := cX5_clear) (maxL := 1) (ret := none) (by decide) rfl (Nat.le_of_ble_eq_true rfl) ?_
  intro p e s m below meth c ls A Q hQ hx hb hr hts hown hlocks hml hnm hKX hP hD hA hS hl
  have hK := hKX.1
  have iwX5 := iw_X5_clear_X5
  obtain ⟨H, hH⟩ : ∃ h, h = s.heap := ⟨_, rfl⟩
  obtain ⟨locs, hlo⟩ : ∃ h : List Loc, h = [] := ⟨_, rfl⟩
  have hS : va_S A s.heap H locs := by rw [hH, hlo]; exact hS
  have hP : va_P G.1 vwCl [(y, .inr (6, [.ref am, .ref q, .ref bq])), (am, zaL (G.2 0) 41 (f))] H := by rw [hH]; exact hP
  have hD : va_D A [(y, .inr (6, [.ref am, .ref q, .ref bq])), (am, zaL (G.2 0) 41 (f))] := hD
  have hl : lv_has ls 1 [(0, .ref y)] := hl
  rw [← hH, ← hlo]
  refine lv_aload_n hx hb dX5_clear_0 rfl (lv_at hl 0 rfl) ?_
  refine va_get (D := G.1) (ci := 6) (v := .ref am) (C := RX5) (T := TX5) (N := 3) hx hb hts iwX5 hown hK hP 0 rfl rfl 0 (by decide) (hts (.fieldLink RX5 9 "AnnuityHouse$Row" "amounts" "[J") (by decide +kernel)) (fun _ h9 => h9) rfl dX5_clear_1 ?_
  refine lv_lconst (v := lz (0)) hx hb dX5_clear_4 rfl ?_
  refine zc_v (wr := [(y, .inr (6, [.ref am, .ref q, .ref bq]))]) (va_runS (As := [.ref am, .long (lz (0))]) (rest := []) ⟨hx, hb, hml, hown, hts⟩ (c_J7_fill l G am f 0  H.size) (va_cwS 2 hts gX5_clear_J7_fill_d0a16 rfl rfl rfl (by decide +kernel) ⟨Nat.le_of_ble_eq_true rfl, Nat.le_of_ble_eq_true rfl⟩) (zpS hKX hP hD [1] rfl rfl) rfl rfl hl.1 rfl (lv_room (Nat.le_of_ble_eq_true rfl)) dX5_clear_5 ⟨(by first | exact Nat.le_of_ble_eq_true rfl | (show _ ≤ (0 : Nat); omega)), (by first | exact Nat.le_of_ble_eq_true rfl | (show _ ≤ (0 : Nat); omega))⟩) hP hD hS hA [1] [0] rfl rfl rfl (by decide) (fun u_1 H locs t1 hP hD hS => ?_)
  generalize u_1 = f2 at hP hD t1
  have hP : va_P G.1 vwCl [(y, .inr (6, [.ref am, .ref q, .ref bq])), (am, zaL (G.2 0) 41 (f2))] H := hP
  have hD : va_D A [(y, .inr (6, [.ref am, .ref q, .ref bq])), (am, zaL (G.2 0) 41 (f2))] := hD
  have t1 : ∀ j : Int, 0 ≤ j → j < 41 → f2 j = (0 : Int) := t1
  rw [hQ]
  exact zr_vret (u := (f2)) hx hb hr hlocks hP hD hS (by first | exact Nat.le_of_ble_eq_true rfl | omega) (by first | exact Nat.le_of_ble_eq_true rfl | omega) dX5_clear_8 (show ∀ i : Int, 0 ≤ i → i ≤ 40 → f2 i = 0 from fun i a b => t1 i a (by omega))

def rm_c_X5_countPaying : Room := { frames := 0, cells := 0, slots := 0, locals := 0 }
theorem iw_X5_countPaying_X5 : ∀ w ∈ wsX50, w ∈ wsX5_countPaying := by decide +kernel
set_option maxHeartbeats 1000000 in
set_option maxRecDepth 100000 in
theorem c_X5_countPaying (l : Launch) (G : zG) (y : Nat) (am : Nat) (q : Nat) (bq : Nat) (f : Int → Int) (hf : zrok f) : zM l G yX5_countPaying wsX5_countPaying rm_c_X5_countPaying [.ref y] [(y, .inr (6, [.ref am, .ref q, .ref bq])), (am, zaL (G.2 0) 41 (f))] (fun A => zQi G (fun (z : Int) (_ : Unit) => z = zcnt f 41 ∧ 0 ≤ z ∧ z ≤ 41) (fun (_ : Unit) => [(y, .inr (6, [.ref am, .ref q, .ref bq])), (am, zaL (G.2 0) 41 (f))]) A) 0 0 := by
  refine zM_of (cc := cX5_countPaying) (maxL := 7) (ret := (some .int)) (by decide) rfl (Nat.le_of_ble_eq_true rfl) ?_
  intro p e s m below meth c ls A Q hQ hx hb hr hts hown hlocks hml hnm hKX hP hD hA hS hl
  have hK := hKX.1
  have iwX5 := iw_X5_countPaying_X5
  obtain ⟨H, hH⟩ : ∃ h, h = s.heap := ⟨_, rfl⟩
  obtain ⟨locs, hlo⟩ : ∃ h : List Loc, h = [] := ⟨_, rfl⟩
  have hS : va_S A s.heap H locs := by rw [hH, hlo]; exact hS
  have hP : va_P G.1 vwCl [(y, .inr (6, [.ref am, .ref q, .ref bq])), (am, zaL (G.2 0) 41 (f))] H := by rw [hH]; exact hP
  have hD : va_D A [(y, .inr (6, [.ref am, .ref q, .ref bq])), (am, zaL (G.2 0) 41 (f))] := hD
  have hl : lv_has ls 7 [(0, .ref y)] := hl
  rw [← hH, ← hlo]
  refine lv_iconst (v := iz (0)) hx hb dX5_countPaying_0 rfl ?_
  refine lv_istore_n (lv' := [(1, .int (iz (0))), (0, .ref y)]) hx hb dX5_countPaying_1 rfl hl (by decide) rfl (fun ls hl => ?_)
  refine lv_aload_n hx hb dX5_countPaying_2 rfl (lv_at hl 1 rfl) ?_
  refine va_get (D := G.1) (ci := 6) (v := .ref am) (C := RX5) (T := TX5) (N := 3) hx hb hts iwX5 hown hK hP 0 rfl rfl 0 (by decide) (hts (.fieldLink RX5 9 "AnnuityHouse$Row" "amounts" "[J") (by decide +kernel)) (fun _ h9 => h9) rfl dX5_countPaying_3 ?_
  refine lv_astore_n (lv' := [(2, .ref am), (1, .int (iz (0))), (0, .ref y)]) hx hb dX5_countPaying_6 rfl hl (by decide) rfl (fun ls hl => ?_)
  refine lv_aload_n hx hb dX5_countPaying_7 rfl (lv_at hl 0 rfl) ?_
  refine zr_alenL hx hb hK hP 1 0 rfl rfl dX5_countPaying_8 ?_
  refine lv_istore_n (lv' := [(3, .int (iz (41))), (2, .ref am), (1, .int (iz (0))), (0, .ref y)]) hx hb dX5_countPaying_9 rfl hl (by decide) rfl (fun ls hl => ?_)
  refine lv_iconst (v := iz (0)) hx hb dX5_countPaying_10 rfl ?_
  refine lv_istore (lv' := [(4, .int (iz (0))), (3, .int (iz (41))), (2, .ref am), (1, .int (iz (0))), (0, .ref y)]) hx hb dX5_countPaying_11 hl (by decide) rfl (fun ls hl => ?_)
  have hl_13 : ∀ (zn_13 : Nat) (i : Int) (w : Int) (H : Heap) (locs : List Loc) (ls : Array Slot), (41 - i).toNat < zn_13 → (0 ≤ i ∧ i ≤ 41) → (w = zcnt f i.toNat) → (0 ≤ w ∧ w ≤ i) → va_P G.1 vwCl [(y, .inr (6, [.ref am, .ref q, .ref bq])), (am, zaL (G.2 0) 41 (f))] H → va_D A [(y, .inr (6, [.ref am, .ref q, .ref bq])), (am, zaL (G.2 0) 41 (f))] → va_S A s.heap H locs → lv_has ls 7 [(4, .int (iz (i))), (3, .int (iz (41))), (2, .ref am), (1, .int (iz (w))), (0, .ref y)] → W p l e rm_c_X5_countPaying s m ([.ref y] : List Value).toArray below meth c H locs 0 0 Q (F0 m 13 ls []) := by
    intro zn_13
    induction zn_13 with
    | zero => intro i w H locs ls hm; exact absurd hm (Nat.not_lt_zero _)
    | succ zn_13 ih_13 =>
      intro i w H locs ls hm_13 k1 k2 k3 hP hD hS hl
      refine lv_iload hx hb dX5_countPaying_13 (lv_at hl 0 rfl) ?_
      refine lv_iload_n hx hb dX5_countPaying_15 rfl (lv_at hl 1 rfl) ?_
      refine zr_icmp_ge (x := i) (y := 41) (tgt := 46) hx hb (⟨by omega, by omega⟩) (⟨by omega, by omega⟩) dX5_countPaying_16 (by decide) (fun h_1 => ?_) (fun h_1 => ?_)
      ·
        refine lv_iload_n hx hb dX5_countPaying_46 rfl (lv_at hl 3 rfl) ?_
        rw [hQ]
        exact zr_iret (z := w) (u := ()) hx hb hr hlocks hP hD hS (by first | exact Nat.le_of_ble_eq_true rfl | omega) (by first | exact Nat.le_of_ble_eq_true rfl | omega) dX5_countPaying_47 (show w = zcnt f 41 ∧ 0 ≤ w ∧ w ≤ 41 from ⟨by rw [k2, show i = 41 by omega]; rfl, by omega⟩)
      ·
        refine lv_aload_n hx hb dX5_countPaying_19 rfl (lv_at hl 2 rfl) ?_
        refine lv_iload hx hb dX5_countPaying_20 (lv_at hl 0 rfl) ?_
        refine zr_lald hx hb hK hP 1 0 rfl rfl (i := i) (⟨by omega, by omega, by omega⟩) dX5_countPaying_22 ?_
        refine lv_lstore (lv' := [(5, .long (lz (f i))), (4, .int (iz (i))), (3, .int (iz (41))), (2, .ref am), (1, .int (iz (w))), (0, .ref y)]) hx hb dX5_countPaying_23 hl (by decide) rfl (fun ls hl => ?_)
        have hfi := hf i (by omega) (by omega)
        refine lv_iload_n hx hb dX5_countPaying_25 rfl (lv_at hl 4 rfl) ?_
        refine lv_lload hx hb dX5_countPaying_26 (lv_at hl 0 rfl) ?_
        refine lv_lconst (v := lz (0)) hx hb dX5_countPaying_28 rfl ?_
        refine zr_lcmp_eq (x := f i) (y := 0) (tgt := 37) hx hb (⟨by omega, by omega⟩) (⟨by omega, by omega⟩) dX5_countPaying_29 dX5_countPaying_30 (by decide) (fun h_2 => ?_) (fun h_2 => ?_)
        ·
          have hz0 := h_2
          refine lv_iconst (v := iz (0)) hx hb dX5_countPaying_37 rfl ?_
          refine zr_iadd hx hb dX5_countPaying_38 ?_
          refine lv_istore_n (lv' := [(1, .int (iz (w + 0))), (5, .long (lz (f i))), (4, .int (iz (i))), (3, .int (iz (41))), (2, .ref am), (0, .ref y)]) hx hb dX5_countPaying_39 rfl hl (by decide) rfl (fun ls hl => ?_)
          refine lv_iinc (v := iz (i + 1)) (lv' := [(4, .int (iz (i + 1))), (1, .int (iz (w + 0))), (5, .long (lz (f i))), (3, .int (iz (41))), (2, .ref am), (0, .ref y)]) hx hb dX5_countPaying_40 hl (k := 2) rfl (by rw [show Int32.ofInt (1) = iz (1) from rfl, iz_add]) (by decide) rfl (fun ls hl => ?_)
          refine lv_goto (tgt := 13) hx hb dX5_countPaying_43 (by decide) ?_
          exact ih_13 (i + 1) (w + 0) _ _ _ (by omega) (by omega) (by first | exact zcnt_t k1.1 k2 hz0 | exact zcnt_f k1.1 k2 hz0) (by omega) (hP) (hD) hS (lv_sub hl [0, 3, 4, 1, 5] rfl)
        ·
          have hz0 := h_2
          refine lv_iconst (v := iz (1)) hx hb dX5_countPaying_33 rfl ?_
          refine lv_goto (tgt := 38) hx hb dX5_countPaying_34 (by decide) ?_
          refine zr_iadd hx hb dX5_countPaying_38 ?_
          refine lv_istore_n (lv' := [(1, .int (iz (w + 1))), (5, .long (lz (f i))), (4, .int (iz (i))), (3, .int (iz (41))), (2, .ref am), (0, .ref y)]) hx hb dX5_countPaying_39 rfl hl (by decide) rfl (fun ls hl => ?_)
          refine lv_iinc (v := iz (i + 1)) (lv' := [(4, .int (iz (i + 1))), (1, .int (iz (w + 1))), (5, .long (lz (f i))), (3, .int (iz (41))), (2, .ref am), (0, .ref y)]) hx hb dX5_countPaying_40 hl (k := 2) rfl (by rw [show Int32.ofInt (1) = iz (1) from rfl, iz_add]) (by decide) rfl (fun ls hl => ?_)
          refine lv_goto (tgt := 13) hx hb dX5_countPaying_43 (by decide) ?_
          exact ih_13 (i + 1) (w + 1) _ _ _ (by omega) (by omega) (by first | exact zcnt_t k1.1 k2 hz0 | exact zcnt_f k1.1 k2 hz0) (by omega) (hP) (hD) hS (lv_sub hl [0, 3, 4, 1, 5] rfl)
  exact hl_13 ((41 - 0 : Int).toNat + 1) 0 0 _ _ _ (Nat.lt_succ_self _) (by omega) (rfl) (by omega) (hP) (hD) hS (hl)

def rm_c_X5_sum : Room := { frames := 0, cells := 0, slots := 0, locals := 0 }
theorem iw_X5_sum_X5 : ∀ w ∈ wsX50, w ∈ wsX5_sum := by decide +kernel
set_option maxHeartbeats 1000000 in
set_option maxRecDepth 100000 in
theorem c_X5_sum (l : Launch) (G : zG) (y : Nat) (am : Nat) (q : Nat) (bq : Nat) (f : Int → Int) (hf : zrok f) : zM l G yX5_sum wsX5_sum rm_c_X5_sum [.ref y] [(y, .inr (6, [.ref am, .ref q, .ref bq])), (am, zaL (G.2 0) 41 (f))] (fun A => zQl G (fun (z : Int) (_ : Unit) => z = zsm f 41 ∧ -41000000000 ≤ z ∧ z ≤ 41000000000) (fun (_ : Unit) => [(y, .inr (6, [.ref am, .ref q, .ref bq])), (am, zaL (G.2 0) 41 (f))]) A) 0 0 := by
  refine zM_of (cc := cX5_sum) (maxL := 8) (ret := (some .long)) (by decide) rfl (Nat.le_of_ble_eq_true rfl) ?_
  intro p e s m below meth c ls A Q hQ hx hb hr hts hown hlocks hml hnm hKX hP hD hA hS hl
  have hK := hKX.1
  have iwX5 := iw_X5_sum_X5
  obtain ⟨H, hH⟩ : ∃ h, h = s.heap := ⟨_, rfl⟩
  obtain ⟨locs, hlo⟩ : ∃ h : List Loc, h = [] := ⟨_, rfl⟩
  have hS : va_S A s.heap H locs := by rw [hH, hlo]; exact hS
  have hP : va_P G.1 vwCl [(y, .inr (6, [.ref am, .ref q, .ref bq])), (am, zaL (G.2 0) 41 (f))] H := by rw [hH]; exact hP
  have hD : va_D A [(y, .inr (6, [.ref am, .ref q, .ref bq])), (am, zaL (G.2 0) 41 (f))] := hD
  have hl : lv_has ls 8 [(0, .ref y)] := hl
  rw [← hH, ← hlo]
  refine lv_lconst (v := lz (0)) hx hb dX5_sum_0 rfl ?_
  refine lv_lstore_n (lv' := [(1, .long (lz (0))), (0, .ref y)]) hx hb dX5_sum_1 rfl hl (by decide) rfl (fun ls hl => ?_)
  refine lv_aload_n hx hb dX5_sum_2 rfl (lv_at hl 1 rfl) ?_
  refine va_get (D := G.1) (ci := 6) (v := .ref am) (C := RX5) (T := TX5) (N := 3) hx hb hts iwX5 hown hK hP 0 rfl rfl 0 (by decide) (hts (.fieldLink RX5 9 "AnnuityHouse$Row" "amounts" "[J") (by decide +kernel)) (fun _ h9 => h9) rfl dX5_sum_3 ?_
  refine lv_astore_n (lv' := [(3, .ref am), (1, .long (lz (0))), (0, .ref y)]) hx hb dX5_sum_6 rfl hl (by decide) rfl (fun ls hl => ?_)
  refine lv_aload_n hx hb dX5_sum_7 rfl (lv_at hl 0 rfl) ?_
  refine zr_alenL hx hb hK hP 1 0 rfl rfl dX5_sum_8 ?_
  refine lv_istore (lv' := [(4, .int (iz (41))), (3, .ref am), (1, .long (lz (0))), (0, .ref y)]) hx hb dX5_sum_9 hl (by decide) rfl (fun ls hl => ?_)
  refine lv_iconst (v := iz (0)) hx hb dX5_sum_11 rfl ?_
  refine lv_istore (lv' := [(5, .int (iz (0))), (4, .int (iz (41))), (3, .ref am), (1, .long (lz (0))), (0, .ref y)]) hx hb dX5_sum_12 hl (by decide) rfl (fun ls hl => ?_)
  have hl_14 : ∀ (zn_14 : Nat) (i : Int) (w : Int) (H : Heap) (locs : List Loc) (ls : Array Slot), (41 - i).toNat < zn_14 → (0 ≤ i ∧ i ≤ 41) → (w = zsm f i.toNat) → (-1000000000 * i ≤ w ∧ w ≤ 1000000000 * i) → va_P G.1 vwCl [(y, .inr (6, [.ref am, .ref q, .ref bq])), (am, zaL (G.2 0) 41 (f))] H → va_D A [(y, .inr (6, [.ref am, .ref q, .ref bq])), (am, zaL (G.2 0) 41 (f))] → va_S A s.heap H locs → lv_has ls 8 [(5, .int (iz (i))), (4, .int (iz (41))), (3, .ref am), (1, .long (lz (w))), (0, .ref y)] → W p l e rm_c_X5_sum s m ([.ref y] : List Value).toArray below meth c H locs 0 0 Q (F0 m 14 ls []) := by
    intro zn_14
    induction zn_14 with
    | zero => intro i w H locs ls hm; exact absurd hm (Nat.not_lt_zero _)
    | succ zn_14 ih_14 =>
      intro i w H locs ls hm_14 k1 k2 k3 hP hD hS hl
      refine lv_iload hx hb dX5_sum_14 (lv_at hl 0 rfl) ?_
      refine lv_iload hx hb dX5_sum_16 (lv_at hl 1 rfl) ?_
      refine zr_icmp_ge (x := i) (y := 41) (tgt := 38) hx hb (⟨by omega, by omega⟩) (⟨by omega, by omega⟩) dX5_sum_18 (by decide) (fun h_1 => ?_) (fun h_1 => ?_)
      ·
        refine lv_lload_n hx hb dX5_sum_38 rfl (lv_at hl 3 rfl) ?_
        rw [hQ]
        exact zr_lret (z := w) (u := ()) hx hb hr hlocks hP hD hS (by first | exact Nat.le_of_ble_eq_true rfl | omega) (by first | exact Nat.le_of_ble_eq_true rfl | omega) dX5_sum_39 (show w = zsm f 41 ∧ -41000000000 ≤ w ∧ w ≤ 41000000000 from ⟨by rw [k2, show i = 41 by omega]; rfl, by omega⟩)
      ·
        have hfi := hf i (by omega) (by omega)
        refine lv_aload_n hx hb dX5_sum_21 rfl (lv_at hl 2 rfl) ?_
        refine lv_iload hx hb dX5_sum_22 (lv_at hl 0 rfl) ?_
        refine zr_lald hx hb hK hP 1 0 rfl rfl (i := i) (⟨by omega, by omega, by omega⟩) dX5_sum_24 ?_
        refine lv_lstore (lv' := [(6, .long (lz (f i))), (5, .int (iz (i))), (4, .int (iz (41))), (3, .ref am), (1, .long (lz (w))), (0, .ref y)]) hx hb dX5_sum_25 hl (by decide) rfl (fun ls hl => ?_)
        refine lv_lload_n hx hb dX5_sum_27 rfl (lv_at hl 4 rfl) ?_
        refine lv_lload hx hb dX5_sum_28 (lv_at hl 0 rfl) ?_
        refine zr_ladd hx hb dX5_sum_30 ?_
        refine lv_lstore_n (lv' := [(1, .long (lz (w + (f i)))), (6, .long (lz (f i))), (5, .int (iz (i))), (4, .int (iz (41))), (3, .ref am), (0, .ref y)]) hx hb dX5_sum_31 rfl hl (by decide) rfl (fun ls hl => ?_)
        refine lv_iinc (v := iz (i + 1)) (lv' := [(5, .int (iz (i + 1))), (1, .long (lz (w + (f i)))), (6, .long (lz (f i))), (4, .int (iz (41))), (3, .ref am), (0, .ref y)]) hx hb dX5_sum_32 hl (k := 2) rfl (by rw [show Int32.ofInt (1) = iz (1) from rfl, iz_add]) (by decide) rfl (fun ls hl => ?_)
        refine lv_goto (tgt := 14) hx hb dX5_sum_35 (by decide) ?_
        exact ih_14 (i + 1) (w + (f i)) _ _ _ (by omega) (by omega) (zsm_i k1.1 k2) (by omega) (hP) (hD) hS (lv_sub hl [0, 3, 4, 1, 5] rfl)
  exact hl_14 ((41 - 0 : Int).toNat + 1) 0 0 _ _ _ (Nat.lt_succ_self _) (by omega) (rfl) (by omega) (hP) (hD) hS (hl)

def rm_c_X5_countChanges : Room := { frames := 0, cells := 0, slots := 0, locals := 0 }
theorem iw_X5_countChanges_X5 : ∀ w ∈ wsX50, w ∈ wsX5_countChanges := by decide +kernel
set_option maxHeartbeats 1000000 in
set_option maxRecDepth 100000 in
theorem c_X5_countChanges (l : Launch) (G : zG) (y : Nat) (am : Nat) (q : Nat) (bq : Nat) (f : Int → Int) (hf : zrok f) : zM l G yX5_countChanges wsX5_countChanges rm_c_X5_countChanges [.ref y] [(y, .inr (6, [.ref am, .ref q, .ref bq])), (am, zaL (G.2 0) 41 (f))] (fun A => zQi G (fun (z : Int) (_ : Unit) => z = zchg f 41 ∧ 0 ≤ z ∧ z ≤ 41) (fun (_ : Unit) => [(y, .inr (6, [.ref am, .ref q, .ref bq])), (am, zaL (G.2 0) 41 (f))]) A) 0 0 := by
  refine zM_of (cc := cX5_countChanges) (maxL := 9) (ret := (some .int)) (by decide) rfl (Nat.le_of_ble_eq_true rfl) ?_
  intro p e s m below meth c ls A Q hQ hx hb hr hts hown hlocks hml hnm hKX hP hD hA hS hl
  have hK := hKX.1
  have iwX5 := iw_X5_countChanges_X5
  obtain ⟨H, hH⟩ : ∃ h, h = s.heap := ⟨_, rfl⟩
  obtain ⟨locs, hlo⟩ : ∃ h : List Loc, h = [] := ⟨_, rfl⟩
  have hS : va_S A s.heap H locs := by rw [hH, hlo]; exact hS
  have hP : va_P G.1 vwCl [(y, .inr (6, [.ref am, .ref q, .ref bq])), (am, zaL (G.2 0) 41 (f))] H := by rw [hH]; exact hP
  have hD : va_D A [(y, .inr (6, [.ref am, .ref q, .ref bq])), (am, zaL (G.2 0) 41 (f))] := hD
  have hl : lv_has ls 9 [(0, .ref y)] := hl
  rw [← hH, ← hlo]
  refine lv_iconst (v := iz (0)) hx hb dX5_countChanges_0 rfl ?_
  refine lv_istore_n (lv' := [(1, .int (iz (0))), (0, .ref y)]) hx hb dX5_countChanges_1 rfl hl (by decide) rfl (fun ls hl => ?_)
  refine lv_lconst (v := lz (0)) hx hb dX5_countChanges_2 rfl ?_
  refine lv_lstore_n (lv' := [(2, .long (lz (0))), (1, .int (iz (0))), (0, .ref y)]) hx hb dX5_countChanges_3 rfl hl (by decide) rfl (fun ls hl => ?_)
  refine lv_aload_n hx hb dX5_countChanges_4 rfl (lv_at hl 2 rfl) ?_
  refine va_get (D := G.1) (ci := 6) (v := .ref am) (C := RX5) (T := TX5) (N := 3) hx hb hts iwX5 hown hK hP 0 rfl rfl 0 (by decide) (hts (.fieldLink RX5 9 "AnnuityHouse$Row" "amounts" "[J") (by decide +kernel)) (fun _ h9 => h9) rfl dX5_countChanges_5 ?_
  refine lv_astore (lv' := [(4, .ref am), (2, .long (lz (0))), (1, .int (iz (0))), (0, .ref y)]) hx hb dX5_countChanges_8 hl (by decide) rfl (fun ls hl => ?_)
  refine lv_aload hx hb dX5_countChanges_10 (lv_at hl 0 rfl) ?_
  refine zr_alenL hx hb hK hP 1 0 rfl rfl dX5_countChanges_12 ?_
  refine lv_istore (lv' := [(5, .int (iz (41))), (4, .ref am), (2, .long (lz (0))), (1, .int (iz (0))), (0, .ref y)]) hx hb dX5_countChanges_13 hl (by decide) rfl (fun ls hl => ?_)
  refine lv_iconst (v := iz (0)) hx hb dX5_countChanges_15 rfl ?_
  refine lv_istore (lv' := [(6, .int (iz (0))), (5, .int (iz (41))), (4, .ref am), (2, .long (lz (0))), (1, .int (iz (0))), (0, .ref y)]) hx hb dX5_countChanges_16 hl (by decide) rfl (fun ls hl => ?_)
  have hl_18 : ∀ (zn_18 : Nat) (i : Int) (w : Int) (b : Int) (H : Heap) (locs : List Loc) (ls : Array Slot), (41 - i).toNat < zn_18 → (0 ≤ i ∧ i ≤ 41) → (w = zchg f i.toNat) → (0 ≤ w ∧ w ≤ i) → (b = zls f i.toNat) → (-1000000000 ≤ b ∧ b ≤ 1000000000) → va_P G.1 vwCl [(y, .inr (6, [.ref am, .ref q, .ref bq])), (am, zaL (G.2 0) 41 (f))] H → va_D A [(y, .inr (6, [.ref am, .ref q, .ref bq])), (am, zaL (G.2 0) 41 (f))] → va_S A s.heap H locs → lv_has ls 9 [(6, .int (iz (i))), (5, .int (iz (41))), (4, .ref am), (2, .long (lz (b))), (1, .int (iz (w))), (0, .ref y)] → W p l e rm_c_X5_countChanges s m ([.ref y] : List Value).toArray below meth c H locs 0 0 Q (F0 m 18 ls []) := by
    intro zn_18
    induction zn_18 with
    | zero => intro i w b H locs ls hm; exact absurd hm (Nat.not_lt_zero _)
    | succ zn_18 ih_18 =>
      intro i w b H locs ls hm_18 k1 k2 k3 k4 k5 hP hD hS hl
      refine lv_iload hx hb dX5_countChanges_18 (lv_at hl 0 rfl) ?_
      refine lv_iload hx hb dX5_countChanges_20 (lv_at hl 1 rfl) ?_
      refine zr_icmp_ge (x := i) (y := 41) (tgt := 88) hx hb (⟨by omega, by omega⟩) (⟨by omega, by omega⟩) dX5_countChanges_22 (by decide) (fun h_1 => ?_) (fun h_1 => ?_)
      ·
        refine lv_iload_n hx hb dX5_countChanges_88 rfl (lv_at hl 4 rfl) ?_
        rw [hQ]
        exact zr_iret (z := w) (u := ()) hx hb hr hlocks hP hD hS (by first | exact Nat.le_of_ble_eq_true rfl | omega) (by first | exact Nat.le_of_ble_eq_true rfl | omega) dX5_countChanges_89 (show w = zchg f 41 ∧ 0 ≤ w ∧ w ≤ 41 from ⟨by rw [k2, show i = 41 by omega]; rfl, by omega⟩)
      ·
        have hfi := hf i (by omega) (by omega)
        refine lv_aload hx hb dX5_countChanges_25 (lv_at hl 2 rfl) ?_
        refine lv_iload hx hb dX5_countChanges_27 (lv_at hl 0 rfl) ?_
        refine zr_lald hx hb hK hP 1 0 rfl rfl (i := i) (⟨by omega, by omega, by omega⟩) dX5_countChanges_29 ?_
        refine lv_lstore (lv' := [(7, .long (lz (f i))), (6, .int (iz (i))), (5, .int (iz (41))), (4, .ref am), (2, .long (lz (b))), (1, .int (iz (w))), (0, .ref y)]) hx hb dX5_countChanges_30 hl (by decide) rfl (fun ls hl => ?_)
        refine lv_lload hx hb dX5_countChanges_32 (lv_at hl 0 rfl) ?_
        refine lv_lconst (v := lz (0)) hx hb dX5_countChanges_34 rfl ?_
        refine zr_lcmp_eq (x := f i) (y := 0) (tgt := 82) hx hb (⟨by omega, by omega⟩) (⟨by omega, by omega⟩) dX5_countChanges_35 dX5_countChanges_36 (by decide) (fun h_2 => ?_) (fun h_2 => ?_)
        ·
          refine lv_iinc (v := iz (i + 1)) (lv' := [(6, .int (iz (i + 1))), (7, .long (lz (f i))), (5, .int (iz (41))), (4, .ref am), (2, .long (lz (b))), (1, .int (iz (w))), (0, .ref y)]) hx hb dX5_countChanges_82 hl (k := 1) rfl (by rw [show Int32.ofInt (1) = iz (1) from rfl, iz_add]) (by decide) rfl (fun ls hl => ?_)
          refine lv_goto (tgt := 18) hx hb dX5_countChanges_85 (by decide) ?_
          exact ih_18 (i + 1) w b _ _ _ (by omega) (by omega) (by first | exact zchg_z k1.1 k2 k4 (by omega) | exact zchg_i k1.1 k2 k4 (by unfold zch1; first | exact (if_pos (by omega)).symm | exact ((if_neg (by omega)).trans (if_pos (by omega))).symm | exact ((if_neg (by omega)).trans (if_neg (by omega))).symm)) (by omega) (by rw [zls_i k1.1 k4]; first | exact (if_pos (by omega)).symm | exact (if_neg (by omega)).symm) (by omega) (hP) (hD) hS (lv_sub hl [0, 2, 3, 4, 5, 6] rfl)
        ·
          refine lv_iload_n hx hb dX5_countChanges_39 rfl (lv_at hl 5 rfl) ?_
          refine lv_lload_n hx hb dX5_countChanges_40 rfl (lv_at hl 4 rfl) ?_
          refine lv_lconst (v := lz (0)) hx hb dX5_countChanges_41 rfl ?_
          refine zr_lcmp_eq (x := b) (y := 0) (tgt := 76) hx hb (⟨by omega, by omega⟩) (⟨by omega, by omega⟩) dX5_countChanges_42 dX5_countChanges_43 (by decide) (fun h_3 => ?_) (fun h_3 => ?_)
          ·
            refine lv_iconst (v := iz (0)) hx hb dX5_countChanges_76 rfl ?_
            refine zr_iadd hx hb dX5_countChanges_77 ?_
            refine lv_istore_n (lv' := [(1, .int (iz (w + 0))), (7, .long (lz (f i))), (6, .int (iz (i))), (5, .int (iz (41))), (4, .ref am), (2, .long (lz (b))), (0, .ref y)]) hx hb dX5_countChanges_78 rfl hl (by decide) rfl (fun ls hl => ?_)
            refine lv_lload hx hb dX5_countChanges_79 (lv_at hl 1 rfl) ?_
            refine lv_lstore_n (lv' := [(2, .long (lz (f i))), (1, .int (iz (w + 0))), (7, .long (lz (f i))), (6, .int (iz (i))), (5, .int (iz (41))), (4, .ref am), (0, .ref y)]) hx hb dX5_countChanges_81 rfl hl (by decide) rfl (fun ls hl => ?_)
            refine lv_iinc (v := iz (i + 1)) (lv' := [(6, .int (iz (i + 1))), (2, .long (lz (f i))), (1, .int (iz (w + 0))), (7, .long (lz (f i))), (5, .int (iz (41))), (4, .ref am), (0, .ref y)]) hx hb dX5_countChanges_82 hl (k := 3) rfl (by rw [show Int32.ofInt (1) = iz (1) from rfl, iz_add]) (by decide) rfl (fun ls hl => ?_)
            refine lv_goto (tgt := 18) hx hb dX5_countChanges_85 (by decide) ?_
            exact ih_18 (i + 1) (w + 0) (f i) _ _ _ (by omega) (by omega) (by first | exact zchg_z k1.1 k2 k4 (by omega) | exact zchg_i k1.1 k2 k4 (by unfold zch1; first | exact (if_pos (by omega)).symm | exact ((if_neg (by omega)).trans (if_pos (by omega))).symm | exact ((if_neg (by omega)).trans (if_neg (by omega))).symm)) (by omega) (by rw [zls_i k1.1 k4]; first | exact (if_pos (by omega)).symm | exact (if_neg (by omega)).symm) (by omega) (hP) (hD) hS (lv_sub hl [0, 4, 5, 1, 2, 6] rfl)
          ·
            refine lv_lload_n hx hb dX5_countChanges_46 rfl (lv_at hl 4 rfl) ?_
            refine lv_lconst (v := lz (0)) hx hb dX5_countChanges_47 rfl ?_
            refine zr_lcmp_ge (x := b) (y := 0) (tgt := 56) hx hb (⟨by omega, by omega⟩) (⟨by omega, by omega⟩) dX5_countChanges_48 dX5_countChanges_49 (by decide) (fun h_4 => ?_) (fun h_4 => ?_)
            ·
              refine lv_iconst (v := iz (0)) hx hb dX5_countChanges_56 rfl ?_
              refine lv_lload hx hb dX5_countChanges_57 (lv_at hl 0 rfl) ?_
              refine lv_lconst (v := lz (0)) hx hb dX5_countChanges_59 rfl ?_
              refine zr_lcmp_ge (x := f i) (y := 0) (tgt := 68) hx hb (⟨by omega, by omega⟩) (⟨by omega, by omega⟩) dX5_countChanges_60 dX5_countChanges_61 (by decide) (fun h_5 => ?_) (fun h_5 => ?_)
              ·
                refine lv_iconst (v := iz (0)) hx hb dX5_countChanges_68 rfl ?_
                refine zr_icmp_eq (x := 0) (y := 0) (tgt := 76) hx hb (⟨by omega, by omega⟩) (⟨by omega, by omega⟩) dX5_countChanges_69 (by decide) (fun h_6 => ?_) (fun h_6 => ?_)
                ·
                  refine lv_iconst (v := iz (0)) hx hb dX5_countChanges_76 rfl ?_
                  refine zr_iadd hx hb dX5_countChanges_77 ?_
                  refine lv_istore_n (lv' := [(1, .int (iz (w + 0))), (7, .long (lz (f i))), (6, .int (iz (i))), (5, .int (iz (41))), (4, .ref am), (2, .long (lz (b))), (0, .ref y)]) hx hb dX5_countChanges_78 rfl hl (by decide) rfl (fun ls hl => ?_)
                  refine lv_lload hx hb dX5_countChanges_79 (lv_at hl 1 rfl) ?_
                  refine lv_lstore_n (lv' := [(2, .long (lz (f i))), (1, .int (iz (w + 0))), (7, .long (lz (f i))), (6, .int (iz (i))), (5, .int (iz (41))), (4, .ref am), (0, .ref y)]) hx hb dX5_countChanges_81 rfl hl (by decide) rfl (fun ls hl => ?_)
                  refine lv_iinc (v := iz (i + 1)) (lv' := [(6, .int (iz (i + 1))), (2, .long (lz (f i))), (1, .int (iz (w + 0))), (7, .long (lz (f i))), (5, .int (iz (41))), (4, .ref am), (0, .ref y)]) hx hb dX5_countChanges_82 hl (k := 3) rfl (by rw [show Int32.ofInt (1) = iz (1) from rfl, iz_add]) (by decide) rfl (fun ls hl => ?_)
                  refine lv_goto (tgt := 18) hx hb dX5_countChanges_85 (by decide) ?_
                  exact ih_18 (i + 1) (w + 0) (f i) _ _ _ (by omega) (by omega) (by first | exact zchg_z k1.1 k2 k4 (by omega) | exact zchg_i k1.1 k2 k4 (by unfold zch1; first | exact (if_pos (by omega)).symm | exact ((if_neg (by omega)).trans (if_pos (by omega))).symm | exact ((if_neg (by omega)).trans (if_neg (by omega))).symm)) (by omega) (by rw [zls_i k1.1 k4]; first | exact (if_pos (by omega)).symm | exact (if_neg (by omega)).symm) (by omega) (hP) (hD) hS (lv_sub hl [0, 4, 5, 1, 2, 6] rfl)
                · exact absurd h_6 (by omega)
              ·
                refine lv_iconst (v := iz (1)) hx hb dX5_countChanges_64 rfl ?_
                refine lv_goto (tgt := 69) hx hb dX5_countChanges_65 (by decide) ?_
                refine zr_icmp_eq (x := 0) (y := 1) (tgt := 76) hx hb (⟨by omega, by omega⟩) (⟨by omega, by omega⟩) dX5_countChanges_69 (by decide) (fun h_7 => ?_) (fun h_7 => ?_)
                · exact absurd h_7 (by omega)
                ·
                  refine lv_iconst (v := iz (1)) hx hb dX5_countChanges_72 rfl ?_
                  refine lv_goto (tgt := 77) hx hb dX5_countChanges_73 (by decide) ?_
                  refine zr_iadd hx hb dX5_countChanges_77 ?_
                  refine lv_istore_n (lv' := [(1, .int (iz (w + 1))), (7, .long (lz (f i))), (6, .int (iz (i))), (5, .int (iz (41))), (4, .ref am), (2, .long (lz (b))), (0, .ref y)]) hx hb dX5_countChanges_78 rfl hl (by decide) rfl (fun ls hl => ?_)
                  refine lv_lload hx hb dX5_countChanges_79 (lv_at hl 1 rfl) ?_
                  refine lv_lstore_n (lv' := [(2, .long (lz (f i))), (1, .int (iz (w + 1))), (7, .long (lz (f i))), (6, .int (iz (i))), (5, .int (iz (41))), (4, .ref am), (0, .ref y)]) hx hb dX5_countChanges_81 rfl hl (by decide) rfl (fun ls hl => ?_)
                  refine lv_iinc (v := iz (i + 1)) (lv' := [(6, .int (iz (i + 1))), (2, .long (lz (f i))), (1, .int (iz (w + 1))), (7, .long (lz (f i))), (5, .int (iz (41))), (4, .ref am), (0, .ref y)]) hx hb dX5_countChanges_82 hl (k := 3) rfl (by rw [show Int32.ofInt (1) = iz (1) from rfl, iz_add]) (by decide) rfl (fun ls hl => ?_)
                  refine lv_goto (tgt := 18) hx hb dX5_countChanges_85 (by decide) ?_
                  exact ih_18 (i + 1) (w + 1) (f i) _ _ _ (by omega) (by omega) (by first | exact zchg_z k1.1 k2 k4 (by omega) | exact zchg_i k1.1 k2 k4 (by unfold zch1; first | exact (if_pos (by omega)).symm | exact ((if_neg (by omega)).trans (if_pos (by omega))).symm | exact ((if_neg (by omega)).trans (if_neg (by omega))).symm)) (by omega) (by rw [zls_i k1.1 k4]; first | exact (if_pos (by omega)).symm | exact (if_neg (by omega)).symm) (by omega) (hP) (hD) hS (lv_sub hl [0, 4, 5, 1, 2, 6] rfl)
            ·
              refine lv_iconst (v := iz (1)) hx hb dX5_countChanges_52 rfl ?_
              refine lv_goto (tgt := 57) hx hb dX5_countChanges_53 (by decide) ?_
              refine lv_lload hx hb dX5_countChanges_57 (lv_at hl 0 rfl) ?_
              refine lv_lconst (v := lz (0)) hx hb dX5_countChanges_59 rfl ?_
              refine zr_lcmp_ge (x := f i) (y := 0) (tgt := 68) hx hb (⟨by omega, by omega⟩) (⟨by omega, by omega⟩) dX5_countChanges_60 dX5_countChanges_61 (by decide) (fun h_8 => ?_) (fun h_8 => ?_)
              ·
                refine lv_iconst (v := iz (0)) hx hb dX5_countChanges_68 rfl ?_
                refine zr_icmp_eq (x := 1) (y := 0) (tgt := 76) hx hb (⟨by omega, by omega⟩) (⟨by omega, by omega⟩) dX5_countChanges_69 (by decide) (fun h_9 => ?_) (fun h_9 => ?_)
                · exact absurd h_9 (by omega)
                ·
                  refine lv_iconst (v := iz (1)) hx hb dX5_countChanges_72 rfl ?_
                  refine lv_goto (tgt := 77) hx hb dX5_countChanges_73 (by decide) ?_
                  refine zr_iadd hx hb dX5_countChanges_77 ?_
                  refine lv_istore_n (lv' := [(1, .int (iz (w + 1))), (7, .long (lz (f i))), (6, .int (iz (i))), (5, .int (iz (41))), (4, .ref am), (2, .long (lz (b))), (0, .ref y)]) hx hb dX5_countChanges_78 rfl hl (by decide) rfl (fun ls hl => ?_)
                  refine lv_lload hx hb dX5_countChanges_79 (lv_at hl 1 rfl) ?_
                  refine lv_lstore_n (lv' := [(2, .long (lz (f i))), (1, .int (iz (w + 1))), (7, .long (lz (f i))), (6, .int (iz (i))), (5, .int (iz (41))), (4, .ref am), (0, .ref y)]) hx hb dX5_countChanges_81 rfl hl (by decide) rfl (fun ls hl => ?_)
                  refine lv_iinc (v := iz (i + 1)) (lv' := [(6, .int (iz (i + 1))), (2, .long (lz (f i))), (1, .int (iz (w + 1))), (7, .long (lz (f i))), (5, .int (iz (41))), (4, .ref am), (0, .ref y)]) hx hb dX5_countChanges_82 hl (k := 3) rfl (by rw [show Int32.ofInt (1) = iz (1) from rfl, iz_add]) (by decide) rfl (fun ls hl => ?_)
                  refine lv_goto (tgt := 18) hx hb dX5_countChanges_85 (by decide) ?_
                  exact ih_18 (i + 1) (w + 1) (f i) _ _ _ (by omega) (by omega) (by first | exact zchg_z k1.1 k2 k4 (by omega) | exact zchg_i k1.1 k2 k4 (by unfold zch1; first | exact (if_pos (by omega)).symm | exact ((if_neg (by omega)).trans (if_pos (by omega))).symm | exact ((if_neg (by omega)).trans (if_neg (by omega))).symm)) (by omega) (by rw [zls_i k1.1 k4]; first | exact (if_pos (by omega)).symm | exact (if_neg (by omega)).symm) (by omega) (hP) (hD) hS (lv_sub hl [0, 4, 5, 1, 2, 6] rfl)
              ·
                refine lv_iconst (v := iz (1)) hx hb dX5_countChanges_64 rfl ?_
                refine lv_goto (tgt := 69) hx hb dX5_countChanges_65 (by decide) ?_
                refine zr_icmp_eq (x := 1) (y := 1) (tgt := 76) hx hb (⟨by omega, by omega⟩) (⟨by omega, by omega⟩) dX5_countChanges_69 (by decide) (fun h_10 => ?_) (fun h_10 => ?_)
                ·
                  refine lv_iconst (v := iz (0)) hx hb dX5_countChanges_76 rfl ?_
                  refine zr_iadd hx hb dX5_countChanges_77 ?_
                  refine lv_istore_n (lv' := [(1, .int (iz (w + 0))), (7, .long (lz (f i))), (6, .int (iz (i))), (5, .int (iz (41))), (4, .ref am), (2, .long (lz (b))), (0, .ref y)]) hx hb dX5_countChanges_78 rfl hl (by decide) rfl (fun ls hl => ?_)
                  refine lv_lload hx hb dX5_countChanges_79 (lv_at hl 1 rfl) ?_
                  refine lv_lstore_n (lv' := [(2, .long (lz (f i))), (1, .int (iz (w + 0))), (7, .long (lz (f i))), (6, .int (iz (i))), (5, .int (iz (41))), (4, .ref am), (0, .ref y)]) hx hb dX5_countChanges_81 rfl hl (by decide) rfl (fun ls hl => ?_)
                  refine lv_iinc (v := iz (i + 1)) (lv' := [(6, .int (iz (i + 1))), (2, .long (lz (f i))), (1, .int (iz (w + 0))), (7, .long (lz (f i))), (5, .int (iz (41))), (4, .ref am), (0, .ref y)]) hx hb dX5_countChanges_82 hl (k := 3) rfl (by rw [show Int32.ofInt (1) = iz (1) from rfl, iz_add]) (by decide) rfl (fun ls hl => ?_)
                  refine lv_goto (tgt := 18) hx hb dX5_countChanges_85 (by decide) ?_
                  exact ih_18 (i + 1) (w + 0) (f i) _ _ _ (by omega) (by omega) (by first | exact zchg_z k1.1 k2 k4 (by omega) | exact zchg_i k1.1 k2 k4 (by unfold zch1; first | exact (if_pos (by omega)).symm | exact ((if_neg (by omega)).trans (if_pos (by omega))).symm | exact ((if_neg (by omega)).trans (if_neg (by omega))).symm)) (by omega) (by rw [zls_i k1.1 k4]; first | exact (if_pos (by omega)).symm | exact (if_neg (by omega)).symm) (by omega) (hP) (hD) hS (lv_sub hl [0, 4, 5, 1, 2, 6] rfl)
                · exact absurd h_10 (by omega)
  exact hl_18 ((41 - 0 : Int).toNat + 1) 0 0 0 _ _ _ (Nat.lt_succ_self _) (by omega) (rfl) (by omega) (rfl) (by omega) (hP) (hD) hS (hl)

def rm_c_X5_lastPaying : Room := { frames := 0, cells := 0, slots := 0, locals := 0 }
theorem iw_X5_lastPaying_X5 : ∀ w ∈ wsX50, w ∈ wsX5_lastPaying := by decide +kernel
set_option maxHeartbeats 1000000 in
set_option maxRecDepth 100000 in
theorem c_X5_lastPaying (l : Launch) (G : zG) (y : Nat) (am : Nat) (q : Nat) (bq : Nat) (f : Int → Int) (hf : zrok f) : zM l G yX5_lastPaying wsX5_lastPaying rm_c_X5_lastPaying [.ref y] [(y, .inr (6, [.ref am, .ref q, .ref bq])), (am, zaL (G.2 0) 41 (f))] (fun A => zQi G (fun (z : Int) (_ : Unit) => 0 ≤ z ∧ z ≤ 40 ∧ ∀ j : Int, z < j → j ≤ 40 → f j = 0) (fun (_ : Unit) => [(y, .inr (6, [.ref am, .ref q, .ref bq])), (am, zaL (G.2 0) 41 (f))]) A) 0 0 := by
  refine zM_of (cc := cX5_lastPaying) (maxL := 2) (ret := (some .int)) (by decide) rfl (Nat.le_of_ble_eq_true rfl) ?_
  intro p e s m below meth c ls A Q hQ hx hb hr hts hown hlocks hml hnm hKX hP hD hA hS hl
  have hK := hKX.1
  have iwX5 := iw_X5_lastPaying_X5
  obtain ⟨H, hH⟩ : ∃ h, h = s.heap := ⟨_, rfl⟩
  obtain ⟨locs, hlo⟩ : ∃ h : List Loc, h = [] := ⟨_, rfl⟩
  have hS : va_S A s.heap H locs := by rw [hH, hlo]; exact hS
  have hP : va_P G.1 vwCl [(y, .inr (6, [.ref am, .ref q, .ref bq])), (am, zaL (G.2 0) 41 (f))] H := by rw [hH]; exact hP
  have hD : va_D A [(y, .inr (6, [.ref am, .ref q, .ref bq])), (am, zaL (G.2 0) 41 (f))] := hD
  have hl : lv_has ls 2 [(0, .ref y)] := hl
  rw [← hH, ← hlo]
  refine lv_bipush (v := iz (40)) hx hb dX5_lastPaying_0 rfl ?_
  refine lv_istore_n (lv' := [(1, .int (iz (40))), (0, .ref y)]) hx hb dX5_lastPaying_2 rfl hl (by decide) rfl (fun ls hl => ?_)
  have hl_3 : ∀ (zn_3 : Nat) (i : Int) (H : Heap) (locs : List Loc) (ls : Array Slot), (i).toNat < zn_3 → (0 ≤ i ∧ i ≤ 40) → (∀ j : Int, i < j → j ≤ 40 → f j = 0) → va_P G.1 vwCl [(y, .inr (6, [.ref am, .ref q, .ref bq])), (am, zaL (G.2 0) 41 (f))] H → va_D A [(y, .inr (6, [.ref am, .ref q, .ref bq])), (am, zaL (G.2 0) 41 (f))] → va_S A s.heap H locs → lv_has ls 2 [(1, .int (iz (i))), (0, .ref y)] → W p l e rm_c_X5_lastPaying s m ([.ref y] : List Value).toArray below meth c H locs 0 0 Q (F0 m 3 ls []) := by
    intro zn_3
    induction zn_3 with
    | zero => intro i H locs ls hm; exact absurd hm (Nat.not_lt_zero _)
    | succ zn_3 ih_3 =>
      intro i H locs ls hm_3 k1 k2 hP hD hS hl
      refine lv_iload_n hx hb dX5_lastPaying_3 rfl (lv_at hl 0 rfl) ?_
      refine zr_if_le (x := i) (tgt := 24) hx hb (⟨by omega, by omega⟩) dX5_lastPaying_4 (by decide) (fun h_1 => ?_) (fun h_1 => ?_)
      ·
        refine lv_iload_n hx hb dX5_lastPaying_24 rfl (lv_at hl 0 rfl) ?_
        rw [hQ]
        exact zr_iret (z := i) (u := ()) hx hb hr hlocks hP hD hS (by first | exact Nat.le_of_ble_eq_true rfl | omega) (by first | exact Nat.le_of_ble_eq_true rfl | omega) dX5_lastPaying_25 (show 0 ≤ i ∧ i ≤ 40 ∧ ∀ j : Int, i < j → j ≤ 40 → f j = 0 from ⟨k1.1, k1.2, k2⟩)
      ·
        have hfi := hf i (by omega) (by omega)
        refine lv_aload_n hx hb dX5_lastPaying_7 rfl (lv_at hl 1 rfl) ?_
        refine va_get (D := G.1) (ci := 6) (v := .ref am) (C := RX5) (T := TX5) (N := 3) hx hb hts iwX5 hown hK hP 0 rfl rfl 0 (by decide) (hts (.fieldLink RX5 9 "AnnuityHouse$Row" "amounts" "[J") (by decide +kernel)) (fun _ h9 => h9) rfl dX5_lastPaying_8 ?_
        refine lv_iload_n hx hb dX5_lastPaying_11 rfl (lv_at hl 0 rfl) ?_
        refine zr_lald hx hb hK hP 1 0 rfl rfl (i := i) (⟨by omega, by omega, by omega⟩) dX5_lastPaying_12 ?_
        refine lv_lconst (v := lz (0)) hx hb dX5_lastPaying_13 rfl ?_
        refine zr_lcmp_ne (x := f i) (y := 0) (tgt := 24) hx hb (⟨by omega, by omega⟩) (⟨by omega, by omega⟩) dX5_lastPaying_14 dX5_lastPaying_15 (by decide) (fun h_2 => ?_) (fun h_2 => ?_)
        ·
          refine lv_iload_n hx hb dX5_lastPaying_24 rfl (lv_at hl 0 rfl) ?_
          rw [hQ]
          exact zr_iret (z := i) (u := ()) hx hb hr hlocks hP hD hS (by first | exact Nat.le_of_ble_eq_true rfl | omega) (by first | exact Nat.le_of_ble_eq_true rfl | omega) dX5_lastPaying_25 (show 0 ≤ i ∧ i ≤ 40 ∧ ∀ j : Int, i < j → j ≤ 40 → f j = 0 from ⟨k1.1, k1.2, k2⟩)
        ·
          have hz0 := h_2
          refine lv_iinc (v := iz (i - 1)) (lv' := [(1, .int (iz (i - 1))), (0, .ref y)]) hx hb dX5_lastPaying_18 hl (k := 0) rfl (by rw [show Int32.ofInt (-1) = iz (-1) from rfl, iz_add]; exact congrArg iz (by omega)) (by decide) rfl (fun ls hl => ?_)
          refine lv_goto (tgt := 3) hx hb dX5_lastPaying_21 (by decide) ?_
          exact ih_3 (i - 1) _ _ _ (by omega) (by omega) (fun j a b => (show j = i ∨ i < j by omega).elim (fun q => by rw [q]; exact hz0) (fun q => k2 j q b)) (hP) (hD) hS (hl)
  exact hl_3 ((40 : Int).toNat + 1) 40 _ _ _ (Nat.lt_succ_self _) (by omega) (fun j a b => absurd b (by omega)) (hP) (hD) hS (hl)

def rm_c_X5_firstSign : Room := { frames := 0, cells := 0, slots := 0, locals := 0 }
theorem iw_X5_firstSign_X5 : ∀ w ∈ wsX50, w ∈ wsX5_firstSign := by decide +kernel
set_option maxHeartbeats 1000000 in
set_option maxRecDepth 100000 in
theorem c_X5_firstSign (l : Launch) (G : zG) (y : Nat) (am : Nat) (q : Nat) (bq : Nat) (f : Int → Int) (hf : zrok f) : zM l G yX5_firstSign wsX5_firstSign rm_c_X5_firstSign [.ref y] [(y, .inr (6, [.ref am, .ref q, .ref bq])), (am, zaL (G.2 0) 41 (f))] (fun A => zQi G (fun (z : Int) (_ : Unit) => z = zfs f 41) (fun (_ : Unit) => [(y, .inr (6, [.ref am, .ref q, .ref bq])), (am, zaL (G.2 0) 41 (f))]) A) 0 0 := by
  refine zM_of (cc := cX5_firstSign) (maxL := 6) (ret := (some .int)) (by decide) rfl (Nat.le_of_ble_eq_true rfl) ?_
  intro p e s m below meth c ls A Q hQ hx hb hr hts hown hlocks hml hnm hKX hP hD hA hS hl
  have hK := hKX.1
  have iwX5 := iw_X5_firstSign_X5
  obtain ⟨H, hH⟩ : ∃ h, h = s.heap := ⟨_, rfl⟩
  obtain ⟨locs, hlo⟩ : ∃ h : List Loc, h = [] := ⟨_, rfl⟩
  have hS : va_S A s.heap H locs := by rw [hH, hlo]; exact hS
  have hP : va_P G.1 vwCl [(y, .inr (6, [.ref am, .ref q, .ref bq])), (am, zaL (G.2 0) 41 (f))] H := by rw [hH]; exact hP
  have hD : va_D A [(y, .inr (6, [.ref am, .ref q, .ref bq])), (am, zaL (G.2 0) 41 (f))] := hD
  have hl : lv_has ls 6 [(0, .ref y)] := hl
  rw [← hH, ← hlo]
  refine lv_aload_n hx hb dX5_firstSign_0 rfl (lv_at hl 0 rfl) ?_
  refine va_get (D := G.1) (ci := 6) (v := .ref am) (C := RX5) (T := TX5) (N := 3) hx hb hts iwX5 hown hK hP 0 rfl rfl 0 (by decide) (hts (.fieldLink RX5 9 "AnnuityHouse$Row" "amounts" "[J") (by decide +kernel)) (fun _ h9 => h9) rfl dX5_firstSign_1 ?_
  refine lv_astore_n (lv' := [(1, .ref am), (0, .ref y)]) hx hb dX5_firstSign_4 rfl hl (by decide) rfl (fun ls hl => ?_)
  refine lv_aload_n hx hb dX5_firstSign_5 rfl (lv_at hl 0 rfl) ?_
  refine zr_alenL hx hb hK hP 1 0 rfl rfl dX5_firstSign_6 ?_
  refine lv_istore_n (lv' := [(2, .int (iz (41))), (1, .ref am), (0, .ref y)]) hx hb dX5_firstSign_7 rfl hl (by decide) rfl (fun ls hl => ?_)
  refine lv_iconst (v := iz (0)) hx hb dX5_firstSign_8 rfl ?_
  refine lv_istore_n (lv' := [(3, .int (iz (0))), (2, .int (iz (41))), (1, .ref am), (0, .ref y)]) hx hb dX5_firstSign_9 rfl hl (by decide) rfl (fun ls hl => ?_)
  have hl_10 : ∀ (zn_10 : Nat) (i : Int) (H : Heap) (locs : List Loc) (ls : Array Slot), (41 - i).toNat < zn_10 → (0 ≤ i ∧ i ≤ 41) → (∀ j : Int, 0 ≤ j → j < i → f j = 0) → va_P G.1 vwCl [(y, .inr (6, [.ref am, .ref q, .ref bq])), (am, zaL (G.2 0) 41 (f))] H → va_D A [(y, .inr (6, [.ref am, .ref q, .ref bq])), (am, zaL (G.2 0) 41 (f))] → va_S A s.heap H locs → lv_has ls 6 [(3, .int (iz (i))), (2, .int (iz (41))), (1, .ref am), (0, .ref y)] → W p l e rm_c_X5_firstSign s m ([.ref y] : List Value).toArray below meth c H locs 0 0 Q (F0 m 10 ls []) := by
    intro zn_10
    induction zn_10 with
    | zero => intro i H locs ls hm; exact absurd hm (Nat.not_lt_zero _)
    | succ zn_10 ih_10 =>
      intro i H locs ls hm_10 k1 k2 hP hD hS hl
      refine lv_iload_n hx hb dX5_firstSign_10 rfl (lv_at hl 0 rfl) ?_
      refine lv_iload_n hx hb dX5_firstSign_11 rfl (lv_at hl 1 rfl) ?_
      refine zr_icmp_ge (x := i) (y := 41) (tgt := 46) hx hb (⟨by omega, by omega⟩) (⟨by omega, by omega⟩) dX5_firstSign_12 (by decide) (fun h_1 => ?_) (fun h_1 => ?_)
      ·
        refine lv_iconst (v := iz (0)) hx hb dX5_firstSign_46 rfl ?_
        rw [hQ]
        exact zr_iret (z := 0) (u := ()) hx hb hr hlocks hP hD hS (by first | exact Nat.le_of_ble_eq_true rfl | omega) (by first | exact Nat.le_of_ble_eq_true rfl | omega) dX5_firstSign_47 (show 0 = zfs f 41 from by first | exact ((zfs_at k1.1 (by omega) k2 (by omega)).trans (Int.sign_eq_neg_one_of_neg (by omega))).symm | exact ((zfs_at k1.1 (by omega) k2 (by omega)).trans (Int.sign_eq_one_of_pos (by omega))).symm | exact (zfs_0 41 (fun j a b => k2 j a (by omega))).symm)
      ·
        have hfi := hf i (by omega) (by omega)
        refine lv_aload_n hx hb dX5_firstSign_15 rfl (lv_at hl 2 rfl) ?_
        refine lv_iload_n hx hb dX5_firstSign_16 rfl (lv_at hl 0 rfl) ?_
        refine zr_lald hx hb hK hP 1 0 rfl rfl (i := i) (⟨by omega, by omega, by omega⟩) dX5_firstSign_17 ?_
        refine lv_lstore (lv' := [(4, .long (lz (f i))), (3, .int (iz (i))), (2, .int (iz (41))), (1, .ref am), (0, .ref y)]) hx hb dX5_firstSign_18 hl (by decide) rfl (fun ls hl => ?_)
        refine lv_lload hx hb dX5_firstSign_20 (lv_at hl 0 rfl) ?_
        refine lv_lconst (v := lz (0)) hx hb dX5_firstSign_22 rfl ?_
        refine zr_lcmp_eq (x := f i) (y := 0) (tgt := 40) hx hb (⟨by omega, by omega⟩) (⟨by omega, by omega⟩) dX5_firstSign_23 dX5_firstSign_24 (by decide) (fun h_2 => ?_) (fun h_2 => ?_)
        ·
          refine lv_iinc (v := iz (i + 1)) (lv' := [(3, .int (iz (i + 1))), (4, .long (lz (f i))), (2, .int (iz (41))), (1, .ref am), (0, .ref y)]) hx hb dX5_firstSign_40 hl (k := 1) rfl (by rw [show Int32.ofInt (1) = iz (1) from rfl, iz_add]) (by decide) rfl (fun ls hl => ?_)
          refine lv_goto (tgt := 10) hx hb dX5_firstSign_43 (by decide) ?_
          exact ih_10 (i + 1) _ _ _ (by omega) (by omega) (fun j a b => (show j = i ∨ j < i by omega).elim (fun q => by rw [q]; omega) (fun q => k2 j a q)) (hP) (hD) hS (lv_sub hl [0, 2, 3, 4] rfl)
        ·
          refine lv_lload hx hb dX5_firstSign_27 (lv_at hl 0 rfl) ?_
          refine lv_lconst (v := lz (0)) hx hb dX5_firstSign_29 rfl ?_
          refine zr_lcmp_ge (x := f i) (y := 0) (tgt := 38) hx hb (⟨by omega, by omega⟩) (⟨by omega, by omega⟩) dX5_firstSign_30 dX5_firstSign_31 (by decide) (fun h_3 => ?_) (fun h_3 => ?_)
          ·
            refine lv_iconst (v := iz (1)) hx hb dX5_firstSign_38 rfl ?_
            rw [hQ]
            exact zr_iret (z := 1) (u := ()) hx hb hr hlocks hP hD hS (by first | exact Nat.le_of_ble_eq_true rfl | omega) (by first | exact Nat.le_of_ble_eq_true rfl | omega) dX5_firstSign_39 (show 1 = zfs f 41 from by first | exact ((zfs_at k1.1 (by omega) k2 (by omega)).trans (Int.sign_eq_neg_one_of_neg (by omega))).symm | exact ((zfs_at k1.1 (by omega) k2 (by omega)).trans (Int.sign_eq_one_of_pos (by omega))).symm | exact (zfs_0 41 (fun j a b => k2 j a (by omega))).symm)
          ·
            refine lv_iconst (v := iz (-1)) hx hb dX5_firstSign_34 rfl ?_
            refine lv_goto (tgt := 39) hx hb dX5_firstSign_35 (by decide) ?_
            rw [hQ]
            exact zr_iret (z := -1) (u := ()) hx hb hr hlocks hP hD hS (by first | exact Nat.le_of_ble_eq_true rfl | omega) (by first | exact Nat.le_of_ble_eq_true rfl | omega) dX5_firstSign_39 (show (-1) = zfs f 41 from by first | exact ((zfs_at k1.1 (by omega) k2 (by omega)).trans (Int.sign_eq_neg_one_of_neg (by omega))).symm | exact ((zfs_at k1.1 (by omega) k2 (by omega)).trans (Int.sign_eq_one_of_pos (by omega))).symm | exact (zfs_0 41 (fun j a b => k2 j a (by omega))).symm)
  exact hl_10 ((41 - 0 : Int).toNat + 1) 0 _ _ _ (Nat.lt_succ_self _) (by omega) (fun j a b => absurd b (by omega)) (hP) (hD) hS (hl)

def rm_c_X5_carry : Room := { frames := 4, cells := 0, slots := 0, locals := 99 }
theorem iw_X5_carry_X5 : ∀ w ∈ wsX50, w ∈ wsX5_carry := by decide +kernel
set_option maxHeartbeats 1000000 in
set_option maxRecDepth 100000 in
theorem c_X5_carry (l : Launch) (G : zG) (y : Nat) (am : Nat) (q : Nat) (bq : Nat) (f : Int → Int) (wa : Nat) (sa : Nat) (sb : Nat) (sf : Int → Int) (sn : Int) (st : Int) (da : Nat) (db : Nat) (df : Int → Int) (dn : Int) (dt : Int) (u0 : Int) (d0 : Int) (p0 : Int) (po : Int) (la : Int) (hf : zrok f) (h2 : 0 ≤ la ∧ la ≤ 40) (h3 : 0 ≤ po ∧ po ≤ 20000) : zM l G yX5_carry wsX5_carry rm_c_X5_carry [.ref y, .int (iz (po)), .int (iz (la))] [(y, .inr (6, [.ref am, .ref q, .ref bq])), (am, zaL (G.2 0) 41 (f)), (q, .inr (2, [.ref sa, .ref da, .ref wa, .long (lz (u0)), .long (lz (d0)), .int (iz (p0))])), (sa, .inr (9, [.ref sb, .int (iz (sn)), .long (lz (st))])), (sb, zaL (G.2 0) 40 (sf)), (da, .inr (9, [.ref db, .int (iz (dn)), .long (lz (dt))])), (db, zaL (G.2 0) 40 (df))] (fun A => zQv G (fun (u : (Int → Int) × Int × Int × (Int → Int) × Int × Int × Int) => zwv u.1 u.2.1 u.2.2.1 (zrow (zqu po) (zqd po) f la.toNat)) (fun (u : (Int → Int) × Int × Int × (Int → Int) × Int × Int × Int) => [(y, .inr (6, [.ref am, .ref q, .ref bq])), (am, zaL (G.2 0) 41 (f)), (q, .inr (2, [.ref sa, .ref da, .ref wa, .long (lz (zqu po)), .long (lz (zqd po)), .int (iz (u.2.2.2.2.2.2))])), (sa, .inr (9, [.ref sb, .int (iz (u.2.1)), .long (lz (u.2.2.1))])), (sb, zaL (G.2 0) 40 (u.1)), (da, .inr (9, [.ref db, .int (iz (u.2.2.2.2.1)), .long (lz (u.2.2.2.2.2.1))])), (db, zaL (G.2 0) 40 (u.2.2.2.1))]) A) 0 0 := by
  refine zM_of (cc := cX5_carry) (maxL := 4) (ret := none) (by decide) rfl (Nat.le_of_ble_eq_true rfl) ?_
  intro p e s m below meth c ls A Q hQ hx hb hr hts hown hlocks hml hnm hKX hP hD hA hS hl
  have hK := hKX.1
  have iwX5 := iw_X5_carry_X5
  obtain ⟨H, hH⟩ : ∃ h, h = s.heap := ⟨_, rfl⟩
  obtain ⟨locs, hlo⟩ : ∃ h : List Loc, h = [] := ⟨_, rfl⟩
  have hS : va_S A s.heap H locs := by rw [hH, hlo]; exact hS
  have hP : va_P G.1 vwCl [(y, .inr (6, [.ref am, .ref q, .ref bq])), (am, zaL (G.2 0) 41 (f)), (q, .inr (2, [.ref sa, .ref da, .ref wa, .long (lz (u0)), .long (lz (d0)), .int (iz (p0))])), (sa, .inr (9, [.ref sb, .int (iz (sn)), .long (lz (st))])), (sb, zaL (G.2 0) 40 (sf)), (da, .inr (9, [.ref db, .int (iz (dn)), .long (lz (dt))])), (db, zaL (G.2 0) 40 (df))] H := by rw [hH]; exact hP
  have hD : va_D A [(y, .inr (6, [.ref am, .ref q, .ref bq])), (am, zaL (G.2 0) 41 (f)), (q, .inr (2, [.ref sa, .ref da, .ref wa, .long (lz (u0)), .long (lz (d0)), .int (iz (p0))])), (sa, .inr (9, [.ref sb, .int (iz (sn)), .long (lz (st))])), (sb, zaL (G.2 0) 40 (sf)), (da, .inr (9, [.ref db, .int (iz (dn)), .long (lz (dt))])), (db, zaL (G.2 0) 40 (df))] := hD
  have hl : lv_has ls 4 [(0, .ref y), (1, .int (iz (po))), (2, .int (iz (la)))] := hl
  rw [← hH, ← hlo]
  have hrg := zq_rng h3
  have hf0 := hf 0 (by omega) (by omega)
  refine lv_aload_n hx hb dX5_carry_0 rfl (lv_at hl 0 rfl) ?_
  refine va_get (D := G.1) (ci := 6) (v := .ref q) (C := RX5) (T := TX5) (N := 3) hx hb hts iwX5 hown hK hP 0 rfl rfl 1 (by decide) (hts (.fieldLink RX5 18 "AnnuityHouse$Row" "flow" "LAnnuityHouse$Flow;") (by decide +kernel)) (fun _ h9 => h9) rfl dX5_carry_1 ?_
  refine lv_iload_n hx hb dX5_carry_4 rfl (lv_at hl 1 rfl) ?_
  refine lv_aload_n hx hb dX5_carry_5 rfl (lv_at hl 0 rfl) ?_
  refine va_get (D := G.1) (ci := 6) (v := .ref am) (C := RX5) (T := TX5) (N := 3) hx hb hts iwX5 hown hK hP 0 rfl rfl 0 (by decide) (hts (.fieldLink RX5 9 "AnnuityHouse$Row" "amounts" "[J") (by decide +kernel)) (fun _ h9 => h9) rfl dX5_carry_6 ?_
  refine lv_iconst (v := iz (0)) hx hb dX5_carry_9 rfl ?_
  refine zr_lald hx hb hK hP 1 0 rfl rfl (i := 0) (⟨by omega, by omega, by omega⟩) dX5_carry_10 ?_
  refine zc_v (wr := [(y, .inr (6, [.ref am, .ref q, .ref bq])), (am, zaL (G.2 0) 41 (f))]) (va_runV (As := [.int (iz (po)), .long (lz (f 0))]) (rest := []) ⟨hx, hb, hml, hown, hts⟩ (c_X1_begin l G q wa sa sb sf sn st da db df dn dt u0 d0 p0 po (f 0) (by omega) (by omega) H.size) (cwV 2 hts gX5_carry_X1_begin rfl rfl rfl (by decide +kernel) ⟨Nat.le_of_ble_eq_true rfl, Nat.le_of_ble_eq_true rfl⟩) (zpV hKX hP hD [2, 3, 4, 5, 6] rfl rfl 2 2 rfl rfl) rfl rfl hl.1 rfl (lv_room (Nat.le_of_ble_eq_true rfl)) dX5_carry_11 ⟨(by first | exact Nat.le_of_ble_eq_true rfl | (show _ ≤ (0 : Nat); omega)), (by first | exact Nat.le_of_ble_eq_true rfl | (show _ ≤ (0 : Nat); omega))⟩) hP hD hS hA [2, 3, 4, 5, 6] [0, 1] rfl rfl rfl (by decide) (fun u_1 H locs hbg hP hD hS => ?_)
  obtain ⟨sf1, sn1, st1, df1, dn1, dt1⟩ := u_1
  have hP : va_P G.1 vwCl [(y, .inr (6, [.ref am, .ref q, .ref bq])), (am, zaL (G.2 0) 41 (f)), (q, .inr (2, [.ref sa, .ref da, .ref wa, .long (lz (zqu po)), .long (lz (zqd po)), .int (iz (0))])), (sa, .inr (9, [.ref sb, .int (iz (sn1)), .long (lz (st1))])), (sb, zaL (G.2 0) 40 (sf1)), (da, .inr (9, [.ref db, .int (iz (dn1)), .long (lz (dt1))])), (db, zaL (G.2 0) 40 (df1))] H := hP
  have hD : va_D A [(y, .inr (6, [.ref am, .ref q, .ref bq])), (am, zaL (G.2 0) 41 (f)), (q, .inr (2, [.ref sa, .ref da, .ref wa, .long (lz (zqu po)), .long (lz (zqd po)), .int (iz (0))])), (sa, .inr (9, [.ref sb, .int (iz (sn1)), .long (lz (st1))])), (sb, zaL (G.2 0) 40 (sf1)), (da, .inr (9, [.ref db, .int (iz (dn1)), .long (lz (dt1))])), (db, zaL (G.2 0) 40 (df1))] := hD
  have hbg : zwv sf1 sn1 st1 (f 0) ∧ zwv df1 dn1 dt1 1 := hbg
  refine lv_iconst (v := iz (1)) hx hb dX5_carry_14 rfl ?_
  refine lv_istore_n (lv' := [(3, .int (iz (1))), (0, .ref y), (1, .int (iz (po))), (2, .int (iz (la)))]) hx hb dX5_carry_15 rfl hl (by decide) rfl (fun ls hl => ?_)
  have hl_16 : ∀ (zn_16 : Nat) (i : Int) (pq : Int) (sg : Int → Int) (sm : Int) (su : Int) (dg : Int → Int) (dm : Int) (du : Int) (H : Heap) (locs : List Loc) (ls : Array Slot), (la + 1 - i).toNat < zn_16 → (1 ≤ i ∧ i ≤ la + 1) → (zwv sg sm su (zrow (zqu po) (zqd po) f (i - 1).toNat)) → (zwv dg dm du ((zqd po) ^ (i - 1).toNat)) → va_P G.1 vwCl [(y, .inr (6, [.ref am, .ref q, .ref bq])), (am, zaL (G.2 0) 41 (f)), (q, .inr (2, [.ref sa, .ref da, .ref wa, .long (lz (zqu po)), .long (lz (zqd po)), .int (iz (pq))])), (sa, .inr (9, [.ref sb, .int (iz (sm)), .long (lz (su))])), (sb, zaL (G.2 0) 40 (sg)), (da, .inr (9, [.ref db, .int (iz (dm)), .long (lz (du))])), (db, zaL (G.2 0) 40 (dg))] H → va_D A [(y, .inr (6, [.ref am, .ref q, .ref bq])), (am, zaL (G.2 0) 41 (f)), (q, .inr (2, [.ref sa, .ref da, .ref wa, .long (lz (zqu po)), .long (lz (zqd po)), .int (iz (pq))])), (sa, .inr (9, [.ref sb, .int (iz (sm)), .long (lz (su))])), (sb, zaL (G.2 0) 40 (sg)), (da, .inr (9, [.ref db, .int (iz (dm)), .long (lz (du))])), (db, zaL (G.2 0) 40 (dg))] → va_S A s.heap H locs → lv_has ls 4 [(3, .int (iz (i))), (0, .ref y), (1, .int (iz (po))), (2, .int (iz (la)))] → W p l e rm_c_X5_carry s m ([.ref y, .int (iz (po)), .int (iz (la))] : List Value).toArray below meth c H locs (0 + 0) (0 + 0) Q (F0 m 16 ls []) := by
    intro zn_16
    induction zn_16 with
    | zero => intro i pq sg sm su dg dm du H locs ls hm; exact absurd hm (Nat.not_lt_zero _)
    | succ zn_16 ih_16 =>
      intro i pq sg sm su dg dm du H locs ls hm_16 k1 k2 k3 hP hD hS hl
      refine lv_iload_n hx hb dX5_carry_16 rfl (lv_at hl 0 rfl) ?_
      refine lv_iload_n hx hb dX5_carry_17 rfl (lv_at hl 3 rfl) ?_
      refine zr_icmp_gt (x := i) (y := la) (tgt := 40) hx hb (⟨by omega, by omega⟩) (⟨by omega, by omega⟩) dX5_carry_18 (by decide) (fun h_4 => ?_) (fun h_4 => ?_)
      ·
        rw [hQ]
        exact zr_vret (u := (sg, sm, su, dg, dm, du, pq)) hx hb hr hlocks hP hD hS (by first | exact Nat.le_of_ble_eq_true rfl | omega) (by first | exact Nat.le_of_ble_eq_true rfl | omega) dX5_carry_40 (show zwv sg sm su (zrow (zqu po) (zqd po) f la.toNat) from by rw [show la = i - 1 by omega]; exact k2)
      ·
        have hfi := hf i (by omega) (by omega)
        refine lv_aload_n hx hb dX5_carry_21 rfl (lv_at hl 1 rfl) ?_
        refine va_get (D := G.1) (ci := 6) (v := .ref q) (C := RX5) (T := TX5) (N := 3) hx hb hts iwX5 hown hK hP 0 rfl rfl 1 (by decide) (hts (.fieldLink RX5 18 "AnnuityHouse$Row" "flow" "LAnnuityHouse$Flow;") (by decide +kernel)) (fun _ h9 => h9) rfl dX5_carry_22 ?_
        refine lv_aload_n hx hb dX5_carry_25 rfl (lv_at hl 1 rfl) ?_
        refine va_get (D := G.1) (ci := 6) (v := .ref am) (C := RX5) (T := TX5) (N := 3) hx hb hts iwX5 hown hK hP 0 rfl rfl 0 (by decide) (hts (.fieldLink RX5 9 "AnnuityHouse$Row" "amounts" "[J") (by decide +kernel)) (fun _ h9 => h9) rfl dX5_carry_26 ?_
        refine lv_iload_n hx hb dX5_carry_29 rfl (lv_at hl 0 rfl) ?_
        refine zr_lald hx hb hK hP 1 0 rfl rfl (i := i) (⟨by omega, by omega, by omega⟩) dX5_carry_30 ?_
        have hb1 := zrow_35 (U := zqu po) (P := zqd po) (A := 2000000000) (f := f) (by omega) (by omega) (i - 1).toNat (fun j a b => hf.two j a (by omega)) (by decide) (Or.inl ⟨by omega, by decide⟩)
        have hs1 := zwv_small k2 (k := 37) (by have := z35_37; omega) (by have := z35_37; omega)
        have hb2 := zrp (P := zqd po) (k := i - 1) (by omega) (by omega)
        have hs2 := zwv_small k3 (k := 37) (by have := z35_37; omega) (by have := z35_37; omega)
        have hb3 := zrp (P := zqd po) (k := i + 1 - 1) (by omega) (by omega)
        have ep : (zqd po) ^ (i - 1).toNat * zqd po = (zqd po) ^ (i + 1 - 1).toNat := by rw [show (i + 1 - 1).toNat = (i - 1).toNat + 1 by omega, Int.pow_succ]
        refine zc_v (wr := [(y, .inr (6, [.ref am, .ref q, .ref bq])), (am, zaL (G.2 0) 41 (f))]) (va_runV (As := [.long (lz (f i))]) (rest := []) ⟨hx, hb, hml, hown, hts⟩ (c_X1_next l G q wa sa sb sg sm su da db dg dm du (zqu po) (zqd po) pq (zrow (zqu po) (zqd po) (f) (i - 1).toNat) ((zqd po) ^ (i - 1).toNat) (f i) (k2) (k3) (by omega) (by omega) (by omega) (by rw [ep]; have := z35_37; omega) H.size) (cwV 1 hts gX5_carry_X1_next rfl rfl rfl (by decide +kernel) ⟨Nat.le_of_ble_eq_true rfl, Nat.le_of_ble_eq_true rfl⟩) (zpV hKX hP hD [2, 3, 4, 5, 6] rfl rfl 2 2 rfl rfl) rfl rfl hl.1 rfl (lv_room (Nat.le_of_ble_eq_true rfl)) dX5_carry_31 ⟨(by first | exact Nat.le_of_ble_eq_true rfl | (show _ ≤ (0 : Nat); omega)), (by first | exact Nat.le_of_ble_eq_true rfl | (show _ ≤ (0 : Nat); omega))⟩) hP hD hS hA [2, 3, 4, 5, 6] [0, 1] rfl rfl rfl (by decide) (fun u_5 H locs qn hP hD hS => ?_)
        obtain ⟨sf3, sn3, st3, df3, dn3, dt3⟩ := u_5
        have hP : va_P G.1 vwCl [(y, .inr (6, [.ref am, .ref q, .ref bq])), (am, zaL (G.2 0) 41 (f)), (q, .inr (2, [.ref sa, .ref da, .ref wa, .long (lz ((zqu po))), .long (lz ((zqd po))), .int (iz (pq + 1))])), (sa, .inr (9, [.ref sb, .int (iz (sn3)), .long (lz (st3))])), (sb, zaL (G.2 0) 40 (sf3)), (da, .inr (9, [.ref db, .int (iz (dn3)), .long (lz (dt3))])), (db, zaL (G.2 0) 40 (df3))] H := hP
        have hD : va_D A [(y, .inr (6, [.ref am, .ref q, .ref bq])), (am, zaL (G.2 0) 41 (f)), (q, .inr (2, [.ref sa, .ref da, .ref wa, .long (lz ((zqu po))), .long (lz ((zqd po))), .int (iz (pq + 1))])), (sa, .inr (9, [.ref sb, .int (iz (sn3)), .long (lz (st3))])), (sb, zaL (G.2 0) 40 (sf3)), (da, .inr (9, [.ref db, .int (iz (dn3)), .long (lz (dt3))])), (db, zaL (G.2 0) 40 (df3))] := hD
        have qn : zwv sf3 sn3 st3 ((zrow (zqu po) (zqd po) (f) (i - 1).toNat) * (zqu po) + ((zqd po) ^ (i - 1).toNat) * (zqd po) * (f i)) ∧ zwv df3 dn3 dt3 (((zqd po) ^ (i - 1).toNat) * (zqd po)) := qn
        have qs := qn.1
        have qd := qn.2
        rw [ep] at qd
        refine lv_iinc (v := iz (i + 1)) (lv' := [(3, .int (iz (i + 1))), (0, .ref y), (1, .int (iz (po))), (2, .int (iz (la)))]) hx hb dX5_carry_34 hl (k := 0) rfl (by rw [show Int32.ofInt (1) = iz (1) from rfl, iz_add]) (by decide) rfl (fun ls hl => ?_)
        refine lv_goto (tgt := 16) hx hb dX5_carry_37 (by decide) ?_
        refine W.widen (k := 0 + 0) (n := 0 + 0) (by omega) (by omega) ?_
        exact ih_16 (i + 1) (pq + 1) sf3 sn3 st3 df3 dn3 dt3 _ _ _ (by omega) (by omega) (by rw [← zrw_next (U := zqu po) (P := zqd po) (f := f) k1.1 rfl]; exact qs) (qd) (hP) (hD) hS (hl)
  exact hl_16 ((la + 1 - 1 : Int).toNat + 1) 1 0 sf1 sn1 st1 df1 dn1 dt1 _ _ _ (Nat.lt_succ_self _) (by omega) (hbg.1) (by simpa using hbg.2) (hP) (hD) hS (hl)

def rm_c_X5_worthIn : Room := { frames := 9, cells := 1, slots := 6, locals := 162 }
theorem iw_X5_worthIn_X1 : ∀ w ∈ wsX10, w ∈ wsX5_worthIn := by decide +kernel
theorem iw_X5_worthIn_X5 : ∀ w ∈ wsX50, w ∈ wsX5_worthIn := by decide +kernel
set_option maxHeartbeats 1000000 in
set_option maxRecDepth 100000 in
theorem c_X5_worthIn (l : Launch) (G : zG) (s1 : Nat) (s2 : Nat) (s3 : Nat) (y : Nat) (am : Nat) (q : Nat) (bq : Nat) (f : Int → Int) (r : Nat) (md : Int) (sa : Nat) (sb : Nat) (sf : Int → Int) (sn : Int) (st : Int) (da : Nat) (db : Nat) (df : Int → Int) (dn : Int) (dt : Int) (wa : Nat) (wb : Nat) (wf : Int → Int) (wn : Int) (wt : Int) (u0 : Int) (d0 : Int) (p0 : Int) (pe : Int) (po : Int) (hl0 : l.stackTraces = false) (hmd : 0 ≤ md ∧ md ≤ 7) (hf : zrok f) (h2 : 0 ≤ pe ∧ pe ≤ 40) (h3 : 0 ≤ po ∧ po ≤ 20000) : zMt l (zXE s1 s2 s3) G yX5_worthIn wsX5_worthIn rm_c_X5_worthIn [.ref y, .int (iz (pe)), .int (iz (po)), .ref r] [(y, .inr (6, [.ref am, .ref q, .ref bq])), (am, zaL (G.2 0) 41 (f)), (q, .inr (2, [.ref sa, .ref da, .ref wa, .long (lz (u0)), .long (lz (d0)), .int (iz (p0))])), (sa, .inr (9, [.ref sb, .int (iz (sn)), .long (lz (st))])), (sb, zaL (G.2 0) 40 (sf)), (da, .inr (9, [.ref db, .int (iz (dn)), .long (lz (dt))])), (db, zaL (G.2 0) 40 (df)), (wa, .inr (9, [.ref wb, .int (iz (wn)), .long (lz (wt))])), (wb, zaL (G.2 0) 40 (wf)), (r, .inr (5, [.int (iz (md))]))] (fun A => zQl G (fun (z : Int) (u : (Int → Int) × Int × Int × (Int → Int) × Int × Int × (Int → Int) × Int × Int × Int) => (znm f po % zqq po pe = 0 ∨ md ≠ 7) ∧ z = zrd md (znm f po) (zqq po pe)) (fun (u : (Int → Int) × Int × Int × (Int → Int) × Int × Int × (Int → Int) × Int × Int × Int) => [(y, .inr (6, [.ref am, .ref q, .ref bq])), (am, zaL (G.2 0) 41 (f)), (q, .inr (2, [.ref sa, .ref da, .ref wa, .long (lz (zqu po)), .long (lz (zqd po)), .int (iz (u.2.2.2.2.2.2.2.2.2))])), (sa, .inr (9, [.ref sb, .int (iz (u.2.1)), .long (lz (u.2.2.1))])), (sb, zaL (G.2 0) 40 (u.1)), (da, .inr (9, [.ref db, .int (iz (u.2.2.2.2.1)), .long (lz (u.2.2.2.2.2.1))])), (db, zaL (G.2 0) 40 (u.2.2.2.1)), (wa, .inr (9, [.ref wb, .int (iz (u.2.2.2.2.2.2.2.1)), .long (lz (u.2.2.2.2.2.2.2.2.1))])), (wb, zaL (G.2 0) 40 (u.2.2.2.2.2.2.1)), (r, .inr (5, [.int (iz (md))]))]) A) (SX := (Int → Int) × Int × Int × (Int → Int) × Int × Int × (Int → Int) × Int × Int × Int) (fun (E9 : String) (ux : (Int → Int) × Int × Int × (Int → Int) × Int × Int × (Int → Int) × Int × Int × Int) => (E9 = "java/lang/IllegalStateException" ∧ md = 7 ∧ znm f po % zqq po pe ≠ 0)) (fun (ux : (Int → Int) × Int × Int × (Int → Int) × Int × Int × (Int → Int) × Int × Int × Int) => [(y, .inr (6, [.ref am, .ref q, .ref bq])), (am, zaL (G.2 0) 41 (f)), (q, .inr (2, [.ref sa, .ref da, .ref wa, .long (lz (zqu po)), .long (lz (zqd po)), .int (iz (ux.2.2.2.2.2.2.2.2.2))])), (sa, .inr (9, [.ref sb, .int (iz (ux.2.1)), .long (lz (ux.2.2.1))])), (sb, zaL (G.2 0) 40 (ux.1)), (da, .inr (9, [.ref db, .int (iz (ux.2.2.2.2.1)), .long (lz (ux.2.2.2.2.2.1))])), (db, zaL (G.2 0) 40 (ux.2.2.2.1)), (wa, .inr (9, [.ref wb, .int (iz (ux.2.2.2.2.2.2.2.1)), .long (lz (ux.2.2.2.2.2.2.2.2.1))])), (wb, zaL (G.2 0) 40 (ux.2.2.2.2.2.2.1)), (r, .inr (5, [.int (iz (md))]))]) 1 6 := by
  refine zMt_of (cc := cX5_worthIn) (maxL := 6) (ret := (some .long)) (by decide) rfl (Nat.le_of_ble_eq_true rfl) ?_
  intro p e s m below meth c ls A Q hQ hx hb hr hts hown hlocks hml hout hKX hE hP hD hA hS hl
  have hK := hKX.1
  have iwX1 := iw_X5_worthIn_X1
  have iwX5 := iw_X5_worthIn_X5
  obtain ⟨H, hH⟩ : ∃ h, h = s.heap := ⟨_, rfl⟩
  obtain ⟨locs, hlo⟩ : ∃ h : List Loc, h = [] := ⟨_, rfl⟩
  have hS : va_S A s.heap H locs := by rw [hH, hlo]; exact hS
  have hP : va_P G.1 vwCl [(y, .inr (6, [.ref am, .ref q, .ref bq])), (am, zaL (G.2 0) 41 (f)), (q, .inr (2, [.ref sa, .ref da, .ref wa, .long (lz (u0)), .long (lz (d0)), .int (iz (p0))])), (sa, .inr (9, [.ref sb, .int (iz (sn)), .long (lz (st))])), (sb, zaL (G.2 0) 40 (sf)), (da, .inr (9, [.ref db, .int (iz (dn)), .long (lz (dt))])), (db, zaL (G.2 0) 40 (df)), (wa, .inr (9, [.ref wb, .int (iz (wn)), .long (lz (wt))])), (wb, zaL (G.2 0) 40 (wf)), (r, .inr (5, [.int (iz (md))]))] H := by rw [hH]; exact hP
  have hD : va_D A [(y, .inr (6, [.ref am, .ref q, .ref bq])), (am, zaL (G.2 0) 41 (f)), (q, .inr (2, [.ref sa, .ref da, .ref wa, .long (lz (u0)), .long (lz (d0)), .int (iz (p0))])), (sa, .inr (9, [.ref sb, .int (iz (sn)), .long (lz (st))])), (sb, zaL (G.2 0) 40 (sf)), (da, .inr (9, [.ref db, .int (iz (dn)), .long (lz (dt))])), (db, zaL (G.2 0) 40 (df)), (wa, .inr (9, [.ref wb, .int (iz (wn)), .long (lz (wt))])), (wb, zaL (G.2 0) 40 (wf)), (r, .inr (5, [.int (iz (md))]))] := hD
  have hl : lv_has ls 6 [(0, .ref y), (1, .int (iz (pe))), (2, .int (iz (po))), (3, .ref r)] := hl
  rw [← hH, ← hlo]
  have hrg := zq_rng h3
  refine lv_iload_n hx hb dX5_worthIn_0 rfl (lv_at hl 1 rfl) ?_
  refine lv_aload_n hx hb dX5_worthIn_1 rfl (lv_at hl 0 rfl) ?_
  refine zc_i (wr := [(q, .inr (2, [.ref sa, .ref da, .ref wa, .long (lz (u0)), .long (lz (d0)), .int (iz (p0))])), (sa, .inr (9, [.ref sb, .int (iz (sn)), .long (lz (st))])), (sb, zaL (G.2 0) 40 (sf)), (da, .inr (9, [.ref db, .int (iz (dn)), .long (lz (dt))])), (db, zaL (G.2 0) 40 (df)), (wa, .inr (9, [.ref wb, .int (iz (wn)), .long (lz (wt))])), (wb, zaL (G.2 0) 40 (wf)), (r, .inr (5, [.int (iz (md))]))]) (va_runV (As := []) (rest := [.int (iz (pe))]) ⟨hx, hb, hml, hown, hts⟩ (c_X5_lastPaying l G y am q bq f (by omega) H.size) (cwV 0 hts gX5_worthIn_X5_lastPaying rfl rfl rfl (by decide +kernel) ⟨Nat.le_of_ble_eq_true rfl, Nat.le_of_ble_eq_true rfl⟩) (zpV hKX hP hD [0, 1] rfl rfl 0 6 rfl rfl) rfl rfl hl.1 rfl (lv_room (Nat.le_of_ble_eq_true rfl)) dX5_worthIn_2 ⟨(by first | exact Nat.le_of_ble_eq_true rfl | (show _ ≤ (1 : Nat); omega)), (by first | exact Nat.le_of_ble_eq_true rfl | (show _ ≤ (6 : Nat); omega))⟩) hP hD hS hA [0, 1] [2, 3, 4, 5, 6, 7, 8, 9] rfl rfl rfl (by decide) (fun lp u_1 H locs hlp hP hD hS => ?_)
  have hP : va_P G.1 vwCl [(q, .inr (2, [.ref sa, .ref da, .ref wa, .long (lz (u0)), .long (lz (d0)), .int (iz (p0))])), (sa, .inr (9, [.ref sb, .int (iz (sn)), .long (lz (st))])), (sb, zaL (G.2 0) 40 (sf)), (da, .inr (9, [.ref db, .int (iz (dn)), .long (lz (dt))])), (db, zaL (G.2 0) 40 (df)), (wa, .inr (9, [.ref wb, .int (iz (wn)), .long (lz (wt))])), (wb, zaL (G.2 0) 40 (wf)), (r, .inr (5, [.int (iz (md))])), (y, .inr (6, [.ref am, .ref q, .ref bq])), (am, zaL (G.2 0) 41 (f))] H := hP
  have hD : va_D A [(q, .inr (2, [.ref sa, .ref da, .ref wa, .long (lz (u0)), .long (lz (d0)), .int (iz (p0))])), (sa, .inr (9, [.ref sb, .int (iz (sn)), .long (lz (st))])), (sb, zaL (G.2 0) 40 (sf)), (da, .inr (9, [.ref db, .int (iz (dn)), .long (lz (dt))])), (db, zaL (G.2 0) 40 (df)), (wa, .inr (9, [.ref wb, .int (iz (wn)), .long (lz (wt))])), (wb, zaL (G.2 0) 40 (wf)), (r, .inr (5, [.int (iz (md))])), (y, .inr (6, [.ref am, .ref q, .ref bq])), (am, zaL (G.2 0) 41 (f))] := hD
  have hlp : 0 ≤ lp ∧ lp ≤ 40 ∧ ∀ j : Int, lp < j → j ≤ 40 → f j = 0 := hlp
  refine zr_mmax (x := pe) (y := lp) hx hb (hml.trans hl.1.symm) hown (hts (.methodLink RX5 47 Lib.Math.max.name) (by decide +kernel)) (hts (.static Lib.Math.max.name) (by decide +kernel)) (hts (.initialized "java/lang/Math") (by decide +kernel)) (hts (.code Lib.Math.max.name Lib.Math.max.code 2 (some .int)) (by decide +kernel)) (Nat.le_of_ble_eq_true rfl) (Nat.le_of_ble_eq_true rfl) (by first | exact Nat.le_of_ble_eq_true rfl | (show _ ≤ (1 : Nat); omega)) (by first | exact Nat.le_of_ble_eq_true rfl | (show _ ≤ (6 : Nat); omega)) (⟨by omega, by omega⟩) (⟨by omega, by omega⟩) dX5_worthIn_5 ?_
  refine zr_namei (fun mx emx => ?_)
  refine lv_istore (lv' := [(4, .int (iz (mx))), (0, .ref y), (1, .int (iz (pe))), (2, .int (iz (po))), (3, .ref r)]) hx hb dX5_worthIn_8 hl (by decide) rfl (fun ls hl => ?_)
  refine lv_aload_n hx hb dX5_worthIn_10 rfl (lv_at hl 1 rfl) ?_
  refine lv_iload_n hx hb dX5_worthIn_11 rfl (lv_at hl 3 rfl) ?_
  refine lv_iload hx hb dX5_worthIn_12 (lv_at hl 0 rfl) ?_
  refine zc_v (wr := [(wa, .inr (9, [.ref wb, .int (iz (wn)), .long (lz (wt))])), (wb, zaL (G.2 0) 40 (wf)), (r, .inr (5, [.int (iz (md))]))]) (va_runV (As := [.int (iz (po)), .int (iz (mx))]) (rest := []) ⟨hx, hb, hml, hown, hts⟩ (c_X5_carry l G y am q bq f wa sa sb sf sn st da db df dn dt u0 d0 p0 po mx (by omega) (by omega) (by omega) H.size) (cwV 2 hts gX5_worthIn_X5_carry rfl rfl rfl (by decide +kernel) ⟨Nat.le_of_ble_eq_true rfl, Nat.le_of_ble_eq_true rfl⟩) (zpV hKX hP hD [8, 9, 0, 1, 2, 3, 4] rfl rfl 8 6 rfl rfl) rfl rfl hl.1 rfl (lv_room (Nat.le_of_ble_eq_true rfl)) dX5_worthIn_14 ⟨(by first | exact Nat.le_of_ble_eq_true rfl | (show _ ≤ (1 : Nat); omega)), (by first | exact Nat.le_of_ble_eq_true rfl | (show _ ≤ (6 : Nat); omega))⟩) hP hD hS hA [8, 9, 0, 1, 2, 3, 4] [5, 6, 7] rfl rfl rfl (by decide) (fun u_3 H locs hc hP hD hS => ?_)
  obtain ⟨sf1, sn1, st1, df1, dn1, dt1, p1⟩ := u_3
  have hP : va_P G.1 vwCl [(wa, .inr (9, [.ref wb, .int (iz (wn)), .long (lz (wt))])), (wb, zaL (G.2 0) 40 (wf)), (r, .inr (5, [.int (iz (md))])), (y, .inr (6, [.ref am, .ref q, .ref bq])), (am, zaL (G.2 0) 41 (f)), (q, .inr (2, [.ref sa, .ref da, .ref wa, .long (lz (zqu po)), .long (lz (zqd po)), .int (iz (p1))])), (sa, .inr (9, [.ref sb, .int (iz (sn1)), .long (lz (st1))])), (sb, zaL (G.2 0) 40 (sf1)), (da, .inr (9, [.ref db, .int (iz (dn1)), .long (lz (dt1))])), (db, zaL (G.2 0) 40 (df1))] H := hP
  have hD : va_D A [(wa, .inr (9, [.ref wb, .int (iz (wn)), .long (lz (wt))])), (wb, zaL (G.2 0) 40 (wf)), (r, .inr (5, [.int (iz (md))])), (y, .inr (6, [.ref am, .ref q, .ref bq])), (am, zaL (G.2 0) 41 (f)), (q, .inr (2, [.ref sa, .ref da, .ref wa, .long (lz (zqu po)), .long (lz (zqd po)), .int (iz (p1))])), (sa, .inr (9, [.ref sb, .int (iz (sn1)), .long (lz (st1))])), (sb, zaL (G.2 0) 40 (sf1)), (da, .inr (9, [.ref db, .int (iz (dn1)), .long (lz (dt1))])), (db, zaL (G.2 0) 40 (df1))] := hD
  have hc : zwv sf1 sn1 st1 (zrow (zqu po) (zqd po) f mx.toNat) := hc
  refine lv_aload_n hx hb dX5_worthIn_17 rfl (lv_at hl 1 rfl) ?_
  refine va_get (D := G.1) (ci := 6) (v := .ref q) (C := RX5) (T := TX5) (N := 3) hx hb hts iwX5 hown hK hP 3 rfl rfl 1 (by decide) (hts (.fieldLink RX5 18 "AnnuityHouse$Row" "flow" "LAnnuityHouse$Flow;") (by decide +kernel)) (fun _ h9 => h9) rfl dX5_worthIn_18 ?_
  refine lv_lconst (v := lz (1)) hx hb dX5_worthIn_21 rfl ?_
  refine lv_iload hx hb dX5_worthIn_22 (lv_at hl 0 rfl) ?_
  refine lv_iload_n hx hb dX5_worthIn_24 rfl (lv_at hl 2 rfl) ?_
  refine zr_isub hx hb dX5_worthIn_25 ?_
  have hmx : lp ≤ mx ∧ pe ≤ mx ∧ mx ≤ 40 := by omega
  have hfm : ∀ i : Int, mx < i → i ≤ 40 → f i = 0 := fun i a b => hlp.2.2 i (by omega) b
  have hwr := zwr (pe := pe) (la := mx) h3 (by omega) (by omega) hf.two
  have hrr := fun md => zworth_r (md := md) (pe := pe) (la := mx) h3 (by omega) (by omega) hfm
  have hpu := zrp (P := zqu po) (k := mx - pe) (by omega) (by omega)
  refine zc_r (wr := [(r, .inr (5, [.int (iz (md))])), (y, .inr (6, [.ref am, .ref q, .ref bq])), (am, zaL (G.2 0) 41 (f)), (sa, .inr (9, [.ref sb, .int (iz (sn1)), .long (lz (st1))])), (sb, zaL (G.2 0) 40 (sf1)), (da, .inr (9, [.ref db, .int (iz (dn1)), .long (lz (dt1))])), (db, zaL (G.2 0) 40 (df1))]) (va_runV (As := [.long (lz (1)), .int (iz (mx - pe))]) (rest := []) ⟨hx, hb, hml, hown, hts⟩ (c_X1_upPower l G q sa da wa wb wf wn wt (zqu po) (zqd po) p1 1 (mx - pe) (by omega) (by omega) (by omega) (by rw [Int.one_mul]; have := z35_37; omega) H.size) (cwV 2 hts gX5_worthIn_X1_upPower rfl rfl rfl (by decide +kernel) ⟨Nat.le_of_ble_eq_true rfl, Nat.le_of_ble_eq_true rfl⟩) (zpV hKX hP hD [5, 0, 1] rfl rfl 5 2 rfl rfl) rfl rfl hl.1 rfl (lv_room (Nat.le_of_ble_eq_true rfl)) dX5_worthIn_26 ⟨(by first | exact Nat.le_of_ble_eq_true rfl | (show _ ≤ (1 : Nat); omega)), (by first | exact Nat.le_of_ble_eq_true rfl | (show _ ≤ (6 : Nat); omega))⟩) hP hD hS hA [5, 0, 1] [2, 3, 4, 6, 7, 8, 9] rfl rfl rfl (by decide) (fun u_6 rw_ H locs hw hP hD hS => ?_)
  obtain ⟨wf1, wn1, wt1⟩ := u_6
  have hP : va_P G.1 vwCl [(r, .inr (5, [.int (iz (md))])), (y, .inr (6, [.ref am, .ref q, .ref bq])), (am, zaL (G.2 0) 41 (f)), (sa, .inr (9, [.ref sb, .int (iz (sn1)), .long (lz (st1))])), (sb, zaL (G.2 0) 40 (sf1)), (da, .inr (9, [.ref db, .int (iz (dn1)), .long (lz (dt1))])), (db, zaL (G.2 0) 40 (df1)), (q, .inr (2, [.ref sa, .ref da, .ref wa, .long (lz ((zqu po))), .long (lz ((zqd po))), .int (iz (p1))])), (wa, .inr (9, [.ref wb, .int (iz (wn1)), .long (lz (wt1))])), (wb, zaL (G.2 0) 40 (wf1))] H := hP
  have hD : va_D A [(r, .inr (5, [.int (iz (md))])), (y, .inr (6, [.ref am, .ref q, .ref bq])), (am, zaL (G.2 0) 41 (f)), (sa, .inr (9, [.ref sb, .int (iz (sn1)), .long (lz (st1))])), (sb, zaL (G.2 0) 40 (sf1)), (da, .inr (9, [.ref db, .int (iz (dn1)), .long (lz (dt1))])), (db, zaL (G.2 0) 40 (df1)), (q, .inr (2, [.ref sa, .ref da, .ref wa, .long (lz ((zqu po))), .long (lz ((zqd po))), .int (iz (p1))])), (wa, .inr (9, [.ref wb, .int (iz (wn1)), .long (lz (wt1))])), (wb, zaL (G.2 0) 40 (wf1))] := hD
  have hw : rw_ = wa ∧ zwv wf1 wn1 wt1 ((1 : Int) * (zqu po) ^ (mx - pe).toNat) := hw
  rw [show rw_ = wa from hw.1]
  refine lv_astore (lv' := [(5, .ref wa), (4, .int (iz (mx))), (0, .ref y), (1, .int (iz (pe))), (2, .int (iz (po))), (3, .ref r)]) hx hb dX5_worthIn_29 hl (by decide) rfl (fun ls hl => ?_)
  refine lv_aload hx hb dX5_worthIn_31 (lv_at hl 0 rfl) ?_
  refine lv_aload_n hx hb dX5_worthIn_33 rfl (lv_at hl 2 rfl) ?_
  refine va_get (D := G.1) (ci := 6) (v := .ref q) (C := RX5) (T := TX5) (N := 3) hx hb hts iwX5 hown hK hP 1 rfl rfl 1 (by decide) (hts (.fieldLink RX5 18 "AnnuityHouse$Row" "flow" "LAnnuityHouse$Flow;") (by decide +kernel)) (fun _ h9 => h9) rfl dX5_worthIn_34 ?_
  refine va_get (D := G.1) (ci := 2) (v := .long (lz ((zqd po)))) (C := RX1) (T := TX1) (N := 6) hx hb hts iwX1 hown hK hP 7 rfl rfl 4 (by decide) (hts (.fieldLink RX5 61 "AnnuityHouse$Flow" "down" "J") (by decide +kernel)) (fun _ h9 => h9) rfl dX5_worthIn_37 ?_
  refine lv_iload_n hx hb dX5_worthIn_40 rfl (lv_at hl 3 rfl) ?_
  refine zc_v (wr := [(r, .inr (5, [.int (iz (md))])), (y, .inr (6, [.ref am, .ref q, .ref bq])), (am, zaL (G.2 0) 41 (f)), (sa, .inr (9, [.ref sb, .int (iz (sn1)), .long (lz (st1))])), (sb, zaL (G.2 0) 40 (sf1)), (da, .inr (9, [.ref db, .int (iz (dn1)), .long (lz (dt1))])), (db, zaL (G.2 0) 40 (df1)), (q, .inr (2, [.ref sa, .ref da, .ref wa, .long (lz ((zqu po))), .long (lz ((zqd po))), .int (iz (p1))]))]) (va_runV (As := [.long (lz ((zqd po))), .int (iz (pe))]) (rest := []) ⟨hx, hb, hml, hown, hts⟩ (c_X8_timesPower l G wa wb wf1 wn1 wt1 (1 * zqu po ^ (mx - pe).toNat) (zqd po) pe (hw.2) (by omega) (by omega) (by have := z35_37; omega) H.size) (cwV 2 hts gX5_worthIn_X8_timesPower rfl rfl rfl (by decide +kernel) ⟨Nat.le_of_ble_eq_true rfl, Nat.le_of_ble_eq_true rfl⟩) (zpV hKX hP hD [8, 9] rfl rfl 8 9 rfl rfl) rfl rfl hl.1 rfl (lv_room (Nat.le_of_ble_eq_true rfl)) dX5_worthIn_41 ⟨(by first | exact Nat.le_of_ble_eq_true rfl | (show _ ≤ (1 : Nat); omega)), (by first | exact Nat.le_of_ble_eq_true rfl | (show _ ≤ (6 : Nat); omega))⟩) hP hD hS hA [8, 9] [0, 1, 2, 3, 4, 5, 6, 7] rfl rfl rfl (by decide) (fun u_8 H locs hw3 hP hD hS => ?_)
  obtain ⟨wf3, wn3, wt3⟩ := u_8
  have hP : va_P G.1 vwCl [(r, .inr (5, [.int (iz (md))])), (y, .inr (6, [.ref am, .ref q, .ref bq])), (am, zaL (G.2 0) 41 (f)), (sa, .inr (9, [.ref sb, .int (iz (sn1)), .long (lz (st1))])), (sb, zaL (G.2 0) 40 (sf1)), (da, .inr (9, [.ref db, .int (iz (dn1)), .long (lz (dt1))])), (db, zaL (G.2 0) 40 (df1)), (q, .inr (2, [.ref sa, .ref da, .ref wa, .long (lz ((zqu po))), .long (lz ((zqd po))), .int (iz (p1))])), (wa, .inr (9, [.ref wb, .int (iz (wn3)), .long (lz (wt3))])), (wb, zaL (G.2 0) 40 (wf3))] H := hP
  have hD : va_D A [(r, .inr (5, [.int (iz (md))])), (y, .inr (6, [.ref am, .ref q, .ref bq])), (am, zaL (G.2 0) 41 (f)), (sa, .inr (9, [.ref sb, .int (iz (sn1)), .long (lz (st1))])), (sb, zaL (G.2 0) 40 (sf1)), (da, .inr (9, [.ref db, .int (iz (dn1)), .long (lz (dt1))])), (db, zaL (G.2 0) 40 (df1)), (q, .inr (2, [.ref sa, .ref da, .ref wa, .long (lz ((zqu po))), .long (lz ((zqd po))), .int (iz (p1))])), (wa, .inr (9, [.ref wb, .int (iz (wn3)), .long (lz (wt3))])), (wb, zaL (G.2 0) 40 (wf3))] := hD
  have hw3 : zwv wf3 wn3 wt3 ((1 * zqu po ^ (mx - pe).toNat) * (zqd po) ^ pe.toNat) := hw3
  refine lv_aload_n hx hb dX5_worthIn_44 rfl (lv_at hl 5 rfl) ?_
  refine lv_aload_n hx hb dX5_worthIn_45 rfl (lv_at hl 2 rfl) ?_
  refine va_get (D := G.1) (ci := 6) (v := .ref q) (C := RX5) (T := TX5) (N := 3) hx hb hts iwX5 hown hK hP 1 rfl rfl 1 (by decide) (hts (.fieldLink RX5 18 "AnnuityHouse$Row" "flow" "LAnnuityHouse$Flow;") (by decide +kernel)) (fun _ h9 => h9) rfl dX5_worthIn_46 ?_
  refine va_get (D := G.1) (ci := 2) (v := .ref sa) (C := RX1) (T := TX1) (N := 6) hx hb hts iwX1 hown hK hP 7 rfl rfl 0 (by decide) (hts (.fieldLink RX5 71 "AnnuityHouse$Flow" "sum" "LAnnuityHouse$Whole;") (by decide +kernel)) (fun _ h9 => h9) rfl dX5_worthIn_49 ?_
  refine lv_aload hx hb dX5_worthIn_52 (lv_at hl 0 rfl) ?_
  refine zct_l (wr := [(y, .inr (6, [.ref am, .ref q, .ref bq])), (am, zaL (G.2 0) 41 (f)), (da, .inr (9, [.ref db, .int (iz (dn1)), .long (lz (dt1))])), (db, zaL (G.2 0) 40 (df1)), (q, .inr (2, [.ref sa, .ref da, .ref wa, .long (lz ((zqu po))), .long (lz ((zqd po))), .int (iz (p1))]))]) (vx_runV (As := [.ref sa, .ref wa]) (rest := []) ⟨hx, hb, hml, hown, hts⟩ (c_X4_ratio_ l G s1 s2 s3 r md sa sb sf1 sn1 st1 wa wb wf3 wn3 wt3 (zrow (zqu po) (zqd po) f mx.toNat) (1 * zqu po ^ (mx - pe).toNat * zqd po ^ pe.toNat) hl0 (by omega) (hc) (hw3) (hwr.1) (hwr.2.2.1) (hwr.2.1) (hwr.2.2.2) H.size) (cwV 2 hts gX5_worthIn_X4_ratio_ rfl rfl rfl (by decide +kernel) ⟨Nat.le_of_ble_eq_true rfl, Nat.le_of_ble_eq_true rfl⟩) (zpVe zXE_ok hE hS hA hKX hP hD [0, 3, 4, 8, 9] rfl rfl (va_recv hK hP (ci := 5) (q0 := 0) rfl rfl)) rfl rfl hl.1 rfl (lv_room (Nat.le_of_ble_eq_true rfl)) dX5_worthIn_54 ⟨(by first | exact Nat.le_of_ble_eq_true rfl | (show _ ≤ (1 : Nat); omega)), (by first | exact Nat.le_of_ble_eq_true rfl | (show _ ≤ (6 : Nat); omega))⟩) hP hD hS hA [0, 3, 4, 8, 9] [1, 2, 5, 6, 7] rfl rfl rfl (by decide) (fun E9 ce9 q9 ux_18 H locs hx9_19 hP hD hS hce9 hcv9 hcl9 => ?_) (fun zz u_17 H locs hz hP hD hS => ?_)
  ·
    obtain ⟨of2_11, on2_12, ot2_13, uf2_14, un2_15, ut2_16⟩ := ux_18
    have hP : va_P G.1 vwCl [(y, .inr (6, [.ref am, .ref q, .ref bq])), (am, zaL (G.2 0) 41 (f)), (da, .inr (9, [.ref db, .int (iz (dn1)), .long (lz (dt1))])), (db, zaL (G.2 0) 40 (df1)), (q, .inr (2, [.ref sa, .ref da, .ref wa, .long (lz ((zqu po))), .long (lz ((zqd po))), .int (iz (p1))])), (r, .inr (5, [.int (iz (md))])), (sa, .inr (9, [.ref sb, .int (iz (on2_12)), .long (lz (ot2_13))])), (sb, zaL (G.2 0) 40 (of2_11)), (wa, .inr (9, [.ref wb, .int (iz (un2_15)), .long (lz (ut2_16))])), (wb, zaL (G.2 0) 40 (uf2_14))] H := hP
    have hD : va_D A [(y, .inr (6, [.ref am, .ref q, .ref bq])), (am, zaL (G.2 0) 41 (f)), (da, .inr (9, [.ref db, .int (iz (dn1)), .long (lz (dt1))])), (db, zaL (G.2 0) 40 (df1)), (q, .inr (2, [.ref sa, .ref da, .ref wa, .long (lz ((zqu po))), .long (lz ((zqd po))), .int (iz (p1))])), (r, .inr (5, [.int (iz (md))])), (sa, .inr (9, [.ref sb, .int (iz (on2_12)), .long (lz (ot2_13))])), (sb, zaL (G.2 0) 40 (of2_11)), (wa, .inr (9, [.ref wb, .int (iz (un2_15)), .long (lz (ut2_16))])), (wb, zaL (G.2 0) 40 (uf2_14))] := hD
    rcases hx9_19 with ⟨rfl, hxc⟩
    ·
      have hxc : md = 7 ∧ ((zrow (zqu po) (zqd po) f mx.toNat).natAbs : Int) % (1 * zqu po ^ (mx - pe).toNat * zqd po ^ pe.toNat) ≠ 0 := hxc
      rw [hQ]
      exact zt_out (of2_11, on2_12, ot2_13, df1, dn1, dt1, uf2_14, un2_15, ut2_16, p1) hout hlocks hce9 hcv9 hcl9 (hP.sub [0, 1, 4, 6, 7, 2, 3, 8, 9, 5] rfl) (hD.sub [0, 1, 4, 6, 7, 2, 3, 8, 9, 5] (by decide) rfl) hS ⟨rfl, (show md = 7 ∧ znm f po % zqq po pe ≠ 0 from ⟨hxc.1, fun q => hxc.2 ((znz hwr.1).mpr ((hrr 0).2.mpr q))⟩)⟩ (by first | exact Nat.le_of_ble_eq_true rfl | omega) (by first | exact Nat.le_of_ble_eq_true rfl | omega)
  obtain ⟨sf2, sn2, st2, wf2, wn2, wt2⟩ := u_17
  have hP : va_P G.1 vwCl [(y, .inr (6, [.ref am, .ref q, .ref bq])), (am, zaL (G.2 0) 41 (f)), (da, .inr (9, [.ref db, .int (iz (dn1)), .long (lz (dt1))])), (db, zaL (G.2 0) 40 (df1)), (q, .inr (2, [.ref sa, .ref da, .ref wa, .long (lz ((zqu po))), .long (lz ((zqd po))), .int (iz (p1))])), (r, .inr (5, [.int (iz (md))])), (sa, .inr (9, [.ref sb, .int (iz (sn2)), .long (lz (st2))])), (sb, zaL (G.2 0) 40 (sf2)), (wa, .inr (9, [.ref wb, .int (iz (wn2)), .long (lz (wt2))])), (wb, zaL (G.2 0) 40 (wf2))] H := hP
  have hD : va_D A [(y, .inr (6, [.ref am, .ref q, .ref bq])), (am, zaL (G.2 0) 41 (f)), (da, .inr (9, [.ref db, .int (iz (dn1)), .long (lz (dt1))])), (db, zaL (G.2 0) 40 (df1)), (q, .inr (2, [.ref sa, .ref da, .ref wa, .long (lz ((zqu po))), .long (lz ((zqd po))), .int (iz (p1))])), (r, .inr (5, [.int (iz (md))])), (sa, .inr (9, [.ref sb, .int (iz (sn2)), .long (lz (st2))])), (sb, zaL (G.2 0) 40 (sf2)), (wa, .inr (9, [.ref wb, .int (iz (wn2)), .long (lz (wt2))])), (wb, zaL (G.2 0) 40 (wf2))] := hD
  have hz : (((zrow (zqu po) (zqd po) f mx.toNat).natAbs : Int) % (1 * zqu po ^ (mx - pe).toNat * zqd po ^ pe.toNat) = 0 ∨ md ≠ 7) ∧ zz = zrd md (zrow (zqu po) (zqd po) f mx.toNat) (1 * zqu po ^ (mx - pe).toNat * zqd po ^ pe.toNat) := hz
  rw [hQ]
  exact vx_ret (zr_lret (z := zz) (u := (sf2, sn2, st2, df1, dn1, dt1, wf2, wn2, wt2, p1)) hx hb hr hlocks (hP.sub [0, 1, 4, 6, 7, 2, 3, 8, 9, 5] rfl) (hD.sub [0, 1, 4, 6, 7, 2, 3, 8, 9, 5] (by decide) rfl) hS (by first | exact Nat.le_of_ble_eq_true rfl | omega) (by first | exact Nat.le_of_ble_eq_true rfl | omega) dX5_worthIn_57 (show (znm f po % zqq po pe = 0 ∨ md ≠ 7) ∧ zz = zrd md (znm f po) (zqq po pe) from ⟨hz.1.elim (fun q => Or.inl ((hrr 0).2.mp ((znz hwr.1).mp q))) Or.inr, hz.2.trans (hrr md).1⟩))

def rm_c_X5_signOfWorth : Room := { frames := 5, cells := 0, slots := 0, locals := 122 }
theorem iw_X5_signOfWorth_X1 : ∀ w ∈ wsX10, w ∈ wsX5_signOfWorth := by decide +kernel
theorem iw_X5_signOfWorth_X5 : ∀ w ∈ wsX50, w ∈ wsX5_signOfWorth := by decide +kernel
set_option maxHeartbeats 1000000 in
set_option maxRecDepth 100000 in
theorem c_X5_signOfWorth (l : Launch) (G : zG) (y : Nat) (am : Nat) (q : Nat) (bq : Nat) (f : Int → Int) (wa : Nat) (sa : Nat) (sb : Nat) (sf : Int → Int) (sn : Int) (st : Int) (da : Nat) (db : Nat) (df : Int → Int) (dn : Int) (dt : Int) (u0 : Int) (d0 : Int) (p0 : Int) (po : Int) (hf : zrok f) (h3 : 0 ≤ po ∧ po ≤ 20000) : zM l G yX5_signOfWorth wsX5_signOfWorth rm_c_X5_signOfWorth [.ref y, .int (iz (po))] [(y, .inr (6, [.ref am, .ref q, .ref bq])), (am, zaL (G.2 0) 41 (f)), (q, .inr (2, [.ref sa, .ref da, .ref wa, .long (lz (u0)), .long (lz (d0)), .int (iz (p0))])), (sa, .inr (9, [.ref sb, .int (iz (sn)), .long (lz (st))])), (sb, zaL (G.2 0) 40 (sf)), (da, .inr (9, [.ref db, .int (iz (dn)), .long (lz (dt))])), (db, zaL (G.2 0) 40 (df))] (fun A => zQi G (fun (z : Int) (u : (Int → Int) × Int × Int × (Int → Int) × Int × Int × Int × Int × Int) => z = (znm f po).sign ∧ u.2.2.2.2.2.2.2.1 = zqu po ∧ u.2.2.2.2.2.2.2.2 = zqd po) (fun (u : (Int → Int) × Int × Int × (Int → Int) × Int × Int × Int × Int × Int) => [(y, .inr (6, [.ref am, .ref q, .ref bq])), (am, zaL (G.2 0) 41 (f)), (q, .inr (2, [.ref sa, .ref da, .ref wa, .long (lz (u.2.2.2.2.2.2.2.1)), .long (lz (u.2.2.2.2.2.2.2.2)), .int (iz (u.2.2.2.2.2.2.1))])), (sa, .inr (9, [.ref sb, .int (iz (u.2.1)), .long (lz (u.2.2.1))])), (sb, zaL (G.2 0) 40 (u.1)), (da, .inr (9, [.ref db, .int (iz (u.2.2.2.2.1)), .long (lz (u.2.2.2.2.2.1))])), (db, zaL (G.2 0) 40 (u.2.2.2.1))]) A) 0 0 := by
  refine zM_of (cc := cX5_signOfWorth) (maxL := 2) (ret := (some .int)) (by decide) rfl (Nat.le_of_ble_eq_true rfl) ?_
  intro p e s m below meth c ls A Q hQ hx hb hr hts hown hlocks hml hnm hKX hP hD hA hS hl
  have hK := hKX.1
  have iwX1 := iw_X5_signOfWorth_X1
  have iwX5 := iw_X5_signOfWorth_X5
  obtain ⟨H, hH⟩ : ∃ h, h = s.heap := ⟨_, rfl⟩
  obtain ⟨locs, hlo⟩ : ∃ h : List Loc, h = [] := ⟨_, rfl⟩
  have hS : va_S A s.heap H locs := by rw [hH, hlo]; exact hS
  have hP : va_P G.1 vwCl [(y, .inr (6, [.ref am, .ref q, .ref bq])), (am, zaL (G.2 0) 41 (f)), (q, .inr (2, [.ref sa, .ref da, .ref wa, .long (lz (u0)), .long (lz (d0)), .int (iz (p0))])), (sa, .inr (9, [.ref sb, .int (iz (sn)), .long (lz (st))])), (sb, zaL (G.2 0) 40 (sf)), (da, .inr (9, [.ref db, .int (iz (dn)), .long (lz (dt))])), (db, zaL (G.2 0) 40 (df))] H := by rw [hH]; exact hP
  have hD : va_D A [(y, .inr (6, [.ref am, .ref q, .ref bq])), (am, zaL (G.2 0) 41 (f)), (q, .inr (2, [.ref sa, .ref da, .ref wa, .long (lz (u0)), .long (lz (d0)), .int (iz (p0))])), (sa, .inr (9, [.ref sb, .int (iz (sn)), .long (lz (st))])), (sb, zaL (G.2 0) 40 (sf)), (da, .inr (9, [.ref db, .int (iz (dn)), .long (lz (dt))])), (db, zaL (G.2 0) 40 (df))] := hD
  have hl : lv_has ls 2 [(0, .ref y), (1, .int (iz (po)))] := hl
  rw [← hH, ← hlo]
  refine lv_aload_n hx hb dX5_signOfWorth_0 rfl (lv_at hl 0 rfl) ?_
  refine lv_iload_n hx hb dX5_signOfWorth_1 rfl (lv_at hl 1 rfl) ?_
  refine lv_aload_n hx hb dX5_signOfWorth_2 rfl (lv_at hl 0 rfl) ?_
  refine zc_i (wr := [(q, .inr (2, [.ref sa, .ref da, .ref wa, .long (lz (u0)), .long (lz (d0)), .int (iz (p0))])), (sa, .inr (9, [.ref sb, .int (iz (sn)), .long (lz (st))])), (sb, zaL (G.2 0) 40 (sf)), (da, .inr (9, [.ref db, .int (iz (dn)), .long (lz (dt))])), (db, zaL (G.2 0) 40 (df))]) (va_runV (As := []) (rest := [.int (iz (po)), .ref y]) ⟨hx, hb, hml, hown, hts⟩ (c_X5_lastPaying l G y am q bq f (by omega) H.size) (cwV 0 hts gX5_signOfWorth_X5_lastPaying rfl rfl rfl (by decide +kernel) ⟨Nat.le_of_ble_eq_true rfl, Nat.le_of_ble_eq_true rfl⟩) (zpV hKX hP hD [0, 1] rfl rfl 0 6 rfl rfl) rfl rfl hl.1 rfl (lv_room (Nat.le_of_ble_eq_true rfl)) dX5_signOfWorth_3 ⟨(by first | exact Nat.le_of_ble_eq_true rfl | (show _ ≤ (0 : Nat); omega)), (by first | exact Nat.le_of_ble_eq_true rfl | (show _ ≤ (0 : Nat); omega))⟩) hP hD hS hA [0, 1] [2, 3, 4, 5, 6] rfl rfl rfl (by decide) (fun lp u_1 H locs hlp hP hD hS => ?_)
  have hP : va_P G.1 vwCl [(q, .inr (2, [.ref sa, .ref da, .ref wa, .long (lz (u0)), .long (lz (d0)), .int (iz (p0))])), (sa, .inr (9, [.ref sb, .int (iz (sn)), .long (lz (st))])), (sb, zaL (G.2 0) 40 (sf)), (da, .inr (9, [.ref db, .int (iz (dn)), .long (lz (dt))])), (db, zaL (G.2 0) 40 (df)), (y, .inr (6, [.ref am, .ref q, .ref bq])), (am, zaL (G.2 0) 41 (f))] H := hP
  have hD : va_D A [(q, .inr (2, [.ref sa, .ref da, .ref wa, .long (lz (u0)), .long (lz (d0)), .int (iz (p0))])), (sa, .inr (9, [.ref sb, .int (iz (sn)), .long (lz (st))])), (sb, zaL (G.2 0) 40 (sf)), (da, .inr (9, [.ref db, .int (iz (dn)), .long (lz (dt))])), (db, zaL (G.2 0) 40 (df)), (y, .inr (6, [.ref am, .ref q, .ref bq])), (am, zaL (G.2 0) 41 (f))] := hD
  have hlp : 0 ≤ lp ∧ lp ≤ 40 ∧ ∀ j : Int, lp < j → j ≤ 40 → f j = 0 := hlp
  refine zc_v (wr := []) (va_runV (As := [.int (iz (po)), .int (iz (lp))]) (rest := []) ⟨hx, hb, hml, hown, hts⟩ (c_X5_carry l G y am q bq f wa sa sb sf sn st da db df dn dt u0 d0 p0 po lp (by omega) (by omega) (by omega) H.size) (cwV 2 hts gX5_signOfWorth_X5_carry rfl rfl rfl (by decide +kernel) ⟨Nat.le_of_ble_eq_true rfl, Nat.le_of_ble_eq_true rfl⟩) (zpV hKX hP hD [5, 6, 0, 1, 2, 3, 4] rfl rfl 5 6 rfl rfl) rfl rfl hl.1 rfl (lv_room (Nat.le_of_ble_eq_true rfl)) dX5_signOfWorth_6 ⟨(by first | exact Nat.le_of_ble_eq_true rfl | (show _ ≤ (0 : Nat); omega)), (by first | exact Nat.le_of_ble_eq_true rfl | (show _ ≤ (0 : Nat); omega))⟩) hP hD hS hA [5, 6, 0, 1, 2, 3, 4] [] rfl rfl rfl (by decide) (fun u_3 H locs hc hP hD hS => ?_)
  obtain ⟨sf1, sn1, st1, df1, dn1, dt1, p1⟩ := u_3
  have hP : va_P G.1 vwCl [(y, .inr (6, [.ref am, .ref q, .ref bq])), (am, zaL (G.2 0) 41 (f)), (q, .inr (2, [.ref sa, .ref da, .ref wa, .long (lz (zqu po)), .long (lz (zqd po)), .int (iz (p1))])), (sa, .inr (9, [.ref sb, .int (iz (sn1)), .long (lz (st1))])), (sb, zaL (G.2 0) 40 (sf1)), (da, .inr (9, [.ref db, .int (iz (dn1)), .long (lz (dt1))])), (db, zaL (G.2 0) 40 (df1))] H := hP
  have hD : va_D A [(y, .inr (6, [.ref am, .ref q, .ref bq])), (am, zaL (G.2 0) 41 (f)), (q, .inr (2, [.ref sa, .ref da, .ref wa, .long (lz (zqu po)), .long (lz (zqd po)), .int (iz (p1))])), (sa, .inr (9, [.ref sb, .int (iz (sn1)), .long (lz (st1))])), (sb, zaL (G.2 0) 40 (sf1)), (da, .inr (9, [.ref db, .int (iz (dn1)), .long (lz (dt1))])), (db, zaL (G.2 0) 40 (df1))] := hD
  have hc : zwv sf1 sn1 st1 (zrow (zqu po) (zqd po) f lp.toNat) := hc
  refine lv_aload_n hx hb dX5_signOfWorth_9 rfl (lv_at hl 0 rfl) ?_
  refine va_get (D := G.1) (ci := 6) (v := .ref q) (C := RX5) (T := TX5) (N := 3) hx hb hts iwX5 hown hK hP 0 rfl rfl 1 (by decide) (hts (.fieldLink RX5 18 "AnnuityHouse$Row" "flow" "LAnnuityHouse$Flow;") (by decide +kernel)) (fun _ h9 => h9) rfl dX5_signOfWorth_10 ?_
  refine va_get (D := G.1) (ci := 2) (v := .ref sa) (C := RX1) (T := TX1) (N := 6) hx hb hts iwX1 hown hK hP 2 rfl rfl 0 (by decide) (hts (.fieldLink RX5 71 "AnnuityHouse$Flow" "sum" "LAnnuityHouse$Whole;") (by decide +kernel)) (fun _ h9 => h9) rfl dX5_signOfWorth_13 ?_
  refine zc_i (wr := [(y, .inr (6, [.ref am, .ref q, .ref bq])), (am, zaL (G.2 0) 41 (f)), (q, .inr (2, [.ref sa, .ref da, .ref wa, .long (lz (zqu po)), .long (lz (zqd po)), .int (iz (p1))])), (da, .inr (9, [.ref db, .int (iz (dn1)), .long (lz (dt1))])), (db, zaL (G.2 0) 40 (df1))]) (va_runV (As := []) (rest := []) ⟨hx, hb, hml, hown, hts⟩ (c_X8_sign l G sa sb sf1 sn1 st1 (zrow (zqu po) (zqd po) f lp.toNat) (hc) H.size) (cwV 0 hts gX5_signOfWorth_X8_sign rfl rfl rfl (by decide +kernel) ⟨Nat.le_of_ble_eq_true rfl, Nat.le_of_ble_eq_true rfl⟩) (zpV hKX hP hD [3, 4] rfl rfl 3 9 rfl rfl) rfl rfl hl.1 rfl (lv_room (Nat.le_of_ble_eq_true rfl)) dX5_signOfWorth_16 ⟨(by first | exact Nat.le_of_ble_eq_true rfl | (show _ ≤ (0 : Nat); omega)), (by first | exact Nat.le_of_ble_eq_true rfl | (show _ ≤ (0 : Nat); omega))⟩) hP hD hS hA [3, 4] [0, 1, 2, 5, 6] rfl rfl rfl (by decide) (fun sg u_6 H locs hsg hP hD hS => ?_)
  have hP : va_P G.1 vwCl [(y, .inr (6, [.ref am, .ref q, .ref bq])), (am, zaL (G.2 0) 41 (f)), (q, .inr (2, [.ref sa, .ref da, .ref wa, .long (lz (zqu po)), .long (lz (zqd po)), .int (iz (p1))])), (da, .inr (9, [.ref db, .int (iz (dn1)), .long (lz (dt1))])), (db, zaL (G.2 0) 40 (df1)), (sa, .inr (9, [.ref sb, .int (iz (sn1)), .long (lz (st1))])), (sb, zaL (G.2 0) 40 (sf1))] H := hP
  have hD : va_D A [(y, .inr (6, [.ref am, .ref q, .ref bq])), (am, zaL (G.2 0) 41 (f)), (q, .inr (2, [.ref sa, .ref da, .ref wa, .long (lz (zqu po)), .long (lz (zqd po)), .int (iz (p1))])), (da, .inr (9, [.ref db, .int (iz (dn1)), .long (lz (dt1))])), (db, zaL (G.2 0) 40 (df1)), (sa, .inr (9, [.ref sb, .int (iz (sn1)), .long (lz (st1))])), (sb, zaL (G.2 0) 40 (sf1))] := hD
  have hsg : sg = (zrow (zqu po) (zqd po) f lp.toNat).sign := hsg
  rw [hQ]
  exact zr_iret (z := sg) (u := (sf1, sn1, st1, df1, dn1, dt1, p1, zqu po, zqd po)) hx hb hr hlocks (hP.sub [0, 1, 2, 5, 6, 3, 4] rfl) (hD.sub [0, 1, 2, 5, 6, 3, 4] (by decide) rfl) hS (by first | exact Nat.le_of_ble_eq_true rfl | omega) (by first | exact Nat.le_of_ble_eq_true rfl | omega) dX5_signOfWorth_19 (show sg = (znm f po).sign ∧ (zqu po) = zqu po ∧ (zqd po) = zqd po from ⟨hsg.trans (zsgn_row h3 ⟨by omega, by omega⟩ hlp.2.2), rfl, rfl⟩)

def rm_c_X5_yieldPoints : Room := { frames := 6, cells := 0, slots := 0, locals := 143 }
set_option maxHeartbeats 1000000 in
set_option maxRecDepth 100000 in
theorem c_X5_yieldPoints (l : Launch) (G : zG) (y : Nat) (am : Nat) (q : Nat) (bq : Nat) (f : Int → Int) (wa : Nat) (sa : Nat) (sb : Nat) (sf : Int → Int) (sn : Int) (st : Int) (da : Nat) (db : Nat) (df : Int → Int) (dn : Int) (dt : Int) (u0 : Int) (d0 : Int) (p0 : Int) (hf : zrok f) : zM l G yX5_yieldPoints wsX5_yieldPoints rm_c_X5_yieldPoints [.ref y] [(y, .inr (6, [.ref am, .ref q, .ref bq])), (am, zaL (G.2 0) 41 (f)), (q, .inr (2, [.ref sa, .ref da, .ref wa, .long (lz (u0)), .long (lz (d0)), .int (iz (p0))])), (sa, .inr (9, [.ref sb, .int (iz (sn)), .long (lz (st))])), (sb, zaL (G.2 0) 40 (sf)), (da, .inr (9, [.ref db, .int (iz (dn)), .long (lz (dt))])), (db, zaL (G.2 0) 40 (df))] (fun A => zQi G (fun (z : Int) (u : (Int → Int) × Int × Int × (Int → Int) × Int × Int × Int × Int × Int) => ((z = -1 ∧ (znm f (20000)).sign = -zfs f 41) ∨ (0 ≤ z ∧ z ≤ 20000 ∧ ¬ (znm f (z)).sign = -zfs f 41 ∧ (z = 0 ∨ (znm f (z - 1)).sign = -zfs f 41)))) (fun (u : (Int → Int) × Int × Int × (Int → Int) × Int × Int × Int × Int × Int) => [(y, .inr (6, [.ref am, .ref q, .ref bq])), (am, zaL (G.2 0) 41 (f)), (q, .inr (2, [.ref sa, .ref da, .ref wa, .long (lz (u.2.2.2.2.2.2.2.1)), .long (lz (u.2.2.2.2.2.2.2.2)), .int (iz (u.2.2.2.2.2.2.1))])), (sa, .inr (9, [.ref sb, .int (iz (u.2.1)), .long (lz (u.2.2.1))])), (sb, zaL (G.2 0) 40 (u.1)), (da, .inr (9, [.ref db, .int (iz (u.2.2.2.2.1)), .long (lz (u.2.2.2.2.2.1))])), (db, zaL (G.2 0) 40 (u.2.2.2.1))]) A) 0 0 := by
  refine zM_of (cc := cX5_yieldPoints) (maxL := 6) (ret := (some .int)) (by decide) rfl (Nat.le_of_ble_eq_true rfl) ?_
  intro p e s m below meth c ls A Q hQ hx hb hr hts hown hlocks hml hnm hKX hP hD hA hS hl
  have hK := hKX.1
  obtain ⟨H, hH⟩ : ∃ h, h = s.heap := ⟨_, rfl⟩
  obtain ⟨locs, hlo⟩ : ∃ h : List Loc, h = [] := ⟨_, rfl⟩
  have hS : va_S A s.heap H locs := by rw [hH, hlo]; exact hS
  have hP : va_P G.1 vwCl [(y, .inr (6, [.ref am, .ref q, .ref bq])), (am, zaL (G.2 0) 41 (f)), (q, .inr (2, [.ref sa, .ref da, .ref wa, .long (lz (u0)), .long (lz (d0)), .int (iz (p0))])), (sa, .inr (9, [.ref sb, .int (iz (sn)), .long (lz (st))])), (sb, zaL (G.2 0) 40 (sf)), (da, .inr (9, [.ref db, .int (iz (dn)), .long (lz (dt))])), (db, zaL (G.2 0) 40 (df))] H := by rw [hH]; exact hP
  have hD : va_D A [(y, .inr (6, [.ref am, .ref q, .ref bq])), (am, zaL (G.2 0) 41 (f)), (q, .inr (2, [.ref sa, .ref da, .ref wa, .long (lz (u0)), .long (lz (d0)), .int (iz (p0))])), (sa, .inr (9, [.ref sb, .int (iz (sn)), .long (lz (st))])), (sb, zaL (G.2 0) 40 (sf)), (da, .inr (9, [.ref db, .int (iz (dn)), .long (lz (dt))])), (db, zaL (G.2 0) 40 (df))] := hD
  have hl : lv_has ls 6 [(0, .ref y)] := hl
  rw [← hH, ← hlo]
  refine lv_aload_n hx hb dX5_yieldPoints_0 rfl (lv_at hl 0 rfl) ?_
  refine zc_i (wr := [(q, .inr (2, [.ref sa, .ref da, .ref wa, .long (lz (u0)), .long (lz (d0)), .int (iz (p0))])), (sa, .inr (9, [.ref sb, .int (iz (sn)), .long (lz (st))])), (sb, zaL (G.2 0) 40 (sf)), (da, .inr (9, [.ref db, .int (iz (dn)), .long (lz (dt))])), (db, zaL (G.2 0) 40 (df))]) (va_runV (As := []) (rest := []) ⟨hx, hb, hml, hown, hts⟩ (c_X5_firstSign l G y am q bq f (by omega) H.size) (cwV 0 hts gX5_yieldPoints_X5_firstSign rfl rfl rfl (by decide +kernel) ⟨Nat.le_of_ble_eq_true rfl, Nat.le_of_ble_eq_true rfl⟩) (zpV hKX hP hD [0, 1] rfl rfl 0 6 rfl rfl) rfl rfl hl.1 rfl (lv_room (Nat.le_of_ble_eq_true rfl)) dX5_yieldPoints_1 ⟨(by first | exact Nat.le_of_ble_eq_true rfl | (show _ ≤ (0 : Nat); omega)), (by first | exact Nat.le_of_ble_eq_true rfl | (show _ ≤ (0 : Nat); omega))⟩) hP hD hS hA [0, 1] [2, 3, 4, 5, 6] rfl rfl rfl (by decide) (fun fs u_1 H locs hfs hP hD hS => ?_)
  have hP : va_P G.1 vwCl [(q, .inr (2, [.ref sa, .ref da, .ref wa, .long (lz (u0)), .long (lz (d0)), .int (iz (p0))])), (sa, .inr (9, [.ref sb, .int (iz (sn)), .long (lz (st))])), (sb, zaL (G.2 0) 40 (sf)), (da, .inr (9, [.ref db, .int (iz (dn)), .long (lz (dt))])), (db, zaL (G.2 0) 40 (df)), (y, .inr (6, [.ref am, .ref q, .ref bq])), (am, zaL (G.2 0) 41 (f))] H := hP
  have hD : va_D A [(q, .inr (2, [.ref sa, .ref da, .ref wa, .long (lz (u0)), .long (lz (d0)), .int (iz (p0))])), (sa, .inr (9, [.ref sb, .int (iz (sn)), .long (lz (st))])), (sb, zaL (G.2 0) 40 (sf)), (da, .inr (9, [.ref db, .int (iz (dn)), .long (lz (dt))])), (db, zaL (G.2 0) 40 (df)), (y, .inr (6, [.ref am, .ref q, .ref bq])), (am, zaL (G.2 0) 41 (f))] := hD
  have hfs : fs = zfs f 41 := hfs
  have hfr := zfs_rng f 41
  rw [← hfs] at hfr
  refine lv_istore_n (lv' := [(1, .int (iz (fs))), (0, .ref y)]) hx hb dX5_yieldPoints_4 rfl hl (by decide) rfl (fun ls hl => ?_)
  refine lv_aload_n hx hb dX5_yieldPoints_5 rfl (lv_at hl 1 rfl) ?_
  refine lv_sipush (v := iz (20000)) hx hb dX5_yieldPoints_6 rfl ?_
  refine zc_i (wr := []) (va_runV (As := [.int (iz (20000))]) (rest := []) ⟨hx, hb, hml, hown, hts⟩ (c_X5_signOfWorth l G y am q bq f wa sa sb sf sn st da db df dn dt u0 d0 p0 20000 (by omega) (by omega) H.size) (cwV 1 hts gX5_yieldPoints_X5_signOfWorth rfl rfl rfl (by decide +kernel) ⟨Nat.le_of_ble_eq_true rfl, Nat.le_of_ble_eq_true rfl⟩) (zpV hKX hP hD [5, 6, 0, 1, 2, 3, 4] rfl rfl 5 6 rfl rfl) rfl rfl hl.1 rfl (lv_room (Nat.le_of_ble_eq_true rfl)) dX5_yieldPoints_9 ⟨(by first | exact Nat.le_of_ble_eq_true rfl | (show _ ≤ (0 : Nat); omega)), (by first | exact Nat.le_of_ble_eq_true rfl | (show _ ≤ (0 : Nat); omega))⟩) hP hD hS hA [5, 6, 0, 1, 2, 3, 4] [] rfl rfl rfl (by decide) (fun c1 u_3 H locs hc1 hP hD hS => ?_)
  obtain ⟨sf3, sn3, st3, df3, dn3, dt3, pe3, qu3, qd3⟩ := u_3
  have hP : va_P G.1 vwCl [(y, .inr (6, [.ref am, .ref q, .ref bq])), (am, zaL (G.2 0) 41 (f)), (q, .inr (2, [.ref sa, .ref da, .ref wa, .long (lz (qu3)), .long (lz (qd3)), .int (iz (pe3))])), (sa, .inr (9, [.ref sb, .int (iz (sn3)), .long (lz (st3))])), (sb, zaL (G.2 0) 40 (sf3)), (da, .inr (9, [.ref db, .int (iz (dn3)), .long (lz (dt3))])), (db, zaL (G.2 0) 40 (df3))] H := hP
  have hD : va_D A [(y, .inr (6, [.ref am, .ref q, .ref bq])), (am, zaL (G.2 0) 41 (f)), (q, .inr (2, [.ref sa, .ref da, .ref wa, .long (lz (qu3)), .long (lz (qd3)), .int (iz (pe3))])), (sa, .inr (9, [.ref sb, .int (iz (sn3)), .long (lz (st3))])), (sb, zaL (G.2 0) 40 (sf3)), (da, .inr (9, [.ref db, .int (iz (dn3)), .long (lz (dt3))])), (db, zaL (G.2 0) 40 (df3))] := hD
  have hc1 : c1 = (znm f (20000 : Int)).sign ∧ qu3 = zqu (20000 : Int) ∧ qd3 = zqd (20000 : Int) := hc1
  have hcr := zsgr (znm f 20000)
  rw [← hc1.1] at hcr
  refine lv_iload_n hx hb dX5_yieldPoints_12 rfl (lv_at hl 0 rfl) ?_
  refine zr_ineg hx hb dX5_yieldPoints_13 ?_
  refine zr_icmp_ne (x := c1) (y := -(fs)) (tgt := 19) hx hb (⟨by omega, by omega⟩) (⟨by omega, by omega⟩) dX5_yieldPoints_14 (by decide) (fun h_5 => ?_) (fun h_5 => ?_)
  ·
    have hcc : ¬ (znm f (20000)).sign = -fs := by rw [← hc1.1]; exact h_5
    refine lv_iconst (v := iz (0)) hx hb dX5_yieldPoints_19 rfl ?_
    refine lv_istore_n (lv' := [(2, .int (iz (0))), (1, .int (iz (fs))), (0, .ref y)]) hx hb dX5_yieldPoints_20 rfl hl (by decide) rfl (fun ls hl => ?_)
    refine lv_sipush (v := iz (20000)) hx hb dX5_yieldPoints_21 rfl ?_
    refine lv_istore_n (lv' := [(3, .int (iz (20000))), (2, .int (iz (0))), (1, .int (iz (fs))), (0, .ref y)]) hx hb dX5_yieldPoints_24 rfl hl (by decide) rfl (fun ls hl => ?_)
    refine lv_iconst (v := iz (0)) hx hb dX5_yieldPoints_25 rfl ?_
    refine lv_istore (lv' := [(4, .int (iz (0))), (3, .int (iz (20000))), (2, .int (iz (0))), (1, .int (iz (fs))), (0, .ref y)]) hx hb dX5_yieldPoints_26 hl (by decide) rfl (fun ls hl => ?_)
    have hl_28 : ∀ (zn_28 : Nat) (tn : Int) (lo : Int) (hi : Int) (xu : Int) (xd : Int) (xp : Int) (sg : Int → Int) (sm : Int) (su : Int) (dg : Int → Int) (dm : Int) (du : Int) (H : Heap) (locs : List Loc) (ls : Array Slot), (hi - lo).toNat < zn_28 → (0 ≤ lo ∧ lo ≤ hi ∧ hi ≤ 20000 ∧ 0 ≤ tn ∧ tn + hi - lo ≤ 20000) → (¬ (znm f (hi)).sign = -fs) → (lo = 0 ∨ (znm f (lo - 1)).sign = -fs) → va_P G.1 vwCl [(y, .inr (6, [.ref am, .ref q, .ref bq])), (am, zaL (G.2 0) 41 (f)), (q, .inr (2, [.ref sa, .ref da, .ref wa, .long (lz (xu)), .long (lz (xd)), .int (iz (xp))])), (sa, .inr (9, [.ref sb, .int (iz (sm)), .long (lz (su))])), (sb, zaL (G.2 0) 40 (sg)), (da, .inr (9, [.ref db, .int (iz (dm)), .long (lz (du))])), (db, zaL (G.2 0) 40 (dg))] H → va_D A [(y, .inr (6, [.ref am, .ref q, .ref bq])), (am, zaL (G.2 0) 41 (f)), (q, .inr (2, [.ref sa, .ref da, .ref wa, .long (lz (xu)), .long (lz (xd)), .int (iz (xp))])), (sa, .inr (9, [.ref sb, .int (iz (sm)), .long (lz (su))])), (sb, zaL (G.2 0) 40 (sg)), (da, .inr (9, [.ref db, .int (iz (dm)), .long (lz (du))])), (db, zaL (G.2 0) 40 (dg))] → va_S A s.heap H locs → lv_has ls 6 [(4, .int (iz (tn))), (3, .int (iz (hi))), (2, .int (iz (lo))), (1, .int (iz (fs))), (0, .ref y)] → W p l e rm_c_X5_yieldPoints s m ([.ref y] : List Value).toArray below meth c H locs (0 + 0 + 0) (0 + 0 + 0) Q (F0 m 28 ls []) := by
      intro zn_28
      induction zn_28 with
      | zero => intro tn lo hi xu xd xp sg sm su dg dm du H locs ls hm; exact absurd hm (Nat.not_lt_zero _)
      | succ zn_28 ih_28 =>
        intro tn lo hi xu xd xp sg sm su dg dm du H locs ls hm_28 k1 k2 k3 hP hD hS hl
        refine lv_iload hx hb dX5_yieldPoints_28 (lv_at hl 0 rfl) ?_
        refine zr_ldc (z := 1000000) hx hb hown (hts (.constant RX5 91 (1000000)) (by decide +kernel)) rfl dX5_yieldPoints_30 ?_
        refine zr_icmp_ge (x := tn) (y := 1000000) (tgt := 75) hx hb (⟨by omega, by omega⟩) (⟨by omega, by omega⟩) dX5_yieldPoints_32 (by decide) (fun h_6 => ?_) (fun h_6 => ?_)
        · exact absurd h_6 (by omega)
        ·
          refine lv_iload_n hx hb dX5_yieldPoints_35 rfl (lv_at hl 2 rfl) ?_
          refine lv_iload_n hx hb dX5_yieldPoints_36 rfl (lv_at hl 1 rfl) ?_
          refine zr_icmp_ge (x := lo) (y := hi) (tgt := 75) hx hb (⟨by omega, by omega⟩) (⟨by omega, by omega⟩) dX5_yieldPoints_37 (by decide) (fun h_7 => ?_) (fun h_7 => ?_)
          ·
            refine lv_iload_n hx hb dX5_yieldPoints_75 rfl (lv_at hl 2 rfl) ?_
            rw [hQ]
            exact zr_iret (z := lo) (u := (sg, sm, su, dg, dm, du, xp, xu, xd)) hx hb hr hlocks hP hD hS (by first | exact Nat.le_of_ble_eq_true rfl | omega) (by first | exact Nat.le_of_ble_eq_true rfl | omega) dX5_yieldPoints_76 (show ((lo = -1 ∧ (znm f (20000)).sign = -zfs f 41) ∨ (0 ≤ lo ∧ lo ≤ 20000 ∧ ¬ (znm f (lo)).sign = -zfs f 41 ∧ (lo = 0 ∨ (znm f (lo - 1)).sign = -zfs f 41))) from Or.inr ⟨by omega, by omega, by rw [← hfs, show lo = hi by omega]; exact k2, by rw [← hfs]; exact k3⟩)
          ·
            refine lv_iload_n hx hb dX5_yieldPoints_40 rfl (lv_at hl 2 rfl) ?_
            refine lv_iload_n hx hb dX5_yieldPoints_41 rfl (lv_at hl 1 rfl) ?_
            refine zr_iadd hx hb dX5_yieldPoints_42 ?_
            refine lv_iconst (v := iz (2)) hx hb dX5_yieldPoints_43 rfl ?_
            refine zr_idiv hx hb (x := lo + hi) (y := 2) ⟨by omega, by omega⟩ ⟨by omega, by omega⟩ (by omega) (by omega) dX5_yieldPoints_44 ?_
            refine zr_namei (fun mid emid => ?_)
            refine lv_istore (lv' := [(5, .int (iz (mid))), (4, .int (iz (tn))), (3, .int (iz (hi))), (2, .int (iz (lo))), (1, .int (iz (fs))), (0, .ref y)]) hx hb dX5_yieldPoints_45 hl (by decide) rfl (fun ls hl => ?_)
            refine lv_aload_n hx hb dX5_yieldPoints_47 rfl (lv_at hl 5 rfl) ?_
            refine lv_iload hx hb dX5_yieldPoints_48 (lv_at hl 0 rfl) ?_
            refine zc_i (wr := []) (va_runV (As := [.int (iz (mid))]) (rest := []) ⟨hx, hb, hml, hown, hts⟩ (c_X5_signOfWorth l G y am q bq f wa sa sb sg sm su da db dg dm du xu xd xp mid (by omega) (by omega) H.size) (cwV 1 hts gX5_yieldPoints_X5_signOfWorth rfl rfl rfl (by decide +kernel) ⟨Nat.le_of_ble_eq_true rfl, Nat.le_of_ble_eq_true rfl⟩) (zpV hKX hP hD [0, 1, 2, 3, 4, 5, 6] rfl rfl 0 6 rfl rfl) rfl rfl hl.1 rfl (lv_room (Nat.le_of_ble_eq_true rfl)) dX5_yieldPoints_50 ⟨(by first | exact Nat.le_of_ble_eq_true rfl | (show _ ≤ (0 : Nat); omega)), (by first | exact Nat.le_of_ble_eq_true rfl | (show _ ≤ (0 : Nat); omega))⟩) hP hD hS hA [0, 1, 2, 3, 4, 5, 6] [] rfl rfl rfl (by decide) (fun c2 u_8 H locs hc2 hP hD hS => ?_)
            obtain ⟨sf4, sn4, st4, df4, dn4, dt4, pe4, qu4, qd4⟩ := u_8
            have hP : va_P G.1 vwCl [(y, .inr (6, [.ref am, .ref q, .ref bq])), (am, zaL (G.2 0) 41 (f)), (q, .inr (2, [.ref sa, .ref da, .ref wa, .long (lz (qu4)), .long (lz (qd4)), .int (iz (pe4))])), (sa, .inr (9, [.ref sb, .int (iz (sn4)), .long (lz (st4))])), (sb, zaL (G.2 0) 40 (sf4)), (da, .inr (9, [.ref db, .int (iz (dn4)), .long (lz (dt4))])), (db, zaL (G.2 0) 40 (df4))] H := hP
            have hD : va_D A [(y, .inr (6, [.ref am, .ref q, .ref bq])), (am, zaL (G.2 0) 41 (f)), (q, .inr (2, [.ref sa, .ref da, .ref wa, .long (lz (qu4)), .long (lz (qd4)), .int (iz (pe4))])), (sa, .inr (9, [.ref sb, .int (iz (sn4)), .long (lz (st4))])), (sb, zaL (G.2 0) 40 (sf4)), (da, .inr (9, [.ref db, .int (iz (dn4)), .long (lz (dt4))])), (db, zaL (G.2 0) 40 (df4))] := hD
            have hc2 : c2 = (znm f mid).sign ∧ qu4 = zqu mid ∧ qd4 = zqd mid := hc2
            have hcr2 := zsgr (znm f mid)
            rw [← hc2.1] at hcr2
            refine lv_iload_n hx hb dX5_yieldPoints_53 rfl (lv_at hl 4 rfl) ?_
            refine zr_ineg hx hb dX5_yieldPoints_54 ?_
            refine zr_icmp_ne (x := c2) (y := -(fs)) (tgt := 66) hx hb (⟨by omega, by omega⟩) (⟨by omega, by omega⟩) dX5_yieldPoints_55 (by decide) (fun h_10 => ?_) (fun h_10 => ?_)
            ·
              have hm0 : ¬ (znm f (mid)).sign = -fs := by rw [← hc2.1]; exact h_10
              refine lv_iload hx hb dX5_yieldPoints_66 (lv_at hl 0 rfl) ?_
              refine lv_istore_n (lv' := [(3, .int (iz (mid))), (5, .int (iz (mid))), (4, .int (iz (tn))), (2, .int (iz (lo))), (1, .int (iz (fs))), (0, .ref y)]) hx hb dX5_yieldPoints_68 rfl hl (by decide) rfl (fun ls hl => ?_)
              refine lv_iinc (v := iz (tn + 1)) (lv' := [(4, .int (iz (tn + 1))), (3, .int (iz (mid))), (5, .int (iz (mid))), (2, .int (iz (lo))), (1, .int (iz (fs))), (0, .ref y)]) hx hb dX5_yieldPoints_69 hl (k := 2) rfl (by rw [show Int32.ofInt (1) = iz (1) from rfl, iz_add]) (by decide) rfl (fun ls hl => ?_)
              refine lv_goto (tgt := 28) hx hb dX5_yieldPoints_72 (by decide) ?_
              refine W.widen (k := 0 + 0 + 0) (n := 0 + 0 + 0) (by omega) (by omega) ?_
              exact ih_28 (tn + 1) lo mid qu4 qd4 pe4 sf4 sn4 st4 df4 dn4 dt4 _ _ _ (by omega) (by omega) (by first | exact hm0 | exact k2) (by first | exact Or.inr (by rw [show mid + 1 - 1 = mid by omega]; exact hm1) | exact k3) (hP) (hD) hS (lv_sub hl [0, 1, 3, 4, 5] rfl)
            ·
              have hm1 : (znm f (mid)).sign = -fs := by rw [← hc2.1]; exact h_10
              refine lv_iload hx hb dX5_yieldPoints_58 (lv_at hl 0 rfl) ?_
              refine lv_iconst (v := iz (1)) hx hb dX5_yieldPoints_60 rfl ?_
              refine zr_iadd hx hb dX5_yieldPoints_61 ?_
              refine lv_istore_n (lv' := [(2, .int (iz (mid + 1))), (5, .int (iz (mid))), (4, .int (iz (tn))), (3, .int (iz (hi))), (1, .int (iz (fs))), (0, .ref y)]) hx hb dX5_yieldPoints_62 rfl hl (by decide) rfl (fun ls hl => ?_)
              refine lv_goto (tgt := 69) hx hb dX5_yieldPoints_63 (by decide) ?_
              refine lv_iinc (v := iz (tn + 1)) (lv' := [(4, .int (iz (tn + 1))), (2, .int (iz (mid + 1))), (5, .int (iz (mid))), (3, .int (iz (hi))), (1, .int (iz (fs))), (0, .ref y)]) hx hb dX5_yieldPoints_69 hl (k := 2) rfl (by rw [show Int32.ofInt (1) = iz (1) from rfl, iz_add]) (by decide) rfl (fun ls hl => ?_)
              refine lv_goto (tgt := 28) hx hb dX5_yieldPoints_72 (by decide) ?_
              refine W.widen (k := 0 + 0 + 0) (n := 0 + 0 + 0) (by omega) (by omega) ?_
              exact ih_28 (tn + 1) (mid + 1) hi qu4 qd4 pe4 sf4 sn4 st4 df4 dn4 dt4 _ _ _ (by omega) (by omega) (by first | exact hm0 | exact k2) (by first | exact Or.inr (by rw [show mid + 1 - 1 = mid by omega]; exact hm1) | exact k3) (hP) (hD) hS (lv_sub hl [0, 3, 1, 4, 5] rfl)
    exact hl_28 ((20000 - 0 : Int).toNat + 1) 0 0 20000 qu3 qd3 pe3 sf3 sn3 st3 df3 dn3 dt3 _ _ _ (Nat.lt_succ_self _) (by omega) (hcc) (Or.inl rfl) (hP) (hD) hS (hl)
  ·
    have hcn : (znm f (20000)).sign = -fs := by rw [← hc1.1]; exact h_5
    refine lv_iconst (v := iz (-1)) hx hb dX5_yieldPoints_17 rfl ?_
    rw [hQ]
    exact zr_iret (z := -1) (u := (sf3, sn3, st3, df3, dn3, dt3, pe3, qu3, qd3)) hx hb hr hlocks hP hD hS (by first | exact Nat.le_of_ble_eq_true rfl | omega) (by first | exact Nat.le_of_ble_eq_true rfl | omega) dX5_yieldPoints_18 (show (((-1) = -1 ∧ (znm f (20000)).sign = -zfs f 41) ∨ (0 ≤ (-1) ∧ (-1) ≤ 20000 ∧ ¬ (znm f ((-1))).sign = -zfs f 41 ∧ ((-1) = 0 ∨ (znm f ((-1) - 1)).sign = -zfs f 41))) from Or.inl ⟨rfl, by rw [hfs] at hcn; exact hcn⟩)

def rm_c_X5_isCarriedAlike : Room := { frames := 5, cells := 0, slots := 0, locals := 122 }
theorem iw_X5_isCarriedAlike_X1 : ∀ w ∈ wsX10, w ∈ wsX5_isCarriedAlike := by decide +kernel
theorem iw_X5_isCarriedAlike_X5 : ∀ w ∈ wsX50, w ∈ wsX5_isCarriedAlike := by decide +kernel
set_option maxHeartbeats 1000000 in
set_option maxRecDepth 100000 in
theorem c_X5_isCarriedAlike (l : Launch) (G : zG) (y : Nat) (am : Nat) (q : Nat) (bq : Nat) (f : Int → Int) (wa : Nat) (sa : Nat) (sb : Nat) (sf : Int → Int) (sn : Int) (st : Int) (da : Nat) (db : Nat) (df : Int → Int) (dn : Int) (dt : Int) (u0 : Int) (d0 : Int) (p0 : Int) (bwa : Nat) (bsa : Nat) (bsb : Nat) (bsf : Int → Int) (bsn : Int) (bst : Int) (bda : Nat) (bdb : Nat) (bdf : Int → Int) (bdn : Int) (bdt : Int) (bu0 : Int) (bd0 : Int) (bp0 : Int) (po : Int) (hf : zrok f) (h3 : 0 ≤ po ∧ po ≤ 20000) : zM l G yX5_isCarriedAlike wsX5_isCarriedAlike rm_c_X5_isCarriedAlike [.ref y, .int (iz (po))] [(y, .inr (6, [.ref am, .ref q, .ref bq])), (am, zaL (G.2 0) 41 (f)), (q, .inr (2, [.ref sa, .ref da, .ref wa, .long (lz (u0)), .long (lz (d0)), .int (iz (p0))])), (sa, .inr (9, [.ref sb, .int (iz (sn)), .long (lz (st))])), (sb, zaL (G.2 0) 40 (sf)), (da, .inr (9, [.ref db, .int (iz (dn)), .long (lz (dt))])), (db, zaL (G.2 0) 40 (df)), (bq, .inr (2, [.ref bsa, .ref bda, .ref bwa, .long (lz (bu0)), .long (lz (bd0)), .int (iz (bp0))])), (bsa, .inr (9, [.ref bsb, .int (iz (bsn)), .long (lz (bst))])), (bsb, zaL (G.2 0) 40 (bsf)), (bda, .inr (9, [.ref bdb, .int (iz (bdn)), .long (lz (bdt))])), (bdb, zaL (G.2 0) 40 (bdf))] (fun A => zQz G (fun (z : Bool) (u : (Int → Int) × Int × Int × (Int → Int) × Int × Int × Int × (Int → Int) × Int × Int × (Int → Int) × Int × Int × Int) => z = true) (fun (u : (Int → Int) × Int × Int × (Int → Int) × Int × Int × Int × (Int → Int) × Int × Int × (Int → Int) × Int × Int × Int) => [(y, .inr (6, [.ref am, .ref q, .ref bq])), (am, zaL (G.2 0) 41 (f)), (q, .inr (2, [.ref sa, .ref da, .ref wa, .long (lz (zqu po)), .long (lz (zqd po)), .int (iz (u.2.2.2.2.2.2.1))])), (sa, .inr (9, [.ref sb, .int (iz (u.2.1)), .long (lz (u.2.2.1))])), (sb, zaL (G.2 0) 40 (u.1)), (da, .inr (9, [.ref db, .int (iz (u.2.2.2.2.1)), .long (lz (u.2.2.2.2.2.1))])), (db, zaL (G.2 0) 40 (u.2.2.2.1)), (bq, .inr (2, [.ref bsa, .ref bda, .ref bwa, .long (lz (zqd po)), .long (lz (zqu po)), .int (iz (u.2.2.2.2.2.2.2.2.2.2.2.2.2))])), (bsa, .inr (9, [.ref bsb, .int (iz (u.2.2.2.2.2.2.2.2.1)), .long (lz (u.2.2.2.2.2.2.2.2.2.1))])), (bsb, zaL (G.2 0) 40 (u.2.2.2.2.2.2.2.1)), (bda, .inr (9, [.ref bdb, .int (iz (u.2.2.2.2.2.2.2.2.2.2.2.1)), .long (lz (u.2.2.2.2.2.2.2.2.2.2.2.2.1))])), (bdb, zaL (G.2 0) 40 (u.2.2.2.2.2.2.2.2.2.2.1))]) A) 0 0 := by
  refine zM_of (cc := cX5_isCarriedAlike) (maxL := 3) (ret := (some .boolean)) (by decide) rfl (Nat.le_of_ble_eq_true rfl) ?_
  intro p e s m below meth c ls A Q hQ hx hb hr hts hown hlocks hml hnm hKX hP hD hA hS hl
  have hK := hKX.1
  have iwX1 := iw_X5_isCarriedAlike_X1
  have iwX5 := iw_X5_isCarriedAlike_X5
  obtain ⟨H, hH⟩ : ∃ h, h = s.heap := ⟨_, rfl⟩
  obtain ⟨locs, hlo⟩ : ∃ h : List Loc, h = [] := ⟨_, rfl⟩
  have hS : va_S A s.heap H locs := by rw [hH, hlo]; exact hS
  have hP : va_P G.1 vwCl [(y, .inr (6, [.ref am, .ref q, .ref bq])), (am, zaL (G.2 0) 41 (f)), (q, .inr (2, [.ref sa, .ref da, .ref wa, .long (lz (u0)), .long (lz (d0)), .int (iz (p0))])), (sa, .inr (9, [.ref sb, .int (iz (sn)), .long (lz (st))])), (sb, zaL (G.2 0) 40 (sf)), (da, .inr (9, [.ref db, .int (iz (dn)), .long (lz (dt))])), (db, zaL (G.2 0) 40 (df)), (bq, .inr (2, [.ref bsa, .ref bda, .ref bwa, .long (lz (bu0)), .long (lz (bd0)), .int (iz (bp0))])), (bsa, .inr (9, [.ref bsb, .int (iz (bsn)), .long (lz (bst))])), (bsb, zaL (G.2 0) 40 (bsf)), (bda, .inr (9, [.ref bdb, .int (iz (bdn)), .long (lz (bdt))])), (bdb, zaL (G.2 0) 40 (bdf))] H := by rw [hH]; exact hP
  have hD : va_D A [(y, .inr (6, [.ref am, .ref q, .ref bq])), (am, zaL (G.2 0) 41 (f)), (q, .inr (2, [.ref sa, .ref da, .ref wa, .long (lz (u0)), .long (lz (d0)), .int (iz (p0))])), (sa, .inr (9, [.ref sb, .int (iz (sn)), .long (lz (st))])), (sb, zaL (G.2 0) 40 (sf)), (da, .inr (9, [.ref db, .int (iz (dn)), .long (lz (dt))])), (db, zaL (G.2 0) 40 (df)), (bq, .inr (2, [.ref bsa, .ref bda, .ref bwa, .long (lz (bu0)), .long (lz (bd0)), .int (iz (bp0))])), (bsa, .inr (9, [.ref bsb, .int (iz (bsn)), .long (lz (bst))])), (bsb, zaL (G.2 0) 40 (bsf)), (bda, .inr (9, [.ref bdb, .int (iz (bdn)), .long (lz (bdt))])), (bdb, zaL (G.2 0) 40 (bdf))] := hD
  have hl : lv_has ls 3 [(0, .ref y), (1, .int (iz (po)))] := hl
  rw [← hH, ← hlo]
  have hrg := zq_rng h3
  have hf4 := hf 40 (by omega) (by omega)
  refine lv_aload_n hx hb dX5_isCarriedAlike_0 rfl (lv_at hl 0 rfl) ?_
  refine lv_iload_n hx hb dX5_isCarriedAlike_1 rfl (lv_at hl 1 rfl) ?_
  refine lv_bipush (v := iz (40)) hx hb dX5_isCarriedAlike_2 rfl ?_
  refine zc_v (wr := [(bq, .inr (2, [.ref bsa, .ref bda, .ref bwa, .long (lz (bu0)), .long (lz (bd0)), .int (iz (bp0))])), (bsa, .inr (9, [.ref bsb, .int (iz (bsn)), .long (lz (bst))])), (bsb, zaL (G.2 0) 40 (bsf)), (bda, .inr (9, [.ref bdb, .int (iz (bdn)), .long (lz (bdt))])), (bdb, zaL (G.2 0) 40 (bdf))]) (va_runV (As := [.int (iz (po)), .int (iz (40))]) (rest := []) ⟨hx, hb, hml, hown, hts⟩ (c_X5_carry l G y am q bq f wa sa sb sf sn st da db df dn dt u0 d0 p0 po 40 (by omega) (by omega) (by omega) H.size) (cwV 2 hts gX5_isCarriedAlike_X5_carry rfl rfl rfl (by decide +kernel) ⟨Nat.le_of_ble_eq_true rfl, Nat.le_of_ble_eq_true rfl⟩) (zpV hKX hP hD [0, 1, 2, 3, 4, 5, 6] rfl rfl 0 6 rfl rfl) rfl rfl hl.1 rfl (lv_room (Nat.le_of_ble_eq_true rfl)) dX5_isCarriedAlike_4 ⟨(by first | exact Nat.le_of_ble_eq_true rfl | (show _ ≤ (0 : Nat); omega)), (by first | exact Nat.le_of_ble_eq_true rfl | (show _ ≤ (0 : Nat); omega))⟩) hP hD hS hA [0, 1, 2, 3, 4, 5, 6] [7, 8, 9, 10, 11] rfl rfl rfl (by decide) (fun u_1 H locs hc hP hD hS => ?_)
  obtain ⟨sf1, sn1, st1, df1, dn1, dt1, p1⟩ := u_1
  have hP : va_P G.1 vwCl [(bq, .inr (2, [.ref bsa, .ref bda, .ref bwa, .long (lz (bu0)), .long (lz (bd0)), .int (iz (bp0))])), (bsa, .inr (9, [.ref bsb, .int (iz (bsn)), .long (lz (bst))])), (bsb, zaL (G.2 0) 40 (bsf)), (bda, .inr (9, [.ref bdb, .int (iz (bdn)), .long (lz (bdt))])), (bdb, zaL (G.2 0) 40 (bdf)), (y, .inr (6, [.ref am, .ref q, .ref bq])), (am, zaL (G.2 0) 41 (f)), (q, .inr (2, [.ref sa, .ref da, .ref wa, .long (lz (zqu po)), .long (lz (zqd po)), .int (iz (p1))])), (sa, .inr (9, [.ref sb, .int (iz (sn1)), .long (lz (st1))])), (sb, zaL (G.2 0) 40 (sf1)), (da, .inr (9, [.ref db, .int (iz (dn1)), .long (lz (dt1))])), (db, zaL (G.2 0) 40 (df1))] H := hP
  have hD : va_D A [(bq, .inr (2, [.ref bsa, .ref bda, .ref bwa, .long (lz (bu0)), .long (lz (bd0)), .int (iz (bp0))])), (bsa, .inr (9, [.ref bsb, .int (iz (bsn)), .long (lz (bst))])), (bsb, zaL (G.2 0) 40 (bsf)), (bda, .inr (9, [.ref bdb, .int (iz (bdn)), .long (lz (bdt))])), (bdb, zaL (G.2 0) 40 (bdf)), (y, .inr (6, [.ref am, .ref q, .ref bq])), (am, zaL (G.2 0) 41 (f)), (q, .inr (2, [.ref sa, .ref da, .ref wa, .long (lz (zqu po)), .long (lz (zqd po)), .int (iz (p1))])), (sa, .inr (9, [.ref sb, .int (iz (sn1)), .long (lz (st1))])), (sb, zaL (G.2 0) 40 (sf1)), (da, .inr (9, [.ref db, .int (iz (dn1)), .long (lz (dt1))])), (db, zaL (G.2 0) 40 (df1))] := hD
  have hc : zwv sf1 sn1 st1 (zrow (zqu po) (zqd po) f (40 : Int).toNat) := hc
  refine lv_aload_n hx hb dX5_isCarriedAlike_7 rfl (lv_at hl 0 rfl) ?_
  refine va_get (D := G.1) (ci := 6) (v := .ref bq) (C := RX5) (T := TX5) (N := 3) hx hb hts iwX5 hown hK hP 5 rfl rfl 2 (by decide) (hts (.fieldLink RX5 22 "AnnuityHouse$Row" "backFlow" "LAnnuityHouse$Flow;") (by decide +kernel)) (fun _ h9 => h9) rfl dX5_isCarriedAlike_8 ?_
  refine lv_iload_n hx hb dX5_isCarriedAlike_11 rfl (lv_at hl 1 rfl) ?_
  refine lv_aload_n hx hb dX5_isCarriedAlike_12 rfl (lv_at hl 0 rfl) ?_
  refine va_get (D := G.1) (ci := 6) (v := .ref am) (C := RX5) (T := TX5) (N := 3) hx hb hts iwX5 hown hK hP 5 rfl rfl 0 (by decide) (hts (.fieldLink RX5 9 "AnnuityHouse$Row" "amounts" "[J") (by decide +kernel)) (fun _ h9 => h9) rfl dX5_isCarriedAlike_13 ?_
  refine lv_bipush (v := iz (40)) hx hb dX5_isCarriedAlike_16 rfl ?_
  refine zr_lald hx hb hK hP 6 0 rfl rfl (i := 40) (⟨by omega, by omega, by omega⟩) dX5_isCarriedAlike_18 ?_
  refine zc_v (wr := [(y, .inr (6, [.ref am, .ref q, .ref bq])), (am, zaL (G.2 0) 41 (f)), (q, .inr (2, [.ref sa, .ref da, .ref wa, .long (lz (zqu po)), .long (lz (zqd po)), .int (iz (p1))])), (sa, .inr (9, [.ref sb, .int (iz (sn1)), .long (lz (st1))])), (sb, zaL (G.2 0) 40 (sf1)), (da, .inr (9, [.ref db, .int (iz (dn1)), .long (lz (dt1))])), (db, zaL (G.2 0) 40 (df1))]) (va_runV (As := [.int (iz (po)), .long (lz (f 40))]) (rest := []) ⟨hx, hb, hml, hown, hts⟩ (c_X1_beginBackwards l G bq bwa bsa bsb bsf bsn bst bda bdb bdf bdn bdt bu0 bd0 bp0 po (f 40) (by omega) (by omega) H.size) (cwV 2 hts gX5_isCarriedAlike_X1_beginBackwards rfl rfl rfl (by decide +kernel) ⟨Nat.le_of_ble_eq_true rfl, Nat.le_of_ble_eq_true rfl⟩) (zpV hKX hP hD [0, 1, 2, 3, 4] rfl rfl 0 2 rfl rfl) rfl rfl hl.1 rfl (lv_room (Nat.le_of_ble_eq_true rfl)) dX5_isCarriedAlike_19 ⟨(by first | exact Nat.le_of_ble_eq_true rfl | (show _ ≤ (0 : Nat); omega)), (by first | exact Nat.le_of_ble_eq_true rfl | (show _ ≤ (0 : Nat); omega))⟩) hP hD hS hA [0, 1, 2, 3, 4] [5, 6, 7, 8, 9, 10, 11] rfl rfl rfl (by decide) (fun u_4 H locs hbg hP hD hS => ?_)
  obtain ⟨bsf1, bsn1, bst1, bdf1, bdn1, bdt1⟩ := u_4
  have hP : va_P G.1 vwCl [(y, .inr (6, [.ref am, .ref q, .ref bq])), (am, zaL (G.2 0) 41 (f)), (q, .inr (2, [.ref sa, .ref da, .ref wa, .long (lz (zqu po)), .long (lz (zqd po)), .int (iz (p1))])), (sa, .inr (9, [.ref sb, .int (iz (sn1)), .long (lz (st1))])), (sb, zaL (G.2 0) 40 (sf1)), (da, .inr (9, [.ref db, .int (iz (dn1)), .long (lz (dt1))])), (db, zaL (G.2 0) 40 (df1)), (bq, .inr (2, [.ref bsa, .ref bda, .ref bwa, .long (lz (zqd po)), .long (lz (zqu po)), .int (iz (0))])), (bsa, .inr (9, [.ref bsb, .int (iz (bsn1)), .long (lz (bst1))])), (bsb, zaL (G.2 0) 40 (bsf1)), (bda, .inr (9, [.ref bdb, .int (iz (bdn1)), .long (lz (bdt1))])), (bdb, zaL (G.2 0) 40 (bdf1))] H := hP
  have hD : va_D A [(y, .inr (6, [.ref am, .ref q, .ref bq])), (am, zaL (G.2 0) 41 (f)), (q, .inr (2, [.ref sa, .ref da, .ref wa, .long (lz (zqu po)), .long (lz (zqd po)), .int (iz (p1))])), (sa, .inr (9, [.ref sb, .int (iz (sn1)), .long (lz (st1))])), (sb, zaL (G.2 0) 40 (sf1)), (da, .inr (9, [.ref db, .int (iz (dn1)), .long (lz (dt1))])), (db, zaL (G.2 0) 40 (df1)), (bq, .inr (2, [.ref bsa, .ref bda, .ref bwa, .long (lz (zqd po)), .long (lz (zqu po)), .int (iz (0))])), (bsa, .inr (9, [.ref bsb, .int (iz (bsn1)), .long (lz (bst1))])), (bsb, zaL (G.2 0) 40 (bsf1)), (bda, .inr (9, [.ref bdb, .int (iz (bdn1)), .long (lz (bdt1))])), (bdb, zaL (G.2 0) 40 (bdf1))] := hD
  have hbg : zwv bsf1 bsn1 bst1 (f 40) ∧ zwv bdf1 bdn1 bdt1 1 := hbg
  refine lv_bipush (v := iz (39)) hx hb dX5_isCarriedAlike_22 rfl ?_
  refine lv_istore_n (lv' := [(2, .int (iz (39))), (0, .ref y), (1, .int (iz (po)))]) hx hb dX5_isCarriedAlike_24 rfl hl (by decide) rfl (fun ls hl => ?_)
  have hl_25 : ∀ (zn_25 : Nat) (i : Int) (bpq : Int) (bsg : Int → Int) (bsm : Int) (bsu : Int) (bdg : Int → Int) (bdm : Int) (bdu : Int) (H : Heap) (locs : List Loc) (ls : Array Slot), (i + 1).toNat < zn_25 → (-1 ≤ i ∧ i ≤ 39) → (zwv bsg bsm bsu (zrow (zqd po) (zqu po) (fun j => f (40 - j)) (39 - i).toNat)) → (zwv bdg bdm bdu ((zqu po) ^ (39 - i).toNat)) → va_P G.1 vwCl [(y, .inr (6, [.ref am, .ref q, .ref bq])), (am, zaL (G.2 0) 41 (f)), (q, .inr (2, [.ref sa, .ref da, .ref wa, .long (lz (zqu po)), .long (lz (zqd po)), .int (iz (p1))])), (sa, .inr (9, [.ref sb, .int (iz (sn1)), .long (lz (st1))])), (sb, zaL (G.2 0) 40 (sf1)), (da, .inr (9, [.ref db, .int (iz (dn1)), .long (lz (dt1))])), (db, zaL (G.2 0) 40 (df1)), (bq, .inr (2, [.ref bsa, .ref bda, .ref bwa, .long (lz (zqd po)), .long (lz (zqu po)), .int (iz (bpq))])), (bsa, .inr (9, [.ref bsb, .int (iz (bsm)), .long (lz (bsu))])), (bsb, zaL (G.2 0) 40 (bsg)), (bda, .inr (9, [.ref bdb, .int (iz (bdm)), .long (lz (bdu))])), (bdb, zaL (G.2 0) 40 (bdg))] H → va_D A [(y, .inr (6, [.ref am, .ref q, .ref bq])), (am, zaL (G.2 0) 41 (f)), (q, .inr (2, [.ref sa, .ref da, .ref wa, .long (lz (zqu po)), .long (lz (zqd po)), .int (iz (p1))])), (sa, .inr (9, [.ref sb, .int (iz (sn1)), .long (lz (st1))])), (sb, zaL (G.2 0) 40 (sf1)), (da, .inr (9, [.ref db, .int (iz (dn1)), .long (lz (dt1))])), (db, zaL (G.2 0) 40 (df1)), (bq, .inr (2, [.ref bsa, .ref bda, .ref bwa, .long (lz (zqd po)), .long (lz (zqu po)), .int (iz (bpq))])), (bsa, .inr (9, [.ref bsb, .int (iz (bsm)), .long (lz (bsu))])), (bsb, zaL (G.2 0) 40 (bsg)), (bda, .inr (9, [.ref bdb, .int (iz (bdm)), .long (lz (bdu))])), (bdb, zaL (G.2 0) 40 (bdg))] → va_S A s.heap H locs → lv_has ls 3 [(2, .int (iz (i))), (0, .ref y), (1, .int (iz (po)))] → W p l e rm_c_X5_isCarriedAlike s m ([.ref y, .int (iz (po))] : List Value).toArray below meth c H locs (0 + 0 + 0) (0 + 0 + 0) Q (F0 m 25 ls []) := by
    intro zn_25
    induction zn_25 with
    | zero => intro i bpq bsg bsm bsu bdg bdm bdu H locs ls hm; exact absurd hm (Nat.not_lt_zero _)
    | succ zn_25 ih_25 =>
      intro i bpq bsg bsm bsu bdg bdm bdu H locs ls hm_25 k1 k2 k3 hP hD hS hl
      refine lv_iload_n hx hb dX5_isCarriedAlike_25 rfl (lv_at hl 0 rfl) ?_
      refine zr_if_lt (x := i) (tgt := 48) hx hb (⟨by omega, by omega⟩) dX5_isCarriedAlike_26 (by decide) (fun h_7 => ?_) (fun h_7 => ?_)
      ·
        refine lv_aload_n hx hb dX5_isCarriedAlike_48 rfl (lv_at hl 1 rfl) ?_
        refine va_get (D := G.1) (ci := 6) (v := .ref bq) (C := RX5) (T := TX5) (N := 3) hx hb hts iwX5 hown hK hP 0 rfl rfl 2 (by decide) (hts (.fieldLink RX5 22 "AnnuityHouse$Row" "backFlow" "LAnnuityHouse$Flow;") (by decide +kernel)) (fun _ h9 => h9) rfl dX5_isCarriedAlike_49 ?_
        refine va_get (D := G.1) (ci := 2) (v := .ref bsa) (C := RX1) (T := TX1) (N := 6) hx hb hts iwX1 hown hK hP 7 rfl rfl 0 (by decide) (hts (.fieldLink RX5 71 "AnnuityHouse$Flow" "sum" "LAnnuityHouse$Whole;") (by decide +kernel)) (fun _ h9 => h9) rfl dX5_isCarriedAlike_52 ?_
        refine lv_lconst (v := lz (1)) hx hb dX5_isCarriedAlike_55 rfl ?_
        refine lv_aload_n hx hb dX5_isCarriedAlike_56 rfl (lv_at hl 1 rfl) ?_
        refine va_get (D := G.1) (ci := 6) (v := .ref q) (C := RX5) (T := TX5) (N := 3) hx hb hts iwX5 hown hK hP 0 rfl rfl 1 (by decide) (hts (.fieldLink RX5 18 "AnnuityHouse$Row" "flow" "LAnnuityHouse$Flow;") (by decide +kernel)) (fun _ h9 => h9) rfl dX5_isCarriedAlike_57 ?_
        refine va_get (D := G.1) (ci := 2) (v := .ref sa) (C := RX1) (T := TX1) (N := 6) hx hb hts iwX1 hown hK hP 2 rfl rfl 0 (by decide) (hts (.fieldLink RX5 71 "AnnuityHouse$Flow" "sum" "LAnnuityHouse$Whole;") (by decide +kernel)) (fun _ h9 => h9) rfl dX5_isCarriedAlike_60 ?_
        refine zr_ldc2 (z := -1) hx hb hown (hts (.constantLong RX5 100 (-1)) (by decide +kernel)) rfl dX5_isCarriedAlike_63 ?_
        refine lv_iconst (v := iz (0)) hx hb dX5_isCarriedAlike_66 rfl ?_
        have hb5 := zrow_35 (U := zqd po) (P := zqu po) (A := 2000000000) (f := fun j => f (40 - j)) (by omega) (by omega) (39 - i).toNat (fun j a b => hf.two (40 - j) (by omega) (by omega)) (by decide) (Or.inl ⟨by omega, by decide⟩)
        have hs5 := zwv_small k2 (k := 37) (by have := z35_37; omega) (by have := z35_37; omega)
        have hb6 := zrow_35 (U := zqu po) (P := zqd po) (A := 2000000000) (f := f) (by omega) (by omega) (40 : Int).toNat (fun j a b => hf.two j a (by omega)) (by decide) (Or.inl ⟨by omega, by decide⟩)
        have hs6 := zwv_small hc (k := 37) (by have := z35_37; omega) (by have := z35_37; omega)
        refine zc_v (wr := [(y, .inr (6, [.ref am, .ref q, .ref bq])), (am, zaL (G.2 0) 41 (f)), (q, .inr (2, [.ref sa, .ref da, .ref wa, .long (lz (zqu po)), .long (lz (zqd po)), .int (iz (p1))])), (da, .inr (9, [.ref db, .int (iz (dn1)), .long (lz (dt1))])), (db, zaL (G.2 0) 40 (df1)), (bq, .inr (2, [.ref bsa, .ref bda, .ref bwa, .long (lz (zqd po)), .long (lz (zqu po)), .int (iz (bpq))])), (bda, .inr (9, [.ref bdb, .int (iz (bdm)), .long (lz (bdu))])), (bdb, zaL (G.2 0) 40 (bdg))]) (va_runV (As := [.long (lz (1)), .ref sa, .long (lz (-1)), .int (iz (0))]) (rest := []) ⟨hx, hb, hml, hown, hts⟩ (c_X8_combine l G bsa bsb bsg bsm bsu sa sb sf1 sn1 st1 (zrow (zqd po) (zqu po) (fun j => f (40 - j)) (39 - i).toNat) (zrow (zqu po) (zqd po) f (40 : Int).toNat) 1 (-1) 0 (k2) (hc) (by omega) (by omega) (by omega) (⟨by omega, by omega⟩) H.size) (cwV 4 hts gX5_isCarriedAlike_X8_combine rfl rfl rfl (by decide +kernel) ⟨Nat.le_of_ble_eq_true rfl, Nat.le_of_ble_eq_true rfl⟩) (zpV hKX hP hD [8, 9, 3, 4] rfl rfl 8 9 rfl rfl) rfl rfl hl.1 rfl (lv_room (Nat.le_of_ble_eq_true rfl)) dX5_isCarriedAlike_67 ⟨(by first | exact Nat.le_of_ble_eq_true rfl | (show _ ≤ (0 : Nat); omega)), (by first | exact Nat.le_of_ble_eq_true rfl | (show _ ≤ (0 : Nat); omega))⟩) hP hD hS hA [8, 9, 3, 4] [0, 1, 2, 5, 6, 7, 10, 11] rfl rfl rfl (by decide) (fun u_8 H locs hcm hP hD hS => ?_)
        obtain ⟨bsf5, bsn5, bst5⟩ := u_8
        have hP : va_P G.1 vwCl [(y, .inr (6, [.ref am, .ref q, .ref bq])), (am, zaL (G.2 0) 41 (f)), (q, .inr (2, [.ref sa, .ref da, .ref wa, .long (lz (zqu po)), .long (lz (zqd po)), .int (iz (p1))])), (da, .inr (9, [.ref db, .int (iz (dn1)), .long (lz (dt1))])), (db, zaL (G.2 0) 40 (df1)), (bq, .inr (2, [.ref bsa, .ref bda, .ref bwa, .long (lz (zqd po)), .long (lz (zqu po)), .int (iz (bpq))])), (bda, .inr (9, [.ref bdb, .int (iz (bdm)), .long (lz (bdu))])), (bdb, zaL (G.2 0) 40 (bdg)), (bsa, .inr (9, [.ref bsb, .int (iz (bsn5)), .long (lz (bst5))])), (bsb, zaL (G.2 0) 40 (bsf5)), (sa, .inr (9, [.ref sb, .int (iz (sn1)), .long (lz (st1))])), (sb, zaL (G.2 0) 40 (sf1))] H := hP
        have hD : va_D A [(y, .inr (6, [.ref am, .ref q, .ref bq])), (am, zaL (G.2 0) 41 (f)), (q, .inr (2, [.ref sa, .ref da, .ref wa, .long (lz (zqu po)), .long (lz (zqd po)), .int (iz (p1))])), (da, .inr (9, [.ref db, .int (iz (dn1)), .long (lz (dt1))])), (db, zaL (G.2 0) 40 (df1)), (bq, .inr (2, [.ref bsa, .ref bda, .ref bwa, .long (lz (zqd po)), .long (lz (zqu po)), .int (iz (bpq))])), (bda, .inr (9, [.ref bdb, .int (iz (bdm)), .long (lz (bdu))])), (bdb, zaL (G.2 0) 40 (bdg)), (bsa, .inr (9, [.ref bsb, .int (iz (bsn5)), .long (lz (bst5))])), (bsb, zaL (G.2 0) 40 (bsf5)), (sa, .inr (9, [.ref sb, .int (iz (sn1)), .long (lz (st1))])), (sb, zaL (G.2 0) 40 (sf1))] := hD
        have hcm : zwv bsf5 bsn5 bst5 ((zrow (zqd po) (zqu po) (fun j => f (40 - j)) (39 - i).toNat) * (1 : Int) + (zrow (zqu po) (zqd po) f (40 : Int).toNat) * 1073741824 ^ (0 : Int).toNat * (-1 : Int)) := hcm
        rw [zalike (show i = -1 by omega)] at hcm
        refine lv_aload_n hx hb dX5_isCarriedAlike_70 rfl (lv_at hl 1 rfl) ?_
        refine va_get (D := G.1) (ci := 6) (v := .ref bq) (C := RX5) (T := TX5) (N := 3) hx hb hts iwX5 hown hK hP 0 rfl rfl 2 (by decide) (hts (.fieldLink RX5 22 "AnnuityHouse$Row" "backFlow" "LAnnuityHouse$Flow;") (by decide +kernel)) (fun _ h9 => h9) rfl dX5_isCarriedAlike_71 ?_
        refine va_get (D := G.1) (ci := 2) (v := .ref bsa) (C := RX1) (T := TX1) (N := 6) hx hb hts iwX1 hown hK hP 5 rfl rfl 0 (by decide) (hts (.fieldLink RX5 71 "AnnuityHouse$Flow" "sum" "LAnnuityHouse$Whole;") (by decide +kernel)) (fun _ h9 => h9) rfl dX5_isCarriedAlike_74 ?_
        refine zc_i (wr := [(y, .inr (6, [.ref am, .ref q, .ref bq])), (am, zaL (G.2 0) 41 (f)), (q, .inr (2, [.ref sa, .ref da, .ref wa, .long (lz (zqu po)), .long (lz (zqd po)), .int (iz (p1))])), (da, .inr (9, [.ref db, .int (iz (dn1)), .long (lz (dt1))])), (db, zaL (G.2 0) 40 (df1)), (bq, .inr (2, [.ref bsa, .ref bda, .ref bwa, .long (lz (zqd po)), .long (lz (zqu po)), .int (iz (bpq))])), (bda, .inr (9, [.ref bdb, .int (iz (bdm)), .long (lz (bdu))])), (bdb, zaL (G.2 0) 40 (bdg)), (sa, .inr (9, [.ref sb, .int (iz (sn1)), .long (lz (st1))])), (sb, zaL (G.2 0) 40 (sf1))]) (va_runV (As := []) (rest := []) ⟨hx, hb, hml, hown, hts⟩ (c_X8_sign l G bsa bsb bsf5 bsn5 bst5 0 (hcm) H.size) (cwV 0 hts gX5_isCarriedAlike_X8_sign rfl rfl rfl (by decide +kernel) ⟨Nat.le_of_ble_eq_true rfl, Nat.le_of_ble_eq_true rfl⟩) (zpV hKX hP hD [8, 9] rfl rfl 8 9 rfl rfl) rfl rfl hl.1 rfl (lv_room (Nat.le_of_ble_eq_true rfl)) dX5_isCarriedAlike_77 ⟨(by first | exact Nat.le_of_ble_eq_true rfl | (show _ ≤ (0 : Nat); omega)), (by first | exact Nat.le_of_ble_eq_true rfl | (show _ ≤ (0 : Nat); omega))⟩) hP hD hS hA [8, 9] [0, 1, 2, 3, 4, 5, 6, 7, 10, 11] rfl rfl rfl (by decide) (fun sg u_11 H locs hsg hP hD hS => ?_)
        have hP : va_P G.1 vwCl [(y, .inr (6, [.ref am, .ref q, .ref bq])), (am, zaL (G.2 0) 41 (f)), (q, .inr (2, [.ref sa, .ref da, .ref wa, .long (lz (zqu po)), .long (lz (zqd po)), .int (iz (p1))])), (da, .inr (9, [.ref db, .int (iz (dn1)), .long (lz (dt1))])), (db, zaL (G.2 0) 40 (df1)), (bq, .inr (2, [.ref bsa, .ref bda, .ref bwa, .long (lz (zqd po)), .long (lz (zqu po)), .int (iz (bpq))])), (bda, .inr (9, [.ref bdb, .int (iz (bdm)), .long (lz (bdu))])), (bdb, zaL (G.2 0) 40 (bdg)), (sa, .inr (9, [.ref sb, .int (iz (sn1)), .long (lz (st1))])), (sb, zaL (G.2 0) 40 (sf1)), (bsa, .inr (9, [.ref bsb, .int (iz (bsn5)), .long (lz (bst5))])), (bsb, zaL (G.2 0) 40 (bsf5))] H := hP
        have hD : va_D A [(y, .inr (6, [.ref am, .ref q, .ref bq])), (am, zaL (G.2 0) 41 (f)), (q, .inr (2, [.ref sa, .ref da, .ref wa, .long (lz (zqu po)), .long (lz (zqd po)), .int (iz (p1))])), (da, .inr (9, [.ref db, .int (iz (dn1)), .long (lz (dt1))])), (db, zaL (G.2 0) 40 (df1)), (bq, .inr (2, [.ref bsa, .ref bda, .ref bwa, .long (lz (zqd po)), .long (lz (zqu po)), .int (iz (bpq))])), (bda, .inr (9, [.ref bdb, .int (iz (bdm)), .long (lz (bdu))])), (bdb, zaL (G.2 0) 40 (bdg)), (sa, .inr (9, [.ref sb, .int (iz (sn1)), .long (lz (st1))])), (sb, zaL (G.2 0) 40 (sf1)), (bsa, .inr (9, [.ref bsb, .int (iz (bsn5)), .long (lz (bst5))])), (bsb, zaL (G.2 0) 40 (bsf5))] := hD
        have hsg : sg = (0 : Int).sign := hsg
        have hsg0 : sg = 0 := hsg.trans rfl
        refine zr_if_ne (x := sg) (tgt := 87) hx hb (⟨by omega, by omega⟩) dX5_isCarriedAlike_80 (by decide) (fun h_13 => ?_) (fun h_13 => ?_)
        · exact absurd h_13 (not_not_intro hsg0)
        ·
          refine lv_iconst (v := iz (1)) hx hb dX5_isCarriedAlike_83 rfl ?_
          refine lv_goto (tgt := 88) hx hb dX5_isCarriedAlike_84 (by decide) ?_
          rw [hQ]
          exact zr_zret (z := true) (rfl) (u := (sf1, sn1, st1, df1, dn1, dt1, p1, bsf5, bsn5, bst5, bdg, bdm, bdu, bpq)) hx hb hr hlocks (hP.sub [0, 1, 2, 8, 9, 3, 4, 5, 10, 11, 6, 7] rfl) (hD.sub [0, 1, 2, 8, 9, 3, 4, 5, 10, 11, 6, 7] (by decide) rfl) hS (by first | exact Nat.le_of_ble_eq_true rfl | omega) (by first | exact Nat.le_of_ble_eq_true rfl | omega) dX5_isCarriedAlike_88 (show true = true from rfl)
      ·
        have hfi := hf i (by omega) (by omega)
        refine lv_aload_n hx hb dX5_isCarriedAlike_29 rfl (lv_at hl 1 rfl) ?_
        refine va_get (D := G.1) (ci := 6) (v := .ref bq) (C := RX5) (T := TX5) (N := 3) hx hb hts iwX5 hown hK hP 0 rfl rfl 2 (by decide) (hts (.fieldLink RX5 22 "AnnuityHouse$Row" "backFlow" "LAnnuityHouse$Flow;") (by decide +kernel)) (fun _ h9 => h9) rfl dX5_isCarriedAlike_30 ?_
        refine lv_aload_n hx hb dX5_isCarriedAlike_33 rfl (lv_at hl 1 rfl) ?_
        refine va_get (D := G.1) (ci := 6) (v := .ref am) (C := RX5) (T := TX5) (N := 3) hx hb hts iwX5 hown hK hP 0 rfl rfl 0 (by decide) (hts (.fieldLink RX5 9 "AnnuityHouse$Row" "amounts" "[J") (by decide +kernel)) (fun _ h9 => h9) rfl dX5_isCarriedAlike_34 ?_
        refine lv_iload_n hx hb dX5_isCarriedAlike_37 rfl (lv_at hl 0 rfl) ?_
        refine zr_lald hx hb hK hP 1 0 rfl rfl (i := i) (⟨by omega, by omega, by omega⟩) dX5_isCarriedAlike_38 ?_
        have hb1 := zrow_35 (U := zqd po) (P := zqu po) (A := 2000000000) (f := fun j => f (40 - j)) (by omega) (by omega) (39 - i).toNat (fun j a b => hf.two (40 - j) (by omega) (by omega)) (by decide) (Or.inl ⟨by omega, by decide⟩)
        have hs1 := zwv_small k2 (k := 37) (by have := z35_37; omega) (by have := z35_37; omega)
        have hb2 := zrp (P := zqu po) (k := 39 - i) (by omega) (by omega)
        have hs2 := zwv_small k3 (k := 37) (by have := z35_37; omega) (by have := z35_37; omega)
        have hb3 := zrp (P := zqu po) (k := 39 - (i - 1)) (by omega) (by omega)
        have ep : (zqu po) ^ (39 - i).toNat * zqu po = (zqu po) ^ (39 - (i - 1)).toNat := by rw [show (39 - (i - 1)).toNat = (39 - i).toNat + 1 by omega, Int.pow_succ]
        refine zc_v (wr := [(y, .inr (6, [.ref am, .ref q, .ref bq])), (am, zaL (G.2 0) 41 (f)), (q, .inr (2, [.ref sa, .ref da, .ref wa, .long (lz (zqu po)), .long (lz (zqd po)), .int (iz (p1))])), (sa, .inr (9, [.ref sb, .int (iz (sn1)), .long (lz (st1))])), (sb, zaL (G.2 0) 40 (sf1)), (da, .inr (9, [.ref db, .int (iz (dn1)), .long (lz (dt1))])), (db, zaL (G.2 0) 40 (df1))]) (va_runV (As := [.long (lz (f i))]) (rest := []) ⟨hx, hb, hml, hown, hts⟩ (c_X1_next l G bq bwa bsa bsb bsg bsm bsu bda bdb bdg bdm bdu (zqd po) (zqu po) bpq (zrow (zqd po) (zqu po) (fun j => f (40 - j)) (39 - i).toNat) ((zqu po) ^ (39 - i).toNat) (f i) (k2) (k3) (by omega) (by omega) (by omega) (by rw [ep]; have := z35_37; omega) H.size) (cwV 1 hts gX5_isCarriedAlike_X1_next rfl rfl rfl (by decide +kernel) ⟨Nat.le_of_ble_eq_true rfl, Nat.le_of_ble_eq_true rfl⟩) (zpV hKX hP hD [7, 8, 9, 10, 11] rfl rfl 7 2 rfl rfl) rfl rfl hl.1 rfl (lv_room (Nat.le_of_ble_eq_true rfl)) dX5_isCarriedAlike_39 ⟨(by first | exact Nat.le_of_ble_eq_true rfl | (show _ ≤ (0 : Nat); omega)), (by first | exact Nat.le_of_ble_eq_true rfl | (show _ ≤ (0 : Nat); omega))⟩) hP hD hS hA [7, 8, 9, 10, 11] [0, 1, 2, 3, 4, 5, 6] rfl rfl rfl (by decide) (fun u_14 H locs qn hP hD hS => ?_)
        obtain ⟨bsf3, bsn3, bst3, bdf3, bdn3, bdt3⟩ := u_14
        have hP : va_P G.1 vwCl [(y, .inr (6, [.ref am, .ref q, .ref bq])), (am, zaL (G.2 0) 41 (f)), (q, .inr (2, [.ref sa, .ref da, .ref wa, .long (lz (zqu po)), .long (lz (zqd po)), .int (iz (p1))])), (sa, .inr (9, [.ref sb, .int (iz (sn1)), .long (lz (st1))])), (sb, zaL (G.2 0) 40 (sf1)), (da, .inr (9, [.ref db, .int (iz (dn1)), .long (lz (dt1))])), (db, zaL (G.2 0) 40 (df1)), (bq, .inr (2, [.ref bsa, .ref bda, .ref bwa, .long (lz ((zqd po))), .long (lz ((zqu po))), .int (iz (bpq + 1))])), (bsa, .inr (9, [.ref bsb, .int (iz (bsn3)), .long (lz (bst3))])), (bsb, zaL (G.2 0) 40 (bsf3)), (bda, .inr (9, [.ref bdb, .int (iz (bdn3)), .long (lz (bdt3))])), (bdb, zaL (G.2 0) 40 (bdf3))] H := hP
        have hD : va_D A [(y, .inr (6, [.ref am, .ref q, .ref bq])), (am, zaL (G.2 0) 41 (f)), (q, .inr (2, [.ref sa, .ref da, .ref wa, .long (lz (zqu po)), .long (lz (zqd po)), .int (iz (p1))])), (sa, .inr (9, [.ref sb, .int (iz (sn1)), .long (lz (st1))])), (sb, zaL (G.2 0) 40 (sf1)), (da, .inr (9, [.ref db, .int (iz (dn1)), .long (lz (dt1))])), (db, zaL (G.2 0) 40 (df1)), (bq, .inr (2, [.ref bsa, .ref bda, .ref bwa, .long (lz ((zqd po))), .long (lz ((zqu po))), .int (iz (bpq + 1))])), (bsa, .inr (9, [.ref bsb, .int (iz (bsn3)), .long (lz (bst3))])), (bsb, zaL (G.2 0) 40 (bsf3)), (bda, .inr (9, [.ref bdb, .int (iz (bdn3)), .long (lz (bdt3))])), (bdb, zaL (G.2 0) 40 (bdf3))] := hD
        have qn : zwv bsf3 bsn3 bst3 ((zrow (zqd po) (zqu po) (fun j => f (40 - j)) (39 - i).toNat) * (zqd po) + ((zqu po) ^ (39 - i).toNat) * (zqu po) * (f i)) ∧ zwv bdf3 bdn3 bdt3 (((zqu po) ^ (39 - i).toNat) * (zqu po)) := qn
        have qs := qn.1
        have qd := qn.2
        rw [ep] at qd
        refine lv_iinc (v := iz (i - 1)) (lv' := [(2, .int (iz (i - 1))), (0, .ref y), (1, .int (iz (po)))]) hx hb dX5_isCarriedAlike_42 hl (k := 0) rfl (by rw [show Int32.ofInt (-1) = iz (-1) from rfl, iz_add]; exact congrArg iz (by omega)) (by decide) rfl (fun ls hl => ?_)
        refine lv_goto (tgt := 25) hx hb dX5_isCarriedAlike_45 (by decide) ?_
        refine W.widen (k := 0 + 0 + 0) (n := 0 + 0 + 0) (by omega) (by omega) ?_
        exact ih_25 (i - 1) (bpq + 1) bsf3 bsn3 bst3 bdf3 bdn3 bdt3 _ _ _ (by omega) (by omega) (by rw [← zrw_back (U := zqd po) (P := zqu po) (f := f) k1 (by omega)]; exact qs) (qd) (hP) (hD) hS (hl)
  exact hl_25 ((39 + 1 : Int).toNat + 1) 39 0 bsf1 bsn1 bst1 bdf1 bdn1 bdt1 _ _ _ (Nat.lt_succ_self _) (by omega) (hbg.1) (by simpa using hbg.2) (hP) (hD) hS (hl)
