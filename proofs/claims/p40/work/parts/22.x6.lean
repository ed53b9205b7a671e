-- THE CLASS: Shares, Taxes (laid by wip/p40/y6.py)
-- SHARES, TAXES: what they come to
theorem zsm_b {f : Int → Int} {A : Int} (hA : 0 ≤ A) : ∀ n : Nat, (∀ i : Int, 0 ≤ i → i < n → 0 ≤ f i ∧ f i ≤ A) → 0 ≤ zsm f n ∧ zsm f n ≤ n * A
  | 0, _ => by show (0 : Int) ≤ 0 ∧ (0 : Int) ≤ ((0 : Nat) : Int) * A; omega
  | n + 1, h => by
    obtain ⟨h1, h2⟩ := zsm_b hA n (fun i a b => h i a (by omega))
    have h3 := h n (by omega) (by omega)
    rw [zsm_s, show ((n + 1 : Nat) : Int) = (n : Int) + 1 by omega, Int.add_mul, Int.one_mul]
    omega
/-- the weights told -/
def zwts (f : Int → Int) (n : Int) : Prop := (0 ≤ n ∧ n ≤ 12) ∧ ∀ i : Int, 0 ≤ i → i < n → 0 ≤ f i ∧ f i ≤ 1000000
theorem zwts.all {f : Int → Int} {n : Int} (h : zwts f n) : 0 ≤ zsm f n.toNat ∧ zsm f n.toNat ≤ 12000000 := by
  have h1 := h.1
  obtain ⟨a, b⟩ := zsm_b (f := f) (A := 1000000) (by decide) n.toNat (fun i a b => h.2 i a (by omega))
  have c : ((n.toNat : Nat) : Int) * 1000000 ≤ 12 * 1000000 := by omega
  omega
/-- what one loses, who is ahead, the part -/
def zlos (f : Int → Int) (al mo i : Int) : Int := mo * f i % al
def zah1 (f : Int → Int) (al mo wh j : Int) : Int := if zlos f al mo wh < zlos f al mo j ∨ (zlos f al mo j = zlos f al mo wh ∧ j < wh) then 1 else 0
def zpart (f : Int → Int) (n mo wh : Int) : Int := mo * f wh / zsm f n.toNat + (if zsm (zah1 f (zsm f n.toNat) mo wh) n.toNat < zsm (zlos f (zsm f n.toNat) mo) n.toNat / zsm f n.toNat then 1 else 0)
theorem zah1_r (f : Int → Int) (al mo wh j : Int) : 0 ≤ zah1 f al mo wh j ∧ zah1 f al mo wh j ≤ 1 := by unfold zah1; split <;> omega
theorem zmf_b {mo x : Int} (hm : 0 ≤ mo ∧ mo ≤ 1000000000000) (hx : 0 ≤ x ∧ x ≤ 1000000) : 0 ≤ mo * x ∧ mo * x ≤ 1000000000000000000 := by
  have a := Int.mul_nonneg hm.1 hx.1
  have b := Int.mul_le_mul_of_nonneg_right hm.2 hx.1
  omega
theorem zsm_i' {f : Int → Int} {w i d : Int} (h0 : 0 ≤ i) (h : w = zsm f i.toNat) (hd : d = f i) : w + d = zsm f (i + 1).toNat := by
  rw [hd]; exact zsm_i h0 h
/-- the steps of the tax -/
def zstp (f g : Int → Int) (n : Int) : Prop := (0 ≤ n ∧ n ≤ 8) ∧ ∀ i : Int, 0 ≤ i → i < n → (0 ≤ f i ∧ f i ≤ 1000000000) ∧ (0 ≤ g i ∧ g i ≤ 1000)
def zth1 (f g : Int → Int) (n mo i : Int) : Int := max 0 ((if i + 1 < n then min mo (f (i + 1)) else mo) - f i) * g i
/-- the thousandfold of a tax -/
def zth (f g : Int → Int) (n mo : Int) : Int := zsm (zth1 f g n mo) n.toNat
theorem zth1_b {f g : Int → Int} {n mo i : Int} (h : zstp f g n) (hm : 0 ≤ mo ∧ mo ≤ 1000000000000) (hi : 0 ≤ i ∧ i < n) : 0 ≤ zth1 f g n mo i ∧ zth1 f g n mo i ≤ 1000000000000000 := by
  have h1 := h.2 i hi.1 hi.2
  have m : 0 ≤ max 0 ((if i + 1 < n then min mo (f (i + 1)) else mo) - f i) ∧ max 0 ((if i + 1 < n then min mo (f (i + 1)) else mo) - f i) ≤ 1000000000000 := by
    split <;> omega
  unfold zth1
  generalize max 0 ((if i + 1 < n then min mo (f (i + 1)) else mo) - f i) = x at m ⊢
  have a := Int.mul_nonneg m.1 h1.2.1
  have b := Int.mul_le_mul_of_nonneg_right m.2 h1.2.1
  omega
theorem zth_b {f g : Int → Int} {n mo : Int} (h : zstp f g n) (hm : 0 ≤ mo ∧ mo ≤ 1000000000000) : 0 ≤ zth f g n mo ∧ zth f g n mo ≤ 8000000000000000 := by
  have h1 := h.1
  obtain ⟨a, b⟩ := zsm_b (f := zth1 f g n mo) (A := 1000000000000000) (by decide) n.toNat (fun i a b => zth1_b h hm ⟨a, by omega⟩)
  have c : ((n.toNat : Nat) : Int) * 1000000000000000 ≤ 8 * 1000000000000000 := by omega
  unfold zth
  omega
/-- whether some money leaves what is wanted -/
def zlv (f g : Int → Int) (n wa mo : Int) : Prop := mo * 1000 ≤ wa * 1000 - zth f g n wa
theorem zhalf40 {x y d : Int} (h0 : 0 ≤ d) (hd : d ≤ 41) (h : x ≤ 2 ^ (40 - d).toNat ∧ (d = 41 → x ≤ 0)) (h1 : 0 < x) (hy : 2 * y ≤ x) : y ≤ 2 ^ (40 - (d + 1)).toNat ∧ (d + 1 = 41 → y ≤ 0) := by
  rcases (show d = 41 ∨ d = 40 ∨ d ≤ 39 by omega) with q | q | q
  · exact absurd (h.2 q) (by omega)
  · subst q
    have := h.1
    rw [show (40 - (40 : Int)).toNat = 0 from rfl, Int.pow_zero] at this
    exact ⟨by rw [show (40 - ((40 : Int) + 1)).toNat = 0 from rfl, Int.pow_zero]; omega, fun _ => by omega⟩
  · have e : (40 - d).toNat = (40 - (d + 1)).toNat + 1 := by omega
    have := h.1
    rw [e, Int.pow_succ] at this
    exact ⟨by omega, fun z => by omega⟩
theorem zpart_e {f : Int → Int} {n mo wh al w ah i d : Int} (hal : al = zsm f n.toNat) (k2 : w = zsm (zlos f al mo) i.toNat) (k3 : ah = zsm (zah1 f al mo wh) i.toNat) (e : i = n) (hd : d = if ah < w / al then 1 else 0) : mo * f wh / al + d = zpart f n mo wh := by
  subst e
  unfold zpart
  rw [← hal, ← k2, ← k3, hd]
theorem zth1_e {f g : Int → Int} {n mo i en : Int} (h : en = if i + 1 < n then min mo (f (i + 1)) else mo) : max 0 (en - f i) * g i = zth1 f g n mo i := by rw [h]; rfl
def rm_c_X6_init : Room := { frames := 1, cells := 1, slots := 12, locals := 12 }
theorem iw_X6_init_X6 : ∀ w ∈ wsX60, w ∈ wsX6_init := by decide +kernel
set_option maxHeartbeats 1000000 in
set_option maxRecDepth 100000 in
theorem c_X6_init (l : Launch) (G : zG) (y : Nat)  : zM l G yX6_init wsX6_init rm_c_X6_init [.ref y] [(y, .inr (7, [.null, .int (iz (0))]))] (fun A => zQv G (fun (wt : Nat) => True) (fun (wt : Nat) => [(y, .inr (7, [.ref wt, .int (iz (0))])), (wt, zaI (G.2 1) 12 (fun _ => 0))]) A) 1 12 := by
  refine zM_of (cc := cX6_init) (maxL := 1) (ret := none) (by decide) rfl (Nat.le_of_ble_eq_true rfl) ?_
  intro p e s m below meth c ls A Q hQ hx hb hr hts hown hlocks hml hnm hKX hP hD hA hS hl
  have hK := hKX.1
  have iwX6 := iw_X6_init_X6
  obtain ⟨H, hH⟩ : ∃ h, h = s.heap := ⟨_, rfl⟩
  obtain ⟨locs, hlo⟩ : ∃ h : List Loc, h = [] := ⟨_, rfl⟩
  have hS : va_S A s.heap H locs := by rw [hH, hlo]; exact hS
  have hP : va_P G.1 vwCl [(y, .inr (7, [.null, .int (iz (0))]))] H := by rw [hH]; exact hP
  have hD : va_D A [(y, .inr (7, [.null, .int (iz (0))]))] := hD
  have hl : lv_has ls 1 [(0, .ref y)] := hl
  rw [← hH, ← hlo]
  refine lv_aload_n hx hb dX6_init_0 rfl (lv_at hl 0 rfl) ?_
  refine W.objInit hx hb hown (hts (.methodLink RX6 3 objectInit) (by decide +kernel)) (hts (.instanceMethod objectInit) (by decide +kernel)) (hts (.code objectInit ⟨#[0xb1]⟩ 1 none) (by decide +kernel)) rfl (by rw [hml]; exact hl.1) rfl dX6_init_1 (Nat.le_of_ble_eq_true rfl) (Nat.le_of_ble_eq_true rfl) ?_
  refine lv_aload_n hx hb dX6_init_4 rfl (lv_at hl 0 rfl) ?_
  refine lv_bipush (v := iz (12)) hx hb dX6_init_5 rfl ?_
  refine zr_newaI (G := G) (n := 12) (N := 12) hx hb (hts (.arrayClass .int) (by decide +kernel)) hK hP hD hS hA (by omega) (by omega) (by omega) (by first | exact Nat.le_of_ble_eq_true rfl | (show _ ≤ (1 : Nat); omega)) (by first | exact Nat.le_of_ble_eq_true rfl | (show _ ≤ (12 : Nat); omega)) dX6_init_7 (fun wt H hP hD hS => ?_)
  have hP : va_P G.1 vwCl [(y, .inr (7, [.null, .int (iz (0))])), (wt, zaI (G.2 1) 12 (fun _ => 0))] H := hP
  have hD : va_D A [(y, .inr (7, [.null, .int (iz (0))])), (wt, zaI (G.2 1) 12 (fun _ => 0))] := hD
  refine va_putF (D := G.1) (ci := 7) (v := .ref wt) (ty := (.array .int)) (C := RX6) (T := TX6) (N := 2) hx hb hts iwX6 tyX6 tyX6_ok nmX6 hown hK hP hD hS 0 rfl rfl 0 (by decide) (hts (.fieldLink RX6 9 "AnnuityHouse$Shares" "weights" "[I") (by decide +kernel)) (fun _ h9 => h9) rfl hnm rfl (by decide +kernel) rfl rfl (Nat.le_of_ble_eq_true rfl) dX6_init_9 (fun H locs hP hD hS => ?_)
  have hP : va_P G.1 vwCl [(y, .inr (7, [.ref wt, .int (iz (0))])), (wt, zaI (G.2 1) 12 (fun _ => 0))] H := hP
  have hD : va_D A [(y, .inr (7, [.ref wt, .int (iz (0))])), (wt, zaI (G.2 1) 12 (fun _ => 0))] := hD
  refine lv_aload_n hx hb dX6_init_12 rfl (lv_at hl 0 rfl) ?_
  refine lv_iconst (v := iz (0)) hx hb dX6_init_13 rfl ?_
  refine va_put (D := G.1) (ci := 7) (v := .int (iz (0))) (ty := .int) (C := RX6) (T := TX6) (N := 2) hx hb hts iwX6 tyX6 tyX6_ok nmX6 hown hK hP hD hS 0 rfl rfl 1 (by decide) (hts (.fieldLink RX6 15 "AnnuityHouse$Shares" "people" "I") (by decide +kernel)) (fun _ h9 => h9) rfl (by decide +kernel) rfl rfl (Nat.le_of_ble_eq_true rfl) dX6_init_14 (fun H locs hP hD hS => ?_)
  have hP : va_P G.1 vwCl [(y, .inr (7, [.ref wt, .int (iz (0))])), (wt, zaI (G.2 1) 12 (fun _ => 0))] H := hP
  have hD : va_D A [(y, .inr (7, [.ref wt, .int (iz (0))])), (wt, zaI (G.2 1) 12 (fun _ => 0))] := hD
  rw [hQ]
  exact zr_vret (u := (wt)) hx hb hr hlocks hP hD hS (by first | exact Nat.le_of_ble_eq_true rfl | omega) (by first | exact Nat.le_of_ble_eq_true rfl | omega) dX6_init_17 (show True from trivial)

def rm_c_X6_add : Room := { frames := 0, cells := 0, slots := 0, locals := 0 }
theorem iw_X6_add_X6 : ∀ w ∈ wsX60, w ∈ wsX6_add := by decide +kernel
set_option maxHeartbeats 1000000 in
set_option maxRecDepth 100000 in
theorem c_X6_add (l : Launch) (G : zG) (y : Nat) (wt : Nat) (f : Int → Int) (n : Int) (x : Int) (h1 : 0 ≤ n ∧ n ≤ 11) : zM l G yX6_add wsX6_add rm_c_X6_add [.ref y, .int (iz (x))] [(y, .inr (7, [.ref wt, .int (iz (n))])), (wt, zaI (G.2 1) 12 (f))] (fun A => zQi G (fun (z : Int) (_ : Unit) => z = n + 1) (fun (_ : Unit) => [(y, .inr (7, [.ref wt, .int (iz (n + 1))])), (wt, zaI (G.2 1) 12 (zup f n x))]) A) 0 0 := by
  refine zM_of (cc := cX6_add) (maxL := 2) (ret := (some .int)) (by decide) rfl (Nat.le_of_ble_eq_true rfl) ?_
  intro p e s m below meth c ls A Q hQ hx hb hr hts hown hlocks hml hnm hKX hP hD hA hS hl
  have hK := hKX.1
  have iwX6 := iw_X6_add_X6
  obtain ⟨H, hH⟩ : ∃ h, h = s.heap := ⟨_, rfl⟩
  obtain ⟨locs, hlo⟩ : ∃ h : List Loc, h = [] := ⟨_, rfl⟩
  have hS : va_S A s.heap H locs := by rw [hH, hlo]; exact hS
  have hP : va_P G.1 vwCl [(y, .inr (7, [.ref wt, .int (iz (n))])), (wt, zaI (G.2 1) 12 (f))] H := by rw [hH]; exact hP
  have hD : va_D A [(y, .inr (7, [.ref wt, .int (iz (n))])), (wt, zaI (G.2 1) 12 (f))] := hD
  have hl : lv_has ls 2 [(0, .ref y), (1, .int (iz (x)))] := hl
  rw [← hH, ← hlo]
  refine lv_aload_n hx hb dX6_add_0 rfl (lv_at hl 0 rfl) ?_
  refine va_get (D := G.1) (ci := 7) (v := .ref wt) (C := RX6) (T := TX6) (N := 2) hx hb hts iwX6 hown hK hP 0 rfl rfl 0 (by decide) (hts (.fieldLink RX6 9 "AnnuityHouse$Shares" "weights" "[I") (by decide +kernel)) (fun _ h9 => h9) rfl dX6_add_1 ?_
  refine lv_aload_n hx hb dX6_add_4 rfl (lv_at hl 0 rfl) ?_
  refine va_get (D := G.1) (ci := 7) (v := .int (iz (n))) (C := RX6) (T := TX6) (N := 2) hx hb hts iwX6 hown hK hP 0 rfl rfl 1 (by decide) (hts (.fieldLink RX6 15 "AnnuityHouse$Shares" "people" "I") (by decide +kernel)) (fun _ h9 => h9) rfl dX6_add_5 ?_
  refine lv_iload_n hx hb dX6_add_8 rfl (lv_at hl 1 rfl) ?_
  refine zr_iast hx hb hK hP hD hS 1 1 rfl rfl (i := n) (x := x) (⟨by omega, by omega, by omega⟩) dX6_add_9 (fun H locs hP hD hS => ?_)
  have hP : va_P G.1 vwCl [(y, .inr (7, [.ref wt, .int (iz (n))])), (wt, zaI (G.2 1) 12 (zup f n x))] H := hP
  have hD : va_D A [(y, .inr (7, [.ref wt, .int (iz (n))])), (wt, zaI (G.2 1) 12 (zup f n x))] := hD
  refine lv_aload_n hx hb dX6_add_10 rfl (lv_at hl 0 rfl) ?_
  refine lv_dup hx hb dX6_add_11 rfl ?_
  refine va_get (D := G.1) (ci := 7) (v := .int (iz (n))) (C := RX6) (T := TX6) (N := 2) hx hb hts iwX6 hown hK hP 0 rfl rfl 1 (by decide) (hts (.fieldLink RX6 15 "AnnuityHouse$Shares" "people" "I") (by decide +kernel)) (fun _ h9 => h9) rfl dX6_add_12 ?_
  refine lv_iconst (v := iz (1)) hx hb dX6_add_15 rfl ?_
  refine zr_iadd hx hb dX6_add_16 ?_
  refine va_put (D := G.1) (ci := 7) (v := .int (iz (n + 1))) (ty := .int) (C := RX6) (T := TX6) (N := 2) hx hb hts iwX6 tyX6 tyX6_ok nmX6 hown hK hP hD hS 0 rfl rfl 1 (by decide) (hts (.fieldLink RX6 15 "AnnuityHouse$Shares" "people" "I") (by decide +kernel)) (fun _ h9 => h9) rfl (by decide +kernel) rfl rfl (Nat.le_of_ble_eq_true rfl) dX6_add_17 (fun H locs hP hD hS => ?_)
  have hP : va_P G.1 vwCl [(y, .inr (7, [.ref wt, .int (iz (n + 1))])), (wt, zaI (G.2 1) 12 (zup f n x))] H := hP
  have hD : va_D A [(y, .inr (7, [.ref wt, .int (iz (n + 1))])), (wt, zaI (G.2 1) 12 (zup f n x))] := hD
  refine lv_aload_n hx hb dX6_add_20 rfl (lv_at hl 0 rfl) ?_
  refine va_get (D := G.1) (ci := 7) (v := .int (iz (n + 1))) (C := RX6) (T := TX6) (N := 2) hx hb hts iwX6 hown hK hP 0 rfl rfl 1 (by decide) (hts (.fieldLink RX6 15 "AnnuityHouse$Shares" "people" "I") (by decide +kernel)) (fun _ h9 => h9) rfl dX6_add_21 ?_
  rw [hQ]
  exact zr_iret (z := n + 1) (u := ()) hx hb hr hlocks hP hD hS (by first | exact Nat.le_of_ble_eq_true rfl | omega) (by first | exact Nat.le_of_ble_eq_true rfl | omega) dX6_add_24 (show (n + 1) = n + 1 from rfl)

def rm_c_X6_clear : Room := { frames := 0, cells := 0, slots := 0, locals := 0 }
theorem iw_X6_clear_X6 : ∀ w ∈ wsX60, w ∈ wsX6_clear := by decide +kernel
set_option maxHeartbeats 1000000 in
set_option maxRecDepth 100000 in
theorem c_X6_clear (l : Launch) (G : zG) (y : Nat) (wt : Nat) (n : Int)  : zM l G yX6_clear wsX6_clear rm_c_X6_clear [.ref y] [(y, .inr (7, [.ref wt, .int (iz (n))]))] (fun A => zQi G (fun (z : Int) (_ : Unit) => z = n) (fun (_ : Unit) => [(y, .inr (7, [.ref wt, .int (iz (0))]))]) A) 0 0 := by
  refine zM_of (cc := cX6_clear) (maxL := 2) (ret := (some .int)) (by decide) rfl (Nat.le_of_ble_eq_true rfl) ?_
  intro p e s m below meth c ls A Q hQ hx hb hr hts hown hlocks hml hnm hKX hP hD hA hS hl
  have hK := hKX.1
  have iwX6 := iw_X6_clear_X6
  obtain ⟨H, hH⟩ : ∃ h, h = s.heap := ⟨_, rfl⟩
  obtain ⟨locs, hlo⟩ : ∃ h : List Loc, h = [] := ⟨_, rfl⟩
  have hS : va_S A s.heap H locs := by rw [hH, hlo]; exact hS
  have hP : va_P G.1 vwCl [(y, .inr (7, [.ref wt, .int (iz (n))]))] H := by rw [hH]; exact hP
  have hD : va_D A [(y, .inr (7, [.ref wt, .int (iz (n))]))] := hD
  have hl : lv_has ls 2 [(0, .ref y)] := hl
  rw [← hH, ← hlo]
  refine lv_aload_n hx hb dX6_clear_0 rfl (lv_at hl 0 rfl) ?_
  refine va_get (D := G.1) (ci := 7) (v := .int (iz (n))) (C := RX6) (T := TX6) (N := 2) hx hb hts iwX6 hown hK hP 0 rfl rfl 1 (by decide) (hts (.fieldLink RX6 15 "AnnuityHouse$Shares" "people" "I") (by decide +kernel)) (fun _ h9 => h9) rfl dX6_clear_1 ?_
  refine lv_istore_n (lv' := [(1, .int (iz (n))), (0, .ref y)]) hx hb dX6_clear_4 rfl hl (by decide) rfl (fun ls hl => ?_)
  refine lv_aload_n hx hb dX6_clear_5 rfl (lv_at hl 1 rfl) ?_
  refine lv_iconst (v := iz (0)) hx hb dX6_clear_6 rfl ?_
  refine va_put (D := G.1) (ci := 7) (v := .int (iz (0))) (ty := .int) (C := RX6) (T := TX6) (N := 2) hx hb hts iwX6 tyX6 tyX6_ok nmX6 hown hK hP hD hS 0 rfl rfl 1 (by decide) (hts (.fieldLink RX6 15 "AnnuityHouse$Shares" "people" "I") (by decide +kernel)) (fun _ h9 => h9) rfl (by decide +kernel) rfl rfl (Nat.le_of_ble_eq_true rfl) dX6_clear_7 (fun H locs hP hD hS => ?_)
  have hP : va_P G.1 vwCl [(y, .inr (7, [.ref wt, .int (iz (0))]))] H := hP
  have hD : va_D A [(y, .inr (7, [.ref wt, .int (iz (0))]))] := hD
  refine lv_iload_n hx hb dX6_clear_10 rfl (lv_at hl 0 rfl) ?_
  rw [hQ]
  exact zr_iret (z := n) (u := ()) hx hb hr hlocks hP hD hS (by first | exact Nat.le_of_ble_eq_true rfl | omega) (by first | exact Nat.le_of_ble_eq_true rfl | omega) dX6_clear_11 (show n = n from rfl)

def rm_c_X6_allWeights : Room := { frames := 0, cells := 0, slots := 0, locals := 0 }
theorem iw_X6_allWeights_X6 : ∀ w ∈ wsX60, w ∈ wsX6_allWeights := by decide +kernel
set_option maxHeartbeats 1000000 in
set_option maxRecDepth 100000 in
theorem c_X6_allWeights (l : Launch) (G : zG) (y : Nat) (wt : Nat) (f : Int → Int) (n : Int) (hw : zwts f n) : zM l G yX6_allWeights wsX6_allWeights rm_c_X6_allWeights [.ref y] [(y, .inr (7, [.ref wt, .int (iz (n))])), (wt, zaI (G.2 1) 12 (f))] (fun A => zQl G (fun (z : Int) (_ : Unit) => z = zsm f n.toNat) (fun (_ : Unit) => [(y, .inr (7, [.ref wt, .int (iz (n))])), (wt, zaI (G.2 1) 12 (f))]) A) 0 0 := by
  refine zM_of (cc := cX6_allWeights) (maxL := 4) (ret := (some .long)) (by decide) rfl (Nat.le_of_ble_eq_true rfl) ?_
  intro p e s m below meth c ls A Q hQ hx hb hr hts hown hlocks hml hnm hKX hP hD hA hS hl
  have hK := hKX.1
  have iwX6 := iw_X6_allWeights_X6
  obtain ⟨H, hH⟩ : ∃ h, h = s.heap := ⟨_, rfl⟩
  obtain ⟨locs, hlo⟩ : ∃ h : List Loc, h = [] := ⟨_, rfl⟩
  have hS : va_S A s.heap H locs := by rw [hH, hlo]; exact hS
  have hP : va_P G.1 vwCl [(y, .inr (7, [.ref wt, .int (iz (n))])), (wt, zaI (G.2 1) 12 (f))] H := by rw [hH]; exact hP
  have hD : va_D A [(y, .inr (7, [.ref wt, .int (iz (n))])), (wt, zaI (G.2 1) 12 (f))] := hD
  have hl : lv_has ls 4 [(0, .ref y)] := hl
  rw [← hH, ← hlo]
  have hw1 := hw.1
  refine lv_lconst (v := lz (0)) hx hb dX6_allWeights_0 rfl ?_
  refine lv_lstore_n (lv' := [(1, .long (lz (0))), (0, .ref y)]) hx hb dX6_allWeights_1 rfl hl (by decide) rfl (fun ls hl => ?_)
  refine lv_iconst (v := iz (0)) hx hb dX6_allWeights_2 rfl ?_
  refine lv_istore_n (lv' := [(3, .int (iz (0))), (1, .long (lz (0))), (0, .ref y)]) hx hb dX6_allWeights_3 rfl hl (by decide) rfl (fun ls hl => ?_)
  have hl_4 : ∀ (zn_4 : Nat) (i : Int) (w : Int) (H : Heap) (locs : List Loc) (ls : Array Slot), (n - i).toNat < zn_4 → (0 ≤ i ∧ i ≤ n) → (w = zsm f i.toNat) → va_P G.1 vwCl [(y, .inr (7, [.ref wt, .int (iz (n))])), (wt, zaI (G.2 1) 12 (f))] H → va_D A [(y, .inr (7, [.ref wt, .int (iz (n))])), (wt, zaI (G.2 1) 12 (f))] → va_S A s.heap H locs → lv_has ls 4 [(3, .int (iz (i))), (1, .long (lz (w))), (0, .ref y)] → W p l e rm_c_X6_allWeights s m ([.ref y] : List Value).toArray below meth c H locs 0 0 Q (F0 m 4 ls []) := by
    intro zn_4
    induction zn_4 with
    | zero => intro i w H locs ls hm; exact absurd hm (Nat.not_lt_zero _)
    | succ zn_4 ih_4 =>
      intro i w H locs ls hm_4 k1 k2 hP hD hS hl
      refine lv_iload_n hx hb dX6_allWeights_4 rfl (lv_at hl 0 rfl) ?_
      refine lv_aload_n hx hb dX6_allWeights_5 rfl (lv_at hl 2 rfl) ?_
      refine va_get (D := G.1) (ci := 7) (v := .int (iz (n))) (C := RX6) (T := TX6) (N := 2) hx hb hts iwX6 hown hK hP 0 rfl rfl 1 (by decide) (hts (.fieldLink RX6 15 "AnnuityHouse$Shares" "people" "I") (by decide +kernel)) (fun _ h9 => h9) rfl dX6_allWeights_6 ?_
      refine zr_icmp_ge (x := i) (y := n) (tgt := 28) hx hb (⟨by omega, by omega⟩) (⟨by omega, by omega⟩) dX6_allWeights_9 (by decide) (fun h_1 => ?_) (fun h_1 => ?_)
      ·
        refine lv_lload_n hx hb dX6_allWeights_28 rfl (lv_at hl 1 rfl) ?_
        rw [hQ]
        exact zr_lret (z := w) (u := ()) hx hb hr hlocks hP hD hS (by first | exact Nat.le_of_ble_eq_true rfl | omega) (by first | exact Nat.le_of_ble_eq_true rfl | omega) dX6_allWeights_29 (show w = zsm f n.toNat from by rw [k2, show i = n by omega])
      ·
        have hfi := hw.2 i (by omega) (by omega)
        refine lv_lload_n hx hb dX6_allWeights_12 rfl (lv_at hl 1 rfl) ?_
        refine lv_aload_n hx hb dX6_allWeights_13 rfl (lv_at hl 2 rfl) ?_
        refine va_get (D := G.1) (ci := 7) (v := .ref wt) (C := RX6) (T := TX6) (N := 2) hx hb hts iwX6 hown hK hP 0 rfl rfl 0 (by decide) (hts (.fieldLink RX6 9 "AnnuityHouse$Shares" "weights" "[I") (by decide +kernel)) (fun _ h9 => h9) rfl dX6_allWeights_14 ?_
        refine lv_iload_n hx hb dX6_allWeights_17 rfl (lv_at hl 0 rfl) ?_
        refine zr_iald hx hb hK hP 1 1 rfl rfl (i := i) (⟨by omega, by omega, by omega⟩) dX6_allWeights_18 ?_
        refine zr_i2l hx hb (x := f i) (⟨by omega, by omega⟩) dX6_allWeights_19 ?_
        refine zr_ladd hx hb dX6_allWeights_20 ?_
        refine lv_lstore_n (lv' := [(1, .long (lz (w + (f i)))), (3, .int (iz (i))), (0, .ref y)]) hx hb dX6_allWeights_21 rfl hl (by decide) rfl (fun ls hl => ?_)
        refine lv_iinc (v := iz (i + 1)) (lv' := [(3, .int (iz (i + 1))), (1, .long (lz (w + (f i)))), (0, .ref y)]) hx hb dX6_allWeights_22 hl (k := 1) rfl (by rw [show Int32.ofInt (1) = iz (1) from rfl, iz_add]) (by decide) rfl (fun ls hl => ?_)
        refine lv_goto (tgt := 4) hx hb dX6_allWeights_25 (by decide) ?_
        exact ih_4 (i + 1) (w + (f i)) _ _ _ (by omega) (by omega) (zsm_i k1.1 k2) (hP) (hD) hS (hl)
  exact hl_4 ((n - 0 : Int).toNat + 1) 0 0 _ _ _ (Nat.lt_succ_self _) (by omega) (rfl) (hP) (hD) hS (hl)

def rm_c_X6_partOf : Room := { frames := 1, cells := 0, slots := 0, locals := 23 }
theorem iw_X6_partOf_X6 : ∀ w ∈ wsX60, w ∈ wsX6_partOf := by decide +kernel
set_option maxHeartbeats 1000000 in
set_option maxRecDepth 100000 in
theorem c_X6_partOf (l : Launch) (G : zG) (y : Nat) (wt : Nat) (f : Int → Int) (n : Int) (mo : Int) (wh : Int) (hw : zwts f n) (h1 : 0 ≤ mo ∧ mo ≤ 1000000000000) (h2 : 0 ≤ wh ∧ wh < n) (h3 : 0 < zsm f n.toNat) : zM l G yX6_partOf wsX6_partOf rm_c_X6_partOf [.ref y, .long (lz (mo)), .int (iz (wh))] [(y, .inr (7, [.ref wt, .int (iz (n))])), (wt, zaI (G.2 1) 12 (f))] (fun A => zQl G (fun (z : Int) (_ : Unit) => z = zpart f n mo wh) (fun (_ : Unit) => [(y, .inr (7, [.ref wt, .int (iz (n))])), (wt, zaI (G.2 1) 12 (f))]) A) 0 0 := by
  refine zM_of (cc := cX6_partOf) (maxL := 14) (ret := (some .long)) (by decide) rfl (Nat.le_of_ble_eq_true rfl) ?_
  intro p e s m below meth c ls A Q hQ hx hb hr hts hown hlocks hml hnm hKX hP hD hA hS hl
  have hK := hKX.1
  have iwX6 := iw_X6_partOf_X6
  obtain ⟨H, hH⟩ : ∃ h, h = s.heap := ⟨_, rfl⟩
  obtain ⟨locs, hlo⟩ : ∃ h : List Loc, h = [] := ⟨_, rfl⟩
  have hS : va_S A s.heap H locs := by rw [hH, hlo]; exact hS
  have hP : va_P G.1 vwCl [(y, .inr (7, [.ref wt, .int (iz (n))])), (wt, zaI (G.2 1) 12 (f))] H := by rw [hH]; exact hP
  have hD : va_D A [(y, .inr (7, [.ref wt, .int (iz (n))])), (wt, zaI (G.2 1) 12 (f))] := hD
  have hl : lv_has ls 14 [(0, .ref y), (1, .long (lz (mo))), (3, .int (iz (wh)))] := hl
  rw [← hH, ← hlo]
  have hw1 := hw.1
  have hwa := hw.all
  have hfw := hw.2 wh (by omega) (by omega)
  have hmw := zmf_b h1 hfw
  refine lv_aload_n hx hb dX6_partOf_0 rfl (lv_at hl 0 rfl) ?_
  refine zc_l (wr := []) (va_runV (As := []) (rest := []) ⟨hx, hb, hml, hown, hts⟩ (c_X6_allWeights l G y wt f n (by omega) H.size) (cwV 0 hts gX6_partOf_X6_allWeights rfl rfl rfl (by decide +kernel) ⟨Nat.le_of_ble_eq_true rfl, Nat.le_of_ble_eq_true rfl⟩) (zpV hKX hP hD [0, 1] rfl rfl 0 7 rfl rfl) rfl rfl hl.1 rfl (lv_room (Nat.le_of_ble_eq_true rfl)) dX6_partOf_1 ⟨(by first | exact Nat.le_of_ble_eq_true rfl | (show _ ≤ (0 : Nat); omega)), (by first | exact Nat.le_of_ble_eq_true rfl | (show _ ≤ (0 : Nat); omega))⟩) hP hD hS hA [0, 1] [] rfl rfl rfl (by decide) (fun al u_1 H locs hal hP hD hS => ?_)
  have hP : va_P G.1 vwCl [(y, .inr (7, [.ref wt, .int (iz (n))])), (wt, zaI (G.2 1) 12 (f))] H := hP
  have hD : va_D A [(y, .inr (7, [.ref wt, .int (iz (n))])), (wt, zaI (G.2 1) 12 (f))] := hD
  have hal : al = zsm f n.toNat := hal
  rw [← hal] at h3 hwa
  refine lv_lstore (lv' := [(4, .long (lz (al))), (0, .ref y), (1, .long (lz (mo))), (3, .int (iz (wh)))]) hx hb dX6_partOf_4 hl (by decide) rfl (fun ls hl => ?_)
  refine lv_lload hx hb dX6_partOf_6 (lv_at hl 0 rfl) ?_
  refine lv_lconst (v := lz (0)) hx hb dX6_partOf_8 rfl ?_
  refine zr_lcmp_gt (x := al) (y := 0) (tgt := 15) hx hb (⟨by omega, by omega⟩) (⟨by omega, by omega⟩) dX6_partOf_9 dX6_partOf_10 (by decide) (fun h_3 => ?_) (fun h_3 => ?_)
  ·
    refine lv_lload_n hx hb dX6_partOf_15 rfl (lv_at hl 2 rfl) ?_
    refine lv_aload_n hx hb dX6_partOf_16 rfl (lv_at hl 1 rfl) ?_
    refine va_get (D := G.1) (ci := 7) (v := .ref wt) (C := RX6) (T := TX6) (N := 2) hx hb hts iwX6 hown hK hP 0 rfl rfl 0 (by decide) (hts (.fieldLink RX6 9 "AnnuityHouse$Shares" "weights" "[I") (by decide +kernel)) (fun _ h9 => h9) rfl dX6_partOf_17 ?_
    refine lv_iload_n hx hb dX6_partOf_20 rfl (lv_at hl 3 rfl) ?_
    refine zr_iald hx hb hK hP 1 1 rfl rfl (i := wh) (⟨by omega, by omega, by omega⟩) dX6_partOf_21 ?_
    refine zr_i2l hx hb (x := f wh) (⟨by omega, by omega⟩) dX6_partOf_22 ?_
    refine zr_lmul hx hb dX6_partOf_23 ?_
    refine lv_lload hx hb dX6_partOf_24 (lv_at hl 0 rfl) ?_
    refine zr_lrem hx hb (x := mo * (f wh)) (y := al) ⟨by omega, by omega⟩ ⟨by omega, by omega⟩ (by omega) (by omega) dX6_partOf_26 ?_
    refine zr_namel (fun lo9 elo9 => ?_)
    have hls : 0 ≤ lo9 ∧ lo9 < al := by rw [elo9]; exact ⟨Int.emod_nonneg _ (by omega), Int.emod_lt_of_pos _ (by omega)⟩
    have els2 : lo9 = zlos f al mo wh := elo9
    refine lv_lstore (lv' := [(6, .long (lz (lo9))), (4, .long (lz (al))), (0, .ref y), (1, .long (lz (mo))), (3, .int (iz (wh)))]) hx hb dX6_partOf_27 hl (by decide) rfl (fun ls hl => ?_)
    refine lv_lconst (v := lz (0)) hx hb dX6_partOf_29 rfl ?_
    refine lv_lstore (lv' := [(8, .long (lz (0))), (6, .long (lz (lo9))), (4, .long (lz (al))), (0, .ref y), (1, .long (lz (mo))), (3, .int (iz (wh)))]) hx hb dX6_partOf_30 hl (by decide) rfl (fun ls hl => ?_)
    refine lv_iconst (v := iz (0)) hx hb dX6_partOf_32 rfl ?_
    refine lv_istore (lv' := [(10, .int (iz (0))), (8, .long (lz (0))), (6, .long (lz (lo9))), (4, .long (lz (al))), (0, .ref y), (1, .long (lz (mo))), (3, .int (iz (wh)))]) hx hb dX6_partOf_33 hl (by decide) rfl (fun ls hl => ?_)
    refine lv_iconst (v := iz (0)) hx hb dX6_partOf_35 rfl ?_
    refine lv_istore (lv' := [(11, .int (iz (0))), (10, .int (iz (0))), (8, .long (lz (0))), (6, .long (lz (lo9))), (4, .long (lz (al))), (0, .ref y), (1, .long (lz (mo))), (3, .int (iz (wh)))]) hx hb dX6_partOf_36 hl (by decide) rfl (fun ls hl => ?_)
    have hl_38 : ∀ (zn_38 : Nat) (i : Int) (w : Int) (ah : Int) (H : Heap) (locs : List Loc) (ls : Array Slot), (n - i).toNat < zn_38 → (0 ≤ i ∧ i ≤ n) → (w = zsm (zlos f al mo) i.toNat) → (ah = zsm (zah1 f al mo wh) i.toNat) → (0 ≤ w ∧ w ≤ 12000000 * i) → (0 ≤ ah ∧ ah ≤ i) → va_P G.1 vwCl [(y, .inr (7, [.ref wt, .int (iz (n))])), (wt, zaI (G.2 1) 12 (f))] H → va_D A [(y, .inr (7, [.ref wt, .int (iz (n))])), (wt, zaI (G.2 1) 12 (f))] → va_S A s.heap H locs → lv_has ls 14 [(11, .int (iz (i))), (10, .int (iz (ah))), (8, .long (lz (w))), (6, .long (lz (lo9))), (4, .long (lz (al))), (0, .ref y), (1, .long (lz (mo))), (3, .int (iz (wh)))] → W p l e rm_c_X6_partOf s m ([.ref y, .long (lz (mo)), .int (iz (wh))] : List Value).toArray below meth c H locs (0 + 0) (0 + 0) Q (F0 m 38 ls []) := by
      intro zn_38
      induction zn_38 with
      | zero => intro i w ah H locs ls hm; exact absurd hm (Nat.not_lt_zero _)
      | succ zn_38 ih_38 =>
        intro i w ah H locs ls hm_38 k1 k2 k3 k4 k5 hP hD hS hl
        refine lv_iload hx hb dX6_partOf_38 (lv_at hl 0 rfl) ?_
        refine lv_aload_n hx hb dX6_partOf_40 rfl (lv_at hl 5 rfl) ?_
        refine va_get (D := G.1) (ci := 7) (v := .int (iz (n))) (C := RX6) (T := TX6) (N := 2) hx hb hts iwX6 hown hK hP 0 rfl rfl 1 (by decide) (hts (.fieldLink RX6 15 "AnnuityHouse$Shares" "people" "I") (by decide +kernel)) (fun _ h9 => h9) rfl dX6_partOf_41 ?_
        refine zr_icmp_ge (x := i) (y := n) (tgt := 107) hx hb (⟨by omega, by omega⟩) (⟨by omega, by omega⟩) dX6_partOf_44 (by decide) (fun h_4 => ?_) (fun h_4 => ?_)
        ·
          refine lv_lload_n hx hb dX6_partOf_107 rfl (lv_at hl 6 rfl) ?_
          refine lv_aload_n hx hb dX6_partOf_108 rfl (lv_at hl 5 rfl) ?_
          refine va_get (D := G.1) (ci := 7) (v := .ref wt) (C := RX6) (T := TX6) (N := 2) hx hb hts iwX6 hown hK hP 0 rfl rfl 0 (by decide) (hts (.fieldLink RX6 9 "AnnuityHouse$Shares" "weights" "[I") (by decide +kernel)) (fun _ h9 => h9) rfl dX6_partOf_109 ?_
          refine lv_iload_n hx hb dX6_partOf_112 rfl (lv_at hl 7 rfl) ?_
          refine zr_iald hx hb hK hP 1 1 rfl rfl (i := wh) (⟨by omega, by omega, by omega⟩) dX6_partOf_113 ?_
          refine zr_i2l hx hb (x := f wh) (⟨by omega, by omega⟩) dX6_partOf_114 ?_
          refine zr_lmul hx hb dX6_partOf_115 ?_
          refine lv_lload hx hb dX6_partOf_116 (lv_at hl 4 rfl) ?_
          refine zr_ldiv hx hb (x := mo * (f wh)) (y := al) ⟨by omega, by omega⟩ ⟨by omega, by omega⟩ (hmw.1) (by omega) dX6_partOf_118 ?_
          refine lv_iload hx hb dX6_partOf_119 (lv_at hl 1 rfl) ?_
          refine zr_i2l hx hb (x := ah) (⟨by omega, by omega⟩) dX6_partOf_121 ?_
          refine lv_lload hx hb dX6_partOf_122 (lv_at hl 2 rfl) ?_
          refine lv_lload hx hb dX6_partOf_124 (lv_at hl 4 rfl) ?_
          refine zr_ldiv hx hb (x := w) (y := al) ⟨by omega, by omega⟩ ⟨by omega, by omega⟩ (k4.1) (by omega) dX6_partOf_126 ?_
          refine zr_namel (fun qa eqa => ?_)
          have hqa : 0 ≤ qa ∧ qa ≤ w := by rw [eqa]; exact ⟨Int.ediv_nonneg k4.1 (by omega), Int.ediv_le_self _ k4.1⟩
          refine zr_lcmp_ge (x := ah) (y := qa) (tgt := 135) hx hb (⟨by omega, by omega⟩) (⟨by omega, by omega⟩) dX6_partOf_127 dX6_partOf_128 (by decide) (fun h_5 => ?_) (fun h_5 => ?_)
          ·
            refine lv_iconst (v := iz (0)) hx hb dX6_partOf_135 rfl ?_
            refine zr_i2l hx hb (x := 0) (⟨by omega, by omega⟩) dX6_partOf_136 ?_
            refine zr_ladd hx hb dX6_partOf_137 ?_
            rw [hQ]
            exact zr_lret (z := ((mo * (f wh)) / al) + 0) (u := ()) hx hb hr hlocks hP hD hS (by first | exact Nat.le_of_ble_eq_true rfl | omega) (by first | exact Nat.le_of_ble_eq_true rfl | omega) dX6_partOf_138 (show (((mo * (f wh)) / al) + 0) = zpart f n mo wh from zpart_e hal k2 k3 (by omega) (by rw [← eqa]; first | exact (if_pos (by omega)).symm | exact (if_neg (by omega)).symm))
          ·
            refine lv_iconst (v := iz (1)) hx hb dX6_partOf_131 rfl ?_
            refine lv_goto (tgt := 136) hx hb dX6_partOf_132 (by decide) ?_
            refine zr_i2l hx hb (x := 1) (⟨by omega, by omega⟩) dX6_partOf_136 ?_
            refine zr_ladd hx hb dX6_partOf_137 ?_
            rw [hQ]
            exact zr_lret (z := ((mo * (f wh)) / al) + 1) (u := ()) hx hb hr hlocks hP hD hS (by first | exact Nat.le_of_ble_eq_true rfl | omega) (by first | exact Nat.le_of_ble_eq_true rfl | omega) dX6_partOf_138 (show (((mo * (f wh)) / al) + 1) = zpart f n mo wh from zpart_e hal k2 k3 (by omega) (by rw [← eqa]; first | exact (if_pos (by omega)).symm | exact (if_neg (by omega)).symm))
        ·
          have hfi := hw.2 i (by omega) (by omega)
          have hmi := zmf_b h1 hfi
          refine lv_lload_n hx hb dX6_partOf_47 rfl (lv_at hl 6 rfl) ?_
          refine lv_aload_n hx hb dX6_partOf_48 rfl (lv_at hl 5 rfl) ?_
          refine va_get (D := G.1) (ci := 7) (v := .ref wt) (C := RX6) (T := TX6) (N := 2) hx hb hts iwX6 hown hK hP 0 rfl rfl 0 (by decide) (hts (.fieldLink RX6 9 "AnnuityHouse$Shares" "weights" "[I") (by decide +kernel)) (fun _ h9 => h9) rfl dX6_partOf_49 ?_
          refine lv_iload hx hb dX6_partOf_52 (lv_at hl 0 rfl) ?_
          refine zr_iald hx hb hK hP 1 1 rfl rfl (i := i) (⟨by omega, by omega, by omega⟩) dX6_partOf_54 ?_
          refine zr_i2l hx hb (x := f i) (⟨by omega, by omega⟩) dX6_partOf_55 ?_
          refine zr_lmul hx hb dX6_partOf_56 ?_
          refine lv_lload hx hb dX6_partOf_57 (lv_at hl 4 rfl) ?_
          refine zr_lrem hx hb (x := mo * (f i)) (y := al) ⟨by omega, by omega⟩ ⟨by omega, by omega⟩ (by omega) (by omega) dX6_partOf_59 ?_
          refine zr_namel (fun lt elt => ?_)
          have hlt : 0 ≤ lt ∧ lt < al := by rw [elt]; exact ⟨Int.emod_nonneg _ (by omega), Int.emod_lt_of_pos _ (by omega)⟩
          have elt2 : lt = zlos f al mo i := elt
          refine lv_lstore (lv' := [(12, .long (lz (lt))), (11, .int (iz (i))), (10, .int (iz (ah))), (8, .long (lz (w))), (6, .long (lz (lo9))), (4, .long (lz (al))), (0, .ref y), (1, .long (lz (mo))), (3, .int (iz (wh)))]) hx hb dX6_partOf_60 hl (by decide) rfl (fun ls hl => ?_)
          refine lv_lload hx hb dX6_partOf_62 (lv_at hl 3 rfl) ?_
          refine lv_lload hx hb dX6_partOf_64 (lv_at hl 0 rfl) ?_
          refine zr_ladd hx hb dX6_partOf_66 ?_
          refine lv_lstore (lv' := [(8, .long (lz (w + lt))), (12, .long (lz (lt))), (11, .int (iz (i))), (10, .int (iz (ah))), (6, .long (lz (lo9))), (4, .long (lz (al))), (0, .ref y), (1, .long (lz (mo))), (3, .int (iz (wh)))]) hx hb dX6_partOf_67 hl (by decide) rfl (fun ls hl => ?_)
          refine lv_iload hx hb dX6_partOf_69 (lv_at hl 3 rfl) ?_
          refine lv_lload hx hb dX6_partOf_71 (lv_at hl 1 rfl) ?_
          refine lv_lload hx hb dX6_partOf_73 (lv_at hl 4 rfl) ?_
          refine zr_lcmp_gt (x := lt) (y := lo9) (tgt := 93) hx hb (⟨by omega, by omega⟩) (⟨by omega, by omega⟩) dX6_partOf_75 dX6_partOf_76 (by decide) (fun h_6 => ?_) (fun h_6 => ?_)
          ·
            refine lv_iconst (v := iz (1)) hx hb dX6_partOf_93 rfl ?_
            refine lv_goto (tgt := 98) hx hb dX6_partOf_94 (by decide) ?_
            refine zr_iadd hx hb dX6_partOf_98 ?_
            refine lv_istore (lv' := [(10, .int (iz (ah + 1))), (8, .long (lz (w + lt))), (12, .long (lz (lt))), (11, .int (iz (i))), (6, .long (lz (lo9))), (4, .long (lz (al))), (0, .ref y), (1, .long (lz (mo))), (3, .int (iz (wh)))]) hx hb dX6_partOf_99 hl (by decide) rfl (fun ls hl => ?_)
            refine lv_iinc (v := iz (i + 1)) (lv' := [(11, .int (iz (i + 1))), (10, .int (iz (ah + 1))), (8, .long (lz (w + lt))), (12, .long (lz (lt))), (6, .long (lz (lo9))), (4, .long (lz (al))), (0, .ref y), (1, .long (lz (mo))), (3, .int (iz (wh)))]) hx hb dX6_partOf_101 hl (k := 3) rfl (by rw [show Int32.ofInt (1) = iz (1) from rfl, iz_add]) (by decide) rfl (fun ls hl => ?_)
            refine lv_goto (tgt := 38) hx hb dX6_partOf_104 (by decide) ?_
            exact ih_38 (i + 1) (w + lt) (ah + 1) _ _ _ (by omega) (by omega) (zsm_i' k1.1 k2 elt2) (zsm_i' k1.1 k3 (by unfold zah1; rw [← els2, ← elt2]; first | exact (if_pos (by omega)).symm | exact (if_neg (by omega)).symm)) (by omega) (by omega) (hP) (hD) hS (lv_sub hl [0, 1, 2, 4, 5, 6, 7, 8] rfl)
          ·
            refine lv_lload hx hb dX6_partOf_79 (lv_at hl 1 rfl) ?_
            refine lv_lload hx hb dX6_partOf_81 (lv_at hl 4 rfl) ?_
            refine zr_lcmp_ne (x := lt) (y := lo9) (tgt := 97) hx hb (⟨by omega, by omega⟩) (⟨by omega, by omega⟩) dX6_partOf_83 dX6_partOf_84 (by decide) (fun h_7 => ?_) (fun h_7 => ?_)
            ·
              refine lv_iconst (v := iz (0)) hx hb dX6_partOf_97 rfl ?_
              refine zr_iadd hx hb dX6_partOf_98 ?_
              refine lv_istore (lv' := [(10, .int (iz (ah + 0))), (8, .long (lz (w + lt))), (12, .long (lz (lt))), (11, .int (iz (i))), (6, .long (lz (lo9))), (4, .long (lz (al))), (0, .ref y), (1, .long (lz (mo))), (3, .int (iz (wh)))]) hx hb dX6_partOf_99 hl (by decide) rfl (fun ls hl => ?_)
              refine lv_iinc (v := iz (i + 1)) (lv' := [(11, .int (iz (i + 1))), (10, .int (iz (ah + 0))), (8, .long (lz (w + lt))), (12, .long (lz (lt))), (6, .long (lz (lo9))), (4, .long (lz (al))), (0, .ref y), (1, .long (lz (mo))), (3, .int (iz (wh)))]) hx hb dX6_partOf_101 hl (k := 3) rfl (by rw [show Int32.ofInt (1) = iz (1) from rfl, iz_add]) (by decide) rfl (fun ls hl => ?_)
              refine lv_goto (tgt := 38) hx hb dX6_partOf_104 (by decide) ?_
              exact ih_38 (i + 1) (w + lt) (ah + 0) _ _ _ (by omega) (by omega) (zsm_i' k1.1 k2 elt2) (zsm_i' k1.1 k3 (by unfold zah1; rw [← els2, ← elt2]; first | exact (if_pos (by omega)).symm | exact (if_neg (by omega)).symm)) (by omega) (by omega) (hP) (hD) hS (lv_sub hl [0, 1, 2, 4, 5, 6, 7, 8] rfl)
            ·
              refine lv_iload hx hb dX6_partOf_87 (lv_at hl 2 rfl) ?_
              refine lv_iload_n hx hb dX6_partOf_89 rfl (lv_at hl 8 rfl) ?_
              refine zr_icmp_ge (x := i) (y := wh) (tgt := 97) hx hb (⟨by omega, by omega⟩) (⟨by omega, by omega⟩) dX6_partOf_90 (by decide) (fun h_8 => ?_) (fun h_8 => ?_)
              ·
                refine lv_iconst (v := iz (0)) hx hb dX6_partOf_97 rfl ?_
                refine zr_iadd hx hb dX6_partOf_98 ?_
                refine lv_istore (lv' := [(10, .int (iz (ah + 0))), (8, .long (lz (w + lt))), (12, .long (lz (lt))), (11, .int (iz (i))), (6, .long (lz (lo9))), (4, .long (lz (al))), (0, .ref y), (1, .long (lz (mo))), (3, .int (iz (wh)))]) hx hb dX6_partOf_99 hl (by decide) rfl (fun ls hl => ?_)
                refine lv_iinc (v := iz (i + 1)) (lv' := [(11, .int (iz (i + 1))), (10, .int (iz (ah + 0))), (8, .long (lz (w + lt))), (12, .long (lz (lt))), (6, .long (lz (lo9))), (4, .long (lz (al))), (0, .ref y), (1, .long (lz (mo))), (3, .int (iz (wh)))]) hx hb dX6_partOf_101 hl (k := 3) rfl (by rw [show Int32.ofInt (1) = iz (1) from rfl, iz_add]) (by decide) rfl (fun ls hl => ?_)
                refine lv_goto (tgt := 38) hx hb dX6_partOf_104 (by decide) ?_
                exact ih_38 (i + 1) (w + lt) (ah + 0) _ _ _ (by omega) (by omega) (zsm_i' k1.1 k2 elt2) (zsm_i' k1.1 k3 (by unfold zah1; rw [← els2, ← elt2]; first | exact (if_pos (by omega)).symm | exact (if_neg (by omega)).symm)) (by omega) (by omega) (hP) (hD) hS (lv_sub hl [0, 1, 2, 4, 5, 6, 7, 8] rfl)
              ·
                refine lv_iconst (v := iz (1)) hx hb dX6_partOf_93 rfl ?_
                refine lv_goto (tgt := 98) hx hb dX6_partOf_94 (by decide) ?_
                refine zr_iadd hx hb dX6_partOf_98 ?_
                refine lv_istore (lv' := [(10, .int (iz (ah + 1))), (8, .long (lz (w + lt))), (12, .long (lz (lt))), (11, .int (iz (i))), (6, .long (lz (lo9))), (4, .long (lz (al))), (0, .ref y), (1, .long (lz (mo))), (3, .int (iz (wh)))]) hx hb dX6_partOf_99 hl (by decide) rfl (fun ls hl => ?_)
                refine lv_iinc (v := iz (i + 1)) (lv' := [(11, .int (iz (i + 1))), (10, .int (iz (ah + 1))), (8, .long (lz (w + lt))), (12, .long (lz (lt))), (6, .long (lz (lo9))), (4, .long (lz (al))), (0, .ref y), (1, .long (lz (mo))), (3, .int (iz (wh)))]) hx hb dX6_partOf_101 hl (k := 3) rfl (by rw [show Int32.ofInt (1) = iz (1) from rfl, iz_add]) (by decide) rfl (fun ls hl => ?_)
                refine lv_goto (tgt := 38) hx hb dX6_partOf_104 (by decide) ?_
                exact ih_38 (i + 1) (w + lt) (ah + 1) _ _ _ (by omega) (by omega) (zsm_i' k1.1 k2 elt2) (zsm_i' k1.1 k3 (by unfold zah1; rw [← els2, ← elt2]; first | exact (if_pos (by omega)).symm | exact (if_neg (by omega)).symm)) (by omega) (by omega) (hP) (hD) hS (lv_sub hl [0, 1, 2, 4, 5, 6, 7, 8] rfl)
    exact hl_38 ((n - 0 : Int).toNat + 1) 0 0 0 _ _ _ (Nat.lt_succ_self _) (by omega) (rfl) (rfl) (by omega) (by omega) (hP) (hD) hS (hl)
  · exact absurd h_3 (by omega)

def rm_c_X6_isPartedWhole : Room := { frames := 1, cells := 0, slots := 0, locals := 23 }
set_option maxHeartbeats 1000000 in
set_option maxRecDepth 100000 in
theorem c_X6_isPartedWhole (l : Launch) (G : zG) (y : Nat) (wt : Nat) (f : Int → Int) (mo : Int)  : zM l G yX6_isPartedWhole wsX6_isPartedWhole rm_c_X6_isPartedWhole [.ref y, .long (lz (mo))] [(y, .inr (7, [.ref wt, .int (iz (0))])), (wt, zaI (G.2 1) 12 (f))] (fun A => zQz G (fun (z : Bool) (_ : Unit) => z = true) (fun (_ : Unit) => [(y, .inr (7, [.ref wt, .int (iz (0))])), (wt, zaI (G.2 1) 12 (f))]) A) 0 0 := by
  refine zM_of (cc := cX6_isPartedWhole) (maxL := 6) (ret := (some .boolean)) (by decide) rfl (Nat.le_of_ble_eq_true rfl) ?_
  intro p e s m below meth c ls A Q hQ hx hb hr hts hown hlocks hml hnm hKX hP hD hA hS hl
  have hK := hKX.1
  obtain ⟨H, hH⟩ : ∃ h, h = s.heap := ⟨_, rfl⟩
  obtain ⟨locs, hlo⟩ : ∃ h : List Loc, h = [] := ⟨_, rfl⟩
  have hS : va_S A s.heap H locs := by rw [hH, hlo]; exact hS
  have hP : va_P G.1 vwCl [(y, .inr (7, [.ref wt, .int (iz (0))])), (wt, zaI (G.2 1) 12 (f))] H := by rw [hH]; exact hP
  have hD : va_D A [(y, .inr (7, [.ref wt, .int (iz (0))])), (wt, zaI (G.2 1) 12 (f))] := hD
  have hl : lv_has ls 6 [(0, .ref y), (1, .long (lz (mo)))] := hl
  rw [← hH, ← hlo]
  refine lv_aload_n hx hb dX6_isPartedWhole_0 rfl (lv_at hl 0 rfl) ?_
  refine zc_l (wr := []) (va_runV (As := []) (rest := []) ⟨hx, hb, hml, hown, hts⟩ (c_X6_allWeights l G y wt f 0 (⟨by omega, fun i a b => absurd b (by omega)⟩) H.size) (cwV 0 hts gX6_isPartedWhole_X6_allWeights rfl rfl rfl (by decide +kernel) ⟨Nat.le_of_ble_eq_true rfl, Nat.le_of_ble_eq_true rfl⟩) (zpV hKX hP hD [0, 1] rfl rfl 0 7 rfl rfl) rfl rfl hl.1 rfl (lv_room (Nat.le_of_ble_eq_true rfl)) dX6_isPartedWhole_1 ⟨(by first | exact Nat.le_of_ble_eq_true rfl | (show _ ≤ (0 : Nat); omega)), (by first | exact Nat.le_of_ble_eq_true rfl | (show _ ≤ (0 : Nat); omega))⟩) hP hD hS hA [0, 1] [] rfl rfl rfl (by decide) (fun al u_1 H locs hal hP hD hS => ?_)
  have hP : va_P G.1 vwCl [(y, .inr (7, [.ref wt, .int (iz ((0 : Int)))])), (wt, zaI (G.2 1) 12 (f))] H := hP
  have hD : va_D A [(y, .inr (7, [.ref wt, .int (iz ((0 : Int)))])), (wt, zaI (G.2 1) 12 (f))] := hD
  have hal : al = zsm f (0 : Int).toNat := hal
  have hal0 : al = 0 := hal
  refine lv_lconst (v := lz (0)) hx hb dX6_isPartedWhole_4 rfl ?_
  refine zr_lcmp_ne (x := al) (y := 0) (tgt := 11) hx hb (⟨by omega, by omega⟩) (⟨by omega, by omega⟩) dX6_isPartedWhole_5 dX6_isPartedWhole_6 (by decide) (fun h_3 => ?_) (fun h_3 => ?_)
  · exact absurd h_3 (by omega)
  ·
    refine lv_iconst (v := iz (1)) hx hb dX6_isPartedWhole_9 rfl ?_
    rw [hQ]
    exact zr_zret (z := true) (rfl) (u := ()) hx hb hr hlocks hP hD hS (by first | exact Nat.le_of_ble_eq_true rfl | omega) (by first | exact Nat.le_of_ble_eq_true rfl | omega) dX6_isPartedWhole_10 (show true = true from rfl)

def rm_c_X7_init : Room := { frames := 1, cells := 2, slots := 16, locals := 12 }
theorem iw_X7_init_X7 : ∀ w ∈ wsX70, w ∈ wsX7_init := by decide +kernel
set_option maxHeartbeats 1000000 in
set_option maxRecDepth 100000 in
theorem c_X7_init (l : Launch) (G : zG) (y : Nat)  : zM l G yX7_init wsX7_init rm_c_X7_init [.ref y] [(y, .inr (8, [.null, .null, .int (iz (0))]))] (fun A => zQv G (fun (u : (Nat × Nat)) => True) (fun (u : (Nat × Nat)) => [(y, .inr (8, [.ref u.1, .ref u.2, .int (iz (0))])), (u.1, zaL (G.2 0) 8 (fun _ => 0)), (u.2, zaI (G.2 1) 8 (fun _ => 0))]) A) 2 16 := by
  refine zM_of (cc := cX7_init) (maxL := 1) (ret := none) (by decide) rfl (Nat.le_of_ble_eq_true rfl) ?_
  intro p e s m below meth c ls A Q hQ hx hb hr hts hown hlocks hml hnm hKX hP hD hA hS hl
  have hK := hKX.1
  have iwX7 := iw_X7_init_X7
  obtain ⟨H, hH⟩ : ∃ h, h = s.heap := ⟨_, rfl⟩
  obtain ⟨locs, hlo⟩ : ∃ h : List Loc, h = [] := ⟨_, rfl⟩
  have hS : va_S A s.heap H locs := by rw [hH, hlo]; exact hS
  have hP : va_P G.1 vwCl [(y, .inr (8, [.null, .null, .int (iz (0))]))] H := by rw [hH]; exact hP
  have hD : va_D A [(y, .inr (8, [.null, .null, .int (iz (0))]))] := hD
  have hl : lv_has ls 1 [(0, .ref y)] := hl
  rw [← hH, ← hlo]
  refine lv_aload_n hx hb dX7_init_0 rfl (lv_at hl 0 rfl) ?_
  refine W.objInit hx hb hown (hts (.methodLink RX7 3 objectInit) (by decide +kernel)) (hts (.instanceMethod objectInit) (by decide +kernel)) (hts (.code objectInit ⟨#[0xb1]⟩ 1 none) (by decide +kernel)) rfl (by rw [hml]; exact hl.1) rfl dX7_init_1 (Nat.le_of_ble_eq_true rfl) (Nat.le_of_ble_eq_true rfl) ?_
  refine lv_aload_n hx hb dX7_init_4 rfl (lv_at hl 0 rfl) ?_
  refine lv_bipush (v := iz (8)) hx hb dX7_init_5 rfl ?_
  refine zr_newaL (G := G) (n := 8) (N := 8) hx hb (hts (.arrayClass .long) (by decide +kernel)) hK hP hD hS hA (by omega) (by omega) (by omega) (by first | exact Nat.le_of_ble_eq_true rfl | (show _ ≤ (2 : Nat); omega)) (by first | exact Nat.le_of_ble_eq_true rfl | (show _ ≤ (16 : Nat); omega)) dX7_init_7 (fun fm H hP hD hS => ?_)
  have hP : va_P G.1 vwCl [(y, .inr (8, [.null, .null, .int (iz (0))])), (fm, zaL (G.2 0) 8 (fun _ => 0))] H := hP
  have hD : va_D A [(y, .inr (8, [.null, .null, .int (iz (0))])), (fm, zaL (G.2 0) 8 (fun _ => 0))] := hD
  refine va_putF (D := G.1) (ci := 8) (v := .ref fm) (ty := (.array .long)) (C := RX7) (T := TX7) (N := 3) hx hb hts iwX7 tyX7 tyX7_ok nmX7 hown hK hP hD hS 0 rfl rfl 0 (by decide) (hts (.fieldLink RX7 9 "AnnuityHouse$Taxes" "froms" "[J") (by decide +kernel)) (fun _ h9 => h9) rfl hnm rfl (by decide +kernel) rfl rfl (Nat.le_of_ble_eq_true rfl) dX7_init_9 (fun H locs hP hD hS => ?_)
  have hP : va_P G.1 vwCl [(y, .inr (8, [.ref fm, .null, .int (iz (0))])), (fm, zaL (G.2 0) 8 (fun _ => 0))] H := hP
  have hD : va_D A [(y, .inr (8, [.ref fm, .null, .int (iz (0))])), (fm, zaL (G.2 0) 8 (fun _ => 0))] := hD
  refine lv_aload_n hx hb dX7_init_12 rfl (lv_at hl 0 rfl) ?_
  refine lv_bipush (v := iz (8)) hx hb dX7_init_13 rfl ?_
  refine zr_newaI (G := G) (n := 8) (N := 8) hx hb (hts (.arrayClass .int) (by decide +kernel)) hK hP hD hS hA (by omega) (by omega) (by omega) (by first | exact Nat.le_of_ble_eq_true rfl | (show _ ≤ (2 : Nat); omega)) (by first | exact Nat.le_of_ble_eq_true rfl | (show _ ≤ (16 : Nat); omega)) dX7_init_15 (fun pm H hP hD hS => ?_)
  have hP : va_P G.1 vwCl [(y, .inr (8, [.ref fm, .null, .int (iz (0))])), (fm, zaL (G.2 0) 8 (fun _ => 0)), (pm, zaI (G.2 1) 8 (fun _ => 0))] H := hP
  have hD : va_D A [(y, .inr (8, [.ref fm, .null, .int (iz (0))])), (fm, zaL (G.2 0) 8 (fun _ => 0)), (pm, zaI (G.2 1) 8 (fun _ => 0))] := hD
  refine va_putF (D := G.1) (ci := 8) (v := .ref pm) (ty := (.array .int)) (C := RX7) (T := TX7) (N := 3) hx hb hts iwX7 tyX7 tyX7_ok nmX7 hown hK hP hD hS 0 rfl rfl 1 (by decide) (hts (.fieldLink RX7 15 "AnnuityHouse$Taxes" "permilles" "[I") (by decide +kernel)) (fun _ h9 => h9) rfl hnm rfl (by decide +kernel) rfl rfl (Nat.le_of_ble_eq_true rfl) dX7_init_17 (fun H locs hP hD hS => ?_)
  have hP : va_P G.1 vwCl [(y, .inr (8, [.ref fm, .ref pm, .int (iz (0))])), (fm, zaL (G.2 0) 8 (fun _ => 0)), (pm, zaI (G.2 1) 8 (fun _ => 0))] H := hP
  have hD : va_D A [(y, .inr (8, [.ref fm, .ref pm, .int (iz (0))])), (fm, zaL (G.2 0) 8 (fun _ => 0)), (pm, zaI (G.2 1) 8 (fun _ => 0))] := hD
  refine lv_aload_n hx hb dX7_init_20 rfl (lv_at hl 0 rfl) ?_
  refine lv_iconst (v := iz (0)) hx hb dX7_init_21 rfl ?_
  refine va_put (D := G.1) (ci := 8) (v := .int (iz (0))) (ty := .int) (C := RX7) (T := TX7) (N := 3) hx hb hts iwX7 tyX7 tyX7_ok nmX7 hown hK hP hD hS 0 rfl rfl 2 (by decide) (hts (.fieldLink RX7 19 "AnnuityHouse$Taxes" "steps" "I") (by decide +kernel)) (fun _ h9 => h9) rfl (by decide +kernel) rfl rfl (Nat.le_of_ble_eq_true rfl) dX7_init_22 (fun H locs hP hD hS => ?_)
  have hP : va_P G.1 vwCl [(y, .inr (8, [.ref fm, .ref pm, .int (iz (0))])), (fm, zaL (G.2 0) 8 (fun _ => 0)), (pm, zaI (G.2 1) 8 (fun _ => 0))] H := hP
  have hD : va_D A [(y, .inr (8, [.ref fm, .ref pm, .int (iz (0))])), (fm, zaL (G.2 0) 8 (fun _ => 0)), (pm, zaI (G.2 1) 8 (fun _ => 0))] := hD
  rw [hQ]
  exact zr_vret (u := (fm, pm)) hx hb hr hlocks hP hD hS (by first | exact Nat.le_of_ble_eq_true rfl | omega) (by first | exact Nat.le_of_ble_eq_true rfl | omega) dX7_init_25 (show True from trivial)

def rm_c_X7_leastNextFrom : Room := { frames := 0, cells := 0, slots := 0, locals := 0 }
theorem iw_X7_leastNextFrom_X7 : ∀ w ∈ wsX70, w ∈ wsX7_leastNextFrom := by decide +kernel
set_option maxHeartbeats 1000000 in
set_option maxRecDepth 100000 in
theorem c_X7_leastNextFrom (l : Launch) (G : zG) (y : Nat) (fm : Nat) (pm : Nat) (f : Int → Int) (g : Int → Int) (n : Int) (hs : zstp f g n) : zM l G yX7_leastNextFrom wsX7_leastNextFrom rm_c_X7_leastNextFrom [.ref y] [(y, .inr (8, [.ref fm, .ref pm, .int (iz (n))])), (fm, zaL (G.2 0) 8 (f)), (pm, zaI (G.2 1) 8 (g))] (fun A => zQl G (fun (z : Int) (_ : Unit) => z = if n = 0 then 0 else f (n - 1) + 1) (fun (_ : Unit) => [(y, .inr (8, [.ref fm, .ref pm, .int (iz (n))])), (fm, zaL (G.2 0) 8 (f)), (pm, zaI (G.2 1) 8 (g))]) A) 0 0 := by
  refine zM_of (cc := cX7_leastNextFrom) (maxL := 1) (ret := (some .long)) (by decide) rfl (Nat.le_of_ble_eq_true rfl) ?_
  intro p e s m below meth c ls A Q hQ hx hb hr hts hown hlocks hml hnm hKX hP hD hA hS hl
  have hK := hKX.1
  have iwX7 := iw_X7_leastNextFrom_X7
  obtain ⟨H, hH⟩ : ∃ h, h = s.heap := ⟨_, rfl⟩
  obtain ⟨locs, hlo⟩ : ∃ h : List Loc, h = [] := ⟨_, rfl⟩
  have hS : va_S A s.heap H locs := by rw [hH, hlo]; exact hS
  have hP : va_P G.1 vwCl [(y, .inr (8, [.ref fm, .ref pm, .int (iz (n))])), (fm, zaL (G.2 0) 8 (f)), (pm, zaI (G.2 1) 8 (g))] H := by rw [hH]; exact hP
  have hD : va_D A [(y, .inr (8, [.ref fm, .ref pm, .int (iz (n))])), (fm, zaL (G.2 0) 8 (f)), (pm, zaI (G.2 1) 8 (g))] := hD
  have hl : lv_has ls 1 [(0, .ref y)] := hl
  rw [← hH, ← hlo]
  have hs1 := hs.1
  refine lv_aload_n hx hb dX7_leastNextFrom_0 rfl (lv_at hl 0 rfl) ?_
  refine va_get (D := G.1) (ci := 8) (v := .int (iz (n))) (C := RX7) (T := TX7) (N := 3) hx hb hts iwX7 hown hK hP 0 rfl rfl 2 (by decide) (hts (.fieldLink RX7 19 "AnnuityHouse$Taxes" "steps" "I") (by decide +kernel)) (fun _ h9 => h9) rfl dX7_leastNextFrom_1 ?_
  refine zr_if_ne (x := n) (tgt := 11) hx hb (⟨by omega, by omega⟩) dX7_leastNextFrom_4 (by decide) (fun h_1 => ?_) (fun h_1 => ?_)
  ·
    refine lv_aload_n hx hb dX7_leastNextFrom_11 rfl (lv_at hl 0 rfl) ?_
    refine va_get (D := G.1) (ci := 8) (v := .ref fm) (C := RX7) (T := TX7) (N := 3) hx hb hts iwX7 hown hK hP 0 rfl rfl 0 (by decide) (hts (.fieldLink RX7 9 "AnnuityHouse$Taxes" "froms" "[J") (by decide +kernel)) (fun _ h9 => h9) rfl dX7_leastNextFrom_12 ?_
    refine lv_aload_n hx hb dX7_leastNextFrom_15 rfl (lv_at hl 0 rfl) ?_
    refine va_get (D := G.1) (ci := 8) (v := .int (iz (n))) (C := RX7) (T := TX7) (N := 3) hx hb hts iwX7 hown hK hP 0 rfl rfl 2 (by decide) (hts (.fieldLink RX7 19 "AnnuityHouse$Taxes" "steps" "I") (by decide +kernel)) (fun _ h9 => h9) rfl dX7_leastNextFrom_16 ?_
    refine lv_iconst (v := iz (1)) hx hb dX7_leastNextFrom_19 rfl ?_
    refine zr_isub hx hb dX7_leastNextFrom_20 ?_
    refine zr_lald hx hb hK hP 1 0 rfl rfl (i := n - 1) (⟨by omega, by omega, by omega⟩) dX7_leastNextFrom_21 ?_
    refine lv_lconst (v := lz (1)) hx hb dX7_leastNextFrom_22 rfl ?_
    refine zr_ladd hx hb dX7_leastNextFrom_23 ?_
    rw [hQ]
    exact zr_lret (z := (f (n - 1)) + 1) (u := ()) hx hb hr hlocks hP hD hS (by first | exact Nat.le_of_ble_eq_true rfl | omega) (by first | exact Nat.le_of_ble_eq_true rfl | omega) dX7_leastNextFrom_24 (show ((f (n - 1)) + 1) = if n = 0 then 0 else f (n - 1) + 1 from by first | exact (if_pos (by omega)).symm | exact (if_neg (by omega)).symm)
  ·
    refine lv_lconst (v := lz (0)) hx hb dX7_leastNextFrom_7 rfl ?_
    refine lv_goto (tgt := 24) hx hb dX7_leastNextFrom_8 (by decide) ?_
    rw [hQ]
    exact zr_lret (z := 0) (u := ()) hx hb hr hlocks hP hD hS (by first | exact Nat.le_of_ble_eq_true rfl | omega) (by first | exact Nat.le_of_ble_eq_true rfl | omega) dX7_leastNextFrom_24 (show 0 = if n = 0 then 0 else f (n - 1) + 1 from by first | exact (if_pos (by omega)).symm | exact (if_neg (by omega)).symm)

def rm_c_X7_add : Room := { frames := 0, cells := 0, slots := 0, locals := 0 }
theorem iw_X7_add_X7 : ∀ w ∈ wsX70, w ∈ wsX7_add := by decide +kernel
set_option maxHeartbeats 1000000 in
set_option maxRecDepth 100000 in
theorem c_X7_add (l : Launch) (G : zG) (y : Nat) (fm : Nat) (pm : Nat) (f : Int → Int) (g : Int → Int) (n : Int) (x : Int) (w : Int) (h1 : 0 ≤ n ∧ n ≤ 7) : zM l G yX7_add wsX7_add rm_c_X7_add [.ref y, .long (lz (x)), .int (iz (w))] [(y, .inr (8, [.ref fm, .ref pm, .int (iz (n))])), (fm, zaL (G.2 0) 8 (f)), (pm, zaI (G.2 1) 8 (g))] (fun A => zQi G (fun (z : Int) (_ : Unit) => z = n + 1) (fun (_ : Unit) => [(y, .inr (8, [.ref fm, .ref pm, .int (iz (n + 1))])), (fm, zaL (G.2 0) 8 (zup f n x)), (pm, zaI (G.2 1) 8 (zup g n w))]) A) 0 0 := by
  refine zM_of (cc := cX7_add) (maxL := 4) (ret := (some .int)) (by decide) rfl (Nat.le_of_ble_eq_true rfl) ?_
  intro p e s m below meth c ls A Q hQ hx hb hr hts hown hlocks hml hnm hKX hP hD hA hS hl
  have hK := hKX.1
  have iwX7 := iw_X7_add_X7
  obtain ⟨H, hH⟩ : ∃ h, h = s.heap := ⟨_, rfl⟩
  obtain ⟨locs, hlo⟩ : ∃ h : List Loc, h = [] := ⟨_, rfl⟩
  have hS : va_S A s.heap H locs := by rw [hH, hlo]; exact hS
  have hP : va_P G.1 vwCl [(y, .inr (8, [.ref fm, .ref pm, .int (iz (n))])), (fm, zaL (G.2 0) 8 (f)), (pm, zaI (G.2 1) 8 (g))] H := by rw [hH]; exact hP
  have hD : va_D A [(y, .inr (8, [.ref fm, .ref pm, .int (iz (n))])), (fm, zaL (G.2 0) 8 (f)), (pm, zaI (G.2 1) 8 (g))] := hD
  have hl : lv_has ls 4 [(0, .ref y), (1, .long (lz (x))), (3, .int (iz (w)))] := hl
  rw [← hH, ← hlo]
  refine lv_aload_n hx hb dX7_add_0 rfl (lv_at hl 0 rfl) ?_
  refine va_get (D := G.1) (ci := 8) (v := .ref fm) (C := RX7) (T := TX7) (N := 3) hx hb hts iwX7 hown hK hP 0 rfl rfl 0 (by decide) (hts (.fieldLink RX7 9 "AnnuityHouse$Taxes" "froms" "[J") (by decide +kernel)) (fun _ h9 => h9) rfl dX7_add_1 ?_
  refine lv_aload_n hx hb dX7_add_4 rfl (lv_at hl 0 rfl) ?_
  refine va_get (D := G.1) (ci := 8) (v := .int (iz (n))) (C := RX7) (T := TX7) (N := 3) hx hb hts iwX7 hown hK hP 0 rfl rfl 2 (by decide) (hts (.fieldLink RX7 19 "AnnuityHouse$Taxes" "steps" "I") (by decide +kernel)) (fun _ h9 => h9) rfl dX7_add_5 ?_
  refine lv_lload_n hx hb dX7_add_8 rfl (lv_at hl 1 rfl) ?_
  refine zr_last hx hb hK hP hD hS 1 0 rfl rfl (i := n) (x := x) (⟨by omega, by omega, by omega⟩) dX7_add_9 (fun H locs hP hD hS => ?_)
  have hP : va_P G.1 vwCl [(y, .inr (8, [.ref fm, .ref pm, .int (iz (n))])), (fm, zaL (G.2 0) 8 (zup f n x)), (pm, zaI (G.2 1) 8 (g))] H := hP
  have hD : va_D A [(y, .inr (8, [.ref fm, .ref pm, .int (iz (n))])), (fm, zaL (G.2 0) 8 (zup f n x)), (pm, zaI (G.2 1) 8 (g))] := hD
  refine lv_aload_n hx hb dX7_add_10 rfl (lv_at hl 0 rfl) ?_
  refine va_get (D := G.1) (ci := 8) (v := .ref pm) (C := RX7) (T := TX7) (N := 3) hx hb hts iwX7 hown hK hP 0 rfl rfl 1 (by decide) (hts (.fieldLink RX7 15 "AnnuityHouse$Taxes" "permilles" "[I") (by decide +kernel)) (fun _ h9 => h9) rfl dX7_add_11 ?_
  refine lv_aload_n hx hb dX7_add_14 rfl (lv_at hl 0 rfl) ?_
  refine va_get (D := G.1) (ci := 8) (v := .int (iz (n))) (C := RX7) (T := TX7) (N := 3) hx hb hts iwX7 hown hK hP 0 rfl rfl 2 (by decide) (hts (.fieldLink RX7 19 "AnnuityHouse$Taxes" "steps" "I") (by decide +kernel)) (fun _ h9 => h9) rfl dX7_add_15 ?_
  refine lv_iload_n hx hb dX7_add_18 rfl (lv_at hl 2 rfl) ?_
  refine zr_iast hx hb hK hP hD hS 2 1 rfl rfl (i := n) (x := w) (⟨by omega, by omega, by omega⟩) dX7_add_19 (fun H locs hP hD hS => ?_)
  have hP : va_P G.1 vwCl [(y, .inr (8, [.ref fm, .ref pm, .int (iz (n))])), (fm, zaL (G.2 0) 8 (zup f n x)), (pm, zaI (G.2 1) 8 (zup g n w))] H := hP
  have hD : va_D A [(y, .inr (8, [.ref fm, .ref pm, .int (iz (n))])), (fm, zaL (G.2 0) 8 (zup f n x)), (pm, zaI (G.2 1) 8 (zup g n w))] := hD
  refine lv_aload_n hx hb dX7_add_20 rfl (lv_at hl 0 rfl) ?_
  refine lv_dup hx hb dX7_add_21 rfl ?_
  refine va_get (D := G.1) (ci := 8) (v := .int (iz (n))) (C := RX7) (T := TX7) (N := 3) hx hb hts iwX7 hown hK hP 0 rfl rfl 2 (by decide) (hts (.fieldLink RX7 19 "AnnuityHouse$Taxes" "steps" "I") (by decide +kernel)) (fun _ h9 => h9) rfl dX7_add_22 ?_
  refine lv_iconst (v := iz (1)) hx hb dX7_add_25 rfl ?_
  refine zr_iadd hx hb dX7_add_26 ?_
  refine va_put (D := G.1) (ci := 8) (v := .int (iz (n + 1))) (ty := .int) (C := RX7) (T := TX7) (N := 3) hx hb hts iwX7 tyX7 tyX7_ok nmX7 hown hK hP hD hS 0 rfl rfl 2 (by decide) (hts (.fieldLink RX7 19 "AnnuityHouse$Taxes" "steps" "I") (by decide +kernel)) (fun _ h9 => h9) rfl (by decide +kernel) rfl rfl (Nat.le_of_ble_eq_true rfl) dX7_add_27 (fun H locs hP hD hS => ?_)
  have hP : va_P G.1 vwCl [(y, .inr (8, [.ref fm, .ref pm, .int (iz (n + 1))])), (fm, zaL (G.2 0) 8 (zup f n x)), (pm, zaI (G.2 1) 8 (zup g n w))] H := hP
  have hD : va_D A [(y, .inr (8, [.ref fm, .ref pm, .int (iz (n + 1))])), (fm, zaL (G.2 0) 8 (zup f n x)), (pm, zaI (G.2 1) 8 (zup g n w))] := hD
  refine lv_aload_n hx hb dX7_add_30 rfl (lv_at hl 0 rfl) ?_
  refine va_get (D := G.1) (ci := 8) (v := .int (iz (n + 1))) (C := RX7) (T := TX7) (N := 3) hx hb hts iwX7 hown hK hP 0 rfl rfl 2 (by decide) (hts (.fieldLink RX7 19 "AnnuityHouse$Taxes" "steps" "I") (by decide +kernel)) (fun _ h9 => h9) rfl dX7_add_31 ?_
  rw [hQ]
  exact zr_iret (z := n + 1) (u := ()) hx hb hr hlocks hP hD hS (by first | exact Nat.le_of_ble_eq_true rfl | omega) (by first | exact Nat.le_of_ble_eq_true rfl | omega) dX7_add_34 (show (n + 1) = n + 1 from rfl)

def rm_c_X7_clear : Room := { frames := 0, cells := 0, slots := 0, locals := 0 }
theorem iw_X7_clear_X7 : ∀ w ∈ wsX70, w ∈ wsX7_clear := by decide +kernel
set_option maxHeartbeats 1000000 in
set_option maxRecDepth 100000 in
theorem c_X7_clear (l : Launch) (G : zG) (y : Nat) (fm : Nat) (pm : Nat) (n : Int)  : zM l G yX7_clear wsX7_clear rm_c_X7_clear [.ref y] [(y, .inr (8, [.ref fm, .ref pm, .int (iz (n))]))] (fun A => zQi G (fun (z : Int) (_ : Unit) => z = n) (fun (_ : Unit) => [(y, .inr (8, [.ref fm, .ref pm, .int (iz (0))]))]) A) 0 0 := by
  refine zM_of (cc := cX7_clear) (maxL := 2) (ret := (some .int)) (by decide) rfl (Nat.le_of_ble_eq_true rfl) ?_
  intro p e s m below meth c ls A Q hQ hx hb hr hts hown hlocks hml hnm hKX hP hD hA hS hl
  have hK := hKX.1
  have iwX7 := iw_X7_clear_X7
  obtain ⟨H, hH⟩ : ∃ h, h = s.heap := ⟨_, rfl⟩
  obtain ⟨locs, hlo⟩ : ∃ h : List Loc, h = [] := ⟨_, rfl⟩
  have hS : va_S A s.heap H locs := by rw [hH, hlo]; exact hS
  have hP : va_P G.1 vwCl [(y, .inr (8, [.ref fm, .ref pm, .int (iz (n))]))] H := by rw [hH]; exact hP
  have hD : va_D A [(y, .inr (8, [.ref fm, .ref pm, .int (iz (n))]))] := hD
  have hl : lv_has ls 2 [(0, .ref y)] := hl
  rw [← hH, ← hlo]
  refine lv_aload_n hx hb dX7_clear_0 rfl (lv_at hl 0 rfl) ?_
  refine va_get (D := G.1) (ci := 8) (v := .int (iz (n))) (C := RX7) (T := TX7) (N := 3) hx hb hts iwX7 hown hK hP 0 rfl rfl 2 (by decide) (hts (.fieldLink RX7 19 "AnnuityHouse$Taxes" "steps" "I") (by decide +kernel)) (fun _ h9 => h9) rfl dX7_clear_1 ?_
  refine lv_istore_n (lv' := [(1, .int (iz (n))), (0, .ref y)]) hx hb dX7_clear_4 rfl hl (by decide) rfl (fun ls hl => ?_)
  refine lv_aload_n hx hb dX7_clear_5 rfl (lv_at hl 1 rfl) ?_
  refine lv_iconst (v := iz (0)) hx hb dX7_clear_6 rfl ?_
  refine va_put (D := G.1) (ci := 8) (v := .int (iz (0))) (ty := .int) (C := RX7) (T := TX7) (N := 3) hx hb hts iwX7 tyX7 tyX7_ok nmX7 hown hK hP hD hS 0 rfl rfl 2 (by decide) (hts (.fieldLink RX7 19 "AnnuityHouse$Taxes" "steps" "I") (by decide +kernel)) (fun _ h9 => h9) rfl (by decide +kernel) rfl rfl (Nat.le_of_ble_eq_true rfl) dX7_clear_7 (fun H locs hP hD hS => ?_)
  have hP : va_P G.1 vwCl [(y, .inr (8, [.ref fm, .ref pm, .int (iz (0))]))] H := hP
  have hD : va_D A [(y, .inr (8, [.ref fm, .ref pm, .int (iz (0))]))] := hD
  refine lv_iload_n hx hb dX7_clear_10 rfl (lv_at hl 0 rfl) ?_
  rw [hQ]
  exact zr_iret (z := n) (u := ()) hx hb hr hlocks hP hD hS (by first | exact Nat.le_of_ble_eq_true rfl | omega) (by first | exact Nat.le_of_ble_eq_true rfl | omega) dX7_clear_11 (show n = n from rfl)

def rm_c_X7_thousandfoldOf : Room := { frames := 1, cells := 0, slots := 0, locals := 23 }
theorem iw_X7_thousandfoldOf_X7 : ∀ w ∈ wsX70, w ∈ wsX7_thousandfoldOf := by decide +kernel
set_option maxHeartbeats 1000000 in
set_option maxRecDepth 100000 in
theorem c_X7_thousandfoldOf (l : Launch) (G : zG) (y : Nat) (fm : Nat) (pm : Nat) (f : Int → Int) (g : Int → Int) (n : Int) (mo : Int) (hs : zstp f g n) (h1 : 0 ≤ mo ∧ mo ≤ 1000000000000) : zM l G yX7_thousandfoldOf wsX7_thousandfoldOf rm_c_X7_thousandfoldOf [.ref y, .long (lz (mo))] [(y, .inr (8, [.ref fm, .ref pm, .int (iz (n))])), (fm, zaL (G.2 0) 8 (f)), (pm, zaI (G.2 1) 8 (g))] (fun A => zQl G (fun (z : Int) (_ : Unit) => z = zth f g n mo) (fun (_ : Unit) => [(y, .inr (8, [.ref fm, .ref pm, .int (iz (n))])), (fm, zaL (G.2 0) 8 (f)), (pm, zaI (G.2 1) 8 (g))]) A) 0 0 := by
  refine zM_of (cc := cX7_thousandfoldOf) (maxL := 8) (ret := (some .long)) (by decide) rfl (Nat.le_of_ble_eq_true rfl) ?_
  intro p e s m below meth c ls A Q hQ hx hb hr hts hown hlocks hml hnm hKX hP hD hA hS hl
  have hK := hKX.1
  have iwX7 := iw_X7_thousandfoldOf_X7
  obtain ⟨H, hH⟩ : ∃ h, h = s.heap := ⟨_, rfl⟩
  obtain ⟨locs, hlo⟩ : ∃ h : List Loc, h = [] := ⟨_, rfl⟩
  have hS : va_S A s.heap H locs := by rw [hH, hlo]; exact hS
  have hP : va_P G.1 vwCl [(y, .inr (8, [.ref fm, .ref pm, .int (iz (n))])), (fm, zaL (G.2 0) 8 (f)), (pm, zaI (G.2 1) 8 (g))] H := by rw [hH]; exact hP
  have hD : va_D A [(y, .inr (8, [.ref fm, .ref pm, .int (iz (n))])), (fm, zaL (G.2 0) 8 (f)), (pm, zaI (G.2 1) 8 (g))] := hD
  have hl : lv_has ls 8 [(0, .ref y), (1, .long (lz (mo)))] := hl
  rw [← hH, ← hlo]
  have hs1 := hs.1
  refine lv_lconst (v := lz (0)) hx hb dX7_thousandfoldOf_0 rfl ?_
  refine lv_lstore_n (lv' := [(3, .long (lz (0))), (0, .ref y), (1, .long (lz (mo)))]) hx hb dX7_thousandfoldOf_1 rfl hl (by decide) rfl (fun ls hl => ?_)
  refine lv_iconst (v := iz (0)) hx hb dX7_thousandfoldOf_2 rfl ?_
  refine lv_istore (lv' := [(5, .int (iz (0))), (3, .long (lz (0))), (0, .ref y), (1, .long (lz (mo)))]) hx hb dX7_thousandfoldOf_3 hl (by decide) rfl (fun ls hl => ?_)
  have hl_5 : ∀ (zn_5 : Nat) (i : Int) (w : Int) (H : Heap) (locs : List Loc) (ls : Array Slot), (n - i).toNat < zn_5 → (0 ≤ i ∧ i ≤ n) → (w = zsm (zth1 f g n mo) i.toNat) → (0 ≤ w ∧ w ≤ 1000000000000000 * i) → va_P G.1 vwCl [(y, .inr (8, [.ref fm, .ref pm, .int (iz (n))])), (fm, zaL (G.2 0) 8 (f)), (pm, zaI (G.2 1) 8 (g))] H → va_D A [(y, .inr (8, [.ref fm, .ref pm, .int (iz (n))])), (fm, zaL (G.2 0) 8 (f)), (pm, zaI (G.2 1) 8 (g))] → va_S A s.heap H locs → lv_has ls 8 [(5, .int (iz (i))), (3, .long (lz (w))), (0, .ref y), (1, .long (lz (mo)))] → W p l e rm_c_X7_thousandfoldOf s m ([.ref y, .long (lz (mo))] : List Value).toArray below meth c H locs 0 0 Q (F0 m 5 ls []) := by
    intro zn_5
    induction zn_5 with
    | zero => intro i w H locs ls hm; exact absurd hm (Nat.not_lt_zero _)
    | succ zn_5 ih_5 =>
      intro i w H locs ls hm_5 k1 k2 k3 hP hD hS hl
      refine lv_iload hx hb dX7_thousandfoldOf_5 (lv_at hl 0 rfl) ?_
      refine lv_aload_n hx hb dX7_thousandfoldOf_7 rfl (lv_at hl 2 rfl) ?_
      refine va_get (D := G.1) (ci := 8) (v := .int (iz (n))) (C := RX7) (T := TX7) (N := 3) hx hb hts iwX7 hown hK hP 0 rfl rfl 2 (by decide) (hts (.fieldLink RX7 19 "AnnuityHouse$Taxes" "steps" "I") (by decide +kernel)) (fun _ h9 => h9) rfl dX7_thousandfoldOf_8 ?_
      refine zr_icmp_ge (x := i) (y := n) (tgt := 76) hx hb (⟨by omega, by omega⟩) (⟨by omega, by omega⟩) dX7_thousandfoldOf_11 (by decide) (fun h_1 => ?_) (fun h_1 => ?_)
      ·
        refine lv_lload_n hx hb dX7_thousandfoldOf_76 rfl (lv_at hl 1 rfl) ?_
        rw [hQ]
        exact zr_lret (z := w) (u := ()) hx hb hr hlocks hP hD hS (by first | exact Nat.le_of_ble_eq_true rfl | omega) (by first | exact Nat.le_of_ble_eq_true rfl | omega) dX7_thousandfoldOf_77 (show w = zth f g n mo from by unfold zth; rw [k2, show i = n by omega])
      ·
        have hl_42 : ∀ (en : Int) (H : Heap) (locs : List Loc) (ls : Array Slot), (en = if i + 1 < n then min mo (f (i + 1)) else mo) → va_P G.1 vwCl [(y, .inr (8, [.ref fm, .ref pm, .int (iz (n))])), (fm, zaL (G.2 0) 8 (f)), (pm, zaI (G.2 1) 8 (g))] H → va_D A [(y, .inr (8, [.ref fm, .ref pm, .int (iz (n))])), (fm, zaL (G.2 0) 8 (f)), (pm, zaI (G.2 1) 8 (g))] → va_S A s.heap H locs → lv_has ls 8 [(5, .int (iz (i))), (3, .long (lz (w))), (0, .ref y), (1, .long (lz (mo)))] → W p l e rm_c_X7_thousandfoldOf s m ([.ref y, .long (lz (mo))] : List Value).toArray below meth c H locs 0 0 Q (F0 m 42 ls [.long (lz (en))]) := by
          intro en H locs ls jv hP hD hS hl
          have hti := zth1_b hs h1 (i := i) ⟨k1.1, by omega⟩
          have hfi := hs.2 i (by omega) (by omega)
          refine lv_lstore (lv' := [(6, .long (lz (en))), (5, .int (iz (i))), (3, .long (lz (w))), (0, .ref y), (1, .long (lz (mo)))]) hx hb dX7_thousandfoldOf_42 hl (by decide) rfl (fun ls hl => ?_)
          have henb : -1 ≤ en ∧ en ≤ 1000000000000 := by rw [jv]; by_cases c : i + 1 < n; (rw [if_pos c]; have hfj := hs.2 (i + 1) (by omega) c; omega); (rw [if_neg c]; omega)
          refine lv_lload_n hx hb dX7_thousandfoldOf_44 rfl (lv_at hl 2 rfl) ?_
          refine lv_lconst (v := lz (0)) hx hb dX7_thousandfoldOf_45 rfl ?_
          refine lv_lload hx hb dX7_thousandfoldOf_46 (lv_at hl 0 rfl) ?_
          refine lv_aload_n hx hb dX7_thousandfoldOf_48 rfl (lv_at hl 3 rfl) ?_
          refine va_get (D := G.1) (ci := 8) (v := .ref fm) (C := RX7) (T := TX7) (N := 3) hx hb hts iwX7 hown hK hP 0 rfl rfl 0 (by decide) (hts (.fieldLink RX7 9 "AnnuityHouse$Taxes" "froms" "[J") (by decide +kernel)) (fun _ h9 => h9) rfl dX7_thousandfoldOf_49 ?_
          refine lv_iload hx hb dX7_thousandfoldOf_52 (lv_at hl 1 rfl) ?_
          refine zr_lald hx hb hK hP 1 0 rfl rfl (i := i) (⟨by omega, by omega, by omega⟩) dX7_thousandfoldOf_54 ?_
          refine zr_lsub hx hb dX7_thousandfoldOf_55 ?_
          refine zr_mmaxL (x := 0) (y := en - (f i)) hx hb (hml.trans hl.1.symm) hown (hts (.methodLink RX7 29 Lib.MathLoose.max_long.x) (by decide +kernel)) (hts (.static Lib.MathLoose.max_long.x) (by decide +kernel)) (hts (.initialized "java/lang/Math") (by decide +kernel)) (hts (.code Lib.MathLoose.max_long.x Lib.MathLoose.max_long.code 4 (some .long)) (by decide +kernel)) (Nat.le_of_ble_eq_true rfl) (Nat.le_of_ble_eq_true rfl) (by first | exact Nat.le_of_ble_eq_true rfl | (show _ ≤ (0 : Nat); omega)) (by first | exact Nat.le_of_ble_eq_true rfl | (show _ ≤ (0 : Nat); omega)) (⟨by omega, by omega⟩) (⟨by omega, by omega⟩) dX7_thousandfoldOf_56 ?_
          refine lv_aload_n hx hb dX7_thousandfoldOf_59 rfl (lv_at hl 3 rfl) ?_
          refine va_get (D := G.1) (ci := 8) (v := .ref pm) (C := RX7) (T := TX7) (N := 3) hx hb hts iwX7 hown hK hP 0 rfl rfl 1 (by decide) (hts (.fieldLink RX7 15 "AnnuityHouse$Taxes" "permilles" "[I") (by decide +kernel)) (fun _ h9 => h9) rfl dX7_thousandfoldOf_60 ?_
          refine lv_iload hx hb dX7_thousandfoldOf_63 (lv_at hl 1 rfl) ?_
          refine zr_iald hx hb hK hP 2 1 rfl rfl (i := i) (⟨by omega, by omega, by omega⟩) dX7_thousandfoldOf_65 ?_
          refine zr_i2l hx hb (x := g i) (⟨by omega, by omega⟩) dX7_thousandfoldOf_66 ?_
          refine zr_lmul hx hb dX7_thousandfoldOf_67 ?_
          refine zr_ladd hx hb dX7_thousandfoldOf_68 ?_
          refine lv_lstore_n (lv' := [(3, .long (lz (w + ((max 0 (en - (f i))) * (g i))))), (6, .long (lz (en))), (5, .int (iz (i))), (0, .ref y), (1, .long (lz (mo)))]) hx hb dX7_thousandfoldOf_69 rfl hl (by decide) rfl (fun ls hl => ?_)
          refine lv_iinc (v := iz (i + 1)) (lv' := [(5, .int (iz (i + 1))), (3, .long (lz (w + ((max 0 (en - (f i))) * (g i))))), (6, .long (lz (en))), (0, .ref y), (1, .long (lz (mo)))]) hx hb dX7_thousandfoldOf_70 hl (k := 2) rfl (by rw [show Int32.ofInt (1) = iz (1) from rfl, iz_add]) (by decide) rfl (fun ls hl => ?_)
          refine lv_goto (tgt := 5) hx hb dX7_thousandfoldOf_73 (by decide) ?_
          exact ih_5 (i + 1) (w + ((max 0 (en - (f i))) * (g i))) _ _ _ (by omega) (by omega) (zsm_i' k1.1 k2 (by rw [jv]; rfl)) (by rw [zth1_e jv]; omega) (hP) (hD) hS (lv_sub hl [0, 1, 3, 4] rfl)
        have hfi := hs.2 i (by omega) (by omega)
        refine lv_iload hx hb dX7_thousandfoldOf_14 (lv_at hl 0 rfl) ?_
        refine lv_iconst (v := iz (1)) hx hb dX7_thousandfoldOf_16 rfl ?_
        refine zr_iadd hx hb dX7_thousandfoldOf_17 ?_
        refine lv_aload_n hx hb dX7_thousandfoldOf_18 rfl (lv_at hl 2 rfl) ?_
        refine va_get (D := G.1) (ci := 8) (v := .int (iz (n))) (C := RX7) (T := TX7) (N := 3) hx hb hts iwX7 hown hK hP 0 rfl rfl 2 (by decide) (hts (.fieldLink RX7 19 "AnnuityHouse$Taxes" "steps" "I") (by decide +kernel)) (fun _ h9 => h9) rfl dX7_thousandfoldOf_19 ?_
        refine zr_icmp_ge (x := i + 1) (y := n) (tgt := 41) hx hb (⟨by omega, by omega⟩) (⟨by omega, by omega⟩) dX7_thousandfoldOf_22 (by decide) (fun h_2 => ?_) (fun h_2 => ?_)
        ·
          refine lv_lload_n hx hb dX7_thousandfoldOf_41 rfl (lv_at hl 3 rfl) ?_
          exact hl_42 mo _ _ _ (by first | exact (if_pos (by omega)).symm | exact (if_neg (by omega)).symm) (hP) (hD) hS (hl)
        ·
          have hfj := hs.2 (i + 1) (by omega) (by omega)
          refine lv_lload_n hx hb dX7_thousandfoldOf_25 rfl (lv_at hl 3 rfl) ?_
          refine lv_aload_n hx hb dX7_thousandfoldOf_26 rfl (lv_at hl 2 rfl) ?_
          refine va_get (D := G.1) (ci := 8) (v := .ref fm) (C := RX7) (T := TX7) (N := 3) hx hb hts iwX7 hown hK hP 0 rfl rfl 0 (by decide) (hts (.fieldLink RX7 9 "AnnuityHouse$Taxes" "froms" "[J") (by decide +kernel)) (fun _ h9 => h9) rfl dX7_thousandfoldOf_27 ?_
          refine lv_iload hx hb dX7_thousandfoldOf_30 (lv_at hl 0 rfl) ?_
          refine lv_iconst (v := iz (1)) hx hb dX7_thousandfoldOf_32 rfl ?_
          refine zr_iadd hx hb dX7_thousandfoldOf_33 ?_
          refine zr_lald hx hb hK hP 1 0 rfl rfl (i := i + 1) (⟨by omega, by omega, by omega⟩) dX7_thousandfoldOf_34 ?_
          refine zr_mminL (x := mo) (y := f (i + 1)) hx hb (hml.trans hl.1.symm) hown (hts (.methodLink RX7 23 Lib.MathLoose.min_long.x) (by decide +kernel)) (hts (.static Lib.MathLoose.min_long.x) (by decide +kernel)) (hts (.initialized "java/lang/Math") (by decide +kernel)) (hts (.code Lib.MathLoose.min_long.x Lib.MathLoose.min_long.code 4 (some .long)) (by decide +kernel)) (Nat.le_of_ble_eq_true rfl) (Nat.le_of_ble_eq_true rfl) (by first | exact Nat.le_of_ble_eq_true rfl | (show _ ≤ (0 : Nat); omega)) (by first | exact Nat.le_of_ble_eq_true rfl | (show _ ≤ (0 : Nat); omega)) (⟨by omega, by omega⟩) (⟨by omega, by omega⟩) dX7_thousandfoldOf_35 ?_
          refine lv_goto (tgt := 42) hx hb dX7_thousandfoldOf_38 (by decide) ?_
          exact hl_42 (min mo (f (i + 1))) _ _ _ (by first | exact (if_pos (by omega)).symm | exact (if_neg (by omega)).symm) (hP) (hD) hS (hl)
  exact hl_5 ((n - 0 : Int).toNat + 1) 0 0 _ _ _ (Nat.lt_succ_self _) (by omega) (rfl) (by omega) (hP) (hD) hS (hl)

def rm_c_X7_isLeaving : Room := { frames := 2, cells := 0, slots := 0, locals := 50 }
set_option maxHeartbeats 1000000 in
set_option maxRecDepth 100000 in
theorem c_X7_isLeaving (l : Launch) (G : zG) (y : Nat) (fm : Nat) (pm : Nat) (f : Int → Int) (g : Int → Int) (n : Int) (wa : Int) (mo : Int) (hs : zstp f g n) (h1 : 0 ≤ wa ∧ wa ≤ 1000000000000) (h2 : 0 ≤ mo ∧ mo ≤ 1000000000) : zM l G yX7_isLeaving wsX7_isLeaving rm_c_X7_isLeaving [.ref y, .long (lz (wa)), .long (lz (mo))] [(y, .inr (8, [.ref fm, .ref pm, .int (iz (n))])), (fm, zaL (G.2 0) 8 (f)), (pm, zaI (G.2 1) 8 (g))] (fun A => zQz G (fun (z : Bool) (_ : Unit) => ((z = true ∧ zlv f g n wa mo) ∨ (z = false ∧ ¬ zlv f g n wa mo))) (fun (_ : Unit) => [(y, .inr (8, [.ref fm, .ref pm, .int (iz (n))])), (fm, zaL (G.2 0) 8 (f)), (pm, zaI (G.2 1) 8 (g))]) A) 0 0 := by
  refine zM_of (cc := cX7_isLeaving) (maxL := 5) (ret := (some .boolean)) (by decide) rfl (Nat.le_of_ble_eq_true rfl) ?_
  intro p e s m below meth c ls A Q hQ hx hb hr hts hown hlocks hml hnm hKX hP hD hA hS hl
  have hK := hKX.1
  obtain ⟨H, hH⟩ : ∃ h, h = s.heap := ⟨_, rfl⟩
  obtain ⟨locs, hlo⟩ : ∃ h : List Loc, h = [] := ⟨_, rfl⟩
  have hS : va_S A s.heap H locs := by rw [hH, hlo]; exact hS
  have hP : va_P G.1 vwCl [(y, .inr (8, [.ref fm, .ref pm, .int (iz (n))])), (fm, zaL (G.2 0) 8 (f)), (pm, zaI (G.2 1) 8 (g))] H := by rw [hH]; exact hP
  have hD : va_D A [(y, .inr (8, [.ref fm, .ref pm, .int (iz (n))])), (fm, zaL (G.2 0) 8 (f)), (pm, zaI (G.2 1) 8 (g))] := hD
  have hl : lv_has ls 5 [(0, .ref y), (1, .long (lz (wa))), (3, .long (lz (mo)))] := hl
  rw [← hH, ← hlo]
  refine lv_lload_n hx hb dX7_isLeaving_0 rfl (lv_at hl 1 rfl) ?_
  refine zr_ldc2 (z := 1000) hx hb hown (hts (.constantLong RX7 43 (1000)) (by decide +kernel)) rfl dX7_isLeaving_1 ?_
  refine zr_lmul hx hb dX7_isLeaving_4 ?_
  refine lv_aload_n hx hb dX7_isLeaving_5 rfl (lv_at hl 0 rfl) ?_
  refine lv_lload_n hx hb dX7_isLeaving_6 rfl (lv_at hl 1 rfl) ?_
  refine zc_l (wr := []) (va_runV (As := [.long (lz (wa))]) (rest := [.long (lz (wa * 1000))]) ⟨hx, hb, hml, hown, hts⟩ (c_X7_thousandfoldOf l G y fm pm f g n wa (by omega) (by omega) H.size) (cwV 1 hts gX7_isLeaving_X7_thousandfoldOf rfl rfl rfl (by decide +kernel) ⟨Nat.le_of_ble_eq_true rfl, Nat.le_of_ble_eq_true rfl⟩) (zpV hKX hP hD [0, 1, 2] rfl rfl 0 8 rfl rfl) rfl rfl hl.1 rfl (lv_room (Nat.le_of_ble_eq_true rfl)) dX7_isLeaving_7 ⟨(by first | exact Nat.le_of_ble_eq_true rfl | (show _ ≤ (0 : Nat); omega)), (by first | exact Nat.le_of_ble_eq_true rfl | (show _ ≤ (0 : Nat); omega))⟩) hP hD hS hA [0, 1, 2] [] rfl rfl rfl (by decide) (fun tf u_1 H locs htf hP hD hS => ?_)
  have hP : va_P G.1 vwCl [(y, .inr (8, [.ref fm, .ref pm, .int (iz (n))])), (fm, zaL (G.2 0) 8 (f)), (pm, zaI (G.2 1) 8 (g))] H := hP
  have hD : va_D A [(y, .inr (8, [.ref fm, .ref pm, .int (iz (n))])), (fm, zaL (G.2 0) 8 (f)), (pm, zaI (G.2 1) 8 (g))] := hD
  have htf : tf = zth f g n wa := htf
  have htb := zth_b hs h1
  rw [← htf] at htb
  refine zr_lsub hx hb dX7_isLeaving_10 ?_
  refine lv_lload_n hx hb dX7_isLeaving_11 rfl (lv_at hl 2 rfl) ?_
  refine zr_ldc2 (z := 1000) hx hb hown (hts (.constantLong RX7 43 (1000)) (by decide +kernel)) rfl dX7_isLeaving_12 ?_
  refine zr_lmul hx hb dX7_isLeaving_15 ?_
  refine zr_lcmp_lt (x := (wa * 1000) - tf) (y := mo * 1000) (tgt := 24) hx hb (⟨by omega, by omega⟩) (⟨by omega, by omega⟩) dX7_isLeaving_16 dX7_isLeaving_17 (by decide) (fun h_3 => ?_) (fun h_3 => ?_)
  ·
    refine lv_iconst (v := iz (0)) hx hb dX7_isLeaving_24 rfl ?_
    rw [hQ]
    exact zr_zret (z := false) (rfl) (u := ()) hx hb hr hlocks hP hD hS (by first | exact Nat.le_of_ble_eq_true rfl | omega) (by first | exact Nat.le_of_ble_eq_true rfl | omega) dX7_isLeaving_25 (show ((false = true ∧ zlv f g n wa mo) ∨ (false = false ∧ ¬ zlv f g n wa mo)) from by first | exact Or.inl ⟨rfl, by unfold zlv; omega⟩ | exact Or.inr ⟨rfl, by unfold zlv; omega⟩)
  ·
    refine lv_iconst (v := iz (1)) hx hb dX7_isLeaving_20 rfl ?_
    refine lv_goto (tgt := 25) hx hb dX7_isLeaving_21 (by decide) ?_
    rw [hQ]
    exact zr_zret (z := true) (rfl) (u := ()) hx hb hr hlocks hP hD hS (by first | exact Nat.le_of_ble_eq_true rfl | omega) (by first | exact Nat.le_of_ble_eq_true rfl | omega) dX7_isLeaving_25 (show ((true = true ∧ zlv f g n wa mo) ∨ (true = false ∧ ¬ zlv f g n wa mo)) from by first | exact Or.inl ⟨rfl, by unfold zlv; omega⟩ | exact Or.inr ⟨rfl, by unfold zlv; omega⟩)

def rm_c_X7_leastLeaving : Room := { frames := 3, cells := 0, slots := 0, locals := 74 }
set_option maxHeartbeats 1000000 in
set_option maxRecDepth 100000 in
theorem c_X7_leastLeaving (l : Launch) (G : zG) (y : Nat) (fm : Nat) (pm : Nat) (f : Int → Int) (g : Int → Int) (n : Int) (mo : Int) (hs : zstp f g n) (h1 : 0 ≤ mo ∧ mo ≤ 1000000000) : zM l G yX7_leastLeaving wsX7_leastLeaving rm_c_X7_leastLeaving [.ref y, .long (lz (mo))] [(y, .inr (8, [.ref fm, .ref pm, .int (iz (n))])), (fm, zaL (G.2 0) 8 (f)), (pm, zaI (G.2 1) 8 (g))] (fun A => zQl G (fun (z : Int) (_ : Unit) => ((z = -1 ∧ ¬ zlv f g n (1000000000000) mo) ∨ (0 ≤ z ∧ z ≤ 1000000000000 ∧ zlv f g n (z) mo ∧ (z = 0 ∨ ¬ zlv f g n (z - 1) mo)))) (fun (_ : Unit) => [(y, .inr (8, [.ref fm, .ref pm, .int (iz (n))])), (fm, zaL (G.2 0) 8 (f)), (pm, zaI (G.2 1) 8 (g))]) A) 0 0 := by
  refine zM_of (cc := cX7_leastLeaving) (maxL := 10) (ret := (some .long)) (by decide) rfl (Nat.le_of_ble_eq_true rfl) ?_
  intro p e s m below meth c ls A Q hQ hx hb hr hts hown hlocks hml hnm hKX hP hD hA hS hl
  have hK := hKX.1
  obtain ⟨H, hH⟩ : ∃ h, h = s.heap := ⟨_, rfl⟩
  obtain ⟨locs, hlo⟩ : ∃ h : List Loc, h = [] := ⟨_, rfl⟩
  have hS : va_S A s.heap H locs := by rw [hH, hlo]; exact hS
  have hP : va_P G.1 vwCl [(y, .inr (8, [.ref fm, .ref pm, .int (iz (n))])), (fm, zaL (G.2 0) 8 (f)), (pm, zaI (G.2 1) 8 (g))] H := by rw [hH]; exact hP
  have hD : va_D A [(y, .inr (8, [.ref fm, .ref pm, .int (iz (n))])), (fm, zaL (G.2 0) 8 (f)), (pm, zaI (G.2 1) 8 (g))] := hD
  have hl : lv_has ls 10 [(0, .ref y), (1, .long (lz (mo)))] := hl
  rw [← hH, ← hlo]
  refine lv_aload_n hx hb dX7_leastLeaving_0 rfl (lv_at hl 0 rfl) ?_
  refine zr_ldc2 (z := 1000000000000) hx hb hown (hts (.constantLong RX7 32 (1000000000000)) (by decide +kernel)) rfl dX7_leastLeaving_1 ?_
  refine lv_lload_n hx hb dX7_leastLeaving_4 rfl (lv_at hl 1 rfl) ?_
  refine zc_z (wr := []) (va_runV (As := [.long (lz (1000000000000)), .long (lz (mo))]) (rest := []) ⟨hx, hb, hml, hown, hts⟩ (c_X7_isLeaving l G y fm pm f g n 1000000000000 mo (by omega) (by omega) (by omega) H.size) (cwV 2 hts gX7_leastLeaving_X7_isLeaving rfl rfl rfl (by decide +kernel) ⟨Nat.le_of_ble_eq_true rfl, Nat.le_of_ble_eq_true rfl⟩) (zpV hKX hP hD [0, 1, 2] rfl rfl 0 8 rfl rfl) rfl rfl hl.1 rfl (lv_room (Nat.le_of_ble_eq_true rfl)) dX7_leastLeaving_5 ⟨(by first | exact Nat.le_of_ble_eq_true rfl | (show _ ≤ (0 : Nat); omega)), (by first | exact Nat.le_of_ble_eq_true rfl | (show _ ≤ (0 : Nat); omega))⟩) hP hD hS hA [0, 1, 2] [] rfl rfl rfl (by decide) (fun c1 u_1 H locs hc1 hP hD hS => ?_)
  have hP : va_P G.1 vwCl [(y, .inr (8, [.ref fm, .ref pm, .int (iz (n))])), (fm, zaL (G.2 0) 8 (f)), (pm, zaI (G.2 1) 8 (g))] H := hP
  have hD : va_D A [(y, .inr (8, [.ref fm, .ref pm, .int (iz (n))])), (fm, zaL (G.2 0) 8 (f)), (pm, zaI (G.2 1) 8 (g))] := hD
  have hc1 : ((c1 = true ∧ zlv f g n (1000000000000 : Int) mo) ∨ (c1 = false ∧ ¬ zlv f g n (1000000000000 : Int) mo)) := hc1
  refine zr_ifz_ne (tgt := 15) hx hb dX7_leastLeaving_8 (by decide) (fun h_3 => ?_) (fun h_3 => ?_)
  ·
    have hcc := zchp_t hc1 h_3
    refine lv_lconst (v := lz (0)) hx hb dX7_leastLeaving_15 rfl ?_
    refine lv_lstore_n (lv' := [(3, .long (lz (0))), (0, .ref y), (1, .long (lz (mo)))]) hx hb dX7_leastLeaving_16 rfl hl (by decide) rfl (fun ls hl => ?_)
    refine zr_ldc2 (z := 1000000000000) hx hb hown (hts (.constantLong RX7 32 (1000000000000)) (by decide +kernel)) rfl dX7_leastLeaving_17 ?_
    refine lv_lstore (lv' := [(5, .long (lz (1000000000000))), (3, .long (lz (0))), (0, .ref y), (1, .long (lz (mo)))]) hx hb dX7_leastLeaving_20 hl (by decide) rfl (fun ls hl => ?_)
    refine lv_iconst (v := iz (0)) hx hb dX7_leastLeaving_22 rfl ?_
    refine lv_istore (lv' := [(7, .int (iz (0))), (5, .long (lz (1000000000000))), (3, .long (lz (0))), (0, .ref y), (1, .long (lz (mo)))]) hx hb dX7_leastLeaving_23 hl (by decide) rfl (fun ls hl => ?_)
    have hl_25 : ∀ (zn_25 : Nat) (tn : Int) (lo : Int) (hi : Int) (d : Int) (H : Heap) (locs : List Loc) (ls : Array Slot), (41 - d).toNat < zn_25 → (0 ≤ lo ∧ lo ≤ hi ∧ hi ≤ 1000000000000) → (0 ≤ d ∧ d ≤ 41 ∧ tn = d) → (hi - lo ≤ 2 ^ (40 - d).toNat ∧ (d = 41 → hi - lo ≤ 0)) → (zlv f g n (hi) mo) → (lo = 0 ∨ ¬ zlv f g n (lo - 1) mo) → va_P G.1 vwCl [(y, .inr (8, [.ref fm, .ref pm, .int (iz (n))])), (fm, zaL (G.2 0) 8 (f)), (pm, zaI (G.2 1) 8 (g))] H → va_D A [(y, .inr (8, [.ref fm, .ref pm, .int (iz (n))])), (fm, zaL (G.2 0) 8 (f)), (pm, zaI (G.2 1) 8 (g))] → va_S A s.heap H locs → lv_has ls 10 [(7, .int (iz (tn))), (5, .long (lz (hi))), (3, .long (lz (lo))), (0, .ref y), (1, .long (lz (mo)))] → W p l e rm_c_X7_leastLeaving s m ([.ref y, .long (lz (mo))] : List Value).toArray below meth c H locs (0 + 0) (0 + 0) Q (F0 m 25 ls []) := by
      intro zn_25
      induction zn_25 with
      | zero => intro tn lo hi d H locs ls hm; exact absurd hm (Nat.not_lt_zero _)
      | succ zn_25 ih_25 =>
        intro tn lo hi d H locs ls hm_25 k1 k2 k3 k4 k5 hP hD hS hl
        refine lv_iload hx hb dX7_leastLeaving_25 (lv_at hl 0 rfl) ?_
        refine zr_ldc (z := 1000000) hx hb hown (hts (.constant RX7 40 (1000000)) (by decide +kernel)) rfl dX7_leastLeaving_27 ?_
        refine zr_icmp_ge (x := tn) (y := 1000000) (tgt := 77) hx hb (⟨by omega, by omega⟩) (⟨by omega, by omega⟩) dX7_leastLeaving_29 (by decide) (fun h_4 => ?_) (fun h_4 => ?_)
        · exact absurd h_4 (by omega)
        ·
          refine lv_lload_n hx hb dX7_leastLeaving_32 rfl (lv_at hl 2 rfl) ?_
          refine lv_lload hx hb dX7_leastLeaving_33 (lv_at hl 1 rfl) ?_
          refine zr_lcmp_ge (x := lo) (y := hi) (tgt := 77) hx hb (⟨by omega, by omega⟩) (⟨by omega, by omega⟩) dX7_leastLeaving_35 dX7_leastLeaving_36 (by decide) (fun h_5 => ?_) (fun h_5 => ?_)
          ·
            refine lv_lload_n hx hb dX7_leastLeaving_77 rfl (lv_at hl 2 rfl) ?_
            rw [hQ]
            exact zr_lret (z := lo) (u := ()) hx hb hr hlocks hP hD hS (by first | exact Nat.le_of_ble_eq_true rfl | omega) (by first | exact Nat.le_of_ble_eq_true rfl | omega) dX7_leastLeaving_78 (show ((lo = -1 ∧ ¬ zlv f g n (1000000000000) mo) ∨ (0 ≤ lo ∧ lo ≤ 1000000000000 ∧ zlv f g n (lo) mo ∧ (lo = 0 ∨ ¬ zlv f g n (lo - 1) mo))) from Or.inr ⟨by omega, by omega, by rw [show lo = hi by omega]; exact k4, k5⟩)
          ·
            refine lv_lload_n hx hb dX7_leastLeaving_39 rfl (lv_at hl 2 rfl) ?_
            refine lv_lload hx hb dX7_leastLeaving_40 (lv_at hl 1 rfl) ?_
            refine zr_ladd hx hb dX7_leastLeaving_42 ?_
            refine zr_ldc2 (z := 2) hx hb hown (hts (.constantLong RX7 41 (2)) (by decide +kernel)) rfl dX7_leastLeaving_43 ?_
            refine zr_ldiv hx hb (x := lo + hi) (y := 2) ⟨by omega, by omega⟩ ⟨by omega, by omega⟩ (by omega) (by omega) dX7_leastLeaving_46 ?_
            refine zr_namel (fun mid emid => ?_)
            refine lv_lstore (lv' := [(8, .long (lz (mid))), (7, .int (iz (tn))), (5, .long (lz (hi))), (3, .long (lz (lo))), (0, .ref y), (1, .long (lz (mo)))]) hx hb dX7_leastLeaving_47 hl (by decide) rfl (fun ls hl => ?_)
            refine lv_aload_n hx hb dX7_leastLeaving_49 rfl (lv_at hl 4 rfl) ?_
            refine lv_lload hx hb dX7_leastLeaving_50 (lv_at hl 0 rfl) ?_
            refine lv_lload_n hx hb dX7_leastLeaving_52 rfl (lv_at hl 5 rfl) ?_
            refine zc_z (wr := []) (va_runV (As := [.long (lz (mid)), .long (lz (mo))]) (rest := []) ⟨hx, hb, hml, hown, hts⟩ (c_X7_isLeaving l G y fm pm f g n mid mo (by omega) (by omega) (by omega) H.size) (cwV 2 hts gX7_leastLeaving_X7_isLeaving rfl rfl rfl (by decide +kernel) ⟨Nat.le_of_ble_eq_true rfl, Nat.le_of_ble_eq_true rfl⟩) (zpV hKX hP hD [0, 1, 2] rfl rfl 0 8 rfl rfl) rfl rfl hl.1 rfl (lv_room (Nat.le_of_ble_eq_true rfl)) dX7_leastLeaving_53 ⟨(by first | exact Nat.le_of_ble_eq_true rfl | (show _ ≤ (0 : Nat); omega)), (by first | exact Nat.le_of_ble_eq_true rfl | (show _ ≤ (0 : Nat); omega))⟩) hP hD hS hA [0, 1, 2] [] rfl rfl rfl (by decide) (fun c2 u_6 H locs hc2 hP hD hS => ?_)
            have hP : va_P G.1 vwCl [(y, .inr (8, [.ref fm, .ref pm, .int (iz (n))])), (fm, zaL (G.2 0) 8 (f)), (pm, zaI (G.2 1) 8 (g))] H := hP
            have hD : va_D A [(y, .inr (8, [.ref fm, .ref pm, .int (iz (n))])), (fm, zaL (G.2 0) 8 (f)), (pm, zaI (G.2 1) 8 (g))] := hD
            have hc2 : ((c2 = true ∧ zlv f g n mid mo) ∨ (c2 = false ∧ ¬ zlv f g n mid mo)) := hc2
            refine zr_ifz_eq (tgt := 66) hx hb dX7_leastLeaving_56 (by decide) (fun h_8 => ?_) (fun h_8 => ?_)
            ·
              have hm0 := zchp_f hc2 h_8
              refine lv_lload hx hb dX7_leastLeaving_66 (lv_at hl 0 rfl) ?_
              refine lv_lconst (v := lz (1)) hx hb dX7_leastLeaving_68 rfl ?_
              refine zr_ladd hx hb dX7_leastLeaving_69 ?_
              refine lv_lstore_n (lv' := [(3, .long (lz (mid + 1))), (8, .long (lz (mid))), (7, .int (iz (tn))), (5, .long (lz (hi))), (0, .ref y), (1, .long (lz (mo)))]) hx hb dX7_leastLeaving_70 rfl hl (by decide) rfl (fun ls hl => ?_)
              refine lv_iinc (v := iz (tn + 1)) (lv' := [(7, .int (iz (tn + 1))), (3, .long (lz (mid + 1))), (8, .long (lz (mid))), (5, .long (lz (hi))), (0, .ref y), (1, .long (lz (mo)))]) hx hb dX7_leastLeaving_71 hl (k := 2) rfl (by rw [show Int32.ofInt (1) = iz (1) from rfl, iz_add]) (by decide) rfl (fun ls hl => ?_)
              refine lv_goto (tgt := 25) hx hb dX7_leastLeaving_74 (by decide) ?_
              have hh := zhalf40 (x := hi - lo) (y := hi - (mid + 1)) k2.1 k2.2.1 k3 (by omega) (by omega)
              refine W.widen (k := 0 + 0) (n := 0 + 0) (by omega) (by omega) ?_
              exact ih_25 (tn + 1) (mid + 1) hi (d + 1) _ _ _ (by omega) (by omega) (by omega) (hh) (by first | exact hm1 | exact k4) (by first | exact Or.inr (by rw [show mid + 1 - 1 = mid by omega]; exact hm0) | exact k5) (hP) (hD) hS (lv_sub hl [0, 3, 1, 4, 5] rfl)
            ·
              have hm1 := zchp_t hc2 h_8
              refine lv_lload hx hb dX7_leastLeaving_59 (lv_at hl 0 rfl) ?_
              refine lv_lstore (lv' := [(5, .long (lz (mid))), (8, .long (lz (mid))), (7, .int (iz (tn))), (3, .long (lz (lo))), (0, .ref y), (1, .long (lz (mo)))]) hx hb dX7_leastLeaving_61 hl (by decide) rfl (fun ls hl => ?_)
              refine lv_goto (tgt := 71) hx hb dX7_leastLeaving_63 (by decide) ?_
              refine lv_iinc (v := iz (tn + 1)) (lv' := [(7, .int (iz (tn + 1))), (5, .long (lz (mid))), (8, .long (lz (mid))), (3, .long (lz (lo))), (0, .ref y), (1, .long (lz (mo)))]) hx hb dX7_leastLeaving_71 hl (k := 2) rfl (by rw [show Int32.ofInt (1) = iz (1) from rfl, iz_add]) (by decide) rfl (fun ls hl => ?_)
              refine lv_goto (tgt := 25) hx hb dX7_leastLeaving_74 (by decide) ?_
              have hh := zhalf40 (x := hi - lo) (y := mid - lo) k2.1 k2.2.1 k3 (by omega) (by omega)
              refine W.widen (k := 0 + 0) (n := 0 + 0) (by omega) (by omega) ?_
              exact ih_25 (tn + 1) lo mid (d + 1) _ _ _ (by omega) (by omega) (by omega) (hh) (by first | exact hm1 | exact k4) (by first | exact Or.inr (by rw [show mid + 1 - 1 = mid by omega]; exact hm0) | exact k5) (hP) (hD) hS (lv_sub hl [0, 1, 3, 4, 5] rfl)
    exact hl_25 ((41 - 0 : Int).toNat + 1) 0 0 1000000000000 0 _ _ _ (Nat.lt_succ_self _) (by omega) (by omega) (by decide) (hcc) (Or.inl rfl) (hP) (hD) hS (hl)
  ·
    have hcn := zchp_f hc1 h_3
    refine zr_ldc2 (z := -1) hx hb hown (hts (.constantLong RX7 38 (-1)) (by decide +kernel)) rfl dX7_leastLeaving_11 ?_
    rw [hQ]
    exact zr_lret (z := -1) (u := ()) hx hb hr hlocks hP hD hS (by first | exact Nat.le_of_ble_eq_true rfl | omega) (by first | exact Nat.le_of_ble_eq_true rfl | omega) dX7_leastLeaving_14 (show (((-1) = -1 ∧ ¬ zlv f g n (1000000000000) mo) ∨ (0 ≤ (-1) ∧ (-1) ≤ 1000000000000 ∧ zlv f g n ((-1)) mo ∧ ((-1) = 0 ∨ ¬ zlv f g n ((-1) - 1) mo))) from Or.inl ⟨rfl, hcn⟩)
